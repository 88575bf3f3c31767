noncomputable section
/-! both choose without knowing (class): no throw; what is answered is left open (written by wip/fx/u24.py) -/
theorem fx_lcx {X : Option (Nat × (Nat → Int32))} {mid pc : Nat} {loc : ik_L} {r : List Value} {h : List ik_E} {cl sl : Nat} {post : ik_St → Prop} {a b : Int} (hi : ik_at mid pc = some .lcmp) (K : ∀ z : Int, ((-1 : Int) ≤ z ∧ z ≤ (1 : Int)) → (z = 0 ∨ ¬ Int64.ofInt a = Int64.ofInt b) → ik_W X mid (pc + 1) loc (fI z :: r) h cl sl post) : ik_W X mid pc loc (fJ b :: fJ a :: r) h cl sl post := by
  refine fw_1 (st_q := .int (lg_cmp (Int64.ofInt a) (Int64.ofInt b)) :: r) hi rfl rfl rfl ?_
  have e0 : Int32.ofInt 0 = 0 := by decide
  have e1 : Int32.ofInt 1 = 1 := by decide
  have e2 : Int32.ofInt (-1) = -1 := by decide
  by_cases q : Int64.ofInt a = Int64.ofInt b
  · have k := K 0 (by decide +kernel) (Or.inl rfl)
    unfold fI at k
    rw [e0] at k
    rw [(lg_cmp_eq _ _).mpr q]
    exact k
  · by_cases w : Int64.ofInt a > Int64.ofInt b
    · have k := K 1 (by decide +kernel) (Or.inr q)
      unfold fI at k
      rw [e1] at k
      rw [show lg_cmp (Int64.ofInt a) (Int64.ofInt b) = 1 from if_pos w]
      exact k
    · have k := K (-1) (by decide +kernel) (Or.inr q)
      unfold fI at k
      rw [e2] at k
      rw [show lg_cmp (Int64.ofInt a) (Int64.ofInt b) = -1 from (if_neg w).trans (if_neg q)]
      exact k
theorem fx_ldo {X : Option (Nat × (Nat → Int32))} {mid pc : Nat} {loc : ik_L} {r : List Value} {h : List ik_E} {cl sl : Nat} {post : ik_St → Prop} {a b : Int} (hi : ik_at mid pc = some .ldiv) (hb : ¬ Int64.ofInt b = 0) (K : ∀ q : Int, ik_W X mid (pc + 1) loc (fJ q :: r) h cl sl post) : ik_W X mid pc loc (fJ b :: fJ a :: r) h cl sl post := by
  refine fw_1 (st_q := .long (Int64.ofInt a / Int64.ofInt b) :: r) hi rfl rfl (by simp only [ik_step, ik_bo]; rw [if_pos hb]) ?_
  have k := K (Int64.ofInt a / Int64.ofInt b).toInt
  unfold fJ at k
  rw [Int64.ofInt_toInt] at k
  exact k
theorem cj_bits {h : List ik_E} {v : Int}   (hl : h.length = (94 : Nat)) : ik_F 211 [fI v] h (fun rv h_q => ∃ (z : Int), rv = [fI z] ∧ ((-2147483648 : Int) ≤ z ∧ z < (2147483648 : Int)) ∧ hfr [] h h_q) := by
  obtain ⟨x, l, e⟩ : ∃ (x : Int32) (l : ik_L), ik_run 41 none 211 (0, [some (fI v)], [], h, 0, 0) = some (52, l, [.int x], h, 0, 0) := ⟨_, _, rfl⟩
  refine ik_Wk 41 e ?_
  refine ik_Wret rfl rfl ⟨_, _, rfl, rfl, rfl, rfl, x.toInt, ?_, ?_, hfr_refl _ _⟩
  · show [Value.int x] = [.int (Int32.ofInt x.toInt)]
    rw [Int32.ofInt_toInt]
  · have a := x.le_toInt
    have b := x.toInt_lt
    omega

theorem cs_minor {h : List ik_E} {sz : Int} {wt : Int} {bo_ : List Int} (q0 : 1 ≤ sz ∧ sz ≤ 3) (q1 : 0 ≤ wt ∧ wt ≤ 3) (h45 : cE h 45 (.inr (5, [.ref 46, .ref 47, .ref 48, .ref 49, .ref 50]))) (h47 : cE h 47 (.inl (.long, fL bo_))) (n47 : bo_.length = (12 : Nat)) (hl : h.length = (94 : Nat)) : ik_F 49 [.ref 45, fI sz, fI wt] h (fun rv h_q => ∃ (z : Int), rv = [fJ z] ∧ hfr [] h h_q) := by
  refine ik_Wk 1 (pc_q := 1) (loc_q := [some (.ref 45), some (fI sz), some (fI wt), none, none, none]) (st_q := [fI wt]) (h_q := h) (cl_q := 0) (sl_q := 0) rfl ?_
  refine fw_if_le rfl rfl (by omega) (by omega) (fun hc1 => ?_) (fun hc1 => ?_)
  · refine ik_Wk 4 (pc_q := 12) (loc_q := [some (.ref 45), some (fI sz), some (fI wt), some (fI 1), none, none]) (st_q := [fI 1, fI wt]) (h_q := h) (cl_q := 0) (sl_q := 0) rfl ?_
    refine fw_ic_le rfl rfl (by omega) (by omega) (by omega) (by omega) (fun hc2 => ?_) (fun hc2 => ?_)
    · refine ik_Wk 4 (pc_q := 24) (loc_q := [some (.ref 45), some (fI sz), some (fI wt), some (fI 1), some (fI 2), none]) (st_q := [fI 2, fI wt]) (h_q := h) (cl_q := 0) (sl_q := 0) rfl ?_
      refine fw_ic_le rfl rfl (by omega) (by omega) (by omega) (by omega) (fun hc3 => ?_) (fun hc3 => ?_)
      · refine ik_Wk 4 (pc_q := 36) (loc_q := [some (.ref 45), some (fI sz), some (fI wt), some (fI 1), some (fI 2), some (fI 3)]) (st_q := [fI 1, fI sz]) (h_q := h) (cl_q := 0) (sl_q := 0) rfl ?_
        refine fw_ic_ne rfl rfl (by omega) (by omega) (by omega) (by omega) (fun hc4 => ?_) (fun hc4 => ?_)
        · refine ik_Wk 1 (pc_q := 40) (loc_q := [some (.ref 45), some (fI sz), some (fI wt), some (fI 1), some (fI 2), some (fI 3)]) (st_q := [.ref 45]) (h_q := h) (cl_q := 0) (sl_q := 0) rfl ?_
          refine fw_gf rfl rfl h45 rfl ?_
          refine ik_Wk 1 (pc_q := 44) (loc_q := [some (.ref 45), some (fI sz), some (fI wt), some (fI 1), some (fI 2), some (fI 3)]) (st_q := [fI 1, .ref 47]) (h_q := h) (cl_q := 0) (sl_q := 0) rfl ?_
          refine fx_lal rfl h47 (by omega) (by omega) (by omega) ?_
          exact ik_Wret rfl rfl ⟨_, _, rfl, rfl, rfl, rfl, ⟨(bo_.getD (1 : Int).toNat 0), rfl, (hfr_refl [] h)⟩⟩
        · refine ik_Wk 2 (pc_q := 48) (loc_q := [some (.ref 45), some (fI sz), some (fI wt), some (fI 1), some (fI 2), some (fI 3)]) (st_q := [fI 2, fI sz]) (h_q := h) (cl_q := 0) (sl_q := 0) rfl ?_
          refine fw_ic_ne rfl rfl (by omega) (by omega) (by omega) (by omega) (fun hc5 => ?_) (fun hc5 => ?_)
          · refine ik_Wk 4 (pc_q := 56) (loc_q := [some (.ref 45), some (fI sz), some (fI wt), some (fI 1), some (fI 2), some (fI 3)]) (st_q := [fI 2, fI 1, fI 0, .ref 45]) (h_q := h) (cl_q := 0) (sl_q := 0) rfl ?_
            refine ik_Wc 50 4 0 [.ref 45, fI 0, fI 1, fI 2] [] rfl rfl rfl (by decide +kernel) rfl rfl (fw_rec hl rfl h45 rfl (Nat.le_of_ble_eq_true rfl)) ?_
            refine ik_Wk 0 (pc_q := 0) (loc_q := [some (.ref 45), some (fI 0), some (fI 1), some (fI 2), none, none]) (st_q := []) (h_q := h) (cl_q := 0) (sl_q := 0) rfl ?_
            refine ik_Wk 2 (pc_q := 2) (loc_q := [some (.ref 45), some (fI 0), some (fI 1), some (fI 2), none, none]) (st_q := [fI 4, fI 0]) (h_q := h) (cl_q := 0) (sl_q := 0) rfl ?_
            refine fw_mul rfl ?_
            refine ik_Wk 3 (pc_q := 8) (loc_q := [some (.ref 45), some (fI 0), some (fI 1), some (fI 2), some (fI 0), none]) (st_q := [fI 4, fI 0]) (h_q := h) (cl_q := 0) (sl_q := 0) rfl ?_
            refine fw_add rfl ?_
            refine ik_Wk 2 (pc_q := 12) (loc_q := [some (.ref 45), some (fI 0), some (fI 1), some (fI 2), some (fI 0), some (fI 4)]) (st_q := [.ref 45]) (h_q := h) (cl_q := 0) (sl_q := 0) rfl ?_
            refine fw_gf rfl rfl h45 rfl ?_
            refine ik_Wk 2 (pc_q := 18) (loc_q := [some (.ref 45), some (fI 0), some (fI 1), some (fI 2), some (fI 0), some (fI 4)]) (st_q := [fI 1, fI 0, .ref 47]) (h_q := h) (cl_q := 0) (sl_q := 0) rfl ?_
            refine fw_add rfl ?_
            refine fx_lal rfl h47 (by omega) (by omega) (by omega) ?_
            refine ik_Wk 1 (pc_q := 21) (loc_q := [some (.ref 45), some (fI 0), some (fI 1), some (fI 2), some (fI 0), some (fI 4)]) (st_q := [.ref 45, fJ (bo_.getD (1 : Int).toNat 0)]) (h_q := h) (cl_q := 0) (sl_q := 0) rfl ?_
            refine fw_gf rfl rfl h45 rfl ?_
            refine ik_Wk 2 (pc_q := 27) (loc_q := [some (.ref 45), some (fI 0), some (fI 1), some (fI 2), some (fI 0), some (fI 4)]) (st_q := [fI 2, fI 4, .ref 47, fJ (bo_.getD (1 : Int).toNat 0)]) (h_q := h) (cl_q := 0) (sl_q := 0) rfl ?_
            refine fw_add rfl ?_
            refine fx_lal rfl h47 (by omega) (by omega) (by omega) ?_
            refine fw_lmul rfl ?_
            refine ik_Wk 1 (pc_q := 31) (loc_q := [some (.ref 45), some (fI 0), some (fI 1), some (fI 2), some (fI 0), some (fI 4)]) (st_q := [.ref 45, fJ ((bo_.getD (1 : Int).toNat 0) * (bo_.getD (6 : Int).toNat 0))]) (h_q := h) (cl_q := 0) (sl_q := 0) rfl ?_
            refine fw_gf rfl rfl h45 rfl ?_
            refine ik_Wk 2 (pc_q := 37) (loc_q := [some (.ref 45), some (fI 0), some (fI 1), some (fI 2), some (fI 0), some (fI 4)]) (st_q := [fI 2, fI 0, .ref 47, fJ ((bo_.getD (1 : Int).toNat 0) * (bo_.getD (6 : Int).toNat 0))]) (h_q := h) (cl_q := 0) (sl_q := 0) rfl ?_
            refine fw_add rfl ?_
            refine fx_lal rfl h47 (by omega) (by omega) (by omega) ?_
            refine ik_Wk 1 (pc_q := 40) (loc_q := [some (.ref 45), some (fI 0), some (fI 1), some (fI 2), some (fI 0), some (fI 4)]) (st_q := [.ref 45, fJ (bo_.getD (2 : Int).toNat 0), fJ ((bo_.getD (1 : Int).toNat 0) * (bo_.getD (6 : Int).toNat 0))]) (h_q := h) (cl_q := 0) (sl_q := 0) rfl ?_
            refine fw_gf rfl rfl h45 rfl ?_
            refine ik_Wk 2 (pc_q := 46) (loc_q := [some (.ref 45), some (fI 0), some (fI 1), some (fI 2), some (fI 0), some (fI 4)]) (st_q := [fI 1, fI 4, .ref 47, fJ (bo_.getD (2 : Int).toNat 0), fJ ((bo_.getD (1 : Int).toNat 0) * (bo_.getD (6 : Int).toNat 0))]) (h_q := h) (cl_q := 0) (sl_q := 0) rfl ?_
            refine fw_add rfl ?_
            refine fx_lal rfl h47 (by omega) (by omega) (by omega) ?_
            refine fw_lmul rfl ?_
            refine fw_lsub rfl ?_
            refine ik_Wret rfl rfl ⟨_, _, rfl, rfl, ?_⟩
            refine ik_Wk 0 (pc_q := 59) (loc_q := [some (.ref 45), some (fI sz), some (fI wt), some (fI 1), some (fI 2), some (fI 3)]) (st_q := [fJ (((bo_.getD (1 : Int).toNat 0) * (bo_.getD (6 : Int).toNat 0)) - ((bo_.getD (2 : Int).toNat 0) * (bo_.getD (5 : Int).toNat 0)))]) (h_q := h) (cl_q := 0) (sl_q := 0) rfl ?_
            exact ik_Wret rfl rfl ⟨_, _, rfl, rfl, rfl, rfl, ⟨(((bo_.getD (1 : Int).toNat 0) * (bo_.getD (6 : Int).toNat 0)) - ((bo_.getD (2 : Int).toNat 0) * (bo_.getD (5 : Int).toNat 0))), rfl, (hfr_refl [] h)⟩⟩
          · refine ik_Wk 1 (pc_q := 61) (loc_q := [some (.ref 45), some (fI sz), some (fI wt), some (fI 1), some (fI 2), some (fI 3)]) (st_q := [.ref 45]) (h_q := h) (cl_q := 0) (sl_q := 0) rfl ?_
            refine fw_gf rfl rfl h45 rfl ?_
            refine ik_Wk 1 (pc_q := 65) (loc_q := [some (.ref 45), some (fI sz), some (fI wt), some (fI 1), some (fI 2), some (fI 3)]) (st_q := [fI 1, .ref 47]) (h_q := h) (cl_q := 0) (sl_q := 0) rfl ?_
            refine fx_lal rfl h47 (by omega) (by omega) (by omega) ?_
            refine ik_Wk 4 (pc_q := 72) (loc_q := [some (.ref 45), some (fI sz), some (fI wt), some (fI 1), some (fI 2), some (fI 3)]) (st_q := [fI 3, fI 2, fI 1, .ref 45, fJ (bo_.getD (1 : Int).toNat 0)]) (h_q := h) (cl_q := 0) (sl_q := 0) rfl ?_
            refine ik_Wc 50 4 0 [.ref 45, fI 1, fI 2, fI 3] [fJ (bo_.getD (1 : Int).toNat 0)] rfl rfl rfl (by decide +kernel) rfl rfl (fw_rec hl rfl h45 rfl (Nat.le_of_ble_eq_true rfl)) ?_
            refine ik_Wk 0 (pc_q := 0) (loc_q := [some (.ref 45), some (fI 1), some (fI 2), some (fI 3), none, none]) (st_q := []) (h_q := h) (cl_q := 0) (sl_q := 0) rfl ?_
            refine ik_Wk 2 (pc_q := 2) (loc_q := [some (.ref 45), some (fI 1), some (fI 2), some (fI 3), none, none]) (st_q := [fI 4, fI 1]) (h_q := h) (cl_q := 0) (sl_q := 0) rfl ?_
            refine fw_mul rfl ?_
            refine ik_Wk 3 (pc_q := 8) (loc_q := [some (.ref 45), some (fI 1), some (fI 2), some (fI 3), some (fI 4), none]) (st_q := [fI 4, fI 4]) (h_q := h) (cl_q := 0) (sl_q := 0) rfl ?_
            refine fw_add rfl ?_
            refine ik_Wk 2 (pc_q := 12) (loc_q := [some (.ref 45), some (fI 1), some (fI 2), some (fI 3), some (fI 4), some (fI 8)]) (st_q := [.ref 45]) (h_q := h) (cl_q := 0) (sl_q := 0) rfl ?_
            refine fw_gf rfl rfl h45 rfl ?_
            refine ik_Wk 2 (pc_q := 18) (loc_q := [some (.ref 45), some (fI 1), some (fI 2), some (fI 3), some (fI 4), some (fI 8)]) (st_q := [fI 2, fI 4, .ref 47]) (h_q := h) (cl_q := 0) (sl_q := 0) rfl ?_
            refine fw_add rfl ?_
            refine fx_lal rfl h47 (by omega) (by omega) (by omega) ?_
            refine ik_Wk 1 (pc_q := 21) (loc_q := [some (.ref 45), some (fI 1), some (fI 2), some (fI 3), some (fI 4), some (fI 8)]) (st_q := [.ref 45, fJ (bo_.getD (6 : Int).toNat 0)]) (h_q := h) (cl_q := 0) (sl_q := 0) rfl ?_
            refine fw_gf rfl rfl h45 rfl ?_
            refine ik_Wk 2 (pc_q := 27) (loc_q := [some (.ref 45), some (fI 1), some (fI 2), some (fI 3), some (fI 4), some (fI 8)]) (st_q := [fI 3, fI 8, .ref 47, fJ (bo_.getD (6 : Int).toNat 0)]) (h_q := h) (cl_q := 0) (sl_q := 0) rfl ?_
            refine fw_add rfl ?_
            refine fx_lal rfl h47 (by omega) (by omega) (by omega) ?_
            refine fw_lmul rfl ?_
            refine ik_Wk 1 (pc_q := 31) (loc_q := [some (.ref 45), some (fI 1), some (fI 2), some (fI 3), some (fI 4), some (fI 8)]) (st_q := [.ref 45, fJ ((bo_.getD (6 : Int).toNat 0) * (bo_.getD (11 : Int).toNat 0))]) (h_q := h) (cl_q := 0) (sl_q := 0) rfl ?_
            refine fw_gf rfl rfl h45 rfl ?_
            refine ik_Wk 2 (pc_q := 37) (loc_q := [some (.ref 45), some (fI 1), some (fI 2), some (fI 3), some (fI 4), some (fI 8)]) (st_q := [fI 3, fI 4, .ref 47, fJ ((bo_.getD (6 : Int).toNat 0) * (bo_.getD (11 : Int).toNat 0))]) (h_q := h) (cl_q := 0) (sl_q := 0) rfl ?_
            refine fw_add rfl ?_
            refine fx_lal rfl h47 (by omega) (by omega) (by omega) ?_
            refine ik_Wk 1 (pc_q := 40) (loc_q := [some (.ref 45), some (fI 1), some (fI 2), some (fI 3), some (fI 4), some (fI 8)]) (st_q := [.ref 45, fJ (bo_.getD (7 : Int).toNat 0), fJ ((bo_.getD (6 : Int).toNat 0) * (bo_.getD (11 : Int).toNat 0))]) (h_q := h) (cl_q := 0) (sl_q := 0) rfl ?_
            refine fw_gf rfl rfl h45 rfl ?_
            refine ik_Wk 2 (pc_q := 46) (loc_q := [some (.ref 45), some (fI 1), some (fI 2), some (fI 3), some (fI 4), some (fI 8)]) (st_q := [fI 2, fI 8, .ref 47, fJ (bo_.getD (7 : Int).toNat 0), fJ ((bo_.getD (6 : Int).toNat 0) * (bo_.getD (11 : Int).toNat 0))]) (h_q := h) (cl_q := 0) (sl_q := 0) rfl ?_
            refine fw_add rfl ?_
            refine fx_lal rfl h47 (by omega) (by omega) (by omega) ?_
            refine fw_lmul rfl ?_
            refine fw_lsub rfl ?_
            refine ik_Wret rfl rfl ⟨_, _, rfl, rfl, ?_⟩
            refine ik_Wk 0 (pc_q := 75) (loc_q := [some (.ref 45), some (fI sz), some (fI wt), some (fI 1), some (fI 2), some (fI 3)]) (st_q := [fJ (((bo_.getD (6 : Int).toNat 0) * (bo_.getD (11 : Int).toNat 0)) - ((bo_.getD (7 : Int).toNat 0) * (bo_.getD (10 : Int).toNat 0))), fJ (bo_.getD (1 : Int).toNat 0)]) (h_q := h) (cl_q := 0) (sl_q := 0) rfl ?_
            refine fw_lmul rfl ?_
            refine ik_Wk 1 (pc_q := 77) (loc_q := [some (.ref 45), some (fI sz), some (fI wt), some (fI 1), some (fI 2), some (fI 3)]) (st_q := [.ref 45, fJ ((bo_.getD (1 : Int).toNat 0) * (((bo_.getD (6 : Int).toNat 0) * (bo_.getD (11 : Int).toNat 0)) - ((bo_.getD (7 : Int).toNat 0) * (bo_.getD (10 : Int).toNat 0))))]) (h_q := h) (cl_q := 0) (sl_q := 0) rfl ?_
            refine fw_gf rfl rfl h45 rfl ?_
            refine ik_Wk 1 (pc_q := 82) (loc_q := [some (.ref 45), some (fI sz), some (fI wt), some (fI 1), some (fI 2), some (fI 3)]) (st_q := [fI 2, .ref 47, fJ ((bo_.getD (1 : Int).toNat 0) * (((bo_.getD (6 : Int).toNat 0) * (bo_.getD (11 : Int).toNat 0)) - ((bo_.getD (7 : Int).toNat 0) * (bo_.getD (10 : Int).toNat 0))))]) (h_q := h) (cl_q := 0) (sl_q := 0) rfl ?_
            refine fx_lal rfl h47 (by omega) (by omega) (by omega) ?_
            refine ik_Wk 4 (pc_q := 88) (loc_q := [some (.ref 45), some (fI sz), some (fI wt), some (fI 1), some (fI 2), some (fI 3)]) (st_q := [fI 3, fI 1, fI 1, .ref 45, fJ (bo_.getD (2 : Int).toNat 0), fJ ((bo_.getD (1 : Int).toNat 0) * (((bo_.getD (6 : Int).toNat 0) * (bo_.getD (11 : Int).toNat 0)) - ((bo_.getD (7 : Int).toNat 0) * (bo_.getD (10 : Int).toNat 0))))]) (h_q := h) (cl_q := 0) (sl_q := 0) rfl ?_
            refine ik_Wc 50 4 0 [.ref 45, fI 1, fI 1, fI 3] [fJ (bo_.getD (2 : Int).toNat 0), fJ ((bo_.getD (1 : Int).toNat 0) * (((bo_.getD (6 : Int).toNat 0) * (bo_.getD (11 : Int).toNat 0)) - ((bo_.getD (7 : Int).toNat 0) * (bo_.getD (10 : Int).toNat 0))))] rfl rfl rfl (by decide +kernel) rfl rfl (fw_rec hl rfl h45 rfl (Nat.le_of_ble_eq_true rfl)) ?_
            refine ik_Wk 0 (pc_q := 0) (loc_q := [some (.ref 45), some (fI 1), some (fI 1), some (fI 3), none, none]) (st_q := []) (h_q := h) (cl_q := 0) (sl_q := 0) rfl ?_
            refine ik_Wk 2 (pc_q := 2) (loc_q := [some (.ref 45), some (fI 1), some (fI 1), some (fI 3), none, none]) (st_q := [fI 4, fI 1]) (h_q := h) (cl_q := 0) (sl_q := 0) rfl ?_
            refine fw_mul rfl ?_
            refine ik_Wk 3 (pc_q := 8) (loc_q := [some (.ref 45), some (fI 1), some (fI 1), some (fI 3), some (fI 4), none]) (st_q := [fI 4, fI 4]) (h_q := h) (cl_q := 0) (sl_q := 0) rfl ?_
            refine fw_add rfl ?_
            refine ik_Wk 2 (pc_q := 12) (loc_q := [some (.ref 45), some (fI 1), some (fI 1), some (fI 3), some (fI 4), some (fI 8)]) (st_q := [.ref 45]) (h_q := h) (cl_q := 0) (sl_q := 0) rfl ?_
            refine fw_gf rfl rfl h45 rfl ?_
            refine ik_Wk 2 (pc_q := 18) (loc_q := [some (.ref 45), some (fI 1), some (fI 1), some (fI 3), some (fI 4), some (fI 8)]) (st_q := [fI 1, fI 4, .ref 47]) (h_q := h) (cl_q := 0) (sl_q := 0) rfl ?_
            refine fw_add rfl ?_
            refine fx_lal rfl h47 (by omega) (by omega) (by omega) ?_
            refine ik_Wk 1 (pc_q := 21) (loc_q := [some (.ref 45), some (fI 1), some (fI 1), some (fI 3), some (fI 4), some (fI 8)]) (st_q := [.ref 45, fJ (bo_.getD (5 : Int).toNat 0)]) (h_q := h) (cl_q := 0) (sl_q := 0) rfl ?_
            refine fw_gf rfl rfl h45 rfl ?_
            refine ik_Wk 2 (pc_q := 27) (loc_q := [some (.ref 45), some (fI 1), some (fI 1), some (fI 3), some (fI 4), some (fI 8)]) (st_q := [fI 3, fI 8, .ref 47, fJ (bo_.getD (5 : Int).toNat 0)]) (h_q := h) (cl_q := 0) (sl_q := 0) rfl ?_
            refine fw_add rfl ?_
            refine fx_lal rfl h47 (by omega) (by omega) (by omega) ?_
            refine fw_lmul rfl ?_
            refine ik_Wk 1 (pc_q := 31) (loc_q := [some (.ref 45), some (fI 1), some (fI 1), some (fI 3), some (fI 4), some (fI 8)]) (st_q := [.ref 45, fJ ((bo_.getD (5 : Int).toNat 0) * (bo_.getD (11 : Int).toNat 0))]) (h_q := h) (cl_q := 0) (sl_q := 0) rfl ?_
            refine fw_gf rfl rfl h45 rfl ?_
            refine ik_Wk 2 (pc_q := 37) (loc_q := [some (.ref 45), some (fI 1), some (fI 1), some (fI 3), some (fI 4), some (fI 8)]) (st_q := [fI 3, fI 4, .ref 47, fJ ((bo_.getD (5 : Int).toNat 0) * (bo_.getD (11 : Int).toNat 0))]) (h_q := h) (cl_q := 0) (sl_q := 0) rfl ?_
            refine fw_add rfl ?_
            refine fx_lal rfl h47 (by omega) (by omega) (by omega) ?_
            refine ik_Wk 1 (pc_q := 40) (loc_q := [some (.ref 45), some (fI 1), some (fI 1), some (fI 3), some (fI 4), some (fI 8)]) (st_q := [.ref 45, fJ (bo_.getD (7 : Int).toNat 0), fJ ((bo_.getD (5 : Int).toNat 0) * (bo_.getD (11 : Int).toNat 0))]) (h_q := h) (cl_q := 0) (sl_q := 0) rfl ?_
            refine fw_gf rfl rfl h45 rfl ?_
            refine ik_Wk 2 (pc_q := 46) (loc_q := [some (.ref 45), some (fI 1), some (fI 1), some (fI 3), some (fI 4), some (fI 8)]) (st_q := [fI 1, fI 8, .ref 47, fJ (bo_.getD (7 : Int).toNat 0), fJ ((bo_.getD (5 : Int).toNat 0) * (bo_.getD (11 : Int).toNat 0))]) (h_q := h) (cl_q := 0) (sl_q := 0) rfl ?_
            refine fw_add rfl ?_
            refine fx_lal rfl h47 (by omega) (by omega) (by omega) ?_
            refine fw_lmul rfl ?_
            refine fw_lsub rfl ?_
            refine ik_Wret rfl rfl ⟨_, _, rfl, rfl, ?_⟩
            refine ik_Wk 0 (pc_q := 91) (loc_q := [some (.ref 45), some (fI sz), some (fI wt), some (fI 1), some (fI 2), some (fI 3)]) (st_q := [fJ (((bo_.getD (5 : Int).toNat 0) * (bo_.getD (11 : Int).toNat 0)) - ((bo_.getD (7 : Int).toNat 0) * (bo_.getD (9 : Int).toNat 0))), fJ (bo_.getD (2 : Int).toNat 0), fJ ((bo_.getD (1 : Int).toNat 0) * (((bo_.getD (6 : Int).toNat 0) * (bo_.getD (11 : Int).toNat 0)) - ((bo_.getD (7 : Int).toNat 0) * (bo_.getD (10 : Int).toNat 0))))]) (h_q := h) (cl_q := 0) (sl_q := 0) rfl ?_
            refine fw_lmul rfl ?_
            refine fw_lsub rfl ?_
            refine ik_Wk 1 (pc_q := 94) (loc_q := [some (.ref 45), some (fI sz), some (fI wt), some (fI 1), some (fI 2), some (fI 3)]) (st_q := [.ref 45, fJ (((bo_.getD (1 : Int).toNat 0) * (((bo_.getD (6 : Int).toNat 0) * (bo_.getD (11 : Int).toNat 0)) - ((bo_.getD (7 : Int).toNat 0) * (bo_.getD (10 : Int).toNat 0)))) - ((bo_.getD (2 : Int).toNat 0) * (((bo_.getD (5 : Int).toNat 0) * (bo_.getD (11 : Int).toNat 0)) - ((bo_.getD (7 : Int).toNat 0) * (bo_.getD (9 : Int).toNat 0)))))]) (h_q := h) (cl_q := 0) (sl_q := 0) rfl ?_
            refine fw_gf rfl rfl h45 rfl ?_
            refine ik_Wk 1 (pc_q := 99) (loc_q := [some (.ref 45), some (fI sz), some (fI wt), some (fI 1), some (fI 2), some (fI 3)]) (st_q := [fI 3, .ref 47, fJ (((bo_.getD (1 : Int).toNat 0) * (((bo_.getD (6 : Int).toNat 0) * (bo_.getD (11 : Int).toNat 0)) - ((bo_.getD (7 : Int).toNat 0) * (bo_.getD (10 : Int).toNat 0)))) - ((bo_.getD (2 : Int).toNat 0) * (((bo_.getD (5 : Int).toNat 0) * (bo_.getD (11 : Int).toNat 0)) - ((bo_.getD (7 : Int).toNat 0) * (bo_.getD (9 : Int).toNat 0)))))]) (h_q := h) (cl_q := 0) (sl_q := 0) rfl ?_
            refine fx_lal rfl h47 (by omega) (by omega) (by omega) ?_
            refine ik_Wk 4 (pc_q := 105) (loc_q := [some (.ref 45), some (fI sz), some (fI wt), some (fI 1), some (fI 2), some (fI 3)]) (st_q := [fI 2, fI 1, fI 1, .ref 45, fJ (bo_.getD (3 : Int).toNat 0), fJ (((bo_.getD (1 : Int).toNat 0) * (((bo_.getD (6 : Int).toNat 0) * (bo_.getD (11 : Int).toNat 0)) - ((bo_.getD (7 : Int).toNat 0) * (bo_.getD (10 : Int).toNat 0)))) - ((bo_.getD (2 : Int).toNat 0) * (((bo_.getD (5 : Int).toNat 0) * (bo_.getD (11 : Int).toNat 0)) - ((bo_.getD (7 : Int).toNat 0) * (bo_.getD (9 : Int).toNat 0)))))]) (h_q := h) (cl_q := 0) (sl_q := 0) rfl ?_
            refine ik_Wc 50 4 0 [.ref 45, fI 1, fI 1, fI 2] [fJ (bo_.getD (3 : Int).toNat 0), fJ (((bo_.getD (1 : Int).toNat 0) * (((bo_.getD (6 : Int).toNat 0) * (bo_.getD (11 : Int).toNat 0)) - ((bo_.getD (7 : Int).toNat 0) * (bo_.getD (10 : Int).toNat 0)))) - ((bo_.getD (2 : Int).toNat 0) * (((bo_.getD (5 : Int).toNat 0) * (bo_.getD (11 : Int).toNat 0)) - ((bo_.getD (7 : Int).toNat 0) * (bo_.getD (9 : Int).toNat 0)))))] rfl rfl rfl (by decide +kernel) rfl rfl (fw_rec hl rfl h45 rfl (Nat.le_of_ble_eq_true rfl)) ?_
            refine ik_Wk 0 (pc_q := 0) (loc_q := [some (.ref 45), some (fI 1), some (fI 1), some (fI 2), none, none]) (st_q := []) (h_q := h) (cl_q := 0) (sl_q := 0) rfl ?_
            refine ik_Wk 2 (pc_q := 2) (loc_q := [some (.ref 45), some (fI 1), some (fI 1), some (fI 2), none, none]) (st_q := [fI 4, fI 1]) (h_q := h) (cl_q := 0) (sl_q := 0) rfl ?_
            refine fw_mul rfl ?_
            refine ik_Wk 3 (pc_q := 8) (loc_q := [some (.ref 45), some (fI 1), some (fI 1), some (fI 2), some (fI 4), none]) (st_q := [fI 4, fI 4]) (h_q := h) (cl_q := 0) (sl_q := 0) rfl ?_
            refine fw_add rfl ?_
            refine ik_Wk 2 (pc_q := 12) (loc_q := [some (.ref 45), some (fI 1), some (fI 1), some (fI 2), some (fI 4), some (fI 8)]) (st_q := [.ref 45]) (h_q := h) (cl_q := 0) (sl_q := 0) rfl ?_
            refine fw_gf rfl rfl h45 rfl ?_
            refine ik_Wk 2 (pc_q := 18) (loc_q := [some (.ref 45), some (fI 1), some (fI 1), some (fI 2), some (fI 4), some (fI 8)]) (st_q := [fI 1, fI 4, .ref 47]) (h_q := h) (cl_q := 0) (sl_q := 0) rfl ?_
            refine fw_add rfl ?_
            refine fx_lal rfl h47 (by omega) (by omega) (by omega) ?_
            refine ik_Wk 1 (pc_q := 21) (loc_q := [some (.ref 45), some (fI 1), some (fI 1), some (fI 2), some (fI 4), some (fI 8)]) (st_q := [.ref 45, fJ (bo_.getD (5 : Int).toNat 0)]) (h_q := h) (cl_q := 0) (sl_q := 0) rfl ?_
            refine fw_gf rfl rfl h45 rfl ?_
            refine ik_Wk 2 (pc_q := 27) (loc_q := [some (.ref 45), some (fI 1), some (fI 1), some (fI 2), some (fI 4), some (fI 8)]) (st_q := [fI 2, fI 8, .ref 47, fJ (bo_.getD (5 : Int).toNat 0)]) (h_q := h) (cl_q := 0) (sl_q := 0) rfl ?_
            refine fw_add rfl ?_
            refine fx_lal rfl h47 (by omega) (by omega) (by omega) ?_
            refine fw_lmul rfl ?_
            refine ik_Wk 1 (pc_q := 31) (loc_q := [some (.ref 45), some (fI 1), some (fI 1), some (fI 2), some (fI 4), some (fI 8)]) (st_q := [.ref 45, fJ ((bo_.getD (5 : Int).toNat 0) * (bo_.getD (10 : Int).toNat 0))]) (h_q := h) (cl_q := 0) (sl_q := 0) rfl ?_
            refine fw_gf rfl rfl h45 rfl ?_
            refine ik_Wk 2 (pc_q := 37) (loc_q := [some (.ref 45), some (fI 1), some (fI 1), some (fI 2), some (fI 4), some (fI 8)]) (st_q := [fI 2, fI 4, .ref 47, fJ ((bo_.getD (5 : Int).toNat 0) * (bo_.getD (10 : Int).toNat 0))]) (h_q := h) (cl_q := 0) (sl_q := 0) rfl ?_
            refine fw_add rfl ?_
            refine fx_lal rfl h47 (by omega) (by omega) (by omega) ?_
            refine ik_Wk 1 (pc_q := 40) (loc_q := [some (.ref 45), some (fI 1), some (fI 1), some (fI 2), some (fI 4), some (fI 8)]) (st_q := [.ref 45, fJ (bo_.getD (6 : Int).toNat 0), fJ ((bo_.getD (5 : Int).toNat 0) * (bo_.getD (10 : Int).toNat 0))]) (h_q := h) (cl_q := 0) (sl_q := 0) rfl ?_
            refine fw_gf rfl rfl h45 rfl ?_
            refine ik_Wk 2 (pc_q := 46) (loc_q := [some (.ref 45), some (fI 1), some (fI 1), some (fI 2), some (fI 4), some (fI 8)]) (st_q := [fI 1, fI 8, .ref 47, fJ (bo_.getD (6 : Int).toNat 0), fJ ((bo_.getD (5 : Int).toNat 0) * (bo_.getD (10 : Int).toNat 0))]) (h_q := h) (cl_q := 0) (sl_q := 0) rfl ?_
            refine fw_add rfl ?_
            refine fx_lal rfl h47 (by omega) (by omega) (by omega) ?_
            refine fw_lmul rfl ?_
            refine fw_lsub rfl ?_
            refine ik_Wret rfl rfl ⟨_, _, rfl, rfl, ?_⟩
            refine ik_Wk 0 (pc_q := 108) (loc_q := [some (.ref 45), some (fI sz), some (fI wt), some (fI 1), some (fI 2), some (fI 3)]) (st_q := [fJ (((bo_.getD (5 : Int).toNat 0) * (bo_.getD (10 : Int).toNat 0)) - ((bo_.getD (6 : Int).toNat 0) * (bo_.getD (9 : Int).toNat 0))), fJ (bo_.getD (3 : Int).toNat 0), fJ (((bo_.getD (1 : Int).toNat 0) * (((bo_.getD (6 : Int).toNat 0) * (bo_.getD (11 : Int).toNat 0)) - ((bo_.getD (7 : Int).toNat 0) * (bo_.getD (10 : Int).toNat 0)))) - ((bo_.getD (2 : Int).toNat 0) * (((bo_.getD (5 : Int).toNat 0) * (bo_.getD (11 : Int).toNat 0)) - ((bo_.getD (7 : Int).toNat 0) * (bo_.getD (9 : Int).toNat 0)))))]) (h_q := h) (cl_q := 0) (sl_q := 0) rfl ?_
            refine fw_lmul rfl ?_
            refine fw_ladd rfl ?_
            exact ik_Wret rfl rfl ⟨_, _, rfl, rfl, rfl, rfl, ⟨((((bo_.getD (1 : Int).toNat 0) * (((bo_.getD (6 : Int).toNat 0) * (bo_.getD (11 : Int).toNat 0)) - ((bo_.getD (7 : Int).toNat 0) * (bo_.getD (10 : Int).toNat 0)))) - ((bo_.getD (2 : Int).toNat 0) * (((bo_.getD (5 : Int).toNat 0) * (bo_.getD (11 : Int).toNat 0)) - ((bo_.getD (7 : Int).toNat 0) * (bo_.getD (9 : Int).toNat 0))))) + ((bo_.getD (3 : Int).toNat 0) * (((bo_.getD (5 : Int).toNat 0) * (bo_.getD (10 : Int).toNat 0)) - ((bo_.getD (6 : Int).toNat 0) * (bo_.getD (9 : Int).toNat 0))))), rfl, (hfr_refl [] h)⟩⟩
      · refine ik_Wk 5 (pc_q := 36) (loc_q := [some (.ref 45), some (fI sz), some (fI wt), some (fI 1), some (fI 2), some (fI 2)]) (st_q := [fI 1, fI sz]) (h_q := h) (cl_q := 0) (sl_q := 0) rfl ?_
        refine fw_ic_ne rfl rfl (by omega) (by omega) (by omega) (by omega) (fun hc6 => ?_) (fun hc6 => ?_)
        · refine ik_Wk 1 (pc_q := 40) (loc_q := [some (.ref 45), some (fI sz), some (fI wt), some (fI 1), some (fI 2), some (fI 2)]) (st_q := [.ref 45]) (h_q := h) (cl_q := 0) (sl_q := 0) rfl ?_
          refine fw_gf rfl rfl h45 rfl ?_
          refine ik_Wk 1 (pc_q := 44) (loc_q := [some (.ref 45), some (fI sz), some (fI wt), some (fI 1), some (fI 2), some (fI 2)]) (st_q := [fI 1, .ref 47]) (h_q := h) (cl_q := 0) (sl_q := 0) rfl ?_
          refine fx_lal rfl h47 (by omega) (by omega) (by omega) ?_
          exact ik_Wret rfl rfl ⟨_, _, rfl, rfl, rfl, rfl, ⟨(bo_.getD (1 : Int).toNat 0), rfl, (hfr_refl [] h)⟩⟩
        · refine ik_Wk 2 (pc_q := 48) (loc_q := [some (.ref 45), some (fI sz), some (fI wt), some (fI 1), some (fI 2), some (fI 2)]) (st_q := [fI 2, fI sz]) (h_q := h) (cl_q := 0) (sl_q := 0) rfl ?_
          refine fw_ic_ne rfl rfl (by omega) (by omega) (by omega) (by omega) (fun hc7 => ?_) (fun hc7 => ?_)
          · refine ik_Wk 4 (pc_q := 56) (loc_q := [some (.ref 45), some (fI sz), some (fI wt), some (fI 1), some (fI 2), some (fI 2)]) (st_q := [fI 2, fI 1, fI 0, .ref 45]) (h_q := h) (cl_q := 0) (sl_q := 0) rfl ?_
            refine ik_Wc 50 4 0 [.ref 45, fI 0, fI 1, fI 2] [] rfl rfl rfl (by decide +kernel) rfl rfl (fw_rec hl rfl h45 rfl (Nat.le_of_ble_eq_true rfl)) ?_
            refine ik_Wk 0 (pc_q := 0) (loc_q := [some (.ref 45), some (fI 0), some (fI 1), some (fI 2), none, none]) (st_q := []) (h_q := h) (cl_q := 0) (sl_q := 0) rfl ?_
            refine ik_Wk 2 (pc_q := 2) (loc_q := [some (.ref 45), some (fI 0), some (fI 1), some (fI 2), none, none]) (st_q := [fI 4, fI 0]) (h_q := h) (cl_q := 0) (sl_q := 0) rfl ?_
            refine fw_mul rfl ?_
            refine ik_Wk 3 (pc_q := 8) (loc_q := [some (.ref 45), some (fI 0), some (fI 1), some (fI 2), some (fI 0), none]) (st_q := [fI 4, fI 0]) (h_q := h) (cl_q := 0) (sl_q := 0) rfl ?_
            refine fw_add rfl ?_
            refine ik_Wk 2 (pc_q := 12) (loc_q := [some (.ref 45), some (fI 0), some (fI 1), some (fI 2), some (fI 0), some (fI 4)]) (st_q := [.ref 45]) (h_q := h) (cl_q := 0) (sl_q := 0) rfl ?_
            refine fw_gf rfl rfl h45 rfl ?_
            refine ik_Wk 2 (pc_q := 18) (loc_q := [some (.ref 45), some (fI 0), some (fI 1), some (fI 2), some (fI 0), some (fI 4)]) (st_q := [fI 1, fI 0, .ref 47]) (h_q := h) (cl_q := 0) (sl_q := 0) rfl ?_
            refine fw_add rfl ?_
            refine fx_lal rfl h47 (by omega) (by omega) (by omega) ?_
            refine ik_Wk 1 (pc_q := 21) (loc_q := [some (.ref 45), some (fI 0), some (fI 1), some (fI 2), some (fI 0), some (fI 4)]) (st_q := [.ref 45, fJ (bo_.getD (1 : Int).toNat 0)]) (h_q := h) (cl_q := 0) (sl_q := 0) rfl ?_
            refine fw_gf rfl rfl h45 rfl ?_
            refine ik_Wk 2 (pc_q := 27) (loc_q := [some (.ref 45), some (fI 0), some (fI 1), some (fI 2), some (fI 0), some (fI 4)]) (st_q := [fI 2, fI 4, .ref 47, fJ (bo_.getD (1 : Int).toNat 0)]) (h_q := h) (cl_q := 0) (sl_q := 0) rfl ?_
            refine fw_add rfl ?_
            refine fx_lal rfl h47 (by omega) (by omega) (by omega) ?_
            refine fw_lmul rfl ?_
            refine ik_Wk 1 (pc_q := 31) (loc_q := [some (.ref 45), some (fI 0), some (fI 1), some (fI 2), some (fI 0), some (fI 4)]) (st_q := [.ref 45, fJ ((bo_.getD (1 : Int).toNat 0) * (bo_.getD (6 : Int).toNat 0))]) (h_q := h) (cl_q := 0) (sl_q := 0) rfl ?_
            refine fw_gf rfl rfl h45 rfl ?_
            refine ik_Wk 2 (pc_q := 37) (loc_q := [some (.ref 45), some (fI 0), some (fI 1), some (fI 2), some (fI 0), some (fI 4)]) (st_q := [fI 2, fI 0, .ref 47, fJ ((bo_.getD (1 : Int).toNat 0) * (bo_.getD (6 : Int).toNat 0))]) (h_q := h) (cl_q := 0) (sl_q := 0) rfl ?_
            refine fw_add rfl ?_
            refine fx_lal rfl h47 (by omega) (by omega) (by omega) ?_
            refine ik_Wk 1 (pc_q := 40) (loc_q := [some (.ref 45), some (fI 0), some (fI 1), some (fI 2), some (fI 0), some (fI 4)]) (st_q := [.ref 45, fJ (bo_.getD (2 : Int).toNat 0), fJ ((bo_.getD (1 : Int).toNat 0) * (bo_.getD (6 : Int).toNat 0))]) (h_q := h) (cl_q := 0) (sl_q := 0) rfl ?_
            refine fw_gf rfl rfl h45 rfl ?_
            refine ik_Wk 2 (pc_q := 46) (loc_q := [some (.ref 45), some (fI 0), some (fI 1), some (fI 2), some (fI 0), some (fI 4)]) (st_q := [fI 1, fI 4, .ref 47, fJ (bo_.getD (2 : Int).toNat 0), fJ ((bo_.getD (1 : Int).toNat 0) * (bo_.getD (6 : Int).toNat 0))]) (h_q := h) (cl_q := 0) (sl_q := 0) rfl ?_
            refine fw_add rfl ?_
            refine fx_lal rfl h47 (by omega) (by omega) (by omega) ?_
            refine fw_lmul rfl ?_
            refine fw_lsub rfl ?_
            refine ik_Wret rfl rfl ⟨_, _, rfl, rfl, ?_⟩
            refine ik_Wk 0 (pc_q := 59) (loc_q := [some (.ref 45), some (fI sz), some (fI wt), some (fI 1), some (fI 2), some (fI 2)]) (st_q := [fJ (((bo_.getD (1 : Int).toNat 0) * (bo_.getD (6 : Int).toNat 0)) - ((bo_.getD (2 : Int).toNat 0) * (bo_.getD (5 : Int).toNat 0)))]) (h_q := h) (cl_q := 0) (sl_q := 0) rfl ?_
            exact ik_Wret rfl rfl ⟨_, _, rfl, rfl, rfl, rfl, ⟨(((bo_.getD (1 : Int).toNat 0) * (bo_.getD (6 : Int).toNat 0)) - ((bo_.getD (2 : Int).toNat 0) * (bo_.getD (5 : Int).toNat 0))), rfl, (hfr_refl [] h)⟩⟩
          · refine ik_Wk 1 (pc_q := 61) (loc_q := [some (.ref 45), some (fI sz), some (fI wt), some (fI 1), some (fI 2), some (fI 2)]) (st_q := [.ref 45]) (h_q := h) (cl_q := 0) (sl_q := 0) rfl ?_
            refine fw_gf rfl rfl h45 rfl ?_
            refine ik_Wk 1 (pc_q := 65) (loc_q := [some (.ref 45), some (fI sz), some (fI wt), some (fI 1), some (fI 2), some (fI 2)]) (st_q := [fI 1, .ref 47]) (h_q := h) (cl_q := 0) (sl_q := 0) rfl ?_
            refine fx_lal rfl h47 (by omega) (by omega) (by omega) ?_
            refine ik_Wk 4 (pc_q := 72) (loc_q := [some (.ref 45), some (fI sz), some (fI wt), some (fI 1), some (fI 2), some (fI 2)]) (st_q := [fI 2, fI 2, fI 1, .ref 45, fJ (bo_.getD (1 : Int).toNat 0)]) (h_q := h) (cl_q := 0) (sl_q := 0) rfl ?_
            refine ik_Wc 50 4 0 [.ref 45, fI 1, fI 2, fI 2] [fJ (bo_.getD (1 : Int).toNat 0)] rfl rfl rfl (by decide +kernel) rfl rfl (fw_rec hl rfl h45 rfl (Nat.le_of_ble_eq_true rfl)) ?_
            refine ik_Wk 0 (pc_q := 0) (loc_q := [some (.ref 45), some (fI 1), some (fI 2), some (fI 2), none, none]) (st_q := []) (h_q := h) (cl_q := 0) (sl_q := 0) rfl ?_
            refine ik_Wk 2 (pc_q := 2) (loc_q := [some (.ref 45), some (fI 1), some (fI 2), some (fI 2), none, none]) (st_q := [fI 4, fI 1]) (h_q := h) (cl_q := 0) (sl_q := 0) rfl ?_
            refine fw_mul rfl ?_
            refine ik_Wk 3 (pc_q := 8) (loc_q := [some (.ref 45), some (fI 1), some (fI 2), some (fI 2), some (fI 4), none]) (st_q := [fI 4, fI 4]) (h_q := h) (cl_q := 0) (sl_q := 0) rfl ?_
            refine fw_add rfl ?_
            refine ik_Wk 2 (pc_q := 12) (loc_q := [some (.ref 45), some (fI 1), some (fI 2), some (fI 2), some (fI 4), some (fI 8)]) (st_q := [.ref 45]) (h_q := h) (cl_q := 0) (sl_q := 0) rfl ?_
            refine fw_gf rfl rfl h45 rfl ?_
            refine ik_Wk 2 (pc_q := 18) (loc_q := [some (.ref 45), some (fI 1), some (fI 2), some (fI 2), some (fI 4), some (fI 8)]) (st_q := [fI 2, fI 4, .ref 47]) (h_q := h) (cl_q := 0) (sl_q := 0) rfl ?_
            refine fw_add rfl ?_
            refine fx_lal rfl h47 (by omega) (by omega) (by omega) ?_
            refine ik_Wk 1 (pc_q := 21) (loc_q := [some (.ref 45), some (fI 1), some (fI 2), some (fI 2), some (fI 4), some (fI 8)]) (st_q := [.ref 45, fJ (bo_.getD (6 : Int).toNat 0)]) (h_q := h) (cl_q := 0) (sl_q := 0) rfl ?_
            refine fw_gf rfl rfl h45 rfl ?_
            refine ik_Wk 2 (pc_q := 27) (loc_q := [some (.ref 45), some (fI 1), some (fI 2), some (fI 2), some (fI 4), some (fI 8)]) (st_q := [fI 2, fI 8, .ref 47, fJ (bo_.getD (6 : Int).toNat 0)]) (h_q := h) (cl_q := 0) (sl_q := 0) rfl ?_
            refine fw_add rfl ?_
            refine fx_lal rfl h47 (by omega) (by omega) (by omega) ?_
            refine fw_lmul rfl ?_
            refine ik_Wk 1 (pc_q := 31) (loc_q := [some (.ref 45), some (fI 1), some (fI 2), some (fI 2), some (fI 4), some (fI 8)]) (st_q := [.ref 45, fJ ((bo_.getD (6 : Int).toNat 0) * (bo_.getD (10 : Int).toNat 0))]) (h_q := h) (cl_q := 0) (sl_q := 0) rfl ?_
            refine fw_gf rfl rfl h45 rfl ?_
            refine ik_Wk 2 (pc_q := 37) (loc_q := [some (.ref 45), some (fI 1), some (fI 2), some (fI 2), some (fI 4), some (fI 8)]) (st_q := [fI 2, fI 4, .ref 47, fJ ((bo_.getD (6 : Int).toNat 0) * (bo_.getD (10 : Int).toNat 0))]) (h_q := h) (cl_q := 0) (sl_q := 0) rfl ?_
            refine fw_add rfl ?_
            refine fx_lal rfl h47 (by omega) (by omega) (by omega) ?_
            refine ik_Wk 1 (pc_q := 40) (loc_q := [some (.ref 45), some (fI 1), some (fI 2), some (fI 2), some (fI 4), some (fI 8)]) (st_q := [.ref 45, fJ (bo_.getD (6 : Int).toNat 0), fJ ((bo_.getD (6 : Int).toNat 0) * (bo_.getD (10 : Int).toNat 0))]) (h_q := h) (cl_q := 0) (sl_q := 0) rfl ?_
            refine fw_gf rfl rfl h45 rfl ?_
            refine ik_Wk 2 (pc_q := 46) (loc_q := [some (.ref 45), some (fI 1), some (fI 2), some (fI 2), some (fI 4), some (fI 8)]) (st_q := [fI 2, fI 8, .ref 47, fJ (bo_.getD (6 : Int).toNat 0), fJ ((bo_.getD (6 : Int).toNat 0) * (bo_.getD (10 : Int).toNat 0))]) (h_q := h) (cl_q := 0) (sl_q := 0) rfl ?_
            refine fw_add rfl ?_
            refine fx_lal rfl h47 (by omega) (by omega) (by omega) ?_
            refine fw_lmul rfl ?_
            refine fw_lsub rfl ?_
            refine ik_Wret rfl rfl ⟨_, _, rfl, rfl, ?_⟩
            refine ik_Wk 0 (pc_q := 75) (loc_q := [some (.ref 45), some (fI sz), some (fI wt), some (fI 1), some (fI 2), some (fI 2)]) (st_q := [fJ (((bo_.getD (6 : Int).toNat 0) * (bo_.getD (10 : Int).toNat 0)) - ((bo_.getD (6 : Int).toNat 0) * (bo_.getD (10 : Int).toNat 0))), fJ (bo_.getD (1 : Int).toNat 0)]) (h_q := h) (cl_q := 0) (sl_q := 0) rfl ?_
            refine fw_lmul rfl ?_
            refine ik_Wk 1 (pc_q := 77) (loc_q := [some (.ref 45), some (fI sz), some (fI wt), some (fI 1), some (fI 2), some (fI 2)]) (st_q := [.ref 45, fJ ((bo_.getD (1 : Int).toNat 0) * (((bo_.getD (6 : Int).toNat 0) * (bo_.getD (10 : Int).toNat 0)) - ((bo_.getD (6 : Int).toNat 0) * (bo_.getD (10 : Int).toNat 0))))]) (h_q := h) (cl_q := 0) (sl_q := 0) rfl ?_
            refine fw_gf rfl rfl h45 rfl ?_
            refine ik_Wk 1 (pc_q := 82) (loc_q := [some (.ref 45), some (fI sz), some (fI wt), some (fI 1), some (fI 2), some (fI 2)]) (st_q := [fI 2, .ref 47, fJ ((bo_.getD (1 : Int).toNat 0) * (((bo_.getD (6 : Int).toNat 0) * (bo_.getD (10 : Int).toNat 0)) - ((bo_.getD (6 : Int).toNat 0) * (bo_.getD (10 : Int).toNat 0))))]) (h_q := h) (cl_q := 0) (sl_q := 0) rfl ?_
            refine fx_lal rfl h47 (by omega) (by omega) (by omega) ?_
            refine ik_Wk 4 (pc_q := 88) (loc_q := [some (.ref 45), some (fI sz), some (fI wt), some (fI 1), some (fI 2), some (fI 2)]) (st_q := [fI 2, fI 1, fI 1, .ref 45, fJ (bo_.getD (2 : Int).toNat 0), fJ ((bo_.getD (1 : Int).toNat 0) * (((bo_.getD (6 : Int).toNat 0) * (bo_.getD (10 : Int).toNat 0)) - ((bo_.getD (6 : Int).toNat 0) * (bo_.getD (10 : Int).toNat 0))))]) (h_q := h) (cl_q := 0) (sl_q := 0) rfl ?_
            refine ik_Wc 50 4 0 [.ref 45, fI 1, fI 1, fI 2] [fJ (bo_.getD (2 : Int).toNat 0), fJ ((bo_.getD (1 : Int).toNat 0) * (((bo_.getD (6 : Int).toNat 0) * (bo_.getD (10 : Int).toNat 0)) - ((bo_.getD (6 : Int).toNat 0) * (bo_.getD (10 : Int).toNat 0))))] rfl rfl rfl (by decide +kernel) rfl rfl (fw_rec hl rfl h45 rfl (Nat.le_of_ble_eq_true rfl)) ?_
            refine ik_Wk 0 (pc_q := 0) (loc_q := [some (.ref 45), some (fI 1), some (fI 1), some (fI 2), none, none]) (st_q := []) (h_q := h) (cl_q := 0) (sl_q := 0) rfl ?_
            refine ik_Wk 2 (pc_q := 2) (loc_q := [some (.ref 45), some (fI 1), some (fI 1), some (fI 2), none, none]) (st_q := [fI 4, fI 1]) (h_q := h) (cl_q := 0) (sl_q := 0) rfl ?_
            refine fw_mul rfl ?_
            refine ik_Wk 3 (pc_q := 8) (loc_q := [some (.ref 45), some (fI 1), some (fI 1), some (fI 2), some (fI 4), none]) (st_q := [fI 4, fI 4]) (h_q := h) (cl_q := 0) (sl_q := 0) rfl ?_
            refine fw_add rfl ?_
            refine ik_Wk 2 (pc_q := 12) (loc_q := [some (.ref 45), some (fI 1), some (fI 1), some (fI 2), some (fI 4), some (fI 8)]) (st_q := [.ref 45]) (h_q := h) (cl_q := 0) (sl_q := 0) rfl ?_
            refine fw_gf rfl rfl h45 rfl ?_
            refine ik_Wk 2 (pc_q := 18) (loc_q := [some (.ref 45), some (fI 1), some (fI 1), some (fI 2), some (fI 4), some (fI 8)]) (st_q := [fI 1, fI 4, .ref 47]) (h_q := h) (cl_q := 0) (sl_q := 0) rfl ?_
            refine fw_add rfl ?_
            refine fx_lal rfl h47 (by omega) (by omega) (by omega) ?_
            refine ik_Wk 1 (pc_q := 21) (loc_q := [some (.ref 45), some (fI 1), some (fI 1), some (fI 2), some (fI 4), some (fI 8)]) (st_q := [.ref 45, fJ (bo_.getD (5 : Int).toNat 0)]) (h_q := h) (cl_q := 0) (sl_q := 0) rfl ?_
            refine fw_gf rfl rfl h45 rfl ?_
            refine ik_Wk 2 (pc_q := 27) (loc_q := [some (.ref 45), some (fI 1), some (fI 1), some (fI 2), some (fI 4), some (fI 8)]) (st_q := [fI 2, fI 8, .ref 47, fJ (bo_.getD (5 : Int).toNat 0)]) (h_q := h) (cl_q := 0) (sl_q := 0) rfl ?_
            refine fw_add rfl ?_
            refine fx_lal rfl h47 (by omega) (by omega) (by omega) ?_
            refine fw_lmul rfl ?_
            refine ik_Wk 1 (pc_q := 31) (loc_q := [some (.ref 45), some (fI 1), some (fI 1), some (fI 2), some (fI 4), some (fI 8)]) (st_q := [.ref 45, fJ ((bo_.getD (5 : Int).toNat 0) * (bo_.getD (10 : Int).toNat 0))]) (h_q := h) (cl_q := 0) (sl_q := 0) rfl ?_
            refine fw_gf rfl rfl h45 rfl ?_
            refine ik_Wk 2 (pc_q := 37) (loc_q := [some (.ref 45), some (fI 1), some (fI 1), some (fI 2), some (fI 4), some (fI 8)]) (st_q := [fI 2, fI 4, .ref 47, fJ ((bo_.getD (5 : Int).toNat 0) * (bo_.getD (10 : Int).toNat 0))]) (h_q := h) (cl_q := 0) (sl_q := 0) rfl ?_
            refine fw_add rfl ?_
            refine fx_lal rfl h47 (by omega) (by omega) (by omega) ?_
            refine ik_Wk 1 (pc_q := 40) (loc_q := [some (.ref 45), some (fI 1), some (fI 1), some (fI 2), some (fI 4), some (fI 8)]) (st_q := [.ref 45, fJ (bo_.getD (6 : Int).toNat 0), fJ ((bo_.getD (5 : Int).toNat 0) * (bo_.getD (10 : Int).toNat 0))]) (h_q := h) (cl_q := 0) (sl_q := 0) rfl ?_
            refine fw_gf rfl rfl h45 rfl ?_
            refine ik_Wk 2 (pc_q := 46) (loc_q := [some (.ref 45), some (fI 1), some (fI 1), some (fI 2), some (fI 4), some (fI 8)]) (st_q := [fI 1, fI 8, .ref 47, fJ (bo_.getD (6 : Int).toNat 0), fJ ((bo_.getD (5 : Int).toNat 0) * (bo_.getD (10 : Int).toNat 0))]) (h_q := h) (cl_q := 0) (sl_q := 0) rfl ?_
            refine fw_add rfl ?_
            refine fx_lal rfl h47 (by omega) (by omega) (by omega) ?_
            refine fw_lmul rfl ?_
            refine fw_lsub rfl ?_
            refine ik_Wret rfl rfl ⟨_, _, rfl, rfl, ?_⟩
            refine ik_Wk 0 (pc_q := 91) (loc_q := [some (.ref 45), some (fI sz), some (fI wt), some (fI 1), some (fI 2), some (fI 2)]) (st_q := [fJ (((bo_.getD (5 : Int).toNat 0) * (bo_.getD (10 : Int).toNat 0)) - ((bo_.getD (6 : Int).toNat 0) * (bo_.getD (9 : Int).toNat 0))), fJ (bo_.getD (2 : Int).toNat 0), fJ ((bo_.getD (1 : Int).toNat 0) * (((bo_.getD (6 : Int).toNat 0) * (bo_.getD (10 : Int).toNat 0)) - ((bo_.getD (6 : Int).toNat 0) * (bo_.getD (10 : Int).toNat 0))))]) (h_q := h) (cl_q := 0) (sl_q := 0) rfl ?_
            refine fw_lmul rfl ?_
            refine fw_lsub rfl ?_
            refine ik_Wk 1 (pc_q := 94) (loc_q := [some (.ref 45), some (fI sz), some (fI wt), some (fI 1), some (fI 2), some (fI 2)]) (st_q := [.ref 45, fJ (((bo_.getD (1 : Int).toNat 0) * (((bo_.getD (6 : Int).toNat 0) * (bo_.getD (10 : Int).toNat 0)) - ((bo_.getD (6 : Int).toNat 0) * (bo_.getD (10 : Int).toNat 0)))) - ((bo_.getD (2 : Int).toNat 0) * (((bo_.getD (5 : Int).toNat 0) * (bo_.getD (10 : Int).toNat 0)) - ((bo_.getD (6 : Int).toNat 0) * (bo_.getD (9 : Int).toNat 0)))))]) (h_q := h) (cl_q := 0) (sl_q := 0) rfl ?_
            refine fw_gf rfl rfl h45 rfl ?_
            refine ik_Wk 1 (pc_q := 99) (loc_q := [some (.ref 45), some (fI sz), some (fI wt), some (fI 1), some (fI 2), some (fI 2)]) (st_q := [fI 2, .ref 47, fJ (((bo_.getD (1 : Int).toNat 0) * (((bo_.getD (6 : Int).toNat 0) * (bo_.getD (10 : Int).toNat 0)) - ((bo_.getD (6 : Int).toNat 0) * (bo_.getD (10 : Int).toNat 0)))) - ((bo_.getD (2 : Int).toNat 0) * (((bo_.getD (5 : Int).toNat 0) * (bo_.getD (10 : Int).toNat 0)) - ((bo_.getD (6 : Int).toNat 0) * (bo_.getD (9 : Int).toNat 0)))))]) (h_q := h) (cl_q := 0) (sl_q := 0) rfl ?_
            refine fx_lal rfl h47 (by omega) (by omega) (by omega) ?_
            refine ik_Wk 4 (pc_q := 105) (loc_q := [some (.ref 45), some (fI sz), some (fI wt), some (fI 1), some (fI 2), some (fI 2)]) (st_q := [fI 2, fI 1, fI 1, .ref 45, fJ (bo_.getD (2 : Int).toNat 0), fJ (((bo_.getD (1 : Int).toNat 0) * (((bo_.getD (6 : Int).toNat 0) * (bo_.getD (10 : Int).toNat 0)) - ((bo_.getD (6 : Int).toNat 0) * (bo_.getD (10 : Int).toNat 0)))) - ((bo_.getD (2 : Int).toNat 0) * (((bo_.getD (5 : Int).toNat 0) * (bo_.getD (10 : Int).toNat 0)) - ((bo_.getD (6 : Int).toNat 0) * (bo_.getD (9 : Int).toNat 0)))))]) (h_q := h) (cl_q := 0) (sl_q := 0) rfl ?_
            refine ik_Wc 50 4 0 [.ref 45, fI 1, fI 1, fI 2] [fJ (bo_.getD (2 : Int).toNat 0), fJ (((bo_.getD (1 : Int).toNat 0) * (((bo_.getD (6 : Int).toNat 0) * (bo_.getD (10 : Int).toNat 0)) - ((bo_.getD (6 : Int).toNat 0) * (bo_.getD (10 : Int).toNat 0)))) - ((bo_.getD (2 : Int).toNat 0) * (((bo_.getD (5 : Int).toNat 0) * (bo_.getD (10 : Int).toNat 0)) - ((bo_.getD (6 : Int).toNat 0) * (bo_.getD (9 : Int).toNat 0)))))] rfl rfl rfl (by decide +kernel) rfl rfl (fw_rec hl rfl h45 rfl (Nat.le_of_ble_eq_true rfl)) ?_
            refine ik_Wk 0 (pc_q := 0) (loc_q := [some (.ref 45), some (fI 1), some (fI 1), some (fI 2), none, none]) (st_q := []) (h_q := h) (cl_q := 0) (sl_q := 0) rfl ?_
            refine ik_Wk 2 (pc_q := 2) (loc_q := [some (.ref 45), some (fI 1), some (fI 1), some (fI 2), none, none]) (st_q := [fI 4, fI 1]) (h_q := h) (cl_q := 0) (sl_q := 0) rfl ?_
            refine fw_mul rfl ?_
            refine ik_Wk 3 (pc_q := 8) (loc_q := [some (.ref 45), some (fI 1), some (fI 1), some (fI 2), some (fI 4), none]) (st_q := [fI 4, fI 4]) (h_q := h) (cl_q := 0) (sl_q := 0) rfl ?_
            refine fw_add rfl ?_
            refine ik_Wk 2 (pc_q := 12) (loc_q := [some (.ref 45), some (fI 1), some (fI 1), some (fI 2), some (fI 4), some (fI 8)]) (st_q := [.ref 45]) (h_q := h) (cl_q := 0) (sl_q := 0) rfl ?_
            refine fw_gf rfl rfl h45 rfl ?_
            refine ik_Wk 2 (pc_q := 18) (loc_q := [some (.ref 45), some (fI 1), some (fI 1), some (fI 2), some (fI 4), some (fI 8)]) (st_q := [fI 1, fI 4, .ref 47]) (h_q := h) (cl_q := 0) (sl_q := 0) rfl ?_
            refine fw_add rfl ?_
            refine fx_lal rfl h47 (by omega) (by omega) (by omega) ?_
            refine ik_Wk 1 (pc_q := 21) (loc_q := [some (.ref 45), some (fI 1), some (fI 1), some (fI 2), some (fI 4), some (fI 8)]) (st_q := [.ref 45, fJ (bo_.getD (5 : Int).toNat 0)]) (h_q := h) (cl_q := 0) (sl_q := 0) rfl ?_
            refine fw_gf rfl rfl h45 rfl ?_
            refine ik_Wk 2 (pc_q := 27) (loc_q := [some (.ref 45), some (fI 1), some (fI 1), some (fI 2), some (fI 4), some (fI 8)]) (st_q := [fI 2, fI 8, .ref 47, fJ (bo_.getD (5 : Int).toNat 0)]) (h_q := h) (cl_q := 0) (sl_q := 0) rfl ?_
            refine fw_add rfl ?_
            refine fx_lal rfl h47 (by omega) (by omega) (by omega) ?_
            refine fw_lmul rfl ?_
            refine ik_Wk 1 (pc_q := 31) (loc_q := [some (.ref 45), some (fI 1), some (fI 1), some (fI 2), some (fI 4), some (fI 8)]) (st_q := [.ref 45, fJ ((bo_.getD (5 : Int).toNat 0) * (bo_.getD (10 : Int).toNat 0))]) (h_q := h) (cl_q := 0) (sl_q := 0) rfl ?_
            refine fw_gf rfl rfl h45 rfl ?_
            refine ik_Wk 2 (pc_q := 37) (loc_q := [some (.ref 45), some (fI 1), some (fI 1), some (fI 2), some (fI 4), some (fI 8)]) (st_q := [fI 2, fI 4, .ref 47, fJ ((bo_.getD (5 : Int).toNat 0) * (bo_.getD (10 : Int).toNat 0))]) (h_q := h) (cl_q := 0) (sl_q := 0) rfl ?_
            refine fw_add rfl ?_
            refine fx_lal rfl h47 (by omega) (by omega) (by omega) ?_
            refine ik_Wk 1 (pc_q := 40) (loc_q := [some (.ref 45), some (fI 1), some (fI 1), some (fI 2), some (fI 4), some (fI 8)]) (st_q := [.ref 45, fJ (bo_.getD (6 : Int).toNat 0), fJ ((bo_.getD (5 : Int).toNat 0) * (bo_.getD (10 : Int).toNat 0))]) (h_q := h) (cl_q := 0) (sl_q := 0) rfl ?_
            refine fw_gf rfl rfl h45 rfl ?_
            refine ik_Wk 2 (pc_q := 46) (loc_q := [some (.ref 45), some (fI 1), some (fI 1), some (fI 2), some (fI 4), some (fI 8)]) (st_q := [fI 1, fI 8, .ref 47, fJ (bo_.getD (6 : Int).toNat 0), fJ ((bo_.getD (5 : Int).toNat 0) * (bo_.getD (10 : Int).toNat 0))]) (h_q := h) (cl_q := 0) (sl_q := 0) rfl ?_
            refine fw_add rfl ?_
            refine fx_lal rfl h47 (by omega) (by omega) (by omega) ?_
            refine fw_lmul rfl ?_
            refine fw_lsub rfl ?_
            refine ik_Wret rfl rfl ⟨_, _, rfl, rfl, ?_⟩
            refine ik_Wk 0 (pc_q := 108) (loc_q := [some (.ref 45), some (fI sz), some (fI wt), some (fI 1), some (fI 2), some (fI 2)]) (st_q := [fJ (((bo_.getD (5 : Int).toNat 0) * (bo_.getD (10 : Int).toNat 0)) - ((bo_.getD (6 : Int).toNat 0) * (bo_.getD (9 : Int).toNat 0))), fJ (bo_.getD (2 : Int).toNat 0), fJ (((bo_.getD (1 : Int).toNat 0) * (((bo_.getD (6 : Int).toNat 0) * (bo_.getD (10 : Int).toNat 0)) - ((bo_.getD (6 : Int).toNat 0) * (bo_.getD (10 : Int).toNat 0)))) - ((bo_.getD (2 : Int).toNat 0) * (((bo_.getD (5 : Int).toNat 0) * (bo_.getD (10 : Int).toNat 0)) - ((bo_.getD (6 : Int).toNat 0) * (bo_.getD (9 : Int).toNat 0)))))]) (h_q := h) (cl_q := 0) (sl_q := 0) rfl ?_
            refine fw_lmul rfl ?_
            refine fw_ladd rfl ?_
            exact ik_Wret rfl rfl ⟨_, _, rfl, rfl, rfl, rfl, ⟨((((bo_.getD (1 : Int).toNat 0) * (((bo_.getD (6 : Int).toNat 0) * (bo_.getD (10 : Int).toNat 0)) - ((bo_.getD (6 : Int).toNat 0) * (bo_.getD (10 : Int).toNat 0)))) - ((bo_.getD (2 : Int).toNat 0) * (((bo_.getD (5 : Int).toNat 0) * (bo_.getD (10 : Int).toNat 0)) - ((bo_.getD (6 : Int).toNat 0) * (bo_.getD (9 : Int).toNat 0))))) + ((bo_.getD (2 : Int).toNat 0) * (((bo_.getD (5 : Int).toNat 0) * (bo_.getD (10 : Int).toNat 0)) - ((bo_.getD (6 : Int).toNat 0) * (bo_.getD (9 : Int).toNat 0))))), rfl, (hfr_refl [] h)⟩⟩
    · refine ik_Wk 5 (pc_q := 24) (loc_q := [some (.ref 45), some (fI sz), some (fI wt), some (fI 1), some (fI 1), none]) (st_q := [fI 2, fI wt]) (h_q := h) (cl_q := 0) (sl_q := 0) rfl ?_
      refine fw_ic_le rfl rfl (by omega) (by omega) (by omega) (by omega) (fun hc8 => ?_) (fun hc8 => ?_)
      · refine ik_Wk 4 (pc_q := 36) (loc_q := [some (.ref 45), some (fI sz), some (fI wt), some (fI 1), some (fI 1), some (fI 3)]) (st_q := [fI 1, fI sz]) (h_q := h) (cl_q := 0) (sl_q := 0) rfl ?_
        refine fw_ic_ne rfl rfl (by omega) (by omega) (by omega) (by omega) (fun hc9 => ?_) (fun hc9 => ?_)
        · refine ik_Wk 1 (pc_q := 40) (loc_q := [some (.ref 45), some (fI sz), some (fI wt), some (fI 1), some (fI 1), some (fI 3)]) (st_q := [.ref 45]) (h_q := h) (cl_q := 0) (sl_q := 0) rfl ?_
          refine fw_gf rfl rfl h45 rfl ?_
          refine ik_Wk 1 (pc_q := 44) (loc_q := [some (.ref 45), some (fI sz), some (fI wt), some (fI 1), some (fI 1), some (fI 3)]) (st_q := [fI 1, .ref 47]) (h_q := h) (cl_q := 0) (sl_q := 0) rfl ?_
          refine fx_lal rfl h47 (by omega) (by omega) (by omega) ?_
          exact ik_Wret rfl rfl ⟨_, _, rfl, rfl, rfl, rfl, ⟨(bo_.getD (1 : Int).toNat 0), rfl, (hfr_refl [] h)⟩⟩
        · refine ik_Wk 2 (pc_q := 48) (loc_q := [some (.ref 45), some (fI sz), some (fI wt), some (fI 1), some (fI 1), some (fI 3)]) (st_q := [fI 2, fI sz]) (h_q := h) (cl_q := 0) (sl_q := 0) rfl ?_
          refine fw_ic_ne rfl rfl (by omega) (by omega) (by omega) (by omega) (fun hc10 => ?_) (fun hc10 => ?_)
          · refine ik_Wk 4 (pc_q := 56) (loc_q := [some (.ref 45), some (fI sz), some (fI wt), some (fI 1), some (fI 1), some (fI 3)]) (st_q := [fI 1, fI 1, fI 0, .ref 45]) (h_q := h) (cl_q := 0) (sl_q := 0) rfl ?_
            refine ik_Wc 50 4 0 [.ref 45, fI 0, fI 1, fI 1] [] rfl rfl rfl (by decide +kernel) rfl rfl (fw_rec hl rfl h45 rfl (Nat.le_of_ble_eq_true rfl)) ?_
            refine ik_Wk 0 (pc_q := 0) (loc_q := [some (.ref 45), some (fI 0), some (fI 1), some (fI 1), none, none]) (st_q := []) (h_q := h) (cl_q := 0) (sl_q := 0) rfl ?_
            refine ik_Wk 2 (pc_q := 2) (loc_q := [some (.ref 45), some (fI 0), some (fI 1), some (fI 1), none, none]) (st_q := [fI 4, fI 0]) (h_q := h) (cl_q := 0) (sl_q := 0) rfl ?_
            refine fw_mul rfl ?_
            refine ik_Wk 3 (pc_q := 8) (loc_q := [some (.ref 45), some (fI 0), some (fI 1), some (fI 1), some (fI 0), none]) (st_q := [fI 4, fI 0]) (h_q := h) (cl_q := 0) (sl_q := 0) rfl ?_
            refine fw_add rfl ?_
            refine ik_Wk 2 (pc_q := 12) (loc_q := [some (.ref 45), some (fI 0), some (fI 1), some (fI 1), some (fI 0), some (fI 4)]) (st_q := [.ref 45]) (h_q := h) (cl_q := 0) (sl_q := 0) rfl ?_
            refine fw_gf rfl rfl h45 rfl ?_
            refine ik_Wk 2 (pc_q := 18) (loc_q := [some (.ref 45), some (fI 0), some (fI 1), some (fI 1), some (fI 0), some (fI 4)]) (st_q := [fI 1, fI 0, .ref 47]) (h_q := h) (cl_q := 0) (sl_q := 0) rfl ?_
            refine fw_add rfl ?_
            refine fx_lal rfl h47 (by omega) (by omega) (by omega) ?_
            refine ik_Wk 1 (pc_q := 21) (loc_q := [some (.ref 45), some (fI 0), some (fI 1), some (fI 1), some (fI 0), some (fI 4)]) (st_q := [.ref 45, fJ (bo_.getD (1 : Int).toNat 0)]) (h_q := h) (cl_q := 0) (sl_q := 0) rfl ?_
            refine fw_gf rfl rfl h45 rfl ?_
            refine ik_Wk 2 (pc_q := 27) (loc_q := [some (.ref 45), some (fI 0), some (fI 1), some (fI 1), some (fI 0), some (fI 4)]) (st_q := [fI 1, fI 4, .ref 47, fJ (bo_.getD (1 : Int).toNat 0)]) (h_q := h) (cl_q := 0) (sl_q := 0) rfl ?_
            refine fw_add rfl ?_
            refine fx_lal rfl h47 (by omega) (by omega) (by omega) ?_
            refine fw_lmul rfl ?_
            refine ik_Wk 1 (pc_q := 31) (loc_q := [some (.ref 45), some (fI 0), some (fI 1), some (fI 1), some (fI 0), some (fI 4)]) (st_q := [.ref 45, fJ ((bo_.getD (1 : Int).toNat 0) * (bo_.getD (5 : Int).toNat 0))]) (h_q := h) (cl_q := 0) (sl_q := 0) rfl ?_
            refine fw_gf rfl rfl h45 rfl ?_
            refine ik_Wk 2 (pc_q := 37) (loc_q := [some (.ref 45), some (fI 0), some (fI 1), some (fI 1), some (fI 0), some (fI 4)]) (st_q := [fI 1, fI 0, .ref 47, fJ ((bo_.getD (1 : Int).toNat 0) * (bo_.getD (5 : Int).toNat 0))]) (h_q := h) (cl_q := 0) (sl_q := 0) rfl ?_
            refine fw_add rfl ?_
            refine fx_lal rfl h47 (by omega) (by omega) (by omega) ?_
            refine ik_Wk 1 (pc_q := 40) (loc_q := [some (.ref 45), some (fI 0), some (fI 1), some (fI 1), some (fI 0), some (fI 4)]) (st_q := [.ref 45, fJ (bo_.getD (1 : Int).toNat 0), fJ ((bo_.getD (1 : Int).toNat 0) * (bo_.getD (5 : Int).toNat 0))]) (h_q := h) (cl_q := 0) (sl_q := 0) rfl ?_
            refine fw_gf rfl rfl h45 rfl ?_
            refine ik_Wk 2 (pc_q := 46) (loc_q := [some (.ref 45), some (fI 0), some (fI 1), some (fI 1), some (fI 0), some (fI 4)]) (st_q := [fI 1, fI 4, .ref 47, fJ (bo_.getD (1 : Int).toNat 0), fJ ((bo_.getD (1 : Int).toNat 0) * (bo_.getD (5 : Int).toNat 0))]) (h_q := h) (cl_q := 0) (sl_q := 0) rfl ?_
            refine fw_add rfl ?_
            refine fx_lal rfl h47 (by omega) (by omega) (by omega) ?_
            refine fw_lmul rfl ?_
            refine fw_lsub rfl ?_
            refine ik_Wret rfl rfl ⟨_, _, rfl, rfl, ?_⟩
            refine ik_Wk 0 (pc_q := 59) (loc_q := [some (.ref 45), some (fI sz), some (fI wt), some (fI 1), some (fI 1), some (fI 3)]) (st_q := [fJ (((bo_.getD (1 : Int).toNat 0) * (bo_.getD (5 : Int).toNat 0)) - ((bo_.getD (1 : Int).toNat 0) * (bo_.getD (5 : Int).toNat 0)))]) (h_q := h) (cl_q := 0) (sl_q := 0) rfl ?_
            exact ik_Wret rfl rfl ⟨_, _, rfl, rfl, rfl, rfl, ⟨(((bo_.getD (1 : Int).toNat 0) * (bo_.getD (5 : Int).toNat 0)) - ((bo_.getD (1 : Int).toNat 0) * (bo_.getD (5 : Int).toNat 0))), rfl, (hfr_refl [] h)⟩⟩
          · refine ik_Wk 1 (pc_q := 61) (loc_q := [some (.ref 45), some (fI sz), some (fI wt), some (fI 1), some (fI 1), some (fI 3)]) (st_q := [.ref 45]) (h_q := h) (cl_q := 0) (sl_q := 0) rfl ?_
            refine fw_gf rfl rfl h45 rfl ?_
            refine ik_Wk 1 (pc_q := 65) (loc_q := [some (.ref 45), some (fI sz), some (fI wt), some (fI 1), some (fI 1), some (fI 3)]) (st_q := [fI 1, .ref 47]) (h_q := h) (cl_q := 0) (sl_q := 0) rfl ?_
            refine fx_lal rfl h47 (by omega) (by omega) (by omega) ?_
            refine ik_Wk 4 (pc_q := 72) (loc_q := [some (.ref 45), some (fI sz), some (fI wt), some (fI 1), some (fI 1), some (fI 3)]) (st_q := [fI 3, fI 1, fI 1, .ref 45, fJ (bo_.getD (1 : Int).toNat 0)]) (h_q := h) (cl_q := 0) (sl_q := 0) rfl ?_
            refine ik_Wc 50 4 0 [.ref 45, fI 1, fI 1, fI 3] [fJ (bo_.getD (1 : Int).toNat 0)] rfl rfl rfl (by decide +kernel) rfl rfl (fw_rec hl rfl h45 rfl (Nat.le_of_ble_eq_true rfl)) ?_
            refine ik_Wk 0 (pc_q := 0) (loc_q := [some (.ref 45), some (fI 1), some (fI 1), some (fI 3), none, none]) (st_q := []) (h_q := h) (cl_q := 0) (sl_q := 0) rfl ?_
            refine ik_Wk 2 (pc_q := 2) (loc_q := [some (.ref 45), some (fI 1), some (fI 1), some (fI 3), none, none]) (st_q := [fI 4, fI 1]) (h_q := h) (cl_q := 0) (sl_q := 0) rfl ?_
            refine fw_mul rfl ?_
            refine ik_Wk 3 (pc_q := 8) (loc_q := [some (.ref 45), some (fI 1), some (fI 1), some (fI 3), some (fI 4), none]) (st_q := [fI 4, fI 4]) (h_q := h) (cl_q := 0) (sl_q := 0) rfl ?_
            refine fw_add rfl ?_
            refine ik_Wk 2 (pc_q := 12) (loc_q := [some (.ref 45), some (fI 1), some (fI 1), some (fI 3), some (fI 4), some (fI 8)]) (st_q := [.ref 45]) (h_q := h) (cl_q := 0) (sl_q := 0) rfl ?_
            refine fw_gf rfl rfl h45 rfl ?_
            refine ik_Wk 2 (pc_q := 18) (loc_q := [some (.ref 45), some (fI 1), some (fI 1), some (fI 3), some (fI 4), some (fI 8)]) (st_q := [fI 1, fI 4, .ref 47]) (h_q := h) (cl_q := 0) (sl_q := 0) rfl ?_
            refine fw_add rfl ?_
            refine fx_lal rfl h47 (by omega) (by omega) (by omega) ?_
            refine ik_Wk 1 (pc_q := 21) (loc_q := [some (.ref 45), some (fI 1), some (fI 1), some (fI 3), some (fI 4), some (fI 8)]) (st_q := [.ref 45, fJ (bo_.getD (5 : Int).toNat 0)]) (h_q := h) (cl_q := 0) (sl_q := 0) rfl ?_
            refine fw_gf rfl rfl h45 rfl ?_
            refine ik_Wk 2 (pc_q := 27) (loc_q := [some (.ref 45), some (fI 1), some (fI 1), some (fI 3), some (fI 4), some (fI 8)]) (st_q := [fI 3, fI 8, .ref 47, fJ (bo_.getD (5 : Int).toNat 0)]) (h_q := h) (cl_q := 0) (sl_q := 0) rfl ?_
            refine fw_add rfl ?_
            refine fx_lal rfl h47 (by omega) (by omega) (by omega) ?_
            refine fw_lmul rfl ?_
            refine ik_Wk 1 (pc_q := 31) (loc_q := [some (.ref 45), some (fI 1), some (fI 1), some (fI 3), some (fI 4), some (fI 8)]) (st_q := [.ref 45, fJ ((bo_.getD (5 : Int).toNat 0) * (bo_.getD (11 : Int).toNat 0))]) (h_q := h) (cl_q := 0) (sl_q := 0) rfl ?_
            refine fw_gf rfl rfl h45 rfl ?_
            refine ik_Wk 2 (pc_q := 37) (loc_q := [some (.ref 45), some (fI 1), some (fI 1), some (fI 3), some (fI 4), some (fI 8)]) (st_q := [fI 3, fI 4, .ref 47, fJ ((bo_.getD (5 : Int).toNat 0) * (bo_.getD (11 : Int).toNat 0))]) (h_q := h) (cl_q := 0) (sl_q := 0) rfl ?_
            refine fw_add rfl ?_
            refine fx_lal rfl h47 (by omega) (by omega) (by omega) ?_
            refine ik_Wk 1 (pc_q := 40) (loc_q := [some (.ref 45), some (fI 1), some (fI 1), some (fI 3), some (fI 4), some (fI 8)]) (st_q := [.ref 45, fJ (bo_.getD (7 : Int).toNat 0), fJ ((bo_.getD (5 : Int).toNat 0) * (bo_.getD (11 : Int).toNat 0))]) (h_q := h) (cl_q := 0) (sl_q := 0) rfl ?_
            refine fw_gf rfl rfl h45 rfl ?_
            refine ik_Wk 2 (pc_q := 46) (loc_q := [some (.ref 45), some (fI 1), some (fI 1), some (fI 3), some (fI 4), some (fI 8)]) (st_q := [fI 1, fI 8, .ref 47, fJ (bo_.getD (7 : Int).toNat 0), fJ ((bo_.getD (5 : Int).toNat 0) * (bo_.getD (11 : Int).toNat 0))]) (h_q := h) (cl_q := 0) (sl_q := 0) rfl ?_
            refine fw_add rfl ?_
            refine fx_lal rfl h47 (by omega) (by omega) (by omega) ?_
            refine fw_lmul rfl ?_
            refine fw_lsub rfl ?_
            refine ik_Wret rfl rfl ⟨_, _, rfl, rfl, ?_⟩
            refine ik_Wk 0 (pc_q := 75) (loc_q := [some (.ref 45), some (fI sz), some (fI wt), some (fI 1), some (fI 1), some (fI 3)]) (st_q := [fJ (((bo_.getD (5 : Int).toNat 0) * (bo_.getD (11 : Int).toNat 0)) - ((bo_.getD (7 : Int).toNat 0) * (bo_.getD (9 : Int).toNat 0))), fJ (bo_.getD (1 : Int).toNat 0)]) (h_q := h) (cl_q := 0) (sl_q := 0) rfl ?_
            refine fw_lmul rfl ?_
            refine ik_Wk 1 (pc_q := 77) (loc_q := [some (.ref 45), some (fI sz), some (fI wt), some (fI 1), some (fI 1), some (fI 3)]) (st_q := [.ref 45, fJ ((bo_.getD (1 : Int).toNat 0) * (((bo_.getD (5 : Int).toNat 0) * (bo_.getD (11 : Int).toNat 0)) - ((bo_.getD (7 : Int).toNat 0) * (bo_.getD (9 : Int).toNat 0))))]) (h_q := h) (cl_q := 0) (sl_q := 0) rfl ?_
            refine fw_gf rfl rfl h45 rfl ?_
            refine ik_Wk 1 (pc_q := 82) (loc_q := [some (.ref 45), some (fI sz), some (fI wt), some (fI 1), some (fI 1), some (fI 3)]) (st_q := [fI 1, .ref 47, fJ ((bo_.getD (1 : Int).toNat 0) * (((bo_.getD (5 : Int).toNat 0) * (bo_.getD (11 : Int).toNat 0)) - ((bo_.getD (7 : Int).toNat 0) * (bo_.getD (9 : Int).toNat 0))))]) (h_q := h) (cl_q := 0) (sl_q := 0) rfl ?_
            refine fx_lal rfl h47 (by omega) (by omega) (by omega) ?_
            refine ik_Wk 4 (pc_q := 88) (loc_q := [some (.ref 45), some (fI sz), some (fI wt), some (fI 1), some (fI 1), some (fI 3)]) (st_q := [fI 3, fI 1, fI 1, .ref 45, fJ (bo_.getD (1 : Int).toNat 0), fJ ((bo_.getD (1 : Int).toNat 0) * (((bo_.getD (5 : Int).toNat 0) * (bo_.getD (11 : Int).toNat 0)) - ((bo_.getD (7 : Int).toNat 0) * (bo_.getD (9 : Int).toNat 0))))]) (h_q := h) (cl_q := 0) (sl_q := 0) rfl ?_
            refine ik_Wc 50 4 0 [.ref 45, fI 1, fI 1, fI 3] [fJ (bo_.getD (1 : Int).toNat 0), fJ ((bo_.getD (1 : Int).toNat 0) * (((bo_.getD (5 : Int).toNat 0) * (bo_.getD (11 : Int).toNat 0)) - ((bo_.getD (7 : Int).toNat 0) * (bo_.getD (9 : Int).toNat 0))))] rfl rfl rfl (by decide +kernel) rfl rfl (fw_rec hl rfl h45 rfl (Nat.le_of_ble_eq_true rfl)) ?_
            refine ik_Wk 0 (pc_q := 0) (loc_q := [some (.ref 45), some (fI 1), some (fI 1), some (fI 3), none, none]) (st_q := []) (h_q := h) (cl_q := 0) (sl_q := 0) rfl ?_
            refine ik_Wk 2 (pc_q := 2) (loc_q := [some (.ref 45), some (fI 1), some (fI 1), some (fI 3), none, none]) (st_q := [fI 4, fI 1]) (h_q := h) (cl_q := 0) (sl_q := 0) rfl ?_
            refine fw_mul rfl ?_
            refine ik_Wk 3 (pc_q := 8) (loc_q := [some (.ref 45), some (fI 1), some (fI 1), some (fI 3), some (fI 4), none]) (st_q := [fI 4, fI 4]) (h_q := h) (cl_q := 0) (sl_q := 0) rfl ?_
            refine fw_add rfl ?_
            refine ik_Wk 2 (pc_q := 12) (loc_q := [some (.ref 45), some (fI 1), some (fI 1), some (fI 3), some (fI 4), some (fI 8)]) (st_q := [.ref 45]) (h_q := h) (cl_q := 0) (sl_q := 0) rfl ?_
            refine fw_gf rfl rfl h45 rfl ?_
            refine ik_Wk 2 (pc_q := 18) (loc_q := [some (.ref 45), some (fI 1), some (fI 1), some (fI 3), some (fI 4), some (fI 8)]) (st_q := [fI 1, fI 4, .ref 47]) (h_q := h) (cl_q := 0) (sl_q := 0) rfl ?_
            refine fw_add rfl ?_
            refine fx_lal rfl h47 (by omega) (by omega) (by omega) ?_
            refine ik_Wk 1 (pc_q := 21) (loc_q := [some (.ref 45), some (fI 1), some (fI 1), some (fI 3), some (fI 4), some (fI 8)]) (st_q := [.ref 45, fJ (bo_.getD (5 : Int).toNat 0)]) (h_q := h) (cl_q := 0) (sl_q := 0) rfl ?_
            refine fw_gf rfl rfl h45 rfl ?_
            refine ik_Wk 2 (pc_q := 27) (loc_q := [some (.ref 45), some (fI 1), some (fI 1), some (fI 3), some (fI 4), some (fI 8)]) (st_q := [fI 3, fI 8, .ref 47, fJ (bo_.getD (5 : Int).toNat 0)]) (h_q := h) (cl_q := 0) (sl_q := 0) rfl ?_
            refine fw_add rfl ?_
            refine fx_lal rfl h47 (by omega) (by omega) (by omega) ?_
            refine fw_lmul rfl ?_
            refine ik_Wk 1 (pc_q := 31) (loc_q := [some (.ref 45), some (fI 1), some (fI 1), some (fI 3), some (fI 4), some (fI 8)]) (st_q := [.ref 45, fJ ((bo_.getD (5 : Int).toNat 0) * (bo_.getD (11 : Int).toNat 0))]) (h_q := h) (cl_q := 0) (sl_q := 0) rfl ?_
            refine fw_gf rfl rfl h45 rfl ?_
            refine ik_Wk 2 (pc_q := 37) (loc_q := [some (.ref 45), some (fI 1), some (fI 1), some (fI 3), some (fI 4), some (fI 8)]) (st_q := [fI 3, fI 4, .ref 47, fJ ((bo_.getD (5 : Int).toNat 0) * (bo_.getD (11 : Int).toNat 0))]) (h_q := h) (cl_q := 0) (sl_q := 0) rfl ?_
            refine fw_add rfl ?_
            refine fx_lal rfl h47 (by omega) (by omega) (by omega) ?_
            refine ik_Wk 1 (pc_q := 40) (loc_q := [some (.ref 45), some (fI 1), some (fI 1), some (fI 3), some (fI 4), some (fI 8)]) (st_q := [.ref 45, fJ (bo_.getD (7 : Int).toNat 0), fJ ((bo_.getD (5 : Int).toNat 0) * (bo_.getD (11 : Int).toNat 0))]) (h_q := h) (cl_q := 0) (sl_q := 0) rfl ?_
            refine fw_gf rfl rfl h45 rfl ?_
            refine ik_Wk 2 (pc_q := 46) (loc_q := [some (.ref 45), some (fI 1), some (fI 1), some (fI 3), some (fI 4), some (fI 8)]) (st_q := [fI 1, fI 8, .ref 47, fJ (bo_.getD (7 : Int).toNat 0), fJ ((bo_.getD (5 : Int).toNat 0) * (bo_.getD (11 : Int).toNat 0))]) (h_q := h) (cl_q := 0) (sl_q := 0) rfl ?_
            refine fw_add rfl ?_
            refine fx_lal rfl h47 (by omega) (by omega) (by omega) ?_
            refine fw_lmul rfl ?_
            refine fw_lsub rfl ?_
            refine ik_Wret rfl rfl ⟨_, _, rfl, rfl, ?_⟩
            refine ik_Wk 0 (pc_q := 91) (loc_q := [some (.ref 45), some (fI sz), some (fI wt), some (fI 1), some (fI 1), some (fI 3)]) (st_q := [fJ (((bo_.getD (5 : Int).toNat 0) * (bo_.getD (11 : Int).toNat 0)) - ((bo_.getD (7 : Int).toNat 0) * (bo_.getD (9 : Int).toNat 0))), fJ (bo_.getD (1 : Int).toNat 0), fJ ((bo_.getD (1 : Int).toNat 0) * (((bo_.getD (5 : Int).toNat 0) * (bo_.getD (11 : Int).toNat 0)) - ((bo_.getD (7 : Int).toNat 0) * (bo_.getD (9 : Int).toNat 0))))]) (h_q := h) (cl_q := 0) (sl_q := 0) rfl ?_
            refine fw_lmul rfl ?_
            refine fw_lsub rfl ?_
            refine ik_Wk 1 (pc_q := 94) (loc_q := [some (.ref 45), some (fI sz), some (fI wt), some (fI 1), some (fI 1), some (fI 3)]) (st_q := [.ref 45, fJ (((bo_.getD (1 : Int).toNat 0) * (((bo_.getD (5 : Int).toNat 0) * (bo_.getD (11 : Int).toNat 0)) - ((bo_.getD (7 : Int).toNat 0) * (bo_.getD (9 : Int).toNat 0)))) - ((bo_.getD (1 : Int).toNat 0) * (((bo_.getD (5 : Int).toNat 0) * (bo_.getD (11 : Int).toNat 0)) - ((bo_.getD (7 : Int).toNat 0) * (bo_.getD (9 : Int).toNat 0)))))]) (h_q := h) (cl_q := 0) (sl_q := 0) rfl ?_
            refine fw_gf rfl rfl h45 rfl ?_
            refine ik_Wk 1 (pc_q := 99) (loc_q := [some (.ref 45), some (fI sz), some (fI wt), some (fI 1), some (fI 1), some (fI 3)]) (st_q := [fI 3, .ref 47, fJ (((bo_.getD (1 : Int).toNat 0) * (((bo_.getD (5 : Int).toNat 0) * (bo_.getD (11 : Int).toNat 0)) - ((bo_.getD (7 : Int).toNat 0) * (bo_.getD (9 : Int).toNat 0)))) - ((bo_.getD (1 : Int).toNat 0) * (((bo_.getD (5 : Int).toNat 0) * (bo_.getD (11 : Int).toNat 0)) - ((bo_.getD (7 : Int).toNat 0) * (bo_.getD (9 : Int).toNat 0)))))]) (h_q := h) (cl_q := 0) (sl_q := 0) rfl ?_
            refine fx_lal rfl h47 (by omega) (by omega) (by omega) ?_
            refine ik_Wk 4 (pc_q := 105) (loc_q := [some (.ref 45), some (fI sz), some (fI wt), some (fI 1), some (fI 1), some (fI 3)]) (st_q := [fI 1, fI 1, fI 1, .ref 45, fJ (bo_.getD (3 : Int).toNat 0), fJ (((bo_.getD (1 : Int).toNat 0) * (((bo_.getD (5 : Int).toNat 0) * (bo_.getD (11 : Int).toNat 0)) - ((bo_.getD (7 : Int).toNat 0) * (bo_.getD (9 : Int).toNat 0)))) - ((bo_.getD (1 : Int).toNat 0) * (((bo_.getD (5 : Int).toNat 0) * (bo_.getD (11 : Int).toNat 0)) - ((bo_.getD (7 : Int).toNat 0) * (bo_.getD (9 : Int).toNat 0)))))]) (h_q := h) (cl_q := 0) (sl_q := 0) rfl ?_
            refine ik_Wc 50 4 0 [.ref 45, fI 1, fI 1, fI 1] [fJ (bo_.getD (3 : Int).toNat 0), fJ (((bo_.getD (1 : Int).toNat 0) * (((bo_.getD (5 : Int).toNat 0) * (bo_.getD (11 : Int).toNat 0)) - ((bo_.getD (7 : Int).toNat 0) * (bo_.getD (9 : Int).toNat 0)))) - ((bo_.getD (1 : Int).toNat 0) * (((bo_.getD (5 : Int).toNat 0) * (bo_.getD (11 : Int).toNat 0)) - ((bo_.getD (7 : Int).toNat 0) * (bo_.getD (9 : Int).toNat 0)))))] rfl rfl rfl (by decide +kernel) rfl rfl (fw_rec hl rfl h45 rfl (Nat.le_of_ble_eq_true rfl)) ?_
            refine ik_Wk 0 (pc_q := 0) (loc_q := [some (.ref 45), some (fI 1), some (fI 1), some (fI 1), none, none]) (st_q := []) (h_q := h) (cl_q := 0) (sl_q := 0) rfl ?_
            refine ik_Wk 2 (pc_q := 2) (loc_q := [some (.ref 45), some (fI 1), some (fI 1), some (fI 1), none, none]) (st_q := [fI 4, fI 1]) (h_q := h) (cl_q := 0) (sl_q := 0) rfl ?_
            refine fw_mul rfl ?_
            refine ik_Wk 3 (pc_q := 8) (loc_q := [some (.ref 45), some (fI 1), some (fI 1), some (fI 1), some (fI 4), none]) (st_q := [fI 4, fI 4]) (h_q := h) (cl_q := 0) (sl_q := 0) rfl ?_
            refine fw_add rfl ?_
            refine ik_Wk 2 (pc_q := 12) (loc_q := [some (.ref 45), some (fI 1), some (fI 1), some (fI 1), some (fI 4), some (fI 8)]) (st_q := [.ref 45]) (h_q := h) (cl_q := 0) (sl_q := 0) rfl ?_
            refine fw_gf rfl rfl h45 rfl ?_
            refine ik_Wk 2 (pc_q := 18) (loc_q := [some (.ref 45), some (fI 1), some (fI 1), some (fI 1), some (fI 4), some (fI 8)]) (st_q := [fI 1, fI 4, .ref 47]) (h_q := h) (cl_q := 0) (sl_q := 0) rfl ?_
            refine fw_add rfl ?_
            refine fx_lal rfl h47 (by omega) (by omega) (by omega) ?_
            refine ik_Wk 1 (pc_q := 21) (loc_q := [some (.ref 45), some (fI 1), some (fI 1), some (fI 1), some (fI 4), some (fI 8)]) (st_q := [.ref 45, fJ (bo_.getD (5 : Int).toNat 0)]) (h_q := h) (cl_q := 0) (sl_q := 0) rfl ?_
            refine fw_gf rfl rfl h45 rfl ?_
            refine ik_Wk 2 (pc_q := 27) (loc_q := [some (.ref 45), some (fI 1), some (fI 1), some (fI 1), some (fI 4), some (fI 8)]) (st_q := [fI 1, fI 8, .ref 47, fJ (bo_.getD (5 : Int).toNat 0)]) (h_q := h) (cl_q := 0) (sl_q := 0) rfl ?_
            refine fw_add rfl ?_
            refine fx_lal rfl h47 (by omega) (by omega) (by omega) ?_
            refine fw_lmul rfl ?_
            refine ik_Wk 1 (pc_q := 31) (loc_q := [some (.ref 45), some (fI 1), some (fI 1), some (fI 1), some (fI 4), some (fI 8)]) (st_q := [.ref 45, fJ ((bo_.getD (5 : Int).toNat 0) * (bo_.getD (9 : Int).toNat 0))]) (h_q := h) (cl_q := 0) (sl_q := 0) rfl ?_
            refine fw_gf rfl rfl h45 rfl ?_
            refine ik_Wk 2 (pc_q := 37) (loc_q := [some (.ref 45), some (fI 1), some (fI 1), some (fI 1), some (fI 4), some (fI 8)]) (st_q := [fI 1, fI 4, .ref 47, fJ ((bo_.getD (5 : Int).toNat 0) * (bo_.getD (9 : Int).toNat 0))]) (h_q := h) (cl_q := 0) (sl_q := 0) rfl ?_
            refine fw_add rfl ?_
            refine fx_lal rfl h47 (by omega) (by omega) (by omega) ?_
            refine ik_Wk 1 (pc_q := 40) (loc_q := [some (.ref 45), some (fI 1), some (fI 1), some (fI 1), some (fI 4), some (fI 8)]) (st_q := [.ref 45, fJ (bo_.getD (5 : Int).toNat 0), fJ ((bo_.getD (5 : Int).toNat 0) * (bo_.getD (9 : Int).toNat 0))]) (h_q := h) (cl_q := 0) (sl_q := 0) rfl ?_
            refine fw_gf rfl rfl h45 rfl ?_
            refine ik_Wk 2 (pc_q := 46) (loc_q := [some (.ref 45), some (fI 1), some (fI 1), some (fI 1), some (fI 4), some (fI 8)]) (st_q := [fI 1, fI 8, .ref 47, fJ (bo_.getD (5 : Int).toNat 0), fJ ((bo_.getD (5 : Int).toNat 0) * (bo_.getD (9 : Int).toNat 0))]) (h_q := h) (cl_q := 0) (sl_q := 0) rfl ?_
            refine fw_add rfl ?_
            refine fx_lal rfl h47 (by omega) (by omega) (by omega) ?_
            refine fw_lmul rfl ?_
            refine fw_lsub rfl ?_
            refine ik_Wret rfl rfl ⟨_, _, rfl, rfl, ?_⟩
            refine ik_Wk 0 (pc_q := 108) (loc_q := [some (.ref 45), some (fI sz), some (fI wt), some (fI 1), some (fI 1), some (fI 3)]) (st_q := [fJ (((bo_.getD (5 : Int).toNat 0) * (bo_.getD (9 : Int).toNat 0)) - ((bo_.getD (5 : Int).toNat 0) * (bo_.getD (9 : Int).toNat 0))), fJ (bo_.getD (3 : Int).toNat 0), fJ (((bo_.getD (1 : Int).toNat 0) * (((bo_.getD (5 : Int).toNat 0) * (bo_.getD (11 : Int).toNat 0)) - ((bo_.getD (7 : Int).toNat 0) * (bo_.getD (9 : Int).toNat 0)))) - ((bo_.getD (1 : Int).toNat 0) * (((bo_.getD (5 : Int).toNat 0) * (bo_.getD (11 : Int).toNat 0)) - ((bo_.getD (7 : Int).toNat 0) * (bo_.getD (9 : Int).toNat 0)))))]) (h_q := h) (cl_q := 0) (sl_q := 0) rfl ?_
            refine fw_lmul rfl ?_
            refine fw_ladd rfl ?_
            exact ik_Wret rfl rfl ⟨_, _, rfl, rfl, rfl, rfl, ⟨((((bo_.getD (1 : Int).toNat 0) * (((bo_.getD (5 : Int).toNat 0) * (bo_.getD (11 : Int).toNat 0)) - ((bo_.getD (7 : Int).toNat 0) * (bo_.getD (9 : Int).toNat 0)))) - ((bo_.getD (1 : Int).toNat 0) * (((bo_.getD (5 : Int).toNat 0) * (bo_.getD (11 : Int).toNat 0)) - ((bo_.getD (7 : Int).toNat 0) * (bo_.getD (9 : Int).toNat 0))))) + ((bo_.getD (3 : Int).toNat 0) * (((bo_.getD (5 : Int).toNat 0) * (bo_.getD (9 : Int).toNat 0)) - ((bo_.getD (5 : Int).toNat 0) * (bo_.getD (9 : Int).toNat 0))))), rfl, (hfr_refl [] h)⟩⟩
      · refine ik_Wk 5 (pc_q := 36) (loc_q := [some (.ref 45), some (fI sz), some (fI wt), some (fI 1), some (fI 1), some (fI 2)]) (st_q := [fI 1, fI sz]) (h_q := h) (cl_q := 0) (sl_q := 0) rfl ?_
        refine fw_ic_ne rfl rfl (by omega) (by omega) (by omega) (by omega) (fun hc11 => ?_) (fun hc11 => ?_)
        · refine ik_Wk 1 (pc_q := 40) (loc_q := [some (.ref 45), some (fI sz), some (fI wt), some (fI 1), some (fI 1), some (fI 2)]) (st_q := [.ref 45]) (h_q := h) (cl_q := 0) (sl_q := 0) rfl ?_
          refine fw_gf rfl rfl h45 rfl ?_
          refine ik_Wk 1 (pc_q := 44) (loc_q := [some (.ref 45), some (fI sz), some (fI wt), some (fI 1), some (fI 1), some (fI 2)]) (st_q := [fI 1, .ref 47]) (h_q := h) (cl_q := 0) (sl_q := 0) rfl ?_
          refine fx_lal rfl h47 (by omega) (by omega) (by omega) ?_
          exact ik_Wret rfl rfl ⟨_, _, rfl, rfl, rfl, rfl, ⟨(bo_.getD (1 : Int).toNat 0), rfl, (hfr_refl [] h)⟩⟩
        · refine ik_Wk 2 (pc_q := 48) (loc_q := [some (.ref 45), some (fI sz), some (fI wt), some (fI 1), some (fI 1), some (fI 2)]) (st_q := [fI 2, fI sz]) (h_q := h) (cl_q := 0) (sl_q := 0) rfl ?_
          refine fw_ic_ne rfl rfl (by omega) (by omega) (by omega) (by omega) (fun hc12 => ?_) (fun hc12 => ?_)
          · refine ik_Wk 4 (pc_q := 56) (loc_q := [some (.ref 45), some (fI sz), some (fI wt), some (fI 1), some (fI 1), some (fI 2)]) (st_q := [fI 1, fI 1, fI 0, .ref 45]) (h_q := h) (cl_q := 0) (sl_q := 0) rfl ?_
            refine ik_Wc 50 4 0 [.ref 45, fI 0, fI 1, fI 1] [] rfl rfl rfl (by decide +kernel) rfl rfl (fw_rec hl rfl h45 rfl (Nat.le_of_ble_eq_true rfl)) ?_
            refine ik_Wk 0 (pc_q := 0) (loc_q := [some (.ref 45), some (fI 0), some (fI 1), some (fI 1), none, none]) (st_q := []) (h_q := h) (cl_q := 0) (sl_q := 0) rfl ?_
            refine ik_Wk 2 (pc_q := 2) (loc_q := [some (.ref 45), some (fI 0), some (fI 1), some (fI 1), none, none]) (st_q := [fI 4, fI 0]) (h_q := h) (cl_q := 0) (sl_q := 0) rfl ?_
            refine fw_mul rfl ?_
            refine ik_Wk 3 (pc_q := 8) (loc_q := [some (.ref 45), some (fI 0), some (fI 1), some (fI 1), some (fI 0), none]) (st_q := [fI 4, fI 0]) (h_q := h) (cl_q := 0) (sl_q := 0) rfl ?_
            refine fw_add rfl ?_
            refine ik_Wk 2 (pc_q := 12) (loc_q := [some (.ref 45), some (fI 0), some (fI 1), some (fI 1), some (fI 0), some (fI 4)]) (st_q := [.ref 45]) (h_q := h) (cl_q := 0) (sl_q := 0) rfl ?_
            refine fw_gf rfl rfl h45 rfl ?_
            refine ik_Wk 2 (pc_q := 18) (loc_q := [some (.ref 45), some (fI 0), some (fI 1), some (fI 1), some (fI 0), some (fI 4)]) (st_q := [fI 1, fI 0, .ref 47]) (h_q := h) (cl_q := 0) (sl_q := 0) rfl ?_
            refine fw_add rfl ?_
            refine fx_lal rfl h47 (by omega) (by omega) (by omega) ?_
            refine ik_Wk 1 (pc_q := 21) (loc_q := [some (.ref 45), some (fI 0), some (fI 1), some (fI 1), some (fI 0), some (fI 4)]) (st_q := [.ref 45, fJ (bo_.getD (1 : Int).toNat 0)]) (h_q := h) (cl_q := 0) (sl_q := 0) rfl ?_
            refine fw_gf rfl rfl h45 rfl ?_
            refine ik_Wk 2 (pc_q := 27) (loc_q := [some (.ref 45), some (fI 0), some (fI 1), some (fI 1), some (fI 0), some (fI 4)]) (st_q := [fI 1, fI 4, .ref 47, fJ (bo_.getD (1 : Int).toNat 0)]) (h_q := h) (cl_q := 0) (sl_q := 0) rfl ?_
            refine fw_add rfl ?_
            refine fx_lal rfl h47 (by omega) (by omega) (by omega) ?_
            refine fw_lmul rfl ?_
            refine ik_Wk 1 (pc_q := 31) (loc_q := [some (.ref 45), some (fI 0), some (fI 1), some (fI 1), some (fI 0), some (fI 4)]) (st_q := [.ref 45, fJ ((bo_.getD (1 : Int).toNat 0) * (bo_.getD (5 : Int).toNat 0))]) (h_q := h) (cl_q := 0) (sl_q := 0) rfl ?_
            refine fw_gf rfl rfl h45 rfl ?_
            refine ik_Wk 2 (pc_q := 37) (loc_q := [some (.ref 45), some (fI 0), some (fI 1), some (fI 1), some (fI 0), some (fI 4)]) (st_q := [fI 1, fI 0, .ref 47, fJ ((bo_.getD (1 : Int).toNat 0) * (bo_.getD (5 : Int).toNat 0))]) (h_q := h) (cl_q := 0) (sl_q := 0) rfl ?_
            refine fw_add rfl ?_
            refine fx_lal rfl h47 (by omega) (by omega) (by omega) ?_
            refine ik_Wk 1 (pc_q := 40) (loc_q := [some (.ref 45), some (fI 0), some (fI 1), some (fI 1), some (fI 0), some (fI 4)]) (st_q := [.ref 45, fJ (bo_.getD (1 : Int).toNat 0), fJ ((bo_.getD (1 : Int).toNat 0) * (bo_.getD (5 : Int).toNat 0))]) (h_q := h) (cl_q := 0) (sl_q := 0) rfl ?_
            refine fw_gf rfl rfl h45 rfl ?_
            refine ik_Wk 2 (pc_q := 46) (loc_q := [some (.ref 45), some (fI 0), some (fI 1), some (fI 1), some (fI 0), some (fI 4)]) (st_q := [fI 1, fI 4, .ref 47, fJ (bo_.getD (1 : Int).toNat 0), fJ ((bo_.getD (1 : Int).toNat 0) * (bo_.getD (5 : Int).toNat 0))]) (h_q := h) (cl_q := 0) (sl_q := 0) rfl ?_
            refine fw_add rfl ?_
            refine fx_lal rfl h47 (by omega) (by omega) (by omega) ?_
            refine fw_lmul rfl ?_
            refine fw_lsub rfl ?_
            refine ik_Wret rfl rfl ⟨_, _, rfl, rfl, ?_⟩
            refine ik_Wk 0 (pc_q := 59) (loc_q := [some (.ref 45), some (fI sz), some (fI wt), some (fI 1), some (fI 1), some (fI 2)]) (st_q := [fJ (((bo_.getD (1 : Int).toNat 0) * (bo_.getD (5 : Int).toNat 0)) - ((bo_.getD (1 : Int).toNat 0) * (bo_.getD (5 : Int).toNat 0)))]) (h_q := h) (cl_q := 0) (sl_q := 0) rfl ?_
            exact ik_Wret rfl rfl ⟨_, _, rfl, rfl, rfl, rfl, ⟨(((bo_.getD (1 : Int).toNat 0) * (bo_.getD (5 : Int).toNat 0)) - ((bo_.getD (1 : Int).toNat 0) * (bo_.getD (5 : Int).toNat 0))), rfl, (hfr_refl [] h)⟩⟩
          · refine ik_Wk 1 (pc_q := 61) (loc_q := [some (.ref 45), some (fI sz), some (fI wt), some (fI 1), some (fI 1), some (fI 2)]) (st_q := [.ref 45]) (h_q := h) (cl_q := 0) (sl_q := 0) rfl ?_
            refine fw_gf rfl rfl h45 rfl ?_
            refine ik_Wk 1 (pc_q := 65) (loc_q := [some (.ref 45), some (fI sz), some (fI wt), some (fI 1), some (fI 1), some (fI 2)]) (st_q := [fI 1, .ref 47]) (h_q := h) (cl_q := 0) (sl_q := 0) rfl ?_
            refine fx_lal rfl h47 (by omega) (by omega) (by omega) ?_
            refine ik_Wk 4 (pc_q := 72) (loc_q := [some (.ref 45), some (fI sz), some (fI wt), some (fI 1), some (fI 1), some (fI 2)]) (st_q := [fI 2, fI 1, fI 1, .ref 45, fJ (bo_.getD (1 : Int).toNat 0)]) (h_q := h) (cl_q := 0) (sl_q := 0) rfl ?_
            refine ik_Wc 50 4 0 [.ref 45, fI 1, fI 1, fI 2] [fJ (bo_.getD (1 : Int).toNat 0)] rfl rfl rfl (by decide +kernel) rfl rfl (fw_rec hl rfl h45 rfl (Nat.le_of_ble_eq_true rfl)) ?_
            refine ik_Wk 0 (pc_q := 0) (loc_q := [some (.ref 45), some (fI 1), some (fI 1), some (fI 2), none, none]) (st_q := []) (h_q := h) (cl_q := 0) (sl_q := 0) rfl ?_
            refine ik_Wk 2 (pc_q := 2) (loc_q := [some (.ref 45), some (fI 1), some (fI 1), some (fI 2), none, none]) (st_q := [fI 4, fI 1]) (h_q := h) (cl_q := 0) (sl_q := 0) rfl ?_
            refine fw_mul rfl ?_
            refine ik_Wk 3 (pc_q := 8) (loc_q := [some (.ref 45), some (fI 1), some (fI 1), some (fI 2), some (fI 4), none]) (st_q := [fI 4, fI 4]) (h_q := h) (cl_q := 0) (sl_q := 0) rfl ?_
            refine fw_add rfl ?_
            refine ik_Wk 2 (pc_q := 12) (loc_q := [some (.ref 45), some (fI 1), some (fI 1), some (fI 2), some (fI 4), some (fI 8)]) (st_q := [.ref 45]) (h_q := h) (cl_q := 0) (sl_q := 0) rfl ?_
            refine fw_gf rfl rfl h45 rfl ?_
            refine ik_Wk 2 (pc_q := 18) (loc_q := [some (.ref 45), some (fI 1), some (fI 1), some (fI 2), some (fI 4), some (fI 8)]) (st_q := [fI 1, fI 4, .ref 47]) (h_q := h) (cl_q := 0) (sl_q := 0) rfl ?_
            refine fw_add rfl ?_
            refine fx_lal rfl h47 (by omega) (by omega) (by omega) ?_
            refine ik_Wk 1 (pc_q := 21) (loc_q := [some (.ref 45), some (fI 1), some (fI 1), some (fI 2), some (fI 4), some (fI 8)]) (st_q := [.ref 45, fJ (bo_.getD (5 : Int).toNat 0)]) (h_q := h) (cl_q := 0) (sl_q := 0) rfl ?_
            refine fw_gf rfl rfl h45 rfl ?_
            refine ik_Wk 2 (pc_q := 27) (loc_q := [some (.ref 45), some (fI 1), some (fI 1), some (fI 2), some (fI 4), some (fI 8)]) (st_q := [fI 2, fI 8, .ref 47, fJ (bo_.getD (5 : Int).toNat 0)]) (h_q := h) (cl_q := 0) (sl_q := 0) rfl ?_
            refine fw_add rfl ?_
            refine fx_lal rfl h47 (by omega) (by omega) (by omega) ?_
            refine fw_lmul rfl ?_
            refine ik_Wk 1 (pc_q := 31) (loc_q := [some (.ref 45), some (fI 1), some (fI 1), some (fI 2), some (fI 4), some (fI 8)]) (st_q := [.ref 45, fJ ((bo_.getD (5 : Int).toNat 0) * (bo_.getD (10 : Int).toNat 0))]) (h_q := h) (cl_q := 0) (sl_q := 0) rfl ?_
            refine fw_gf rfl rfl h45 rfl ?_
            refine ik_Wk 2 (pc_q := 37) (loc_q := [some (.ref 45), some (fI 1), some (fI 1), some (fI 2), some (fI 4), some (fI 8)]) (st_q := [fI 2, fI 4, .ref 47, fJ ((bo_.getD (5 : Int).toNat 0) * (bo_.getD (10 : Int).toNat 0))]) (h_q := h) (cl_q := 0) (sl_q := 0) rfl ?_
            refine fw_add rfl ?_
            refine fx_lal rfl h47 (by omega) (by omega) (by omega) ?_
            refine ik_Wk 1 (pc_q := 40) (loc_q := [some (.ref 45), some (fI 1), some (fI 1), some (fI 2), some (fI 4), some (fI 8)]) (st_q := [.ref 45, fJ (bo_.getD (6 : Int).toNat 0), fJ ((bo_.getD (5 : Int).toNat 0) * (bo_.getD (10 : Int).toNat 0))]) (h_q := h) (cl_q := 0) (sl_q := 0) rfl ?_
            refine fw_gf rfl rfl h45 rfl ?_
            refine ik_Wk 2 (pc_q := 46) (loc_q := [some (.ref 45), some (fI 1), some (fI 1), some (fI 2), some (fI 4), some (fI 8)]) (st_q := [fI 1, fI 8, .ref 47, fJ (bo_.getD (6 : Int).toNat 0), fJ ((bo_.getD (5 : Int).toNat 0) * (bo_.getD (10 : Int).toNat 0))]) (h_q := h) (cl_q := 0) (sl_q := 0) rfl ?_
            refine fw_add rfl ?_
            refine fx_lal rfl h47 (by omega) (by omega) (by omega) ?_
            refine fw_lmul rfl ?_
            refine fw_lsub rfl ?_
            refine ik_Wret rfl rfl ⟨_, _, rfl, rfl, ?_⟩
            refine ik_Wk 0 (pc_q := 75) (loc_q := [some (.ref 45), some (fI sz), some (fI wt), some (fI 1), some (fI 1), some (fI 2)]) (st_q := [fJ (((bo_.getD (5 : Int).toNat 0) * (bo_.getD (10 : Int).toNat 0)) - ((bo_.getD (6 : Int).toNat 0) * (bo_.getD (9 : Int).toNat 0))), fJ (bo_.getD (1 : Int).toNat 0)]) (h_q := h) (cl_q := 0) (sl_q := 0) rfl ?_
            refine fw_lmul rfl ?_
            refine ik_Wk 1 (pc_q := 77) (loc_q := [some (.ref 45), some (fI sz), some (fI wt), some (fI 1), some (fI 1), some (fI 2)]) (st_q := [.ref 45, fJ ((bo_.getD (1 : Int).toNat 0) * (((bo_.getD (5 : Int).toNat 0) * (bo_.getD (10 : Int).toNat 0)) - ((bo_.getD (6 : Int).toNat 0) * (bo_.getD (9 : Int).toNat 0))))]) (h_q := h) (cl_q := 0) (sl_q := 0) rfl ?_
            refine fw_gf rfl rfl h45 rfl ?_
            refine ik_Wk 1 (pc_q := 82) (loc_q := [some (.ref 45), some (fI sz), some (fI wt), some (fI 1), some (fI 1), some (fI 2)]) (st_q := [fI 1, .ref 47, fJ ((bo_.getD (1 : Int).toNat 0) * (((bo_.getD (5 : Int).toNat 0) * (bo_.getD (10 : Int).toNat 0)) - ((bo_.getD (6 : Int).toNat 0) * (bo_.getD (9 : Int).toNat 0))))]) (h_q := h) (cl_q := 0) (sl_q := 0) rfl ?_
            refine fx_lal rfl h47 (by omega) (by omega) (by omega) ?_
            refine ik_Wk 4 (pc_q := 88) (loc_q := [some (.ref 45), some (fI sz), some (fI wt), some (fI 1), some (fI 1), some (fI 2)]) (st_q := [fI 2, fI 1, fI 1, .ref 45, fJ (bo_.getD (1 : Int).toNat 0), fJ ((bo_.getD (1 : Int).toNat 0) * (((bo_.getD (5 : Int).toNat 0) * (bo_.getD (10 : Int).toNat 0)) - ((bo_.getD (6 : Int).toNat 0) * (bo_.getD (9 : Int).toNat 0))))]) (h_q := h) (cl_q := 0) (sl_q := 0) rfl ?_
            refine ik_Wc 50 4 0 [.ref 45, fI 1, fI 1, fI 2] [fJ (bo_.getD (1 : Int).toNat 0), fJ ((bo_.getD (1 : Int).toNat 0) * (((bo_.getD (5 : Int).toNat 0) * (bo_.getD (10 : Int).toNat 0)) - ((bo_.getD (6 : Int).toNat 0) * (bo_.getD (9 : Int).toNat 0))))] rfl rfl rfl (by decide +kernel) rfl rfl (fw_rec hl rfl h45 rfl (Nat.le_of_ble_eq_true rfl)) ?_
            refine ik_Wk 0 (pc_q := 0) (loc_q := [some (.ref 45), some (fI 1), some (fI 1), some (fI 2), none, none]) (st_q := []) (h_q := h) (cl_q := 0) (sl_q := 0) rfl ?_
            refine ik_Wk 2 (pc_q := 2) (loc_q := [some (.ref 45), some (fI 1), some (fI 1), some (fI 2), none, none]) (st_q := [fI 4, fI 1]) (h_q := h) (cl_q := 0) (sl_q := 0) rfl ?_
            refine fw_mul rfl ?_
            refine ik_Wk 3 (pc_q := 8) (loc_q := [some (.ref 45), some (fI 1), some (fI 1), some (fI 2), some (fI 4), none]) (st_q := [fI 4, fI 4]) (h_q := h) (cl_q := 0) (sl_q := 0) rfl ?_
            refine fw_add rfl ?_
            refine ik_Wk 2 (pc_q := 12) (loc_q := [some (.ref 45), some (fI 1), some (fI 1), some (fI 2), some (fI 4), some (fI 8)]) (st_q := [.ref 45]) (h_q := h) (cl_q := 0) (sl_q := 0) rfl ?_
            refine fw_gf rfl rfl h45 rfl ?_
            refine ik_Wk 2 (pc_q := 18) (loc_q := [some (.ref 45), some (fI 1), some (fI 1), some (fI 2), some (fI 4), some (fI 8)]) (st_q := [fI 1, fI 4, .ref 47]) (h_q := h) (cl_q := 0) (sl_q := 0) rfl ?_
            refine fw_add rfl ?_
            refine fx_lal rfl h47 (by omega) (by omega) (by omega) ?_
            refine ik_Wk 1 (pc_q := 21) (loc_q := [some (.ref 45), some (fI 1), some (fI 1), some (fI 2), some (fI 4), some (fI 8)]) (st_q := [.ref 45, fJ (bo_.getD (5 : Int).toNat 0)]) (h_q := h) (cl_q := 0) (sl_q := 0) rfl ?_
            refine fw_gf rfl rfl h45 rfl ?_
            refine ik_Wk 2 (pc_q := 27) (loc_q := [some (.ref 45), some (fI 1), some (fI 1), some (fI 2), some (fI 4), some (fI 8)]) (st_q := [fI 2, fI 8, .ref 47, fJ (bo_.getD (5 : Int).toNat 0)]) (h_q := h) (cl_q := 0) (sl_q := 0) rfl ?_
            refine fw_add rfl ?_
            refine fx_lal rfl h47 (by omega) (by omega) (by omega) ?_
            refine fw_lmul rfl ?_
            refine ik_Wk 1 (pc_q := 31) (loc_q := [some (.ref 45), some (fI 1), some (fI 1), some (fI 2), some (fI 4), some (fI 8)]) (st_q := [.ref 45, fJ ((bo_.getD (5 : Int).toNat 0) * (bo_.getD (10 : Int).toNat 0))]) (h_q := h) (cl_q := 0) (sl_q := 0) rfl ?_
            refine fw_gf rfl rfl h45 rfl ?_
            refine ik_Wk 2 (pc_q := 37) (loc_q := [some (.ref 45), some (fI 1), some (fI 1), some (fI 2), some (fI 4), some (fI 8)]) (st_q := [fI 2, fI 4, .ref 47, fJ ((bo_.getD (5 : Int).toNat 0) * (bo_.getD (10 : Int).toNat 0))]) (h_q := h) (cl_q := 0) (sl_q := 0) rfl ?_
            refine fw_add rfl ?_
            refine fx_lal rfl h47 (by omega) (by omega) (by omega) ?_
            refine ik_Wk 1 (pc_q := 40) (loc_q := [some (.ref 45), some (fI 1), some (fI 1), some (fI 2), some (fI 4), some (fI 8)]) (st_q := [.ref 45, fJ (bo_.getD (6 : Int).toNat 0), fJ ((bo_.getD (5 : Int).toNat 0) * (bo_.getD (10 : Int).toNat 0))]) (h_q := h) (cl_q := 0) (sl_q := 0) rfl ?_
            refine fw_gf rfl rfl h45 rfl ?_
            refine ik_Wk 2 (pc_q := 46) (loc_q := [some (.ref 45), some (fI 1), some (fI 1), some (fI 2), some (fI 4), some (fI 8)]) (st_q := [fI 1, fI 8, .ref 47, fJ (bo_.getD (6 : Int).toNat 0), fJ ((bo_.getD (5 : Int).toNat 0) * (bo_.getD (10 : Int).toNat 0))]) (h_q := h) (cl_q := 0) (sl_q := 0) rfl ?_
            refine fw_add rfl ?_
            refine fx_lal rfl h47 (by omega) (by omega) (by omega) ?_
            refine fw_lmul rfl ?_
            refine fw_lsub rfl ?_
            refine ik_Wret rfl rfl ⟨_, _, rfl, rfl, ?_⟩
            refine ik_Wk 0 (pc_q := 91) (loc_q := [some (.ref 45), some (fI sz), some (fI wt), some (fI 1), some (fI 1), some (fI 2)]) (st_q := [fJ (((bo_.getD (5 : Int).toNat 0) * (bo_.getD (10 : Int).toNat 0)) - ((bo_.getD (6 : Int).toNat 0) * (bo_.getD (9 : Int).toNat 0))), fJ (bo_.getD (1 : Int).toNat 0), fJ ((bo_.getD (1 : Int).toNat 0) * (((bo_.getD (5 : Int).toNat 0) * (bo_.getD (10 : Int).toNat 0)) - ((bo_.getD (6 : Int).toNat 0) * (bo_.getD (9 : Int).toNat 0))))]) (h_q := h) (cl_q := 0) (sl_q := 0) rfl ?_
            refine fw_lmul rfl ?_
            refine fw_lsub rfl ?_
            refine ik_Wk 1 (pc_q := 94) (loc_q := [some (.ref 45), some (fI sz), some (fI wt), some (fI 1), some (fI 1), some (fI 2)]) (st_q := [.ref 45, fJ (((bo_.getD (1 : Int).toNat 0) * (((bo_.getD (5 : Int).toNat 0) * (bo_.getD (10 : Int).toNat 0)) - ((bo_.getD (6 : Int).toNat 0) * (bo_.getD (9 : Int).toNat 0)))) - ((bo_.getD (1 : Int).toNat 0) * (((bo_.getD (5 : Int).toNat 0) * (bo_.getD (10 : Int).toNat 0)) - ((bo_.getD (6 : Int).toNat 0) * (bo_.getD (9 : Int).toNat 0)))))]) (h_q := h) (cl_q := 0) (sl_q := 0) rfl ?_
            refine fw_gf rfl rfl h45 rfl ?_
            refine ik_Wk 1 (pc_q := 99) (loc_q := [some (.ref 45), some (fI sz), some (fI wt), some (fI 1), some (fI 1), some (fI 2)]) (st_q := [fI 2, .ref 47, fJ (((bo_.getD (1 : Int).toNat 0) * (((bo_.getD (5 : Int).toNat 0) * (bo_.getD (10 : Int).toNat 0)) - ((bo_.getD (6 : Int).toNat 0) * (bo_.getD (9 : Int).toNat 0)))) - ((bo_.getD (1 : Int).toNat 0) * (((bo_.getD (5 : Int).toNat 0) * (bo_.getD (10 : Int).toNat 0)) - ((bo_.getD (6 : Int).toNat 0) * (bo_.getD (9 : Int).toNat 0)))))]) (h_q := h) (cl_q := 0) (sl_q := 0) rfl ?_
            refine fx_lal rfl h47 (by omega) (by omega) (by omega) ?_
            refine ik_Wk 4 (pc_q := 105) (loc_q := [some (.ref 45), some (fI sz), some (fI wt), some (fI 1), some (fI 1), some (fI 2)]) (st_q := [fI 1, fI 1, fI 1, .ref 45, fJ (bo_.getD (2 : Int).toNat 0), fJ (((bo_.getD (1 : Int).toNat 0) * (((bo_.getD (5 : Int).toNat 0) * (bo_.getD (10 : Int).toNat 0)) - ((bo_.getD (6 : Int).toNat 0) * (bo_.getD (9 : Int).toNat 0)))) - ((bo_.getD (1 : Int).toNat 0) * (((bo_.getD (5 : Int).toNat 0) * (bo_.getD (10 : Int).toNat 0)) - ((bo_.getD (6 : Int).toNat 0) * (bo_.getD (9 : Int).toNat 0)))))]) (h_q := h) (cl_q := 0) (sl_q := 0) rfl ?_
            refine ik_Wc 50 4 0 [.ref 45, fI 1, fI 1, fI 1] [fJ (bo_.getD (2 : Int).toNat 0), fJ (((bo_.getD (1 : Int).toNat 0) * (((bo_.getD (5 : Int).toNat 0) * (bo_.getD (10 : Int).toNat 0)) - ((bo_.getD (6 : Int).toNat 0) * (bo_.getD (9 : Int).toNat 0)))) - ((bo_.getD (1 : Int).toNat 0) * (((bo_.getD (5 : Int).toNat 0) * (bo_.getD (10 : Int).toNat 0)) - ((bo_.getD (6 : Int).toNat 0) * (bo_.getD (9 : Int).toNat 0)))))] rfl rfl rfl (by decide +kernel) rfl rfl (fw_rec hl rfl h45 rfl (Nat.le_of_ble_eq_true rfl)) ?_
            refine ik_Wk 0 (pc_q := 0) (loc_q := [some (.ref 45), some (fI 1), some (fI 1), some (fI 1), none, none]) (st_q := []) (h_q := h) (cl_q := 0) (sl_q := 0) rfl ?_
            refine ik_Wk 2 (pc_q := 2) (loc_q := [some (.ref 45), some (fI 1), some (fI 1), some (fI 1), none, none]) (st_q := [fI 4, fI 1]) (h_q := h) (cl_q := 0) (sl_q := 0) rfl ?_
            refine fw_mul rfl ?_
            refine ik_Wk 3 (pc_q := 8) (loc_q := [some (.ref 45), some (fI 1), some (fI 1), some (fI 1), some (fI 4), none]) (st_q := [fI 4, fI 4]) (h_q := h) (cl_q := 0) (sl_q := 0) rfl ?_
            refine fw_add rfl ?_
            refine ik_Wk 2 (pc_q := 12) (loc_q := [some (.ref 45), some (fI 1), some (fI 1), some (fI 1), some (fI 4), some (fI 8)]) (st_q := [.ref 45]) (h_q := h) (cl_q := 0) (sl_q := 0) rfl ?_
            refine fw_gf rfl rfl h45 rfl ?_
            refine ik_Wk 2 (pc_q := 18) (loc_q := [some (.ref 45), some (fI 1), some (fI 1), some (fI 1), some (fI 4), some (fI 8)]) (st_q := [fI 1, fI 4, .ref 47]) (h_q := h) (cl_q := 0) (sl_q := 0) rfl ?_
            refine fw_add rfl ?_
            refine fx_lal rfl h47 (by omega) (by omega) (by omega) ?_
            refine ik_Wk 1 (pc_q := 21) (loc_q := [some (.ref 45), some (fI 1), some (fI 1), some (fI 1), some (fI 4), some (fI 8)]) (st_q := [.ref 45, fJ (bo_.getD (5 : Int).toNat 0)]) (h_q := h) (cl_q := 0) (sl_q := 0) rfl ?_
            refine fw_gf rfl rfl h45 rfl ?_
            refine ik_Wk 2 (pc_q := 27) (loc_q := [some (.ref 45), some (fI 1), some (fI 1), some (fI 1), some (fI 4), some (fI 8)]) (st_q := [fI 1, fI 8, .ref 47, fJ (bo_.getD (5 : Int).toNat 0)]) (h_q := h) (cl_q := 0) (sl_q := 0) rfl ?_
            refine fw_add rfl ?_
            refine fx_lal rfl h47 (by omega) (by omega) (by omega) ?_
            refine fw_lmul rfl ?_
            refine ik_Wk 1 (pc_q := 31) (loc_q := [some (.ref 45), some (fI 1), some (fI 1), some (fI 1), some (fI 4), some (fI 8)]) (st_q := [.ref 45, fJ ((bo_.getD (5 : Int).toNat 0) * (bo_.getD (9 : Int).toNat 0))]) (h_q := h) (cl_q := 0) (sl_q := 0) rfl ?_
            refine fw_gf rfl rfl h45 rfl ?_
            refine ik_Wk 2 (pc_q := 37) (loc_q := [some (.ref 45), some (fI 1), some (fI 1), some (fI 1), some (fI 4), some (fI 8)]) (st_q := [fI 1, fI 4, .ref 47, fJ ((bo_.getD (5 : Int).toNat 0) * (bo_.getD (9 : Int).toNat 0))]) (h_q := h) (cl_q := 0) (sl_q := 0) rfl ?_
            refine fw_add rfl ?_
            refine fx_lal rfl h47 (by omega) (by omega) (by omega) ?_
            refine ik_Wk 1 (pc_q := 40) (loc_q := [some (.ref 45), some (fI 1), some (fI 1), some (fI 1), some (fI 4), some (fI 8)]) (st_q := [.ref 45, fJ (bo_.getD (5 : Int).toNat 0), fJ ((bo_.getD (5 : Int).toNat 0) * (bo_.getD (9 : Int).toNat 0))]) (h_q := h) (cl_q := 0) (sl_q := 0) rfl ?_
            refine fw_gf rfl rfl h45 rfl ?_
            refine ik_Wk 2 (pc_q := 46) (loc_q := [some (.ref 45), some (fI 1), some (fI 1), some (fI 1), some (fI 4), some (fI 8)]) (st_q := [fI 1, fI 8, .ref 47, fJ (bo_.getD (5 : Int).toNat 0), fJ ((bo_.getD (5 : Int).toNat 0) * (bo_.getD (9 : Int).toNat 0))]) (h_q := h) (cl_q := 0) (sl_q := 0) rfl ?_
            refine fw_add rfl ?_
            refine fx_lal rfl h47 (by omega) (by omega) (by omega) ?_
            refine fw_lmul rfl ?_
            refine fw_lsub rfl ?_
            refine ik_Wret rfl rfl ⟨_, _, rfl, rfl, ?_⟩
            refine ik_Wk 0 (pc_q := 108) (loc_q := [some (.ref 45), some (fI sz), some (fI wt), some (fI 1), some (fI 1), some (fI 2)]) (st_q := [fJ (((bo_.getD (5 : Int).toNat 0) * (bo_.getD (9 : Int).toNat 0)) - ((bo_.getD (5 : Int).toNat 0) * (bo_.getD (9 : Int).toNat 0))), fJ (bo_.getD (2 : Int).toNat 0), fJ (((bo_.getD (1 : Int).toNat 0) * (((bo_.getD (5 : Int).toNat 0) * (bo_.getD (10 : Int).toNat 0)) - ((bo_.getD (6 : Int).toNat 0) * (bo_.getD (9 : Int).toNat 0)))) - ((bo_.getD (1 : Int).toNat 0) * (((bo_.getD (5 : Int).toNat 0) * (bo_.getD (10 : Int).toNat 0)) - ((bo_.getD (6 : Int).toNat 0) * (bo_.getD (9 : Int).toNat 0)))))]) (h_q := h) (cl_q := 0) (sl_q := 0) rfl ?_
            refine fw_lmul rfl ?_
            refine fw_ladd rfl ?_
            exact ik_Wret rfl rfl ⟨_, _, rfl, rfl, rfl, rfl, ⟨((((bo_.getD (1 : Int).toNat 0) * (((bo_.getD (5 : Int).toNat 0) * (bo_.getD (10 : Int).toNat 0)) - ((bo_.getD (6 : Int).toNat 0) * (bo_.getD (9 : Int).toNat 0)))) - ((bo_.getD (1 : Int).toNat 0) * (((bo_.getD (5 : Int).toNat 0) * (bo_.getD (10 : Int).toNat 0)) - ((bo_.getD (6 : Int).toNat 0) * (bo_.getD (9 : Int).toNat 0))))) + ((bo_.getD (2 : Int).toNat 0) * (((bo_.getD (5 : Int).toNat 0) * (bo_.getD (9 : Int).toNat 0)) - ((bo_.getD (5 : Int).toNat 0) * (bo_.getD (9 : Int).toNat 0))))), rfl, (hfr_refl [] h)⟩⟩
  · refine ik_Wk 5 (pc_q := 12) (loc_q := [some (.ref 45), some (fI sz), some (fI wt), some (fI 0), none, none]) (st_q := [fI 1, fI wt]) (h_q := h) (cl_q := 0) (sl_q := 0) rfl ?_
    refine fw_ic_le rfl rfl (by omega) (by omega) (by omega) (by omega) (fun hc13 => ?_) (fun hc13 => ?_)
    · refine ik_Wk 4 (pc_q := 24) (loc_q := [some (.ref 45), some (fI sz), some (fI wt), some (fI 0), some (fI 2), none]) (st_q := [fI 2, fI wt]) (h_q := h) (cl_q := 0) (sl_q := 0) rfl ?_
      refine fw_ic_le rfl rfl (by omega) (by omega) (by omega) (by omega) (fun hc14 => ?_) (fun hc14 => ?_)
      · refine ik_Wk 4 (pc_q := 36) (loc_q := [some (.ref 45), some (fI sz), some (fI wt), some (fI 0), some (fI 2), some (fI 3)]) (st_q := [fI 1, fI sz]) (h_q := h) (cl_q := 0) (sl_q := 0) rfl ?_
        refine fw_ic_ne rfl rfl (by omega) (by omega) (by omega) (by omega) (fun hc15 => ?_) (fun hc15 => ?_)
        · refine ik_Wk 1 (pc_q := 40) (loc_q := [some (.ref 45), some (fI sz), some (fI wt), some (fI 0), some (fI 2), some (fI 3)]) (st_q := [.ref 45]) (h_q := h) (cl_q := 0) (sl_q := 0) rfl ?_
          refine fw_gf rfl rfl h45 rfl ?_
          refine ik_Wk 1 (pc_q := 44) (loc_q := [some (.ref 45), some (fI sz), some (fI wt), some (fI 0), some (fI 2), some (fI 3)]) (st_q := [fI 0, .ref 47]) (h_q := h) (cl_q := 0) (sl_q := 0) rfl ?_
          refine fx_lal rfl h47 (by omega) (by omega) (by omega) ?_
          exact ik_Wret rfl rfl ⟨_, _, rfl, rfl, rfl, rfl, ⟨(bo_.getD (0 : Int).toNat 0), rfl, (hfr_refl [] h)⟩⟩
        · refine ik_Wk 2 (pc_q := 48) (loc_q := [some (.ref 45), some (fI sz), some (fI wt), some (fI 0), some (fI 2), some (fI 3)]) (st_q := [fI 2, fI sz]) (h_q := h) (cl_q := 0) (sl_q := 0) rfl ?_
          refine fw_ic_ne rfl rfl (by omega) (by omega) (by omega) (by omega) (fun hc16 => ?_) (fun hc16 => ?_)
          · refine ik_Wk 4 (pc_q := 56) (loc_q := [some (.ref 45), some (fI sz), some (fI wt), some (fI 0), some (fI 2), some (fI 3)]) (st_q := [fI 2, fI 0, fI 0, .ref 45]) (h_q := h) (cl_q := 0) (sl_q := 0) rfl ?_
            refine ik_Wc 50 4 0 [.ref 45, fI 0, fI 0, fI 2] [] rfl rfl rfl (by decide +kernel) rfl rfl (fw_rec hl rfl h45 rfl (Nat.le_of_ble_eq_true rfl)) ?_
            refine ik_Wk 0 (pc_q := 0) (loc_q := [some (.ref 45), some (fI 0), some (fI 0), some (fI 2), none, none]) (st_q := []) (h_q := h) (cl_q := 0) (sl_q := 0) rfl ?_
            refine ik_Wk 2 (pc_q := 2) (loc_q := [some (.ref 45), some (fI 0), some (fI 0), some (fI 2), none, none]) (st_q := [fI 4, fI 0]) (h_q := h) (cl_q := 0) (sl_q := 0) rfl ?_
            refine fw_mul rfl ?_
            refine ik_Wk 3 (pc_q := 8) (loc_q := [some (.ref 45), some (fI 0), some (fI 0), some (fI 2), some (fI 0), none]) (st_q := [fI 4, fI 0]) (h_q := h) (cl_q := 0) (sl_q := 0) rfl ?_
            refine fw_add rfl ?_
            refine ik_Wk 2 (pc_q := 12) (loc_q := [some (.ref 45), some (fI 0), some (fI 0), some (fI 2), some (fI 0), some (fI 4)]) (st_q := [.ref 45]) (h_q := h) (cl_q := 0) (sl_q := 0) rfl ?_
            refine fw_gf rfl rfl h45 rfl ?_
            refine ik_Wk 2 (pc_q := 18) (loc_q := [some (.ref 45), some (fI 0), some (fI 0), some (fI 2), some (fI 0), some (fI 4)]) (st_q := [fI 0, fI 0, .ref 47]) (h_q := h) (cl_q := 0) (sl_q := 0) rfl ?_
            refine fw_add rfl ?_
            refine fx_lal rfl h47 (by omega) (by omega) (by omega) ?_
            refine ik_Wk 1 (pc_q := 21) (loc_q := [some (.ref 45), some (fI 0), some (fI 0), some (fI 2), some (fI 0), some (fI 4)]) (st_q := [.ref 45, fJ (bo_.getD (0 : Int).toNat 0)]) (h_q := h) (cl_q := 0) (sl_q := 0) rfl ?_
            refine fw_gf rfl rfl h45 rfl ?_
            refine ik_Wk 2 (pc_q := 27) (loc_q := [some (.ref 45), some (fI 0), some (fI 0), some (fI 2), some (fI 0), some (fI 4)]) (st_q := [fI 2, fI 4, .ref 47, fJ (bo_.getD (0 : Int).toNat 0)]) (h_q := h) (cl_q := 0) (sl_q := 0) rfl ?_
            refine fw_add rfl ?_
            refine fx_lal rfl h47 (by omega) (by omega) (by omega) ?_
            refine fw_lmul rfl ?_
            refine ik_Wk 1 (pc_q := 31) (loc_q := [some (.ref 45), some (fI 0), some (fI 0), some (fI 2), some (fI 0), some (fI 4)]) (st_q := [.ref 45, fJ ((bo_.getD (0 : Int).toNat 0) * (bo_.getD (6 : Int).toNat 0))]) (h_q := h) (cl_q := 0) (sl_q := 0) rfl ?_
            refine fw_gf rfl rfl h45 rfl ?_
            refine ik_Wk 2 (pc_q := 37) (loc_q := [some (.ref 45), some (fI 0), some (fI 0), some (fI 2), some (fI 0), some (fI 4)]) (st_q := [fI 2, fI 0, .ref 47, fJ ((bo_.getD (0 : Int).toNat 0) * (bo_.getD (6 : Int).toNat 0))]) (h_q := h) (cl_q := 0) (sl_q := 0) rfl ?_
            refine fw_add rfl ?_
            refine fx_lal rfl h47 (by omega) (by omega) (by omega) ?_
            refine ik_Wk 1 (pc_q := 40) (loc_q := [some (.ref 45), some (fI 0), some (fI 0), some (fI 2), some (fI 0), some (fI 4)]) (st_q := [.ref 45, fJ (bo_.getD (2 : Int).toNat 0), fJ ((bo_.getD (0 : Int).toNat 0) * (bo_.getD (6 : Int).toNat 0))]) (h_q := h) (cl_q := 0) (sl_q := 0) rfl ?_
            refine fw_gf rfl rfl h45 rfl ?_
            refine ik_Wk 2 (pc_q := 46) (loc_q := [some (.ref 45), some (fI 0), some (fI 0), some (fI 2), some (fI 0), some (fI 4)]) (st_q := [fI 0, fI 4, .ref 47, fJ (bo_.getD (2 : Int).toNat 0), fJ ((bo_.getD (0 : Int).toNat 0) * (bo_.getD (6 : Int).toNat 0))]) (h_q := h) (cl_q := 0) (sl_q := 0) rfl ?_
            refine fw_add rfl ?_
            refine fx_lal rfl h47 (by omega) (by omega) (by omega) ?_
            refine fw_lmul rfl ?_
            refine fw_lsub rfl ?_
            refine ik_Wret rfl rfl ⟨_, _, rfl, rfl, ?_⟩
            refine ik_Wk 0 (pc_q := 59) (loc_q := [some (.ref 45), some (fI sz), some (fI wt), some (fI 0), some (fI 2), some (fI 3)]) (st_q := [fJ (((bo_.getD (0 : Int).toNat 0) * (bo_.getD (6 : Int).toNat 0)) - ((bo_.getD (2 : Int).toNat 0) * (bo_.getD (4 : Int).toNat 0)))]) (h_q := h) (cl_q := 0) (sl_q := 0) rfl ?_
            exact ik_Wret rfl rfl ⟨_, _, rfl, rfl, rfl, rfl, ⟨(((bo_.getD (0 : Int).toNat 0) * (bo_.getD (6 : Int).toNat 0)) - ((bo_.getD (2 : Int).toNat 0) * (bo_.getD (4 : Int).toNat 0))), rfl, (hfr_refl [] h)⟩⟩
          · refine ik_Wk 1 (pc_q := 61) (loc_q := [some (.ref 45), some (fI sz), some (fI wt), some (fI 0), some (fI 2), some (fI 3)]) (st_q := [.ref 45]) (h_q := h) (cl_q := 0) (sl_q := 0) rfl ?_
            refine fw_gf rfl rfl h45 rfl ?_
            refine ik_Wk 1 (pc_q := 65) (loc_q := [some (.ref 45), some (fI sz), some (fI wt), some (fI 0), some (fI 2), some (fI 3)]) (st_q := [fI 0, .ref 47]) (h_q := h) (cl_q := 0) (sl_q := 0) rfl ?_
            refine fx_lal rfl h47 (by omega) (by omega) (by omega) ?_
            refine ik_Wk 4 (pc_q := 72) (loc_q := [some (.ref 45), some (fI sz), some (fI wt), some (fI 0), some (fI 2), some (fI 3)]) (st_q := [fI 3, fI 2, fI 1, .ref 45, fJ (bo_.getD (0 : Int).toNat 0)]) (h_q := h) (cl_q := 0) (sl_q := 0) rfl ?_
            refine ik_Wc 50 4 0 [.ref 45, fI 1, fI 2, fI 3] [fJ (bo_.getD (0 : Int).toNat 0)] rfl rfl rfl (by decide +kernel) rfl rfl (fw_rec hl rfl h45 rfl (Nat.le_of_ble_eq_true rfl)) ?_
            refine ik_Wk 0 (pc_q := 0) (loc_q := [some (.ref 45), some (fI 1), some (fI 2), some (fI 3), none, none]) (st_q := []) (h_q := h) (cl_q := 0) (sl_q := 0) rfl ?_
            refine ik_Wk 2 (pc_q := 2) (loc_q := [some (.ref 45), some (fI 1), some (fI 2), some (fI 3), none, none]) (st_q := [fI 4, fI 1]) (h_q := h) (cl_q := 0) (sl_q := 0) rfl ?_
            refine fw_mul rfl ?_
            refine ik_Wk 3 (pc_q := 8) (loc_q := [some (.ref 45), some (fI 1), some (fI 2), some (fI 3), some (fI 4), none]) (st_q := [fI 4, fI 4]) (h_q := h) (cl_q := 0) (sl_q := 0) rfl ?_
            refine fw_add rfl ?_
            refine ik_Wk 2 (pc_q := 12) (loc_q := [some (.ref 45), some (fI 1), some (fI 2), some (fI 3), some (fI 4), some (fI 8)]) (st_q := [.ref 45]) (h_q := h) (cl_q := 0) (sl_q := 0) rfl ?_
            refine fw_gf rfl rfl h45 rfl ?_
            refine ik_Wk 2 (pc_q := 18) (loc_q := [some (.ref 45), some (fI 1), some (fI 2), some (fI 3), some (fI 4), some (fI 8)]) (st_q := [fI 2, fI 4, .ref 47]) (h_q := h) (cl_q := 0) (sl_q := 0) rfl ?_
            refine fw_add rfl ?_
            refine fx_lal rfl h47 (by omega) (by omega) (by omega) ?_
            refine ik_Wk 1 (pc_q := 21) (loc_q := [some (.ref 45), some (fI 1), some (fI 2), some (fI 3), some (fI 4), some (fI 8)]) (st_q := [.ref 45, fJ (bo_.getD (6 : Int).toNat 0)]) (h_q := h) (cl_q := 0) (sl_q := 0) rfl ?_
            refine fw_gf rfl rfl h45 rfl ?_
            refine ik_Wk 2 (pc_q := 27) (loc_q := [some (.ref 45), some (fI 1), some (fI 2), some (fI 3), some (fI 4), some (fI 8)]) (st_q := [fI 3, fI 8, .ref 47, fJ (bo_.getD (6 : Int).toNat 0)]) (h_q := h) (cl_q := 0) (sl_q := 0) rfl ?_
            refine fw_add rfl ?_
            refine fx_lal rfl h47 (by omega) (by omega) (by omega) ?_
            refine fw_lmul rfl ?_
            refine ik_Wk 1 (pc_q := 31) (loc_q := [some (.ref 45), some (fI 1), some (fI 2), some (fI 3), some (fI 4), some (fI 8)]) (st_q := [.ref 45, fJ ((bo_.getD (6 : Int).toNat 0) * (bo_.getD (11 : Int).toNat 0))]) (h_q := h) (cl_q := 0) (sl_q := 0) rfl ?_
            refine fw_gf rfl rfl h45 rfl ?_
            refine ik_Wk 2 (pc_q := 37) (loc_q := [some (.ref 45), some (fI 1), some (fI 2), some (fI 3), some (fI 4), some (fI 8)]) (st_q := [fI 3, fI 4, .ref 47, fJ ((bo_.getD (6 : Int).toNat 0) * (bo_.getD (11 : Int).toNat 0))]) (h_q := h) (cl_q := 0) (sl_q := 0) rfl ?_
            refine fw_add rfl ?_
            refine fx_lal rfl h47 (by omega) (by omega) (by omega) ?_
            refine ik_Wk 1 (pc_q := 40) (loc_q := [some (.ref 45), some (fI 1), some (fI 2), some (fI 3), some (fI 4), some (fI 8)]) (st_q := [.ref 45, fJ (bo_.getD (7 : Int).toNat 0), fJ ((bo_.getD (6 : Int).toNat 0) * (bo_.getD (11 : Int).toNat 0))]) (h_q := h) (cl_q := 0) (sl_q := 0) rfl ?_
            refine fw_gf rfl rfl h45 rfl ?_
            refine ik_Wk 2 (pc_q := 46) (loc_q := [some (.ref 45), some (fI 1), some (fI 2), some (fI 3), some (fI 4), some (fI 8)]) (st_q := [fI 2, fI 8, .ref 47, fJ (bo_.getD (7 : Int).toNat 0), fJ ((bo_.getD (6 : Int).toNat 0) * (bo_.getD (11 : Int).toNat 0))]) (h_q := h) (cl_q := 0) (sl_q := 0) rfl ?_
            refine fw_add rfl ?_
            refine fx_lal rfl h47 (by omega) (by omega) (by omega) ?_
            refine fw_lmul rfl ?_
            refine fw_lsub rfl ?_
            refine ik_Wret rfl rfl ⟨_, _, rfl, rfl, ?_⟩
            refine ik_Wk 0 (pc_q := 75) (loc_q := [some (.ref 45), some (fI sz), some (fI wt), some (fI 0), some (fI 2), some (fI 3)]) (st_q := [fJ (((bo_.getD (6 : Int).toNat 0) * (bo_.getD (11 : Int).toNat 0)) - ((bo_.getD (7 : Int).toNat 0) * (bo_.getD (10 : Int).toNat 0))), fJ (bo_.getD (0 : Int).toNat 0)]) (h_q := h) (cl_q := 0) (sl_q := 0) rfl ?_
            refine fw_lmul rfl ?_
            refine ik_Wk 1 (pc_q := 77) (loc_q := [some (.ref 45), some (fI sz), some (fI wt), some (fI 0), some (fI 2), some (fI 3)]) (st_q := [.ref 45, fJ ((bo_.getD (0 : Int).toNat 0) * (((bo_.getD (6 : Int).toNat 0) * (bo_.getD (11 : Int).toNat 0)) - ((bo_.getD (7 : Int).toNat 0) * (bo_.getD (10 : Int).toNat 0))))]) (h_q := h) (cl_q := 0) (sl_q := 0) rfl ?_
            refine fw_gf rfl rfl h45 rfl ?_
            refine ik_Wk 1 (pc_q := 82) (loc_q := [some (.ref 45), some (fI sz), some (fI wt), some (fI 0), some (fI 2), some (fI 3)]) (st_q := [fI 2, .ref 47, fJ ((bo_.getD (0 : Int).toNat 0) * (((bo_.getD (6 : Int).toNat 0) * (bo_.getD (11 : Int).toNat 0)) - ((bo_.getD (7 : Int).toNat 0) * (bo_.getD (10 : Int).toNat 0))))]) (h_q := h) (cl_q := 0) (sl_q := 0) rfl ?_
            refine fx_lal rfl h47 (by omega) (by omega) (by omega) ?_
            refine ik_Wk 4 (pc_q := 88) (loc_q := [some (.ref 45), some (fI sz), some (fI wt), some (fI 0), some (fI 2), some (fI 3)]) (st_q := [fI 3, fI 0, fI 1, .ref 45, fJ (bo_.getD (2 : Int).toNat 0), fJ ((bo_.getD (0 : Int).toNat 0) * (((bo_.getD (6 : Int).toNat 0) * (bo_.getD (11 : Int).toNat 0)) - ((bo_.getD (7 : Int).toNat 0) * (bo_.getD (10 : Int).toNat 0))))]) (h_q := h) (cl_q := 0) (sl_q := 0) rfl ?_
            refine ik_Wc 50 4 0 [.ref 45, fI 1, fI 0, fI 3] [fJ (bo_.getD (2 : Int).toNat 0), fJ ((bo_.getD (0 : Int).toNat 0) * (((bo_.getD (6 : Int).toNat 0) * (bo_.getD (11 : Int).toNat 0)) - ((bo_.getD (7 : Int).toNat 0) * (bo_.getD (10 : Int).toNat 0))))] rfl rfl rfl (by decide +kernel) rfl rfl (fw_rec hl rfl h45 rfl (Nat.le_of_ble_eq_true rfl)) ?_
            refine ik_Wk 0 (pc_q := 0) (loc_q := [some (.ref 45), some (fI 1), some (fI 0), some (fI 3), none, none]) (st_q := []) (h_q := h) (cl_q := 0) (sl_q := 0) rfl ?_
            refine ik_Wk 2 (pc_q := 2) (loc_q := [some (.ref 45), some (fI 1), some (fI 0), some (fI 3), none, none]) (st_q := [fI 4, fI 1]) (h_q := h) (cl_q := 0) (sl_q := 0) rfl ?_
            refine fw_mul rfl ?_
            refine ik_Wk 3 (pc_q := 8) (loc_q := [some (.ref 45), some (fI 1), some (fI 0), some (fI 3), some (fI 4), none]) (st_q := [fI 4, fI 4]) (h_q := h) (cl_q := 0) (sl_q := 0) rfl ?_
            refine fw_add rfl ?_
            refine ik_Wk 2 (pc_q := 12) (loc_q := [some (.ref 45), some (fI 1), some (fI 0), some (fI 3), some (fI 4), some (fI 8)]) (st_q := [.ref 45]) (h_q := h) (cl_q := 0) (sl_q := 0) rfl ?_
            refine fw_gf rfl rfl h45 rfl ?_
            refine ik_Wk 2 (pc_q := 18) (loc_q := [some (.ref 45), some (fI 1), some (fI 0), some (fI 3), some (fI 4), some (fI 8)]) (st_q := [fI 0, fI 4, .ref 47]) (h_q := h) (cl_q := 0) (sl_q := 0) rfl ?_
            refine fw_add rfl ?_
            refine fx_lal rfl h47 (by omega) (by omega) (by omega) ?_
            refine ik_Wk 1 (pc_q := 21) (loc_q := [some (.ref 45), some (fI 1), some (fI 0), some (fI 3), some (fI 4), some (fI 8)]) (st_q := [.ref 45, fJ (bo_.getD (4 : Int).toNat 0)]) (h_q := h) (cl_q := 0) (sl_q := 0) rfl ?_
            refine fw_gf rfl rfl h45 rfl ?_
            refine ik_Wk 2 (pc_q := 27) (loc_q := [some (.ref 45), some (fI 1), some (fI 0), some (fI 3), some (fI 4), some (fI 8)]) (st_q := [fI 3, fI 8, .ref 47, fJ (bo_.getD (4 : Int).toNat 0)]) (h_q := h) (cl_q := 0) (sl_q := 0) rfl ?_
            refine fw_add rfl ?_
            refine fx_lal rfl h47 (by omega) (by omega) (by omega) ?_
            refine fw_lmul rfl ?_
            refine ik_Wk 1 (pc_q := 31) (loc_q := [some (.ref 45), some (fI 1), some (fI 0), some (fI 3), some (fI 4), some (fI 8)]) (st_q := [.ref 45, fJ ((bo_.getD (4 : Int).toNat 0) * (bo_.getD (11 : Int).toNat 0))]) (h_q := h) (cl_q := 0) (sl_q := 0) rfl ?_
            refine fw_gf rfl rfl h45 rfl ?_
            refine ik_Wk 2 (pc_q := 37) (loc_q := [some (.ref 45), some (fI 1), some (fI 0), some (fI 3), some (fI 4), some (fI 8)]) (st_q := [fI 3, fI 4, .ref 47, fJ ((bo_.getD (4 : Int).toNat 0) * (bo_.getD (11 : Int).toNat 0))]) (h_q := h) (cl_q := 0) (sl_q := 0) rfl ?_
            refine fw_add rfl ?_
            refine fx_lal rfl h47 (by omega) (by omega) (by omega) ?_
            refine ik_Wk 1 (pc_q := 40) (loc_q := [some (.ref 45), some (fI 1), some (fI 0), some (fI 3), some (fI 4), some (fI 8)]) (st_q := [.ref 45, fJ (bo_.getD (7 : Int).toNat 0), fJ ((bo_.getD (4 : Int).toNat 0) * (bo_.getD (11 : Int).toNat 0))]) (h_q := h) (cl_q := 0) (sl_q := 0) rfl ?_
            refine fw_gf rfl rfl h45 rfl ?_
            refine ik_Wk 2 (pc_q := 46) (loc_q := [some (.ref 45), some (fI 1), some (fI 0), some (fI 3), some (fI 4), some (fI 8)]) (st_q := [fI 0, fI 8, .ref 47, fJ (bo_.getD (7 : Int).toNat 0), fJ ((bo_.getD (4 : Int).toNat 0) * (bo_.getD (11 : Int).toNat 0))]) (h_q := h) (cl_q := 0) (sl_q := 0) rfl ?_
            refine fw_add rfl ?_
            refine fx_lal rfl h47 (by omega) (by omega) (by omega) ?_
            refine fw_lmul rfl ?_
            refine fw_lsub rfl ?_
            refine ik_Wret rfl rfl ⟨_, _, rfl, rfl, ?_⟩
            refine ik_Wk 0 (pc_q := 91) (loc_q := [some (.ref 45), some (fI sz), some (fI wt), some (fI 0), some (fI 2), some (fI 3)]) (st_q := [fJ (((bo_.getD (4 : Int).toNat 0) * (bo_.getD (11 : Int).toNat 0)) - ((bo_.getD (7 : Int).toNat 0) * (bo_.getD (8 : Int).toNat 0))), fJ (bo_.getD (2 : Int).toNat 0), fJ ((bo_.getD (0 : Int).toNat 0) * (((bo_.getD (6 : Int).toNat 0) * (bo_.getD (11 : Int).toNat 0)) - ((bo_.getD (7 : Int).toNat 0) * (bo_.getD (10 : Int).toNat 0))))]) (h_q := h) (cl_q := 0) (sl_q := 0) rfl ?_
            refine fw_lmul rfl ?_
            refine fw_lsub rfl ?_
            refine ik_Wk 1 (pc_q := 94) (loc_q := [some (.ref 45), some (fI sz), some (fI wt), some (fI 0), some (fI 2), some (fI 3)]) (st_q := [.ref 45, fJ (((bo_.getD (0 : Int).toNat 0) * (((bo_.getD (6 : Int).toNat 0) * (bo_.getD (11 : Int).toNat 0)) - ((bo_.getD (7 : Int).toNat 0) * (bo_.getD (10 : Int).toNat 0)))) - ((bo_.getD (2 : Int).toNat 0) * (((bo_.getD (4 : Int).toNat 0) * (bo_.getD (11 : Int).toNat 0)) - ((bo_.getD (7 : Int).toNat 0) * (bo_.getD (8 : Int).toNat 0)))))]) (h_q := h) (cl_q := 0) (sl_q := 0) rfl ?_
            refine fw_gf rfl rfl h45 rfl ?_
            refine ik_Wk 1 (pc_q := 99) (loc_q := [some (.ref 45), some (fI sz), some (fI wt), some (fI 0), some (fI 2), some (fI 3)]) (st_q := [fI 3, .ref 47, fJ (((bo_.getD (0 : Int).toNat 0) * (((bo_.getD (6 : Int).toNat 0) * (bo_.getD (11 : Int).toNat 0)) - ((bo_.getD (7 : Int).toNat 0) * (bo_.getD (10 : Int).toNat 0)))) - ((bo_.getD (2 : Int).toNat 0) * (((bo_.getD (4 : Int).toNat 0) * (bo_.getD (11 : Int).toNat 0)) - ((bo_.getD (7 : Int).toNat 0) * (bo_.getD (8 : Int).toNat 0)))))]) (h_q := h) (cl_q := 0) (sl_q := 0) rfl ?_
            refine fx_lal rfl h47 (by omega) (by omega) (by omega) ?_
            refine ik_Wk 4 (pc_q := 105) (loc_q := [some (.ref 45), some (fI sz), some (fI wt), some (fI 0), some (fI 2), some (fI 3)]) (st_q := [fI 2, fI 0, fI 1, .ref 45, fJ (bo_.getD (3 : Int).toNat 0), fJ (((bo_.getD (0 : Int).toNat 0) * (((bo_.getD (6 : Int).toNat 0) * (bo_.getD (11 : Int).toNat 0)) - ((bo_.getD (7 : Int).toNat 0) * (bo_.getD (10 : Int).toNat 0)))) - ((bo_.getD (2 : Int).toNat 0) * (((bo_.getD (4 : Int).toNat 0) * (bo_.getD (11 : Int).toNat 0)) - ((bo_.getD (7 : Int).toNat 0) * (bo_.getD (8 : Int).toNat 0)))))]) (h_q := h) (cl_q := 0) (sl_q := 0) rfl ?_
            refine ik_Wc 50 4 0 [.ref 45, fI 1, fI 0, fI 2] [fJ (bo_.getD (3 : Int).toNat 0), fJ (((bo_.getD (0 : Int).toNat 0) * (((bo_.getD (6 : Int).toNat 0) * (bo_.getD (11 : Int).toNat 0)) - ((bo_.getD (7 : Int).toNat 0) * (bo_.getD (10 : Int).toNat 0)))) - ((bo_.getD (2 : Int).toNat 0) * (((bo_.getD (4 : Int).toNat 0) * (bo_.getD (11 : Int).toNat 0)) - ((bo_.getD (7 : Int).toNat 0) * (bo_.getD (8 : Int).toNat 0)))))] rfl rfl rfl (by decide +kernel) rfl rfl (fw_rec hl rfl h45 rfl (Nat.le_of_ble_eq_true rfl)) ?_
            refine ik_Wk 0 (pc_q := 0) (loc_q := [some (.ref 45), some (fI 1), some (fI 0), some (fI 2), none, none]) (st_q := []) (h_q := h) (cl_q := 0) (sl_q := 0) rfl ?_
            refine ik_Wk 2 (pc_q := 2) (loc_q := [some (.ref 45), some (fI 1), some (fI 0), some (fI 2), none, none]) (st_q := [fI 4, fI 1]) (h_q := h) (cl_q := 0) (sl_q := 0) rfl ?_
            refine fw_mul rfl ?_
            refine ik_Wk 3 (pc_q := 8) (loc_q := [some (.ref 45), some (fI 1), some (fI 0), some (fI 2), some (fI 4), none]) (st_q := [fI 4, fI 4]) (h_q := h) (cl_q := 0) (sl_q := 0) rfl ?_
            refine fw_add rfl ?_
            refine ik_Wk 2 (pc_q := 12) (loc_q := [some (.ref 45), some (fI 1), some (fI 0), some (fI 2), some (fI 4), some (fI 8)]) (st_q := [.ref 45]) (h_q := h) (cl_q := 0) (sl_q := 0) rfl ?_
            refine fw_gf rfl rfl h45 rfl ?_
            refine ik_Wk 2 (pc_q := 18) (loc_q := [some (.ref 45), some (fI 1), some (fI 0), some (fI 2), some (fI 4), some (fI 8)]) (st_q := [fI 0, fI 4, .ref 47]) (h_q := h) (cl_q := 0) (sl_q := 0) rfl ?_
            refine fw_add rfl ?_
            refine fx_lal rfl h47 (by omega) (by omega) (by omega) ?_
            refine ik_Wk 1 (pc_q := 21) (loc_q := [some (.ref 45), some (fI 1), some (fI 0), some (fI 2), some (fI 4), some (fI 8)]) (st_q := [.ref 45, fJ (bo_.getD (4 : Int).toNat 0)]) (h_q := h) (cl_q := 0) (sl_q := 0) rfl ?_
            refine fw_gf rfl rfl h45 rfl ?_
            refine ik_Wk 2 (pc_q := 27) (loc_q := [some (.ref 45), some (fI 1), some (fI 0), some (fI 2), some (fI 4), some (fI 8)]) (st_q := [fI 2, fI 8, .ref 47, fJ (bo_.getD (4 : Int).toNat 0)]) (h_q := h) (cl_q := 0) (sl_q := 0) rfl ?_
            refine fw_add rfl ?_
            refine fx_lal rfl h47 (by omega) (by omega) (by omega) ?_
            refine fw_lmul rfl ?_
            refine ik_Wk 1 (pc_q := 31) (loc_q := [some (.ref 45), some (fI 1), some (fI 0), some (fI 2), some (fI 4), some (fI 8)]) (st_q := [.ref 45, fJ ((bo_.getD (4 : Int).toNat 0) * (bo_.getD (10 : Int).toNat 0))]) (h_q := h) (cl_q := 0) (sl_q := 0) rfl ?_
            refine fw_gf rfl rfl h45 rfl ?_
            refine ik_Wk 2 (pc_q := 37) (loc_q := [some (.ref 45), some (fI 1), some (fI 0), some (fI 2), some (fI 4), some (fI 8)]) (st_q := [fI 2, fI 4, .ref 47, fJ ((bo_.getD (4 : Int).toNat 0) * (bo_.getD (10 : Int).toNat 0))]) (h_q := h) (cl_q := 0) (sl_q := 0) rfl ?_
            refine fw_add rfl ?_
            refine fx_lal rfl h47 (by omega) (by omega) (by omega) ?_
            refine ik_Wk 1 (pc_q := 40) (loc_q := [some (.ref 45), some (fI 1), some (fI 0), some (fI 2), some (fI 4), some (fI 8)]) (st_q := [.ref 45, fJ (bo_.getD (6 : Int).toNat 0), fJ ((bo_.getD (4 : Int).toNat 0) * (bo_.getD (10 : Int).toNat 0))]) (h_q := h) (cl_q := 0) (sl_q := 0) rfl ?_
            refine fw_gf rfl rfl h45 rfl ?_
            refine ik_Wk 2 (pc_q := 46) (loc_q := [some (.ref 45), some (fI 1), some (fI 0), some (fI 2), some (fI 4), some (fI 8)]) (st_q := [fI 0, fI 8, .ref 47, fJ (bo_.getD (6 : Int).toNat 0), fJ ((bo_.getD (4 : Int).toNat 0) * (bo_.getD (10 : Int).toNat 0))]) (h_q := h) (cl_q := 0) (sl_q := 0) rfl ?_
            refine fw_add rfl ?_
            refine fx_lal rfl h47 (by omega) (by omega) (by omega) ?_
            refine fw_lmul rfl ?_
            refine fw_lsub rfl ?_
            refine ik_Wret rfl rfl ⟨_, _, rfl, rfl, ?_⟩
            refine ik_Wk 0 (pc_q := 108) (loc_q := [some (.ref 45), some (fI sz), some (fI wt), some (fI 0), some (fI 2), some (fI 3)]) (st_q := [fJ (((bo_.getD (4 : Int).toNat 0) * (bo_.getD (10 : Int).toNat 0)) - ((bo_.getD (6 : Int).toNat 0) * (bo_.getD (8 : Int).toNat 0))), fJ (bo_.getD (3 : Int).toNat 0), fJ (((bo_.getD (0 : Int).toNat 0) * (((bo_.getD (6 : Int).toNat 0) * (bo_.getD (11 : Int).toNat 0)) - ((bo_.getD (7 : Int).toNat 0) * (bo_.getD (10 : Int).toNat 0)))) - ((bo_.getD (2 : Int).toNat 0) * (((bo_.getD (4 : Int).toNat 0) * (bo_.getD (11 : Int).toNat 0)) - ((bo_.getD (7 : Int).toNat 0) * (bo_.getD (8 : Int).toNat 0)))))]) (h_q := h) (cl_q := 0) (sl_q := 0) rfl ?_
            refine fw_lmul rfl ?_
            refine fw_ladd rfl ?_
            exact ik_Wret rfl rfl ⟨_, _, rfl, rfl, rfl, rfl, ⟨((((bo_.getD (0 : Int).toNat 0) * (((bo_.getD (6 : Int).toNat 0) * (bo_.getD (11 : Int).toNat 0)) - ((bo_.getD (7 : Int).toNat 0) * (bo_.getD (10 : Int).toNat 0)))) - ((bo_.getD (2 : Int).toNat 0) * (((bo_.getD (4 : Int).toNat 0) * (bo_.getD (11 : Int).toNat 0)) - ((bo_.getD (7 : Int).toNat 0) * (bo_.getD (8 : Int).toNat 0))))) + ((bo_.getD (3 : Int).toNat 0) * (((bo_.getD (4 : Int).toNat 0) * (bo_.getD (10 : Int).toNat 0)) - ((bo_.getD (6 : Int).toNat 0) * (bo_.getD (8 : Int).toNat 0))))), rfl, (hfr_refl [] h)⟩⟩
      · refine ik_Wk 5 (pc_q := 36) (loc_q := [some (.ref 45), some (fI sz), some (fI wt), some (fI 0), some (fI 2), some (fI 2)]) (st_q := [fI 1, fI sz]) (h_q := h) (cl_q := 0) (sl_q := 0) rfl ?_
        refine fw_ic_ne rfl rfl (by omega) (by omega) (by omega) (by omega) (fun hc17 => ?_) (fun hc17 => ?_)
        · refine ik_Wk 1 (pc_q := 40) (loc_q := [some (.ref 45), some (fI sz), some (fI wt), some (fI 0), some (fI 2), some (fI 2)]) (st_q := [.ref 45]) (h_q := h) (cl_q := 0) (sl_q := 0) rfl ?_
          refine fw_gf rfl rfl h45 rfl ?_
          refine ik_Wk 1 (pc_q := 44) (loc_q := [some (.ref 45), some (fI sz), some (fI wt), some (fI 0), some (fI 2), some (fI 2)]) (st_q := [fI 0, .ref 47]) (h_q := h) (cl_q := 0) (sl_q := 0) rfl ?_
          refine fx_lal rfl h47 (by omega) (by omega) (by omega) ?_
          exact ik_Wret rfl rfl ⟨_, _, rfl, rfl, rfl, rfl, ⟨(bo_.getD (0 : Int).toNat 0), rfl, (hfr_refl [] h)⟩⟩
        · refine ik_Wk 2 (pc_q := 48) (loc_q := [some (.ref 45), some (fI sz), some (fI wt), some (fI 0), some (fI 2), some (fI 2)]) (st_q := [fI 2, fI sz]) (h_q := h) (cl_q := 0) (sl_q := 0) rfl ?_
          refine fw_ic_ne rfl rfl (by omega) (by omega) (by omega) (by omega) (fun hc18 => ?_) (fun hc18 => ?_)
          · refine ik_Wk 4 (pc_q := 56) (loc_q := [some (.ref 45), some (fI sz), some (fI wt), some (fI 0), some (fI 2), some (fI 2)]) (st_q := [fI 2, fI 0, fI 0, .ref 45]) (h_q := h) (cl_q := 0) (sl_q := 0) rfl ?_
            refine ik_Wc 50 4 0 [.ref 45, fI 0, fI 0, fI 2] [] rfl rfl rfl (by decide +kernel) rfl rfl (fw_rec hl rfl h45 rfl (Nat.le_of_ble_eq_true rfl)) ?_
            refine ik_Wk 0 (pc_q := 0) (loc_q := [some (.ref 45), some (fI 0), some (fI 0), some (fI 2), none, none]) (st_q := []) (h_q := h) (cl_q := 0) (sl_q := 0) rfl ?_
            refine ik_Wk 2 (pc_q := 2) (loc_q := [some (.ref 45), some (fI 0), some (fI 0), some (fI 2), none, none]) (st_q := [fI 4, fI 0]) (h_q := h) (cl_q := 0) (sl_q := 0) rfl ?_
            refine fw_mul rfl ?_
            refine ik_Wk 3 (pc_q := 8) (loc_q := [some (.ref 45), some (fI 0), some (fI 0), some (fI 2), some (fI 0), none]) (st_q := [fI 4, fI 0]) (h_q := h) (cl_q := 0) (sl_q := 0) rfl ?_
            refine fw_add rfl ?_
            refine ik_Wk 2 (pc_q := 12) (loc_q := [some (.ref 45), some (fI 0), some (fI 0), some (fI 2), some (fI 0), some (fI 4)]) (st_q := [.ref 45]) (h_q := h) (cl_q := 0) (sl_q := 0) rfl ?_
            refine fw_gf rfl rfl h45 rfl ?_
            refine ik_Wk 2 (pc_q := 18) (loc_q := [some (.ref 45), some (fI 0), some (fI 0), some (fI 2), some (fI 0), some (fI 4)]) (st_q := [fI 0, fI 0, .ref 47]) (h_q := h) (cl_q := 0) (sl_q := 0) rfl ?_
            refine fw_add rfl ?_
            refine fx_lal rfl h47 (by omega) (by omega) (by omega) ?_
            refine ik_Wk 1 (pc_q := 21) (loc_q := [some (.ref 45), some (fI 0), some (fI 0), some (fI 2), some (fI 0), some (fI 4)]) (st_q := [.ref 45, fJ (bo_.getD (0 : Int).toNat 0)]) (h_q := h) (cl_q := 0) (sl_q := 0) rfl ?_
            refine fw_gf rfl rfl h45 rfl ?_
            refine ik_Wk 2 (pc_q := 27) (loc_q := [some (.ref 45), some (fI 0), some (fI 0), some (fI 2), some (fI 0), some (fI 4)]) (st_q := [fI 2, fI 4, .ref 47, fJ (bo_.getD (0 : Int).toNat 0)]) (h_q := h) (cl_q := 0) (sl_q := 0) rfl ?_
            refine fw_add rfl ?_
            refine fx_lal rfl h47 (by omega) (by omega) (by omega) ?_
            refine fw_lmul rfl ?_
            refine ik_Wk 1 (pc_q := 31) (loc_q := [some (.ref 45), some (fI 0), some (fI 0), some (fI 2), some (fI 0), some (fI 4)]) (st_q := [.ref 45, fJ ((bo_.getD (0 : Int).toNat 0) * (bo_.getD (6 : Int).toNat 0))]) (h_q := h) (cl_q := 0) (sl_q := 0) rfl ?_
            refine fw_gf rfl rfl h45 rfl ?_
            refine ik_Wk 2 (pc_q := 37) (loc_q := [some (.ref 45), some (fI 0), some (fI 0), some (fI 2), some (fI 0), some (fI 4)]) (st_q := [fI 2, fI 0, .ref 47, fJ ((bo_.getD (0 : Int).toNat 0) * (bo_.getD (6 : Int).toNat 0))]) (h_q := h) (cl_q := 0) (sl_q := 0) rfl ?_
            refine fw_add rfl ?_
            refine fx_lal rfl h47 (by omega) (by omega) (by omega) ?_
            refine ik_Wk 1 (pc_q := 40) (loc_q := [some (.ref 45), some (fI 0), some (fI 0), some (fI 2), some (fI 0), some (fI 4)]) (st_q := [.ref 45, fJ (bo_.getD (2 : Int).toNat 0), fJ ((bo_.getD (0 : Int).toNat 0) * (bo_.getD (6 : Int).toNat 0))]) (h_q := h) (cl_q := 0) (sl_q := 0) rfl ?_
            refine fw_gf rfl rfl h45 rfl ?_
            refine ik_Wk 2 (pc_q := 46) (loc_q := [some (.ref 45), some (fI 0), some (fI 0), some (fI 2), some (fI 0), some (fI 4)]) (st_q := [fI 0, fI 4, .ref 47, fJ (bo_.getD (2 : Int).toNat 0), fJ ((bo_.getD (0 : Int).toNat 0) * (bo_.getD (6 : Int).toNat 0))]) (h_q := h) (cl_q := 0) (sl_q := 0) rfl ?_
            refine fw_add rfl ?_
            refine fx_lal rfl h47 (by omega) (by omega) (by omega) ?_
            refine fw_lmul rfl ?_
            refine fw_lsub rfl ?_
            refine ik_Wret rfl rfl ⟨_, _, rfl, rfl, ?_⟩
            refine ik_Wk 0 (pc_q := 59) (loc_q := [some (.ref 45), some (fI sz), some (fI wt), some (fI 0), some (fI 2), some (fI 2)]) (st_q := [fJ (((bo_.getD (0 : Int).toNat 0) * (bo_.getD (6 : Int).toNat 0)) - ((bo_.getD (2 : Int).toNat 0) * (bo_.getD (4 : Int).toNat 0)))]) (h_q := h) (cl_q := 0) (sl_q := 0) rfl ?_
            exact ik_Wret rfl rfl ⟨_, _, rfl, rfl, rfl, rfl, ⟨(((bo_.getD (0 : Int).toNat 0) * (bo_.getD (6 : Int).toNat 0)) - ((bo_.getD (2 : Int).toNat 0) * (bo_.getD (4 : Int).toNat 0))), rfl, (hfr_refl [] h)⟩⟩
          · refine ik_Wk 1 (pc_q := 61) (loc_q := [some (.ref 45), some (fI sz), some (fI wt), some (fI 0), some (fI 2), some (fI 2)]) (st_q := [.ref 45]) (h_q := h) (cl_q := 0) (sl_q := 0) rfl ?_
            refine fw_gf rfl rfl h45 rfl ?_
            refine ik_Wk 1 (pc_q := 65) (loc_q := [some (.ref 45), some (fI sz), some (fI wt), some (fI 0), some (fI 2), some (fI 2)]) (st_q := [fI 0, .ref 47]) (h_q := h) (cl_q := 0) (sl_q := 0) rfl ?_
            refine fx_lal rfl h47 (by omega) (by omega) (by omega) ?_
            refine ik_Wk 4 (pc_q := 72) (loc_q := [some (.ref 45), some (fI sz), some (fI wt), some (fI 0), some (fI 2), some (fI 2)]) (st_q := [fI 2, fI 2, fI 1, .ref 45, fJ (bo_.getD (0 : Int).toNat 0)]) (h_q := h) (cl_q := 0) (sl_q := 0) rfl ?_
            refine ik_Wc 50 4 0 [.ref 45, fI 1, fI 2, fI 2] [fJ (bo_.getD (0 : Int).toNat 0)] rfl rfl rfl (by decide +kernel) rfl rfl (fw_rec hl rfl h45 rfl (Nat.le_of_ble_eq_true rfl)) ?_
            refine ik_Wk 0 (pc_q := 0) (loc_q := [some (.ref 45), some (fI 1), some (fI 2), some (fI 2), none, none]) (st_q := []) (h_q := h) (cl_q := 0) (sl_q := 0) rfl ?_
            refine ik_Wk 2 (pc_q := 2) (loc_q := [some (.ref 45), some (fI 1), some (fI 2), some (fI 2), none, none]) (st_q := [fI 4, fI 1]) (h_q := h) (cl_q := 0) (sl_q := 0) rfl ?_
            refine fw_mul rfl ?_
            refine ik_Wk 3 (pc_q := 8) (loc_q := [some (.ref 45), some (fI 1), some (fI 2), some (fI 2), some (fI 4), none]) (st_q := [fI 4, fI 4]) (h_q := h) (cl_q := 0) (sl_q := 0) rfl ?_
            refine fw_add rfl ?_
            refine ik_Wk 2 (pc_q := 12) (loc_q := [some (.ref 45), some (fI 1), some (fI 2), some (fI 2), some (fI 4), some (fI 8)]) (st_q := [.ref 45]) (h_q := h) (cl_q := 0) (sl_q := 0) rfl ?_
            refine fw_gf rfl rfl h45 rfl ?_
            refine ik_Wk 2 (pc_q := 18) (loc_q := [some (.ref 45), some (fI 1), some (fI 2), some (fI 2), some (fI 4), some (fI 8)]) (st_q := [fI 2, fI 4, .ref 47]) (h_q := h) (cl_q := 0) (sl_q := 0) rfl ?_
            refine fw_add rfl ?_
            refine fx_lal rfl h47 (by omega) (by omega) (by omega) ?_
            refine ik_Wk 1 (pc_q := 21) (loc_q := [some (.ref 45), some (fI 1), some (fI 2), some (fI 2), some (fI 4), some (fI 8)]) (st_q := [.ref 45, fJ (bo_.getD (6 : Int).toNat 0)]) (h_q := h) (cl_q := 0) (sl_q := 0) rfl ?_
            refine fw_gf rfl rfl h45 rfl ?_
            refine ik_Wk 2 (pc_q := 27) (loc_q := [some (.ref 45), some (fI 1), some (fI 2), some (fI 2), some (fI 4), some (fI 8)]) (st_q := [fI 2, fI 8, .ref 47, fJ (bo_.getD (6 : Int).toNat 0)]) (h_q := h) (cl_q := 0) (sl_q := 0) rfl ?_
            refine fw_add rfl ?_
            refine fx_lal rfl h47 (by omega) (by omega) (by omega) ?_
            refine fw_lmul rfl ?_
            refine ik_Wk 1 (pc_q := 31) (loc_q := [some (.ref 45), some (fI 1), some (fI 2), some (fI 2), some (fI 4), some (fI 8)]) (st_q := [.ref 45, fJ ((bo_.getD (6 : Int).toNat 0) * (bo_.getD (10 : Int).toNat 0))]) (h_q := h) (cl_q := 0) (sl_q := 0) rfl ?_
            refine fw_gf rfl rfl h45 rfl ?_
            refine ik_Wk 2 (pc_q := 37) (loc_q := [some (.ref 45), some (fI 1), some (fI 2), some (fI 2), some (fI 4), some (fI 8)]) (st_q := [fI 2, fI 4, .ref 47, fJ ((bo_.getD (6 : Int).toNat 0) * (bo_.getD (10 : Int).toNat 0))]) (h_q := h) (cl_q := 0) (sl_q := 0) rfl ?_
            refine fw_add rfl ?_
            refine fx_lal rfl h47 (by omega) (by omega) (by omega) ?_
            refine ik_Wk 1 (pc_q := 40) (loc_q := [some (.ref 45), some (fI 1), some (fI 2), some (fI 2), some (fI 4), some (fI 8)]) (st_q := [.ref 45, fJ (bo_.getD (6 : Int).toNat 0), fJ ((bo_.getD (6 : Int).toNat 0) * (bo_.getD (10 : Int).toNat 0))]) (h_q := h) (cl_q := 0) (sl_q := 0) rfl ?_
            refine fw_gf rfl rfl h45 rfl ?_
            refine ik_Wk 2 (pc_q := 46) (loc_q := [some (.ref 45), some (fI 1), some (fI 2), some (fI 2), some (fI 4), some (fI 8)]) (st_q := [fI 2, fI 8, .ref 47, fJ (bo_.getD (6 : Int).toNat 0), fJ ((bo_.getD (6 : Int).toNat 0) * (bo_.getD (10 : Int).toNat 0))]) (h_q := h) (cl_q := 0) (sl_q := 0) rfl ?_
            refine fw_add rfl ?_
            refine fx_lal rfl h47 (by omega) (by omega) (by omega) ?_
            refine fw_lmul rfl ?_
            refine fw_lsub rfl ?_
            refine ik_Wret rfl rfl ⟨_, _, rfl, rfl, ?_⟩
            refine ik_Wk 0 (pc_q := 75) (loc_q := [some (.ref 45), some (fI sz), some (fI wt), some (fI 0), some (fI 2), some (fI 2)]) (st_q := [fJ (((bo_.getD (6 : Int).toNat 0) * (bo_.getD (10 : Int).toNat 0)) - ((bo_.getD (6 : Int).toNat 0) * (bo_.getD (10 : Int).toNat 0))), fJ (bo_.getD (0 : Int).toNat 0)]) (h_q := h) (cl_q := 0) (sl_q := 0) rfl ?_
            refine fw_lmul rfl ?_
            refine ik_Wk 1 (pc_q := 77) (loc_q := [some (.ref 45), some (fI sz), some (fI wt), some (fI 0), some (fI 2), some (fI 2)]) (st_q := [.ref 45, fJ ((bo_.getD (0 : Int).toNat 0) * (((bo_.getD (6 : Int).toNat 0) * (bo_.getD (10 : Int).toNat 0)) - ((bo_.getD (6 : Int).toNat 0) * (bo_.getD (10 : Int).toNat 0))))]) (h_q := h) (cl_q := 0) (sl_q := 0) rfl ?_
            refine fw_gf rfl rfl h45 rfl ?_
            refine ik_Wk 1 (pc_q := 82) (loc_q := [some (.ref 45), some (fI sz), some (fI wt), some (fI 0), some (fI 2), some (fI 2)]) (st_q := [fI 2, .ref 47, fJ ((bo_.getD (0 : Int).toNat 0) * (((bo_.getD (6 : Int).toNat 0) * (bo_.getD (10 : Int).toNat 0)) - ((bo_.getD (6 : Int).toNat 0) * (bo_.getD (10 : Int).toNat 0))))]) (h_q := h) (cl_q := 0) (sl_q := 0) rfl ?_
            refine fx_lal rfl h47 (by omega) (by omega) (by omega) ?_
            refine ik_Wk 4 (pc_q := 88) (loc_q := [some (.ref 45), some (fI sz), some (fI wt), some (fI 0), some (fI 2), some (fI 2)]) (st_q := [fI 2, fI 0, fI 1, .ref 45, fJ (bo_.getD (2 : Int).toNat 0), fJ ((bo_.getD (0 : Int).toNat 0) * (((bo_.getD (6 : Int).toNat 0) * (bo_.getD (10 : Int).toNat 0)) - ((bo_.getD (6 : Int).toNat 0) * (bo_.getD (10 : Int).toNat 0))))]) (h_q := h) (cl_q := 0) (sl_q := 0) rfl ?_
            refine ik_Wc 50 4 0 [.ref 45, fI 1, fI 0, fI 2] [fJ (bo_.getD (2 : Int).toNat 0), fJ ((bo_.getD (0 : Int).toNat 0) * (((bo_.getD (6 : Int).toNat 0) * (bo_.getD (10 : Int).toNat 0)) - ((bo_.getD (6 : Int).toNat 0) * (bo_.getD (10 : Int).toNat 0))))] rfl rfl rfl (by decide +kernel) rfl rfl (fw_rec hl rfl h45 rfl (Nat.le_of_ble_eq_true rfl)) ?_
            refine ik_Wk 0 (pc_q := 0) (loc_q := [some (.ref 45), some (fI 1), some (fI 0), some (fI 2), none, none]) (st_q := []) (h_q := h) (cl_q := 0) (sl_q := 0) rfl ?_
            refine ik_Wk 2 (pc_q := 2) (loc_q := [some (.ref 45), some (fI 1), some (fI 0), some (fI 2), none, none]) (st_q := [fI 4, fI 1]) (h_q := h) (cl_q := 0) (sl_q := 0) rfl ?_
            refine fw_mul rfl ?_
            refine ik_Wk 3 (pc_q := 8) (loc_q := [some (.ref 45), some (fI 1), some (fI 0), some (fI 2), some (fI 4), none]) (st_q := [fI 4, fI 4]) (h_q := h) (cl_q := 0) (sl_q := 0) rfl ?_
            refine fw_add rfl ?_
            refine ik_Wk 2 (pc_q := 12) (loc_q := [some (.ref 45), some (fI 1), some (fI 0), some (fI 2), some (fI 4), some (fI 8)]) (st_q := [.ref 45]) (h_q := h) (cl_q := 0) (sl_q := 0) rfl ?_
            refine fw_gf rfl rfl h45 rfl ?_
            refine ik_Wk 2 (pc_q := 18) (loc_q := [some (.ref 45), some (fI 1), some (fI 0), some (fI 2), some (fI 4), some (fI 8)]) (st_q := [fI 0, fI 4, .ref 47]) (h_q := h) (cl_q := 0) (sl_q := 0) rfl ?_
            refine fw_add rfl ?_
            refine fx_lal rfl h47 (by omega) (by omega) (by omega) ?_
            refine ik_Wk 1 (pc_q := 21) (loc_q := [some (.ref 45), some (fI 1), some (fI 0), some (fI 2), some (fI 4), some (fI 8)]) (st_q := [.ref 45, fJ (bo_.getD (4 : Int).toNat 0)]) (h_q := h) (cl_q := 0) (sl_q := 0) rfl ?_
            refine fw_gf rfl rfl h45 rfl ?_
            refine ik_Wk 2 (pc_q := 27) (loc_q := [some (.ref 45), some (fI 1), some (fI 0), some (fI 2), some (fI 4), some (fI 8)]) (st_q := [fI 2, fI 8, .ref 47, fJ (bo_.getD (4 : Int).toNat 0)]) (h_q := h) (cl_q := 0) (sl_q := 0) rfl ?_
            refine fw_add rfl ?_
            refine fx_lal rfl h47 (by omega) (by omega) (by omega) ?_
            refine fw_lmul rfl ?_
            refine ik_Wk 1 (pc_q := 31) (loc_q := [some (.ref 45), some (fI 1), some (fI 0), some (fI 2), some (fI 4), some (fI 8)]) (st_q := [.ref 45, fJ ((bo_.getD (4 : Int).toNat 0) * (bo_.getD (10 : Int).toNat 0))]) (h_q := h) (cl_q := 0) (sl_q := 0) rfl ?_
            refine fw_gf rfl rfl h45 rfl ?_
            refine ik_Wk 2 (pc_q := 37) (loc_q := [some (.ref 45), some (fI 1), some (fI 0), some (fI 2), some (fI 4), some (fI 8)]) (st_q := [fI 2, fI 4, .ref 47, fJ ((bo_.getD (4 : Int).toNat 0) * (bo_.getD (10 : Int).toNat 0))]) (h_q := h) (cl_q := 0) (sl_q := 0) rfl ?_
            refine fw_add rfl ?_
            refine fx_lal rfl h47 (by omega) (by omega) (by omega) ?_
            refine ik_Wk 1 (pc_q := 40) (loc_q := [some (.ref 45), some (fI 1), some (fI 0), some (fI 2), some (fI 4), some (fI 8)]) (st_q := [.ref 45, fJ (bo_.getD (6 : Int).toNat 0), fJ ((bo_.getD (4 : Int).toNat 0) * (bo_.getD (10 : Int).toNat 0))]) (h_q := h) (cl_q := 0) (sl_q := 0) rfl ?_
            refine fw_gf rfl rfl h45 rfl ?_
            refine ik_Wk 2 (pc_q := 46) (loc_q := [some (.ref 45), some (fI 1), some (fI 0), some (fI 2), some (fI 4), some (fI 8)]) (st_q := [fI 0, fI 8, .ref 47, fJ (bo_.getD (6 : Int).toNat 0), fJ ((bo_.getD (4 : Int).toNat 0) * (bo_.getD (10 : Int).toNat 0))]) (h_q := h) (cl_q := 0) (sl_q := 0) rfl ?_
            refine fw_add rfl ?_
            refine fx_lal rfl h47 (by omega) (by omega) (by omega) ?_
            refine fw_lmul rfl ?_
            refine fw_lsub rfl ?_
            refine ik_Wret rfl rfl ⟨_, _, rfl, rfl, ?_⟩
            refine ik_Wk 0 (pc_q := 91) (loc_q := [some (.ref 45), some (fI sz), some (fI wt), some (fI 0), some (fI 2), some (fI 2)]) (st_q := [fJ (((bo_.getD (4 : Int).toNat 0) * (bo_.getD (10 : Int).toNat 0)) - ((bo_.getD (6 : Int).toNat 0) * (bo_.getD (8 : Int).toNat 0))), fJ (bo_.getD (2 : Int).toNat 0), fJ ((bo_.getD (0 : Int).toNat 0) * (((bo_.getD (6 : Int).toNat 0) * (bo_.getD (10 : Int).toNat 0)) - ((bo_.getD (6 : Int).toNat 0) * (bo_.getD (10 : Int).toNat 0))))]) (h_q := h) (cl_q := 0) (sl_q := 0) rfl ?_
            refine fw_lmul rfl ?_
            refine fw_lsub rfl ?_
            refine ik_Wk 1 (pc_q := 94) (loc_q := [some (.ref 45), some (fI sz), some (fI wt), some (fI 0), some (fI 2), some (fI 2)]) (st_q := [.ref 45, fJ (((bo_.getD (0 : Int).toNat 0) * (((bo_.getD (6 : Int).toNat 0) * (bo_.getD (10 : Int).toNat 0)) - ((bo_.getD (6 : Int).toNat 0) * (bo_.getD (10 : Int).toNat 0)))) - ((bo_.getD (2 : Int).toNat 0) * (((bo_.getD (4 : Int).toNat 0) * (bo_.getD (10 : Int).toNat 0)) - ((bo_.getD (6 : Int).toNat 0) * (bo_.getD (8 : Int).toNat 0)))))]) (h_q := h) (cl_q := 0) (sl_q := 0) rfl ?_
            refine fw_gf rfl rfl h45 rfl ?_
            refine ik_Wk 1 (pc_q := 99) (loc_q := [some (.ref 45), some (fI sz), some (fI wt), some (fI 0), some (fI 2), some (fI 2)]) (st_q := [fI 2, .ref 47, fJ (((bo_.getD (0 : Int).toNat 0) * (((bo_.getD (6 : Int).toNat 0) * (bo_.getD (10 : Int).toNat 0)) - ((bo_.getD (6 : Int).toNat 0) * (bo_.getD (10 : Int).toNat 0)))) - ((bo_.getD (2 : Int).toNat 0) * (((bo_.getD (4 : Int).toNat 0) * (bo_.getD (10 : Int).toNat 0)) - ((bo_.getD (6 : Int).toNat 0) * (bo_.getD (8 : Int).toNat 0)))))]) (h_q := h) (cl_q := 0) (sl_q := 0) rfl ?_
            refine fx_lal rfl h47 (by omega) (by omega) (by omega) ?_
            refine ik_Wk 4 (pc_q := 105) (loc_q := [some (.ref 45), some (fI sz), some (fI wt), some (fI 0), some (fI 2), some (fI 2)]) (st_q := [fI 2, fI 0, fI 1, .ref 45, fJ (bo_.getD (2 : Int).toNat 0), fJ (((bo_.getD (0 : Int).toNat 0) * (((bo_.getD (6 : Int).toNat 0) * (bo_.getD (10 : Int).toNat 0)) - ((bo_.getD (6 : Int).toNat 0) * (bo_.getD (10 : Int).toNat 0)))) - ((bo_.getD (2 : Int).toNat 0) * (((bo_.getD (4 : Int).toNat 0) * (bo_.getD (10 : Int).toNat 0)) - ((bo_.getD (6 : Int).toNat 0) * (bo_.getD (8 : Int).toNat 0)))))]) (h_q := h) (cl_q := 0) (sl_q := 0) rfl ?_
            refine ik_Wc 50 4 0 [.ref 45, fI 1, fI 0, fI 2] [fJ (bo_.getD (2 : Int).toNat 0), fJ (((bo_.getD (0 : Int).toNat 0) * (((bo_.getD (6 : Int).toNat 0) * (bo_.getD (10 : Int).toNat 0)) - ((bo_.getD (6 : Int).toNat 0) * (bo_.getD (10 : Int).toNat 0)))) - ((bo_.getD (2 : Int).toNat 0) * (((bo_.getD (4 : Int).toNat 0) * (bo_.getD (10 : Int).toNat 0)) - ((bo_.getD (6 : Int).toNat 0) * (bo_.getD (8 : Int).toNat 0)))))] rfl rfl rfl (by decide +kernel) rfl rfl (fw_rec hl rfl h45 rfl (Nat.le_of_ble_eq_true rfl)) ?_
            refine ik_Wk 0 (pc_q := 0) (loc_q := [some (.ref 45), some (fI 1), some (fI 0), some (fI 2), none, none]) (st_q := []) (h_q := h) (cl_q := 0) (sl_q := 0) rfl ?_
            refine ik_Wk 2 (pc_q := 2) (loc_q := [some (.ref 45), some (fI 1), some (fI 0), some (fI 2), none, none]) (st_q := [fI 4, fI 1]) (h_q := h) (cl_q := 0) (sl_q := 0) rfl ?_
            refine fw_mul rfl ?_
            refine ik_Wk 3 (pc_q := 8) (loc_q := [some (.ref 45), some (fI 1), some (fI 0), some (fI 2), some (fI 4), none]) (st_q := [fI 4, fI 4]) (h_q := h) (cl_q := 0) (sl_q := 0) rfl ?_
            refine fw_add rfl ?_
            refine ik_Wk 2 (pc_q := 12) (loc_q := [some (.ref 45), some (fI 1), some (fI 0), some (fI 2), some (fI 4), some (fI 8)]) (st_q := [.ref 45]) (h_q := h) (cl_q := 0) (sl_q := 0) rfl ?_
            refine fw_gf rfl rfl h45 rfl ?_
            refine ik_Wk 2 (pc_q := 18) (loc_q := [some (.ref 45), some (fI 1), some (fI 0), some (fI 2), some (fI 4), some (fI 8)]) (st_q := [fI 0, fI 4, .ref 47]) (h_q := h) (cl_q := 0) (sl_q := 0) rfl ?_
            refine fw_add rfl ?_
            refine fx_lal rfl h47 (by omega) (by omega) (by omega) ?_
            refine ik_Wk 1 (pc_q := 21) (loc_q := [some (.ref 45), some (fI 1), some (fI 0), some (fI 2), some (fI 4), some (fI 8)]) (st_q := [.ref 45, fJ (bo_.getD (4 : Int).toNat 0)]) (h_q := h) (cl_q := 0) (sl_q := 0) rfl ?_
            refine fw_gf rfl rfl h45 rfl ?_
            refine ik_Wk 2 (pc_q := 27) (loc_q := [some (.ref 45), some (fI 1), some (fI 0), some (fI 2), some (fI 4), some (fI 8)]) (st_q := [fI 2, fI 8, .ref 47, fJ (bo_.getD (4 : Int).toNat 0)]) (h_q := h) (cl_q := 0) (sl_q := 0) rfl ?_
            refine fw_add rfl ?_
            refine fx_lal rfl h47 (by omega) (by omega) (by omega) ?_
            refine fw_lmul rfl ?_
            refine ik_Wk 1 (pc_q := 31) (loc_q := [some (.ref 45), some (fI 1), some (fI 0), some (fI 2), some (fI 4), some (fI 8)]) (st_q := [.ref 45, fJ ((bo_.getD (4 : Int).toNat 0) * (bo_.getD (10 : Int).toNat 0))]) (h_q := h) (cl_q := 0) (sl_q := 0) rfl ?_
            refine fw_gf rfl rfl h45 rfl ?_
            refine ik_Wk 2 (pc_q := 37) (loc_q := [some (.ref 45), some (fI 1), some (fI 0), some (fI 2), some (fI 4), some (fI 8)]) (st_q := [fI 2, fI 4, .ref 47, fJ ((bo_.getD (4 : Int).toNat 0) * (bo_.getD (10 : Int).toNat 0))]) (h_q := h) (cl_q := 0) (sl_q := 0) rfl ?_
            refine fw_add rfl ?_
            refine fx_lal rfl h47 (by omega) (by omega) (by omega) ?_
            refine ik_Wk 1 (pc_q := 40) (loc_q := [some (.ref 45), some (fI 1), some (fI 0), some (fI 2), some (fI 4), some (fI 8)]) (st_q := [.ref 45, fJ (bo_.getD (6 : Int).toNat 0), fJ ((bo_.getD (4 : Int).toNat 0) * (bo_.getD (10 : Int).toNat 0))]) (h_q := h) (cl_q := 0) (sl_q := 0) rfl ?_
            refine fw_gf rfl rfl h45 rfl ?_
            refine ik_Wk 2 (pc_q := 46) (loc_q := [some (.ref 45), some (fI 1), some (fI 0), some (fI 2), some (fI 4), some (fI 8)]) (st_q := [fI 0, fI 8, .ref 47, fJ (bo_.getD (6 : Int).toNat 0), fJ ((bo_.getD (4 : Int).toNat 0) * (bo_.getD (10 : Int).toNat 0))]) (h_q := h) (cl_q := 0) (sl_q := 0) rfl ?_
            refine fw_add rfl ?_
            refine fx_lal rfl h47 (by omega) (by omega) (by omega) ?_
            refine fw_lmul rfl ?_
            refine fw_lsub rfl ?_
            refine ik_Wret rfl rfl ⟨_, _, rfl, rfl, ?_⟩
            refine ik_Wk 0 (pc_q := 108) (loc_q := [some (.ref 45), some (fI sz), some (fI wt), some (fI 0), some (fI 2), some (fI 2)]) (st_q := [fJ (((bo_.getD (4 : Int).toNat 0) * (bo_.getD (10 : Int).toNat 0)) - ((bo_.getD (6 : Int).toNat 0) * (bo_.getD (8 : Int).toNat 0))), fJ (bo_.getD (2 : Int).toNat 0), fJ (((bo_.getD (0 : Int).toNat 0) * (((bo_.getD (6 : Int).toNat 0) * (bo_.getD (10 : Int).toNat 0)) - ((bo_.getD (6 : Int).toNat 0) * (bo_.getD (10 : Int).toNat 0)))) - ((bo_.getD (2 : Int).toNat 0) * (((bo_.getD (4 : Int).toNat 0) * (bo_.getD (10 : Int).toNat 0)) - ((bo_.getD (6 : Int).toNat 0) * (bo_.getD (8 : Int).toNat 0)))))]) (h_q := h) (cl_q := 0) (sl_q := 0) rfl ?_
            refine fw_lmul rfl ?_
            refine fw_ladd rfl ?_
            exact ik_Wret rfl rfl ⟨_, _, rfl, rfl, rfl, rfl, ⟨((((bo_.getD (0 : Int).toNat 0) * (((bo_.getD (6 : Int).toNat 0) * (bo_.getD (10 : Int).toNat 0)) - ((bo_.getD (6 : Int).toNat 0) * (bo_.getD (10 : Int).toNat 0)))) - ((bo_.getD (2 : Int).toNat 0) * (((bo_.getD (4 : Int).toNat 0) * (bo_.getD (10 : Int).toNat 0)) - ((bo_.getD (6 : Int).toNat 0) * (bo_.getD (8 : Int).toNat 0))))) + ((bo_.getD (2 : Int).toNat 0) * (((bo_.getD (4 : Int).toNat 0) * (bo_.getD (10 : Int).toNat 0)) - ((bo_.getD (6 : Int).toNat 0) * (bo_.getD (8 : Int).toNat 0))))), rfl, (hfr_refl [] h)⟩⟩
    · refine ik_Wk 5 (pc_q := 24) (loc_q := [some (.ref 45), some (fI sz), some (fI wt), some (fI 0), some (fI 1), none]) (st_q := [fI 2, fI wt]) (h_q := h) (cl_q := 0) (sl_q := 0) rfl ?_
      refine fw_ic_le rfl rfl (by omega) (by omega) (by omega) (by omega) (fun hc19 => ?_) (fun hc19 => ?_)
      · refine ik_Wk 4 (pc_q := 36) (loc_q := [some (.ref 45), some (fI sz), some (fI wt), some (fI 0), some (fI 1), some (fI 3)]) (st_q := [fI 1, fI sz]) (h_q := h) (cl_q := 0) (sl_q := 0) rfl ?_
        refine fw_ic_ne rfl rfl (by omega) (by omega) (by omega) (by omega) (fun hc20 => ?_) (fun hc20 => ?_)
        · refine ik_Wk 1 (pc_q := 40) (loc_q := [some (.ref 45), some (fI sz), some (fI wt), some (fI 0), some (fI 1), some (fI 3)]) (st_q := [.ref 45]) (h_q := h) (cl_q := 0) (sl_q := 0) rfl ?_
          refine fw_gf rfl rfl h45 rfl ?_
          refine ik_Wk 1 (pc_q := 44) (loc_q := [some (.ref 45), some (fI sz), some (fI wt), some (fI 0), some (fI 1), some (fI 3)]) (st_q := [fI 0, .ref 47]) (h_q := h) (cl_q := 0) (sl_q := 0) rfl ?_
          refine fx_lal rfl h47 (by omega) (by omega) (by omega) ?_
          exact ik_Wret rfl rfl ⟨_, _, rfl, rfl, rfl, rfl, ⟨(bo_.getD (0 : Int).toNat 0), rfl, (hfr_refl [] h)⟩⟩
        · refine ik_Wk 2 (pc_q := 48) (loc_q := [some (.ref 45), some (fI sz), some (fI wt), some (fI 0), some (fI 1), some (fI 3)]) (st_q := [fI 2, fI sz]) (h_q := h) (cl_q := 0) (sl_q := 0) rfl ?_
          refine fw_ic_ne rfl rfl (by omega) (by omega) (by omega) (by omega) (fun hc21 => ?_) (fun hc21 => ?_)
          · refine ik_Wk 4 (pc_q := 56) (loc_q := [some (.ref 45), some (fI sz), some (fI wt), some (fI 0), some (fI 1), some (fI 3)]) (st_q := [fI 1, fI 0, fI 0, .ref 45]) (h_q := h) (cl_q := 0) (sl_q := 0) rfl ?_
            refine ik_Wc 50 4 0 [.ref 45, fI 0, fI 0, fI 1] [] rfl rfl rfl (by decide +kernel) rfl rfl (fw_rec hl rfl h45 rfl (Nat.le_of_ble_eq_true rfl)) ?_
            refine ik_Wk 0 (pc_q := 0) (loc_q := [some (.ref 45), some (fI 0), some (fI 0), some (fI 1), none, none]) (st_q := []) (h_q := h) (cl_q := 0) (sl_q := 0) rfl ?_
            refine ik_Wk 2 (pc_q := 2) (loc_q := [some (.ref 45), some (fI 0), some (fI 0), some (fI 1), none, none]) (st_q := [fI 4, fI 0]) (h_q := h) (cl_q := 0) (sl_q := 0) rfl ?_
            refine fw_mul rfl ?_
            refine ik_Wk 3 (pc_q := 8) (loc_q := [some (.ref 45), some (fI 0), some (fI 0), some (fI 1), some (fI 0), none]) (st_q := [fI 4, fI 0]) (h_q := h) (cl_q := 0) (sl_q := 0) rfl ?_
            refine fw_add rfl ?_
            refine ik_Wk 2 (pc_q := 12) (loc_q := [some (.ref 45), some (fI 0), some (fI 0), some (fI 1), some (fI 0), some (fI 4)]) (st_q := [.ref 45]) (h_q := h) (cl_q := 0) (sl_q := 0) rfl ?_
            refine fw_gf rfl rfl h45 rfl ?_
            refine ik_Wk 2 (pc_q := 18) (loc_q := [some (.ref 45), some (fI 0), some (fI 0), some (fI 1), some (fI 0), some (fI 4)]) (st_q := [fI 0, fI 0, .ref 47]) (h_q := h) (cl_q := 0) (sl_q := 0) rfl ?_
            refine fw_add rfl ?_
            refine fx_lal rfl h47 (by omega) (by omega) (by omega) ?_
            refine ik_Wk 1 (pc_q := 21) (loc_q := [some (.ref 45), some (fI 0), some (fI 0), some (fI 1), some (fI 0), some (fI 4)]) (st_q := [.ref 45, fJ (bo_.getD (0 : Int).toNat 0)]) (h_q := h) (cl_q := 0) (sl_q := 0) rfl ?_
            refine fw_gf rfl rfl h45 rfl ?_
            refine ik_Wk 2 (pc_q := 27) (loc_q := [some (.ref 45), some (fI 0), some (fI 0), some (fI 1), some (fI 0), some (fI 4)]) (st_q := [fI 1, fI 4, .ref 47, fJ (bo_.getD (0 : Int).toNat 0)]) (h_q := h) (cl_q := 0) (sl_q := 0) rfl ?_
            refine fw_add rfl ?_
            refine fx_lal rfl h47 (by omega) (by omega) (by omega) ?_
            refine fw_lmul rfl ?_
            refine ik_Wk 1 (pc_q := 31) (loc_q := [some (.ref 45), some (fI 0), some (fI 0), some (fI 1), some (fI 0), some (fI 4)]) (st_q := [.ref 45, fJ ((bo_.getD (0 : Int).toNat 0) * (bo_.getD (5 : Int).toNat 0))]) (h_q := h) (cl_q := 0) (sl_q := 0) rfl ?_
            refine fw_gf rfl rfl h45 rfl ?_
            refine ik_Wk 2 (pc_q := 37) (loc_q := [some (.ref 45), some (fI 0), some (fI 0), some (fI 1), some (fI 0), some (fI 4)]) (st_q := [fI 1, fI 0, .ref 47, fJ ((bo_.getD (0 : Int).toNat 0) * (bo_.getD (5 : Int).toNat 0))]) (h_q := h) (cl_q := 0) (sl_q := 0) rfl ?_
            refine fw_add rfl ?_
            refine fx_lal rfl h47 (by omega) (by omega) (by omega) ?_
            refine ik_Wk 1 (pc_q := 40) (loc_q := [some (.ref 45), some (fI 0), some (fI 0), some (fI 1), some (fI 0), some (fI 4)]) (st_q := [.ref 45, fJ (bo_.getD (1 : Int).toNat 0), fJ ((bo_.getD (0 : Int).toNat 0) * (bo_.getD (5 : Int).toNat 0))]) (h_q := h) (cl_q := 0) (sl_q := 0) rfl ?_
            refine fw_gf rfl rfl h45 rfl ?_
            refine ik_Wk 2 (pc_q := 46) (loc_q := [some (.ref 45), some (fI 0), some (fI 0), some (fI 1), some (fI 0), some (fI 4)]) (st_q := [fI 0, fI 4, .ref 47, fJ (bo_.getD (1 : Int).toNat 0), fJ ((bo_.getD (0 : Int).toNat 0) * (bo_.getD (5 : Int).toNat 0))]) (h_q := h) (cl_q := 0) (sl_q := 0) rfl ?_
            refine fw_add rfl ?_
            refine fx_lal rfl h47 (by omega) (by omega) (by omega) ?_
            refine fw_lmul rfl ?_
            refine fw_lsub rfl ?_
            refine ik_Wret rfl rfl ⟨_, _, rfl, rfl, ?_⟩
            refine ik_Wk 0 (pc_q := 59) (loc_q := [some (.ref 45), some (fI sz), some (fI wt), some (fI 0), some (fI 1), some (fI 3)]) (st_q := [fJ (((bo_.getD (0 : Int).toNat 0) * (bo_.getD (5 : Int).toNat 0)) - ((bo_.getD (1 : Int).toNat 0) * (bo_.getD (4 : Int).toNat 0)))]) (h_q := h) (cl_q := 0) (sl_q := 0) rfl ?_
            exact ik_Wret rfl rfl ⟨_, _, rfl, rfl, rfl, rfl, ⟨(((bo_.getD (0 : Int).toNat 0) * (bo_.getD (5 : Int).toNat 0)) - ((bo_.getD (1 : Int).toNat 0) * (bo_.getD (4 : Int).toNat 0))), rfl, (hfr_refl [] h)⟩⟩
          · refine ik_Wk 1 (pc_q := 61) (loc_q := [some (.ref 45), some (fI sz), some (fI wt), some (fI 0), some (fI 1), some (fI 3)]) (st_q := [.ref 45]) (h_q := h) (cl_q := 0) (sl_q := 0) rfl ?_
            refine fw_gf rfl rfl h45 rfl ?_
            refine ik_Wk 1 (pc_q := 65) (loc_q := [some (.ref 45), some (fI sz), some (fI wt), some (fI 0), some (fI 1), some (fI 3)]) (st_q := [fI 0, .ref 47]) (h_q := h) (cl_q := 0) (sl_q := 0) rfl ?_
            refine fx_lal rfl h47 (by omega) (by omega) (by omega) ?_
            refine ik_Wk 4 (pc_q := 72) (loc_q := [some (.ref 45), some (fI sz), some (fI wt), some (fI 0), some (fI 1), some (fI 3)]) (st_q := [fI 3, fI 1, fI 1, .ref 45, fJ (bo_.getD (0 : Int).toNat 0)]) (h_q := h) (cl_q := 0) (sl_q := 0) rfl ?_
            refine ik_Wc 50 4 0 [.ref 45, fI 1, fI 1, fI 3] [fJ (bo_.getD (0 : Int).toNat 0)] rfl rfl rfl (by decide +kernel) rfl rfl (fw_rec hl rfl h45 rfl (Nat.le_of_ble_eq_true rfl)) ?_
            refine ik_Wk 0 (pc_q := 0) (loc_q := [some (.ref 45), some (fI 1), some (fI 1), some (fI 3), none, none]) (st_q := []) (h_q := h) (cl_q := 0) (sl_q := 0) rfl ?_
            refine ik_Wk 2 (pc_q := 2) (loc_q := [some (.ref 45), some (fI 1), some (fI 1), some (fI 3), none, none]) (st_q := [fI 4, fI 1]) (h_q := h) (cl_q := 0) (sl_q := 0) rfl ?_
            refine fw_mul rfl ?_
            refine ik_Wk 3 (pc_q := 8) (loc_q := [some (.ref 45), some (fI 1), some (fI 1), some (fI 3), some (fI 4), none]) (st_q := [fI 4, fI 4]) (h_q := h) (cl_q := 0) (sl_q := 0) rfl ?_
            refine fw_add rfl ?_
            refine ik_Wk 2 (pc_q := 12) (loc_q := [some (.ref 45), some (fI 1), some (fI 1), some (fI 3), some (fI 4), some (fI 8)]) (st_q := [.ref 45]) (h_q := h) (cl_q := 0) (sl_q := 0) rfl ?_
            refine fw_gf rfl rfl h45 rfl ?_
            refine ik_Wk 2 (pc_q := 18) (loc_q := [some (.ref 45), some (fI 1), some (fI 1), some (fI 3), some (fI 4), some (fI 8)]) (st_q := [fI 1, fI 4, .ref 47]) (h_q := h) (cl_q := 0) (sl_q := 0) rfl ?_
            refine fw_add rfl ?_
            refine fx_lal rfl h47 (by omega) (by omega) (by omega) ?_
            refine ik_Wk 1 (pc_q := 21) (loc_q := [some (.ref 45), some (fI 1), some (fI 1), some (fI 3), some (fI 4), some (fI 8)]) (st_q := [.ref 45, fJ (bo_.getD (5 : Int).toNat 0)]) (h_q := h) (cl_q := 0) (sl_q := 0) rfl ?_
            refine fw_gf rfl rfl h45 rfl ?_
            refine ik_Wk 2 (pc_q := 27) (loc_q := [some (.ref 45), some (fI 1), some (fI 1), some (fI 3), some (fI 4), some (fI 8)]) (st_q := [fI 3, fI 8, .ref 47, fJ (bo_.getD (5 : Int).toNat 0)]) (h_q := h) (cl_q := 0) (sl_q := 0) rfl ?_
            refine fw_add rfl ?_
            refine fx_lal rfl h47 (by omega) (by omega) (by omega) ?_
            refine fw_lmul rfl ?_
            refine ik_Wk 1 (pc_q := 31) (loc_q := [some (.ref 45), some (fI 1), some (fI 1), some (fI 3), some (fI 4), some (fI 8)]) (st_q := [.ref 45, fJ ((bo_.getD (5 : Int).toNat 0) * (bo_.getD (11 : Int).toNat 0))]) (h_q := h) (cl_q := 0) (sl_q := 0) rfl ?_
            refine fw_gf rfl rfl h45 rfl ?_
            refine ik_Wk 2 (pc_q := 37) (loc_q := [some (.ref 45), some (fI 1), some (fI 1), some (fI 3), some (fI 4), some (fI 8)]) (st_q := [fI 3, fI 4, .ref 47, fJ ((bo_.getD (5 : Int).toNat 0) * (bo_.getD (11 : Int).toNat 0))]) (h_q := h) (cl_q := 0) (sl_q := 0) rfl ?_
            refine fw_add rfl ?_
            refine fx_lal rfl h47 (by omega) (by omega) (by omega) ?_
            refine ik_Wk 1 (pc_q := 40) (loc_q := [some (.ref 45), some (fI 1), some (fI 1), some (fI 3), some (fI 4), some (fI 8)]) (st_q := [.ref 45, fJ (bo_.getD (7 : Int).toNat 0), fJ ((bo_.getD (5 : Int).toNat 0) * (bo_.getD (11 : Int).toNat 0))]) (h_q := h) (cl_q := 0) (sl_q := 0) rfl ?_
            refine fw_gf rfl rfl h45 rfl ?_
            refine ik_Wk 2 (pc_q := 46) (loc_q := [some (.ref 45), some (fI 1), some (fI 1), some (fI 3), some (fI 4), some (fI 8)]) (st_q := [fI 1, fI 8, .ref 47, fJ (bo_.getD (7 : Int).toNat 0), fJ ((bo_.getD (5 : Int).toNat 0) * (bo_.getD (11 : Int).toNat 0))]) (h_q := h) (cl_q := 0) (sl_q := 0) rfl ?_
            refine fw_add rfl ?_
            refine fx_lal rfl h47 (by omega) (by omega) (by omega) ?_
            refine fw_lmul rfl ?_
            refine fw_lsub rfl ?_
            refine ik_Wret rfl rfl ⟨_, _, rfl, rfl, ?_⟩
            refine ik_Wk 0 (pc_q := 75) (loc_q := [some (.ref 45), some (fI sz), some (fI wt), some (fI 0), some (fI 1), some (fI 3)]) (st_q := [fJ (((bo_.getD (5 : Int).toNat 0) * (bo_.getD (11 : Int).toNat 0)) - ((bo_.getD (7 : Int).toNat 0) * (bo_.getD (9 : Int).toNat 0))), fJ (bo_.getD (0 : Int).toNat 0)]) (h_q := h) (cl_q := 0) (sl_q := 0) rfl ?_
            refine fw_lmul rfl ?_
            refine ik_Wk 1 (pc_q := 77) (loc_q := [some (.ref 45), some (fI sz), some (fI wt), some (fI 0), some (fI 1), some (fI 3)]) (st_q := [.ref 45, fJ ((bo_.getD (0 : Int).toNat 0) * (((bo_.getD (5 : Int).toNat 0) * (bo_.getD (11 : Int).toNat 0)) - ((bo_.getD (7 : Int).toNat 0) * (bo_.getD (9 : Int).toNat 0))))]) (h_q := h) (cl_q := 0) (sl_q := 0) rfl ?_
            refine fw_gf rfl rfl h45 rfl ?_
            refine ik_Wk 1 (pc_q := 82) (loc_q := [some (.ref 45), some (fI sz), some (fI wt), some (fI 0), some (fI 1), some (fI 3)]) (st_q := [fI 1, .ref 47, fJ ((bo_.getD (0 : Int).toNat 0) * (((bo_.getD (5 : Int).toNat 0) * (bo_.getD (11 : Int).toNat 0)) - ((bo_.getD (7 : Int).toNat 0) * (bo_.getD (9 : Int).toNat 0))))]) (h_q := h) (cl_q := 0) (sl_q := 0) rfl ?_
            refine fx_lal rfl h47 (by omega) (by omega) (by omega) ?_
            refine ik_Wk 4 (pc_q := 88) (loc_q := [some (.ref 45), some (fI sz), some (fI wt), some (fI 0), some (fI 1), some (fI 3)]) (st_q := [fI 3, fI 0, fI 1, .ref 45, fJ (bo_.getD (1 : Int).toNat 0), fJ ((bo_.getD (0 : Int).toNat 0) * (((bo_.getD (5 : Int).toNat 0) * (bo_.getD (11 : Int).toNat 0)) - ((bo_.getD (7 : Int).toNat 0) * (bo_.getD (9 : Int).toNat 0))))]) (h_q := h) (cl_q := 0) (sl_q := 0) rfl ?_
            refine ik_Wc 50 4 0 [.ref 45, fI 1, fI 0, fI 3] [fJ (bo_.getD (1 : Int).toNat 0), fJ ((bo_.getD (0 : Int).toNat 0) * (((bo_.getD (5 : Int).toNat 0) * (bo_.getD (11 : Int).toNat 0)) - ((bo_.getD (7 : Int).toNat 0) * (bo_.getD (9 : Int).toNat 0))))] rfl rfl rfl (by decide +kernel) rfl rfl (fw_rec hl rfl h45 rfl (Nat.le_of_ble_eq_true rfl)) ?_
            refine ik_Wk 0 (pc_q := 0) (loc_q := [some (.ref 45), some (fI 1), some (fI 0), some (fI 3), none, none]) (st_q := []) (h_q := h) (cl_q := 0) (sl_q := 0) rfl ?_
            refine ik_Wk 2 (pc_q := 2) (loc_q := [some (.ref 45), some (fI 1), some (fI 0), some (fI 3), none, none]) (st_q := [fI 4, fI 1]) (h_q := h) (cl_q := 0) (sl_q := 0) rfl ?_
            refine fw_mul rfl ?_
            refine ik_Wk 3 (pc_q := 8) (loc_q := [some (.ref 45), some (fI 1), some (fI 0), some (fI 3), some (fI 4), none]) (st_q := [fI 4, fI 4]) (h_q := h) (cl_q := 0) (sl_q := 0) rfl ?_
            refine fw_add rfl ?_
            refine ik_Wk 2 (pc_q := 12) (loc_q := [some (.ref 45), some (fI 1), some (fI 0), some (fI 3), some (fI 4), some (fI 8)]) (st_q := [.ref 45]) (h_q := h) (cl_q := 0) (sl_q := 0) rfl ?_
            refine fw_gf rfl rfl h45 rfl ?_
            refine ik_Wk 2 (pc_q := 18) (loc_q := [some (.ref 45), some (fI 1), some (fI 0), some (fI 3), some (fI 4), some (fI 8)]) (st_q := [fI 0, fI 4, .ref 47]) (h_q := h) (cl_q := 0) (sl_q := 0) rfl ?_
            refine fw_add rfl ?_
            refine fx_lal rfl h47 (by omega) (by omega) (by omega) ?_
            refine ik_Wk 1 (pc_q := 21) (loc_q := [some (.ref 45), some (fI 1), some (fI 0), some (fI 3), some (fI 4), some (fI 8)]) (st_q := [.ref 45, fJ (bo_.getD (4 : Int).toNat 0)]) (h_q := h) (cl_q := 0) (sl_q := 0) rfl ?_
            refine fw_gf rfl rfl h45 rfl ?_
            refine ik_Wk 2 (pc_q := 27) (loc_q := [some (.ref 45), some (fI 1), some (fI 0), some (fI 3), some (fI 4), some (fI 8)]) (st_q := [fI 3, fI 8, .ref 47, fJ (bo_.getD (4 : Int).toNat 0)]) (h_q := h) (cl_q := 0) (sl_q := 0) rfl ?_
            refine fw_add rfl ?_
            refine fx_lal rfl h47 (by omega) (by omega) (by omega) ?_
            refine fw_lmul rfl ?_
            refine ik_Wk 1 (pc_q := 31) (loc_q := [some (.ref 45), some (fI 1), some (fI 0), some (fI 3), some (fI 4), some (fI 8)]) (st_q := [.ref 45, fJ ((bo_.getD (4 : Int).toNat 0) * (bo_.getD (11 : Int).toNat 0))]) (h_q := h) (cl_q := 0) (sl_q := 0) rfl ?_
            refine fw_gf rfl rfl h45 rfl ?_
            refine ik_Wk 2 (pc_q := 37) (loc_q := [some (.ref 45), some (fI 1), some (fI 0), some (fI 3), some (fI 4), some (fI 8)]) (st_q := [fI 3, fI 4, .ref 47, fJ ((bo_.getD (4 : Int).toNat 0) * (bo_.getD (11 : Int).toNat 0))]) (h_q := h) (cl_q := 0) (sl_q := 0) rfl ?_
            refine fw_add rfl ?_
            refine fx_lal rfl h47 (by omega) (by omega) (by omega) ?_
            refine ik_Wk 1 (pc_q := 40) (loc_q := [some (.ref 45), some (fI 1), some (fI 0), some (fI 3), some (fI 4), some (fI 8)]) (st_q := [.ref 45, fJ (bo_.getD (7 : Int).toNat 0), fJ ((bo_.getD (4 : Int).toNat 0) * (bo_.getD (11 : Int).toNat 0))]) (h_q := h) (cl_q := 0) (sl_q := 0) rfl ?_
            refine fw_gf rfl rfl h45 rfl ?_
            refine ik_Wk 2 (pc_q := 46) (loc_q := [some (.ref 45), some (fI 1), some (fI 0), some (fI 3), some (fI 4), some (fI 8)]) (st_q := [fI 0, fI 8, .ref 47, fJ (bo_.getD (7 : Int).toNat 0), fJ ((bo_.getD (4 : Int).toNat 0) * (bo_.getD (11 : Int).toNat 0))]) (h_q := h) (cl_q := 0) (sl_q := 0) rfl ?_
            refine fw_add rfl ?_
            refine fx_lal rfl h47 (by omega) (by omega) (by omega) ?_
            refine fw_lmul rfl ?_
            refine fw_lsub rfl ?_
            refine ik_Wret rfl rfl ⟨_, _, rfl, rfl, ?_⟩
            refine ik_Wk 0 (pc_q := 91) (loc_q := [some (.ref 45), some (fI sz), some (fI wt), some (fI 0), some (fI 1), some (fI 3)]) (st_q := [fJ (((bo_.getD (4 : Int).toNat 0) * (bo_.getD (11 : Int).toNat 0)) - ((bo_.getD (7 : Int).toNat 0) * (bo_.getD (8 : Int).toNat 0))), fJ (bo_.getD (1 : Int).toNat 0), fJ ((bo_.getD (0 : Int).toNat 0) * (((bo_.getD (5 : Int).toNat 0) * (bo_.getD (11 : Int).toNat 0)) - ((bo_.getD (7 : Int).toNat 0) * (bo_.getD (9 : Int).toNat 0))))]) (h_q := h) (cl_q := 0) (sl_q := 0) rfl ?_
            refine fw_lmul rfl ?_
            refine fw_lsub rfl ?_
            refine ik_Wk 1 (pc_q := 94) (loc_q := [some (.ref 45), some (fI sz), some (fI wt), some (fI 0), some (fI 1), some (fI 3)]) (st_q := [.ref 45, fJ (((bo_.getD (0 : Int).toNat 0) * (((bo_.getD (5 : Int).toNat 0) * (bo_.getD (11 : Int).toNat 0)) - ((bo_.getD (7 : Int).toNat 0) * (bo_.getD (9 : Int).toNat 0)))) - ((bo_.getD (1 : Int).toNat 0) * (((bo_.getD (4 : Int).toNat 0) * (bo_.getD (11 : Int).toNat 0)) - ((bo_.getD (7 : Int).toNat 0) * (bo_.getD (8 : Int).toNat 0)))))]) (h_q := h) (cl_q := 0) (sl_q := 0) rfl ?_
            refine fw_gf rfl rfl h45 rfl ?_
            refine ik_Wk 1 (pc_q := 99) (loc_q := [some (.ref 45), some (fI sz), some (fI wt), some (fI 0), some (fI 1), some (fI 3)]) (st_q := [fI 3, .ref 47, fJ (((bo_.getD (0 : Int).toNat 0) * (((bo_.getD (5 : Int).toNat 0) * (bo_.getD (11 : Int).toNat 0)) - ((bo_.getD (7 : Int).toNat 0) * (bo_.getD (9 : Int).toNat 0)))) - ((bo_.getD (1 : Int).toNat 0) * (((bo_.getD (4 : Int).toNat 0) * (bo_.getD (11 : Int).toNat 0)) - ((bo_.getD (7 : Int).toNat 0) * (bo_.getD (8 : Int).toNat 0)))))]) (h_q := h) (cl_q := 0) (sl_q := 0) rfl ?_
            refine fx_lal rfl h47 (by omega) (by omega) (by omega) ?_
            refine ik_Wk 4 (pc_q := 105) (loc_q := [some (.ref 45), some (fI sz), some (fI wt), some (fI 0), some (fI 1), some (fI 3)]) (st_q := [fI 1, fI 0, fI 1, .ref 45, fJ (bo_.getD (3 : Int).toNat 0), fJ (((bo_.getD (0 : Int).toNat 0) * (((bo_.getD (5 : Int).toNat 0) * (bo_.getD (11 : Int).toNat 0)) - ((bo_.getD (7 : Int).toNat 0) * (bo_.getD (9 : Int).toNat 0)))) - ((bo_.getD (1 : Int).toNat 0) * (((bo_.getD (4 : Int).toNat 0) * (bo_.getD (11 : Int).toNat 0)) - ((bo_.getD (7 : Int).toNat 0) * (bo_.getD (8 : Int).toNat 0)))))]) (h_q := h) (cl_q := 0) (sl_q := 0) rfl ?_
            refine ik_Wc 50 4 0 [.ref 45, fI 1, fI 0, fI 1] [fJ (bo_.getD (3 : Int).toNat 0), fJ (((bo_.getD (0 : Int).toNat 0) * (((bo_.getD (5 : Int).toNat 0) * (bo_.getD (11 : Int).toNat 0)) - ((bo_.getD (7 : Int).toNat 0) * (bo_.getD (9 : Int).toNat 0)))) - ((bo_.getD (1 : Int).toNat 0) * (((bo_.getD (4 : Int).toNat 0) * (bo_.getD (11 : Int).toNat 0)) - ((bo_.getD (7 : Int).toNat 0) * (bo_.getD (8 : Int).toNat 0)))))] rfl rfl rfl (by decide +kernel) rfl rfl (fw_rec hl rfl h45 rfl (Nat.le_of_ble_eq_true rfl)) ?_
            refine ik_Wk 0 (pc_q := 0) (loc_q := [some (.ref 45), some (fI 1), some (fI 0), some (fI 1), none, none]) (st_q := []) (h_q := h) (cl_q := 0) (sl_q := 0) rfl ?_
            refine ik_Wk 2 (pc_q := 2) (loc_q := [some (.ref 45), some (fI 1), some (fI 0), some (fI 1), none, none]) (st_q := [fI 4, fI 1]) (h_q := h) (cl_q := 0) (sl_q := 0) rfl ?_
            refine fw_mul rfl ?_
            refine ik_Wk 3 (pc_q := 8) (loc_q := [some (.ref 45), some (fI 1), some (fI 0), some (fI 1), some (fI 4), none]) (st_q := [fI 4, fI 4]) (h_q := h) (cl_q := 0) (sl_q := 0) rfl ?_
            refine fw_add rfl ?_
            refine ik_Wk 2 (pc_q := 12) (loc_q := [some (.ref 45), some (fI 1), some (fI 0), some (fI 1), some (fI 4), some (fI 8)]) (st_q := [.ref 45]) (h_q := h) (cl_q := 0) (sl_q := 0) rfl ?_
            refine fw_gf rfl rfl h45 rfl ?_
            refine ik_Wk 2 (pc_q := 18) (loc_q := [some (.ref 45), some (fI 1), some (fI 0), some (fI 1), some (fI 4), some (fI 8)]) (st_q := [fI 0, fI 4, .ref 47]) (h_q := h) (cl_q := 0) (sl_q := 0) rfl ?_
            refine fw_add rfl ?_
            refine fx_lal rfl h47 (by omega) (by omega) (by omega) ?_
            refine ik_Wk 1 (pc_q := 21) (loc_q := [some (.ref 45), some (fI 1), some (fI 0), some (fI 1), some (fI 4), some (fI 8)]) (st_q := [.ref 45, fJ (bo_.getD (4 : Int).toNat 0)]) (h_q := h) (cl_q := 0) (sl_q := 0) rfl ?_
            refine fw_gf rfl rfl h45 rfl ?_
            refine ik_Wk 2 (pc_q := 27) (loc_q := [some (.ref 45), some (fI 1), some (fI 0), some (fI 1), some (fI 4), some (fI 8)]) (st_q := [fI 1, fI 8, .ref 47, fJ (bo_.getD (4 : Int).toNat 0)]) (h_q := h) (cl_q := 0) (sl_q := 0) rfl ?_
            refine fw_add rfl ?_
            refine fx_lal rfl h47 (by omega) (by omega) (by omega) ?_
            refine fw_lmul rfl ?_
            refine ik_Wk 1 (pc_q := 31) (loc_q := [some (.ref 45), some (fI 1), some (fI 0), some (fI 1), some (fI 4), some (fI 8)]) (st_q := [.ref 45, fJ ((bo_.getD (4 : Int).toNat 0) * (bo_.getD (9 : Int).toNat 0))]) (h_q := h) (cl_q := 0) (sl_q := 0) rfl ?_
            refine fw_gf rfl rfl h45 rfl ?_
            refine ik_Wk 2 (pc_q := 37) (loc_q := [some (.ref 45), some (fI 1), some (fI 0), some (fI 1), some (fI 4), some (fI 8)]) (st_q := [fI 1, fI 4, .ref 47, fJ ((bo_.getD (4 : Int).toNat 0) * (bo_.getD (9 : Int).toNat 0))]) (h_q := h) (cl_q := 0) (sl_q := 0) rfl ?_
            refine fw_add rfl ?_
            refine fx_lal rfl h47 (by omega) (by omega) (by omega) ?_
            refine ik_Wk 1 (pc_q := 40) (loc_q := [some (.ref 45), some (fI 1), some (fI 0), some (fI 1), some (fI 4), some (fI 8)]) (st_q := [.ref 45, fJ (bo_.getD (5 : Int).toNat 0), fJ ((bo_.getD (4 : Int).toNat 0) * (bo_.getD (9 : Int).toNat 0))]) (h_q := h) (cl_q := 0) (sl_q := 0) rfl ?_
            refine fw_gf rfl rfl h45 rfl ?_
            refine ik_Wk 2 (pc_q := 46) (loc_q := [some (.ref 45), some (fI 1), some (fI 0), some (fI 1), some (fI 4), some (fI 8)]) (st_q := [fI 0, fI 8, .ref 47, fJ (bo_.getD (5 : Int).toNat 0), fJ ((bo_.getD (4 : Int).toNat 0) * (bo_.getD (9 : Int).toNat 0))]) (h_q := h) (cl_q := 0) (sl_q := 0) rfl ?_
            refine fw_add rfl ?_
            refine fx_lal rfl h47 (by omega) (by omega) (by omega) ?_
            refine fw_lmul rfl ?_
            refine fw_lsub rfl ?_
            refine ik_Wret rfl rfl ⟨_, _, rfl, rfl, ?_⟩
            refine ik_Wk 0 (pc_q := 108) (loc_q := [some (.ref 45), some (fI sz), some (fI wt), some (fI 0), some (fI 1), some (fI 3)]) (st_q := [fJ (((bo_.getD (4 : Int).toNat 0) * (bo_.getD (9 : Int).toNat 0)) - ((bo_.getD (5 : Int).toNat 0) * (bo_.getD (8 : Int).toNat 0))), fJ (bo_.getD (3 : Int).toNat 0), fJ (((bo_.getD (0 : Int).toNat 0) * (((bo_.getD (5 : Int).toNat 0) * (bo_.getD (11 : Int).toNat 0)) - ((bo_.getD (7 : Int).toNat 0) * (bo_.getD (9 : Int).toNat 0)))) - ((bo_.getD (1 : Int).toNat 0) * (((bo_.getD (4 : Int).toNat 0) * (bo_.getD (11 : Int).toNat 0)) - ((bo_.getD (7 : Int).toNat 0) * (bo_.getD (8 : Int).toNat 0)))))]) (h_q := h) (cl_q := 0) (sl_q := 0) rfl ?_
            refine fw_lmul rfl ?_
            refine fw_ladd rfl ?_
            exact ik_Wret rfl rfl ⟨_, _, rfl, rfl, rfl, rfl, ⟨((((bo_.getD (0 : Int).toNat 0) * (((bo_.getD (5 : Int).toNat 0) * (bo_.getD (11 : Int).toNat 0)) - ((bo_.getD (7 : Int).toNat 0) * (bo_.getD (9 : Int).toNat 0)))) - ((bo_.getD (1 : Int).toNat 0) * (((bo_.getD (4 : Int).toNat 0) * (bo_.getD (11 : Int).toNat 0)) - ((bo_.getD (7 : Int).toNat 0) * (bo_.getD (8 : Int).toNat 0))))) + ((bo_.getD (3 : Int).toNat 0) * (((bo_.getD (4 : Int).toNat 0) * (bo_.getD (9 : Int).toNat 0)) - ((bo_.getD (5 : Int).toNat 0) * (bo_.getD (8 : Int).toNat 0))))), rfl, (hfr_refl [] h)⟩⟩
      · refine ik_Wk 5 (pc_q := 36) (loc_q := [some (.ref 45), some (fI sz), some (fI wt), some (fI 0), some (fI 1), some (fI 2)]) (st_q := [fI 1, fI sz]) (h_q := h) (cl_q := 0) (sl_q := 0) rfl ?_
        refine fw_ic_ne rfl rfl (by omega) (by omega) (by omega) (by omega) (fun hc22 => ?_) (fun hc22 => ?_)
        · refine ik_Wk 1 (pc_q := 40) (loc_q := [some (.ref 45), some (fI sz), some (fI wt), some (fI 0), some (fI 1), some (fI 2)]) (st_q := [.ref 45]) (h_q := h) (cl_q := 0) (sl_q := 0) rfl ?_
          refine fw_gf rfl rfl h45 rfl ?_
          refine ik_Wk 1 (pc_q := 44) (loc_q := [some (.ref 45), some (fI sz), some (fI wt), some (fI 0), some (fI 1), some (fI 2)]) (st_q := [fI 0, .ref 47]) (h_q := h) (cl_q := 0) (sl_q := 0) rfl ?_
          refine fx_lal rfl h47 (by omega) (by omega) (by omega) ?_
          exact ik_Wret rfl rfl ⟨_, _, rfl, rfl, rfl, rfl, ⟨(bo_.getD (0 : Int).toNat 0), rfl, (hfr_refl [] h)⟩⟩
        · refine ik_Wk 2 (pc_q := 48) (loc_q := [some (.ref 45), some (fI sz), some (fI wt), some (fI 0), some (fI 1), some (fI 2)]) (st_q := [fI 2, fI sz]) (h_q := h) (cl_q := 0) (sl_q := 0) rfl ?_
          refine fw_ic_ne rfl rfl (by omega) (by omega) (by omega) (by omega) (fun hc23 => ?_) (fun hc23 => ?_)
          · refine ik_Wk 4 (pc_q := 56) (loc_q := [some (.ref 45), some (fI sz), some (fI wt), some (fI 0), some (fI 1), some (fI 2)]) (st_q := [fI 1, fI 0, fI 0, .ref 45]) (h_q := h) (cl_q := 0) (sl_q := 0) rfl ?_
            refine ik_Wc 50 4 0 [.ref 45, fI 0, fI 0, fI 1] [] rfl rfl rfl (by decide +kernel) rfl rfl (fw_rec hl rfl h45 rfl (Nat.le_of_ble_eq_true rfl)) ?_
            refine ik_Wk 0 (pc_q := 0) (loc_q := [some (.ref 45), some (fI 0), some (fI 0), some (fI 1), none, none]) (st_q := []) (h_q := h) (cl_q := 0) (sl_q := 0) rfl ?_
            refine ik_Wk 2 (pc_q := 2) (loc_q := [some (.ref 45), some (fI 0), some (fI 0), some (fI 1), none, none]) (st_q := [fI 4, fI 0]) (h_q := h) (cl_q := 0) (sl_q := 0) rfl ?_
            refine fw_mul rfl ?_
            refine ik_Wk 3 (pc_q := 8) (loc_q := [some (.ref 45), some (fI 0), some (fI 0), some (fI 1), some (fI 0), none]) (st_q := [fI 4, fI 0]) (h_q := h) (cl_q := 0) (sl_q := 0) rfl ?_
            refine fw_add rfl ?_
            refine ik_Wk 2 (pc_q := 12) (loc_q := [some (.ref 45), some (fI 0), some (fI 0), some (fI 1), some (fI 0), some (fI 4)]) (st_q := [.ref 45]) (h_q := h) (cl_q := 0) (sl_q := 0) rfl ?_
            refine fw_gf rfl rfl h45 rfl ?_
            refine ik_Wk 2 (pc_q := 18) (loc_q := [some (.ref 45), some (fI 0), some (fI 0), some (fI 1), some (fI 0), some (fI 4)]) (st_q := [fI 0, fI 0, .ref 47]) (h_q := h) (cl_q := 0) (sl_q := 0) rfl ?_
            refine fw_add rfl ?_
            refine fx_lal rfl h47 (by omega) (by omega) (by omega) ?_
            refine ik_Wk 1 (pc_q := 21) (loc_q := [some (.ref 45), some (fI 0), some (fI 0), some (fI 1), some (fI 0), some (fI 4)]) (st_q := [.ref 45, fJ (bo_.getD (0 : Int).toNat 0)]) (h_q := h) (cl_q := 0) (sl_q := 0) rfl ?_
            refine fw_gf rfl rfl h45 rfl ?_
            refine ik_Wk 2 (pc_q := 27) (loc_q := [some (.ref 45), some (fI 0), some (fI 0), some (fI 1), some (fI 0), some (fI 4)]) (st_q := [fI 1, fI 4, .ref 47, fJ (bo_.getD (0 : Int).toNat 0)]) (h_q := h) (cl_q := 0) (sl_q := 0) rfl ?_
            refine fw_add rfl ?_
            refine fx_lal rfl h47 (by omega) (by omega) (by omega) ?_
            refine fw_lmul rfl ?_
            refine ik_Wk 1 (pc_q := 31) (loc_q := [some (.ref 45), some (fI 0), some (fI 0), some (fI 1), some (fI 0), some (fI 4)]) (st_q := [.ref 45, fJ ((bo_.getD (0 : Int).toNat 0) * (bo_.getD (5 : Int).toNat 0))]) (h_q := h) (cl_q := 0) (sl_q := 0) rfl ?_
            refine fw_gf rfl rfl h45 rfl ?_
            refine ik_Wk 2 (pc_q := 37) (loc_q := [some (.ref 45), some (fI 0), some (fI 0), some (fI 1), some (fI 0), some (fI 4)]) (st_q := [fI 1, fI 0, .ref 47, fJ ((bo_.getD (0 : Int).toNat 0) * (bo_.getD (5 : Int).toNat 0))]) (h_q := h) (cl_q := 0) (sl_q := 0) rfl ?_
            refine fw_add rfl ?_
            refine fx_lal rfl h47 (by omega) (by omega) (by omega) ?_
            refine ik_Wk 1 (pc_q := 40) (loc_q := [some (.ref 45), some (fI 0), some (fI 0), some (fI 1), some (fI 0), some (fI 4)]) (st_q := [.ref 45, fJ (bo_.getD (1 : Int).toNat 0), fJ ((bo_.getD (0 : Int).toNat 0) * (bo_.getD (5 : Int).toNat 0))]) (h_q := h) (cl_q := 0) (sl_q := 0) rfl ?_
            refine fw_gf rfl rfl h45 rfl ?_
            refine ik_Wk 2 (pc_q := 46) (loc_q := [some (.ref 45), some (fI 0), some (fI 0), some (fI 1), some (fI 0), some (fI 4)]) (st_q := [fI 0, fI 4, .ref 47, fJ (bo_.getD (1 : Int).toNat 0), fJ ((bo_.getD (0 : Int).toNat 0) * (bo_.getD (5 : Int).toNat 0))]) (h_q := h) (cl_q := 0) (sl_q := 0) rfl ?_
            refine fw_add rfl ?_
            refine fx_lal rfl h47 (by omega) (by omega) (by omega) ?_
            refine fw_lmul rfl ?_
            refine fw_lsub rfl ?_
            refine ik_Wret rfl rfl ⟨_, _, rfl, rfl, ?_⟩
            refine ik_Wk 0 (pc_q := 59) (loc_q := [some (.ref 45), some (fI sz), some (fI wt), some (fI 0), some (fI 1), some (fI 2)]) (st_q := [fJ (((bo_.getD (0 : Int).toNat 0) * (bo_.getD (5 : Int).toNat 0)) - ((bo_.getD (1 : Int).toNat 0) * (bo_.getD (4 : Int).toNat 0)))]) (h_q := h) (cl_q := 0) (sl_q := 0) rfl ?_
            exact ik_Wret rfl rfl ⟨_, _, rfl, rfl, rfl, rfl, ⟨(((bo_.getD (0 : Int).toNat 0) * (bo_.getD (5 : Int).toNat 0)) - ((bo_.getD (1 : Int).toNat 0) * (bo_.getD (4 : Int).toNat 0))), rfl, (hfr_refl [] h)⟩⟩
          · refine ik_Wk 1 (pc_q := 61) (loc_q := [some (.ref 45), some (fI sz), some (fI wt), some (fI 0), some (fI 1), some (fI 2)]) (st_q := [.ref 45]) (h_q := h) (cl_q := 0) (sl_q := 0) rfl ?_
            refine fw_gf rfl rfl h45 rfl ?_
            refine ik_Wk 1 (pc_q := 65) (loc_q := [some (.ref 45), some (fI sz), some (fI wt), some (fI 0), some (fI 1), some (fI 2)]) (st_q := [fI 0, .ref 47]) (h_q := h) (cl_q := 0) (sl_q := 0) rfl ?_
            refine fx_lal rfl h47 (by omega) (by omega) (by omega) ?_
            refine ik_Wk 4 (pc_q := 72) (loc_q := [some (.ref 45), some (fI sz), some (fI wt), some (fI 0), some (fI 1), some (fI 2)]) (st_q := [fI 2, fI 1, fI 1, .ref 45, fJ (bo_.getD (0 : Int).toNat 0)]) (h_q := h) (cl_q := 0) (sl_q := 0) rfl ?_
            refine ik_Wc 50 4 0 [.ref 45, fI 1, fI 1, fI 2] [fJ (bo_.getD (0 : Int).toNat 0)] rfl rfl rfl (by decide +kernel) rfl rfl (fw_rec hl rfl h45 rfl (Nat.le_of_ble_eq_true rfl)) ?_
            refine ik_Wk 0 (pc_q := 0) (loc_q := [some (.ref 45), some (fI 1), some (fI 1), some (fI 2), none, none]) (st_q := []) (h_q := h) (cl_q := 0) (sl_q := 0) rfl ?_
            refine ik_Wk 2 (pc_q := 2) (loc_q := [some (.ref 45), some (fI 1), some (fI 1), some (fI 2), none, none]) (st_q := [fI 4, fI 1]) (h_q := h) (cl_q := 0) (sl_q := 0) rfl ?_
            refine fw_mul rfl ?_
            refine ik_Wk 3 (pc_q := 8) (loc_q := [some (.ref 45), some (fI 1), some (fI 1), some (fI 2), some (fI 4), none]) (st_q := [fI 4, fI 4]) (h_q := h) (cl_q := 0) (sl_q := 0) rfl ?_
            refine fw_add rfl ?_
            refine ik_Wk 2 (pc_q := 12) (loc_q := [some (.ref 45), some (fI 1), some (fI 1), some (fI 2), some (fI 4), some (fI 8)]) (st_q := [.ref 45]) (h_q := h) (cl_q := 0) (sl_q := 0) rfl ?_
            refine fw_gf rfl rfl h45 rfl ?_
            refine ik_Wk 2 (pc_q := 18) (loc_q := [some (.ref 45), some (fI 1), some (fI 1), some (fI 2), some (fI 4), some (fI 8)]) (st_q := [fI 1, fI 4, .ref 47]) (h_q := h) (cl_q := 0) (sl_q := 0) rfl ?_
            refine fw_add rfl ?_
            refine fx_lal rfl h47 (by omega) (by omega) (by omega) ?_
            refine ik_Wk 1 (pc_q := 21) (loc_q := [some (.ref 45), some (fI 1), some (fI 1), some (fI 2), some (fI 4), some (fI 8)]) (st_q := [.ref 45, fJ (bo_.getD (5 : Int).toNat 0)]) (h_q := h) (cl_q := 0) (sl_q := 0) rfl ?_
            refine fw_gf rfl rfl h45 rfl ?_
            refine ik_Wk 2 (pc_q := 27) (loc_q := [some (.ref 45), some (fI 1), some (fI 1), some (fI 2), some (fI 4), some (fI 8)]) (st_q := [fI 2, fI 8, .ref 47, fJ (bo_.getD (5 : Int).toNat 0)]) (h_q := h) (cl_q := 0) (sl_q := 0) rfl ?_
            refine fw_add rfl ?_
            refine fx_lal rfl h47 (by omega) (by omega) (by omega) ?_
            refine fw_lmul rfl ?_
            refine ik_Wk 1 (pc_q := 31) (loc_q := [some (.ref 45), some (fI 1), some (fI 1), some (fI 2), some (fI 4), some (fI 8)]) (st_q := [.ref 45, fJ ((bo_.getD (5 : Int).toNat 0) * (bo_.getD (10 : Int).toNat 0))]) (h_q := h) (cl_q := 0) (sl_q := 0) rfl ?_
            refine fw_gf rfl rfl h45 rfl ?_
            refine ik_Wk 2 (pc_q := 37) (loc_q := [some (.ref 45), some (fI 1), some (fI 1), some (fI 2), some (fI 4), some (fI 8)]) (st_q := [fI 2, fI 4, .ref 47, fJ ((bo_.getD (5 : Int).toNat 0) * (bo_.getD (10 : Int).toNat 0))]) (h_q := h) (cl_q := 0) (sl_q := 0) rfl ?_
            refine fw_add rfl ?_
            refine fx_lal rfl h47 (by omega) (by omega) (by omega) ?_
            refine ik_Wk 1 (pc_q := 40) (loc_q := [some (.ref 45), some (fI 1), some (fI 1), some (fI 2), some (fI 4), some (fI 8)]) (st_q := [.ref 45, fJ (bo_.getD (6 : Int).toNat 0), fJ ((bo_.getD (5 : Int).toNat 0) * (bo_.getD (10 : Int).toNat 0))]) (h_q := h) (cl_q := 0) (sl_q := 0) rfl ?_
            refine fw_gf rfl rfl h45 rfl ?_
            refine ik_Wk 2 (pc_q := 46) (loc_q := [some (.ref 45), some (fI 1), some (fI 1), some (fI 2), some (fI 4), some (fI 8)]) (st_q := [fI 1, fI 8, .ref 47, fJ (bo_.getD (6 : Int).toNat 0), fJ ((bo_.getD (5 : Int).toNat 0) * (bo_.getD (10 : Int).toNat 0))]) (h_q := h) (cl_q := 0) (sl_q := 0) rfl ?_
            refine fw_add rfl ?_
            refine fx_lal rfl h47 (by omega) (by omega) (by omega) ?_
            refine fw_lmul rfl ?_
            refine fw_lsub rfl ?_
            refine ik_Wret rfl rfl ⟨_, _, rfl, rfl, ?_⟩
            refine ik_Wk 0 (pc_q := 75) (loc_q := [some (.ref 45), some (fI sz), some (fI wt), some (fI 0), some (fI 1), some (fI 2)]) (st_q := [fJ (((bo_.getD (5 : Int).toNat 0) * (bo_.getD (10 : Int).toNat 0)) - ((bo_.getD (6 : Int).toNat 0) * (bo_.getD (9 : Int).toNat 0))), fJ (bo_.getD (0 : Int).toNat 0)]) (h_q := h) (cl_q := 0) (sl_q := 0) rfl ?_
            refine fw_lmul rfl ?_
            refine ik_Wk 1 (pc_q := 77) (loc_q := [some (.ref 45), some (fI sz), some (fI wt), some (fI 0), some (fI 1), some (fI 2)]) (st_q := [.ref 45, fJ ((bo_.getD (0 : Int).toNat 0) * (((bo_.getD (5 : Int).toNat 0) * (bo_.getD (10 : Int).toNat 0)) - ((bo_.getD (6 : Int).toNat 0) * (bo_.getD (9 : Int).toNat 0))))]) (h_q := h) (cl_q := 0) (sl_q := 0) rfl ?_
            refine fw_gf rfl rfl h45 rfl ?_
            refine ik_Wk 1 (pc_q := 82) (loc_q := [some (.ref 45), some (fI sz), some (fI wt), some (fI 0), some (fI 1), some (fI 2)]) (st_q := [fI 1, .ref 47, fJ ((bo_.getD (0 : Int).toNat 0) * (((bo_.getD (5 : Int).toNat 0) * (bo_.getD (10 : Int).toNat 0)) - ((bo_.getD (6 : Int).toNat 0) * (bo_.getD (9 : Int).toNat 0))))]) (h_q := h) (cl_q := 0) (sl_q := 0) rfl ?_
            refine fx_lal rfl h47 (by omega) (by omega) (by omega) ?_
            refine ik_Wk 4 (pc_q := 88) (loc_q := [some (.ref 45), some (fI sz), some (fI wt), some (fI 0), some (fI 1), some (fI 2)]) (st_q := [fI 2, fI 0, fI 1, .ref 45, fJ (bo_.getD (1 : Int).toNat 0), fJ ((bo_.getD (0 : Int).toNat 0) * (((bo_.getD (5 : Int).toNat 0) * (bo_.getD (10 : Int).toNat 0)) - ((bo_.getD (6 : Int).toNat 0) * (bo_.getD (9 : Int).toNat 0))))]) (h_q := h) (cl_q := 0) (sl_q := 0) rfl ?_
            refine ik_Wc 50 4 0 [.ref 45, fI 1, fI 0, fI 2] [fJ (bo_.getD (1 : Int).toNat 0), fJ ((bo_.getD (0 : Int).toNat 0) * (((bo_.getD (5 : Int).toNat 0) * (bo_.getD (10 : Int).toNat 0)) - ((bo_.getD (6 : Int).toNat 0) * (bo_.getD (9 : Int).toNat 0))))] rfl rfl rfl (by decide +kernel) rfl rfl (fw_rec hl rfl h45 rfl (Nat.le_of_ble_eq_true rfl)) ?_
            refine ik_Wk 0 (pc_q := 0) (loc_q := [some (.ref 45), some (fI 1), some (fI 0), some (fI 2), none, none]) (st_q := []) (h_q := h) (cl_q := 0) (sl_q := 0) rfl ?_
            refine ik_Wk 2 (pc_q := 2) (loc_q := [some (.ref 45), some (fI 1), some (fI 0), some (fI 2), none, none]) (st_q := [fI 4, fI 1]) (h_q := h) (cl_q := 0) (sl_q := 0) rfl ?_
            refine fw_mul rfl ?_
            refine ik_Wk 3 (pc_q := 8) (loc_q := [some (.ref 45), some (fI 1), some (fI 0), some (fI 2), some (fI 4), none]) (st_q := [fI 4, fI 4]) (h_q := h) (cl_q := 0) (sl_q := 0) rfl ?_
            refine fw_add rfl ?_
            refine ik_Wk 2 (pc_q := 12) (loc_q := [some (.ref 45), some (fI 1), some (fI 0), some (fI 2), some (fI 4), some (fI 8)]) (st_q := [.ref 45]) (h_q := h) (cl_q := 0) (sl_q := 0) rfl ?_
            refine fw_gf rfl rfl h45 rfl ?_
            refine ik_Wk 2 (pc_q := 18) (loc_q := [some (.ref 45), some (fI 1), some (fI 0), some (fI 2), some (fI 4), some (fI 8)]) (st_q := [fI 0, fI 4, .ref 47]) (h_q := h) (cl_q := 0) (sl_q := 0) rfl ?_
            refine fw_add rfl ?_
            refine fx_lal rfl h47 (by omega) (by omega) (by omega) ?_
            refine ik_Wk 1 (pc_q := 21) (loc_q := [some (.ref 45), some (fI 1), some (fI 0), some (fI 2), some (fI 4), some (fI 8)]) (st_q := [.ref 45, fJ (bo_.getD (4 : Int).toNat 0)]) (h_q := h) (cl_q := 0) (sl_q := 0) rfl ?_
            refine fw_gf rfl rfl h45 rfl ?_
            refine ik_Wk 2 (pc_q := 27) (loc_q := [some (.ref 45), some (fI 1), some (fI 0), some (fI 2), some (fI 4), some (fI 8)]) (st_q := [fI 2, fI 8, .ref 47, fJ (bo_.getD (4 : Int).toNat 0)]) (h_q := h) (cl_q := 0) (sl_q := 0) rfl ?_
            refine fw_add rfl ?_
            refine fx_lal rfl h47 (by omega) (by omega) (by omega) ?_
            refine fw_lmul rfl ?_
            refine ik_Wk 1 (pc_q := 31) (loc_q := [some (.ref 45), some (fI 1), some (fI 0), some (fI 2), some (fI 4), some (fI 8)]) (st_q := [.ref 45, fJ ((bo_.getD (4 : Int).toNat 0) * (bo_.getD (10 : Int).toNat 0))]) (h_q := h) (cl_q := 0) (sl_q := 0) rfl ?_
            refine fw_gf rfl rfl h45 rfl ?_
            refine ik_Wk 2 (pc_q := 37) (loc_q := [some (.ref 45), some (fI 1), some (fI 0), some (fI 2), some (fI 4), some (fI 8)]) (st_q := [fI 2, fI 4, .ref 47, fJ ((bo_.getD (4 : Int).toNat 0) * (bo_.getD (10 : Int).toNat 0))]) (h_q := h) (cl_q := 0) (sl_q := 0) rfl ?_
            refine fw_add rfl ?_
            refine fx_lal rfl h47 (by omega) (by omega) (by omega) ?_
            refine ik_Wk 1 (pc_q := 40) (loc_q := [some (.ref 45), some (fI 1), some (fI 0), some (fI 2), some (fI 4), some (fI 8)]) (st_q := [.ref 45, fJ (bo_.getD (6 : Int).toNat 0), fJ ((bo_.getD (4 : Int).toNat 0) * (bo_.getD (10 : Int).toNat 0))]) (h_q := h) (cl_q := 0) (sl_q := 0) rfl ?_
            refine fw_gf rfl rfl h45 rfl ?_
            refine ik_Wk 2 (pc_q := 46) (loc_q := [some (.ref 45), some (fI 1), some (fI 0), some (fI 2), some (fI 4), some (fI 8)]) (st_q := [fI 0, fI 8, .ref 47, fJ (bo_.getD (6 : Int).toNat 0), fJ ((bo_.getD (4 : Int).toNat 0) * (bo_.getD (10 : Int).toNat 0))]) (h_q := h) (cl_q := 0) (sl_q := 0) rfl ?_
            refine fw_add rfl ?_
            refine fx_lal rfl h47 (by omega) (by omega) (by omega) ?_
            refine fw_lmul rfl ?_
            refine fw_lsub rfl ?_
            refine ik_Wret rfl rfl ⟨_, _, rfl, rfl, ?_⟩
            refine ik_Wk 0 (pc_q := 91) (loc_q := [some (.ref 45), some (fI sz), some (fI wt), some (fI 0), some (fI 1), some (fI 2)]) (st_q := [fJ (((bo_.getD (4 : Int).toNat 0) * (bo_.getD (10 : Int).toNat 0)) - ((bo_.getD (6 : Int).toNat 0) * (bo_.getD (8 : Int).toNat 0))), fJ (bo_.getD (1 : Int).toNat 0), fJ ((bo_.getD (0 : Int).toNat 0) * (((bo_.getD (5 : Int).toNat 0) * (bo_.getD (10 : Int).toNat 0)) - ((bo_.getD (6 : Int).toNat 0) * (bo_.getD (9 : Int).toNat 0))))]) (h_q := h) (cl_q := 0) (sl_q := 0) rfl ?_
            refine fw_lmul rfl ?_
            refine fw_lsub rfl ?_
            refine ik_Wk 1 (pc_q := 94) (loc_q := [some (.ref 45), some (fI sz), some (fI wt), some (fI 0), some (fI 1), some (fI 2)]) (st_q := [.ref 45, fJ (((bo_.getD (0 : Int).toNat 0) * (((bo_.getD (5 : Int).toNat 0) * (bo_.getD (10 : Int).toNat 0)) - ((bo_.getD (6 : Int).toNat 0) * (bo_.getD (9 : Int).toNat 0)))) - ((bo_.getD (1 : Int).toNat 0) * (((bo_.getD (4 : Int).toNat 0) * (bo_.getD (10 : Int).toNat 0)) - ((bo_.getD (6 : Int).toNat 0) * (bo_.getD (8 : Int).toNat 0)))))]) (h_q := h) (cl_q := 0) (sl_q := 0) rfl ?_
            refine fw_gf rfl rfl h45 rfl ?_
            refine ik_Wk 1 (pc_q := 99) (loc_q := [some (.ref 45), some (fI sz), some (fI wt), some (fI 0), some (fI 1), some (fI 2)]) (st_q := [fI 2, .ref 47, fJ (((bo_.getD (0 : Int).toNat 0) * (((bo_.getD (5 : Int).toNat 0) * (bo_.getD (10 : Int).toNat 0)) - ((bo_.getD (6 : Int).toNat 0) * (bo_.getD (9 : Int).toNat 0)))) - ((bo_.getD (1 : Int).toNat 0) * (((bo_.getD (4 : Int).toNat 0) * (bo_.getD (10 : Int).toNat 0)) - ((bo_.getD (6 : Int).toNat 0) * (bo_.getD (8 : Int).toNat 0)))))]) (h_q := h) (cl_q := 0) (sl_q := 0) rfl ?_
            refine fx_lal rfl h47 (by omega) (by omega) (by omega) ?_
            refine ik_Wk 4 (pc_q := 105) (loc_q := [some (.ref 45), some (fI sz), some (fI wt), some (fI 0), some (fI 1), some (fI 2)]) (st_q := [fI 1, fI 0, fI 1, .ref 45, fJ (bo_.getD (2 : Int).toNat 0), fJ (((bo_.getD (0 : Int).toNat 0) * (((bo_.getD (5 : Int).toNat 0) * (bo_.getD (10 : Int).toNat 0)) - ((bo_.getD (6 : Int).toNat 0) * (bo_.getD (9 : Int).toNat 0)))) - ((bo_.getD (1 : Int).toNat 0) * (((bo_.getD (4 : Int).toNat 0) * (bo_.getD (10 : Int).toNat 0)) - ((bo_.getD (6 : Int).toNat 0) * (bo_.getD (8 : Int).toNat 0)))))]) (h_q := h) (cl_q := 0) (sl_q := 0) rfl ?_
            refine ik_Wc 50 4 0 [.ref 45, fI 1, fI 0, fI 1] [fJ (bo_.getD (2 : Int).toNat 0), fJ (((bo_.getD (0 : Int).toNat 0) * (((bo_.getD (5 : Int).toNat 0) * (bo_.getD (10 : Int).toNat 0)) - ((bo_.getD (6 : Int).toNat 0) * (bo_.getD (9 : Int).toNat 0)))) - ((bo_.getD (1 : Int).toNat 0) * (((bo_.getD (4 : Int).toNat 0) * (bo_.getD (10 : Int).toNat 0)) - ((bo_.getD (6 : Int).toNat 0) * (bo_.getD (8 : Int).toNat 0)))))] rfl rfl rfl (by decide +kernel) rfl rfl (fw_rec hl rfl h45 rfl (Nat.le_of_ble_eq_true rfl)) ?_
            refine ik_Wk 0 (pc_q := 0) (loc_q := [some (.ref 45), some (fI 1), some (fI 0), some (fI 1), none, none]) (st_q := []) (h_q := h) (cl_q := 0) (sl_q := 0) rfl ?_
            refine ik_Wk 2 (pc_q := 2) (loc_q := [some (.ref 45), some (fI 1), some (fI 0), some (fI 1), none, none]) (st_q := [fI 4, fI 1]) (h_q := h) (cl_q := 0) (sl_q := 0) rfl ?_
            refine fw_mul rfl ?_
            refine ik_Wk 3 (pc_q := 8) (loc_q := [some (.ref 45), some (fI 1), some (fI 0), some (fI 1), some (fI 4), none]) (st_q := [fI 4, fI 4]) (h_q := h) (cl_q := 0) (sl_q := 0) rfl ?_
            refine fw_add rfl ?_
            refine ik_Wk 2 (pc_q := 12) (loc_q := [some (.ref 45), some (fI 1), some (fI 0), some (fI 1), some (fI 4), some (fI 8)]) (st_q := [.ref 45]) (h_q := h) (cl_q := 0) (sl_q := 0) rfl ?_
            refine fw_gf rfl rfl h45 rfl ?_
            refine ik_Wk 2 (pc_q := 18) (loc_q := [some (.ref 45), some (fI 1), some (fI 0), some (fI 1), some (fI 4), some (fI 8)]) (st_q := [fI 0, fI 4, .ref 47]) (h_q := h) (cl_q := 0) (sl_q := 0) rfl ?_
            refine fw_add rfl ?_
            refine fx_lal rfl h47 (by omega) (by omega) (by omega) ?_
            refine ik_Wk 1 (pc_q := 21) (loc_q := [some (.ref 45), some (fI 1), some (fI 0), some (fI 1), some (fI 4), some (fI 8)]) (st_q := [.ref 45, fJ (bo_.getD (4 : Int).toNat 0)]) (h_q := h) (cl_q := 0) (sl_q := 0) rfl ?_
            refine fw_gf rfl rfl h45 rfl ?_
            refine ik_Wk 2 (pc_q := 27) (loc_q := [some (.ref 45), some (fI 1), some (fI 0), some (fI 1), some (fI 4), some (fI 8)]) (st_q := [fI 1, fI 8, .ref 47, fJ (bo_.getD (4 : Int).toNat 0)]) (h_q := h) (cl_q := 0) (sl_q := 0) rfl ?_
            refine fw_add rfl ?_
            refine fx_lal rfl h47 (by omega) (by omega) (by omega) ?_
            refine fw_lmul rfl ?_
            refine ik_Wk 1 (pc_q := 31) (loc_q := [some (.ref 45), some (fI 1), some (fI 0), some (fI 1), some (fI 4), some (fI 8)]) (st_q := [.ref 45, fJ ((bo_.getD (4 : Int).toNat 0) * (bo_.getD (9 : Int).toNat 0))]) (h_q := h) (cl_q := 0) (sl_q := 0) rfl ?_
            refine fw_gf rfl rfl h45 rfl ?_
            refine ik_Wk 2 (pc_q := 37) (loc_q := [some (.ref 45), some (fI 1), some (fI 0), some (fI 1), some (fI 4), some (fI 8)]) (st_q := [fI 1, fI 4, .ref 47, fJ ((bo_.getD (4 : Int).toNat 0) * (bo_.getD (9 : Int).toNat 0))]) (h_q := h) (cl_q := 0) (sl_q := 0) rfl ?_
            refine fw_add rfl ?_
            refine fx_lal rfl h47 (by omega) (by omega) (by omega) ?_
            refine ik_Wk 1 (pc_q := 40) (loc_q := [some (.ref 45), some (fI 1), some (fI 0), some (fI 1), some (fI 4), some (fI 8)]) (st_q := [.ref 45, fJ (bo_.getD (5 : Int).toNat 0), fJ ((bo_.getD (4 : Int).toNat 0) * (bo_.getD (9 : Int).toNat 0))]) (h_q := h) (cl_q := 0) (sl_q := 0) rfl ?_
            refine fw_gf rfl rfl h45 rfl ?_
            refine ik_Wk 2 (pc_q := 46) (loc_q := [some (.ref 45), some (fI 1), some (fI 0), some (fI 1), some (fI 4), some (fI 8)]) (st_q := [fI 0, fI 8, .ref 47, fJ (bo_.getD (5 : Int).toNat 0), fJ ((bo_.getD (4 : Int).toNat 0) * (bo_.getD (9 : Int).toNat 0))]) (h_q := h) (cl_q := 0) (sl_q := 0) rfl ?_
            refine fw_add rfl ?_
            refine fx_lal rfl h47 (by omega) (by omega) (by omega) ?_
            refine fw_lmul rfl ?_
            refine fw_lsub rfl ?_
            refine ik_Wret rfl rfl ⟨_, _, rfl, rfl, ?_⟩
            refine ik_Wk 0 (pc_q := 108) (loc_q := [some (.ref 45), some (fI sz), some (fI wt), some (fI 0), some (fI 1), some (fI 2)]) (st_q := [fJ (((bo_.getD (4 : Int).toNat 0) * (bo_.getD (9 : Int).toNat 0)) - ((bo_.getD (5 : Int).toNat 0) * (bo_.getD (8 : Int).toNat 0))), fJ (bo_.getD (2 : Int).toNat 0), fJ (((bo_.getD (0 : Int).toNat 0) * (((bo_.getD (5 : Int).toNat 0) * (bo_.getD (10 : Int).toNat 0)) - ((bo_.getD (6 : Int).toNat 0) * (bo_.getD (9 : Int).toNat 0)))) - ((bo_.getD (1 : Int).toNat 0) * (((bo_.getD (4 : Int).toNat 0) * (bo_.getD (10 : Int).toNat 0)) - ((bo_.getD (6 : Int).toNat 0) * (bo_.getD (8 : Int).toNat 0)))))]) (h_q := h) (cl_q := 0) (sl_q := 0) rfl ?_
            refine fw_lmul rfl ?_
            refine fw_ladd rfl ?_
            exact ik_Wret rfl rfl ⟨_, _, rfl, rfl, rfl, rfl, ⟨((((bo_.getD (0 : Int).toNat 0) * (((bo_.getD (5 : Int).toNat 0) * (bo_.getD (10 : Int).toNat 0)) - ((bo_.getD (6 : Int).toNat 0) * (bo_.getD (9 : Int).toNat 0)))) - ((bo_.getD (1 : Int).toNat 0) * (((bo_.getD (4 : Int).toNat 0) * (bo_.getD (10 : Int).toNat 0)) - ((bo_.getD (6 : Int).toNat 0) * (bo_.getD (8 : Int).toNat 0))))) + ((bo_.getD (2 : Int).toNat 0) * (((bo_.getD (4 : Int).toNat 0) * (bo_.getD (9 : Int).toNat 0)) - ((bo_.getD (5 : Int).toNat 0) * (bo_.getD (8 : Int).toNat 0))))), rfl, (hfr_refl [] h)⟩⟩

theorem cs_worthBy0 {h : List ik_E} {j : Int} {fe : List Int} {sh : List Int} (q0 : 0 ≤ j ∧ j ≤ 2) (q1 : ∀ i : Int, (0 : Int) ≤ i → i < (9 : Int) → 0 ≤ fe.getD i.toNat 0 ∧ fe.getD i.toNat 0 ≤ 1000) (h45 : cE h 45 (.inr (5, [.ref 46, .ref 47, .ref 48, .ref 49, .ref 50]))) (h46 : cE h 46 (.inl (.int, fA fe))) (n46 : fe.length = (9 : Nat)) (h48 : cE h 48 (.inl (.long, fL sh))) (n48 : sh.length = (6 : Nat)) (hl : h.length = (94 : Nat)) : ik_F 52 [.ref 45, fI 0, fI j] h (fun rv h_q => ∃ (z : Int), rv = [fJ z] ∧ hfr [] h h_q) := by
  have qfe := q1
  refine fw_lc (z := 0) rfl (by decide +kernel) ?_
  refine ik_Wk 5 (pc_q := 8) (loc_q := [some (.ref 45), some (fI 0), some (fI j), some (fJ 0), none, some (fI 0)]) (st_q := [fI 3, fI 0]) (h_q := h) (cl_q := 0) (sl_q := 0) rfl ?_
  refine fw_ic_ge rfl rfl (by decide +kernel) (by decide +kernel) (by decide +kernel) (by decide +kernel) (fun hc1 => absurd hc1 (by decide +kernel)) (fun hc1 => ?_)
  refine ik_Wk 2 (pc_q := 13) (loc_q := [some (.ref 45), some (fI 0), some (fI j), some (fJ 0), none, some (fI 0)]) (st_q := [.ref 45, fJ 0]) (h_q := h) (cl_q := 0) (sl_q := 0) rfl ?_
  refine fw_gf rfl rfl h45 rfl ?_
  refine ik_Wk 2 (pc_q := 18) (loc_q := [some (.ref 45), some (fI 0), some (fI j), some (fJ 0), none, some (fI 0)]) (st_q := [fI 3, fI 0, .ref 48, fJ 0]) (h_q := h) (cl_q := 0) (sl_q := 0) rfl ?_
  refine fw_mul rfl ?_
  refine ik_Wk 1 (pc_q := 21) (loc_q := [some (.ref 45), some (fI 0), some (fI j), some (fJ 0), none, some (fI 0)]) (st_q := [fI 0, fI 0, .ref 48, fJ 0]) (h_q := h) (cl_q := 0) (sl_q := 0) rfl ?_
  refine fw_add rfl ?_
  refine fx_lal rfl h48 (by omega) (by omega) (by omega) ?_
  refine ik_Wk 4 (pc_q := 28) (loc_q := [some (.ref 45), some (fI 0), some (fI j), some (fJ 0), none, some (fI 0)]) (st_q := [fI j, fI 0, fI 0, .ref 45, fJ (sh.getD (0 : Int).toNat 0), fJ 0]) (h_q := h) (cl_q := 0) (sl_q := 0) rfl ?_
  refine ik_Wc 45 4 0 [.ref 45, fI 0, fI 0, fI j] [fJ (sh.getD (0 : Int).toNat 0), fJ 0] rfl rfl rfl (by decide +kernel) rfl rfl (fw_rec hl rfl h45 rfl (Nat.le_of_ble_eq_true rfl)) ?_
  refine ik_Wk 0 (pc_q := 0) (loc_q := [some (.ref 45), some (fI 0), some (fI 0), some (fI j)]) (st_q := []) (h_q := h) (cl_q := 0) (sl_q := 0) rfl ?_
  refine ik_Wk 1 (pc_q := 1) (loc_q := [some (.ref 45), some (fI 0), some (fI 0), some (fI j)]) (st_q := [fI 0]) (h_q := h) (cl_q := 0) (sl_q := 0) rfl ?_
  refine fw_if_ne rfl rfl (by decide +kernel) (by decide +kernel) (fun hc2 => ?_) (fun hc2 => absurd hc2 (by decide +kernel))
  refine ik_Wk 1 (pc_q := 5) (loc_q := [some (.ref 45), some (fI 0), some (fI 0), some (fI j)]) (st_q := [.ref 45]) (h_q := h) (cl_q := 0) (sl_q := 0) rfl ?_
  refine fw_gf rfl rfl h45 rfl ?_
  refine ik_Wk 2 (pc_q := 10) (loc_q := [some (.ref 45), some (fI 0), some (fI 0), some (fI j)]) (st_q := [fI 3, fI 0, .ref 46]) (h_q := h) (cl_q := 0) (sl_q := 0) rfl ?_
  refine fw_mul rfl ?_
  refine ik_Wk 1 (pc_q := 12) (loc_q := [some (.ref 45), some (fI 0), some (fI 0), some (fI j)]) (st_q := [fI j, fI 0, .ref 46]) (h_q := h) (cl_q := 0) (sl_q := 0) rfl ?_
  refine fw_add rfl ?_
  refine fw_ial rfl h46 (by omega) (by omega) (by omega) ?_
  have hf3 := qfe (0 + j) (by omega) (by omega)
  refine ik_Wk 1 (pc_q := 27) (loc_q := [some (.ref 45), some (fI 0), some (fI 0), some (fI j)]) (st_q := [fI (fe.getD (0 + j).toNat 0)]) (h_q := h) (cl_q := 0) (sl_q := 0) rfl ?_
  refine ik_Wret rfl rfl ⟨_, _, rfl, rfl, ?_⟩
  refine ik_Wk 0 (pc_q := 31) (loc_q := [some (.ref 45), some (fI 0), some (fI j), some (fJ 0), none, some (fI 0)]) (st_q := [fI (fe.getD (0 + j).toNat 0), fJ (sh.getD (0 : Int).toNat 0), fJ 0]) (h_q := h) (cl_q := 0) (sl_q := 0) rfl ?_
  refine fw_i2l rfl (by omega) (by omega) ?_
  refine fw_lmul rfl ?_
  refine fw_ladd rfl ?_
  refine ik_Wk 1 (pc_q := 35) (loc_q := [some (.ref 45), some (fI 0), some (fI j), some (fJ (0 + ((sh.getD (0 : Int).toNat 0) * (fe.getD (0 + j).toNat 0)))), none, some (fI 0)]) (st_q := []) (h_q := h) (cl_q := 0) (sl_q := 0) rfl ?_
  refine fw_inc (a := 0) (loc_q := [some (.ref 45), some (fI 0), some (fI j), some (fJ (0 + ((sh.getD (0 : Int).toNat 0) * (fe.getD (0 + j).toNat 0)))), none, some (fI 1)]) rfl rfl (Nat.le_of_ble_eq_true rfl) rfl ?_
  refine ik_Wk 3 (pc_q := 8) (loc_q := [some (.ref 45), some (fI 0), some (fI j), some (fJ (0 + ((sh.getD (0 : Int).toNat 0) * (fe.getD (0 + j).toNat 0)))), none, some (fI 1)]) (st_q := [fI 3, fI 1]) (h_q := h) (cl_q := 0) (sl_q := 0) rfl ?_
  refine fw_ic_ge rfl rfl (by decide +kernel) (by decide +kernel) (by decide +kernel) (by decide +kernel) (fun hc4 => absurd hc4 (by decide +kernel)) (fun hc4 => ?_)
  refine ik_Wk 2 (pc_q := 13) (loc_q := [some (.ref 45), some (fI 0), some (fI j), some (fJ (0 + ((sh.getD (0 : Int).toNat 0) * (fe.getD (0 + j).toNat 0)))), none, some (fI 1)]) (st_q := [.ref 45, fJ (0 + ((sh.getD (0 : Int).toNat 0) * (fe.getD (0 + j).toNat 0)))]) (h_q := h) (cl_q := 0) (sl_q := 0) rfl ?_
  refine fw_gf rfl rfl h45 rfl ?_
  refine ik_Wk 2 (pc_q := 18) (loc_q := [some (.ref 45), some (fI 0), some (fI j), some (fJ (0 + ((sh.getD (0 : Int).toNat 0) * (fe.getD (0 + j).toNat 0)))), none, some (fI 1)]) (st_q := [fI 3, fI 0, .ref 48, fJ (0 + ((sh.getD (0 : Int).toNat 0) * (fe.getD (0 + j).toNat 0)))]) (h_q := h) (cl_q := 0) (sl_q := 0) rfl ?_
  refine fw_mul rfl ?_
  refine ik_Wk 1 (pc_q := 21) (loc_q := [some (.ref 45), some (fI 0), some (fI j), some (fJ (0 + ((sh.getD (0 : Int).toNat 0) * (fe.getD (0 + j).toNat 0)))), none, some (fI 1)]) (st_q := [fI 1, fI 0, .ref 48, fJ (0 + ((sh.getD (0 : Int).toNat 0) * (fe.getD (0 + j).toNat 0)))]) (h_q := h) (cl_q := 0) (sl_q := 0) rfl ?_
  refine fw_add rfl ?_
  refine fx_lal rfl h48 (by omega) (by omega) (by omega) ?_
  refine ik_Wk 4 (pc_q := 28) (loc_q := [some (.ref 45), some (fI 0), some (fI j), some (fJ (0 + ((sh.getD (0 : Int).toNat 0) * (fe.getD (0 + j).toNat 0)))), none, some (fI 1)]) (st_q := [fI j, fI 1, fI 0, .ref 45, fJ (sh.getD (1 : Int).toNat 0), fJ (0 + ((sh.getD (0 : Int).toNat 0) * (fe.getD (0 + j).toNat 0)))]) (h_q := h) (cl_q := 0) (sl_q := 0) rfl ?_
  refine ik_Wc 45 4 0 [.ref 45, fI 0, fI 1, fI j] [fJ (sh.getD (1 : Int).toNat 0), fJ (0 + ((sh.getD (0 : Int).toNat 0) * (fe.getD (0 + j).toNat 0)))] rfl rfl rfl (by decide +kernel) rfl rfl (fw_rec hl rfl h45 rfl (Nat.le_of_ble_eq_true rfl)) ?_
  refine ik_Wk 0 (pc_q := 0) (loc_q := [some (.ref 45), some (fI 0), some (fI 1), some (fI j)]) (st_q := []) (h_q := h) (cl_q := 0) (sl_q := 0) rfl ?_
  refine ik_Wk 1 (pc_q := 1) (loc_q := [some (.ref 45), some (fI 0), some (fI 1), some (fI j)]) (st_q := [fI 0]) (h_q := h) (cl_q := 0) (sl_q := 0) rfl ?_
  refine fw_if_ne rfl rfl (by decide +kernel) (by decide +kernel) (fun hc5 => ?_) (fun hc5 => absurd hc5 (by decide +kernel))
  refine ik_Wk 1 (pc_q := 5) (loc_q := [some (.ref 45), some (fI 0), some (fI 1), some (fI j)]) (st_q := [.ref 45]) (h_q := h) (cl_q := 0) (sl_q := 0) rfl ?_
  refine fw_gf rfl rfl h45 rfl ?_
  refine ik_Wk 2 (pc_q := 10) (loc_q := [some (.ref 45), some (fI 0), some (fI 1), some (fI j)]) (st_q := [fI 3, fI 1, .ref 46]) (h_q := h) (cl_q := 0) (sl_q := 0) rfl ?_
  refine fw_mul rfl ?_
  refine ik_Wk 1 (pc_q := 12) (loc_q := [some (.ref 45), some (fI 0), some (fI 1), some (fI j)]) (st_q := [fI j, fI 3, .ref 46]) (h_q := h) (cl_q := 0) (sl_q := 0) rfl ?_
  refine fw_add rfl ?_
  refine fw_ial rfl h46 (by omega) (by omega) (by omega) ?_
  have hf6 := qfe (3 + j) (by omega) (by omega)
  refine ik_Wk 1 (pc_q := 27) (loc_q := [some (.ref 45), some (fI 0), some (fI 1), some (fI j)]) (st_q := [fI (fe.getD (3 + j).toNat 0)]) (h_q := h) (cl_q := 0) (sl_q := 0) rfl ?_
  refine ik_Wret rfl rfl ⟨_, _, rfl, rfl, ?_⟩
  refine ik_Wk 0 (pc_q := 31) (loc_q := [some (.ref 45), some (fI 0), some (fI j), some (fJ (0 + ((sh.getD (0 : Int).toNat 0) * (fe.getD (0 + j).toNat 0)))), none, some (fI 1)]) (st_q := [fI (fe.getD (3 + j).toNat 0), fJ (sh.getD (1 : Int).toNat 0), fJ (0 + ((sh.getD (0 : Int).toNat 0) * (fe.getD (0 + j).toNat 0)))]) (h_q := h) (cl_q := 0) (sl_q := 0) rfl ?_
  refine fw_i2l rfl (by omega) (by omega) ?_
  refine fw_lmul rfl ?_
  refine fw_ladd rfl ?_
  refine ik_Wk 1 (pc_q := 35) (loc_q := [some (.ref 45), some (fI 0), some (fI j), some (fJ ((0 + ((sh.getD (0 : Int).toNat 0) * (fe.getD (0 + j).toNat 0))) + ((sh.getD (1 : Int).toNat 0) * (fe.getD (3 + j).toNat 0)))), none, some (fI 1)]) (st_q := []) (h_q := h) (cl_q := 0) (sl_q := 0) rfl ?_
  refine fw_inc (a := 1) (loc_q := [some (.ref 45), some (fI 0), some (fI j), some (fJ ((0 + ((sh.getD (0 : Int).toNat 0) * (fe.getD (0 + j).toNat 0))) + ((sh.getD (1 : Int).toNat 0) * (fe.getD (3 + j).toNat 0)))), none, some (fI 2)]) rfl rfl (Nat.le_of_ble_eq_true rfl) rfl ?_
  refine ik_Wk 3 (pc_q := 8) (loc_q := [some (.ref 45), some (fI 0), some (fI j), some (fJ ((0 + ((sh.getD (0 : Int).toNat 0) * (fe.getD (0 + j).toNat 0))) + ((sh.getD (1 : Int).toNat 0) * (fe.getD (3 + j).toNat 0)))), none, some (fI 2)]) (st_q := [fI 3, fI 2]) (h_q := h) (cl_q := 0) (sl_q := 0) rfl ?_
  refine fw_ic_ge rfl rfl (by decide +kernel) (by decide +kernel) (by decide +kernel) (by decide +kernel) (fun hc7 => absurd hc7 (by decide +kernel)) (fun hc7 => ?_)
  refine ik_Wk 2 (pc_q := 13) (loc_q := [some (.ref 45), some (fI 0), some (fI j), some (fJ ((0 + ((sh.getD (0 : Int).toNat 0) * (fe.getD (0 + j).toNat 0))) + ((sh.getD (1 : Int).toNat 0) * (fe.getD (3 + j).toNat 0)))), none, some (fI 2)]) (st_q := [.ref 45, fJ ((0 + ((sh.getD (0 : Int).toNat 0) * (fe.getD (0 + j).toNat 0))) + ((sh.getD (1 : Int).toNat 0) * (fe.getD (3 + j).toNat 0)))]) (h_q := h) (cl_q := 0) (sl_q := 0) rfl ?_
  refine fw_gf rfl rfl h45 rfl ?_
  refine ik_Wk 2 (pc_q := 18) (loc_q := [some (.ref 45), some (fI 0), some (fI j), some (fJ ((0 + ((sh.getD (0 : Int).toNat 0) * (fe.getD (0 + j).toNat 0))) + ((sh.getD (1 : Int).toNat 0) * (fe.getD (3 + j).toNat 0)))), none, some (fI 2)]) (st_q := [fI 3, fI 0, .ref 48, fJ ((0 + ((sh.getD (0 : Int).toNat 0) * (fe.getD (0 + j).toNat 0))) + ((sh.getD (1 : Int).toNat 0) * (fe.getD (3 + j).toNat 0)))]) (h_q := h) (cl_q := 0) (sl_q := 0) rfl ?_
  refine fw_mul rfl ?_
  refine ik_Wk 1 (pc_q := 21) (loc_q := [some (.ref 45), some (fI 0), some (fI j), some (fJ ((0 + ((sh.getD (0 : Int).toNat 0) * (fe.getD (0 + j).toNat 0))) + ((sh.getD (1 : Int).toNat 0) * (fe.getD (3 + j).toNat 0)))), none, some (fI 2)]) (st_q := [fI 2, fI 0, .ref 48, fJ ((0 + ((sh.getD (0 : Int).toNat 0) * (fe.getD (0 + j).toNat 0))) + ((sh.getD (1 : Int).toNat 0) * (fe.getD (3 + j).toNat 0)))]) (h_q := h) (cl_q := 0) (sl_q := 0) rfl ?_
  refine fw_add rfl ?_
  refine fx_lal rfl h48 (by omega) (by omega) (by omega) ?_
  refine ik_Wk 4 (pc_q := 28) (loc_q := [some (.ref 45), some (fI 0), some (fI j), some (fJ ((0 + ((sh.getD (0 : Int).toNat 0) * (fe.getD (0 + j).toNat 0))) + ((sh.getD (1 : Int).toNat 0) * (fe.getD (3 + j).toNat 0)))), none, some (fI 2)]) (st_q := [fI j, fI 2, fI 0, .ref 45, fJ (sh.getD (2 : Int).toNat 0), fJ ((0 + ((sh.getD (0 : Int).toNat 0) * (fe.getD (0 + j).toNat 0))) + ((sh.getD (1 : Int).toNat 0) * (fe.getD (3 + j).toNat 0)))]) (h_q := h) (cl_q := 0) (sl_q := 0) rfl ?_
  refine ik_Wc 45 4 0 [.ref 45, fI 0, fI 2, fI j] [fJ (sh.getD (2 : Int).toNat 0), fJ ((0 + ((sh.getD (0 : Int).toNat 0) * (fe.getD (0 + j).toNat 0))) + ((sh.getD (1 : Int).toNat 0) * (fe.getD (3 + j).toNat 0)))] rfl rfl rfl (by decide +kernel) rfl rfl (fw_rec hl rfl h45 rfl (Nat.le_of_ble_eq_true rfl)) ?_
  refine ik_Wk 0 (pc_q := 0) (loc_q := [some (.ref 45), some (fI 0), some (fI 2), some (fI j)]) (st_q := []) (h_q := h) (cl_q := 0) (sl_q := 0) rfl ?_
  refine ik_Wk 1 (pc_q := 1) (loc_q := [some (.ref 45), some (fI 0), some (fI 2), some (fI j)]) (st_q := [fI 0]) (h_q := h) (cl_q := 0) (sl_q := 0) rfl ?_
  refine fw_if_ne rfl rfl (by decide +kernel) (by decide +kernel) (fun hc8 => ?_) (fun hc8 => absurd hc8 (by decide +kernel))
  refine ik_Wk 1 (pc_q := 5) (loc_q := [some (.ref 45), some (fI 0), some (fI 2), some (fI j)]) (st_q := [.ref 45]) (h_q := h) (cl_q := 0) (sl_q := 0) rfl ?_
  refine fw_gf rfl rfl h45 rfl ?_
  refine ik_Wk 2 (pc_q := 10) (loc_q := [some (.ref 45), some (fI 0), some (fI 2), some (fI j)]) (st_q := [fI 3, fI 2, .ref 46]) (h_q := h) (cl_q := 0) (sl_q := 0) rfl ?_
  refine fw_mul rfl ?_
  refine ik_Wk 1 (pc_q := 12) (loc_q := [some (.ref 45), some (fI 0), some (fI 2), some (fI j)]) (st_q := [fI j, fI 6, .ref 46]) (h_q := h) (cl_q := 0) (sl_q := 0) rfl ?_
  refine fw_add rfl ?_
  refine fw_ial rfl h46 (by omega) (by omega) (by omega) ?_
  have hf9 := qfe (6 + j) (by omega) (by omega)
  refine ik_Wk 1 (pc_q := 27) (loc_q := [some (.ref 45), some (fI 0), some (fI 2), some (fI j)]) (st_q := [fI (fe.getD (6 + j).toNat 0)]) (h_q := h) (cl_q := 0) (sl_q := 0) rfl ?_
  refine ik_Wret rfl rfl ⟨_, _, rfl, rfl, ?_⟩
  refine ik_Wk 0 (pc_q := 31) (loc_q := [some (.ref 45), some (fI 0), some (fI j), some (fJ ((0 + ((sh.getD (0 : Int).toNat 0) * (fe.getD (0 + j).toNat 0))) + ((sh.getD (1 : Int).toNat 0) * (fe.getD (3 + j).toNat 0)))), none, some (fI 2)]) (st_q := [fI (fe.getD (6 + j).toNat 0), fJ (sh.getD (2 : Int).toNat 0), fJ ((0 + ((sh.getD (0 : Int).toNat 0) * (fe.getD (0 + j).toNat 0))) + ((sh.getD (1 : Int).toNat 0) * (fe.getD (3 + j).toNat 0)))]) (h_q := h) (cl_q := 0) (sl_q := 0) rfl ?_
  refine fw_i2l rfl (by omega) (by omega) ?_
  refine fw_lmul rfl ?_
  refine fw_ladd rfl ?_
  refine ik_Wk 1 (pc_q := 35) (loc_q := [some (.ref 45), some (fI 0), some (fI j), some (fJ (((0 + ((sh.getD (0 : Int).toNat 0) * (fe.getD (0 + j).toNat 0))) + ((sh.getD (1 : Int).toNat 0) * (fe.getD (3 + j).toNat 0))) + ((sh.getD (2 : Int).toNat 0) * (fe.getD (6 + j).toNat 0)))), none, some (fI 2)]) (st_q := []) (h_q := h) (cl_q := 0) (sl_q := 0) rfl ?_
  refine fw_inc (a := 2) (loc_q := [some (.ref 45), some (fI 0), some (fI j), some (fJ (((0 + ((sh.getD (0 : Int).toNat 0) * (fe.getD (0 + j).toNat 0))) + ((sh.getD (1 : Int).toNat 0) * (fe.getD (3 + j).toNat 0))) + ((sh.getD (2 : Int).toNat 0) * (fe.getD (6 + j).toNat 0)))), none, some (fI 3)]) rfl rfl (Nat.le_of_ble_eq_true rfl) rfl ?_
  refine ik_Wk 3 (pc_q := 8) (loc_q := [some (.ref 45), some (fI 0), some (fI j), some (fJ (((0 + ((sh.getD (0 : Int).toNat 0) * (fe.getD (0 + j).toNat 0))) + ((sh.getD (1 : Int).toNat 0) * (fe.getD (3 + j).toNat 0))) + ((sh.getD (2 : Int).toNat 0) * (fe.getD (6 + j).toNat 0)))), none, some (fI 3)]) (st_q := [fI 3, fI 3]) (h_q := h) (cl_q := 0) (sl_q := 0) rfl ?_
  refine fw_ic_ge rfl rfl (by decide +kernel) (by decide +kernel) (by decide +kernel) (by decide +kernel) (fun hc10 => ?_) (fun hc10 => absurd hc10 (by decide +kernel))
  refine ik_Wk 1 (pc_q := 42) (loc_q := [some (.ref 45), some (fI 0), some (fI j), some (fJ (((0 + ((sh.getD (0 : Int).toNat 0) * (fe.getD (0 + j).toNat 0))) + ((sh.getD (1 : Int).toNat 0) * (fe.getD (3 + j).toNat 0))) + ((sh.getD (2 : Int).toNat 0) * (fe.getD (6 + j).toNat 0)))), none, some (fI 3)]) (st_q := [fJ (((0 + ((sh.getD (0 : Int).toNat 0) * (fe.getD (0 + j).toNat 0))) + ((sh.getD (1 : Int).toNat 0) * (fe.getD (3 + j).toNat 0))) + ((sh.getD (2 : Int).toNat 0) * (fe.getD (6 + j).toNat 0)))]) (h_q := h) (cl_q := 0) (sl_q := 0) rfl ?_
  exact ik_Wret rfl rfl ⟨_, _, rfl, rfl, rfl, rfl, ⟨(((0 + ((sh.getD (0 : Int).toNat 0) * (fe.getD (0 + j).toNat 0))) + ((sh.getD (1 : Int).toNat 0) * (fe.getD (3 + j).toNat 0))) + ((sh.getD (2 : Int).toNat 0) * (fe.getD (6 + j).toNat 0))), rfl, (hfr_refl [] h)⟩⟩

theorem cs_worthBy1 {h : List ik_E} {j : Int} {fe : List Int} {sh : List Int} (q0 : 0 ≤ j ∧ j ≤ 2) (q1 : ∀ i : Int, (0 : Int) ≤ i → i < (9 : Int) → 0 ≤ fe.getD i.toNat 0 ∧ fe.getD i.toNat 0 ≤ 1000) (h45 : cE h 45 (.inr (5, [.ref 46, .ref 47, .ref 48, .ref 49, .ref 50]))) (h46 : cE h 46 (.inl (.int, fA fe))) (n46 : fe.length = (9 : Nat)) (h48 : cE h 48 (.inl (.long, fL sh))) (n48 : sh.length = (6 : Nat)) (hl : h.length = (94 : Nat)) : ik_F 52 [.ref 45, fI 1, fI j] h (fun rv h_q => ∃ (z : Int), rv = [fJ z] ∧ hfr [] h h_q) := by
  have qfe := q1
  refine fw_lc (z := 0) rfl (by decide +kernel) ?_
  refine ik_Wk 5 (pc_q := 8) (loc_q := [some (.ref 45), some (fI 1), some (fI j), some (fJ 0), none, some (fI 0)]) (st_q := [fI 3, fI 0]) (h_q := h) (cl_q := 0) (sl_q := 0) rfl ?_
  refine fw_ic_ge rfl rfl (by decide +kernel) (by decide +kernel) (by decide +kernel) (by decide +kernel) (fun hc1 => absurd hc1 (by decide +kernel)) (fun hc1 => ?_)
  refine ik_Wk 2 (pc_q := 13) (loc_q := [some (.ref 45), some (fI 1), some (fI j), some (fJ 0), none, some (fI 0)]) (st_q := [.ref 45, fJ 0]) (h_q := h) (cl_q := 0) (sl_q := 0) rfl ?_
  refine fw_gf rfl rfl h45 rfl ?_
  refine ik_Wk 2 (pc_q := 18) (loc_q := [some (.ref 45), some (fI 1), some (fI j), some (fJ 0), none, some (fI 0)]) (st_q := [fI 3, fI 1, .ref 48, fJ 0]) (h_q := h) (cl_q := 0) (sl_q := 0) rfl ?_
  refine fw_mul rfl ?_
  refine ik_Wk 1 (pc_q := 21) (loc_q := [some (.ref 45), some (fI 1), some (fI j), some (fJ 0), none, some (fI 0)]) (st_q := [fI 0, fI 3, .ref 48, fJ 0]) (h_q := h) (cl_q := 0) (sl_q := 0) rfl ?_
  refine fw_add rfl ?_
  refine fx_lal rfl h48 (by omega) (by omega) (by omega) ?_
  refine ik_Wk 4 (pc_q := 28) (loc_q := [some (.ref 45), some (fI 1), some (fI j), some (fJ 0), none, some (fI 0)]) (st_q := [fI j, fI 0, fI 1, .ref 45, fJ (sh.getD (3 : Int).toNat 0), fJ 0]) (h_q := h) (cl_q := 0) (sl_q := 0) rfl ?_
  refine ik_Wc 45 4 0 [.ref 45, fI 1, fI 0, fI j] [fJ (sh.getD (3 : Int).toNat 0), fJ 0] rfl rfl rfl (by decide +kernel) rfl rfl (fw_rec hl rfl h45 rfl (Nat.le_of_ble_eq_true rfl)) ?_
  refine ik_Wk 0 (pc_q := 0) (loc_q := [some (.ref 45), some (fI 1), some (fI 0), some (fI j)]) (st_q := []) (h_q := h) (cl_q := 0) (sl_q := 0) rfl ?_
  refine ik_Wk 1 (pc_q := 1) (loc_q := [some (.ref 45), some (fI 1), some (fI 0), some (fI j)]) (st_q := [fI 1]) (h_q := h) (cl_q := 0) (sl_q := 0) rfl ?_
  refine fw_if_ne rfl rfl (by decide +kernel) (by decide +kernel) (fun hc2 => absurd hc2 (by decide +kernel)) (fun hc2 => ?_)
  refine ik_Wk 1 (pc_q := 18) (loc_q := [some (.ref 45), some (fI 1), some (fI 0), some (fI j)]) (st_q := [.ref 45]) (h_q := h) (cl_q := 0) (sl_q := 0) rfl ?_
  refine fw_gf rfl rfl h45 rfl ?_
  refine ik_Wk 2 (pc_q := 23) (loc_q := [some (.ref 45), some (fI 1), some (fI 0), some (fI j)]) (st_q := [fI 3, fI j, .ref 46]) (h_q := h) (cl_q := 0) (sl_q := 0) rfl ?_
  refine fx_mulc rfl ?_
  refine ik_Wk 1 (pc_q := 25) (loc_q := [some (.ref 45), some (fI 1), some (fI 0), some (fI j)]) (st_q := [fI 0, fI (3 * j), .ref 46]) (h_q := h) (cl_q := 0) (sl_q := 0) rfl ?_
  refine fw_add rfl ?_
  refine fw_ial rfl h46 (by omega) (by omega) (by omega) ?_
  have hf3 := qfe ((3 * j) + 0) (by omega) (by omega)
  refine ik_Wret rfl rfl ⟨_, _, rfl, rfl, ?_⟩
  refine ik_Wk 0 (pc_q := 31) (loc_q := [some (.ref 45), some (fI 1), some (fI j), some (fJ 0), none, some (fI 0)]) (st_q := [fI (fe.getD ((3 * j) + 0).toNat 0), fJ (sh.getD (3 : Int).toNat 0), fJ 0]) (h_q := h) (cl_q := 0) (sl_q := 0) rfl ?_
  refine fw_i2l rfl (by omega) (by omega) ?_
  refine fw_lmul rfl ?_
  refine fw_ladd rfl ?_
  refine ik_Wk 1 (pc_q := 35) (loc_q := [some (.ref 45), some (fI 1), some (fI j), some (fJ (0 + ((sh.getD (3 : Int).toNat 0) * (fe.getD ((3 * j) + 0).toNat 0)))), none, some (fI 0)]) (st_q := []) (h_q := h) (cl_q := 0) (sl_q := 0) rfl ?_
  refine fw_inc (a := 0) (loc_q := [some (.ref 45), some (fI 1), some (fI j), some (fJ (0 + ((sh.getD (3 : Int).toNat 0) * (fe.getD ((3 * j) + 0).toNat 0)))), none, some (fI 1)]) rfl rfl (Nat.le_of_ble_eq_true rfl) rfl ?_
  refine ik_Wk 3 (pc_q := 8) (loc_q := [some (.ref 45), some (fI 1), some (fI j), some (fJ (0 + ((sh.getD (3 : Int).toNat 0) * (fe.getD ((3 * j) + 0).toNat 0)))), none, some (fI 1)]) (st_q := [fI 3, fI 1]) (h_q := h) (cl_q := 0) (sl_q := 0) rfl ?_
  refine fw_ic_ge rfl rfl (by decide +kernel) (by decide +kernel) (by decide +kernel) (by decide +kernel) (fun hc4 => absurd hc4 (by decide +kernel)) (fun hc4 => ?_)
  refine ik_Wk 2 (pc_q := 13) (loc_q := [some (.ref 45), some (fI 1), some (fI j), some (fJ (0 + ((sh.getD (3 : Int).toNat 0) * (fe.getD ((3 * j) + 0).toNat 0)))), none, some (fI 1)]) (st_q := [.ref 45, fJ (0 + ((sh.getD (3 : Int).toNat 0) * (fe.getD ((3 * j) + 0).toNat 0)))]) (h_q := h) (cl_q := 0) (sl_q := 0) rfl ?_
  refine fw_gf rfl rfl h45 rfl ?_
  refine ik_Wk 2 (pc_q := 18) (loc_q := [some (.ref 45), some (fI 1), some (fI j), some (fJ (0 + ((sh.getD (3 : Int).toNat 0) * (fe.getD ((3 * j) + 0).toNat 0)))), none, some (fI 1)]) (st_q := [fI 3, fI 1, .ref 48, fJ (0 + ((sh.getD (3 : Int).toNat 0) * (fe.getD ((3 * j) + 0).toNat 0)))]) (h_q := h) (cl_q := 0) (sl_q := 0) rfl ?_
  refine fw_mul rfl ?_
  refine ik_Wk 1 (pc_q := 21) (loc_q := [some (.ref 45), some (fI 1), some (fI j), some (fJ (0 + ((sh.getD (3 : Int).toNat 0) * (fe.getD ((3 * j) + 0).toNat 0)))), none, some (fI 1)]) (st_q := [fI 1, fI 3, .ref 48, fJ (0 + ((sh.getD (3 : Int).toNat 0) * (fe.getD ((3 * j) + 0).toNat 0)))]) (h_q := h) (cl_q := 0) (sl_q := 0) rfl ?_
  refine fw_add rfl ?_
  refine fx_lal rfl h48 (by omega) (by omega) (by omega) ?_
  refine ik_Wk 4 (pc_q := 28) (loc_q := [some (.ref 45), some (fI 1), some (fI j), some (fJ (0 + ((sh.getD (3 : Int).toNat 0) * (fe.getD ((3 * j) + 0).toNat 0)))), none, some (fI 1)]) (st_q := [fI j, fI 1, fI 1, .ref 45, fJ (sh.getD (4 : Int).toNat 0), fJ (0 + ((sh.getD (3 : Int).toNat 0) * (fe.getD ((3 * j) + 0).toNat 0)))]) (h_q := h) (cl_q := 0) (sl_q := 0) rfl ?_
  refine ik_Wc 45 4 0 [.ref 45, fI 1, fI 1, fI j] [fJ (sh.getD (4 : Int).toNat 0), fJ (0 + ((sh.getD (3 : Int).toNat 0) * (fe.getD ((3 * j) + 0).toNat 0)))] rfl rfl rfl (by decide +kernel) rfl rfl (fw_rec hl rfl h45 rfl (Nat.le_of_ble_eq_true rfl)) ?_
  refine ik_Wk 0 (pc_q := 0) (loc_q := [some (.ref 45), some (fI 1), some (fI 1), some (fI j)]) (st_q := []) (h_q := h) (cl_q := 0) (sl_q := 0) rfl ?_
  refine ik_Wk 1 (pc_q := 1) (loc_q := [some (.ref 45), some (fI 1), some (fI 1), some (fI j)]) (st_q := [fI 1]) (h_q := h) (cl_q := 0) (sl_q := 0) rfl ?_
  refine fw_if_ne rfl rfl (by decide +kernel) (by decide +kernel) (fun hc5 => absurd hc5 (by decide +kernel)) (fun hc5 => ?_)
  refine ik_Wk 1 (pc_q := 18) (loc_q := [some (.ref 45), some (fI 1), some (fI 1), some (fI j)]) (st_q := [.ref 45]) (h_q := h) (cl_q := 0) (sl_q := 0) rfl ?_
  refine fw_gf rfl rfl h45 rfl ?_
  refine ik_Wk 2 (pc_q := 23) (loc_q := [some (.ref 45), some (fI 1), some (fI 1), some (fI j)]) (st_q := [fI 3, fI j, .ref 46]) (h_q := h) (cl_q := 0) (sl_q := 0) rfl ?_
  refine fx_mulc rfl ?_
  refine ik_Wk 1 (pc_q := 25) (loc_q := [some (.ref 45), some (fI 1), some (fI 1), some (fI j)]) (st_q := [fI 1, fI (3 * j), .ref 46]) (h_q := h) (cl_q := 0) (sl_q := 0) rfl ?_
  refine fw_add rfl ?_
  refine fw_ial rfl h46 (by omega) (by omega) (by omega) ?_
  have hf6 := qfe ((3 * j) + 1) (by omega) (by omega)
  refine ik_Wret rfl rfl ⟨_, _, rfl, rfl, ?_⟩
  refine ik_Wk 0 (pc_q := 31) (loc_q := [some (.ref 45), some (fI 1), some (fI j), some (fJ (0 + ((sh.getD (3 : Int).toNat 0) * (fe.getD ((3 * j) + 0).toNat 0)))), none, some (fI 1)]) (st_q := [fI (fe.getD ((3 * j) + 1).toNat 0), fJ (sh.getD (4 : Int).toNat 0), fJ (0 + ((sh.getD (3 : Int).toNat 0) * (fe.getD ((3 * j) + 0).toNat 0)))]) (h_q := h) (cl_q := 0) (sl_q := 0) rfl ?_
  refine fw_i2l rfl (by omega) (by omega) ?_
  refine fw_lmul rfl ?_
  refine fw_ladd rfl ?_
  refine ik_Wk 1 (pc_q := 35) (loc_q := [some (.ref 45), some (fI 1), some (fI j), some (fJ ((0 + ((sh.getD (3 : Int).toNat 0) * (fe.getD ((3 * j) + 0).toNat 0))) + ((sh.getD (4 : Int).toNat 0) * (fe.getD ((3 * j) + 1).toNat 0)))), none, some (fI 1)]) (st_q := []) (h_q := h) (cl_q := 0) (sl_q := 0) rfl ?_
  refine fw_inc (a := 1) (loc_q := [some (.ref 45), some (fI 1), some (fI j), some (fJ ((0 + ((sh.getD (3 : Int).toNat 0) * (fe.getD ((3 * j) + 0).toNat 0))) + ((sh.getD (4 : Int).toNat 0) * (fe.getD ((3 * j) + 1).toNat 0)))), none, some (fI 2)]) rfl rfl (Nat.le_of_ble_eq_true rfl) rfl ?_
  refine ik_Wk 3 (pc_q := 8) (loc_q := [some (.ref 45), some (fI 1), some (fI j), some (fJ ((0 + ((sh.getD (3 : Int).toNat 0) * (fe.getD ((3 * j) + 0).toNat 0))) + ((sh.getD (4 : Int).toNat 0) * (fe.getD ((3 * j) + 1).toNat 0)))), none, some (fI 2)]) (st_q := [fI 3, fI 2]) (h_q := h) (cl_q := 0) (sl_q := 0) rfl ?_
  refine fw_ic_ge rfl rfl (by decide +kernel) (by decide +kernel) (by decide +kernel) (by decide +kernel) (fun hc7 => absurd hc7 (by decide +kernel)) (fun hc7 => ?_)
  refine ik_Wk 2 (pc_q := 13) (loc_q := [some (.ref 45), some (fI 1), some (fI j), some (fJ ((0 + ((sh.getD (3 : Int).toNat 0) * (fe.getD ((3 * j) + 0).toNat 0))) + ((sh.getD (4 : Int).toNat 0) * (fe.getD ((3 * j) + 1).toNat 0)))), none, some (fI 2)]) (st_q := [.ref 45, fJ ((0 + ((sh.getD (3 : Int).toNat 0) * (fe.getD ((3 * j) + 0).toNat 0))) + ((sh.getD (4 : Int).toNat 0) * (fe.getD ((3 * j) + 1).toNat 0)))]) (h_q := h) (cl_q := 0) (sl_q := 0) rfl ?_
  refine fw_gf rfl rfl h45 rfl ?_
  refine ik_Wk 2 (pc_q := 18) (loc_q := [some (.ref 45), some (fI 1), some (fI j), some (fJ ((0 + ((sh.getD (3 : Int).toNat 0) * (fe.getD ((3 * j) + 0).toNat 0))) + ((sh.getD (4 : Int).toNat 0) * (fe.getD ((3 * j) + 1).toNat 0)))), none, some (fI 2)]) (st_q := [fI 3, fI 1, .ref 48, fJ ((0 + ((sh.getD (3 : Int).toNat 0) * (fe.getD ((3 * j) + 0).toNat 0))) + ((sh.getD (4 : Int).toNat 0) * (fe.getD ((3 * j) + 1).toNat 0)))]) (h_q := h) (cl_q := 0) (sl_q := 0) rfl ?_
  refine fw_mul rfl ?_
  refine ik_Wk 1 (pc_q := 21) (loc_q := [some (.ref 45), some (fI 1), some (fI j), some (fJ ((0 + ((sh.getD (3 : Int).toNat 0) * (fe.getD ((3 * j) + 0).toNat 0))) + ((sh.getD (4 : Int).toNat 0) * (fe.getD ((3 * j) + 1).toNat 0)))), none, some (fI 2)]) (st_q := [fI 2, fI 3, .ref 48, fJ ((0 + ((sh.getD (3 : Int).toNat 0) * (fe.getD ((3 * j) + 0).toNat 0))) + ((sh.getD (4 : Int).toNat 0) * (fe.getD ((3 * j) + 1).toNat 0)))]) (h_q := h) (cl_q := 0) (sl_q := 0) rfl ?_
  refine fw_add rfl ?_
  refine fx_lal rfl h48 (by omega) (by omega) (by omega) ?_
  refine ik_Wk 4 (pc_q := 28) (loc_q := [some (.ref 45), some (fI 1), some (fI j), some (fJ ((0 + ((sh.getD (3 : Int).toNat 0) * (fe.getD ((3 * j) + 0).toNat 0))) + ((sh.getD (4 : Int).toNat 0) * (fe.getD ((3 * j) + 1).toNat 0)))), none, some (fI 2)]) (st_q := [fI j, fI 2, fI 1, .ref 45, fJ (sh.getD (5 : Int).toNat 0), fJ ((0 + ((sh.getD (3 : Int).toNat 0) * (fe.getD ((3 * j) + 0).toNat 0))) + ((sh.getD (4 : Int).toNat 0) * (fe.getD ((3 * j) + 1).toNat 0)))]) (h_q := h) (cl_q := 0) (sl_q := 0) rfl ?_
  refine ik_Wc 45 4 0 [.ref 45, fI 1, fI 2, fI j] [fJ (sh.getD (5 : Int).toNat 0), fJ ((0 + ((sh.getD (3 : Int).toNat 0) * (fe.getD ((3 * j) + 0).toNat 0))) + ((sh.getD (4 : Int).toNat 0) * (fe.getD ((3 * j) + 1).toNat 0)))] rfl rfl rfl (by decide +kernel) rfl rfl (fw_rec hl rfl h45 rfl (Nat.le_of_ble_eq_true rfl)) ?_
  refine ik_Wk 0 (pc_q := 0) (loc_q := [some (.ref 45), some (fI 1), some (fI 2), some (fI j)]) (st_q := []) (h_q := h) (cl_q := 0) (sl_q := 0) rfl ?_
  refine ik_Wk 1 (pc_q := 1) (loc_q := [some (.ref 45), some (fI 1), some (fI 2), some (fI j)]) (st_q := [fI 1]) (h_q := h) (cl_q := 0) (sl_q := 0) rfl ?_
  refine fw_if_ne rfl rfl (by decide +kernel) (by decide +kernel) (fun hc8 => absurd hc8 (by decide +kernel)) (fun hc8 => ?_)
  refine ik_Wk 1 (pc_q := 18) (loc_q := [some (.ref 45), some (fI 1), some (fI 2), some (fI j)]) (st_q := [.ref 45]) (h_q := h) (cl_q := 0) (sl_q := 0) rfl ?_
  refine fw_gf rfl rfl h45 rfl ?_
  refine ik_Wk 2 (pc_q := 23) (loc_q := [some (.ref 45), some (fI 1), some (fI 2), some (fI j)]) (st_q := [fI 3, fI j, .ref 46]) (h_q := h) (cl_q := 0) (sl_q := 0) rfl ?_
  refine fx_mulc rfl ?_
  refine ik_Wk 1 (pc_q := 25) (loc_q := [some (.ref 45), some (fI 1), some (fI 2), some (fI j)]) (st_q := [fI 2, fI (3 * j), .ref 46]) (h_q := h) (cl_q := 0) (sl_q := 0) rfl ?_
  refine fw_add rfl ?_
  refine fw_ial rfl h46 (by omega) (by omega) (by omega) ?_
  have hf9 := qfe ((3 * j) + 2) (by omega) (by omega)
  refine ik_Wret rfl rfl ⟨_, _, rfl, rfl, ?_⟩
  refine ik_Wk 0 (pc_q := 31) (loc_q := [some (.ref 45), some (fI 1), some (fI j), some (fJ ((0 + ((sh.getD (3 : Int).toNat 0) * (fe.getD ((3 * j) + 0).toNat 0))) + ((sh.getD (4 : Int).toNat 0) * (fe.getD ((3 * j) + 1).toNat 0)))), none, some (fI 2)]) (st_q := [fI (fe.getD ((3 * j) + 2).toNat 0), fJ (sh.getD (5 : Int).toNat 0), fJ ((0 + ((sh.getD (3 : Int).toNat 0) * (fe.getD ((3 * j) + 0).toNat 0))) + ((sh.getD (4 : Int).toNat 0) * (fe.getD ((3 * j) + 1).toNat 0)))]) (h_q := h) (cl_q := 0) (sl_q := 0) rfl ?_
  refine fw_i2l rfl (by omega) (by omega) ?_
  refine fw_lmul rfl ?_
  refine fw_ladd rfl ?_
  refine ik_Wk 1 (pc_q := 35) (loc_q := [some (.ref 45), some (fI 1), some (fI j), some (fJ (((0 + ((sh.getD (3 : Int).toNat 0) * (fe.getD ((3 * j) + 0).toNat 0))) + ((sh.getD (4 : Int).toNat 0) * (fe.getD ((3 * j) + 1).toNat 0))) + ((sh.getD (5 : Int).toNat 0) * (fe.getD ((3 * j) + 2).toNat 0)))), none, some (fI 2)]) (st_q := []) (h_q := h) (cl_q := 0) (sl_q := 0) rfl ?_
  refine fw_inc (a := 2) (loc_q := [some (.ref 45), some (fI 1), some (fI j), some (fJ (((0 + ((sh.getD (3 : Int).toNat 0) * (fe.getD ((3 * j) + 0).toNat 0))) + ((sh.getD (4 : Int).toNat 0) * (fe.getD ((3 * j) + 1).toNat 0))) + ((sh.getD (5 : Int).toNat 0) * (fe.getD ((3 * j) + 2).toNat 0)))), none, some (fI 3)]) rfl rfl (Nat.le_of_ble_eq_true rfl) rfl ?_
  refine ik_Wk 3 (pc_q := 8) (loc_q := [some (.ref 45), some (fI 1), some (fI j), some (fJ (((0 + ((sh.getD (3 : Int).toNat 0) * (fe.getD ((3 * j) + 0).toNat 0))) + ((sh.getD (4 : Int).toNat 0) * (fe.getD ((3 * j) + 1).toNat 0))) + ((sh.getD (5 : Int).toNat 0) * (fe.getD ((3 * j) + 2).toNat 0)))), none, some (fI 3)]) (st_q := [fI 3, fI 3]) (h_q := h) (cl_q := 0) (sl_q := 0) rfl ?_
  refine fw_ic_ge rfl rfl (by decide +kernel) (by decide +kernel) (by decide +kernel) (by decide +kernel) (fun hc10 => ?_) (fun hc10 => absurd hc10 (by decide +kernel))
  refine ik_Wk 1 (pc_q := 42) (loc_q := [some (.ref 45), some (fI 1), some (fI j), some (fJ (((0 + ((sh.getD (3 : Int).toNat 0) * (fe.getD ((3 * j) + 0).toNat 0))) + ((sh.getD (4 : Int).toNat 0) * (fe.getD ((3 * j) + 1).toNat 0))) + ((sh.getD (5 : Int).toNat 0) * (fe.getD ((3 * j) + 2).toNat 0)))), none, some (fI 3)]) (st_q := [fJ (((0 + ((sh.getD (3 : Int).toNat 0) * (fe.getD ((3 * j) + 0).toNat 0))) + ((sh.getD (4 : Int).toNat 0) * (fe.getD ((3 * j) + 1).toNat 0))) + ((sh.getD (5 : Int).toNat 0) * (fe.getD ((3 * j) + 2).toNat 0)))]) (h_q := h) (cl_q := 0) (sl_q := 0) rfl ?_
  exact ik_Wret rfl rfl ⟨_, _, rfl, rfl, rfl, rfl, ⟨(((0 + ((sh.getD (3 : Int).toNat 0) * (fe.getD ((3 * j) + 0).toNat 0))) + ((sh.getD (4 : Int).toNat 0) * (fe.getD ((3 * j) + 1).toNat 0))) + ((sh.getD (5 : Int).toNat 0) * (fe.getD ((3 * j) + 2).toNat 0))), rfl, (hfr_refl [] h)⟩⟩

theorem cs_fillBoard0I {h : List ik_E} {ow : Nat} {ot : Nat} {sz : Int} {fe : List Int} {bo_ : List Int} (q0 : 1 ≤ sz ∧ sz ≤ 3) (q1 : ow < 8) (q2 : ot < 8) (q3 : ∀ i : Int, (0 : Int) ≤ i → i < (9 : Int) → 0 ≤ fe.getD i.toNat 0 ∧ fe.getD i.toNat 0 ≤ 1000) (ro : Int) (j : Int) (hr : (0 : Int) ≤ ro ∧ ro ≤ j) (hj : (0 : Int) ≤ j ∧ j ≤ (2 : Int)) {R : List Value → List ik_E → Prop} (K : ∀ (w : List ik_E) (co2 : Int) (kk2 : Int) (b2 : List Int) (w45 : cE w 45 (.inr (5, [.ref 46, .ref 47, .ref 48, .ref 49, .ref 50]))) (w46 : cE w 46 (.inl (.int, fA fe))) (nw_46 : fe.length = (9 : Nat)) (w47 : cE w 47 (.inl (.long, fL b2))) (nw_47 : b2.length = (12 : Nat)) (wl : w.length = (94 : Nat)) (F : hfr [47] h w) , ik_G 47 73 [some (.ref 45), some (fI 0), some (fI ((ow : Nat) : Int)), some (fI ((ot : Nat) : Int)), some (fI sz), some (fI ro), some (fI j), some (fI co2), some (fI kk2)] [] w R) : ∀ (k : Nat) (kk : Int) (co : Int) (b1 : List Int) (u : List ik_E) (u45 : cE u 45 (.inr (5, [.ref 46, .ref 47, .ref 48, .ref 49, .ref 50]))) (u46 : cE u 46 (.inl (.int, fA fe))) (n46 : fe.length = (9 : Nat)) (u47 : cE u 47 (.inl (.long, fL b1))) (n47 : b1.length = (12 : Nat)) (ul : u.length = (94 : Nat)) (F : hfr [47] h u) (hk2 : (0 : Int) ≤ kk ∧ kk ≤ (3 : Int)) (hc : (0 : Int) ≤ co ∧ co ≤ kk) (hk : 3 - kk < (k : Int)), ik_G 47 27 [some (.ref 45), some (fI 0), some (fI ((ow : Nat) : Int)), some (fI ((ot : Nat) : Int)), some (fI sz), some (fI ro), some (fI j), some (fI co), some (fI kk)] [] u R := by
  intro k
  induction k with
  | zero => intro kk co b1 u u45 u46 n46 u47 n47 ul F hk2 hc hk; omega
  | succ k ih =>
    intro kk co b1 u u45 u46 n46 u47 n47 ul F hk2 hc hk
    have qfe := q3
    refine ik_Wk 2 (pc_q := 30) (loc_q := [some (.ref 45), some (fI 0), some (fI ((ow : Nat) : Int)), some (fI ((ot : Nat) : Int)), some (fI sz), some (fI ro), some (fI j), some (fI co), some (fI kk)]) (st_q := [fI 3, fI kk]) (h_q := u) (cl_q := 0) (sl_q := 0) rfl ?_
    refine fw_ic_ge rfl rfl (by omega) (by omega) (by omega) (by omega) (fun hc1 => ?_) (fun hc1 => ?_)
    · exact K u co kk b1 u45 u46 n46 u47 n47 ul F 
    · refine ik_Wk 2 (pc_q := 36) (loc_q := [some (.ref 45), some (fI 0), some (fI ((ow : Nat) : Int)), some (fI ((ot : Nat) : Int)), some (fI sz), some (fI ro), some (fI j), some (fI co), some (fI kk)]) (st_q := [fI kk, fI ((ow : Nat) : Int)]) (h_q := u) (cl_q := 0) (sl_q := 0) rfl ?_
      refine fx_shr (n := ow) rfl (by omega) (by omega) (by omega) ?_
      refine ik_Wk 1 (pc_q := 38) (loc_q := [some (.ref 45), some (fI 0), some (fI ((ow : Nat) : Int)), some (fI ((ot : Nat) : Int)), some (fI sz), some (fI ro), some (fI j), some (fI co), some (fI kk)]) (st_q := [fI 1, fI ((ow >>> kk.toNat : Nat) : Int)]) (h_q := u) (cl_q := 0) (sl_q := 0) rfl ?_
      refine fx_bit (n := ow) (k := kk.toNat) rfl (fun hb2 => ?_) (fun hb2 => ?_)
      · refine ik_Wk 0 (pc_q := 39) (loc_q := [some (.ref 45), some (fI 0), some (fI ((ow : Nat) : Int)), some (fI ((ot : Nat) : Int)), some (fI sz), some (fI ro), some (fI j), some (fI co), some (fI kk)]) (st_q := [fI 1]) (h_q := u) (cl_q := 0) (sl_q := 0) rfl ?_
        refine fw_if_eq rfl rfl (by decide +kernel) (by decide +kernel) (fun hc3 => absurd hc3 (by decide +kernel)) (fun hc3 => ?_)
        refine ik_Wk 1 (pc_q := 43) (loc_q := [some (.ref 45), some (fI 0), some (fI ((ow : Nat) : Int)), some (fI ((ot : Nat) : Int)), some (fI sz), some (fI ro), some (fI j), some (fI co), some (fI kk)]) (st_q := [.ref 45]) (h_q := u) (cl_q := 0) (sl_q := 0) rfl ?_
        refine fw_gf rfl rfl u45 rfl ?_
        refine ik_Wk 2 (pc_q := 49) (loc_q := [some (.ref 45), some (fI 0), some (fI ((ow : Nat) : Int)), some (fI ((ot : Nat) : Int)), some (fI sz), some (fI ro), some (fI j), some (fI co), some (fI kk)]) (st_q := [fI 4, fI ro, .ref 47]) (h_q := u) (cl_q := 0) (sl_q := 0) rfl ?_
        refine fx_mulc rfl ?_
        refine ik_Wk 1 (pc_q := 52) (loc_q := [some (.ref 45), some (fI 0), some (fI ((ow : Nat) : Int)), some (fI ((ot : Nat) : Int)), some (fI sz), some (fI ro), some (fI j), some (fI co), some (fI kk)]) (st_q := [fI co, fI (4 * ro), .ref 47]) (h_q := u) (cl_q := 0) (sl_q := 0) rfl ?_
        refine fw_add rfl ?_
        refine ik_Wk 4 (pc_q := 59) (loc_q := [some (.ref 45), some (fI 0), some (fI ((ow : Nat) : Int)), some (fI ((ot : Nat) : Int)), some (fI sz), some (fI ro), some (fI j), some (fI co), some (fI kk)]) (st_q := [fI j, fI kk, fI 0, .ref 45, fI ((4 * ro) + co), .ref 47]) (h_q := u) (cl_q := 0) (sl_q := 0) rfl ?_
        refine ik_Wc 45 4 0 [.ref 45, fI 0, fI kk, fI j] [fI ((4 * ro) + co), .ref 47] rfl rfl rfl (by decide +kernel) rfl rfl (fw_rec ul rfl u45 rfl (Nat.le_of_ble_eq_true rfl)) ?_
        refine ik_Wk 0 (pc_q := 0) (loc_q := [some (.ref 45), some (fI 0), some (fI kk), some (fI j)]) (st_q := []) (h_q := u) (cl_q := 0) (sl_q := 0) rfl ?_
        refine ik_Wk 1 (pc_q := 1) (loc_q := [some (.ref 45), some (fI 0), some (fI kk), some (fI j)]) (st_q := [fI 0]) (h_q := u) (cl_q := 0) (sl_q := 0) rfl ?_
        refine fw_if_ne rfl rfl (by decide +kernel) (by decide +kernel) (fun hc4 => ?_) (fun hc4 => absurd hc4 (by decide +kernel))
        refine ik_Wk 1 (pc_q := 5) (loc_q := [some (.ref 45), some (fI 0), some (fI kk), some (fI j)]) (st_q := [.ref 45]) (h_q := u) (cl_q := 0) (sl_q := 0) rfl ?_
        refine fw_gf rfl rfl u45 rfl ?_
        refine ik_Wk 2 (pc_q := 10) (loc_q := [some (.ref 45), some (fI 0), some (fI kk), some (fI j)]) (st_q := [fI 3, fI kk, .ref 46]) (h_q := u) (cl_q := 0) (sl_q := 0) rfl ?_
        refine fx_mulc rfl ?_
        refine ik_Wk 1 (pc_q := 12) (loc_q := [some (.ref 45), some (fI 0), some (fI kk), some (fI j)]) (st_q := [fI j, fI (3 * kk), .ref 46]) (h_q := u) (cl_q := 0) (sl_q := 0) rfl ?_
        refine fw_add rfl ?_
        refine fw_ial rfl u46 (by omega) (by omega) (by omega) ?_
        have hf5 := qfe ((3 * kk) + j) (by omega) (by omega)
        refine ik_Wk 1 (pc_q := 27) (loc_q := [some (.ref 45), some (fI 0), some (fI kk), some (fI j)]) (st_q := [fI (fe.getD ((3 * kk) + j).toNat 0)]) (h_q := u) (cl_q := 0) (sl_q := 0) rfl ?_
        refine ik_Wret rfl rfl ⟨_, _, rfl, rfl, ?_⟩
        refine ik_Wk 0 (pc_q := 62) (loc_q := [some (.ref 45), some (fI 0), some (fI ((ow : Nat) : Int)), some (fI ((ot : Nat) : Int)), some (fI sz), some (fI ro), some (fI j), some (fI co), some (fI kk)]) (st_q := [fI (fe.getD ((3 * kk) + j).toNat 0), fI ((4 * ro) + co), .ref 47]) (h_q := u) (cl_q := 0) (sl_q := 0) rfl ?_
        refine fw_i2l rfl (by omega) (by omega) ?_
        have hl6 : (b1.set ((4 * ro) + co).toNat (fe.getD ((3 * kk) + j).toNat 0)).length = 12 := (List.length_set ..).trans n47
        refine fx_las rfl u47 (by omega) (by omega) (by omega) ?_
        intro h_635 e_635 f_635 l_635
        have k_635 : cL h_635 := l_635.trans ul
        have fr_635 := hfr_wb F f_635 l_635 rfl
        clear l_635
        have g_635_45 := (f_635 45 (Nat.ne_of_beq_eq_false rfl)).trans u45
        have g_635_46 := (f_635 46 (Nat.ne_of_beq_eq_false rfl)).trans u46
        have g_635_47 : cE h_635 47 (.inl (.long, fL (b1.set ((4 * ro) + co).toNat (fe.getD ((3 * kk) + j).toNat 0)))) := e_635
        refine fw_inc (a := co) (loc_q := [some (.ref 45), some (fI 0), some (fI ((ow : Nat) : Int)), some (fI ((ot : Nat) : Int)), some (fI sz), some (fI ro), some (fI j), some (fI (co + 1)), some (fI kk)]) rfl rfl (Nat.le_of_ble_eq_true rfl) rfl ?_
        refine fw_inc (a := kk) (loc_q := [some (.ref 45), some (fI 0), some (fI ((ow : Nat) : Int)), some (fI ((ot : Nat) : Int)), some (fI sz), some (fI ro), some (fI j), some (fI (co + 1)), some (fI (kk + 1))]) rfl rfl (Nat.le_of_ble_eq_true rfl) rfl ?_
        refine ik_Wk 1 (pc_q := 27) (loc_q := [some (.ref 45), some (fI 0), some (fI ((ow : Nat) : Int)), some (fI ((ot : Nat) : Int)), some (fI sz), some (fI ro), some (fI j), some (fI (co + 1)), some (fI (kk + 1))]) (st_q := []) (h_q := h_635) (cl_q := 0) (sl_q := 0) rfl ?_
        exact ih (kk + 1) (co + 1) (b1.set ((4 * ro) + co).toNat (fe.getD ((3 * kk) + j).toNat 0)) h_635 g_635_45 g_635_46 n46 g_635_47 hl6 k_635 fr_635 (by omega) (by omega) (by omega)
      · refine ik_Wk 0 (pc_q := 39) (loc_q := [some (.ref 45), some (fI 0), some (fI ((ow : Nat) : Int)), some (fI ((ot : Nat) : Int)), some (fI sz), some (fI ro), some (fI j), some (fI co), some (fI kk)]) (st_q := [fI 0]) (h_q := u) (cl_q := 0) (sl_q := 0) rfl ?_
        refine fw_if_eq rfl rfl (by decide +kernel) (by decide +kernel) (fun hc7 => ?_) (fun hc7 => absurd hc7 (by decide +kernel))
        refine fw_inc (a := kk) (loc_q := [some (.ref 45), some (fI 0), some (fI ((ow : Nat) : Int)), some (fI ((ot : Nat) : Int)), some (fI sz), some (fI ro), some (fI j), some (fI co), some (fI (kk + 1))]) rfl rfl (Nat.le_of_ble_eq_true rfl) rfl ?_
        refine ik_Wk 1 (pc_q := 27) (loc_q := [some (.ref 45), some (fI 0), some (fI ((ow : Nat) : Int)), some (fI ((ot : Nat) : Int)), some (fI sz), some (fI ro), some (fI j), some (fI co), some (fI (kk + 1))]) (st_q := []) (h_q := u) (cl_q := 0) (sl_q := 0) rfl ?_
        exact ih (kk + 1) co b1 u u45 u46 n46 u47 n47 ul F (by omega) (by omega) (by omega)

theorem cs_fillBoard0L {h : List ik_E} {ow : Nat} {ot : Nat} {sz : Int} {fe : List Int} {bo_ : List Int} (q0 : 1 ≤ sz ∧ sz ≤ 3) (q1 : ow < 8) (q2 : ot < 8) (q3 : ∀ i : Int, (0 : Int) ≤ i → i < (9 : Int) → 0 ≤ fe.getD i.toNat 0 ∧ fe.getD i.toNat 0 ≤ 1000)  : ∀ (k : Nat) (j : Int) (ro : Int) (b1 : List Int) (x7 : Option Value) (x8 : Option Value) (u : List ik_E) (u45 : cE u 45 (.inr (5, [.ref 46, .ref 47, .ref 48, .ref 49, .ref 50]))) (u46 : cE u 46 (.inl (.int, fA fe))) (n46 : fe.length = (9 : Nat)) (u47 : cE u 47 (.inl (.long, fL b1))) (n47 : b1.length = (12 : Nat)) (ul : u.length = (94 : Nat)) (F : hfr [47] h u) (hj : (0 : Int) ≤ j ∧ j ≤ (3 : Int)) (hr : (0 : Int) ≤ ro ∧ ro ≤ j) (w7 : ik_wl 94 x7 = true) (w8 : ik_wl 94 x8 = true) (hk : 3 - j < (k : Int)), ik_G 47 6 [some (.ref 45), some (fI 0), some (fI ((ow : Nat) : Int)), some (fI ((ot : Nat) : Int)), some (fI sz), some (fI ro), some (fI j), x7, x8] [] u (fun rv h_q => ∃ (bo' : List Int), rv = [] ∧ cE h_q 47 (.inl (.long, fL bo')) ∧ bo'.length = (12 : Nat) ∧ hfr [47] h h_q) := by
  intro k
  induction k with
  | zero => intro j ro b1 x7 x8 u u45 u46 n46 u47 n47 ul F hj hr w7 w8 hk; omega
  | succ k ih =>
    intro j ro b1 x7 x8 u u45 u46 n46 u47 n47 ul F hj hr w7 w8 hk
    refine ik_Wk 2 (pc_q := 9) (loc_q := [some (.ref 45), some (fI 0), some (fI ((ow : Nat) : Int)), some (fI ((ot : Nat) : Int)), some (fI sz), some (fI ro), some (fI j), x7, x8]) (st_q := [fI 3, fI j]) (h_q := u) (cl_q := 0) (sl_q := 0) rfl ?_
    refine fw_ic_ge rfl rfl (by omega) (by omega) (by omega) (by omega) (fun hc1 => ?_) (fun hc1 => ?_)
    · exact ik_Wret rfl rfl ⟨_, _, rfl, rfl, rfl, rfl, ⟨b1, rfl, u47, n47, F⟩⟩
    · refine ik_Wk 2 (pc_q := 15) (loc_q := [some (.ref 45), some (fI 0), some (fI ((ow : Nat) : Int)), some (fI ((ot : Nat) : Int)), some (fI sz), some (fI ro), some (fI j), x7, x8]) (st_q := [fI j, fI ((ot : Nat) : Int)]) (h_q := u) (cl_q := 0) (sl_q := 0) rfl ?_
      refine fx_shr (n := ot) rfl (by omega) (by omega) (by omega) ?_
      refine ik_Wk 1 (pc_q := 17) (loc_q := [some (.ref 45), some (fI 0), some (fI ((ow : Nat) : Int)), some (fI ((ot : Nat) : Int)), some (fI sz), some (fI ro), some (fI j), x7, x8]) (st_q := [fI 1, fI ((ot >>> j.toNat : Nat) : Int)]) (h_q := u) (cl_q := 0) (sl_q := 0) rfl ?_
      refine fx_bit (n := ot) (k := j.toNat) rfl (fun hb2 => ?_) (fun hb2 => ?_)
      · refine ik_Wk 0 (pc_q := 18) (loc_q := [some (.ref 45), some (fI 0), some (fI ((ow : Nat) : Int)), some (fI ((ot : Nat) : Int)), some (fI sz), some (fI ro), some (fI j), x7, x8]) (st_q := [fI 1]) (h_q := u) (cl_q := 0) (sl_q := 0) rfl ?_
        refine fw_if_eq rfl rfl (by decide +kernel) (by decide +kernel) (fun hc3 => absurd hc3 (by decide +kernel)) (fun hc3 => ?_)
        refine ik_Wk 4 (pc_q := 27) (loc_q := [some (.ref 45), some (fI 0), some (fI ((ow : Nat) : Int)), some (fI ((ot : Nat) : Int)), some (fI sz), some (fI ro), some (fI j), some (fI 0), some (fI 0)]) (st_q := []) (h_q := u) (cl_q := 0) (sl_q := 0) rfl ?_
        refine cs_fillBoard0I (ow := ow) (ot := ot) (sz := sz) (fe := fe) (bo_ := bo_) q0 q1 q2 q3 ro j (by omega) (by omega) (R := (fun rv h_q => ∃ (bo' : List Int), rv = [] ∧ cE h_q 47 (.inl (.long, fL bo')) ∧ bo'.length = 12 ∧ hfr [47] h h_q)) (fun h_636 co2_636 kk2_636 b2_636 g_636_45 g_636_46 m_636_46 g_636_47 m_636_47 k_636 fr_636 => ?_) 4 0 0 b1 u u45 u46 n46 u47 n47 ul F (by omega) (by omega) (by omega)
        refine ik_Wk 1 (pc_q := 74) (loc_q := [some (.ref 45), some (fI 0), some (fI ((ow : Nat) : Int)), some (fI ((ot : Nat) : Int)), some (fI sz), some (fI ro), some (fI j), some (fI co2_636), some (fI kk2_636)]) (st_q := [.ref 45]) (h_q := h_636) (cl_q := 0) (sl_q := 0) rfl ?_
        refine fw_gf rfl rfl g_636_45 rfl ?_
        refine ik_Wk 2 (pc_q := 80) (loc_q := [some (.ref 45), some (fI 0), some (fI ((ow : Nat) : Int)), some (fI ((ot : Nat) : Int)), some (fI sz), some (fI ro), some (fI j), some (fI co2_636), some (fI kk2_636)]) (st_q := [fI 4, fI ro, .ref 47]) (h_q := h_636) (cl_q := 0) (sl_q := 0) rfl ?_
        refine fx_mulc rfl ?_
        refine ik_Wk 1 (pc_q := 83) (loc_q := [some (.ref 45), some (fI 0), some (fI ((ow : Nat) : Int)), some (fI ((ot : Nat) : Int)), some (fI sz), some (fI ro), some (fI j), some (fI co2_636), some (fI kk2_636)]) (st_q := [fI sz, fI (4 * ro), .ref 47]) (h_q := h_636) (cl_q := 0) (sl_q := 0) rfl ?_
        refine fw_add rfl ?_
        refine fw_l2 (-1) rfl rfl (by decide +kernel) ?_
        have hl4 : (b2_636.set ((4 * ro) + sz).toNat (-1)).length = 12 := (List.length_set ..).trans m_636_47
        refine fx_las rfl g_636_47 (by omega) (by omega) (by omega) ?_
        intro h_637 e_637 f_637 l_637
        have k_637 : cL h_637 := l_637.trans k_636
        have fr_637 := hfr_wb fr_636 f_637 l_637 rfl
        clear l_637
        have g_637_45 := (f_637 45 (Nat.ne_of_beq_eq_false rfl)).trans g_636_45
        have g_637_46 := (f_637 46 (Nat.ne_of_beq_eq_false rfl)).trans g_636_46
        have g_637_47 : cE h_637 47 (.inl (.long, fL (b2_636.set ((4 * ro) + sz).toNat (-1)))) := e_637
        refine fw_inc (a := ro) (loc_q := [some (.ref 45), some (fI 0), some (fI ((ow : Nat) : Int)), some (fI ((ot : Nat) : Int)), some (fI sz), some (fI (ro + 1)), some (fI j), some (fI co2_636), some (fI kk2_636)]) rfl rfl (Nat.le_of_ble_eq_true rfl) rfl ?_
        refine fw_inc (a := j) (loc_q := [some (.ref 45), some (fI 0), some (fI ((ow : Nat) : Int)), some (fI ((ot : Nat) : Int)), some (fI sz), some (fI (ro + 1)), some (fI (j + 1)), some (fI co2_636), some (fI kk2_636)]) rfl rfl (Nat.le_of_ble_eq_true rfl) rfl ?_
        refine ik_Wk 1 (pc_q := 6) (loc_q := [some (.ref 45), some (fI 0), some (fI ((ow : Nat) : Int)), some (fI ((ot : Nat) : Int)), some (fI sz), some (fI (ro + 1)), some (fI (j + 1)), some (fI co2_636), some (fI kk2_636)]) (st_q := []) (h_q := h_637) (cl_q := 0) (sl_q := 0) rfl ?_
        exact ih  (j + 1) (ro + 1) (b2_636.set ((4 * ro) + sz).toNat (-1)) (some (fI co2_636)) (some (fI kk2_636)) h_637 g_637_45 g_637_46 m_636_46 g_637_47 hl4 k_637 fr_637 (by omega) (by omega) rfl rfl (by omega)
      · refine ik_Wk 0 (pc_q := 18) (loc_q := [some (.ref 45), some (fI 0), some (fI ((ow : Nat) : Int)), some (fI ((ot : Nat) : Int)), some (fI sz), some (fI ro), some (fI j), x7, x8]) (st_q := [fI 0]) (h_q := u) (cl_q := 0) (sl_q := 0) rfl ?_
        refine fw_if_eq rfl rfl (by decide +kernel) (by decide +kernel) (fun hc5 => ?_) (fun hc5 => absurd hc5 (by decide +kernel))
        refine fw_inc (a := j) (loc_q := [some (.ref 45), some (fI 0), some (fI ((ow : Nat) : Int)), some (fI ((ot : Nat) : Int)), some (fI sz), some (fI ro), some (fI (j + 1)), x7, x8]) rfl rfl (Nat.le_of_ble_eq_true rfl) rfl ?_
        refine ik_Wk 1 (pc_q := 6) (loc_q := [some (.ref 45), some (fI 0), some (fI ((ow : Nat) : Int)), some (fI ((ot : Nat) : Int)), some (fI sz), some (fI ro), some (fI (j + 1)), x7, x8]) (st_q := []) (h_q := u) (cl_q := 0) (sl_q := 0) rfl ?_
        exact ih  (j + 1) ro b1 x7 x8 u u45 u46 n46 u47 n47 ul F (by omega) (by omega) w7 w8 (by omega)

theorem cs_fillBoard0 {h : List ik_E} {ow : Nat} {ot : Nat} {sz : Int} {fe : List Int} {bo_ : List Int} (q0 : 1 ≤ sz ∧ sz ≤ 3) (q1 : ow < 8) (q2 : ot < 8) (q3 : ∀ i : Int, (0 : Int) ≤ i → i < (9 : Int) → 0 ≤ fe.getD i.toNat 0 ∧ fe.getD i.toNat 0 ≤ 1000) (h45 : cE h 45 (.inr (5, [.ref 46, .ref 47, .ref 48, .ref 49, .ref 50]))) (h46 : cE h 46 (.inl (.int, fA fe))) (n46 : fe.length = (9 : Nat)) (h47 : cE h 47 (.inl (.long, fL bo_))) (n47 : bo_.length = (12 : Nat)) (hl : h.length = (94 : Nat)) : ik_F 47 [.ref 45, fI 0, fI ((ow : Nat) : Int), fI ((ot : Nat) : Int), fI sz] h (fun rv h_q => ∃ (bo' : List Int), rv = [] ∧ cE h_q 47 (.inl (.long, fL bo')) ∧ bo'.length = (12 : Nat) ∧ hfr [47] h h_q) := by
  refine ik_Wk 4 (pc_q := 6) (loc_q := [some (.ref 45), some (fI 0), some (fI ((ow : Nat) : Int)), some (fI ((ot : Nat) : Int)), some (fI sz), some (fI 0), some (fI 0), none, none]) (st_q := []) (h_q := h) (cl_q := 0) (sl_q := 0) rfl ?_
  exact cs_fillBoard0L (ow := ow) (ot := ot) (sz := sz) (fe := fe) (bo_ := bo_) q0 q1 q2 q3  4 0 0 bo_ none none h h45 h46 n46 h47 n47 hl (hfr_refl [47] h) (by omega) (by omega) rfl rfl (by omega)

theorem cs_fillBoard1I {h : List ik_E} {ow : Nat} {ot : Nat} {sz : Int} {fe : List Int} {bo_ : List Int} (q0 : 1 ≤ sz ∧ sz ≤ 3) (q1 : ow < 8) (q2 : ot < 8) (q3 : ∀ i : Int, (0 : Int) ≤ i → i < (9 : Int) → 0 ≤ fe.getD i.toNat 0 ∧ fe.getD i.toNat 0 ≤ 1000) (ro : Int) (j : Int) (hr : (0 : Int) ≤ ro ∧ ro ≤ j) (hj : (0 : Int) ≤ j ∧ j ≤ (2 : Int)) {R : List Value → List ik_E → Prop} (K : ∀ (w : List ik_E) (co2 : Int) (kk2 : Int) (b2 : List Int) (w45 : cE w 45 (.inr (5, [.ref 46, .ref 47, .ref 48, .ref 49, .ref 50]))) (w46 : cE w 46 (.inl (.int, fA fe))) (nw_46 : fe.length = (9 : Nat)) (w47 : cE w 47 (.inl (.long, fL b2))) (nw_47 : b2.length = (12 : Nat)) (wl : w.length = (94 : Nat)) (F : hfr [47] h w) , ik_G 47 73 [some (.ref 45), some (fI 1), some (fI ((ow : Nat) : Int)), some (fI ((ot : Nat) : Int)), some (fI sz), some (fI ro), some (fI j), some (fI co2), some (fI kk2)] [] w R) : ∀ (k : Nat) (kk : Int) (co : Int) (b1 : List Int) (u : List ik_E) (u45 : cE u 45 (.inr (5, [.ref 46, .ref 47, .ref 48, .ref 49, .ref 50]))) (u46 : cE u 46 (.inl (.int, fA fe))) (n46 : fe.length = (9 : Nat)) (u47 : cE u 47 (.inl (.long, fL b1))) (n47 : b1.length = (12 : Nat)) (ul : u.length = (94 : Nat)) (F : hfr [47] h u) (hk2 : (0 : Int) ≤ kk ∧ kk ≤ (3 : Int)) (hc : (0 : Int) ≤ co ∧ co ≤ kk) (hk : 3 - kk < (k : Int)), ik_G 47 27 [some (.ref 45), some (fI 1), some (fI ((ow : Nat) : Int)), some (fI ((ot : Nat) : Int)), some (fI sz), some (fI ro), some (fI j), some (fI co), some (fI kk)] [] u R := by
  intro k
  induction k with
  | zero => intro kk co b1 u u45 u46 n46 u47 n47 ul F hk2 hc hk; omega
  | succ k ih =>
    intro kk co b1 u u45 u46 n46 u47 n47 ul F hk2 hc hk
    have qfe := q3
    refine ik_Wk 2 (pc_q := 30) (loc_q := [some (.ref 45), some (fI 1), some (fI ((ow : Nat) : Int)), some (fI ((ot : Nat) : Int)), some (fI sz), some (fI ro), some (fI j), some (fI co), some (fI kk)]) (st_q := [fI 3, fI kk]) (h_q := u) (cl_q := 0) (sl_q := 0) rfl ?_
    refine fw_ic_ge rfl rfl (by omega) (by omega) (by omega) (by omega) (fun hc1 => ?_) (fun hc1 => ?_)
    · exact K u co kk b1 u45 u46 n46 u47 n47 ul F 
    · refine ik_Wk 2 (pc_q := 36) (loc_q := [some (.ref 45), some (fI 1), some (fI ((ow : Nat) : Int)), some (fI ((ot : Nat) : Int)), some (fI sz), some (fI ro), some (fI j), some (fI co), some (fI kk)]) (st_q := [fI kk, fI ((ow : Nat) : Int)]) (h_q := u) (cl_q := 0) (sl_q := 0) rfl ?_
      refine fx_shr (n := ow) rfl (by omega) (by omega) (by omega) ?_
      refine ik_Wk 1 (pc_q := 38) (loc_q := [some (.ref 45), some (fI 1), some (fI ((ow : Nat) : Int)), some (fI ((ot : Nat) : Int)), some (fI sz), some (fI ro), some (fI j), some (fI co), some (fI kk)]) (st_q := [fI 1, fI ((ow >>> kk.toNat : Nat) : Int)]) (h_q := u) (cl_q := 0) (sl_q := 0) rfl ?_
      refine fx_bit (n := ow) (k := kk.toNat) rfl (fun hb2 => ?_) (fun hb2 => ?_)
      · refine ik_Wk 0 (pc_q := 39) (loc_q := [some (.ref 45), some (fI 1), some (fI ((ow : Nat) : Int)), some (fI ((ot : Nat) : Int)), some (fI sz), some (fI ro), some (fI j), some (fI co), some (fI kk)]) (st_q := [fI 1]) (h_q := u) (cl_q := 0) (sl_q := 0) rfl ?_
        refine fw_if_eq rfl rfl (by decide +kernel) (by decide +kernel) (fun hc3 => absurd hc3 (by decide +kernel)) (fun hc3 => ?_)
        refine ik_Wk 1 (pc_q := 43) (loc_q := [some (.ref 45), some (fI 1), some (fI ((ow : Nat) : Int)), some (fI ((ot : Nat) : Int)), some (fI sz), some (fI ro), some (fI j), some (fI co), some (fI kk)]) (st_q := [.ref 45]) (h_q := u) (cl_q := 0) (sl_q := 0) rfl ?_
        refine fw_gf rfl rfl u45 rfl ?_
        refine ik_Wk 2 (pc_q := 49) (loc_q := [some (.ref 45), some (fI 1), some (fI ((ow : Nat) : Int)), some (fI ((ot : Nat) : Int)), some (fI sz), some (fI ro), some (fI j), some (fI co), some (fI kk)]) (st_q := [fI 4, fI ro, .ref 47]) (h_q := u) (cl_q := 0) (sl_q := 0) rfl ?_
        refine fx_mulc rfl ?_
        refine ik_Wk 1 (pc_q := 52) (loc_q := [some (.ref 45), some (fI 1), some (fI ((ow : Nat) : Int)), some (fI ((ot : Nat) : Int)), some (fI sz), some (fI ro), some (fI j), some (fI co), some (fI kk)]) (st_q := [fI co, fI (4 * ro), .ref 47]) (h_q := u) (cl_q := 0) (sl_q := 0) rfl ?_
        refine fw_add rfl ?_
        refine ik_Wk 4 (pc_q := 59) (loc_q := [some (.ref 45), some (fI 1), some (fI ((ow : Nat) : Int)), some (fI ((ot : Nat) : Int)), some (fI sz), some (fI ro), some (fI j), some (fI co), some (fI kk)]) (st_q := [fI j, fI kk, fI 1, .ref 45, fI ((4 * ro) + co), .ref 47]) (h_q := u) (cl_q := 0) (sl_q := 0) rfl ?_
        refine ik_Wc 45 4 0 [.ref 45, fI 1, fI kk, fI j] [fI ((4 * ro) + co), .ref 47] rfl rfl rfl (by decide +kernel) rfl rfl (fw_rec ul rfl u45 rfl (Nat.le_of_ble_eq_true rfl)) ?_
        refine ik_Wk 0 (pc_q := 0) (loc_q := [some (.ref 45), some (fI 1), some (fI kk), some (fI j)]) (st_q := []) (h_q := u) (cl_q := 0) (sl_q := 0) rfl ?_
        refine ik_Wk 1 (pc_q := 1) (loc_q := [some (.ref 45), some (fI 1), some (fI kk), some (fI j)]) (st_q := [fI 1]) (h_q := u) (cl_q := 0) (sl_q := 0) rfl ?_
        refine fw_if_ne rfl rfl (by decide +kernel) (by decide +kernel) (fun hc4 => absurd hc4 (by decide +kernel)) (fun hc4 => ?_)
        refine ik_Wk 1 (pc_q := 18) (loc_q := [some (.ref 45), some (fI 1), some (fI kk), some (fI j)]) (st_q := [.ref 45]) (h_q := u) (cl_q := 0) (sl_q := 0) rfl ?_
        refine fw_gf rfl rfl u45 rfl ?_
        refine ik_Wk 2 (pc_q := 23) (loc_q := [some (.ref 45), some (fI 1), some (fI kk), some (fI j)]) (st_q := [fI 3, fI j, .ref 46]) (h_q := u) (cl_q := 0) (sl_q := 0) rfl ?_
        refine fx_mulc rfl ?_
        refine ik_Wk 1 (pc_q := 25) (loc_q := [some (.ref 45), some (fI 1), some (fI kk), some (fI j)]) (st_q := [fI kk, fI (3 * j), .ref 46]) (h_q := u) (cl_q := 0) (sl_q := 0) rfl ?_
        refine fw_add rfl ?_
        refine fw_ial rfl u46 (by omega) (by omega) (by omega) ?_
        have hf5 := qfe ((3 * j) + kk) (by omega) (by omega)
        refine ik_Wret rfl rfl ⟨_, _, rfl, rfl, ?_⟩
        refine ik_Wk 0 (pc_q := 62) (loc_q := [some (.ref 45), some (fI 1), some (fI ((ow : Nat) : Int)), some (fI ((ot : Nat) : Int)), some (fI sz), some (fI ro), some (fI j), some (fI co), some (fI kk)]) (st_q := [fI (fe.getD ((3 * j) + kk).toNat 0), fI ((4 * ro) + co), .ref 47]) (h_q := u) (cl_q := 0) (sl_q := 0) rfl ?_
        refine fw_i2l rfl (by omega) (by omega) ?_
        have hl6 : (b1.set ((4 * ro) + co).toNat (fe.getD ((3 * j) + kk).toNat 0)).length = 12 := (List.length_set ..).trans n47
        refine fx_las rfl u47 (by omega) (by omega) (by omega) ?_
        intro h_638 e_638 f_638 l_638
        have k_638 : cL h_638 := l_638.trans ul
        have fr_638 := hfr_wb F f_638 l_638 rfl
        clear l_638
        have g_638_45 := (f_638 45 (Nat.ne_of_beq_eq_false rfl)).trans u45
        have g_638_46 := (f_638 46 (Nat.ne_of_beq_eq_false rfl)).trans u46
        have g_638_47 : cE h_638 47 (.inl (.long, fL (b1.set ((4 * ro) + co).toNat (fe.getD ((3 * j) + kk).toNat 0)))) := e_638
        refine fw_inc (a := co) (loc_q := [some (.ref 45), some (fI 1), some (fI ((ow : Nat) : Int)), some (fI ((ot : Nat) : Int)), some (fI sz), some (fI ro), some (fI j), some (fI (co + 1)), some (fI kk)]) rfl rfl (Nat.le_of_ble_eq_true rfl) rfl ?_
        refine fw_inc (a := kk) (loc_q := [some (.ref 45), some (fI 1), some (fI ((ow : Nat) : Int)), some (fI ((ot : Nat) : Int)), some (fI sz), some (fI ro), some (fI j), some (fI (co + 1)), some (fI (kk + 1))]) rfl rfl (Nat.le_of_ble_eq_true rfl) rfl ?_
        refine ik_Wk 1 (pc_q := 27) (loc_q := [some (.ref 45), some (fI 1), some (fI ((ow : Nat) : Int)), some (fI ((ot : Nat) : Int)), some (fI sz), some (fI ro), some (fI j), some (fI (co + 1)), some (fI (kk + 1))]) (st_q := []) (h_q := h_638) (cl_q := 0) (sl_q := 0) rfl ?_
        exact ih (kk + 1) (co + 1) (b1.set ((4 * ro) + co).toNat (fe.getD ((3 * j) + kk).toNat 0)) h_638 g_638_45 g_638_46 n46 g_638_47 hl6 k_638 fr_638 (by omega) (by omega) (by omega)
      · refine ik_Wk 0 (pc_q := 39) (loc_q := [some (.ref 45), some (fI 1), some (fI ((ow : Nat) : Int)), some (fI ((ot : Nat) : Int)), some (fI sz), some (fI ro), some (fI j), some (fI co), some (fI kk)]) (st_q := [fI 0]) (h_q := u) (cl_q := 0) (sl_q := 0) rfl ?_
        refine fw_if_eq rfl rfl (by decide +kernel) (by decide +kernel) (fun hc7 => ?_) (fun hc7 => absurd hc7 (by decide +kernel))
        refine fw_inc (a := kk) (loc_q := [some (.ref 45), some (fI 1), some (fI ((ow : Nat) : Int)), some (fI ((ot : Nat) : Int)), some (fI sz), some (fI ro), some (fI j), some (fI co), some (fI (kk + 1))]) rfl rfl (Nat.le_of_ble_eq_true rfl) rfl ?_
        refine ik_Wk 1 (pc_q := 27) (loc_q := [some (.ref 45), some (fI 1), some (fI ((ow : Nat) : Int)), some (fI ((ot : Nat) : Int)), some (fI sz), some (fI ro), some (fI j), some (fI co), some (fI (kk + 1))]) (st_q := []) (h_q := u) (cl_q := 0) (sl_q := 0) rfl ?_
        exact ih (kk + 1) co b1 u u45 u46 n46 u47 n47 ul F (by omega) (by omega) (by omega)

theorem cs_fillBoard1L {h : List ik_E} {ow : Nat} {ot : Nat} {sz : Int} {fe : List Int} {bo_ : List Int} (q0 : 1 ≤ sz ∧ sz ≤ 3) (q1 : ow < 8) (q2 : ot < 8) (q3 : ∀ i : Int, (0 : Int) ≤ i → i < (9 : Int) → 0 ≤ fe.getD i.toNat 0 ∧ fe.getD i.toNat 0 ≤ 1000)  : ∀ (k : Nat) (j : Int) (ro : Int) (b1 : List Int) (x7 : Option Value) (x8 : Option Value) (u : List ik_E) (u45 : cE u 45 (.inr (5, [.ref 46, .ref 47, .ref 48, .ref 49, .ref 50]))) (u46 : cE u 46 (.inl (.int, fA fe))) (n46 : fe.length = (9 : Nat)) (u47 : cE u 47 (.inl (.long, fL b1))) (n47 : b1.length = (12 : Nat)) (ul : u.length = (94 : Nat)) (F : hfr [47] h u) (hj : (0 : Int) ≤ j ∧ j ≤ (3 : Int)) (hr : (0 : Int) ≤ ro ∧ ro ≤ j) (w7 : ik_wl 94 x7 = true) (w8 : ik_wl 94 x8 = true) (hk : 3 - j < (k : Int)), ik_G 47 6 [some (.ref 45), some (fI 1), some (fI ((ow : Nat) : Int)), some (fI ((ot : Nat) : Int)), some (fI sz), some (fI ro), some (fI j), x7, x8] [] u (fun rv h_q => ∃ (bo' : List Int), rv = [] ∧ cE h_q 47 (.inl (.long, fL bo')) ∧ bo'.length = (12 : Nat) ∧ hfr [47] h h_q) := by
  intro k
  induction k with
  | zero => intro j ro b1 x7 x8 u u45 u46 n46 u47 n47 ul F hj hr w7 w8 hk; omega
  | succ k ih =>
    intro j ro b1 x7 x8 u u45 u46 n46 u47 n47 ul F hj hr w7 w8 hk
    refine ik_Wk 2 (pc_q := 9) (loc_q := [some (.ref 45), some (fI 1), some (fI ((ow : Nat) : Int)), some (fI ((ot : Nat) : Int)), some (fI sz), some (fI ro), some (fI j), x7, x8]) (st_q := [fI 3, fI j]) (h_q := u) (cl_q := 0) (sl_q := 0) rfl ?_
    refine fw_ic_ge rfl rfl (by omega) (by omega) (by omega) (by omega) (fun hc1 => ?_) (fun hc1 => ?_)
    · exact ik_Wret rfl rfl ⟨_, _, rfl, rfl, rfl, rfl, ⟨b1, rfl, u47, n47, F⟩⟩
    · refine ik_Wk 2 (pc_q := 15) (loc_q := [some (.ref 45), some (fI 1), some (fI ((ow : Nat) : Int)), some (fI ((ot : Nat) : Int)), some (fI sz), some (fI ro), some (fI j), x7, x8]) (st_q := [fI j, fI ((ot : Nat) : Int)]) (h_q := u) (cl_q := 0) (sl_q := 0) rfl ?_
      refine fx_shr (n := ot) rfl (by omega) (by omega) (by omega) ?_
      refine ik_Wk 1 (pc_q := 17) (loc_q := [some (.ref 45), some (fI 1), some (fI ((ow : Nat) : Int)), some (fI ((ot : Nat) : Int)), some (fI sz), some (fI ro), some (fI j), x7, x8]) (st_q := [fI 1, fI ((ot >>> j.toNat : Nat) : Int)]) (h_q := u) (cl_q := 0) (sl_q := 0) rfl ?_
      refine fx_bit (n := ot) (k := j.toNat) rfl (fun hb2 => ?_) (fun hb2 => ?_)
      · refine ik_Wk 0 (pc_q := 18) (loc_q := [some (.ref 45), some (fI 1), some (fI ((ow : Nat) : Int)), some (fI ((ot : Nat) : Int)), some (fI sz), some (fI ro), some (fI j), x7, x8]) (st_q := [fI 1]) (h_q := u) (cl_q := 0) (sl_q := 0) rfl ?_
        refine fw_if_eq rfl rfl (by decide +kernel) (by decide +kernel) (fun hc3 => absurd hc3 (by decide +kernel)) (fun hc3 => ?_)
        refine ik_Wk 4 (pc_q := 27) (loc_q := [some (.ref 45), some (fI 1), some (fI ((ow : Nat) : Int)), some (fI ((ot : Nat) : Int)), some (fI sz), some (fI ro), some (fI j), some (fI 0), some (fI 0)]) (st_q := []) (h_q := u) (cl_q := 0) (sl_q := 0) rfl ?_
        refine cs_fillBoard1I (ow := ow) (ot := ot) (sz := sz) (fe := fe) (bo_ := bo_) q0 q1 q2 q3 ro j (by omega) (by omega) (R := (fun rv h_q => ∃ (bo' : List Int), rv = [] ∧ cE h_q 47 (.inl (.long, fL bo')) ∧ bo'.length = 12 ∧ hfr [47] h h_q)) (fun h_639 co2_639 kk2_639 b2_639 g_639_45 g_639_46 m_639_46 g_639_47 m_639_47 k_639 fr_639 => ?_) 4 0 0 b1 u u45 u46 n46 u47 n47 ul F (by omega) (by omega) (by omega)
        refine ik_Wk 1 (pc_q := 74) (loc_q := [some (.ref 45), some (fI 1), some (fI ((ow : Nat) : Int)), some (fI ((ot : Nat) : Int)), some (fI sz), some (fI ro), some (fI j), some (fI co2_639), some (fI kk2_639)]) (st_q := [.ref 45]) (h_q := h_639) (cl_q := 0) (sl_q := 0) rfl ?_
        refine fw_gf rfl rfl g_639_45 rfl ?_
        refine ik_Wk 2 (pc_q := 80) (loc_q := [some (.ref 45), some (fI 1), some (fI ((ow : Nat) : Int)), some (fI ((ot : Nat) : Int)), some (fI sz), some (fI ro), some (fI j), some (fI co2_639), some (fI kk2_639)]) (st_q := [fI 4, fI ro, .ref 47]) (h_q := h_639) (cl_q := 0) (sl_q := 0) rfl ?_
        refine fx_mulc rfl ?_
        refine ik_Wk 1 (pc_q := 83) (loc_q := [some (.ref 45), some (fI 1), some (fI ((ow : Nat) : Int)), some (fI ((ot : Nat) : Int)), some (fI sz), some (fI ro), some (fI j), some (fI co2_639), some (fI kk2_639)]) (st_q := [fI sz, fI (4 * ro), .ref 47]) (h_q := h_639) (cl_q := 0) (sl_q := 0) rfl ?_
        refine fw_add rfl ?_
        refine fw_l2 (-1) rfl rfl (by decide +kernel) ?_
        have hl4 : (b2_639.set ((4 * ro) + sz).toNat (-1)).length = 12 := (List.length_set ..).trans m_639_47
        refine fx_las rfl g_639_47 (by omega) (by omega) (by omega) ?_
        intro h_640 e_640 f_640 l_640
        have k_640 : cL h_640 := l_640.trans k_639
        have fr_640 := hfr_wb fr_639 f_640 l_640 rfl
        clear l_640
        have g_640_45 := (f_640 45 (Nat.ne_of_beq_eq_false rfl)).trans g_639_45
        have g_640_46 := (f_640 46 (Nat.ne_of_beq_eq_false rfl)).trans g_639_46
        have g_640_47 : cE h_640 47 (.inl (.long, fL (b2_639.set ((4 * ro) + sz).toNat (-1)))) := e_640
        refine fw_inc (a := ro) (loc_q := [some (.ref 45), some (fI 1), some (fI ((ow : Nat) : Int)), some (fI ((ot : Nat) : Int)), some (fI sz), some (fI (ro + 1)), some (fI j), some (fI co2_639), some (fI kk2_639)]) rfl rfl (Nat.le_of_ble_eq_true rfl) rfl ?_
        refine fw_inc (a := j) (loc_q := [some (.ref 45), some (fI 1), some (fI ((ow : Nat) : Int)), some (fI ((ot : Nat) : Int)), some (fI sz), some (fI (ro + 1)), some (fI (j + 1)), some (fI co2_639), some (fI kk2_639)]) rfl rfl (Nat.le_of_ble_eq_true rfl) rfl ?_
        refine ik_Wk 1 (pc_q := 6) (loc_q := [some (.ref 45), some (fI 1), some (fI ((ow : Nat) : Int)), some (fI ((ot : Nat) : Int)), some (fI sz), some (fI (ro + 1)), some (fI (j + 1)), some (fI co2_639), some (fI kk2_639)]) (st_q := []) (h_q := h_640) (cl_q := 0) (sl_q := 0) rfl ?_
        exact ih  (j + 1) (ro + 1) (b2_639.set ((4 * ro) + sz).toNat (-1)) (some (fI co2_639)) (some (fI kk2_639)) h_640 g_640_45 g_640_46 m_639_46 g_640_47 hl4 k_640 fr_640 (by omega) (by omega) rfl rfl (by omega)
      · refine ik_Wk 0 (pc_q := 18) (loc_q := [some (.ref 45), some (fI 1), some (fI ((ow : Nat) : Int)), some (fI ((ot : Nat) : Int)), some (fI sz), some (fI ro), some (fI j), x7, x8]) (st_q := [fI 0]) (h_q := u) (cl_q := 0) (sl_q := 0) rfl ?_
        refine fw_if_eq rfl rfl (by decide +kernel) (by decide +kernel) (fun hc5 => ?_) (fun hc5 => absurd hc5 (by decide +kernel))
        refine fw_inc (a := j) (loc_q := [some (.ref 45), some (fI 1), some (fI ((ow : Nat) : Int)), some (fI ((ot : Nat) : Int)), some (fI sz), some (fI ro), some (fI (j + 1)), x7, x8]) rfl rfl (Nat.le_of_ble_eq_true rfl) rfl ?_
        refine ik_Wk 1 (pc_q := 6) (loc_q := [some (.ref 45), some (fI 1), some (fI ((ow : Nat) : Int)), some (fI ((ot : Nat) : Int)), some (fI sz), some (fI ro), some (fI (j + 1)), x7, x8]) (st_q := []) (h_q := u) (cl_q := 0) (sl_q := 0) rfl ?_
        exact ih  (j + 1) ro b1 x7 x8 u u45 u46 n46 u47 n47 ul F (by omega) (by omega) w7 w8 (by omega)

theorem cs_fillBoard1 {h : List ik_E} {ow : Nat} {ot : Nat} {sz : Int} {fe : List Int} {bo_ : List Int} (q0 : 1 ≤ sz ∧ sz ≤ 3) (q1 : ow < 8) (q2 : ot < 8) (q3 : ∀ i : Int, (0 : Int) ≤ i → i < (9 : Int) → 0 ≤ fe.getD i.toNat 0 ∧ fe.getD i.toNat 0 ≤ 1000) (h45 : cE h 45 (.inr (5, [.ref 46, .ref 47, .ref 48, .ref 49, .ref 50]))) (h46 : cE h 46 (.inl (.int, fA fe))) (n46 : fe.length = (9 : Nat)) (h47 : cE h 47 (.inl (.long, fL bo_))) (n47 : bo_.length = (12 : Nat)) (hl : h.length = (94 : Nat)) : ik_F 47 [.ref 45, fI 1, fI ((ow : Nat) : Int), fI ((ot : Nat) : Int), fI sz] h (fun rv h_q => ∃ (bo' : List Int), rv = [] ∧ cE h_q 47 (.inl (.long, fL bo')) ∧ bo'.length = (12 : Nat) ∧ hfr [47] h h_q) := by
  refine ik_Wk 4 (pc_q := 6) (loc_q := [some (.ref 45), some (fI 1), some (fI ((ow : Nat) : Int)), some (fI ((ot : Nat) : Int)), some (fI sz), some (fI 0), some (fI 0), none, none]) (st_q := []) (h_q := h) (cl_q := 0) (sl_q := 0) rfl ?_
  exact cs_fillBoard1L (ow := ow) (ot := ot) (sz := sz) (fe := fe) (bo_ := bo_) q0 q1 q2 q3  4 0 0 bo_ none none h h45 h46 n46 h47 n47 hl (hfr_refl [47] h) (by omega) (by omega) rfl rfl (by omega)

theorem cs_makePos0 {h : List ik_E} {sh : List Int} {wh : List Int} {wo : List Int}  (h45 : cE h 45 (.inr (5, [.ref 46, .ref 47, .ref 48, .ref 49, .ref 50]))) (h48 : cE h 48 (.inl (.long, fL sh))) (n48 : sh.length = (6 : Nat)) (h49 : cE h 49 (.inl (.long, fL wh))) (n49 : wh.length = (2 : Nat)) (h50 : cE h 50 (.inl (.long, fL wo))) (n50 : wo.length = (2 : Nat)) (hl : h.length = (94 : Nat)) : ik_F 48 [.ref 45, fI 0] h (fun rv h_q => ∃ (sh' : List Int) (wh' : List Int) (wo' : List Int) (b : Int), rv = [fI b] ∧ cE h_q 48 (.inl (.long, fL sh')) ∧ sh'.length = (6 : Nat) ∧ cE h_q 49 (.inl (.long, fL wh')) ∧ wh'.length = (2 : Nat) ∧ cE h_q 50 (.inl (.long, fL wo')) ∧ wo'.length = (2 : Nat) ∧ ((0 : Int) ≤ b ∧ b ≤ (1 : Int)) ∧ hfr [48, 49, 50] h h_q) := by
  refine ik_Wk 1 (pc_q := 1) (loc_q := [some (.ref 45), some (fI 0), none]) (st_q := [.ref 45]) (h_q := h) (cl_q := 0) (sl_q := 0) rfl ?_
  refine fw_gf rfl rfl h45 rfl ?_
  refine ik_Wk 1 (pc_q := 5) (loc_q := [some (.ref 45), some (fI 0), none]) (st_q := [fI 0, .ref 49]) (h_q := h) (cl_q := 0) (sl_q := 0) rfl ?_
  refine fx_lal rfl h49 (by omega) (by omega) (by omega) ?_
  refine fw_lc (z := 0) rfl (by decide +kernel) ?_
  refine fx_lcx rfl (fun zc1 rzc1 szc1 => ?_)
  refine fw_if_ge rfl rfl (by omega) (by omega) (fun hc2 => ?_) (fun hc2 => ?_)
  · refine ik_Wk 4 (pc_q := 75) (loc_q := [some (.ref 45), some (fI 0), some (fI 0)]) (st_q := [fI 3, fI 0]) (h_q := h) (cl_q := 0) (sl_q := 0) rfl ?_
    refine fw_ic_ge rfl rfl (by decide +kernel) (by decide +kernel) (by decide +kernel) (by decide +kernel) (fun hc3 => absurd hc3 (by decide +kernel)) (fun hc3 => ?_)
    refine ik_Wk 1 (pc_q := 79) (loc_q := [some (.ref 45), some (fI 0), some (fI 0)]) (st_q := [.ref 45]) (h_q := h) (cl_q := 0) (sl_q := 0) rfl ?_
    refine fw_gf rfl rfl h45 rfl ?_
    refine ik_Wk 2 (pc_q := 84) (loc_q := [some (.ref 45), some (fI 0), some (fI 0)]) (st_q := [fI 3, fI 0, .ref 48]) (h_q := h) (cl_q := 0) (sl_q := 0) rfl ?_
    refine fw_mul rfl ?_
    refine ik_Wk 1 (pc_q := 86) (loc_q := [some (.ref 45), some (fI 0), some (fI 0)]) (st_q := [fI 0, fI 0, .ref 48]) (h_q := h) (cl_q := 0) (sl_q := 0) rfl ?_
    refine fw_add rfl ?_
    refine fx_lal rfl h48 (by omega) (by omega) (by omega) ?_
    refine fw_lc (z := 0) rfl (by decide +kernel) ?_
    refine fx_lcx rfl (fun zc4 rzc4 szc4 => ?_)
    refine fw_if_ge rfl rfl (by omega) (by omega) (fun hc5 => ?_) (fun hc5 => ?_)
    · refine fw_inc (a := 0) (loc_q := [some (.ref 45), some (fI 0), some (fI 1)]) rfl rfl (Nat.le_of_ble_eq_true rfl) rfl ?_
      refine ik_Wk 3 (pc_q := 75) (loc_q := [some (.ref 45), some (fI 0), some (fI 1)]) (st_q := [fI 3, fI 1]) (h_q := h) (cl_q := 0) (sl_q := 0) rfl ?_
      refine fw_ic_ge rfl rfl (by decide +kernel) (by decide +kernel) (by decide +kernel) (by decide +kernel) (fun hc6 => absurd hc6 (by decide +kernel)) (fun hc6 => ?_)
      refine ik_Wk 1 (pc_q := 79) (loc_q := [some (.ref 45), some (fI 0), some (fI 1)]) (st_q := [.ref 45]) (h_q := h) (cl_q := 0) (sl_q := 0) rfl ?_
      refine fw_gf rfl rfl h45 rfl ?_
      refine ik_Wk 2 (pc_q := 84) (loc_q := [some (.ref 45), some (fI 0), some (fI 1)]) (st_q := [fI 3, fI 0, .ref 48]) (h_q := h) (cl_q := 0) (sl_q := 0) rfl ?_
      refine fw_mul rfl ?_
      refine ik_Wk 1 (pc_q := 86) (loc_q := [some (.ref 45), some (fI 0), some (fI 1)]) (st_q := [fI 1, fI 0, .ref 48]) (h_q := h) (cl_q := 0) (sl_q := 0) rfl ?_
      refine fw_add rfl ?_
      refine fx_lal rfl h48 (by omega) (by omega) (by omega) ?_
      refine fw_lc (z := 0) rfl (by decide +kernel) ?_
      refine fx_lcx rfl (fun zc7 rzc7 szc7 => ?_)
      refine fw_if_ge rfl rfl (by omega) (by omega) (fun hc8 => ?_) (fun hc8 => ?_)
      · refine fw_inc (a := 1) (loc_q := [some (.ref 45), some (fI 0), some (fI 2)]) rfl rfl (Nat.le_of_ble_eq_true rfl) rfl ?_
        refine ik_Wk 3 (pc_q := 75) (loc_q := [some (.ref 45), some (fI 0), some (fI 2)]) (st_q := [fI 3, fI 2]) (h_q := h) (cl_q := 0) (sl_q := 0) rfl ?_
        refine fw_ic_ge rfl rfl (by decide +kernel) (by decide +kernel) (by decide +kernel) (by decide +kernel) (fun hc9 => absurd hc9 (by decide +kernel)) (fun hc9 => ?_)
        refine ik_Wk 1 (pc_q := 79) (loc_q := [some (.ref 45), some (fI 0), some (fI 2)]) (st_q := [.ref 45]) (h_q := h) (cl_q := 0) (sl_q := 0) rfl ?_
        refine fw_gf rfl rfl h45 rfl ?_
        refine ik_Wk 2 (pc_q := 84) (loc_q := [some (.ref 45), some (fI 0), some (fI 2)]) (st_q := [fI 3, fI 0, .ref 48]) (h_q := h) (cl_q := 0) (sl_q := 0) rfl ?_
        refine fw_mul rfl ?_
        refine ik_Wk 1 (pc_q := 86) (loc_q := [some (.ref 45), some (fI 0), some (fI 2)]) (st_q := [fI 2, fI 0, .ref 48]) (h_q := h) (cl_q := 0) (sl_q := 0) rfl ?_
        refine fw_add rfl ?_
        refine fx_lal rfl h48 (by omega) (by omega) (by omega) ?_
        refine fw_lc (z := 0) rfl (by decide +kernel) ?_
        refine fx_lcx rfl (fun zc10 rzc10 szc10 => ?_)
        refine fw_if_ge rfl rfl (by omega) (by omega) (fun hc11 => ?_) (fun hc11 => ?_)
        · refine fw_inc (a := 2) (loc_q := [some (.ref 45), some (fI 0), some (fI 3)]) rfl rfl (Nat.le_of_ble_eq_true rfl) rfl ?_
          refine ik_Wk 3 (pc_q := 75) (loc_q := [some (.ref 45), some (fI 0), some (fI 3)]) (st_q := [fI 3, fI 3]) (h_q := h) (cl_q := 0) (sl_q := 0) rfl ?_
          refine fw_ic_ge rfl rfl (by decide +kernel) (by decide +kernel) (by decide +kernel) (by decide +kernel) (fun hc12 => ?_) (fun hc12 => absurd hc12 (by decide +kernel))
          refine ik_Wk 1 (pc_q := 102) (loc_q := [some (.ref 45), some (fI 0), some (fI 3)]) (st_q := [fI 1]) (h_q := h) (cl_q := 0) (sl_q := 0) rfl ?_
          exact ik_Wret rfl rfl ⟨_, _, rfl, rfl, rfl, rfl, ⟨sh, wh, wo, 1, rfl, h48, n48, h49, n49, h50, n50, (by omega), (hfr_refl [48, 49, 50] h)⟩⟩
        · refine ik_Wk 1 (pc_q := 94) (loc_q := [some (.ref 45), some (fI 0), some (fI 2)]) (st_q := [fI 0]) (h_q := h) (cl_q := 0) (sl_q := 0) rfl ?_
          exact ik_Wret rfl rfl ⟨_, _, rfl, rfl, rfl, rfl, ⟨sh, wh, wo, 0, rfl, h48, n48, h49, n49, h50, n50, (by omega), (hfr_refl [48, 49, 50] h)⟩⟩
      · refine ik_Wk 1 (pc_q := 94) (loc_q := [some (.ref 45), some (fI 0), some (fI 1)]) (st_q := [fI 0]) (h_q := h) (cl_q := 0) (sl_q := 0) rfl ?_
        exact ik_Wret rfl rfl ⟨_, _, rfl, rfl, rfl, rfl, ⟨sh, wh, wo, 0, rfl, h48, n48, h49, n49, h50, n50, (by omega), (hfr_refl [48, 49, 50] h)⟩⟩
    · refine ik_Wk 1 (pc_q := 94) (loc_q := [some (.ref 45), some (fI 0), some (fI 0)]) (st_q := [fI 0]) (h_q := h) (cl_q := 0) (sl_q := 0) rfl ?_
      exact ik_Wret rfl rfl ⟨_, _, rfl, rfl, rfl, rfl, ⟨sh, wh, wo, 0, rfl, h48, n48, h49, n49, h50, n50, (by omega), (hfr_refl [48, 49, 50] h)⟩⟩
  · refine ik_Wk 1 (pc_q := 12) (loc_q := [some (.ref 45), some (fI 0), none]) (st_q := [.ref 45]) (h_q := h) (cl_q := 0) (sl_q := 0) rfl ?_
    refine fw_gf rfl rfl h45 rfl ?_
    refine ik_Wk 2 (pc_q := 17) (loc_q := [some (.ref 45), some (fI 0), none]) (st_q := [.ref 45, fI 0, .ref 49]) (h_q := h) (cl_q := 0) (sl_q := 0) rfl ?_
    refine fw_gf rfl rfl h45 rfl ?_
    refine ik_Wk 1 (pc_q := 21) (loc_q := [some (.ref 45), some (fI 0), none]) (st_q := [fI 0, .ref 49, fI 0, .ref 49]) (h_q := h) (cl_q := 0) (sl_q := 0) rfl ?_
    refine fx_lal rfl h49 (by omega) (by omega) (by omega) ?_
    refine fx_lneg rfl ?_
    have hl13 : (wh.set (0 : Int).toNat (-(wh.getD (0 : Int).toNat 0))).length = 2 := (List.length_set ..).trans n49
    refine fx_las rfl h49 (by omega) (by omega) (by omega) ?_
    intro h_641 e_641 f_641 l_641
    have k_641 : cL h_641 := l_641.trans hl
    have fr_641 := hfr_wb (hfr_refl [48, 49, 50] h) f_641 l_641 rfl
    clear l_641
    have g_641_45 := (f_641 45 (Nat.ne_of_beq_eq_false rfl)).trans h45
    have g_641_48 := (f_641 48 (Nat.ne_of_beq_eq_false rfl)).trans h48
    have g_641_50 := (f_641 50 (Nat.ne_of_beq_eq_false rfl)).trans h50
    have g_641_49 : cE h_641 49 (.inl (.long, fL (wh.set (0 : Int).toNat (-(wh.getD (0 : Int).toNat 0))))) := e_641
    refine ik_Wk 1 (pc_q := 25) (loc_q := [some (.ref 45), some (fI 0), none]) (st_q := [.ref 45]) (h_q := h_641) (cl_q := 0) (sl_q := 0) rfl ?_
    refine fw_gf rfl rfl g_641_45 rfl ?_
    refine ik_Wk 2 (pc_q := 30) (loc_q := [some (.ref 45), some (fI 0), none]) (st_q := [.ref 45, fI 0, .ref 50]) (h_q := h_641) (cl_q := 0) (sl_q := 0) rfl ?_
    refine fw_gf rfl rfl g_641_45 rfl ?_
    refine ik_Wk 1 (pc_q := 34) (loc_q := [some (.ref 45), some (fI 0), none]) (st_q := [fI 0, .ref 50, fI 0, .ref 50]) (h_q := h_641) (cl_q := 0) (sl_q := 0) rfl ?_
    refine fx_lal rfl g_641_50 (by omega) (by omega) (by omega) ?_
    refine fx_lneg rfl ?_
    have hl14 : (wo.set (0 : Int).toNat (-(wo.getD (0 : Int).toNat 0))).length = 2 := (List.length_set ..).trans n50
    refine fx_las rfl g_641_50 (by omega) (by omega) (by omega) ?_
    intro h_642 e_642 f_642 l_642
    have k_642 : cL h_642 := l_642.trans k_641
    have fr_642 := hfr_wb fr_641 f_642 l_642 rfl
    clear l_642
    have g_642_45 := (f_642 45 (Nat.ne_of_beq_eq_false rfl)).trans g_641_45
    have g_642_48 := (f_642 48 (Nat.ne_of_beq_eq_false rfl)).trans g_641_48
    have g_642_49 := (f_642 49 (Nat.ne_of_beq_eq_false rfl)).trans g_641_49
    have g_642_50 : cE h_642 50 (.inl (.long, fL (wo.set (0 : Int).toNat (-(wo.getD (0 : Int).toNat 0))))) := e_642
    refine ik_Wk 4 (pc_q := 41) (loc_q := [some (.ref 45), some (fI 0), some (fI 0)]) (st_q := [fI 3, fI 0]) (h_q := h_642) (cl_q := 0) (sl_q := 0) rfl ?_
    refine fw_ic_ge rfl rfl (by decide +kernel) (by decide +kernel) (by decide +kernel) (by decide +kernel) (fun hc15 => absurd hc15 (by decide +kernel)) (fun hc15 => ?_)
    refine ik_Wk 1 (pc_q := 45) (loc_q := [some (.ref 45), some (fI 0), some (fI 0)]) (st_q := [.ref 45]) (h_q := h_642) (cl_q := 0) (sl_q := 0) rfl ?_
    refine fw_gf rfl rfl g_642_45 rfl ?_
    refine ik_Wk 2 (pc_q := 50) (loc_q := [some (.ref 45), some (fI 0), some (fI 0)]) (st_q := [fI 3, fI 0, .ref 48]) (h_q := h_642) (cl_q := 0) (sl_q := 0) rfl ?_
    refine fw_mul rfl ?_
    refine ik_Wk 1 (pc_q := 52) (loc_q := [some (.ref 45), some (fI 0), some (fI 0)]) (st_q := [fI 0, fI 0, .ref 48]) (h_q := h_642) (cl_q := 0) (sl_q := 0) rfl ?_
    refine fw_add rfl ?_
    refine ik_Wk 1 (pc_q := 54) (loc_q := [some (.ref 45), some (fI 0), some (fI 0)]) (st_q := [.ref 45, fI 0, .ref 48]) (h_q := h_642) (cl_q := 0) (sl_q := 0) rfl ?_
    refine fw_gf rfl rfl g_642_45 rfl ?_
    refine ik_Wk 2 (pc_q := 59) (loc_q := [some (.ref 45), some (fI 0), some (fI 0)]) (st_q := [fI 3, fI 0, .ref 48, fI 0, .ref 48]) (h_q := h_642) (cl_q := 0) (sl_q := 0) rfl ?_
    refine fw_mul rfl ?_
    refine ik_Wk 1 (pc_q := 61) (loc_q := [some (.ref 45), some (fI 0), some (fI 0)]) (st_q := [fI 0, fI 0, .ref 48, fI 0, .ref 48]) (h_q := h_642) (cl_q := 0) (sl_q := 0) rfl ?_
    refine fw_add rfl ?_
    refine fx_lal rfl g_642_48 (by omega) (by omega) (by omega) ?_
    refine fx_lneg rfl ?_
    have hl16 : (sh.set (0 : Int).toNat (-(sh.getD (0 : Int).toNat 0))).length = 6 := (List.length_set ..).trans n48
    refine fx_las rfl g_642_48 (by omega) (by omega) (by omega) ?_
    intro h_643 e_643 f_643 l_643
    have k_643 : cL h_643 := l_643.trans k_642
    have fr_643 := hfr_wb fr_642 f_643 l_643 rfl
    clear l_643
    have g_643_45 := (f_643 45 (Nat.ne_of_beq_eq_false rfl)).trans g_642_45
    have g_643_49 := (f_643 49 (Nat.ne_of_beq_eq_false rfl)).trans g_642_49
    have g_643_50 := (f_643 50 (Nat.ne_of_beq_eq_false rfl)).trans g_642_50
    have g_643_48 : cE h_643 48 (.inl (.long, fL (sh.set (0 : Int).toNat (-(sh.getD (0 : Int).toNat 0))))) := e_643
    refine fw_inc (a := 0) (loc_q := [some (.ref 45), some (fI 0), some (fI 1)]) rfl rfl (Nat.le_of_ble_eq_true rfl) rfl ?_
    refine ik_Wk 3 (pc_q := 41) (loc_q := [some (.ref 45), some (fI 0), some (fI 1)]) (st_q := [fI 3, fI 1]) (h_q := h_643) (cl_q := 0) (sl_q := 0) rfl ?_
    refine fw_ic_ge rfl rfl (by decide +kernel) (by decide +kernel) (by decide +kernel) (by decide +kernel) (fun hc17 => absurd hc17 (by decide +kernel)) (fun hc17 => ?_)
    refine ik_Wk 1 (pc_q := 45) (loc_q := [some (.ref 45), some (fI 0), some (fI 1)]) (st_q := [.ref 45]) (h_q := h_643) (cl_q := 0) (sl_q := 0) rfl ?_
    refine fw_gf rfl rfl g_643_45 rfl ?_
    refine ik_Wk 2 (pc_q := 50) (loc_q := [some (.ref 45), some (fI 0), some (fI 1)]) (st_q := [fI 3, fI 0, .ref 48]) (h_q := h_643) (cl_q := 0) (sl_q := 0) rfl ?_
    refine fw_mul rfl ?_
    refine ik_Wk 1 (pc_q := 52) (loc_q := [some (.ref 45), some (fI 0), some (fI 1)]) (st_q := [fI 1, fI 0, .ref 48]) (h_q := h_643) (cl_q := 0) (sl_q := 0) rfl ?_
    refine fw_add rfl ?_
    refine ik_Wk 1 (pc_q := 54) (loc_q := [some (.ref 45), some (fI 0), some (fI 1)]) (st_q := [.ref 45, fI 1, .ref 48]) (h_q := h_643) (cl_q := 0) (sl_q := 0) rfl ?_
    refine fw_gf rfl rfl g_643_45 rfl ?_
    refine ik_Wk 2 (pc_q := 59) (loc_q := [some (.ref 45), some (fI 0), some (fI 1)]) (st_q := [fI 3, fI 0, .ref 48, fI 1, .ref 48]) (h_q := h_643) (cl_q := 0) (sl_q := 0) rfl ?_
    refine fw_mul rfl ?_
    refine ik_Wk 1 (pc_q := 61) (loc_q := [some (.ref 45), some (fI 0), some (fI 1)]) (st_q := [fI 1, fI 0, .ref 48, fI 1, .ref 48]) (h_q := h_643) (cl_q := 0) (sl_q := 0) rfl ?_
    refine fw_add rfl ?_
    refine fx_lal rfl g_643_48 (by omega) (by omega) (by omega) ?_
    refine fx_lneg rfl ?_
    have hl18 : ((sh.set (0 : Int).toNat (-(sh.getD (0 : Int).toNat 0))).set (1 : Int).toNat (-((sh.set (0 : Int).toNat (-(sh.getD (0 : Int).toNat 0))).getD (1 : Int).toNat 0))).length = 6 := (List.length_set ..).trans hl16
    refine fx_las rfl g_643_48 (by omega) (by omega) (by omega) ?_
    intro h_644 e_644 f_644 l_644
    have k_644 : cL h_644 := l_644.trans k_643
    have fr_644 := hfr_wb fr_643 f_644 l_644 rfl
    clear l_644
    have g_644_45 := (f_644 45 (Nat.ne_of_beq_eq_false rfl)).trans g_643_45
    have g_644_49 := (f_644 49 (Nat.ne_of_beq_eq_false rfl)).trans g_643_49
    have g_644_50 := (f_644 50 (Nat.ne_of_beq_eq_false rfl)).trans g_643_50
    have g_644_48 : cE h_644 48 (.inl (.long, fL ((sh.set (0 : Int).toNat (-(sh.getD (0 : Int).toNat 0))).set (1 : Int).toNat (-((sh.set (0 : Int).toNat (-(sh.getD (0 : Int).toNat 0))).getD (1 : Int).toNat 0))))) := e_644
    refine fw_inc (a := 1) (loc_q := [some (.ref 45), some (fI 0), some (fI 2)]) rfl rfl (Nat.le_of_ble_eq_true rfl) rfl ?_
    refine ik_Wk 3 (pc_q := 41) (loc_q := [some (.ref 45), some (fI 0), some (fI 2)]) (st_q := [fI 3, fI 2]) (h_q := h_644) (cl_q := 0) (sl_q := 0) rfl ?_
    refine fw_ic_ge rfl rfl (by decide +kernel) (by decide +kernel) (by decide +kernel) (by decide +kernel) (fun hc19 => absurd hc19 (by decide +kernel)) (fun hc19 => ?_)
    refine ik_Wk 1 (pc_q := 45) (loc_q := [some (.ref 45), some (fI 0), some (fI 2)]) (st_q := [.ref 45]) (h_q := h_644) (cl_q := 0) (sl_q := 0) rfl ?_
    refine fw_gf rfl rfl g_644_45 rfl ?_
    refine ik_Wk 2 (pc_q := 50) (loc_q := [some (.ref 45), some (fI 0), some (fI 2)]) (st_q := [fI 3, fI 0, .ref 48]) (h_q := h_644) (cl_q := 0) (sl_q := 0) rfl ?_
    refine fw_mul rfl ?_
    refine ik_Wk 1 (pc_q := 52) (loc_q := [some (.ref 45), some (fI 0), some (fI 2)]) (st_q := [fI 2, fI 0, .ref 48]) (h_q := h_644) (cl_q := 0) (sl_q := 0) rfl ?_
    refine fw_add rfl ?_
    refine ik_Wk 1 (pc_q := 54) (loc_q := [some (.ref 45), some (fI 0), some (fI 2)]) (st_q := [.ref 45, fI 2, .ref 48]) (h_q := h_644) (cl_q := 0) (sl_q := 0) rfl ?_
    refine fw_gf rfl rfl g_644_45 rfl ?_
    refine ik_Wk 2 (pc_q := 59) (loc_q := [some (.ref 45), some (fI 0), some (fI 2)]) (st_q := [fI 3, fI 0, .ref 48, fI 2, .ref 48]) (h_q := h_644) (cl_q := 0) (sl_q := 0) rfl ?_
    refine fw_mul rfl ?_
    refine ik_Wk 1 (pc_q := 61) (loc_q := [some (.ref 45), some (fI 0), some (fI 2)]) (st_q := [fI 2, fI 0, .ref 48, fI 2, .ref 48]) (h_q := h_644) (cl_q := 0) (sl_q := 0) rfl ?_
    refine fw_add rfl ?_
    refine fx_lal rfl g_644_48 (by omega) (by omega) (by omega) ?_
    refine fx_lneg rfl ?_
    have hl20 : (((sh.set (0 : Int).toNat (-(sh.getD (0 : Int).toNat 0))).set (1 : Int).toNat (-((sh.set (0 : Int).toNat (-(sh.getD (0 : Int).toNat 0))).getD (1 : Int).toNat 0))).set (2 : Int).toNat (-(((sh.set (0 : Int).toNat (-(sh.getD (0 : Int).toNat 0))).set (1 : Int).toNat (-((sh.set (0 : Int).toNat (-(sh.getD (0 : Int).toNat 0))).getD (1 : Int).toNat 0))).getD (2 : Int).toNat 0))).length = 6 := (List.length_set ..).trans hl18
    refine fx_las rfl g_644_48 (by omega) (by omega) (by omega) ?_
    intro h_645 e_645 f_645 l_645
    have k_645 : cL h_645 := l_645.trans k_644
    have fr_645 := hfr_wb fr_644 f_645 l_645 rfl
    clear l_645
    have g_645_45 := (f_645 45 (Nat.ne_of_beq_eq_false rfl)).trans g_644_45
    have g_645_49 := (f_645 49 (Nat.ne_of_beq_eq_false rfl)).trans g_644_49
    have g_645_50 := (f_645 50 (Nat.ne_of_beq_eq_false rfl)).trans g_644_50
    have g_645_48 : cE h_645 48 (.inl (.long, fL (((sh.set (0 : Int).toNat (-(sh.getD (0 : Int).toNat 0))).set (1 : Int).toNat (-((sh.set (0 : Int).toNat (-(sh.getD (0 : Int).toNat 0))).getD (1 : Int).toNat 0))).set (2 : Int).toNat (-(((sh.set (0 : Int).toNat (-(sh.getD (0 : Int).toNat 0))).set (1 : Int).toNat (-((sh.set (0 : Int).toNat (-(sh.getD (0 : Int).toNat 0))).getD (1 : Int).toNat 0))).getD (2 : Int).toNat 0))))) := e_645
    refine fw_inc (a := 2) (loc_q := [some (.ref 45), some (fI 0), some (fI 3)]) rfl rfl (Nat.le_of_ble_eq_true rfl) rfl ?_
    refine ik_Wk 3 (pc_q := 41) (loc_q := [some (.ref 45), some (fI 0), some (fI 3)]) (st_q := [fI 3, fI 3]) (h_q := h_645) (cl_q := 0) (sl_q := 0) rfl ?_
    refine fw_ic_ge rfl rfl (by decide +kernel) (by decide +kernel) (by decide +kernel) (by decide +kernel) (fun hc21 => ?_) (fun hc21 => absurd hc21 (by decide +kernel))
    refine ik_Wk 4 (pc_q := 75) (loc_q := [some (.ref 45), some (fI 0), some (fI 0)]) (st_q := [fI 3, fI 0]) (h_q := h_645) (cl_q := 0) (sl_q := 0) rfl ?_
    refine fw_ic_ge rfl rfl (by decide +kernel) (by decide +kernel) (by decide +kernel) (by decide +kernel) (fun hc22 => absurd hc22 (by decide +kernel)) (fun hc22 => ?_)
    refine ik_Wk 1 (pc_q := 79) (loc_q := [some (.ref 45), some (fI 0), some (fI 0)]) (st_q := [.ref 45]) (h_q := h_645) (cl_q := 0) (sl_q := 0) rfl ?_
    refine fw_gf rfl rfl g_645_45 rfl ?_
    refine ik_Wk 2 (pc_q := 84) (loc_q := [some (.ref 45), some (fI 0), some (fI 0)]) (st_q := [fI 3, fI 0, .ref 48]) (h_q := h_645) (cl_q := 0) (sl_q := 0) rfl ?_
    refine fw_mul rfl ?_
    refine ik_Wk 1 (pc_q := 86) (loc_q := [some (.ref 45), some (fI 0), some (fI 0)]) (st_q := [fI 0, fI 0, .ref 48]) (h_q := h_645) (cl_q := 0) (sl_q := 0) rfl ?_
    refine fw_add rfl ?_
    refine fx_lal rfl g_645_48 (by omega) (by omega) (by omega) ?_
    refine fw_lc (z := 0) rfl (by decide +kernel) ?_
    refine fx_lcx rfl (fun zc23 rzc23 szc23 => ?_)
    refine fw_if_ge rfl rfl (by omega) (by omega) (fun hc24 => ?_) (fun hc24 => ?_)
    · refine fw_inc (a := 0) (loc_q := [some (.ref 45), some (fI 0), some (fI 1)]) rfl rfl (Nat.le_of_ble_eq_true rfl) rfl ?_
      refine ik_Wk 3 (pc_q := 75) (loc_q := [some (.ref 45), some (fI 0), some (fI 1)]) (st_q := [fI 3, fI 1]) (h_q := h_645) (cl_q := 0) (sl_q := 0) rfl ?_
      refine fw_ic_ge rfl rfl (by decide +kernel) (by decide +kernel) (by decide +kernel) (by decide +kernel) (fun hc25 => absurd hc25 (by decide +kernel)) (fun hc25 => ?_)
      refine ik_Wk 1 (pc_q := 79) (loc_q := [some (.ref 45), some (fI 0), some (fI 1)]) (st_q := [.ref 45]) (h_q := h_645) (cl_q := 0) (sl_q := 0) rfl ?_
      refine fw_gf rfl rfl g_645_45 rfl ?_
      refine ik_Wk 2 (pc_q := 84) (loc_q := [some (.ref 45), some (fI 0), some (fI 1)]) (st_q := [fI 3, fI 0, .ref 48]) (h_q := h_645) (cl_q := 0) (sl_q := 0) rfl ?_
      refine fw_mul rfl ?_
      refine ik_Wk 1 (pc_q := 86) (loc_q := [some (.ref 45), some (fI 0), some (fI 1)]) (st_q := [fI 1, fI 0, .ref 48]) (h_q := h_645) (cl_q := 0) (sl_q := 0) rfl ?_
      refine fw_add rfl ?_
      refine fx_lal rfl g_645_48 (by omega) (by omega) (by omega) ?_
      refine fw_lc (z := 0) rfl (by decide +kernel) ?_
      refine fx_lcx rfl (fun zc26 rzc26 szc26 => ?_)
      refine fw_if_ge rfl rfl (by omega) (by omega) (fun hc27 => ?_) (fun hc27 => ?_)
      · refine fw_inc (a := 1) (loc_q := [some (.ref 45), some (fI 0), some (fI 2)]) rfl rfl (Nat.le_of_ble_eq_true rfl) rfl ?_
        refine ik_Wk 3 (pc_q := 75) (loc_q := [some (.ref 45), some (fI 0), some (fI 2)]) (st_q := [fI 3, fI 2]) (h_q := h_645) (cl_q := 0) (sl_q := 0) rfl ?_
        refine fw_ic_ge rfl rfl (by decide +kernel) (by decide +kernel) (by decide +kernel) (by decide +kernel) (fun hc28 => absurd hc28 (by decide +kernel)) (fun hc28 => ?_)
        refine ik_Wk 1 (pc_q := 79) (loc_q := [some (.ref 45), some (fI 0), some (fI 2)]) (st_q := [.ref 45]) (h_q := h_645) (cl_q := 0) (sl_q := 0) rfl ?_
        refine fw_gf rfl rfl g_645_45 rfl ?_
        refine ik_Wk 2 (pc_q := 84) (loc_q := [some (.ref 45), some (fI 0), some (fI 2)]) (st_q := [fI 3, fI 0, .ref 48]) (h_q := h_645) (cl_q := 0) (sl_q := 0) rfl ?_
        refine fw_mul rfl ?_
        refine ik_Wk 1 (pc_q := 86) (loc_q := [some (.ref 45), some (fI 0), some (fI 2)]) (st_q := [fI 2, fI 0, .ref 48]) (h_q := h_645) (cl_q := 0) (sl_q := 0) rfl ?_
        refine fw_add rfl ?_
        refine fx_lal rfl g_645_48 (by omega) (by omega) (by omega) ?_
        refine fw_lc (z := 0) rfl (by decide +kernel) ?_
        refine fx_lcx rfl (fun zc29 rzc29 szc29 => ?_)
        refine fw_if_ge rfl rfl (by omega) (by omega) (fun hc30 => ?_) (fun hc30 => ?_)
        · refine fw_inc (a := 2) (loc_q := [some (.ref 45), some (fI 0), some (fI 3)]) rfl rfl (Nat.le_of_ble_eq_true rfl) rfl ?_
          refine ik_Wk 3 (pc_q := 75) (loc_q := [some (.ref 45), some (fI 0), some (fI 3)]) (st_q := [fI 3, fI 3]) (h_q := h_645) (cl_q := 0) (sl_q := 0) rfl ?_
          refine fw_ic_ge rfl rfl (by decide +kernel) (by decide +kernel) (by decide +kernel) (by decide +kernel) (fun hc31 => ?_) (fun hc31 => absurd hc31 (by decide +kernel))
          refine ik_Wk 1 (pc_q := 102) (loc_q := [some (.ref 45), some (fI 0), some (fI 3)]) (st_q := [fI 1]) (h_q := h_645) (cl_q := 0) (sl_q := 0) rfl ?_
          exact ik_Wret rfl rfl ⟨_, _, rfl, rfl, rfl, rfl, ⟨(((sh.set (0 : Int).toNat (-(sh.getD (0 : Int).toNat 0))).set (1 : Int).toNat (-((sh.set (0 : Int).toNat (-(sh.getD (0 : Int).toNat 0))).getD (1 : Int).toNat 0))).set (2 : Int).toNat (-(((sh.set (0 : Int).toNat (-(sh.getD (0 : Int).toNat 0))).set (1 : Int).toNat (-((sh.set (0 : Int).toNat (-(sh.getD (0 : Int).toNat 0))).getD (1 : Int).toNat 0))).getD (2 : Int).toNat 0))), (wh.set (0 : Int).toNat (-(wh.getD (0 : Int).toNat 0))), (wo.set (0 : Int).toNat (-(wo.getD (0 : Int).toNat 0))), 1, rfl, g_645_48, hl20, g_645_49, hl13, g_645_50, hl14, (by omega), fr_645⟩⟩
        · refine ik_Wk 1 (pc_q := 94) (loc_q := [some (.ref 45), some (fI 0), some (fI 2)]) (st_q := [fI 0]) (h_q := h_645) (cl_q := 0) (sl_q := 0) rfl ?_
          exact ik_Wret rfl rfl ⟨_, _, rfl, rfl, rfl, rfl, ⟨(((sh.set (0 : Int).toNat (-(sh.getD (0 : Int).toNat 0))).set (1 : Int).toNat (-((sh.set (0 : Int).toNat (-(sh.getD (0 : Int).toNat 0))).getD (1 : Int).toNat 0))).set (2 : Int).toNat (-(((sh.set (0 : Int).toNat (-(sh.getD (0 : Int).toNat 0))).set (1 : Int).toNat (-((sh.set (0 : Int).toNat (-(sh.getD (0 : Int).toNat 0))).getD (1 : Int).toNat 0))).getD (2 : Int).toNat 0))), (wh.set (0 : Int).toNat (-(wh.getD (0 : Int).toNat 0))), (wo.set (0 : Int).toNat (-(wo.getD (0 : Int).toNat 0))), 0, rfl, g_645_48, hl20, g_645_49, hl13, g_645_50, hl14, (by omega), fr_645⟩⟩
      · refine ik_Wk 1 (pc_q := 94) (loc_q := [some (.ref 45), some (fI 0), some (fI 1)]) (st_q := [fI 0]) (h_q := h_645) (cl_q := 0) (sl_q := 0) rfl ?_
        exact ik_Wret rfl rfl ⟨_, _, rfl, rfl, rfl, rfl, ⟨(((sh.set (0 : Int).toNat (-(sh.getD (0 : Int).toNat 0))).set (1 : Int).toNat (-((sh.set (0 : Int).toNat (-(sh.getD (0 : Int).toNat 0))).getD (1 : Int).toNat 0))).set (2 : Int).toNat (-(((sh.set (0 : Int).toNat (-(sh.getD (0 : Int).toNat 0))).set (1 : Int).toNat (-((sh.set (0 : Int).toNat (-(sh.getD (0 : Int).toNat 0))).getD (1 : Int).toNat 0))).getD (2 : Int).toNat 0))), (wh.set (0 : Int).toNat (-(wh.getD (0 : Int).toNat 0))), (wo.set (0 : Int).toNat (-(wo.getD (0 : Int).toNat 0))), 0, rfl, g_645_48, hl20, g_645_49, hl13, g_645_50, hl14, (by omega), fr_645⟩⟩
    · refine ik_Wk 1 (pc_q := 94) (loc_q := [some (.ref 45), some (fI 0), some (fI 0)]) (st_q := [fI 0]) (h_q := h_645) (cl_q := 0) (sl_q := 0) rfl ?_
      exact ik_Wret rfl rfl ⟨_, _, rfl, rfl, rfl, rfl, ⟨(((sh.set (0 : Int).toNat (-(sh.getD (0 : Int).toNat 0))).set (1 : Int).toNat (-((sh.set (0 : Int).toNat (-(sh.getD (0 : Int).toNat 0))).getD (1 : Int).toNat 0))).set (2 : Int).toNat (-(((sh.set (0 : Int).toNat (-(sh.getD (0 : Int).toNat 0))).set (1 : Int).toNat (-((sh.set (0 : Int).toNat (-(sh.getD (0 : Int).toNat 0))).getD (1 : Int).toNat 0))).getD (2 : Int).toNat 0))), (wh.set (0 : Int).toNat (-(wh.getD (0 : Int).toNat 0))), (wo.set (0 : Int).toNat (-(wo.getD (0 : Int).toNat 0))), 0, rfl, g_645_48, hl20, g_645_49, hl13, g_645_50, hl14, (by omega), fr_645⟩⟩

theorem cs_makePos1 {h : List ik_E} {sh : List Int} {wh : List Int} {wo : List Int}  (h45 : cE h 45 (.inr (5, [.ref 46, .ref 47, .ref 48, .ref 49, .ref 50]))) (h48 : cE h 48 (.inl (.long, fL sh))) (n48 : sh.length = (6 : Nat)) (h49 : cE h 49 (.inl (.long, fL wh))) (n49 : wh.length = (2 : Nat)) (h50 : cE h 50 (.inl (.long, fL wo))) (n50 : wo.length = (2 : Nat)) (hl : h.length = (94 : Nat)) : ik_F 48 [.ref 45, fI 1] h (fun rv h_q => ∃ (sh' : List Int) (wh' : List Int) (wo' : List Int) (b : Int), rv = [fI b] ∧ cE h_q 48 (.inl (.long, fL sh')) ∧ sh'.length = (6 : Nat) ∧ cE h_q 49 (.inl (.long, fL wh')) ∧ wh'.length = (2 : Nat) ∧ cE h_q 50 (.inl (.long, fL wo')) ∧ wo'.length = (2 : Nat) ∧ ((0 : Int) ≤ b ∧ b ≤ (1 : Int)) ∧ hfr [48, 49, 50] h h_q) := by
  refine ik_Wk 1 (pc_q := 1) (loc_q := [some (.ref 45), some (fI 1), none]) (st_q := [.ref 45]) (h_q := h) (cl_q := 0) (sl_q := 0) rfl ?_
  refine fw_gf rfl rfl h45 rfl ?_
  refine ik_Wk 1 (pc_q := 5) (loc_q := [some (.ref 45), some (fI 1), none]) (st_q := [fI 1, .ref 49]) (h_q := h) (cl_q := 0) (sl_q := 0) rfl ?_
  refine fx_lal rfl h49 (by omega) (by omega) (by omega) ?_
  refine fw_lc (z := 0) rfl (by decide +kernel) ?_
  refine fx_lcx rfl (fun zc1 rzc1 szc1 => ?_)
  refine fw_if_ge rfl rfl (by omega) (by omega) (fun hc2 => ?_) (fun hc2 => ?_)
  · refine ik_Wk 4 (pc_q := 75) (loc_q := [some (.ref 45), some (fI 1), some (fI 0)]) (st_q := [fI 3, fI 0]) (h_q := h) (cl_q := 0) (sl_q := 0) rfl ?_
    refine fw_ic_ge rfl rfl (by decide +kernel) (by decide +kernel) (by decide +kernel) (by decide +kernel) (fun hc3 => absurd hc3 (by decide +kernel)) (fun hc3 => ?_)
    refine ik_Wk 1 (pc_q := 79) (loc_q := [some (.ref 45), some (fI 1), some (fI 0)]) (st_q := [.ref 45]) (h_q := h) (cl_q := 0) (sl_q := 0) rfl ?_
    refine fw_gf rfl rfl h45 rfl ?_
    refine ik_Wk 2 (pc_q := 84) (loc_q := [some (.ref 45), some (fI 1), some (fI 0)]) (st_q := [fI 3, fI 1, .ref 48]) (h_q := h) (cl_q := 0) (sl_q := 0) rfl ?_
    refine fw_mul rfl ?_
    refine ik_Wk 1 (pc_q := 86) (loc_q := [some (.ref 45), some (fI 1), some (fI 0)]) (st_q := [fI 0, fI 3, .ref 48]) (h_q := h) (cl_q := 0) (sl_q := 0) rfl ?_
    refine fw_add rfl ?_
    refine fx_lal rfl h48 (by omega) (by omega) (by omega) ?_
    refine fw_lc (z := 0) rfl (by decide +kernel) ?_
    refine fx_lcx rfl (fun zc4 rzc4 szc4 => ?_)
    refine fw_if_ge rfl rfl (by omega) (by omega) (fun hc5 => ?_) (fun hc5 => ?_)
    · refine fw_inc (a := 0) (loc_q := [some (.ref 45), some (fI 1), some (fI 1)]) rfl rfl (Nat.le_of_ble_eq_true rfl) rfl ?_
      refine ik_Wk 3 (pc_q := 75) (loc_q := [some (.ref 45), some (fI 1), some (fI 1)]) (st_q := [fI 3, fI 1]) (h_q := h) (cl_q := 0) (sl_q := 0) rfl ?_
      refine fw_ic_ge rfl rfl (by decide +kernel) (by decide +kernel) (by decide +kernel) (by decide +kernel) (fun hc6 => absurd hc6 (by decide +kernel)) (fun hc6 => ?_)
      refine ik_Wk 1 (pc_q := 79) (loc_q := [some (.ref 45), some (fI 1), some (fI 1)]) (st_q := [.ref 45]) (h_q := h) (cl_q := 0) (sl_q := 0) rfl ?_
      refine fw_gf rfl rfl h45 rfl ?_
      refine ik_Wk 2 (pc_q := 84) (loc_q := [some (.ref 45), some (fI 1), some (fI 1)]) (st_q := [fI 3, fI 1, .ref 48]) (h_q := h) (cl_q := 0) (sl_q := 0) rfl ?_
      refine fw_mul rfl ?_
      refine ik_Wk 1 (pc_q := 86) (loc_q := [some (.ref 45), some (fI 1), some (fI 1)]) (st_q := [fI 1, fI 3, .ref 48]) (h_q := h) (cl_q := 0) (sl_q := 0) rfl ?_
      refine fw_add rfl ?_
      refine fx_lal rfl h48 (by omega) (by omega) (by omega) ?_
      refine fw_lc (z := 0) rfl (by decide +kernel) ?_
      refine fx_lcx rfl (fun zc7 rzc7 szc7 => ?_)
      refine fw_if_ge rfl rfl (by omega) (by omega) (fun hc8 => ?_) (fun hc8 => ?_)
      · refine fw_inc (a := 1) (loc_q := [some (.ref 45), some (fI 1), some (fI 2)]) rfl rfl (Nat.le_of_ble_eq_true rfl) rfl ?_
        refine ik_Wk 3 (pc_q := 75) (loc_q := [some (.ref 45), some (fI 1), some (fI 2)]) (st_q := [fI 3, fI 2]) (h_q := h) (cl_q := 0) (sl_q := 0) rfl ?_
        refine fw_ic_ge rfl rfl (by decide +kernel) (by decide +kernel) (by decide +kernel) (by decide +kernel) (fun hc9 => absurd hc9 (by decide +kernel)) (fun hc9 => ?_)
        refine ik_Wk 1 (pc_q := 79) (loc_q := [some (.ref 45), some (fI 1), some (fI 2)]) (st_q := [.ref 45]) (h_q := h) (cl_q := 0) (sl_q := 0) rfl ?_
        refine fw_gf rfl rfl h45 rfl ?_
        refine ik_Wk 2 (pc_q := 84) (loc_q := [some (.ref 45), some (fI 1), some (fI 2)]) (st_q := [fI 3, fI 1, .ref 48]) (h_q := h) (cl_q := 0) (sl_q := 0) rfl ?_
        refine fw_mul rfl ?_
        refine ik_Wk 1 (pc_q := 86) (loc_q := [some (.ref 45), some (fI 1), some (fI 2)]) (st_q := [fI 2, fI 3, .ref 48]) (h_q := h) (cl_q := 0) (sl_q := 0) rfl ?_
        refine fw_add rfl ?_
        refine fx_lal rfl h48 (by omega) (by omega) (by omega) ?_
        refine fw_lc (z := 0) rfl (by decide +kernel) ?_
        refine fx_lcx rfl (fun zc10 rzc10 szc10 => ?_)
        refine fw_if_ge rfl rfl (by omega) (by omega) (fun hc11 => ?_) (fun hc11 => ?_)
        · refine fw_inc (a := 2) (loc_q := [some (.ref 45), some (fI 1), some (fI 3)]) rfl rfl (Nat.le_of_ble_eq_true rfl) rfl ?_
          refine ik_Wk 3 (pc_q := 75) (loc_q := [some (.ref 45), some (fI 1), some (fI 3)]) (st_q := [fI 3, fI 3]) (h_q := h) (cl_q := 0) (sl_q := 0) rfl ?_
          refine fw_ic_ge rfl rfl (by decide +kernel) (by decide +kernel) (by decide +kernel) (by decide +kernel) (fun hc12 => ?_) (fun hc12 => absurd hc12 (by decide +kernel))
          refine ik_Wk 1 (pc_q := 102) (loc_q := [some (.ref 45), some (fI 1), some (fI 3)]) (st_q := [fI 1]) (h_q := h) (cl_q := 0) (sl_q := 0) rfl ?_
          exact ik_Wret rfl rfl ⟨_, _, rfl, rfl, rfl, rfl, ⟨sh, wh, wo, 1, rfl, h48, n48, h49, n49, h50, n50, (by omega), (hfr_refl [48, 49, 50] h)⟩⟩
        · refine ik_Wk 1 (pc_q := 94) (loc_q := [some (.ref 45), some (fI 1), some (fI 2)]) (st_q := [fI 0]) (h_q := h) (cl_q := 0) (sl_q := 0) rfl ?_
          exact ik_Wret rfl rfl ⟨_, _, rfl, rfl, rfl, rfl, ⟨sh, wh, wo, 0, rfl, h48, n48, h49, n49, h50, n50, (by omega), (hfr_refl [48, 49, 50] h)⟩⟩
      · refine ik_Wk 1 (pc_q := 94) (loc_q := [some (.ref 45), some (fI 1), some (fI 1)]) (st_q := [fI 0]) (h_q := h) (cl_q := 0) (sl_q := 0) rfl ?_
        exact ik_Wret rfl rfl ⟨_, _, rfl, rfl, rfl, rfl, ⟨sh, wh, wo, 0, rfl, h48, n48, h49, n49, h50, n50, (by omega), (hfr_refl [48, 49, 50] h)⟩⟩
    · refine ik_Wk 1 (pc_q := 94) (loc_q := [some (.ref 45), some (fI 1), some (fI 0)]) (st_q := [fI 0]) (h_q := h) (cl_q := 0) (sl_q := 0) rfl ?_
      exact ik_Wret rfl rfl ⟨_, _, rfl, rfl, rfl, rfl, ⟨sh, wh, wo, 0, rfl, h48, n48, h49, n49, h50, n50, (by omega), (hfr_refl [48, 49, 50] h)⟩⟩
  · refine ik_Wk 1 (pc_q := 12) (loc_q := [some (.ref 45), some (fI 1), none]) (st_q := [.ref 45]) (h_q := h) (cl_q := 0) (sl_q := 0) rfl ?_
    refine fw_gf rfl rfl h45 rfl ?_
    refine ik_Wk 2 (pc_q := 17) (loc_q := [some (.ref 45), some (fI 1), none]) (st_q := [.ref 45, fI 1, .ref 49]) (h_q := h) (cl_q := 0) (sl_q := 0) rfl ?_
    refine fw_gf rfl rfl h45 rfl ?_
    refine ik_Wk 1 (pc_q := 21) (loc_q := [some (.ref 45), some (fI 1), none]) (st_q := [fI 1, .ref 49, fI 1, .ref 49]) (h_q := h) (cl_q := 0) (sl_q := 0) rfl ?_
    refine fx_lal rfl h49 (by omega) (by omega) (by omega) ?_
    refine fx_lneg rfl ?_
    have hl13 : (wh.set (1 : Int).toNat (-(wh.getD (1 : Int).toNat 0))).length = 2 := (List.length_set ..).trans n49
    refine fx_las rfl h49 (by omega) (by omega) (by omega) ?_
    intro h_646 e_646 f_646 l_646
    have k_646 : cL h_646 := l_646.trans hl
    have fr_646 := hfr_wb (hfr_refl [48, 49, 50] h) f_646 l_646 rfl
    clear l_646
    have g_646_45 := (f_646 45 (Nat.ne_of_beq_eq_false rfl)).trans h45
    have g_646_48 := (f_646 48 (Nat.ne_of_beq_eq_false rfl)).trans h48
    have g_646_50 := (f_646 50 (Nat.ne_of_beq_eq_false rfl)).trans h50
    have g_646_49 : cE h_646 49 (.inl (.long, fL (wh.set (1 : Int).toNat (-(wh.getD (1 : Int).toNat 0))))) := e_646
    refine ik_Wk 1 (pc_q := 25) (loc_q := [some (.ref 45), some (fI 1), none]) (st_q := [.ref 45]) (h_q := h_646) (cl_q := 0) (sl_q := 0) rfl ?_
    refine fw_gf rfl rfl g_646_45 rfl ?_
    refine ik_Wk 2 (pc_q := 30) (loc_q := [some (.ref 45), some (fI 1), none]) (st_q := [.ref 45, fI 1, .ref 50]) (h_q := h_646) (cl_q := 0) (sl_q := 0) rfl ?_
    refine fw_gf rfl rfl g_646_45 rfl ?_
    refine ik_Wk 1 (pc_q := 34) (loc_q := [some (.ref 45), some (fI 1), none]) (st_q := [fI 1, .ref 50, fI 1, .ref 50]) (h_q := h_646) (cl_q := 0) (sl_q := 0) rfl ?_
    refine fx_lal rfl g_646_50 (by omega) (by omega) (by omega) ?_
    refine fx_lneg rfl ?_
    have hl14 : (wo.set (1 : Int).toNat (-(wo.getD (1 : Int).toNat 0))).length = 2 := (List.length_set ..).trans n50
    refine fx_las rfl g_646_50 (by omega) (by omega) (by omega) ?_
    intro h_647 e_647 f_647 l_647
    have k_647 : cL h_647 := l_647.trans k_646
    have fr_647 := hfr_wb fr_646 f_647 l_647 rfl
    clear l_647
    have g_647_45 := (f_647 45 (Nat.ne_of_beq_eq_false rfl)).trans g_646_45
    have g_647_48 := (f_647 48 (Nat.ne_of_beq_eq_false rfl)).trans g_646_48
    have g_647_49 := (f_647 49 (Nat.ne_of_beq_eq_false rfl)).trans g_646_49
    have g_647_50 : cE h_647 50 (.inl (.long, fL (wo.set (1 : Int).toNat (-(wo.getD (1 : Int).toNat 0))))) := e_647
    refine ik_Wk 4 (pc_q := 41) (loc_q := [some (.ref 45), some (fI 1), some (fI 0)]) (st_q := [fI 3, fI 0]) (h_q := h_647) (cl_q := 0) (sl_q := 0) rfl ?_
    refine fw_ic_ge rfl rfl (by decide +kernel) (by decide +kernel) (by decide +kernel) (by decide +kernel) (fun hc15 => absurd hc15 (by decide +kernel)) (fun hc15 => ?_)
    refine ik_Wk 1 (pc_q := 45) (loc_q := [some (.ref 45), some (fI 1), some (fI 0)]) (st_q := [.ref 45]) (h_q := h_647) (cl_q := 0) (sl_q := 0) rfl ?_
    refine fw_gf rfl rfl g_647_45 rfl ?_
    refine ik_Wk 2 (pc_q := 50) (loc_q := [some (.ref 45), some (fI 1), some (fI 0)]) (st_q := [fI 3, fI 1, .ref 48]) (h_q := h_647) (cl_q := 0) (sl_q := 0) rfl ?_
    refine fw_mul rfl ?_
    refine ik_Wk 1 (pc_q := 52) (loc_q := [some (.ref 45), some (fI 1), some (fI 0)]) (st_q := [fI 0, fI 3, .ref 48]) (h_q := h_647) (cl_q := 0) (sl_q := 0) rfl ?_
    refine fw_add rfl ?_
    refine ik_Wk 1 (pc_q := 54) (loc_q := [some (.ref 45), some (fI 1), some (fI 0)]) (st_q := [.ref 45, fI 3, .ref 48]) (h_q := h_647) (cl_q := 0) (sl_q := 0) rfl ?_
    refine fw_gf rfl rfl g_647_45 rfl ?_
    refine ik_Wk 2 (pc_q := 59) (loc_q := [some (.ref 45), some (fI 1), some (fI 0)]) (st_q := [fI 3, fI 1, .ref 48, fI 3, .ref 48]) (h_q := h_647) (cl_q := 0) (sl_q := 0) rfl ?_
    refine fw_mul rfl ?_
    refine ik_Wk 1 (pc_q := 61) (loc_q := [some (.ref 45), some (fI 1), some (fI 0)]) (st_q := [fI 0, fI 3, .ref 48, fI 3, .ref 48]) (h_q := h_647) (cl_q := 0) (sl_q := 0) rfl ?_
    refine fw_add rfl ?_
    refine fx_lal rfl g_647_48 (by omega) (by omega) (by omega) ?_
    refine fx_lneg rfl ?_
    have hl16 : (sh.set (3 : Int).toNat (-(sh.getD (3 : Int).toNat 0))).length = 6 := (List.length_set ..).trans n48
    refine fx_las rfl g_647_48 (by omega) (by omega) (by omega) ?_
    intro h_648 e_648 f_648 l_648
    have k_648 : cL h_648 := l_648.trans k_647
    have fr_648 := hfr_wb fr_647 f_648 l_648 rfl
    clear l_648
    have g_648_45 := (f_648 45 (Nat.ne_of_beq_eq_false rfl)).trans g_647_45
    have g_648_49 := (f_648 49 (Nat.ne_of_beq_eq_false rfl)).trans g_647_49
    have g_648_50 := (f_648 50 (Nat.ne_of_beq_eq_false rfl)).trans g_647_50
    have g_648_48 : cE h_648 48 (.inl (.long, fL (sh.set (3 : Int).toNat (-(sh.getD (3 : Int).toNat 0))))) := e_648
    refine fw_inc (a := 0) (loc_q := [some (.ref 45), some (fI 1), some (fI 1)]) rfl rfl (Nat.le_of_ble_eq_true rfl) rfl ?_
    refine ik_Wk 3 (pc_q := 41) (loc_q := [some (.ref 45), some (fI 1), some (fI 1)]) (st_q := [fI 3, fI 1]) (h_q := h_648) (cl_q := 0) (sl_q := 0) rfl ?_
    refine fw_ic_ge rfl rfl (by decide +kernel) (by decide +kernel) (by decide +kernel) (by decide +kernel) (fun hc17 => absurd hc17 (by decide +kernel)) (fun hc17 => ?_)
    refine ik_Wk 1 (pc_q := 45) (loc_q := [some (.ref 45), some (fI 1), some (fI 1)]) (st_q := [.ref 45]) (h_q := h_648) (cl_q := 0) (sl_q := 0) rfl ?_
    refine fw_gf rfl rfl g_648_45 rfl ?_
    refine ik_Wk 2 (pc_q := 50) (loc_q := [some (.ref 45), some (fI 1), some (fI 1)]) (st_q := [fI 3, fI 1, .ref 48]) (h_q := h_648) (cl_q := 0) (sl_q := 0) rfl ?_
    refine fw_mul rfl ?_
    refine ik_Wk 1 (pc_q := 52) (loc_q := [some (.ref 45), some (fI 1), some (fI 1)]) (st_q := [fI 1, fI 3, .ref 48]) (h_q := h_648) (cl_q := 0) (sl_q := 0) rfl ?_
    refine fw_add rfl ?_
    refine ik_Wk 1 (pc_q := 54) (loc_q := [some (.ref 45), some (fI 1), some (fI 1)]) (st_q := [.ref 45, fI 4, .ref 48]) (h_q := h_648) (cl_q := 0) (sl_q := 0) rfl ?_
    refine fw_gf rfl rfl g_648_45 rfl ?_
    refine ik_Wk 2 (pc_q := 59) (loc_q := [some (.ref 45), some (fI 1), some (fI 1)]) (st_q := [fI 3, fI 1, .ref 48, fI 4, .ref 48]) (h_q := h_648) (cl_q := 0) (sl_q := 0) rfl ?_
    refine fw_mul rfl ?_
    refine ik_Wk 1 (pc_q := 61) (loc_q := [some (.ref 45), some (fI 1), some (fI 1)]) (st_q := [fI 1, fI 3, .ref 48, fI 4, .ref 48]) (h_q := h_648) (cl_q := 0) (sl_q := 0) rfl ?_
    refine fw_add rfl ?_
    refine fx_lal rfl g_648_48 (by omega) (by omega) (by omega) ?_
    refine fx_lneg rfl ?_
    have hl18 : ((sh.set (3 : Int).toNat (-(sh.getD (3 : Int).toNat 0))).set (4 : Int).toNat (-((sh.set (3 : Int).toNat (-(sh.getD (3 : Int).toNat 0))).getD (4 : Int).toNat 0))).length = 6 := (List.length_set ..).trans hl16
    refine fx_las rfl g_648_48 (by omega) (by omega) (by omega) ?_
    intro h_649 e_649 f_649 l_649
    have k_649 : cL h_649 := l_649.trans k_648
    have fr_649 := hfr_wb fr_648 f_649 l_649 rfl
    clear l_649
    have g_649_45 := (f_649 45 (Nat.ne_of_beq_eq_false rfl)).trans g_648_45
    have g_649_49 := (f_649 49 (Nat.ne_of_beq_eq_false rfl)).trans g_648_49
    have g_649_50 := (f_649 50 (Nat.ne_of_beq_eq_false rfl)).trans g_648_50
    have g_649_48 : cE h_649 48 (.inl (.long, fL ((sh.set (3 : Int).toNat (-(sh.getD (3 : Int).toNat 0))).set (4 : Int).toNat (-((sh.set (3 : Int).toNat (-(sh.getD (3 : Int).toNat 0))).getD (4 : Int).toNat 0))))) := e_649
    refine fw_inc (a := 1) (loc_q := [some (.ref 45), some (fI 1), some (fI 2)]) rfl rfl (Nat.le_of_ble_eq_true rfl) rfl ?_
    refine ik_Wk 3 (pc_q := 41) (loc_q := [some (.ref 45), some (fI 1), some (fI 2)]) (st_q := [fI 3, fI 2]) (h_q := h_649) (cl_q := 0) (sl_q := 0) rfl ?_
    refine fw_ic_ge rfl rfl (by decide +kernel) (by decide +kernel) (by decide +kernel) (by decide +kernel) (fun hc19 => absurd hc19 (by decide +kernel)) (fun hc19 => ?_)
    refine ik_Wk 1 (pc_q := 45) (loc_q := [some (.ref 45), some (fI 1), some (fI 2)]) (st_q := [.ref 45]) (h_q := h_649) (cl_q := 0) (sl_q := 0) rfl ?_
    refine fw_gf rfl rfl g_649_45 rfl ?_
    refine ik_Wk 2 (pc_q := 50) (loc_q := [some (.ref 45), some (fI 1), some (fI 2)]) (st_q := [fI 3, fI 1, .ref 48]) (h_q := h_649) (cl_q := 0) (sl_q := 0) rfl ?_
    refine fw_mul rfl ?_
    refine ik_Wk 1 (pc_q := 52) (loc_q := [some (.ref 45), some (fI 1), some (fI 2)]) (st_q := [fI 2, fI 3, .ref 48]) (h_q := h_649) (cl_q := 0) (sl_q := 0) rfl ?_
    refine fw_add rfl ?_
    refine ik_Wk 1 (pc_q := 54) (loc_q := [some (.ref 45), some (fI 1), some (fI 2)]) (st_q := [.ref 45, fI 5, .ref 48]) (h_q := h_649) (cl_q := 0) (sl_q := 0) rfl ?_
    refine fw_gf rfl rfl g_649_45 rfl ?_
    refine ik_Wk 2 (pc_q := 59) (loc_q := [some (.ref 45), some (fI 1), some (fI 2)]) (st_q := [fI 3, fI 1, .ref 48, fI 5, .ref 48]) (h_q := h_649) (cl_q := 0) (sl_q := 0) rfl ?_
    refine fw_mul rfl ?_
    refine ik_Wk 1 (pc_q := 61) (loc_q := [some (.ref 45), some (fI 1), some (fI 2)]) (st_q := [fI 2, fI 3, .ref 48, fI 5, .ref 48]) (h_q := h_649) (cl_q := 0) (sl_q := 0) rfl ?_
    refine fw_add rfl ?_
    refine fx_lal rfl g_649_48 (by omega) (by omega) (by omega) ?_
    refine fx_lneg rfl ?_
    have hl20 : (((sh.set (3 : Int).toNat (-(sh.getD (3 : Int).toNat 0))).set (4 : Int).toNat (-((sh.set (3 : Int).toNat (-(sh.getD (3 : Int).toNat 0))).getD (4 : Int).toNat 0))).set (5 : Int).toNat (-(((sh.set (3 : Int).toNat (-(sh.getD (3 : Int).toNat 0))).set (4 : Int).toNat (-((sh.set (3 : Int).toNat (-(sh.getD (3 : Int).toNat 0))).getD (4 : Int).toNat 0))).getD (5 : Int).toNat 0))).length = 6 := (List.length_set ..).trans hl18
    refine fx_las rfl g_649_48 (by omega) (by omega) (by omega) ?_
    intro h_650 e_650 f_650 l_650
    have k_650 : cL h_650 := l_650.trans k_649
    have fr_650 := hfr_wb fr_649 f_650 l_650 rfl
    clear l_650
    have g_650_45 := (f_650 45 (Nat.ne_of_beq_eq_false rfl)).trans g_649_45
    have g_650_49 := (f_650 49 (Nat.ne_of_beq_eq_false rfl)).trans g_649_49
    have g_650_50 := (f_650 50 (Nat.ne_of_beq_eq_false rfl)).trans g_649_50
    have g_650_48 : cE h_650 48 (.inl (.long, fL (((sh.set (3 : Int).toNat (-(sh.getD (3 : Int).toNat 0))).set (4 : Int).toNat (-((sh.set (3 : Int).toNat (-(sh.getD (3 : Int).toNat 0))).getD (4 : Int).toNat 0))).set (5 : Int).toNat (-(((sh.set (3 : Int).toNat (-(sh.getD (3 : Int).toNat 0))).set (4 : Int).toNat (-((sh.set (3 : Int).toNat (-(sh.getD (3 : Int).toNat 0))).getD (4 : Int).toNat 0))).getD (5 : Int).toNat 0))))) := e_650
    refine fw_inc (a := 2) (loc_q := [some (.ref 45), some (fI 1), some (fI 3)]) rfl rfl (Nat.le_of_ble_eq_true rfl) rfl ?_
    refine ik_Wk 3 (pc_q := 41) (loc_q := [some (.ref 45), some (fI 1), some (fI 3)]) (st_q := [fI 3, fI 3]) (h_q := h_650) (cl_q := 0) (sl_q := 0) rfl ?_
    refine fw_ic_ge rfl rfl (by decide +kernel) (by decide +kernel) (by decide +kernel) (by decide +kernel) (fun hc21 => ?_) (fun hc21 => absurd hc21 (by decide +kernel))
    refine ik_Wk 4 (pc_q := 75) (loc_q := [some (.ref 45), some (fI 1), some (fI 0)]) (st_q := [fI 3, fI 0]) (h_q := h_650) (cl_q := 0) (sl_q := 0) rfl ?_
    refine fw_ic_ge rfl rfl (by decide +kernel) (by decide +kernel) (by decide +kernel) (by decide +kernel) (fun hc22 => absurd hc22 (by decide +kernel)) (fun hc22 => ?_)
    refine ik_Wk 1 (pc_q := 79) (loc_q := [some (.ref 45), some (fI 1), some (fI 0)]) (st_q := [.ref 45]) (h_q := h_650) (cl_q := 0) (sl_q := 0) rfl ?_
    refine fw_gf rfl rfl g_650_45 rfl ?_
    refine ik_Wk 2 (pc_q := 84) (loc_q := [some (.ref 45), some (fI 1), some (fI 0)]) (st_q := [fI 3, fI 1, .ref 48]) (h_q := h_650) (cl_q := 0) (sl_q := 0) rfl ?_
    refine fw_mul rfl ?_
    refine ik_Wk 1 (pc_q := 86) (loc_q := [some (.ref 45), some (fI 1), some (fI 0)]) (st_q := [fI 0, fI 3, .ref 48]) (h_q := h_650) (cl_q := 0) (sl_q := 0) rfl ?_
    refine fw_add rfl ?_
    refine fx_lal rfl g_650_48 (by omega) (by omega) (by omega) ?_
    refine fw_lc (z := 0) rfl (by decide +kernel) ?_
    refine fx_lcx rfl (fun zc23 rzc23 szc23 => ?_)
    refine fw_if_ge rfl rfl (by omega) (by omega) (fun hc24 => ?_) (fun hc24 => ?_)
    · refine fw_inc (a := 0) (loc_q := [some (.ref 45), some (fI 1), some (fI 1)]) rfl rfl (Nat.le_of_ble_eq_true rfl) rfl ?_
      refine ik_Wk 3 (pc_q := 75) (loc_q := [some (.ref 45), some (fI 1), some (fI 1)]) (st_q := [fI 3, fI 1]) (h_q := h_650) (cl_q := 0) (sl_q := 0) rfl ?_
      refine fw_ic_ge rfl rfl (by decide +kernel) (by decide +kernel) (by decide +kernel) (by decide +kernel) (fun hc25 => absurd hc25 (by decide +kernel)) (fun hc25 => ?_)
      refine ik_Wk 1 (pc_q := 79) (loc_q := [some (.ref 45), some (fI 1), some (fI 1)]) (st_q := [.ref 45]) (h_q := h_650) (cl_q := 0) (sl_q := 0) rfl ?_
      refine fw_gf rfl rfl g_650_45 rfl ?_
      refine ik_Wk 2 (pc_q := 84) (loc_q := [some (.ref 45), some (fI 1), some (fI 1)]) (st_q := [fI 3, fI 1, .ref 48]) (h_q := h_650) (cl_q := 0) (sl_q := 0) rfl ?_
      refine fw_mul rfl ?_
      refine ik_Wk 1 (pc_q := 86) (loc_q := [some (.ref 45), some (fI 1), some (fI 1)]) (st_q := [fI 1, fI 3, .ref 48]) (h_q := h_650) (cl_q := 0) (sl_q := 0) rfl ?_
      refine fw_add rfl ?_
      refine fx_lal rfl g_650_48 (by omega) (by omega) (by omega) ?_
      refine fw_lc (z := 0) rfl (by decide +kernel) ?_
      refine fx_lcx rfl (fun zc26 rzc26 szc26 => ?_)
      refine fw_if_ge rfl rfl (by omega) (by omega) (fun hc27 => ?_) (fun hc27 => ?_)
      · refine fw_inc (a := 1) (loc_q := [some (.ref 45), some (fI 1), some (fI 2)]) rfl rfl (Nat.le_of_ble_eq_true rfl) rfl ?_
        refine ik_Wk 3 (pc_q := 75) (loc_q := [some (.ref 45), some (fI 1), some (fI 2)]) (st_q := [fI 3, fI 2]) (h_q := h_650) (cl_q := 0) (sl_q := 0) rfl ?_
        refine fw_ic_ge rfl rfl (by decide +kernel) (by decide +kernel) (by decide +kernel) (by decide +kernel) (fun hc28 => absurd hc28 (by decide +kernel)) (fun hc28 => ?_)
        refine ik_Wk 1 (pc_q := 79) (loc_q := [some (.ref 45), some (fI 1), some (fI 2)]) (st_q := [.ref 45]) (h_q := h_650) (cl_q := 0) (sl_q := 0) rfl ?_
        refine fw_gf rfl rfl g_650_45 rfl ?_
        refine ik_Wk 2 (pc_q := 84) (loc_q := [some (.ref 45), some (fI 1), some (fI 2)]) (st_q := [fI 3, fI 1, .ref 48]) (h_q := h_650) (cl_q := 0) (sl_q := 0) rfl ?_
        refine fw_mul rfl ?_
        refine ik_Wk 1 (pc_q := 86) (loc_q := [some (.ref 45), some (fI 1), some (fI 2)]) (st_q := [fI 2, fI 3, .ref 48]) (h_q := h_650) (cl_q := 0) (sl_q := 0) rfl ?_
        refine fw_add rfl ?_
        refine fx_lal rfl g_650_48 (by omega) (by omega) (by omega) ?_
        refine fw_lc (z := 0) rfl (by decide +kernel) ?_
        refine fx_lcx rfl (fun zc29 rzc29 szc29 => ?_)
        refine fw_if_ge rfl rfl (by omega) (by omega) (fun hc30 => ?_) (fun hc30 => ?_)
        · refine fw_inc (a := 2) (loc_q := [some (.ref 45), some (fI 1), some (fI 3)]) rfl rfl (Nat.le_of_ble_eq_true rfl) rfl ?_
          refine ik_Wk 3 (pc_q := 75) (loc_q := [some (.ref 45), some (fI 1), some (fI 3)]) (st_q := [fI 3, fI 3]) (h_q := h_650) (cl_q := 0) (sl_q := 0) rfl ?_
          refine fw_ic_ge rfl rfl (by decide +kernel) (by decide +kernel) (by decide +kernel) (by decide +kernel) (fun hc31 => ?_) (fun hc31 => absurd hc31 (by decide +kernel))
          refine ik_Wk 1 (pc_q := 102) (loc_q := [some (.ref 45), some (fI 1), some (fI 3)]) (st_q := [fI 1]) (h_q := h_650) (cl_q := 0) (sl_q := 0) rfl ?_
          exact ik_Wret rfl rfl ⟨_, _, rfl, rfl, rfl, rfl, ⟨(((sh.set (3 : Int).toNat (-(sh.getD (3 : Int).toNat 0))).set (4 : Int).toNat (-((sh.set (3 : Int).toNat (-(sh.getD (3 : Int).toNat 0))).getD (4 : Int).toNat 0))).set (5 : Int).toNat (-(((sh.set (3 : Int).toNat (-(sh.getD (3 : Int).toNat 0))).set (4 : Int).toNat (-((sh.set (3 : Int).toNat (-(sh.getD (3 : Int).toNat 0))).getD (4 : Int).toNat 0))).getD (5 : Int).toNat 0))), (wh.set (1 : Int).toNat (-(wh.getD (1 : Int).toNat 0))), (wo.set (1 : Int).toNat (-(wo.getD (1 : Int).toNat 0))), 1, rfl, g_650_48, hl20, g_650_49, hl13, g_650_50, hl14, (by omega), fr_650⟩⟩
        · refine ik_Wk 1 (pc_q := 94) (loc_q := [some (.ref 45), some (fI 1), some (fI 2)]) (st_q := [fI 0]) (h_q := h_650) (cl_q := 0) (sl_q := 0) rfl ?_
          exact ik_Wret rfl rfl ⟨_, _, rfl, rfl, rfl, rfl, ⟨(((sh.set (3 : Int).toNat (-(sh.getD (3 : Int).toNat 0))).set (4 : Int).toNat (-((sh.set (3 : Int).toNat (-(sh.getD (3 : Int).toNat 0))).getD (4 : Int).toNat 0))).set (5 : Int).toNat (-(((sh.set (3 : Int).toNat (-(sh.getD (3 : Int).toNat 0))).set (4 : Int).toNat (-((sh.set (3 : Int).toNat (-(sh.getD (3 : Int).toNat 0))).getD (4 : Int).toNat 0))).getD (5 : Int).toNat 0))), (wh.set (1 : Int).toNat (-(wh.getD (1 : Int).toNat 0))), (wo.set (1 : Int).toNat (-(wo.getD (1 : Int).toNat 0))), 0, rfl, g_650_48, hl20, g_650_49, hl13, g_650_50, hl14, (by omega), fr_650⟩⟩
      · refine ik_Wk 1 (pc_q := 94) (loc_q := [some (.ref 45), some (fI 1), some (fI 1)]) (st_q := [fI 0]) (h_q := h_650) (cl_q := 0) (sl_q := 0) rfl ?_
        exact ik_Wret rfl rfl ⟨_, _, rfl, rfl, rfl, rfl, ⟨(((sh.set (3 : Int).toNat (-(sh.getD (3 : Int).toNat 0))).set (4 : Int).toNat (-((sh.set (3 : Int).toNat (-(sh.getD (3 : Int).toNat 0))).getD (4 : Int).toNat 0))).set (5 : Int).toNat (-(((sh.set (3 : Int).toNat (-(sh.getD (3 : Int).toNat 0))).set (4 : Int).toNat (-((sh.set (3 : Int).toNat (-(sh.getD (3 : Int).toNat 0))).getD (4 : Int).toNat 0))).getD (5 : Int).toNat 0))), (wh.set (1 : Int).toNat (-(wh.getD (1 : Int).toNat 0))), (wo.set (1 : Int).toNat (-(wo.getD (1 : Int).toNat 0))), 0, rfl, g_650_48, hl20, g_650_49, hl13, g_650_50, hl14, (by omega), fr_650⟩⟩
    · refine ik_Wk 1 (pc_q := 94) (loc_q := [some (.ref 45), some (fI 1), some (fI 0)]) (st_q := [fI 0]) (h_q := h_650) (cl_q := 0) (sl_q := 0) rfl ?_
      exact ik_Wret rfl rfl ⟨_, _, rfl, rfl, rfl, rfl, ⟨(((sh.set (3 : Int).toNat (-(sh.getD (3 : Int).toNat 0))).set (4 : Int).toNat (-((sh.set (3 : Int).toNat (-(sh.getD (3 : Int).toNat 0))).getD (4 : Int).toNat 0))).set (5 : Int).toNat (-(((sh.set (3 : Int).toNat (-(sh.getD (3 : Int).toNat 0))).set (4 : Int).toNat (-((sh.set (3 : Int).toNat (-(sh.getD (3 : Int).toNat 0))).getD (4 : Int).toNat 0))).getD (5 : Int).toNat 0))), (wh.set (1 : Int).toNat (-(wh.getD (1 : Int).toNat 0))), (wo.set (1 : Int).toNat (-(wo.getD (1 : Int).toNat 0))), 0, rfl, g_650_48, hl20, g_650_49, hl13, g_650_50, hl14, (by omega), fr_650⟩⟩

theorem cs_solve0L {h : List ik_E} {ow : Nat} {ot : Nat} {sz : Int} {fe : List Int} {bo_ : List Int} {sh : List Int} {wh : List Int} {wo : List Int} (q0 : 1 ≤ sz ∧ sz ≤ 3) (q1 : ow < 8) (q2 : ot < 8) (q3 : ∀ i : Int, (0 : Int) ≤ i → i < (9 : Int) → 0 ≤ fe.getD i.toNat 0 ∧ fe.getD i.toNat 0 ≤ 1000)  : ∀ (k : Nat) (kk : Int) (co : Int) (b1 : List Int) (s1 : List Int) (t1 : List Int) (u1 : List Int) (x7 : Option Value) (u : List ik_E) (u45 : cE u 45 (.inr (5, [.ref 46, .ref 47, .ref 48, .ref 49, .ref 50]))) (u46 : cE u 46 (.inl (.int, fA fe))) (n46 : fe.length = (9 : Nat)) (u47 : cE u 47 (.inl (.long, fL b1))) (n47 : b1.length = (12 : Nat)) (u48 : cE u 48 (.inl (.long, fL s1))) (n48 : s1.length = (6 : Nat)) (u49 : cE u 49 (.inl (.long, fL t1))) (n49 : t1.length = (2 : Nat)) (u50 : cE u 50 (.inl (.long, fL u1))) (n50 : u1.length = (2 : Nat)) (ul : u.length = (94 : Nat)) (F : hfr [47, 48, 49, 50] h u) (hk2 : (0 : Int) ≤ kk ∧ kk ≤ (3 : Int)) (hc : (0 : Int) ≤ co ∧ co ≤ kk) (w7 : ik_wl 94 x7 = true) (hk : 3 - kk < (k : Int)), ik_G 46 38 [some (.ref 45), some (fI 0), some (fI ((ow : Nat) : Int)), some (fI ((ot : Nat) : Int)), some (fI sz), some (fI co), some (fI kk), x7, none] [] u (fun rv h_q => ∃ (bo' : List Int) (sh' : List Int) (wh' : List Int) (wo' : List Int) (b : Int), rv = [fI b] ∧ cE h_q 47 (.inl (.long, fL bo')) ∧ bo'.length = (12 : Nat) ∧ cE h_q 48 (.inl (.long, fL sh')) ∧ sh'.length = (6 : Nat) ∧ cE h_q 49 (.inl (.long, fL wh')) ∧ wh'.length = (2 : Nat) ∧ cE h_q 50 (.inl (.long, fL wo')) ∧ wo'.length = (2 : Nat) ∧ ((0 : Int) ≤ b ∧ b ≤ (1 : Int)) ∧ hfr [47, 48, 49, 50] h h_q) := by
  intro k
  induction k with
  | zero => intro kk co b1 s1 t1 u1 x7 u u45 u46 n46 u47 n47 u48 n48 u49 n49 u50 n50 ul F hk2 hc w7 hk; omega
  | succ k ih =>
    intro kk co b1 s1 t1 u1 x7 u u45 u46 n46 u47 n47 u48 n48 u49 n49 u50 n50 ul F hk2 hc w7 hk
    refine ik_Wk 2 (pc_q := 41) (loc_q := [some (.ref 45), some (fI 0), some (fI ((ow : Nat) : Int)), some (fI ((ot : Nat) : Int)), some (fI sz), some (fI co), some (fI kk), x7, none]) (st_q := [fI 3, fI kk]) (h_q := u) (cl_q := 0) (sl_q := 0) rfl ?_
    refine fw_ic_ge rfl rfl (by omega) (by omega) (by omega) (by omega) (fun hc1 => ?_) (fun hc1 => ?_)
    · refine ik_Wk 1 (pc_q := 119) (loc_q := [some (.ref 45), some (fI 0), some (fI ((ow : Nat) : Int)), some (fI ((ot : Nat) : Int)), some (fI sz), some (fI co), some (fI kk), x7, none]) (st_q := [.ref 45]) (h_q := u) (cl_q := 0) (sl_q := 0) rfl ?_
      refine fw_gf rfl rfl u45 rfl ?_
      refine ik_Wk 4 (pc_q := 128) (loc_q := [some (.ref 45), some (fI 0), some (fI ((ow : Nat) : Int)), some (fI ((ot : Nat) : Int)), some (fI sz), some (fI co), some (fI kk), x7, none]) (st_q := [fI sz, fI sz, .ref 45, fI 0, .ref 50]) (h_q := u) (cl_q := 0) (sl_q := 0) rfl ?_
      refine fw_call 49 3 0 [.ref 45, fI sz, fI sz] [fI 0, .ref 50] rfl rfl rfl (Nat.le_of_ble_eq_true rfl) rfl rfl (fw_rec ul (fw_ftx rfl (wv_c rfl (wv_c rfl wv_n)) (wl_c rfl (wl_c rfl (wl_c rfl (wl_c rfl (wl_c rfl (wl_c rfl (wl_c rfl (wl_c w7 (wl_c rfl wl_n)))))))))) u45 rfl (by decide +kernel)) (cs_minor (sz := sz) (wt := sz) (bo_ := b1) (by omega) (by omega) u45 u47 n47 ul) ?_
      rintro _ h_651 ⟨z_651, rfl, F_651⟩
      have k_651 : cL h_651 := F_651.1.trans ul
      have fr_651 := hfr_cb F F_651 rfl
      have g_651_45 := (hfr_g F_651 45 rfl).trans u45
      have g_651_46 := (hfr_g F_651 46 rfl).trans u46
      have g_651_47 := (hfr_g F_651 47 rfl).trans u47
      have g_651_48 := (hfr_g F_651 48 rfl).trans u48
      have g_651_49 := (hfr_g F_651 49 rfl).trans u49
      have g_651_50 := (hfr_g F_651 50 rfl).trans u50
      refine ik_Wk 0 (pc_q := 131) (loc_q := [some (.ref 45), some (fI 0), some (fI ((ow : Nat) : Int)), some (fI ((ot : Nat) : Int)), some (fI sz), some (fI co), some (fI kk), x7, none]) (st_q := [fJ z_651, fI 0, .ref 50]) (h_q := h_651) (cl_q := 0) (sl_q := 0) rfl ?_
      have hl2 : (u1.set (0 : Int).toNat z_651).length = 2 := (List.length_set ..).trans n50
      refine fx_las rfl g_651_50 (by omega) (by omega) (by omega) ?_
      intro h_652 e_652 f_652 l_652
      have k_652 : cL h_652 := l_652.trans k_651
      have fr_652 := hfr_wb fr_651 f_652 l_652 rfl
      clear l_652
      have g_652_45 := (f_652 45 (Nat.ne_of_beq_eq_false rfl)).trans g_651_45
      have g_652_46 := (f_652 46 (Nat.ne_of_beq_eq_false rfl)).trans g_651_46
      have g_652_47 := (f_652 47 (Nat.ne_of_beq_eq_false rfl)).trans g_651_47
      have g_652_48 := (f_652 48 (Nat.ne_of_beq_eq_false rfl)).trans g_651_48
      have g_652_49 := (f_652 49 (Nat.ne_of_beq_eq_false rfl)).trans g_651_49
      have g_652_50 : cE h_652 50 (.inl (.long, fL (u1.set (0 : Int).toNat z_651))) := e_652
      refine ik_Wk 1 (pc_q := 133) (loc_q := [some (.ref 45), some (fI 0), some (fI ((ow : Nat) : Int)), some (fI ((ot : Nat) : Int)), some (fI sz), some (fI co), some (fI kk), x7, none]) (st_q := [.ref 45]) (h_q := h_652) (cl_q := 0) (sl_q := 0) rfl ?_
      refine fw_gf rfl rfl g_652_45 rfl ?_
      refine ik_Wk 1 (pc_q := 137) (loc_q := [some (.ref 45), some (fI 0), some (fI ((ow : Nat) : Int)), some (fI ((ot : Nat) : Int)), some (fI sz), some (fI co), some (fI kk), x7, none]) (st_q := [fI 0, .ref 49]) (h_q := h_652) (cl_q := 0) (sl_q := 0) rfl ?_
      refine fx_lal rfl g_652_49 (by omega) (by omega) (by omega) ?_
      refine fw_lc (z := 0) rfl (by decide +kernel) ?_
      refine fx_lcx rfl (fun zc3 rzc3 szc3 => ?_)
      refine fw_if_eq rfl rfl (by omega) (by omega) (fun hc4 => ?_) (fun hc4 => ?_)
      · refine ik_Wk 1 (pc_q := 156) (loc_q := [some (.ref 45), some (fI 0), some (fI ((ow : Nat) : Int)), some (fI ((ot : Nat) : Int)), some (fI sz), some (fI co), some (fI kk), x7, none]) (st_q := [fI 0]) (h_q := h_652) (cl_q := 0) (sl_q := 0) rfl ?_
        exact ik_Wret rfl rfl ⟨_, _, rfl, rfl, rfl, rfl, ⟨b1, s1, t1, (u1.set (0 : Int).toNat z_651), 0, rfl, g_652_47, n47, g_652_48, n48, g_652_49, n49, g_652_50, hl2, (by omega), fr_652⟩⟩
      · refine ik_Wk 2 (pc_q := 145) (loc_q := [some (.ref 45), some (fI 0), some (fI ((ow : Nat) : Int)), some (fI ((ot : Nat) : Int)), some (fI sz), some (fI co), some (fI kk), x7, none]) (st_q := [fI 0, .ref 45]) (h_q := h_652) (cl_q := 0) (sl_q := 0) rfl ?_
        refine fw_call 48 2 0 [.ref 45, fI 0] [] rfl rfl rfl (Nat.le_of_ble_eq_true rfl) rfl rfl (fw_rec k_652 (fw_ftx rfl wv_n (wl_c rfl (wl_c rfl (wl_c rfl (wl_c rfl (wl_c rfl (wl_c rfl (wl_c rfl (wl_c w7 (wl_c rfl wl_n)))))))))) g_652_45 rfl (by decide +kernel)) (cs_makePos0 (sh := s1) (wh := t1) (wo := u1.set (0 : Int).toNat z_651)  g_652_45 g_652_48 n48 g_652_49 n49 g_652_50 hl2 k_652) ?_
        rintro _ h_653 ⟨sh'_653, wh'_653, wo'_653, b_653, rfl, e_653_48, m_653_48, e_653_49, m_653_49, e_653_50, m_653_50, p_653_0, F_653⟩
        have k_653 : cL h_653 := F_653.1.trans k_652
        have fr_653 := hfr_cb fr_652 F_653 rfl
        have g_653_45 := (hfr_g F_653 45 rfl).trans g_652_45
        have g_653_46 := (hfr_g F_653 46 rfl).trans g_652_46
        have g_653_47 := (hfr_g F_653 47 rfl).trans g_652_47
        have g_653_48 : cE h_653 48 (.inl (.long, fL sh'_653)) := e_653_48
        have g_653_49 : cE h_653 49 (.inl (.long, fL wh'_653)) := e_653_49
        have g_653_50 : cE h_653 50 (.inl (.long, fL wo'_653)) := e_653_50
        refine ik_Wk 0 (pc_q := 148) (loc_q := [some (.ref 45), some (fI 0), some (fI ((ow : Nat) : Int)), some (fI ((ot : Nat) : Int)), some (fI sz), some (fI co), some (fI kk), x7, none]) (st_q := [fI b_653]) (h_q := h_653) (cl_q := 0) (sl_q := 0) rfl ?_
        refine fw_if_eq rfl rfl (by omega) (by omega) (fun hc5 => ?_) (fun hc5 => ?_)
        · refine ik_Wk 1 (pc_q := 156) (loc_q := [some (.ref 45), some (fI 0), some (fI ((ow : Nat) : Int)), some (fI ((ot : Nat) : Int)), some (fI sz), some (fI co), some (fI kk), x7, none]) (st_q := [fI 0]) (h_q := h_653) (cl_q := 0) (sl_q := 0) rfl ?_
          exact ik_Wret rfl rfl ⟨_, _, rfl, rfl, rfl, rfl, ⟨b1, sh'_653, wh'_653, wo'_653, 0, rfl, g_653_47, n47, g_653_48, m_653_48, g_653_49, m_653_49, g_653_50, m_653_50, (by omega), fr_653⟩⟩
        · refine ik_Wk 2 (pc_q := 156) (loc_q := [some (.ref 45), some (fI 0), some (fI ((ow : Nat) : Int)), some (fI ((ot : Nat) : Int)), some (fI sz), some (fI co), some (fI kk), x7, none]) (st_q := [fI 1]) (h_q := h_653) (cl_q := 0) (sl_q := 0) rfl ?_
          exact ik_Wret rfl rfl ⟨_, _, rfl, rfl, rfl, rfl, ⟨b1, sh'_653, wh'_653, wo'_653, 1, rfl, g_653_47, n47, g_653_48, m_653_48, g_653_49, m_653_49, g_653_50, m_653_50, (by omega), fr_653⟩⟩
    · refine ik_Wk 2 (pc_q := 47) (loc_q := [some (.ref 45), some (fI 0), some (fI ((ow : Nat) : Int)), some (fI ((ot : Nat) : Int)), some (fI sz), some (fI co), some (fI kk), x7, none]) (st_q := [fI kk, fI ((ow : Nat) : Int)]) (h_q := u) (cl_q := 0) (sl_q := 0) rfl ?_
      refine fx_shr (n := ow) rfl (by omega) (by omega) (by omega) ?_
      refine ik_Wk 1 (pc_q := 49) (loc_q := [some (.ref 45), some (fI 0), some (fI ((ow : Nat) : Int)), some (fI ((ot : Nat) : Int)), some (fI sz), some (fI co), some (fI kk), x7, none]) (st_q := [fI 1, fI ((ow >>> kk.toNat : Nat) : Int)]) (h_q := u) (cl_q := 0) (sl_q := 0) rfl ?_
      refine fx_bit (n := ow) (k := kk.toNat) rfl (fun hb6 => ?_) (fun hb6 => ?_)
      · refine ik_Wk 0 (pc_q := 50) (loc_q := [some (.ref 45), some (fI 0), some (fI ((ow : Nat) : Int)), some (fI ((ot : Nat) : Int)), some (fI sz), some (fI co), some (fI kk), x7, none]) (st_q := [fI 1]) (h_q := u) (cl_q := 0) (sl_q := 0) rfl ?_
        refine fw_if_eq rfl rfl (by decide +kernel) (by decide +kernel) (fun hc7 => absurd hc7 (by decide +kernel)) (fun hc7 => ?_)
        refine ik_Wk 2 (pc_q := 57) (loc_q := [some (.ref 45), some (fI 0), some (fI ((ow : Nat) : Int)), some (fI ((ot : Nat) : Int)), some (fI sz), some (fI co), some (fI kk), x7, none]) (st_q := [fI co, fI sz]) (h_q := u) (cl_q := 0) (sl_q := 0) rfl ?_
        refine fw_add rfl ?_
        refine ik_Wk 1 (pc_q := 59) (loc_q := [some (.ref 45), some (fI 0), some (fI ((ow : Nat) : Int)), some (fI ((ot : Nat) : Int)), some (fI sz), some (fI co), some (fI kk), x7, none]) (st_q := [fI 2, fI (sz + co)]) (h_q := u) (cl_q := 0) (sl_q := 0) rfl ?_
        refine fx_irem rfl (by omega) (by omega) (by omega) (by omega) ?_
        refine fw_if_ne rfl rfl (by omega) (by omega) (fun hc8 => ?_) (fun hc8 => ?_)
        · refine ik_Wk 3 (pc_q := 68) (loc_q := [some (.ref 45), some (fI 0), some (fI ((ow : Nat) : Int)), some (fI ((ot : Nat) : Int)), some (fI sz), some (fI co), some (fI kk), x7, none]) (st_q := [fI co, fI sz, .ref 45]) (h_q := u) (cl_q := 0) (sl_q := 0) rfl ?_
          refine fw_call 49 3 0 [.ref 45, fI sz, fI co] [] rfl rfl rfl (Nat.le_of_ble_eq_true rfl) rfl rfl (fw_rec ul (fw_ftx rfl wv_n (wl_c rfl (wl_c rfl (wl_c rfl (wl_c rfl (wl_c rfl (wl_c rfl (wl_c rfl (wl_c w7 (wl_c rfl wl_n)))))))))) u45 rfl (by decide +kernel)) (cs_minor (sz := sz) (wt := co) (bo_ := b1) (by omega) (by omega) u45 u47 n47 ul) ?_
          rintro _ h_654 ⟨z_654, rfl, F_654⟩
          have k_654 : cL h_654 := F_654.1.trans ul
          have fr_654 := hfr_cb F F_654 rfl
          have g_654_45 := (hfr_g F_654 45 rfl).trans u45
          have g_654_46 := (hfr_g F_654 46 rfl).trans u46
          have g_654_47 := (hfr_g F_654 47 rfl).trans u47
          have g_654_48 := (hfr_g F_654 48 rfl).trans u48
          have g_654_49 := (hfr_g F_654 49 rfl).trans u49
          have g_654_50 := (hfr_g F_654 50 rfl).trans u50
          refine ik_Wk 0 (pc_q := 71) (loc_q := [some (.ref 45), some (fI 0), some (fI ((ow : Nat) : Int)), some (fI ((ot : Nat) : Int)), some (fI sz), some (fI co), some (fI kk), x7, none]) (st_q := [fJ z_654]) (h_q := h_654) (cl_q := 0) (sl_q := 0) rfl ?_
          refine ik_Wk 3 (pc_q := 86) (loc_q := [some (.ref 45), some (fI 0), some (fI ((ow : Nat) : Int)), some (fI ((ot : Nat) : Int)), some (fI sz), some (fI co), some (fI kk), some (fJ z_654), none]) (st_q := [.ref 45]) (h_q := h_654) (cl_q := 0) (sl_q := 0) rfl ?_
          refine fw_gf rfl rfl g_654_45 rfl ?_
          refine ik_Wk 2 (pc_q := 91) (loc_q := [some (.ref 45), some (fI 0), some (fI ((ow : Nat) : Int)), some (fI ((ot : Nat) : Int)), some (fI sz), some (fI co), some (fI kk), some (fJ z_654), none]) (st_q := [fI 3, fI 0, .ref 48]) (h_q := h_654) (cl_q := 0) (sl_q := 0) rfl ?_
          refine fw_mul rfl ?_
          refine ik_Wk 1 (pc_q := 94) (loc_q := [some (.ref 45), some (fI 0), some (fI ((ow : Nat) : Int)), some (fI ((ot : Nat) : Int)), some (fI sz), some (fI co), some (fI kk), some (fJ z_654), none]) (st_q := [fI kk, fI 0, .ref 48]) (h_q := h_654) (cl_q := 0) (sl_q := 0) rfl ?_
          refine fw_add rfl ?_
          refine ik_Wk 1 (pc_q := 97) (loc_q := [some (.ref 45), some (fI 0), some (fI ((ow : Nat) : Int)), some (fI ((ot : Nat) : Int)), some (fI sz), some (fI co), some (fI kk), some (fJ z_654), none]) (st_q := [fJ z_654, fI (0 + kk), .ref 48]) (h_q := h_654) (cl_q := 0) (sl_q := 0) rfl ?_
          have hl9 : (s1.set (0 + kk).toNat z_654).length = 6 := (List.length_set ..).trans n48
          refine fx_las rfl g_654_48 (by omega) (by omega) (by omega) ?_
          intro h_655 e_655 f_655 l_655
          have k_655 : cL h_655 := l_655.trans k_654
          have fr_655 := hfr_wb fr_654 f_655 l_655 rfl
          clear l_655
          have g_655_45 := (f_655 45 (Nat.ne_of_beq_eq_false rfl)).trans g_654_45
          have g_655_46 := (f_655 46 (Nat.ne_of_beq_eq_false rfl)).trans g_654_46
          have g_655_47 := (f_655 47 (Nat.ne_of_beq_eq_false rfl)).trans g_654_47
          have g_655_49 := (f_655 49 (Nat.ne_of_beq_eq_false rfl)).trans g_654_49
          have g_655_50 := (f_655 50 (Nat.ne_of_beq_eq_false rfl)).trans g_654_50
          have g_655_48 : cE h_655 48 (.inl (.long, fL (s1.set (0 + kk).toNat z_654))) := e_655
          refine ik_Wk 1 (pc_q := 99) (loc_q := [some (.ref 45), some (fI 0), some (fI ((ow : Nat) : Int)), some (fI ((ot : Nat) : Int)), some (fI sz), some (fI co), some (fI kk), some (fJ z_654), none]) (st_q := [.ref 45]) (h_q := h_655) (cl_q := 0) (sl_q := 0) rfl ?_
          refine fw_gf rfl rfl g_655_45 rfl ?_
          refine ik_Wk 2 (pc_q := 104) (loc_q := [some (.ref 45), some (fI 0), some (fI ((ow : Nat) : Int)), some (fI ((ot : Nat) : Int)), some (fI sz), some (fI co), some (fI kk), some (fJ z_654), none]) (st_q := [fI 0, .ref 49, fI 0, .ref 49]) (h_q := h_655) (cl_q := 0) (sl_q := 0) rfl ?_
          refine fx_lal rfl g_655_49 (by omega) (by omega) (by omega) ?_
          refine ik_Wk 1 (pc_q := 107) (loc_q := [some (.ref 45), some (fI 0), some (fI ((ow : Nat) : Int)), some (fI ((ot : Nat) : Int)), some (fI sz), some (fI co), some (fI kk), some (fJ z_654), none]) (st_q := [fJ z_654, fJ (t1.getD (0 : Int).toNat 0), fI 0, .ref 49]) (h_q := h_655) (cl_q := 0) (sl_q := 0) rfl ?_
          refine fw_ladd rfl ?_
          have hl10 : (t1.set (0 : Int).toNat ((t1.getD (0 : Int).toNat 0) + z_654)).length = 2 := (List.length_set ..).trans n49
          refine fx_las rfl g_655_49 (by omega) (by omega) (by omega) ?_
          intro h_656 e_656 f_656 l_656
          have k_656 : cL h_656 := l_656.trans k_655
          have fr_656 := hfr_wb fr_655 f_656 l_656 rfl
          clear l_656
          have g_656_45 := (f_656 45 (Nat.ne_of_beq_eq_false rfl)).trans g_655_45
          have g_656_46 := (f_656 46 (Nat.ne_of_beq_eq_false rfl)).trans g_655_46
          have g_656_47 := (f_656 47 (Nat.ne_of_beq_eq_false rfl)).trans g_655_47
          have g_656_48 := (f_656 48 (Nat.ne_of_beq_eq_false rfl)).trans g_655_48
          have g_656_50 := (f_656 50 (Nat.ne_of_beq_eq_false rfl)).trans g_655_50
          have g_656_49 : cE h_656 49 (.inl (.long, fL (t1.set (0 : Int).toNat ((t1.getD (0 : Int).toNat 0) + z_654)))) := e_656
          refine fw_inc (a := co) (loc_q := [some (.ref 45), some (fI 0), some (fI ((ow : Nat) : Int)), some (fI ((ot : Nat) : Int)), some (fI sz), some (fI (co + 1)), some (fI kk), some (fJ z_654), none]) rfl rfl (Nat.le_of_ble_eq_true rfl) rfl ?_
          refine fw_inc (a := kk) (loc_q := [some (.ref 45), some (fI 0), some (fI ((ow : Nat) : Int)), some (fI ((ot : Nat) : Int)), some (fI sz), some (fI (co + 1)), some (fI (kk + 1)), some (fJ z_654), none]) rfl rfl (Nat.le_of_ble_eq_true rfl) rfl ?_
          refine ik_Wk 1 (pc_q := 38) (loc_q := [some (.ref 45), some (fI 0), some (fI ((ow : Nat) : Int)), some (fI ((ot : Nat) : Int)), some (fI sz), some (fI (co + 1)), some (fI (kk + 1)), some (fJ z_654), none]) (st_q := []) (h_q := h_656) (cl_q := 0) (sl_q := 0) rfl ?_
          exact ih  (kk + 1) (co + 1) b1 (s1.set (0 + kk).toNat z_654) (t1.set (0 : Int).toNat ((t1.getD (0 : Int).toNat 0) + z_654)) u1 (some (fJ z_654)) h_656 g_656_45 g_656_46 n46 g_656_47 n47 g_656_48 hl9 g_656_49 hl10 g_656_50 n50 k_656 fr_656 (by omega) (by omega) rfl (by omega)
        · refine ik_Wk 3 (pc_q := 79) (loc_q := [some (.ref 45), some (fI 0), some (fI ((ow : Nat) : Int)), some (fI ((ot : Nat) : Int)), some (fI sz), some (fI co), some (fI kk), x7, none]) (st_q := [fI co, fI sz, .ref 45]) (h_q := u) (cl_q := 0) (sl_q := 0) rfl ?_
          refine fw_call 49 3 0 [.ref 45, fI sz, fI co] [] rfl rfl rfl (Nat.le_of_ble_eq_true rfl) rfl rfl (fw_rec ul (fw_ftx rfl wv_n (wl_c rfl (wl_c rfl (wl_c rfl (wl_c rfl (wl_c rfl (wl_c rfl (wl_c rfl (wl_c w7 (wl_c rfl wl_n)))))))))) u45 rfl (by decide +kernel)) (cs_minor (sz := sz) (wt := co) (bo_ := b1) (by omega) (by omega) u45 u47 n47 ul) ?_
          rintro _ h_657 ⟨z_657, rfl, F_657⟩
          have k_657 : cL h_657 := F_657.1.trans ul
          have fr_657 := hfr_cb F F_657 rfl
          have g_657_45 := (hfr_g F_657 45 rfl).trans u45
          have g_657_46 := (hfr_g F_657 46 rfl).trans u46
          have g_657_47 := (hfr_g F_657 47 rfl).trans u47
          have g_657_48 := (hfr_g F_657 48 rfl).trans u48
          have g_657_49 := (hfr_g F_657 49 rfl).trans u49
          have g_657_50 := (hfr_g F_657 50 rfl).trans u50
          refine ik_Wk 0 (pc_q := 82) (loc_q := [some (.ref 45), some (fI 0), some (fI ((ow : Nat) : Int)), some (fI ((ot : Nat) : Int)), some (fI sz), some (fI co), some (fI kk), x7, none]) (st_q := [fJ z_657]) (h_q := h_657) (cl_q := 0) (sl_q := 0) rfl ?_
          refine fx_lneg rfl ?_
          refine ik_Wk 2 (pc_q := 86) (loc_q := [some (.ref 45), some (fI 0), some (fI ((ow : Nat) : Int)), some (fI ((ot : Nat) : Int)), some (fI sz), some (fI co), some (fI kk), some (fJ (-z_657)), none]) (st_q := [.ref 45]) (h_q := h_657) (cl_q := 0) (sl_q := 0) rfl ?_
          refine fw_gf rfl rfl g_657_45 rfl ?_
          refine ik_Wk 2 (pc_q := 91) (loc_q := [some (.ref 45), some (fI 0), some (fI ((ow : Nat) : Int)), some (fI ((ot : Nat) : Int)), some (fI sz), some (fI co), some (fI kk), some (fJ (-z_657)), none]) (st_q := [fI 3, fI 0, .ref 48]) (h_q := h_657) (cl_q := 0) (sl_q := 0) rfl ?_
          refine fw_mul rfl ?_
          refine ik_Wk 1 (pc_q := 94) (loc_q := [some (.ref 45), some (fI 0), some (fI ((ow : Nat) : Int)), some (fI ((ot : Nat) : Int)), some (fI sz), some (fI co), some (fI kk), some (fJ (-z_657)), none]) (st_q := [fI kk, fI 0, .ref 48]) (h_q := h_657) (cl_q := 0) (sl_q := 0) rfl ?_
          refine fw_add rfl ?_
          refine ik_Wk 1 (pc_q := 97) (loc_q := [some (.ref 45), some (fI 0), some (fI ((ow : Nat) : Int)), some (fI ((ot : Nat) : Int)), some (fI sz), some (fI co), some (fI kk), some (fJ (-z_657)), none]) (st_q := [fJ (-z_657), fI (0 + kk), .ref 48]) (h_q := h_657) (cl_q := 0) (sl_q := 0) rfl ?_
          have hl11 : (s1.set (0 + kk).toNat (-z_657)).length = 6 := (List.length_set ..).trans n48
          refine fx_las rfl g_657_48 (by omega) (by omega) (by omega) ?_
          intro h_658 e_658 f_658 l_658
          have k_658 : cL h_658 := l_658.trans k_657
          have fr_658 := hfr_wb fr_657 f_658 l_658 rfl
          clear l_658
          have g_658_45 := (f_658 45 (Nat.ne_of_beq_eq_false rfl)).trans g_657_45
          have g_658_46 := (f_658 46 (Nat.ne_of_beq_eq_false rfl)).trans g_657_46
          have g_658_47 := (f_658 47 (Nat.ne_of_beq_eq_false rfl)).trans g_657_47
          have g_658_49 := (f_658 49 (Nat.ne_of_beq_eq_false rfl)).trans g_657_49
          have g_658_50 := (f_658 50 (Nat.ne_of_beq_eq_false rfl)).trans g_657_50
          have g_658_48 : cE h_658 48 (.inl (.long, fL (s1.set (0 + kk).toNat (-z_657)))) := e_658
          refine ik_Wk 1 (pc_q := 99) (loc_q := [some (.ref 45), some (fI 0), some (fI ((ow : Nat) : Int)), some (fI ((ot : Nat) : Int)), some (fI sz), some (fI co), some (fI kk), some (fJ (-z_657)), none]) (st_q := [.ref 45]) (h_q := h_658) (cl_q := 0) (sl_q := 0) rfl ?_
          refine fw_gf rfl rfl g_658_45 rfl ?_
          refine ik_Wk 2 (pc_q := 104) (loc_q := [some (.ref 45), some (fI 0), some (fI ((ow : Nat) : Int)), some (fI ((ot : Nat) : Int)), some (fI sz), some (fI co), some (fI kk), some (fJ (-z_657)), none]) (st_q := [fI 0, .ref 49, fI 0, .ref 49]) (h_q := h_658) (cl_q := 0) (sl_q := 0) rfl ?_
          refine fx_lal rfl g_658_49 (by omega) (by omega) (by omega) ?_
          refine ik_Wk 1 (pc_q := 107) (loc_q := [some (.ref 45), some (fI 0), some (fI ((ow : Nat) : Int)), some (fI ((ot : Nat) : Int)), some (fI sz), some (fI co), some (fI kk), some (fJ (-z_657)), none]) (st_q := [fJ (-z_657), fJ (t1.getD (0 : Int).toNat 0), fI 0, .ref 49]) (h_q := h_658) (cl_q := 0) (sl_q := 0) rfl ?_
          refine fw_ladd rfl ?_
          have hl12 : (t1.set (0 : Int).toNat ((t1.getD (0 : Int).toNat 0) + (-z_657))).length = 2 := (List.length_set ..).trans n49
          refine fx_las rfl g_658_49 (by omega) (by omega) (by omega) ?_
          intro h_659 e_659 f_659 l_659
          have k_659 : cL h_659 := l_659.trans k_658
          have fr_659 := hfr_wb fr_658 f_659 l_659 rfl
          clear l_659
          have g_659_45 := (f_659 45 (Nat.ne_of_beq_eq_false rfl)).trans g_658_45
          have g_659_46 := (f_659 46 (Nat.ne_of_beq_eq_false rfl)).trans g_658_46
          have g_659_47 := (f_659 47 (Nat.ne_of_beq_eq_false rfl)).trans g_658_47
          have g_659_48 := (f_659 48 (Nat.ne_of_beq_eq_false rfl)).trans g_658_48
          have g_659_50 := (f_659 50 (Nat.ne_of_beq_eq_false rfl)).trans g_658_50
          have g_659_49 : cE h_659 49 (.inl (.long, fL (t1.set (0 : Int).toNat ((t1.getD (0 : Int).toNat 0) + (-z_657))))) := e_659
          refine fw_inc (a := co) (loc_q := [some (.ref 45), some (fI 0), some (fI ((ow : Nat) : Int)), some (fI ((ot : Nat) : Int)), some (fI sz), some (fI (co + 1)), some (fI kk), some (fJ (-z_657)), none]) rfl rfl (Nat.le_of_ble_eq_true rfl) rfl ?_
          refine fw_inc (a := kk) (loc_q := [some (.ref 45), some (fI 0), some (fI ((ow : Nat) : Int)), some (fI ((ot : Nat) : Int)), some (fI sz), some (fI (co + 1)), some (fI (kk + 1)), some (fJ (-z_657)), none]) rfl rfl (Nat.le_of_ble_eq_true rfl) rfl ?_
          refine ik_Wk 1 (pc_q := 38) (loc_q := [some (.ref 45), some (fI 0), some (fI ((ow : Nat) : Int)), some (fI ((ot : Nat) : Int)), some (fI sz), some (fI (co + 1)), some (fI (kk + 1)), some (fJ (-z_657)), none]) (st_q := []) (h_q := h_659) (cl_q := 0) (sl_q := 0) rfl ?_
          exact ih  (kk + 1) (co + 1) b1 (s1.set (0 + kk).toNat (-z_657)) (t1.set (0 : Int).toNat ((t1.getD (0 : Int).toNat 0) + (-z_657))) u1 (some (fJ (-z_657))) h_659 g_659_45 g_659_46 n46 g_659_47 n47 g_659_48 hl11 g_659_49 hl12 g_659_50 n50 k_659 fr_659 (by omega) (by omega) rfl (by omega)
      · refine ik_Wk 0 (pc_q := 50) (loc_q := [some (.ref 45), some (fI 0), some (fI ((ow : Nat) : Int)), some (fI ((ot : Nat) : Int)), some (fI sz), some (fI co), some (fI kk), x7, none]) (st_q := [fI 0]) (h_q := u) (cl_q := 0) (sl_q := 0) rfl ?_
        refine fw_if_eq rfl rfl (by decide +kernel) (by decide +kernel) (fun hc13 => ?_) (fun hc13 => absurd hc13 (by decide +kernel))
        refine fw_inc (a := kk) (loc_q := [some (.ref 45), some (fI 0), some (fI ((ow : Nat) : Int)), some (fI ((ot : Nat) : Int)), some (fI sz), some (fI co), some (fI (kk + 1)), x7, none]) rfl rfl (Nat.le_of_ble_eq_true rfl) rfl ?_
        refine ik_Wk 1 (pc_q := 38) (loc_q := [some (.ref 45), some (fI 0), some (fI ((ow : Nat) : Int)), some (fI ((ot : Nat) : Int)), some (fI sz), some (fI co), some (fI (kk + 1)), x7, none]) (st_q := []) (h_q := u) (cl_q := 0) (sl_q := 0) rfl ?_
        exact ih  (kk + 1) co b1 s1 t1 u1 x7 u u45 u46 n46 u47 n47 u48 n48 u49 n49 u50 n50 ul F (by omega) (by omega) w7 (by omega)

theorem cs_solve0 {h : List ik_E} {ow : Nat} {ot : Nat} {sz : Int} {fe : List Int} {bo_ : List Int} {sh : List Int} {wh : List Int} {wo : List Int} (q0 : 1 ≤ sz ∧ sz ≤ 3) (q1 : ow < 8) (q2 : ot < 8) (q3 : ∀ i : Int, (0 : Int) ≤ i → i < (9 : Int) → 0 ≤ fe.getD i.toNat 0 ∧ fe.getD i.toNat 0 ≤ 1000) (h45 : cE h 45 (.inr (5, [.ref 46, .ref 47, .ref 48, .ref 49, .ref 50]))) (h46 : cE h 46 (.inl (.int, fA fe))) (n46 : fe.length = (9 : Nat)) (h47 : cE h 47 (.inl (.long, fL bo_))) (n47 : bo_.length = (12 : Nat)) (h48 : cE h 48 (.inl (.long, fL sh))) (n48 : sh.length = (6 : Nat)) (h49 : cE h 49 (.inl (.long, fL wh))) (n49 : wh.length = (2 : Nat)) (h50 : cE h 50 (.inl (.long, fL wo))) (n50 : wo.length = (2 : Nat)) (hl : h.length = (94 : Nat)) : ik_F 46 [.ref 45, fI 0, fI ((ow : Nat) : Int), fI ((ot : Nat) : Int), fI sz] h (fun rv h_q => ∃ (bo' : List Int) (sh' : List Int) (wh' : List Int) (wo' : List Int) (b : Int), rv = [fI b] ∧ cE h_q 47 (.inl (.long, fL bo')) ∧ bo'.length = (12 : Nat) ∧ cE h_q 48 (.inl (.long, fL sh')) ∧ sh'.length = (6 : Nat) ∧ cE h_q 49 (.inl (.long, fL wh')) ∧ wh'.length = (2 : Nat) ∧ cE h_q 50 (.inl (.long, fL wo')) ∧ wo'.length = (2 : Nat) ∧ ((0 : Int) ≤ b ∧ b ≤ (1 : Int)) ∧ hfr [47, 48, 49, 50] h h_q) := by
  refine ik_Wk 5 (pc_q := 6) (loc_q := [some (.ref 45), some (fI 0), some (fI ((ow : Nat) : Int)), some (fI ((ot : Nat) : Int)), some (fI sz), none, none, none, none]) (st_q := [fI sz, fI ((ot : Nat) : Int), fI ((ow : Nat) : Int), fI 0, .ref 45]) (h_q := h) (cl_q := 0) (sl_q := 0) rfl ?_
  refine fw_call 47 5 0 [.ref 45, fI 0, fI ((ow : Nat) : Int), fI ((ot : Nat) : Int), fI sz] [] rfl rfl rfl (Nat.le_of_ble_eq_true rfl) rfl rfl (fw_rec hl rfl h45 rfl (Nat.le_of_ble_eq_true rfl)) (cs_fillBoard0 (ow := ow) (ot := ot) (sz := sz) (fe := fe) (bo_ := bo_) (by omega) (by omega) (by omega) q3 h45 h46 n46 h47 n47 hl) ?_
  rintro _ h_660 ⟨bo'_660, rfl, e_660_47, m_660_47, F_660⟩
  have k_660 : cL h_660 := F_660.1.trans hl
  have fr_660 := hfr_cb (hfr_refl [47, 48, 49, 50] h) F_660 rfl
  have g_660_45 := (hfr_g F_660 45 rfl).trans h45
  have g_660_46 := (hfr_g F_660 46 rfl).trans h46
  have g_660_48 := (hfr_g F_660 48 rfl).trans h48
  have g_660_49 := (hfr_g F_660 49 rfl).trans h49
  have g_660_50 := (hfr_g F_660 50 rfl).trans h50
  have g_660_47 : cE h_660 47 (.inl (.long, fL bo'_660)) := e_660_47
  refine ik_Wk 0 (pc_q := 9) (loc_q := [some (.ref 45), some (fI 0), some (fI ((ow : Nat) : Int)), some (fI ((ot : Nat) : Int)), some (fI sz), none, none, none, none]) (st_q := []) (h_q := h_660) (cl_q := 0) (sl_q := 0) rfl ?_
  refine ik_Wk 1 (pc_q := 10) (loc_q := [some (.ref 45), some (fI 0), some (fI ((ow : Nat) : Int)), some (fI ((ot : Nat) : Int)), some (fI sz), none, none, none, none]) (st_q := [.ref 45]) (h_q := h_660) (cl_q := 0) (sl_q := 0) rfl ?_
  refine fw_gf rfl rfl g_660_45 rfl ?_
  refine ik_Wk 2 (pc_q := 15) (loc_q := [some (.ref 45), some (fI 0), some (fI ((ow : Nat) : Int)), some (fI ((ot : Nat) : Int)), some (fI sz), none, none, none, none]) (st_q := [fI 3, fI 0, .ref 48]) (h_q := h_660) (cl_q := 0) (sl_q := 0) rfl ?_
  refine fw_mul rfl ?_
  refine ik_Wk 2 (pc_q := 18) (loc_q := [some (.ref 45), some (fI 0), some (fI ((ow : Nat) : Int)), some (fI ((ot : Nat) : Int)), some (fI sz), none, none, none, none]) (st_q := [fI 3, fI 0, fI 0, .ref 48]) (h_q := h_660) (cl_q := 0) (sl_q := 0) rfl ?_
  refine fw_mul rfl ?_
  refine ik_Wk 1 (pc_q := 20) (loc_q := [some (.ref 45), some (fI 0), some (fI ((ow : Nat) : Int)), some (fI ((ot : Nat) : Int)), some (fI sz), none, none, none, none]) (st_q := [fI 3, fI 0, fI 0, .ref 48]) (h_q := h_660) (cl_q := 0) (sl_q := 0) rfl ?_
  refine fw_add rfl ?_
  refine fw_lc (z := 0) rfl (by decide +kernel) ?_
  refine ik_Wc 224 4 3 [.ref 48, fI 0, fI 3, fJ 0] [] rfl rfl rfl (by decide +kernel) rfl rfl (fw_sta k_660 rfl (by decide +kernel)) ?_
  refine ik_Wk 0 (pc_q := 0) (loc_q := [some (.ref 48), some (fI 0), some (fI 3), some (fJ 0), none, none]) (st_q := []) (h_q := h_660) (cl_q := 0) (sl_q := 0) rfl ?_
  refine ik_Wk 1 (pc_q := 1) (loc_q := [some (.ref 48), some (fI 0), some (fI 3), some (fJ 0), none, none]) (st_q := [.ref 48]) (h_q := h_660) (cl_q := 0) (sl_q := 0) rfl ?_
  refine fx_aln rfl g_660_48 ((fL_len _).trans n48) (by decide +kernel) ?_
  refine ik_Wk 2 (pc_q := 4) (loc_q := [some (.ref 48), some (fI 0), some (fI 3), some (fJ 0), none, none]) (st_q := [fI 3, fI 0, fI 6]) (h_q := h_660) (cl_q := 0) (sl_q := 0) rfl ?_
  refine ik_Wc 222 3 3 [fI 6, fI 0, fI 3] [] rfl rfl rfl (by decide +kernel) rfl rfl (fw_sta k_660 rfl (by decide +kernel)) ?_
  refine ik_Wk 0 (pc_q := 0) (loc_q := [some (fI 6), some (fI 0), some (fI 3)]) (st_q := []) (h_q := h_660) (cl_q := 0) (sl_q := 0) rfl ?_
  refine ik_Wk 2 (pc_q := 2) (loc_q := [some (fI 6), some (fI 0), some (fI 3)]) (st_q := [fI 3, fI 0]) (h_q := h_660) (cl_q := 0) (sl_q := 0) rfl ?_
  refine fw_ic_le rfl rfl (by decide +kernel) (by decide +kernel) (by decide +kernel) (by decide +kernel) (fun hc1 => ?_) (fun hc1 => absurd hc1 (by decide +kernel))
  refine ik_Wk 1 (pc_q := 47) (loc_q := [some (fI 6), some (fI 0), some (fI 3)]) (st_q := [fI 0]) (h_q := h_660) (cl_q := 0) (sl_q := 0) rfl ?_
  refine fw_if_ge rfl rfl (by decide +kernel) (by decide +kernel) (fun hc2 => ?_) (fun hc2 => absurd hc2 (by decide +kernel))
  refine ik_Wk 2 (pc_q := 61) (loc_q := [some (fI 6), some (fI 0), some (fI 3)]) (st_q := [fI 6, fI 3]) (h_q := h_660) (cl_q := 0) (sl_q := 0) rfl ?_
  refine fw_ic_le rfl rfl (by decide +kernel) (by decide +kernel) (by decide +kernel) (by decide +kernel) (fun hc3 => ?_) (fun hc3 => absurd hc3 (by decide +kernel))
  refine ik_Wret rfl rfl ⟨_, _, rfl, rfl, ?_⟩
  refine ik_Wk 0 (pc_q := 7) (loc_q := [some (.ref 48), some (fI 0), some (fI 3), some (fJ 0), none, none]) (st_q := []) (h_q := h_660) (cl_q := 0) (sl_q := 0) rfl ?_
  refine ik_Wk 4 (pc_q := 13) (loc_q := [some (.ref 48), some (fI 0), some (fI 3), some (fJ 0), none, some (fI 0)]) (st_q := [fI 3, fI 0]) (h_q := h_660) (cl_q := 0) (sl_q := 0) rfl ?_
  refine fw_ic_ge rfl rfl (by decide +kernel) (by decide +kernel) (by decide +kernel) (by decide +kernel) (fun hc4 => absurd hc4 (by decide +kernel)) (fun hc4 => ?_)
  refine ik_Wk 3 (pc_q := 20) (loc_q := [some (.ref 48), some (fI 0), some (fI 3), some (fJ 0), none, some (fI 0)]) (st_q := [fJ 0, fI 0, .ref 48]) (h_q := h_660) (cl_q := 0) (sl_q := 0) rfl ?_
  have hl5 : (sh.set (0 : Int).toNat 0).length = 6 := (List.length_set ..).trans n48
  refine fx_las rfl g_660_48 (by omega) (by omega) (by omega) ?_
  intro h_661 e_661 f_661 l_661
  have k_661 : cL h_661 := l_661.trans k_660
  have fr_661 := hfr_wb fr_660 f_661 l_661 rfl
  clear l_661
  have g_661_45 := (f_661 45 (Nat.ne_of_beq_eq_false rfl)).trans g_660_45
  have g_661_46 := (f_661 46 (Nat.ne_of_beq_eq_false rfl)).trans g_660_46
  have g_661_47 := (f_661 47 (Nat.ne_of_beq_eq_false rfl)).trans g_660_47
  have g_661_49 := (f_661 49 (Nat.ne_of_beq_eq_false rfl)).trans g_660_49
  have g_661_50 := (f_661 50 (Nat.ne_of_beq_eq_false rfl)).trans g_660_50
  have g_661_48 : cE h_661 48 (.inl (.long, fL (sh.set (0 : Int).toNat 0))) := e_661
  refine fw_inc (a := 0) (loc_q := [some (.ref 48), some (fI 0), some (fI 3), some (fJ 0), none, some (fI 1)]) rfl rfl (Nat.le_of_ble_eq_true rfl) rfl ?_
  refine ik_Wk 3 (pc_q := 13) (loc_q := [some (.ref 48), some (fI 0), some (fI 3), some (fJ 0), none, some (fI 1)]) (st_q := [fI 3, fI 1]) (h_q := h_661) (cl_q := 0) (sl_q := 0) rfl ?_
  refine fw_ic_ge rfl rfl (by decide +kernel) (by decide +kernel) (by decide +kernel) (by decide +kernel) (fun hc6 => absurd hc6 (by decide +kernel)) (fun hc6 => ?_)
  refine ik_Wk 3 (pc_q := 20) (loc_q := [some (.ref 48), some (fI 0), some (fI 3), some (fJ 0), none, some (fI 1)]) (st_q := [fJ 0, fI 1, .ref 48]) (h_q := h_661) (cl_q := 0) (sl_q := 0) rfl ?_
  have hl7 : ((sh.set (0 : Int).toNat 0).set (1 : Int).toNat 0).length = 6 := (List.length_set ..).trans hl5
  refine fx_las rfl g_661_48 (by omega) (by omega) (by omega) ?_
  intro h_662 e_662 f_662 l_662
  have k_662 : cL h_662 := l_662.trans k_661
  have fr_662 := hfr_wb fr_661 f_662 l_662 rfl
  clear l_662
  have g_662_45 := (f_662 45 (Nat.ne_of_beq_eq_false rfl)).trans g_661_45
  have g_662_46 := (f_662 46 (Nat.ne_of_beq_eq_false rfl)).trans g_661_46
  have g_662_47 := (f_662 47 (Nat.ne_of_beq_eq_false rfl)).trans g_661_47
  have g_662_49 := (f_662 49 (Nat.ne_of_beq_eq_false rfl)).trans g_661_49
  have g_662_50 := (f_662 50 (Nat.ne_of_beq_eq_false rfl)).trans g_661_50
  have g_662_48 : cE h_662 48 (.inl (.long, fL ((sh.set (0 : Int).toNat 0).set (1 : Int).toNat 0))) := e_662
  refine fw_inc (a := 1) (loc_q := [some (.ref 48), some (fI 0), some (fI 3), some (fJ 0), none, some (fI 2)]) rfl rfl (Nat.le_of_ble_eq_true rfl) rfl ?_
  refine ik_Wk 3 (pc_q := 13) (loc_q := [some (.ref 48), some (fI 0), some (fI 3), some (fJ 0), none, some (fI 2)]) (st_q := [fI 3, fI 2]) (h_q := h_662) (cl_q := 0) (sl_q := 0) rfl ?_
  refine fw_ic_ge rfl rfl (by decide +kernel) (by decide +kernel) (by decide +kernel) (by decide +kernel) (fun hc8 => absurd hc8 (by decide +kernel)) (fun hc8 => ?_)
  refine ik_Wk 3 (pc_q := 20) (loc_q := [some (.ref 48), some (fI 0), some (fI 3), some (fJ 0), none, some (fI 2)]) (st_q := [fJ 0, fI 2, .ref 48]) (h_q := h_662) (cl_q := 0) (sl_q := 0) rfl ?_
  have hl9 : (((sh.set (0 : Int).toNat 0).set (1 : Int).toNat 0).set (2 : Int).toNat 0).length = 6 := (List.length_set ..).trans hl7
  refine fx_las rfl g_662_48 (by omega) (by omega) (by omega) ?_
  intro h_663 e_663 f_663 l_663
  have k_663 : cL h_663 := l_663.trans k_662
  have fr_663 := hfr_wb fr_662 f_663 l_663 rfl
  clear l_663
  have g_663_45 := (f_663 45 (Nat.ne_of_beq_eq_false rfl)).trans g_662_45
  have g_663_46 := (f_663 46 (Nat.ne_of_beq_eq_false rfl)).trans g_662_46
  have g_663_47 := (f_663 47 (Nat.ne_of_beq_eq_false rfl)).trans g_662_47
  have g_663_49 := (f_663 49 (Nat.ne_of_beq_eq_false rfl)).trans g_662_49
  have g_663_50 := (f_663 50 (Nat.ne_of_beq_eq_false rfl)).trans g_662_50
  have g_663_48 : cE h_663 48 (.inl (.long, fL (((sh.set (0 : Int).toNat 0).set (1 : Int).toNat 0).set (2 : Int).toNat 0))) := e_663
  refine fw_inc (a := 2) (loc_q := [some (.ref 48), some (fI 0), some (fI 3), some (fJ 0), none, some (fI 3)]) rfl rfl (Nat.le_of_ble_eq_true rfl) rfl ?_
  refine ik_Wk 3 (pc_q := 13) (loc_q := [some (.ref 48), some (fI 0), some (fI 3), some (fJ 0), none, some (fI 3)]) (st_q := [fI 3, fI 3]) (h_q := h_663) (cl_q := 0) (sl_q := 0) rfl ?_
  refine fw_ic_ge rfl rfl (by decide +kernel) (by decide +kernel) (by decide +kernel) (by decide +kernel) (fun hc10 => ?_) (fun hc10 => absurd hc10 (by decide +kernel))
  refine ik_Wret rfl rfl ⟨_, _, rfl, rfl, ?_⟩
  refine ik_Wk 0 (pc_q := 25) (loc_q := [some (.ref 45), some (fI 0), some (fI ((ow : Nat) : Int)), some (fI ((ot : Nat) : Int)), some (fI sz), none, none, none, none]) (st_q := []) (h_q := h_663) (cl_q := 0) (sl_q := 0) rfl ?_
  refine ik_Wk 1 (pc_q := 26) (loc_q := [some (.ref 45), some (fI 0), some (fI ((ow : Nat) : Int)), some (fI ((ot : Nat) : Int)), some (fI sz), none, none, none, none]) (st_q := [.ref 45]) (h_q := h_663) (cl_q := 0) (sl_q := 0) rfl ?_
  refine fw_gf rfl rfl g_663_45 rfl ?_
  refine ik_Wk 1 (pc_q := 30) (loc_q := [some (.ref 45), some (fI 0), some (fI ((ow : Nat) : Int)), some (fI ((ot : Nat) : Int)), some (fI sz), none, none, none, none]) (st_q := [fI 0, .ref 49]) (h_q := h_663) (cl_q := 0) (sl_q := 0) rfl ?_
  refine fw_lc (z := 0) rfl (by decide +kernel) ?_
  have hl11 : (wh.set (0 : Int).toNat 0).length = 2 := (List.length_set ..).trans n49
  refine fx_las rfl g_663_49 (by omega) (by omega) (by omega) ?_
  intro h_664 e_664 f_664 l_664
  have k_664 : cL h_664 := l_664.trans k_663
  have fr_664 := hfr_wb fr_663 f_664 l_664 rfl
  clear l_664
  have g_664_45 := (f_664 45 (Nat.ne_of_beq_eq_false rfl)).trans g_663_45
  have g_664_46 := (f_664 46 (Nat.ne_of_beq_eq_false rfl)).trans g_663_46
  have g_664_47 := (f_664 47 (Nat.ne_of_beq_eq_false rfl)).trans g_663_47
  have g_664_48 := (f_664 48 (Nat.ne_of_beq_eq_false rfl)).trans g_663_48
  have g_664_50 := (f_664 50 (Nat.ne_of_beq_eq_false rfl)).trans g_663_50
  have g_664_49 : cE h_664 49 (.inl (.long, fL (wh.set (0 : Int).toNat 0))) := e_664
  refine ik_Wk 4 (pc_q := 38) (loc_q := [some (.ref 45), some (fI 0), some (fI ((ow : Nat) : Int)), some (fI ((ot : Nat) : Int)), some (fI sz), some (fI 0), some (fI 0), none, none]) (st_q := []) (h_q := h_664) (cl_q := 0) (sl_q := 0) rfl ?_
  exact cs_solve0L (ow := ow) (ot := ot) (sz := sz) (fe := fe) (bo_ := bo_) (sh := sh) (wh := wh) (wo := wo) q0 q1 q2 q3  4 0 0 bo'_660 (((sh.set (0 : Int).toNat 0).set (1 : Int).toNat 0).set (2 : Int).toNat 0) (wh.set (0 : Int).toNat 0) wo none h_664 g_664_45 g_664_46 n46 g_664_47 m_660_47 g_664_48 hl9 g_664_49 hl11 g_664_50 n50 k_664 fr_664 (by omega) (by omega) rfl (by omega)

theorem cs_solve1L {h : List ik_E} {ow : Nat} {ot : Nat} {sz : Int} {fe : List Int} {bo_ : List Int} {sh : List Int} {wh : List Int} {wo : List Int} (q0 : 1 ≤ sz ∧ sz ≤ 3) (q1 : ow < 8) (q2 : ot < 8) (q3 : ∀ i : Int, (0 : Int) ≤ i → i < (9 : Int) → 0 ≤ fe.getD i.toNat 0 ∧ fe.getD i.toNat 0 ≤ 1000)  : ∀ (k : Nat) (kk : Int) (co : Int) (b1 : List Int) (s1 : List Int) (t1 : List Int) (u1 : List Int) (x7 : Option Value) (u : List ik_E) (u45 : cE u 45 (.inr (5, [.ref 46, .ref 47, .ref 48, .ref 49, .ref 50]))) (u46 : cE u 46 (.inl (.int, fA fe))) (n46 : fe.length = (9 : Nat)) (u47 : cE u 47 (.inl (.long, fL b1))) (n47 : b1.length = (12 : Nat)) (u48 : cE u 48 (.inl (.long, fL s1))) (n48 : s1.length = (6 : Nat)) (u49 : cE u 49 (.inl (.long, fL t1))) (n49 : t1.length = (2 : Nat)) (u50 : cE u 50 (.inl (.long, fL u1))) (n50 : u1.length = (2 : Nat)) (ul : u.length = (94 : Nat)) (F : hfr [47, 48, 49, 50] h u) (hk2 : (0 : Int) ≤ kk ∧ kk ≤ (3 : Int)) (hc : (0 : Int) ≤ co ∧ co ≤ kk) (w7 : ik_wl 94 x7 = true) (hk : 3 - kk < (k : Int)), ik_G 46 38 [some (.ref 45), some (fI 1), some (fI ((ow : Nat) : Int)), some (fI ((ot : Nat) : Int)), some (fI sz), some (fI co), some (fI kk), x7, none] [] u (fun rv h_q => ∃ (bo' : List Int) (sh' : List Int) (wh' : List Int) (wo' : List Int) (b : Int), rv = [fI b] ∧ cE h_q 47 (.inl (.long, fL bo')) ∧ bo'.length = (12 : Nat) ∧ cE h_q 48 (.inl (.long, fL sh')) ∧ sh'.length = (6 : Nat) ∧ cE h_q 49 (.inl (.long, fL wh')) ∧ wh'.length = (2 : Nat) ∧ cE h_q 50 (.inl (.long, fL wo')) ∧ wo'.length = (2 : Nat) ∧ ((0 : Int) ≤ b ∧ b ≤ (1 : Int)) ∧ hfr [47, 48, 49, 50] h h_q) := by
  intro k
  induction k with
  | zero => intro kk co b1 s1 t1 u1 x7 u u45 u46 n46 u47 n47 u48 n48 u49 n49 u50 n50 ul F hk2 hc w7 hk; omega
  | succ k ih =>
    intro kk co b1 s1 t1 u1 x7 u u45 u46 n46 u47 n47 u48 n48 u49 n49 u50 n50 ul F hk2 hc w7 hk
    refine ik_Wk 2 (pc_q := 41) (loc_q := [some (.ref 45), some (fI 1), some (fI ((ow : Nat) : Int)), some (fI ((ot : Nat) : Int)), some (fI sz), some (fI co), some (fI kk), x7, none]) (st_q := [fI 3, fI kk]) (h_q := u) (cl_q := 0) (sl_q := 0) rfl ?_
    refine fw_ic_ge rfl rfl (by omega) (by omega) (by omega) (by omega) (fun hc1 => ?_) (fun hc1 => ?_)
    · refine ik_Wk 1 (pc_q := 119) (loc_q := [some (.ref 45), some (fI 1), some (fI ((ow : Nat) : Int)), some (fI ((ot : Nat) : Int)), some (fI sz), some (fI co), some (fI kk), x7, none]) (st_q := [.ref 45]) (h_q := u) (cl_q := 0) (sl_q := 0) rfl ?_
      refine fw_gf rfl rfl u45 rfl ?_
      refine ik_Wk 4 (pc_q := 128) (loc_q := [some (.ref 45), some (fI 1), some (fI ((ow : Nat) : Int)), some (fI ((ot : Nat) : Int)), some (fI sz), some (fI co), some (fI kk), x7, none]) (st_q := [fI sz, fI sz, .ref 45, fI 1, .ref 50]) (h_q := u) (cl_q := 0) (sl_q := 0) rfl ?_
      refine fw_call 49 3 0 [.ref 45, fI sz, fI sz] [fI 1, .ref 50] rfl rfl rfl (Nat.le_of_ble_eq_true rfl) rfl rfl (fw_rec ul (fw_ftx rfl (wv_c rfl (wv_c rfl wv_n)) (wl_c rfl (wl_c rfl (wl_c rfl (wl_c rfl (wl_c rfl (wl_c rfl (wl_c rfl (wl_c w7 (wl_c rfl wl_n)))))))))) u45 rfl (by decide +kernel)) (cs_minor (sz := sz) (wt := sz) (bo_ := b1) (by omega) (by omega) u45 u47 n47 ul) ?_
      rintro _ h_665 ⟨z_665, rfl, F_665⟩
      have k_665 : cL h_665 := F_665.1.trans ul
      have fr_665 := hfr_cb F F_665 rfl
      have g_665_45 := (hfr_g F_665 45 rfl).trans u45
      have g_665_46 := (hfr_g F_665 46 rfl).trans u46
      have g_665_47 := (hfr_g F_665 47 rfl).trans u47
      have g_665_48 := (hfr_g F_665 48 rfl).trans u48
      have g_665_49 := (hfr_g F_665 49 rfl).trans u49
      have g_665_50 := (hfr_g F_665 50 rfl).trans u50
      refine ik_Wk 0 (pc_q := 131) (loc_q := [some (.ref 45), some (fI 1), some (fI ((ow : Nat) : Int)), some (fI ((ot : Nat) : Int)), some (fI sz), some (fI co), some (fI kk), x7, none]) (st_q := [fJ z_665, fI 1, .ref 50]) (h_q := h_665) (cl_q := 0) (sl_q := 0) rfl ?_
      have hl2 : (u1.set (1 : Int).toNat z_665).length = 2 := (List.length_set ..).trans n50
      refine fx_las rfl g_665_50 (by omega) (by omega) (by omega) ?_
      intro h_666 e_666 f_666 l_666
      have k_666 : cL h_666 := l_666.trans k_665
      have fr_666 := hfr_wb fr_665 f_666 l_666 rfl
      clear l_666
      have g_666_45 := (f_666 45 (Nat.ne_of_beq_eq_false rfl)).trans g_665_45
      have g_666_46 := (f_666 46 (Nat.ne_of_beq_eq_false rfl)).trans g_665_46
      have g_666_47 := (f_666 47 (Nat.ne_of_beq_eq_false rfl)).trans g_665_47
      have g_666_48 := (f_666 48 (Nat.ne_of_beq_eq_false rfl)).trans g_665_48
      have g_666_49 := (f_666 49 (Nat.ne_of_beq_eq_false rfl)).trans g_665_49
      have g_666_50 : cE h_666 50 (.inl (.long, fL (u1.set (1 : Int).toNat z_665))) := e_666
      refine ik_Wk 1 (pc_q := 133) (loc_q := [some (.ref 45), some (fI 1), some (fI ((ow : Nat) : Int)), some (fI ((ot : Nat) : Int)), some (fI sz), some (fI co), some (fI kk), x7, none]) (st_q := [.ref 45]) (h_q := h_666) (cl_q := 0) (sl_q := 0) rfl ?_
      refine fw_gf rfl rfl g_666_45 rfl ?_
      refine ik_Wk 1 (pc_q := 137) (loc_q := [some (.ref 45), some (fI 1), some (fI ((ow : Nat) : Int)), some (fI ((ot : Nat) : Int)), some (fI sz), some (fI co), some (fI kk), x7, none]) (st_q := [fI 1, .ref 49]) (h_q := h_666) (cl_q := 0) (sl_q := 0) rfl ?_
      refine fx_lal rfl g_666_49 (by omega) (by omega) (by omega) ?_
      refine fw_lc (z := 0) rfl (by decide +kernel) ?_
      refine fx_lcx rfl (fun zc3 rzc3 szc3 => ?_)
      refine fw_if_eq rfl rfl (by omega) (by omega) (fun hc4 => ?_) (fun hc4 => ?_)
      · refine ik_Wk 1 (pc_q := 156) (loc_q := [some (.ref 45), some (fI 1), some (fI ((ow : Nat) : Int)), some (fI ((ot : Nat) : Int)), some (fI sz), some (fI co), some (fI kk), x7, none]) (st_q := [fI 0]) (h_q := h_666) (cl_q := 0) (sl_q := 0) rfl ?_
        exact ik_Wret rfl rfl ⟨_, _, rfl, rfl, rfl, rfl, ⟨b1, s1, t1, (u1.set (1 : Int).toNat z_665), 0, rfl, g_666_47, n47, g_666_48, n48, g_666_49, n49, g_666_50, hl2, (by omega), fr_666⟩⟩
      · refine ik_Wk 2 (pc_q := 145) (loc_q := [some (.ref 45), some (fI 1), some (fI ((ow : Nat) : Int)), some (fI ((ot : Nat) : Int)), some (fI sz), some (fI co), some (fI kk), x7, none]) (st_q := [fI 1, .ref 45]) (h_q := h_666) (cl_q := 0) (sl_q := 0) rfl ?_
        refine fw_call 48 2 0 [.ref 45, fI 1] [] rfl rfl rfl (Nat.le_of_ble_eq_true rfl) rfl rfl (fw_rec k_666 (fw_ftx rfl wv_n (wl_c rfl (wl_c rfl (wl_c rfl (wl_c rfl (wl_c rfl (wl_c rfl (wl_c rfl (wl_c w7 (wl_c rfl wl_n)))))))))) g_666_45 rfl (by decide +kernel)) (cs_makePos1 (sh := s1) (wh := t1) (wo := u1.set (1 : Int).toNat z_665)  g_666_45 g_666_48 n48 g_666_49 n49 g_666_50 hl2 k_666) ?_
        rintro _ h_667 ⟨sh'_667, wh'_667, wo'_667, b_667, rfl, e_667_48, m_667_48, e_667_49, m_667_49, e_667_50, m_667_50, p_667_0, F_667⟩
        have k_667 : cL h_667 := F_667.1.trans k_666
        have fr_667 := hfr_cb fr_666 F_667 rfl
        have g_667_45 := (hfr_g F_667 45 rfl).trans g_666_45
        have g_667_46 := (hfr_g F_667 46 rfl).trans g_666_46
        have g_667_47 := (hfr_g F_667 47 rfl).trans g_666_47
        have g_667_48 : cE h_667 48 (.inl (.long, fL sh'_667)) := e_667_48
        have g_667_49 : cE h_667 49 (.inl (.long, fL wh'_667)) := e_667_49
        have g_667_50 : cE h_667 50 (.inl (.long, fL wo'_667)) := e_667_50
        refine ik_Wk 0 (pc_q := 148) (loc_q := [some (.ref 45), some (fI 1), some (fI ((ow : Nat) : Int)), some (fI ((ot : Nat) : Int)), some (fI sz), some (fI co), some (fI kk), x7, none]) (st_q := [fI b_667]) (h_q := h_667) (cl_q := 0) (sl_q := 0) rfl ?_
        refine fw_if_eq rfl rfl (by omega) (by omega) (fun hc5 => ?_) (fun hc5 => ?_)
        · refine ik_Wk 1 (pc_q := 156) (loc_q := [some (.ref 45), some (fI 1), some (fI ((ow : Nat) : Int)), some (fI ((ot : Nat) : Int)), some (fI sz), some (fI co), some (fI kk), x7, none]) (st_q := [fI 0]) (h_q := h_667) (cl_q := 0) (sl_q := 0) rfl ?_
          exact ik_Wret rfl rfl ⟨_, _, rfl, rfl, rfl, rfl, ⟨b1, sh'_667, wh'_667, wo'_667, 0, rfl, g_667_47, n47, g_667_48, m_667_48, g_667_49, m_667_49, g_667_50, m_667_50, (by omega), fr_667⟩⟩
        · refine ik_Wk 2 (pc_q := 156) (loc_q := [some (.ref 45), some (fI 1), some (fI ((ow : Nat) : Int)), some (fI ((ot : Nat) : Int)), some (fI sz), some (fI co), some (fI kk), x7, none]) (st_q := [fI 1]) (h_q := h_667) (cl_q := 0) (sl_q := 0) rfl ?_
          exact ik_Wret rfl rfl ⟨_, _, rfl, rfl, rfl, rfl, ⟨b1, sh'_667, wh'_667, wo'_667, 1, rfl, g_667_47, n47, g_667_48, m_667_48, g_667_49, m_667_49, g_667_50, m_667_50, (by omega), fr_667⟩⟩
    · refine ik_Wk 2 (pc_q := 47) (loc_q := [some (.ref 45), some (fI 1), some (fI ((ow : Nat) : Int)), some (fI ((ot : Nat) : Int)), some (fI sz), some (fI co), some (fI kk), x7, none]) (st_q := [fI kk, fI ((ow : Nat) : Int)]) (h_q := u) (cl_q := 0) (sl_q := 0) rfl ?_
      refine fx_shr (n := ow) rfl (by omega) (by omega) (by omega) ?_
      refine ik_Wk 1 (pc_q := 49) (loc_q := [some (.ref 45), some (fI 1), some (fI ((ow : Nat) : Int)), some (fI ((ot : Nat) : Int)), some (fI sz), some (fI co), some (fI kk), x7, none]) (st_q := [fI 1, fI ((ow >>> kk.toNat : Nat) : Int)]) (h_q := u) (cl_q := 0) (sl_q := 0) rfl ?_
      refine fx_bit (n := ow) (k := kk.toNat) rfl (fun hb6 => ?_) (fun hb6 => ?_)
      · refine ik_Wk 0 (pc_q := 50) (loc_q := [some (.ref 45), some (fI 1), some (fI ((ow : Nat) : Int)), some (fI ((ot : Nat) : Int)), some (fI sz), some (fI co), some (fI kk), x7, none]) (st_q := [fI 1]) (h_q := u) (cl_q := 0) (sl_q := 0) rfl ?_
        refine fw_if_eq rfl rfl (by decide +kernel) (by decide +kernel) (fun hc7 => absurd hc7 (by decide +kernel)) (fun hc7 => ?_)
        refine ik_Wk 2 (pc_q := 57) (loc_q := [some (.ref 45), some (fI 1), some (fI ((ow : Nat) : Int)), some (fI ((ot : Nat) : Int)), some (fI sz), some (fI co), some (fI kk), x7, none]) (st_q := [fI co, fI sz]) (h_q := u) (cl_q := 0) (sl_q := 0) rfl ?_
        refine fw_add rfl ?_
        refine ik_Wk 1 (pc_q := 59) (loc_q := [some (.ref 45), some (fI 1), some (fI ((ow : Nat) : Int)), some (fI ((ot : Nat) : Int)), some (fI sz), some (fI co), some (fI kk), x7, none]) (st_q := [fI 2, fI (sz + co)]) (h_q := u) (cl_q := 0) (sl_q := 0) rfl ?_
        refine fx_irem rfl (by omega) (by omega) (by omega) (by omega) ?_
        refine fw_if_ne rfl rfl (by omega) (by omega) (fun hc8 => ?_) (fun hc8 => ?_)
        · refine ik_Wk 3 (pc_q := 68) (loc_q := [some (.ref 45), some (fI 1), some (fI ((ow : Nat) : Int)), some (fI ((ot : Nat) : Int)), some (fI sz), some (fI co), some (fI kk), x7, none]) (st_q := [fI co, fI sz, .ref 45]) (h_q := u) (cl_q := 0) (sl_q := 0) rfl ?_
          refine fw_call 49 3 0 [.ref 45, fI sz, fI co] [] rfl rfl rfl (Nat.le_of_ble_eq_true rfl) rfl rfl (fw_rec ul (fw_ftx rfl wv_n (wl_c rfl (wl_c rfl (wl_c rfl (wl_c rfl (wl_c rfl (wl_c rfl (wl_c rfl (wl_c w7 (wl_c rfl wl_n)))))))))) u45 rfl (by decide +kernel)) (cs_minor (sz := sz) (wt := co) (bo_ := b1) (by omega) (by omega) u45 u47 n47 ul) ?_
          rintro _ h_668 ⟨z_668, rfl, F_668⟩
          have k_668 : cL h_668 := F_668.1.trans ul
          have fr_668 := hfr_cb F F_668 rfl
          have g_668_45 := (hfr_g F_668 45 rfl).trans u45
          have g_668_46 := (hfr_g F_668 46 rfl).trans u46
          have g_668_47 := (hfr_g F_668 47 rfl).trans u47
          have g_668_48 := (hfr_g F_668 48 rfl).trans u48
          have g_668_49 := (hfr_g F_668 49 rfl).trans u49
          have g_668_50 := (hfr_g F_668 50 rfl).trans u50
          refine ik_Wk 0 (pc_q := 71) (loc_q := [some (.ref 45), some (fI 1), some (fI ((ow : Nat) : Int)), some (fI ((ot : Nat) : Int)), some (fI sz), some (fI co), some (fI kk), x7, none]) (st_q := [fJ z_668]) (h_q := h_668) (cl_q := 0) (sl_q := 0) rfl ?_
          refine ik_Wk 3 (pc_q := 86) (loc_q := [some (.ref 45), some (fI 1), some (fI ((ow : Nat) : Int)), some (fI ((ot : Nat) : Int)), some (fI sz), some (fI co), some (fI kk), some (fJ z_668), none]) (st_q := [.ref 45]) (h_q := h_668) (cl_q := 0) (sl_q := 0) rfl ?_
          refine fw_gf rfl rfl g_668_45 rfl ?_
          refine ik_Wk 2 (pc_q := 91) (loc_q := [some (.ref 45), some (fI 1), some (fI ((ow : Nat) : Int)), some (fI ((ot : Nat) : Int)), some (fI sz), some (fI co), some (fI kk), some (fJ z_668), none]) (st_q := [fI 3, fI 1, .ref 48]) (h_q := h_668) (cl_q := 0) (sl_q := 0) rfl ?_
          refine fw_mul rfl ?_
          refine ik_Wk 1 (pc_q := 94) (loc_q := [some (.ref 45), some (fI 1), some (fI ((ow : Nat) : Int)), some (fI ((ot : Nat) : Int)), some (fI sz), some (fI co), some (fI kk), some (fJ z_668), none]) (st_q := [fI kk, fI 3, .ref 48]) (h_q := h_668) (cl_q := 0) (sl_q := 0) rfl ?_
          refine fw_add rfl ?_
          refine ik_Wk 1 (pc_q := 97) (loc_q := [some (.ref 45), some (fI 1), some (fI ((ow : Nat) : Int)), some (fI ((ot : Nat) : Int)), some (fI sz), some (fI co), some (fI kk), some (fJ z_668), none]) (st_q := [fJ z_668, fI (3 + kk), .ref 48]) (h_q := h_668) (cl_q := 0) (sl_q := 0) rfl ?_
          have hl9 : (s1.set (3 + kk).toNat z_668).length = 6 := (List.length_set ..).trans n48
          refine fx_las rfl g_668_48 (by omega) (by omega) (by omega) ?_
          intro h_669 e_669 f_669 l_669
          have k_669 : cL h_669 := l_669.trans k_668
          have fr_669 := hfr_wb fr_668 f_669 l_669 rfl
          clear l_669
          have g_669_45 := (f_669 45 (Nat.ne_of_beq_eq_false rfl)).trans g_668_45
          have g_669_46 := (f_669 46 (Nat.ne_of_beq_eq_false rfl)).trans g_668_46
          have g_669_47 := (f_669 47 (Nat.ne_of_beq_eq_false rfl)).trans g_668_47
          have g_669_49 := (f_669 49 (Nat.ne_of_beq_eq_false rfl)).trans g_668_49
          have g_669_50 := (f_669 50 (Nat.ne_of_beq_eq_false rfl)).trans g_668_50
          have g_669_48 : cE h_669 48 (.inl (.long, fL (s1.set (3 + kk).toNat z_668))) := e_669
          refine ik_Wk 1 (pc_q := 99) (loc_q := [some (.ref 45), some (fI 1), some (fI ((ow : Nat) : Int)), some (fI ((ot : Nat) : Int)), some (fI sz), some (fI co), some (fI kk), some (fJ z_668), none]) (st_q := [.ref 45]) (h_q := h_669) (cl_q := 0) (sl_q := 0) rfl ?_
          refine fw_gf rfl rfl g_669_45 rfl ?_
          refine ik_Wk 2 (pc_q := 104) (loc_q := [some (.ref 45), some (fI 1), some (fI ((ow : Nat) : Int)), some (fI ((ot : Nat) : Int)), some (fI sz), some (fI co), some (fI kk), some (fJ z_668), none]) (st_q := [fI 1, .ref 49, fI 1, .ref 49]) (h_q := h_669) (cl_q := 0) (sl_q := 0) rfl ?_
          refine fx_lal rfl g_669_49 (by omega) (by omega) (by omega) ?_
          refine ik_Wk 1 (pc_q := 107) (loc_q := [some (.ref 45), some (fI 1), some (fI ((ow : Nat) : Int)), some (fI ((ot : Nat) : Int)), some (fI sz), some (fI co), some (fI kk), some (fJ z_668), none]) (st_q := [fJ z_668, fJ (t1.getD (1 : Int).toNat 0), fI 1, .ref 49]) (h_q := h_669) (cl_q := 0) (sl_q := 0) rfl ?_
          refine fw_ladd rfl ?_
          have hl10 : (t1.set (1 : Int).toNat ((t1.getD (1 : Int).toNat 0) + z_668)).length = 2 := (List.length_set ..).trans n49
          refine fx_las rfl g_669_49 (by omega) (by omega) (by omega) ?_
          intro h_670 e_670 f_670 l_670
          have k_670 : cL h_670 := l_670.trans k_669
          have fr_670 := hfr_wb fr_669 f_670 l_670 rfl
          clear l_670
          have g_670_45 := (f_670 45 (Nat.ne_of_beq_eq_false rfl)).trans g_669_45
          have g_670_46 := (f_670 46 (Nat.ne_of_beq_eq_false rfl)).trans g_669_46
          have g_670_47 := (f_670 47 (Nat.ne_of_beq_eq_false rfl)).trans g_669_47
          have g_670_48 := (f_670 48 (Nat.ne_of_beq_eq_false rfl)).trans g_669_48
          have g_670_50 := (f_670 50 (Nat.ne_of_beq_eq_false rfl)).trans g_669_50
          have g_670_49 : cE h_670 49 (.inl (.long, fL (t1.set (1 : Int).toNat ((t1.getD (1 : Int).toNat 0) + z_668)))) := e_670
          refine fw_inc (a := co) (loc_q := [some (.ref 45), some (fI 1), some (fI ((ow : Nat) : Int)), some (fI ((ot : Nat) : Int)), some (fI sz), some (fI (co + 1)), some (fI kk), some (fJ z_668), none]) rfl rfl (Nat.le_of_ble_eq_true rfl) rfl ?_
          refine fw_inc (a := kk) (loc_q := [some (.ref 45), some (fI 1), some (fI ((ow : Nat) : Int)), some (fI ((ot : Nat) : Int)), some (fI sz), some (fI (co + 1)), some (fI (kk + 1)), some (fJ z_668), none]) rfl rfl (Nat.le_of_ble_eq_true rfl) rfl ?_
          refine ik_Wk 1 (pc_q := 38) (loc_q := [some (.ref 45), some (fI 1), some (fI ((ow : Nat) : Int)), some (fI ((ot : Nat) : Int)), some (fI sz), some (fI (co + 1)), some (fI (kk + 1)), some (fJ z_668), none]) (st_q := []) (h_q := h_670) (cl_q := 0) (sl_q := 0) rfl ?_
          exact ih  (kk + 1) (co + 1) b1 (s1.set (3 + kk).toNat z_668) (t1.set (1 : Int).toNat ((t1.getD (1 : Int).toNat 0) + z_668)) u1 (some (fJ z_668)) h_670 g_670_45 g_670_46 n46 g_670_47 n47 g_670_48 hl9 g_670_49 hl10 g_670_50 n50 k_670 fr_670 (by omega) (by omega) rfl (by omega)
        · refine ik_Wk 3 (pc_q := 79) (loc_q := [some (.ref 45), some (fI 1), some (fI ((ow : Nat) : Int)), some (fI ((ot : Nat) : Int)), some (fI sz), some (fI co), some (fI kk), x7, none]) (st_q := [fI co, fI sz, .ref 45]) (h_q := u) (cl_q := 0) (sl_q := 0) rfl ?_
          refine fw_call 49 3 0 [.ref 45, fI sz, fI co] [] rfl rfl rfl (Nat.le_of_ble_eq_true rfl) rfl rfl (fw_rec ul (fw_ftx rfl wv_n (wl_c rfl (wl_c rfl (wl_c rfl (wl_c rfl (wl_c rfl (wl_c rfl (wl_c rfl (wl_c w7 (wl_c rfl wl_n)))))))))) u45 rfl (by decide +kernel)) (cs_minor (sz := sz) (wt := co) (bo_ := b1) (by omega) (by omega) u45 u47 n47 ul) ?_
          rintro _ h_671 ⟨z_671, rfl, F_671⟩
          have k_671 : cL h_671 := F_671.1.trans ul
          have fr_671 := hfr_cb F F_671 rfl
          have g_671_45 := (hfr_g F_671 45 rfl).trans u45
          have g_671_46 := (hfr_g F_671 46 rfl).trans u46
          have g_671_47 := (hfr_g F_671 47 rfl).trans u47
          have g_671_48 := (hfr_g F_671 48 rfl).trans u48
          have g_671_49 := (hfr_g F_671 49 rfl).trans u49
          have g_671_50 := (hfr_g F_671 50 rfl).trans u50
          refine ik_Wk 0 (pc_q := 82) (loc_q := [some (.ref 45), some (fI 1), some (fI ((ow : Nat) : Int)), some (fI ((ot : Nat) : Int)), some (fI sz), some (fI co), some (fI kk), x7, none]) (st_q := [fJ z_671]) (h_q := h_671) (cl_q := 0) (sl_q := 0) rfl ?_
          refine fx_lneg rfl ?_
          refine ik_Wk 2 (pc_q := 86) (loc_q := [some (.ref 45), some (fI 1), some (fI ((ow : Nat) : Int)), some (fI ((ot : Nat) : Int)), some (fI sz), some (fI co), some (fI kk), some (fJ (-z_671)), none]) (st_q := [.ref 45]) (h_q := h_671) (cl_q := 0) (sl_q := 0) rfl ?_
          refine fw_gf rfl rfl g_671_45 rfl ?_
          refine ik_Wk 2 (pc_q := 91) (loc_q := [some (.ref 45), some (fI 1), some (fI ((ow : Nat) : Int)), some (fI ((ot : Nat) : Int)), some (fI sz), some (fI co), some (fI kk), some (fJ (-z_671)), none]) (st_q := [fI 3, fI 1, .ref 48]) (h_q := h_671) (cl_q := 0) (sl_q := 0) rfl ?_
          refine fw_mul rfl ?_
          refine ik_Wk 1 (pc_q := 94) (loc_q := [some (.ref 45), some (fI 1), some (fI ((ow : Nat) : Int)), some (fI ((ot : Nat) : Int)), some (fI sz), some (fI co), some (fI kk), some (fJ (-z_671)), none]) (st_q := [fI kk, fI 3, .ref 48]) (h_q := h_671) (cl_q := 0) (sl_q := 0) rfl ?_
          refine fw_add rfl ?_
          refine ik_Wk 1 (pc_q := 97) (loc_q := [some (.ref 45), some (fI 1), some (fI ((ow : Nat) : Int)), some (fI ((ot : Nat) : Int)), some (fI sz), some (fI co), some (fI kk), some (fJ (-z_671)), none]) (st_q := [fJ (-z_671), fI (3 + kk), .ref 48]) (h_q := h_671) (cl_q := 0) (sl_q := 0) rfl ?_
          have hl11 : (s1.set (3 + kk).toNat (-z_671)).length = 6 := (List.length_set ..).trans n48
          refine fx_las rfl g_671_48 (by omega) (by omega) (by omega) ?_
          intro h_672 e_672 f_672 l_672
          have k_672 : cL h_672 := l_672.trans k_671
          have fr_672 := hfr_wb fr_671 f_672 l_672 rfl
          clear l_672
          have g_672_45 := (f_672 45 (Nat.ne_of_beq_eq_false rfl)).trans g_671_45
          have g_672_46 := (f_672 46 (Nat.ne_of_beq_eq_false rfl)).trans g_671_46
          have g_672_47 := (f_672 47 (Nat.ne_of_beq_eq_false rfl)).trans g_671_47
          have g_672_49 := (f_672 49 (Nat.ne_of_beq_eq_false rfl)).trans g_671_49
          have g_672_50 := (f_672 50 (Nat.ne_of_beq_eq_false rfl)).trans g_671_50
          have g_672_48 : cE h_672 48 (.inl (.long, fL (s1.set (3 + kk).toNat (-z_671)))) := e_672
          refine ik_Wk 1 (pc_q := 99) (loc_q := [some (.ref 45), some (fI 1), some (fI ((ow : Nat) : Int)), some (fI ((ot : Nat) : Int)), some (fI sz), some (fI co), some (fI kk), some (fJ (-z_671)), none]) (st_q := [.ref 45]) (h_q := h_672) (cl_q := 0) (sl_q := 0) rfl ?_
          refine fw_gf rfl rfl g_672_45 rfl ?_
          refine ik_Wk 2 (pc_q := 104) (loc_q := [some (.ref 45), some (fI 1), some (fI ((ow : Nat) : Int)), some (fI ((ot : Nat) : Int)), some (fI sz), some (fI co), some (fI kk), some (fJ (-z_671)), none]) (st_q := [fI 1, .ref 49, fI 1, .ref 49]) (h_q := h_672) (cl_q := 0) (sl_q := 0) rfl ?_
          refine fx_lal rfl g_672_49 (by omega) (by omega) (by omega) ?_
          refine ik_Wk 1 (pc_q := 107) (loc_q := [some (.ref 45), some (fI 1), some (fI ((ow : Nat) : Int)), some (fI ((ot : Nat) : Int)), some (fI sz), some (fI co), some (fI kk), some (fJ (-z_671)), none]) (st_q := [fJ (-z_671), fJ (t1.getD (1 : Int).toNat 0), fI 1, .ref 49]) (h_q := h_672) (cl_q := 0) (sl_q := 0) rfl ?_
          refine fw_ladd rfl ?_
          have hl12 : (t1.set (1 : Int).toNat ((t1.getD (1 : Int).toNat 0) + (-z_671))).length = 2 := (List.length_set ..).trans n49
          refine fx_las rfl g_672_49 (by omega) (by omega) (by omega) ?_
          intro h_673 e_673 f_673 l_673
          have k_673 : cL h_673 := l_673.trans k_672
          have fr_673 := hfr_wb fr_672 f_673 l_673 rfl
          clear l_673
          have g_673_45 := (f_673 45 (Nat.ne_of_beq_eq_false rfl)).trans g_672_45
          have g_673_46 := (f_673 46 (Nat.ne_of_beq_eq_false rfl)).trans g_672_46
          have g_673_47 := (f_673 47 (Nat.ne_of_beq_eq_false rfl)).trans g_672_47
          have g_673_48 := (f_673 48 (Nat.ne_of_beq_eq_false rfl)).trans g_672_48
          have g_673_50 := (f_673 50 (Nat.ne_of_beq_eq_false rfl)).trans g_672_50
          have g_673_49 : cE h_673 49 (.inl (.long, fL (t1.set (1 : Int).toNat ((t1.getD (1 : Int).toNat 0) + (-z_671))))) := e_673
          refine fw_inc (a := co) (loc_q := [some (.ref 45), some (fI 1), some (fI ((ow : Nat) : Int)), some (fI ((ot : Nat) : Int)), some (fI sz), some (fI (co + 1)), some (fI kk), some (fJ (-z_671)), none]) rfl rfl (Nat.le_of_ble_eq_true rfl) rfl ?_
          refine fw_inc (a := kk) (loc_q := [some (.ref 45), some (fI 1), some (fI ((ow : Nat) : Int)), some (fI ((ot : Nat) : Int)), some (fI sz), some (fI (co + 1)), some (fI (kk + 1)), some (fJ (-z_671)), none]) rfl rfl (Nat.le_of_ble_eq_true rfl) rfl ?_
          refine ik_Wk 1 (pc_q := 38) (loc_q := [some (.ref 45), some (fI 1), some (fI ((ow : Nat) : Int)), some (fI ((ot : Nat) : Int)), some (fI sz), some (fI (co + 1)), some (fI (kk + 1)), some (fJ (-z_671)), none]) (st_q := []) (h_q := h_673) (cl_q := 0) (sl_q := 0) rfl ?_
          exact ih  (kk + 1) (co + 1) b1 (s1.set (3 + kk).toNat (-z_671)) (t1.set (1 : Int).toNat ((t1.getD (1 : Int).toNat 0) + (-z_671))) u1 (some (fJ (-z_671))) h_673 g_673_45 g_673_46 n46 g_673_47 n47 g_673_48 hl11 g_673_49 hl12 g_673_50 n50 k_673 fr_673 (by omega) (by omega) rfl (by omega)
      · refine ik_Wk 0 (pc_q := 50) (loc_q := [some (.ref 45), some (fI 1), some (fI ((ow : Nat) : Int)), some (fI ((ot : Nat) : Int)), some (fI sz), some (fI co), some (fI kk), x7, none]) (st_q := [fI 0]) (h_q := u) (cl_q := 0) (sl_q := 0) rfl ?_
        refine fw_if_eq rfl rfl (by decide +kernel) (by decide +kernel) (fun hc13 => ?_) (fun hc13 => absurd hc13 (by decide +kernel))
        refine fw_inc (a := kk) (loc_q := [some (.ref 45), some (fI 1), some (fI ((ow : Nat) : Int)), some (fI ((ot : Nat) : Int)), some (fI sz), some (fI co), some (fI (kk + 1)), x7, none]) rfl rfl (Nat.le_of_ble_eq_true rfl) rfl ?_
        refine ik_Wk 1 (pc_q := 38) (loc_q := [some (.ref 45), some (fI 1), some (fI ((ow : Nat) : Int)), some (fI ((ot : Nat) : Int)), some (fI sz), some (fI co), some (fI (kk + 1)), x7, none]) (st_q := []) (h_q := u) (cl_q := 0) (sl_q := 0) rfl ?_
        exact ih  (kk + 1) co b1 s1 t1 u1 x7 u u45 u46 n46 u47 n47 u48 n48 u49 n49 u50 n50 ul F (by omega) (by omega) w7 (by omega)

theorem cs_solve1 {h : List ik_E} {ow : Nat} {ot : Nat} {sz : Int} {fe : List Int} {bo_ : List Int} {sh : List Int} {wh : List Int} {wo : List Int} (q0 : 1 ≤ sz ∧ sz ≤ 3) (q1 : ow < 8) (q2 : ot < 8) (q3 : ∀ i : Int, (0 : Int) ≤ i → i < (9 : Int) → 0 ≤ fe.getD i.toNat 0 ∧ fe.getD i.toNat 0 ≤ 1000) (h45 : cE h 45 (.inr (5, [.ref 46, .ref 47, .ref 48, .ref 49, .ref 50]))) (h46 : cE h 46 (.inl (.int, fA fe))) (n46 : fe.length = (9 : Nat)) (h47 : cE h 47 (.inl (.long, fL bo_))) (n47 : bo_.length = (12 : Nat)) (h48 : cE h 48 (.inl (.long, fL sh))) (n48 : sh.length = (6 : Nat)) (h49 : cE h 49 (.inl (.long, fL wh))) (n49 : wh.length = (2 : Nat)) (h50 : cE h 50 (.inl (.long, fL wo))) (n50 : wo.length = (2 : Nat)) (hl : h.length = (94 : Nat)) : ik_F 46 [.ref 45, fI 1, fI ((ow : Nat) : Int), fI ((ot : Nat) : Int), fI sz] h (fun rv h_q => ∃ (bo' : List Int) (sh' : List Int) (wh' : List Int) (wo' : List Int) (b : Int), rv = [fI b] ∧ cE h_q 47 (.inl (.long, fL bo')) ∧ bo'.length = (12 : Nat) ∧ cE h_q 48 (.inl (.long, fL sh')) ∧ sh'.length = (6 : Nat) ∧ cE h_q 49 (.inl (.long, fL wh')) ∧ wh'.length = (2 : Nat) ∧ cE h_q 50 (.inl (.long, fL wo')) ∧ wo'.length = (2 : Nat) ∧ ((0 : Int) ≤ b ∧ b ≤ (1 : Int)) ∧ hfr [47, 48, 49, 50] h h_q) := by
  refine ik_Wk 5 (pc_q := 6) (loc_q := [some (.ref 45), some (fI 1), some (fI ((ow : Nat) : Int)), some (fI ((ot : Nat) : Int)), some (fI sz), none, none, none, none]) (st_q := [fI sz, fI ((ot : Nat) : Int), fI ((ow : Nat) : Int), fI 1, .ref 45]) (h_q := h) (cl_q := 0) (sl_q := 0) rfl ?_
  refine fw_call 47 5 0 [.ref 45, fI 1, fI ((ow : Nat) : Int), fI ((ot : Nat) : Int), fI sz] [] rfl rfl rfl (Nat.le_of_ble_eq_true rfl) rfl rfl (fw_rec hl rfl h45 rfl (Nat.le_of_ble_eq_true rfl)) (cs_fillBoard1 (ow := ow) (ot := ot) (sz := sz) (fe := fe) (bo_ := bo_) (by omega) (by omega) (by omega) q3 h45 h46 n46 h47 n47 hl) ?_
  rintro _ h_674 ⟨bo'_674, rfl, e_674_47, m_674_47, F_674⟩
  have k_674 : cL h_674 := F_674.1.trans hl
  have fr_674 := hfr_cb (hfr_refl [47, 48, 49, 50] h) F_674 rfl
  have g_674_45 := (hfr_g F_674 45 rfl).trans h45
  have g_674_46 := (hfr_g F_674 46 rfl).trans h46
  have g_674_48 := (hfr_g F_674 48 rfl).trans h48
  have g_674_49 := (hfr_g F_674 49 rfl).trans h49
  have g_674_50 := (hfr_g F_674 50 rfl).trans h50
  have g_674_47 : cE h_674 47 (.inl (.long, fL bo'_674)) := e_674_47
  refine ik_Wk 0 (pc_q := 9) (loc_q := [some (.ref 45), some (fI 1), some (fI ((ow : Nat) : Int)), some (fI ((ot : Nat) : Int)), some (fI sz), none, none, none, none]) (st_q := []) (h_q := h_674) (cl_q := 0) (sl_q := 0) rfl ?_
  refine ik_Wk 1 (pc_q := 10) (loc_q := [some (.ref 45), some (fI 1), some (fI ((ow : Nat) : Int)), some (fI ((ot : Nat) : Int)), some (fI sz), none, none, none, none]) (st_q := [.ref 45]) (h_q := h_674) (cl_q := 0) (sl_q := 0) rfl ?_
  refine fw_gf rfl rfl g_674_45 rfl ?_
  refine ik_Wk 2 (pc_q := 15) (loc_q := [some (.ref 45), some (fI 1), some (fI ((ow : Nat) : Int)), some (fI ((ot : Nat) : Int)), some (fI sz), none, none, none, none]) (st_q := [fI 3, fI 1, .ref 48]) (h_q := h_674) (cl_q := 0) (sl_q := 0) rfl ?_
  refine fw_mul rfl ?_
  refine ik_Wk 2 (pc_q := 18) (loc_q := [some (.ref 45), some (fI 1), some (fI ((ow : Nat) : Int)), some (fI ((ot : Nat) : Int)), some (fI sz), none, none, none, none]) (st_q := [fI 3, fI 1, fI 3, .ref 48]) (h_q := h_674) (cl_q := 0) (sl_q := 0) rfl ?_
  refine fw_mul rfl ?_
  refine ik_Wk 1 (pc_q := 20) (loc_q := [some (.ref 45), some (fI 1), some (fI ((ow : Nat) : Int)), some (fI ((ot : Nat) : Int)), some (fI sz), none, none, none, none]) (st_q := [fI 3, fI 3, fI 3, .ref 48]) (h_q := h_674) (cl_q := 0) (sl_q := 0) rfl ?_
  refine fw_add rfl ?_
  refine fw_lc (z := 0) rfl (by decide +kernel) ?_
  refine ik_Wc 224 4 3 [.ref 48, fI 3, fI 6, fJ 0] [] rfl rfl rfl (by decide +kernel) rfl rfl (fw_sta k_674 rfl (by decide +kernel)) ?_
  refine ik_Wk 0 (pc_q := 0) (loc_q := [some (.ref 48), some (fI 3), some (fI 6), some (fJ 0), none, none]) (st_q := []) (h_q := h_674) (cl_q := 0) (sl_q := 0) rfl ?_
  refine ik_Wk 1 (pc_q := 1) (loc_q := [some (.ref 48), some (fI 3), some (fI 6), some (fJ 0), none, none]) (st_q := [.ref 48]) (h_q := h_674) (cl_q := 0) (sl_q := 0) rfl ?_
  refine fx_aln rfl g_674_48 ((fL_len _).trans n48) (by decide +kernel) ?_
  refine ik_Wk 2 (pc_q := 4) (loc_q := [some (.ref 48), some (fI 3), some (fI 6), some (fJ 0), none, none]) (st_q := [fI 6, fI 3, fI 6]) (h_q := h_674) (cl_q := 0) (sl_q := 0) rfl ?_
  refine ik_Wc 222 3 3 [fI 6, fI 3, fI 6] [] rfl rfl rfl (by decide +kernel) rfl rfl (fw_sta k_674 rfl (by decide +kernel)) ?_
  refine ik_Wk 0 (pc_q := 0) (loc_q := [some (fI 6), some (fI 3), some (fI 6)]) (st_q := []) (h_q := h_674) (cl_q := 0) (sl_q := 0) rfl ?_
  refine ik_Wk 2 (pc_q := 2) (loc_q := [some (fI 6), some (fI 3), some (fI 6)]) (st_q := [fI 6, fI 3]) (h_q := h_674) (cl_q := 0) (sl_q := 0) rfl ?_
  refine fw_ic_le rfl rfl (by decide +kernel) (by decide +kernel) (by decide +kernel) (by decide +kernel) (fun hc1 => ?_) (fun hc1 => absurd hc1 (by decide +kernel))
  refine ik_Wk 1 (pc_q := 47) (loc_q := [some (fI 6), some (fI 3), some (fI 6)]) (st_q := [fI 3]) (h_q := h_674) (cl_q := 0) (sl_q := 0) rfl ?_
  refine fw_if_ge rfl rfl (by decide +kernel) (by decide +kernel) (fun hc2 => ?_) (fun hc2 => absurd hc2 (by decide +kernel))
  refine ik_Wk 2 (pc_q := 61) (loc_q := [some (fI 6), some (fI 3), some (fI 6)]) (st_q := [fI 6, fI 6]) (h_q := h_674) (cl_q := 0) (sl_q := 0) rfl ?_
  refine fw_ic_le rfl rfl (by decide +kernel) (by decide +kernel) (by decide +kernel) (by decide +kernel) (fun hc3 => ?_) (fun hc3 => absurd hc3 (by decide +kernel))
  refine ik_Wret rfl rfl ⟨_, _, rfl, rfl, ?_⟩
  refine ik_Wk 0 (pc_q := 7) (loc_q := [some (.ref 48), some (fI 3), some (fI 6), some (fJ 0), none, none]) (st_q := []) (h_q := h_674) (cl_q := 0) (sl_q := 0) rfl ?_
  refine ik_Wk 4 (pc_q := 13) (loc_q := [some (.ref 48), some (fI 3), some (fI 6), some (fJ 0), none, some (fI 3)]) (st_q := [fI 6, fI 3]) (h_q := h_674) (cl_q := 0) (sl_q := 0) rfl ?_
  refine fw_ic_ge rfl rfl (by decide +kernel) (by decide +kernel) (by decide +kernel) (by decide +kernel) (fun hc4 => absurd hc4 (by decide +kernel)) (fun hc4 => ?_)
  refine ik_Wk 3 (pc_q := 20) (loc_q := [some (.ref 48), some (fI 3), some (fI 6), some (fJ 0), none, some (fI 3)]) (st_q := [fJ 0, fI 3, .ref 48]) (h_q := h_674) (cl_q := 0) (sl_q := 0) rfl ?_
  have hl5 : (sh.set (3 : Int).toNat 0).length = 6 := (List.length_set ..).trans n48
  refine fx_las rfl g_674_48 (by omega) (by omega) (by omega) ?_
  intro h_675 e_675 f_675 l_675
  have k_675 : cL h_675 := l_675.trans k_674
  have fr_675 := hfr_wb fr_674 f_675 l_675 rfl
  clear l_675
  have g_675_45 := (f_675 45 (Nat.ne_of_beq_eq_false rfl)).trans g_674_45
  have g_675_46 := (f_675 46 (Nat.ne_of_beq_eq_false rfl)).trans g_674_46
  have g_675_47 := (f_675 47 (Nat.ne_of_beq_eq_false rfl)).trans g_674_47
  have g_675_49 := (f_675 49 (Nat.ne_of_beq_eq_false rfl)).trans g_674_49
  have g_675_50 := (f_675 50 (Nat.ne_of_beq_eq_false rfl)).trans g_674_50
  have g_675_48 : cE h_675 48 (.inl (.long, fL (sh.set (3 : Int).toNat 0))) := e_675
  refine fw_inc (a := 3) (loc_q := [some (.ref 48), some (fI 3), some (fI 6), some (fJ 0), none, some (fI 4)]) rfl rfl (Nat.le_of_ble_eq_true rfl) rfl ?_
  refine ik_Wk 3 (pc_q := 13) (loc_q := [some (.ref 48), some (fI 3), some (fI 6), some (fJ 0), none, some (fI 4)]) (st_q := [fI 6, fI 4]) (h_q := h_675) (cl_q := 0) (sl_q := 0) rfl ?_
  refine fw_ic_ge rfl rfl (by decide +kernel) (by decide +kernel) (by decide +kernel) (by decide +kernel) (fun hc6 => absurd hc6 (by decide +kernel)) (fun hc6 => ?_)
  refine ik_Wk 3 (pc_q := 20) (loc_q := [some (.ref 48), some (fI 3), some (fI 6), some (fJ 0), none, some (fI 4)]) (st_q := [fJ 0, fI 4, .ref 48]) (h_q := h_675) (cl_q := 0) (sl_q := 0) rfl ?_
  have hl7 : ((sh.set (3 : Int).toNat 0).set (4 : Int).toNat 0).length = 6 := (List.length_set ..).trans hl5
  refine fx_las rfl g_675_48 (by omega) (by omega) (by omega) ?_
  intro h_676 e_676 f_676 l_676
  have k_676 : cL h_676 := l_676.trans k_675
  have fr_676 := hfr_wb fr_675 f_676 l_676 rfl
  clear l_676
  have g_676_45 := (f_676 45 (Nat.ne_of_beq_eq_false rfl)).trans g_675_45
  have g_676_46 := (f_676 46 (Nat.ne_of_beq_eq_false rfl)).trans g_675_46
  have g_676_47 := (f_676 47 (Nat.ne_of_beq_eq_false rfl)).trans g_675_47
  have g_676_49 := (f_676 49 (Nat.ne_of_beq_eq_false rfl)).trans g_675_49
  have g_676_50 := (f_676 50 (Nat.ne_of_beq_eq_false rfl)).trans g_675_50
  have g_676_48 : cE h_676 48 (.inl (.long, fL ((sh.set (3 : Int).toNat 0).set (4 : Int).toNat 0))) := e_676
  refine fw_inc (a := 4) (loc_q := [some (.ref 48), some (fI 3), some (fI 6), some (fJ 0), none, some (fI 5)]) rfl rfl (Nat.le_of_ble_eq_true rfl) rfl ?_
  refine ik_Wk 3 (pc_q := 13) (loc_q := [some (.ref 48), some (fI 3), some (fI 6), some (fJ 0), none, some (fI 5)]) (st_q := [fI 6, fI 5]) (h_q := h_676) (cl_q := 0) (sl_q := 0) rfl ?_
  refine fw_ic_ge rfl rfl (by decide +kernel) (by decide +kernel) (by decide +kernel) (by decide +kernel) (fun hc8 => absurd hc8 (by decide +kernel)) (fun hc8 => ?_)
  refine ik_Wk 3 (pc_q := 20) (loc_q := [some (.ref 48), some (fI 3), some (fI 6), some (fJ 0), none, some (fI 5)]) (st_q := [fJ 0, fI 5, .ref 48]) (h_q := h_676) (cl_q := 0) (sl_q := 0) rfl ?_
  have hl9 : (((sh.set (3 : Int).toNat 0).set (4 : Int).toNat 0).set (5 : Int).toNat 0).length = 6 := (List.length_set ..).trans hl7
  refine fx_las rfl g_676_48 (by omega) (by omega) (by omega) ?_
  intro h_677 e_677 f_677 l_677
  have k_677 : cL h_677 := l_677.trans k_676
  have fr_677 := hfr_wb fr_676 f_677 l_677 rfl
  clear l_677
  have g_677_45 := (f_677 45 (Nat.ne_of_beq_eq_false rfl)).trans g_676_45
  have g_677_46 := (f_677 46 (Nat.ne_of_beq_eq_false rfl)).trans g_676_46
  have g_677_47 := (f_677 47 (Nat.ne_of_beq_eq_false rfl)).trans g_676_47
  have g_677_49 := (f_677 49 (Nat.ne_of_beq_eq_false rfl)).trans g_676_49
  have g_677_50 := (f_677 50 (Nat.ne_of_beq_eq_false rfl)).trans g_676_50
  have g_677_48 : cE h_677 48 (.inl (.long, fL (((sh.set (3 : Int).toNat 0).set (4 : Int).toNat 0).set (5 : Int).toNat 0))) := e_677
  refine fw_inc (a := 5) (loc_q := [some (.ref 48), some (fI 3), some (fI 6), some (fJ 0), none, some (fI 6)]) rfl rfl (Nat.le_of_ble_eq_true rfl) rfl ?_
  refine ik_Wk 3 (pc_q := 13) (loc_q := [some (.ref 48), some (fI 3), some (fI 6), some (fJ 0), none, some (fI 6)]) (st_q := [fI 6, fI 6]) (h_q := h_677) (cl_q := 0) (sl_q := 0) rfl ?_
  refine fw_ic_ge rfl rfl (by decide +kernel) (by decide +kernel) (by decide +kernel) (by decide +kernel) (fun hc10 => ?_) (fun hc10 => absurd hc10 (by decide +kernel))
  refine ik_Wret rfl rfl ⟨_, _, rfl, rfl, ?_⟩
  refine ik_Wk 0 (pc_q := 25) (loc_q := [some (.ref 45), some (fI 1), some (fI ((ow : Nat) : Int)), some (fI ((ot : Nat) : Int)), some (fI sz), none, none, none, none]) (st_q := []) (h_q := h_677) (cl_q := 0) (sl_q := 0) rfl ?_
  refine ik_Wk 1 (pc_q := 26) (loc_q := [some (.ref 45), some (fI 1), some (fI ((ow : Nat) : Int)), some (fI ((ot : Nat) : Int)), some (fI sz), none, none, none, none]) (st_q := [.ref 45]) (h_q := h_677) (cl_q := 0) (sl_q := 0) rfl ?_
  refine fw_gf rfl rfl g_677_45 rfl ?_
  refine ik_Wk 1 (pc_q := 30) (loc_q := [some (.ref 45), some (fI 1), some (fI ((ow : Nat) : Int)), some (fI ((ot : Nat) : Int)), some (fI sz), none, none, none, none]) (st_q := [fI 1, .ref 49]) (h_q := h_677) (cl_q := 0) (sl_q := 0) rfl ?_
  refine fw_lc (z := 0) rfl (by decide +kernel) ?_
  have hl11 : (wh.set (1 : Int).toNat 0).length = 2 := (List.length_set ..).trans n49
  refine fx_las rfl g_677_49 (by omega) (by omega) (by omega) ?_
  intro h_678 e_678 f_678 l_678
  have k_678 : cL h_678 := l_678.trans k_677
  have fr_678 := hfr_wb fr_677 f_678 l_678 rfl
  clear l_678
  have g_678_45 := (f_678 45 (Nat.ne_of_beq_eq_false rfl)).trans g_677_45
  have g_678_46 := (f_678 46 (Nat.ne_of_beq_eq_false rfl)).trans g_677_46
  have g_678_47 := (f_678 47 (Nat.ne_of_beq_eq_false rfl)).trans g_677_47
  have g_678_48 := (f_678 48 (Nat.ne_of_beq_eq_false rfl)).trans g_677_48
  have g_678_50 := (f_678 50 (Nat.ne_of_beq_eq_false rfl)).trans g_677_50
  have g_678_49 : cE h_678 49 (.inl (.long, fL (wh.set (1 : Int).toNat 0))) := e_678
  refine ik_Wk 4 (pc_q := 38) (loc_q := [some (.ref 45), some (fI 1), some (fI ((ow : Nat) : Int)), some (fI ((ot : Nat) : Int)), some (fI sz), some (fI 0), some (fI 0), none, none]) (st_q := []) (h_q := h_678) (cl_q := 0) (sl_q := 0) rfl ?_
  exact cs_solve1L (ow := ow) (ot := ot) (sz := sz) (fe := fe) (bo_ := bo_) (sh := sh) (wh := wh) (wo := wo) q0 q1 q2 q3  4 0 0 bo'_674 (((sh.set (3 : Int).toNat 0).set (4 : Int).toNat 0).set (5 : Int).toNat 0) (wh.set (1 : Int).toNat 0) wo none h_678 g_678_45 g_678_46 n46 g_678_47 m_674_47 g_678_48 hl9 g_678_49 hl11 g_678_50 n50 k_678 fr_678 (by omega) (by omega) rfl (by omega)

theorem cs_noneBetterL {h : List ik_E} {sa : Nat} {sb : Nat} {n : Int} {fe : List Int} {bo_ : List Int} {sh : List Int} {wh : List Int} {wo : List Int} (q0 : 1 ≤ n ∧ n ≤ 3) (q1 : sa < 8) (q2 : sb < 8) (q3 : ∀ i : Int, (0 : Int) ≤ i → i < (9 : Int) → 0 ≤ fe.getD i.toNat 0 ∧ fe.getD i.toNat 0 ≤ 1000)  : ∀ (k : Nat) (kk : Int) (u : List ik_E) (u45 : cE u 45 (.inr (5, [.ref 46, .ref 47, .ref 48, .ref 49, .ref 50]))) (u46 : cE u 46 (.inl (.int, fA fe))) (n46 : fe.length = (9 : Nat)) (u47 : cE u 47 (.inl (.long, fL bo_))) (n47 : bo_.length = (12 : Nat)) (u48 : cE u 48 (.inl (.long, fL sh))) (n48 : sh.length = (6 : Nat)) (u49 : cE u 49 (.inl (.long, fL wh))) (n49 : wh.length = (2 : Nat)) (u50 : cE u 50 (.inl (.long, fL wo))) (n50 : wo.length = (2 : Nat)) (ul : u.length = (94 : Nat)) (F : hfr [] h u) (hk2 : (0 : Int) ≤ kk ∧ kk ≤ n) (hk : n - kk < (k : Int)), ik_G 51 3 [some (.ref 45), some (fI ((sa : Nat) : Int)), some (fI ((sb : Nat) : Int)), some (fI n), some (fI kk)] [] u (fun rv h_q => ∃ (b : Int), rv = [fI b] ∧ ((0 : Int) ≤ b ∧ b ≤ (1 : Int)) ∧ hfr [] h h_q) := by
  intro k
  induction k with
  | zero => intro kk u u45 u46 n46 u47 n47 u48 n48 u49 n49 u50 n50 ul F hk2 hk; omega
  | succ k ih =>
    intro kk u u45 u46 n46 u47 n47 u48 n48 u49 n49 u50 n50 ul F hk2 hk
    refine ik_Wk 2 (pc_q := 6) (loc_q := [some (.ref 45), some (fI ((sa : Nat) : Int)), some (fI ((sb : Nat) : Int)), some (fI n), some (fI kk)]) (st_q := [fI n, fI kk]) (h_q := u) (cl_q := 0) (sl_q := 0) rfl ?_
    refine fw_ic_ge rfl rfl (by omega) (by omega) (by omega) (by omega) (fun hc1 => ?_) (fun hc1 => ?_)
    · refine ik_Wk 1 (pc_q := 72) (loc_q := [some (.ref 45), some (fI ((sa : Nat) : Int)), some (fI ((sb : Nat) : Int)), some (fI n), some (fI kk)]) (st_q := [fI 1]) (h_q := u) (cl_q := 0) (sl_q := 0) rfl ?_
      exact ik_Wret rfl rfl ⟨_, _, rfl, rfl, rfl, rfl, ⟨1, rfl, (by omega), F⟩⟩
    · refine ik_Wk 2 (pc_q := 12) (loc_q := [some (.ref 45), some (fI ((sa : Nat) : Int)), some (fI ((sb : Nat) : Int)), some (fI n), some (fI kk)]) (st_q := [fI kk, fI ((sa : Nat) : Int)]) (h_q := u) (cl_q := 0) (sl_q := 0) rfl ?_
      refine fx_shr (n := sa) rfl (by omega) (by omega) (by omega) ?_
      refine ik_Wk 1 (pc_q := 14) (loc_q := [some (.ref 45), some (fI ((sa : Nat) : Int)), some (fI ((sb : Nat) : Int)), some (fI n), some (fI kk)]) (st_q := [fI 1, fI ((sa >>> kk.toNat : Nat) : Int)]) (h_q := u) (cl_q := 0) (sl_q := 0) rfl ?_
      refine fx_bit (n := sa) (k := kk.toNat) rfl (fun hb2 => ?_) (fun hb2 => ?_)
      · refine ik_Wk 0 (pc_q := 15) (loc_q := [some (.ref 45), some (fI ((sa : Nat) : Int)), some (fI ((sb : Nat) : Int)), some (fI n), some (fI kk)]) (st_q := [fI 1]) (h_q := u) (cl_q := 0) (sl_q := 0) rfl ?_
        refine fw_if_ne rfl rfl (by decide +kernel) (by decide +kernel) (fun hc3 => absurd hc3 (by decide +kernel)) (fun hc3 => ?_)
        refine ik_Wk 2 (pc_q := 40) (loc_q := [some (.ref 45), some (fI ((sa : Nat) : Int)), some (fI ((sb : Nat) : Int)), some (fI n), some (fI kk)]) (st_q := [fI kk, fI ((sb : Nat) : Int)]) (h_q := u) (cl_q := 0) (sl_q := 0) rfl ?_
        refine fx_shr (n := sb) rfl (by omega) (by omega) (by omega) ?_
        refine ik_Wk 1 (pc_q := 42) (loc_q := [some (.ref 45), some (fI ((sa : Nat) : Int)), some (fI ((sb : Nat) : Int)), some (fI n), some (fI kk)]) (st_q := [fI 1, fI ((sb >>> kk.toNat : Nat) : Int)]) (h_q := u) (cl_q := 0) (sl_q := 0) rfl ?_
        refine fx_bit (n := sb) (k := kk.toNat) rfl (fun hb4 => ?_) (fun hb4 => ?_)
        · refine ik_Wk 0 (pc_q := 43) (loc_q := [some (.ref 45), some (fI ((sa : Nat) : Int)), some (fI ((sb : Nat) : Int)), some (fI n), some (fI kk)]) (st_q := [fI 1]) (h_q := u) (cl_q := 0) (sl_q := 0) rfl ?_
          refine fw_if_ne rfl rfl (by decide +kernel) (by decide +kernel) (fun hc5 => absurd hc5 (by decide +kernel)) (fun hc5 => ?_)
          refine fw_inc (a := kk) (loc_q := [some (.ref 45), some (fI ((sa : Nat) : Int)), some (fI ((sb : Nat) : Int)), some (fI n), some (fI (kk + 1))]) rfl rfl (Nat.le_of_ble_eq_true rfl) rfl ?_
          refine ik_Wk 1 (pc_q := 3) (loc_q := [some (.ref 45), some (fI ((sa : Nat) : Int)), some (fI ((sb : Nat) : Int)), some (fI n), some (fI (kk + 1))]) (st_q := []) (h_q := u) (cl_q := 0) (sl_q := 0) rfl ?_
          exact ih  (kk + 1) u u45 u46 n46 u47 n47 u48 n48 u49 n49 u50 n50 ul F (by omega) (by omega)
        · refine ik_Wk 0 (pc_q := 43) (loc_q := [some (.ref 45), some (fI ((sa : Nat) : Int)), some (fI ((sb : Nat) : Int)), some (fI n), some (fI kk)]) (st_q := [fI 0]) (h_q := u) (cl_q := 0) (sl_q := 0) rfl ?_
          refine fw_if_ne rfl rfl (by decide +kernel) (by decide +kernel) (fun hc6 => ?_) (fun hc6 => absurd hc6 (by decide +kernel))
          refine ik_Wk 3 (pc_q := 50) (loc_q := [some (.ref 45), some (fI ((sa : Nat) : Int)), some (fI ((sb : Nat) : Int)), some (fI n), some (fI kk)]) (st_q := [fI kk, fI 0, .ref 45]) (h_q := u) (cl_q := 0) (sl_q := 0) rfl ?_
          refine fw_call 52 3 0 [.ref 45, fI 0, fI kk] [] rfl rfl rfl (Nat.le_of_ble_eq_true rfl) rfl rfl (fw_rec ul rfl u45 rfl (Nat.le_of_ble_eq_true rfl)) (cs_worthBy0 (j := kk) (fe := fe) (sh := sh) (by omega) q3 u45 u46 n46 u48 n48 ul) ?_
          rintro _ h_679 ⟨z_679, rfl, F_679⟩
          have k_679 : cL h_679 := F_679.1.trans ul
          have fr_679 := hfr_cb F F_679 rfl
          have g_679_45 := (hfr_g F_679 45 rfl).trans u45
          have g_679_46 := (hfr_g F_679 46 rfl).trans u46
          have g_679_47 := (hfr_g F_679 47 rfl).trans u47
          have g_679_48 := (hfr_g F_679 48 rfl).trans u48
          have g_679_49 := (hfr_g F_679 49 rfl).trans u49
          have g_679_50 := (hfr_g F_679 50 rfl).trans u50
          refine ik_Wk 0 (pc_q := 53) (loc_q := [some (.ref 45), some (fI ((sa : Nat) : Int)), some (fI ((sb : Nat) : Int)), some (fI n), some (fI kk)]) (st_q := [fJ z_679]) (h_q := h_679) (cl_q := 0) (sl_q := 0) rfl ?_
          refine ik_Wk 1 (pc_q := 54) (loc_q := [some (.ref 45), some (fI ((sa : Nat) : Int)), some (fI ((sb : Nat) : Int)), some (fI n), some (fI kk)]) (st_q := [.ref 45, fJ z_679]) (h_q := h_679) (cl_q := 0) (sl_q := 0) rfl ?_
          refine fw_gf rfl rfl g_679_45 rfl ?_
          refine ik_Wk 1 (pc_q := 58) (loc_q := [some (.ref 45), some (fI ((sa : Nat) : Int)), some (fI ((sb : Nat) : Int)), some (fI n), some (fI kk)]) (st_q := [fI 0, .ref 50, fJ z_679]) (h_q := h_679) (cl_q := 0) (sl_q := 0) rfl ?_
          refine fx_lal rfl g_679_50 (by omega) (by omega) (by omega) ?_
          refine fx_lcx rfl (fun zc7 rzc7 szc7 => ?_)
          refine fw_if_le rfl rfl (by omega) (by omega) (fun hc8 => ?_) (fun hc8 => ?_)
          · refine fw_inc (a := kk) (loc_q := [some (.ref 45), some (fI ((sa : Nat) : Int)), some (fI ((sb : Nat) : Int)), some (fI n), some (fI (kk + 1))]) rfl rfl (Nat.le_of_ble_eq_true rfl) rfl ?_
            refine ik_Wk 1 (pc_q := 3) (loc_q := [some (.ref 45), some (fI ((sa : Nat) : Int)), some (fI ((sb : Nat) : Int)), some (fI n), some (fI (kk + 1))]) (st_q := []) (h_q := h_679) (cl_q := 0) (sl_q := 0) rfl ?_
            exact ih  (kk + 1) h_679 g_679_45 g_679_46 n46 g_679_47 n47 g_679_48 n48 g_679_49 n49 g_679_50 n50 k_679 fr_679 (by omega) (by omega)
          · refine ik_Wk 1 (pc_q := 64) (loc_q := [some (.ref 45), some (fI ((sa : Nat) : Int)), some (fI ((sb : Nat) : Int)), some (fI n), some (fI kk)]) (st_q := [fI 0]) (h_q := h_679) (cl_q := 0) (sl_q := 0) rfl ?_
            exact ik_Wret rfl rfl ⟨_, _, rfl, rfl, rfl, rfl, ⟨0, rfl, (by omega), fr_679⟩⟩
      · refine ik_Wk 0 (pc_q := 15) (loc_q := [some (.ref 45), some (fI ((sa : Nat) : Int)), some (fI ((sb : Nat) : Int)), some (fI n), some (fI kk)]) (st_q := [fI 0]) (h_q := u) (cl_q := 0) (sl_q := 0) rfl ?_
        refine fw_if_ne rfl rfl (by decide +kernel) (by decide +kernel) (fun hc9 => ?_) (fun hc9 => absurd hc9 (by decide +kernel))
        refine ik_Wk 3 (pc_q := 22) (loc_q := [some (.ref 45), some (fI ((sa : Nat) : Int)), some (fI ((sb : Nat) : Int)), some (fI n), some (fI kk)]) (st_q := [fI kk, fI 1, .ref 45]) (h_q := u) (cl_q := 0) (sl_q := 0) rfl ?_
        refine fw_call 52 3 0 [.ref 45, fI 1, fI kk] [] rfl rfl rfl (Nat.le_of_ble_eq_true rfl) rfl rfl (fw_rec ul rfl u45 rfl (Nat.le_of_ble_eq_true rfl)) (cs_worthBy1 (j := kk) (fe := fe) (sh := sh) (by omega) q3 u45 u46 n46 u48 n48 ul) ?_
        rintro _ h_680 ⟨z_680, rfl, F_680⟩
        have k_680 : cL h_680 := F_680.1.trans ul
        have fr_680 := hfr_cb F F_680 rfl
        have g_680_45 := (hfr_g F_680 45 rfl).trans u45
        have g_680_46 := (hfr_g F_680 46 rfl).trans u46
        have g_680_47 := (hfr_g F_680 47 rfl).trans u47
        have g_680_48 := (hfr_g F_680 48 rfl).trans u48
        have g_680_49 := (hfr_g F_680 49 rfl).trans u49
        have g_680_50 := (hfr_g F_680 50 rfl).trans u50
        refine ik_Wk 0 (pc_q := 25) (loc_q := [some (.ref 45), some (fI ((sa : Nat) : Int)), some (fI ((sb : Nat) : Int)), some (fI n), some (fI kk)]) (st_q := [fJ z_680]) (h_q := h_680) (cl_q := 0) (sl_q := 0) rfl ?_
        refine ik_Wk 1 (pc_q := 26) (loc_q := [some (.ref 45), some (fI ((sa : Nat) : Int)), some (fI ((sb : Nat) : Int)), some (fI n), some (fI kk)]) (st_q := [.ref 45, fJ z_680]) (h_q := h_680) (cl_q := 0) (sl_q := 0) rfl ?_
        refine fw_gf rfl rfl g_680_45 rfl ?_
        refine ik_Wk 1 (pc_q := 30) (loc_q := [some (.ref 45), some (fI ((sa : Nat) : Int)), some (fI ((sb : Nat) : Int)), some (fI n), some (fI kk)]) (st_q := [fI 1, .ref 50, fJ z_680]) (h_q := h_680) (cl_q := 0) (sl_q := 0) rfl ?_
        refine fx_lal rfl g_680_50 (by omega) (by omega) (by omega) ?_
        refine fx_lcx rfl (fun zc10 rzc10 szc10 => ?_)
        refine fw_if_ge rfl rfl (by omega) (by omega) (fun hc11 => ?_) (fun hc11 => ?_)
        · refine ik_Wk 2 (pc_q := 40) (loc_q := [some (.ref 45), some (fI ((sa : Nat) : Int)), some (fI ((sb : Nat) : Int)), some (fI n), some (fI kk)]) (st_q := [fI kk, fI ((sb : Nat) : Int)]) (h_q := h_680) (cl_q := 0) (sl_q := 0) rfl ?_
          refine fx_shr (n := sb) rfl (by omega) (by omega) (by omega) ?_
          refine ik_Wk 1 (pc_q := 42) (loc_q := [some (.ref 45), some (fI ((sa : Nat) : Int)), some (fI ((sb : Nat) : Int)), some (fI n), some (fI kk)]) (st_q := [fI 1, fI ((sb >>> kk.toNat : Nat) : Int)]) (h_q := h_680) (cl_q := 0) (sl_q := 0) rfl ?_
          refine fx_bit (n := sb) (k := kk.toNat) rfl (fun hb12 => ?_) (fun hb12 => ?_)
          · refine ik_Wk 0 (pc_q := 43) (loc_q := [some (.ref 45), some (fI ((sa : Nat) : Int)), some (fI ((sb : Nat) : Int)), some (fI n), some (fI kk)]) (st_q := [fI 1]) (h_q := h_680) (cl_q := 0) (sl_q := 0) rfl ?_
            refine fw_if_ne rfl rfl (by decide +kernel) (by decide +kernel) (fun hc13 => absurd hc13 (by decide +kernel)) (fun hc13 => ?_)
            refine fw_inc (a := kk) (loc_q := [some (.ref 45), some (fI ((sa : Nat) : Int)), some (fI ((sb : Nat) : Int)), some (fI n), some (fI (kk + 1))]) rfl rfl (Nat.le_of_ble_eq_true rfl) rfl ?_
            refine ik_Wk 1 (pc_q := 3) (loc_q := [some (.ref 45), some (fI ((sa : Nat) : Int)), some (fI ((sb : Nat) : Int)), some (fI n), some (fI (kk + 1))]) (st_q := []) (h_q := h_680) (cl_q := 0) (sl_q := 0) rfl ?_
            exact ih  (kk + 1) h_680 g_680_45 g_680_46 n46 g_680_47 n47 g_680_48 n48 g_680_49 n49 g_680_50 n50 k_680 fr_680 (by omega) (by omega)
          · refine ik_Wk 0 (pc_q := 43) (loc_q := [some (.ref 45), some (fI ((sa : Nat) : Int)), some (fI ((sb : Nat) : Int)), some (fI n), some (fI kk)]) (st_q := [fI 0]) (h_q := h_680) (cl_q := 0) (sl_q := 0) rfl ?_
            refine fw_if_ne rfl rfl (by decide +kernel) (by decide +kernel) (fun hc14 => ?_) (fun hc14 => absurd hc14 (by decide +kernel))
            refine ik_Wk 3 (pc_q := 50) (loc_q := [some (.ref 45), some (fI ((sa : Nat) : Int)), some (fI ((sb : Nat) : Int)), some (fI n), some (fI kk)]) (st_q := [fI kk, fI 0, .ref 45]) (h_q := h_680) (cl_q := 0) (sl_q := 0) rfl ?_
            refine fw_call 52 3 0 [.ref 45, fI 0, fI kk] [] rfl rfl rfl (Nat.le_of_ble_eq_true rfl) rfl rfl (fw_rec k_680 rfl g_680_45 rfl (Nat.le_of_ble_eq_true rfl)) (cs_worthBy0 (j := kk) (fe := fe) (sh := sh) (by omega) q3 g_680_45 g_680_46 n46 g_680_48 n48 k_680) ?_
            rintro _ h_681 ⟨z_681, rfl, F_681⟩
            have k_681 : cL h_681 := F_681.1.trans k_680
            have fr_681 := hfr_cb fr_680 F_681 rfl
            have g_681_45 := (hfr_g F_681 45 rfl).trans g_680_45
            have g_681_46 := (hfr_g F_681 46 rfl).trans g_680_46
            have g_681_47 := (hfr_g F_681 47 rfl).trans g_680_47
            have g_681_48 := (hfr_g F_681 48 rfl).trans g_680_48
            have g_681_49 := (hfr_g F_681 49 rfl).trans g_680_49
            have g_681_50 := (hfr_g F_681 50 rfl).trans g_680_50
            refine ik_Wk 0 (pc_q := 53) (loc_q := [some (.ref 45), some (fI ((sa : Nat) : Int)), some (fI ((sb : Nat) : Int)), some (fI n), some (fI kk)]) (st_q := [fJ z_681]) (h_q := h_681) (cl_q := 0) (sl_q := 0) rfl ?_
            refine ik_Wk 1 (pc_q := 54) (loc_q := [some (.ref 45), some (fI ((sa : Nat) : Int)), some (fI ((sb : Nat) : Int)), some (fI n), some (fI kk)]) (st_q := [.ref 45, fJ z_681]) (h_q := h_681) (cl_q := 0) (sl_q := 0) rfl ?_
            refine fw_gf rfl rfl g_681_45 rfl ?_
            refine ik_Wk 1 (pc_q := 58) (loc_q := [some (.ref 45), some (fI ((sa : Nat) : Int)), some (fI ((sb : Nat) : Int)), some (fI n), some (fI kk)]) (st_q := [fI 0, .ref 50, fJ z_681]) (h_q := h_681) (cl_q := 0) (sl_q := 0) rfl ?_
            refine fx_lal rfl g_681_50 (by omega) (by omega) (by omega) ?_
            refine fx_lcx rfl (fun zc15 rzc15 szc15 => ?_)
            refine fw_if_le rfl rfl (by omega) (by omega) (fun hc16 => ?_) (fun hc16 => ?_)
            · refine fw_inc (a := kk) (loc_q := [some (.ref 45), some (fI ((sa : Nat) : Int)), some (fI ((sb : Nat) : Int)), some (fI n), some (fI (kk + 1))]) rfl rfl (Nat.le_of_ble_eq_true rfl) rfl ?_
              refine ik_Wk 1 (pc_q := 3) (loc_q := [some (.ref 45), some (fI ((sa : Nat) : Int)), some (fI ((sb : Nat) : Int)), some (fI n), some (fI (kk + 1))]) (st_q := []) (h_q := h_681) (cl_q := 0) (sl_q := 0) rfl ?_
              exact ih  (kk + 1) h_681 g_681_45 g_681_46 n46 g_681_47 n47 g_681_48 n48 g_681_49 n49 g_681_50 n50 k_681 fr_681 (by omega) (by omega)
            · refine ik_Wk 1 (pc_q := 64) (loc_q := [some (.ref 45), some (fI ((sa : Nat) : Int)), some (fI ((sb : Nat) : Int)), some (fI n), some (fI kk)]) (st_q := [fI 0]) (h_q := h_681) (cl_q := 0) (sl_q := 0) rfl ?_
              exact ik_Wret rfl rfl ⟨_, _, rfl, rfl, rfl, rfl, ⟨0, rfl, (by omega), fr_681⟩⟩
        · refine ik_Wk 1 (pc_q := 36) (loc_q := [some (.ref 45), some (fI ((sa : Nat) : Int)), some (fI ((sb : Nat) : Int)), some (fI n), some (fI kk)]) (st_q := [fI 0]) (h_q := h_680) (cl_q := 0) (sl_q := 0) rfl ?_
          exact ik_Wret rfl rfl ⟨_, _, rfl, rfl, rfl, rfl, ⟨0, rfl, (by omega), fr_680⟩⟩

theorem cs_noneBetter {h : List ik_E} {sa : Nat} {sb : Nat} {n : Int} {fe : List Int} {bo_ : List Int} {sh : List Int} {wh : List Int} {wo : List Int} (q0 : 1 ≤ n ∧ n ≤ 3) (q1 : sa < 8) (q2 : sb < 8) (q3 : ∀ i : Int, (0 : Int) ≤ i → i < (9 : Int) → 0 ≤ fe.getD i.toNat 0 ∧ fe.getD i.toNat 0 ≤ 1000) (h45 : cE h 45 (.inr (5, [.ref 46, .ref 47, .ref 48, .ref 49, .ref 50]))) (h46 : cE h 46 (.inl (.int, fA fe))) (n46 : fe.length = (9 : Nat)) (h47 : cE h 47 (.inl (.long, fL bo_))) (n47 : bo_.length = (12 : Nat)) (h48 : cE h 48 (.inl (.long, fL sh))) (n48 : sh.length = (6 : Nat)) (h49 : cE h 49 (.inl (.long, fL wh))) (n49 : wh.length = (2 : Nat)) (h50 : cE h 50 (.inl (.long, fL wo))) (n50 : wo.length = (2 : Nat)) (hl : h.length = (94 : Nat)) : ik_F 51 [.ref 45, fI ((sa : Nat) : Int), fI ((sb : Nat) : Int), fI n] h (fun rv h_q => ∃ (b : Int), rv = [fI b] ∧ ((0 : Int) ≤ b ∧ b ≤ (1 : Int)) ∧ hfr [] h h_q) := by
  refine ik_Wk 2 (pc_q := 3) (loc_q := [some (.ref 45), some (fI ((sa : Nat) : Int)), some (fI ((sb : Nat) : Int)), some (fI n), some (fI 0)]) (st_q := []) (h_q := h) (cl_q := 0) (sl_q := 0) rfl ?_
  exact cs_noneBetterL (sa := sa) (sb := sb) (n := n) (fe := fe) (bo_ := bo_) (sh := sh) (wh := wh) (wo := wo) q0 q1 q2 q3  (n.toNat + 1) 0 h h45 h46 n46 h47 n47 h48 n48 h49 n49 h50 n50 hl (hfr_refl [] h) (by omega) (by omega)

theorem cs_mixFits {h : List ik_E} {sa : Nat} {sb : Nat} {sz : Int} {n : Int} {fe : List Int} {bo_ : List Int} {sh : List Int} {wh : List Int} {wo : List Int} (q0 : 1 ≤ n ∧ n ≤ 3) (q1 : sa < 8) (q2 : sb < 8) (q3 : 1 ≤ sz ∧ sz ≤ 3) (q4 : ∀ i : Int, (0 : Int) ≤ i → i < (9 : Int) → 0 ≤ fe.getD i.toNat 0 ∧ fe.getD i.toNat 0 ≤ 1000) (h45 : cE h 45 (.inr (5, [.ref 46, .ref 47, .ref 48, .ref 49, .ref 50]))) (h46 : cE h 46 (.inl (.int, fA fe))) (n46 : fe.length = (9 : Nat)) (h47 : cE h 47 (.inl (.long, fL bo_))) (n47 : bo_.length = (12 : Nat)) (h48 : cE h 48 (.inl (.long, fL sh))) (n48 : sh.length = (6 : Nat)) (h49 : cE h 49 (.inl (.long, fL wh))) (n49 : wh.length = (2 : Nat)) (h50 : cE h 50 (.inl (.long, fL wo))) (n50 : wo.length = (2 : Nat)) (hl : h.length = (94 : Nat)) : ik_F 44 [.ref 45, fI ((sa : Nat) : Int), fI ((sb : Nat) : Int), fI sz, fI n] h (fun rv h_q => ∃ (bo' : List Int) (sh' : List Int) (wh' : List Int) (wo' : List Int) (b : Int), rv = [fI b] ∧ cE h_q 47 (.inl (.long, fL bo')) ∧ bo'.length = (12 : Nat) ∧ cE h_q 48 (.inl (.long, fL sh')) ∧ sh'.length = (6 : Nat) ∧ cE h_q 49 (.inl (.long, fL wh')) ∧ wh'.length = (2 : Nat) ∧ cE h_q 50 (.inl (.long, fL wo')) ∧ wo'.length = (2 : Nat) ∧ ((0 : Int) ≤ b ∧ b ≤ (1 : Int)) ∧ hfr [47, 48, 49, 50] h h_q) := by
  refine ik_Wk 5 (pc_q := 5) (loc_q := [some (.ref 45), some (fI ((sa : Nat) : Int)), some (fI ((sb : Nat) : Int)), some (fI sz), some (fI n)]) (st_q := [fI sz, fI ((sb : Nat) : Int), fI ((sa : Nat) : Int), fI 0, .ref 45]) (h_q := h) (cl_q := 0) (sl_q := 0) rfl ?_
  refine fw_call 46 5 0 [.ref 45, fI 0, fI ((sa : Nat) : Int), fI ((sb : Nat) : Int), fI sz] [] rfl rfl rfl (Nat.le_of_ble_eq_true rfl) rfl rfl (fw_rec hl rfl h45 rfl (Nat.le_of_ble_eq_true rfl)) (cs_solve0 (ow := sa) (ot := sb) (sz := sz) (fe := fe) (bo_ := bo_) (sh := sh) (wh := wh) (wo := wo) (by omega) (by omega) (by omega) q4 h45 h46 n46 h47 n47 h48 n48 h49 n49 h50 n50 hl) ?_
  rintro _ h_682 ⟨bo'_682, sh'_682, wh'_682, wo'_682, b_682, rfl, e_682_47, m_682_47, e_682_48, m_682_48, e_682_49, m_682_49, e_682_50, m_682_50, p_682_0, F_682⟩
  have k_682 : cL h_682 := F_682.1.trans hl
  have fr_682 := hfr_cb (hfr_refl [47, 48, 49, 50] h) F_682 rfl
  have g_682_45 := (hfr_g F_682 45 rfl).trans h45
  have g_682_46 := (hfr_g F_682 46 rfl).trans h46
  have g_682_47 : cE h_682 47 (.inl (.long, fL bo'_682)) := e_682_47
  have g_682_48 : cE h_682 48 (.inl (.long, fL sh'_682)) := e_682_48
  have g_682_49 : cE h_682 49 (.inl (.long, fL wh'_682)) := e_682_49
  have g_682_50 : cE h_682 50 (.inl (.long, fL wo'_682)) := e_682_50
  refine ik_Wk 0 (pc_q := 8) (loc_q := [some (.ref 45), some (fI ((sa : Nat) : Int)), some (fI ((sb : Nat) : Int)), some (fI sz), some (fI n)]) (st_q := [fI b_682]) (h_q := h_682) (cl_q := 0) (sl_q := 0) rfl ?_
  refine fw_if_eq rfl rfl (by omega) (by omega) (fun hc1 => ?_) (fun hc1 => ?_)
  · refine ik_Wk 1 (pc_q := 38) (loc_q := [some (.ref 45), some (fI ((sa : Nat) : Int)), some (fI ((sb : Nat) : Int)), some (fI sz), some (fI n)]) (st_q := [fI 0]) (h_q := h_682) (cl_q := 0) (sl_q := 0) rfl ?_
    exact ik_Wret rfl rfl ⟨_, _, rfl, rfl, rfl, rfl, ⟨bo'_682, sh'_682, wh'_682, wo'_682, 0, rfl, g_682_47, m_682_47, g_682_48, m_682_48, g_682_49, m_682_49, g_682_50, m_682_50, (by omega), fr_682⟩⟩
  · refine ik_Wk 5 (pc_q := 16) (loc_q := [some (.ref 45), some (fI ((sa : Nat) : Int)), some (fI ((sb : Nat) : Int)), some (fI sz), some (fI n)]) (st_q := [fI sz, fI ((sa : Nat) : Int), fI ((sb : Nat) : Int), fI 1, .ref 45]) (h_q := h_682) (cl_q := 0) (sl_q := 0) rfl ?_
    refine fw_call 46 5 0 [.ref 45, fI 1, fI ((sb : Nat) : Int), fI ((sa : Nat) : Int), fI sz] [] rfl rfl rfl (Nat.le_of_ble_eq_true rfl) rfl rfl (fw_rec k_682 rfl g_682_45 rfl (Nat.le_of_ble_eq_true rfl)) (cs_solve1 (ow := sb) (ot := sa) (sz := sz) (fe := fe) (bo_ := bo'_682) (sh := sh'_682) (wh := wh'_682) (wo := wo'_682) (by omega) (by omega) (by omega) q4 g_682_45 g_682_46 n46 g_682_47 m_682_47 g_682_48 m_682_48 g_682_49 m_682_49 g_682_50 m_682_50 k_682) ?_
    rintro _ h_683 ⟨bo'_683, sh'_683, wh'_683, wo'_683, b_683, rfl, e_683_47, m_683_47, e_683_48, m_683_48, e_683_49, m_683_49, e_683_50, m_683_50, p_683_0, F_683⟩
    have k_683 : cL h_683 := F_683.1.trans k_682
    have fr_683 := hfr_cb fr_682 F_683 rfl
    have g_683_45 := (hfr_g F_683 45 rfl).trans g_682_45
    have g_683_46 := (hfr_g F_683 46 rfl).trans g_682_46
    have g_683_47 : cE h_683 47 (.inl (.long, fL bo'_683)) := e_683_47
    have g_683_48 : cE h_683 48 (.inl (.long, fL sh'_683)) := e_683_48
    have g_683_49 : cE h_683 49 (.inl (.long, fL wh'_683)) := e_683_49
    have g_683_50 : cE h_683 50 (.inl (.long, fL wo'_683)) := e_683_50
    refine ik_Wk 0 (pc_q := 19) (loc_q := [some (.ref 45), some (fI ((sa : Nat) : Int)), some (fI ((sb : Nat) : Int)), some (fI sz), some (fI n)]) (st_q := [fI b_683]) (h_q := h_683) (cl_q := 0) (sl_q := 0) rfl ?_
    refine fw_if_eq rfl rfl (by omega) (by omega) (fun hc2 => ?_) (fun hc2 => ?_)
    · refine ik_Wk 1 (pc_q := 38) (loc_q := [some (.ref 45), some (fI ((sa : Nat) : Int)), some (fI ((sb : Nat) : Int)), some (fI sz), some (fI n)]) (st_q := [fI 0]) (h_q := h_683) (cl_q := 0) (sl_q := 0) rfl ?_
      exact ik_Wret rfl rfl ⟨_, _, rfl, rfl, rfl, rfl, ⟨bo'_683, sh'_683, wh'_683, wo'_683, 0, rfl, g_683_47, m_683_47, g_683_48, m_683_48, g_683_49, m_683_49, g_683_50, m_683_50, (by omega), fr_683⟩⟩
    · refine ik_Wk 4 (pc_q := 27) (loc_q := [some (.ref 45), some (fI ((sa : Nat) : Int)), some (fI ((sb : Nat) : Int)), some (fI sz), some (fI n)]) (st_q := [fI n, fI ((sb : Nat) : Int), fI ((sa : Nat) : Int), .ref 45]) (h_q := h_683) (cl_q := 0) (sl_q := 0) rfl ?_
      refine fw_call 51 4 0 [.ref 45, fI ((sa : Nat) : Int), fI ((sb : Nat) : Int), fI n] [] rfl rfl rfl (Nat.le_of_ble_eq_true rfl) rfl rfl (fw_rec k_683 rfl g_683_45 rfl (Nat.le_of_ble_eq_true rfl)) (cs_noneBetter (sa := sa) (sb := sb) (n := n) (fe := fe) (bo_ := bo'_683) (sh := sh'_683) (wh := wh'_683) (wo := wo'_683) (by omega) (by omega) (by omega) q4 g_683_45 g_683_46 n46 g_683_47 m_683_47 g_683_48 m_683_48 g_683_49 m_683_49 g_683_50 m_683_50 k_683) ?_
      rintro _ h_684 ⟨b_684, rfl, p_684_0, F_684⟩
      have k_684 : cL h_684 := F_684.1.trans k_683
      have fr_684 := hfr_cb fr_683 F_684 rfl
      have g_684_45 := (hfr_g F_684 45 rfl).trans g_683_45
      have g_684_46 := (hfr_g F_684 46 rfl).trans g_683_46
      have g_684_47 := (hfr_g F_684 47 rfl).trans g_683_47
      have g_684_48 := (hfr_g F_684 48 rfl).trans g_683_48
      have g_684_49 := (hfr_g F_684 49 rfl).trans g_683_49
      have g_684_50 := (hfr_g F_684 50 rfl).trans g_683_50
      refine ik_Wk 0 (pc_q := 30) (loc_q := [some (.ref 45), some (fI ((sa : Nat) : Int)), some (fI ((sb : Nat) : Int)), some (fI sz), some (fI n)]) (st_q := [fI b_684]) (h_q := h_684) (cl_q := 0) (sl_q := 0) rfl ?_
      refine fw_if_eq rfl rfl (by omega) (by omega) (fun hc3 => ?_) (fun hc3 => ?_)
      · refine ik_Wk 1 (pc_q := 38) (loc_q := [some (.ref 45), some (fI ((sa : Nat) : Int)), some (fI ((sb : Nat) : Int)), some (fI sz), some (fI n)]) (st_q := [fI 0]) (h_q := h_684) (cl_q := 0) (sl_q := 0) rfl ?_
        exact ik_Wret rfl rfl ⟨_, _, rfl, rfl, rfl, rfl, ⟨bo'_683, sh'_683, wh'_683, wo'_683, 0, rfl, g_684_47, m_683_47, g_684_48, m_683_48, g_684_49, m_683_49, g_684_50, m_683_50, (by omega), fr_684⟩⟩
      · refine ik_Wk 2 (pc_q := 38) (loc_q := [some (.ref 45), some (fI ((sa : Nat) : Int)), some (fI ((sb : Nat) : Int)), some (fI sz), some (fI n)]) (st_q := [fI 1]) (h_q := h_684) (cl_q := 0) (sl_q := 0) rfl ?_
        exact ik_Wret rfl rfl ⟨_, _, rfl, rfl, rfl, rfl, ⟨bo'_683, sh'_683, wh'_683, wo'_683, 1, rfl, g_684_47, m_683_47, g_684_48, m_683_48, g_684_49, m_683_49, g_684_50, m_683_50, (by omega), fr_684⟩⟩

end