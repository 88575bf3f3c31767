noncomputable section
/-! small methods, by the cells that they look at (written by wip/fw/small.py) -/
theorem fw_pfG {X : Option (Nat × (Nat → Int32))} {mid pc : Nat} {loc : ik_L} {r : List Value} {h : List ik_E} {cl sl : Nat} {post : ik_St → Prop} {x ci k a : Nat} {w : Nat × Nat} {v : Value} {fs : List Value} (hi : ik_at mid pc = some (.putfield x)) (hf : ik_fl mid x = some (ci, k, w)) (hc : h[a]? = some (.inr (ci, fs))) (hk : k < fs.length) (ht : ik_fit (ik_ty ci k) v = true) (hfi : ik_fi ci k = false) (K : ∀ h' : List ik_E, h'[a]? = some (.inr (ci, fs.set k v)) → (∀ b, ¬ b = a → h'[b]? = h[b]?) → h'.length = h.length → ik_W X mid (pc + 3) loc r h' cl sl post) : ik_W X mid pc loc (v :: .ref a :: r) h cl sl post := by
  refine fw_pf hi hf hc hk ht hfi rfl (K _ ?_ ?_ List.length_set)
  · rw [List.getElem?_set_self]
    rcases Nat.lt_or_ge a h.length with q | q
    · exact q
    · rw [List.getElem?_eq_none q] at hc; cases hc
  · exact fun b hb => List.getElem?_set_ne (fun q => hb q.symm)
theorem fw_iasG {X : Option (Nat × (Nat → Int32))} {mid pc : Nat} {loc : ik_L} {r : List Value} {h : List ik_E} {cl sl : Nat} {post : ik_St → Prop} {a : Nat} {z v : Int} {xs : List Int} (hi : ik_at mid pc = some .iastore) (hc : h[a]? = some (.inl (.int, fA xs))) (h0 : 0 ≤ z) (h1 : z.toNat < xs.length) (h2 : z < 2147483648) (K : ∀ h' : List ik_E, h'[a]? = some (.inl (.int, fA (xs.set z.toNat v))) → (∀ b, ¬ b = a → h'[b]? = h[b]?) → h'.length = h.length → ik_W X mid (pc + 1) loc r h' cl sl post) : ik_W X mid pc loc (fI v :: fI z :: .ref a :: r) h cl sl post := by
  refine fw_ias hi hc h0 h1 h2 rfl (K _ ?_ ?_ List.length_set)
  · rw [List.getElem?_set_self]
    rcases Nat.lt_or_ge a h.length with q | q
    · exact q
    · rw [List.getElem?_eq_none q] at hc; cases hc
  · exact fun b hb => List.getElem?_set_ne (fun q => hb q.symm)
theorem fw_aln {X : Option (Nat × (Nat → Int32))} {mid pc : Nat} {loc : ik_L} {r : List Value} {h : List ik_E} {cl sl : Nat} {post : ik_St → Prop} {a L : Nat} {ty : FieldType} {vs : List Value} (hi : ik_at mid pc = some .arraylength) (hc : h[a]? = some (.inl (ty, vs))) (hv : vs.length = L) (hL : Int32.ofNat L = Int32.ofInt (L : Int)) (K : ik_W X mid (pc + 1) loc (fI (L : Int) :: r) h cl sl post) : ik_W X mid pc loc (.ref a :: r) h cl sl post := by
  refine fw_1 hi rfl rfl ?_ K
  simp only [ik_step, hc, hv, hL]
theorem fw_aal {X : Option (Nat × (Nat → Int32))} {mid pc : Nat} {loc : ik_L} {r : List Value} {h : List ik_E} {cl sl : Nat} {post : ik_St → Prop} {a k : Nat} {z : Int} {C : String} {vs : List Value} (hi : ik_at mid pc = some .aaload) (hc : h[a]? = some (.inl (.object C, vs))) (h0 : 0 ≤ z) (h2 : z < 2147483648) (hv : vs[z.toNat]? = some (.ref k)) (K : ik_W X mid (pc + 1) loc (.ref k :: r) h cl sl post) : ik_W X mid pc loc (fI z :: .ref a :: r) h cl sl post := by
  refine fw_1 hi rfl rfl ?_ K
  simp only [ik_step, hc]
  rw [if_neg (fi_z h0 h2), fi_n h0 h2, hv]

/-- the fields of the reference -/
def rz_o (f : Nat → Int) : List Value := [fI (f 0), .ref 67, .ref 68, .ref 69, fI (f 4), .ref 70, .ref 71, fI (f 7), fI (f 8), .ref 72, fI (f 10), fI (f 11), fI (f 12), fJ (f 13), fI (f 14), fI (f 15), fI (f 16), fI (f 17), .ref 73, .ref 74, .ref 75, .ref 76, .ref 77, .ref 78, fI (f 24), .ref 79, .ref 80, .ref 81, .ref 82, .ref 83, .ref 84, .ref 85, fJ (f 32), fJ (f 33), .ref 86, .ref 87, fI (f 36), .ref 88, .ref 89, .ref 90, .ref 91, .ref 92, .ref 93]
def rn_A (p t pl rc : Int) : Int := if p < 0 ∨ pl - 1 ≤ p then -1000000001 else if t < 1 ∨ 200 < t then -1000000002 else if 12 ≤ rc then -1000000004 else rc + 1
def rn_C (p t pl rc : Int) : Int := if p < 0 ∨ pl - 1 ≤ p then rc else if t < 1 ∨ 200 < t then rc else if 12 ≤ rc then rc else rc + 1
/-- log at a side that there is: l how many it has -/
def lg_A (p pl l : Int) : Int := if ¬ p = 12 ∧ (p < 0 ∨ pl ≤ p) then -1000000001 else if 40 ≤ l then -1000000004 else l + 1
def lg_C (p pl l : Int) : Int := if ¬ p = 12 ∧ (p < 0 ∨ pl ≤ p) then l else if 40 ≤ l then l else l + 1
theorem lk_is {h : List ik_E} {a k ci : Nat} {fs : List Value} {z : Int} (hc : h[a]? = some (.inr (ci, fs))) (hv : fs[k]? = some (fI z)) (h0 : -2147483648 ≤ z) (h1 : z < 2147483648) : sx_lk [] [] h (1, a, k) = some z := by
  simp only [sx_lk, hc, sx_pt, hv, sx_iv]
  exact congrArg some (fi_i h0 h1)
theorem lk_ia {h : List ik_E} {a k : Nat} {ty : FieldType} {xs : List Int} {z : Int} (hc : h[a]? = some (.inl (ty, fA xs))) (hk : k < xs.length) (hz : xs.getD k 0 = z) (h0 : -2147483648 ≤ z) (h1 : z < 2147483648) : sx_lk [] [] h (1, a, k) = some z := by
  simp only [sx_lk, hc, sx_pt, fA_get hk, sx_iv]
  rw [hz]
  exact congrArg some (fi_i h0 h1)
theorem gc_run {h : List ik_E} {p t pl rc b1 b2 : Int} {A B : List Int} (p0 : -2147483648 ≤ p) (p1 : p < 2147483648) (t0 : -2147483648 ≤ t) (t1 : t < 2147483648) (h0 : h[0]? = some (.inr (9, [.ref 1, .ref 7, .ref 14, .ref 17, .ref 45, .ref 51, .ref 54, .ref 57]))) (h7 : h[7]? = some (.inr (0, [fI pl, fI b1, fI b2, .ref 8, .ref 9, .ref 10, .ref 11, .ref 12, .ref 13]))) (h51 : h[51]? = some (.inr (7, [.ref 7, fI rc, .ref 52, .ref 53]))) (h52 : h[52]? = some (.inl (.int, fA A))) (n52 : A.length = 12) (h53 : h[53]? = some (.inl (.int, fA B))) (n53 : B.length = 12) (hl : h.length = 94) (hpl : 0 ≤ pl) (hpl2 : pl ≤ 12) (hrc : 0 ≤ rc) (hrc2 : rc ≤ 12) : ik_F 105 [.ref 0, fI p, fI t] h (fun rv h' => rv = [fI (rn_A p t pl rc)] ∧ sx_lk [] [] h' (1, 51, 1) = some (rn_C p t pl rc)) := by
  refine ik_Wk 1 (pc' := 1) (loc' := [some (.ref 0), some (fI p), some (fI t)]) (st' := [.ref 0]) (h' := h) (cl' := 0) (sl' := 0) rfl ?_
  refine fw_gf rfl rfl h0 rfl ?_
  refine ik_Wk 1 (pc' := 5) (loc' := [some (.ref 0), some (fI p), some (fI t)]) (st' := [fI p, .ref 7]) (h' := h) (cl' := 0) (sl' := 0) rfl ?_
  refine ik_Wc 4 2 0 [.ref 7, fI p] [] rfl rfl rfl (by decide) rfl rfl (fw_rec hl rfl h7 rfl (by decide)) ?_
  refine ik_Wk 0 (pc' := 0) (loc' := [some (.ref 7), some (fI p)]) (st' := []) (h' := h) (cl' := 0) (sl' := 0) rfl ?_
  refine ik_Wk 1 (pc' := 1) (loc' := [some (.ref 7), some (fI p)]) (st' := [fI p]) (h' := h) (cl' := 0) (sl' := 0) rfl ?_
  refine fw_if_lt rfl rfl (by omega) (by omega) (fun hc1 => ?_) (fun hc1 => ?_)
  · refine ik_Wk 1 (pc' := 19) (loc' := [some (.ref 7), some (fI p)]) (st' := [fI 0]) (h' := h) (cl' := 0) (sl' := 0) rfl ?_
    refine ik_Wret rfl rfl ⟨_, _, rfl, rfl, ?_⟩
    refine ik_Wk 0 (pc' := 8) (loc' := [some (.ref 0), some (fI p), some (fI t)]) (st' := [fI 0]) (h' := h) (cl' := 0) (sl' := 0) rfl ?_
    refine fw_if_ne rfl rfl (by omega) (by omega) (fun hc2 => ?_) (fun hc2 => absurd hc2 (by omega))
    refine fw_ld (-1000000001) rfl rfl (by decide) ?_
    have ea : rn_A p t pl rc = -1000000001 := by unfold rn_A; (repeat split) <;> omega
    have ec : rn_C p t pl rc = rc := by unfold rn_C; (repeat split) <;> omega
    rw [ea, ec]
    refine ik_Wret rfl rfl ⟨_, _, rfl, rfl, rfl, rfl, rfl, ?_⟩
    exact lk_is h51 rfl (by omega) (by omega)
  · refine ik_Wk 2 (pc' := 6) (loc' := [some (.ref 7), some (fI p)]) (st' := [.ref 7, fI p]) (h' := h) (cl' := 0) (sl' := 0) rfl ?_
    refine fw_gf rfl rfl h7 rfl ?_
    refine ik_Wk 1 (pc' := 10) (loc' := [some (.ref 7), some (fI p)]) (st' := [fI 1, fI pl, fI p]) (h' := h) (cl' := 0) (sl' := 0) rfl ?_
    refine fw_sub rfl ?_
    refine fw_ic_ge rfl rfl (by omega) (by omega) (by omega) (by omega) (fun hc3 => ?_) (fun hc3 => ?_)
    · refine ik_Wk 1 (pc' := 19) (loc' := [some (.ref 7), some (fI p)]) (st' := [fI 0]) (h' := h) (cl' := 0) (sl' := 0) rfl ?_
      refine ik_Wret rfl rfl ⟨_, _, rfl, rfl, ?_⟩
      refine ik_Wk 0 (pc' := 8) (loc' := [some (.ref 0), some (fI p), some (fI t)]) (st' := [fI 0]) (h' := h) (cl' := 0) (sl' := 0) rfl ?_
      refine fw_if_ne rfl rfl (by omega) (by omega) (fun hc4 => ?_) (fun hc4 => absurd hc4 (by omega))
      refine fw_ld (-1000000001) rfl rfl (by decide) ?_
      have ea : rn_A p t pl rc = -1000000001 := by unfold rn_A; (repeat split) <;> omega
      have ec : rn_C p t pl rc = rc := by unfold rn_C; (repeat split) <;> omega
      rw [ea, ec]
      refine ik_Wret rfl rfl ⟨_, _, rfl, rfl, rfl, rfl, rfl, ?_⟩
      exact lk_is h51 rfl (by omega) (by omega)
    · refine ik_Wk 2 (pc' := 19) (loc' := [some (.ref 7), some (fI p)]) (st' := [fI 1]) (h' := h) (cl' := 0) (sl' := 0) rfl ?_
      refine ik_Wret rfl rfl ⟨_, _, rfl, rfl, ?_⟩
      refine ik_Wk 0 (pc' := 8) (loc' := [some (.ref 0), some (fI p), some (fI t)]) (st' := [fI 1]) (h' := h) (cl' := 0) (sl' := 0) rfl ?_
      refine fw_if_ne rfl rfl (by omega) (by omega) (fun hc5 => absurd hc5 (by omega)) (fun hc5 => ?_)
      refine ik_Wk 2 (pc' := 16) (loc' := [some (.ref 0), some (fI p), some (fI t)]) (st' := [fI 1, fI t]) (h' := h) (cl' := 0) (sl' := 0) rfl ?_
      refine fw_ic_lt rfl rfl (by omega) (by omega) (by omega) (by omega) (fun hc6 => ?_) (fun hc6 => ?_)
      · refine fw_ld (-1000000002) rfl rfl (by decide) ?_
        have ea : rn_A p t pl rc = -1000000002 := by unfold rn_A; (repeat split) <;> omega
        have ec : rn_C p t pl rc = rc := by unfold rn_C; (repeat split) <;> omega
        rw [ea, ec]
        refine ik_Wret rfl rfl ⟨_, _, rfl, rfl, rfl, rfl, rfl, ?_⟩
        exact lk_is h51 rfl (by omega) (by omega)
      · refine ik_Wk 1 (pc' := 20) (loc' := [some (.ref 0), some (fI p), some (fI t)]) (st' := [fI t]) (h' := h) (cl' := 0) (sl' := 0) rfl ?_
        refine fw_si rfl (by decide) ?_
        refine fw_ic_le rfl rfl (by omega) (by omega) (by omega) (by omega) (fun hc7 => ?_) (fun hc7 => ?_)
        · refine ik_Wk 1 (pc' := 30) (loc' := [some (.ref 0), some (fI p), some (fI t)]) (st' := [.ref 0]) (h' := h) (cl' := 0) (sl' := 0) rfl ?_
          refine fw_gf rfl rfl h0 rfl ?_
          refine fw_gf rfl rfl h51 rfl ?_
          refine fw_bi rfl (by decide) ?_
          refine fw_ic_lt rfl rfl (by omega) (by omega) (by omega) (by omega) (fun hc8 => ?_) (fun hc8 => ?_)
          · refine ik_Wk 1 (pc' := 45) (loc' := [some (.ref 0), some (fI p), some (fI t)]) (st' := [.ref 0]) (h' := h) (cl' := 0) (sl' := 0) rfl ?_
            refine fw_gf rfl rfl h0 rfl ?_
            refine ik_Wk 2 (pc' := 50) (loc' := [some (.ref 0), some (fI p), some (fI t)]) (st' := [fI t, fI p, .ref 51]) (h' := h) (cl' := 0) (sl' := 0) rfl ?_
            refine ik_Wc 69 3 0 [.ref 51, fI p, fI t] [] rfl rfl rfl (by decide) rfl rfl (fw_rec hl rfl h51 rfl (by decide)) ?_
            refine ik_Wk 0 (pc' := 0) (loc' := [some (.ref 51), some (fI p), some (fI t)]) (st' := []) (h' := h) (cl' := 0) (sl' := 0) rfl ?_
            refine ik_Wk 1 (pc' := 1) (loc' := [some (.ref 51), some (fI p), some (fI t)]) (st' := [.ref 51]) (h' := h) (cl' := 0) (sl' := 0) rfl ?_
            refine fw_gf rfl rfl h51 rfl ?_
            refine ik_Wk 1 (pc' := 5) (loc' := [some (.ref 51), some (fI p), some (fI t)]) (st' := [.ref 51, .ref 52]) (h' := h) (cl' := 0) (sl' := 0) rfl ?_
            refine fw_gf rfl rfl h51 rfl ?_
            refine ik_Wk 1 (pc' := 9) (loc' := [some (.ref 51), some (fI p), some (fI t)]) (st' := [fI p, fI rc, .ref 52]) (h' := h) (cl' := 0) (sl' := 0) rfl ?_
            have hl9 : (A.set rc.toNat p).length = 12 := (List.length_set ..).trans n52
            refine fw_iasG rfl h52 (by omega) (by omega) (by omega) ?_
            intro h_1 e10 f_1 l_1
            have k_1 := l_1.trans hl
            have g_1_0 := (f_1 0 (by decide)).trans h0
            have g_1_7 := (f_1 7 (by decide)).trans h7
            have g_1_51 := (f_1 51 (by decide)).trans h51
            have g_1_53 := (f_1 53 (by decide)).trans h53
            have g_1_52 : h_1[52]? = some (.inl (.int, fA (A.set rc.toNat p))) := e10
            refine ik_Wk 1 (pc' := 11) (loc' := [some (.ref 51), some (fI p), some (fI t)]) (st' := [.ref 51]) (h' := h_1) (cl' := 0) (sl' := 0) rfl ?_
            refine fw_gf rfl rfl g_1_51 rfl ?_
            refine ik_Wk 1 (pc' := 15) (loc' := [some (.ref 51), some (fI p), some (fI t)]) (st' := [.ref 51, .ref 53]) (h' := h_1) (cl' := 0) (sl' := 0) rfl ?_
            refine fw_gf rfl rfl g_1_51 rfl ?_
            refine ik_Wk 1 (pc' := 19) (loc' := [some (.ref 51), some (fI p), some (fI t)]) (st' := [fI t, fI rc, .ref 53]) (h' := h_1) (cl' := 0) (sl' := 0) rfl ?_
            have hl11 : (B.set rc.toNat t).length = 12 := (List.length_set ..).trans n53
            refine fw_iasG rfl g_1_53 (by omega) (by omega) (by omega) ?_
            intro h_2 e12 f_2 l_2
            have k_2 := l_2.trans k_1
            have g_2_0 := (f_2 0 (by decide)).trans g_1_0
            have g_2_7 := (f_2 7 (by decide)).trans g_1_7
            have g_2_51 := (f_2 51 (by decide)).trans g_1_51
            have g_2_52 := (f_2 52 (by decide)).trans g_1_52
            have g_2_53 : h_2[53]? = some (.inl (.int, fA (B.set rc.toNat t))) := e12
            refine ik_Wk 2 (pc' := 22) (loc' := [some (.ref 51), some (fI p), some (fI t)]) (st' := [.ref 51, .ref 51]) (h' := h_2) (cl' := 0) (sl' := 0) rfl ?_
            refine fw_gf rfl rfl g_2_51 rfl ?_
            refine ik_Wk 1 (pc' := 26) (loc' := [some (.ref 51), some (fI p), some (fI t)]) (st' := [fI 1, fI rc, .ref 51]) (h' := h_2) (cl' := 0) (sl' := 0) rfl ?_
            refine fw_add rfl ?_
            refine fw_pfG rfl rfl g_2_51 (Nat.le_of_ble_eq_true rfl) rfl rfl ?_
            intro h_3 e13 f_3 l_3
            have k_3 := l_3.trans k_2
            have g_3_0 := (f_3 0 (by decide)).trans g_2_0
            have g_3_7 := (f_3 7 (by decide)).trans g_2_7
            have g_3_52 := (f_3 52 (by decide)).trans g_2_52
            have g_3_53 := (f_3 53 (by decide)).trans g_2_53
            have g_3_51 : h_3[51]? = some (.inr (7, [.ref 7, fI (rc + 1), .ref 52, .ref 53])) := e13
            refine ik_Wk 1 (pc' := 31) (loc' := [some (.ref 51), some (fI p), some (fI t)]) (st' := [.ref 51]) (h' := h_3) (cl' := 0) (sl' := 0) rfl ?_
            refine fw_gf rfl rfl g_3_51 rfl ?_
            refine ik_Wret rfl rfl ⟨_, _, rfl, rfl, ?_⟩
            refine ik_Wk 0 (pc' := 53) (loc' := [some (.ref 0), some (fI p), some (fI t)]) (st' := [fI (rc + 1)]) (h' := h_3) (cl' := 0) (sl' := 0) rfl ?_
            have ea : rn_A p t pl rc = rc + 1 := by unfold rn_A; (repeat split) <;> omega
            have ec : rn_C p t pl rc = rc + 1 := by unfold rn_C; (repeat split) <;> omega
            rw [ea, ec]
            refine ik_Wret rfl rfl ⟨_, _, rfl, rfl, rfl, rfl, rfl, ?_⟩
            exact lk_is g_3_51 rfl (by omega) (by omega)
          · refine fw_ld (-1000000004) rfl rfl (by decide) ?_
            have ea : rn_A p t pl rc = -1000000004 := by unfold rn_A; (repeat split) <;> omega
            have ec : rn_C p t pl rc = rc := by unfold rn_C; (repeat split) <;> omega
            rw [ea, ec]
            refine ik_Wret rfl rfl ⟨_, _, rfl, rfl, rfl, rfl, rfl, ?_⟩
            exact lk_is h51 rfl (by omega) (by omega)
        · refine fw_ld (-1000000002) rfl rfl (by decide) ?_
          have ea : rn_A p t pl rc = -1000000002 := by unfold rn_A; (repeat split) <;> omega
          have ec : rn_C p t pl rc = rc := by unfold rn_C; (repeat split) <;> omega
          rw [ea, ec]
          refine ik_Wret rfl rfl ⟨_, _, rfl, rfl, rfl, rfl, rfl, ?_⟩
          exact lk_is h51 rfl (by omega) (by omega)

theorem gr_run {h : List ik_E} {p t pl rc : Int} {f : Nat → Int} {A B : List Int} (p0 : -2147483648 ≤ p) (p1 : p < 2147483648) (t0 : -2147483648 ≤ t) (t1 : t < 2147483648) (h66 : h[66]? = some (.inr (10, [fI pl, .ref 67, .ref 68, .ref 69, fI (f 4), .ref 70, .ref 71, fI (f 7), fI (f 8), .ref 72, fI (f 10), fI (f 11), fI (f 12), fJ (f 13), fI (f 14), fI (f 15), fI (f 16), fI (f 17), .ref 73, .ref 74, .ref 75, .ref 76, .ref 77, .ref 78, fI (f 24), .ref 79, .ref 80, .ref 81, .ref 82, .ref 83, .ref 84, .ref 85, fJ (f 32), fJ (f 33), .ref 86, .ref 87, fI rc, .ref 88, .ref 89, .ref 90, .ref 91, .ref 92, .ref 93]))) (h88 : h[88]? = some (.inl (.int, fA A))) (n88 : A.length = 12) (h89 : h[89]? = some (.inl (.int, fA B))) (n89 : B.length = 12) (hl : h.length = 94) (hpl : 0 ≤ pl) (hpl2 : pl ≤ 12) (hrc : 0 ≤ rc) (hrc2 : rc ≤ 12) : ik_F 183 [.ref 66, fI p, fI t] h (fun rv h' => rv = [fI (rn_A p t pl rc)] ∧ sx_lk [] [] h' (1, 66, 36) = some (rn_C p t pl rc)) := by
  refine ik_Wk 2 (pc' := 2) (loc' := [some (.ref 66), some (fI p), some (fI t)]) (st' := [fI p, .ref 66]) (h' := h) (cl' := 0) (sl' := 0) rfl ?_
  refine ik_Wc 131 2 0 [.ref 66, fI p] [] rfl rfl rfl (by decide) rfl rfl (fw_rec hl rfl h66 rfl (by decide)) ?_
  refine ik_Wk 0 (pc' := 0) (loc' := [some (.ref 66), some (fI p)]) (st' := []) (h' := h) (cl' := 0) (sl' := 0) rfl ?_
  refine ik_Wk 1 (pc' := 1) (loc' := [some (.ref 66), some (fI p)]) (st' := [fI p]) (h' := h) (cl' := 0) (sl' := 0) rfl ?_
  refine fw_i2l rfl (by omega) (by omega) ?_
  refine fw_lc (z := 0) rfl (by decide) ?_
  refine ik_Wk 1 (pc' := 4) (loc' := [some (.ref 66), some (fI p)]) (st' := [.ref 66, fJ 0, fJ p]) (h' := h) (cl' := 0) (sl' := 0) rfl ?_
  refine fw_gf rfl rfl h66 rfl ?_
  refine ik_Wk 1 (pc' := 8) (loc' := [some (.ref 66), some (fI p)]) (st' := [fI 2, fI pl, fJ 0, fJ p]) (h' := h) (cl' := 0) (sl' := 0) rfl ?_
  refine fw_sub rfl ?_
  refine fw_i2l rfl (by omega) (by omega) ?_
  refine fw_call 127 3 3 [fJ p, fJ 0, fJ (pl - 2)] [] rfl rfl rfl (by decide) rfl rfl (fw_sta hl rfl (by decide)) (rz_in (by omega) (by omega) (by omega) (by omega) (by omega) (by omega)) ?_
  rintro rv h' ⟨⟨hi1, hi2, rfl⟩ | ⟨hi1, rfl⟩, eh⟩
  · rw [eh]
    refine ik_Wk 0 (pc' := 13) (loc' := [some (.ref 66), some (fI p)]) (st' := [fI 1]) (h' := h) (cl' := 0) (sl' := 0) rfl ?_
    refine ik_Wret rfl rfl ⟨_, _, rfl, rfl, ?_⟩
    refine ik_Wk 0 (pc' := 5) (loc' := [some (.ref 66), some (fI p), some (fI t)]) (st' := [fI 1]) (h' := h) (cl' := 0) (sl' := 0) rfl ?_
    refine fw_if_ne rfl rfl (by omega) (by omega) (fun hc3 => absurd hc3 (by omega)) (fun hc3 => ?_)
    refine ik_Wk 1 (pc' := 12) (loc' := [some (.ref 66), some (fI p), some (fI t)]) (st' := [fI t]) (h' := h) (cl' := 0) (sl' := 0) rfl ?_
    refine fw_i2l rfl (by omega) (by omega) ?_
    refine fw_lc (z := 1) rfl (by decide) ?_
    refine fw_l2 200 rfl rfl (by decide) ?_
    refine fw_call 127 3 3 [fJ t, fJ 1, fJ 200] [] rfl rfl rfl (by decide) rfl rfl (fw_sta hl rfl (by decide)) (rz_in (by omega) (by omega) (by omega) (by omega) (by omega) (by omega)) ?_
    rintro rv h' ⟨⟨hi4, hi5, rfl⟩ | ⟨hi4, rfl⟩, eh⟩
    · rw [eh]
      refine ik_Wk 0 (pc' := 20) (loc' := [some (.ref 66), some (fI p), some (fI t)]) (st' := [fI 1]) (h' := h) (cl' := 0) (sl' := 0) rfl ?_
      refine fw_if_ne rfl rfl (by omega) (by omega) (fun hc6 => absurd hc6 (by omega)) (fun hc6 => ?_)
      refine ik_Wk 1 (pc' := 27) (loc' := [some (.ref 66), some (fI p), some (fI t)]) (st' := [.ref 66]) (h' := h) (cl' := 0) (sl' := 0) rfl ?_
      refine fw_gf rfl rfl h66 rfl ?_
      refine fw_bi rfl (by decide) ?_
      refine fw_ic_ne rfl rfl (by omega) (by omega) (by omega) (by omega) (fun hc7 => ?_) (fun hc7 => ?_)
      · refine fw_ld (-1000000004) rfl rfl (by decide) ?_
        have ea : rn_A p t pl rc = -1000000004 := by unfold rn_A; (repeat split) <;> omega
        have ec : rn_C p t pl rc = rc := by unfold rn_C; (repeat split) <;> omega
        rw [ea, ec]
        refine ik_Wret rfl rfl ⟨_, _, rfl, rfl, rfl, rfl, rfl, ?_⟩
        exact lk_is h66 rfl (by omega) (by omega)
      · refine ik_Wk 1 (pc' := 39) (loc' := [some (.ref 66), some (fI p), some (fI t)]) (st' := [.ref 66]) (h' := h) (cl' := 0) (sl' := 0) rfl ?_
        refine fw_gf rfl rfl h66 rfl ?_
        refine ik_Wk 1 (pc' := 43) (loc' := [some (.ref 66), some (fI p), some (fI t)]) (st' := [.ref 66, .ref 88]) (h' := h) (cl' := 0) (sl' := 0) rfl ?_
        refine fw_gf rfl rfl h66 rfl ?_
        refine ik_Wk 1 (pc' := 47) (loc' := [some (.ref 66), some (fI p), some (fI t)]) (st' := [fI p, fI rc, .ref 88]) (h' := h) (cl' := 0) (sl' := 0) rfl ?_
        have hl8 : (A.set rc.toNat p).length = 12 := (List.length_set ..).trans n88
        refine fw_iasG rfl h88 (by omega) (by omega) (by omega) ?_
        intro h_4 e9 f_4 l_4
        have k_4 := l_4.trans hl
        have g_4_66 := (f_4 66 (by decide)).trans h66
        have g_4_89 := (f_4 89 (by decide)).trans h89
        have g_4_88 : h_4[88]? = some (.inl (.int, fA (A.set rc.toNat p))) := e9
        refine ik_Wk 1 (pc' := 49) (loc' := [some (.ref 66), some (fI p), some (fI t)]) (st' := [.ref 66]) (h' := h_4) (cl' := 0) (sl' := 0) rfl ?_
        refine fw_gf rfl rfl g_4_66 rfl ?_
        refine ik_Wk 1 (pc' := 53) (loc' := [some (.ref 66), some (fI p), some (fI t)]) (st' := [.ref 66, .ref 89]) (h' := h_4) (cl' := 0) (sl' := 0) rfl ?_
        refine fw_gf rfl rfl g_4_66 rfl ?_
        refine ik_Wk 1 (pc' := 57) (loc' := [some (.ref 66), some (fI p), some (fI t)]) (st' := [fI t, fI rc, .ref 89]) (h' := h_4) (cl' := 0) (sl' := 0) rfl ?_
        have hl10 : (B.set rc.toNat t).length = 12 := (List.length_set ..).trans n89
        refine fw_iasG rfl g_4_89 (by omega) (by omega) (by omega) ?_
        intro h_5 e11 f_5 l_5
        have k_5 := l_5.trans k_4
        have g_5_66 := (f_5 66 (by decide)).trans g_4_66
        have g_5_88 := (f_5 88 (by decide)).trans g_4_88
        have g_5_89 : h_5[89]? = some (.inl (.int, fA (B.set rc.toNat t))) := e11
        refine ik_Wk 2 (pc' := 60) (loc' := [some (.ref 66), some (fI p), some (fI t)]) (st' := [.ref 66, .ref 66]) (h' := h_5) (cl' := 0) (sl' := 0) rfl ?_
        refine fw_gf rfl rfl g_5_66 rfl ?_
        refine ik_Wk 1 (pc' := 64) (loc' := [some (.ref 66), some (fI p), some (fI t)]) (st' := [fI 1, fI rc, .ref 66]) (h' := h_5) (cl' := 0) (sl' := 0) rfl ?_
        refine fw_add rfl ?_
        refine fw_pfG rfl rfl g_5_66 (Nat.le_of_ble_eq_true rfl) rfl rfl ?_
        intro h_6 e12 f_6 l_6
        have k_6 := l_6.trans k_5
        have g_6_88 := (f_6 88 (by decide)).trans g_5_88
        have g_6_89 := (f_6 89 (by decide)).trans g_5_89
        have g_6_66 : h_6[66]? = some (.inr (10, [fI pl, .ref 67, .ref 68, .ref 69, fI (f 4), .ref 70, .ref 71, fI (f 7), fI (f 8), .ref 72, fI (f 10), fI (f 11), fI (f 12), fJ (f 13), fI (f 14), fI (f 15), fI (f 16), fI (f 17), .ref 73, .ref 74, .ref 75, .ref 76, .ref 77, .ref 78, fI (f 24), .ref 79, .ref 80, .ref 81, .ref 82, .ref 83, .ref 84, .ref 85, fJ (f 32), fJ (f 33), .ref 86, .ref 87, fI (rc + 1), .ref 88, .ref 89, .ref 90, .ref 91, .ref 92, .ref 93])) := e12
        refine ik_Wk 1 (pc' := 69) (loc' := [some (.ref 66), some (fI p), some (fI t)]) (st' := [.ref 66]) (h' := h_6) (cl' := 0) (sl' := 0) rfl ?_
        refine fw_gf rfl rfl g_6_66 rfl ?_
        have ea : rn_A p t pl rc = rc + 1 := by unfold rn_A; (repeat split) <;> omega
        have ec : rn_C p t pl rc = rc + 1 := by unfold rn_C; (repeat split) <;> omega
        rw [ea, ec]
        refine ik_Wret rfl rfl ⟨_, _, rfl, rfl, rfl, rfl, rfl, ?_⟩
        exact lk_is g_6_66 rfl (by omega) (by omega)
    · rw [eh]
      refine ik_Wk 0 (pc' := 20) (loc' := [some (.ref 66), some (fI p), some (fI t)]) (st' := [fI 0]) (h' := h) (cl' := 0) (sl' := 0) rfl ?_
      refine fw_if_ne rfl rfl (by omega) (by omega) (fun hc13 => ?_) (fun hc13 => absurd hc13 (by omega))
      refine fw_ld (-1000000002) rfl rfl (by decide) ?_
      have ea : rn_A p t pl rc = -1000000002 := by unfold rn_A; (repeat split) <;> omega
      have ec : rn_C p t pl rc = rc := by unfold rn_C; (repeat split) <;> omega
      rw [ea, ec]
      refine ik_Wret rfl rfl ⟨_, _, rfl, rfl, rfl, rfl, rfl, ?_⟩
      exact lk_is h66 rfl (by omega) (by omega)
  · rw [eh]
    refine ik_Wk 0 (pc' := 13) (loc' := [some (.ref 66), some (fI p)]) (st' := [fI 0]) (h' := h) (cl' := 0) (sl' := 0) rfl ?_
    refine ik_Wret rfl rfl ⟨_, _, rfl, rfl, ?_⟩
    refine ik_Wk 0 (pc' := 5) (loc' := [some (.ref 66), some (fI p), some (fI t)]) (st' := [fI 0]) (h' := h) (cl' := 0) (sl' := 0) rfl ?_
    refine fw_if_ne rfl rfl (by omega) (by omega) (fun hc14 => ?_) (fun hc14 => absurd hc14 (by omega))
    refine fw_ld (-1000000001) rfl rfl (by decide) ?_
    have ea : rn_A p t pl rc = -1000000001 := by unfold rn_A; (repeat split) <;> omega
    have ec : rn_C p t pl rc = rc := by unfold rn_C; (repeat split) <;> omega
    rw [ea, ec]
    refine ik_Wret rfl rfl ⟨_, _, rfl, rfl, rfl, rfl, rfl, ?_⟩
    exact lk_is h66 rfl (by omega) (by omega)

theorem gc_forget {h : List ik_E} {rc : Int} (h0 : h[0]? = some (.inr (9, [.ref 1, .ref 7, .ref 14, .ref 17, .ref 45, .ref 51, .ref 54, .ref 57]))) (h51 : h[51]? = some (.inr (7, [.ref 7, fI rc, .ref 52, .ref 53]))) (hl : h.length = 94)  : ik_F 106 [.ref 0] h (fun rv h' => rv = [fI rc] ∧ sx_lk [] [] h' (1, 51, 1) = some 0) := by
  refine ik_Wk 1 (pc' := 1) (loc' := [some (.ref 0), none]) (st' := [.ref 0]) (h' := h) (cl' := 0) (sl' := 0) rfl ?_
  refine fw_gf rfl rfl h0 rfl ?_
  refine fw_gf rfl rfl h51 rfl ?_
  refine ik_Wk 2 (pc' := 9) (loc' := [some (.ref 0), some (fI rc)]) (st' := [.ref 0]) (h' := h) (cl' := 0) (sl' := 0) rfl ?_
  refine fw_gf rfl rfl h0 rfl ?_
  refine ik_Wk 1 (pc' := 13) (loc' := [some (.ref 0), some (fI rc)]) (st' := [fI 0, .ref 51]) (h' := h) (cl' := 0) (sl' := 0) rfl ?_
  refine fw_pfG rfl rfl h51 (Nat.le_of_ble_eq_true rfl) rfl rfl ?_
  intro h_7 e1 f_7 l_7
  have k_7 := l_7.trans hl
  have g_7_0 := (f_7 0 (by decide)).trans h0
  have g_7_51 : h_7[51]? = some (.inr (7, [.ref 7, fI 0, .ref 52, .ref 53])) := e1
  refine ik_Wk 1 (pc' := 17) (loc' := [some (.ref 0), some (fI rc)]) (st' := [fI rc]) (h' := h_7) (cl' := 0) (sl' := 0) rfl ?_
  refine ik_Wret rfl rfl ⟨_, _, rfl, rfl, rfl, rfl, rfl, ?_⟩
  exact lk_is g_7_51 rfl (by decide) (by decide)

theorem gr_forget {h : List ik_E} {rc : Int} {f : Nat → Int} (h66 : h[66]? = some (.inr (10, [fI (f 0), .ref 67, .ref 68, .ref 69, fI (f 4), .ref 70, .ref 71, fI (f 7), fI (f 8), .ref 72, fI (f 10), fI (f 11), fI (f 12), fJ (f 13), fI (f 14), fI (f 15), fI (f 16), fI (f 17), .ref 73, .ref 74, .ref 75, .ref 76, .ref 77, .ref 78, fI (f 24), .ref 79, .ref 80, .ref 81, .ref 82, .ref 83, .ref 84, .ref 85, fJ (f 32), fJ (f 33), .ref 86, .ref 87, fI rc, .ref 88, .ref 89, .ref 90, .ref 91, .ref 92, .ref 93]))) (hl : h.length = 94)  : ik_F 184 [.ref 66] h (fun rv h' => rv = [fI rc] ∧ sx_lk [] [] h' (1, 66, 36) = some 0) := by
  refine ik_Wk 1 (pc' := 1) (loc' := [some (.ref 66), none]) (st' := [.ref 66]) (h' := h) (cl' := 0) (sl' := 0) rfl ?_
  refine fw_gf rfl rfl h66 rfl ?_
  refine ik_Wk 3 (pc' := 7) (loc' := [some (.ref 66), some (fI rc)]) (st' := [fI 0, .ref 66]) (h' := h) (cl' := 0) (sl' := 0) rfl ?_
  refine fw_pfG rfl rfl h66 (Nat.le_of_ble_eq_true rfl) rfl rfl ?_
  intro h_8 e1 f_8 l_8
  have k_8 := l_8.trans hl
  have g_8_66 : h_8[66]? = some (.inr (10, [fI (f 0), .ref 67, .ref 68, .ref 69, fI (f 4), .ref 70, .ref 71, fI (f 7), fI (f 8), .ref 72, fI (f 10), fI (f 11), fI (f 12), fJ (f 13), fI (f 14), fI (f 15), fI (f 16), fI (f 17), .ref 73, .ref 74, .ref 75, .ref 76, .ref 77, .ref 78, fI (f 24), .ref 79, .ref 80, .ref 81, .ref 82, .ref 83, .ref 84, .ref 85, fJ (f 32), fJ (f 33), .ref 86, .ref 87, fI 0, .ref 88, .ref 89, .ref 90, .ref 91, .ref 92, .ref 93])) := e1
  refine ik_Wk 1 (pc' := 11) (loc' := [some (.ref 66), some (fI rc)]) (st' := [fI rc]) (h' := h_8) (cl' := 0) (sl' := 0) rfl ?_
  refine ik_Wret rfl rfl ⟨_, _, rfl, rfl, rfl, rfl, rfl, ?_⟩
  exact lk_is g_8_66 rfl (by decide) (by decide)

theorem gc_log0 {h : List ik_E} {p pl b1 b2 : Int} {L S : List Int} (p0 : -2147483648 ≤ p) (p1 : p < 2147483648) (h0 : h[0]? = some (.inr (9, [.ref 1, .ref 7, .ref 14, .ref 17, .ref 45, .ref 51, .ref 54, .ref 57]))) (h7 : h[7]? = some (.inr (0, [fI pl, fI b1, fI b2, .ref 8, .ref 9, .ref 10, .ref 11, .ref 12, .ref 13]))) (h54 : h[54]? = some (.inr (4, [.ref 55, .ref 56]))) (h55 : h[55]? = some (.inl (.int, fA S))) (n55 : S.length = 80) (h56 : h[56]? = some (.inl (.int, fA L))) (n56 : L.length = 2) (hl : h.length = 94) (hpl : 0 ≤ pl) (hpl2 : pl ≤ 12) (hL : 0 ≤ L.getD 0 0 ∧ L.getD 0 0 ≤ 40 ∧ 0 ≤ L.getD 1 0 ∧ L.getD 1 0 ≤ 40) : ik_F 115 [.ref 0, fI 0, fI p] h (fun rv h' => rv = [fI (lg_A p pl (L.getD 0 0))] ∧ sx_lk [] [] h' (1, 56, 0) = some (lg_C p pl (L.getD 0 0)) ∧ sx_lk [] [] h' (1, 56, 1) = some (L.getD 1 0)) := by
  refine ik_Wk 1 (pc' := 1) (loc' := [some (.ref 0), some (fI 0), some (fI p)]) (st' := [fI 0]) (h' := h) (cl' := 0) (sl' := 0) rfl ?_
  refine ik_Wc 121 1 3 [fI 0] [] rfl rfl rfl (by decide) rfl rfl (fw_sta hl rfl (by decide)) ?_
  refine ik_Wk 0 (pc' := 0) (loc' := [some (fI 0)]) (st' := []) (h' := h) (cl' := 0) (sl' := 0) rfl ?_
  refine ik_Wk 1 (pc' := 1) (loc' := [some (fI 0)]) (st' := [fI 0]) (h' := h) (cl' := 0) (sl' := 0) rfl ?_
  refine fw_if_eq rfl rfl (by omega) (by omega) (fun hc1 => ?_) (fun hc1 => absurd hc1 (by omega))
  refine ik_Wk 2 (pc' := 14) (loc' := [some (fI 0)]) (st' := [fI 1]) (h' := h) (cl' := 0) (sl' := 0) rfl ?_
  refine ik_Wret rfl rfl ⟨_, _, rfl, rfl, ?_⟩
  refine ik_Wk 0 (pc' := 4) (loc' := [some (.ref 0), some (fI 0), some (fI p)]) (st' := [fI 1]) (h' := h) (cl' := 0) (sl' := 0) rfl ?_
  refine fw_if_eq rfl rfl (by omega) (by omega) (fun hc2 => absurd hc2 (by omega)) (fun hc2 => ?_)
  refine ik_Wk 1 (pc' := 8) (loc' := [some (.ref 0), some (fI 0), some (fI p)]) (st' := [fI p]) (h' := h) (cl' := 0) (sl' := 0) rfl ?_
  refine fw_bi rfl (by decide) ?_
  refine fw_ic_eq rfl rfl (by omega) (by omega) (by omega) (by omega) (fun hc3 => ?_) (fun hc3 => ?_)
  · refine ik_Wk 1 (pc' := 28) (loc' := [some (.ref 0), some (fI 0), some (fI p)]) (st' := [.ref 0]) (h' := h) (cl' := 0) (sl' := 0) rfl ?_
    refine fw_gf rfl rfl h0 rfl ?_
    refine fw_gf rfl rfl h54 rfl ?_
    refine ik_Wk 1 (pc' := 35) (loc' := [some (.ref 0), some (fI 0), some (fI p)]) (st' := [fI 0, .ref 56]) (h' := h) (cl' := 0) (sl' := 0) rfl ?_
    refine fw_ial rfl h56 (by omega) (by omega) (by omega) ?_
    have hq4 : L.getD (0 : Int).toNat 0 = L.getD 0 0 := rfl
    refine fw_bi rfl (by decide) ?_
    refine fw_ic_lt rfl rfl (by omega) (by omega) (by omega) (by omega) (fun hc5 => ?_) (fun hc5 => ?_)
    · refine ik_Wk 1 (pc' := 45) (loc' := [some (.ref 0), some (fI 0), some (fI p)]) (st' := [.ref 0]) (h' := h) (cl' := 0) (sl' := 0) rfl ?_
      refine fw_gf rfl rfl h0 rfl ?_
      refine ik_Wk 2 (pc' := 50) (loc' := [some (.ref 0), some (fI 0), some (fI p)]) (st' := [fI p, fI 0, .ref 54]) (h' := h) (cl' := 0) (sl' := 0) rfl ?_
      refine ik_Wc 38 3 0 [.ref 54, fI 0, fI p] [] rfl rfl rfl (by decide) rfl rfl (fw_rec hl rfl h54 rfl (by decide)) ?_
      refine ik_Wk 0 (pc' := 0) (loc' := [some (.ref 54), some (fI 0), some (fI p)]) (st' := []) (h' := h) (cl' := 0) (sl' := 0) rfl ?_
      refine ik_Wk 1 (pc' := 1) (loc' := [some (.ref 54), some (fI 0), some (fI p)]) (st' := [.ref 54]) (h' := h) (cl' := 0) (sl' := 0) rfl ?_
      refine fw_gf rfl rfl h54 rfl ?_
      refine ik_Wk 1 (pc' := 5) (loc' := [some (.ref 54), some (fI 0), some (fI p)]) (st' := [fI 0, .ref 55]) (h' := h) (cl' := 0) (sl' := 0) rfl ?_
      refine fw_bi rfl (by decide) ?_
      refine fw_mul rfl ?_
      refine ik_Wk 1 (pc' := 9) (loc' := [some (.ref 54), some (fI 0), some (fI p)]) (st' := [.ref 54, fI 0, .ref 55]) (h' := h) (cl' := 0) (sl' := 0) rfl ?_
      refine fw_gf rfl rfl h54 rfl ?_
      refine ik_Wk 1 (pc' := 13) (loc' := [some (.ref 54), some (fI 0), some (fI p)]) (st' := [fI 0, .ref 56, fI 0, .ref 55]) (h' := h) (cl' := 0) (sl' := 0) rfl ?_
      refine fw_ial rfl h56 (by omega) (by omega) (by omega) ?_
      have hq6 : L.getD (0 : Int).toNat 0 = L.getD 0 0 := rfl
      refine fw_add rfl ?_
      refine ik_Wk 1 (pc' := 16) (loc' := [some (.ref 54), some (fI 0), some (fI p)]) (st' := [fI p, fI (0 + (L.getD (0 : Int).toNat 0)), .ref 55]) (h' := h) (cl' := 0) (sl' := 0) rfl ?_
      have hl7 : (S.set (0 + (L.getD (0 : Int).toNat 0)).toNat p).length = 80 := (List.length_set ..).trans n55
      refine fw_iasG rfl h55 (by omega) (by omega) (by omega) ?_
      intro h_9 e8 f_9 l_9
      have k_9 := l_9.trans hl
      have g_9_0 := (f_9 0 (by decide)).trans h0
      have g_9_7 := (f_9 7 (by decide)).trans h7
      have g_9_54 := (f_9 54 (by decide)).trans h54
      have g_9_56 := (f_9 56 (by decide)).trans h56
      have g_9_55 : h_9[55]? = some (.inl (.int, fA (S.set (0 + (L.getD (0 : Int).toNat 0)).toNat p))) := e8
      refine ik_Wk 1 (pc' := 18) (loc' := [some (.ref 54), some (fI 0), some (fI p)]) (st' := [.ref 54]) (h' := h_9) (cl' := 0) (sl' := 0) rfl ?_
      refine fw_gf rfl rfl g_9_54 rfl ?_
      refine ik_Wk 2 (pc' := 23) (loc' := [some (.ref 54), some (fI 0), some (fI p)]) (st' := [fI 0, .ref 56, fI 0, .ref 56]) (h' := h_9) (cl' := 0) (sl' := 0) rfl ?_
      refine fw_ial rfl g_9_56 (by omega) (by omega) (by omega) ?_
      have hq9 : L.getD (0 : Int).toNat 0 = L.getD 0 0 := rfl
      refine ik_Wk 1 (pc' := 25) (loc' := [some (.ref 54), some (fI 0), some (fI p)]) (st' := [fI 1, fI (L.getD (0 : Int).toNat 0), fI 0, .ref 56]) (h' := h_9) (cl' := 0) (sl' := 0) rfl ?_
      refine fw_add rfl ?_
      have hl10 : (L.set (0 : Int).toNat ((L.getD (0 : Int).toNat 0) + 1)).length = 2 := (List.length_set ..).trans n56
      refine fw_iasG rfl g_9_56 (by omega) (by omega) (by omega) ?_
      intro h_10 e11 f_10 l_10
      have k_10 := l_10.trans k_9
      have g_10_0 := (f_10 0 (by decide)).trans g_9_0
      have g_10_7 := (f_10 7 (by decide)).trans g_9_7
      have g_10_54 := (f_10 54 (by decide)).trans g_9_54
      have g_10_55 := (f_10 55 (by decide)).trans g_9_55
      have g_10_56 : h_10[56]? = some (.inl (.int, fA (L.set (0 : Int).toNat ((L.getD (0 : Int).toNat 0) + 1)))) := e11
      refine ik_Wk 1 (pc' := 28) (loc' := [some (.ref 54), some (fI 0), some (fI p)]) (st' := [.ref 54]) (h' := h_10) (cl' := 0) (sl' := 0) rfl ?_
      refine fw_gf rfl rfl g_10_54 rfl ?_
      refine ik_Wk 1 (pc' := 32) (loc' := [some (.ref 54), some (fI 0), some (fI p)]) (st' := [fI 0, .ref 56]) (h' := h_10) (cl' := 0) (sl' := 0) rfl ?_
      refine fw_ial rfl g_10_56 (by omega) (by omega) (by omega) ?_
      refine ik_Wret rfl rfl ⟨_, _, rfl, rfl, ?_⟩
      refine ik_Wk 0 (pc' := 53) (loc' := [some (.ref 0), some (fI 0), some (fI p)]) (st' := [fI ((L.set (0 : Int).toNat ((L.getD (0 : Int).toNat 0) + 1)).getD (0 : Int).toNat 0)]) (h' := h_10) (cl' := 0) (sl' := 0) rfl ?_
      have z0 : (0 : Int).toNat = 0 := rfl
      have z1 : (1 : Int).toNat = 1 := rfl
      have ea : lg_A p pl (L.getD 0 0) = L.getD 0 0 + 1 := by unfold lg_A; (repeat split) <;> omega
      have ec : lg_C p pl (L.getD 0 0) = L.getD 0 0 + 1 := by unfold lg_C; (repeat split) <;> omega
      have es : (L.set (0 : Int).toNat ((L.getD (0 : Int).toNat 0) + 1)).getD 0 0 = L.getD 0 0 + 1 := by rw [fz_getD_set, if_pos ⟨rfl, by omega⟩]; rfl
      have eo : (L.set (0 : Int).toNat ((L.getD (0 : Int).toNat 0) + 1)).getD 1 0 = L.getD 1 0 := by rw [fz_getD_set, if_neg (fun q => absurd q.1 (by decide))]
      have er : ((L.set (0 : Int).toNat ((L.getD (0 : Int).toNat 0) + 1)).getD (0 : Int).toNat 0) = L.getD 0 0 + 1 := es
      rw [ea, ec, er]
      exact ik_Wret rfl rfl ⟨_, _, rfl, rfl, rfl, rfl, rfl, lk_ia g_10_56 (by omega) es (by omega) (by omega), lk_ia g_10_56 (by omega) eo (by omega) (by omega)⟩
    · refine fw_ld (-1000000004) rfl rfl (by decide) ?_
      have z0 : (0 : Int).toNat = 0 := rfl
      have z1 : (1 : Int).toNat = 1 := rfl
      have ea : lg_A p pl (L.getD 0 0) = -1000000004 := by unfold lg_A; (repeat split) <;> omega
      have ec : lg_C p pl (L.getD 0 0) = L.getD 0 0 := by unfold lg_C; (repeat split) <;> omega
      rw [ea, ec]
      exact ik_Wret rfl rfl ⟨_, _, rfl, rfl, rfl, rfl, rfl, lk_ia h56 (by omega) rfl (by omega) (by omega), lk_ia h56 (by omega) rfl (by omega) (by omega)⟩
  · refine ik_Wk 1 (pc' := 14) (loc' := [some (.ref 0), some (fI 0), some (fI p)]) (st' := [.ref 0]) (h' := h) (cl' := 0) (sl' := 0) rfl ?_
    refine fw_gf rfl rfl h0 rfl ?_
    refine ik_Wk 1 (pc' := 18) (loc' := [some (.ref 0), some (fI 0), some (fI p)]) (st' := [fI p, .ref 7]) (h' := h) (cl' := 0) (sl' := 0) rfl ?_
    refine ik_Wc 3 2 0 [.ref 7, fI p] [] rfl rfl rfl (by decide) rfl rfl (fw_rec hl rfl h7 rfl (by decide)) ?_
    refine ik_Wk 0 (pc' := 0) (loc' := [some (.ref 7), some (fI p)]) (st' := []) (h' := h) (cl' := 0) (sl' := 0) rfl ?_
    refine ik_Wk 1 (pc' := 1) (loc' := [some (.ref 7), some (fI p)]) (st' := [fI p]) (h' := h) (cl' := 0) (sl' := 0) rfl ?_
    refine fw_if_lt rfl rfl (by omega) (by omega) (fun hc12 => ?_) (fun hc12 => ?_)
    · refine ik_Wk 1 (pc' := 17) (loc' := [some (.ref 7), some (fI p)]) (st' := [fI 0]) (h' := h) (cl' := 0) (sl' := 0) rfl ?_
      refine ik_Wret rfl rfl ⟨_, _, rfl, rfl, ?_⟩
      refine ik_Wk 0 (pc' := 21) (loc' := [some (.ref 0), some (fI 0), some (fI p)]) (st' := [fI 0]) (h' := h) (cl' := 0) (sl' := 0) rfl ?_
      refine fw_if_ne rfl rfl (by omega) (by omega) (fun hc13 => ?_) (fun hc13 => absurd hc13 (by omega))
      refine fw_ld (-1000000001) rfl rfl (by decide) ?_
      have z0 : (0 : Int).toNat = 0 := rfl
      have z1 : (1 : Int).toNat = 1 := rfl
      have ea : lg_A p pl (L.getD 0 0) = -1000000001 := by unfold lg_A; (repeat split) <;> omega
      have ec : lg_C p pl (L.getD 0 0) = L.getD 0 0 := by unfold lg_C; (repeat split) <;> omega
      rw [ea, ec]
      exact ik_Wret rfl rfl ⟨_, _, rfl, rfl, rfl, rfl, rfl, lk_ia h56 (by omega) rfl (by omega) (by omega), lk_ia h56 (by omega) rfl (by omega) (by omega)⟩
    · refine ik_Wk 2 (pc' := 6) (loc' := [some (.ref 7), some (fI p)]) (st' := [.ref 7, fI p]) (h' := h) (cl' := 0) (sl' := 0) rfl ?_
      refine fw_gf rfl rfl h7 rfl ?_
      refine fw_ic_ge rfl rfl (by omega) (by omega) (by omega) (by omega) (fun hc14 => ?_) (fun hc14 => ?_)
      · refine ik_Wk 1 (pc' := 17) (loc' := [some (.ref 7), some (fI p)]) (st' := [fI 0]) (h' := h) (cl' := 0) (sl' := 0) rfl ?_
        refine ik_Wret rfl rfl ⟨_, _, rfl, rfl, ?_⟩
        refine ik_Wk 0 (pc' := 21) (loc' := [some (.ref 0), some (fI 0), some (fI p)]) (st' := [fI 0]) (h' := h) (cl' := 0) (sl' := 0) rfl ?_
        refine fw_if_ne rfl rfl (by omega) (by omega) (fun hc15 => ?_) (fun hc15 => absurd hc15 (by omega))
        refine fw_ld (-1000000001) rfl rfl (by decide) ?_
        have z0 : (0 : Int).toNat = 0 := rfl
        have z1 : (1 : Int).toNat = 1 := rfl
        have ea : lg_A p pl (L.getD 0 0) = -1000000001 := by unfold lg_A; (repeat split) <;> omega
        have ec : lg_C p pl (L.getD 0 0) = L.getD 0 0 := by unfold lg_C; (repeat split) <;> omega
        rw [ea, ec]
        exact ik_Wret rfl rfl ⟨_, _, rfl, rfl, rfl, rfl, rfl, lk_ia h56 (by omega) rfl (by omega) (by omega), lk_ia h56 (by omega) rfl (by omega) (by omega)⟩
      · refine ik_Wk 2 (pc' := 17) (loc' := [some (.ref 7), some (fI p)]) (st' := [fI 1]) (h' := h) (cl' := 0) (sl' := 0) rfl ?_
        refine ik_Wret rfl rfl ⟨_, _, rfl, rfl, ?_⟩
        refine ik_Wk 0 (pc' := 21) (loc' := [some (.ref 0), some (fI 0), some (fI p)]) (st' := [fI 1]) (h' := h) (cl' := 0) (sl' := 0) rfl ?_
        refine fw_if_ne rfl rfl (by omega) (by omega) (fun hc16 => absurd hc16 (by omega)) (fun hc16 => ?_)
        refine ik_Wk 1 (pc' := 28) (loc' := [some (.ref 0), some (fI 0), some (fI p)]) (st' := [.ref 0]) (h' := h) (cl' := 0) (sl' := 0) rfl ?_
        refine fw_gf rfl rfl h0 rfl ?_
        refine fw_gf rfl rfl h54 rfl ?_
        refine ik_Wk 1 (pc' := 35) (loc' := [some (.ref 0), some (fI 0), some (fI p)]) (st' := [fI 0, .ref 56]) (h' := h) (cl' := 0) (sl' := 0) rfl ?_
        refine fw_ial rfl h56 (by omega) (by omega) (by omega) ?_
        have hq17 : L.getD (0 : Int).toNat 0 = L.getD 0 0 := rfl
        refine fw_bi rfl (by decide) ?_
        refine fw_ic_lt rfl rfl (by omega) (by omega) (by omega) (by omega) (fun hc18 => ?_) (fun hc18 => ?_)
        · refine ik_Wk 1 (pc' := 45) (loc' := [some (.ref 0), some (fI 0), some (fI p)]) (st' := [.ref 0]) (h' := h) (cl' := 0) (sl' := 0) rfl ?_
          refine fw_gf rfl rfl h0 rfl ?_
          refine ik_Wk 2 (pc' := 50) (loc' := [some (.ref 0), some (fI 0), some (fI p)]) (st' := [fI p, fI 0, .ref 54]) (h' := h) (cl' := 0) (sl' := 0) rfl ?_
          refine ik_Wc 38 3 0 [.ref 54, fI 0, fI p] [] rfl rfl rfl (by decide) rfl rfl (fw_rec hl rfl h54 rfl (by decide)) ?_
          refine ik_Wk 0 (pc' := 0) (loc' := [some (.ref 54), some (fI 0), some (fI p)]) (st' := []) (h' := h) (cl' := 0) (sl' := 0) rfl ?_
          refine ik_Wk 1 (pc' := 1) (loc' := [some (.ref 54), some (fI 0), some (fI p)]) (st' := [.ref 54]) (h' := h) (cl' := 0) (sl' := 0) rfl ?_
          refine fw_gf rfl rfl h54 rfl ?_
          refine ik_Wk 1 (pc' := 5) (loc' := [some (.ref 54), some (fI 0), some (fI p)]) (st' := [fI 0, .ref 55]) (h' := h) (cl' := 0) (sl' := 0) rfl ?_
          refine fw_bi rfl (by decide) ?_
          refine fw_mul rfl ?_
          refine ik_Wk 1 (pc' := 9) (loc' := [some (.ref 54), some (fI 0), some (fI p)]) (st' := [.ref 54, fI 0, .ref 55]) (h' := h) (cl' := 0) (sl' := 0) rfl ?_
          refine fw_gf rfl rfl h54 rfl ?_
          refine ik_Wk 1 (pc' := 13) (loc' := [some (.ref 54), some (fI 0), some (fI p)]) (st' := [fI 0, .ref 56, fI 0, .ref 55]) (h' := h) (cl' := 0) (sl' := 0) rfl ?_
          refine fw_ial rfl h56 (by omega) (by omega) (by omega) ?_
          have hq19 : L.getD (0 : Int).toNat 0 = L.getD 0 0 := rfl
          refine fw_add rfl ?_
          refine ik_Wk 1 (pc' := 16) (loc' := [some (.ref 54), some (fI 0), some (fI p)]) (st' := [fI p, fI (0 + (L.getD (0 : Int).toNat 0)), .ref 55]) (h' := h) (cl' := 0) (sl' := 0) rfl ?_
          have hl20 : (S.set (0 + (L.getD (0 : Int).toNat 0)).toNat p).length = 80 := (List.length_set ..).trans n55
          refine fw_iasG rfl h55 (by omega) (by omega) (by omega) ?_
          intro h_11 e21 f_11 l_11
          have k_11 := l_11.trans hl
          have g_11_0 := (f_11 0 (by decide)).trans h0
          have g_11_7 := (f_11 7 (by decide)).trans h7
          have g_11_54 := (f_11 54 (by decide)).trans h54
          have g_11_56 := (f_11 56 (by decide)).trans h56
          have g_11_55 : h_11[55]? = some (.inl (.int, fA (S.set (0 + (L.getD (0 : Int).toNat 0)).toNat p))) := e21
          refine ik_Wk 1 (pc' := 18) (loc' := [some (.ref 54), some (fI 0), some (fI p)]) (st' := [.ref 54]) (h' := h_11) (cl' := 0) (sl' := 0) rfl ?_
          refine fw_gf rfl rfl g_11_54 rfl ?_
          refine ik_Wk 2 (pc' := 23) (loc' := [some (.ref 54), some (fI 0), some (fI p)]) (st' := [fI 0, .ref 56, fI 0, .ref 56]) (h' := h_11) (cl' := 0) (sl' := 0) rfl ?_
          refine fw_ial rfl g_11_56 (by omega) (by omega) (by omega) ?_
          have hq22 : L.getD (0 : Int).toNat 0 = L.getD 0 0 := rfl
          refine ik_Wk 1 (pc' := 25) (loc' := [some (.ref 54), some (fI 0), some (fI p)]) (st' := [fI 1, fI (L.getD (0 : Int).toNat 0), fI 0, .ref 56]) (h' := h_11) (cl' := 0) (sl' := 0) rfl ?_
          refine fw_add rfl ?_
          have hl23 : (L.set (0 : Int).toNat ((L.getD (0 : Int).toNat 0) + 1)).length = 2 := (List.length_set ..).trans n56
          refine fw_iasG rfl g_11_56 (by omega) (by omega) (by omega) ?_
          intro h_12 e24 f_12 l_12
          have k_12 := l_12.trans k_11
          have g_12_0 := (f_12 0 (by decide)).trans g_11_0
          have g_12_7 := (f_12 7 (by decide)).trans g_11_7
          have g_12_54 := (f_12 54 (by decide)).trans g_11_54
          have g_12_55 := (f_12 55 (by decide)).trans g_11_55
          have g_12_56 : h_12[56]? = some (.inl (.int, fA (L.set (0 : Int).toNat ((L.getD (0 : Int).toNat 0) + 1)))) := e24
          refine ik_Wk 1 (pc' := 28) (loc' := [some (.ref 54), some (fI 0), some (fI p)]) (st' := [.ref 54]) (h' := h_12) (cl' := 0) (sl' := 0) rfl ?_
          refine fw_gf rfl rfl g_12_54 rfl ?_
          refine ik_Wk 1 (pc' := 32) (loc' := [some (.ref 54), some (fI 0), some (fI p)]) (st' := [fI 0, .ref 56]) (h' := h_12) (cl' := 0) (sl' := 0) rfl ?_
          refine fw_ial rfl g_12_56 (by omega) (by omega) (by omega) ?_
          refine ik_Wret rfl rfl ⟨_, _, rfl, rfl, ?_⟩
          refine ik_Wk 0 (pc' := 53) (loc' := [some (.ref 0), some (fI 0), some (fI p)]) (st' := [fI ((L.set (0 : Int).toNat ((L.getD (0 : Int).toNat 0) + 1)).getD (0 : Int).toNat 0)]) (h' := h_12) (cl' := 0) (sl' := 0) rfl ?_
          have z0 : (0 : Int).toNat = 0 := rfl
          have z1 : (1 : Int).toNat = 1 := rfl
          have ea : lg_A p pl (L.getD 0 0) = L.getD 0 0 + 1 := by unfold lg_A; (repeat split) <;> omega
          have ec : lg_C p pl (L.getD 0 0) = L.getD 0 0 + 1 := by unfold lg_C; (repeat split) <;> omega
          have es : (L.set (0 : Int).toNat ((L.getD (0 : Int).toNat 0) + 1)).getD 0 0 = L.getD 0 0 + 1 := by rw [fz_getD_set, if_pos ⟨rfl, by omega⟩]; rfl
          have eo : (L.set (0 : Int).toNat ((L.getD (0 : Int).toNat 0) + 1)).getD 1 0 = L.getD 1 0 := by rw [fz_getD_set, if_neg (fun q => absurd q.1 (by decide))]
          have er : ((L.set (0 : Int).toNat ((L.getD (0 : Int).toNat 0) + 1)).getD (0 : Int).toNat 0) = L.getD 0 0 + 1 := es
          rw [ea, ec, er]
          exact ik_Wret rfl rfl ⟨_, _, rfl, rfl, rfl, rfl, rfl, lk_ia g_12_56 (by omega) es (by omega) (by omega), lk_ia g_12_56 (by omega) eo (by omega) (by omega)⟩
        · refine fw_ld (-1000000004) rfl rfl (by decide) ?_
          have z0 : (0 : Int).toNat = 0 := rfl
          have z1 : (1 : Int).toNat = 1 := rfl
          have ea : lg_A p pl (L.getD 0 0) = -1000000004 := by unfold lg_A; (repeat split) <;> omega
          have ec : lg_C p pl (L.getD 0 0) = L.getD 0 0 := by unfold lg_C; (repeat split) <;> omega
          rw [ea, ec]
          exact ik_Wret rfl rfl ⟨_, _, rfl, rfl, rfl, rfl, rfl, lk_ia h56 (by omega) rfl (by omega) (by omega), lk_ia h56 (by omega) rfl (by omega) (by omega)⟩

theorem gr_log0 {h : List ik_E} {p pl : Int} {f : Nat → Int} {L S : List Int} (p0 : -2147483648 ≤ p) (p1 : p < 2147483648) (h66 : h[66]? = some (.inr (10, [fI pl, .ref 67, .ref 68, .ref 69, fI (f 4), .ref 70, .ref 71, fI (f 7), fI (f 8), .ref 72, fI (f 10), fI (f 11), fI (f 12), fJ (f 13), fI (f 14), fI (f 15), fI (f 16), fI (f 17), .ref 73, .ref 74, .ref 75, .ref 76, .ref 77, .ref 78, fI (f 24), .ref 79, .ref 80, .ref 81, .ref 82, .ref 83, .ref 84, .ref 85, fJ (f 32), fJ (f 33), .ref 86, .ref 87, fI (f 36), .ref 88, .ref 89, .ref 90, .ref 91, .ref 92, .ref 93]))) (h90 : h[90]? = some (.inl (.int, fA L))) (n90 : L.length = 2) (h91 : h[91]? = some (.inl (.int, fA S))) (n91 : S.length = 80) (hl : h.length = 94) (hpl : 0 ≤ pl) (hpl2 : pl ≤ 12) (hL : 0 ≤ L.getD 0 0 ∧ L.getD 0 0 ≤ 40 ∧ 0 ≤ L.getD 1 0 ∧ L.getD 1 0 ≤ 40) : ik_F 203 [.ref 66, fI 0, fI p] h (fun rv h' => rv = [fI (lg_A p pl (L.getD 0 0))] ∧ sx_lk [] [] h' (1, 90, 0) = some (lg_C p pl (L.getD 0 0)) ∧ sx_lk [] [] h' (1, 90, 1) = some (L.getD 1 0)) := by
  refine ik_Wk 1 (pc' := 1) (loc' := [some (.ref 66), some (fI 0), some (fI p)]) (st' := [fI 0]) (h' := h) (cl' := 0) (sl' := 0) rfl ?_
  refine ik_Wc 132 1 3 [fI 0] [] rfl rfl rfl (by decide) rfl rfl (fw_sta hl rfl (by decide)) ?_
  refine ik_Wk 0 (pc' := 0) (loc' := [some (fI 0)]) (st' := []) (h' := h) (cl' := 0) (sl' := 0) rfl ?_
  refine ik_Wk 1 (pc' := 1) (loc' := [some (fI 0)]) (st' := [fI 0]) (h' := h) (cl' := 0) (sl' := 0) rfl ?_
  refine fw_i2l rfl (by omega) (by omega) ?_
  refine fw_lc (z := 0) rfl (by decide) ?_
  refine fw_lc (z := 1) rfl (by decide) ?_
  refine fw_call 127 3 3 [fJ 0, fJ 0, fJ 1] [] rfl rfl rfl (by decide) rfl rfl (fw_sta hl rfl (by decide)) (rz_in (by omega) (by omega) (by omega) (by omega) (by omega) (by omega)) ?_
  rintro rv h' ⟨⟨hi1, hi2, rfl⟩ | ⟨hi1, rfl⟩, eh⟩
  · rw [eh]
    refine ik_Wk 0 (pc' := 7) (loc' := [some (fI 0)]) (st' := [fI 1]) (h' := h) (cl' := 0) (sl' := 0) rfl ?_
    refine ik_Wret rfl rfl ⟨_, _, rfl, rfl, ?_⟩
    refine ik_Wk 0 (pc' := 4) (loc' := [some (.ref 66), some (fI 0), some (fI p)]) (st' := [fI 1]) (h' := h) (cl' := 0) (sl' := 0) rfl ?_
    refine fw_if_eq rfl rfl (by omega) (by omega) (fun hc3 => absurd hc3 (by omega)) (fun hc3 => ?_)
    refine ik_Wk 1 (pc' := 8) (loc' := [some (.ref 66), some (fI 0), some (fI p)]) (st' := [fI p]) (h' := h) (cl' := 0) (sl' := 0) rfl ?_
    refine fw_bi rfl (by decide) ?_
    refine fw_ic_eq rfl rfl (by omega) (by omega) (by omega) (by omega) (fun hc4 => ?_) (fun hc4 => ?_)
    · refine ik_Wk 1 (pc' := 25) (loc' := [some (.ref 66), some (fI 0), some (fI p)]) (st' := [.ref 66]) (h' := h) (cl' := 0) (sl' := 0) rfl ?_
      refine fw_gf rfl rfl h66 rfl ?_
      refine ik_Wk 1 (pc' := 29) (loc' := [some (.ref 66), some (fI 0), some (fI p)]) (st' := [fI 0, .ref 90]) (h' := h) (cl' := 0) (sl' := 0) rfl ?_
      refine fw_ial rfl h90 (by omega) (by omega) (by omega) ?_
      have hq5 : L.getD (0 : Int).toNat 0 = L.getD 0 0 := rfl
      refine fw_bi rfl (by decide) ?_
      refine fw_ic_ne rfl rfl (by omega) (by omega) (by omega) (by omega) (fun hc6 => ?_) (fun hc6 => ?_)
      · refine fw_ld (-1000000004) rfl rfl (by decide) ?_
        have z0 : (0 : Int).toNat = 0 := rfl
        have z1 : (1 : Int).toNat = 1 := rfl
        have ea : lg_A p pl (L.getD 0 0) = -1000000004 := by unfold lg_A; (repeat split) <;> omega
        have ec : lg_C p pl (L.getD 0 0) = L.getD 0 0 := by unfold lg_C; (repeat split) <;> omega
        rw [ea, ec]
        exact ik_Wret rfl rfl ⟨_, _, rfl, rfl, rfl, rfl, rfl, lk_ia h90 (by omega) rfl (by omega) (by omega), lk_ia h90 (by omega) rfl (by omega) (by omega)⟩
      · refine ik_Wk 1 (pc' := 39) (loc' := [some (.ref 66), some (fI 0), some (fI p)]) (st' := [.ref 66]) (h' := h) (cl' := 0) (sl' := 0) rfl ?_
        refine fw_gf rfl rfl h66 rfl ?_
        refine fw_bi rfl (by decide) ?_
        refine ik_Wk 1 (pc' := 45) (loc' := [some (.ref 66), some (fI 0), some (fI p)]) (st' := [fI 0, fI 40, .ref 91]) (h' := h) (cl' := 0) (sl' := 0) rfl ?_
        refine fw_mul rfl ?_
        refine ik_Wk 1 (pc' := 47) (loc' := [some (.ref 66), some (fI 0), some (fI p)]) (st' := [.ref 66, fI 0, .ref 91]) (h' := h) (cl' := 0) (sl' := 0) rfl ?_
        refine fw_gf rfl rfl h66 rfl ?_
        refine ik_Wk 1 (pc' := 51) (loc' := [some (.ref 66), some (fI 0), some (fI p)]) (st' := [fI 0, .ref 90, fI 0, .ref 91]) (h' := h) (cl' := 0) (sl' := 0) rfl ?_
        refine fw_ial rfl h90 (by omega) (by omega) (by omega) ?_
        have hq7 : L.getD (0 : Int).toNat 0 = L.getD 0 0 := rfl
        refine fw_add rfl ?_
        refine ik_Wk 1 (pc' := 54) (loc' := [some (.ref 66), some (fI 0), some (fI p)]) (st' := [fI p, fI (0 + (L.getD (0 : Int).toNat 0)), .ref 91]) (h' := h) (cl' := 0) (sl' := 0) rfl ?_
        have hl8 : (S.set (0 + (L.getD (0 : Int).toNat 0)).toNat p).length = 80 := (List.length_set ..).trans n91
        refine fw_iasG rfl h91 (by omega) (by omega) (by omega) ?_
        intro h_13 e9 f_13 l_13
        have k_13 := l_13.trans hl
        have g_13_66 := (f_13 66 (by decide)).trans h66
        have g_13_90 := (f_13 90 (by decide)).trans h90
        have g_13_91 : h_13[91]? = some (.inl (.int, fA (S.set (0 + (L.getD (0 : Int).toNat 0)).toNat p))) := e9
        refine ik_Wk 1 (pc' := 56) (loc' := [some (.ref 66), some (fI 0), some (fI p)]) (st' := [.ref 66]) (h' := h_13) (cl' := 0) (sl' := 0) rfl ?_
        refine fw_gf rfl rfl g_13_66 rfl ?_
        refine ik_Wk 2 (pc' := 61) (loc' := [some (.ref 66), some (fI 0), some (fI p)]) (st' := [fI 0, .ref 90, fI 0, .ref 90]) (h' := h_13) (cl' := 0) (sl' := 0) rfl ?_
        refine fw_ial rfl g_13_90 (by omega) (by omega) (by omega) ?_
        have hq10 : L.getD (0 : Int).toNat 0 = L.getD 0 0 := rfl
        refine ik_Wk 1 (pc' := 63) (loc' := [some (.ref 66), some (fI 0), some (fI p)]) (st' := [fI 1, fI (L.getD (0 : Int).toNat 0), fI 0, .ref 90]) (h' := h_13) (cl' := 0) (sl' := 0) rfl ?_
        refine fw_add rfl ?_
        have hl11 : (L.set (0 : Int).toNat ((L.getD (0 : Int).toNat 0) + 1)).length = 2 := (List.length_set ..).trans n90
        refine fw_iasG rfl g_13_90 (by omega) (by omega) (by omega) ?_
        intro h_14 e12 f_14 l_14
        have k_14 := l_14.trans k_13
        have g_14_66 := (f_14 66 (by decide)).trans g_13_66
        have g_14_91 := (f_14 91 (by decide)).trans g_13_91
        have g_14_90 : h_14[90]? = some (.inl (.int, fA (L.set (0 : Int).toNat ((L.getD (0 : Int).toNat 0) + 1)))) := e12
        refine ik_Wk 1 (pc' := 66) (loc' := [some (.ref 66), some (fI 0), some (fI p)]) (st' := [.ref 66]) (h' := h_14) (cl' := 0) (sl' := 0) rfl ?_
        refine fw_gf rfl rfl g_14_66 rfl ?_
        refine ik_Wk 1 (pc' := 70) (loc' := [some (.ref 66), some (fI 0), some (fI p)]) (st' := [fI 0, .ref 90]) (h' := h_14) (cl' := 0) (sl' := 0) rfl ?_
        refine fw_ial rfl g_14_90 (by omega) (by omega) (by omega) ?_
        have z0 : (0 : Int).toNat = 0 := rfl
        have z1 : (1 : Int).toNat = 1 := rfl
        have ea : lg_A p pl (L.getD 0 0) = L.getD 0 0 + 1 := by unfold lg_A; (repeat split) <;> omega
        have ec : lg_C p pl (L.getD 0 0) = L.getD 0 0 + 1 := by unfold lg_C; (repeat split) <;> omega
        have es : (L.set (0 : Int).toNat ((L.getD (0 : Int).toNat 0) + 1)).getD 0 0 = L.getD 0 0 + 1 := by rw [fz_getD_set, if_pos ⟨rfl, by omega⟩]; rfl
        have eo : (L.set (0 : Int).toNat ((L.getD (0 : Int).toNat 0) + 1)).getD 1 0 = L.getD 1 0 := by rw [fz_getD_set, if_neg (fun q => absurd q.1 (by decide))]
        have er : ((L.set (0 : Int).toNat ((L.getD (0 : Int).toNat 0) + 1)).getD (0 : Int).toNat 0) = L.getD 0 0 + 1 := es
        rw [ea, ec, er]
        exact ik_Wret rfl rfl ⟨_, _, rfl, rfl, rfl, rfl, rfl, lk_ia g_14_90 (by omega) es (by omega) (by omega), lk_ia g_14_90 (by omega) eo (by omega) (by omega)⟩
    · refine ik_Wk 2 (pc' := 15) (loc' := [some (.ref 66), some (fI 0), some (fI p)]) (st' := [fI p, .ref 66]) (h' := h) (cl' := 0) (sl' := 0) rfl ?_
      refine ik_Wc 129 2 0 [.ref 66, fI p] [] rfl rfl rfl (by decide) rfl rfl (fw_rec hl rfl h66 rfl (by decide)) ?_
      refine ik_Wk 0 (pc' := 0) (loc' := [some (.ref 66), some (fI p)]) (st' := []) (h' := h) (cl' := 0) (sl' := 0) rfl ?_
      refine ik_Wk 1 (pc' := 1) (loc' := [some (.ref 66), some (fI p)]) (st' := [fI p]) (h' := h) (cl' := 0) (sl' := 0) rfl ?_
      refine fw_i2l rfl (by omega) (by omega) ?_
      refine fw_lc (z := 0) rfl (by decide) ?_
      refine ik_Wk 1 (pc' := 4) (loc' := [some (.ref 66), some (fI p)]) (st' := [.ref 66, fJ 0, fJ p]) (h' := h) (cl' := 0) (sl' := 0) rfl ?_
      refine fw_gf rfl rfl h66 rfl ?_
      refine ik_Wk 1 (pc' := 8) (loc' := [some (.ref 66), some (fI p)]) (st' := [fI 1, fI pl, fJ 0, fJ p]) (h' := h) (cl' := 0) (sl' := 0) rfl ?_
      refine fw_sub rfl ?_
      refine fw_i2l rfl (by omega) (by omega) ?_
      refine fw_call 127 3 3 [fJ p, fJ 0, fJ (pl - 1)] [] rfl rfl rfl (by decide) rfl rfl (fw_sta hl rfl (by decide)) (rz_in (by omega) (by omega) (by omega) (by omega) (by omega) (by omega)) ?_
      rintro rv h' ⟨⟨hi13, hi14, rfl⟩ | ⟨hi13, rfl⟩, eh⟩
      · rw [eh]
        refine ik_Wk 0 (pc' := 13) (loc' := [some (.ref 66), some (fI p)]) (st' := [fI 1]) (h' := h) (cl' := 0) (sl' := 0) rfl ?_
        refine ik_Wret rfl rfl ⟨_, _, rfl, rfl, ?_⟩
        refine ik_Wk 0 (pc' := 18) (loc' := [some (.ref 66), some (fI 0), some (fI p)]) (st' := [fI 1]) (h' := h) (cl' := 0) (sl' := 0) rfl ?_
        refine fw_if_ne rfl rfl (by omega) (by omega) (fun hc15 => absurd hc15 (by omega)) (fun hc15 => ?_)
        refine ik_Wk 1 (pc' := 25) (loc' := [some (.ref 66), some (fI 0), some (fI p)]) (st' := [.ref 66]) (h' := h) (cl' := 0) (sl' := 0) rfl ?_
        refine fw_gf rfl rfl h66 rfl ?_
        refine ik_Wk 1 (pc' := 29) (loc' := [some (.ref 66), some (fI 0), some (fI p)]) (st' := [fI 0, .ref 90]) (h' := h) (cl' := 0) (sl' := 0) rfl ?_
        refine fw_ial rfl h90 (by omega) (by omega) (by omega) ?_
        have hq16 : L.getD (0 : Int).toNat 0 = L.getD 0 0 := rfl
        refine fw_bi rfl (by decide) ?_
        refine fw_ic_ne rfl rfl (by omega) (by omega) (by omega) (by omega) (fun hc17 => ?_) (fun hc17 => ?_)
        · refine fw_ld (-1000000004) rfl rfl (by decide) ?_
          have z0 : (0 : Int).toNat = 0 := rfl
          have z1 : (1 : Int).toNat = 1 := rfl
          have ea : lg_A p pl (L.getD 0 0) = -1000000004 := by unfold lg_A; (repeat split) <;> omega
          have ec : lg_C p pl (L.getD 0 0) = L.getD 0 0 := by unfold lg_C; (repeat split) <;> omega
          rw [ea, ec]
          exact ik_Wret rfl rfl ⟨_, _, rfl, rfl, rfl, rfl, rfl, lk_ia h90 (by omega) rfl (by omega) (by omega), lk_ia h90 (by omega) rfl (by omega) (by omega)⟩
        · refine ik_Wk 1 (pc' := 39) (loc' := [some (.ref 66), some (fI 0), some (fI p)]) (st' := [.ref 66]) (h' := h) (cl' := 0) (sl' := 0) rfl ?_
          refine fw_gf rfl rfl h66 rfl ?_
          refine fw_bi rfl (by decide) ?_
          refine ik_Wk 1 (pc' := 45) (loc' := [some (.ref 66), some (fI 0), some (fI p)]) (st' := [fI 0, fI 40, .ref 91]) (h' := h) (cl' := 0) (sl' := 0) rfl ?_
          refine fw_mul rfl ?_
          refine ik_Wk 1 (pc' := 47) (loc' := [some (.ref 66), some (fI 0), some (fI p)]) (st' := [.ref 66, fI 0, .ref 91]) (h' := h) (cl' := 0) (sl' := 0) rfl ?_
          refine fw_gf rfl rfl h66 rfl ?_
          refine ik_Wk 1 (pc' := 51) (loc' := [some (.ref 66), some (fI 0), some (fI p)]) (st' := [fI 0, .ref 90, fI 0, .ref 91]) (h' := h) (cl' := 0) (sl' := 0) rfl ?_
          refine fw_ial rfl h90 (by omega) (by omega) (by omega) ?_
          have hq18 : L.getD (0 : Int).toNat 0 = L.getD 0 0 := rfl
          refine fw_add rfl ?_
          refine ik_Wk 1 (pc' := 54) (loc' := [some (.ref 66), some (fI 0), some (fI p)]) (st' := [fI p, fI (0 + (L.getD (0 : Int).toNat 0)), .ref 91]) (h' := h) (cl' := 0) (sl' := 0) rfl ?_
          have hl19 : (S.set (0 + (L.getD (0 : Int).toNat 0)).toNat p).length = 80 := (List.length_set ..).trans n91
          refine fw_iasG rfl h91 (by omega) (by omega) (by omega) ?_
          intro h_15 e20 f_15 l_15
          have k_15 := l_15.trans hl
          have g_15_66 := (f_15 66 (by decide)).trans h66
          have g_15_90 := (f_15 90 (by decide)).trans h90
          have g_15_91 : h_15[91]? = some (.inl (.int, fA (S.set (0 + (L.getD (0 : Int).toNat 0)).toNat p))) := e20
          refine ik_Wk 1 (pc' := 56) (loc' := [some (.ref 66), some (fI 0), some (fI p)]) (st' := [.ref 66]) (h' := h_15) (cl' := 0) (sl' := 0) rfl ?_
          refine fw_gf rfl rfl g_15_66 rfl ?_
          refine ik_Wk 2 (pc' := 61) (loc' := [some (.ref 66), some (fI 0), some (fI p)]) (st' := [fI 0, .ref 90, fI 0, .ref 90]) (h' := h_15) (cl' := 0) (sl' := 0) rfl ?_
          refine fw_ial rfl g_15_90 (by omega) (by omega) (by omega) ?_
          have hq21 : L.getD (0 : Int).toNat 0 = L.getD 0 0 := rfl
          refine ik_Wk 1 (pc' := 63) (loc' := [some (.ref 66), some (fI 0), some (fI p)]) (st' := [fI 1, fI (L.getD (0 : Int).toNat 0), fI 0, .ref 90]) (h' := h_15) (cl' := 0) (sl' := 0) rfl ?_
          refine fw_add rfl ?_
          have hl22 : (L.set (0 : Int).toNat ((L.getD (0 : Int).toNat 0) + 1)).length = 2 := (List.length_set ..).trans n90
          refine fw_iasG rfl g_15_90 (by omega) (by omega) (by omega) ?_
          intro h_16 e23 f_16 l_16
          have k_16 := l_16.trans k_15
          have g_16_66 := (f_16 66 (by decide)).trans g_15_66
          have g_16_91 := (f_16 91 (by decide)).trans g_15_91
          have g_16_90 : h_16[90]? = some (.inl (.int, fA (L.set (0 : Int).toNat ((L.getD (0 : Int).toNat 0) + 1)))) := e23
          refine ik_Wk 1 (pc' := 66) (loc' := [some (.ref 66), some (fI 0), some (fI p)]) (st' := [.ref 66]) (h' := h_16) (cl' := 0) (sl' := 0) rfl ?_
          refine fw_gf rfl rfl g_16_66 rfl ?_
          refine ik_Wk 1 (pc' := 70) (loc' := [some (.ref 66), some (fI 0), some (fI p)]) (st' := [fI 0, .ref 90]) (h' := h_16) (cl' := 0) (sl' := 0) rfl ?_
          refine fw_ial rfl g_16_90 (by omega) (by omega) (by omega) ?_
          have z0 : (0 : Int).toNat = 0 := rfl
          have z1 : (1 : Int).toNat = 1 := rfl
          have ea : lg_A p pl (L.getD 0 0) = L.getD 0 0 + 1 := by unfold lg_A; (repeat split) <;> omega
          have ec : lg_C p pl (L.getD 0 0) = L.getD 0 0 + 1 := by unfold lg_C; (repeat split) <;> omega
          have es : (L.set (0 : Int).toNat ((L.getD (0 : Int).toNat 0) + 1)).getD 0 0 = L.getD 0 0 + 1 := by rw [fz_getD_set, if_pos ⟨rfl, by omega⟩]; rfl
          have eo : (L.set (0 : Int).toNat ((L.getD (0 : Int).toNat 0) + 1)).getD 1 0 = L.getD 1 0 := by rw [fz_getD_set, if_neg (fun q => absurd q.1 (by decide))]
          have er : ((L.set (0 : Int).toNat ((L.getD (0 : Int).toNat 0) + 1)).getD (0 : Int).toNat 0) = L.getD 0 0 + 1 := es
          rw [ea, ec, er]
          exact ik_Wret rfl rfl ⟨_, _, rfl, rfl, rfl, rfl, rfl, lk_ia g_16_90 (by omega) es (by omega) (by omega), lk_ia g_16_90 (by omega) eo (by omega) (by omega)⟩
      · rw [eh]
        refine ik_Wk 0 (pc' := 13) (loc' := [some (.ref 66), some (fI p)]) (st' := [fI 0]) (h' := h) (cl' := 0) (sl' := 0) rfl ?_
        refine ik_Wret rfl rfl ⟨_, _, rfl, rfl, ?_⟩
        refine ik_Wk 0 (pc' := 18) (loc' := [some (.ref 66), some (fI 0), some (fI p)]) (st' := [fI 0]) (h' := h) (cl' := 0) (sl' := 0) rfl ?_
        refine fw_if_ne rfl rfl (by omega) (by omega) (fun hc24 => ?_) (fun hc24 => absurd hc24 (by omega))
        refine fw_ld (-1000000001) rfl rfl (by decide) ?_
        have z0 : (0 : Int).toNat = 0 := rfl
        have z1 : (1 : Int).toNat = 1 := rfl
        have ea : lg_A p pl (L.getD 0 0) = -1000000001 := by unfold lg_A; (repeat split) <;> omega
        have ec : lg_C p pl (L.getD 0 0) = L.getD 0 0 := by unfold lg_C; (repeat split) <;> omega
        rw [ea, ec]
        exact ik_Wret rfl rfl ⟨_, _, rfl, rfl, rfl, rfl, rfl, lk_ia h90 (by omega) rfl (by omega) (by omega), lk_ia h90 (by omega) rfl (by omega) (by omega)⟩
  · rw [eh]
    refine ik_Wk 0 (pc' := 7) (loc' := [some (fI 0)]) (st' := [fI 0]) (h' := h) (cl' := 0) (sl' := 0) rfl ?_
    refine ik_Wret rfl rfl ⟨_, _, rfl, rfl, ?_⟩
    refine ik_Wk 0 (pc' := 4) (loc' := [some (.ref 66), some (fI 0), some (fI p)]) (st' := [fI 0]) (h' := h) (cl' := 0) (sl' := 0) rfl ?_
    refine fw_if_eq rfl rfl (by omega) (by omega) (fun hc25 => ?_) (fun hc25 => absurd hc25 (by omega))
    refine fw_ld (-1000000001) rfl rfl (by decide) ?_
    have z0 : (0 : Int).toNat = 0 := rfl
    have z1 : (1 : Int).toNat = 1 := rfl
    have ea : lg_A p pl (L.getD 0 0) = -1000000001 := by unfold lg_A; (repeat split) <;> omega
    have ec : lg_C p pl (L.getD 0 0) = L.getD 0 0 := by unfold lg_C; (repeat split) <;> omega
    rw [ea, ec]
    exact ik_Wret rfl rfl ⟨_, _, rfl, rfl, rfl, rfl, rfl, lk_ia h90 (by omega) rfl (by omega) (by omega), lk_ia h90 (by omega) rfl (by omega) (by omega)⟩

theorem gc_log1 {h : List ik_E} {p pl b1 b2 : Int} {L S : List Int} (p0 : -2147483648 ≤ p) (p1 : p < 2147483648) (h0 : h[0]? = some (.inr (9, [.ref 1, .ref 7, .ref 14, .ref 17, .ref 45, .ref 51, .ref 54, .ref 57]))) (h7 : h[7]? = some (.inr (0, [fI pl, fI b1, fI b2, .ref 8, .ref 9, .ref 10, .ref 11, .ref 12, .ref 13]))) (h54 : h[54]? = some (.inr (4, [.ref 55, .ref 56]))) (h55 : h[55]? = some (.inl (.int, fA S))) (n55 : S.length = 80) (h56 : h[56]? = some (.inl (.int, fA L))) (n56 : L.length = 2) (hl : h.length = 94) (hpl : 0 ≤ pl) (hpl2 : pl ≤ 12) (hL : 0 ≤ L.getD 1 0 ∧ L.getD 1 0 ≤ 40 ∧ 0 ≤ L.getD 0 0 ∧ L.getD 0 0 ≤ 40) : ik_F 115 [.ref 0, fI 1, fI p] h (fun rv h' => rv = [fI (lg_A p pl (L.getD 1 0))] ∧ sx_lk [] [] h' (1, 56, 1) = some (lg_C p pl (L.getD 1 0)) ∧ sx_lk [] [] h' (1, 56, 0) = some (L.getD 0 0)) := by
  refine ik_Wk 1 (pc' := 1) (loc' := [some (.ref 0), some (fI 1), some (fI p)]) (st' := [fI 1]) (h' := h) (cl' := 0) (sl' := 0) rfl ?_
  refine ik_Wc 121 1 3 [fI 1] [] rfl rfl rfl (by decide) rfl rfl (fw_sta hl rfl (by decide)) ?_
  refine ik_Wk 0 (pc' := 0) (loc' := [some (fI 1)]) (st' := []) (h' := h) (cl' := 0) (sl' := 0) rfl ?_
  refine ik_Wk 1 (pc' := 1) (loc' := [some (fI 1)]) (st' := [fI 1]) (h' := h) (cl' := 0) (sl' := 0) rfl ?_
  refine fw_if_eq rfl rfl (by omega) (by omega) (fun hc1 => absurd hc1 (by omega)) (fun hc1 => ?_)
  refine ik_Wk 2 (pc' := 6) (loc' := [some (fI 1)]) (st' := [fI 1, fI 1]) (h' := h) (cl' := 0) (sl' := 0) rfl ?_
  refine fw_ic_ne rfl rfl (by omega) (by omega) (by omega) (by omega) (fun hc2 => ?_) (fun hc2 => absurd hc2 (by omega))
  refine ik_Wk 2 (pc' := 14) (loc' := [some (fI 1)]) (st' := [fI 1]) (h' := h) (cl' := 0) (sl' := 0) rfl ?_
  refine ik_Wret rfl rfl ⟨_, _, rfl, rfl, ?_⟩
  refine ik_Wk 0 (pc' := 4) (loc' := [some (.ref 0), some (fI 1), some (fI p)]) (st' := [fI 1]) (h' := h) (cl' := 0) (sl' := 0) rfl ?_
  refine fw_if_eq rfl rfl (by omega) (by omega) (fun hc3 => absurd hc3 (by omega)) (fun hc3 => ?_)
  refine ik_Wk 1 (pc' := 8) (loc' := [some (.ref 0), some (fI 1), some (fI p)]) (st' := [fI p]) (h' := h) (cl' := 0) (sl' := 0) rfl ?_
  refine fw_bi rfl (by decide) ?_
  refine fw_ic_eq rfl rfl (by omega) (by omega) (by omega) (by omega) (fun hc4 => ?_) (fun hc4 => ?_)
  · refine ik_Wk 1 (pc' := 28) (loc' := [some (.ref 0), some (fI 1), some (fI p)]) (st' := [.ref 0]) (h' := h) (cl' := 0) (sl' := 0) rfl ?_
    refine fw_gf rfl rfl h0 rfl ?_
    refine fw_gf rfl rfl h54 rfl ?_
    refine ik_Wk 1 (pc' := 35) (loc' := [some (.ref 0), some (fI 1), some (fI p)]) (st' := [fI 1, .ref 56]) (h' := h) (cl' := 0) (sl' := 0) rfl ?_
    refine fw_ial rfl h56 (by omega) (by omega) (by omega) ?_
    have hq5 : L.getD (1 : Int).toNat 0 = L.getD 1 0 := rfl
    refine fw_bi rfl (by decide) ?_
    refine fw_ic_lt rfl rfl (by omega) (by omega) (by omega) (by omega) (fun hc6 => ?_) (fun hc6 => ?_)
    · refine ik_Wk 1 (pc' := 45) (loc' := [some (.ref 0), some (fI 1), some (fI p)]) (st' := [.ref 0]) (h' := h) (cl' := 0) (sl' := 0) rfl ?_
      refine fw_gf rfl rfl h0 rfl ?_
      refine ik_Wk 2 (pc' := 50) (loc' := [some (.ref 0), some (fI 1), some (fI p)]) (st' := [fI p, fI 1, .ref 54]) (h' := h) (cl' := 0) (sl' := 0) rfl ?_
      refine ik_Wc 38 3 0 [.ref 54, fI 1, fI p] [] rfl rfl rfl (by decide) rfl rfl (fw_rec hl rfl h54 rfl (by decide)) ?_
      refine ik_Wk 0 (pc' := 0) (loc' := [some (.ref 54), some (fI 1), some (fI p)]) (st' := []) (h' := h) (cl' := 0) (sl' := 0) rfl ?_
      refine ik_Wk 1 (pc' := 1) (loc' := [some (.ref 54), some (fI 1), some (fI p)]) (st' := [.ref 54]) (h' := h) (cl' := 0) (sl' := 0) rfl ?_
      refine fw_gf rfl rfl h54 rfl ?_
      refine ik_Wk 1 (pc' := 5) (loc' := [some (.ref 54), some (fI 1), some (fI p)]) (st' := [fI 1, .ref 55]) (h' := h) (cl' := 0) (sl' := 0) rfl ?_
      refine fw_bi rfl (by decide) ?_
      refine fw_mul rfl ?_
      refine ik_Wk 1 (pc' := 9) (loc' := [some (.ref 54), some (fI 1), some (fI p)]) (st' := [.ref 54, fI 40, .ref 55]) (h' := h) (cl' := 0) (sl' := 0) rfl ?_
      refine fw_gf rfl rfl h54 rfl ?_
      refine ik_Wk 1 (pc' := 13) (loc' := [some (.ref 54), some (fI 1), some (fI p)]) (st' := [fI 1, .ref 56, fI 40, .ref 55]) (h' := h) (cl' := 0) (sl' := 0) rfl ?_
      refine fw_ial rfl h56 (by omega) (by omega) (by omega) ?_
      have hq7 : L.getD (1 : Int).toNat 0 = L.getD 1 0 := rfl
      refine fw_add rfl ?_
      refine ik_Wk 1 (pc' := 16) (loc' := [some (.ref 54), some (fI 1), some (fI p)]) (st' := [fI p, fI (40 + (L.getD (1 : Int).toNat 0)), .ref 55]) (h' := h) (cl' := 0) (sl' := 0) rfl ?_
      have hl8 : (S.set (40 + (L.getD (1 : Int).toNat 0)).toNat p).length = 80 := (List.length_set ..).trans n55
      refine fw_iasG rfl h55 (by omega) (by omega) (by omega) ?_
      intro h_17 e9 f_17 l_17
      have k_17 := l_17.trans hl
      have g_17_0 := (f_17 0 (by decide)).trans h0
      have g_17_7 := (f_17 7 (by decide)).trans h7
      have g_17_54 := (f_17 54 (by decide)).trans h54
      have g_17_56 := (f_17 56 (by decide)).trans h56
      have g_17_55 : h_17[55]? = some (.inl (.int, fA (S.set (40 + (L.getD (1 : Int).toNat 0)).toNat p))) := e9
      refine ik_Wk 1 (pc' := 18) (loc' := [some (.ref 54), some (fI 1), some (fI p)]) (st' := [.ref 54]) (h' := h_17) (cl' := 0) (sl' := 0) rfl ?_
      refine fw_gf rfl rfl g_17_54 rfl ?_
      refine ik_Wk 2 (pc' := 23) (loc' := [some (.ref 54), some (fI 1), some (fI p)]) (st' := [fI 1, .ref 56, fI 1, .ref 56]) (h' := h_17) (cl' := 0) (sl' := 0) rfl ?_
      refine fw_ial rfl g_17_56 (by omega) (by omega) (by omega) ?_
      have hq10 : L.getD (1 : Int).toNat 0 = L.getD 1 0 := rfl
      refine ik_Wk 1 (pc' := 25) (loc' := [some (.ref 54), some (fI 1), some (fI p)]) (st' := [fI 1, fI (L.getD (1 : Int).toNat 0), fI 1, .ref 56]) (h' := h_17) (cl' := 0) (sl' := 0) rfl ?_
      refine fw_add rfl ?_
      have hl11 : (L.set (1 : Int).toNat ((L.getD (1 : Int).toNat 0) + 1)).length = 2 := (List.length_set ..).trans n56
      refine fw_iasG rfl g_17_56 (by omega) (by omega) (by omega) ?_
      intro h_18 e12 f_18 l_18
      have k_18 := l_18.trans k_17
      have g_18_0 := (f_18 0 (by decide)).trans g_17_0
      have g_18_7 := (f_18 7 (by decide)).trans g_17_7
      have g_18_54 := (f_18 54 (by decide)).trans g_17_54
      have g_18_55 := (f_18 55 (by decide)).trans g_17_55
      have g_18_56 : h_18[56]? = some (.inl (.int, fA (L.set (1 : Int).toNat ((L.getD (1 : Int).toNat 0) + 1)))) := e12
      refine ik_Wk 1 (pc' := 28) (loc' := [some (.ref 54), some (fI 1), some (fI p)]) (st' := [.ref 54]) (h' := h_18) (cl' := 0) (sl' := 0) rfl ?_
      refine fw_gf rfl rfl g_18_54 rfl ?_
      refine ik_Wk 1 (pc' := 32) (loc' := [some (.ref 54), some (fI 1), some (fI p)]) (st' := [fI 1, .ref 56]) (h' := h_18) (cl' := 0) (sl' := 0) rfl ?_
      refine fw_ial rfl g_18_56 (by omega) (by omega) (by omega) ?_
      refine ik_Wret rfl rfl ⟨_, _, rfl, rfl, ?_⟩
      refine ik_Wk 0 (pc' := 53) (loc' := [some (.ref 0), some (fI 1), some (fI p)]) (st' := [fI ((L.set (1 : Int).toNat ((L.getD (1 : Int).toNat 0) + 1)).getD (1 : Int).toNat 0)]) (h' := h_18) (cl' := 0) (sl' := 0) rfl ?_
      have z0 : (0 : Int).toNat = 0 := rfl
      have z1 : (1 : Int).toNat = 1 := rfl
      have ea : lg_A p pl (L.getD 1 0) = L.getD 1 0 + 1 := by unfold lg_A; (repeat split) <;> omega
      have ec : lg_C p pl (L.getD 1 0) = L.getD 1 0 + 1 := by unfold lg_C; (repeat split) <;> omega
      have es : (L.set (1 : Int).toNat ((L.getD (1 : Int).toNat 0) + 1)).getD 1 0 = L.getD 1 0 + 1 := by rw [fz_getD_set, if_pos ⟨rfl, by omega⟩]; rfl
      have eo : (L.set (1 : Int).toNat ((L.getD (1 : Int).toNat 0) + 1)).getD 0 0 = L.getD 0 0 := by rw [fz_getD_set, if_neg (fun q => absurd q.1 (by decide))]
      have er : ((L.set (1 : Int).toNat ((L.getD (1 : Int).toNat 0) + 1)).getD (1 : Int).toNat 0) = L.getD 1 0 + 1 := es
      rw [ea, ec, er]
      exact ik_Wret rfl rfl ⟨_, _, rfl, rfl, rfl, rfl, rfl, lk_ia g_18_56 (by omega) es (by omega) (by omega), lk_ia g_18_56 (by omega) eo (by omega) (by omega)⟩
    · refine fw_ld (-1000000004) rfl rfl (by decide) ?_
      have z0 : (0 : Int).toNat = 0 := rfl
      have z1 : (1 : Int).toNat = 1 := rfl
      have ea : lg_A p pl (L.getD 1 0) = -1000000004 := by unfold lg_A; (repeat split) <;> omega
      have ec : lg_C p pl (L.getD 1 0) = L.getD 1 0 := by unfold lg_C; (repeat split) <;> omega
      rw [ea, ec]
      exact ik_Wret rfl rfl ⟨_, _, rfl, rfl, rfl, rfl, rfl, lk_ia h56 (by omega) rfl (by omega) (by omega), lk_ia h56 (by omega) rfl (by omega) (by omega)⟩
  · refine ik_Wk 1 (pc' := 14) (loc' := [some (.ref 0), some (fI 1), some (fI p)]) (st' := [.ref 0]) (h' := h) (cl' := 0) (sl' := 0) rfl ?_
    refine fw_gf rfl rfl h0 rfl ?_
    refine ik_Wk 1 (pc' := 18) (loc' := [some (.ref 0), some (fI 1), some (fI p)]) (st' := [fI p, .ref 7]) (h' := h) (cl' := 0) (sl' := 0) rfl ?_
    refine ik_Wc 3 2 0 [.ref 7, fI p] [] rfl rfl rfl (by decide) rfl rfl (fw_rec hl rfl h7 rfl (by decide)) ?_
    refine ik_Wk 0 (pc' := 0) (loc' := [some (.ref 7), some (fI p)]) (st' := []) (h' := h) (cl' := 0) (sl' := 0) rfl ?_
    refine ik_Wk 1 (pc' := 1) (loc' := [some (.ref 7), some (fI p)]) (st' := [fI p]) (h' := h) (cl' := 0) (sl' := 0) rfl ?_
    refine fw_if_lt rfl rfl (by omega) (by omega) (fun hc13 => ?_) (fun hc13 => ?_)
    · refine ik_Wk 1 (pc' := 17) (loc' := [some (.ref 7), some (fI p)]) (st' := [fI 0]) (h' := h) (cl' := 0) (sl' := 0) rfl ?_
      refine ik_Wret rfl rfl ⟨_, _, rfl, rfl, ?_⟩
      refine ik_Wk 0 (pc' := 21) (loc' := [some (.ref 0), some (fI 1), some (fI p)]) (st' := [fI 0]) (h' := h) (cl' := 0) (sl' := 0) rfl ?_
      refine fw_if_ne rfl rfl (by omega) (by omega) (fun hc14 => ?_) (fun hc14 => absurd hc14 (by omega))
      refine fw_ld (-1000000001) rfl rfl (by decide) ?_
      have z0 : (0 : Int).toNat = 0 := rfl
      have z1 : (1 : Int).toNat = 1 := rfl
      have ea : lg_A p pl (L.getD 1 0) = -1000000001 := by unfold lg_A; (repeat split) <;> omega
      have ec : lg_C p pl (L.getD 1 0) = L.getD 1 0 := by unfold lg_C; (repeat split) <;> omega
      rw [ea, ec]
      exact ik_Wret rfl rfl ⟨_, _, rfl, rfl, rfl, rfl, rfl, lk_ia h56 (by omega) rfl (by omega) (by omega), lk_ia h56 (by omega) rfl (by omega) (by omega)⟩
    · refine ik_Wk 2 (pc' := 6) (loc' := [some (.ref 7), some (fI p)]) (st' := [.ref 7, fI p]) (h' := h) (cl' := 0) (sl' := 0) rfl ?_
      refine fw_gf rfl rfl h7 rfl ?_
      refine fw_ic_ge rfl rfl (by omega) (by omega) (by omega) (by omega) (fun hc15 => ?_) (fun hc15 => ?_)
      · refine ik_Wk 1 (pc' := 17) (loc' := [some (.ref 7), some (fI p)]) (st' := [fI 0]) (h' := h) (cl' := 0) (sl' := 0) rfl ?_
        refine ik_Wret rfl rfl ⟨_, _, rfl, rfl, ?_⟩
        refine ik_Wk 0 (pc' := 21) (loc' := [some (.ref 0), some (fI 1), some (fI p)]) (st' := [fI 0]) (h' := h) (cl' := 0) (sl' := 0) rfl ?_
        refine fw_if_ne rfl rfl (by omega) (by omega) (fun hc16 => ?_) (fun hc16 => absurd hc16 (by omega))
        refine fw_ld (-1000000001) rfl rfl (by decide) ?_
        have z0 : (0 : Int).toNat = 0 := rfl
        have z1 : (1 : Int).toNat = 1 := rfl
        have ea : lg_A p pl (L.getD 1 0) = -1000000001 := by unfold lg_A; (repeat split) <;> omega
        have ec : lg_C p pl (L.getD 1 0) = L.getD 1 0 := by unfold lg_C; (repeat split) <;> omega
        rw [ea, ec]
        exact ik_Wret rfl rfl ⟨_, _, rfl, rfl, rfl, rfl, rfl, lk_ia h56 (by omega) rfl (by omega) (by omega), lk_ia h56 (by omega) rfl (by omega) (by omega)⟩
      · refine ik_Wk 2 (pc' := 17) (loc' := [some (.ref 7), some (fI p)]) (st' := [fI 1]) (h' := h) (cl' := 0) (sl' := 0) rfl ?_
        refine ik_Wret rfl rfl ⟨_, _, rfl, rfl, ?_⟩
        refine ik_Wk 0 (pc' := 21) (loc' := [some (.ref 0), some (fI 1), some (fI p)]) (st' := [fI 1]) (h' := h) (cl' := 0) (sl' := 0) rfl ?_
        refine fw_if_ne rfl rfl (by omega) (by omega) (fun hc17 => absurd hc17 (by omega)) (fun hc17 => ?_)
        refine ik_Wk 1 (pc' := 28) (loc' := [some (.ref 0), some (fI 1), some (fI p)]) (st' := [.ref 0]) (h' := h) (cl' := 0) (sl' := 0) rfl ?_
        refine fw_gf rfl rfl h0 rfl ?_
        refine fw_gf rfl rfl h54 rfl ?_
        refine ik_Wk 1 (pc' := 35) (loc' := [some (.ref 0), some (fI 1), some (fI p)]) (st' := [fI 1, .ref 56]) (h' := h) (cl' := 0) (sl' := 0) rfl ?_
        refine fw_ial rfl h56 (by omega) (by omega) (by omega) ?_
        have hq18 : L.getD (1 : Int).toNat 0 = L.getD 1 0 := rfl
        refine fw_bi rfl (by decide) ?_
        refine fw_ic_lt rfl rfl (by omega) (by omega) (by omega) (by omega) (fun hc19 => ?_) (fun hc19 => ?_)
        · refine ik_Wk 1 (pc' := 45) (loc' := [some (.ref 0), some (fI 1), some (fI p)]) (st' := [.ref 0]) (h' := h) (cl' := 0) (sl' := 0) rfl ?_
          refine fw_gf rfl rfl h0 rfl ?_
          refine ik_Wk 2 (pc' := 50) (loc' := [some (.ref 0), some (fI 1), some (fI p)]) (st' := [fI p, fI 1, .ref 54]) (h' := h) (cl' := 0) (sl' := 0) rfl ?_
          refine ik_Wc 38 3 0 [.ref 54, fI 1, fI p] [] rfl rfl rfl (by decide) rfl rfl (fw_rec hl rfl h54 rfl (by decide)) ?_
          refine ik_Wk 0 (pc' := 0) (loc' := [some (.ref 54), some (fI 1), some (fI p)]) (st' := []) (h' := h) (cl' := 0) (sl' := 0) rfl ?_
          refine ik_Wk 1 (pc' := 1) (loc' := [some (.ref 54), some (fI 1), some (fI p)]) (st' := [.ref 54]) (h' := h) (cl' := 0) (sl' := 0) rfl ?_
          refine fw_gf rfl rfl h54 rfl ?_
          refine ik_Wk 1 (pc' := 5) (loc' := [some (.ref 54), some (fI 1), some (fI p)]) (st' := [fI 1, .ref 55]) (h' := h) (cl' := 0) (sl' := 0) rfl ?_
          refine fw_bi rfl (by decide) ?_
          refine fw_mul rfl ?_
          refine ik_Wk 1 (pc' := 9) (loc' := [some (.ref 54), some (fI 1), some (fI p)]) (st' := [.ref 54, fI 40, .ref 55]) (h' := h) (cl' := 0) (sl' := 0) rfl ?_
          refine fw_gf rfl rfl h54 rfl ?_
          refine ik_Wk 1 (pc' := 13) (loc' := [some (.ref 54), some (fI 1), some (fI p)]) (st' := [fI 1, .ref 56, fI 40, .ref 55]) (h' := h) (cl' := 0) (sl' := 0) rfl ?_
          refine fw_ial rfl h56 (by omega) (by omega) (by omega) ?_
          have hq20 : L.getD (1 : Int).toNat 0 = L.getD 1 0 := rfl
          refine fw_add rfl ?_
          refine ik_Wk 1 (pc' := 16) (loc' := [some (.ref 54), some (fI 1), some (fI p)]) (st' := [fI p, fI (40 + (L.getD (1 : Int).toNat 0)), .ref 55]) (h' := h) (cl' := 0) (sl' := 0) rfl ?_
          have hl21 : (S.set (40 + (L.getD (1 : Int).toNat 0)).toNat p).length = 80 := (List.length_set ..).trans n55
          refine fw_iasG rfl h55 (by omega) (by omega) (by omega) ?_
          intro h_19 e22 f_19 l_19
          have k_19 := l_19.trans hl
          have g_19_0 := (f_19 0 (by decide)).trans h0
          have g_19_7 := (f_19 7 (by decide)).trans h7
          have g_19_54 := (f_19 54 (by decide)).trans h54
          have g_19_56 := (f_19 56 (by decide)).trans h56
          have g_19_55 : h_19[55]? = some (.inl (.int, fA (S.set (40 + (L.getD (1 : Int).toNat 0)).toNat p))) := e22
          refine ik_Wk 1 (pc' := 18) (loc' := [some (.ref 54), some (fI 1), some (fI p)]) (st' := [.ref 54]) (h' := h_19) (cl' := 0) (sl' := 0) rfl ?_
          refine fw_gf rfl rfl g_19_54 rfl ?_
          refine ik_Wk 2 (pc' := 23) (loc' := [some (.ref 54), some (fI 1), some (fI p)]) (st' := [fI 1, .ref 56, fI 1, .ref 56]) (h' := h_19) (cl' := 0) (sl' := 0) rfl ?_
          refine fw_ial rfl g_19_56 (by omega) (by omega) (by omega) ?_
          have hq23 : L.getD (1 : Int).toNat 0 = L.getD 1 0 := rfl
          refine ik_Wk 1 (pc' := 25) (loc' := [some (.ref 54), some (fI 1), some (fI p)]) (st' := [fI 1, fI (L.getD (1 : Int).toNat 0), fI 1, .ref 56]) (h' := h_19) (cl' := 0) (sl' := 0) rfl ?_
          refine fw_add rfl ?_
          have hl24 : (L.set (1 : Int).toNat ((L.getD (1 : Int).toNat 0) + 1)).length = 2 := (List.length_set ..).trans n56
          refine fw_iasG rfl g_19_56 (by omega) (by omega) (by omega) ?_
          intro h_20 e25 f_20 l_20
          have k_20 := l_20.trans k_19
          have g_20_0 := (f_20 0 (by decide)).trans g_19_0
          have g_20_7 := (f_20 7 (by decide)).trans g_19_7
          have g_20_54 := (f_20 54 (by decide)).trans g_19_54
          have g_20_55 := (f_20 55 (by decide)).trans g_19_55
          have g_20_56 : h_20[56]? = some (.inl (.int, fA (L.set (1 : Int).toNat ((L.getD (1 : Int).toNat 0) + 1)))) := e25
          refine ik_Wk 1 (pc' := 28) (loc' := [some (.ref 54), some (fI 1), some (fI p)]) (st' := [.ref 54]) (h' := h_20) (cl' := 0) (sl' := 0) rfl ?_
          refine fw_gf rfl rfl g_20_54 rfl ?_
          refine ik_Wk 1 (pc' := 32) (loc' := [some (.ref 54), some (fI 1), some (fI p)]) (st' := [fI 1, .ref 56]) (h' := h_20) (cl' := 0) (sl' := 0) rfl ?_
          refine fw_ial rfl g_20_56 (by omega) (by omega) (by omega) ?_
          refine ik_Wret rfl rfl ⟨_, _, rfl, rfl, ?_⟩
          refine ik_Wk 0 (pc' := 53) (loc' := [some (.ref 0), some (fI 1), some (fI p)]) (st' := [fI ((L.set (1 : Int).toNat ((L.getD (1 : Int).toNat 0) + 1)).getD (1 : Int).toNat 0)]) (h' := h_20) (cl' := 0) (sl' := 0) rfl ?_
          have z0 : (0 : Int).toNat = 0 := rfl
          have z1 : (1 : Int).toNat = 1 := rfl
          have ea : lg_A p pl (L.getD 1 0) = L.getD 1 0 + 1 := by unfold lg_A; (repeat split) <;> omega
          have ec : lg_C p pl (L.getD 1 0) = L.getD 1 0 + 1 := by unfold lg_C; (repeat split) <;> omega
          have es : (L.set (1 : Int).toNat ((L.getD (1 : Int).toNat 0) + 1)).getD 1 0 = L.getD 1 0 + 1 := by rw [fz_getD_set, if_pos ⟨rfl, by omega⟩]; rfl
          have eo : (L.set (1 : Int).toNat ((L.getD (1 : Int).toNat 0) + 1)).getD 0 0 = L.getD 0 0 := by rw [fz_getD_set, if_neg (fun q => absurd q.1 (by decide))]
          have er : ((L.set (1 : Int).toNat ((L.getD (1 : Int).toNat 0) + 1)).getD (1 : Int).toNat 0) = L.getD 1 0 + 1 := es
          rw [ea, ec, er]
          exact ik_Wret rfl rfl ⟨_, _, rfl, rfl, rfl, rfl, rfl, lk_ia g_20_56 (by omega) es (by omega) (by omega), lk_ia g_20_56 (by omega) eo (by omega) (by omega)⟩
        · refine fw_ld (-1000000004) rfl rfl (by decide) ?_
          have z0 : (0 : Int).toNat = 0 := rfl
          have z1 : (1 : Int).toNat = 1 := rfl
          have ea : lg_A p pl (L.getD 1 0) = -1000000004 := by unfold lg_A; (repeat split) <;> omega
          have ec : lg_C p pl (L.getD 1 0) = L.getD 1 0 := by unfold lg_C; (repeat split) <;> omega
          rw [ea, ec]
          exact ik_Wret rfl rfl ⟨_, _, rfl, rfl, rfl, rfl, rfl, lk_ia h56 (by omega) rfl (by omega) (by omega), lk_ia h56 (by omega) rfl (by omega) (by omega)⟩

theorem gr_log1 {h : List ik_E} {p pl : Int} {f : Nat → Int} {L S : List Int} (p0 : -2147483648 ≤ p) (p1 : p < 2147483648) (h66 : h[66]? = some (.inr (10, [fI pl, .ref 67, .ref 68, .ref 69, fI (f 4), .ref 70, .ref 71, fI (f 7), fI (f 8), .ref 72, fI (f 10), fI (f 11), fI (f 12), fJ (f 13), fI (f 14), fI (f 15), fI (f 16), fI (f 17), .ref 73, .ref 74, .ref 75, .ref 76, .ref 77, .ref 78, fI (f 24), .ref 79, .ref 80, .ref 81, .ref 82, .ref 83, .ref 84, .ref 85, fJ (f 32), fJ (f 33), .ref 86, .ref 87, fI (f 36), .ref 88, .ref 89, .ref 90, .ref 91, .ref 92, .ref 93]))) (h90 : h[90]? = some (.inl (.int, fA L))) (n90 : L.length = 2) (h91 : h[91]? = some (.inl (.int, fA S))) (n91 : S.length = 80) (hl : h.length = 94) (hpl : 0 ≤ pl) (hpl2 : pl ≤ 12) (hL : 0 ≤ L.getD 1 0 ∧ L.getD 1 0 ≤ 40 ∧ 0 ≤ L.getD 0 0 ∧ L.getD 0 0 ≤ 40) : ik_F 203 [.ref 66, fI 1, fI p] h (fun rv h' => rv = [fI (lg_A p pl (L.getD 1 0))] ∧ sx_lk [] [] h' (1, 90, 1) = some (lg_C p pl (L.getD 1 0)) ∧ sx_lk [] [] h' (1, 90, 0) = some (L.getD 0 0)) := by
  refine ik_Wk 1 (pc' := 1) (loc' := [some (.ref 66), some (fI 1), some (fI p)]) (st' := [fI 1]) (h' := h) (cl' := 0) (sl' := 0) rfl ?_
  refine ik_Wc 132 1 3 [fI 1] [] rfl rfl rfl (by decide) rfl rfl (fw_sta hl rfl (by decide)) ?_
  refine ik_Wk 0 (pc' := 0) (loc' := [some (fI 1)]) (st' := []) (h' := h) (cl' := 0) (sl' := 0) rfl ?_
  refine ik_Wk 1 (pc' := 1) (loc' := [some (fI 1)]) (st' := [fI 1]) (h' := h) (cl' := 0) (sl' := 0) rfl ?_
  refine fw_i2l rfl (by omega) (by omega) ?_
  refine fw_lc (z := 0) rfl (by decide) ?_
  refine fw_lc (z := 1) rfl (by decide) ?_
  refine fw_call 127 3 3 [fJ 1, fJ 0, fJ 1] [] rfl rfl rfl (by decide) rfl rfl (fw_sta hl rfl (by decide)) (rz_in (by omega) (by omega) (by omega) (by omega) (by omega) (by omega)) ?_
  rintro rv h' ⟨⟨hi1, hi2, rfl⟩ | ⟨hi1, rfl⟩, eh⟩
  · rw [eh]
    refine ik_Wk 0 (pc' := 7) (loc' := [some (fI 1)]) (st' := [fI 1]) (h' := h) (cl' := 0) (sl' := 0) rfl ?_
    refine ik_Wret rfl rfl ⟨_, _, rfl, rfl, ?_⟩
    refine ik_Wk 0 (pc' := 4) (loc' := [some (.ref 66), some (fI 1), some (fI p)]) (st' := [fI 1]) (h' := h) (cl' := 0) (sl' := 0) rfl ?_
    refine fw_if_eq rfl rfl (by omega) (by omega) (fun hc3 => absurd hc3 (by omega)) (fun hc3 => ?_)
    refine ik_Wk 1 (pc' := 8) (loc' := [some (.ref 66), some (fI 1), some (fI p)]) (st' := [fI p]) (h' := h) (cl' := 0) (sl' := 0) rfl ?_
    refine fw_bi rfl (by decide) ?_
    refine fw_ic_eq rfl rfl (by omega) (by omega) (by omega) (by omega) (fun hc4 => ?_) (fun hc4 => ?_)
    · refine ik_Wk 1 (pc' := 25) (loc' := [some (.ref 66), some (fI 1), some (fI p)]) (st' := [.ref 66]) (h' := h) (cl' := 0) (sl' := 0) rfl ?_
      refine fw_gf rfl rfl h66 rfl ?_
      refine ik_Wk 1 (pc' := 29) (loc' := [some (.ref 66), some (fI 1), some (fI p)]) (st' := [fI 1, .ref 90]) (h' := h) (cl' := 0) (sl' := 0) rfl ?_
      refine fw_ial rfl h90 (by omega) (by omega) (by omega) ?_
      have hq5 : L.getD (1 : Int).toNat 0 = L.getD 1 0 := rfl
      refine fw_bi rfl (by decide) ?_
      refine fw_ic_ne rfl rfl (by omega) (by omega) (by omega) (by omega) (fun hc6 => ?_) (fun hc6 => ?_)
      · refine fw_ld (-1000000004) rfl rfl (by decide) ?_
        have z0 : (0 : Int).toNat = 0 := rfl
        have z1 : (1 : Int).toNat = 1 := rfl
        have ea : lg_A p pl (L.getD 1 0) = -1000000004 := by unfold lg_A; (repeat split) <;> omega
        have ec : lg_C p pl (L.getD 1 0) = L.getD 1 0 := by unfold lg_C; (repeat split) <;> omega
        rw [ea, ec]
        exact ik_Wret rfl rfl ⟨_, _, rfl, rfl, rfl, rfl, rfl, lk_ia h90 (by omega) rfl (by omega) (by omega), lk_ia h90 (by omega) rfl (by omega) (by omega)⟩
      · refine ik_Wk 1 (pc' := 39) (loc' := [some (.ref 66), some (fI 1), some (fI p)]) (st' := [.ref 66]) (h' := h) (cl' := 0) (sl' := 0) rfl ?_
        refine fw_gf rfl rfl h66 rfl ?_
        refine fw_bi rfl (by decide) ?_
        refine ik_Wk 1 (pc' := 45) (loc' := [some (.ref 66), some (fI 1), some (fI p)]) (st' := [fI 1, fI 40, .ref 91]) (h' := h) (cl' := 0) (sl' := 0) rfl ?_
        refine fw_mul rfl ?_
        refine ik_Wk 1 (pc' := 47) (loc' := [some (.ref 66), some (fI 1), some (fI p)]) (st' := [.ref 66, fI 40, .ref 91]) (h' := h) (cl' := 0) (sl' := 0) rfl ?_
        refine fw_gf rfl rfl h66 rfl ?_
        refine ik_Wk 1 (pc' := 51) (loc' := [some (.ref 66), some (fI 1), some (fI p)]) (st' := [fI 1, .ref 90, fI 40, .ref 91]) (h' := h) (cl' := 0) (sl' := 0) rfl ?_
        refine fw_ial rfl h90 (by omega) (by omega) (by omega) ?_
        have hq7 : L.getD (1 : Int).toNat 0 = L.getD 1 0 := rfl
        refine fw_add rfl ?_
        refine ik_Wk 1 (pc' := 54) (loc' := [some (.ref 66), some (fI 1), some (fI p)]) (st' := [fI p, fI (40 + (L.getD (1 : Int).toNat 0)), .ref 91]) (h' := h) (cl' := 0) (sl' := 0) rfl ?_
        have hl8 : (S.set (40 + (L.getD (1 : Int).toNat 0)).toNat p).length = 80 := (List.length_set ..).trans n91
        refine fw_iasG rfl h91 (by omega) (by omega) (by omega) ?_
        intro h_21 e9 f_21 l_21
        have k_21 := l_21.trans hl
        have g_21_66 := (f_21 66 (by decide)).trans h66
        have g_21_90 := (f_21 90 (by decide)).trans h90
        have g_21_91 : h_21[91]? = some (.inl (.int, fA (S.set (40 + (L.getD (1 : Int).toNat 0)).toNat p))) := e9
        refine ik_Wk 1 (pc' := 56) (loc' := [some (.ref 66), some (fI 1), some (fI p)]) (st' := [.ref 66]) (h' := h_21) (cl' := 0) (sl' := 0) rfl ?_
        refine fw_gf rfl rfl g_21_66 rfl ?_
        refine ik_Wk 2 (pc' := 61) (loc' := [some (.ref 66), some (fI 1), some (fI p)]) (st' := [fI 1, .ref 90, fI 1, .ref 90]) (h' := h_21) (cl' := 0) (sl' := 0) rfl ?_
        refine fw_ial rfl g_21_90 (by omega) (by omega) (by omega) ?_
        have hq10 : L.getD (1 : Int).toNat 0 = L.getD 1 0 := rfl
        refine ik_Wk 1 (pc' := 63) (loc' := [some (.ref 66), some (fI 1), some (fI p)]) (st' := [fI 1, fI (L.getD (1 : Int).toNat 0), fI 1, .ref 90]) (h' := h_21) (cl' := 0) (sl' := 0) rfl ?_
        refine fw_add rfl ?_
        have hl11 : (L.set (1 : Int).toNat ((L.getD (1 : Int).toNat 0) + 1)).length = 2 := (List.length_set ..).trans n90
        refine fw_iasG rfl g_21_90 (by omega) (by omega) (by omega) ?_
        intro h_22 e12 f_22 l_22
        have k_22 := l_22.trans k_21
        have g_22_66 := (f_22 66 (by decide)).trans g_21_66
        have g_22_91 := (f_22 91 (by decide)).trans g_21_91
        have g_22_90 : h_22[90]? = some (.inl (.int, fA (L.set (1 : Int).toNat ((L.getD (1 : Int).toNat 0) + 1)))) := e12
        refine ik_Wk 1 (pc' := 66) (loc' := [some (.ref 66), some (fI 1), some (fI p)]) (st' := [.ref 66]) (h' := h_22) (cl' := 0) (sl' := 0) rfl ?_
        refine fw_gf rfl rfl g_22_66 rfl ?_
        refine ik_Wk 1 (pc' := 70) (loc' := [some (.ref 66), some (fI 1), some (fI p)]) (st' := [fI 1, .ref 90]) (h' := h_22) (cl' := 0) (sl' := 0) rfl ?_
        refine fw_ial rfl g_22_90 (by omega) (by omega) (by omega) ?_
        have z0 : (0 : Int).toNat = 0 := rfl
        have z1 : (1 : Int).toNat = 1 := rfl
        have ea : lg_A p pl (L.getD 1 0) = L.getD 1 0 + 1 := by unfold lg_A; (repeat split) <;> omega
        have ec : lg_C p pl (L.getD 1 0) = L.getD 1 0 + 1 := by unfold lg_C; (repeat split) <;> omega
        have es : (L.set (1 : Int).toNat ((L.getD (1 : Int).toNat 0) + 1)).getD 1 0 = L.getD 1 0 + 1 := by rw [fz_getD_set, if_pos ⟨rfl, by omega⟩]; rfl
        have eo : (L.set (1 : Int).toNat ((L.getD (1 : Int).toNat 0) + 1)).getD 0 0 = L.getD 0 0 := by rw [fz_getD_set, if_neg (fun q => absurd q.1 (by decide))]
        have er : ((L.set (1 : Int).toNat ((L.getD (1 : Int).toNat 0) + 1)).getD (1 : Int).toNat 0) = L.getD 1 0 + 1 := es
        rw [ea, ec, er]
        exact ik_Wret rfl rfl ⟨_, _, rfl, rfl, rfl, rfl, rfl, lk_ia g_22_90 (by omega) es (by omega) (by omega), lk_ia g_22_90 (by omega) eo (by omega) (by omega)⟩
    · refine ik_Wk 2 (pc' := 15) (loc' := [some (.ref 66), some (fI 1), some (fI p)]) (st' := [fI p, .ref 66]) (h' := h) (cl' := 0) (sl' := 0) rfl ?_
      refine ik_Wc 129 2 0 [.ref 66, fI p] [] rfl rfl rfl (by decide) rfl rfl (fw_rec hl rfl h66 rfl (by decide)) ?_
      refine ik_Wk 0 (pc' := 0) (loc' := [some (.ref 66), some (fI p)]) (st' := []) (h' := h) (cl' := 0) (sl' := 0) rfl ?_
      refine ik_Wk 1 (pc' := 1) (loc' := [some (.ref 66), some (fI p)]) (st' := [fI p]) (h' := h) (cl' := 0) (sl' := 0) rfl ?_
      refine fw_i2l rfl (by omega) (by omega) ?_
      refine fw_lc (z := 0) rfl (by decide) ?_
      refine ik_Wk 1 (pc' := 4) (loc' := [some (.ref 66), some (fI p)]) (st' := [.ref 66, fJ 0, fJ p]) (h' := h) (cl' := 0) (sl' := 0) rfl ?_
      refine fw_gf rfl rfl h66 rfl ?_
      refine ik_Wk 1 (pc' := 8) (loc' := [some (.ref 66), some (fI p)]) (st' := [fI 1, fI pl, fJ 0, fJ p]) (h' := h) (cl' := 0) (sl' := 0) rfl ?_
      refine fw_sub rfl ?_
      refine fw_i2l rfl (by omega) (by omega) ?_
      refine fw_call 127 3 3 [fJ p, fJ 0, fJ (pl - 1)] [] rfl rfl rfl (by decide) rfl rfl (fw_sta hl rfl (by decide)) (rz_in (by omega) (by omega) (by omega) (by omega) (by omega) (by omega)) ?_
      rintro rv h' ⟨⟨hi13, hi14, rfl⟩ | ⟨hi13, rfl⟩, eh⟩
      · rw [eh]
        refine ik_Wk 0 (pc' := 13) (loc' := [some (.ref 66), some (fI p)]) (st' := [fI 1]) (h' := h) (cl' := 0) (sl' := 0) rfl ?_
        refine ik_Wret rfl rfl ⟨_, _, rfl, rfl, ?_⟩
        refine ik_Wk 0 (pc' := 18) (loc' := [some (.ref 66), some (fI 1), some (fI p)]) (st' := [fI 1]) (h' := h) (cl' := 0) (sl' := 0) rfl ?_
        refine fw_if_ne rfl rfl (by omega) (by omega) (fun hc15 => absurd hc15 (by omega)) (fun hc15 => ?_)
        refine ik_Wk 1 (pc' := 25) (loc' := [some (.ref 66), some (fI 1), some (fI p)]) (st' := [.ref 66]) (h' := h) (cl' := 0) (sl' := 0) rfl ?_
        refine fw_gf rfl rfl h66 rfl ?_
        refine ik_Wk 1 (pc' := 29) (loc' := [some (.ref 66), some (fI 1), some (fI p)]) (st' := [fI 1, .ref 90]) (h' := h) (cl' := 0) (sl' := 0) rfl ?_
        refine fw_ial rfl h90 (by omega) (by omega) (by omega) ?_
        have hq16 : L.getD (1 : Int).toNat 0 = L.getD 1 0 := rfl
        refine fw_bi rfl (by decide) ?_
        refine fw_ic_ne rfl rfl (by omega) (by omega) (by omega) (by omega) (fun hc17 => ?_) (fun hc17 => ?_)
        · refine fw_ld (-1000000004) rfl rfl (by decide) ?_
          have z0 : (0 : Int).toNat = 0 := rfl
          have z1 : (1 : Int).toNat = 1 := rfl
          have ea : lg_A p pl (L.getD 1 0) = -1000000004 := by unfold lg_A; (repeat split) <;> omega
          have ec : lg_C p pl (L.getD 1 0) = L.getD 1 0 := by unfold lg_C; (repeat split) <;> omega
          rw [ea, ec]
          exact ik_Wret rfl rfl ⟨_, _, rfl, rfl, rfl, rfl, rfl, lk_ia h90 (by omega) rfl (by omega) (by omega), lk_ia h90 (by omega) rfl (by omega) (by omega)⟩
        · refine ik_Wk 1 (pc' := 39) (loc' := [some (.ref 66), some (fI 1), some (fI p)]) (st' := [.ref 66]) (h' := h) (cl' := 0) (sl' := 0) rfl ?_
          refine fw_gf rfl rfl h66 rfl ?_
          refine fw_bi rfl (by decide) ?_
          refine ik_Wk 1 (pc' := 45) (loc' := [some (.ref 66), some (fI 1), some (fI p)]) (st' := [fI 1, fI 40, .ref 91]) (h' := h) (cl' := 0) (sl' := 0) rfl ?_
          refine fw_mul rfl ?_
          refine ik_Wk 1 (pc' := 47) (loc' := [some (.ref 66), some (fI 1), some (fI p)]) (st' := [.ref 66, fI 40, .ref 91]) (h' := h) (cl' := 0) (sl' := 0) rfl ?_
          refine fw_gf rfl rfl h66 rfl ?_
          refine ik_Wk 1 (pc' := 51) (loc' := [some (.ref 66), some (fI 1), some (fI p)]) (st' := [fI 1, .ref 90, fI 40, .ref 91]) (h' := h) (cl' := 0) (sl' := 0) rfl ?_
          refine fw_ial rfl h90 (by omega) (by omega) (by omega) ?_
          have hq18 : L.getD (1 : Int).toNat 0 = L.getD 1 0 := rfl
          refine fw_add rfl ?_
          refine ik_Wk 1 (pc' := 54) (loc' := [some (.ref 66), some (fI 1), some (fI p)]) (st' := [fI p, fI (40 + (L.getD (1 : Int).toNat 0)), .ref 91]) (h' := h) (cl' := 0) (sl' := 0) rfl ?_
          have hl19 : (S.set (40 + (L.getD (1 : Int).toNat 0)).toNat p).length = 80 := (List.length_set ..).trans n91
          refine fw_iasG rfl h91 (by omega) (by omega) (by omega) ?_
          intro h_23 e20 f_23 l_23
          have k_23 := l_23.trans hl
          have g_23_66 := (f_23 66 (by decide)).trans h66
          have g_23_90 := (f_23 90 (by decide)).trans h90
          have g_23_91 : h_23[91]? = some (.inl (.int, fA (S.set (40 + (L.getD (1 : Int).toNat 0)).toNat p))) := e20
          refine ik_Wk 1 (pc' := 56) (loc' := [some (.ref 66), some (fI 1), some (fI p)]) (st' := [.ref 66]) (h' := h_23) (cl' := 0) (sl' := 0) rfl ?_
          refine fw_gf rfl rfl g_23_66 rfl ?_
          refine ik_Wk 2 (pc' := 61) (loc' := [some (.ref 66), some (fI 1), some (fI p)]) (st' := [fI 1, .ref 90, fI 1, .ref 90]) (h' := h_23) (cl' := 0) (sl' := 0) rfl ?_
          refine fw_ial rfl g_23_90 (by omega) (by omega) (by omega) ?_
          have hq21 : L.getD (1 : Int).toNat 0 = L.getD 1 0 := rfl
          refine ik_Wk 1 (pc' := 63) (loc' := [some (.ref 66), some (fI 1), some (fI p)]) (st' := [fI 1, fI (L.getD (1 : Int).toNat 0), fI 1, .ref 90]) (h' := h_23) (cl' := 0) (sl' := 0) rfl ?_
          refine fw_add rfl ?_
          have hl22 : (L.set (1 : Int).toNat ((L.getD (1 : Int).toNat 0) + 1)).length = 2 := (List.length_set ..).trans n90
          refine fw_iasG rfl g_23_90 (by omega) (by omega) (by omega) ?_
          intro h_24 e23 f_24 l_24
          have k_24 := l_24.trans k_23
          have g_24_66 := (f_24 66 (by decide)).trans g_23_66
          have g_24_91 := (f_24 91 (by decide)).trans g_23_91
          have g_24_90 : h_24[90]? = some (.inl (.int, fA (L.set (1 : Int).toNat ((L.getD (1 : Int).toNat 0) + 1)))) := e23
          refine ik_Wk 1 (pc' := 66) (loc' := [some (.ref 66), some (fI 1), some (fI p)]) (st' := [.ref 66]) (h' := h_24) (cl' := 0) (sl' := 0) rfl ?_
          refine fw_gf rfl rfl g_24_66 rfl ?_
          refine ik_Wk 1 (pc' := 70) (loc' := [some (.ref 66), some (fI 1), some (fI p)]) (st' := [fI 1, .ref 90]) (h' := h_24) (cl' := 0) (sl' := 0) rfl ?_
          refine fw_ial rfl g_24_90 (by omega) (by omega) (by omega) ?_
          have z0 : (0 : Int).toNat = 0 := rfl
          have z1 : (1 : Int).toNat = 1 := rfl
          have ea : lg_A p pl (L.getD 1 0) = L.getD 1 0 + 1 := by unfold lg_A; (repeat split) <;> omega
          have ec : lg_C p pl (L.getD 1 0) = L.getD 1 0 + 1 := by unfold lg_C; (repeat split) <;> omega
          have es : (L.set (1 : Int).toNat ((L.getD (1 : Int).toNat 0) + 1)).getD 1 0 = L.getD 1 0 + 1 := by rw [fz_getD_set, if_pos ⟨rfl, by omega⟩]; rfl
          have eo : (L.set (1 : Int).toNat ((L.getD (1 : Int).toNat 0) + 1)).getD 0 0 = L.getD 0 0 := by rw [fz_getD_set, if_neg (fun q => absurd q.1 (by decide))]
          have er : ((L.set (1 : Int).toNat ((L.getD (1 : Int).toNat 0) + 1)).getD (1 : Int).toNat 0) = L.getD 1 0 + 1 := es
          rw [ea, ec, er]
          exact ik_Wret rfl rfl ⟨_, _, rfl, rfl, rfl, rfl, rfl, lk_ia g_24_90 (by omega) es (by omega) (by omega), lk_ia g_24_90 (by omega) eo (by omega) (by omega)⟩
      · rw [eh]
        refine ik_Wk 0 (pc' := 13) (loc' := [some (.ref 66), some (fI p)]) (st' := [fI 0]) (h' := h) (cl' := 0) (sl' := 0) rfl ?_
        refine ik_Wret rfl rfl ⟨_, _, rfl, rfl, ?_⟩
        refine ik_Wk 0 (pc' := 18) (loc' := [some (.ref 66), some (fI 1), some (fI p)]) (st' := [fI 0]) (h' := h) (cl' := 0) (sl' := 0) rfl ?_
        refine fw_if_ne rfl rfl (by omega) (by omega) (fun hc24 => ?_) (fun hc24 => absurd hc24 (by omega))
        refine fw_ld (-1000000001) rfl rfl (by decide) ?_
        have z0 : (0 : Int).toNat = 0 := rfl
        have z1 : (1 : Int).toNat = 1 := rfl
        have ea : lg_A p pl (L.getD 1 0) = -1000000001 := by unfold lg_A; (repeat split) <;> omega
        have ec : lg_C p pl (L.getD 1 0) = L.getD 1 0 := by unfold lg_C; (repeat split) <;> omega
        rw [ea, ec]
        exact ik_Wret rfl rfl ⟨_, _, rfl, rfl, rfl, rfl, rfl, lk_ia h90 (by omega) rfl (by omega) (by omega), lk_ia h90 (by omega) rfl (by omega) (by omega)⟩
  · rw [eh]
    refine ik_Wk 0 (pc' := 7) (loc' := [some (fI 1)]) (st' := [fI 0]) (h' := h) (cl' := 0) (sl' := 0) rfl ?_
    refine ik_Wret rfl rfl ⟨_, _, rfl, rfl, ?_⟩
    refine ik_Wk 0 (pc' := 4) (loc' := [some (.ref 66), some (fI 1), some (fI p)]) (st' := [fI 0]) (h' := h) (cl' := 0) (sl' := 0) rfl ?_
    refine fw_if_eq rfl rfl (by omega) (by omega) (fun hc25 => ?_) (fun hc25 => absurd hc25 (by omega))
    refine fw_ld (-1000000001) rfl rfl (by decide) ?_
    have z0 : (0 : Int).toNat = 0 := rfl
    have z1 : (1 : Int).toNat = 1 := rfl
    have ea : lg_A p pl (L.getD 1 0) = -1000000001 := by unfold lg_A; (repeat split) <;> omega
    have ec : lg_C p pl (L.getD 1 0) = L.getD 1 0 := by unfold lg_C; (repeat split) <;> omega
    rw [ea, ec]
    exact ik_Wret rfl rfl ⟨_, _, rfl, rfl, rfl, rfl, rfl, lk_ia h90 (by omega) rfl (by omega) (by omega), lk_ia h90 (by omega) rfl (by omega) (by omega)⟩

theorem gr_logx {h : List ik_E} {s p : Int} (s0 : -2147483648 ≤ s) (s1 : s < 2147483648)  (hl : h.length = 94) (hs : s < 0 ∨ 1 < s) : ik_F 203 [.ref 66, fI s, fI p] h (fun rv h' => rv = [fI (-1000000001)] ∧ h' = h) := by
  refine ik_Wk 1 (pc' := 1) (loc' := [some (.ref 66), some (fI s), some (fI p)]) (st' := [fI s]) (h' := h) (cl' := 0) (sl' := 0) rfl ?_
  refine ik_Wc 132 1 3 [fI s] [] rfl rfl rfl (by decide) rfl rfl (fw_sta hl rfl (by decide)) ?_
  refine ik_Wk 0 (pc' := 0) (loc' := [some (fI s)]) (st' := []) (h' := h) (cl' := 0) (sl' := 0) rfl ?_
  refine ik_Wk 1 (pc' := 1) (loc' := [some (fI s)]) (st' := [fI s]) (h' := h) (cl' := 0) (sl' := 0) rfl ?_
  refine fw_i2l rfl (by omega) (by omega) ?_
  refine fw_lc (z := 0) rfl (by decide) ?_
  refine fw_lc (z := 1) rfl (by decide) ?_
  refine fw_call 127 3 3 [fJ s, fJ 0, fJ 1] [] rfl rfl rfl (by decide) rfl rfl (fw_sta hl rfl (by decide)) (rz_in (by omega) (by omega) (by omega) (by omega) (by omega) (by omega)) ?_
  rintro rv h' ⟨⟨hi1, hi2, rfl⟩ | ⟨hi1, rfl⟩, eh⟩
  · omega
  · rw [eh]
    refine ik_Wk 0 (pc' := 7) (loc' := [some (fI s)]) (st' := [fI 0]) (h' := h) (cl' := 0) (sl' := 0) rfl ?_
    refine ik_Wret rfl rfl ⟨_, _, rfl, rfl, ?_⟩
    refine ik_Wk 0 (pc' := 4) (loc' := [some (.ref 66), some (fI s), some (fI p)]) (st' := [fI 0]) (h' := h) (cl' := 0) (sl' := 0) rfl ?_
    refine fw_if_eq rfl rfl (by omega) (by omega) (fun hc1 => ?_) (fun hc1 => absurd hc1 (by omega))
    refine fw_ld (-1000000001) rfl rfl (by decide) ?_
    exact ik_Wret rfl rfl ⟨_, _, rfl, rfl, rfl, rfl, rfl, rfl⟩

theorem gc_logx {h : List ik_E} {s p : Int} (s0 : -2147483648 ≤ s) (s1 : s < 2147483648)  (hl : h.length = 94) (hs : s < 0 ∨ 1 < s) : ik_F 115 [.ref 0, fI s, fI p] h (fun rv h' => rv = [fI (-1000000001)] ∧ h' = h) := by
  refine ik_Wk 1 (pc' := 1) (loc' := [some (.ref 0), some (fI s), some (fI p)]) (st' := [fI s]) (h' := h) (cl' := 0) (sl' := 0) rfl ?_
  refine ik_Wc 121 1 3 [fI s] [] rfl rfl rfl (by decide) rfl rfl (fw_sta hl rfl (by decide)) ?_
  refine ik_Wk 0 (pc' := 0) (loc' := [some (fI s)]) (st' := []) (h' := h) (cl' := 0) (sl' := 0) rfl ?_
  refine ik_Wk 1 (pc' := 1) (loc' := [some (fI s)]) (st' := [fI s]) (h' := h) (cl' := 0) (sl' := 0) rfl ?_
  refine fw_if_eq rfl rfl (by omega) (by omega) (fun hc1 => absurd hc1 (by omega)) (fun hc1 => ?_)
  refine ik_Wk 2 (pc' := 6) (loc' := [some (fI s)]) (st' := [fI 1, fI s]) (h' := h) (cl' := 0) (sl' := 0) rfl ?_
  refine fw_ic_ne rfl rfl (by omega) (by omega) (by omega) (by omega) (fun hc2 => absurd hc2 (by omega)) (fun hc2 => ?_)
  refine ik_Wk 1 (pc' := 14) (loc' := [some (fI s)]) (st' := [fI 0]) (h' := h) (cl' := 0) (sl' := 0) rfl ?_
  refine ik_Wret rfl rfl ⟨_, _, rfl, rfl, ?_⟩
  refine ik_Wk 0 (pc' := 4) (loc' := [some (.ref 0), some (fI s), some (fI p)]) (st' := [fI 0]) (h' := h) (cl' := 0) (sl' := 0) rfl ?_
  refine fw_if_eq rfl rfl (by omega) (by omega) (fun hc3 => ?_) (fun hc3 => absurd hc3 (by omega))
  refine fw_ld (-1000000001) rfl rfl (by decide) ?_
  exact ik_Wret rfl rfl ⟨_, _, rfl, rfl, rfl, rfl, rfl, rfl⟩

theorem gc_clear {h : List ik_E} {L : List Int} (h0 : h[0]? = some (.inr (9, [.ref 1, .ref 7, .ref 14, .ref 17, .ref 45, .ref 51, .ref 54, .ref 57]))) (h54 : h[54]? = some (.inr (4, [.ref 55, .ref 56]))) (h56 : h[56]? = some (.inl (.int, fA L))) (n56 : L.length = 2) (hl : h.length = 94)  : ik_F 116 [.ref 0] h (fun rv h' => rv = [fI (L.getD 0 0 + L.getD 1 0)] ∧ sx_lk [] [] h' (1, 56, 0) = some 0 ∧ sx_lk [] [] h' (1, 56, 1) = some 0) := by
  refine ik_Wk 1 (pc' := 1) (loc' := [some (.ref 0), none]) (st' := [.ref 0]) (h' := h) (cl' := 0) (sl' := 0) rfl ?_
  refine fw_gf rfl rfl h0 rfl ?_
  refine fw_gf rfl rfl h54 rfl ?_
  refine ik_Wk 1 (pc' := 8) (loc' := [some (.ref 0), none]) (st' := [fI 0, .ref 56]) (h' := h) (cl' := 0) (sl' := 0) rfl ?_
  refine fw_ial rfl h56 (by omega) (by omega) (by omega) ?_
  refine ik_Wk 1 (pc' := 10) (loc' := [some (.ref 0), none]) (st' := [.ref 0, fI (L.getD (0 : Int).toNat 0)]) (h' := h) (cl' := 0) (sl' := 0) rfl ?_
  refine fw_gf rfl rfl h0 rfl ?_
  refine fw_gf rfl rfl h54 rfl ?_
  refine ik_Wk 1 (pc' := 17) (loc' := [some (.ref 0), none]) (st' := [fI 1, .ref 56, fI (L.getD (0 : Int).toNat 0)]) (h' := h) (cl' := 0) (sl' := 0) rfl ?_
  refine fw_ial rfl h56 (by omega) (by omega) (by omega) ?_
  refine fw_add rfl ?_
  refine ik_Wk 2 (pc' := 21) (loc' := [some (.ref 0), some (fI ((L.getD (0 : Int).toNat 0) + (L.getD (1 : Int).toNat 0)))]) (st' := [.ref 0]) (h' := h) (cl' := 0) (sl' := 0) rfl ?_
  refine fw_gf rfl rfl h0 rfl ?_
  refine ik_Wc 37 1 0 [.ref 54] [] rfl rfl rfl (by decide) rfl rfl (fw_rec hl rfl h54 rfl (by decide)) ?_
  refine ik_Wk 0 (pc' := 0) (loc' := [some (.ref 54)]) (st' := []) (h' := h) (cl' := 0) (sl' := 0) rfl ?_
  refine ik_Wk 1 (pc' := 1) (loc' := [some (.ref 54)]) (st' := [.ref 54]) (h' := h) (cl' := 0) (sl' := 0) rfl ?_
  refine fw_gf rfl rfl h54 rfl ?_
  refine ik_Wk 2 (pc' := 6) (loc' := [some (.ref 54)]) (st' := [fI 0, fI 0, .ref 56]) (h' := h) (cl' := 0) (sl' := 0) rfl ?_
  have hl1 : (L.set (0 : Int).toNat 0).length = 2 := (List.length_set ..).trans n56
  refine fw_iasG rfl h56 (by omega) (by omega) (by omega) ?_
  intro h_25 e2 f_25 l_25
  have k_25 := l_25.trans hl
  have g_25_0 := (f_25 0 (by decide)).trans h0
  have g_25_54 := (f_25 54 (by decide)).trans h54
  have g_25_56 : h_25[56]? = some (.inl (.int, fA (L.set (0 : Int).toNat 0))) := e2
  refine ik_Wk 1 (pc' := 8) (loc' := [some (.ref 54)]) (st' := [.ref 54]) (h' := h_25) (cl' := 0) (sl' := 0) rfl ?_
  refine fw_gf rfl rfl g_25_54 rfl ?_
  refine ik_Wk 2 (pc' := 13) (loc' := [some (.ref 54)]) (st' := [fI 0, fI 1, .ref 56]) (h' := h_25) (cl' := 0) (sl' := 0) rfl ?_
  have hl3 : ((L.set (0 : Int).toNat 0).set (1 : Int).toNat 0).length = 2 := (List.length_set ..).trans hl1
  refine fw_iasG rfl g_25_56 (by omega) (by omega) (by omega) ?_
  intro h_26 e4 f_26 l_26
  have k_26 := l_26.trans k_25
  have g_26_0 := (f_26 0 (by decide)).trans g_25_0
  have g_26_54 := (f_26 54 (by decide)).trans g_25_54
  have g_26_56 : h_26[56]? = some (.inl (.int, fA ((L.set (0 : Int).toNat 0).set (1 : Int).toNat 0))) := e4
  refine ik_Wret rfl rfl ⟨_, _, rfl, rfl, ?_⟩
  refine ik_Wk 0 (pc' := 27) (loc' := [some (.ref 0), some (fI ((L.getD (0 : Int).toNat 0) + (L.getD (1 : Int).toNat 0)))]) (st' := []) (h' := h_26) (cl' := 0) (sl' := 0) rfl ?_
  refine ik_Wk 1 (pc' := 28) (loc' := [some (.ref 0), some (fI ((L.getD (0 : Int).toNat 0) + (L.getD (1 : Int).toNat 0)))]) (st' := [fI ((L.getD (0 : Int).toNat 0) + (L.getD (1 : Int).toNat 0))]) (h' := h_26) (cl' := 0) (sl' := 0) rfl ?_
  have es : ((L.set (0 : Int).toNat 0).set (1 : Int).toNat 0).getD 0 0 = 0 := by rw [fz_getD_set, if_neg (fun q => absurd q.1 (by decide)), fz_getD_set, if_pos ⟨rfl, by omega⟩]
  have eo : ((L.set (0 : Int).toNat 0).set (1 : Int).toNat 0).getD 1 0 = 0 := by rw [fz_getD_set, if_pos ⟨rfl, by omega⟩]
  exact ik_Wret rfl rfl ⟨_, _, rfl, rfl, rfl, rfl, rfl, lk_ia g_26_56 (by omega) es (by decide) (by decide), lk_ia g_26_56 (by omega) eo (by decide) (by decide)⟩

theorem gr_clear {h : List ik_E} {f : Nat → Int} {L : List Int} (h66 : h[66]? = some (.inr (10, [fI (f 0), .ref 67, .ref 68, .ref 69, fI (f 4), .ref 70, .ref 71, fI (f 7), fI (f 8), .ref 72, fI (f 10), fI (f 11), fI (f 12), fJ (f 13), fI (f 14), fI (f 15), fI (f 16), fI (f 17), .ref 73, .ref 74, .ref 75, .ref 76, .ref 77, .ref 78, fI (f 24), .ref 79, .ref 80, .ref 81, .ref 82, .ref 83, .ref 84, .ref 85, fJ (f 32), fJ (f 33), .ref 86, .ref 87, fI (f 36), .ref 88, .ref 89, .ref 90, .ref 91, .ref 92, .ref 93]))) (h90 : h[90]? = some (.inl (.int, fA L))) (n90 : L.length = 2) (hl : h.length = 94)  : ik_F 204 [.ref 66] h (fun rv h' => rv = [fI (L.getD 0 0 + L.getD 1 0)] ∧ sx_lk [] [] h' (1, 90, 0) = some 0 ∧ sx_lk [] [] h' (1, 90, 1) = some 0) := by
  refine ik_Wk 1 (pc' := 1) (loc' := [some (.ref 66), none]) (st' := [.ref 66]) (h' := h) (cl' := 0) (sl' := 0) rfl ?_
  refine fw_gf rfl rfl h66 rfl ?_
  refine ik_Wk 1 (pc' := 5) (loc' := [some (.ref 66), none]) (st' := [fI 0, .ref 90]) (h' := h) (cl' := 0) (sl' := 0) rfl ?_
  refine fw_ial rfl h90 (by omega) (by omega) (by omega) ?_
  refine ik_Wk 1 (pc' := 7) (loc' := [some (.ref 66), none]) (st' := [.ref 66, fI (L.getD (0 : Int).toNat 0)]) (h' := h) (cl' := 0) (sl' := 0) rfl ?_
  refine fw_gf rfl rfl h66 rfl ?_
  refine ik_Wk 1 (pc' := 11) (loc' := [some (.ref 66), none]) (st' := [fI 1, .ref 90, fI (L.getD (0 : Int).toNat 0)]) (h' := h) (cl' := 0) (sl' := 0) rfl ?_
  refine fw_ial rfl h90 (by omega) (by omega) (by omega) ?_
  refine fw_add rfl ?_
  refine ik_Wk 2 (pc' := 15) (loc' := [some (.ref 66), some (fI ((L.getD (0 : Int).toNat 0) + (L.getD (1 : Int).toNat 0)))]) (st' := [.ref 66]) (h' := h) (cl' := 0) (sl' := 0) rfl ?_
  refine fw_gf rfl rfl h66 rfl ?_
  refine ik_Wk 2 (pc' := 20) (loc' := [some (.ref 66), some (fI ((L.getD (0 : Int).toNat 0) + (L.getD (1 : Int).toNat 0)))]) (st' := [fI 0, fI 0, .ref 90]) (h' := h) (cl' := 0) (sl' := 0) rfl ?_
  have hl1 : (L.set (0 : Int).toNat 0).length = 2 := (List.length_set ..).trans n90
  refine fw_iasG rfl h90 (by omega) (by omega) (by omega) ?_
  intro h_27 e2 f_27 l_27
  have k_27 := l_27.trans hl
  have g_27_66 := (f_27 66 (by decide)).trans h66
  have g_27_90 : h_27[90]? = some (.inl (.int, fA (L.set (0 : Int).toNat 0))) := e2
  refine ik_Wk 1 (pc' := 22) (loc' := [some (.ref 66), some (fI ((L.getD (0 : Int).toNat 0) + (L.getD (1 : Int).toNat 0)))]) (st' := [.ref 66]) (h' := h_27) (cl' := 0) (sl' := 0) rfl ?_
  refine fw_gf rfl rfl g_27_66 rfl ?_
  refine ik_Wk 2 (pc' := 27) (loc' := [some (.ref 66), some (fI ((L.getD (0 : Int).toNat 0) + (L.getD (1 : Int).toNat 0)))]) (st' := [fI 0, fI 1, .ref 90]) (h' := h_27) (cl' := 0) (sl' := 0) rfl ?_
  have hl3 : ((L.set (0 : Int).toNat 0).set (1 : Int).toNat 0).length = 2 := (List.length_set ..).trans hl1
  refine fw_iasG rfl g_27_90 (by omega) (by omega) (by omega) ?_
  intro h_28 e4 f_28 l_28
  have k_28 := l_28.trans k_27
  have g_28_66 := (f_28 66 (by decide)).trans g_27_66
  have g_28_90 : h_28[90]? = some (.inl (.int, fA ((L.set (0 : Int).toNat 0).set (1 : Int).toNat 0))) := e4
  refine ik_Wk 1 (pc' := 29) (loc' := [some (.ref 66), some (fI ((L.getD (0 : Int).toNat 0) + (L.getD (1 : Int).toNat 0)))]) (st' := [fI ((L.getD (0 : Int).toNat 0) + (L.getD (1 : Int).toNat 0))]) (h' := h_28) (cl' := 0) (sl' := 0) rfl ?_
  have es : ((L.set (0 : Int).toNat 0).set (1 : Int).toNat 0).getD 0 0 = 0 := by rw [fz_getD_set, if_neg (fun q => absurd q.1 (by decide)), fz_getD_set, if_pos ⟨rfl, by omega⟩]
  have eo : ((L.set (0 : Int).toNat 0).set (1 : Int).toNat 0).getD 1 0 = 0 := by rw [fz_getD_set, if_pos ⟨rfl, by omega⟩]
  exact ik_Wret rfl rfl ⟨_, _, rfl, rfl, rfl, rfl, rfl, lk_ia g_28_90 (by omega) es (by decide) (by decide), lk_ia g_28_90 (by omega) eo (by decide) (by decide)⟩

end