/-! 62a.law -/
noncomputable section
/-! THE LAW: call by call (written by wip/fx/law.py) -/
def lw_LOC (i : Int32) : ik_L := [some (.retAddr 0), some (.ref 0), some (.ref 66), some (.int i)]
def lw_post (z : ik_St) : Prop := ik_at 0 z.1 = some .ireturn ∧ z.2.2.1 = [.int 1] ∧ z.2.2.2.2.1 ≤ 600000 ∧ z.2.2.2.2.2 ≤ 7302250
def lw_fk (q ci : Nat) : Bool := decide (ik_fr q + 1 ≤ ik_fr 0) && decide (8 + (ik_ml q + 11) + ik_lo q ≤ ik_lo 0) && decide (q < ik_M.length) && decide (ci = ik_ow q) && decide (ci < 11)
theorem lw_fit {q ci a : Nat} (hk : lw_fk q ci = true) {h : List ik_E} (hl : h.length = 94) {fs : List Value} (ha : h[a]? = some (.inr (ci, fs))) {as rest : List Value} (hm : (ik_args (.ref a :: as)).length ≤ ik_ml q) (hr : ik_sum rest ≤ 8) (hr2 : rest.all (ik_wv 94) = true) {i : Int32} : ik_fitC 0 q 0 (.ref a :: as) h rest (lw_LOC i) = true := by
  unfold lw_fk at hk
  simp only [Bool.and_eq_true] at hk
  unfold ik_fitC
  simp only [ha, hl, Bool.and_eq_true]
  exact ⟨⟨⟨⟨⟨⟨⟨hk.1.1.1.1, hk.1.1.1.2⟩, decide_eq_true hr⟩, decide_eq_true hm⟩, hk.1.1.2⟩, hr2⟩, rfl⟩, hk.1.2, hk.2⟩
theorem lw_bm {y : Int} (h1 : -2147483648 ≤ y) (h2 : y ≤ 2147483647) : y.bmod (2 ^ 32) = y := by
  rw [Int.bmod_def]
  split <;> omega
/-- an int of the script -/
theorem lw_ld {L : Nat} {f : Nat → Int32} {pc : Nat} {j i : Int32} {h : List ik_E} {st : List Value} {cl sl : Nat} {post : ik_St → Prop} (hi : ik_at 0 pc = some .iaload) (h0 : 0 ≤ j.toInt) (h1 : j.toInt < L) (kk : ik_W (some (L, f)) 0 (pc + 1) (lw_LOC i) (.int (f j.toInt.toNat) :: st) h cl sl post) : ik_W (some (L, f)) 0 pc (lw_LOC i) (.int j :: .retAddr 0 :: st) h cl sl post := by
  have e1 : j.toNatClampNeg = j.toInt.toNat := rfl
  refine fw_1 hi rfl rfl ?_ kk
  simp only [ik_step, ik_bo]
  rw [e1, if_pos]
  rintro (q | q)
  · rw [cv_lt] at q
    have e0 : (0 : Int32).toInt = 0 := rfl
    omega
  · omega
theorem lw_arg {L : Nat} {f : Nat → Int32} {pc : Nat} {i : Int32} {h : List ik_E} {st : List Value} {cl sl : Nat} {post : ik_St → Prop} (c : Nat) (hr : ik_at 0 pc = some (.aload_n 0) ∧ ik_at 0 (pc + 1) = some (.iload_n 3) ∧ ik_at 0 (pc + 2) = some (.iconst c) ∧ ik_at 0 (pc + 3) = some .iadd ∧ ik_at 0 (pc + 4) = some .iaload) (hc : c ≤ 4) (h0 : 0 ≤ i.toInt) (h1 : i.toInt + 4 < L) (hL : L ≤ 2560) (kk : ik_W (some (L, f)) 0 (pc + 5) (lw_LOC i) (.int (f (i.toInt.toNat + c)) :: st) h cl sl post) : ik_W (some (L, f)) 0 pc (lw_LOC i) st h cl sl post := by
  obtain ⟨r1, r2, r3, r4, r5⟩ := hr
  refine fw_1 r1 rfl rfl (loc_q := lw_LOC i) (st_q := .retAddr 0 :: st) (h_q := h) (cl_q := cl) (sl_q := sl) rfl ?_
  refine fw_1 r2 rfl rfl (loc_q := lw_LOC i) (st_q := .int i :: .retAddr 0 :: st) (h_q := h) (cl_q := cl) (sl_q := sl) rfl ?_
  refine fw_1 r3 rfl rfl (loc_q := lw_LOC i) (st_q := .int (Int32.ofInt c) :: .int i :: .retAddr 0 :: st) (h_q := h) (cl_q := cl) (sl_q := sl) rfl ?_
  refine fw_1 r4 rfl rfl (loc_q := lw_LOC i) (st_q := .int (i + Int32.ofInt c) :: .retAddr 0 :: st) (h_q := h) (cl_q := cl) (sl_q := sl) rfl ?_
  have ec : (Int32.ofInt (c : Int)).toInt = c := by
    rw [Int32.toInt_ofInt]
    exact lw_bm (by omega) (by omega)
  have ej : (i + Int32.ofInt (c : Int)).toInt = i.toInt + c := by
    rw [Int32.toInt_add, ec]
    exact lw_bm (by omega) (by omega)
  refine lw_ld r5 (by omega) (by omega) ?_
  rw [ej, show (i.toInt + (c : Int)).toNat = i.toInt.toNat + c by omega]
  exact kk
theorem lw_z (x : Int32) : ∃ z : Int, x = Int32.ofInt z ∧ (-2147483648 ≤ z ∧ z < 2147483648) := ⟨x.toInt, (Int32.ofInt_toInt x).symm, by have := x.le_toInt; have := x.toInt_lt; omega⟩
theorem lw_argz {L : Nat} {f : Nat → Int32} {pc : Nat} {i : Int32} {h : List ik_E} {st : List Value} {cl sl : Nat} {post : ik_St → Prop} (c : Nat) (hr : ik_at 0 pc = some (.aload_n 0) ∧ ik_at 0 (pc + 1) = some (.iload_n 3) ∧ ik_at 0 (pc + 2) = some (.iconst c) ∧ ik_at 0 (pc + 3) = some .iadd ∧ ik_at 0 (pc + 4) = some .iaload) (hc : c ≤ 4) (h0 : 0 ≤ i.toInt) (h1 : i.toInt + 4 < L) (hL : L ≤ 2560) {z : Int} (hz : f (i.toInt.toNat + c) = Int32.ofInt z) (kk : ik_W (some (L, f)) 0 (pc + 5) (lw_LOC i) (fI z :: st) h cl sl post) : ik_W (some (L, f)) 0 pc (lw_LOC i) st h cl sl post := lw_arg c hr hc h0 h1 hL (by rw [hz]; exact kk)
def lw_b1 (u : Int32) : Int64 := u.toInt64 <<< ((Int8.ofInt 32).toInt32.toInt64 &&& 63)
def lw_b2 (a : Int64) (u : Int32) : Int64 := a ||| (u.toInt64 &&& 4294967295)
set_option maxHeartbeats 4000000 in
set_option maxRecDepth 100000 in
theorem lw_k0 {L : Nat} {f : Nat → Int32} {i : Int32} {h : List ik_E} {K : Nat} (E : st_S K h) (hK : K ≤ 600) (h0 : 0 ≤ i.toInt) (h1 : i.toInt + 4 < L) (h2 : L ≤ 2560) (kk : ∀ h_q, st_S (K + 1) h_q → ik_W (some (L, f)) 0 1131 (lw_LOC i) [] h_q 94 4156 lw_post) : ik_W (some (L, f)) 0 172 (lw_LOC i) [] h 94 4156 lw_post := by
  obtain ⟨hl0, fs0, hc0⟩ := st_0 E
  obtain ⟨z1, e1, r1⟩ := lw_z (f (i.toInt.toNat + 1))
  obtain ⟨b, eb⟩ : ∃ b : Int, lw_b2 (lw_b1 (f (i.toInt.toNat + 2))) (f (i.toInt.toNat + 3)) = Int64.ofInt b := ⟨_, (Int64.ofInt_toInt _).symm⟩
  refine ik_Wk 1 (pc_q := 173) (loc_q := lw_LOC i) (st_q := [.ref 0]) (h_q := h) (cl_q := 94) (sl_q := 4156) rfl ?_
  refine lw_argz 1 ⟨rfl, rfl, rfl, rfl, rfl⟩ (by decide) h0 h1 h2 e1 ?_
  refine lw_arg 2 ⟨rfl, rfl, rfl, rfl, rfl⟩ (by decide) h0 h1 h2 ?_
  obtain ⟨y1, ey1, hyy1⟩ : ∃ y1 : Int64, ik_run 3 (some (L, f)) 0 (183, lw_LOC i, [.int (f (i.toInt.toNat + 2)), fI z1, .ref 0], h, 94, 4156) = some (187, lw_LOC i, [.long y1, fI z1, .ref 0], h, 94, 4156) ∧ y1 = lw_b1 ((f (i.toInt.toNat + 2))) := ⟨_, rfl, rfl⟩
  refine ik_Wk 3 ey1 ?_
  refine lw_arg 3 ⟨rfl, rfl, rfl, rfl, rfl⟩ (by decide) h0 h1 h2 ?_
  obtain ⟨y2, ey2, hyy2⟩ : ∃ y2 : Int64, ik_run 4 (some (L, f)) 0 (192, lw_LOC i, [.int (f (i.toInt.toNat + 3)), .long y1, fI z1, .ref 0], h, 94, 4156) = some (198, lw_LOC i, [.long y2, fI z1, .ref 0], h, 94, 4156) ∧ y2 = lw_b2 y1 ((f (i.toInt.toNat + 3))) := ⟨_, rfl, rfl⟩
  refine ik_Wk 4 ey2 ?_
  rw [hyy1, eb] at hyy2
  subst hyy2
  refine fw_call 90 3 0 [.ref 0, fI z1, fJ b] [] rfl rfl rfl (Nat.le_of_ble_eq_true rfl) rfl rfl (lw_fit (by decide +kernel) hl0 hc0 (Nat.le_of_ble_eq_true rfl) (Nat.le_of_ble_eq_true rfl) rfl) (lk_feed E hK r1) ?_
  rintro _ g1 ⟨v, rfl, ⟨hl1, fs1, hc1⟩, H2⟩
  refine ik_Wk 0 (pc_q := 201) (loc_q := lw_LOC i) (st_q := [fI v]) (h_q := g1) (cl_q := 94) (sl_q := 4156) rfl ?_
  refine ik_Wk 1 (pc_q := 202) (loc_q := lw_LOC i) (st_q := []) (h_q := g1) (cl_q := 94) (sl_q := 4156) rfl ?_
  refine ik_Wk 1 (pc_q := 203) (loc_q := lw_LOC i) (st_q := [.ref 66]) (h_q := g1) (cl_q := 94) (sl_q := 4156) rfl ?_
  refine lw_argz 1 ⟨rfl, rfl, rfl, rfl, rfl⟩ (by decide) h0 h1 h2 e1 ?_
  refine lw_arg 2 ⟨rfl, rfl, rfl, rfl, rfl⟩ (by decide) h0 h1 h2 ?_
  obtain ⟨y3, ey3, hyy3⟩ : ∃ y3 : Int64, ik_run 3 (some (L, f)) 0 (213, lw_LOC i, [.int (f (i.toInt.toNat + 2)), fI z1, .ref 66], g1, 94, 4156) = some (217, lw_LOC i, [.long y3, fI z1, .ref 66], g1, 94, 4156) ∧ y3 = lw_b1 ((f (i.toInt.toNat + 2))) := ⟨_, rfl, rfl⟩
  refine ik_Wk 3 ey3 ?_
  refine lw_arg 3 ⟨rfl, rfl, rfl, rfl, rfl⟩ (by decide) h0 h1 h2 ?_
  obtain ⟨y4, ey4, hyy4⟩ : ∃ y4 : Int64, ik_run 4 (some (L, f)) 0 (222, lw_LOC i, [.int (f (i.toInt.toNat + 3)), .long y3, fI z1, .ref 66], g1, 94, 4156) = some (228, lw_LOC i, [.long y4, fI z1, .ref 66], g1, 94, 4156) ∧ y4 = lw_b2 y3 ((f (i.toInt.toNat + 3))) := ⟨_, rfl, rfl⟩
  refine ik_Wk 4 ey4 ?_
  rw [hyy3, eb] at hyy4
  subst hyy4
  refine fw_call 135 3 0 [.ref 66, fI z1, fJ b] [] rfl rfl rfl (Nat.le_of_ble_eq_true rfl) rfl rfl (lw_fit (by decide +kernel) hl1 hc1 (Nat.le_of_ble_eq_true rfl) (Nat.le_of_ble_eq_true rfl) rfl) H2 ?_
  rintro _ g2 ⟨rfl, E2⟩
  refine ik_Wk 0 (pc_q := 231) (loc_q := lw_LOC i) (st_q := [fI v]) (h_q := g2) (cl_q := 94) (sl_q := 4156) rfl ?_
  refine ik_Wk 1 (pc_q := 232) (loc_q := lw_LOC i) (st_q := []) (h_q := g2) (cl_q := 94) (sl_q := 4156) rfl ?_
  refine ik_Wk 1 (pc_q := 1131) (loc_q := lw_LOC i) (st_q := []) (h_q := g2) (cl_q := 94) (sl_q := 4156) rfl ?_
  exact kk _ E2
set_option maxHeartbeats 4000000 in
set_option maxRecDepth 100000 in
theorem lw_k1 {L : Nat} {f : Nat → Int32} {i : Int32} {h : List ik_E} {K : Nat} (E : st_S K h) (hK : K ≤ 600) (h0 : 0 ≤ i.toInt) (h1 : i.toInt + 4 < L) (h2 : L ≤ 2560) (kk : ∀ h_q, st_S (K + 1) h_q → ik_W (some (L, f)) 0 1131 (lw_LOC i) [] h_q 94 4156 lw_post) : ik_W (some (L, f)) 0 235 (lw_LOC i) [] h 94 4156 lw_post := by
  obtain ⟨hl0, fs0, hc0⟩ := st_0 E
  refine ik_Wk 1 (pc_q := 236) (loc_q := lw_LOC i) (st_q := [.ref 0]) (h_q := h) (cl_q := 94) (sl_q := 4156) rfl ?_
  refine fw_call 91 1 0 [.ref 0] [] rfl rfl rfl (Nat.le_of_ble_eq_true rfl) rfl rfl (lw_fit (by decide +kernel) hl0 hc0 (Nat.le_of_ble_eq_true rfl) (Nat.le_of_ble_eq_true rfl) rfl) (lk_stream E hK ) ?_
  rintro _ g1 ⟨v, rfl, ⟨hl1, fs1, hc1⟩, H2⟩
  refine ik_Wk 0 (pc_q := 239) (loc_q := lw_LOC i) (st_q := [fI v]) (h_q := g1) (cl_q := 94) (sl_q := 4156) rfl ?_
  refine ik_Wk 1 (pc_q := 240) (loc_q := lw_LOC i) (st_q := []) (h_q := g1) (cl_q := 94) (sl_q := 4156) rfl ?_
  refine ik_Wk 1 (pc_q := 241) (loc_q := lw_LOC i) (st_q := [.ref 66]) (h_q := g1) (cl_q := 94) (sl_q := 4156) rfl ?_
  refine fw_call 147 1 0 [.ref 66] [] rfl rfl rfl (Nat.le_of_ble_eq_true rfl) rfl rfl (lw_fit (by decide +kernel) hl1 hc1 (Nat.le_of_ble_eq_true rfl) (Nat.le_of_ble_eq_true rfl) rfl) H2 ?_
  rintro _ g2 ⟨rfl, E2⟩
  refine ik_Wk 0 (pc_q := 244) (loc_q := lw_LOC i) (st_q := [fI v]) (h_q := g2) (cl_q := 94) (sl_q := 4156) rfl ?_
  refine ik_Wk 1 (pc_q := 245) (loc_q := lw_LOC i) (st_q := []) (h_q := g2) (cl_q := 94) (sl_q := 4156) rfl ?_
  refine ik_Wk 1 (pc_q := 1131) (loc_q := lw_LOC i) (st_q := []) (h_q := g2) (cl_q := 94) (sl_q := 4156) rfl ?_
  exact kk _ E2
set_option maxHeartbeats 4000000 in
set_option maxRecDepth 100000 in
theorem lw_k2 {L : Nat} {f : Nat → Int32} {i : Int32} {h : List ik_E} {K : Nat} (E : st_S K h) (hK : K ≤ 600) (h0 : 0 ≤ i.toInt) (h1 : i.toInt + 4 < L) (h2 : L ≤ 2560) (kk : ∀ h_q, st_S (K + 1) h_q → ik_W (some (L, f)) 0 1131 (lw_LOC i) [] h_q 94 4156 lw_post) : ik_W (some (L, f)) 0 248 (lw_LOC i) [] h 94 4156 lw_post := by
  obtain ⟨hl0, fs0, hc0⟩ := st_0 E
  refine ik_Wk 1 (pc_q := 249) (loc_q := lw_LOC i) (st_q := [.ref 0]) (h_q := h) (cl_q := 94) (sl_q := 4156) rfl ?_
  refine fw_call 92 1 0 [.ref 0] [] rfl rfl rfl (Nat.le_of_ble_eq_true rfl) rfl rfl (lw_fit (by decide +kernel) hl0 hc0 (Nat.le_of_ble_eq_true rfl) (Nat.le_of_ble_eq_true rfl) rfl) (lk_fault E hK ) ?_
  rintro _ g1 ⟨v, rfl, ⟨hl1, fs1, hc1⟩, H2⟩
  refine ik_Wk 0 (pc_q := 252) (loc_q := lw_LOC i) (st_q := [fI v]) (h_q := g1) (cl_q := 94) (sl_q := 4156) rfl ?_
  refine ik_Wk 1 (pc_q := 253) (loc_q := lw_LOC i) (st_q := []) (h_q := g1) (cl_q := 94) (sl_q := 4156) rfl ?_
  refine ik_Wk 1 (pc_q := 254) (loc_q := lw_LOC i) (st_q := [.ref 66]) (h_q := g1) (cl_q := 94) (sl_q := 4156) rfl ?_
  refine fw_call 148 1 0 [.ref 66] [] rfl rfl rfl (Nat.le_of_ble_eq_true rfl) rfl rfl (lw_fit (by decide +kernel) hl1 hc1 (Nat.le_of_ble_eq_true rfl) (Nat.le_of_ble_eq_true rfl) rfl) H2 ?_
  rintro _ g2 ⟨rfl, E2⟩
  refine ik_Wk 0 (pc_q := 257) (loc_q := lw_LOC i) (st_q := [fI v]) (h_q := g2) (cl_q := 94) (sl_q := 4156) rfl ?_
  refine ik_Wk 1 (pc_q := 258) (loc_q := lw_LOC i) (st_q := []) (h_q := g2) (cl_q := 94) (sl_q := 4156) rfl ?_
  refine ik_Wk 1 (pc_q := 1131) (loc_q := lw_LOC i) (st_q := []) (h_q := g2) (cl_q := 94) (sl_q := 4156) rfl ?_
  exact kk _ E2
set_option maxHeartbeats 4000000 in
set_option maxRecDepth 100000 in
theorem lw_k3 {L : Nat} {f : Nat → Int32} {i : Int32} {h : List ik_E} {K : Nat} (E : st_S K h) (hK : K ≤ 600) (h0 : 0 ≤ i.toInt) (h1 : i.toInt + 4 < L) (h2 : L ≤ 2560) (kk : ∀ h_q, st_S (K + 1) h_q → ik_W (some (L, f)) 0 1131 (lw_LOC i) [] h_q 94 4156 lw_post) : ik_W (some (L, f)) 0 261 (lw_LOC i) [] h 94 4156 lw_post := by
  obtain ⟨hl0, fs0, hc0⟩ := st_0 E
  obtain ⟨z1, e1, r1⟩ := lw_z (f (i.toInt.toNat + 1))
  refine ik_Wk 1 (pc_q := 262) (loc_q := lw_LOC i) (st_q := [.ref 0]) (h_q := h) (cl_q := 94) (sl_q := 4156) rfl ?_
  refine lw_argz 1 ⟨rfl, rfl, rfl, rfl, rfl⟩ (by decide) h0 h1 h2 e1 ?_
  refine fw_call 93 2 0 [.ref 0, fI z1] [] rfl rfl rfl (Nat.le_of_ble_eq_true rfl) rfl rfl (lw_fit (by decide +kernel) hl0 hc0 (Nat.le_of_ble_eq_true rfl) (Nat.le_of_ble_eq_true rfl) rfl) (la_told E hK r1) ?_
  rintro _ g1 ⟨v, rfl, ⟨hl1, fs1, hc1⟩, H2⟩
  refine ik_Wk 0 (pc_q := 270) (loc_q := lw_LOC i) (st_q := [fI v]) (h_q := g1) (cl_q := 94) (sl_q := 4156) rfl ?_
  refine ik_Wk 1 (pc_q := 271) (loc_q := lw_LOC i) (st_q := []) (h_q := g1) (cl_q := 94) (sl_q := 4156) rfl ?_
  refine ik_Wk 1 (pc_q := 272) (loc_q := lw_LOC i) (st_q := [.ref 66]) (h_q := g1) (cl_q := 94) (sl_q := 4156) rfl ?_
  refine lw_argz 1 ⟨rfl, rfl, rfl, rfl, rfl⟩ (by decide) h0 h1 h2 e1 ?_
  refine fw_call 150 2 0 [.ref 66, fI z1] [] rfl rfl rfl (Nat.le_of_ble_eq_true rfl) rfl rfl (lw_fit (by decide +kernel) hl1 hc1 (Nat.le_of_ble_eq_true rfl) (Nat.le_of_ble_eq_true rfl) rfl) H2 ?_
  rintro _ g2 ⟨rfl, E2⟩
  refine ik_Wk 0 (pc_q := 280) (loc_q := lw_LOC i) (st_q := [fI v]) (h_q := g2) (cl_q := 94) (sl_q := 4156) rfl ?_
  refine ik_Wk 1 (pc_q := 281) (loc_q := lw_LOC i) (st_q := []) (h_q := g2) (cl_q := 94) (sl_q := 4156) rfl ?_
  refine ik_Wk 1 (pc_q := 1131) (loc_q := lw_LOC i) (st_q := []) (h_q := g2) (cl_q := 94) (sl_q := 4156) rfl ?_
  exact kk _ E2
set_option maxHeartbeats 4000000 in
set_option maxRecDepth 100000 in
theorem lw_k4 {L : Nat} {f : Nat → Int32} {i : Int32} {h : List ik_E} {K : Nat} (E : st_S K h) (hK : K ≤ 600) (h0 : 0 ≤ i.toInt) (h1 : i.toInt + 4 < L) (h2 : L ≤ 2560) (kk : ∀ h_q, st_S (K + 1) h_q → ik_W (some (L, f)) 0 1131 (lw_LOC i) [] h_q 94 4156 lw_post) : ik_W (some (L, f)) 0 284 (lw_LOC i) [] h 94 4156 lw_post := by
  obtain ⟨hl0, fs0, hc0⟩ := st_0 E
  obtain ⟨z1, e1, r1⟩ := lw_z (f (i.toInt.toNat + 1))
  obtain ⟨z2, e2, r2⟩ := lw_z (f (i.toInt.toNat + 2))
  obtain ⟨z3, e3, r3⟩ := lw_z (f (i.toInt.toNat + 3))
  refine ik_Wk 1 (pc_q := 285) (loc_q := lw_LOC i) (st_q := [.ref 0]) (h_q := h) (cl_q := 94) (sl_q := 4156) rfl ?_
  refine lw_argz 1 ⟨rfl, rfl, rfl, rfl, rfl⟩ (by decide) h0 h1 h2 e1 ?_
  refine lw_argz 2 ⟨rfl, rfl, rfl, rfl, rfl⟩ (by decide) h0 h1 h2 e2 ?_
  refine lw_argz 3 ⟨rfl, rfl, rfl, rfl, rfl⟩ (by decide) h0 h1 h2 e3 ?_
  refine fw_call 94 4 0 [.ref 0, fI z1, fI z2, fI z3] [] rfl rfl rfl (Nat.le_of_ble_eq_true rfl) rfl rfl (lw_fit (by decide +kernel) hl0 hc0 (Nat.le_of_ble_eq_true rfl) (Nat.le_of_ble_eq_true rfl) rfl) (lk_move E hK r1 r2 r3) ?_
  rintro _ g1 ⟨v, rfl, ⟨hl1, fs1, hc1⟩, H2⟩
  refine ik_Wk 0 (pc_q := 303) (loc_q := lw_LOC i) (st_q := [fI v]) (h_q := g1) (cl_q := 94) (sl_q := 4156) rfl ?_
  refine ik_Wk 1 (pc_q := 304) (loc_q := lw_LOC i) (st_q := []) (h_q := g1) (cl_q := 94) (sl_q := 4156) rfl ?_
  refine ik_Wk 1 (pc_q := 305) (loc_q := lw_LOC i) (st_q := [.ref 66]) (h_q := g1) (cl_q := 94) (sl_q := 4156) rfl ?_
  refine lw_argz 1 ⟨rfl, rfl, rfl, rfl, rfl⟩ (by decide) h0 h1 h2 e1 ?_
  refine lw_argz 2 ⟨rfl, rfl, rfl, rfl, rfl⟩ (by decide) h0 h1 h2 e2 ?_
  refine lw_argz 3 ⟨rfl, rfl, rfl, rfl, rfl⟩ (by decide) h0 h1 h2 e3 ?_
  refine fw_call 151 4 0 [.ref 66, fI z1, fI z2, fI z3] [] rfl rfl rfl (Nat.le_of_ble_eq_true rfl) rfl rfl (lw_fit (by decide +kernel) hl1 hc1 (Nat.le_of_ble_eq_true rfl) (Nat.le_of_ble_eq_true rfl) rfl) H2 ?_
  rintro _ g2 ⟨rfl, E2⟩
  refine ik_Wk 0 (pc_q := 323) (loc_q := lw_LOC i) (st_q := [fI v]) (h_q := g2) (cl_q := 94) (sl_q := 4156) rfl ?_
  refine ik_Wk 1 (pc_q := 324) (loc_q := lw_LOC i) (st_q := []) (h_q := g2) (cl_q := 94) (sl_q := 4156) rfl ?_
  refine ik_Wk 1 (pc_q := 1131) (loc_q := lw_LOC i) (st_q := []) (h_q := g2) (cl_q := 94) (sl_q := 4156) rfl ?_
  exact kk _ E2
set_option maxHeartbeats 4000000 in
set_option maxRecDepth 100000 in
theorem lw_k5 {L : Nat} {f : Nat → Int32} {i : Int32} {h : List ik_E} {K : Nat} (E : st_S K h) (hK : K ≤ 600) (h0 : 0 ≤ i.toInt) (h1 : i.toInt + 4 < L) (h2 : L ≤ 2560) (kk : ∀ h_q, st_S (K + 1) h_q → ik_W (some (L, f)) 0 1131 (lw_LOC i) [] h_q 94 4156 lw_post) : ik_W (some (L, f)) 0 327 (lw_LOC i) [] h 94 4156 lw_post := by
  obtain ⟨hl0, fs0, hc0⟩ := st_0 E
  obtain ⟨z1, e1, r1⟩ := lw_z (f (i.toInt.toNat + 1))
  obtain ⟨z2, e2, r2⟩ := lw_z (f (i.toInt.toNat + 2))
  obtain ⟨z3, e3, r3⟩ := lw_z (f (i.toInt.toNat + 3))
  refine ik_Wk 1 (pc_q := 328) (loc_q := lw_LOC i) (st_q := [.ref 0]) (h_q := h) (cl_q := 94) (sl_q := 4156) rfl ?_
  refine lw_argz 1 ⟨rfl, rfl, rfl, rfl, rfl⟩ (by decide) h0 h1 h2 e1 ?_
  refine lw_argz 2 ⟨rfl, rfl, rfl, rfl, rfl⟩ (by decide) h0 h1 h2 e2 ?_
  refine lw_argz 3 ⟨rfl, rfl, rfl, rfl, rfl⟩ (by decide) h0 h1 h2 e3 ?_
  refine fw_call 95 4 0 [.ref 0, fI z1, fI z2, fI z3] [] rfl rfl rfl (Nat.le_of_ble_eq_true rfl) rfl rfl (lw_fit (by decide +kernel) hl0 hc0 (Nat.le_of_ble_eq_true rfl) (Nat.le_of_ble_eq_true rfl) rfl) (la_cork E hK r1 r2 r3) ?_
  rintro _ g1 ⟨v, rfl, ⟨hl1, fs1, hc1⟩, H2⟩
  refine ik_Wk 0 (pc_q := 346) (loc_q := lw_LOC i) (st_q := [fI v]) (h_q := g1) (cl_q := 94) (sl_q := 4156) rfl ?_
  refine ik_Wk 1 (pc_q := 347) (loc_q := lw_LOC i) (st_q := []) (h_q := g1) (cl_q := 94) (sl_q := 4156) rfl ?_
  refine ik_Wk 1 (pc_q := 348) (loc_q := lw_LOC i) (st_q := [.ref 66]) (h_q := g1) (cl_q := 94) (sl_q := 4156) rfl ?_
  refine lw_argz 1 ⟨rfl, rfl, rfl, rfl, rfl⟩ (by decide) h0 h1 h2 e1 ?_
  refine lw_argz 2 ⟨rfl, rfl, rfl, rfl, rfl⟩ (by decide) h0 h1 h2 e2 ?_
  refine lw_argz 3 ⟨rfl, rfl, rfl, rfl, rfl⟩ (by decide) h0 h1 h2 e3 ?_
  refine fw_call 158 4 0 [.ref 66, fI z1, fI z2, fI z3] [] rfl rfl rfl (Nat.le_of_ble_eq_true rfl) rfl rfl (lw_fit (by decide +kernel) hl1 hc1 (Nat.le_of_ble_eq_true rfl) (Nat.le_of_ble_eq_true rfl) rfl) H2 ?_
  rintro _ g2 ⟨rfl, E2⟩
  refine ik_Wk 0 (pc_q := 366) (loc_q := lw_LOC i) (st_q := [fI v]) (h_q := g2) (cl_q := 94) (sl_q := 4156) rfl ?_
  refine ik_Wk 1 (pc_q := 367) (loc_q := lw_LOC i) (st_q := []) (h_q := g2) (cl_q := 94) (sl_q := 4156) rfl ?_
  refine ik_Wk 1 (pc_q := 1131) (loc_q := lw_LOC i) (st_q := []) (h_q := g2) (cl_q := 94) (sl_q := 4156) rfl ?_
  exact kk _ E2
set_option maxHeartbeats 4000000 in
set_option maxRecDepth 100000 in
theorem lw_k6 {L : Nat} {f : Nat → Int32} {i : Int32} {h : List ik_E} {K : Nat} (E : st_S K h) (hK : K ≤ 600) (h0 : 0 ≤ i.toInt) (h1 : i.toInt + 4 < L) (h2 : L ≤ 2560) (kk : ∀ h_q, st_S (K + 1) h_q → ik_W (some (L, f)) 0 1131 (lw_LOC i) [] h_q 94 4156 lw_post) : ik_W (some (L, f)) 0 370 (lw_LOC i) [] h 94 4156 lw_post := by
  obtain ⟨hl0, fs0, hc0⟩ := st_0 E
  obtain ⟨z1, e1, r1⟩ := lw_z (f (i.toInt.toNat + 1))
  obtain ⟨z2, e2, r2⟩ := lw_z (f (i.toInt.toNat + 2))
  obtain ⟨z3, e3, r3⟩ := lw_z (f (i.toInt.toNat + 3))
  refine ik_Wk 1 (pc_q := 371) (loc_q := lw_LOC i) (st_q := [.ref 0]) (h_q := h) (cl_q := 94) (sl_q := 4156) rfl ?_
  refine lw_argz 1 ⟨rfl, rfl, rfl, rfl, rfl⟩ (by decide) h0 h1 h2 e1 ?_
  refine lw_argz 2 ⟨rfl, rfl, rfl, rfl, rfl⟩ (by decide) h0 h1 h2 e2 ?_
  refine lw_argz 3 ⟨rfl, rfl, rfl, rfl, rfl⟩ (by decide) h0 h1 h2 e3 ?_
  refine fw_call 96 4 0 [.ref 0, fI z1, fI z2, fI z3] [] rfl rfl rfl (Nat.le_of_ble_eq_true rfl) rfl rfl (lw_fit (by decide +kernel) hl0 hc0 (Nat.le_of_ble_eq_true rfl) (Nat.le_of_ble_eq_true rfl) rfl) (lk_comes E hK r1 r2 r3) ?_
  rintro _ g1 ⟨v, rfl, ⟨hl1, fs1, hc1⟩, H2⟩
  refine ik_Wk 0 (pc_q := 389) (loc_q := lw_LOC i) (st_q := [fI v]) (h_q := g1) (cl_q := 94) (sl_q := 4156) rfl ?_
  refine ik_Wk 1 (pc_q := 390) (loc_q := lw_LOC i) (st_q := []) (h_q := g1) (cl_q := 94) (sl_q := 4156) rfl ?_
  refine ik_Wk 1 (pc_q := 391) (loc_q := lw_LOC i) (st_q := [.ref 66]) (h_q := g1) (cl_q := 94) (sl_q := 4156) rfl ?_
  refine lw_argz 1 ⟨rfl, rfl, rfl, rfl, rfl⟩ (by decide) h0 h1 h2 e1 ?_
  refine lw_argz 2 ⟨rfl, rfl, rfl, rfl, rfl⟩ (by decide) h0 h1 h2 e2 ?_
  refine lw_argz 3 ⟨rfl, rfl, rfl, rfl, rfl⟩ (by decide) h0 h1 h2 e3 ?_
  refine fw_call 160 4 0 [.ref 66, fI z1, fI z2, fI z3] [] rfl rfl rfl (Nat.le_of_ble_eq_true rfl) rfl rfl (lw_fit (by decide +kernel) hl1 hc1 (Nat.le_of_ble_eq_true rfl) (Nat.le_of_ble_eq_true rfl) rfl) H2 ?_
  rintro _ g2 ⟨rfl, E2⟩
  refine ik_Wk 0 (pc_q := 409) (loc_q := lw_LOC i) (st_q := [fI v]) (h_q := g2) (cl_q := 94) (sl_q := 4156) rfl ?_
  refine ik_Wk 1 (pc_q := 410) (loc_q := lw_LOC i) (st_q := []) (h_q := g2) (cl_q := 94) (sl_q := 4156) rfl ?_
  refine ik_Wk 1 (pc_q := 1131) (loc_q := lw_LOC i) (st_q := []) (h_q := g2) (cl_q := 94) (sl_q := 4156) rfl ?_
  exact kk _ E2
set_option maxHeartbeats 4000000 in
set_option maxRecDepth 100000 in
theorem lw_k7 {L : Nat} {f : Nat → Int32} {i : Int32} {h : List ik_E} {K : Nat} (E : st_S K h) (hK : K ≤ 600) (h0 : 0 ≤ i.toInt) (h1 : i.toInt + 4 < L) (h2 : L ≤ 2560) (kk : ∀ h_q, st_S (K + 1) h_q → ik_W (some (L, f)) 0 1131 (lw_LOC i) [] h_q 94 4156 lw_post) : ik_W (some (L, f)) 0 413 (lw_LOC i) [] h 94 4156 lw_post := by
  obtain ⟨hl0, fs0, hc0⟩ := st_0 E
  obtain ⟨z1, e1, r1⟩ := lw_z (f (i.toInt.toNat + 1))
  obtain ⟨z2, e2, r2⟩ := lw_z (f (i.toInt.toNat + 2))
  obtain ⟨z3, e3, r3⟩ := lw_z (f (i.toInt.toNat + 3))
  obtain ⟨z4, e4, r4⟩ := lw_z (f (i.toInt.toNat + 4))
  refine ik_Wk 1 (pc_q := 414) (loc_q := lw_LOC i) (st_q := [.ref 0]) (h_q := h) (cl_q := 94) (sl_q := 4156) rfl ?_
  refine lw_argz 1 ⟨rfl, rfl, rfl, rfl, rfl⟩ (by decide) h0 h1 h2 e1 ?_
  refine lw_argz 2 ⟨rfl, rfl, rfl, rfl, rfl⟩ (by decide) h0 h1 h2 e2 ?_
  refine lw_argz 3 ⟨rfl, rfl, rfl, rfl, rfl⟩ (by decide) h0 h1 h2 e3 ?_
  refine lw_argz 4 ⟨rfl, rfl, rfl, rfl, rfl⟩ (by decide) h0 h1 h2 e4 ?_
  refine fw_call 97 5 0 [.ref 0, fI z1, fI z2, fI z3, fI z4] [] rfl rfl rfl (Nat.le_of_ble_eq_true rfl) rfl rfl (lw_fit (by decide +kernel) hl0 hc0 (Nat.le_of_ble_eq_true rfl) (Nat.le_of_ble_eq_true rfl) rfl) (lk_at E hK r1 r2 r3 r4) ?_
  rintro _ g1 ⟨v, rfl, ⟨hl1, fs1, hc1⟩, H2⟩
  refine ik_Wk 0 (pc_q := 437) (loc_q := lw_LOC i) (st_q := [fI v]) (h_q := g1) (cl_q := 94) (sl_q := 4156) rfl ?_
  refine ik_Wk 1 (pc_q := 438) (loc_q := lw_LOC i) (st_q := []) (h_q := g1) (cl_q := 94) (sl_q := 4156) rfl ?_
  refine ik_Wk 1 (pc_q := 439) (loc_q := lw_LOC i) (st_q := [.ref 66]) (h_q := g1) (cl_q := 94) (sl_q := 4156) rfl ?_
  refine lw_argz 1 ⟨rfl, rfl, rfl, rfl, rfl⟩ (by decide) h0 h1 h2 e1 ?_
  refine lw_argz 2 ⟨rfl, rfl, rfl, rfl, rfl⟩ (by decide) h0 h1 h2 e2 ?_
  refine lw_argz 3 ⟨rfl, rfl, rfl, rfl, rfl⟩ (by decide) h0 h1 h2 e3 ?_
  refine lw_argz 4 ⟨rfl, rfl, rfl, rfl, rfl⟩ (by decide) h0 h1 h2 e4 ?_
  refine fw_call 161 5 0 [.ref 66, fI z1, fI z2, fI z3, fI z4] [] rfl rfl rfl (Nat.le_of_ble_eq_true rfl) rfl rfl (lw_fit (by decide +kernel) hl1 hc1 (Nat.le_of_ble_eq_true rfl) (Nat.le_of_ble_eq_true rfl) rfl) H2 ?_
  rintro _ g2 ⟨rfl, E2⟩
  refine ik_Wk 0 (pc_q := 462) (loc_q := lw_LOC i) (st_q := [fI v]) (h_q := g2) (cl_q := 94) (sl_q := 4156) rfl ?_
  refine ik_Wk 1 (pc_q := 463) (loc_q := lw_LOC i) (st_q := []) (h_q := g2) (cl_q := 94) (sl_q := 4156) rfl ?_
  refine ik_Wk 1 (pc_q := 1131) (loc_q := lw_LOC i) (st_q := []) (h_q := g2) (cl_q := 94) (sl_q := 4156) rfl ?_
  exact kk _ E2
set_option maxHeartbeats 4000000 in
set_option maxRecDepth 100000 in
theorem lw_k8 {L : Nat} {f : Nat → Int32} {i : Int32} {h : List ik_E} {K : Nat} (E : st_S K h) (hK : K ≤ 600) (h0 : 0 ≤ i.toInt) (h1 : i.toInt + 4 < L) (h2 : L ≤ 2560) (kk : ∀ h_q, st_S (K + 1) h_q → ik_W (some (L, f)) 0 1131 (lw_LOC i) [] h_q 94 4156 lw_post) : ik_W (some (L, f)) 0 466 (lw_LOC i) [] h 94 4156 lw_post := by
  obtain ⟨hl0, fs0, hc0⟩ := st_0 E
  obtain ⟨z1, e1, r1⟩ := lw_z (f (i.toInt.toNat + 1))
  obtain ⟨z2, e2, r2⟩ := lw_z (f (i.toInt.toNat + 2))
  obtain ⟨z3, e3, r3⟩ := lw_z (f (i.toInt.toNat + 3))
  refine ik_Wk 1 (pc_q := 467) (loc_q := lw_LOC i) (st_q := [.ref 0]) (h_q := h) (cl_q := 94) (sl_q := 4156) rfl ?_
  refine lw_argz 1 ⟨rfl, rfl, rfl, rfl, rfl⟩ (by decide) h0 h1 h2 e1 ?_
  refine lw_argz 2 ⟨rfl, rfl, rfl, rfl, rfl⟩ (by decide) h0 h1 h2 e2 ?_
  refine lw_argz 3 ⟨rfl, rfl, rfl, rfl, rfl⟩ (by decide) h0 h1 h2 e3 ?_
  refine fw_call 98 4 0 [.ref 0, fI z1, fI z2, fI z3] [] rfl rfl rfl (Nat.le_of_ble_eq_true rfl) rfl rfl (lw_fit (by decide +kernel) hl0 hc0 (Nat.le_of_ble_eq_true rfl) (Nat.le_of_ble_eq_true rfl) rfl) (lk_kept E hK r1 r2 r3) ?_
  rintro _ g1 ⟨v, rfl, ⟨hl1, fs1, hc1⟩, H2⟩
  refine ik_Wk 0 (pc_q := 485) (loc_q := lw_LOC i) (st_q := [fI v]) (h_q := g1) (cl_q := 94) (sl_q := 4156) rfl ?_
  refine ik_Wk 1 (pc_q := 486) (loc_q := lw_LOC i) (st_q := []) (h_q := g1) (cl_q := 94) (sl_q := 4156) rfl ?_
  refine ik_Wk 1 (pc_q := 487) (loc_q := lw_LOC i) (st_q := [.ref 66]) (h_q := g1) (cl_q := 94) (sl_q := 4156) rfl ?_
  refine lw_argz 1 ⟨rfl, rfl, rfl, rfl, rfl⟩ (by decide) h0 h1 h2 e1 ?_
  refine lw_argz 2 ⟨rfl, rfl, rfl, rfl, rfl⟩ (by decide) h0 h1 h2 e2 ?_
  refine lw_argz 3 ⟨rfl, rfl, rfl, rfl, rfl⟩ (by decide) h0 h1 h2 e3 ?_
  refine fw_call 162 4 0 [.ref 66, fI z1, fI z2, fI z3] [] rfl rfl rfl (Nat.le_of_ble_eq_true rfl) rfl rfl (lw_fit (by decide +kernel) hl1 hc1 (Nat.le_of_ble_eq_true rfl) (Nat.le_of_ble_eq_true rfl) rfl) H2 ?_
  rintro _ g2 ⟨rfl, E2⟩
  refine ik_Wk 0 (pc_q := 505) (loc_q := lw_LOC i) (st_q := [fI v]) (h_q := g2) (cl_q := 94) (sl_q := 4156) rfl ?_
  refine ik_Wk 1 (pc_q := 506) (loc_q := lw_LOC i) (st_q := []) (h_q := g2) (cl_q := 94) (sl_q := 4156) rfl ?_
  refine ik_Wk 1 (pc_q := 1131) (loc_q := lw_LOC i) (st_q := []) (h_q := g2) (cl_q := 94) (sl_q := 4156) rfl ?_
  exact kk _ E2
set_option maxHeartbeats 4000000 in
set_option maxRecDepth 100000 in
theorem lw_k9 {L : Nat} {f : Nat → Int32} {i : Int32} {h : List ik_E} {K : Nat} (E : st_S K h) (hK : K ≤ 600) (h0 : 0 ≤ i.toInt) (h1 : i.toInt + 4 < L) (h2 : L ≤ 2560) (kk : ∀ h_q, st_S (K + 1) h_q → ik_W (some (L, f)) 0 1131 (lw_LOC i) [] h_q 94 4156 lw_post) : ik_W (some (L, f)) 0 509 (lw_LOC i) [] h 94 4156 lw_post := by
  obtain ⟨hl0, fs0, hc0⟩ := st_0 E
  obtain ⟨z1, e1, r1⟩ := lw_z (f (i.toInt.toNat + 1))
  obtain ⟨z2, e2, r2⟩ := lw_z (f (i.toInt.toNat + 2))
  obtain ⟨z3, e3, r3⟩ := lw_z (f (i.toInt.toNat + 3))
  refine ik_Wk 1 (pc_q := 510) (loc_q := lw_LOC i) (st_q := [.ref 0]) (h_q := h) (cl_q := 94) (sl_q := 4156) rfl ?_
  refine lw_argz 1 ⟨rfl, rfl, rfl, rfl, rfl⟩ (by decide) h0 h1 h2 e1 ?_
  refine lw_argz 2 ⟨rfl, rfl, rfl, rfl, rfl⟩ (by decide) h0 h1 h2 e2 ?_
  refine lw_argz 3 ⟨rfl, rfl, rfl, rfl, rfl⟩ (by decide) h0 h1 h2 e3 ?_
  refine fw_call 99 4 0 [.ref 0, fI z1, fI z2, fI z3] [] rfl rfl rfl (Nat.le_of_ble_eq_true rfl) rfl rfl (lw_fit (by decide +kernel) hl0 hc0 (Nat.le_of_ble_eq_true rfl) (Nat.le_of_ble_eq_true rfl) rfl) (lk_known E hK r1 r2 r3) ?_
  rintro _ g1 ⟨v, rfl, ⟨hl1, fs1, hc1⟩, H2⟩
  refine ik_Wk 0 (pc_q := 528) (loc_q := lw_LOC i) (st_q := [fI v]) (h_q := g1) (cl_q := 94) (sl_q := 4156) rfl ?_
  refine ik_Wk 1 (pc_q := 529) (loc_q := lw_LOC i) (st_q := []) (h_q := g1) (cl_q := 94) (sl_q := 4156) rfl ?_
  refine ik_Wk 1 (pc_q := 530) (loc_q := lw_LOC i) (st_q := [.ref 66]) (h_q := g1) (cl_q := 94) (sl_q := 4156) rfl ?_
  refine lw_argz 1 ⟨rfl, rfl, rfl, rfl, rfl⟩ (by decide) h0 h1 h2 e1 ?_
  refine lw_argz 2 ⟨rfl, rfl, rfl, rfl, rfl⟩ (by decide) h0 h1 h2 e2 ?_
  refine lw_argz 3 ⟨rfl, rfl, rfl, rfl, rfl⟩ (by decide) h0 h1 h2 e3 ?_
  refine fw_call 164 4 0 [.ref 66, fI z1, fI z2, fI z3] [] rfl rfl rfl (Nat.le_of_ble_eq_true rfl) rfl rfl (lw_fit (by decide +kernel) hl1 hc1 (Nat.le_of_ble_eq_true rfl) (Nat.le_of_ble_eq_true rfl) rfl) H2 ?_
  rintro _ g2 ⟨rfl, E2⟩
  refine ik_Wk 0 (pc_q := 548) (loc_q := lw_LOC i) (st_q := [fI v]) (h_q := g2) (cl_q := 94) (sl_q := 4156) rfl ?_
  refine ik_Wk 1 (pc_q := 549) (loc_q := lw_LOC i) (st_q := []) (h_q := g2) (cl_q := 94) (sl_q := 4156) rfl ?_
  refine ik_Wk 1 (pc_q := 1131) (loc_q := lw_LOC i) (st_q := []) (h_q := g2) (cl_q := 94) (sl_q := 4156) rfl ?_
  exact kk _ E2
set_option maxHeartbeats 4000000 in
set_option maxRecDepth 100000 in
theorem lw_k10 {L : Nat} {f : Nat → Int32} {i : Int32} {h : List ik_E} {K : Nat} (E : st_S K h) (hK : K ≤ 600) (h0 : 0 ≤ i.toInt) (h1 : i.toInt + 4 < L) (h2 : L ≤ 2560) (kk : ∀ h_q, st_S (K + 1) h_q → ik_W (some (L, f)) 0 1131 (lw_LOC i) [] h_q 94 4156 lw_post) : ik_W (some (L, f)) 0 552 (lw_LOC i) [] h 94 4156 lw_post := by
  obtain ⟨hl0, fs0, hc0⟩ := st_0 E
  obtain ⟨z1, e1, r1⟩ := lw_z (f (i.toInt.toNat + 1))
  refine ik_Wk 1 (pc_q := 553) (loc_q := lw_LOC i) (st_q := [.ref 0]) (h_q := h) (cl_q := 94) (sl_q := 4156) rfl ?_
  refine lw_argz 1 ⟨rfl, rfl, rfl, rfl, rfl⟩ (by decide) h0 h1 h2 e1 ?_
  refine fw_call 100 2 0 [.ref 0, fI z1] [] rfl rfl rfl (Nat.le_of_ble_eq_true rfl) rfl rfl (lw_fit (by decide +kernel) hl0 hc0 (Nat.le_of_ble_eq_true rfl) (Nat.le_of_ble_eq_true rfl) rfl) (la_later E hK r1) ?_
  rintro _ g1 ⟨v, rfl, ⟨hl1, fs1, hc1⟩, H2⟩
  refine ik_Wk 0 (pc_q := 561) (loc_q := lw_LOC i) (st_q := [fI v]) (h_q := g1) (cl_q := 94) (sl_q := 4156) rfl ?_
  refine ik_Wk 1 (pc_q := 562) (loc_q := lw_LOC i) (st_q := []) (h_q := g1) (cl_q := 94) (sl_q := 4156) rfl ?_
  refine ik_Wk 1 (pc_q := 563) (loc_q := lw_LOC i) (st_q := [.ref 66]) (h_q := g1) (cl_q := 94) (sl_q := 4156) rfl ?_
  refine lw_argz 1 ⟨rfl, rfl, rfl, rfl, rfl⟩ (by decide) h0 h1 h2 e1 ?_
  refine fw_call 170 2 0 [.ref 66, fI z1] [] rfl rfl rfl (Nat.le_of_ble_eq_true rfl) rfl rfl (lw_fit (by decide +kernel) hl1 hc1 (Nat.le_of_ble_eq_true rfl) (Nat.le_of_ble_eq_true rfl) rfl) H2 ?_
  rintro _ g2 ⟨rfl, E2⟩
  refine ik_Wk 0 (pc_q := 571) (loc_q := lw_LOC i) (st_q := [fI v]) (h_q := g2) (cl_q := 94) (sl_q := 4156) rfl ?_
  refine ik_Wk 1 (pc_q := 572) (loc_q := lw_LOC i) (st_q := []) (h_q := g2) (cl_q := 94) (sl_q := 4156) rfl ?_
  refine ik_Wk 1 (pc_q := 1131) (loc_q := lw_LOC i) (st_q := []) (h_q := g2) (cl_q := 94) (sl_q := 4156) rfl ?_
  exact kk _ E2
set_option maxHeartbeats 4000000 in
set_option maxRecDepth 100000 in
theorem lw_k11 {L : Nat} {f : Nat → Int32} {i : Int32} {h : List ik_E} {K : Nat} (E : st_S K h) (hK : K ≤ 600) (h0 : 0 ≤ i.toInt) (h1 : i.toInt + 4 < L) (h2 : L ≤ 2560) (kk : ∀ h_q, st_S (K + 1) h_q → ik_W (some (L, f)) 0 1131 (lw_LOC i) [] h_q 94 4156 lw_post) : ik_W (some (L, f)) 0 575 (lw_LOC i) [] h 94 4156 lw_post := by
  obtain ⟨hl0, fs0, hc0⟩ := st_0 E
  obtain ⟨z1, e1, r1⟩ := lw_z (f (i.toInt.toNat + 1))
  obtain ⟨z2, e2, r2⟩ := lw_z (f (i.toInt.toNat + 2))
  obtain ⟨z3, e3, r3⟩ := lw_z (f (i.toInt.toNat + 3))
  refine ik_Wk 1 (pc_q := 576) (loc_q := lw_LOC i) (st_q := [.ref 0]) (h_q := h) (cl_q := 94) (sl_q := 4156) rfl ?_
  refine lw_argz 1 ⟨rfl, rfl, rfl, rfl, rfl⟩ (by decide) h0 h1 h2 e1 ?_
  refine lw_argz 2 ⟨rfl, rfl, rfl, rfl, rfl⟩ (by decide) h0 h1 h2 e2 ?_
  refine lw_argz 3 ⟨rfl, rfl, rfl, rfl, rfl⟩ (by decide) h0 h1 h2 e3 ?_
  refine fw_call 101 4 0 [.ref 0, fI z1, fI z2, fI z3] [] rfl rfl rfl (Nat.le_of_ble_eq_true rfl) rfl rfl (lw_fit (by decide +kernel) hl0 hc0 (Nat.le_of_ble_eq_true rfl) (Nat.le_of_ble_eq_true rfl) rfl) (la_best E hK r1 r2 r3) ?_
  rintro _ g1 ⟨v, rfl, ⟨hl1, fs1, hc1⟩, H2⟩
  refine ik_Wk 0 (pc_q := 594) (loc_q := lw_LOC i) (st_q := [fI v]) (h_q := g1) (cl_q := 94) (sl_q := 4156) rfl ?_
  refine ik_Wk 1 (pc_q := 595) (loc_q := lw_LOC i) (st_q := []) (h_q := g1) (cl_q := 94) (sl_q := 4156) rfl ?_
  refine ik_Wk 1 (pc_q := 596) (loc_q := lw_LOC i) (st_q := [.ref 66]) (h_q := g1) (cl_q := 94) (sl_q := 4156) rfl ?_
  refine lw_argz 1 ⟨rfl, rfl, rfl, rfl, rfl⟩ (by decide) h0 h1 h2 e1 ?_
  refine lw_argz 2 ⟨rfl, rfl, rfl, rfl, rfl⟩ (by decide) h0 h1 h2 e2 ?_
  refine lw_argz 3 ⟨rfl, rfl, rfl, rfl, rfl⟩ (by decide) h0 h1 h2 e3 ?_
  refine fw_call 171 4 0 [.ref 66, fI z1, fI z2, fI z3] [] rfl rfl rfl (Nat.le_of_ble_eq_true rfl) rfl rfl (lw_fit (by decide +kernel) hl1 hc1 (Nat.le_of_ble_eq_true rfl) (Nat.le_of_ble_eq_true rfl) rfl) H2 ?_
  rintro _ g2 ⟨rfl, E2⟩
  refine ik_Wk 0 (pc_q := 614) (loc_q := lw_LOC i) (st_q := [fI v]) (h_q := g2) (cl_q := 94) (sl_q := 4156) rfl ?_
  refine ik_Wk 1 (pc_q := 615) (loc_q := lw_LOC i) (st_q := []) (h_q := g2) (cl_q := 94) (sl_q := 4156) rfl ?_
  refine ik_Wk 1 (pc_q := 1131) (loc_q := lw_LOC i) (st_q := []) (h_q := g2) (cl_q := 94) (sl_q := 4156) rfl ?_
  exact kk _ E2
set_option maxHeartbeats 4000000 in
set_option maxRecDepth 100000 in
theorem lw_k12 {L : Nat} {f : Nat → Int32} {i : Int32} {h : List ik_E} {K : Nat} (E : st_S K h) (hK : K ≤ 600) (h0 : 0 ≤ i.toInt) (h1 : i.toInt + 4 < L) (h2 : L ≤ 2560) (kk : ∀ h_q, st_S (K + 1) h_q → ik_W (some (L, f)) 0 1131 (lw_LOC i) [] h_q 94 4156 lw_post) : ik_W (some (L, f)) 0 618 (lw_LOC i) [] h 94 4156 lw_post := by
  obtain ⟨hl0, fs0, hc0⟩ := st_0 E
  obtain ⟨z1, e1, r1⟩ := lw_z (f (i.toInt.toNat + 1))
  obtain ⟨z2, e2, r2⟩ := lw_z (f (i.toInt.toNat + 2))
  obtain ⟨z3, e3, r3⟩ := lw_z (f (i.toInt.toNat + 3))
  refine ik_Wk 1 (pc_q := 619) (loc_q := lw_LOC i) (st_q := [.ref 0]) (h_q := h) (cl_q := 94) (sl_q := 4156) rfl ?_
  refine lw_argz 1 ⟨rfl, rfl, rfl, rfl, rfl⟩ (by decide) h0 h1 h2 e1 ?_
  refine lw_argz 2 ⟨rfl, rfl, rfl, rfl, rfl⟩ (by decide) h0 h1 h2 e2 ?_
  refine lw_argz 3 ⟨rfl, rfl, rfl, rfl, rfl⟩ (by decide) h0 h1 h2 e3 ?_
  refine fw_call 102 4 0 [.ref 0, fI z1, fI z2, fI z3] [] rfl rfl rfl (Nat.le_of_ble_eq_true rfl) rfl rfl (lw_fit (by decide +kernel) hl0 hc0 (Nat.le_of_ble_eq_true rfl) (Nat.le_of_ble_eq_true rfl) rfl) (la_mixed E hK r1 r2 r3) ?_
  rintro _ g1 ⟨v, rfl, ⟨hl1, fs1, hc1⟩, H2⟩
  refine ik_Wk 0 (pc_q := 637) (loc_q := lw_LOC i) (st_q := [fI v]) (h_q := g1) (cl_q := 94) (sl_q := 4156) rfl ?_
  refine ik_Wk 1 (pc_q := 638) (loc_q := lw_LOC i) (st_q := []) (h_q := g1) (cl_q := 94) (sl_q := 4156) rfl ?_
  refine ik_Wk 1 (pc_q := 639) (loc_q := lw_LOC i) (st_q := [.ref 66]) (h_q := g1) (cl_q := 94) (sl_q := 4156) rfl ?_
  refine lw_argz 1 ⟨rfl, rfl, rfl, rfl, rfl⟩ (by decide) h0 h1 h2 e1 ?_
  refine lw_argz 2 ⟨rfl, rfl, rfl, rfl, rfl⟩ (by decide) h0 h1 h2 e2 ?_
  refine lw_argz 3 ⟨rfl, rfl, rfl, rfl, rfl⟩ (by decide) h0 h1 h2 e3 ?_
  refine fw_call 180 4 0 [.ref 66, fI z1, fI z2, fI z3] [] rfl rfl rfl (Nat.le_of_ble_eq_true rfl) rfl rfl (lw_fit (by decide +kernel) hl1 hc1 (Nat.le_of_ble_eq_true rfl) (Nat.le_of_ble_eq_true rfl) rfl) H2 ?_
  rintro _ g2 ⟨⟨v', rfl⟩, E2⟩
  refine ik_Wk 0 (pc_q := 657) (loc_q := lw_LOC i) (st_q := [fI v']) (h_q := g2) (cl_q := 94) (sl_q := 4156) rfl ?_
  refine ik_Wk 1 (pc_q := 658) (loc_q := lw_LOC i) (st_q := []) (h_q := g2) (cl_q := 94) (sl_q := 4156) rfl ?_
  refine ik_Wk 1 (pc_q := 1131) (loc_q := lw_LOC i) (st_q := []) (h_q := g2) (cl_q := 94) (sl_q := 4156) rfl ?_
  exact kk _ E2
set_option maxHeartbeats 4000000 in
set_option maxRecDepth 100000 in
theorem lw_k13 {L : Nat} {f : Nat → Int32} {i : Int32} {h : List ik_E} {K : Nat} (E : st_S K h) (hK : K ≤ 600) (h0 : 0 ≤ i.toInt) (h1 : i.toInt + 4 < L) (h2 : L ≤ 2560) (kk : ∀ h_q, st_S (K + 1) h_q → ik_W (some (L, f)) 0 1131 (lw_LOC i) [] h_q 94 4156 lw_post) : ik_W (some (L, f)) 0 661 (lw_LOC i) [] h 94 4156 lw_post := by
  obtain ⟨hl0, fs0, hc0⟩ := st_0 E
  obtain ⟨z1, e1, r1⟩ := lw_z (f (i.toInt.toNat + 1))
  obtain ⟨z2, e2, r2⟩ := lw_z (f (i.toInt.toNat + 2))
  refine ik_Wk 1 (pc_q := 662) (loc_q := lw_LOC i) (st_q := [.ref 0]) (h_q := h) (cl_q := 94) (sl_q := 4156) rfl ?_
  refine lw_argz 1 ⟨rfl, rfl, rfl, rfl, rfl⟩ (by decide) h0 h1 h2 e1 ?_
  refine lw_argz 2 ⟨rfl, rfl, rfl, rfl, rfl⟩ (by decide) h0 h1 h2 e2 ?_
  refine fw_if_eq rfl rfl (by omega) (by omega) (fun hb => ?_) (fun hb => ?_)
  · refine ik_Wk 1 (pc_q := 680) (loc_q := lw_LOC i) (st_q := [fI 0, fI z1, .ref 0]) (h_q := h) (cl_q := 94) (sl_q := 4156) rfl ?_
    refine fw_call 103 3 0 [.ref 0, fI z1, fI 0] [] rfl rfl rfl (Nat.le_of_ble_eq_true rfl) rfl rfl (lw_fit (by decide +kernel) hl0 hc0 (Nat.le_of_ble_eq_true rfl) (Nat.le_of_ble_eq_true rfl) rfl) (lk_stone0 E hK r1) ?_
    rintro _ g1 ⟨v, rfl, ⟨hl1, fs1, hc1⟩, H2⟩
    refine ik_Wk 0 (pc_q := 683) (loc_q := lw_LOC i) (st_q := [fI v]) (h_q := g1) (cl_q := 94) (sl_q := 4156) rfl ?_
    refine ik_Wk 1 (pc_q := 684) (loc_q := lw_LOC i) (st_q := []) (h_q := g1) (cl_q := 94) (sl_q := 4156) rfl ?_
    refine ik_Wk 1 (pc_q := 685) (loc_q := lw_LOC i) (st_q := [.ref 66]) (h_q := g1) (cl_q := 94) (sl_q := 4156) rfl ?_
    refine lw_argz 1 ⟨rfl, rfl, rfl, rfl, rfl⟩ (by decide) h0 h1 h2 e1 ?_
    refine lw_argz 2 ⟨rfl, rfl, rfl, rfl, rfl⟩ (by decide) h0 h1 h2 e2 ?_
    refine fw_if_eq rfl rfl (by omega) (by omega) (fun hc => ?_) (fun hc => absurd hb hc)
    refine ik_Wk 1 (pc_q := 703) (loc_q := lw_LOC i) (st_q := [fI 0, fI z1, .ref 66]) (h_q := g1) (cl_q := 94) (sl_q := 4156) rfl ?_
    refine fw_call 181 3 0 [.ref 66, fI z1, fI 0] [] rfl rfl rfl (Nat.le_of_ble_eq_true rfl) rfl rfl (lw_fit (by decide +kernel) hl1 hc1 (Nat.le_of_ble_eq_true rfl) (Nat.le_of_ble_eq_true rfl) rfl) H2 ?_
    rintro _ g2 ⟨rfl, E2⟩
    refine ik_Wk 0 (pc_q := 706) (loc_q := lw_LOC i) (st_q := [fI v]) (h_q := g2) (cl_q := 94) (sl_q := 4156) rfl ?_
    refine ik_Wk 1 (pc_q := 707) (loc_q := lw_LOC i) (st_q := []) (h_q := g2) (cl_q := 94) (sl_q := 4156) rfl ?_
    refine ik_Wk 1 (pc_q := 1131) (loc_q := lw_LOC i) (st_q := []) (h_q := g2) (cl_q := 94) (sl_q := 4156) rfl ?_
    exact kk _ E2
  · refine ik_Wk 2 (pc_q := 680) (loc_q := lw_LOC i) (st_q := [fI 1, fI z1, .ref 0]) (h_q := h) (cl_q := 94) (sl_q := 4156) rfl ?_
    refine fw_call 103 3 0 [.ref 0, fI z1, fI 1] [] rfl rfl rfl (Nat.le_of_ble_eq_true rfl) rfl rfl (lw_fit (by decide +kernel) hl0 hc0 (Nat.le_of_ble_eq_true rfl) (Nat.le_of_ble_eq_true rfl) rfl) (lk_stone1 E hK r1) ?_
    rintro _ g1 ⟨v, rfl, ⟨hl1, fs1, hc1⟩, H2⟩
    refine ik_Wk 0 (pc_q := 683) (loc_q := lw_LOC i) (st_q := [fI v]) (h_q := g1) (cl_q := 94) (sl_q := 4156) rfl ?_
    refine ik_Wk 1 (pc_q := 684) (loc_q := lw_LOC i) (st_q := []) (h_q := g1) (cl_q := 94) (sl_q := 4156) rfl ?_
    refine ik_Wk 1 (pc_q := 685) (loc_q := lw_LOC i) (st_q := [.ref 66]) (h_q := g1) (cl_q := 94) (sl_q := 4156) rfl ?_
    refine lw_argz 1 ⟨rfl, rfl, rfl, rfl, rfl⟩ (by decide) h0 h1 h2 e1 ?_
    refine lw_argz 2 ⟨rfl, rfl, rfl, rfl, rfl⟩ (by decide) h0 h1 h2 e2 ?_
    refine fw_if_eq rfl rfl (by omega) (by omega) (fun hc => absurd hc hb) (fun hc => ?_)
    refine ik_Wk 2 (pc_q := 703) (loc_q := lw_LOC i) (st_q := [fI 1, fI z1, .ref 66]) (h_q := g1) (cl_q := 94) (sl_q := 4156) rfl ?_
    refine fw_call 181 3 0 [.ref 66, fI z1, fI 1] [] rfl rfl rfl (Nat.le_of_ble_eq_true rfl) rfl rfl (lw_fit (by decide +kernel) hl1 hc1 (Nat.le_of_ble_eq_true rfl) (Nat.le_of_ble_eq_true rfl) rfl) H2 ?_
    rintro _ g2 ⟨rfl, E2⟩
    refine ik_Wk 0 (pc_q := 706) (loc_q := lw_LOC i) (st_q := [fI v]) (h_q := g2) (cl_q := 94) (sl_q := 4156) rfl ?_
    refine ik_Wk 1 (pc_q := 707) (loc_q := lw_LOC i) (st_q := []) (h_q := g2) (cl_q := 94) (sl_q := 4156) rfl ?_
    refine ik_Wk 1 (pc_q := 1131) (loc_q := lw_LOC i) (st_q := []) (h_q := g2) (cl_q := 94) (sl_q := 4156) rfl ?_
    exact kk _ E2
set_option maxHeartbeats 4000000 in
set_option maxRecDepth 100000 in
theorem lw_k14 {L : Nat} {f : Nat → Int32} {i : Int32} {h : List ik_E} {K : Nat} (E : st_S K h) (hK : K ≤ 600) (h0 : 0 ≤ i.toInt) (h1 : i.toInt + 4 < L) (h2 : L ≤ 2560) (kk : ∀ h_q, st_S (K + 1) h_q → ik_W (some (L, f)) 0 1131 (lw_LOC i) [] h_q 94 4156 lw_post) : ik_W (some (L, f)) 0 710 (lw_LOC i) [] h 94 4156 lw_post := by
  obtain ⟨hl0, fs0, hc0⟩ := st_0 E
  obtain ⟨z1, e1, r1⟩ := lw_z (f (i.toInt.toNat + 1))
  obtain ⟨z2, e2, r2⟩ := lw_z (f (i.toInt.toNat + 2))
  refine ik_Wk 1 (pc_q := 711) (loc_q := lw_LOC i) (st_q := [.ref 0]) (h_q := h) (cl_q := 94) (sl_q := 4156) rfl ?_
  refine lw_argz 1 ⟨rfl, rfl, rfl, rfl, rfl⟩ (by decide) h0 h1 h2 e1 ?_
  refine lw_argz 2 ⟨rfl, rfl, rfl, rfl, rfl⟩ (by decide) h0 h1 h2 e2 ?_
  refine fw_call 104 3 0 [.ref 0, fI z1, fI z2] [] rfl rfl rfl (Nat.le_of_ble_eq_true rfl) rfl rfl (lw_fit (by decide +kernel) hl0 hc0 (Nat.le_of_ble_eq_true rfl) (Nat.le_of_ble_eq_true rfl) rfl) (la_most E hK r1 r2) ?_
  rintro _ g1 ⟨v, rfl, ⟨hl1, fs1, hc1⟩, H2⟩
  refine ik_Wk 0 (pc_q := 724) (loc_q := lw_LOC i) (st_q := [fI v]) (h_q := g1) (cl_q := 94) (sl_q := 4156) rfl ?_
  refine ik_Wk 1 (pc_q := 725) (loc_q := lw_LOC i) (st_q := []) (h_q := g1) (cl_q := 94) (sl_q := 4156) rfl ?_
  refine ik_Wk 1 (pc_q := 726) (loc_q := lw_LOC i) (st_q := [.ref 66]) (h_q := g1) (cl_q := 94) (sl_q := 4156) rfl ?_
  refine lw_argz 1 ⟨rfl, rfl, rfl, rfl, rfl⟩ (by decide) h0 h1 h2 e1 ?_
  refine lw_argz 2 ⟨rfl, rfl, rfl, rfl, rfl⟩ (by decide) h0 h1 h2 e2 ?_
  refine fw_call 182 3 0 [.ref 66, fI z1, fI z2] [] rfl rfl rfl (Nat.le_of_ble_eq_true rfl) rfl rfl (lw_fit (by decide +kernel) hl1 hc1 (Nat.le_of_ble_eq_true rfl) (Nat.le_of_ble_eq_true rfl) rfl) H2 ?_
  rintro _ g2 ⟨rfl, E2⟩
  refine ik_Wk 0 (pc_q := 739) (loc_q := lw_LOC i) (st_q := [fI v]) (h_q := g2) (cl_q := 94) (sl_q := 4156) rfl ?_
  refine ik_Wk 1 (pc_q := 740) (loc_q := lw_LOC i) (st_q := []) (h_q := g2) (cl_q := 94) (sl_q := 4156) rfl ?_
  refine ik_Wk 1 (pc_q := 1131) (loc_q := lw_LOC i) (st_q := []) (h_q := g2) (cl_q := 94) (sl_q := 4156) rfl ?_
  exact kk _ E2
set_option maxHeartbeats 4000000 in
set_option maxRecDepth 100000 in
theorem lw_k15 {L : Nat} {f : Nat → Int32} {i : Int32} {h : List ik_E} {K : Nat} (E : st_S K h) (hK : K ≤ 600) (h0 : 0 ≤ i.toInt) (h1 : i.toInt + 4 < L) (h2 : L ≤ 2560) (kk : ∀ h_q, st_S (K + 1) h_q → ik_W (some (L, f)) 0 1131 (lw_LOC i) [] h_q 94 4156 lw_post) : ik_W (some (L, f)) 0 743 (lw_LOC i) [] h 94 4156 lw_post := by
  obtain ⟨hl0, fs0, hc0⟩ := st_0 E
  obtain ⟨z1, e1, r1⟩ := lw_z (f (i.toInt.toNat + 1))
  obtain ⟨z2, e2, r2⟩ := lw_z (f (i.toInt.toNat + 2))
  refine ik_Wk 1 (pc_q := 744) (loc_q := lw_LOC i) (st_q := [.ref 0]) (h_q := h) (cl_q := 94) (sl_q := 4156) rfl ?_
  refine lw_argz 1 ⟨rfl, rfl, rfl, rfl, rfl⟩ (by decide) h0 h1 h2 e1 ?_
  refine lw_argz 2 ⟨rfl, rfl, rfl, rfl, rfl⟩ (by decide) h0 h1 h2 e2 ?_
  refine fw_call 105 3 0 [.ref 0, fI z1, fI z2] [] rfl rfl rfl (Nat.le_of_ble_eq_true rfl) rfl rfl (lw_fit (by decide +kernel) hl0 hc0 (Nat.le_of_ble_eq_true rfl) (Nat.le_of_ble_eq_true rfl) rfl) (lk_run E hK r1 r2) ?_
  rintro _ g1 ⟨v, rfl, ⟨hl1, fs1, hc1⟩, H2⟩
  refine ik_Wk 0 (pc_q := 757) (loc_q := lw_LOC i) (st_q := [fI v]) (h_q := g1) (cl_q := 94) (sl_q := 4156) rfl ?_
  refine ik_Wk 1 (pc_q := 758) (loc_q := lw_LOC i) (st_q := []) (h_q := g1) (cl_q := 94) (sl_q := 4156) rfl ?_
  refine ik_Wk 1 (pc_q := 759) (loc_q := lw_LOC i) (st_q := [.ref 66]) (h_q := g1) (cl_q := 94) (sl_q := 4156) rfl ?_
  refine lw_argz 1 ⟨rfl, rfl, rfl, rfl, rfl⟩ (by decide) h0 h1 h2 e1 ?_
  refine lw_argz 2 ⟨rfl, rfl, rfl, rfl, rfl⟩ (by decide) h0 h1 h2 e2 ?_
  refine fw_call 183 3 0 [.ref 66, fI z1, fI z2] [] rfl rfl rfl (Nat.le_of_ble_eq_true rfl) rfl rfl (lw_fit (by decide +kernel) hl1 hc1 (Nat.le_of_ble_eq_true rfl) (Nat.le_of_ble_eq_true rfl) rfl) H2 ?_
  rintro _ g2 ⟨rfl, E2⟩
  refine ik_Wk 0 (pc_q := 772) (loc_q := lw_LOC i) (st_q := [fI v]) (h_q := g2) (cl_q := 94) (sl_q := 4156) rfl ?_
  refine ik_Wk 1 (pc_q := 773) (loc_q := lw_LOC i) (st_q := []) (h_q := g2) (cl_q := 94) (sl_q := 4156) rfl ?_
  refine ik_Wk 1 (pc_q := 1131) (loc_q := lw_LOC i) (st_q := []) (h_q := g2) (cl_q := 94) (sl_q := 4156) rfl ?_
  exact kk _ E2
set_option maxHeartbeats 4000000 in
set_option maxRecDepth 100000 in
theorem lw_k16 {L : Nat} {f : Nat → Int32} {i : Int32} {h : List ik_E} {K : Nat} (E : st_S K h) (hK : K ≤ 600) (h0 : 0 ≤ i.toInt) (h1 : i.toInt + 4 < L) (h2 : L ≤ 2560) (kk : ∀ h_q, st_S (K + 1) h_q → ik_W (some (L, f)) 0 1131 (lw_LOC i) [] h_q 94 4156 lw_post) : ik_W (some (L, f)) 0 776 (lw_LOC i) [] h 94 4156 lw_post := by
  obtain ⟨hl0, fs0, hc0⟩ := st_0 E
  refine ik_Wk 1 (pc_q := 777) (loc_q := lw_LOC i) (st_q := [.ref 0]) (h_q := h) (cl_q := 94) (sl_q := 4156) rfl ?_
  refine fw_call 106 1 0 [.ref 0] [] rfl rfl rfl (Nat.le_of_ble_eq_true rfl) rfl rfl (lw_fit (by decide +kernel) hl0 hc0 (Nat.le_of_ble_eq_true rfl) (Nat.le_of_ble_eq_true rfl) rfl) (lk_forget E hK ) ?_
  rintro _ g1 ⟨v, rfl, ⟨hl1, fs1, hc1⟩, H2⟩
  refine ik_Wk 0 (pc_q := 780) (loc_q := lw_LOC i) (st_q := [fI v]) (h_q := g1) (cl_q := 94) (sl_q := 4156) rfl ?_
  refine ik_Wk 1 (pc_q := 781) (loc_q := lw_LOC i) (st_q := []) (h_q := g1) (cl_q := 94) (sl_q := 4156) rfl ?_
  refine ik_Wk 1 (pc_q := 782) (loc_q := lw_LOC i) (st_q := [.ref 66]) (h_q := g1) (cl_q := 94) (sl_q := 4156) rfl ?_
  refine fw_call 184 1 0 [.ref 66] [] rfl rfl rfl (Nat.le_of_ble_eq_true rfl) rfl rfl (lw_fit (by decide +kernel) hl1 hc1 (Nat.le_of_ble_eq_true rfl) (Nat.le_of_ble_eq_true rfl) rfl) H2 ?_
  rintro _ g2 ⟨rfl, E2⟩
  refine ik_Wk 0 (pc_q := 785) (loc_q := lw_LOC i) (st_q := [fI v]) (h_q := g2) (cl_q := 94) (sl_q := 4156) rfl ?_
  refine ik_Wk 1 (pc_q := 786) (loc_q := lw_LOC i) (st_q := []) (h_q := g2) (cl_q := 94) (sl_q := 4156) rfl ?_
  refine ik_Wk 1 (pc_q := 1131) (loc_q := lw_LOC i) (st_q := []) (h_q := g2) (cl_q := 94) (sl_q := 4156) rfl ?_
  exact kk _ E2
set_option maxHeartbeats 4000000 in
set_option maxRecDepth 100000 in
theorem lw_k17 {L : Nat} {f : Nat → Int32} {i : Int32} {h : List ik_E} {K : Nat} (E : st_S K h) (hK : K ≤ 600) (h0 : 0 ≤ i.toInt) (h1 : i.toInt + 4 < L) (h2 : L ≤ 2560) (kk : ∀ h_q, st_S (K + 1) h_q → ik_W (some (L, f)) 0 1131 (lw_LOC i) [] h_q 94 4156 lw_post) : ik_W (some (L, f)) 0 789 (lw_LOC i) [] h 94 4156 lw_post := by
  obtain ⟨hl0, fs0, hc0⟩ := st_0 E
  obtain ⟨z1, e1, r1⟩ := lw_z (f (i.toInt.toNat + 1))
  refine ik_Wk 1 (pc_q := 790) (loc_q := lw_LOC i) (st_q := [.ref 0]) (h_q := h) (cl_q := 94) (sl_q := 4156) rfl ?_
  refine lw_argz 1 ⟨rfl, rfl, rfl, rfl, rfl⟩ (by decide) h0 h1 h2 e1 ?_
  refine fw_call 107 2 0 [.ref 0, fI z1] [] rfl rfl rfl (Nat.le_of_ble_eq_true rfl) rfl rfl (lw_fit (by decide +kernel) hl0 hc0 (Nat.le_of_ble_eq_true rfl) (Nat.le_of_ble_eq_true rfl) rfl) (lk_fit E hK r1) ?_
  rintro _ g1 ⟨v, rfl, ⟨hl1, fs1, hc1⟩, H2⟩
  refine ik_Wk 0 (pc_q := 798) (loc_q := lw_LOC i) (st_q := [fI v]) (h_q := g1) (cl_q := 94) (sl_q := 4156) rfl ?_
  refine ik_Wk 1 (pc_q := 799) (loc_q := lw_LOC i) (st_q := []) (h_q := g1) (cl_q := 94) (sl_q := 4156) rfl ?_
  refine ik_Wk 1 (pc_q := 800) (loc_q := lw_LOC i) (st_q := [.ref 66]) (h_q := g1) (cl_q := 94) (sl_q := 4156) rfl ?_
  refine lw_argz 1 ⟨rfl, rfl, rfl, rfl, rfl⟩ (by decide) h0 h1 h2 e1 ?_
  refine fw_call 187 2 0 [.ref 66, fI z1] [] rfl rfl rfl (Nat.le_of_ble_eq_true rfl) rfl rfl (lw_fit (by decide +kernel) hl1 hc1 (Nat.le_of_ble_eq_true rfl) (Nat.le_of_ble_eq_true rfl) rfl) H2 ?_
  rintro _ g2 ⟨rfl, E2⟩
  refine ik_Wk 0 (pc_q := 808) (loc_q := lw_LOC i) (st_q := [fI v]) (h_q := g2) (cl_q := 94) (sl_q := 4156) rfl ?_
  refine ik_Wk 1 (pc_q := 809) (loc_q := lw_LOC i) (st_q := []) (h_q := g2) (cl_q := 94) (sl_q := 4156) rfl ?_
  refine ik_Wk 1 (pc_q := 1131) (loc_q := lw_LOC i) (st_q := []) (h_q := g2) (cl_q := 94) (sl_q := 4156) rfl ?_
  exact kk _ E2
set_option maxHeartbeats 4000000 in
set_option maxRecDepth 100000 in
theorem lw_k18 {L : Nat} {f : Nat → Int32} {i : Int32} {h : List ik_E} {K : Nat} (E : st_S K h) (hK : K ≤ 600) (h0 : 0 ≤ i.toInt) (h1 : i.toInt + 4 < L) (h2 : L ≤ 2560) (kk : ∀ h_q, st_S (K + 1) h_q → ik_W (some (L, f)) 0 1131 (lw_LOC i) [] h_q 94 4156 lw_post) : ik_W (some (L, f)) 0 812 (lw_LOC i) [] h 94 4156 lw_post := by
  obtain ⟨hl0, fs0, hc0⟩ := st_0 E
  refine ik_Wk 1 (pc_q := 813) (loc_q := lw_LOC i) (st_q := [.ref 0]) (h_q := h) (cl_q := 94) (sl_q := 4156) rfl ?_
  refine fw_call 108 1 0 [.ref 0] [] rfl rfl rfl (Nat.le_of_ble_eq_true rfl) rfl rfl (lw_fit (by decide +kernel) hl0 hc0 (Nat.le_of_ble_eq_true rfl) (Nat.le_of_ble_eq_true rfl) rfl) (lk_stoned E hK ) ?_
  rintro _ g1 ⟨v, rfl, ⟨hl1, fs1, hc1⟩, H2⟩
  refine ik_Wk 0 (pc_q := 816) (loc_q := lw_LOC i) (st_q := [fI v]) (h_q := g1) (cl_q := 94) (sl_q := 4156) rfl ?_
  refine ik_Wk 1 (pc_q := 817) (loc_q := lw_LOC i) (st_q := []) (h_q := g1) (cl_q := 94) (sl_q := 4156) rfl ?_
  refine ik_Wk 1 (pc_q := 818) (loc_q := lw_LOC i) (st_q := [.ref 66]) (h_q := g1) (cl_q := 94) (sl_q := 4156) rfl ?_
  refine fw_call 188 1 0 [.ref 66] [] rfl rfl rfl (Nat.le_of_ble_eq_true rfl) rfl rfl (lw_fit (by decide +kernel) hl1 hc1 (Nat.le_of_ble_eq_true rfl) (Nat.le_of_ble_eq_true rfl) rfl) H2 ?_
  rintro _ g2 ⟨rfl, E2⟩
  refine ik_Wk 0 (pc_q := 821) (loc_q := lw_LOC i) (st_q := [fI v]) (h_q := g2) (cl_q := 94) (sl_q := 4156) rfl ?_
  refine ik_Wk 1 (pc_q := 822) (loc_q := lw_LOC i) (st_q := []) (h_q := g2) (cl_q := 94) (sl_q := 4156) rfl ?_
  refine ik_Wk 1 (pc_q := 1131) (loc_q := lw_LOC i) (st_q := []) (h_q := g2) (cl_q := 94) (sl_q := 4156) rfl ?_
  exact kk _ E2
set_option maxHeartbeats 4000000 in
set_option maxRecDepth 100000 in
theorem lw_k19 {L : Nat} {f : Nat → Int32} {i : Int32} {h : List ik_E} {K : Nat} (E : st_S K h) (hK : K ≤ 600) (h0 : 0 ≤ i.toInt) (h1 : i.toInt + 4 < L) (h2 : L ≤ 2560) (kk : ∀ h_q, st_S (K + 1) h_q → ik_W (some (L, f)) 0 1131 (lw_LOC i) [] h_q 94 4156 lw_post) : ik_W (some (L, f)) 0 825 (lw_LOC i) [] h 94 4156 lw_post := by
  obtain ⟨hl0, fs0, hc0⟩ := st_0 E
  obtain ⟨z1, e1, r1⟩ := lw_z (f (i.toInt.toNat + 1))
  obtain ⟨z2, e2, r2⟩ := lw_z (f (i.toInt.toNat + 2))
  obtain ⟨z3, e3, r3⟩ := lw_z (f (i.toInt.toNat + 3))
  obtain ⟨z4, e4, r4⟩ := lw_z (f (i.toInt.toNat + 4))
  refine ik_Wk 1 (pc_q := 826) (loc_q := lw_LOC i) (st_q := [.ref 0]) (h_q := h) (cl_q := 94) (sl_q := 4156) rfl ?_
  refine lw_argz 1 ⟨rfl, rfl, rfl, rfl, rfl⟩ (by decide) h0 h1 h2 e1 ?_
  refine lw_argz 2 ⟨rfl, rfl, rfl, rfl, rfl⟩ (by decide) h0 h1 h2 e2 ?_
  refine lw_argz 3 ⟨rfl, rfl, rfl, rfl, rfl⟩ (by decide) h0 h1 h2 e3 ?_
  refine lw_argz 4 ⟨rfl, rfl, rfl, rfl, rfl⟩ (by decide) h0 h1 h2 e4 ?_
  refine fw_call 109 5 0 [.ref 0, fI z1, fI z2, fI z3, fI z4] [] rfl rfl rfl (Nat.le_of_ble_eq_true rfl) rfl rfl (lw_fit (by decide +kernel) hl0 hc0 (Nat.le_of_ble_eq_true rfl) (Nat.le_of_ble_eq_true rfl) rfl) (lk_dig E hK r1 r2 r3 r4) ?_
  rintro _ g1 ⟨v, rfl, ⟨hl1, fs1, hc1⟩, H2⟩
  refine ik_Wk 0 (pc_q := 849) (loc_q := lw_LOC i) (st_q := [fI v]) (h_q := g1) (cl_q := 94) (sl_q := 4156) rfl ?_
  refine ik_Wk 1 (pc_q := 850) (loc_q := lw_LOC i) (st_q := []) (h_q := g1) (cl_q := 94) (sl_q := 4156) rfl ?_
  refine ik_Wk 1 (pc_q := 851) (loc_q := lw_LOC i) (st_q := [.ref 66]) (h_q := g1) (cl_q := 94) (sl_q := 4156) rfl ?_
  refine lw_argz 1 ⟨rfl, rfl, rfl, rfl, rfl⟩ (by decide) h0 h1 h2 e1 ?_
  refine lw_argz 2 ⟨rfl, rfl, rfl, rfl, rfl⟩ (by decide) h0 h1 h2 e2 ?_
  refine lw_argz 3 ⟨rfl, rfl, rfl, rfl, rfl⟩ (by decide) h0 h1 h2 e3 ?_
  refine lw_argz 4 ⟨rfl, rfl, rfl, rfl, rfl⟩ (by decide) h0 h1 h2 e4 ?_
  refine fw_call 189 5 0 [.ref 66, fI z1, fI z2, fI z3, fI z4] [] rfl rfl rfl (Nat.le_of_ble_eq_true rfl) rfl rfl (lw_fit (by decide +kernel) hl1 hc1 (Nat.le_of_ble_eq_true rfl) (Nat.le_of_ble_eq_true rfl) rfl) H2 ?_
  rintro _ g2 ⟨rfl, E2⟩
  refine ik_Wk 0 (pc_q := 874) (loc_q := lw_LOC i) (st_q := [fI v]) (h_q := g2) (cl_q := 94) (sl_q := 4156) rfl ?_
  refine ik_Wk 1 (pc_q := 875) (loc_q := lw_LOC i) (st_q := []) (h_q := g2) (cl_q := 94) (sl_q := 4156) rfl ?_
  refine ik_Wk 1 (pc_q := 1131) (loc_q := lw_LOC i) (st_q := []) (h_q := g2) (cl_q := 94) (sl_q := 4156) rfl ?_
  exact kk _ E2
set_option maxHeartbeats 4000000 in
set_option maxRecDepth 100000 in
theorem lw_k20 {L : Nat} {f : Nat → Int32} {i : Int32} {h : List ik_E} {K : Nat} (E : st_S K h) (hK : K ≤ 600) (h0 : 0 ≤ i.toInt) (h1 : i.toInt + 4 < L) (h2 : L ≤ 2560) (kk : ∀ h_q, st_S (K + 1) h_q → ik_W (some (L, f)) 0 1131 (lw_LOC i) [] h_q 94 4156 lw_post) : ik_W (some (L, f)) 0 878 (lw_LOC i) [] h 94 4156 lw_post := by
  obtain ⟨hl0, fs0, hc0⟩ := st_0 E
  obtain ⟨z1, e1, r1⟩ := lw_z (f (i.toInt.toNat + 1))
  obtain ⟨z2, e2, r2⟩ := lw_z (f (i.toInt.toNat + 2))
  refine ik_Wk 1 (pc_q := 879) (loc_q := lw_LOC i) (st_q := [.ref 0]) (h_q := h) (cl_q := 94) (sl_q := 4156) rfl ?_
  refine lw_argz 1 ⟨rfl, rfl, rfl, rfl, rfl⟩ (by decide) h0 h1 h2 e1 ?_
  refine lw_argz 2 ⟨rfl, rfl, rfl, rfl, rfl⟩ (by decide) h0 h1 h2 e2 ?_
  refine fw_call 110 3 0 [.ref 0, fI z1, fI z2] [] rfl rfl rfl (Nat.le_of_ble_eq_true rfl) rfl rfl (lw_fit (by decide +kernel) hl0 hc0 (Nat.le_of_ble_eq_true rfl) (Nat.le_of_ble_eq_true rfl) rfl) (lk_fair E hK r1 r2) ?_
  rintro _ g1 ⟨v, rfl, ⟨hl1, fs1, hc1⟩, H2⟩
  refine ik_Wk 0 (pc_q := 892) (loc_q := lw_LOC i) (st_q := [fI v]) (h_q := g1) (cl_q := 94) (sl_q := 4156) rfl ?_
  refine ik_Wk 1 (pc_q := 893) (loc_q := lw_LOC i) (st_q := [.ref 66, fI v]) (h_q := g1) (cl_q := 94) (sl_q := 4156) rfl ?_
  refine lw_argz 1 ⟨rfl, rfl, rfl, rfl, rfl⟩ (by decide) h0 h1 h2 e1 ?_
  refine lw_argz 2 ⟨rfl, rfl, rfl, rfl, rfl⟩ (by decide) h0 h1 h2 e2 ?_
  refine fw_call 192 3 0 [.ref 66, fI z1, fI z2] [fI v] rfl rfl rfl (Nat.le_of_ble_eq_true rfl) rfl rfl (lw_fit (by decide +kernel) hl1 hc1 (Nat.le_of_ble_eq_true rfl) (Nat.le_of_ble_eq_true rfl) rfl) H2 ?_
  rintro _ g2 ⟨rfl, E2⟩
  refine ik_Wk 0 (pc_q := 906) (loc_q := lw_LOC i) (st_q := [fI v, fI v]) (h_q := g2) (cl_q := 94) (sl_q := 4156) rfl ?_
  refine ik_Wif 1 1131 909 (loc_q := lw_LOC i) (st_q := []) (h_q := g2) (cl_q := 94) (sl_q := 4156) rfl ?_ ?_
  · intro _
    exact kk _ E2
  · intro q
    exact absurd rfl q
set_option maxHeartbeats 4000000 in
set_option maxRecDepth 100000 in
theorem lw_k21 {L : Nat} {f : Nat → Int32} {i : Int32} {h : List ik_E} {K : Nat} (E : st_S K h) (hK : K ≤ 600) (h0 : 0 ≤ i.toInt) (h1 : i.toInt + 4 < L) (h2 : L ≤ 2560) (kk : ∀ h_q, st_S (K + 1) h_q → ik_W (some (L, f)) 0 1131 (lw_LOC i) [] h_q 94 4156 lw_post) : ik_W (some (L, f)) 0 911 (lw_LOC i) [] h 94 4156 lw_post := by
  obtain ⟨hl0, fs0, hc0⟩ := st_0 E
  obtain ⟨z1, e1, r1⟩ := lw_z (f (i.toInt.toNat + 1))
  refine ik_Wk 1 (pc_q := 912) (loc_q := lw_LOC i) (st_q := [.ref 0]) (h_q := h) (cl_q := 94) (sl_q := 4156) rfl ?_
  refine lw_argz 1 ⟨rfl, rfl, rfl, rfl, rfl⟩ (by decide) h0 h1 h2 e1 ?_
  refine fw_call 111 2 0 [.ref 0, fI z1] [] rfl rfl rfl (Nat.le_of_ble_eq_true rfl) rfl rfl (lw_fit (by decide +kernel) hl0 hc0 (Nat.le_of_ble_eq_true rfl) (Nat.le_of_ble_eq_true rfl) rfl) (lk_drift E hK r1) ?_
  rintro _ g1 ⟨v, rfl, ⟨hl1, fs1, hc1⟩, H2⟩
  refine ik_Wk 0 (pc_q := 920) (loc_q := lw_LOC i) (st_q := [fI v]) (h_q := g1) (cl_q := 94) (sl_q := 4156) rfl ?_
  refine ik_Wk 1 (pc_q := 921) (loc_q := lw_LOC i) (st_q := []) (h_q := g1) (cl_q := 94) (sl_q := 4156) rfl ?_
  refine ik_Wk 1 (pc_q := 922) (loc_q := lw_LOC i) (st_q := [.ref 66]) (h_q := g1) (cl_q := 94) (sl_q := 4156) rfl ?_
  refine lw_argz 1 ⟨rfl, rfl, rfl, rfl, rfl⟩ (by decide) h0 h1 h2 e1 ?_
  refine fw_call 199 2 0 [.ref 66, fI z1] [] rfl rfl rfl (Nat.le_of_ble_eq_true rfl) rfl rfl (lw_fit (by decide +kernel) hl1 hc1 (Nat.le_of_ble_eq_true rfl) (Nat.le_of_ble_eq_true rfl) rfl) H2 ?_
  rintro _ g2 ⟨rfl, E2⟩
  refine ik_Wk 0 (pc_q := 930) (loc_q := lw_LOC i) (st_q := [fI v]) (h_q := g2) (cl_q := 94) (sl_q := 4156) rfl ?_
  refine ik_Wk 1 (pc_q := 931) (loc_q := lw_LOC i) (st_q := []) (h_q := g2) (cl_q := 94) (sl_q := 4156) rfl ?_
  refine ik_Wk 1 (pc_q := 1131) (loc_q := lw_LOC i) (st_q := []) (h_q := g2) (cl_q := 94) (sl_q := 4156) rfl ?_
  exact kk _ E2
set_option maxHeartbeats 4000000 in
set_option maxRecDepth 100000 in
theorem lw_k22 {L : Nat} {f : Nat → Int32} {i : Int32} {h : List ik_E} {K : Nat} (E : st_S K h) (hK : K ≤ 600) (h0 : 0 ≤ i.toInt) (h1 : i.toInt + 4 < L) (h2 : L ≤ 2560) (kk : ∀ h_q, st_S (K + 1) h_q → ik_W (some (L, f)) 0 1131 (lw_LOC i) [] h_q 94 4156 lw_post) : ik_W (some (L, f)) 0 934 (lw_LOC i) [] h 94 4156 lw_post := by
  obtain ⟨hl0, fs0, hc0⟩ := st_0 E
  obtain ⟨z1, e1, r1⟩ := lw_z (f (i.toInt.toNat + 1))
  refine ik_Wk 1 (pc_q := 935) (loc_q := lw_LOC i) (st_q := [.ref 0]) (h_q := h) (cl_q := 94) (sl_q := 4156) rfl ?_
  refine lw_argz 1 ⟨rfl, rfl, rfl, rfl, rfl⟩ (by decide) h0 h1 h2 e1 ?_
  refine fw_call 112 2 0 [.ref 0, fI z1] [] rfl rfl rfl (Nat.le_of_ble_eq_true rfl) rfl rfl (lw_fit (by decide +kernel) hl0 hc0 (Nat.le_of_ble_eq_true rfl) (Nat.le_of_ble_eq_true rfl) rfl) (la_where E hK r1) ?_
  rintro _ g1 ⟨v, rfl, ⟨hl1, fs1, hc1⟩, H2⟩
  refine ik_Wk 0 (pc_q := 943) (loc_q := lw_LOC i) (st_q := [fI v]) (h_q := g1) (cl_q := 94) (sl_q := 4156) rfl ?_
  refine ik_Wk 1 (pc_q := 944) (loc_q := lw_LOC i) (st_q := []) (h_q := g1) (cl_q := 94) (sl_q := 4156) rfl ?_
  refine ik_Wk 1 (pc_q := 945) (loc_q := lw_LOC i) (st_q := [.ref 66]) (h_q := g1) (cl_q := 94) (sl_q := 4156) rfl ?_
  refine lw_argz 1 ⟨rfl, rfl, rfl, rfl, rfl⟩ (by decide) h0 h1 h2 e1 ?_
  refine fw_call 200 2 0 [.ref 66, fI z1] [] rfl rfl rfl (Nat.le_of_ble_eq_true rfl) rfl rfl (lw_fit (by decide +kernel) hl1 hc1 (Nat.le_of_ble_eq_true rfl) (Nat.le_of_ble_eq_true rfl) rfl) H2 ?_
  rintro _ g2 ⟨rfl, E2⟩
  refine ik_Wk 0 (pc_q := 953) (loc_q := lw_LOC i) (st_q := [fI v]) (h_q := g2) (cl_q := 94) (sl_q := 4156) rfl ?_
  refine ik_Wk 1 (pc_q := 954) (loc_q := lw_LOC i) (st_q := []) (h_q := g2) (cl_q := 94) (sl_q := 4156) rfl ?_
  refine ik_Wk 1 (pc_q := 1131) (loc_q := lw_LOC i) (st_q := []) (h_q := g2) (cl_q := 94) (sl_q := 4156) rfl ?_
  exact kk _ E2
set_option maxHeartbeats 4000000 in
set_option maxRecDepth 100000 in
theorem lw_k23 {L : Nat} {f : Nat → Int32} {i : Int32} {h : List ik_E} {K : Nat} (E : st_S K h) (hK : K ≤ 600) (h0 : 0 ≤ i.toInt) (h1 : i.toInt + 4 < L) (h2 : L ≤ 2560) (kk : ∀ h_q, st_S (K + 1) h_q → ik_W (some (L, f)) 0 1131 (lw_LOC i) [] h_q 94 4156 lw_post) : ik_W (some (L, f)) 0 957 (lw_LOC i) [] h 94 4156 lw_post := by
  obtain ⟨hl0, fs0, hc0⟩ := st_0 E
  refine ik_Wk 1 (pc_q := 958) (loc_q := lw_LOC i) (st_q := [.ref 0]) (h_q := h) (cl_q := 94) (sl_q := 4156) rfl ?_
  refine fw_call 113 1 0 [.ref 0] [] rfl rfl rfl (Nat.le_of_ble_eq_true rfl) rfl rfl (lw_fit (by decide +kernel) hl0 hc0 (Nat.le_of_ble_eq_true rfl) (Nat.le_of_ble_eq_true rfl) rfl) (lk_begin E hK ) ?_
  rintro _ g1 ⟨v, rfl, ⟨hl1, fs1, hc1⟩, H2⟩
  refine ik_Wk 0 (pc_q := 961) (loc_q := lw_LOC i) (st_q := [fI v]) (h_q := g1) (cl_q := 94) (sl_q := 4156) rfl ?_
  refine ik_Wk 1 (pc_q := 962) (loc_q := lw_LOC i) (st_q := []) (h_q := g1) (cl_q := 94) (sl_q := 4156) rfl ?_
  refine ik_Wk 1 (pc_q := 963) (loc_q := lw_LOC i) (st_q := [.ref 66]) (h_q := g1) (cl_q := 94) (sl_q := 4156) rfl ?_
  refine fw_call 201 1 0 [.ref 66] [] rfl rfl rfl (Nat.le_of_ble_eq_true rfl) rfl rfl (lw_fit (by decide +kernel) hl1 hc1 (Nat.le_of_ble_eq_true rfl) (Nat.le_of_ble_eq_true rfl) rfl) H2 ?_
  rintro _ g2 ⟨rfl, E2⟩
  refine ik_Wk 0 (pc_q := 966) (loc_q := lw_LOC i) (st_q := [fI v]) (h_q := g2) (cl_q := 94) (sl_q := 4156) rfl ?_
  refine ik_Wk 1 (pc_q := 967) (loc_q := lw_LOC i) (st_q := []) (h_q := g2) (cl_q := 94) (sl_q := 4156) rfl ?_
  refine ik_Wk 1 (pc_q := 1131) (loc_q := lw_LOC i) (st_q := []) (h_q := g2) (cl_q := 94) (sl_q := 4156) rfl ?_
  exact kk _ E2
set_option maxHeartbeats 4000000 in
set_option maxRecDepth 100000 in
theorem lw_k24 {L : Nat} {f : Nat → Int32} {i : Int32} {h : List ik_E} {K : Nat} (E : st_S K h) (hK : K ≤ 600) (h0 : 0 ≤ i.toInt) (h1 : i.toInt + 4 < L) (h2 : L ≤ 2560) (kk : ∀ h_q, st_S (K + 1) h_q → ik_W (some (L, f)) 0 1131 (lw_LOC i) [] h_q 94 4156 lw_post) : ik_W (some (L, f)) 0 970 (lw_LOC i) [] h 94 4156 lw_post := by
  obtain ⟨hl0, fs0, hc0⟩ := st_0 E
  obtain ⟨z1, e1, r1⟩ := lw_z (f (i.toInt.toNat + 1))
  refine ik_Wk 1 (pc_q := 971) (loc_q := lw_LOC i) (st_q := [.ref 0]) (h_q := h) (cl_q := 94) (sl_q := 4156) rfl ?_
  refine lw_argz 1 ⟨rfl, rfl, rfl, rfl, rfl⟩ (by decide) h0 h1 h2 e1 ?_
  refine fw_call 114 2 0 [.ref 0, fI z1] [] rfl rfl rfl (Nat.le_of_ble_eq_true rfl) rfl rfl (lw_fit (by decide +kernel) hl0 hc0 (Nat.le_of_ble_eq_true rfl) (Nat.le_of_ble_eq_true rfl) rfl) (lk_morning E hK r1) ?_
  rintro _ g1 ⟨v, rfl, ⟨hl1, fs1, hc1⟩, H2⟩
  refine ik_Wk 0 (pc_q := 979) (loc_q := lw_LOC i) (st_q := [fI v]) (h_q := g1) (cl_q := 94) (sl_q := 4156) rfl ?_
  refine ik_Wk 1 (pc_q := 980) (loc_q := lw_LOC i) (st_q := []) (h_q := g1) (cl_q := 94) (sl_q := 4156) rfl ?_
  refine ik_Wk 1 (pc_q := 981) (loc_q := lw_LOC i) (st_q := [.ref 66]) (h_q := g1) (cl_q := 94) (sl_q := 4156) rfl ?_
  refine lw_argz 1 ⟨rfl, rfl, rfl, rfl, rfl⟩ (by decide) h0 h1 h2 e1 ?_
  refine fw_call 202 2 0 [.ref 66, fI z1] [] rfl rfl rfl (Nat.le_of_ble_eq_true rfl) rfl rfl (lw_fit (by decide +kernel) hl1 hc1 (Nat.le_of_ble_eq_true rfl) (Nat.le_of_ble_eq_true rfl) rfl) H2 ?_
  rintro _ g2 ⟨rfl, E2⟩
  refine ik_Wk 0 (pc_q := 989) (loc_q := lw_LOC i) (st_q := [fI v]) (h_q := g2) (cl_q := 94) (sl_q := 4156) rfl ?_
  refine ik_Wk 1 (pc_q := 990) (loc_q := lw_LOC i) (st_q := []) (h_q := g2) (cl_q := 94) (sl_q := 4156) rfl ?_
  refine ik_Wk 1 (pc_q := 1131) (loc_q := lw_LOC i) (st_q := []) (h_q := g2) (cl_q := 94) (sl_q := 4156) rfl ?_
  exact kk _ E2
set_option maxHeartbeats 4000000 in
set_option maxRecDepth 100000 in
theorem lw_k25 {L : Nat} {f : Nat → Int32} {i : Int32} {h : List ik_E} {K : Nat} (E : st_S K h) (hK : K ≤ 600) (h0 : 0 ≤ i.toInt) (h1 : i.toInt + 4 < L) (h2 : L ≤ 2560) (kk : ∀ h_q, st_S (K + 1) h_q → ik_W (some (L, f)) 0 1131 (lw_LOC i) [] h_q 94 4156 lw_post) : ik_W (some (L, f)) 0 993 (lw_LOC i) [] h 94 4156 lw_post := by
  obtain ⟨hl0, fs0, hc0⟩ := st_0 E
  obtain ⟨z1, e1, r1⟩ := lw_z (f (i.toInt.toNat + 1))
  obtain ⟨z2, e2, r2⟩ := lw_z (f (i.toInt.toNat + 2))
  refine ik_Wk 1 (pc_q := 994) (loc_q := lw_LOC i) (st_q := [.ref 0]) (h_q := h) (cl_q := 94) (sl_q := 4156) rfl ?_
  refine lw_argz 1 ⟨rfl, rfl, rfl, rfl, rfl⟩ (by decide) h0 h1 h2 e1 ?_
  refine lw_argz 2 ⟨rfl, rfl, rfl, rfl, rfl⟩ (by decide) h0 h1 h2 e2 ?_
  refine fw_call 115 3 0 [.ref 0, fI z1, fI z2] [] rfl rfl rfl (Nat.le_of_ble_eq_true rfl) rfl rfl (lw_fit (by decide +kernel) hl0 hc0 (Nat.le_of_ble_eq_true rfl) (Nat.le_of_ble_eq_true rfl) rfl) (la_log E hK r1 r2) ?_
  rintro _ g1 ⟨v, rfl, ⟨hl1, fs1, hc1⟩, H2⟩
  refine ik_Wk 0 (pc_q := 1007) (loc_q := lw_LOC i) (st_q := [fI v]) (h_q := g1) (cl_q := 94) (sl_q := 4156) rfl ?_
  refine ik_Wk 1 (pc_q := 1008) (loc_q := lw_LOC i) (st_q := []) (h_q := g1) (cl_q := 94) (sl_q := 4156) rfl ?_
  refine ik_Wk 1 (pc_q := 1009) (loc_q := lw_LOC i) (st_q := [.ref 66]) (h_q := g1) (cl_q := 94) (sl_q := 4156) rfl ?_
  refine lw_argz 1 ⟨rfl, rfl, rfl, rfl, rfl⟩ (by decide) h0 h1 h2 e1 ?_
  refine lw_argz 2 ⟨rfl, rfl, rfl, rfl, rfl⟩ (by decide) h0 h1 h2 e2 ?_
  refine fw_call 203 3 0 [.ref 66, fI z1, fI z2] [] rfl rfl rfl (Nat.le_of_ble_eq_true rfl) rfl rfl (lw_fit (by decide +kernel) hl1 hc1 (Nat.le_of_ble_eq_true rfl) (Nat.le_of_ble_eq_true rfl) rfl) H2 ?_
  rintro _ g2 ⟨rfl, E2⟩
  refine ik_Wk 0 (pc_q := 1022) (loc_q := lw_LOC i) (st_q := [fI v]) (h_q := g2) (cl_q := 94) (sl_q := 4156) rfl ?_
  refine ik_Wk 1 (pc_q := 1023) (loc_q := lw_LOC i) (st_q := []) (h_q := g2) (cl_q := 94) (sl_q := 4156) rfl ?_
  refine ik_Wk 1 (pc_q := 1131) (loc_q := lw_LOC i) (st_q := []) (h_q := g2) (cl_q := 94) (sl_q := 4156) rfl ?_
  exact kk _ E2
set_option maxHeartbeats 4000000 in
set_option maxRecDepth 100000 in
theorem lw_k26 {L : Nat} {f : Nat → Int32} {i : Int32} {h : List ik_E} {K : Nat} (E : st_S K h) (hK : K ≤ 600) (h0 : 0 ≤ i.toInt) (h1 : i.toInt + 4 < L) (h2 : L ≤ 2560) (kk : ∀ h_q, st_S (K + 1) h_q → ik_W (some (L, f)) 0 1131 (lw_LOC i) [] h_q 94 4156 lw_post) : ik_W (some (L, f)) 0 1026 (lw_LOC i) [] h 94 4156 lw_post := by
  obtain ⟨hl0, fs0, hc0⟩ := st_0 E
  refine ik_Wk 1 (pc_q := 1027) (loc_q := lw_LOC i) (st_q := [.ref 0]) (h_q := h) (cl_q := 94) (sl_q := 4156) rfl ?_
  refine fw_call 116 1 0 [.ref 0] [] rfl rfl rfl (Nat.le_of_ble_eq_true rfl) rfl rfl (lw_fit (by decide +kernel) hl0 hc0 (Nat.le_of_ble_eq_true rfl) (Nat.le_of_ble_eq_true rfl) rfl) (lk_clear E hK ) ?_
  rintro _ g1 ⟨v, rfl, ⟨hl1, fs1, hc1⟩, H2⟩
  refine ik_Wk 0 (pc_q := 1030) (loc_q := lw_LOC i) (st_q := [fI v]) (h_q := g1) (cl_q := 94) (sl_q := 4156) rfl ?_
  refine ik_Wk 1 (pc_q := 1031) (loc_q := lw_LOC i) (st_q := []) (h_q := g1) (cl_q := 94) (sl_q := 4156) rfl ?_
  refine ik_Wk 1 (pc_q := 1032) (loc_q := lw_LOC i) (st_q := [.ref 66]) (h_q := g1) (cl_q := 94) (sl_q := 4156) rfl ?_
  refine fw_call 204 1 0 [.ref 66] [] rfl rfl rfl (Nat.le_of_ble_eq_true rfl) rfl rfl (lw_fit (by decide +kernel) hl1 hc1 (Nat.le_of_ble_eq_true rfl) (Nat.le_of_ble_eq_true rfl) rfl) H2 ?_
  rintro _ g2 ⟨rfl, E2⟩
  refine ik_Wk 0 (pc_q := 1035) (loc_q := lw_LOC i) (st_q := [fI v]) (h_q := g2) (cl_q := 94) (sl_q := 4156) rfl ?_
  refine ik_Wk 1 (pc_q := 1036) (loc_q := lw_LOC i) (st_q := []) (h_q := g2) (cl_q := 94) (sl_q := 4156) rfl ?_
  refine ik_Wk 1 (pc_q := 1131) (loc_q := lw_LOC i) (st_q := []) (h_q := g2) (cl_q := 94) (sl_q := 4156) rfl ?_
  exact kk _ E2
set_option maxHeartbeats 4000000 in
set_option maxRecDepth 100000 in
theorem lw_k27 {L : Nat} {f : Nat → Int32} {i : Int32} {h : List ik_E} {K : Nat} (E : st_S K h) (hK : K ≤ 600) (h0 : 0 ≤ i.toInt) (h1 : i.toInt + 4 < L) (h2 : L ≤ 2560) (kk : ∀ h_q, st_S (K + 1) h_q → ik_W (some (L, f)) 0 1131 (lw_LOC i) [] h_q 94 4156 lw_post) : ik_W (some (L, f)) 0 1039 (lw_LOC i) [] h 94 4156 lw_post := by
  obtain ⟨hl0, fs0, hc0⟩ := st_0 E
  obtain ⟨z1, e1, r1⟩ := lw_z (f (i.toInt.toNat + 1))
  refine ik_Wk 1 (pc_q := 1040) (loc_q := lw_LOC i) (st_q := [.ref 0]) (h_q := h) (cl_q := 94) (sl_q := 4156) rfl ?_
  refine lw_argz 1 ⟨rfl, rfl, rfl, rfl, rfl⟩ (by decide) h0 h1 h2 e1 ?_
  refine fw_call 117 2 0 [.ref 0, fI z1] [] rfl rfl rfl (Nat.le_of_ble_eq_true rfl) rfl rfl (lw_fit (by decide +kernel) hl0 hc0 (Nat.le_of_ble_eq_true rfl) (Nat.le_of_ble_eq_true rfl) rfl) (la_judge E hK r1) ?_
  rintro _ g1 ⟨v, rfl, ⟨hl1, fs1, hc1⟩, H2⟩
  refine ik_Wk 0 (pc_q := 1048) (loc_q := lw_LOC i) (st_q := [fI v]) (h_q := g1) (cl_q := 94) (sl_q := 4156) rfl ?_
  refine ik_Wk 1 (pc_q := 1049) (loc_q := lw_LOC i) (st_q := []) (h_q := g1) (cl_q := 94) (sl_q := 4156) rfl ?_
  refine ik_Wk 1 (pc_q := 1050) (loc_q := lw_LOC i) (st_q := [.ref 66]) (h_q := g1) (cl_q := 94) (sl_q := 4156) rfl ?_
  refine lw_argz 1 ⟨rfl, rfl, rfl, rfl, rfl⟩ (by decide) h0 h1 h2 e1 ?_
  refine fw_call 207 2 0 [.ref 66, fI z1] [] rfl rfl rfl (Nat.le_of_ble_eq_true rfl) rfl rfl (lw_fit (by decide +kernel) hl1 hc1 (Nat.le_of_ble_eq_true rfl) (Nat.le_of_ble_eq_true rfl) rfl) H2 ?_
  rintro _ g2 ⟨rfl, E2⟩
  refine ik_Wk 0 (pc_q := 1058) (loc_q := lw_LOC i) (st_q := [fI v]) (h_q := g2) (cl_q := 94) (sl_q := 4156) rfl ?_
  refine ik_Wk 1 (pc_q := 1059) (loc_q := lw_LOC i) (st_q := []) (h_q := g2) (cl_q := 94) (sl_q := 4156) rfl ?_
  refine ik_Wk 1 (pc_q := 1131) (loc_q := lw_LOC i) (st_q := []) (h_q := g2) (cl_q := 94) (sl_q := 4156) rfl ?_
  exact kk _ E2
set_option maxHeartbeats 4000000 in
set_option maxRecDepth 100000 in
theorem lw_k28 {L : Nat} {f : Nat → Int32} {i : Int32} {h : List ik_E} {K : Nat} (E : st_S K h) (hK : K ≤ 600) (h0 : 0 ≤ i.toInt) (h1 : i.toInt + 4 < L) (h2 : L ≤ 2560) (kk : ∀ h_q, st_S (K + 1) h_q → ik_W (some (L, f)) 0 1131 (lw_LOC i) [] h_q 94 4156 lw_post) : ik_W (some (L, f)) 0 1062 (lw_LOC i) [] h 94 4156 lw_post := by
  obtain ⟨hl0, fs0, hc0⟩ := st_0 E
  obtain ⟨z1, e1, r1⟩ := lw_z (f (i.toInt.toNat + 1))
  refine ik_Wk 1 (pc_q := 1063) (loc_q := lw_LOC i) (st_q := [.ref 0]) (h_q := h) (cl_q := 94) (sl_q := 4156) rfl ?_
  refine lw_argz 1 ⟨rfl, rfl, rfl, rfl, rfl⟩ (by decide) h0 h1 h2 e1 ?_
  refine fw_call 118 2 0 [.ref 0, fI z1] [] rfl rfl rfl (Nat.le_of_ble_eq_true rfl) rfl rfl (lw_fit (by decide +kernel) hl0 hc0 (Nat.le_of_ble_eq_true rfl) (Nat.le_of_ble_eq_true rfl) rfl) (lk_seed E hK r1) ?_
  rintro _ g1 ⟨v, rfl, ⟨hl1, fs1, hc1⟩, H2⟩
  refine ik_Wk 0 (pc_q := 1071) (loc_q := lw_LOC i) (st_q := [fI v]) (h_q := g1) (cl_q := 94) (sl_q := 4156) rfl ?_
  refine ik_Wk 1 (pc_q := 1072) (loc_q := lw_LOC i) (st_q := []) (h_q := g1) (cl_q := 94) (sl_q := 4156) rfl ?_
  refine ik_Wk 1 (pc_q := 1073) (loc_q := lw_LOC i) (st_q := [.ref 66]) (h_q := g1) (cl_q := 94) (sl_q := 4156) rfl ?_
  refine lw_argz 1 ⟨rfl, rfl, rfl, rfl, rfl⟩ (by decide) h0 h1 h2 e1 ?_
  refine fw_call 208 2 0 [.ref 66, fI z1] [] rfl rfl rfl (Nat.le_of_ble_eq_true rfl) rfl rfl (lw_fit (by decide +kernel) hl1 hc1 (Nat.le_of_ble_eq_true rfl) (Nat.le_of_ble_eq_true rfl) rfl) H2 ?_
  rintro _ g2 ⟨rfl, E2⟩
  refine ik_Wk 0 (pc_q := 1081) (loc_q := lw_LOC i) (st_q := [fI v]) (h_q := g2) (cl_q := 94) (sl_q := 4156) rfl ?_
  refine ik_Wk 1 (pc_q := 1082) (loc_q := lw_LOC i) (st_q := []) (h_q := g2) (cl_q := 94) (sl_q := 4156) rfl ?_
  refine ik_Wk 1 (pc_q := 1131) (loc_q := lw_LOC i) (st_q := []) (h_q := g2) (cl_q := 94) (sl_q := 4156) rfl ?_
  exact kk _ E2
set_option maxHeartbeats 4000000 in
set_option maxRecDepth 100000 in
theorem lw_k29 {L : Nat} {f : Nat → Int32} {i : Int32} {h : List ik_E} {K : Nat} (E : st_S K h) (hK : K ≤ 600) (h0 : 0 ≤ i.toInt) (h1 : i.toInt + 4 < L) (h2 : L ≤ 2560) (kk : ∀ h_q, st_S (K + 1) h_q → ik_W (some (L, f)) 0 1131 (lw_LOC i) [] h_q 94 4156 lw_post) : ik_W (some (L, f)) 0 1085 (lw_LOC i) [] h 94 4156 lw_post := by
  obtain ⟨hl0, fs0, hc0⟩ := st_0 E
  obtain ⟨z1, e1, r1⟩ := lw_z (f (i.toInt.toNat + 1))
  refine ik_Wk 1 (pc_q := 1086) (loc_q := lw_LOC i) (st_q := [.ref 0]) (h_q := h) (cl_q := 94) (sl_q := 4156) rfl ?_
  refine lw_argz 1 ⟨rfl, rfl, rfl, rfl, rfl⟩ (by decide) h0 h1 h2 e1 ?_
  refine fw_call 119 2 0 [.ref 0, fI z1] [] rfl rfl rfl (Nat.le_of_ble_eq_true rfl) rfl rfl (lw_fit (by decide +kernel) hl0 hc0 (Nat.le_of_ble_eq_true rfl) (Nat.le_of_ble_eq_true rfl) rfl) (la_keep E hK r1) ?_
  rintro _ g1 ⟨v, rfl, ⟨hl1, fs1, hc1⟩, H2⟩
  refine ik_Wk 0 (pc_q := 1094) (loc_q := lw_LOC i) (st_q := [fI v]) (h_q := g1) (cl_q := 94) (sl_q := 4156) rfl ?_
  refine ik_Wk 1 (pc_q := 1095) (loc_q := lw_LOC i) (st_q := []) (h_q := g1) (cl_q := 94) (sl_q := 4156) rfl ?_
  refine ik_Wk 1 (pc_q := 1096) (loc_q := lw_LOC i) (st_q := [.ref 66]) (h_q := g1) (cl_q := 94) (sl_q := 4156) rfl ?_
  refine lw_argz 1 ⟨rfl, rfl, rfl, rfl, rfl⟩ (by decide) h0 h1 h2 e1 ?_
  refine fw_call 209 2 0 [.ref 66, fI z1] [] rfl rfl rfl (Nat.le_of_ble_eq_true rfl) rfl rfl (lw_fit (by decide +kernel) hl1 hc1 (Nat.le_of_ble_eq_true rfl) (Nat.le_of_ble_eq_true rfl) rfl) H2 ?_
  rintro _ g2 ⟨rfl, E2⟩
  refine ik_Wk 0 (pc_q := 1104) (loc_q := lw_LOC i) (st_q := [fI v]) (h_q := g2) (cl_q := 94) (sl_q := 4156) rfl ?_
  refine ik_Wk 1 (pc_q := 1105) (loc_q := lw_LOC i) (st_q := []) (h_q := g2) (cl_q := 94) (sl_q := 4156) rfl ?_
  refine ik_Wk 1 (pc_q := 1131) (loc_q := lw_LOC i) (st_q := []) (h_q := g2) (cl_q := 94) (sl_q := 4156) rfl ?_
  exact kk _ E2
set_option maxHeartbeats 4000000 in
set_option maxRecDepth 100000 in
theorem lw_k30 {L : Nat} {f : Nat → Int32} {i : Int32} {h : List ik_E} {K : Nat} (E : st_S K h) (hK : K ≤ 600) (h0 : 0 ≤ i.toInt) (h1 : i.toInt + 4 < L) (h2 : L ≤ 2560) (kk : ∀ h_q, st_S (K + 1) h_q → ik_W (some (L, f)) 0 1131 (lw_LOC i) [] h_q 94 4156 lw_post) : ik_W (some (L, f)) 0 1108 (lw_LOC i) [] h 94 4156 lw_post := by
  obtain ⟨hl0, fs0, hc0⟩ := st_0 E
  obtain ⟨z1, e1, r1⟩ := lw_z (f (i.toInt.toNat + 1))
  refine ik_Wk 1 (pc_q := 1109) (loc_q := lw_LOC i) (st_q := [.ref 0]) (h_q := h) (cl_q := 94) (sl_q := 4156) rfl ?_
  refine lw_argz 1 ⟨rfl, rfl, rfl, rfl, rfl⟩ (by decide) h0 h1 h2 e1 ?_
  refine fw_call 120 2 0 [.ref 0, fI z1] [] rfl rfl rfl (Nat.le_of_ble_eq_true rfl) rfl rfl (lw_fit (by decide +kernel) hl0 hc0 (Nat.le_of_ble_eq_true rfl) (Nat.le_of_ble_eq_true rfl) rfl) (la_goBack E hK r1) ?_
  rintro _ g1 ⟨v, rfl, ⟨hl1, fs1, hc1⟩, H2⟩
  refine ik_Wk 0 (pc_q := 1117) (loc_q := lw_LOC i) (st_q := [fI v]) (h_q := g1) (cl_q := 94) (sl_q := 4156) rfl ?_
  refine ik_Wk 1 (pc_q := 1118) (loc_q := lw_LOC i) (st_q := []) (h_q := g1) (cl_q := 94) (sl_q := 4156) rfl ?_
  refine ik_Wk 1 (pc_q := 1119) (loc_q := lw_LOC i) (st_q := [.ref 66]) (h_q := g1) (cl_q := 94) (sl_q := 4156) rfl ?_
  refine lw_argz 1 ⟨rfl, rfl, rfl, rfl, rfl⟩ (by decide) h0 h1 h2 e1 ?_
  refine fw_call 210 2 0 [.ref 66, fI z1] [] rfl rfl rfl (Nat.le_of_ble_eq_true rfl) rfl rfl (lw_fit (by decide +kernel) hl1 hc1 (Nat.le_of_ble_eq_true rfl) (Nat.le_of_ble_eq_true rfl) rfl) H2 ?_
  rintro _ g2 ⟨rfl, E2⟩
  refine ik_Wk 0 (pc_q := 1127) (loc_q := lw_LOC i) (st_q := [fI v]) (h_q := g2) (cl_q := 94) (sl_q := 4156) rfl ?_
  refine ik_Wk 1 (pc_q := 1128) (loc_q := lw_LOC i) (st_q := []) (h_q := g2) (cl_q := 94) (sl_q := 4156) rfl ?_
  refine ik_Wk 1 (pc_q := 1131) (loc_q := lw_LOC i) (st_q := []) (h_q := g2) (cl_q := 94) (sl_q := 4156) rfl ?_
  exact kk _ E2
set_option maxHeartbeats 4000000 in
set_option maxRecDepth 100000 in
theorem lw_body {L : Nat} {f : Nat → Int32} {i : Int32} {h : List ik_E} {K : Nat} (E : st_S K h) (hK : K ≤ 600) (h0 : 0 ≤ i.toInt) (h1 : i.toInt + 4 < L) (h2 : L ≤ 2560) (kk : ∀ h_q, st_S (K + 1) h_q → ik_W (some (L, f)) 0 1131 (lw_LOC i) [] h_q 94 4156 lw_post) : ik_W (some (L, f)) 0 26 (lw_LOC i) [] h 94 4156 lw_post := by
  refine ik_Wk 2 (pc_q := 28) (loc_q := lw_LOC i) (st_q := [.int i, .retAddr 0]) (h_q := h) (cl_q := 94) (sl_q := 4156) rfl ?_
  refine lw_ld rfl h0 (by omega) ?_
  refine ik_Wk 2 (pc_q := 32) (loc_q := lw_LOC i) (st_q := [.int (f i.toInt.toNat &&& 31)]) (h_q := h) (cl_q := 94) (sl_q := 4156) rfl ?_
  obtain ⟨j, hj, ej⟩ := pk_andE (f i.toInt.toNat) (m := 31) 5 (by decide)
  rw [ej]
  have hj2 : j = 0 ∨ j = 1 ∨ j = 2 ∨ j = 3 ∨ j = 4 ∨ j = 5 ∨ j = 6 ∨ j = 7 ∨ j = 8 ∨ j = 9 ∨ j = 10 ∨ j = 11 ∨ j = 12 ∨ j = 13 ∨ j = 14 ∨ j = 15 ∨ j = 16 ∨ j = 17 ∨ j = 18 ∨ j = 19 ∨ j = 20 ∨ j = 21 ∨ j = 22 ∨ j = 23 ∨ j = 24 ∨ j = 25 ∨ j = 26 ∨ j = 27 ∨ j = 28 ∨ j = 29 ∨ j = 30 ∨ j = 31 := by omega
  rcases hj2 with rfl | rfl | rfl | rfl | rfl | rfl | rfl | rfl | rfl | rfl | rfl | rfl | rfl | rfl | rfl | rfl | rfl | rfl | rfl | rfl | rfl | rfl | rfl | rfl | rfl | rfl | rfl | rfl | rfl | rfl | rfl | rfl
  · exact ik_Wsi 1099 0 30 #[140, 203, 216, 229, 252, 295, 338, 381, 434, 477, 520, 543, 586, 629, 678, 711, 744, 757, 780, 793, 846, 879, 902, 925, 938, 961, 994, 1007, 1030, 1053, 1076] 140 172 rfl (by decide) (by decide) rfl (lw_k0 E hK h0 h1 h2 kk)
  · exact ik_Wsi 1099 0 30 #[140, 203, 216, 229, 252, 295, 338, 381, 434, 477, 520, 543, 586, 629, 678, 711, 744, 757, 780, 793, 846, 879, 902, 925, 938, 961, 994, 1007, 1030, 1053, 1076] 203 235 rfl (by decide) (by decide) rfl (lw_k1 E hK h0 h1 h2 kk)
  · exact ik_Wsi 1099 0 30 #[140, 203, 216, 229, 252, 295, 338, 381, 434, 477, 520, 543, 586, 629, 678, 711, 744, 757, 780, 793, 846, 879, 902, 925, 938, 961, 994, 1007, 1030, 1053, 1076] 216 248 rfl (by decide) (by decide) rfl (lw_k2 E hK h0 h1 h2 kk)
  · exact ik_Wsi 1099 0 30 #[140, 203, 216, 229, 252, 295, 338, 381, 434, 477, 520, 543, 586, 629, 678, 711, 744, 757, 780, 793, 846, 879, 902, 925, 938, 961, 994, 1007, 1030, 1053, 1076] 229 261 rfl (by decide) (by decide) rfl (lw_k3 E hK h0 h1 h2 kk)
  · exact ik_Wsi 1099 0 30 #[140, 203, 216, 229, 252, 295, 338, 381, 434, 477, 520, 543, 586, 629, 678, 711, 744, 757, 780, 793, 846, 879, 902, 925, 938, 961, 994, 1007, 1030, 1053, 1076] 252 284 rfl (by decide) (by decide) rfl (lw_k4 E hK h0 h1 h2 kk)
  · exact ik_Wsi 1099 0 30 #[140, 203, 216, 229, 252, 295, 338, 381, 434, 477, 520, 543, 586, 629, 678, 711, 744, 757, 780, 793, 846, 879, 902, 925, 938, 961, 994, 1007, 1030, 1053, 1076] 295 327 rfl (by decide) (by decide) rfl (lw_k5 E hK h0 h1 h2 kk)
  · exact ik_Wsi 1099 0 30 #[140, 203, 216, 229, 252, 295, 338, 381, 434, 477, 520, 543, 586, 629, 678, 711, 744, 757, 780, 793, 846, 879, 902, 925, 938, 961, 994, 1007, 1030, 1053, 1076] 338 370 rfl (by decide) (by decide) rfl (lw_k6 E hK h0 h1 h2 kk)
  · exact ik_Wsi 1099 0 30 #[140, 203, 216, 229, 252, 295, 338, 381, 434, 477, 520, 543, 586, 629, 678, 711, 744, 757, 780, 793, 846, 879, 902, 925, 938, 961, 994, 1007, 1030, 1053, 1076] 381 413 rfl (by decide) (by decide) rfl (lw_k7 E hK h0 h1 h2 kk)
  · exact ik_Wsi 1099 0 30 #[140, 203, 216, 229, 252, 295, 338, 381, 434, 477, 520, 543, 586, 629, 678, 711, 744, 757, 780, 793, 846, 879, 902, 925, 938, 961, 994, 1007, 1030, 1053, 1076] 434 466 rfl (by decide) (by decide) rfl (lw_k8 E hK h0 h1 h2 kk)
  · exact ik_Wsi 1099 0 30 #[140, 203, 216, 229, 252, 295, 338, 381, 434, 477, 520, 543, 586, 629, 678, 711, 744, 757, 780, 793, 846, 879, 902, 925, 938, 961, 994, 1007, 1030, 1053, 1076] 477 509 rfl (by decide) (by decide) rfl (lw_k9 E hK h0 h1 h2 kk)
  · exact ik_Wsi 1099 0 30 #[140, 203, 216, 229, 252, 295, 338, 381, 434, 477, 520, 543, 586, 629, 678, 711, 744, 757, 780, 793, 846, 879, 902, 925, 938, 961, 994, 1007, 1030, 1053, 1076] 520 552 rfl (by decide) (by decide) rfl (lw_k10 E hK h0 h1 h2 kk)
  · exact ik_Wsi 1099 0 30 #[140, 203, 216, 229, 252, 295, 338, 381, 434, 477, 520, 543, 586, 629, 678, 711, 744, 757, 780, 793, 846, 879, 902, 925, 938, 961, 994, 1007, 1030, 1053, 1076] 543 575 rfl (by decide) (by decide) rfl (lw_k11 E hK h0 h1 h2 kk)
  · exact ik_Wsi 1099 0 30 #[140, 203, 216, 229, 252, 295, 338, 381, 434, 477, 520, 543, 586, 629, 678, 711, 744, 757, 780, 793, 846, 879, 902, 925, 938, 961, 994, 1007, 1030, 1053, 1076] 586 618 rfl (by decide) (by decide) rfl (lw_k12 E hK h0 h1 h2 kk)
  · exact ik_Wsi 1099 0 30 #[140, 203, 216, 229, 252, 295, 338, 381, 434, 477, 520, 543, 586, 629, 678, 711, 744, 757, 780, 793, 846, 879, 902, 925, 938, 961, 994, 1007, 1030, 1053, 1076] 629 661 rfl (by decide) (by decide) rfl (lw_k13 E hK h0 h1 h2 kk)
  · exact ik_Wsi 1099 0 30 #[140, 203, 216, 229, 252, 295, 338, 381, 434, 477, 520, 543, 586, 629, 678, 711, 744, 757, 780, 793, 846, 879, 902, 925, 938, 961, 994, 1007, 1030, 1053, 1076] 678 710 rfl (by decide) (by decide) rfl (lw_k14 E hK h0 h1 h2 kk)
  · exact ik_Wsi 1099 0 30 #[140, 203, 216, 229, 252, 295, 338, 381, 434, 477, 520, 543, 586, 629, 678, 711, 744, 757, 780, 793, 846, 879, 902, 925, 938, 961, 994, 1007, 1030, 1053, 1076] 711 743 rfl (by decide) (by decide) rfl (lw_k15 E hK h0 h1 h2 kk)
  · exact ik_Wsi 1099 0 30 #[140, 203, 216, 229, 252, 295, 338, 381, 434, 477, 520, 543, 586, 629, 678, 711, 744, 757, 780, 793, 846, 879, 902, 925, 938, 961, 994, 1007, 1030, 1053, 1076] 744 776 rfl (by decide) (by decide) rfl (lw_k16 E hK h0 h1 h2 kk)
  · exact ik_Wsi 1099 0 30 #[140, 203, 216, 229, 252, 295, 338, 381, 434, 477, 520, 543, 586, 629, 678, 711, 744, 757, 780, 793, 846, 879, 902, 925, 938, 961, 994, 1007, 1030, 1053, 1076] 757 789 rfl (by decide) (by decide) rfl (lw_k17 E hK h0 h1 h2 kk)
  · exact ik_Wsi 1099 0 30 #[140, 203, 216, 229, 252, 295, 338, 381, 434, 477, 520, 543, 586, 629, 678, 711, 744, 757, 780, 793, 846, 879, 902, 925, 938, 961, 994, 1007, 1030, 1053, 1076] 780 812 rfl (by decide) (by decide) rfl (lw_k18 E hK h0 h1 h2 kk)
  · exact ik_Wsi 1099 0 30 #[140, 203, 216, 229, 252, 295, 338, 381, 434, 477, 520, 543, 586, 629, 678, 711, 744, 757, 780, 793, 846, 879, 902, 925, 938, 961, 994, 1007, 1030, 1053, 1076] 793 825 rfl (by decide) (by decide) rfl (lw_k19 E hK h0 h1 h2 kk)
  · exact ik_Wsi 1099 0 30 #[140, 203, 216, 229, 252, 295, 338, 381, 434, 477, 520, 543, 586, 629, 678, 711, 744, 757, 780, 793, 846, 879, 902, 925, 938, 961, 994, 1007, 1030, 1053, 1076] 846 878 rfl (by decide) (by decide) rfl (lw_k20 E hK h0 h1 h2 kk)
  · exact ik_Wsi 1099 0 30 #[140, 203, 216, 229, 252, 295, 338, 381, 434, 477, 520, 543, 586, 629, 678, 711, 744, 757, 780, 793, 846, 879, 902, 925, 938, 961, 994, 1007, 1030, 1053, 1076] 879 911 rfl (by decide) (by decide) rfl (lw_k21 E hK h0 h1 h2 kk)
  · exact ik_Wsi 1099 0 30 #[140, 203, 216, 229, 252, 295, 338, 381, 434, 477, 520, 543, 586, 629, 678, 711, 744, 757, 780, 793, 846, 879, 902, 925, 938, 961, 994, 1007, 1030, 1053, 1076] 902 934 rfl (by decide) (by decide) rfl (lw_k22 E hK h0 h1 h2 kk)
  · exact ik_Wsi 1099 0 30 #[140, 203, 216, 229, 252, 295, 338, 381, 434, 477, 520, 543, 586, 629, 678, 711, 744, 757, 780, 793, 846, 879, 902, 925, 938, 961, 994, 1007, 1030, 1053, 1076] 925 957 rfl (by decide) (by decide) rfl (lw_k23 E hK h0 h1 h2 kk)
  · exact ik_Wsi 1099 0 30 #[140, 203, 216, 229, 252, 295, 338, 381, 434, 477, 520, 543, 586, 629, 678, 711, 744, 757, 780, 793, 846, 879, 902, 925, 938, 961, 994, 1007, 1030, 1053, 1076] 938 970 rfl (by decide) (by decide) rfl (lw_k24 E hK h0 h1 h2 kk)
  · exact ik_Wsi 1099 0 30 #[140, 203, 216, 229, 252, 295, 338, 381, 434, 477, 520, 543, 586, 629, 678, 711, 744, 757, 780, 793, 846, 879, 902, 925, 938, 961, 994, 1007, 1030, 1053, 1076] 961 993 rfl (by decide) (by decide) rfl (lw_k25 E hK h0 h1 h2 kk)
  · exact ik_Wsi 1099 0 30 #[140, 203, 216, 229, 252, 295, 338, 381, 434, 477, 520, 543, 586, 629, 678, 711, 744, 757, 780, 793, 846, 879, 902, 925, 938, 961, 994, 1007, 1030, 1053, 1076] 994 1026 rfl (by decide) (by decide) rfl (lw_k26 E hK h0 h1 h2 kk)
  · exact ik_Wsi 1099 0 30 #[140, 203, 216, 229, 252, 295, 338, 381, 434, 477, 520, 543, 586, 629, 678, 711, 744, 757, 780, 793, 846, 879, 902, 925, 938, 961, 994, 1007, 1030, 1053, 1076] 1007 1039 rfl (by decide) (by decide) rfl (lw_k27 E hK h0 h1 h2 kk)
  · exact ik_Wsi 1099 0 30 #[140, 203, 216, 229, 252, 295, 338, 381, 434, 477, 520, 543, 586, 629, 678, 711, 744, 757, 780, 793, 846, 879, 902, 925, 938, 961, 994, 1007, 1030, 1053, 1076] 1030 1062 rfl (by decide) (by decide) rfl (lw_k28 E hK h0 h1 h2 kk)
  · exact ik_Wsi 1099 0 30 #[140, 203, 216, 229, 252, 295, 338, 381, 434, 477, 520, 543, 586, 629, 678, 711, 744, 757, 780, 793, 846, 879, 902, 925, 938, 961, 994, 1007, 1030, 1053, 1076] 1053 1085 rfl (by decide) (by decide) rfl (lw_k29 E hK h0 h1 h2 kk)
  · exact ik_Wsi 1099 0 30 #[140, 203, 216, 229, 252, 295, 338, 381, 434, 477, 520, 543, 586, 629, 678, 711, 744, 757, 780, 793, 846, 879, 902, 925, 938, 961, 994, 1007, 1030, 1053, 1076] 1076 1108 rfl (by decide) (by decide) rfl (lw_k30 E hK h0 h1 h2 kk)
  · refine ik_Wsw 1099 0 30 #[140, 203, 216, 229, 252, 295, 338, 381, 434, 477, 520, 543, 586, 629, 678, 711, 744, 757, 780, 793, 846, 879, 902, 925, 938, 961, 994, 1007, 1030, 1053, 1076] 1131 rfl rfl (by decide) ?_
    exact kk _ (st_K E)
theorem lw_len {L : Nat} (h2 : L ≤ 2560) : (Int32.ofNat L - Int32.ofInt 5).toInt = (L : Int) - 5 := by
  have e1 : (Int32.ofNat L).toInt = L := by
    exact Int32.toInt_ofNat_of_lt (by omega)
  rw [Int32.toInt_sub, e1, show (Int32.ofInt 5).toInt = 5 from rfl]
  exact lw_bm (by omega) (by omega)
set_option maxHeartbeats 4000000 in
set_option maxRecDepth 100000 in
theorem lw_exit {L : Nat} {f : Nat → Int32} (h2 : L ≤ 2560) {i : Int32} {h : List ik_E} (h0 : 0 ≤ i.toInt) (hi : i.toInt ≤ 2560) (hx : ¬ i.toInt + 4 < L) : ik_W (some (L, f)) 0 18 (lw_LOC i) [] h 94 4156 lw_post := by
  refine ik_Wif 6 1137 26 (loc_q := lw_LOC i) (st_q := []) (h_q := h) (cl_q := 94) (sl_q := 4156) rfl ?_ ?_
  · intro _
    refine ik_Wk 1 (pc_q := 1138) (loc_q := lw_LOC i) (st_q := [.int 1]) (h_q := h) (cl_q := 94) (sl_q := 4156) rfl ?_
    exact ik_Wret rfl rfl ⟨rfl, rfl, Nat.le_of_ble_eq_true rfl, Nat.le_of_ble_eq_true rfl⟩
  · intro q
    rw [cv_lt, lw_len h2] at q
    omega
set_option maxHeartbeats 4000000 in
set_option maxRecDepth 100000 in
theorem lw_loop {L : Nat} {f : Nat → Int32} (h2 : L ≤ 2560) : ∀ (n : Nat) (i : Int32) {h : List ik_E}, 0 ≤ i.toInt → i.toInt ≤ 2560 → (L : Int) - i.toInt < n → ∀ {K : Nat}, st_S K h → 5 * (K : Int) ≤ i.toInt → ik_W (some (L, f)) 0 18 (lw_LOC i) [] h 94 4156 lw_post := by
  intro n
  induction n with
  | zero =>
    intro i h h0 hi hn K E hk
    refine lw_exit h2 h0 hi (by omega)
  | succ n ih =>
    intro i h h0 hi hn K E hk
    by_cases hx : i.toInt + 4 < L
    · refine ik_Wif 6 1137 26 (loc_q := lw_LOC i) (st_q := []) (h_q := h) (cl_q := 94) (sl_q := 4156) rfl ?_ ?_
      · intro q
        rw [cv_lt, lw_len h2] at q
        omega
      · intro _
        refine lw_body E (by omega) h0 hx h2 ?_
        intro h_q E'
        have e5 : (i + Int32.ofInt 5).toInt = i.toInt + 5 := by
          rw [Int32.toInt_add, show (Int32.ofInt 5).toInt = 5 from rfl]
          exact lw_bm (by omega) (by omega)
        refine ik_Wk 2 (pc_q := 18) (loc_q := lw_LOC (i + Int32.ofInt 5)) (st_q := []) (h_q := h_q) (cl_q := 94) (sl_q := 4156) rfl ?_
        exact ih (i + Int32.ofInt 5) (by omega) (by omega) (by omega) E' (by omega)
    · exact lw_exit h2 h0 hi (by omega)
end

/-! 62b.start -/
noncomputable section
/-! the two new objects, class at place 0, reference at place 66; the law from its entry -/
def ik_eE (a b : ik_E) : Bool := match a, b with
  | .inl x, .inl y => decide (x.1 = y.1) && decide (x.2 = y.2)
  | .inr x, .inr y => decide (x.1 = y.1) && decide (x.2 = y.2)
  | _, _ => false
theorem ik_eE_ok {a b : ik_E} (h : ik_eE a b = true) : a = b := by
  unfold ik_eE at h
  split at h
  · simp only [Bool.and_eq_true, decide_eq_true_eq] at h
    rename_i x y
    rw [show x = y from Prod.ext h.1 h.2]
  · simp only [Bool.and_eq_true, decide_eq_true_eq] at h
    rename_i x y
    rw [show x = y from Prod.ext h.1 h.2]
  · cases h
def ik_eH : List ik_E → List ik_E → Bool
  | [], [] => true
  | a :: r, b :: t => ik_eE a b && ik_eH r t
  | _, _ => false
theorem ik_eH_ok : ∀ {a b : List ik_E}, ik_eH a b = true → a = b
  | [], [], _ => rfl
  | a :: r, b :: t, h => by
    unfold ik_eH at h
    simp only [Bool.and_eq_true] at h
    rw [ik_eE_ok h.1, ik_eH_ok h.2]
  | [], _ :: _, h => by cases h
  | _ :: _, [], h => by cases h
/-- a run ends there: a check that a program decides -/
def ik_eZ (z : Option ik_St) (w : ik_St) : Bool := match z with
  | none => false
  | some z => decide (z.1 = w.1) && decide (z.2.1 = w.2.1) && decide (z.2.2.1 = w.2.2.1) && ik_eH z.2.2.2.1 w.2.2.2.1 && decide (z.2.2.2.2 = w.2.2.2.2)
theorem ik_eZ_ok {z : Option ik_St} {w : ik_St} (h : ik_eZ z w = true) : z = some w := by
  unfold ik_eZ at h
  split at h
  · cases h
  · rename_i z
    simp only [Bool.and_eq_true, decide_eq_true_eq] at h
    obtain ⟨⟨⟨⟨h1, h2⟩, h3⟩, h4⟩, h5⟩ := h
    congr 1
    exact Prod.ext h1 (Prod.ext h2 (Prod.ext h3 (Prod.ext (ik_eH_ok h4) h5)))
def p1_x : List ik_E := (.inr (9, [.ref 1, .ref 7, .ref 14, .ref 17, .ref 45, .ref 51, .ref 54, .ref 57]) :: .inr (6, [.ref 2, .int 0, .int 0, .int 0, .int (-1), .int 0, .ref 3, .ref 4, .ref 5, .ref 6]) :: .inl (.byte, List.replicate 500 (.int 0)) :: .inl (.int, List.replicate 12 (.int 0)) :: .inl (.int, List.replicate 48 (.int 0)) :: .inl (.int, List.replicate 48 (.int 0)) :: .inl (.int, List.replicate 48 (.int 0)) :: .inr (0, [.int 0, .int 0, .int 0, .ref 8, .ref 9, .ref 10, .ref 11, .ref 12, .ref 13]) :: .inl (.int, List.replicate 12 (.int 0)) :: .inl (.int, List.replicate 48 (.int 0)) :: .inl (.int, List.replicate 48 (.int 0)) :: .inl (.int, List.replicate 60 (.int 0)) :: .inl (.int, List.replicate 60 (.int 0)) :: .inl (.int, List.replicate 12 (.int 0)) :: .inr (1, [.ref 7, .ref 15, .ref 16, .int 0, .long 0]) :: .inl (.int, List.replicate 6 (.int 0)) :: .inl (.int, List.replicate 2 (.int 0)) :: .inr (8, [.ref 7, .ref 15, .ref 18, .ref 19, .long 0, .ref 20]) :: .inl ((.object "SlowerCork$Course"), [.ref 21, .ref 25, .ref 29, .ref 33, .ref 37, .ref 41]) :: .inl (.long, List.replicate 2 (.long 0)) :: .inl (.int, List.replicate 4 (.int 0)) :: .inr (2, [.ref 7, .int 0, .int 0, .ref 22, .ref 23, .ref 24]) :: .inl (.int, List.replicate 201 (.int 0)) :: .inl (.long, List.replicate 12 (.long 0)) :: .inl (.long, List.replicate 12 (.long 0)) :: .inr (2, [.ref 7, .int 0, .int 0, .ref 26, .ref 27, .ref 28]) :: .inl (.int, List.replicate 201 (.int 0)) :: .inl (.long, List.replicate 12 (.long 0)) :: .inl (.long, List.replicate 12 (.long 0)) :: .inr (2, [.ref 7, .int 0, .int 0, .ref 30, .ref 31, .ref 32]) :: .inl (.int, List.replicate 201 (.int 0)) :: .inl (.long, List.replicate 12 (.long 0)) :: .inl (.long, List.replicate 12 (.long 0)) :: .inr (2, [.ref 7, .int 0, .int 0, .ref 34, .ref 35, .ref 36]) :: .inl (.int, List.replicate 201 (.int 0)) :: .inl (.long, List.replicate 12 (.long 0)) :: .inl (.long, List.replicate 12 (.long 0)) :: .inr (2, [.ref 7, .int 0, .int 0, .ref 38, .ref 39, .ref 40]) :: .inl (.int, List.replicate 201 (.int 0)) :: .inl (.long, List.replicate 12 (.long 0)) :: .inl (.long, List.replicate 12 (.long 0)) :: .inr (2, [.ref 7, .int 0, .int 0, .ref 42, .ref 43, .ref 44]) :: .inl (.int, List.replicate 201 (.int 0)) :: .inl (.long, List.replicate 12 (.long 0)) :: .inl (.long, List.replicate 12 (.long 0)) :: .inr (5, [.ref 46, .ref 47, .ref 48, .ref 49, .ref 50]) :: .inl (.int, List.replicate 9 (.int 0)) :: .inl (.long, List.replicate 12 (.long 0)) :: .inl (.long, List.replicate 6 (.long 0)) :: .inl (.long, List.replicate 2 (.long 0)) :: .inl (.long, List.replicate 2 (.long 0)) :: .inr (7, [.ref 7, .int 0, .ref 52, .ref 53]) :: .inl (.int, List.replicate 12 (.int 0)) :: .inl (.int, List.replicate 12 (.int 0)) :: .inr (4, [.ref 55, .ref 56]) :: .inl (.int, List.replicate 80 (.int 0)) :: .inl (.int, List.replicate 2 (.int 0)) :: .inl ((.object "SlowerCork$Image"), [.ref 58, .ref 62]) :: .inr (3, [.int 0, .ref 59, .ref 60, .int 0, .long 0, .int 0, .ref 61]) :: .inl (.int, List.replicate 6 (.int 0)) :: .inl (.int, List.replicate 2 (.int 0)) :: .inl (.int, List.replicate 48 (.int 0)) :: .inr (3, [.int 0, .ref 63, .ref 64, .int 0, .long 0, .int 0, .ref 65]) :: .inl (.int, List.replicate 6 (.int 0)) :: .inl (.int, List.replicate 2 (.int 0)) :: .inl (.int, List.replicate 48 (.int 0)) :: [])
def p1_m : List ik_E := [.inr (10, (.int 0 :: .ref 67 :: .ref 68 :: .ref 69 :: .int 0 :: .ref 70 :: .ref 71 :: .int 0 :: .int 0 :: .ref 72 :: .int 0 :: .int (-1) :: .int 0 :: .long 0 :: .int 0 :: .int 0 :: .int 0 :: .int 0 :: .ref 73 :: .ref 74 :: .ref 75 :: .ref 76 :: .ref 77 :: .ref 78 :: .int 0 :: .ref 79 :: .ref 80 :: .ref 81 :: .ref 82 :: .ref 83 :: .ref 84 :: .ref 85 :: .long 0 :: .long 0 :: .ref 86 :: .ref 87 :: .int 0 :: .ref 88 :: .ref 89 :: .ref 90 :: .ref 91 :: .ref 92 :: .ref 93 :: [])),
  .inl (.int, List.replicate 12 (.int 0)),
  .inl (.int, List.replicate 48 (.int 0)),
  .inl (.int, List.replicate 48 (.int 0)),
  .inl (.int, List.replicate 6 (.int 0)),
  .inl (.int, List.replicate 2 (.int 0)),
  .inl (.int, List.replicate 500 (.int 0)),
  .inl (.int, List.replicate 12 (.int 0)),
  .inl (.int, List.replicate 48 (.int 0)),
  .inl (.int, List.replicate 48 (.int 0)),
  .inl (.int, List.replicate 48 (.int 0)),
  .inl (.int, List.replicate 5 (.int 0)),
  .inl (.int, List.replicate 5 (.int 0)),
  .inl (.long, List.replicate 12 (.long 0)),
  .inl (.long, List.replicate 12 (.long 0)),
  .inl (.long, List.replicate 201 (.long 0)),
  .inl (.long, List.replicate 201 (.long 0)),
  .inl (.long, List.replicate 9 (.long 0)),
  .inl (.long, List.replicate 3 (.long 0)),
  .inl (.long, List.replicate 3 (.long 0)),
  .inl (.int, List.replicate 3 (.int 0)),
  .inl (.int, List.replicate 3 (.int 0)),
  .inl (.int, List.replicate 12 (.int 0)),
  .inl (.int, List.replicate 12 (.int 0)),
  .inl (.int, List.replicate 2 (.int 0)),
  .inl (.int, List.replicate 80 (.int 0)),
  .inl (.int, List.replicate 160 (.int 0)),
  .inl (.boolean, List.replicate 2 (.int 0))]
def p1_h : List ik_E := p1_x ++ p1_m
set_option maxRecDepth 100000 in
theorem p1_newX : ik_ex none 700 89 0 (ik_loc (ik_ml 89) [.ref 0]) [] [.inr (9, ik_fs 9)] 0 0 = some (128, [some (.ref 0)], [], p1_x, 65, 2608) := ik_eZ_ok (by decide +kernel)
set_option maxRecDepth 100000 in
theorem p1_newM : ik_ex none 700 126 0 (ik_loc (ik_ml 126) [.ref 66]) [] (p1_x ++ [.inr (10, ik_fs 10)]) 0 0 = some (224, [some (.ref 66)], [], p1_h, 27, 1497) := ik_eZ_ok (by decide +kernel)
theorem p1_t (k : Nat) : fA (List.replicate k 0) = List.replicate k (.int 0) := by
  unfold fA
  rw [List.map_replicate]
  rfl
theorem p1_tL (k : Nat) : fL (List.replicate k 0) = List.replicate k (.long 0) := by
  unfold fL
  rw [List.map_replicate]
  rfl
theorem p1_g (k n : Nat) : (List.replicate k (0 : Int)).getD n 0 = 0 := by
  rw [List.getD_eq_getElem?_getD, List.getElem?_replicate]
  split <;> rfl
theorem p1_hl : p1_h.length = 94 := by decide +kernel
theorem p1_c2 : cE p1_h 2 (.inl (.byte, fA (List.replicate 500 0))) := by
  rw [p1_t]
  rfl
theorem p1_c3 : cE p1_h 3 (.inl (.int, fA (List.replicate 12 0))) := by
  rw [p1_t]
  rfl
theorem p1_c4 : cE p1_h 4 (.inl (.int, fA (List.replicate 48 0))) := by
  rw [p1_t]
  rfl
theorem p1_c5 : cE p1_h 5 (.inl (.int, fA (List.replicate 48 0))) := by
  rw [p1_t]
  rfl
theorem p1_c6 : cE p1_h 6 (.inl (.int, fA (List.replicate 48 0))) := by
  rw [p1_t]
  rfl
theorem p1_c8 : cE p1_h 8 (.inl (.int, fA (List.replicate 12 0))) := by
  rw [p1_t]
  rfl
theorem p1_c9 : cE p1_h 9 (.inl (.int, fA (List.replicate 48 0))) := by
  rw [p1_t]
  rfl
theorem p1_c10 : cE p1_h 10 (.inl (.int, fA (List.replicate 48 0))) := by
  rw [p1_t]
  rfl
theorem p1_c11 : cE p1_h 11 (.inl (.int, fA (List.replicate 60 0))) := by
  rw [p1_t]
  rfl
theorem p1_c12 : cE p1_h 12 (.inl (.int, fA (List.replicate 60 0))) := by
  rw [p1_t]
  rfl
theorem p1_c13 : cE p1_h 13 (.inl (.int, fA (List.replicate 12 0))) := by
  rw [p1_t]
  rfl
theorem p1_c21 : mf_cr p1_h 21 := ⟨22, 23, 24, 0, 0, List.replicate 201 0, List.replicate 12 0, List.replicate 12 0, rfl, Or.inl ⟨rfl, rfl⟩, rfl, by rw [p1_t]; rfl, by rw [p1_tL]; rfl, by rw [p1_tL]; rfl, List.length_replicate, List.length_replicate, List.length_replicate⟩
theorem p1_c33 : mf_cr p1_h 33 := ⟨34, 35, 36, 0, 0, List.replicate 201 0, List.replicate 12 0, List.replicate 12 0, rfl, Or.inl ⟨rfl, rfl⟩, rfl, by rw [p1_t]; rfl, by rw [p1_tL]; rfl, by rw [p1_tL]; rfl, List.length_replicate, List.length_replicate, List.length_replicate⟩
theorem p1_c25 : mf_cr p1_h 25 := ⟨26, 27, 28, 0, 0, List.replicate 201 0, List.replicate 12 0, List.replicate 12 0, rfl, Or.inl ⟨rfl, rfl⟩, rfl, by rw [p1_t]; rfl, by rw [p1_tL]; rfl, by rw [p1_tL]; rfl, List.length_replicate, List.length_replicate, List.length_replicate⟩
theorem p1_c29 : mf_cr p1_h 29 := ⟨30, 31, 32, 0, 0, List.replicate 201 0, List.replicate 12 0, List.replicate 12 0, rfl, Or.inl ⟨rfl, rfl⟩, rfl, by rw [p1_t]; rfl, by rw [p1_tL]; rfl, by rw [p1_tL]; rfl, List.length_replicate, List.length_replicate, List.length_replicate⟩
theorem p1_c37 : mf_cr p1_h 37 := ⟨38, 39, 40, 0, 0, List.replicate 201 0, List.replicate 12 0, List.replicate 12 0, rfl, Or.inl ⟨rfl, rfl⟩, rfl, by rw [p1_t]; rfl, by rw [p1_tL]; rfl, by rw [p1_tL]; rfl, List.length_replicate, List.length_replicate, List.length_replicate⟩
theorem p1_c41 : mf_cr p1_h 41 := ⟨42, 43, 44, 0, 0, List.replicate 201 0, List.replicate 12 0, List.replicate 12 0, rfl, Or.inl ⟨rfl, rfl⟩, rfl, by rw [p1_t]; rfl, by rw [p1_tL]; rfl, by rw [p1_tL]; rfl, List.length_replicate, List.length_replicate, List.length_replicate⟩
theorem p1_c46 : cE p1_h 46 (.inl (.int, fA (List.replicate 9 0))) := by
  rw [p1_t]
  rfl
theorem p1_c47 : cE p1_h 47 (.inl (.long, fL (List.replicate 12 0))) := by
  rw [p1_tL]
  rfl
theorem p1_c48 : cE p1_h 48 (.inl (.long, fL (List.replicate 6 0))) := by
  rw [p1_tL]
  rfl
theorem p1_c49 : cE p1_h 49 (.inl (.long, fL (List.replicate 2 0))) := by
  rw [p1_tL]
  rfl
theorem p1_c50 : cE p1_h 50 (.inl (.long, fL (List.replicate 2 0))) := by
  rw [p1_tL]
  rfl
theorem p1_c52 : cE p1_h 52 (.inl (.int, fA (List.replicate 12 0))) := by
  rw [p1_t]
  rfl
theorem p1_c53 : cE p1_h 53 (.inl (.int, fA (List.replicate 12 0))) := by
  rw [p1_t]
  rfl
theorem p1_c55 : cE p1_h 55 (.inl (.int, fA (List.replicate 80 0))) := by
  rw [p1_t]
  rfl
theorem p1_c61 : cE p1_h 61 (.inl (.int, fA (List.replicate 48 0))) := by
  rw [p1_t]
  rfl
theorem p1_c65 : cE p1_h 65 (.inl (.int, fA (List.replicate 48 0))) := by
  rw [p1_t]
  rfl
theorem p1_c67 : cE p1_h 67 (.inl (.int, fA (List.replicate 12 0))) := by
  rw [p1_t]
  rfl
theorem p1_c68 : cE p1_h 68 (.inl (.int, fA (List.replicate 48 0))) := by
  rw [p1_t]
  rfl
theorem p1_c69 : cE p1_h 69 (.inl (.int, fA (List.replicate 48 0))) := by
  rw [p1_t]
  rfl
theorem p1_c72 : cE p1_h 72 (.inl (.int, fA (List.replicate 500 0))) := by
  rw [p1_t]
  rfl
theorem p1_c73 : cE p1_h 73 (.inl (.int, fA (List.replicate 12 0))) := by
  rw [p1_t]
  rfl
theorem p1_c74 : cE p1_h 74 (.inl (.int, fA (List.replicate 48 0))) := by
  rw [p1_t]
  rfl
theorem p1_c75 : cE p1_h 75 (.inl (.int, fA (List.replicate 48 0))) := by
  rw [p1_t]
  rfl
theorem p1_c76 : cE p1_h 76 (.inl (.int, fA (List.replicate 48 0))) := by
  rw [p1_t]
  rfl
theorem p1_c77 : cE p1_h 77 (.inl (.int, fA (List.replicate 5 0))) := by
  rw [p1_t]
  rfl
theorem p1_c78 : cE p1_h 78 (.inl (.int, fA (List.replicate 5 0))) := by
  rw [p1_t]
  rfl
theorem p1_c79 : cE p1_h 79 (.inl (.long, fL (List.replicate 12 0))) := by
  rw [p1_tL]
  rfl
theorem p1_c80 : cE p1_h 80 (.inl (.long, fL (List.replicate 12 0))) := by
  rw [p1_tL]
  rfl
theorem p1_c81 : cE p1_h 81 (.inl (.long, fL (List.replicate 201 0))) := by
  rw [p1_tL]
  rfl
theorem p1_c82 : cE p1_h 82 (.inl (.long, fL (List.replicate 201 0))) := by
  rw [p1_tL]
  rfl
theorem p1_c83 : cE p1_h 83 (.inl (.long, fL (List.replicate 9 0))) := by
  rw [p1_tL]
  rfl
theorem p1_c84 : cE p1_h 84 (.inl (.long, fL (List.replicate 3 0))) := by
  rw [p1_tL]
  rfl
theorem p1_c85 : cE p1_h 85 (.inl (.long, fL (List.replicate 3 0))) := by
  rw [p1_tL]
  rfl
theorem p1_c86 : cE p1_h 86 (.inl (.int, fA (List.replicate 3 0))) := by
  rw [p1_t]
  rfl
theorem p1_c87 : cE p1_h 87 (.inl (.int, fA (List.replicate 3 0))) := by
  rw [p1_t]
  rfl
theorem p1_c88 : cE p1_h 88 (.inl (.int, fA (List.replicate 12 0))) := by
  rw [p1_t]
  rfl
theorem p1_c89 : cE p1_h 89 (.inl (.int, fA (List.replicate 12 0))) := by
  rw [p1_t]
  rfl
theorem p1_c91 : cE p1_h 91 (.inl (.int, fA (List.replicate 80 0))) := by
  rw [p1_t]
  rfl
theorem p1_c92 : cE p1_h 92 (.inl (.int, fA (List.replicate 160 0))) := by
  rw [p1_t]
  rfl
set_option maxRecDepth 100000 in
theorem p1_E : st_S 0 p1_h := fun C_ k_ => k_ 0 (-1) 0 0 0 0 0 0 0 0 0 0 0 0 0 0 0 0 0 0 0 0 0 0 0 0 0 0 0 0 0 0 0 0 0 0 0 0 0 0 0 (List.replicate 500 0) (List.replicate 12 0) (List.replicate 48 0) (List.replicate 48 0) (List.replicate 60 0) (List.replicate 60 0) (List.replicate 12 0) (List.replicate 12 0) (List.replicate 12 0) (List.replicate 80 0) (List.replicate 48 0) (List.replicate 48 0) (List.replicate 12 0) (List.replicate 48 0) (List.replicate 48 0) (List.replicate 500 0) (List.replicate 160 0) (by decide) (by decide) (fun w => by exfalso; omega) (fun w => by exfalso; omega) (fun w => by exfalso; omega) (fun x h0 h1 => by exfalso; omega) (fun x h0 h1 => by exfalso; omega) (fun x h0 h1 => by exfalso; omega) (by decide) (fun w => by exfalso; omega) (fun w => by exfalso; omega) (by decide) (by decide) (by decide) (fun i hi => by exfalso; omega) (by decide) (fun j hj => by exfalso; omega) (fun j hj => by exfalso; omega) (by decide) (fun i i0 i1 => by exfalso; omega) (Or.inl rfl) (Or.inl rfl) (⟨rfl, rfl, rfl⟩) (⟨0, 0, 0, List.replicate 12 0, List.replicate 48 0, List.replicate 48 0, List.replicate 48 0, rfl, p1_c2, List.length_replicate, p1_c3, List.length_replicate, p1_c4, List.length_replicate, p1_c5, List.length_replicate, p1_c6, List.length_replicate⟩) (⟨rfl, p1_c8, List.length_replicate, p1_c9, List.length_replicate, p1_c10, List.length_replicate, p1_c11, List.length_replicate, p1_c12, List.length_replicate, p1_c13, List.length_replicate⟩) (⟨rfl, rfl, rfl⟩) (⟨0, 0, 0, 0, 0, 0, 0, rfl, rfl, rfl⟩) (⟨p1_c21, p1_c33⟩) (⟨p1_c25, p1_c29, p1_c37, p1_c41⟩) (⟨List.replicate 9 0, List.replicate 12 0, List.replicate 6 0, List.replicate 2 0, List.replicate 2 0, (fun i _ _ => by rw [p1_g]; decide), rfl, p1_c46, List.length_replicate, p1_c47, List.length_replicate, p1_c48, List.length_replicate, p1_c49, List.length_replicate, p1_c50, List.length_replicate⟩) (⟨rfl, p1_c52, List.length_replicate, p1_c53, List.length_replicate⟩) (⟨rfl, p1_c55, List.length_replicate, rfl⟩) (⟨rfl, rfl, rfl, p1_c61, List.length_replicate⟩) (⟨rfl, rfl, rfl, p1_c65, List.length_replicate⟩) (⟨0, 0, 0, 0, 0, 0, 0, 0, 0, rfl⟩) (⟨p1_c67, List.length_replicate, p1_c68, List.length_replicate, p1_c69, List.length_replicate⟩) (⟨rfl, rfl⟩) (⟨List.replicate 12 0, List.replicate 48 0, List.replicate 48 0, List.replicate 48 0, p1_c72, List.length_replicate, p1_c73, List.length_replicate, p1_c74, List.length_replicate, p1_c75, List.length_replicate, p1_c76, List.length_replicate⟩) (⟨List.replicate 5 0, List.replicate 5 0, List.replicate 12 0, List.replicate 12 0, List.replicate 201 0, List.replicate 201 0, p1_c77, List.length_replicate, p1_c78, List.length_replicate, p1_c79, List.length_replicate, p1_c80, List.length_replicate, p1_c81, List.length_replicate, p1_c82, List.length_replicate⟩) (⟨List.replicate 9 0, List.replicate 3 0, List.replicate 3 0, List.replicate 3 0, List.replicate 3 0, (fun i _ _ => by rw [p1_g]; decide), (fun i _ _ => by rw [p1_g]; decide), p1_c83, List.length_replicate, p1_c84, List.length_replicate, p1_c85, List.length_replicate, p1_c86, List.length_replicate, p1_c87, List.length_replicate⟩) (⟨p1_c88, List.length_replicate, p1_c89, List.length_replicate⟩) (⟨rfl, p1_c91, List.length_replicate⟩) (⟨p1_c92, List.length_replicate, rfl⟩) p1_hl
theorem p1_wfx : ik_wf [some (.retAddr 0), some (.ref 0), none, none] [] p1_x = true := by decide +kernel
theorem p1_xlen : p1_x.length = 66 := by decide +kernel
set_option maxHeartbeats 16000000 in
set_option maxRecDepth 100000 in
theorem lw_start (L : Nat) (hL : L ≤ 2560) (xs : Nat → Int32) : ik_W (some (L, xs)) 0 0 [some (.retAddr 0), none, none, none] [] [] 0 0 lw_post := by
  refine ik_Wk 2 (pc_q := 4) (loc_q := [some (.retAddr 0), none, none, none]) (st_q := [.ref 0, .ref 0]) (h_q := [.inr (9, ik_fs 9)]) (cl_q := 1) (sl_q := 8) rfl ?_
  refine ik_Wce 89 1 1 [.ref 0] [.ref 0] _ [] p1_newX rfl rfl rfl (by decide) rfl rfl rfl rfl rfl ?_
  refine ik_Wk 1 (pc_q := 8) (loc_q := [some (.retAddr 0), some (.ref 0), none, none]) (st_q := []) (h_q := p1_x) (cl_q := 66) (sl_q := 2616) rfl ?_
  have hnew : ik_run 1 (some (L, xs)) 0 (8, [some (.retAddr 0), some (.ref 0), none, none], [], p1_x, 66, 2616) = some (11, [some (.retAddr 0), some (.ref 0), none, none], [.ref 66], p1_x ++ [.inr (10, ik_fs 10)], 67, 2659) := by
    have h1 : ik_at 0 8 = some (.new 10) := rfl
    have h2 : ik_isR (.new 10) = false := rfl
    have h3 : ik_call 0 (.new 10) = none := rfl
    obtain ⟨q, h4⟩ : ∃ q, ik_nc 0 10 = some (10, q) := ⟨_, rfl⟩
    simp only [ik_run, h1, h2, h3, cond_false, ik_step, h4, ik_bo, p1_wfx, p1_xlen, if_true]
    rfl
  refine ik_Wk 1 hnew ?_
  refine ik_Wk 1 (pc_q := 12) (loc_q := [some (.retAddr 0), some (.ref 0), none, none]) (st_q := [.ref 66, .ref 66]) (h_q := p1_x ++ [.inr (10, ik_fs 10)]) (cl_q := 67) (sl_q := 2659) rfl ?_
  refine ik_Wce 126 1 1 [.ref 66] [.ref 66] _ [] p1_newM rfl rfl rfl (by decide) rfl rfl rfl rfl rfl ?_
  refine ik_Wk 3 (pc_q := 18) (loc_q := lw_LOC 0) (st_q := []) (h_q := p1_h) (cl_q := 94) (sl_q := 4156) rfl ?_
  exact lw_loop hL 2561 0 (by decide) (by decide) (by rw [show (0 : Int32).toInt = 0 from rfl]; omega) p1_E (by decide)
end
