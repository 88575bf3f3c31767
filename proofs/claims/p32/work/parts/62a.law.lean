noncomputable section
/-! THE LAW: call by call (written by wip/fx/law.py) -/
def lw_LOC (i : Int32) : ik_L := [some (.retAddr 0), some (.ref 0), some (.ref 66), some (.int i)]
def lw_post (z : ik_St) : Prop := ik_at 0 z.1 = some .ireturn ∧ z.2.2.1 = [.int 1] ∧ z.2.2.2.2.1 ≤ 600000 ∧ z.2.2.2.2.2 ≤ 7302250
def lw_fk (q ci : Nat) : Bool := decide (ik_fr q + 1 ≤ ik_fr 0) && decide (8 + (ik_ml q + 11) + ik_lo q ≤ ik_lo 0) && decide (q < ik_M.length) && decide (ci = ik_ow q) && decide (ci < 11)
theorem lw_fit {q ci a : Nat} (hk : lw_fk q ci = true) {h : List ik_E} (hl : h.length = 94) {fs : List Value} (ha : h[a]? = some (.inr (ci, fs))) {as rest : List Value} (hm : (ik_args (.ref a :: as)).length ≤ ik_ml q) (hr : ik_sum rest ≤ 8) (hr2 : rest.all (ik_wv 94) = true) {i : Int32} : ik_fitC 0 q 0 (.ref a :: as) h rest (lw_LOC i) = true := by
  unfold lw_fk at hk
  simp only [Bool.and_eq_true] at hk
  unfold ik_fitC
  simp only [ha, hl, Bool.and_eq_true]
  exact ⟨⟨⟨⟨⟨⟨⟨hk.1.1.1.1, hk.1.1.1.2⟩, decide_eq_true hr⟩, decide_eq_true hm⟩, hk.1.1.2⟩, hr2⟩, rfl⟩, hk.1.2, hk.2⟩
theorem lw_bm {y : Int} (h1 : -2147483648 ≤ y) (h2 : y ≤ 2147483647) : y.bmod (2 ^ 32) = y := by
  rw [Int.bmod_def]
  split <;> omega
/-- an int of the script -/
theorem lw_ld {L : Nat} {f : Nat → Int32} {pc : Nat} {j i : Int32} {h : List ik_E} {st : List Value} {cl sl : Nat} {post : ik_St → Prop} (hi : ik_at 0 pc = some .iaload) (h0 : 0 ≤ j.toInt) (h1 : j.toInt < L) (kk : ik_W (some (L, f)) 0 (pc + 1) (lw_LOC i) (.int (f j.toInt.toNat) :: st) h cl sl post) : ik_W (some (L, f)) 0 pc (lw_LOC i) (.int j :: .retAddr 0 :: st) h cl sl post := by
  have e1 : j.toNatClampNeg = j.toInt.toNat := rfl
  refine fw_1 hi rfl rfl ?_ kk
  simp only [ik_step, ik_bo]
  rw [e1, if_pos]
  rintro (q | q)
  · rw [cv_lt] at q
    have e0 : (0 : Int32).toInt = 0 := rfl
    omega
  · omega
theorem lw_arg {L : Nat} {f : Nat → Int32} {pc : Nat} {i : Int32} {h : List ik_E} {st : List Value} {cl sl : Nat} {post : ik_St → Prop} (c : Nat) (hr : ik_at 0 pc = some (.aload_n 0) ∧ ik_at 0 (pc + 1) = some (.iload_n 3) ∧ ik_at 0 (pc + 2) = some (.iconst c) ∧ ik_at 0 (pc + 3) = some .iadd ∧ ik_at 0 (pc + 4) = some .iaload) (hc : c ≤ 4) (h0 : 0 ≤ i.toInt) (h1 : i.toInt + 4 < L) (hL : L ≤ 2560) (kk : ik_W (some (L, f)) 0 (pc + 5) (lw_LOC i) (.int (f (i.toInt.toNat + c)) :: st) h cl sl post) : ik_W (some (L, f)) 0 pc (lw_LOC i) st h cl sl post := by
  obtain ⟨r1, r2, r3, r4, r5⟩ := hr
  refine fw_1 r1 rfl rfl (loc' := lw_LOC i) (st' := .retAddr 0 :: st) (h' := h) (cl' := cl) (sl' := sl) rfl ?_
  refine fw_1 r2 rfl rfl (loc' := lw_LOC i) (st' := .int i :: .retAddr 0 :: st) (h' := h) (cl' := cl) (sl' := sl) rfl ?_
  refine fw_1 r3 rfl rfl (loc' := lw_LOC i) (st' := .int (Int32.ofInt c) :: .int i :: .retAddr 0 :: st) (h' := h) (cl' := cl) (sl' := sl) rfl ?_
  refine fw_1 r4 rfl rfl (loc' := lw_LOC i) (st' := .int (i + Int32.ofInt c) :: .retAddr 0 :: st) (h' := h) (cl' := cl) (sl' := sl) rfl ?_
  have ec : (Int32.ofInt (c : Int)).toInt = c := by
    rw [Int32.toInt_ofInt]
    exact lw_bm (by omega) (by omega)
  have ej : (i + Int32.ofInt (c : Int)).toInt = i.toInt + c := by
    rw [Int32.toInt_add, ec]
    exact lw_bm (by omega) (by omega)
  refine lw_ld r5 (by omega) (by omega) ?_
  rw [ej, show (i.toInt + (c : Int)).toNat = i.toInt.toNat + c by omega]
  exact kk
theorem lw_z (x : Int32) : ∃ z : Int, x = Int32.ofInt z ∧ (-2147483648 ≤ z ∧ z < 2147483648) := ⟨x.toInt, (Int32.ofInt_toInt x).symm, by have := x.le_toInt; have := x.toInt_lt; omega⟩
theorem lw_argz {L : Nat} {f : Nat → Int32} {pc : Nat} {i : Int32} {h : List ik_E} {st : List Value} {cl sl : Nat} {post : ik_St → Prop} (c : Nat) (hr : ik_at 0 pc = some (.aload_n 0) ∧ ik_at 0 (pc + 1) = some (.iload_n 3) ∧ ik_at 0 (pc + 2) = some (.iconst c) ∧ ik_at 0 (pc + 3) = some .iadd ∧ ik_at 0 (pc + 4) = some .iaload) (hc : c ≤ 4) (h0 : 0 ≤ i.toInt) (h1 : i.toInt + 4 < L) (hL : L ≤ 2560) {z : Int} (hz : f (i.toInt.toNat + c) = Int32.ofInt z) (kk : ik_W (some (L, f)) 0 (pc + 5) (lw_LOC i) (fI z :: st) h cl sl post) : ik_W (some (L, f)) 0 pc (lw_LOC i) st h cl sl post := lw_arg c hr hc h0 h1 hL (by rw [hz]; exact kk)
def lw_b1 (u : Int32) : Int64 := u.toInt64 <<< ((Int8.ofInt 32).toInt32.toInt64 &&& 63)
def lw_b2 (a : Int64) (u : Int32) : Int64 := a ||| (u.toInt64 &&& 4294967295)
set_option maxHeartbeats 4000000 in
set_option maxRecDepth 100000 in
theorem lw_k0 {L : Nat} {f : Nat → Int32} {i : Int32} {h : List ik_E} {K : Nat} (E : st_S K h) (hK : K ≤ 600) (h0 : 0 ≤ i.toInt) (h1 : i.toInt + 4 < L) (h2 : L ≤ 2560) (kk : ∀ h', st_S (K + 1) h' → ik_W (some (L, f)) 0 1131 (lw_LOC i) [] h' 94 4156 lw_post) : ik_W (some (L, f)) 0 172 (lw_LOC i) [] h 94 4156 lw_post := by
  obtain ⟨hl0, fs0, hc0⟩ := st_0 E
  obtain ⟨z1, e1, r1⟩ := lw_z (f (i.toInt.toNat + 1))
  obtain ⟨b, eb⟩ : ∃ b : Int, lw_b2 (lw_b1 (f (i.toInt.toNat + 2))) (f (i.toInt.toNat + 3)) = Int64.ofInt b := ⟨_, (Int64.ofInt_toInt _).symm⟩
  refine ik_Wk 1 (pc' := 173) (loc' := lw_LOC i) (st' := [.ref 0]) (h' := h) (cl' := 94) (sl' := 4156) rfl ?_
  refine lw_argz 1 ⟨rfl, rfl, rfl, rfl, rfl⟩ (by decide) h0 h1 h2 e1 ?_
  refine lw_arg 2 ⟨rfl, rfl, rfl, rfl, rfl⟩ (by decide) h0 h1 h2 ?_
  obtain ⟨y1, ey1, hyy1⟩ : ∃ y1 : Int64, ik_run 3 (some (L, f)) 0 (183, lw_LOC i, [.int (f (i.toInt.toNat + 2)), fI z1, .ref 0], h, 94, 4156) = some (187, lw_LOC i, [.long y1, fI z1, .ref 0], h, 94, 4156) ∧ y1 = lw_b1 ((f (i.toInt.toNat + 2))) := ⟨_, rfl, rfl⟩
  refine ik_Wk 3 ey1 ?_
  refine lw_arg 3 ⟨rfl, rfl, rfl, rfl, rfl⟩ (by decide) h0 h1 h2 ?_
  obtain ⟨y2, ey2, hyy2⟩ : ∃ y2 : Int64, ik_run 4 (some (L, f)) 0 (192, lw_LOC i, [.int (f (i.toInt.toNat + 3)), .long y1, fI z1, .ref 0], h, 94, 4156) = some (198, lw_LOC i, [.long y2, fI z1, .ref 0], h, 94, 4156) ∧ y2 = lw_b2 y1 ((f (i.toInt.toNat + 3))) := ⟨_, rfl, rfl⟩
  refine ik_Wk 4 ey2 ?_
  rw [hyy1, eb] at hyy2
  subst hyy2
  refine fw_call 90 3 0 [.ref 0, fI z1, fJ b] [] rfl rfl rfl (by decide) rfl rfl (lw_fit (by decide +kernel) hl0 hc0 (Nat.le_of_ble_eq_true rfl) (Nat.le_of_ble_eq_true rfl) rfl) (lk_feed E hK r1) ?_
  rintro _ g1 ⟨v, rfl, ⟨hl1, fs1, hc1⟩, H2⟩
  refine ik_Wk 0 (pc' := 201) (loc' := lw_LOC i) (st' := [fI v]) (h' := g1) (cl' := 94) (sl' := 4156) rfl ?_
  refine ik_Wk 1 (pc' := 202) (loc' := lw_LOC i) (st' := []) (h' := g1) (cl' := 94) (sl' := 4156) rfl ?_
  refine ik_Wk 1 (pc' := 203) (loc' := lw_LOC i) (st' := [.ref 66]) (h' := g1) (cl' := 94) (sl' := 4156) rfl ?_
  refine lw_argz 1 ⟨rfl, rfl, rfl, rfl, rfl⟩ (by decide) h0 h1 h2 e1 ?_
  refine lw_arg 2 ⟨rfl, rfl, rfl, rfl, rfl⟩ (by decide) h0 h1 h2 ?_
  obtain ⟨y3, ey3, hyy3⟩ : ∃ y3 : Int64, ik_run 3 (some (L, f)) 0 (213, lw_LOC i, [.int (f (i.toInt.toNat + 2)), fI z1, .ref 66], g1, 94, 4156) = some (217, lw_LOC i, [.long y3, fI z1, .ref 66], g1, 94, 4156) ∧ y3 = lw_b1 ((f (i.toInt.toNat + 2))) := ⟨_, rfl, rfl⟩
  refine ik_Wk 3 ey3 ?_
  refine lw_arg 3 ⟨rfl, rfl, rfl, rfl, rfl⟩ (by decide) h0 h1 h2 ?_
  obtain ⟨y4, ey4, hyy4⟩ : ∃ y4 : Int64, ik_run 4 (some (L, f)) 0 (222, lw_LOC i, [.int (f (i.toInt.toNat + 3)), .long y3, fI z1, .ref 66], g1, 94, 4156) = some (228, lw_LOC i, [.long y4, fI z1, .ref 66], g1, 94, 4156) ∧ y4 = lw_b2 y3 ((f (i.toInt.toNat + 3))) := ⟨_, rfl, rfl⟩
  refine ik_Wk 4 ey4 ?_
  rw [hyy3, eb] at hyy4
  subst hyy4
  refine fw_call 135 3 0 [.ref 66, fI z1, fJ b] [] rfl rfl rfl (by decide) rfl rfl (lw_fit (by decide +kernel) hl1 hc1 (Nat.le_of_ble_eq_true rfl) (Nat.le_of_ble_eq_true rfl) rfl) H2 ?_
  rintro _ g2 ⟨rfl, E2⟩
  refine ik_Wk 0 (pc' := 231) (loc' := lw_LOC i) (st' := [fI v]) (h' := g2) (cl' := 94) (sl' := 4156) rfl ?_
  refine ik_Wk 1 (pc' := 232) (loc' := lw_LOC i) (st' := []) (h' := g2) (cl' := 94) (sl' := 4156) rfl ?_
  refine ik_Wk 1 (pc' := 1131) (loc' := lw_LOC i) (st' := []) (h' := g2) (cl' := 94) (sl' := 4156) rfl ?_
  exact kk _ E2
set_option maxHeartbeats 4000000 in
set_option maxRecDepth 100000 in
theorem lw_k1 {L : Nat} {f : Nat → Int32} {i : Int32} {h : List ik_E} {K : Nat} (E : st_S K h) (hK : K ≤ 600) (h0 : 0 ≤ i.toInt) (h1 : i.toInt + 4 < L) (h2 : L ≤ 2560) (kk : ∀ h', st_S (K + 1) h' → ik_W (some (L, f)) 0 1131 (lw_LOC i) [] h' 94 4156 lw_post) : ik_W (some (L, f)) 0 235 (lw_LOC i) [] h 94 4156 lw_post := by
  obtain ⟨hl0, fs0, hc0⟩ := st_0 E
  refine ik_Wk 1 (pc' := 236) (loc' := lw_LOC i) (st' := [.ref 0]) (h' := h) (cl' := 94) (sl' := 4156) rfl ?_
  refine fw_call 91 1 0 [.ref 0] [] rfl rfl rfl (by decide) rfl rfl (lw_fit (by decide +kernel) hl0 hc0 (Nat.le_of_ble_eq_true rfl) (Nat.le_of_ble_eq_true rfl) rfl) (lk_stream E hK ) ?_
  rintro _ g1 ⟨v, rfl, ⟨hl1, fs1, hc1⟩, H2⟩
  refine ik_Wk 0 (pc' := 239) (loc' := lw_LOC i) (st' := [fI v]) (h' := g1) (cl' := 94) (sl' := 4156) rfl ?_
  refine ik_Wk 1 (pc' := 240) (loc' := lw_LOC i) (st' := []) (h' := g1) (cl' := 94) (sl' := 4156) rfl ?_
  refine ik_Wk 1 (pc' := 241) (loc' := lw_LOC i) (st' := [.ref 66]) (h' := g1) (cl' := 94) (sl' := 4156) rfl ?_
  refine fw_call 147 1 0 [.ref 66] [] rfl rfl rfl (by decide) rfl rfl (lw_fit (by decide +kernel) hl1 hc1 (Nat.le_of_ble_eq_true rfl) (Nat.le_of_ble_eq_true rfl) rfl) H2 ?_
  rintro _ g2 ⟨rfl, E2⟩
  refine ik_Wk 0 (pc' := 244) (loc' := lw_LOC i) (st' := [fI v]) (h' := g2) (cl' := 94) (sl' := 4156) rfl ?_
  refine ik_Wk 1 (pc' := 245) (loc' := lw_LOC i) (st' := []) (h' := g2) (cl' := 94) (sl' := 4156) rfl ?_
  refine ik_Wk 1 (pc' := 1131) (loc' := lw_LOC i) (st' := []) (h' := g2) (cl' := 94) (sl' := 4156) rfl ?_
  exact kk _ E2
set_option maxHeartbeats 4000000 in
set_option maxRecDepth 100000 in
theorem lw_k2 {L : Nat} {f : Nat → Int32} {i : Int32} {h : List ik_E} {K : Nat} (E : st_S K h) (hK : K ≤ 600) (h0 : 0 ≤ i.toInt) (h1 : i.toInt + 4 < L) (h2 : L ≤ 2560) (kk : ∀ h', st_S (K + 1) h' → ik_W (some (L, f)) 0 1131 (lw_LOC i) [] h' 94 4156 lw_post) : ik_W (some (L, f)) 0 248 (lw_LOC i) [] h 94 4156 lw_post := by
  obtain ⟨hl0, fs0, hc0⟩ := st_0 E
  refine ik_Wk 1 (pc' := 249) (loc' := lw_LOC i) (st' := [.ref 0]) (h' := h) (cl' := 94) (sl' := 4156) rfl ?_
  refine fw_call 92 1 0 [.ref 0] [] rfl rfl rfl (by decide) rfl rfl (lw_fit (by decide +kernel) hl0 hc0 (Nat.le_of_ble_eq_true rfl) (Nat.le_of_ble_eq_true rfl) rfl) (lk_fault E hK ) ?_
  rintro _ g1 ⟨v, rfl, ⟨hl1, fs1, hc1⟩, H2⟩
  refine ik_Wk 0 (pc' := 252) (loc' := lw_LOC i) (st' := [fI v]) (h' := g1) (cl' := 94) (sl' := 4156) rfl ?_
  refine ik_Wk 1 (pc' := 253) (loc' := lw_LOC i) (st' := []) (h' := g1) (cl' := 94) (sl' := 4156) rfl ?_
  refine ik_Wk 1 (pc' := 254) (loc' := lw_LOC i) (st' := [.ref 66]) (h' := g1) (cl' := 94) (sl' := 4156) rfl ?_
  refine fw_call 148 1 0 [.ref 66] [] rfl rfl rfl (by decide) rfl rfl (lw_fit (by decide +kernel) hl1 hc1 (Nat.le_of_ble_eq_true rfl) (Nat.le_of_ble_eq_true rfl) rfl) H2 ?_
  rintro _ g2 ⟨rfl, E2⟩
  refine ik_Wk 0 (pc' := 257) (loc' := lw_LOC i) (st' := [fI v]) (h' := g2) (cl' := 94) (sl' := 4156) rfl ?_
  refine ik_Wk 1 (pc' := 258) (loc' := lw_LOC i) (st' := []) (h' := g2) (cl' := 94) (sl' := 4156) rfl ?_
  refine ik_Wk 1 (pc' := 1131) (loc' := lw_LOC i) (st' := []) (h' := g2) (cl' := 94) (sl' := 4156) rfl ?_
  exact kk _ E2
set_option maxHeartbeats 4000000 in
set_option maxRecDepth 100000 in
theorem lw_k3 {L : Nat} {f : Nat → Int32} {i : Int32} {h : List ik_E} {K : Nat} (E : st_S K h) (hK : K ≤ 600) (h0 : 0 ≤ i.toInt) (h1 : i.toInt + 4 < L) (h2 : L ≤ 2560) (kk : ∀ h', st_S (K + 1) h' → ik_W (some (L, f)) 0 1131 (lw_LOC i) [] h' 94 4156 lw_post) : ik_W (some (L, f)) 0 261 (lw_LOC i) [] h 94 4156 lw_post := by
  obtain ⟨hl0, fs0, hc0⟩ := st_0 E
  obtain ⟨z1, e1, r1⟩ := lw_z (f (i.toInt.toNat + 1))
  refine ik_Wk 1 (pc' := 262) (loc' := lw_LOC i) (st' := [.ref 0]) (h' := h) (cl' := 94) (sl' := 4156) rfl ?_
  refine lw_argz 1 ⟨rfl, rfl, rfl, rfl, rfl⟩ (by decide) h0 h1 h2 e1 ?_
  refine fw_call 93 2 0 [.ref 0, fI z1] [] rfl rfl rfl (by decide) rfl rfl (lw_fit (by decide +kernel) hl0 hc0 (Nat.le_of_ble_eq_true rfl) (Nat.le_of_ble_eq_true rfl) rfl) (la_told E hK r1) ?_
  rintro _ g1 ⟨v, rfl, ⟨hl1, fs1, hc1⟩, H2⟩
  refine ik_Wk 0 (pc' := 270) (loc' := lw_LOC i) (st' := [fI v]) (h' := g1) (cl' := 94) (sl' := 4156) rfl ?_
  refine ik_Wk 1 (pc' := 271) (loc' := lw_LOC i) (st' := []) (h' := g1) (cl' := 94) (sl' := 4156) rfl ?_
  refine ik_Wk 1 (pc' := 272) (loc' := lw_LOC i) (st' := [.ref 66]) (h' := g1) (cl' := 94) (sl' := 4156) rfl ?_
  refine lw_argz 1 ⟨rfl, rfl, rfl, rfl, rfl⟩ (by decide) h0 h1 h2 e1 ?_
  refine fw_call 150 2 0 [.ref 66, fI z1] [] rfl rfl rfl (by decide) rfl rfl (lw_fit (by decide +kernel) hl1 hc1 (Nat.le_of_ble_eq_true rfl) (Nat.le_of_ble_eq_true rfl) rfl) H2 ?_
  rintro _ g2 ⟨rfl, E2⟩
  refine ik_Wk 0 (pc' := 280) (loc' := lw_LOC i) (st' := [fI v]) (h' := g2) (cl' := 94) (sl' := 4156) rfl ?_
  refine ik_Wk 1 (pc' := 281) (loc' := lw_LOC i) (st' := []) (h' := g2) (cl' := 94) (sl' := 4156) rfl ?_
  refine ik_Wk 1 (pc' := 1131) (loc' := lw_LOC i) (st' := []) (h' := g2) (cl' := 94) (sl' := 4156) rfl ?_
  exact kk _ E2
set_option maxHeartbeats 4000000 in
set_option maxRecDepth 100000 in
theorem lw_k4 {L : Nat} {f : Nat → Int32} {i : Int32} {h : List ik_E} {K : Nat} (E : st_S K h) (hK : K ≤ 600) (h0 : 0 ≤ i.toInt) (h1 : i.toInt + 4 < L) (h2 : L ≤ 2560) (kk : ∀ h', st_S (K + 1) h' → ik_W (some (L, f)) 0 1131 (lw_LOC i) [] h' 94 4156 lw_post) : ik_W (some (L, f)) 0 284 (lw_LOC i) [] h 94 4156 lw_post := by
  obtain ⟨hl0, fs0, hc0⟩ := st_0 E
  obtain ⟨z1, e1, r1⟩ := lw_z (f (i.toInt.toNat + 1))
  obtain ⟨z2, e2, r2⟩ := lw_z (f (i.toInt.toNat + 2))
  obtain ⟨z3, e3, r3⟩ := lw_z (f (i.toInt.toNat + 3))
  refine ik_Wk 1 (pc' := 285) (loc' := lw_LOC i) (st' := [.ref 0]) (h' := h) (cl' := 94) (sl' := 4156) rfl ?_
  refine lw_argz 1 ⟨rfl, rfl, rfl, rfl, rfl⟩ (by decide) h0 h1 h2 e1 ?_
  refine lw_argz 2 ⟨rfl, rfl, rfl, rfl, rfl⟩ (by decide) h0 h1 h2 e2 ?_
  refine lw_argz 3 ⟨rfl, rfl, rfl, rfl, rfl⟩ (by decide) h0 h1 h2 e3 ?_
  refine fw_call 94 4 0 [.ref 0, fI z1, fI z2, fI z3] [] rfl rfl rfl (by decide) rfl rfl (lw_fit (by decide +kernel) hl0 hc0 (Nat.le_of_ble_eq_true rfl) (Nat.le_of_ble_eq_true rfl) rfl) (lk_move E hK r1 r2 r3) ?_
  rintro _ g1 ⟨v, rfl, ⟨hl1, fs1, hc1⟩, H2⟩
  refine ik_Wk 0 (pc' := 303) (loc' := lw_LOC i) (st' := [fI v]) (h' := g1) (cl' := 94) (sl' := 4156) rfl ?_
  refine ik_Wk 1 (pc' := 304) (loc' := lw_LOC i) (st' := []) (h' := g1) (cl' := 94) (sl' := 4156) rfl ?_
  refine ik_Wk 1 (pc' := 305) (loc' := lw_LOC i) (st' := [.ref 66]) (h' := g1) (cl' := 94) (sl' := 4156) rfl ?_
  refine lw_argz 1 ⟨rfl, rfl, rfl, rfl, rfl⟩ (by decide) h0 h1 h2 e1 ?_
  refine lw_argz 2 ⟨rfl, rfl, rfl, rfl, rfl⟩ (by decide) h0 h1 h2 e2 ?_
  refine lw_argz 3 ⟨rfl, rfl, rfl, rfl, rfl⟩ (by decide) h0 h1 h2 e3 ?_
  refine fw_call 151 4 0 [.ref 66, fI z1, fI z2, fI z3] [] rfl rfl rfl (by decide) rfl rfl (lw_fit (by decide +kernel) hl1 hc1 (Nat.le_of_ble_eq_true rfl) (Nat.le_of_ble_eq_true rfl) rfl) H2 ?_
  rintro _ g2 ⟨rfl, E2⟩
  refine ik_Wk 0 (pc' := 323) (loc' := lw_LOC i) (st' := [fI v]) (h' := g2) (cl' := 94) (sl' := 4156) rfl ?_
  refine ik_Wk 1 (pc' := 324) (loc' := lw_LOC i) (st' := []) (h' := g2) (cl' := 94) (sl' := 4156) rfl ?_
  refine ik_Wk 1 (pc' := 1131) (loc' := lw_LOC i) (st' := []) (h' := g2) (cl' := 94) (sl' := 4156) rfl ?_
  exact kk _ E2
set_option maxHeartbeats 4000000 in
set_option maxRecDepth 100000 in
theorem lw_k5 {L : Nat} {f : Nat → Int32} {i : Int32} {h : List ik_E} {K : Nat} (E : st_S K h) (hK : K ≤ 600) (h0 : 0 ≤ i.toInt) (h1 : i.toInt + 4 < L) (h2 : L ≤ 2560) (kk : ∀ h', st_S (K + 1) h' → ik_W (some (L, f)) 0 1131 (lw_LOC i) [] h' 94 4156 lw_post) : ik_W (some (L, f)) 0 327 (lw_LOC i) [] h 94 4156 lw_post := by
  obtain ⟨hl0, fs0, hc0⟩ := st_0 E
  obtain ⟨z1, e1, r1⟩ := lw_z (f (i.toInt.toNat + 1))
  obtain ⟨z2, e2, r2⟩ := lw_z (f (i.toInt.toNat + 2))
  obtain ⟨z3, e3, r3⟩ := lw_z (f (i.toInt.toNat + 3))
  refine ik_Wk 1 (pc' := 328) (loc' := lw_LOC i) (st' := [.ref 0]) (h' := h) (cl' := 94) (sl' := 4156) rfl ?_
  refine lw_argz 1 ⟨rfl, rfl, rfl, rfl, rfl⟩ (by decide) h0 h1 h2 e1 ?_
  refine lw_argz 2 ⟨rfl, rfl, rfl, rfl, rfl⟩ (by decide) h0 h1 h2 e2 ?_
  refine lw_argz 3 ⟨rfl, rfl, rfl, rfl, rfl⟩ (by decide) h0 h1 h2 e3 ?_
  refine fw_call 95 4 0 [.ref 0, fI z1, fI z2, fI z3] [] rfl rfl rfl (by decide) rfl rfl (lw_fit (by decide +kernel) hl0 hc0 (Nat.le_of_ble_eq_true rfl) (Nat.le_of_ble_eq_true rfl) rfl) (la_cork E hK r1 r2 r3) ?_
  rintro _ g1 ⟨v, rfl, ⟨hl1, fs1, hc1⟩, H2⟩
  refine ik_Wk 0 (pc' := 346) (loc' := lw_LOC i) (st' := [fI v]) (h' := g1) (cl' := 94) (sl' := 4156) rfl ?_
  refine ik_Wk 1 (pc' := 347) (loc' := lw_LOC i) (st' := []) (h' := g1) (cl' := 94) (sl' := 4156) rfl ?_
  refine ik_Wk 1 (pc' := 348) (loc' := lw_LOC i) (st' := [.ref 66]) (h' := g1) (cl' := 94) (sl' := 4156) rfl ?_
  refine lw_argz 1 ⟨rfl, rfl, rfl, rfl, rfl⟩ (by decide) h0 h1 h2 e1 ?_
  refine lw_argz 2 ⟨rfl, rfl, rfl, rfl, rfl⟩ (by decide) h0 h1 h2 e2 ?_
  refine lw_argz 3 ⟨rfl, rfl, rfl, rfl, rfl⟩ (by decide) h0 h1 h2 e3 ?_
  refine fw_call 158 4 0 [.ref 66, fI z1, fI z2, fI z3] [] rfl rfl rfl (by decide) rfl rfl (lw_fit (by decide +kernel) hl1 hc1 (Nat.le_of_ble_eq_true rfl) (Nat.le_of_ble_eq_true rfl) rfl) H2 ?_
  rintro _ g2 ⟨rfl, E2⟩
  refine ik_Wk 0 (pc' := 366) (loc' := lw_LOC i) (st' := [fI v]) (h' := g2) (cl' := 94) (sl' := 4156) rfl ?_
  refine ik_Wk 1 (pc' := 367) (loc' := lw_LOC i) (st' := []) (h' := g2) (cl' := 94) (sl' := 4156) rfl ?_
  refine ik_Wk 1 (pc' := 1131) (loc' := lw_LOC i) (st' := []) (h' := g2) (cl' := 94) (sl' := 4156) rfl ?_
  exact kk _ E2
set_option maxHeartbeats 4000000 in
set_option maxRecDepth 100000 in
theorem lw_k6 {L : Nat} {f : Nat → Int32} {i : Int32} {h : List ik_E} {K : Nat} (E : st_S K h) (hK : K ≤ 600) (h0 : 0 ≤ i.toInt) (h1 : i.toInt + 4 < L) (h2 : L ≤ 2560) (kk : ∀ h', st_S (K + 1) h' → ik_W (some (L, f)) 0 1131 (lw_LOC i) [] h' 94 4156 lw_post) : ik_W (some (L, f)) 0 370 (lw_LOC i) [] h 94 4156 lw_post := by
  obtain ⟨hl0, fs0, hc0⟩ := st_0 E
  obtain ⟨z1, e1, r1⟩ := lw_z (f (i.toInt.toNat + 1))
  obtain ⟨z2, e2, r2⟩ := lw_z (f (i.toInt.toNat + 2))
  obtain ⟨z3, e3, r3⟩ := lw_z (f (i.toInt.toNat + 3))
  refine ik_Wk 1 (pc' := 371) (loc' := lw_LOC i) (st' := [.ref 0]) (h' := h) (cl' := 94) (sl' := 4156) rfl ?_
  refine lw_argz 1 ⟨rfl, rfl, rfl, rfl, rfl⟩ (by decide) h0 h1 h2 e1 ?_
  refine lw_argz 2 ⟨rfl, rfl, rfl, rfl, rfl⟩ (by decide) h0 h1 h2 e2 ?_
  refine lw_argz 3 ⟨rfl, rfl, rfl, rfl, rfl⟩ (by decide) h0 h1 h2 e3 ?_
  refine fw_call 96 4 0 [.ref 0, fI z1, fI z2, fI z3] [] rfl rfl rfl (by decide) rfl rfl (lw_fit (by decide +kernel) hl0 hc0 (Nat.le_of_ble_eq_true rfl) (Nat.le_of_ble_eq_true rfl) rfl) (lk_comes E hK r1 r2 r3) ?_
  rintro _ g1 ⟨v, rfl, ⟨hl1, fs1, hc1⟩, H2⟩
  refine ik_Wk 0 (pc' := 389) (loc' := lw_LOC i) (st' := [fI v]) (h' := g1) (cl' := 94) (sl' := 4156) rfl ?_
  refine ik_Wk 1 (pc' := 390) (loc' := lw_LOC i) (st' := []) (h' := g1) (cl' := 94) (sl' := 4156) rfl ?_
  refine ik_Wk 1 (pc' := 391) (loc' := lw_LOC i) (st' := [.ref 66]) (h' := g1) (cl' := 94) (sl' := 4156) rfl ?_
  refine lw_argz 1 ⟨rfl, rfl, rfl, rfl, rfl⟩ (by decide) h0 h1 h2 e1 ?_
  refine lw_argz 2 ⟨rfl, rfl, rfl, rfl, rfl⟩ (by decide) h0 h1 h2 e2 ?_
  refine lw_argz 3 ⟨rfl, rfl, rfl, rfl, rfl⟩ (by decide) h0 h1 h2 e3 ?_
  refine fw_call 160 4 0 [.ref 66, fI z1, fI z2, fI z3] [] rfl rfl rfl (by decide) rfl rfl (lw_fit (by decide +kernel) hl1 hc1 (Nat.le_of_ble_eq_true rfl) (Nat.le_of_ble_eq_true rfl) rfl) H2 ?_
  rintro _ g2 ⟨rfl, E2⟩
  refine ik_Wk 0 (pc' := 409) (loc' := lw_LOC i) (st' := [fI v]) (h' := g2) (cl' := 94) (sl' := 4156) rfl ?_
  refine ik_Wk 1 (pc' := 410) (loc' := lw_LOC i) (st' := []) (h' := g2) (cl' := 94) (sl' := 4156) rfl ?_
  refine ik_Wk 1 (pc' := 1131) (loc' := lw_LOC i) (st' := []) (h' := g2) (cl' := 94) (sl' := 4156) rfl ?_
  exact kk _ E2
set_option maxHeartbeats 4000000 in
set_option maxRecDepth 100000 in
theorem lw_k7 {L : Nat} {f : Nat → Int32} {i : Int32} {h : List ik_E} {K : Nat} (E : st_S K h) (hK : K ≤ 600) (h0 : 0 ≤ i.toInt) (h1 : i.toInt + 4 < L) (h2 : L ≤ 2560) (kk : ∀ h', st_S (K + 1) h' → ik_W (some (L, f)) 0 1131 (lw_LOC i) [] h' 94 4156 lw_post) : ik_W (some (L, f)) 0 413 (lw_LOC i) [] h 94 4156 lw_post := by
  obtain ⟨hl0, fs0, hc0⟩ := st_0 E
  obtain ⟨z1, e1, r1⟩ := lw_z (f (i.toInt.toNat + 1))
  obtain ⟨z2, e2, r2⟩ := lw_z (f (i.toInt.toNat + 2))
  obtain ⟨z3, e3, r3⟩ := lw_z (f (i.toInt.toNat + 3))
  obtain ⟨z4, e4, r4⟩ := lw_z (f (i.toInt.toNat + 4))
  refine ik_Wk 1 (pc' := 414) (loc' := lw_LOC i) (st' := [.ref 0]) (h' := h) (cl' := 94) (sl' := 4156) rfl ?_
  refine lw_argz 1 ⟨rfl, rfl, rfl, rfl, rfl⟩ (by decide) h0 h1 h2 e1 ?_
  refine lw_argz 2 ⟨rfl, rfl, rfl, rfl, rfl⟩ (by decide) h0 h1 h2 e2 ?_
  refine lw_argz 3 ⟨rfl, rfl, rfl, rfl, rfl⟩ (by decide) h0 h1 h2 e3 ?_
  refine lw_argz 4 ⟨rfl, rfl, rfl, rfl, rfl⟩ (by decide) h0 h1 h2 e4 ?_
  refine fw_call 97 5 0 [.ref 0, fI z1, fI z2, fI z3, fI z4] [] rfl rfl rfl (by decide) rfl rfl (lw_fit (by decide +kernel) hl0 hc0 (Nat.le_of_ble_eq_true rfl) (Nat.le_of_ble_eq_true rfl) rfl) (lk_at E hK r1 r2 r3 r4) ?_
  rintro _ g1 ⟨v, rfl, ⟨hl1, fs1, hc1⟩, H2⟩
  refine ik_Wk 0 (pc' := 437) (loc' := lw_LOC i) (st' := [fI v]) (h' := g1) (cl' := 94) (sl' := 4156) rfl ?_
  refine ik_Wk 1 (pc' := 438) (loc' := lw_LOC i) (st' := []) (h' := g1) (cl' := 94) (sl' := 4156) rfl ?_
  refine ik_Wk 1 (pc' := 439) (loc' := lw_LOC i) (st' := [.ref 66]) (h' := g1) (cl' := 94) (sl' := 4156) rfl ?_
  refine lw_argz 1 ⟨rfl, rfl, rfl, rfl, rfl⟩ (by decide) h0 h1 h2 e1 ?_
  refine lw_argz 2 ⟨rfl, rfl, rfl, rfl, rfl⟩ (by decide) h0 h1 h2 e2 ?_
  refine lw_argz 3 ⟨rfl, rfl, rfl, rfl, rfl⟩ (by decide) h0 h1 h2 e3 ?_
  refine lw_argz 4 ⟨rfl, rfl, rfl, rfl, rfl⟩ (by decide) h0 h1 h2 e4 ?_
  refine fw_call 161 5 0 [.ref 66, fI z1, fI z2, fI z3, fI z4] [] rfl rfl rfl (by decide) rfl rfl (lw_fit (by decide +kernel) hl1 hc1 (Nat.le_of_ble_eq_true rfl) (Nat.le_of_ble_eq_true rfl) rfl) H2 ?_
  rintro _ g2 ⟨rfl, E2⟩
  refine ik_Wk 0 (pc' := 462) (loc' := lw_LOC i) (st' := [fI v]) (h' := g2) (cl' := 94) (sl' := 4156) rfl ?_
  refine ik_Wk 1 (pc' := 463) (loc' := lw_LOC i) (st' := []) (h' := g2) (cl' := 94) (sl' := 4156) rfl ?_
  refine ik_Wk 1 (pc' := 1131) (loc' := lw_LOC i) (st' := []) (h' := g2) (cl' := 94) (sl' := 4156) rfl ?_
  exact kk _ E2
set_option maxHeartbeats 4000000 in
set_option maxRecDepth 100000 in
theorem lw_k8 {L : Nat} {f : Nat → Int32} {i : Int32} {h : List ik_E} {K : Nat} (E : st_S K h) (hK : K ≤ 600) (h0 : 0 ≤ i.toInt) (h1 : i.toInt + 4 < L) (h2 : L ≤ 2560) (kk : ∀ h', st_S (K + 1) h' → ik_W (some (L, f)) 0 1131 (lw_LOC i) [] h' 94 4156 lw_post) : ik_W (some (L, f)) 0 466 (lw_LOC i) [] h 94 4156 lw_post := by
  obtain ⟨hl0, fs0, hc0⟩ := st_0 E
  obtain ⟨z1, e1, r1⟩ := lw_z (f (i.toInt.toNat + 1))
  obtain ⟨z2, e2, r2⟩ := lw_z (f (i.toInt.toNat + 2))
  obtain ⟨z3, e3, r3⟩ := lw_z (f (i.toInt.toNat + 3))
  refine ik_Wk 1 (pc' := 467) (loc' := lw_LOC i) (st' := [.ref 0]) (h' := h) (cl' := 94) (sl' := 4156) rfl ?_
  refine lw_argz 1 ⟨rfl, rfl, rfl, rfl, rfl⟩ (by decide) h0 h1 h2 e1 ?_
  refine lw_argz 2 ⟨rfl, rfl, rfl, rfl, rfl⟩ (by decide) h0 h1 h2 e2 ?_
  refine lw_argz 3 ⟨rfl, rfl, rfl, rfl, rfl⟩ (by decide) h0 h1 h2 e3 ?_
  refine fw_call 98 4 0 [.ref 0, fI z1, fI z2, fI z3] [] rfl rfl rfl (by decide) rfl rfl (lw_fit (by decide +kernel) hl0 hc0 (Nat.le_of_ble_eq_true rfl) (Nat.le_of_ble_eq_true rfl) rfl) (lk_kept E hK r1 r2 r3) ?_
  rintro _ g1 ⟨v, rfl, ⟨hl1, fs1, hc1⟩, H2⟩
  refine ik_Wk 0 (pc' := 485) (loc' := lw_LOC i) (st' := [fI v]) (h' := g1) (cl' := 94) (sl' := 4156) rfl ?_
  refine ik_Wk 1 (pc' := 486) (loc' := lw_LOC i) (st' := []) (h' := g1) (cl' := 94) (sl' := 4156) rfl ?_
  refine ik_Wk 1 (pc' := 487) (loc' := lw_LOC i) (st' := [.ref 66]) (h' := g1) (cl' := 94) (sl' := 4156) rfl ?_
  refine lw_argz 1 ⟨rfl, rfl, rfl, rfl, rfl⟩ (by decide) h0 h1 h2 e1 ?_
  refine lw_argz 2 ⟨rfl, rfl, rfl, rfl, rfl⟩ (by decide) h0 h1 h2 e2 ?_
  refine lw_argz 3 ⟨rfl, rfl, rfl, rfl, rfl⟩ (by decide) h0 h1 h2 e3 ?_
  refine fw_call 162 4 0 [.ref 66, fI z1, fI z2, fI z3] [] rfl rfl rfl (by decide) rfl rfl (lw_fit (by decide +kernel) hl1 hc1 (Nat.le_of_ble_eq_true rfl) (Nat.le_of_ble_eq_true rfl) rfl) H2 ?_
  rintro _ g2 ⟨rfl, E2⟩
  refine ik_Wk 0 (pc' := 505) (loc' := lw_LOC i) (st' := [fI v]) (h' := g2) (cl' := 94) (sl' := 4156) rfl ?_
  refine ik_Wk 1 (pc' := 506) (loc' := lw_LOC i) (st' := []) (h' := g2) (cl' := 94) (sl' := 4156) rfl ?_
  refine ik_Wk 1 (pc' := 1131) (loc' := lw_LOC i) (st' := []) (h' := g2) (cl' := 94) (sl' := 4156) rfl ?_
  exact kk _ E2
set_option maxHeartbeats 4000000 in
set_option maxRecDepth 100000 in
theorem lw_k9 {L : Nat} {f : Nat → Int32} {i : Int32} {h : List ik_E} {K : Nat} (E : st_S K h) (hK : K ≤ 600) (h0 : 0 ≤ i.toInt) (h1 : i.toInt + 4 < L) (h2 : L ≤ 2560) (kk : ∀ h', st_S (K + 1) h' → ik_W (some (L, f)) 0 1131 (lw_LOC i) [] h' 94 4156 lw_post) : ik_W (some (L, f)) 0 509 (lw_LOC i) [] h 94 4156 lw_post := by
  obtain ⟨hl0, fs0, hc0⟩ := st_0 E
  obtain ⟨z1, e1, r1⟩ := lw_z (f (i.toInt.toNat + 1))
  obtain ⟨z2, e2, r2⟩ := lw_z (f (i.toInt.toNat + 2))
  obtain ⟨z3, e3, r3⟩ := lw_z (f (i.toInt.toNat + 3))
  refine ik_Wk 1 (pc' := 510) (loc' := lw_LOC i) (st' := [.ref 0]) (h' := h) (cl' := 94) (sl' := 4156) rfl ?_
  refine lw_argz 1 ⟨rfl, rfl, rfl, rfl, rfl⟩ (by decide) h0 h1 h2 e1 ?_
  refine lw_argz 2 ⟨rfl, rfl, rfl, rfl, rfl⟩ (by decide) h0 h1 h2 e2 ?_
  refine lw_argz 3 ⟨rfl, rfl, rfl, rfl, rfl⟩ (by decide) h0 h1 h2 e3 ?_
  refine fw_call 99 4 0 [.ref 0, fI z1, fI z2, fI z3] [] rfl rfl rfl (by decide) rfl rfl (lw_fit (by decide +kernel) hl0 hc0 (Nat.le_of_ble_eq_true rfl) (Nat.le_of_ble_eq_true rfl) rfl) (lk_known E hK r1 r2 r3) ?_
  rintro _ g1 ⟨v, rfl, ⟨hl1, fs1, hc1⟩, H2⟩
  refine ik_Wk 0 (pc' := 528) (loc' := lw_LOC i) (st' := [fI v]) (h' := g1) (cl' := 94) (sl' := 4156) rfl ?_
  refine ik_Wk 1 (pc' := 529) (loc' := lw_LOC i) (st' := []) (h' := g1) (cl' := 94) (sl' := 4156) rfl ?_
  refine ik_Wk 1 (pc' := 530) (loc' := lw_LOC i) (st' := [.ref 66]) (h' := g1) (cl' := 94) (sl' := 4156) rfl ?_
  refine lw_argz 1 ⟨rfl, rfl, rfl, rfl, rfl⟩ (by decide) h0 h1 h2 e1 ?_
  refine lw_argz 2 ⟨rfl, rfl, rfl, rfl, rfl⟩ (by decide) h0 h1 h2 e2 ?_
  refine lw_argz 3 ⟨rfl, rfl, rfl, rfl, rfl⟩ (by decide) h0 h1 h2 e3 ?_
  refine fw_call 164 4 0 [.ref 66, fI z1, fI z2, fI z3] [] rfl rfl rfl (by decide) rfl rfl (lw_fit (by decide +kernel) hl1 hc1 (Nat.le_of_ble_eq_true rfl) (Nat.le_of_ble_eq_true rfl) rfl) H2 ?_
  rintro _ g2 ⟨rfl, E2⟩
  refine ik_Wk 0 (pc' := 548) (loc' := lw_LOC i) (st' := [fI v]) (h' := g2) (cl' := 94) (sl' := 4156) rfl ?_
  refine ik_Wk 1 (pc' := 549) (loc' := lw_LOC i) (st' := []) (h' := g2) (cl' := 94) (sl' := 4156) rfl ?_
  refine ik_Wk 1 (pc' := 1131) (loc' := lw_LOC i) (st' := []) (h' := g2) (cl' := 94) (sl' := 4156) rfl ?_
  exact kk _ E2
set_option maxHeartbeats 4000000 in
set_option maxRecDepth 100000 in
theorem lw_k10 {L : Nat} {f : Nat → Int32} {i : Int32} {h : List ik_E} {K : Nat} (E : st_S K h) (hK : K ≤ 600) (h0 : 0 ≤ i.toInt) (h1 : i.toInt + 4 < L) (h2 : L ≤ 2560) (kk : ∀ h', st_S (K + 1) h' → ik_W (some (L, f)) 0 1131 (lw_LOC i) [] h' 94 4156 lw_post) : ik_W (some (L, f)) 0 552 (lw_LOC i) [] h 94 4156 lw_post := by
  obtain ⟨hl0, fs0, hc0⟩ := st_0 E
  obtain ⟨z1, e1, r1⟩ := lw_z (f (i.toInt.toNat + 1))
  refine ik_Wk 1 (pc' := 553) (loc' := lw_LOC i) (st' := [.ref 0]) (h' := h) (cl' := 94) (sl' := 4156) rfl ?_
  refine lw_argz 1 ⟨rfl, rfl, rfl, rfl, rfl⟩ (by decide) h0 h1 h2 e1 ?_
  refine fw_call 100 2 0 [.ref 0, fI z1] [] rfl rfl rfl (by decide) rfl rfl (lw_fit (by decide +kernel) hl0 hc0 (Nat.le_of_ble_eq_true rfl) (Nat.le_of_ble_eq_true rfl) rfl) (la_later E hK r1) ?_
  rintro _ g1 ⟨v, rfl, ⟨hl1, fs1, hc1⟩, H2⟩
  refine ik_Wk 0 (pc' := 561) (loc' := lw_LOC i) (st' := [fI v]) (h' := g1) (cl' := 94) (sl' := 4156) rfl ?_
  refine ik_Wk 1 (pc' := 562) (loc' := lw_LOC i) (st' := []) (h' := g1) (cl' := 94) (sl' := 4156) rfl ?_
  refine ik_Wk 1 (pc' := 563) (loc' := lw_LOC i) (st' := [.ref 66]) (h' := g1) (cl' := 94) (sl' := 4156) rfl ?_
  refine lw_argz 1 ⟨rfl, rfl, rfl, rfl, rfl⟩ (by decide) h0 h1 h2 e1 ?_
  refine fw_call 170 2 0 [.ref 66, fI z1] [] rfl rfl rfl (by decide) rfl rfl (lw_fit (by decide +kernel) hl1 hc1 (Nat.le_of_ble_eq_true rfl) (Nat.le_of_ble_eq_true rfl) rfl) H2 ?_
  rintro _ g2 ⟨rfl, E2⟩
  refine ik_Wk 0 (pc' := 571) (loc' := lw_LOC i) (st' := [fI v]) (h' := g2) (cl' := 94) (sl' := 4156) rfl ?_
  refine ik_Wk 1 (pc' := 572) (loc' := lw_LOC i) (st' := []) (h' := g2) (cl' := 94) (sl' := 4156) rfl ?_
  refine ik_Wk 1 (pc' := 1131) (loc' := lw_LOC i) (st' := []) (h' := g2) (cl' := 94) (sl' := 4156) rfl ?_
  exact kk _ E2
set_option maxHeartbeats 4000000 in
set_option maxRecDepth 100000 in
theorem lw_k11 {L : Nat} {f : Nat → Int32} {i : Int32} {h : List ik_E} {K : Nat} (E : st_S K h) (hK : K ≤ 600) (h0 : 0 ≤ i.toInt) (h1 : i.toInt + 4 < L) (h2 : L ≤ 2560) (kk : ∀ h', st_S (K + 1) h' → ik_W (some (L, f)) 0 1131 (lw_LOC i) [] h' 94 4156 lw_post) : ik_W (some (L, f)) 0 575 (lw_LOC i) [] h 94 4156 lw_post := by
  obtain ⟨hl0, fs0, hc0⟩ := st_0 E
  obtain ⟨z1, e1, r1⟩ := lw_z (f (i.toInt.toNat + 1))
  obtain ⟨z2, e2, r2⟩ := lw_z (f (i.toInt.toNat + 2))
  obtain ⟨z3, e3, r3⟩ := lw_z (f (i.toInt.toNat + 3))
  refine ik_Wk 1 (pc' := 576) (loc' := lw_LOC i) (st' := [.ref 0]) (h' := h) (cl' := 94) (sl' := 4156) rfl ?_
  refine lw_argz 1 ⟨rfl, rfl, rfl, rfl, rfl⟩ (by decide) h0 h1 h2 e1 ?_
  refine lw_argz 2 ⟨rfl, rfl, rfl, rfl, rfl⟩ (by decide) h0 h1 h2 e2 ?_
  refine lw_argz 3 ⟨rfl, rfl, rfl, rfl, rfl⟩ (by decide) h0 h1 h2 e3 ?_
  refine fw_call 101 4 0 [.ref 0, fI z1, fI z2, fI z3] [] rfl rfl rfl (by decide) rfl rfl (lw_fit (by decide +kernel) hl0 hc0 (Nat.le_of_ble_eq_true rfl) (Nat.le_of_ble_eq_true rfl) rfl) (la_best E hK r1 r2 r3) ?_
  rintro _ g1 ⟨v, rfl, ⟨hl1, fs1, hc1⟩, H2⟩
  refine ik_Wk 0 (pc' := 594) (loc' := lw_LOC i) (st' := [fI v]) (h' := g1) (cl' := 94) (sl' := 4156) rfl ?_
  refine ik_Wk 1 (pc' := 595) (loc' := lw_LOC i) (st' := []) (h' := g1) (cl' := 94) (sl' := 4156) rfl ?_
  refine ik_Wk 1 (pc' := 596) (loc' := lw_LOC i) (st' := [.ref 66]) (h' := g1) (cl' := 94) (sl' := 4156) rfl ?_
  refine lw_argz 1 ⟨rfl, rfl, rfl, rfl, rfl⟩ (by decide) h0 h1 h2 e1 ?_
  refine lw_argz 2 ⟨rfl, rfl, rfl, rfl, rfl⟩ (by decide) h0 h1 h2 e2 ?_
  refine lw_argz 3 ⟨rfl, rfl, rfl, rfl, rfl⟩ (by decide) h0 h1 h2 e3 ?_
  refine fw_call 171 4 0 [.ref 66, fI z1, fI z2, fI z3] [] rfl rfl rfl (by decide) rfl rfl (lw_fit (by decide +kernel) hl1 hc1 (Nat.le_of_ble_eq_true rfl) (Nat.le_of_ble_eq_true rfl) rfl) H2 ?_
  rintro _ g2 ⟨rfl, E2⟩
  refine ik_Wk 0 (pc' := 614) (loc' := lw_LOC i) (st' := [fI v]) (h' := g2) (cl' := 94) (sl' := 4156) rfl ?_
  refine ik_Wk 1 (pc' := 615) (loc' := lw_LOC i) (st' := []) (h' := g2) (cl' := 94) (sl' := 4156) rfl ?_
  refine ik_Wk 1 (pc' := 1131) (loc' := lw_LOC i) (st' := []) (h' := g2) (cl' := 94) (sl' := 4156) rfl ?_
  exact kk _ E2
set_option maxHeartbeats 4000000 in
set_option maxRecDepth 100000 in
theorem lw_k12 {L : Nat} {f : Nat → Int32} {i : Int32} {h : List ik_E} {K : Nat} (E : st_S K h) (hK : K ≤ 600) (h0 : 0 ≤ i.toInt) (h1 : i.toInt + 4 < L) (h2 : L ≤ 2560) (kk : ∀ h', st_S (K + 1) h' → ik_W (some (L, f)) 0 1131 (lw_LOC i) [] h' 94 4156 lw_post) : ik_W (some (L, f)) 0 618 (lw_LOC i) [] h 94 4156 lw_post := by
  obtain ⟨hl0, fs0, hc0⟩ := st_0 E
  obtain ⟨z1, e1, r1⟩ := lw_z (f (i.toInt.toNat + 1))
  obtain ⟨z2, e2, r2⟩ := lw_z (f (i.toInt.toNat + 2))
  obtain ⟨z3, e3, r3⟩ := lw_z (f (i.toInt.toNat + 3))
  refine ik_Wk 1 (pc' := 619) (loc' := lw_LOC i) (st' := [.ref 0]) (h' := h) (cl' := 94) (sl' := 4156) rfl ?_
  refine lw_argz 1 ⟨rfl, rfl, rfl, rfl, rfl⟩ (by decide) h0 h1 h2 e1 ?_
  refine lw_argz 2 ⟨rfl, rfl, rfl, rfl, rfl⟩ (by decide) h0 h1 h2 e2 ?_
  refine lw_argz 3 ⟨rfl, rfl, rfl, rfl, rfl⟩ (by decide) h0 h1 h2 e3 ?_
  refine fw_call 102 4 0 [.ref 0, fI z1, fI z2, fI z3] [] rfl rfl rfl (by decide) rfl rfl (lw_fit (by decide +kernel) hl0 hc0 (Nat.le_of_ble_eq_true rfl) (Nat.le_of_ble_eq_true rfl) rfl) (la_mixed E hK r1 r2 r3) ?_
  rintro _ g1 ⟨v, rfl, ⟨hl1, fs1, hc1⟩, H2⟩
  refine ik_Wk 0 (pc' := 637) (loc' := lw_LOC i) (st' := [fI v]) (h' := g1) (cl' := 94) (sl' := 4156) rfl ?_
  refine ik_Wk 1 (pc' := 638) (loc' := lw_LOC i) (st' := []) (h' := g1) (cl' := 94) (sl' := 4156) rfl ?_
  refine ik_Wk 1 (pc' := 639) (loc' := lw_LOC i) (st' := [.ref 66]) (h' := g1) (cl' := 94) (sl' := 4156) rfl ?_
  refine lw_argz 1 ⟨rfl, rfl, rfl, rfl, rfl⟩ (by decide) h0 h1 h2 e1 ?_
  refine lw_argz 2 ⟨rfl, rfl, rfl, rfl, rfl⟩ (by decide) h0 h1 h2 e2 ?_
  refine lw_argz 3 ⟨rfl, rfl, rfl, rfl, rfl⟩ (by decide) h0 h1 h2 e3 ?_
  refine fw_call 180 4 0 [.ref 66, fI z1, fI z2, fI z3] [] rfl rfl rfl (by decide) rfl rfl (lw_fit (by decide +kernel) hl1 hc1 (Nat.le_of_ble_eq_true rfl) (Nat.le_of_ble_eq_true rfl) rfl) H2 ?_
  rintro _ g2 ⟨⟨v', rfl⟩, E2⟩
  refine ik_Wk 0 (pc' := 657) (loc' := lw_LOC i) (st' := [fI v']) (h' := g2) (cl' := 94) (sl' := 4156) rfl ?_
  refine ik_Wk 1 (pc' := 658) (loc' := lw_LOC i) (st' := []) (h' := g2) (cl' := 94) (sl' := 4156) rfl ?_
  refine ik_Wk 1 (pc' := 1131) (loc' := lw_LOC i) (st' := []) (h' := g2) (cl' := 94) (sl' := 4156) rfl ?_
  exact kk _ E2
set_option maxHeartbeats 4000000 in
set_option maxRecDepth 100000 in
theorem lw_k13 {L : Nat} {f : Nat → Int32} {i : Int32} {h : List ik_E} {K : Nat} (E : st_S K h) (hK : K ≤ 600) (h0 : 0 ≤ i.toInt) (h1 : i.toInt + 4 < L) (h2 : L ≤ 2560) (kk : ∀ h', st_S (K + 1) h' → ik_W (some (L, f)) 0 1131 (lw_LOC i) [] h' 94 4156 lw_post) : ik_W (some (L, f)) 0 661 (lw_LOC i) [] h 94 4156 lw_post := by
  obtain ⟨hl0, fs0, hc0⟩ := st_0 E
  obtain ⟨z1, e1, r1⟩ := lw_z (f (i.toInt.toNat + 1))
  obtain ⟨z2, e2, r2⟩ := lw_z (f (i.toInt.toNat + 2))
  refine ik_Wk 1 (pc' := 662) (loc' := lw_LOC i) (st' := [.ref 0]) (h' := h) (cl' := 94) (sl' := 4156) rfl ?_
  refine lw_argz 1 ⟨rfl, rfl, rfl, rfl, rfl⟩ (by decide) h0 h1 h2 e1 ?_
  refine lw_argz 2 ⟨rfl, rfl, rfl, rfl, rfl⟩ (by decide) h0 h1 h2 e2 ?_
  refine fw_if_eq rfl rfl (by omega) (by omega) (fun hb => ?_) (fun hb => ?_)
  · refine ik_Wk 1 (pc' := 680) (loc' := lw_LOC i) (st' := [fI 0, fI z1, .ref 0]) (h' := h) (cl' := 94) (sl' := 4156) rfl ?_
    refine fw_call 103 3 0 [.ref 0, fI z1, fI 0] [] rfl rfl rfl (by decide) rfl rfl (lw_fit (by decide +kernel) hl0 hc0 (Nat.le_of_ble_eq_true rfl) (Nat.le_of_ble_eq_true rfl) rfl) (lk_stone0 E hK r1) ?_
    rintro _ g1 ⟨v, rfl, ⟨hl1, fs1, hc1⟩, H2⟩
    refine ik_Wk 0 (pc' := 683) (loc' := lw_LOC i) (st' := [fI v]) (h' := g1) (cl' := 94) (sl' := 4156) rfl ?_
    refine ik_Wk 1 (pc' := 684) (loc' := lw_LOC i) (st' := []) (h' := g1) (cl' := 94) (sl' := 4156) rfl ?_
    refine ik_Wk 1 (pc' := 685) (loc' := lw_LOC i) (st' := [.ref 66]) (h' := g1) (cl' := 94) (sl' := 4156) rfl ?_
    refine lw_argz 1 ⟨rfl, rfl, rfl, rfl, rfl⟩ (by decide) h0 h1 h2 e1 ?_
    refine lw_argz 2 ⟨rfl, rfl, rfl, rfl, rfl⟩ (by decide) h0 h1 h2 e2 ?_
    refine fw_if_eq rfl rfl (by omega) (by omega) (fun hc => ?_) (fun hc => absurd hb hc)
    refine ik_Wk 1 (pc' := 703) (loc' := lw_LOC i) (st' := [fI 0, fI z1, .ref 66]) (h' := g1) (cl' := 94) (sl' := 4156) rfl ?_
    refine fw_call 181 3 0 [.ref 66, fI z1, fI 0] [] rfl rfl rfl (by decide) rfl rfl (lw_fit (by decide +kernel) hl1 hc1 (Nat.le_of_ble_eq_true rfl) (Nat.le_of_ble_eq_true rfl) rfl) H2 ?_
    rintro _ g2 ⟨rfl, E2⟩
    refine ik_Wk 0 (pc' := 706) (loc' := lw_LOC i) (st' := [fI v]) (h' := g2) (cl' := 94) (sl' := 4156) rfl ?_
    refine ik_Wk 1 (pc' := 707) (loc' := lw_LOC i) (st' := []) (h' := g2) (cl' := 94) (sl' := 4156) rfl ?_
    refine ik_Wk 1 (pc' := 1131) (loc' := lw_LOC i) (st' := []) (h' := g2) (cl' := 94) (sl' := 4156) rfl ?_
    exact kk _ E2
  · refine ik_Wk 2 (pc' := 680) (loc' := lw_LOC i) (st' := [fI 1, fI z1, .ref 0]) (h' := h) (cl' := 94) (sl' := 4156) rfl ?_
    refine fw_call 103 3 0 [.ref 0, fI z1, fI 1] [] rfl rfl rfl (by decide) rfl rfl (lw_fit (by decide +kernel) hl0 hc0 (Nat.le_of_ble_eq_true rfl) (Nat.le_of_ble_eq_true rfl) rfl) (lk_stone1 E hK r1) ?_
    rintro _ g1 ⟨v, rfl, ⟨hl1, fs1, hc1⟩, H2⟩
    refine ik_Wk 0 (pc' := 683) (loc' := lw_LOC i) (st' := [fI v]) (h' := g1) (cl' := 94) (sl' := 4156) rfl ?_
    refine ik_Wk 1 (pc' := 684) (loc' := lw_LOC i) (st' := []) (h' := g1) (cl' := 94) (sl' := 4156) rfl ?_
    refine ik_Wk 1 (pc' := 685) (loc' := lw_LOC i) (st' := [.ref 66]) (h' := g1) (cl' := 94) (sl' := 4156) rfl ?_
    refine lw_argz 1 ⟨rfl, rfl, rfl, rfl, rfl⟩ (by decide) h0 h1 h2 e1 ?_
    refine lw_argz 2 ⟨rfl, rfl, rfl, rfl, rfl⟩ (by decide) h0 h1 h2 e2 ?_
    refine fw_if_eq rfl rfl (by omega) (by omega) (fun hc => absurd hc hb) (fun hc => ?_)
    refine ik_Wk 2 (pc' := 703) (loc' := lw_LOC i) (st' := [fI 1, fI z1, .ref 66]) (h' := g1) (cl' := 94) (sl' := 4156) rfl ?_
    refine fw_call 181 3 0 [.ref 66, fI z1, fI 1] [] rfl rfl rfl (by decide) rfl rfl (lw_fit (by decide +kernel) hl1 hc1 (Nat.le_of_ble_eq_true rfl) (Nat.le_of_ble_eq_true rfl) rfl) H2 ?_
    rintro _ g2 ⟨rfl, E2⟩
    refine ik_Wk 0 (pc' := 706) (loc' := lw_LOC i) (st' := [fI v]) (h' := g2) (cl' := 94) (sl' := 4156) rfl ?_
    refine ik_Wk 1 (pc' := 707) (loc' := lw_LOC i) (st' := []) (h' := g2) (cl' := 94) (sl' := 4156) rfl ?_
    refine ik_Wk 1 (pc' := 1131) (loc' := lw_LOC i) (st' := []) (h' := g2) (cl' := 94) (sl' := 4156) rfl ?_
    exact kk _ E2
set_option maxHeartbeats 4000000 in
set_option maxRecDepth 100000 in
theorem lw_k14 {L : Nat} {f : Nat → Int32} {i : Int32} {h : List ik_E} {K : Nat} (E : st_S K h) (hK : K ≤ 600) (h0 : 0 ≤ i.toInt) (h1 : i.toInt + 4 < L) (h2 : L ≤ 2560) (kk : ∀ h', st_S (K + 1) h' → ik_W (some (L, f)) 0 1131 (lw_LOC i) [] h' 94 4156 lw_post) : ik_W (some (L, f)) 0 710 (lw_LOC i) [] h 94 4156 lw_post := by
  obtain ⟨hl0, fs0, hc0⟩ := st_0 E
  obtain ⟨z1, e1, r1⟩ := lw_z (f (i.toInt.toNat + 1))
  obtain ⟨z2, e2, r2⟩ := lw_z (f (i.toInt.toNat + 2))
  refine ik_Wk 1 (pc' := 711) (loc' := lw_LOC i) (st' := [.ref 0]) (h' := h) (cl' := 94) (sl' := 4156) rfl ?_
  refine lw_argz 1 ⟨rfl, rfl, rfl, rfl, rfl⟩ (by decide) h0 h1 h2 e1 ?_
  refine lw_argz 2 ⟨rfl, rfl, rfl, rfl, rfl⟩ (by decide) h0 h1 h2 e2 ?_
  refine fw_call 104 3 0 [.ref 0, fI z1, fI z2] [] rfl rfl rfl (by decide) rfl rfl (lw_fit (by decide +kernel) hl0 hc0 (Nat.le_of_ble_eq_true rfl) (Nat.le_of_ble_eq_true rfl) rfl) (la_most E hK r1 r2) ?_
  rintro _ g1 ⟨v, rfl, ⟨hl1, fs1, hc1⟩, H2⟩
  refine ik_Wk 0 (pc' := 724) (loc' := lw_LOC i) (st' := [fI v]) (h' := g1) (cl' := 94) (sl' := 4156) rfl ?_
  refine ik_Wk 1 (pc' := 725) (loc' := lw_LOC i) (st' := []) (h' := g1) (cl' := 94) (sl' := 4156) rfl ?_
  refine ik_Wk 1 (pc' := 726) (loc' := lw_LOC i) (st' := [.ref 66]) (h' := g1) (cl' := 94) (sl' := 4156) rfl ?_
  refine lw_argz 1 ⟨rfl, rfl, rfl, rfl, rfl⟩ (by decide) h0 h1 h2 e1 ?_
  refine lw_argz 2 ⟨rfl, rfl, rfl, rfl, rfl⟩ (by decide) h0 h1 h2 e2 ?_
  refine fw_call 182 3 0 [.ref 66, fI z1, fI z2] [] rfl rfl rfl (by decide) rfl rfl (lw_fit (by decide +kernel) hl1 hc1 (Nat.le_of_ble_eq_true rfl) (Nat.le_of_ble_eq_true rfl) rfl) H2 ?_
  rintro _ g2 ⟨rfl, E2⟩
  refine ik_Wk 0 (pc' := 739) (loc' := lw_LOC i) (st' := [fI v]) (h' := g2) (cl' := 94) (sl' := 4156) rfl ?_
  refine ik_Wk 1 (pc' := 740) (loc' := lw_LOC i) (st' := []) (h' := g2) (cl' := 94) (sl' := 4156) rfl ?_
  refine ik_Wk 1 (pc' := 1131) (loc' := lw_LOC i) (st' := []) (h' := g2) (cl' := 94) (sl' := 4156) rfl ?_
  exact kk _ E2
set_option maxHeartbeats 4000000 in
set_option maxRecDepth 100000 in
theorem lw_k15 {L : Nat} {f : Nat → Int32} {i : Int32} {h : List ik_E} {K : Nat} (E : st_S K h) (hK : K ≤ 600) (h0 : 0 ≤ i.toInt) (h1 : i.toInt + 4 < L) (h2 : L ≤ 2560) (kk : ∀ h', st_S (K + 1) h' → ik_W (some (L, f)) 0 1131 (lw_LOC i) [] h' 94 4156 lw_post) : ik_W (some (L, f)) 0 743 (lw_LOC i) [] h 94 4156 lw_post := by
  obtain ⟨hl0, fs0, hc0⟩ := st_0 E
  obtain ⟨z1, e1, r1⟩ := lw_z (f (i.toInt.toNat + 1))
  obtain ⟨z2, e2, r2⟩ := lw_z (f (i.toInt.toNat + 2))
  refine ik_Wk 1 (pc' := 744) (loc' := lw_LOC i) (st' := [.ref 0]) (h' := h) (cl' := 94) (sl' := 4156) rfl ?_
  refine lw_argz 1 ⟨rfl, rfl, rfl, rfl, rfl⟩ (by decide) h0 h1 h2 e1 ?_
  refine lw_argz 2 ⟨rfl, rfl, rfl, rfl, rfl⟩ (by decide) h0 h1 h2 e2 ?_
  refine fw_call 105 3 0 [.ref 0, fI z1, fI z2] [] rfl rfl rfl (by decide) rfl rfl (lw_fit (by decide +kernel) hl0 hc0 (Nat.le_of_ble_eq_true rfl) (Nat.le_of_ble_eq_true rfl) rfl) (lk_run E hK r1 r2) ?_
  rintro _ g1 ⟨v, rfl, ⟨hl1, fs1, hc1⟩, H2⟩
  refine ik_Wk 0 (pc' := 757) (loc' := lw_LOC i) (st' := [fI v]) (h' := g1) (cl' := 94) (sl' := 4156) rfl ?_
  refine ik_Wk 1 (pc' := 758) (loc' := lw_LOC i) (st' := []) (h' := g1) (cl' := 94) (sl' := 4156) rfl ?_
  refine ik_Wk 1 (pc' := 759) (loc' := lw_LOC i) (st' := [.ref 66]) (h' := g1) (cl' := 94) (sl' := 4156) rfl ?_
  refine lw_argz 1 ⟨rfl, rfl, rfl, rfl, rfl⟩ (by decide) h0 h1 h2 e1 ?_
  refine lw_argz 2 ⟨rfl, rfl, rfl, rfl, rfl⟩ (by decide) h0 h1 h2 e2 ?_
  refine fw_call 183 3 0 [.ref 66, fI z1, fI z2] [] rfl rfl rfl (by decide) rfl rfl (lw_fit (by decide +kernel) hl1 hc1 (Nat.le_of_ble_eq_true rfl) (Nat.le_of_ble_eq_true rfl) rfl) H2 ?_
  rintro _ g2 ⟨rfl, E2⟩
  refine ik_Wk 0 (pc' := 772) (loc' := lw_LOC i) (st' := [fI v]) (h' := g2) (cl' := 94) (sl' := 4156) rfl ?_
  refine ik_Wk 1 (pc' := 773) (loc' := lw_LOC i) (st' := []) (h' := g2) (cl' := 94) (sl' := 4156) rfl ?_
  refine ik_Wk 1 (pc' := 1131) (loc' := lw_LOC i) (st' := []) (h' := g2) (cl' := 94) (sl' := 4156) rfl ?_
  exact kk _ E2
set_option maxHeartbeats 4000000 in
set_option maxRecDepth 100000 in
theorem lw_k16 {L : Nat} {f : Nat → Int32} {i : Int32} {h : List ik_E} {K : Nat} (E : st_S K h) (hK : K ≤ 600) (h0 : 0 ≤ i.toInt) (h1 : i.toInt + 4 < L) (h2 : L ≤ 2560) (kk : ∀ h', st_S (K + 1) h' → ik_W (some (L, f)) 0 1131 (lw_LOC i) [] h' 94 4156 lw_post) : ik_W (some (L, f)) 0 776 (lw_LOC i) [] h 94 4156 lw_post := by
  obtain ⟨hl0, fs0, hc0⟩ := st_0 E
  refine ik_Wk 1 (pc' := 777) (loc' := lw_LOC i) (st' := [.ref 0]) (h' := h) (cl' := 94) (sl' := 4156) rfl ?_
  refine fw_call 106 1 0 [.ref 0] [] rfl rfl rfl (by decide) rfl rfl (lw_fit (by decide +kernel) hl0 hc0 (Nat.le_of_ble_eq_true rfl) (Nat.le_of_ble_eq_true rfl) rfl) (lk_forget E hK ) ?_
  rintro _ g1 ⟨v, rfl, ⟨hl1, fs1, hc1⟩, H2⟩
  refine ik_Wk 0 (pc' := 780) (loc' := lw_LOC i) (st' := [fI v]) (h' := g1) (cl' := 94) (sl' := 4156) rfl ?_
  refine ik_Wk 1 (pc' := 781) (loc' := lw_LOC i) (st' := []) (h' := g1) (cl' := 94) (sl' := 4156) rfl ?_
  refine ik_Wk 1 (pc' := 782) (loc' := lw_LOC i) (st' := [.ref 66]) (h' := g1) (cl' := 94) (sl' := 4156) rfl ?_
  refine fw_call 184 1 0 [.ref 66] [] rfl rfl rfl (by decide) rfl rfl (lw_fit (by decide +kernel) hl1 hc1 (Nat.le_of_ble_eq_true rfl) (Nat.le_of_ble_eq_true rfl) rfl) H2 ?_
  rintro _ g2 ⟨rfl, E2⟩
  refine ik_Wk 0 (pc' := 785) (loc' := lw_LOC i) (st' := [fI v]) (h' := g2) (cl' := 94) (sl' := 4156) rfl ?_
  refine ik_Wk 1 (pc' := 786) (loc' := lw_LOC i) (st' := []) (h' := g2) (cl' := 94) (sl' := 4156) rfl ?_
  refine ik_Wk 1 (pc' := 1131) (loc' := lw_LOC i) (st' := []) (h' := g2) (cl' := 94) (sl' := 4156) rfl ?_
  exact kk _ E2
set_option maxHeartbeats 4000000 in
set_option maxRecDepth 100000 in
theorem lw_k17 {L : Nat} {f : Nat → Int32} {i : Int32} {h : List ik_E} {K : Nat} (E : st_S K h) (hK : K ≤ 600) (h0 : 0 ≤ i.toInt) (h1 : i.toInt + 4 < L) (h2 : L ≤ 2560) (kk : ∀ h', st_S (K + 1) h' → ik_W (some (L, f)) 0 1131 (lw_LOC i) [] h' 94 4156 lw_post) : ik_W (some (L, f)) 0 789 (lw_LOC i) [] h 94 4156 lw_post := by
  obtain ⟨hl0, fs0, hc0⟩ := st_0 E
  obtain ⟨z1, e1, r1⟩ := lw_z (f (i.toInt.toNat + 1))
  refine ik_Wk 1 (pc' := 790) (loc' := lw_LOC i) (st' := [.ref 0]) (h' := h) (cl' := 94) (sl' := 4156) rfl ?_
  refine lw_argz 1 ⟨rfl, rfl, rfl, rfl, rfl⟩ (by decide) h0 h1 h2 e1 ?_
  refine fw_call 107 2 0 [.ref 0, fI z1] [] rfl rfl rfl (by decide) rfl rfl (lw_fit (by decide +kernel) hl0 hc0 (Nat.le_of_ble_eq_true rfl) (Nat.le_of_ble_eq_true rfl) rfl) (lk_fit E hK r1) ?_
  rintro _ g1 ⟨v, rfl, ⟨hl1, fs1, hc1⟩, H2⟩
  refine ik_Wk 0 (pc' := 798) (loc' := lw_LOC i) (st' := [fI v]) (h' := g1) (cl' := 94) (sl' := 4156) rfl ?_
  refine ik_Wk 1 (pc' := 799) (loc' := lw_LOC i) (st' := []) (h' := g1) (cl' := 94) (sl' := 4156) rfl ?_
  refine ik_Wk 1 (pc' := 800) (loc' := lw_LOC i) (st' := [.ref 66]) (h' := g1) (cl' := 94) (sl' := 4156) rfl ?_
  refine lw_argz 1 ⟨rfl, rfl, rfl, rfl, rfl⟩ (by decide) h0 h1 h2 e1 ?_
  refine fw_call 187 2 0 [.ref 66, fI z1] [] rfl rfl rfl (by decide) rfl rfl (lw_fit (by decide +kernel) hl1 hc1 (Nat.le_of_ble_eq_true rfl) (Nat.le_of_ble_eq_true rfl) rfl) H2 ?_
  rintro _ g2 ⟨rfl, E2⟩
  refine ik_Wk 0 (pc' := 808) (loc' := lw_LOC i) (st' := [fI v]) (h' := g2) (cl' := 94) (sl' := 4156) rfl ?_
  refine ik_Wk 1 (pc' := 809) (loc' := lw_LOC i) (st' := []) (h' := g2) (cl' := 94) (sl' := 4156) rfl ?_
  refine ik_Wk 1 (pc' := 1131) (loc' := lw_LOC i) (st' := []) (h' := g2) (cl' := 94) (sl' := 4156) rfl ?_
  exact kk _ E2
set_option maxHeartbeats 4000000 in
set_option maxRecDepth 100000 in
theorem lw_k18 {L : Nat} {f : Nat → Int32} {i : Int32} {h : List ik_E} {K : Nat} (E : st_S K h) (hK : K ≤ 600) (h0 : 0 ≤ i.toInt) (h1 : i.toInt + 4 < L) (h2 : L ≤ 2560) (kk : ∀ h', st_S (K + 1) h' → ik_W (some (L, f)) 0 1131 (lw_LOC i) [] h' 94 4156 lw_post) : ik_W (some (L, f)) 0 812 (lw_LOC i) [] h 94 4156 lw_post := by
  obtain ⟨hl0, fs0, hc0⟩ := st_0 E
  refine ik_Wk 1 (pc' := 813) (loc' := lw_LOC i) (st' := [.ref 0]) (h' := h) (cl' := 94) (sl' := 4156) rfl ?_
  refine fw_call 108 1 0 [.ref 0] [] rfl rfl rfl (by decide) rfl rfl (lw_fit (by decide +kernel) hl0 hc0 (Nat.le_of_ble_eq_true rfl) (Nat.le_of_ble_eq_true rfl) rfl) (lk_stoned E hK ) ?_
  rintro _ g1 ⟨v, rfl, ⟨hl1, fs1, hc1⟩, H2⟩
  refine ik_Wk 0 (pc' := 816) (loc' := lw_LOC i) (st' := [fI v]) (h' := g1) (cl' := 94) (sl' := 4156) rfl ?_
  refine ik_Wk 1 (pc' := 817) (loc' := lw_LOC i) (st' := []) (h' := g1) (cl' := 94) (sl' := 4156) rfl ?_
  refine ik_Wk 1 (pc' := 818) (loc' := lw_LOC i) (st' := [.ref 66]) (h' := g1) (cl' := 94) (sl' := 4156) rfl ?_
  refine fw_call 188 1 0 [.ref 66] [] rfl rfl rfl (by decide) rfl rfl (lw_fit (by decide +kernel) hl1 hc1 (Nat.le_of_ble_eq_true rfl) (Nat.le_of_ble_eq_true rfl) rfl) H2 ?_
  rintro _ g2 ⟨rfl, E2⟩
  refine ik_Wk 0 (pc' := 821) (loc' := lw_LOC i) (st' := [fI v]) (h' := g2) (cl' := 94) (sl' := 4156) rfl ?_
  refine ik_Wk 1 (pc' := 822) (loc' := lw_LOC i) (st' := []) (h' := g2) (cl' := 94) (sl' := 4156) rfl ?_
  refine ik_Wk 1 (pc' := 1131) (loc' := lw_LOC i) (st' := []) (h' := g2) (cl' := 94) (sl' := 4156) rfl ?_
  exact kk _ E2
set_option maxHeartbeats 4000000 in
set_option maxRecDepth 100000 in
theorem lw_k19 {L : Nat} {f : Nat → Int32} {i : Int32} {h : List ik_E} {K : Nat} (E : st_S K h) (hK : K ≤ 600) (h0 : 0 ≤ i.toInt) (h1 : i.toInt + 4 < L) (h2 : L ≤ 2560) (kk : ∀ h', st_S (K + 1) h' → ik_W (some (L, f)) 0 1131 (lw_LOC i) [] h' 94 4156 lw_post) : ik_W (some (L, f)) 0 825 (lw_LOC i) [] h 94 4156 lw_post := by
  obtain ⟨hl0, fs0, hc0⟩ := st_0 E
  obtain ⟨z1, e1, r1⟩ := lw_z (f (i.toInt.toNat + 1))
  obtain ⟨z2, e2, r2⟩ := lw_z (f (i.toInt.toNat + 2))
  obtain ⟨z3, e3, r3⟩ := lw_z (f (i.toInt.toNat + 3))
  obtain ⟨z4, e4, r4⟩ := lw_z (f (i.toInt.toNat + 4))
  refine ik_Wk 1 (pc' := 826) (loc' := lw_LOC i) (st' := [.ref 0]) (h' := h) (cl' := 94) (sl' := 4156) rfl ?_
  refine lw_argz 1 ⟨rfl, rfl, rfl, rfl, rfl⟩ (by decide) h0 h1 h2 e1 ?_
  refine lw_argz 2 ⟨rfl, rfl, rfl, rfl, rfl⟩ (by decide) h0 h1 h2 e2 ?_
  refine lw_argz 3 ⟨rfl, rfl, rfl, rfl, rfl⟩ (by decide) h0 h1 h2 e3 ?_
  refine lw_argz 4 ⟨rfl, rfl, rfl, rfl, rfl⟩ (by decide) h0 h1 h2 e4 ?_
  refine fw_call 109 5 0 [.ref 0, fI z1, fI z2, fI z3, fI z4] [] rfl rfl rfl (by decide) rfl rfl (lw_fit (by decide +kernel) hl0 hc0 (Nat.le_of_ble_eq_true rfl) (Nat.le_of_ble_eq_true rfl) rfl) (lk_dig E hK r1 r2 r3 r4) ?_
  rintro _ g1 ⟨v, rfl, ⟨hl1, fs1, hc1⟩, H2⟩
  refine ik_Wk 0 (pc' := 849) (loc' := lw_LOC i) (st' := [fI v]) (h' := g1) (cl' := 94) (sl' := 4156) rfl ?_
  refine ik_Wk 1 (pc' := 850) (loc' := lw_LOC i) (st' := []) (h' := g1) (cl' := 94) (sl' := 4156) rfl ?_
  refine ik_Wk 1 (pc' := 851) (loc' := lw_LOC i) (st' := [.ref 66]) (h' := g1) (cl' := 94) (sl' := 4156) rfl ?_
  refine lw_argz 1 ⟨rfl, rfl, rfl, rfl, rfl⟩ (by decide) h0 h1 h2 e1 ?_
  refine lw_argz 2 ⟨rfl, rfl, rfl, rfl, rfl⟩ (by decide) h0 h1 h2 e2 ?_
  refine lw_argz 3 ⟨rfl, rfl, rfl, rfl, rfl⟩ (by decide) h0 h1 h2 e3 ?_
  refine lw_argz 4 ⟨rfl, rfl, rfl, rfl, rfl⟩ (by decide) h0 h1 h2 e4 ?_
  refine fw_call 189 5 0 [.ref 66, fI z1, fI z2, fI z3, fI z4] [] rfl rfl rfl (by decide) rfl rfl (lw_fit (by decide +kernel) hl1 hc1 (Nat.le_of_ble_eq_true rfl) (Nat.le_of_ble_eq_true rfl) rfl) H2 ?_
  rintro _ g2 ⟨rfl, E2⟩
  refine ik_Wk 0 (pc' := 874) (loc' := lw_LOC i) (st' := [fI v]) (h' := g2) (cl' := 94) (sl' := 4156) rfl ?_
  refine ik_Wk 1 (pc' := 875) (loc' := lw_LOC i) (st' := []) (h' := g2) (cl' := 94) (sl' := 4156) rfl ?_
  refine ik_Wk 1 (pc' := 1131) (loc' := lw_LOC i) (st' := []) (h' := g2) (cl' := 94) (sl' := 4156) rfl ?_
  exact kk _ E2
set_option maxHeartbeats 4000000 in
set_option maxRecDepth 100000 in
theorem lw_k20 {L : Nat} {f : Nat → Int32} {i : Int32} {h : List ik_E} {K : Nat} (E : st_S K h) (hK : K ≤ 600) (h0 : 0 ≤ i.toInt) (h1 : i.toInt + 4 < L) (h2 : L ≤ 2560) (kk : ∀ h', st_S (K + 1) h' → ik_W (some (L, f)) 0 1131 (lw_LOC i) [] h' 94 4156 lw_post) : ik_W (some (L, f)) 0 878 (lw_LOC i) [] h 94 4156 lw_post := by
  obtain ⟨hl0, fs0, hc0⟩ := st_0 E
  obtain ⟨z1, e1, r1⟩ := lw_z (f (i.toInt.toNat + 1))
  obtain ⟨z2, e2, r2⟩ := lw_z (f (i.toInt.toNat + 2))
  refine ik_Wk 1 (pc' := 879) (loc' := lw_LOC i) (st' := [.ref 0]) (h' := h) (cl' := 94) (sl' := 4156) rfl ?_
  refine lw_argz 1 ⟨rfl, rfl, rfl, rfl, rfl⟩ (by decide) h0 h1 h2 e1 ?_
  refine lw_argz 2 ⟨rfl, rfl, rfl, rfl, rfl⟩ (by decide) h0 h1 h2 e2 ?_
  refine fw_call 110 3 0 [.ref 0, fI z1, fI z2] [] rfl rfl rfl (by decide) rfl rfl (lw_fit (by decide +kernel) hl0 hc0 (Nat.le_of_ble_eq_true rfl) (Nat.le_of_ble_eq_true rfl) rfl) (lk_fair E hK r1 r2) ?_
  rintro _ g1 ⟨v, rfl, ⟨hl1, fs1, hc1⟩, H2⟩
  refine ik_Wk 0 (pc' := 892) (loc' := lw_LOC i) (st' := [fI v]) (h' := g1) (cl' := 94) (sl' := 4156) rfl ?_
  refine ik_Wk 1 (pc' := 893) (loc' := lw_LOC i) (st' := []) (h' := g1) (cl' := 94) (sl' := 4156) rfl ?_
  refine ik_Wk 1 (pc' := 894) (loc' := lw_LOC i) (st' := [.ref 66]) (h' := g1) (cl' := 94) (sl' := 4156) rfl ?_
  refine lw_argz 1 ⟨rfl, rfl, rfl, rfl, rfl⟩ (by decide) h0 h1 h2 e1 ?_
  refine lw_argz 2 ⟨rfl, rfl, rfl, rfl, rfl⟩ (by decide) h0 h1 h2 e2 ?_
  refine fw_call 192 3 0 [.ref 66, fI z1, fI z2] [] rfl rfl rfl (by decide) rfl rfl (lw_fit (by decide +kernel) hl1 hc1 (Nat.le_of_ble_eq_true rfl) (Nat.le_of_ble_eq_true rfl) rfl) H2 ?_
  rintro _ g2 ⟨rfl, E2⟩
  refine ik_Wk 0 (pc' := 907) (loc' := lw_LOC i) (st' := [fI v]) (h' := g2) (cl' := 94) (sl' := 4156) rfl ?_
  refine ik_Wk 1 (pc' := 908) (loc' := lw_LOC i) (st' := []) (h' := g2) (cl' := 94) (sl' := 4156) rfl ?_
  refine ik_Wk 1 (pc' := 1131) (loc' := lw_LOC i) (st' := []) (h' := g2) (cl' := 94) (sl' := 4156) rfl ?_
  exact kk _ E2
set_option maxHeartbeats 4000000 in
set_option maxRecDepth 100000 in
theorem lw_k21 {L : Nat} {f : Nat → Int32} {i : Int32} {h : List ik_E} {K : Nat} (E : st_S K h) (hK : K ≤ 600) (h0 : 0 ≤ i.toInt) (h1 : i.toInt + 4 < L) (h2 : L ≤ 2560) (kk : ∀ h', st_S (K + 1) h' → ik_W (some (L, f)) 0 1131 (lw_LOC i) [] h' 94 4156 lw_post) : ik_W (some (L, f)) 0 911 (lw_LOC i) [] h 94 4156 lw_post := by
  obtain ⟨hl0, fs0, hc0⟩ := st_0 E
  obtain ⟨z1, e1, r1⟩ := lw_z (f (i.toInt.toNat + 1))
  refine ik_Wk 1 (pc' := 912) (loc' := lw_LOC i) (st' := [.ref 0]) (h' := h) (cl' := 94) (sl' := 4156) rfl ?_
  refine lw_argz 1 ⟨rfl, rfl, rfl, rfl, rfl⟩ (by decide) h0 h1 h2 e1 ?_
  refine fw_call 111 2 0 [.ref 0, fI z1] [] rfl rfl rfl (by decide) rfl rfl (lw_fit (by decide +kernel) hl0 hc0 (Nat.le_of_ble_eq_true rfl) (Nat.le_of_ble_eq_true rfl) rfl) (lk_drift E hK r1) ?_
  rintro _ g1 ⟨v, rfl, ⟨hl1, fs1, hc1⟩, H2⟩
  refine ik_Wk 0 (pc' := 920) (loc' := lw_LOC i) (st' := [fI v]) (h' := g1) (cl' := 94) (sl' := 4156) rfl ?_
  refine ik_Wk 1 (pc' := 921) (loc' := lw_LOC i) (st' := []) (h' := g1) (cl' := 94) (sl' := 4156) rfl ?_
  refine ik_Wk 1 (pc' := 922) (loc' := lw_LOC i) (st' := [.ref 66]) (h' := g1) (cl' := 94) (sl' := 4156) rfl ?_
  refine lw_argz 1 ⟨rfl, rfl, rfl, rfl, rfl⟩ (by decide) h0 h1 h2 e1 ?_
  refine fw_call 199 2 0 [.ref 66, fI z1] [] rfl rfl rfl (by decide) rfl rfl (lw_fit (by decide +kernel) hl1 hc1 (Nat.le_of_ble_eq_true rfl) (Nat.le_of_ble_eq_true rfl) rfl) H2 ?_
  rintro _ g2 ⟨rfl, E2⟩
  refine ik_Wk 0 (pc' := 930) (loc' := lw_LOC i) (st' := [fI v]) (h' := g2) (cl' := 94) (sl' := 4156) rfl ?_
  refine ik_Wk 1 (pc' := 931) (loc' := lw_LOC i) (st' := []) (h' := g2) (cl' := 94) (sl' := 4156) rfl ?_
  refine ik_Wk 1 (pc' := 1131) (loc' := lw_LOC i) (st' := []) (h' := g2) (cl' := 94) (sl' := 4156) rfl ?_
  exact kk _ E2
set_option maxHeartbeats 4000000 in
set_option maxRecDepth 100000 in
theorem lw_k22 {L : Nat} {f : Nat → Int32} {i : Int32} {h : List ik_E} {K : Nat} (E : st_S K h) (hK : K ≤ 600) (h0 : 0 ≤ i.toInt) (h1 : i.toInt + 4 < L) (h2 : L ≤ 2560) (kk : ∀ h', st_S (K + 1) h' → ik_W (some (L, f)) 0 1131 (lw_LOC i) [] h' 94 4156 lw_post) : ik_W (some (L, f)) 0 934 (lw_LOC i) [] h 94 4156 lw_post := by
  obtain ⟨hl0, fs0, hc0⟩ := st_0 E
  obtain ⟨z1, e1, r1⟩ := lw_z (f (i.toInt.toNat + 1))
  refine ik_Wk 1 (pc' := 935) (loc' := lw_LOC i) (st' := [.ref 0]) (h' := h) (cl' := 94) (sl' := 4156) rfl ?_
  refine lw_argz 1 ⟨rfl, rfl, rfl, rfl, rfl⟩ (by decide) h0 h1 h2 e1 ?_
  refine fw_call 112 2 0 [.ref 0, fI z1] [] rfl rfl rfl (by decide) rfl rfl (lw_fit (by decide +kernel) hl0 hc0 (Nat.le_of_ble_eq_true rfl) (Nat.le_of_ble_eq_true rfl) rfl) (la_where E hK r1) ?_
  rintro _ g1 ⟨v, rfl, ⟨hl1, fs1, hc1⟩, H2⟩
  refine ik_Wk 0 (pc' := 943) (loc' := lw_LOC i) (st' := [fI v]) (h' := g1) (cl' := 94) (sl' := 4156) rfl ?_
  refine ik_Wk 1 (pc' := 944) (loc' := lw_LOC i) (st' := []) (h' := g1) (cl' := 94) (sl' := 4156) rfl ?_
  refine ik_Wk 1 (pc' := 945) (loc' := lw_LOC i) (st' := [.ref 66]) (h' := g1) (cl' := 94) (sl' := 4156) rfl ?_
  refine lw_argz 1 ⟨rfl, rfl, rfl, rfl, rfl⟩ (by decide) h0 h1 h2 e1 ?_
  refine fw_call 200 2 0 [.ref 66, fI z1] [] rfl rfl rfl (by decide) rfl rfl (lw_fit (by decide +kernel) hl1 hc1 (Nat.le_of_ble_eq_true rfl) (Nat.le_of_ble_eq_true rfl) rfl) H2 ?_
  rintro _ g2 ⟨rfl, E2⟩
  refine ik_Wk 0 (pc' := 953) (loc' := lw_LOC i) (st' := [fI v]) (h' := g2) (cl' := 94) (sl' := 4156) rfl ?_
  refine ik_Wk 1 (pc' := 954) (loc' := lw_LOC i) (st' := []) (h' := g2) (cl' := 94) (sl' := 4156) rfl ?_
  refine ik_Wk 1 (pc' := 1131) (loc' := lw_LOC i) (st' := []) (h' := g2) (cl' := 94) (sl' := 4156) rfl ?_
  exact kk _ E2
set_option maxHeartbeats 4000000 in
set_option maxRecDepth 100000 in
theorem lw_k23 {L : Nat} {f : Nat → Int32} {i : Int32} {h : List ik_E} {K : Nat} (E : st_S K h) (hK : K ≤ 600) (h0 : 0 ≤ i.toInt) (h1 : i.toInt + 4 < L) (h2 : L ≤ 2560) (kk : ∀ h', st_S (K + 1) h' → ik_W (some (L, f)) 0 1131 (lw_LOC i) [] h' 94 4156 lw_post) : ik_W (some (L, f)) 0 957 (lw_LOC i) [] h 94 4156 lw_post := by
  obtain ⟨hl0, fs0, hc0⟩ := st_0 E
  refine ik_Wk 1 (pc' := 958) (loc' := lw_LOC i) (st' := [.ref 0]) (h' := h) (cl' := 94) (sl' := 4156) rfl ?_
  refine fw_call 113 1 0 [.ref 0] [] rfl rfl rfl (by decide) rfl rfl (lw_fit (by decide +kernel) hl0 hc0 (Nat.le_of_ble_eq_true rfl) (Nat.le_of_ble_eq_true rfl) rfl) (lk_begin E hK ) ?_
  rintro _ g1 ⟨v, rfl, ⟨hl1, fs1, hc1⟩, H2⟩
  refine ik_Wk 0 (pc' := 961) (loc' := lw_LOC i) (st' := [fI v]) (h' := g1) (cl' := 94) (sl' := 4156) rfl ?_
  refine ik_Wk 1 (pc' := 962) (loc' := lw_LOC i) (st' := []) (h' := g1) (cl' := 94) (sl' := 4156) rfl ?_
  refine ik_Wk 1 (pc' := 963) (loc' := lw_LOC i) (st' := [.ref 66]) (h' := g1) (cl' := 94) (sl' := 4156) rfl ?_
  refine fw_call 201 1 0 [.ref 66] [] rfl rfl rfl (by decide) rfl rfl (lw_fit (by decide +kernel) hl1 hc1 (Nat.le_of_ble_eq_true rfl) (Nat.le_of_ble_eq_true rfl) rfl) H2 ?_
  rintro _ g2 ⟨rfl, E2⟩
  refine ik_Wk 0 (pc' := 966) (loc' := lw_LOC i) (st' := [fI v]) (h' := g2) (cl' := 94) (sl' := 4156) rfl ?_
  refine ik_Wk 1 (pc' := 967) (loc' := lw_LOC i) (st' := []) (h' := g2) (cl' := 94) (sl' := 4156) rfl ?_
  refine ik_Wk 1 (pc' := 1131) (loc' := lw_LOC i) (st' := []) (h' := g2) (cl' := 94) (sl' := 4156) rfl ?_
  exact kk _ E2
set_option maxHeartbeats 4000000 in
set_option maxRecDepth 100000 in
theorem lw_k24 {L : Nat} {f : Nat → Int32} {i : Int32} {h : List ik_E} {K : Nat} (E : st_S K h) (hK : K ≤ 600) (h0 : 0 ≤ i.toInt) (h1 : i.toInt + 4 < L) (h2 : L ≤ 2560) (kk : ∀ h', st_S (K + 1) h' → ik_W (some (L, f)) 0 1131 (lw_LOC i) [] h' 94 4156 lw_post) : ik_W (some (L, f)) 0 970 (lw_LOC i) [] h 94 4156 lw_post := by
  obtain ⟨hl0, fs0, hc0⟩ := st_0 E
  obtain ⟨z1, e1, r1⟩ := lw_z (f (i.toInt.toNat + 1))
  refine ik_Wk 1 (pc' := 971) (loc' := lw_LOC i) (st' := [.ref 0]) (h' := h) (cl' := 94) (sl' := 4156) rfl ?_
  refine lw_argz 1 ⟨rfl, rfl, rfl, rfl, rfl⟩ (by decide) h0 h1 h2 e1 ?_
  refine fw_call 114 2 0 [.ref 0, fI z1] [] rfl rfl rfl (by decide) rfl rfl (lw_fit (by decide +kernel) hl0 hc0 (Nat.le_of_ble_eq_true rfl) (Nat.le_of_ble_eq_true rfl) rfl) (lk_morning E hK r1) ?_
  rintro _ g1 ⟨v, rfl, ⟨hl1, fs1, hc1⟩, H2⟩
  refine ik_Wk 0 (pc' := 979) (loc' := lw_LOC i) (st' := [fI v]) (h' := g1) (cl' := 94) (sl' := 4156) rfl ?_
  refine ik_Wk 1 (pc' := 980) (loc' := lw_LOC i) (st' := []) (h' := g1) (cl' := 94) (sl' := 4156) rfl ?_
  refine ik_Wk 1 (pc' := 981) (loc' := lw_LOC i) (st' := [.ref 66]) (h' := g1) (cl' := 94) (sl' := 4156) rfl ?_
  refine lw_argz 1 ⟨rfl, rfl, rfl, rfl, rfl⟩ (by decide) h0 h1 h2 e1 ?_
  refine fw_call 202 2 0 [.ref 66, fI z1] [] rfl rfl rfl (by decide) rfl rfl (lw_fit (by decide +kernel) hl1 hc1 (Nat.le_of_ble_eq_true rfl) (Nat.le_of_ble_eq_true rfl) rfl) H2 ?_
  rintro _ g2 ⟨rfl, E2⟩
  refine ik_Wk 0 (pc' := 989) (loc' := lw_LOC i) (st' := [fI v]) (h' := g2) (cl' := 94) (sl' := 4156) rfl ?_
  refine ik_Wk 1 (pc' := 990) (loc' := lw_LOC i) (st' := []) (h' := g2) (cl' := 94) (sl' := 4156) rfl ?_
  refine ik_Wk 1 (pc' := 1131) (loc' := lw_LOC i) (st' := []) (h' := g2) (cl' := 94) (sl' := 4156) rfl ?_
  exact kk _ E2
set_option maxHeartbeats 4000000 in
set_option maxRecDepth 100000 in
theorem lw_k25 {L : Nat} {f : Nat → Int32} {i : Int32} {h : List ik_E} {K : Nat} (E : st_S K h) (hK : K ≤ 600) (h0 : 0 ≤ i.toInt) (h1 : i.toInt + 4 < L) (h2 : L ≤ 2560) (kk : ∀ h', st_S (K + 1) h' → ik_W (some (L, f)) 0 1131 (lw_LOC i) [] h' 94 4156 lw_post) : ik_W (some (L, f)) 0 993 (lw_LOC i) [] h 94 4156 lw_post := by
  obtain ⟨hl0, fs0, hc0⟩ := st_0 E
  obtain ⟨z1, e1, r1⟩ := lw_z (f (i.toInt.toNat + 1))
  obtain ⟨z2, e2, r2⟩ := lw_z (f (i.toInt.toNat + 2))
  refine ik_Wk 1 (pc' := 994) (loc' := lw_LOC i) (st' := [.ref 0]) (h' := h) (cl' := 94) (sl' := 4156) rfl ?_
  refine lw_argz 1 ⟨rfl, rfl, rfl, rfl, rfl⟩ (by decide) h0 h1 h2 e1 ?_
  refine lw_argz 2 ⟨rfl, rfl, rfl, rfl, rfl⟩ (by decide) h0 h1 h2 e2 ?_
  refine fw_call 115 3 0 [.ref 0, fI z1, fI z2] [] rfl rfl rfl (by decide) rfl rfl (lw_fit (by decide +kernel) hl0 hc0 (Nat.le_of_ble_eq_true rfl) (Nat.le_of_ble_eq_true rfl) rfl) (la_log E hK r1 r2) ?_
  rintro _ g1 ⟨v, rfl, ⟨hl1, fs1, hc1⟩, H2⟩
  refine ik_Wk 0 (pc' := 1007) (loc' := lw_LOC i) (st' := [fI v]) (h' := g1) (cl' := 94) (sl' := 4156) rfl ?_
  refine ik_Wk 1 (pc' := 1008) (loc' := lw_LOC i) (st' := []) (h' := g1) (cl' := 94) (sl' := 4156) rfl ?_
  refine ik_Wk 1 (pc' := 1009) (loc' := lw_LOC i) (st' := [.ref 66]) (h' := g1) (cl' := 94) (sl' := 4156) rfl ?_
  refine lw_argz 1 ⟨rfl, rfl, rfl, rfl, rfl⟩ (by decide) h0 h1 h2 e1 ?_
  refine lw_argz 2 ⟨rfl, rfl, rfl, rfl, rfl⟩ (by decide) h0 h1 h2 e2 ?_
  refine fw_call 203 3 0 [.ref 66, fI z1, fI z2] [] rfl rfl rfl (by decide) rfl rfl (lw_fit (by decide +kernel) hl1 hc1 (Nat.le_of_ble_eq_true rfl) (Nat.le_of_ble_eq_true rfl) rfl) H2 ?_
  rintro _ g2 ⟨rfl, E2⟩
  refine ik_Wk 0 (pc' := 1022) (loc' := lw_LOC i) (st' := [fI v]) (h' := g2) (cl' := 94) (sl' := 4156) rfl ?_
  refine ik_Wk 1 (pc' := 1023) (loc' := lw_LOC i) (st' := []) (h' := g2) (cl' := 94) (sl' := 4156) rfl ?_
  refine ik_Wk 1 (pc' := 1131) (loc' := lw_LOC i) (st' := []) (h' := g2) (cl' := 94) (sl' := 4156) rfl ?_
  exact kk _ E2
set_option maxHeartbeats 4000000 in
set_option maxRecDepth 100000 in
theorem lw_k26 {L : Nat} {f : Nat → Int32} {i : Int32} {h : List ik_E} {K : Nat} (E : st_S K h) (hK : K ≤ 600) (h0 : 0 ≤ i.toInt) (h1 : i.toInt + 4 < L) (h2 : L ≤ 2560) (kk : ∀ h', st_S (K + 1) h' → ik_W (some (L, f)) 0 1131 (lw_LOC i) [] h' 94 4156 lw_post) : ik_W (some (L, f)) 0 1026 (lw_LOC i) [] h 94 4156 lw_post := by
  obtain ⟨hl0, fs0, hc0⟩ := st_0 E
  refine ik_Wk 1 (pc' := 1027) (loc' := lw_LOC i) (st' := [.ref 0]) (h' := h) (cl' := 94) (sl' := 4156) rfl ?_
  refine fw_call 116 1 0 [.ref 0] [] rfl rfl rfl (by decide) rfl rfl (lw_fit (by decide +kernel) hl0 hc0 (Nat.le_of_ble_eq_true rfl) (Nat.le_of_ble_eq_true rfl) rfl) (lk_clear E hK ) ?_
  rintro _ g1 ⟨v, rfl, ⟨hl1, fs1, hc1⟩, H2⟩
  refine ik_Wk 0 (pc' := 1030) (loc' := lw_LOC i) (st' := [fI v]) (h' := g1) (cl' := 94) (sl' := 4156) rfl ?_
  refine ik_Wk 1 (pc' := 1031) (loc' := lw_LOC i) (st' := []) (h' := g1) (cl' := 94) (sl' := 4156) rfl ?_
  refine ik_Wk 1 (pc' := 1032) (loc' := lw_LOC i) (st' := [.ref 66]) (h' := g1) (cl' := 94) (sl' := 4156) rfl ?_
  refine fw_call 204 1 0 [.ref 66] [] rfl rfl rfl (by decide) rfl rfl (lw_fit (by decide +kernel) hl1 hc1 (Nat.le_of_ble_eq_true rfl) (Nat.le_of_ble_eq_true rfl) rfl) H2 ?_
  rintro _ g2 ⟨rfl, E2⟩
  refine ik_Wk 0 (pc' := 1035) (loc' := lw_LOC i) (st' := [fI v]) (h' := g2) (cl' := 94) (sl' := 4156) rfl ?_
  refine ik_Wk 1 (pc' := 1036) (loc' := lw_LOC i) (st' := []) (h' := g2) (cl' := 94) (sl' := 4156) rfl ?_
  refine ik_Wk 1 (pc' := 1131) (loc' := lw_LOC i) (st' := []) (h' := g2) (cl' := 94) (sl' := 4156) rfl ?_
  exact kk _ E2
set_option maxHeartbeats 4000000 in
set_option maxRecDepth 100000 in
theorem lw_k27 {L : Nat} {f : Nat → Int32} {i : Int32} {h : List ik_E} {K : Nat} (E : st_S K h) (hK : K ≤ 600) (h0 : 0 ≤ i.toInt) (h1 : i.toInt + 4 < L) (h2 : L ≤ 2560) (kk : ∀ h', st_S (K + 1) h' → ik_W (some (L, f)) 0 1131 (lw_LOC i) [] h' 94 4156 lw_post) : ik_W (some (L, f)) 0 1039 (lw_LOC i) [] h 94 4156 lw_post := by
  obtain ⟨hl0, fs0, hc0⟩ := st_0 E
  obtain ⟨z1, e1, r1⟩ := lw_z (f (i.toInt.toNat + 1))
  refine ik_Wk 1 (pc' := 1040) (loc' := lw_LOC i) (st' := [.ref 0]) (h' := h) (cl' := 94) (sl' := 4156) rfl ?_
  refine lw_argz 1 ⟨rfl, rfl, rfl, rfl, rfl⟩ (by decide) h0 h1 h2 e1 ?_
  refine fw_call 117 2 0 [.ref 0, fI z1] [] rfl rfl rfl (by decide) rfl rfl (lw_fit (by decide +kernel) hl0 hc0 (Nat.le_of_ble_eq_true rfl) (Nat.le_of_ble_eq_true rfl) rfl) (la_judge E hK r1) ?_
  rintro _ g1 ⟨v, rfl, ⟨hl1, fs1, hc1⟩, H2⟩
  refine ik_Wk 0 (pc' := 1048) (loc' := lw_LOC i) (st' := [fI v]) (h' := g1) (cl' := 94) (sl' := 4156) rfl ?_
  refine ik_Wk 1 (pc' := 1049) (loc' := lw_LOC i) (st' := []) (h' := g1) (cl' := 94) (sl' := 4156) rfl ?_
  refine ik_Wk 1 (pc' := 1050) (loc' := lw_LOC i) (st' := [.ref 66]) (h' := g1) (cl' := 94) (sl' := 4156) rfl ?_
  refine lw_argz 1 ⟨rfl, rfl, rfl, rfl, rfl⟩ (by decide) h0 h1 h2 e1 ?_
  refine fw_call 207 2 0 [.ref 66, fI z1] [] rfl rfl rfl (by decide) rfl rfl (lw_fit (by decide +kernel) hl1 hc1 (Nat.le_of_ble_eq_true rfl) (Nat.le_of_ble_eq_true rfl) rfl) H2 ?_
  rintro _ g2 ⟨rfl, E2⟩
  refine ik_Wk 0 (pc' := 1058) (loc' := lw_LOC i) (st' := [fI v]) (h' := g2) (cl' := 94) (sl' := 4156) rfl ?_
  refine ik_Wk 1 (pc' := 1059) (loc' := lw_LOC i) (st' := []) (h' := g2) (cl' := 94) (sl' := 4156) rfl ?_
  refine ik_Wk 1 (pc' := 1131) (loc' := lw_LOC i) (st' := []) (h' := g2) (cl' := 94) (sl' := 4156) rfl ?_
  exact kk _ E2
set_option maxHeartbeats 4000000 in
set_option maxRecDepth 100000 in
theorem lw_k28 {L : Nat} {f : Nat → Int32} {i : Int32} {h : List ik_E} {K : Nat} (E : st_S K h) (hK : K ≤ 600) (h0 : 0 ≤ i.toInt) (h1 : i.toInt + 4 < L) (h2 : L ≤ 2560) (kk : ∀ h', st_S (K + 1) h' → ik_W (some (L, f)) 0 1131 (lw_LOC i) [] h' 94 4156 lw_post) : ik_W (some (L, f)) 0 1062 (lw_LOC i) [] h 94 4156 lw_post := by
  obtain ⟨hl0, fs0, hc0⟩ := st_0 E
  obtain ⟨z1, e1, r1⟩ := lw_z (f (i.toInt.toNat + 1))
  refine ik_Wk 1 (pc' := 1063) (loc' := lw_LOC i) (st' := [.ref 0]) (h' := h) (cl' := 94) (sl' := 4156) rfl ?_
  refine lw_argz 1 ⟨rfl, rfl, rfl, rfl, rfl⟩ (by decide) h0 h1 h2 e1 ?_
  refine fw_call 118 2 0 [.ref 0, fI z1] [] rfl rfl rfl (by decide) rfl rfl (lw_fit (by decide +kernel) hl0 hc0 (Nat.le_of_ble_eq_true rfl) (Nat.le_of_ble_eq_true rfl) rfl) (lk_seed E hK r1) ?_
  rintro _ g1 ⟨v, rfl, ⟨hl1, fs1, hc1⟩, H2⟩
  refine ik_Wk 0 (pc' := 1071) (loc' := lw_LOC i) (st' := [fI v]) (h' := g1) (cl' := 94) (sl' := 4156) rfl ?_
  refine ik_Wk 1 (pc' := 1072) (loc' := lw_LOC i) (st' := []) (h' := g1) (cl' := 94) (sl' := 4156) rfl ?_
  refine ik_Wk 1 (pc' := 1073) (loc' := lw_LOC i) (st' := [.ref 66]) (h' := g1) (cl' := 94) (sl' := 4156) rfl ?_
  refine lw_argz 1 ⟨rfl, rfl, rfl, rfl, rfl⟩ (by decide) h0 h1 h2 e1 ?_
  refine fw_call 208 2 0 [.ref 66, fI z1] [] rfl rfl rfl (by decide) rfl rfl (lw_fit (by decide +kernel) hl1 hc1 (Nat.le_of_ble_eq_true rfl) (Nat.le_of_ble_eq_true rfl) rfl) H2 ?_
  rintro _ g2 ⟨rfl, E2⟩
  refine ik_Wk 0 (pc' := 1081) (loc' := lw_LOC i) (st' := [fI v]) (h' := g2) (cl' := 94) (sl' := 4156) rfl ?_
  refine ik_Wk 1 (pc' := 1082) (loc' := lw_LOC i) (st' := []) (h' := g2) (cl' := 94) (sl' := 4156) rfl ?_
  refine ik_Wk 1 (pc' := 1131) (loc' := lw_LOC i) (st' := []) (h' := g2) (cl' := 94) (sl' := 4156) rfl ?_
  exact kk _ E2
set_option maxHeartbeats 4000000 in
set_option maxRecDepth 100000 in
theorem lw_k29 {L : Nat} {f : Nat → Int32} {i : Int32} {h : List ik_E} {K : Nat} (E : st_S K h) (hK : K ≤ 600) (h0 : 0 ≤ i.toInt) (h1 : i.toInt + 4 < L) (h2 : L ≤ 2560) (kk : ∀ h', st_S (K + 1) h' → ik_W (some (L, f)) 0 1131 (lw_LOC i) [] h' 94 4156 lw_post) : ik_W (some (L, f)) 0 1085 (lw_LOC i) [] h 94 4156 lw_post := by
  obtain ⟨hl0, fs0, hc0⟩ := st_0 E
  obtain ⟨z1, e1, r1⟩ := lw_z (f (i.toInt.toNat + 1))
  refine ik_Wk 1 (pc' := 1086) (loc' := lw_LOC i) (st' := [.ref 0]) (h' := h) (cl' := 94) (sl' := 4156) rfl ?_
  refine lw_argz 1 ⟨rfl, rfl, rfl, rfl, rfl⟩ (by decide) h0 h1 h2 e1 ?_
  refine fw_call 119 2 0 [.ref 0, fI z1] [] rfl rfl rfl (by decide) rfl rfl (lw_fit (by decide +kernel) hl0 hc0 (Nat.le_of_ble_eq_true rfl) (Nat.le_of_ble_eq_true rfl) rfl) (la_keep E hK r1) ?_
  rintro _ g1 ⟨v, rfl, ⟨hl1, fs1, hc1⟩, H2⟩
  refine ik_Wk 0 (pc' := 1094) (loc' := lw_LOC i) (st' := [fI v]) (h' := g1) (cl' := 94) (sl' := 4156) rfl ?_
  refine ik_Wk 1 (pc' := 1095) (loc' := lw_LOC i) (st' := []) (h' := g1) (cl' := 94) (sl' := 4156) rfl ?_
  refine ik_Wk 1 (pc' := 1096) (loc' := lw_LOC i) (st' := [.ref 66]) (h' := g1) (cl' := 94) (sl' := 4156) rfl ?_
  refine lw_argz 1 ⟨rfl, rfl, rfl, rfl, rfl⟩ (by decide) h0 h1 h2 e1 ?_
  refine fw_call 209 2 0 [.ref 66, fI z1] [] rfl rfl rfl (by decide) rfl rfl (lw_fit (by decide +kernel) hl1 hc1 (Nat.le_of_ble_eq_true rfl) (Nat.le_of_ble_eq_true rfl) rfl) H2 ?_
  rintro _ g2 ⟨rfl, E2⟩
  refine ik_Wk 0 (pc' := 1104) (loc' := lw_LOC i) (st' := [fI v]) (h' := g2) (cl' := 94) (sl' := 4156) rfl ?_
  refine ik_Wk 1 (pc' := 1105) (loc' := lw_LOC i) (st' := []) (h' := g2) (cl' := 94) (sl' := 4156) rfl ?_
  refine ik_Wk 1 (pc' := 1131) (loc' := lw_LOC i) (st' := []) (h' := g2) (cl' := 94) (sl' := 4156) rfl ?_
  exact kk _ E2
set_option maxHeartbeats 4000000 in
set_option maxRecDepth 100000 in
theorem lw_k30 {L : Nat} {f : Nat → Int32} {i : Int32} {h : List ik_E} {K : Nat} (E : st_S K h) (hK : K ≤ 600) (h0 : 0 ≤ i.toInt) (h1 : i.toInt + 4 < L) (h2 : L ≤ 2560) (kk : ∀ h', st_S (K + 1) h' → ik_W (some (L, f)) 0 1131 (lw_LOC i) [] h' 94 4156 lw_post) : ik_W (some (L, f)) 0 1108 (lw_LOC i) [] h 94 4156 lw_post := by
  obtain ⟨hl0, fs0, hc0⟩ := st_0 E
  obtain ⟨z1, e1, r1⟩ := lw_z (f (i.toInt.toNat + 1))
  refine ik_Wk 1 (pc' := 1109) (loc' := lw_LOC i) (st' := [.ref 0]) (h' := h) (cl' := 94) (sl' := 4156) rfl ?_
  refine lw_argz 1 ⟨rfl, rfl, rfl, rfl, rfl⟩ (by decide) h0 h1 h2 e1 ?_
  refine fw_call 120 2 0 [.ref 0, fI z1] [] rfl rfl rfl (by decide) rfl rfl (lw_fit (by decide +kernel) hl0 hc0 (Nat.le_of_ble_eq_true rfl) (Nat.le_of_ble_eq_true rfl) rfl) (la_goBack E hK r1) ?_
  rintro _ g1 ⟨v, rfl, ⟨hl1, fs1, hc1⟩, H2⟩
  refine ik_Wk 0 (pc' := 1117) (loc' := lw_LOC i) (st' := [fI v]) (h' := g1) (cl' := 94) (sl' := 4156) rfl ?_
  refine ik_Wk 1 (pc' := 1118) (loc' := lw_LOC i) (st' := [.ref 66, fI v]) (h' := g1) (cl' := 94) (sl' := 4156) rfl ?_
  refine lw_argz 1 ⟨rfl, rfl, rfl, rfl, rfl⟩ (by decide) h0 h1 h2 e1 ?_
  refine fw_call 210 2 0 [.ref 66, fI z1] [fI v] rfl rfl rfl (by decide) rfl rfl (lw_fit (by decide +kernel) hl1 hc1 (Nat.le_of_ble_eq_true rfl) (Nat.le_of_ble_eq_true rfl) rfl) H2 ?_
  rintro _ g2 ⟨rfl, E2⟩
  refine ik_Wk 0 (pc' := 1126) (loc' := lw_LOC i) (st' := [fI v, fI v]) (h' := g2) (cl' := 94) (sl' := 4156) rfl ?_
  refine ik_Wif 1 1131 1129 (loc' := lw_LOC i) (st' := []) (h' := g2) (cl' := 94) (sl' := 4156) rfl ?_ ?_
  · intro _
    exact kk _ E2
  · intro q
    exact absurd rfl q
set_option maxHeartbeats 4000000 in
set_option maxRecDepth 100000 in
theorem lw_body {L : Nat} {f : Nat → Int32} {i : Int32} {h : List ik_E} {K : Nat} (E : st_S K h) (hK : K ≤ 600) (h0 : 0 ≤ i.toInt) (h1 : i.toInt + 4 < L) (h2 : L ≤ 2560) (kk : ∀ h', st_S (K + 1) h' → ik_W (some (L, f)) 0 1131 (lw_LOC i) [] h' 94 4156 lw_post) : ik_W (some (L, f)) 0 26 (lw_LOC i) [] h 94 4156 lw_post := by
  refine ik_Wk 2 (pc' := 28) (loc' := lw_LOC i) (st' := [.int i, .retAddr 0]) (h' := h) (cl' := 94) (sl' := 4156) rfl ?_
  refine lw_ld rfl h0 (by omega) ?_
  refine ik_Wk 2 (pc' := 32) (loc' := lw_LOC i) (st' := [.int (f i.toInt.toNat &&& 31)]) (h' := h) (cl' := 94) (sl' := 4156) rfl ?_
  obtain ⟨j, hj, ej⟩ := pk_andE (f i.toInt.toNat) (m := 31) 5 (by decide)
  rw [ej]
  have hj2 : j = 0 ∨ j = 1 ∨ j = 2 ∨ j = 3 ∨ j = 4 ∨ j = 5 ∨ j = 6 ∨ j = 7 ∨ j = 8 ∨ j = 9 ∨ j = 10 ∨ j = 11 ∨ j = 12 ∨ j = 13 ∨ j = 14 ∨ j = 15 ∨ j = 16 ∨ j = 17 ∨ j = 18 ∨ j = 19 ∨ j = 20 ∨ j = 21 ∨ j = 22 ∨ j = 23 ∨ j = 24 ∨ j = 25 ∨ j = 26 ∨ j = 27 ∨ j = 28 ∨ j = 29 ∨ j = 30 ∨ j = 31 := by omega
  rcases hj2 with rfl | rfl | rfl | rfl | rfl | rfl | rfl | rfl | rfl | rfl | rfl | rfl | rfl | rfl | rfl | rfl | rfl | rfl | rfl | rfl | rfl | rfl | rfl | rfl | rfl | rfl | rfl | rfl | rfl | rfl | rfl | rfl
  · exact ik_Wsi 1099 0 30 #[140, 203, 216, 229, 252, 295, 338, 381, 434, 477, 520, 543, 586, 629, 678, 711, 744, 757, 780, 793, 846, 879, 902, 925, 938, 961, 994, 1007, 1030, 1053, 1076] 140 172 rfl (by decide) (by decide) rfl (lw_k0 E hK h0 h1 h2 kk)
  · exact ik_Wsi 1099 0 30 #[140, 203, 216, 229, 252, 295, 338, 381, 434, 477, 520, 543, 586, 629, 678, 711, 744, 757, 780, 793, 846, 879, 902, 925, 938, 961, 994, 1007, 1030, 1053, 1076] 203 235 rfl (by decide) (by decide) rfl (lw_k1 E hK h0 h1 h2 kk)
  · exact ik_Wsi 1099 0 30 #[140, 203, 216, 229, 252, 295, 338, 381, 434, 477, 520, 543, 586, 629, 678, 711, 744, 757, 780, 793, 846, 879, 902, 925, 938, 961, 994, 1007, 1030, 1053, 1076] 216 248 rfl (by decide) (by decide) rfl (lw_k2 E hK h0 h1 h2 kk)
  · exact ik_Wsi 1099 0 30 #[140, 203, 216, 229, 252, 295, 338, 381, 434, 477, 520, 543, 586, 629, 678, 711, 744, 757, 780, 793, 846, 879, 902, 925, 938, 961, 994, 1007, 1030, 1053, 1076] 229 261 rfl (by decide) (by decide) rfl (lw_k3 E hK h0 h1 h2 kk)
  · exact ik_Wsi 1099 0 30 #[140, 203, 216, 229, 252, 295, 338, 381, 434, 477, 520, 543, 586, 629, 678, 711, 744, 757, 780, 793, 846, 879, 902, 925, 938, 961, 994, 1007, 1030, 1053, 1076] 252 284 rfl (by decide) (by decide) rfl (lw_k4 E hK h0 h1 h2 kk)
  · exact ik_Wsi 1099 0 30 #[140, 203, 216, 229, 252, 295, 338, 381, 434, 477, 520, 543, 586, 629, 678, 711, 744, 757, 780, 793, 846, 879, 902, 925, 938, 961, 994, 1007, 1030, 1053, 1076] 295 327 rfl (by decide) (by decide) rfl (lw_k5 E hK h0 h1 h2 kk)
  · exact ik_Wsi 1099 0 30 #[140, 203, 216, 229, 252, 295, 338, 381, 434, 477, 520, 543, 586, 629, 678, 711, 744, 757, 780, 793, 846, 879, 902, 925, 938, 961, 994, 1007, 1030, 1053, 1076] 338 370 rfl (by decide) (by decide) rfl (lw_k6 E hK h0 h1 h2 kk)
  · exact ik_Wsi 1099 0 30 #[140, 203, 216, 229, 252, 295, 338, 381, 434, 477, 520, 543, 586, 629, 678, 711, 744, 757, 780, 793, 846, 879, 902, 925, 938, 961, 994, 1007, 1030, 1053, 1076] 381 413 rfl (by decide) (by decide) rfl (lw_k7 E hK h0 h1 h2 kk)
  · exact ik_Wsi 1099 0 30 #[140, 203, 216, 229, 252, 295, 338, 381, 434, 477, 520, 543, 586, 629, 678, 711, 744, 757, 780, 793, 846, 879, 902, 925, 938, 961, 994, 1007, 1030, 1053, 1076] 434 466 rfl (by decide) (by decide) rfl (lw_k8 E hK h0 h1 h2 kk)
  · exact ik_Wsi 1099 0 30 #[140, 203, 216, 229, 252, 295, 338, 381, 434, 477, 520, 543, 586, 629, 678, 711, 744, 757, 780, 793, 846, 879, 902, 925, 938, 961, 994, 1007, 1030, 1053, 1076] 477 509 rfl (by decide) (by decide) rfl (lw_k9 E hK h0 h1 h2 kk)
  · exact ik_Wsi 1099 0 30 #[140, 203, 216, 229, 252, 295, 338, 381, 434, 477, 520, 543, 586, 629, 678, 711, 744, 757, 780, 793, 846, 879, 902, 925, 938, 961, 994, 1007, 1030, 1053, 1076] 520 552 rfl (by decide) (by decide) rfl (lw_k10 E hK h0 h1 h2 kk)
  · exact ik_Wsi 1099 0 30 #[140, 203, 216, 229, 252, 295, 338, 381, 434, 477, 520, 543, 586, 629, 678, 711, 744, 757, 780, 793, 846, 879, 902, 925, 938, 961, 994, 1007, 1030, 1053, 1076] 543 575 rfl (by decide) (by decide) rfl (lw_k11 E hK h0 h1 h2 kk)
  · exact ik_Wsi 1099 0 30 #[140, 203, 216, 229, 252, 295, 338, 381, 434, 477, 520, 543, 586, 629, 678, 711, 744, 757, 780, 793, 846, 879, 902, 925, 938, 961, 994, 1007, 1030, 1053, 1076] 586 618 rfl (by decide) (by decide) rfl (lw_k12 E hK h0 h1 h2 kk)
  · exact ik_Wsi 1099 0 30 #[140, 203, 216, 229, 252, 295, 338, 381, 434, 477, 520, 543, 586, 629, 678, 711, 744, 757, 780, 793, 846, 879, 902, 925, 938, 961, 994, 1007, 1030, 1053, 1076] 629 661 rfl (by decide) (by decide) rfl (lw_k13 E hK h0 h1 h2 kk)
  · exact ik_Wsi 1099 0 30 #[140, 203, 216, 229, 252, 295, 338, 381, 434, 477, 520, 543, 586, 629, 678, 711, 744, 757, 780, 793, 846, 879, 902, 925, 938, 961, 994, 1007, 1030, 1053, 1076] 678 710 rfl (by decide) (by decide) rfl (lw_k14 E hK h0 h1 h2 kk)
  · exact ik_Wsi 1099 0 30 #[140, 203, 216, 229, 252, 295, 338, 381, 434, 477, 520, 543, 586, 629, 678, 711, 744, 757, 780, 793, 846, 879, 902, 925, 938, 961, 994, 1007, 1030, 1053, 1076] 711 743 rfl (by decide) (by decide) rfl (lw_k15 E hK h0 h1 h2 kk)
  · exact ik_Wsi 1099 0 30 #[140, 203, 216, 229, 252, 295, 338, 381, 434, 477, 520, 543, 586, 629, 678, 711, 744, 757, 780, 793, 846, 879, 902, 925, 938, 961, 994, 1007, 1030, 1053, 1076] 744 776 rfl (by decide) (by decide) rfl (lw_k16 E hK h0 h1 h2 kk)
  · exact ik_Wsi 1099 0 30 #[140, 203, 216, 229, 252, 295, 338, 381, 434, 477, 520, 543, 586, 629, 678, 711, 744, 757, 780, 793, 846, 879, 902, 925, 938, 961, 994, 1007, 1030, 1053, 1076] 757 789 rfl (by decide) (by decide) rfl (lw_k17 E hK h0 h1 h2 kk)
  · exact ik_Wsi 1099 0 30 #[140, 203, 216, 229, 252, 295, 338, 381, 434, 477, 520, 543, 586, 629, 678, 711, 744, 757, 780, 793, 846, 879, 902, 925, 938, 961, 994, 1007, 1030, 1053, 1076] 780 812 rfl (by decide) (by decide) rfl (lw_k18 E hK h0 h1 h2 kk)
  · exact ik_Wsi 1099 0 30 #[140, 203, 216, 229, 252, 295, 338, 381, 434, 477, 520, 543, 586, 629, 678, 711, 744, 757, 780, 793, 846, 879, 902, 925, 938, 961, 994, 1007, 1030, 1053, 1076] 793 825 rfl (by decide) (by decide) rfl (lw_k19 E hK h0 h1 h2 kk)
  · exact ik_Wsi 1099 0 30 #[140, 203, 216, 229, 252, 295, 338, 381, 434, 477, 520, 543, 586, 629, 678, 711, 744, 757, 780, 793, 846, 879, 902, 925, 938, 961, 994, 1007, 1030, 1053, 1076] 846 878 rfl (by decide) (by decide) rfl (lw_k20 E hK h0 h1 h2 kk)
  · exact ik_Wsi 1099 0 30 #[140, 203, 216, 229, 252, 295, 338, 381, 434, 477, 520, 543, 586, 629, 678, 711, 744, 757, 780, 793, 846, 879, 902, 925, 938, 961, 994, 1007, 1030, 1053, 1076] 879 911 rfl (by decide) (by decide) rfl (lw_k21 E hK h0 h1 h2 kk)
  · exact ik_Wsi 1099 0 30 #[140, 203, 216, 229, 252, 295, 338, 381, 434, 477, 520, 543, 586, 629, 678, 711, 744, 757, 780, 793, 846, 879, 902, 925, 938, 961, 994, 1007, 1030, 1053, 1076] 902 934 rfl (by decide) (by decide) rfl (lw_k22 E hK h0 h1 h2 kk)
  · exact ik_Wsi 1099 0 30 #[140, 203, 216, 229, 252, 295, 338, 381, 434, 477, 520, 543, 586, 629, 678, 711, 744, 757, 780, 793, 846, 879, 902, 925, 938, 961, 994, 1007, 1030, 1053, 1076] 925 957 rfl (by decide) (by decide) rfl (lw_k23 E hK h0 h1 h2 kk)
  · exact ik_Wsi 1099 0 30 #[140, 203, 216, 229, 252, 295, 338, 381, 434, 477, 520, 543, 586, 629, 678, 711, 744, 757, 780, 793, 846, 879, 902, 925, 938, 961, 994, 1007, 1030, 1053, 1076] 938 970 rfl (by decide) (by decide) rfl (lw_k24 E hK h0 h1 h2 kk)
  · exact ik_Wsi 1099 0 30 #[140, 203, 216, 229, 252, 295, 338, 381, 434, 477, 520, 543, 586, 629, 678, 711, 744, 757, 780, 793, 846, 879, 902, 925, 938, 961, 994, 1007, 1030, 1053, 1076] 961 993 rfl (by decide) (by decide) rfl (lw_k25 E hK h0 h1 h2 kk)
  · exact ik_Wsi 1099 0 30 #[140, 203, 216, 229, 252, 295, 338, 381, 434, 477, 520, 543, 586, 629, 678, 711, 744, 757, 780, 793, 846, 879, 902, 925, 938, 961, 994, 1007, 1030, 1053, 1076] 994 1026 rfl (by decide) (by decide) rfl (lw_k26 E hK h0 h1 h2 kk)
  · exact ik_Wsi 1099 0 30 #[140, 203, 216, 229, 252, 295, 338, 381, 434, 477, 520, 543, 586, 629, 678, 711, 744, 757, 780, 793, 846, 879, 902, 925, 938, 961, 994, 1007, 1030, 1053, 1076] 1007 1039 rfl (by decide) (by decide) rfl (lw_k27 E hK h0 h1 h2 kk)
  · exact ik_Wsi 1099 0 30 #[140, 203, 216, 229, 252, 295, 338, 381, 434, 477, 520, 543, 586, 629, 678, 711, 744, 757, 780, 793, 846, 879, 902, 925, 938, 961, 994, 1007, 1030, 1053, 1076] 1030 1062 rfl (by decide) (by decide) rfl (lw_k28 E hK h0 h1 h2 kk)
  · exact ik_Wsi 1099 0 30 #[140, 203, 216, 229, 252, 295, 338, 381, 434, 477, 520, 543, 586, 629, 678, 711, 744, 757, 780, 793, 846, 879, 902, 925, 938, 961, 994, 1007, 1030, 1053, 1076] 1053 1085 rfl (by decide) (by decide) rfl (lw_k29 E hK h0 h1 h2 kk)
  · exact ik_Wsi 1099 0 30 #[140, 203, 216, 229, 252, 295, 338, 381, 434, 477, 520, 543, 586, 629, 678, 711, 744, 757, 780, 793, 846, 879, 902, 925, 938, 961, 994, 1007, 1030, 1053, 1076] 1076 1108 rfl (by decide) (by decide) rfl (lw_k30 E hK h0 h1 h2 kk)
  · refine ik_Wsw 1099 0 30 #[140, 203, 216, 229, 252, 295, 338, 381, 434, 477, 520, 543, 586, 629, 678, 711, 744, 757, 780, 793, 846, 879, 902, 925, 938, 961, 994, 1007, 1030, 1053, 1076] 1131 rfl rfl (by decide) ?_
    exact kk _ (st_K E)
theorem lw_len {L : Nat} (h2 : L ≤ 2560) : (Int32.ofNat L - Int32.ofInt 5).toInt = (L : Int) - 5 := by
  have e1 : (Int32.ofNat L).toInt = L := by
    exact Int32.toInt_ofNat_of_lt (by omega)
  rw [Int32.toInt_sub, e1, show (Int32.ofInt 5).toInt = 5 from rfl]
  exact lw_bm (by omega) (by omega)
set_option maxHeartbeats 4000000 in
set_option maxRecDepth 100000 in
theorem lw_exit {L : Nat} {f : Nat → Int32} (h2 : L ≤ 2560) {i : Int32} {h : List ik_E} (h0 : 0 ≤ i.toInt) (hi : i.toInt ≤ 2560) (hx : ¬ i.toInt + 4 < L) : ik_W (some (L, f)) 0 18 (lw_LOC i) [] h 94 4156 lw_post := by
  refine ik_Wif 6 1137 26 (loc' := lw_LOC i) (st' := []) (h' := h) (cl' := 94) (sl' := 4156) rfl ?_ ?_
  · intro _
    refine ik_Wk 1 (pc' := 1138) (loc' := lw_LOC i) (st' := [.int 1]) (h' := h) (cl' := 94) (sl' := 4156) rfl ?_
    exact ik_Wret rfl rfl ⟨rfl, rfl, Nat.le_of_ble_eq_true rfl, Nat.le_of_ble_eq_true rfl⟩
  · intro q
    rw [cv_lt, lw_len h2] at q
    omega
set_option maxHeartbeats 4000000 in
set_option maxRecDepth 100000 in
theorem lw_loop {L : Nat} {f : Nat → Int32} (h2 : L ≤ 2560) : ∀ (n : Nat) (i : Int32) {h : List ik_E}, 0 ≤ i.toInt → i.toInt ≤ 2560 → (L : Int) - i.toInt < n → ∀ {K : Nat}, st_S K h → 5 * (K : Int) ≤ i.toInt → ik_W (some (L, f)) 0 18 (lw_LOC i) [] h 94 4156 lw_post := by
  intro n
  induction n with
  | zero =>
    intro i h h0 hi hn K E hk
    refine lw_exit h2 h0 hi (by omega)
  | succ n ih =>
    intro i h h0 hi hn K E hk
    by_cases hx : i.toInt + 4 < L
    · refine ik_Wif 6 1137 26 (loc' := lw_LOC i) (st' := []) (h' := h) (cl' := 94) (sl' := 4156) rfl ?_ ?_
      · intro q
        rw [cv_lt, lw_len h2] at q
        omega
      · intro _
        refine lw_body E (by omega) h0 hx h2 ?_
        intro h' E'
        have e5 : (i + Int32.ofInt 5).toInt = i.toInt + 5 := by
          rw [Int32.toInt_add, show (Int32.ofInt 5).toInt = 5 from rfl]
          exact lw_bm (by omega) (by omega)
        refine ik_Wk 2 (pc' := 18) (loc' := lw_LOC (i + Int32.ofInt 5)) (st' := []) (h' := h') (cl' := 94) (sl' := 4156) rfl ?_
        exact ih (i + Int32.ofInt 5) (by omega) (by omega) (by omega) E' (by omega)
    · exact lw_exit h2 h0 hi (by omega)
end
