/-! FEED: which bytes come behind the text -/
def fd_b (b : Int64) (k : Int) : Int64 := b >>> ((Int32.ofInt (8 * k)).toInt64 &&& 63)
/-- k bytes from place l on -/
def fd_w (f : Int → Int) : Nat → Int → List Int → List Int
  | 0, _, T => T
  | k + 1, l, T => fd_w f k (l + 1) (T.set l.toNat (f (k : Int)))
theorem fd_wl (f : Int → Int) : ∀ (k : Nat) (l : Int) (T : List Int), (fd_w f k l T).length = T.length := by
  intro k
  induction k with
  | zero => intro l T; rfl
  | succ k ih => intro l T; rw [fd_w, ih, List.length_set]
theorem fd_wg {f : Int → Int} : ∀ (k : Nat) (l : Int) (T : List Int) (i : Nat), 0 ≤ l → l + (k : Int) ≤ (T.length : Int) → (fd_w f k l T).getD i 0 = if l ≤ (i : Int) ∧ (i : Int) < l + (k : Int) then f (l + (k : Int) - 1 - (i : Int)) else T.getD i 0 := by
  intro k
  induction k with
  | zero => intro l T i h0 h1; rw [if_neg (by omega)]; rfl
  | succ k ih =>
    intro l T i h0 h1
    rw [fd_w, ih (l + 1) _ i (by omega) (by rw [List.length_set]; omega), fz_getD_set]
    by_cases e2 : l + 1 ≤ (i : Int) ∧ (i : Int) < l + 1 + (k : Int)
    · rw [if_pos e2, if_pos ⟨by omega, by omega⟩]
      congr 1
      omega
    · rw [if_neg e2]
      by_cases e : (i : Int) = l
      · rw [if_pos ⟨by omega, by omega⟩, if_pos ⟨by omega, by omega⟩]
        congr 1
        omega
      · rw [if_neg (fun q => e (by omega)), if_neg (by omega)]
def fd_c (b : Int64) (k : Int) : Int := (vp_nar .byte (fd_b b k).toInt32.toInt8.toInt32).toInt
def fd_r (b : Int64) (k : Int) : Int := (fd_b b k &&& 255).toInt32.toInt
theorem fd_and (x : Int64) : (x &&& 255).toInt32.toInt = x.toInt % 256 := by
  have h1 : (x &&& 255).toBitVec = x.toBitVec &&& 255#64 := rfl
  have h2 : (x &&& 255).toInt = x.toInt % 256 := by
    have e : (x &&& 255).toInt = (x.toBitVec &&& 255#64).toInt := rfl
    have e1 : (x.toBitVec &&& 255#64).toNat = x.toBitVec.toNat % 256 := by
      rw [BitVec.toNat_and]
      exact Nat.and_two_pow_sub_one_eq_mod x.toBitVec.toNat 8
    have e2 : (x.toBitVec &&& 255#64).toInt = ((x.toBitVec.toNat % 256 : Nat) : Int) := by
      rw [BitVec.toInt_eq_toNat_cond, e1, if_pos (by omega)]
    have e3 : x.toInt = x.toBitVec.toInt := rfl
    rw [e, e2, e3, BitVec.toInt_eq_toNat_cond]
    have := x.toBitVec.isLt
    split <;> omega
  rw [Int64.toInt_toInt32, h2, Int.bmod_def]
  have h0 : 0 ≤ x.toInt % 256 := Int.emod_nonneg _ (by decide)
  have h3 : x.toInt % 256 < 256 := Int.emod_lt_of_pos _ (by decide)
  split <;> omega
theorem fd_byte (x : Int32) : (vp_nar .byte x.toInt8.toInt32).toInt = x.toInt8.toInt := by
  show (x.toInt8.toInt32.toInt8.toInt32).toInt = x.toInt8.toInt
  rw [Int8.toInt8_toInt32, Int8.toInt_toInt32]
theorem fd_cr (b : Int64) (k : Int) : -128 ≤ fd_c b k ∧ fd_c b k ≤ 127 ∧ fd_c b k % 256 = fd_r b k := by
  have h1 : fd_c b k = (fd_b b k).toInt32.toInt8.toInt := fd_byte _
  have h2 : (fd_b b k).toInt32.toInt8.toInt = ((fd_b b k).toInt.bmod (2 ^ 32)).bmod (2 ^ 8) := by rw [Int32.toInt_toInt8, Int64.toInt_toInt32]
  have h3 := fd_and (fd_b b k)
  have h4 : fd_r b k = (fd_b b k).toInt % 256 := h3
  rw [h1, h2, h4]
  generalize (fd_b b k).toInt = z
  rw [Int.bmod_def, Int.bmod_def]
  refine ⟨?_, ?_, ?_⟩ <;> (repeat split) <;> omega

theorem fw_bas {X : Option (Nat × (Nat → Int32))} {mid pc : Nat} {loc : ik_L} {r : List Value} {h : List ik_E} {cl sl : Nat} {post : ik_St → Prop} {a : Nat} {z : Int} {v : Int32} {xs : List Int} {h' : List ik_E} (hi : ik_at mid pc = some .bastore) (hc : h[a]? = some (.inl (.byte, fA xs))) (h0 : 0 ≤ z) (h1 : z.toNat < xs.length) (h2 : z < 2147483648) (hh : h.set a (.inl (.byte, fA (xs.set z.toNat (vp_nar .byte v).toInt))) = h') (K : ik_W X mid (pc + 1) loc r h' cl sl post) : ik_W X mid pc loc (.int v :: fI z :: .ref a :: r) h cl sl post := by
  subst hh
  refine fw_1 hi rfl rfl ?_ K
  simp only [ik_step, hc, ik_bo]
  rw [if_pos ⟨fi_z h0 h2, by rw [fi_n h0 h2, fA_len]; exact h1⟩, fi_n h0 h2, ← fA_set, fI, Int32.ofInt_toInt]
theorem fw_iar {X : Option (Nat × (Nat → Int32))} {mid pc : Nat} {loc : ik_L} {r : List Value} {h : List ik_E} {cl sl : Nat} {post : ik_St → Prop} {a : Nat} {z : Int} {v : Int32} {xs : List Int} {h' : List ik_E} (hi : ik_at mid pc = some .iastore) (hc : h[a]? = some (.inl (.int, fA xs))) (h0 : 0 ≤ z) (h1 : z.toNat < xs.length) (h2 : z < 2147483648) (hh : h.set a (.inl (.int, fA (xs.set z.toNat v.toInt))) = h') (K : ik_W X mid (pc + 1) loc r h' cl sl post) : ik_W X mid pc loc (.int v :: fI z :: .ref a :: r) h cl sl post := by
  subst hh
  refine fw_1 hi rfl rfl ?_ K
  simp only [ik_step, hc, ik_bo]
  rw [if_pos ⟨fi_z h0 h2, by rw [fi_n h0 h2, fA_len]; exact h1⟩, fi_n h0 h2, ← fA_set, fI, Int32.ofInt_toInt]

theorem cz_app {c0 : ik_E} {tl : List ik_E} {cur fl fb pl : Int} {C G P B : List Int} {m : Int} {b : Int64} : ∀ (k : Nat) (n : Int) (T : List Int), T.length = 500 → 0 ≤ n → n + (k : Int) ≤ 500 → (k : Int) ≤ 8 → ik_G 55 5 [some (.ref 1), some (fI m), some (.long b), none, some (fI ((k : Int) - 1))] [] (c0 :: cz_t T n cur fl fb pl C G P B tl) (fun rv h' => rv = [fI (n + (k : Int))] ∧ h' = c0 :: cz_t (fd_w (fd_c b) k n T) (n + (k : Int)) cur fl fb pl C G P B tl) := by
  intro k
  induction k with
  | zero =>
    intro n T hT h0 h1 h2
    refine ik_Wk 1 (pc' := 7) (loc' := [some (.ref 1), some (fI m), some (.long b), none, some (fI (((0 : Nat) : Int) - 1))]) (st' := [fI (((0 : Nat) : Int) - 1)]) (h' := c0 :: cz_t T n cur fl fb pl C G P B tl) (cl' := 0) (sl' := 0) rfl ?_
    refine fw_if_lt rfl rfl (by omega) (by omega) (fun _ => ?_) (fun q => absurd q (by omega))
    refine ik_Wk 1 (pc' := 45) (loc' := [some (.ref 1), some (fI m), some (.long b), none, some (fI (((0 : Nat) : Int) - 1))]) (st' := [.ref 1]) (h' := c0 :: cz_t T n cur fl fb pl C G P B tl) (cl' := 0) (sl' := 0) rfl ?_
    refine fw_gf rfl rfl rfl rfl ?_
    refine ik_Wret rfl rfl ⟨_, _, rfl, rfl, rfl, rfl, ⟨?_, ?_⟩⟩
    · rw [show n + ((0 : Nat) : Int) = n by omega]
    · rw [show n + ((0 : Nat) : Int) = n by omega]; rfl
  | succ k ih =>
    intro n T hT h0 h1 h2
    have ek : ((k + 1 : Nat) : Int) - 1 = (k : Int) := by omega
    rw [ek]
    refine ik_Wk 1 (pc' := 7) (loc' := [some (.ref 1), some (fI m), some (.long b), none, some (fI (k : Int))]) (st' := [fI (k : Int)]) (h' := c0 :: cz_t T n cur fl fb pl C G P B tl) (cl' := 0) (sl' := 0) rfl ?_
    refine fw_if_lt rfl rfl (by omega) (by omega) (fun q => absurd q (by omega)) (fun _ => ?_)
    refine ik_Wk 1 (pc' := 11) (loc' := [some (.ref 1), some (fI m), some (.long b), none, some (fI (k : Int))]) (st' := [.ref 1]) (h' := c0 :: cz_t T n cur fl fb pl C G P B tl) (cl' := 0) (sl' := 0) rfl ?_
    refine fw_gf rfl rfl rfl rfl ?_
    refine ik_Wk 1 (pc' := 15) (loc' := [some (.ref 1), some (fI m), some (.long b), none, some (fI (k : Int))]) (st' := [.ref 1, .ref 2]) (h' := c0 :: cz_t T n cur fl fb pl C G P B tl) (cl' := 0) (sl' := 0) rfl ?_
    refine fw_gf rfl rfl rfl rfl ?_
    refine ik_Wk 1 (pc' := 19) (loc' := [some (.ref 1), some (fI m), some (.long b), none, some (fI (k : Int))]) (st' := [.long b, fI n, .ref 2]) (h' := c0 :: cz_t T n cur fl fb pl C G P B tl) (cl' := 0) (sl' := 0) rfl ?_
    refine fw_bi rfl (by decide) ?_
    refine ik_Wk 1 (pc' := 23) (loc' := [some (.ref 1), some (fI m), some (.long b), none, some (fI (k : Int))]) (st' := [fI (k : Int), fI 8, .long b, fI n, .ref 2]) (h' := c0 :: cz_t T n cur fl fb pl C G P B tl) (cl' := 0) (sl' := 0) rfl ?_
    refine fw_mul rfl ?_
    refine ik_Wk 3 (pc' := 27) (loc' := [some (.ref 1), some (fI m), some (.long b), none, some (fI (k : Int))]) (st' := [.int (fd_b b (k : Int)).toInt32.toInt8.toInt32, fI n, .ref 2]) (h' := c0 :: cz_t T n cur fl fb pl C G P B tl) (cl' := 0) (sl' := 0) rfl ?_
    refine fw_bas (h' := c0 :: cz_t (T.set n.toNat (fd_c b (k : Int))) n cur fl fb pl C G P B tl) rfl rfl h0 (by omega) (by omega) rfl ?_
    refine ik_Wk 2 (pc' := 30) (loc' := [some (.ref 1), some (fI m), some (.long b), none, some (fI (k : Int))]) (st' := [.ref 1, .ref 1]) (h' := c0 :: cz_t (T.set n.toNat (fd_c b (k : Int))) n cur fl fb pl C G P B tl) (cl' := 0) (sl' := 0) rfl ?_
    refine fw_gf rfl rfl rfl rfl ?_
    refine ik_Wk 1 (pc' := 34) (loc' := [some (.ref 1), some (fI m), some (.long b), none, some (fI (k : Int))]) (st' := [fI 1, fI n, .ref 1]) (h' := c0 :: cz_t (T.set n.toNat (fd_c b (k : Int))) n cur fl fb pl C G P B tl) (cl' := 0) (sl' := 0) rfl ?_
    refine fw_add rfl ?_
    refine fw_pf (h' := c0 :: cz_t (T.set n.toNat (fd_c b (k : Int))) (n + 1) cur fl fb pl C G P B tl) rfl rfl rfl (Nat.le_of_ble_eq_true rfl) rfl rfl rfl ?_
    refine fw_inc (a := (k : Int)) (loc' := [some (.ref 1), some (fI m), some (.long b), none, some (fI ((k : Int) + (-1)))]) rfl rfl (Nat.le_of_ble_eq_true rfl) rfl ?_
    rw [show (k : Int) + (-1) = (k : Int) - 1 by omega]
    refine ik_Wk 1 (pc' := 5) (loc' := [some (.ref 1), some (fI m), some (.long b), none, some (fI ((k : Int) - 1))]) (st' := []) (h' := c0 :: cz_t (T.set n.toNat (fd_c b (k : Int))) (n + 1) cur fl fb pl C G P B tl) (cl' := 0) (sl' := 0) rfl ?_
    have en : n + ((k + 1 : Nat) : Int) = n + 1 + (k : Int) := by omega
    rw [en, fd_w]
    exact ih (n + 1) _ ((List.length_set ..).trans hT) (by omega) (by omega) (by omega)

theorem rz_app {pre tl : List ik_E} {w : Nat → Value} {wt : List Value} {c : Nat → ik_E} {fp a0 sd we nu na rp : Int} {M R O A : List Int} {m : Int} {b : Int64} (hpre : pre.length = 66) : ∀ (k : Nat) (n : Int) (T : List Int), T.length = 500 → 0 ≤ n → n + (k : Int) ≤ 500 → (k : Int) ≤ 8 → ik_G 135 35 [some (.ref 66), some (fI m), some (.long b), none, some (fI ((k : Int) - 1))] [] (pre ++ rz_t w wt c tl T n fp a0 sd we nu na rp M R O A) (fun rv h' => rv = [fI (n + (k : Int))] ∧ h' = (pre ++ rz_t w wt c tl (fd_w (fd_r b) k n T) (n + (k : Int)) fp a0 sd we nu na rp M R O A)) := by
  intro k
  induction k with
  | zero =>
    intro n T hT h0 h1 h2
    refine ik_Wk 1 (pc' := 37) (loc' := [some (.ref 66), some (fI m), some (.long b), none, some (fI (((0 : Nat) : Int) - 1))]) (st' := [fI (((0 : Nat) : Int) - 1)]) (h' := (pre ++ rz_t w wt c tl T n fp a0 sd we nu na rp M R O A)) (cl' := 0) (sl' := 0) rfl ?_
    refine fw_if_lt rfl rfl (by omega) (by omega) (fun _ => ?_) (fun q => absurd q (by omega))
    refine ik_Wk 1 (pc' := 78) (loc' := [some (.ref 66), some (fI m), some (.long b), none, some (fI (((0 : Nat) : Int) - 1))]) (st' := [.ref 66]) (h' := (pre ++ rz_t w wt c tl T n fp a0 sd we nu na rp M R O A)) (cl' := 0) (sl' := 0) rfl ?_
    refine fw_gf rfl rfl (rz_g 0 hpre rfl) rfl ?_
    refine ik_Wret rfl rfl ⟨_, _, rfl, rfl, rfl, rfl, ⟨?_, ?_⟩⟩
    · rw [show n + ((0 : Nat) : Int) = n by omega]
    · rw [show n + ((0 : Nat) : Int) = n by omega]; rfl
  | succ k ih =>
    intro n T hT h0 h1 h2
    have ek : ((k + 1 : Nat) : Int) - 1 = (k : Int) := by omega
    rw [ek]
    refine ik_Wk 1 (pc' := 37) (loc' := [some (.ref 66), some (fI m), some (.long b), none, some (fI (k : Int))]) (st' := [fI (k : Int)]) (h' := (pre ++ rz_t w wt c tl T n fp a0 sd we nu na rp M R O A)) (cl' := 0) (sl' := 0) rfl ?_
    refine fw_if_lt rfl rfl (by omega) (by omega) (fun q => absurd q (by omega)) (fun _ => ?_)
    refine ik_Wk 1 (pc' := 41) (loc' := [some (.ref 66), some (fI m), some (.long b), none, some (fI (k : Int))]) (st' := [.ref 66]) (h' := (pre ++ rz_t w wt c tl T n fp a0 sd we nu na rp M R O A)) (cl' := 0) (sl' := 0) rfl ?_
    refine fw_gf rfl rfl (rz_g 0 hpre rfl) rfl ?_
    refine ik_Wk 1 (pc' := 45) (loc' := [some (.ref 66), some (fI m), some (.long b), none, some (fI (k : Int))]) (st' := [.ref 66, .ref 72]) (h' := (pre ++ rz_t w wt c tl T n fp a0 sd we nu na rp M R O A)) (cl' := 0) (sl' := 0) rfl ?_
    refine fw_gf rfl rfl (rz_g 0 hpre rfl) rfl ?_
    refine ik_Wk 1 (pc' := 49) (loc' := [some (.ref 66), some (fI m), some (.long b), none, some (fI (k : Int))]) (st' := [.long b, fI n, .ref 72]) (h' := (pre ++ rz_t w wt c tl T n fp a0 sd we nu na rp M R O A)) (cl' := 0) (sl' := 0) rfl ?_
    refine fw_bi rfl (by decide) ?_
    refine ik_Wk 1 (pc' := 53) (loc' := [some (.ref 66), some (fI m), some (.long b), none, some (fI (k : Int))]) (st' := [fI (k : Int), fI 8, .long b, fI n, .ref 72]) (h' := (pre ++ rz_t w wt c tl T n fp a0 sd we nu na rp M R O A)) (cl' := 0) (sl' := 0) rfl ?_
    refine fw_mul rfl ?_
    refine ik_Wk 1 (pc' := 55) (loc' := [some (.ref 66), some (fI m), some (.long b), none, some (fI (k : Int))]) (st' := [.long (fd_b b (k : Int)), fI n, .ref 72]) (h' := (pre ++ rz_t w wt c tl T n fp a0 sd we nu na rp M R O A)) (cl' := 0) (sl' := 0) rfl ?_
    refine fw_l2 255 rfl rfl (by decide) ?_
    refine ik_Wk 2 (pc' := 60) (loc' := [some (.ref 66), some (fI m), some (.long b), none, some (fI (k : Int))]) (st' := [.int (fd_b b (k : Int) &&& 255).toInt32, fI n, .ref 72]) (h' := (pre ++ rz_t w wt c tl T n fp a0 sd we nu na rp M R O A)) (cl' := 0) (sl' := 0) rfl ?_
    refine fw_iar (h' := (pre ++ rz_t w wt c tl (T.set n.toNat (fd_r b (k : Int))) n fp a0 sd we nu na rp M R O A)) rfl (rz_g 6 hpre rfl) h0 (by omega) (by omega) (rz_s 6 hpre rfl) ?_
    refine ik_Wk 2 (pc' := 63) (loc' := [some (.ref 66), some (fI m), some (.long b), none, some (fI (k : Int))]) (st' := [.ref 66, .ref 66]) (h' := (pre ++ rz_t w wt c tl (T.set n.toNat (fd_r b (k : Int))) n fp a0 sd we nu na rp M R O A)) (cl' := 0) (sl' := 0) rfl ?_
    refine fw_gf rfl rfl (rz_g 0 hpre rfl) rfl ?_
    refine ik_Wk 1 (pc' := 67) (loc' := [some (.ref 66), some (fI m), some (.long b), none, some (fI (k : Int))]) (st' := [fI 1, fI n, .ref 66]) (h' := (pre ++ rz_t w wt c tl (T.set n.toNat (fd_r b (k : Int))) n fp a0 sd we nu na rp M R O A)) (cl' := 0) (sl' := 0) rfl ?_
    refine fw_add rfl ?_
    refine fw_pf (h' := (pre ++ rz_t w wt c tl (T.set n.toNat (fd_r b (k : Int))) (n + 1) fp a0 sd we nu na rp M R O A)) rfl rfl (rz_g 0 hpre rfl) (Nat.le_of_ble_eq_true rfl) rfl rfl (rz_s 0 hpre rfl) ?_
    refine fw_inc (a := (k : Int)) (loc' := [some (.ref 66), some (fI m), some (.long b), none, some (fI ((k : Int) + (-1)))]) rfl rfl (Nat.le_of_ble_eq_true rfl) rfl ?_
    rw [show (k : Int) + (-1) = (k : Int) - 1 by omega]
    refine ik_Wk 1 (pc' := 35) (loc' := [some (.ref 66), some (fI m), some (.long b), none, some (fI ((k : Int) - 1))]) (st' := []) (h' := (pre ++ rz_t w wt c tl (T.set n.toNat (fd_r b (k : Int))) (n + 1) fp a0 sd we nu na rp M R O A)) (cl' := 0) (sl' := 0) rfl ?_
    have en : n + ((k + 1 : Nat) : Int) = n + 1 + (k : Int) := by omega
    rw [en, fd_w]
    exact ih (n + 1) _ ((List.length_set ..).trans hT) (by omega) (by omega) (by omega)
