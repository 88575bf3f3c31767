/-! RULES to walk by hand (printed by wip/fw/fe.py): whole numbers as they are, 'fI z' an int, 'fJ z' a long, 'fA xs' the ints of a row; a heap is 'pre ++ t', t the cells that are looked at -/
abbrev fI (z : Int) : Value := .int (Int32.ofInt z)
abbrev fJ (z : Int) : Value := .long (Int64.ofInt z)
def fA (xs : List Int) : List Value := xs.map fI
theorem fi_i {a : Int} (h1 : -2147483648 ≤ a) (h2 : a < 2147483648) : (Int32.ofInt a).toInt = a := Int32.toInt_ofInt_of_le (by omega) (by omega)
theorem fj_i {a : Int} (h1 : -9223372036854775808 ≤ a) (h2 : a < 9223372036854775808) : (Int64.ofInt a).toInt = a := Int64.toInt_ofInt_of_le (by omega) (by omega)
theorem fi_n {a : Int} (h1 : 0 ≤ a) (h2 : a < 2147483648) : (Int32.ofInt a).toNatClampNeg = a.toNat := Int32.toNatClampNeg_ofInt_of_le (by omega) (by omega)
theorem fi_z {a : Int} (h1 : 0 ≤ a) (h2 : a < 2147483648) : ¬ Int32.ofInt a < 0 := by
  rw [cv_lt, fi_i (by omega) h2]
  have : (0 : Int32).toInt = 0 := by decide
  omega
theorem fi_l {a : Int} (h1 : -2147483648 ≤ a) (h2 : a < 2147483648) : (Int32.ofInt a).toInt64 = Int64.ofInt a := Int64.toInt_inj.mp (by rw [Int32.toInt_toInt64, fi_i h1 h2, fj_i (by omega) (by omega)])
theorem fA_len (xs : List Int) : (fA xs).length = xs.length := List.length_map _
theorem fA_get {xs : List Int} {k : Nat} (h : k < xs.length) : (fA xs)[k]? = some (fI (xs.getD k 0)) := by
  unfold fA
  rw [List.getElem?_map, List.getElem?_eq_getElem h, List.getD_eq_getElem?_getD, List.getElem?_eq_getElem h]
  rfl
theorem fA_set (xs : List Int) (k : Nat) (v : Int) : (fA xs).set k (fI v) = fA (xs.set k v) := by
  unfold fA
  rw [List.map_set]
theorem fz_getD_set (xs : List Int) (k : Nat) (v : Int) (j : Nat) : (xs.set k v).getD j 0 = if j = k ∧ k < xs.length then v else xs.getD j 0 := by
  rw [List.getD_eq_getElem?_getD, List.getD_eq_getElem?_getD, List.getElem?_set]
  by_cases h1 : k = j
  · subst h1
    by_cases h2 : k < xs.length
    · rw [if_pos rfl, if_pos h2, if_pos ⟨rfl, h2⟩]; rfl
    · rw [if_pos rfl, if_neg h2, if_neg (fun q => h2 q.2), List.getElem?_eq_none (Nat.le_of_not_lt h2)]
  · rw [if_neg h1, if_neg (fun q => h1 q.1.symm)]
section
variable {X : Option (Nat × (Nat → Int32))} {mid pc : Nat} {loc : ik_L} {st r : List Value} {h : List ik_E} {cl sl : Nat} {post : ik_St → Prop}
theorem fw_1 {i : Instr} {pc' : Nat} {loc' : ik_L} {st' : List Value} {h' : List ik_E} {cl' sl' : Nat} (hi : ik_at mid pc = some i) (hr : ik_isR i = false) (hc : ik_call mid i = none) (hs : ik_step X mid i pc loc st h cl sl = some (pc', loc', st', h', cl', sl')) (K : ik_W X mid pc' loc' st' h' cl' sl' post) : ik_W X mid pc loc st h cl sl post :=
  ik_Wk 1 (by simp only [ik_run, hi, hr, hc, hs, cond_false]) K
theorem fw_add {a b : Int} (hi : ik_at mid pc = some .iadd) (K : ik_W X mid (pc + 1) loc (fI (a + b) :: r) h cl sl post) : ik_W X mid pc loc (fI b :: fI a :: r) h cl sl post :=
  fw_1 hi rfl rfl (congrArg (fun v => some (pc + 1, loc, Value.int v :: r, h, cl, sl)) (Int32.ofInt_add a b).symm) K
theorem fw_sub {a b : Int} (hi : ik_at mid pc = some .isub) (K : ik_W X mid (pc + 1) loc (fI (a - b) :: r) h cl sl post) : ik_W X mid pc loc (fI b :: fI a :: r) h cl sl post :=
  fw_1 hi rfl rfl (congrArg (fun v => some (pc + 1, loc, Value.int v :: r, h, cl, sl)) (Int32.ofInt_sub a b).symm) K
theorem fw_mul {a b : Int} (hi : ik_at mid pc = some .imul) (K : ik_W X mid (pc + 1) loc (fI (a * b) :: r) h cl sl post) : ik_W X mid pc loc (fI b :: fI a :: r) h cl sl post :=
  fw_1 hi rfl rfl (congrArg (fun v => some (pc + 1, loc, Value.int v :: r, h, cl, sl)) (Int32.ofInt_mul a b).symm) K
theorem fw_ladd {a b : Int} (hi : ik_at mid pc = some .ladd) (K : ik_W X mid (pc + 1) loc (fJ (a + b) :: r) h cl sl post) : ik_W X mid pc loc (fJ b :: fJ a :: r) h cl sl post :=
  fw_1 hi rfl rfl (congrArg (fun v => some (pc + 1, loc, Value.long v :: r, h, cl, sl)) (Int64.ofInt_add a b).symm) K
theorem fw_lsub {a b : Int} (hi : ik_at mid pc = some .lsub) (K : ik_W X mid (pc + 1) loc (fJ (a - b) :: r) h cl sl post) : ik_W X mid pc loc (fJ b :: fJ a :: r) h cl sl post :=
  fw_1 hi rfl rfl (congrArg (fun v => some (pc + 1, loc, Value.long v :: r, h, cl, sl)) (Int64.ofInt_sub a b).symm) K
theorem fw_lmul {a b : Int} (hi : ik_at mid pc = some .lmul) (K : ik_W X mid (pc + 1) loc (fJ (a * b) :: r) h cl sl post) : ik_W X mid pc loc (fJ b :: fJ a :: r) h cl sl post :=
  fw_1 hi rfl rfl (congrArg (fun v => some (pc + 1, loc, Value.long v :: r, h, cl, sl)) (Int64.ofInt_mul a b).symm) K
theorem fw_i2l {a : Int} (hi : ik_at mid pc = some .i2l) (h1 : -2147483648 ≤ a) (h2 : a < 2147483648) (K : ik_W X mid (pc + 1) loc (fJ a :: r) h cl sl post) : ik_W X mid pc loc (fI a :: r) h cl sl post :=
  fw_1 hi rfl rfl (congrArg (fun v => some (pc + 1, loc, Value.long v :: r, h, cl, sl)) (fi_l h1 h2)) K
theorem fw_bi {k : Int} (hi : ik_at mid pc = some (.bipush k)) (hk : (Int8.ofInt k).toInt32 = Int32.ofInt k) (K : ik_W X mid (pc + 2) loc (fI k :: st) h cl sl post) : ik_W X mid pc loc st h cl sl post :=
  fw_1 hi rfl rfl (congrArg (fun v => some (pc + 2, loc, Value.int v :: st, h, cl, sl)) hk) K
theorem fw_si {k : Int} (hi : ik_at mid pc = some (.sipush k)) (hk : (Int16.ofInt k).toInt32 = Int32.ofInt k) (K : ik_W X mid (pc + 3) loc (fI k :: st) h cl sl post) : ik_W X mid pc loc st h cl sl post :=
  fw_1 hi rfl rfl (congrArg (fun v => some (pc + 3, loc, Value.int v :: st, h, cl, sl)) hk) K
theorem fw_l2 (k : Int) {x w : Nat} {v : Int64} (hi : ik_at mid pc = some (.ldc2_w x)) (hx : ik_ck mid x = some (v, w)) (hk : v = Int64.ofInt k) (K : ik_W X mid (pc + 3) loc (fJ k :: st) h cl sl post) : ik_W X mid pc loc st h cl sl post :=
  fw_1 hi rfl rfl (by subst hk; simp only [ik_step, hx]) K
theorem fw_ld (k : Int) {x w : Nat} {v : Int32} (hi : ik_at mid pc = some (.ldc x)) (hx : ik_ci mid x = some (v, w)) (hk : v = Int32.ofInt k) (K : ik_W X mid (pc + 2) loc (fI k :: st) h cl sl post) : ik_W X mid pc loc st h cl sl post :=
  fw_1 hi rfl rfl (by subst hk; simp only [ik_step, hx]) K
theorem fw_lc {k : Fin 2} {z : Int} (hi : ik_at mid pc = some (.lconst k)) (hk : Int64.ofNat k = Int64.ofInt z) (K : ik_W X mid (pc + 1) loc (fJ z :: st) h cl sl post) : ik_W X mid pc loc st h cl sl post :=
  fw_1 hi rfl rfl (congrArg (fun v => some (pc + 1, loc, Value.long v :: st, h, cl, sl)) hk) K
theorem fw_inc {j : Nat} {k a : Int} {loc' : ik_L} (hi : ik_at mid pc = some (.iinc j k)) (hl : ik_gI loc j = some (Int32.ofInt a)) (hj : j < ik_ml mid) (hp : ik_put loc j (fI (a + k)) = loc') (K : ik_W X mid (pc + 3) loc' st h cl sl post) : ik_W X mid pc loc st h cl sl post :=
  fw_1 hi rfl rfl (by subst hp; simp only [ik_step, hl, ik_bo, if_pos hj, fI, Int32.ofInt_add]) K
theorem fw_gf {x ci k a : Nat} {w : Nat × Nat} {v : Value} {fs : List Value} (hi : ik_at mid pc = some (.getfield x)) (hf : ik_fl mid x = some (ci, k, w)) (hc : h[a]? = some (.inr (ci, fs))) (hv : fs[k]? = some v) (K : ik_W X mid (pc + 3) loc (v :: r) h cl sl post) : ik_W X mid pc loc (.ref a :: r) h cl sl post :=
  fw_1 hi rfl rfl (by simp only [ik_step, hf, hc, ik_bo, if_true, hv]) K
theorem fw_pf {x ci k a : Nat} {w : Nat × Nat} {v : Value} {fs : List Value} {h' : List ik_E} (hi : ik_at mid pc = some (.putfield x)) (hf : ik_fl mid x = some (ci, k, w)) (hc : h[a]? = some (.inr (ci, fs))) (hk : k < fs.length) (ht : ik_fit (ik_ty ci k) v = true) (hfi : ik_fi ci k = false) (hh : h.set a (.inr (ci, fs.set k v)) = h') (K : ik_W X mid (pc + 3) loc r h' cl sl post) : ik_W X mid pc loc (v :: .ref a :: r) h cl sl post := by
  subst hh
  refine fw_1 hi rfl rfl ?_ K
  simp only [ik_step, hf, hc, ik_bo]
  rw [if_pos ⟨trivial, hk, ht, Or.inl hfi⟩]
theorem fw_ial {a : Nat} {z : Int} {xs : List Int} (hi : ik_at mid pc = some .iaload) (hc : h[a]? = some (.inl (.int, fA xs))) (h0 : 0 ≤ z) (h1 : z.toNat < xs.length) (h2 : z < 2147483648) (K : ik_W X mid (pc + 1) loc (fI (xs.getD z.toNat 0) :: r) h cl sl post) : ik_W X mid pc loc (fI z :: .ref a :: r) h cl sl post := by
  refine fw_1 hi rfl rfl ?_ K
  simp only [ik_step, hc]
  rw [if_neg (fi_z h0 h2), fi_n h0 h2, fA_get h1]
theorem fw_bal {a : Nat} {z : Int} {xs : List Int} (hi : ik_at mid pc = some .baload) (hc : h[a]? = some (.inl (.byte, fA xs))) (h0 : 0 ≤ z) (h1 : z.toNat < xs.length) (h2 : z < 2147483648) (K : ik_W X mid (pc + 1) loc (fI (xs.getD z.toNat 0) :: r) h cl sl post) : ik_W X mid pc loc (fI z :: .ref a :: r) h cl sl post := by
  refine fw_1 hi rfl rfl ?_ K
  simp only [ik_step, hc]
  rw [if_neg (fi_z h0 h2), fi_n h0 h2, fA_get h1]
theorem fw_ias {a : Nat} {z v : Int} {xs : List Int} {h' : List ik_E} (hi : ik_at mid pc = some .iastore) (hc : h[a]? = some (.inl (.int, fA xs))) (h0 : 0 ≤ z) (h1 : z.toNat < xs.length) (h2 : z < 2147483648) (hh : h.set a (.inl (.int, fA (xs.set z.toNat v))) = h') (K : ik_W X mid (pc + 1) loc r h' cl sl post) : ik_W X mid pc loc (fI v :: fI z :: .ref a :: r) h cl sl post := by
  subst hh
  refine fw_1 hi rfl rfl ?_ K
  simp only [ik_step, hc, ik_bo]
  rw [if_pos ⟨fi_z h0 h2, by rw [fi_n h0 h2, fA_len]; exact h1⟩, fi_n h0 h2, fA_set]
theorem fw_br {i : Instr} {c : Prop} [Decidable c] {t e : Nat} {st' : List Value} (hi : ik_at mid pc = some i) (hr : ik_isR i = false) (hc : ik_call mid i = none) (hs : ik_step X mid i pc loc st h cl sl = some (if c then t else e, loc, st', h, cl, sl)) (K1 : c → ik_W X mid t loc st' h cl sl post) (K2 : ¬ c → ik_W X mid e loc st' h cl sl post) : ik_W X mid pc loc st h cl sl post :=
  ik_Wif 1 t e (by simp only [ik_run, hi, hr, hc, hs, cond_false]) K1 K2
end
section
variable {X : Option (Nat × (Nat → Int32))} {mid pc : Nat} {loc : ik_L} {st r : List Value} {h : List ik_E} {cl sl : Nat} {post : ik_St → Prop}
theorem fw_ic_eq {a b off : Int} {t : Nat} (hi : ik_at mid pc = some (.if_icmp .eq off)) (ht : ik_tg pc off = some t) (ha : -2147483648 ≤ a) (ha2 : a < 2147483648) (hb : -2147483648 ≤ b) (hb2 : b < 2147483648) (K1 : a = b → ik_W X mid t loc r h cl sl post) (K2 : ¬ a = b → ik_W X mid (pc + 3) loc r h cl sl post) : ik_W X mid pc loc (fI b :: fI a :: r) h cl sl post :=
  fw_br (c := Int32.ofInt a = Int32.ofInt b) (t := t) (e := (pc + 3)) hi rfl rfl (by simp only [ik_step, ht]) (fun c => K1 (by rw [cv_eq, fi_i ha ha2, fi_i hb hb2] at c; omega)) (fun c => K2 (by rw [cv_eq, fi_i ha ha2, fi_i hb hb2] at c; omega))
theorem fw_ic_ne {a b off : Int} {t : Nat} (hi : ik_at mid pc = some (.if_icmp .ne off)) (ht : ik_tg pc off = some t) (ha : -2147483648 ≤ a) (ha2 : a < 2147483648) (hb : -2147483648 ≤ b) (hb2 : b < 2147483648) (K1 : a = b → ik_W X mid (pc + 3) loc r h cl sl post) (K2 : ¬ a = b → ik_W X mid t loc r h cl sl post) : ik_W X mid pc loc (fI b :: fI a :: r) h cl sl post :=
  fw_br (c := Int32.ofInt a = Int32.ofInt b) (t := (pc + 3)) (e := t) hi rfl rfl (by simp only [ik_step, ht]) (fun c => K1 (by rw [cv_eq, fi_i ha ha2, fi_i hb hb2] at c; omega)) (fun c => K2 (by rw [cv_eq, fi_i ha ha2, fi_i hb hb2] at c; omega))
theorem fw_ic_lt {a b off : Int} {t : Nat} (hi : ik_at mid pc = some (.if_icmp .lt off)) (ht : ik_tg pc off = some t) (ha : -2147483648 ≤ a) (ha2 : a < 2147483648) (hb : -2147483648 ≤ b) (hb2 : b < 2147483648) (K1 : a < b → ik_W X mid t loc r h cl sl post) (K2 : b ≤ a → ik_W X mid (pc + 3) loc r h cl sl post) : ik_W X mid pc loc (fI b :: fI a :: r) h cl sl post :=
  fw_br (c := Int32.ofInt a < Int32.ofInt b) (t := t) (e := (pc + 3)) hi rfl rfl (by simp only [ik_step, ht]) (fun c => K1 (by rw [cv_lt, fi_i ha ha2, fi_i hb hb2] at c; omega)) (fun c => K2 (by rw [cv_lt, fi_i ha ha2, fi_i hb hb2] at c; omega))
theorem fw_ic_ge {a b off : Int} {t : Nat} (hi : ik_at mid pc = some (.if_icmp .ge off)) (ht : ik_tg pc off = some t) (ha : -2147483648 ≤ a) (ha2 : a < 2147483648) (hb : -2147483648 ≤ b) (hb2 : b < 2147483648) (K1 : b ≤ a → ik_W X mid t loc r h cl sl post) (K2 : a < b → ik_W X mid (pc + 3) loc r h cl sl post) : ik_W X mid pc loc (fI b :: fI a :: r) h cl sl post :=
  fw_br (c := Int32.ofInt b ≤ Int32.ofInt a) (t := t) (e := (pc + 3)) hi rfl rfl (by simp only [ik_step, ht]) (fun c => K1 (by rw [cv_le, fi_i hb hb2, fi_i ha ha2] at c; omega)) (fun c => K2 (by rw [cv_le, fi_i hb hb2, fi_i ha ha2] at c; omega))
theorem fw_ic_gt {a b off : Int} {t : Nat} (hi : ik_at mid pc = some (.if_icmp .gt off)) (ht : ik_tg pc off = some t) (ha : -2147483648 ≤ a) (ha2 : a < 2147483648) (hb : -2147483648 ≤ b) (hb2 : b < 2147483648) (K1 : b < a → ik_W X mid t loc r h cl sl post) (K2 : a ≤ b → ik_W X mid (pc + 3) loc r h cl sl post) : ik_W X mid pc loc (fI b :: fI a :: r) h cl sl post :=
  fw_br (c := Int32.ofInt b < Int32.ofInt a) (t := t) (e := (pc + 3)) hi rfl rfl (by simp only [ik_step, ht]) (fun c => K1 (by rw [cv_lt, fi_i hb hb2, fi_i ha ha2] at c; omega)) (fun c => K2 (by rw [cv_lt, fi_i hb hb2, fi_i ha ha2] at c; omega))
theorem fw_ic_le {a b off : Int} {t : Nat} (hi : ik_at mid pc = some (.if_icmp .le off)) (ht : ik_tg pc off = some t) (ha : -2147483648 ≤ a) (ha2 : a < 2147483648) (hb : -2147483648 ≤ b) (hb2 : b < 2147483648) (K1 : a ≤ b → ik_W X mid t loc r h cl sl post) (K2 : b < a → ik_W X mid (pc + 3) loc r h cl sl post) : ik_W X mid pc loc (fI b :: fI a :: r) h cl sl post :=
  fw_br (c := Int32.ofInt a ≤ Int32.ofInt b) (t := t) (e := (pc + 3)) hi rfl rfl (by simp only [ik_step, ht]) (fun c => K1 (by rw [cv_le, fi_i ha ha2, fi_i hb hb2] at c; omega)) (fun c => K2 (by rw [cv_le, fi_i ha ha2, fi_i hb hb2] at c; omega))
theorem fw_if_eq {a off : Int} {t : Nat} (hi : ik_at mid pc = some (.ifCond .eq off)) (ht : ik_tg pc off = some t) (ha : -2147483648 ≤ a) (ha2 : a < 2147483648) (K1 : a = 0 → ik_W X mid t loc r h cl sl post) (K2 : ¬ a = 0 → ik_W X mid (pc + 3) loc r h cl sl post) : ik_W X mid pc loc (fI a :: r) h cl sl post :=
  fw_br (c := Int32.ofInt a = 0) (t := t) (e := (pc + 3)) hi rfl rfl (by simp only [ik_step, ht]) (fun c => K1 (by rw [cv_eq, fi_i ha ha2, (show (0 : Int32).toInt = 0 from by decide)] at c; omega)) (fun c => K2 (by rw [cv_eq, fi_i ha ha2, (show (0 : Int32).toInt = 0 from by decide)] at c; omega))
theorem fw_if_ne {a off : Int} {t : Nat} (hi : ik_at mid pc = some (.ifCond .ne off)) (ht : ik_tg pc off = some t) (ha : -2147483648 ≤ a) (ha2 : a < 2147483648) (K1 : a = 0 → ik_W X mid (pc + 3) loc r h cl sl post) (K2 : ¬ a = 0 → ik_W X mid t loc r h cl sl post) : ik_W X mid pc loc (fI a :: r) h cl sl post :=
  fw_br (c := Int32.ofInt a = 0) (t := (pc + 3)) (e := t) hi rfl rfl (by simp only [ik_step, ht]) (fun c => K1 (by rw [cv_eq, fi_i ha ha2, (show (0 : Int32).toInt = 0 from by decide)] at c; omega)) (fun c => K2 (by rw [cv_eq, fi_i ha ha2, (show (0 : Int32).toInt = 0 from by decide)] at c; omega))
theorem fw_if_lt {a off : Int} {t : Nat} (hi : ik_at mid pc = some (.ifCond .lt off)) (ht : ik_tg pc off = some t) (ha : -2147483648 ≤ a) (ha2 : a < 2147483648) (K1 : a < 0 → ik_W X mid t loc r h cl sl post) (K2 : 0 ≤ a → ik_W X mid (pc + 3) loc r h cl sl post) : ik_W X mid pc loc (fI a :: r) h cl sl post :=
  fw_br (c := Int32.ofInt a < 0) (t := t) (e := (pc + 3)) hi rfl rfl (by simp only [ik_step, ht]) (fun c => K1 (by rw [cv_lt, fi_i ha ha2, (show (0 : Int32).toInt = 0 from by decide)] at c; omega)) (fun c => K2 (by rw [cv_lt, fi_i ha ha2, (show (0 : Int32).toInt = 0 from by decide)] at c; omega))
theorem fw_if_ge {a off : Int} {t : Nat} (hi : ik_at mid pc = some (.ifCond .ge off)) (ht : ik_tg pc off = some t) (ha : -2147483648 ≤ a) (ha2 : a < 2147483648) (K1 : 0 ≤ a → ik_W X mid t loc r h cl sl post) (K2 : a < 0 → ik_W X mid (pc + 3) loc r h cl sl post) : ik_W X mid pc loc (fI a :: r) h cl sl post :=
  fw_br (c := 0 ≤ Int32.ofInt a) (t := t) (e := (pc + 3)) hi rfl rfl (by simp only [ik_step, ht]) (fun c => K1 (by rw [cv_le, (show (0 : Int32).toInt = 0 from by decide), fi_i ha ha2] at c; omega)) (fun c => K2 (by rw [cv_le, (show (0 : Int32).toInt = 0 from by decide), fi_i ha ha2] at c; omega))
theorem fw_if_gt {a off : Int} {t : Nat} (hi : ik_at mid pc = some (.ifCond .gt off)) (ht : ik_tg pc off = some t) (ha : -2147483648 ≤ a) (ha2 : a < 2147483648) (K1 : 0 < a → ik_W X mid t loc r h cl sl post) (K2 : a ≤ 0 → ik_W X mid (pc + 3) loc r h cl sl post) : ik_W X mid pc loc (fI a :: r) h cl sl post :=
  fw_br (c := 0 < Int32.ofInt a) (t := t) (e := (pc + 3)) hi rfl rfl (by simp only [ik_step, ht]) (fun c => K1 (by rw [cv_lt, (show (0 : Int32).toInt = 0 from by decide), fi_i ha ha2] at c; omega)) (fun c => K2 (by rw [cv_lt, (show (0 : Int32).toInt = 0 from by decide), fi_i ha ha2] at c; omega))
theorem fw_if_le {a off : Int} {t : Nat} (hi : ik_at mid pc = some (.ifCond .le off)) (ht : ik_tg pc off = some t) (ha : -2147483648 ≤ a) (ha2 : a < 2147483648) (K1 : a ≤ 0 → ik_W X mid t loc r h cl sl post) (K2 : 0 < a → ik_W X mid (pc + 3) loc r h cl sl post) : ik_W X mid pc loc (fI a :: r) h cl sl post :=
  fw_br (c := Int32.ofInt a ≤ 0) (t := t) (e := (pc + 3)) hi rfl rfl (by simp only [ik_step, ht]) (fun c => K1 (by rw [cv_le, fi_i ha ha2, (show (0 : Int32).toInt = 0 from by decide)] at c; omega)) (fun c => K2 (by rw [cv_le, fi_i ha ha2, (show (0 : Int32).toInt = 0 from by decide)] at c; omega))
end
theorem lg_eq0 (x y : Int64) : (lg_cmp x y = 0) = (x.toInt = y.toInt) := by
  apply propext
  have h1 := lg_lt0 x y
  have h2 := lg_gt0 x y
  rw [cv_lt] at h1 h2
  have z : (0 : Int32).toInt = 0 := by decide
  rw [z] at h1 h2
  rw [cv_eq, z]
  constructor
  · intro q
    have a1 : ¬ x.toInt < y.toInt := fun w => by have := h1.mpr w; omega
    have a2 : ¬ y.toInt < x.toInt := fun w => by have := h2.mpr w; omega
    omega
  · intro q
    have a1 : ¬ (lg_cmp x y).toInt < 0 := fun w => by have := h1.mp w; omega
    have a2 : ¬ 0 < (lg_cmp x y).toInt := fun w => by have := h2.mp w; omega
    omega
theorem lg_le0 (x y : Int64) : (lg_cmp x y ≤ 0) = (x.toInt ≤ y.toInt) := by
  apply propext
  have h2 := lg_gt0 x y
  rw [cv_lt] at h2
  have z : (0 : Int32).toInt = 0 := by decide
  rw [z] at h2
  rw [cv_le, z]
  constructor
  · intro q
    have a2 : ¬ y.toInt < x.toInt := fun w => by have := h2.mpr w; omega
    omega
  · intro q
    have a2 : ¬ 0 < (lg_cmp x y).toInt := fun w => by have := h2.mp w; omega
    omega
theorem lg_ge0 (x y : Int64) : (0 ≤ lg_cmp x y) = (y.toInt ≤ x.toInt) := by
  apply propext
  have h2 := lg_lt0 x y
  rw [cv_lt] at h2
  have z : (0 : Int32).toInt = 0 := by decide
  rw [z] at h2
  rw [cv_le, z]
  constructor
  · intro q
    have a2 : ¬ x.toInt < y.toInt := fun w => by have := h2.mpr w; omega
    omega
  · intro q
    have a2 : ¬ (lg_cmp x y).toInt < 0 := fun w => by have := h2.mp w; omega
    omega
section
variable {X : Option (Nat × (Nat → Int32))} {mid pc : Nat} {loc : ik_L} {st r : List Value} {h : List ik_E} {cl sl : Nat} {post : ik_St → Prop}
theorem fw_lcmp_eq {a b off : Int} {t : Nat} (h0 : ik_at mid pc = some .lcmp) (hi : ik_at mid (pc + 1) = some (.ifCond .eq off)) (ht : ik_tg (pc + 1) off = some t) (ha : -9223372036854775808 ≤ a) (ha2 : a < 9223372036854775808) (hb : -9223372036854775808 ≤ b) (hb2 : b < 9223372036854775808) (K1 : a = b → ik_W X mid t loc r h cl sl post) (K2 : ¬ a = b → ik_W X mid (pc + 1 + 3) loc r h cl sl post) : ik_W X mid pc loc (fJ b :: fJ a :: r) h cl sl post :=
  fw_1 h0 rfl rfl rfl (fw_br (c := lg_cmp (Int64.ofInt a) (Int64.ofInt b) = 0) (t := t) (e := (pc + 1 + 3)) hi rfl rfl (by simp only [ik_step, ht]) (fun c => K1 (by rw [lg_eq0, fj_i ha ha2, fj_i hb hb2] at c; omega)) (fun c => K2 (by rw [lg_eq0, fj_i ha ha2, fj_i hb hb2] at c; omega)))
theorem fw_lcmp_ne {a b off : Int} {t : Nat} (h0 : ik_at mid pc = some .lcmp) (hi : ik_at mid (pc + 1) = some (.ifCond .ne off)) (ht : ik_tg (pc + 1) off = some t) (ha : -9223372036854775808 ≤ a) (ha2 : a < 9223372036854775808) (hb : -9223372036854775808 ≤ b) (hb2 : b < 9223372036854775808) (K1 : a = b → ik_W X mid (pc + 1 + 3) loc r h cl sl post) (K2 : ¬ a = b → ik_W X mid t loc r h cl sl post) : ik_W X mid pc loc (fJ b :: fJ a :: r) h cl sl post :=
  fw_1 h0 rfl rfl rfl (fw_br (c := lg_cmp (Int64.ofInt a) (Int64.ofInt b) = 0) (t := (pc + 1 + 3)) (e := t) hi rfl rfl (by simp only [ik_step, ht]) (fun c => K1 (by rw [lg_eq0, fj_i ha ha2, fj_i hb hb2] at c; omega)) (fun c => K2 (by rw [lg_eq0, fj_i ha ha2, fj_i hb hb2] at c; omega)))
theorem fw_lcmp_lt {a b off : Int} {t : Nat} (h0 : ik_at mid pc = some .lcmp) (hi : ik_at mid (pc + 1) = some (.ifCond .lt off)) (ht : ik_tg (pc + 1) off = some t) (ha : -9223372036854775808 ≤ a) (ha2 : a < 9223372036854775808) (hb : -9223372036854775808 ≤ b) (hb2 : b < 9223372036854775808) (K1 : a < b → ik_W X mid t loc r h cl sl post) (K2 : b ≤ a → ik_W X mid (pc + 1 + 3) loc r h cl sl post) : ik_W X mid pc loc (fJ b :: fJ a :: r) h cl sl post :=
  fw_1 h0 rfl rfl rfl (fw_br (c := lg_cmp (Int64.ofInt a) (Int64.ofInt b) < 0) (t := t) (e := (pc + 1 + 3)) hi rfl rfl (by simp only [ik_step, ht]) (fun c => K1 (by rw [lg_lt0, fj_i ha ha2, fj_i hb hb2] at c; omega)) (fun c => K2 (by rw [lg_lt0, fj_i ha ha2, fj_i hb hb2] at c; omega)))
theorem fw_lcmp_ge {a b off : Int} {t : Nat} (h0 : ik_at mid pc = some .lcmp) (hi : ik_at mid (pc + 1) = some (.ifCond .ge off)) (ht : ik_tg (pc + 1) off = some t) (ha : -9223372036854775808 ≤ a) (ha2 : a < 9223372036854775808) (hb : -9223372036854775808 ≤ b) (hb2 : b < 9223372036854775808) (K1 : b ≤ a → ik_W X mid t loc r h cl sl post) (K2 : a < b → ik_W X mid (pc + 1 + 3) loc r h cl sl post) : ik_W X mid pc loc (fJ b :: fJ a :: r) h cl sl post :=
  fw_1 h0 rfl rfl rfl (fw_br (c := 0 ≤ lg_cmp (Int64.ofInt a) (Int64.ofInt b)) (t := t) (e := (pc + 1 + 3)) hi rfl rfl (by simp only [ik_step, ht]) (fun c => K1 (by rw [lg_ge0, fj_i hb hb2, fj_i ha ha2] at c; omega)) (fun c => K2 (by rw [lg_ge0, fj_i hb hb2, fj_i ha ha2] at c; omega)))
theorem fw_lcmp_gt {a b off : Int} {t : Nat} (h0 : ik_at mid pc = some .lcmp) (hi : ik_at mid (pc + 1) = some (.ifCond .gt off)) (ht : ik_tg (pc + 1) off = some t) (ha : -9223372036854775808 ≤ a) (ha2 : a < 9223372036854775808) (hb : -9223372036854775808 ≤ b) (hb2 : b < 9223372036854775808) (K1 : b < a → ik_W X mid t loc r h cl sl post) (K2 : a ≤ b → ik_W X mid (pc + 1 + 3) loc r h cl sl post) : ik_W X mid pc loc (fJ b :: fJ a :: r) h cl sl post :=
  fw_1 h0 rfl rfl rfl (fw_br (c := 0 < lg_cmp (Int64.ofInt a) (Int64.ofInt b)) (t := t) (e := (pc + 1 + 3)) hi rfl rfl (by simp only [ik_step, ht]) (fun c => K1 (by rw [lg_gt0, fj_i hb hb2, fj_i ha ha2] at c; omega)) (fun c => K2 (by rw [lg_gt0, fj_i hb hb2, fj_i ha ha2] at c; omega)))
theorem fw_lcmp_le {a b off : Int} {t : Nat} (h0 : ik_at mid pc = some .lcmp) (hi : ik_at mid (pc + 1) = some (.ifCond .le off)) (ht : ik_tg (pc + 1) off = some t) (ha : -9223372036854775808 ≤ a) (ha2 : a < 9223372036854775808) (hb : -9223372036854775808 ≤ b) (hb2 : b < 9223372036854775808) (K1 : a ≤ b → ik_W X mid t loc r h cl sl post) (K2 : b < a → ik_W X mid (pc + 1 + 3) loc r h cl sl post) : ik_W X mid pc loc (fJ b :: fJ a :: r) h cl sl post :=
  fw_1 h0 rfl rfl rfl (fw_br (c := lg_cmp (Int64.ofInt a) (Int64.ofInt b) ≤ 0) (t := t) (e := (pc + 1 + 3)) hi rfl rfl (by simp only [ik_step, ht]) (fun c => K1 (by rw [lg_le0, fj_i ha ha2, fj_i hb hb2] at c; omega)) (fun c => K2 (by rw [lg_le0, fj_i ha ha2, fj_i hb hb2] at c; omega)))
end
/-- a whole method: what it gives back, and the heap behind it -/
abbrev ik_G (q pc : Nat) (loc : ik_L) (st : List Value) (h : List ik_E) (R : List Value → List ik_E → Prop) : Prop := ik_W none q pc loc st h 0 0 (fun z => ∃ ir rv, ik_at q z.1 = some ir ∧ ik_rv (ik_rt q) ir z.2.2.1 = some rv ∧ z.2.2.2.2.1 = 0 ∧ z.2.2.2.2.2 = 0 ∧ R rv z.2.2.2.1)
def ik_F (q : Nat) (as : List Value) (h : List ik_E) (R : List Value → List ik_E → Prop) : Prop := ik_G q 0 (ik_loc (ik_ml q) as) [] h R
theorem ik_F_mono {q : Nat} {as : List Value} {h : List ik_E} {R R' : List Value → List ik_E → Prop} (H : ik_F q as h R) (hr : ∀ rv h', R rv h' → R' rv h') : ik_F q as h R' := by
  obtain ⟨n, z, he, ir, rv, h1, h2, h3, h4, h5⟩ := H
  exact ⟨n, z, he, ir, rv, h1, h2, h3, h4, hr _ _ h5⟩
theorem ik_Wmono {X : Option (Nat × (Nat → Int32))} {mid pc : Nat} {loc : ik_L} {st : List Value} {h : List ik_E} {cl sl : Nat} {P Q : ik_St → Prop} (H : ik_W X mid pc loc st h cl sl P) (hq : ∀ z, P z → Q z) : ik_W X mid pc loc st h cl sl Q := by
  obtain ⟨n, z, he, hp⟩ := H
  exact ⟨n, z, he, hq z hp⟩
theorem ik_Gm {q pc : Nat} {loc : ik_L} {st : List Value} {h : List ik_E} {R R' : List Value → List ik_E → Prop} (H : ik_G q pc loc st h R) (hr : ∀ rv h', R rv h' → R' rv h') : ik_G q pc loc st h R' := by
  obtain ⟨n, z, he, ir, rv, h1, h2, h3, h4, h5⟩ := H
  exact ⟨n, z, he, ir, rv, h1, h2, h3, h4, hr _ _ h5⟩
def fw_ft (mid q L : Nat) (as rest : List Value) (loc : ik_L) : Bool := decide (ik_fr q + 1 ≤ ik_fr mid) && decide (8 + (ik_ml q + 11) + ik_lo q ≤ ik_lo mid) && decide (ik_sum rest ≤ 8) && decide ((ik_args as).length ≤ ik_ml q) && decide (q < 227) && rest.all (ik_wv L) && loc.all (ik_wl L)
theorem fw_ftw {mid q L : Nat} {as rest : List Value} {l0 : ik_L} {w : Option Value} (hw : ik_wl L w = true) (h : fw_ft mid q L as rest l0 = true) : fw_ft mid q L as rest (l0 ++ [w]) = true := by
  unfold fw_ft at h ⊢
  rw [List.all_append]
  simp only [List.all_cons, List.all_nil, hw, Bool.and_true]
  exact h
theorem fw_M : ik_M.length = 227 := by decide +kernel
theorem fw_rec {mid q L a ci : Nat} {as rest : List Value} {loc : ik_L} {h : List ik_E} {fs : List Value} (hl : h.length = L) (h1 : fw_ft mid q L (.ref a :: as) rest loc = true) (hc : h[a]? = some (.inr (ci, fs))) (ho : ci = ik_ow q) (h2 : ci < 11) : ik_fitC mid q 0 (.ref a :: as) h rest loc = true := by
  unfold ik_fitC
  unfold fw_ft at h1
  rw [fw_M, hl, h1]
  simp only [hc, Bool.true_and]
  rw [decide_eq_true ho, decide_eq_true h2]
  rfl
theorem fw_str {mid q L k : Nat} {as rest : List Value} {loc : ik_L} {h : List ik_E} (hl : h.length = L) (h1 : fw_ft mid q L (.retAddr (k + 1) :: as) rest loc = true) (hk : k % 2 = 0) (hk2 : k < 6) (ho : ik_ow q = ik_sow) : ik_fitC mid q 0 (.retAddr (k + 1) :: as) h rest loc = true := by
  unfold ik_fitC
  unfold fw_ft at h1
  rw [fw_M, hl, h1]
  simp only [Bool.true_and]
  rw [decide_eq_true hk, decide_eq_true hk2, decide_eq_true ho]
  rfl
theorem fw_sta {mid q L kd : Nat} {as rest : List Value} {loc : ik_L} {h : List ik_E} (hl : h.length = L) (h1 : fw_ft mid q L as rest loc = true) (hk : kd = 3 ∨ kd = 4) : ik_fitC mid q kd as h rest loc = true := by
  unfold ik_fitC
  unfold fw_ft at h1
  rw [fw_M, hl, h1]
  rcases hk with hk | hk <;> subst hk <;> rfl
section
variable {X : Option (Nat × (Nat → Int32))} {mid pc : Nat} {loc : ik_L} {st r : List Value} {h : List ik_E} {cl sl : Nat} {post : ik_St → Prop}
theorem fw_call {i : Instr} (q k kd : Nat) (as rest : List Value) {R : List Value → List ik_E → Prop} (hi : ik_at mid pc = some i) (hr : ik_isR i = false) (hc : ik_call mid i = some (q, k, kd)) (hkd : kd < 5) (hst : st = as.reverse ++ rest) (hk : as.length = k) (hf : ik_fitC mid q kd as h rest loc = true) (F : ik_F q as h R)
    (K : ∀ rv h', R rv h' → ik_W X mid (pc + 3) loc (rv ++ rest) h' cl sl post) : ik_W X mid pc loc st h cl sl post := by
  obtain ⟨n, z, he, ir, rv, h1, h2, h3, h4, h5⟩ := F
  refine ik_Wc q k kd as rest hi hr hc hkd hst hk hf ⟨n, z, he, ir, rv, h1, h2, ?_⟩
  rw [h3, h4]
  exact K _ _ h5
theorem fw_min {a b : Int} {i : Instr} {k : Nat} (hi : ik_at mid pc = some i) (hr : ik_isR i = false) (hc : ik_call mid i = some (0, k, 7)) (hl : 1 ≤ ik_fr mid ∧ 40 ≤ ik_lo mid ∧ ik_sum r ≤ 8) (ha : -2147483648 ≤ a) (ha2 : a < 2147483648) (hb : -2147483648 ≤ b) (hb2 : b < 2147483648) (K : ik_W X mid (pc + 3) loc (fI (if b < a then b else a) :: r) h cl sl post) : ik_W X mid pc loc (fI b :: fI a :: r) h cl sl post := by
  obtain ⟨n, z, he, hp⟩ := K
  refine ⟨n + 1, z, ?_, hp⟩
  simp only [ik_ex, hi, hr, hc, cond_false, ik_math, ik_bo]
  have e : (if Int32.ofInt b < Int32.ofInt a then Int32.ofInt b else Int32.ofInt a) = Int32.ofInt (if b < a then b else a) := by
    have hx : (Int32.ofInt b < Int32.ofInt a) = (b < a) := by rw [cv_lt, fi_i hb hb2, fi_i ha ha2]
    by_cases hba : b < a
    · rw [if_pos hba, if_pos (hx.mpr hba)]
    · rw [if_neg hba, if_neg (fun w => hba (hx.mp w))]
  rw [e]
  simp only [List.drop_succ_cons, List.drop_zero]
  rw [if_pos hl]
  exact he
theorem fw_ret {q : Nat} {loc' : ik_L} {i : Instr} {rv : List Value} {R : List Value → List ik_E → Prop} (hi : ik_at q pc = some i) (hr : ik_isR i = true) (hv : ik_rv (ik_rt q) i st = some rv) (hp : R rv h) : ik_G q pc loc' st h R :=
  ik_Wret hi hr ⟨i, rv, hi, hv, rfl, rfl, hp⟩
end
