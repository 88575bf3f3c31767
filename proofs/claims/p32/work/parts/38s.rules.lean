noncomputable section
/-! MORE RULES to walk by: rows of longs, quotients, bits, frames -/
/-- what lies at a place -/
abbrev cE (h : List ik_E) (a : Nat) (c : ik_E) : Prop := h[a]? = some c
def fL (xs : List Int) : List Value := xs.map fJ
theorem fL_len (xs : List Int) : (fL xs).length = xs.length := List.length_map _
theorem fL_get {xs : List Int} {k : Nat} (h : k < xs.length) : (fL xs)[k]? = some (fJ (xs.getD k 0)) := by
  unfold fL
  rw [List.getElem?_map, List.getElem?_eq_getElem h, List.getD_eq_getElem?_getD, List.getElem?_eq_getElem h]
  rfl
theorem fL_set (xs : List Int) (k : Nat) (v : Int) : (fL xs).set k (fJ v) = fL (xs.set k v) := by
  unfold fL
  rw [List.map_set]
/-- the same but for the cells of T -/
def hfr (T : List Nat) (h h' : List ik_E) : Prop := h'.length = h.length ∧ ∀ b, b ∉ T → h'[b]? = h[b]?
theorem hfr_refl (T : List Nat) (h : List ik_E) : hfr T h h := ⟨rfl, fun _ _ => rfl⟩
theorem hfr_tr {T : List Nat} {h h' h'' : List ik_E} (a : hfr T h h') (b : hfr T h' h'') : hfr T h h'' := ⟨b.1.trans a.1, fun c hc => (b.2 c hc).trans (a.2 c hc)⟩
theorem hfr_mono {T U : List Nat} {h h' : List ik_E} (a : hfr T h h') (s : ∀ b, b ∈ T → b ∈ U) : hfr U h h' := ⟨a.1, fun c hc => a.2 c (fun q => hc (s c q))⟩
theorem hfr_set {T : List Nat} {h : List ik_E} {a : Nat} (e : ik_E) (ha : a ∈ T) : hfr T h (h.set a e) := ⟨List.length_set, fun b hb => List.getElem?_set_ne (fun (q : a = b) => hb (by rw [← q]; exact ha))⟩
theorem wl_n {L : Nat} : ([] : ik_L).all (ik_wl L) = true := rfl
theorem wl_c {L : Nat} {o : Option Value} {l : ik_L} (h : ik_wl L o = true) (t : l.all (ik_wl L) = true) : (o :: l).all (ik_wl L) = true := by rw [List.all_cons, h, t]; rfl
theorem fw_ftv {mid q L : Nat} {as rest : List Value} {loc : ik_L} (h : fw_ft mid q L as rest [] = true) (hl : loc.all (ik_wl L) = true) : fw_ft mid q L as rest loc = true := by
  unfold fw_ft at h ⊢
  rw [hl]
  exact h
section
variable {X : Option (Nat × (Nat → Int32))} {mid pc : Nat} {loc : ik_L} {st r : List Value} {h : List ik_E} {cl sl : Nat} {post : ik_St → Prop}
theorem hg_lt {a : Nat} {d : ik_E} (hc : h[a]? = some d) : a < h.length := by
  rcases Nat.lt_or_ge a h.length with q | q
  · exact q
  · rw [List.getElem?_eq_none q] at hc; cases hc
theorem fx_pf {x ci k a : Nat} {w : Nat × Nat} {v : Value} {fs : List Value} (hi : ik_at mid pc = some (.putfield x)) (hf : ik_fl mid x = some (ci, k, w)) (hc : h[a]? = some (.inr (ci, fs))) (hk : k < fs.length) (ht : ik_fit (ik_ty ci k) v = true) (hfi : ik_fi ci k = false) (K : ∀ h', h'[a]? = some (.inr (ci, fs.set k v)) → (∀ b, b ≠ a → h'[b]? = h[b]?) → h'.length = h.length → ik_W X mid (pc + 3) loc r h' cl sl post) : ik_W X mid pc loc (v :: .ref a :: r) h cl sl post := by
  refine fw_pf hi hf hc hk ht hfi rfl (K _ ?_ ?_ List.length_set)
  · rw [List.getElem?_set_self (hg_lt hc)]
  · exact fun b hb => List.getElem?_set_ne (fun q => hb q.symm)
theorem fx_ias {a : Nat} {z v : Int} {xs : List Int} (hi : ik_at mid pc = some .iastore) (hc : h[a]? = some (.inl (.int, fA xs))) (h0 : 0 ≤ z) (h1 : z.toNat < xs.length) (h2 : z < 2147483648) (K : ∀ h', h'[a]? = some (.inl (.int, fA (xs.set z.toNat v))) → (∀ b, b ≠ a → h'[b]? = h[b]?) → h'.length = h.length → ik_W X mid (pc + 1) loc r h' cl sl post) : ik_W X mid pc loc (fI v :: fI z :: .ref a :: r) h cl sl post := by
  refine fw_ias hi hc h0 h1 h2 rfl (K _ ?_ ?_ List.length_set)
  · rw [List.getElem?_set_self (hg_lt hc)]
  · exact fun b hb => List.getElem?_set_ne (fun q => hb q.symm)
theorem fx_lal {a : Nat} {z : Int} {xs : List Int} (hi : ik_at mid pc = some .laload) (hc : h[a]? = some (.inl (.long, fL xs))) (h0 : 0 ≤ z) (h1 : z.toNat < xs.length) (h2 : z < 2147483648) (K : ik_W X mid (pc + 1) loc (fJ (xs.getD z.toNat 0) :: r) h cl sl post) : ik_W X mid pc loc (fI z :: .ref a :: r) h cl sl post := by
  refine fw_1 hi rfl rfl ?_ K
  simp only [ik_step, hc]
  rw [if_neg (fi_z h0 h2), fi_n h0 h2, fL_get h1]
theorem fx_las {a : Nat} {z v : Int} {xs : List Int} (hi : ik_at mid pc = some .lastore) (hc : h[a]? = some (.inl (.long, fL xs))) (h0 : 0 ≤ z) (h1 : z.toNat < xs.length) (h2 : z < 2147483648) (K : ∀ h', h'[a]? = some (.inl (.long, fL (xs.set z.toNat v))) → (∀ b, b ≠ a → h'[b]? = h[b]?) → h'.length = h.length → ik_W X mid (pc + 1) loc r h' cl sl post) : ik_W X mid pc loc (fJ v :: fI z :: .ref a :: r) h cl sl post := by
  refine fw_1 (h' := h.set a (.inl (.long, fL (xs.set z.toNat v)))) hi rfl rfl ?_ (K _ ?_ ?_ List.length_set)
  · simp only [ik_step, hc, ik_bo]
    rw [if_pos ⟨fi_z h0 h2, by rw [fi_n h0 h2, fL_len]; exact h1⟩, fi_n h0 h2, fL_set]
  · rw [List.getElem?_set_self (hg_lt hc)]
  · exact fun b hb => List.getElem?_set_ne (fun q => hb q.symm)
theorem fi_ne0 {b : Int} (h1 : 0 < b) (h2 : b < 2147483648) : ¬ Int32.ofInt b = 0 := by
  rw [cv_eq, fi_i (by omega) h2, (show (0 : Int32).toInt = 0 from by decide)]
  omega
theorem fj_ne0 {b : Int} (h1 : 0 < b) (h2 : b < 9223372036854775808) : ¬ Int64.ofInt b = 0 := by
  intro q
  have := congrArg Int64.toInt q
  rw [fj_i (by omega) h2, (show (0 : Int64).toInt = 0 from by decide)] at this
  omega
theorem fi_div {a b : Int} (ha : 0 ≤ a) (ha2 : a < 2147483648) (hb : 0 < b) (hb2 : b < 2147483648) : Int32.ofInt a / Int32.ofInt b = Int32.ofInt (a / b) := by
  rw [← Int32.ofInt_tdiv (show -2147483648 ≤ a by omega) (show a ≤ 2147483647 by omega) (show -2147483648 ≤ b by omega) (show b ≤ 2147483647 by omega), Int.tdiv_eq_ediv_of_nonneg ha]
theorem fj_div {a b : Int} (ha : 0 ≤ a) (ha2 : a < 9223372036854775808) (hb : 0 < b) (hb2 : b < 9223372036854775808) : Int64.ofInt a / Int64.ofInt b = Int64.ofInt (a / b) := by
  rw [← Int64.ofInt_tdiv (show -9223372036854775808 ≤ a by omega) (show a ≤ 9223372036854775807 by omega) (show -9223372036854775808 ≤ b by omega) (show b ≤ 9223372036854775807 by omega), Int.tdiv_eq_ediv_of_nonneg ha]
theorem mx_md (a b : Int) : a - a / b * b = a % b := by
  have := Int.emod_add_mul_ediv a b
  have e : a / b * b = b * (a / b) := Int.mul_comm _ _
  omega
theorem fx_idiv {a b : Int} (hi : ik_at mid pc = some .idiv) (ha : 0 ≤ a) (ha2 : a < 2147483648) (hb : 0 < b) (hb2 : b < 2147483648) (K : ik_W X mid (pc + 1) loc (fI (a / b) :: r) h cl sl post) : ik_W X mid pc loc (fI b :: fI a :: r) h cl sl post :=
  fw_1 hi rfl rfl (by simp only [ik_step, ik_bo]; rw [if_pos (fi_ne0 hb hb2), fi_div ha ha2 hb hb2]) K
theorem fx_irem {a b : Int} (hi : ik_at mid pc = some .irem) (ha : 0 ≤ a) (ha2 : a < 2147483648) (hb : 0 < b) (hb2 : b < 2147483648) (K : ik_W X mid (pc + 1) loc (fI (a % b) :: r) h cl sl post) : ik_W X mid pc loc (fI b :: fI a :: r) h cl sl post :=
  fw_1 hi rfl rfl (by simp only [ik_step, ik_bo]; rw [if_pos (fi_ne0 hb hb2), fi_div ha ha2 hb hb2, ← Int32.ofInt_mul, ← Int32.ofInt_sub, mx_md]) K
theorem fx_ldiv {a b : Int} (hi : ik_at mid pc = some .ldiv) (ha : 0 ≤ a) (ha2 : a < 9223372036854775808) (hb : 0 < b) (hb2 : b < 9223372036854775808) (K : ik_W X mid (pc + 1) loc (fJ (a / b) :: r) h cl sl post) : ik_W X mid pc loc (fJ b :: fJ a :: r) h cl sl post :=
  fw_1 hi rfl rfl (by simp only [ik_step, ik_bo]; rw [if_pos (fj_ne0 hb hb2), fj_div ha ha2 hb hb2]) K
theorem fx_lrem {a b : Int} (hi : ik_at mid pc = some .lrem) (ha : 0 ≤ a) (ha2 : a < 9223372036854775808) (hb : 0 < b) (hb2 : b < 9223372036854775808) (K : ik_W X mid (pc + 1) loc (fJ (a % b) :: r) h cl sl post) : ik_W X mid pc loc (fJ b :: fJ a :: r) h cl sl post :=
  fw_1 hi rfl rfl (by simp only [ik_step, ik_bo]; rw [if_pos (fj_ne0 hb hb2), fj_div ha ha2 hb hb2, ← Int64.ofInt_mul, ← Int64.ofInt_sub, mx_md]) K
theorem fx_l2i {a : Int} (hi : ik_at mid pc = some .l2i) (K : ik_W X mid (pc + 1) loc (fI a :: r) h cl sl post) : ik_W X mid pc loc (fJ a :: r) h cl sl post :=
  fw_1 hi rfl rfl (congrArg (fun v => some (pc + 1, loc, Value.int v :: r, h, cl, sl)) Int64.toInt32_ofInt) K
theorem fx_ineg {a : Int} (hi : ik_at mid pc = some .ineg) (K : ik_W X mid (pc + 1) loc (fI (-a) :: r) h cl sl post) : ik_W X mid pc loc (fI a :: r) h cl sl post :=
  fw_1 hi rfl rfl (congrArg (fun v => some (pc + 1, loc, Value.int v :: r, h, cl, sl)) (Int32.ofInt_neg a).symm) K
theorem fx_lneg {a : Int} (hi : ik_at mid pc = some .lneg) (K : ik_W X mid (pc + 1) loc (fJ (-a) :: r) h cl sl post) : ik_W X mid pc loc (fJ a :: r) h cl sl post :=
  fw_1 hi rfl rfl (congrArg (fun v => some (pc + 1, loc, Value.long v :: r, h, cl, sl)) (Int64.ofInt_neg a).symm) K
theorem fb_and (m n : Nat) : Int32.ofInt m &&& Int32.ofInt n = Int32.ofInt ((m &&& n : Nat) : Int) := by
  rw [Int32.ofInt_eq_ofNat, Int32.ofInt_eq_ofNat, Int32.ofInt_eq_ofNat]
  exact Int32.toBitVec_inj.mp (by simp)
theorem fb_or (m n : Nat) : Int32.ofInt m ||| Int32.ofInt n = Int32.ofInt ((m ||| n : Nat) : Int) := by
  rw [Int32.ofInt_eq_ofNat, Int32.ofInt_eq_ofNat, Int32.ofInt_eq_ofNat]
  exact Int32.toBitVec_inj.mp (by simp)
theorem fb_xor (m n : Nat) : Int32.ofInt m ^^^ Int32.ofInt n = Int32.ofInt ((m ^^^ n : Nat) : Int) := by
  rw [Int32.ofInt_eq_ofNat, Int32.ofInt_eq_ofNat, Int32.ofInt_eq_ofNat]
  exact Int32.toBitVec_inj.mp (by simp)
theorem fb_not (n : Nat) : Int32.ofInt n ^^^ Int32.ofInt (-1) = Int32.ofInt (-(n : Int) - 1) := by
  have e : Int32.ofInt (-1) = -1 := by decide
  rw [e, Int32.xor_neg_one, Int32.not_eq_neg_add, Int32.ofInt_sub, Int32.ofInt_neg]
  rfl
theorem fb_nand (m n : Nat) : Int32.ofInt m &&& Int32.ofInt (-(n : Int) - 1) = Int32.ofInt ((m ^^^ (m &&& n) : Nat) : Int) := by
  rw [← fb_not, ← fb_xor, ← fb_and]
  have e : Int32.ofInt (-1) = -1 := by decide
  rw [e, Int32.xor_neg_one]
  refine Int32.toBitVec_inj.mp (BitVec.eq_of_getElem_eq fun i hi => ?_)
  simp only [Int32.toBitVec_and, Int32.toBitVec_not, Int32.toBitVec_xor, BitVec.getElem_and, BitVec.getElem_not, BitVec.getElem_xor]
  cases (Int32.ofInt (m : Int)).toBitVec[i] <;> cases (Int32.ofInt (n : Int)).toBitVec[i] <;> rfl
theorem fb_shl {p : Nat} (hp : p < 13) : Int32.ofInt 1 <<< (Int32.ofInt p &&& 31) = Int32.ofInt ((1 <<< p : Nat) : Int) := by
  have : ∀ p, p < 13 → Int32.ofInt 1 <<< (Int32.ofInt (p : Nat) &&& 31) = Int32.ofInt ((1 <<< p : Nat) : Int) := by decide +kernel
  exact this p hp
theorem fb_shr {n p : Nat} (hn : n < 2147483648) (hp : p < 13) : Int32.ofInt n >>> (Int32.ofInt p &&& 31) = Int32.ofInt ((n >>> p : Nat) : Int) := by
  have h1 : ∀ p, p < 13 → ((Int32.ofInt (p : Nat) &&& 31).toBitVec.smod 32).toNat = p := by decide +kernel
  have hm : (Int32.ofInt n).toBitVec.msb = false := by
    rw [BitVec.msb_eq_false_iff_two_mul_lt, Int32.ofInt_eq_ofNat]
    simp
    omega
  refine Int32.toBitVec_inj.mp (BitVec.eq_of_toNat_eq ?_)
  show (BitVec.sshiftRight' (Int32.ofInt n).toBitVec ((Int32.ofInt (p : Nat) &&& 31).toBitVec.smod 32)).toNat = _
  show ((Int32.ofInt n).toBitVec.sshiftRight ((Int32.ofInt (p : Nat) &&& 31).toBitVec.smod 32).toNat).toNat = _
  rw [BitVec.sshiftRight_eq_of_msb_false hm, BitVec.toNat_ushiftRight, h1 p hp, Int32.ofInt_eq_ofNat, Int32.ofInt_eq_ofNat]
  have : n >>> p ≤ n := by rw [Nat.shiftRight_eq_div_pow]; exact Nat.div_le_self ..
  simp
  rw [Nat.mod_eq_of_lt (show n < 4294967296 by omega), Nat.mod_eq_of_lt (show n >>> p < 4294967296 by omega)]
theorem fx_and {m n : Nat} (hi : ik_at mid pc = some .iand) (K : ik_W X mid (pc + 1) loc (fI ((m &&& n : Nat) : Int) :: r) h cl sl post) : ik_W X mid pc loc (fI (n : Int) :: fI (m : Int) :: r) h cl sl post :=
  fw_1 hi rfl rfl (congrArg (fun v => some (pc + 1, loc, Value.int v :: r, h, cl, sl)) (fb_and m n)) K
theorem fx_or {m n : Nat} (hi : ik_at mid pc = some .ior) (K : ik_W X mid (pc + 1) loc (fI ((m ||| n : Nat) : Int) :: r) h cl sl post) : ik_W X mid pc loc (fI (n : Int) :: fI (m : Int) :: r) h cl sl post :=
  fw_1 hi rfl rfl (congrArg (fun v => some (pc + 1, loc, Value.int v :: r, h, cl, sl)) (fb_or m n)) K
theorem fx_xor {m n : Nat} (hi : ik_at mid pc = some .ixor) (K : ik_W X mid (pc + 1) loc (fI ((m ^^^ n : Nat) : Int) :: r) h cl sl post) : ik_W X mid pc loc (fI (n : Int) :: fI (m : Int) :: r) h cl sl post :=
  fw_1 hi rfl rfl (congrArg (fun v => some (pc + 1, loc, Value.int v :: r, h, cl, sl)) (fb_xor m n)) K
theorem fx_not {n : Nat} (hi : ik_at mid pc = some .ixor) (K : ik_W X mid (pc + 1) loc (fI (-(n : Int) - 1) :: r) h cl sl post) : ik_W X mid pc loc (fI (-1) :: fI (n : Int) :: r) h cl sl post :=
  fw_1 hi rfl rfl (congrArg (fun v => some (pc + 1, loc, Value.int v :: r, h, cl, sl)) (fb_not n)) K
theorem fx_nand {m n : Nat} (hi : ik_at mid pc = some .iand) (K : ik_W X mid (pc + 1) loc (fI ((m ^^^ (m &&& n) : Nat) : Int) :: r) h cl sl post) : ik_W X mid pc loc (fI (-(n : Int) - 1) :: fI (m : Int) :: r) h cl sl post :=
  fw_1 hi rfl rfl (congrArg (fun v => some (pc + 1, loc, Value.int v :: r, h, cl, sl)) (fb_nand m n)) K
theorem fx_shl {p : Int} (hi : ik_at mid pc = some .ishl) (h0 : 0 ≤ p) (h1 : p < 13) (K : ik_W X mid (pc + 1) loc (fI ((1 <<< p.toNat : Nat) : Int) :: r) h cl sl post) : ik_W X mid pc loc (fI p :: fI 1 :: r) h cl sl post := by
  have e := fb_shl (p := p.toNat) (by omega)
  rw [Int.toNat_of_nonneg h0] at e
  exact fw_1 hi rfl rfl (congrArg (fun v => some (pc + 1, loc, Value.int v :: r, h, cl, sl)) e) K
theorem fx_shr {n : Nat} {p : Int} (hi : ik_at mid pc = some .ishr) (hn : n < 2147483648) (h0 : 0 ≤ p) (h1 : p < 13) (K : ik_W X mid (pc + 1) loc (fI ((n >>> p.toNat : Nat) : Int) :: r) h cl sl post) : ik_W X mid pc loc (fI p :: fI (n : Int) :: r) h cl sl post := by
  have e := fb_shr (n := n) (p := p.toNat) hn (by omega)
  rw [Int.toNat_of_nonneg h0] at e
  exact fw_1 hi rfl rfl (congrArg (fun v => some (pc + 1, loc, Value.int v :: r, h, cl, sl)) e) K
theorem fx_abs {a : Int} {i : Instr} {k : Nat} (hi : ik_at mid pc = some i) (hr : ik_isR i = false) (hc : ik_call mid i = some (1, k, 7)) (hl : 1 ≤ ik_fr mid ∧ 40 ≤ ik_lo mid ∧ ik_sum r ≤ 8) (ha : -2147483648 ≤ a) (ha2 : a < 2147483648) (K : ik_W X mid (pc + 3) loc (fI (if 0 ≤ a then a else 0 - a) :: r) h cl sl post) : ik_W X mid pc loc (fI a :: r) h cl sl post := by
  obtain ⟨n, z, he, hp⟩ := K
  refine ⟨n + 1, z, ?_, hp⟩
  simp only [ik_ex, hi, hr, hc, cond_false, ik_math, ik_bo]
  have e : (if 0 ≤ Int32.ofInt a then Int32.ofInt a else 0 - Int32.ofInt a) = Int32.ofInt (if 0 ≤ a then a else 0 - a) := by
    have hx : (0 ≤ Int32.ofInt a) = (0 ≤ a) := by rw [cv_le, fi_i ha ha2, (show (0 : Int32).toInt = 0 from by decide)]
    by_cases hba : 0 ≤ a
    · rw [if_pos hba, if_pos (hx.mpr hba)]
    · rw [if_neg hba, if_neg (fun w => hba (hx.mp w)), Int32.ofInt_sub]; rfl
  rw [e]
  simp only [List.drop_succ_cons, List.drop_zero]
  rw [if_pos hl]
  exact he
theorem fx_max {a b : Int} {i : Instr} {k : Nat} (hi : ik_at mid pc = some i) (hr : ik_isR i = false) (hc : ik_call mid i = some (2, k, 7)) (hl : 1 ≤ ik_fr mid ∧ 40 ≤ ik_lo mid ∧ ik_sum r ≤ 8) (ha : -9223372036854775808 ≤ a) (ha2 : a < 9223372036854775808) (hb : -9223372036854775808 ≤ b) (hb2 : b < 9223372036854775808) (K : ik_W X mid (pc + 3) loc (fJ (if b < a then a else b) :: r) h cl sl post) : ik_W X mid pc loc (fJ b :: fJ a :: r) h cl sl post := by
  obtain ⟨n, z, he, hp⟩ := K
  refine ⟨n + 1, z, ?_, hp⟩
  simp only [ik_ex, hi, hr, hc, cond_false, ik_math, ik_bo]
  have e : (if Int64.ofInt b < Int64.ofInt a then Int64.ofInt a else Int64.ofInt b) = Int64.ofInt (if b < a then a else b) := by
    have hx : (Int64.ofInt b < Int64.ofInt a) = (b < a) := by rw [Int64.lt_iff_toInt_lt, fj_i hb hb2, fj_i ha ha2]
    by_cases hba : b < a
    · rw [if_pos hba, if_pos (hx.mpr hba)]
    · rw [if_neg hba, if_neg (fun w => hba (hx.mp w))]
  rw [e]
  simp only [List.drop_succ_cons, List.drop_zero]
  rw [if_pos hl]
  exact he
theorem fx_aal {a k : Nat} {z : Int} {C : String} {vs : List Value} (hi : ik_at mid pc = some .aaload) (hc : h[a]? = some (.inl (.object C, vs))) (h0 : 0 ≤ z) (h2 : z < 2147483648) (hv : vs[z.toNat]? = some (.ref k)) (K : ik_W X mid (pc + 1) loc (.ref k :: r) h cl sl post) : ik_W X mid pc loc (fI z :: .ref a :: r) h cl sl post := by
  refine fw_1 hi rfl rfl ?_ K
  simp only [ik_step, hc]
  rw [if_neg (fi_z h0 h2), fi_n h0 h2, hv]
theorem fx_cpy {i : Instr} {q k a b : Nat} {xs ys : List Int} {n : Int} (hi : ik_at mid pc = some i) (hr : ik_isR i = false) (hc : ik_call mid i = some (q, k, 5)) (ha : h[a]? = some (.inl (.int, fA xs))) (hb : h[b]? = some (.inl (.int, fA ys))) (hn : 0 ≤ n) (hn2 : n < 2147483648) (h1 : xs.length = n.toNat) (h2 : ys.length = n.toNat) (hab : a ≠ b) (hl : 1 ≤ ik_fr mid ∧ 40 ≤ ik_lo mid ∧ ik_sum r ≤ 8) (K : ∀ h', h'[b]? = some (.inl (.int, fA xs)) → (∀ c, c ≠ b → h'[c]? = h[c]?) → h'.length = h.length → ik_W X mid (pc + 3) loc r h' cl sl post) : ik_W X mid pc loc (fI n :: fI 0 :: .ref b :: fI 0 :: .ref a :: r) h cl sl post := by
  obtain ⟨m, z, he, hp⟩ := K (h.set b (.inl (.int, fA xs))) (List.getElem?_set_self (hg_lt hb)) (fun c hcb => List.getElem?_set_ne (fun q => hcb q.symm)) List.length_set
  refine ⟨m + 1, z, ?_, hp⟩
  have z0 : (Int32.ofInt 0).toNatClampNeg = 0 := by decide
  have n0 : ¬ Int32.ofInt 0 < 0 := by decide
  have ec : ik_cpy (fA xs) (fA ys) 0 0 n.toNat = fA xs := by
    unfold ik_cpy
    rw [List.take_zero, List.drop_zero, List.nil_append, List.take_of_length_le (by rw [fA_len]; omega), List.drop_eq_nil_of_le (by rw [fA_len]; omega), List.append_nil]
  have ea : ik_acp (fI n :: fI 0 :: .ref b :: fI 0 :: .ref a :: r) h = some (r, h.set b (.inl (.int, fA xs))) := by
    simp only [ik_acp, ha, hb]
    rw [if_pos ⟨fi_z hn hn2, n0, n0, by rw [fi_n hn hn2, z0, fA_len]; omega, by rw [fi_n hn hn2, z0, fA_len]; omega, hab⟩, fi_n hn hn2, z0, ec]
  simp only [ik_ex, hi, hr, hc, cond_false, ea, ik_bo]
  rw [if_pos hl]
  exact he
end
end
noncomputable section
theorem hfr_w {T : List Nat} {h0 h h' : List ik_E} {a : Nat} (F : hfr T h0 h) (f : ∀ b, b ≠ a → h'[b]? = h[b]?) (l : h'.length = h.length) (m : a ∈ T) : hfr T h0 h' := ⟨l.trans F.1, fun b hb => (f b (fun q => hb (by rw [q]; exact m))).trans (F.2 b hb)⟩
theorem hfr_c {T U : List Nat} {h0 h h' : List ik_E} (F : hfr T h0 h) (G : hfr U h h') (s : ∀ b, b ∈ U → b ∈ T) : hfr T h0 h' := hfr_tr F (hfr_mono G s)
section
variable {X : Option (Nat × (Nat → Int32))} {mid pc : Nat} {loc : ik_L} {st r : List Value} {h : List ik_E} {cl sl : Nat} {post : ik_St → Prop}
theorem fx_mulc {a b : Int} (hi : ik_at mid pc = some .imul) (K : ik_W X mid (pc + 1) loc (fI (b * a) :: r) h cl sl post) : ik_W X mid pc loc (fI b :: fI a :: r) h cl sl post :=
  fw_mul hi (by rw [Int.mul_comm]; exact K)
theorem bt_1 {n k : Nat} (hb : n.testBit k = true) : (n >>> k) &&& 1 = 1 := by
  rw [Nat.testBit, bne_iff_ne, Nat.and_comm] at hb
  have : (n >>> k) &&& 1 < 2 := by rw [Nat.and_one_is_mod]; omega
  omega
theorem bt_0 {n k : Nat} (hb : n.testBit k = false) : (n >>> k) &&& 1 = 0 := by
  rw [Nat.testBit, Nat.and_comm] at hb
  exact Decidable.byContradiction fun q => by
    rw [bne_iff_ne.mpr q] at hb; cases hb
theorem fx_bit {n k : Nat} (hi : ik_at mid pc = some .iand) (K1 : n.testBit k = true → ik_W X mid (pc + 1) loc (fI 1 :: r) h cl sl post) (K2 : n.testBit k = false → ik_W X mid (pc + 1) loc (fI 0 :: r) h cl sl post) : ik_W X mid pc loc (fI 1 :: fI ((n >>> k : Nat) : Int) :: r) h cl sl post := by
  refine fx_and (n := 1) hi ?_
  cases hb : n.testBit k with
  | true => rw [bt_1 hb]; exact K1 hb
  | false => rw [bt_0 hb]; exact K2 hb
theorem fx_min {a b : Int} {i : Instr} {k : Nat} (hi : ik_at mid pc = some i) (hr : ik_isR i = false) (hc : ik_call mid i = some (0, k, 7)) (hl : 1 ≤ ik_fr mid ∧ 40 ≤ ik_lo mid ∧ ik_sum r ≤ 8) (ha : -2147483648 ≤ a) (ha2 : a < 2147483648) (hb : -2147483648 ≤ b) (hb2 : b < 2147483648) (K : ∀ m, m ≤ a ∧ m ≤ b ∧ (m = a ∨ m = b) → ik_W X mid (pc + 3) loc (fI m :: r) h cl sl post) : ik_W X mid pc loc (fI b :: fI a :: r) h cl sl post :=
  fw_min hi hr hc hl ha ha2 hb hb2 (K _ (by split <;> omega))
theorem fx_ab {a : Int} {i : Instr} {k : Nat} (hi : ik_at mid pc = some i) (hr : ik_isR i = false) (hc : ik_call mid i = some (1, k, 7)) (hl : 1 ≤ ik_fr mid ∧ 40 ≤ ik_lo mid ∧ ik_sum r ≤ 8) (ha : -2147483648 ≤ a) (ha2 : a < 2147483648) (K : ∀ m, (0 ≤ a ∧ m = a) ∨ (a < 0 ∧ m = -a) → ik_W X mid (pc + 3) loc (fI m :: r) h cl sl post) : ik_W X mid pc loc (fI a :: r) h cl sl post :=
  fx_abs hi hr hc hl ha ha2 (K _ (by split <;> omega))
theorem fx_mx {a b : Int} {i : Instr} {k : Nat} (hi : ik_at mid pc = some i) (hr : ik_isR i = false) (hc : ik_call mid i = some (2, k, 7)) (hl : 1 ≤ ik_fr mid ∧ 40 ≤ ik_lo mid ∧ ik_sum r ≤ 8) (ha : -9223372036854775808 ≤ a) (ha2 : a < 9223372036854775808) (hb : -9223372036854775808 ≤ b) (hb2 : b < 9223372036854775808) (K : ∀ m, a ≤ m ∧ b ≤ m ∧ (m = a ∨ m = b) → ik_W X mid (pc + 3) loc (fJ m :: r) h cl sl post) : ik_W X mid pc loc (fJ b :: fJ a :: r) h cl sl post :=
  fx_max hi hr hc hl ha ha2 hb hb2 (K _ (by split <;> omega))
theorem fx_ldw (k : Int) {x w : Nat} {v : Int32} (hi : ik_at mid pc = some (.ldc_w x)) (hx : ik_ci mid x = some (v, w)) (hk : v = Int32.ofInt k) (K : ik_W X mid (pc + 3) loc (fI k :: st) h cl sl post) : ik_W X mid pc loc st h cl sl post :=
  fw_1 hi rfl rfl (by subst hk; simp only [ik_step, hx]) K
end
end
