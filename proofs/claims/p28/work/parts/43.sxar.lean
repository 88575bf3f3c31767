noncomputable section
/-! arithmetic of the executor -/
theorem sx_bm {y : Int} (h1 : -2147483648 ≤ y) (h2 : y ≤ 2147483647) : y.bmod (2 ^ 32) = y := by
  rw [Int.bmod_def]
  split <;> omega
theorem sx_bm8 {y : Int} (h1 : -128 ≤ y) (h2 : y ≤ 127) : y.bmod (2 ^ 8) = y := by
  rw [Int.bmod_def]
  split <;> omega
theorem sx_bm8r (y : Int) : -128 ≤ y.bmod (2 ^ 8) ∧ y.bmod (2 ^ 8) ≤ 127 := by
  rw [Int.bmod_def]
  split <;> omega
theorem sx_bm64 {y : Int} (h1 : -9223372036854775808 ≤ y) (h2 : y ≤ 9223372036854775807) : y.bmod (2 ^ 64) = y := by
  rw [Int.bmod_def]
  split <;> omega
theorem sx_i32 (x : Int32) : -2147483648 ≤ x.toInt ∧ x.toInt ≤ 2147483647 := by
  have h1 := Int32.le_toInt x
  have h2 := Int32.toInt_lt x
  omega
theorem sx_i64 (x : Int64) : -9223372036854775808 ≤ x.toInt ∧ x.toInt ≤ 9223372036854775807 := by
  have h1 := Int64.le_toInt x
  have h2 := Int64.toInt_lt x
  omega
def sx_ti (g : sx_G) : sx_G × sx_E := sx_fr g (-2147483648) 2147483647
def sx_tl (g : sx_G) : sx_G × sx_E := sx_fr g (-9223372036854775808) 9223372036854775807
/-- what an operation may give: the new knowledge and expression stand for z -/
def sx_gv (ν : List Int) (p : sx_G × sx_E) (z : Int) : Prop := ∃ δ, sx_ok (ν ++ δ) p.1 ∧ sx_ev (ν ++ δ) p.2 = some z
theorem sx_gv_id {ν : List Int} {g : sx_G} (hg : sx_ok ν g) {e : sx_E} {z : Int} (he : sx_ev ν e = some z) : sx_gv ν (g, e) z := ⟨[], by rw [List.append_nil]; exact ⟨hg, he⟩⟩
theorem sx_gv_fr {ν : List Int} {g : sx_G} (hg : sx_ok ν g) {l u z : Int} (h1 : l ≤ z) (h2 : z ≤ u) : sx_gv ν (sx_fr g l u) z := ⟨[z], sx_fr_ok hg h1 h2⟩
theorem sx_gv_ti {ν : List Int} {g : sx_G} (hg : sx_ok ν g) (z : Int32) : sx_gv ν (sx_ti g) z.toInt := sx_gv_fr hg (sx_i32 z).1 (sx_i32 z).2
theorem sx_gv_tl {ν : List Int} {g : sx_G} (hg : sx_ok ν g) (z : Int64) : sx_gv ν (sx_tl g) z.toInt := sx_gv_fr hg (sx_i64 z).1 (sx_i64 z).2
def sx_ni (g : sx_G) (e : sx_E) : sx_G × sx_E := bif sx_inb g e (-2147483648) 2147483647 then (g, e) else sx_ti g
theorem sx_ni_ok {ν : List Int} {g : sx_G} (hg : sx_ok ν g) {e : sx_E} {y : Int} (he : sx_ev ν e = some y) {z : Int32} (hz : -2147483648 ≤ y → y ≤ 2147483647 → z.toInt = y) : sx_gv ν (sx_ni g e) z.toInt := by
  unfold sx_ni
  cases hb : sx_inb g e (-2147483648) 2147483647 with
  | true =>
    obtain ⟨h1, h2⟩ := sx_inb_ok hg he hb
    rw [hz h1 h2]
    exact sx_gv_id hg he
  | false => exact sx_gv_ti hg z
def sx_nl (g : sx_G) (e : sx_E) : sx_G × sx_E := bif sx_inb g e (-9223372036854775808) 9223372036854775807 then (g, e) else sx_tl g
theorem sx_nl_ok {ν : List Int} {g : sx_G} (hg : sx_ok ν g) {e : sx_E} {y : Int} (he : sx_ev ν e = some y) {z : Int64} (hz : -9223372036854775808 ≤ y → y ≤ 9223372036854775807 → z.toInt = y) : sx_gv ν (sx_nl g e) z.toInt := by
  unfold sx_nl
  cases hb : sx_inb g e (-9223372036854775808) 9223372036854775807 with
  | true =>
    obtain ⟨h1, h2⟩ := sx_inb_ok hg he hb
    rw [hz h1 h2]
    exact sx_gv_id hg he
  | false => exact sx_gv_tl hg z
/-- is it not 0 -/
def sx_nz (g : sx_G) (e : sx_E) : Bool := sx_nn g (sx_sub e (1, [])) || sx_nn g (sx_sub (-1, []) e)
theorem sx_nz_ok {ν : List Int} {g : sx_G} (hg : sx_ok ν g) {e : sx_E} {y : Int} (he : sx_ev ν e = some y) (h : sx_nz g e = true) : y ≠ 0 := by
  unfold sx_nz at h
  rcases Bool.or_eq_true_iff.mp h with h | h
  · have := sx_nn_ok hg (sx_ev_sub he sx_ev_k) h
    omega
  · have := sx_nn_ok hg (sx_ev_sub sx_ev_k he) h
    omega
/-- both are known -/
def sx_fo (f : Int32 → Int32 → Int32) (g : sx_G) (x y : sx_E) : sx_G × sx_E := match sx_k g x, sx_k g y with
  | some a, some b => (g, ((f (Int32.ofInt a) (Int32.ofInt b)).toInt, []))
  | _, _ => sx_ti g
theorem sx_fo_ok {f : Int32 → Int32 → Int32} {ν : List Int} {g : sx_G} (hg : sx_ok ν g) {ex ey : sx_E} {x y : Int32} (hx : sx_ev ν ex = some x.toInt) (hy : sx_ev ν ey = some y.toInt) : sx_gv ν (sx_fo f g ex ey) (f x y).toInt := by
  unfold sx_fo
  split
  · rename_i a b ha hb
    have h1 := sx_k_ok hg hx ha
    have h2 := sx_k_ok hg hy hb
    subst h1; subst h2
    rw [Int32.ofInt_toInt, Int32.ofInt_toInt]
    exact sx_gv_id hg sx_ev_k
  · exact sx_gv_ti hg _
theorem sx_and {x y : Int32} (h : 0 ≤ y.toInt) : 0 ≤ (x &&& y).toInt ∧ (x &&& y).toInt ≤ y.toInt := by
  have e1 : (x &&& y).toInt = (x.toBitVec &&& y.toBitVec).toInt := rfl
  have e2 : y.toInt = y.toBitVec.toInt := rfl
  rw [e2] at h
  rw [e1, e2]
  have hn : y.toBitVec.toInt = y.toBitVec.toNat := by
    rw [BitVec.toInt_eq_toNat_cond] at h ⊢
    split at h
    · rename_i hc; rw [if_pos hc]
    · have := y.toBitVec.isLt
      omega
  have hlt : y.toBitVec.toNat < 2 ^ 31 := by
    have := y.toInt_lt
    rw [e2, hn] at this
    omega
  have hle : (x.toBitVec &&& y.toBitVec).toNat ≤ y.toBitVec.toNat := by
    rw [BitVec.toNat_and]
    exact Nat.and_le_right
  have : (x.toBitVec &&& y.toBitVec).toInt = (x.toBitVec &&& y.toBitVec).toNat := by
    rw [BitVec.toInt_eq_toNat_cond, if_pos (by omega)]
  rw [this, hn]
  omega
def sx_an (g : sx_G) (x y : sx_E) : sx_G × sx_E := match sx_k g x, sx_k g y with
  | some a, some b => (g, ((Int32.ofInt a &&& Int32.ofInt b).toInt, []))
  | _, some b => bif decide (0 ≤ b) then sx_fr g 0 b else sx_ti g
  | _, _ => sx_ti g
theorem sx_an_ok {ν : List Int} {g : sx_G} (hg : sx_ok ν g) {ex ey : sx_E} {x y : Int32} (hx : sx_ev ν ex = some x.toInt) (hy : sx_ev ν ey = some y.toInt) : sx_gv ν (sx_an g ex ey) (x &&& y).toInt := by
  unfold sx_an
  split
  · rename_i a b ha hb
    have h1 := sx_k_ok hg hx ha
    have h2 := sx_k_ok hg hy hb
    subst h1; subst h2
    rw [Int32.ofInt_toInt, Int32.ofInt_toInt]
    exact sx_gv_id hg sx_ev_k
  · rename_i b hb _
    have h2 := sx_k_ok hg hy hb
    subst h2
    by_cases h0 : 0 ≤ y.toInt
    · rw [decide_eq_true h0]
      exact sx_gv_fr hg (sx_and h0).1 (sx_and h0).2
    · rw [decide_eq_false h0]
      exact sx_gv_ti hg _
  · exact sx_gv_ti hg _
def sx_mu (g : sx_G) (x y : sx_E) : sx_G × sx_E := match sx_k g y with
  | some c => sx_ni g (sx_scl c x)
  | none => match sx_k g x with
    | some c => sx_ni g (sx_scl c y)
    | none => sx_ti g
theorem sx_mu_ok {ν : List Int} {g : sx_G} (hg : sx_ok ν g) {ex ey : sx_E} {x y : Int32} (hx : sx_ev ν ex = some x.toInt) (hy : sx_ev ν ey = some y.toInt) : sx_gv ν (sx_mu g ex ey) (x * y).toInt := by
  unfold sx_mu
  split
  · rename_i c hc
    have h1 := sx_k_ok hg hy hc
    subst h1
    refine sx_ni_ok hg (sx_ev_scl hx) fun h1 h2 => ?_
    rw [Int32.toInt_mul, Int.mul_comm, sx_bm h1 h2]
  · split
    · rename_i c hc
      have h1 := sx_k_ok hg hx hc
      subst h1
      refine sx_ni_ok hg (sx_ev_scl hy) fun h1 h2 => ?_
      rw [Int32.toInt_mul, sx_bm h1 h2]
    · exact sx_gv_ti hg _
theorem sx_divv {x y : Int32} (h0 : 0 ≤ x.toInt) (h1 : 0 < y.toInt) : (x / y).toInt = x.toInt / y.toInt := by
  have hx := sx_i32 x
  rw [Int32.toInt_div, Int.tdiv_eq_ediv_of_nonneg h0]
  have a1 : 0 ≤ x.toInt / y.toInt := Int.ediv_nonneg h0 (by omega)
  have a2 : x.toInt / y.toInt ≤ x.toInt := Int.ediv_le_self _ h0
  exact sx_bm (by omega) (by omega)
def sx_dv (g : sx_G) (x y : sx_E) : Option (sx_G × sx_E) := match sx_k g y with
  | some c => bif decide (0 < c) then (match sx_eb g.1 x with
    | some (l, u) => bif decide (0 ≤ l) then some (sx_fr g (l / c) (u / c)) else some (sx_ti g)
    | none => none) else none
  | none => bif sx_nz g y then some (sx_ti g) else none
theorem sx_dv_ok {ν : List Int} {g : sx_G} (hg : sx_ok ν g) {ex ey : sx_E} {x y : Int32} {p : sx_G × sx_E} (hx : sx_ev ν ex = some x.toInt) (hy : sx_ev ν ey = some y.toInt) (h : sx_dv g ex ey = some p) : ¬ y = 0 ∧ sx_gv ν p (x / y).toInt := by
  unfold sx_dv at h
  split at h
  · rename_i c hc
    have h1 := sx_k_ok hg hy hc
    subst h1
    by_cases hp : 0 < y.toInt
    · rw [decide_eq_true hp] at h
      simp only [cond_true] at h
      have hne : ¬ y = 0 := fun q => by rw [q] at hp; exact absurd hp (by decide)
      refine ⟨hne, ?_⟩
      split at h
      · rename_i l u hb
        obtain ⟨z, hz, z1, z2⟩ := sx_eb_ok hg.1 hb
        rw [hx] at hz; cases hz
        by_cases hl : 0 ≤ l
        · rw [decide_eq_true hl] at h
          cases h
          rw [sx_divv (by omega) hp]
          exact sx_gv_fr hg (Int.ediv_le_ediv hp z1) (Int.ediv_le_ediv hp z2)
        · rw [decide_eq_false hl] at h
          cases h
          exact sx_gv_ti hg _
      · cases h
    · rw [decide_eq_false hp] at h
      cases h
  · cases hn : sx_nz g ey with
    | false => rw [hn] at h; cases h
    | true =>
      rw [hn] at h
      cases h
      have := sx_nz_ok hg hy hn
      exact ⟨fun q => this (by rw [q]; rfl), sx_gv_ti hg _⟩
theorem sx_remv {x y : Int32} (h0 : 0 ≤ x.toInt) (h1 : 0 < y.toInt) : (x - x / y * y).toInt = x.toInt % y.toInt := by
  have hx := sx_i32 x
  have hd := sx_divv h0 h1
  have a3 : 0 ≤ x.toInt % y.toInt := Int.emod_nonneg _ (by omega)
  have a4 := Int.mul_ediv_add_emod x.toInt y.toInt
  have a5 : (x / y * y).toInt = y.toInt * (x.toInt / y.toInt) := by
    rw [Int32.toInt_mul, hd, Int.mul_comm]
    have : 0 ≤ y.toInt * (x.toInt / y.toInt) := Int.mul_nonneg (by omega) (Int.ediv_nonneg h0 (by omega))
    exact sx_bm (by omega) (by omega)
  rw [Int32.toInt_sub, a5, show x.toInt - y.toInt * (x.toInt / y.toInt) = x.toInt % y.toInt by omega]
  have : 0 ≤ y.toInt * (x.toInt / y.toInt) := Int.mul_nonneg (by omega) (Int.ediv_nonneg h0 (by omega))
  exact sx_bm (by omega) (by omega)
theorem sx_remn {x y : Int32} (h0 : x.toInt < 0) (h1 : 0 < y.toInt) : (x - x / y * y).toInt = -((-x.toInt) % y.toInt) := by
  have hx := sx_i32 x
  have hy := sx_i32 y
  have a3 : 0 ≤ (-x.toInt) % y.toInt := Int.emod_nonneg _ (by omega)
  have a4 := Int.mul_ediv_add_emod (-x.toInt) y.toInt
  have a6 : 0 ≤ y.toInt * ((-x.toInt) / y.toInt) := Int.mul_nonneg (by omega) (Int.ediv_nonneg (by omega) (by omega))
  have a7 : 0 ≤ (-x.toInt) / y.toInt := Int.ediv_nonneg (by omega) (by omega)
  have a8 : (-x.toInt) / y.toInt ≤ -x.toInt := Int.ediv_le_self _ (by omega)
  have hd : (x / y).toInt = -((-x.toInt) / y.toInt) := by
    rw [Int32.toInt_div]
    have : x.toInt.tdiv y.toInt = -((-x.toInt) / y.toInt) := by
      rw [show x.toInt = -(-x.toInt) by omega, Int.neg_tdiv, Int.tdiv_eq_ediv_of_nonneg (by omega), Int.neg_neg]
    rw [this]
    exact sx_bm (by omega) (by omega)
  have a5 : (x / y * y).toInt = -(y.toInt * ((-x.toInt) / y.toInt)) := by
    rw [Int32.toInt_mul, hd, Int.neg_mul, Int.mul_comm]
    exact sx_bm (by omega) (by omega)
  rw [Int32.toInt_sub, a5, show x.toInt - -(y.toInt * ((-x.toInt) / y.toInt)) = -((-x.toInt) % y.toInt) by omega]
  exact sx_bm (by omega) (by omega)
theorem sx_remb {x y : Int32} (h1 : 0 < y.toInt) : -(y.toInt - 1) ≤ (x - x / y * y).toInt ∧ (x - x / y * y).toInt ≤ y.toInt - 1 := by
  by_cases h0 : 0 ≤ x.toInt
  · rw [sx_remv h0 h1]
    have a1 := Int.emod_lt_of_pos x.toInt h1
    have a2 := Int.emod_nonneg x.toInt (show y.toInt ≠ 0 by omega)
    omega
  · rw [sx_remn (by omega) h1]
    have a1 := Int.emod_lt_of_pos (-x.toInt) h1
    have a2 := Int.emod_nonneg (-x.toInt) (show y.toInt ≠ 0 by omega)
    omega
def sx_rm (g : sx_G) (x y : sx_E) : Option (sx_G × sx_E) := match sx_k g y with
  | some c => bif decide (0 < c) then (match sx_eb g.1 x with
    | some (l, u) => bif decide (0 ≤ l) then (bif (l == u) then some (g, (l % c, [])) else some (sx_fr g 0 (min u (c - 1)))) else some (sx_fr g (-(c - 1)) (c - 1))
    | none => none) else none
  | none => bif sx_nz g y then some (sx_ti g) else none
theorem sx_rm_ok {ν : List Int} {g : sx_G} (hg : sx_ok ν g) {ex ey : sx_E} {x y : Int32} {p : sx_G × sx_E} (hx : sx_ev ν ex = some x.toInt) (hy : sx_ev ν ey = some y.toInt) (h : sx_rm g ex ey = some p) : ¬ y = 0 ∧ sx_gv ν p (x - x / y * y).toInt := by
  unfold sx_rm at h
  split at h
  · rename_i c hc
    have h1 := sx_k_ok hg hy hc
    subst h1
    by_cases hp : 0 < y.toInt
    · rw [decide_eq_true hp] at h
      simp only [cond_true] at h
      have hne : ¬ y = 0 := fun q => by rw [q] at hp; exact absurd hp (by decide)
      refine ⟨hne, ?_⟩
      split at h
      · rename_i l u hb
        obtain ⟨z, hz, z1, z2⟩ := sx_eb_ok hg.1 hb
        rw [hx] at hz; cases hz
        by_cases hl : 0 ≤ l
        · rw [decide_eq_true hl] at h
          simp only [cond_true] at h
          rw [sx_remv (by omega) hp]
          cases hlu : (l == u) with
          | true =>
          rw [hlu] at h
          cases h
          have h1 : l = u := eq_of_beq hlu
          have h2 : x.toInt = l := by omega
          rw [h2]
          exact sx_gv_id hg sx_ev_k
          | false =>
          rw [hlu] at h
          cases h
          refine sx_gv_fr hg (Int.emod_nonneg _ (by omega)) ?_
          have a1 := Int.emod_lt_of_pos x.toInt hp
          have a2 : x.toInt % y.toInt ≤ x.toInt := by
            have a4 := Int.mul_ediv_add_emod x.toInt y.toInt
            have : 0 ≤ y.toInt * (x.toInt / y.toInt) := Int.mul_nonneg (by omega) (Int.ediv_nonneg (by omega) (by omega))
            omega
          exact Int.le_min.mpr ⟨by omega, by omega⟩
        · rw [decide_eq_false hl] at h
          cases h
          exact sx_gv_fr hg (sx_remb hp).1 (sx_remb hp).2
      · cases h
    · rw [decide_eq_false hp] at h
      cases h
  · cases hn : sx_nz g ey with
    | false => rw [hn] at h; cases h
    | true =>
      rw [hn] at h
      cases h
      have := sx_nz_ok hg hy hn
      exact ⟨fun q => this (by rw [q]; rfl), sx_gv_ti hg _⟩
/-- a sum that surely runs over, by once around -/
def sx_nw (g : sx_G) (e : sx_E) : sx_G × sx_E := bif sx_inb g e (-2147483648) 2147483647 then (g, e) else bif sx_inb g e 2147483648 6442450943 then (g, sx_sub e (4294967296, [])) else bif sx_inb g e (-6442450944) (-2147483649) then (g, sx_add e (4294967296, [])) else sx_ti g
theorem sx_nw_ok {ν : List Int} {g : sx_G} (hg : sx_ok ν g) {e : sx_E} {y : Int} (he : sx_ev ν e = some y) {z : Int32} (hz : z.toInt = y.bmod (2 ^ 32)) : sx_gv ν (sx_nw g e) z.toInt := by
  unfold sx_nw
  cases hb : sx_inb g e (-2147483648) 2147483647 with
  | true =>
    obtain ⟨h1, h2⟩ := sx_inb_ok hg he hb
    rw [hz, sx_bm h1 h2]
    exact sx_gv_id hg he
  | false =>
    simp only [cond_false]
    cases hb2 : sx_inb g e 2147483648 6442450943 with
    | true =>
      obtain ⟨h1, h2⟩ := sx_inb_ok hg he hb2
      have : z.toInt = y - 4294967296 := by
        rw [hz, Int.bmod_def]
        split <;> omega
      rw [this]
      exact sx_gv_id hg (sx_ev_sub he sx_ev_k)
    | false =>
      simp only [cond_false]
      cases hb3 : sx_inb g e (-6442450944) (-2147483649) with
      | true =>
        obtain ⟨h1, h2⟩ := sx_inb_ok hg he hb3
        have : z.toInt = y + 4294967296 := by
          rw [hz, Int.bmod_def]
          split <;> omega
        rw [this]
        exact sx_gv_id hg (sx_ev_add he sx_ev_k)
      | false => exact sx_gv_ti hg z
theorem sx_ad_ok {ν : List Int} {g : sx_G} (hg : sx_ok ν g) {ex ey : sx_E} {x y : Int32} (hx : sx_ev ν ex = some x.toInt) (hy : sx_ev ν ey = some y.toInt) : sx_gv ν (sx_nw g (sx_add ex ey)) (x + y).toInt :=
  sx_nw_ok hg (sx_ev_add hx hy) (Int32.toInt_add x y)
theorem sx_sb_ok {ν : List Int} {g : sx_G} (hg : sx_ok ν g) {ex ey : sx_E} {x y : Int32} (hx : sx_ev ν ex = some x.toInt) (hy : sx_ev ν ey = some y.toInt) : sx_gv ν (sx_nw g (sx_sub ex ey)) (x - y).toInt :=
  sx_nw_ok hg (sx_ev_sub hx hy) (Int32.toInt_sub x y)
theorem sx_ng_ok {ν : List Int} {g : sx_G} (hg : sx_ok ν g) {ex : sx_E} {x : Int32} (hx : sx_ev ν ex = some x.toInt) : sx_gv ν (sx_ni g (sx_scl (-1) ex)) (-x).toInt :=
  sx_ni_ok hg (sx_ev_scl hx) fun h1 h2 => by rw [Int32.toInt_neg, show -x.toInt = -1 * x.toInt by omega, sx_bm h1 h2]
theorem sx_lad_ok {ν : List Int} {g : sx_G} (hg : sx_ok ν g) {ex ey : sx_E} {x y : Int64} (hx : sx_ev ν ex = some x.toInt) (hy : sx_ev ν ey = some y.toInt) : sx_gv ν (sx_nl g (sx_add ex ey)) (x + y).toInt :=
  sx_nl_ok hg (sx_ev_add hx hy) fun h1 h2 => by rw [Int64.toInt_add, sx_bm64 h1 h2]
theorem sx_lsb_ok {ν : List Int} {g : sx_G} (hg : sx_ok ν g) {ex ey : sx_E} {x y : Int64} (hx : sx_ev ν ex = some x.toInt) (hy : sx_ev ν ey = some y.toInt) : sx_gv ν (sx_nl g (sx_sub ex ey)) (x - y).toInt :=
  sx_nl_ok hg (sx_ev_sub hx hy) fun h1 h2 => by rw [Int64.toInt_sub, sx_bm64 h1 h2]
theorem sx_lng_ok {ν : List Int} {g : sx_G} (hg : sx_ok ν g) {ex : sx_E} {x : Int64} (hx : sx_ev ν ex = some x.toInt) : sx_gv ν (sx_nl g (sx_scl (-1) ex)) (-x).toInt :=
  sx_nl_ok hg (sx_ev_scl hx) fun h1 h2 => by rw [Int64.toInt_neg, show -x.toInt = -1 * x.toInt by omega, sx_bm64 h1 h2]
theorem sx_l2i_ok {ν : List Int} {g : sx_G} (hg : sx_ok ν g) {ex : sx_E} {x : Int64} (hx : sx_ev ν ex = some x.toInt) : sx_gv ν (sx_ni g ex) x.toInt32.toInt :=
  sx_ni_ok hg hx fun h1 h2 => by rw [Int64.toInt_toInt32, sx_bm h1 h2]
def sx_ib (g : sx_G) (e : sx_E) : sx_G × sx_E := bif sx_inb g e (-128) 127 then (g, e) else sx_fr g (-128) 127
theorem sx_ib_ok {ν : List Int} {g : sx_G} (hg : sx_ok ν g) {ex : sx_E} {x : Int32} (hx : sx_ev ν ex = some x.toInt) : sx_gv ν (sx_ib g ex) x.toInt8.toInt32.toInt := by
  unfold sx_ib
  cases hb : sx_inb g ex (-128) 127 with
  | true =>
    obtain ⟨h1, h2⟩ := sx_inb_ok hg hx hb
    rw [Int8.toInt_toInt32, Int32.toInt_toInt8, sx_bm8 h1 h2]
    exact sx_gv_id hg hx
  | false =>
    rw [Int8.toInt_toInt32, Int32.toInt_toInt8]
    exact sx_gv_fr hg (sx_bm8r _).1 (sx_bm8r _).2
theorem sx_nat {x : Int32} (h : 0 ≤ x.toInt) : (x.toInt : Int) = (x.toUInt32.toNat : Int) := by
  have e1 : x.toInt = x.toBitVec.toInt := rfl
  have e2 : x.toUInt32.toNat = x.toBitVec.toNat := rfl
  rw [e2]
  rw [e1] at h ⊢
  rw [BitVec.toInt_eq_toNat_cond] at h ⊢
  split at h
  · rename_i hc; rw [if_pos hc]
  · have := x.toBitVec.isLt
    omega
theorem sx_u32 {a b : UInt32} (h : a.toNat = b.toNat) : a = b := UInt32.toNat_inj.mp h
theorem sx_i2c {x : Int32} (h0 : 0 ≤ x.toInt) (h1 : x.toInt ≤ 65535) : (x.toUInt32 % 65536).toInt32 = x := by
  have hn := sx_nat h0
  have : x.toUInt32 % 65536 = x.toUInt32 := by
    apply sx_u32
    rw [UInt32.toNat_mod]
    exact Nat.mod_eq_of_lt (by have : (65536 : UInt32).toNat = 65536 := rfl; omega)
  rw [this]
  rfl
theorem sx_chr {x : Int32} (h0 : 0 ≤ x.toInt) (h1 : x.toInt ≤ 65535) : narrow .char (.int x) = .int x := by
  have hn := sx_nat h0
  have : x.toUInt32.toUInt16.toUInt32 = x.toUInt32 := by
    apply sx_u32
    rw [UInt16.toNat_toUInt32, UInt32.toNat_toUInt16]
    exact Nat.mod_eq_of_lt (by omega)
  show Value.int x.toUInt32.toUInt16.toUInt32.toInt32 = .int x
  rw [this]
  rfl
theorem sx_byt {x : Int32} (h0 : -128 ≤ x.toInt) (h1 : x.toInt ≤ 127) : narrow .byte (.int x) = .int x := by
  show Value.int x.toInt8.toInt32 = .int x
  congr 1
  apply Int32.toInt_inj.mp
  rw [Int8.toInt_toInt32, Int32.toInt_toInt8, sx_bm8 h0 h1]
theorem sx_nby (x : Int32) : -128 ≤ (vp_nar .byte x).toInt ∧ (vp_nar .byte x).toInt ≤ 127 := by
  have : vp_nar .byte x = x.toInt8.toInt32 := rfl
  rw [this, Int8.toInt_toInt32, Int32.toInt_toInt8]
  exact sx_bm8r _
theorem sx_nbo (x : Int32) : 0 ≤ (vp_nar .boolean x).toInt ∧ (vp_nar .boolean x).toInt ≤ 1 := by
  have : vp_nar .boolean x = x &&& 1 := rfl
  rw [this]
  exact sx_and (by decide)
theorem sx_nb1 {x : Int32} (h0 : 0 ≤ x.toInt) (h1 : x.toInt ≤ 1) : vp_nar .boolean x = x := by
  have h : x = 0 ∨ x = 1 := by
    rw [cv_eq, cv_eq]
    have e0 : (0 : Int32).toInt = 0 := rfl
    have e1 : (1 : Int32).toInt = 1 := rfl
    omega
  rcases h with rfl | rfl <;> rfl
end
