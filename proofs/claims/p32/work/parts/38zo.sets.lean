noncomputable section
/-! SETS of places as numbers: goals, what is come to, what is lost; logs judged -/
def mj_gj (L : List (Int × Int)) : Nat → Nat
  | 0 => 0
  | j + 1 => mj_gj L j ||| 1 <<< (L.getD j (0, 0)).1.toNat
def mj_gs (L : List (Int × Int)) : Nat := mj_gj L L.length
theorem mj_shl_lt {g n : Nat} (h : g < n) : 1 <<< g < 2 ^ n := by
  rw [Nat.shiftLeft_eq, Nat.one_mul]
  exact Nat.pow_lt_pow_right (by decide) h
theorem mj_gj_lt {pl : Int} {L : List (Int × Int)} (hL : mx_ok pl L) : ∀ j, j ≤ L.length → mj_gj L j < 2 ^ pl.toNat := by
  intro j
  induction j with
  | zero => intro _; exact Nat.two_pow_pos _
  | succ j ih =>
    intro h
    have b := hL.2.2 j (by omega)
    exact Nat.or_lt_two_pow (ih (by omega)) (mj_shl_lt (by omega))
theorem mj_12 {x : Nat} {pl : Int} (h : x < 2 ^ pl.toNat) (hp : pl ≤ 12) : x < 4096 := Nat.lt_of_lt_of_le h (Nat.pow_le_pow_right (by decide) (show pl.toNat ≤ 12 by omega))
def mj_of (W : Int → List (Int × Int)) (B : Nat) : Nat → Nat
  | 0 => 0
  | p + 1 => if B.testBit p then mj_of W B p ||| mj_gs (W (p : Nat)) else mj_of W B p
theorem mj_of_s {W : Int → List (Int × Int)} {B : Nat} {p : Int} (h : 0 ≤ p) : mj_of W B (p + 1).toNat = if B.testBit p.toNat then mj_of W B p.toNat ||| mj_gs (W p) else mj_of W B p.toNat := by
  rw [show (p + 1).toNat = p.toNat + 1 by omega]
  show (if B.testBit p.toNat then mj_of W B p.toNat ||| mj_gs (W ((p.toNat : Nat) : Int)) else _) = _
  rw [Int.toNat_of_nonneg h]
/-- one go from a set of places -/
def mj_on (W : Int → List (Int × Int)) (br : Int) (B : Nat) : Nat := mj_of W B br.toNat ||| (B &&& 1 <<< br.toNat)
theorem mj_and_bit {B b : Nat} : B &&& 1 <<< b = if B.testBit b then 1 <<< b else 0 := by
  refine Nat.eq_of_testBit_eq fun i => ?_
  rw [Nat.testBit_and]
  by_cases q : i = b
  · subst q
    cases hb : B.testBit i with
    | true => rw [if_pos rfl, mf_tb1]; rfl
    | false => rw [if_neg (by decide), Nat.zero_testBit]; rfl
  · rw [mf_tb0 q, Bool.and_false]
    split
    · rw [mf_tb0 q]
    · rw [Nat.zero_testBit]
theorem mj_of_lt {W : Int → List (Int × Int)} {pl : Int} {B : Nat} (hW : ∀ x : Int, 0 ≤ x → x < pl - 1 → mx_ok pl (W x)) : ∀ p : Nat, (p : Int) ≤ pl - 1 → mj_of W B p < 2 ^ pl.toNat := by
  intro p
  induction p with
  | zero => intro _; exact Nat.two_pow_pos _
  | succ p ih =>
    intro h
    show (if B.testBit p then mj_of W B p ||| mj_gs (W (p : Nat)) else mj_of W B p) < _
    split
    · exact Nat.or_lt_two_pow (ih (by omega)) (mj_gj_lt (hW (p : Nat) (by omega) (by omega)) _ (Nat.le_refl _))
    · exact ih (by omega)
theorem mj_on_lt {W : Int → List (Int × Int)} {pl : Int} (hW : ∀ x : Int, 0 ≤ x → x < pl - 1 → mx_ok pl (W x)) (h1 : 1 ≤ pl) (B : Nat) : mj_on W (pl - 1) B < 2 ^ pl.toNat := by
  refine Nat.or_lt_two_pow (mj_of_lt hW _ (by omega)) ?_
  rw [mj_and_bit]
  split
  · exact mj_shl_lt (by omega)
  · exact Nat.two_pow_pos _
def mj_oi (W : Int → List (Int × Int)) (br : Int) : Nat → Nat → Nat
  | 0, B => B
  | n + 1, B => mj_oi W br n (mj_on W br B)
theorem mj_oi_lt {W : Int → List (Int × Int)} {pl : Int} (hW : ∀ x : Int, 0 ≤ x → x < pl - 1 → mx_ok pl (W x)) (h1 : 1 ≤ pl) : ∀ (n B : Nat), B < 2 ^ pl.toNat → mj_oi W (pl - 1) n B < 2 ^ pl.toNat := by
  intro n
  induction n with
  | zero => intro B h; exact h
  | succ n ih => intro B _; exact ih _ (mj_on_lt hW h1 B)
/-- whether a cork that was seen at p can be at q after so many goes -/
def mj_ld (W : Int → List (Int × Int)) (pl p q : Int) (n : Nat) : Bool := decide ((0 ≤ p ∧ p < pl) ∧ (0 ≤ q ∧ q < pl) ∧ (mj_oi W (pl - 1) n (1 <<< p.toNat)).testBit q.toNat = true)
/-- whether what was seen in minute i can be -/
def mj_ok (W : Int → List (Int × Int)) (pl kd pc fr : Int) (lr : List Int) (o i : Int) : Bool := if i < fr then decide (lr.getD (o + i).toNat 0 = 12) else if i = fr then decide (lr.getD (o + i).toNat 0 = pc) else mj_ld W pl (lr.getD (o + i - 1).toNat 0) (lr.getD (o + i).toNat 0) (mx_tm kd (i - fr))
def mj_fw (g : Int → Bool) : Nat → Int → Int
  | 0, _ => -1
  | n + 1, i => if g i then mj_fw g n (i + 1) else i
theorem mj_fw_s {g : Int → Bool} {n i : Int} (h : i < n) : mj_fw g (n - i).toNat i = if g i then mj_fw g (n - (i + 1)).toNat (i + 1) else i := by
  rw [show (n - i).toNat = (n - (i + 1)).toNat + 1 by omega]
  rfl
/-! what is lost -/
def mj_sp (G : Nat → Nat) (x p : Nat) : Nat := if G p &&& x = 0 then x else x ||| 1 <<< p
def mj_rd (G : Nat → Nat) : Nat → Nat → Nat
  | 0, x => x
  | p + 1, x => mj_sp G (mj_rd G p x) p
def mj_rn (G : Nat → Nat) (br : Nat) : Nat → Nat → Nat
  | 0, x => x
  | n + 1, x => mj_rd G br (mj_rn G br n x)
theorem mj_rd_sub {G : Nat → Nat} {x : Nat} : ∀ p i, x.testBit i = true → (mj_rd G p x).testBit i = true := by
  intro p
  induction p with
  | zero => intro i h; exact h
  | succ p ih =>
    intro i h
    show (if G p &&& mj_rd G p x = 0 then mj_rd G p x else mj_rd G p x ||| 1 <<< p).testBit i = true
    split
    · exact ih i h
    · rw [Nat.testBit_or, ih i h]; rfl
theorem mj_rd_out {G : Nat → Nat} {x : Nat} : ∀ p i, p ≤ i → (mj_rd G p x).testBit i = x.testBit i := by
  intro p
  induction p with
  | zero => intro i _; rfl
  | succ p ih =>
    intro i h
    show (if G p &&& mj_rd G p x = 0 then mj_rd G p x else mj_rd G p x ||| 1 <<< p).testBit i = x.testBit i
    split
    · exact ih i (by omega)
    · rw [Nat.testBit_or, ih i (by omega), mf_tb0 (by omega), Bool.or_false]
def mj_ct (x : Nat) : Nat → Nat
  | 0 => 0
  | n + 1 => mj_ct x n + if x.testBit n then 1 else 0
theorem mj_ct_le (x : Nat) : ∀ n, mj_ct x n ≤ n := by
  intro n
  induction n with
  | zero => exact Nat.le_refl 0
  | succ n ih => show mj_ct x n + (if x.testBit n then 1 else 0) ≤ n + 1; split <;> omega
theorem mj_ct_mono {x y : Nat} (h : ∀ i, x.testBit i = true → y.testBit i = true) : ∀ n, mj_ct x n ≤ mj_ct y n := by
  intro n
  induction n with
  | zero => exact Nat.le_refl 0
  | succ n ih =>
    show mj_ct x n + (if x.testBit n then 1 else 0) ≤ mj_ct y n + (if y.testBit n then 1 else 0)
    cases q : x.testBit n with
    | true => rw [h n q]; omega
    | false => rw [if_neg (show ¬ (false = true) by decide)]; split <;> omega
theorem mj_ct_lt {x y : Nat} (h : ∀ i, x.testBit i = true → y.testBit i = true) : ∀ n j, j < n → x.testBit j = false → y.testBit j = true → mj_ct x n + 1 ≤ mj_ct y n := by
  intro n
  induction n with
  | zero => intro j hj; omega
  | succ n ih =>
    intro j hj h1 h2
    show mj_ct x n + (if x.testBit n then 1 else 0) + 1 ≤ mj_ct y n + (if y.testBit n then 1 else 0)
    by_cases e : j = n
    · subst e; have := mj_ct_mono h j; rw [h1, h2]; simp; omega
    · have := ih j (by omega) h1 h2
      cases q : x.testBit n with
      | true => rw [h n q]; omega
      | false => rw [if_neg (show ¬ (false = true) by decide)]; split <;> omega
theorem mj_grow {G : Nat → Nat} {br x : Nat} : mj_rd G br x = x ∨ mj_ct x br + 1 ≤ mj_ct (mj_rd G br x) br := by
  by_cases h : ∃ j, j < br ∧ x.testBit j = false ∧ (mj_rd G br x).testBit j = true
  · obtain ⟨j, h1, h2, h3⟩ := h
    exact Or.inr (mj_ct_lt (mj_rd_sub br) br j h1 h2 h3)
  · refine Or.inl (Nat.eq_of_testBit_eq fun i => ?_)
    by_cases q : br ≤ i
    · exact mj_rd_out br i q
    · cases a : x.testBit i with
      | true => exact mj_rd_sub br i a
      | false =>
        cases b : (mj_rd G br x).testBit i with
        | false => rfl
        | true => exact absurd ⟨i, by omega, a, b⟩ h
theorem mj_rn_fix {G : Nat → Nat} {br x : Nat} : ∀ n, mj_rn G br (n + 1) x = mj_rn G br n x ∨ n + 1 ≤ mj_ct (mj_rn G br (n + 1) x) br := by
  intro n
  induction n with
  | zero =>
    rcases mj_grow (G := G) (br := br) (x := x) with h | h
    · exact Or.inl h
    · refine Or.inr ?_; show 1 ≤ mj_ct (mj_rd G br x) br; omega
  | succ n ih =>
    rcases ih with h | h
    · refine Or.inl ?_; show mj_rd G br (mj_rn G br (n + 1) x) = mj_rn G br (n + 1) x; rw [h]; show mj_rd G br (mj_rn G br n x) = mj_rn G br n x; exact h
    · rcases mj_grow (G := G) (br := br) (x := mj_rn G br (n + 1) x) with g | g
      · exact Or.inl g
      · refine Or.inr ?_; show n + 1 + 1 ≤ mj_ct (mj_rd G br (mj_rn G br (n + 1) x)) br; omega
/-- as many rounds as there are places, or more: the same -/
theorem mj_rn_ge {G : Nat → Nat} {br x : Nat} : ∀ k, mj_rn G br (br + 1 + k) x = mj_rn G br (br + 1) x := by
  have st : mj_rn G br (br + 1) x = mj_rn G br br x := by
    rcases mj_rn_fix (G := G) (br := br) (x := x) br with h | h
    · exact h
    · have := mj_ct_le (mj_rn G br (br + 1) x) br; omega
  intro k
  induction k with
  | zero => rfl
  | succ k ih => show mj_rd G br (mj_rn G br (br + 1 + k) x) = _; rw [ih]; show mj_rd G br (mj_rn G br (br + 1) x) = mj_rn G br (br + 1) x; rw [st]; exact st
/-- the goals of a place as they are told -/
def mj_G (cn go : List Int) (p : Nat) : Nat → Nat
  | 0 => 0
  | i + 1 => mj_G cn go p i ||| 1 <<< (go.getD (4 * p + i) 0).toNat
def mj_GG (cn go : List Int) (p : Nat) : Nat := mj_G cn go p (cn.getD p 0).toNat
def mj_lost (pl : Int) (cn go : List Int) : Nat := if pl = 0 then 0 else (1 <<< pl.toNat - 1) ^^^ ((1 <<< pl.toNat - 1) &&& mj_rn (mj_GG cn go) (pl - 1).toNat 12 (1 <<< (pl - 1).toNat))
theorem mj_and_or {a g x : Nat} : ((a ||| 1 <<< g) &&& x = 0) ↔ (a &&& x = 0 ∧ x.testBit g = false) := by
  have e : (a ||| 1 <<< g) &&& x = (a &&& x) ||| (x &&& 1 <<< g) := by rw [Nat.and_or_distrib_right, Nat.and_comm (1 <<< g)]
  rw [e, mj_and_bit]
  constructor
  · intro h
    have h1 : a &&& x = 0 := Nat.eq_of_testBit_eq fun i => by
      have := congrArg (fun z => z.testBit i) h
      simp only [Nat.testBit_or, Nat.zero_testBit] at this
      rw [Nat.zero_testBit]
      cases q : (a &&& x).testBit i with
      | false => rfl
      | true => rw [q] at this; cases this
    refine ⟨h1, ?_⟩
    cases q : x.testBit g with
    | false => rfl
    | true =>
      rw [h1, q, if_pos rfl, Nat.zero_or] at h
      have := mf_tb1 g
      rw [h, Nat.zero_testBit] at this
      cases this
  · intro h
    rw [h.1, h.2, if_neg (by decide)]
    rfl
theorem mx_nd_1 {s p : Nat} (h : s.testBit p = true) : s ^^^ (s &&& 1 <<< p) = s ^^^ 1 <<< p := by rw [mj_and_bit, if_pos h]
theorem mx_nd_0 {s p : Nat} (h : s.testBit p = false) : s ^^^ (s &&& 1 <<< p) = s := by rw [mj_and_bit, if_neg (by rw [h]; decide), Nat.xor_zero]
end
