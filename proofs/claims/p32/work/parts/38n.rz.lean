/-- what a word says as a number, as far as it is told -/
def zsd (y : Int → Int) (s : Int) : Nat → Int
  | 0 => 0
  | k + 1 => if 1000000000000 < zsd y s k then 2000000000000 else 27 * zsd y s k + y (s + (k : Int)) - 96
def zlt (y : Int → Int) (s : Int) (k : Nat) : Prop := ∀ j : Int, s ≤ j → j < s + (k : Int) → 97 ≤ y j ∧ y j ≤ 122
theorem zsd_b {y : Int → Int} {s : Int} : ∀ (k : Nat), zlt y s k → 0 ≤ zsd y s k ∧ zsd y s k ≤ 27000000000026 := by
  intro k
  induction k with
  | zero => intro _; exact ⟨Int.le_refl 0, by show (0 : Int) ≤ 27000000000026; decide⟩
  | succ k ih =>
    intro h
    have h1 := ih (fun j a b => h j a (by omega))
    have h2 := h (s + (k : Int)) (by omega) (by omega)
    rw [zsd]
    split <;> omega
theorem zsd_lo {y : Int → Int} {s a : Int} (ha : a ≤ 1000000000000) (k0 : Nat) (h0 : a ≤ zsd y s k0) : ∀ (d : Nat), zlt y s (k0 + d) → a ≤ zsd y s (k0 + d) := by
  intro d
  induction d with
  | zero => intro _; exact h0
  | succ d ih =>
    intro h
    have h1 := ih (fun j p q => h j p (by omega))
    have h2 := h (s + ((k0 + d : Nat) : Int)) (by omega) (by omega)
    have h3 := zsd_b (y := y) (s := s) (k0 + d) (fun j p q => h j p (by omega))
    rw [show k0 + (d + 1) = (k0 + d) + 1 by omega, zsd]
    split <;> omega
theorem zsd_n {y : Int → Int} {s : Int} {k : Nat} {z : Int} (h : zsd y s k = z) (hz : z ≤ 1000000000000) : zsd y s (k + 1) = 27 * z + y (s + (k : Int)) - 96 := by
  rw [zsd, h, if_neg (by omega)]

theorem zsd_7 {y : Int → Int} {s : Int} : zsd y s 1 = y s - 96 ∧ zsd y s 0 = 0 := by
  refine ⟨?_, rfl⟩
  rw [zsd_n (k := 0) (z := 0) rfl (by decide)]
  have : s + ((0 : Nat) : Int) = s := by omega
  rw [this]
  omega

theorem zsd_to {y : Int → Int} {s : Int} (L : Nat) (h : zlt y s L) : zsd y s L = 555 ↔ (L = 2 ∧ y s = 116 ∧ y (s + 1) = 111) := by
  have z1 := (zsd_7 (y := y) (s := s)).1
  have z0 := (zsd_7 (y := y) (s := s)).2
  rcases Nat.lt_or_ge L 3 with hL | hL
  · have hb : ∀ j : Int, s ≤ j → j < s + (L : Int) → 97 ≤ y j ∧ y j ≤ 122 := h
    match L, hL, hb with
    | 0, _, hb =>
      constructor
      · intro q; omega
      · intro q; omega
    | 1, _, hb =>
      have b0 := hb (s + 0) (by omega) (by omega)
      have s0 : y (s + 0) = y s := congrArg y (Int.add_zero s)
      have e1 : zsd y s 1 = y s - 96 := z1
      constructor
      · intro q; omega
      · intro q; omega
    | 2, _, hb =>
      have b0 := hb (s + 0) (by omega) (by omega)
      have b1 := hb (s + 1) (by omega) (by omega)
      have s0 : y (s + 0) = y s := congrArg y (Int.add_zero s)
      have e1 : zsd y s 1 = y s - 96 := z1
      have e2 : zsd y s 2 = 27 * zsd y s 1 + y (s + 1) - 96 := zsd_n (k := 1) rfl (by omega)
      constructor
      · intro q
        have q2 : zsd y s 1 = 20 ∧ y (s + 1) = 111 := by omega
        refine ⟨rfl, by omega, q2.2⟩
      · intro q; omega
  · have hb : ∀ j : Int, s ≤ j → j < s + (3 : Int) → 97 ≤ y j ∧ y j ≤ 122 := fun j a b => h j a (by omega)
    have b0 := hb (s + 0) (by omega) (by omega)
    have b1 := hb (s + 1) (by omega) (by omega)
    have b2 := hb (s + 2) (by omega) (by omega)
    have s0 : y (s + 0) = y s := congrArg y (Int.add_zero s)
    have e2 : zsd y s 2 = 27 * zsd y s 1 + y (s + 1) - 96 := zsd_n (k := 1) rfl (by omega)
    have e3 : zsd y s 3 = 27 * zsd y s 2 + y (s + 2) - 96 := zsd_n (k := 2) rfl (by omega)
    obtain ⟨d, rfl⟩ : ∃ d, L = 3 + d := ⟨L - 3, by omega⟩
    have hl := zsd_lo (a := 757) (by decide) 3 (by omega) d h
    constructor
    · intro q; omega
    · intro q; omega

theorem zsd_pl {y : Int → Int} {s : Int} (L : Nat) (h : zlt y s L) : zsd y s L = 8740067 ↔ (L = 5 ∧ y s = 112 ∧ y (s + 1) = 108 ∧ y (s + 2) = 97 ∧ y (s + 3) = 99 ∧ y (s + 4) = 101) := by
  have z1 := (zsd_7 (y := y) (s := s)).1
  have z0 := (zsd_7 (y := y) (s := s)).2
  rcases Nat.lt_or_ge L 6 with hL | hL
  · have hb : ∀ j : Int, s ≤ j → j < s + (L : Int) → 97 ≤ y j ∧ y j ≤ 122 := h
    match L, hL, hb with
    | 0, _, hb =>
      constructor
      · intro q; omega
      · intro q; omega
    | 1, _, hb =>
      have b0 := hb (s + 0) (by omega) (by omega)
      have s0 : y (s + 0) = y s := congrArg y (Int.add_zero s)
      have e1 : zsd y s 1 = y s - 96 := z1
      constructor
      · intro q; omega
      · intro q; omega
    | 2, _, hb =>
      have b0 := hb (s + 0) (by omega) (by omega)
      have b1 := hb (s + 1) (by omega) (by omega)
      have s0 : y (s + 0) = y s := congrArg y (Int.add_zero s)
      have e1 : zsd y s 1 = y s - 96 := z1
      have e2 : zsd y s 2 = 27 * zsd y s 1 + y (s + 1) - 96 := zsd_n (k := 1) rfl (by omega)
      constructor
      · intro q; omega
      · intro q; omega
    | 3, _, hb =>
      have b0 := hb (s + 0) (by omega) (by omega)
      have b1 := hb (s + 1) (by omega) (by omega)
      have b2 := hb (s + 2) (by omega) (by omega)
      have s0 : y (s + 0) = y s := congrArg y (Int.add_zero s)
      have e1 : zsd y s 1 = y s - 96 := z1
      have e2 : zsd y s 2 = 27 * zsd y s 1 + y (s + 1) - 96 := zsd_n (k := 1) rfl (by omega)
      have e3 : zsd y s 3 = 27 * zsd y s 2 + y (s + 2) - 96 := zsd_n (k := 2) rfl (by omega)
      constructor
      · intro q; omega
      · intro q; omega
    | 4, _, hb =>
      have b0 := hb (s + 0) (by omega) (by omega)
      have b1 := hb (s + 1) (by omega) (by omega)
      have b2 := hb (s + 2) (by omega) (by omega)
      have b3 := hb (s + 3) (by omega) (by omega)
      have s0 : y (s + 0) = y s := congrArg y (Int.add_zero s)
      have e1 : zsd y s 1 = y s - 96 := z1
      have e2 : zsd y s 2 = 27 * zsd y s 1 + y (s + 1) - 96 := zsd_n (k := 1) rfl (by omega)
      have e3 : zsd y s 3 = 27 * zsd y s 2 + y (s + 2) - 96 := zsd_n (k := 2) rfl (by omega)
      have e4 : zsd y s 4 = 27 * zsd y s 3 + y (s + 3) - 96 := zsd_n (k := 3) rfl (by omega)
      constructor
      · intro q; omega
      · intro q; omega
    | 5, _, hb =>
      have b0 := hb (s + 0) (by omega) (by omega)
      have b1 := hb (s + 1) (by omega) (by omega)
      have b2 := hb (s + 2) (by omega) (by omega)
      have b3 := hb (s + 3) (by omega) (by omega)
      have b4 := hb (s + 4) (by omega) (by omega)
      have s0 : y (s + 0) = y s := congrArg y (Int.add_zero s)
      have e1 : zsd y s 1 = y s - 96 := z1
      have e2 : zsd y s 2 = 27 * zsd y s 1 + y (s + 1) - 96 := zsd_n (k := 1) rfl (by omega)
      have e3 : zsd y s 3 = 27 * zsd y s 2 + y (s + 2) - 96 := zsd_n (k := 2) rfl (by omega)
      have e4 : zsd y s 4 = 27 * zsd y s 3 + y (s + 3) - 96 := zsd_n (k := 3) rfl (by omega)
      have e5 : zsd y s 5 = 27 * zsd y s 4 + y (s + 4) - 96 := zsd_n (k := 4) rfl (by omega)
      constructor
      · intro q
        have q5 : zsd y s 4 = 323706 ∧ y (s + 4) = 101 := by omega
        have q4 : zsd y s 3 = 11989 ∧ y (s + 3) = 99 := by omega
        have q3 : zsd y s 2 = 444 ∧ y (s + 2) = 97 := by omega
        have q2 : zsd y s 1 = 16 ∧ y (s + 1) = 108 := by omega
        refine ⟨rfl, by omega, q2.2, q3.2, q4.2, q5.2⟩
      · intro q; omega
  · have hb : ∀ j : Int, s ≤ j → j < s + (6 : Int) → 97 ≤ y j ∧ y j ≤ 122 := fun j a b => h j a (by omega)
    have b0 := hb (s + 0) (by omega) (by omega)
    have b1 := hb (s + 1) (by omega) (by omega)
    have b2 := hb (s + 2) (by omega) (by omega)
    have b3 := hb (s + 3) (by omega) (by omega)
    have b4 := hb (s + 4) (by omega) (by omega)
    have b5 := hb (s + 5) (by omega) (by omega)
    have s0 : y (s + 0) = y s := congrArg y (Int.add_zero s)
    have e2 : zsd y s 2 = 27 * zsd y s 1 + y (s + 1) - 96 := zsd_n (k := 1) rfl (by omega)
    have e3 : zsd y s 3 = 27 * zsd y s 2 + y (s + 2) - 96 := zsd_n (k := 2) rfl (by omega)
    have e4 : zsd y s 4 = 27 * zsd y s 3 + y (s + 3) - 96 := zsd_n (k := 3) rfl (by omega)
    have e5 : zsd y s 5 = 27 * zsd y s 4 + y (s + 4) - 96 := zsd_n (k := 4) rfl (by omega)
    have e6 : zsd y s 6 = 27 * zsd y s 5 + y (s + 5) - 96 := zsd_n (k := 5) rfl (by omega)
    obtain ⟨d, rfl⟩ : ∃ d, L = 6 + d := ⟨L - 6, by omega⟩
    have hl := zsd_lo (a := 14900788) (by decide) 6 (by omega) d h
    constructor
    · intro q; omega
    · intro q; omega

theorem zsd_br {y : Int → Int} {s : Int} (L : Nat) (h : zlt y s L) : zsd y s L = 38444009 ↔ (L = 6 ∧ y s = 98 ∧ y (s + 1) = 114 ∧ y (s + 2) = 105 ∧ y (s + 3) = 100 ∧ y (s + 4) = 103 ∧ y (s + 5) = 101) := by
  have z1 := (zsd_7 (y := y) (s := s)).1
  have z0 := (zsd_7 (y := y) (s := s)).2
  rcases Nat.lt_or_ge L 7 with hL | hL
  · have hb : ∀ j : Int, s ≤ j → j < s + (L : Int) → 97 ≤ y j ∧ y j ≤ 122 := h
    match L, hL, hb with
    | 0, _, hb =>
      constructor
      · intro q; omega
      · intro q; omega
    | 1, _, hb =>
      have b0 := hb (s + 0) (by omega) (by omega)
      have s0 : y (s + 0) = y s := congrArg y (Int.add_zero s)
      have e1 : zsd y s 1 = y s - 96 := z1
      constructor
      · intro q; omega
      · intro q; omega
    | 2, _, hb =>
      have b0 := hb (s + 0) (by omega) (by omega)
      have b1 := hb (s + 1) (by omega) (by omega)
      have s0 : y (s + 0) = y s := congrArg y (Int.add_zero s)
      have e1 : zsd y s 1 = y s - 96 := z1
      have e2 : zsd y s 2 = 27 * zsd y s 1 + y (s + 1) - 96 := zsd_n (k := 1) rfl (by omega)
      constructor
      · intro q; omega
      · intro q; omega
    | 3, _, hb =>
      have b0 := hb (s + 0) (by omega) (by omega)
      have b1 := hb (s + 1) (by omega) (by omega)
      have b2 := hb (s + 2) (by omega) (by omega)
      have s0 : y (s + 0) = y s := congrArg y (Int.add_zero s)
      have e1 : zsd y s 1 = y s - 96 := z1
      have e2 : zsd y s 2 = 27 * zsd y s 1 + y (s + 1) - 96 := zsd_n (k := 1) rfl (by omega)
      have e3 : zsd y s 3 = 27 * zsd y s 2 + y (s + 2) - 96 := zsd_n (k := 2) rfl (by omega)
      constructor
      · intro q; omega
      · intro q; omega
    | 4, _, hb =>
      have b0 := hb (s + 0) (by omega) (by omega)
      have b1 := hb (s + 1) (by omega) (by omega)
      have b2 := hb (s + 2) (by omega) (by omega)
      have b3 := hb (s + 3) (by omega) (by omega)
      have s0 : y (s + 0) = y s := congrArg y (Int.add_zero s)
      have e1 : zsd y s 1 = y s - 96 := z1
      have e2 : zsd y s 2 = 27 * zsd y s 1 + y (s + 1) - 96 := zsd_n (k := 1) rfl (by omega)
      have e3 : zsd y s 3 = 27 * zsd y s 2 + y (s + 2) - 96 := zsd_n (k := 2) rfl (by omega)
      have e4 : zsd y s 4 = 27 * zsd y s 3 + y (s + 3) - 96 := zsd_n (k := 3) rfl (by omega)
      constructor
      · intro q; omega
      · intro q; omega
    | 5, _, hb =>
      have b0 := hb (s + 0) (by omega) (by omega)
      have b1 := hb (s + 1) (by omega) (by omega)
      have b2 := hb (s + 2) (by omega) (by omega)
      have b3 := hb (s + 3) (by omega) (by omega)
      have b4 := hb (s + 4) (by omega) (by omega)
      have s0 : y (s + 0) = y s := congrArg y (Int.add_zero s)
      have e1 : zsd y s 1 = y s - 96 := z1
      have e2 : zsd y s 2 = 27 * zsd y s 1 + y (s + 1) - 96 := zsd_n (k := 1) rfl (by omega)
      have e3 : zsd y s 3 = 27 * zsd y s 2 + y (s + 2) - 96 := zsd_n (k := 2) rfl (by omega)
      have e4 : zsd y s 4 = 27 * zsd y s 3 + y (s + 3) - 96 := zsd_n (k := 3) rfl (by omega)
      have e5 : zsd y s 5 = 27 * zsd y s 4 + y (s + 4) - 96 := zsd_n (k := 4) rfl (by omega)
      constructor
      · intro q; omega
      · intro q; omega
    | 6, _, hb =>
      have b0 := hb (s + 0) (by omega) (by omega)
      have b1 := hb (s + 1) (by omega) (by omega)
      have b2 := hb (s + 2) (by omega) (by omega)
      have b3 := hb (s + 3) (by omega) (by omega)
      have b4 := hb (s + 4) (by omega) (by omega)
      have b5 := hb (s + 5) (by omega) (by omega)
      have s0 : y (s + 0) = y s := congrArg y (Int.add_zero s)
      have e1 : zsd y s 1 = y s - 96 := z1
      have e2 : zsd y s 2 = 27 * zsd y s 1 + y (s + 1) - 96 := zsd_n (k := 1) rfl (by omega)
      have e3 : zsd y s 3 = 27 * zsd y s 2 + y (s + 2) - 96 := zsd_n (k := 2) rfl (by omega)
      have e4 : zsd y s 4 = 27 * zsd y s 3 + y (s + 3) - 96 := zsd_n (k := 3) rfl (by omega)
      have e5 : zsd y s 5 = 27 * zsd y s 4 + y (s + 4) - 96 := zsd_n (k := 4) rfl (by omega)
      have e6 : zsd y s 6 = 27 * zsd y s 5 + y (s + 5) - 96 := zsd_n (k := 5) rfl (by omega)
      constructor
      · intro q
        have q6 : zsd y s 5 = 1423852 ∧ y (s + 5) = 101 := by omega
        have q5 : zsd y s 4 = 52735 ∧ y (s + 4) = 103 := by omega
        have q4 : zsd y s 3 = 1953 ∧ y (s + 3) = 100 := by omega
        have q3 : zsd y s 2 = 72 ∧ y (s + 2) = 105 := by omega
        have q2 : zsd y s 1 = 2 ∧ y (s + 1) = 114 := by omega
        refine ⟨rfl, by omega, q2.2, q3.2, q4.2, q5.2, q6.2⟩
      · intro q; omega
  · have hb : ∀ j : Int, s ≤ j → j < s + (7 : Int) → 97 ≤ y j ∧ y j ≤ 122 := fun j a b => h j a (by omega)
    have b0 := hb (s + 0) (by omega) (by omega)
    have b1 := hb (s + 1) (by omega) (by omega)
    have b2 := hb (s + 2) (by omega) (by omega)
    have b3 := hb (s + 3) (by omega) (by omega)
    have b4 := hb (s + 4) (by omega) (by omega)
    have b5 := hb (s + 5) (by omega) (by omega)
    have b6 := hb (s + 6) (by omega) (by omega)
    have s0 : y (s + 0) = y s := congrArg y (Int.add_zero s)
    have e2 : zsd y s 2 = 27 * zsd y s 1 + y (s + 1) - 96 := zsd_n (k := 1) rfl (by omega)
    have e3 : zsd y s 3 = 27 * zsd y s 2 + y (s + 2) - 96 := zsd_n (k := 2) rfl (by omega)
    have e4 : zsd y s 4 = 27 * zsd y s 3 + y (s + 3) - 96 := zsd_n (k := 3) rfl (by omega)
    have e5 : zsd y s 5 = 27 * zsd y s 4 + y (s + 4) - 96 := zsd_n (k := 4) rfl (by omega)
    have e6 : zsd y s 6 = 27 * zsd y s 5 + y (s + 5) - 96 := zsd_n (k := 5) rfl (by omega)
    have e7 : zsd y s 7 = 27 * zsd y s 6 + y (s + 6) - 96 := zsd_n (k := 6) rfl (by omega)
    obtain ⟨d, rfl⟩ : ∃ d, L = 7 + d := ⟨L - 7, by omega⟩
    have hl := zsd_lo (a := 402321277) (by decide) 7 (by omega) d h
    constructor
    · intro q; omega
    · intro q; omega

theorem zis_to {y : Int → Int} {n s : Int} : zsd y s (zE y n s - s).toNat = 555 ↔ zto y n s = true := by
  have hg := zE_ge (y := y) (n := n) s
  have h := zsd_to (y := y) (s := s) (zE y n s - s).toNat (fun j a b => zE_mid (y := y) (n := n) (i := s) a (by omega))
  rw [h]
  unfold zto
  rw [decide_eq_true_iff]
  constructor
  · intro q; exact ⟨by omega, q.2⟩
  · intro q; exact ⟨by omega, q.2⟩

theorem zis_pl {y : Int → Int} {n s : Int} : zsd y s (zE y n s - s).toNat = 8740067 ↔ zpl y n s = true := by
  have hg := zE_ge (y := y) (n := n) s
  have h := zsd_pl (y := y) (s := s) (zE y n s - s).toNat (fun j a b => zE_mid (y := y) (n := n) (i := s) a (by omega))
  rw [h]
  unfold zpl
  rw [decide_eq_true_iff]
  constructor
  · intro q; exact ⟨by omega, q.2⟩
  · intro q; exact ⟨by omega, q.2⟩

theorem zis_br {y : Int → Int} {n s : Int} : zsd y s (zE y n s - s).toNat = 38444009 ↔ zbr y n s = true := by
  have hg := zE_ge (y := y) (n := n) s
  have h := zsd_br (y := y) (s := s) (zE y n s - s).toNat (fun j a b => zE_mid (y := y) (n := n) (i := s) a (by omega))
  rw [h]
  unfold zbr
  rw [decide_eq_true_iff]
  constructor
  · intro q; exact ⟨by omega, q.2⟩
  · intro q; exact ⟨by omega, q.2⟩

theorem rz_wordL {pre tl : List ik_E} {w : Nat → Value} {wt : List Value} {c : Nat → ik_E} {y : Int → Int} {T : List Int} {n fp nu na rp : Int} {M R O A : List Int} (ok : rz_ok y T n pre tl) {s ch : Int} (h0 : 0 ≤ s) : ∀ (k : Nat) (e : Int), (n - e).toNat = k → s ≤ e → e ≤ n → zE y n s = zE y n e → ik_G 138 18 [some (.ref 66), some (fI ch)] [] (pre ++ rz_t w wt c tl T n fp s (zsd y s (e - s).toNat) e nu na rp M R O A) (fun rv h' => rv = [] ∧ h' = (pre ++ rz_t w wt c tl T n fp s (zsd y s (zE y n s - s).toNat) (zE y n s) nu na rp M R O A)) := by
  have ok' := ok
  obtain ⟨hpre, htl, hT, bT, hn, hn2, hy⟩ := ok'
  intro k
  induction k using Nat.strongRecOn with
  | _ k ih =>
    intro e hk h1 h2 he
    have hsb := zsd_b (y := y) (s := s) (e - s).toNat (fun j a b => zE_mid (y := y) (n := n) (i := s) a (by have := zE_ge (y := y) (n := n) e; omega))
    refine ik_Wk 1 (pc' := 19) (loc' := [some (.ref 66), some (fI ch)]) (st' := [.ref 66]) (h' := (pre ++ rz_t w wt c tl T n fp s (zsd y s (e - s).toNat) e nu na rp M R O A)) (cl' := 0) (sl' := 0) rfl ?_
    refine fw_gf rfl rfl (rz_g 0 hpre rfl) rfl ?_
    refine ik_Wk 1 (pc' := 23) (loc' := [some (.ref 66), some (fI ch)]) (st' := [.ref 66, fI e]) (h' := (pre ++ rz_t w wt c tl T n fp s (zsd y s (e - s).toNat) e nu na rp M R O A)) (cl' := 0) (sl' := 0) rfl ?_
    refine fw_gf rfl rfl (rz_g 0 hpre rfl) rfl ?_
    refine fw_ic_ge rfl rfl (by omega) (by omega) (by omega) (by omega) (fun hc1 => ?_) (fun hc1 => ?_)
    · have hz : zE y n s = e := he.trans (zE_stop (y := y) (n := n) (i := e) (by omega))
      exact ik_Wret rfl rfl ⟨_, _, rfl, rfl, rfl, rfl, ⟨rfl, by rw [hz]⟩⟩
    · refine ik_Wk 1 (pc' := 30) (loc' := [some (.ref 66), some (fI ch)]) (st' := [.ref 66]) (h' := (pre ++ rz_t w wt c tl T n fp s (zsd y s (e - s).toNat) e nu na rp M R O A)) (cl' := 0) (sl' := 0) rfl ?_
      refine fw_gf rfl rfl (rz_g 0 hpre rfl) rfl ?_
      refine ik_Wk 1 (pc' := 34) (loc' := [some (.ref 66), some (fI ch)]) (st' := [.ref 66, .ref 72]) (h' := (pre ++ rz_t w wt c tl T n fp s (zsd y s (e - s).toNat) e nu na rp M R O A)) (cl' := 0) (sl' := 0) rfl ?_
      refine fw_gf rfl rfl (rz_g 0 hpre rfl) rfl ?_
      refine fw_ial rfl (rz_g 6 hpre rfl) (by omega) (by omega) (by omega) ?_
      have hb2 := bT e (by omega) (by omega)
      have hb3 := hy e (by omega) (by omega)
      refine fw_i2l rfl (by omega) (by omega) ?_
      refine fw_l2 97 rfl rfl (by decide) ?_
      refine fw_l2 122 rfl rfl (by decide) ?_
      refine fw_call 127 3 3 [fJ (T.getD e.toNat 0), fJ 97, fJ 122] [] rfl rfl rfl (by decide) rfl rfl (fw_sta (rz_len hpre htl) rfl (by decide)) (rz_in (by omega) (by omega) (by omega) (by omega) (by omega) (by omega)) ?_
      rintro rv h' ⟨⟨hi4, hi5, rfl⟩ | ⟨hi4, rfl⟩, rfl⟩
      · refine ik_Wk 0 (pc' := 48) (loc' := [some (.ref 66), some (fI ch)]) (st' := [fI 1]) (h' := (pre ++ rz_t w wt c tl T n fp s (zsd y s (e - s).toNat) e nu na rp M R O A)) (cl' := 0) (sl' := 0) rfl ?_
        refine fw_if_eq rfl rfl (by omega) (by omega) (fun hc6 => absurd hc6 (by omega)) (fun hc6 => ?_)
        refine ik_Wk 2 (pc' := 53) (loc' := [some (.ref 66), some (fI ch)]) (st' := [.ref 66, .ref 66]) (h' := (pre ++ rz_t w wt c tl T n fp s (zsd y s (e - s).toNat) e nu na rp M R O A)) (cl' := 0) (sl' := 0) rfl ?_
        refine fw_gf rfl rfl (rz_g 0 hpre rfl) rfl ?_
        refine fw_l2 1000000000000 rfl rfl (by decide) ?_
        refine fw_lcmp_le rfl rfl rfl (by omega) (by omega) (by omega) (by omega) (fun hc7 => ?_) (fun hc7 => ?_)
        · refine fw_l2 27 rfl rfl (by decide) ?_
          refine ik_Wk 1 (pc' := 73) (loc' := [some (.ref 66), some (fI ch)]) (st' := [.ref 66, fJ 27, .ref 66]) (h' := (pre ++ rz_t w wt c tl T n fp s (zsd y s (e - s).toNat) e nu na rp M R O A)) (cl' := 0) (sl' := 0) rfl ?_
          refine fw_gf rfl rfl (rz_g 0 hpre rfl) rfl ?_
          refine fw_lmul rfl ?_
          refine ik_Wk 1 (pc' := 78) (loc' := [some (.ref 66), some (fI ch)]) (st' := [.ref 66, fJ (27 * (zsd y s (e - s).toNat)), .ref 66]) (h' := (pre ++ rz_t w wt c tl T n fp s (zsd y s (e - s).toNat) e nu na rp M R O A)) (cl' := 0) (sl' := 0) rfl ?_
          refine fw_gf rfl rfl (rz_g 0 hpre rfl) rfl ?_
          refine ik_Wk 1 (pc' := 82) (loc' := [some (.ref 66), some (fI ch)]) (st' := [.ref 66, .ref 72, fJ (27 * (zsd y s (e - s).toNat)), .ref 66]) (h' := (pre ++ rz_t w wt c tl T n fp s (zsd y s (e - s).toNat) e nu na rp M R O A)) (cl' := 0) (sl' := 0) rfl ?_
          refine fw_gf rfl rfl (rz_g 0 hpre rfl) rfl ?_
          refine fw_ial rfl (rz_g 6 hpre rfl) (by omega) (by omega) (by omega) ?_
          have hb8 := bT e (by omega) (by omega)
          have hb9 := hy e (by omega) (by omega)
          refine fw_i2l rfl (by omega) (by omega) ?_
          refine fw_ladd rfl ?_
          refine fw_l2 96 rfl rfl (by decide) ?_
          refine fw_lsub rfl ?_
          refine fw_pf (h' := (pre ++ rz_t w wt c tl T n fp s (((27 * (zsd y s (e - s).toNat)) + (T.getD e.toNat 0)) - 96) e nu na rp M R O A)) rfl rfl (rz_g 0 hpre rfl) (Nat.le_of_ble_eq_true rfl) rfl rfl (rz_s 0 hpre rfl) ?_
          refine ik_Wk 2 (pc' := 97) (loc' := [some (.ref 66), some (fI ch)]) (st' := [.ref 66, .ref 66]) (h' := (pre ++ rz_t w wt c tl T n fp s (((27 * (zsd y s (e - s).toNat)) + (T.getD e.toNat 0)) - 96) e nu na rp M R O A)) (cl' := 0) (sl' := 0) rfl ?_
          refine fw_gf rfl rfl (rz_g 0 hpre rfl) rfl ?_
          refine ik_Wk 1 (pc' := 101) (loc' := [some (.ref 66), some (fI ch)]) (st' := [fI 1, fI e, .ref 66]) (h' := (pre ++ rz_t w wt c tl T n fp s (((27 * (zsd y s (e - s).toNat)) + (T.getD e.toNat 0)) - 96) e nu na rp M R O A)) (cl' := 0) (sl' := 0) rfl ?_
          refine fw_add rfl ?_
          refine fw_pf (h' := (pre ++ rz_t w wt c tl T n fp s (((27 * (zsd y s (e - s).toNat)) + (T.getD e.toNat 0)) - 96) (e + 1) nu na rp M R O A)) rfl rfl (rz_g 0 hpre rfl) (Nat.le_of_ble_eq_true rfl) rfl rfl (rz_s 0 hpre rfl) ?_
          refine ik_Wk 1 (pc' := 18) (loc' := [some (.ref 66), some (fI ch)]) (st' := []) (h' := (pre ++ rz_t w wt c tl T n fp s (((27 * (zsd y s (e - s).toNat)) + (T.getD e.toNat 0)) - 96) (e + 1) nu na rp M R O A)) (cl' := 0) (sl' := 0) rfl ?_
          have e1 : (e + 1 - s).toNat = (e - s).toNat + 1 := by omega
          have e2 : s + (((e - s).toNat : Nat) : Int) = e := by omega
          have e3 : zsd y s (e + 1 - s).toNat = ((27 * (zsd y s (e - s).toNat)) + (T.getD e.toNat 0)) - 96 := by rw [e1, zsd]; rw [e2]; split <;> omega
          rw [← e3]
          exact ih _ (by omega) (e + 1) rfl (by omega) (by omega) (by rw [he, zE_step (y := y) (n := n) (i := e) (by omega) (by omega)])
        · refine fw_l2 2000000000000 rfl rfl (by decide) ?_
          refine ik_Wk 1 (pc' := 92) (loc' := [some (.ref 66), some (fI ch)]) (st' := [fJ 2000000000000, .ref 66]) (h' := (pre ++ rz_t w wt c tl T n fp s (zsd y s (e - s).toNat) e nu na rp M R O A)) (cl' := 0) (sl' := 0) rfl ?_
          refine fw_pf (h' := (pre ++ rz_t w wt c tl T n fp s 2000000000000 e nu na rp M R O A)) rfl rfl (rz_g 0 hpre rfl) (Nat.le_of_ble_eq_true rfl) rfl rfl (rz_s 0 hpre rfl) ?_
          refine ik_Wk 2 (pc' := 97) (loc' := [some (.ref 66), some (fI ch)]) (st' := [.ref 66, .ref 66]) (h' := (pre ++ rz_t w wt c tl T n fp s 2000000000000 e nu na rp M R O A)) (cl' := 0) (sl' := 0) rfl ?_
          refine fw_gf rfl rfl (rz_g 0 hpre rfl) rfl ?_
          refine ik_Wk 1 (pc' := 101) (loc' := [some (.ref 66), some (fI ch)]) (st' := [fI 1, fI e, .ref 66]) (h' := (pre ++ rz_t w wt c tl T n fp s 2000000000000 e nu na rp M R O A)) (cl' := 0) (sl' := 0) rfl ?_
          refine fw_add rfl ?_
          refine fw_pf (h' := (pre ++ rz_t w wt c tl T n fp s 2000000000000 (e + 1) nu na rp M R O A)) rfl rfl (rz_g 0 hpre rfl) (Nat.le_of_ble_eq_true rfl) rfl rfl (rz_s 0 hpre rfl) ?_
          refine ik_Wk 1 (pc' := 18) (loc' := [some (.ref 66), some (fI ch)]) (st' := []) (h' := (pre ++ rz_t w wt c tl T n fp s 2000000000000 (e + 1) nu na rp M R O A)) (cl' := 0) (sl' := 0) rfl ?_
          have e1 : (e + 1 - s).toNat = (e - s).toNat + 1 := by omega
          have e2 : s + (((e - s).toNat : Nat) : Int) = e := by omega
          have e3 : zsd y s (e + 1 - s).toNat = 2000000000000 := by rw [e1, zsd]; rw [e2]; split <;> omega
          rw [← e3]
          exact ih _ (by omega) (e + 1) rfl (by omega) (by omega) (by rw [he, zE_step (y := y) (n := n) (i := e) (by omega) (by omega)])
      · refine ik_Wk 0 (pc' := 48) (loc' := [some (.ref 66), some (fI ch)]) (st' := [fI 0]) (h' := (pre ++ rz_t w wt c tl T n fp s (zsd y s (e - s).toNat) e nu na rp M R O A)) (cl' := 0) (sl' := 0) rfl ?_
        refine fw_if_eq rfl rfl (by omega) (by omega) (fun hc10 => ?_) (fun hc10 => absurd hc10 (by omega))
        have hz : zE y n s = e := he.trans (zE_stop (y := y) (n := n) (i := e) (by omega))
        exact ik_Wret rfl rfl ⟨_, _, rfl, rfl, rfl, rfl, ⟨rfl, by rw [hz]⟩⟩

theorem rz_word {pre tl : List ik_E} {w : Nat → Value} {wt : List Value} {c : Nat → ik_E} {y : Int → Int} {T : List Int} {n fp sd we nu na rp : Int} {M R O A : List Int} (ok : rz_ok y T n pre tl) {a0 : Int} (h0 : 0 ≤ a0) (h1 : a0 ≤ n) : ik_F 138 [.ref 66] (pre ++ rz_t w wt c tl T n fp a0 sd we nu na rp M R O A) (fun rv h' => rv = [] ∧ h' = (pre ++ rz_t w wt c tl T n fp (zS y n a0) (zsd y (zS y n a0) (zE y n (zS y n a0) - zS y n a0).toNat) (zE y n (zS y n a0)) nu na rp M R O A)) := by
  have ok' := ok
  obtain ⟨hpre, htl, hT, bT, hn, hn2, hy⟩ := ok'
  refine ik_Wk 1 (pc' := 1) (loc' := [some (.ref 66), none]) (st' := [.ref 66]) (h' := (pre ++ rz_t w wt c tl T n fp a0 sd we nu na rp M R O A)) (cl' := 0) (sl' := 0) rfl ?_
  refine fw_call 136 1 0 [.ref 66] [] rfl rfl rfl (by decide) rfl rfl (fw_rec (rz_len hpre htl) rfl (rz_g 0 hpre rfl) rfl (by decide)) (rz_here ok (by omega) (by omega)) ?_
  rintro rv h' ⟨⟨ht1, rfl⟩ | ⟨ht1, rfl⟩, rfl⟩
  · have hz3 := zS_ge (y := y) (n := n) a0
    have hz4 := zS_le (y := y) (n := n) (i := a0) (by omega)
    have hb5 := bT (zS y n a0) (by omega) (by omega)
    have hb6 := hy (zS y n a0) (by omega) (by omega)
    refine ik_Wk 0 (pc' := 4) (loc' := [some (.ref 66), none]) (st' := [fI (y (zS y n a0))]) (h' := (pre ++ rz_t w wt c tl T n fp (zS y n a0) sd we nu na rp M R O A)) (cl' := 0) (sl' := 0) rfl ?_
    refine ik_Wk 2 (pc' := 6) (loc' := [some (.ref 66), some (fI (y (zS y n a0)))]) (st' := [.ref 66]) (h' := (pre ++ rz_t w wt c tl T n fp (zS y n a0) sd we nu na rp M R O A)) (cl' := 0) (sl' := 0) rfl ?_
    refine fw_lc (z := 0) rfl (by decide) ?_
    refine fw_pf (h' := (pre ++ rz_t w wt c tl T n fp (zS y n a0) 0 we nu na rp M R O A)) rfl rfl (rz_g 0 hpre rfl) (Nat.le_of_ble_eq_true rfl) rfl rfl (rz_s 0 hpre rfl) ?_
    refine ik_Wk 2 (pc' := 12) (loc' := [some (.ref 66), some (fI (y (zS y n a0)))]) (st' := [.ref 66, .ref 66]) (h' := (pre ++ rz_t w wt c tl T n fp (zS y n a0) 0 we nu na rp M R O A)) (cl' := 0) (sl' := 0) rfl ?_
    refine fw_gf rfl rfl (rz_g 0 hpre rfl) rfl ?_
    refine fw_pf (h' := (pre ++ rz_t w wt c tl T n fp (zS y n a0) 0 (zS y n a0) nu na rp M R O A)) rfl rfl (rz_g 0 hpre rfl) (Nat.le_of_ble_eq_true rfl) rfl rfl (rz_s 0 hpre rfl) ?_
    refine ik_Wk 0 (pc' := 18) (loc' := [some (.ref 66), some (fI (y (zS y n a0)))]) (st' := []) (h' := (pre ++ rz_t w wt c tl T n fp (zS y n a0) (zsd y (zS y n a0) (zS y n a0 - zS y n a0).toNat) (zS y n a0) nu na rp M R O A)) (cl' := 0) (sl' := 0) ?_ ?_
    · rw [show (zS y n a0 - zS y n a0).toNat = 0 by omega]; rfl
    · exact rz_wordL ok (by omega) _ (zS y n a0) rfl (by omega) (by omega) rfl
  · have hz7 := zS_ge (y := y) (n := n) a0
    have hz8 := zS_le (y := y) (n := n) (i := a0) (by omega)
    refine ik_Wk 0 (pc' := 4) (loc' := [some (.ref 66), none]) (st' := [fI (-1)]) (h' := (pre ++ rz_t w wt c tl T n fp (zS y n a0) sd we nu na rp M R O A)) (cl' := 0) (sl' := 0) rfl ?_
    refine ik_Wk 2 (pc' := 6) (loc' := [some (.ref 66), some (fI (-1))]) (st' := [.ref 66]) (h' := (pre ++ rz_t w wt c tl T n fp (zS y n a0) sd we nu na rp M R O A)) (cl' := 0) (sl' := 0) rfl ?_
    refine fw_lc (z := 0) rfl (by decide) ?_
    refine fw_pf (h' := (pre ++ rz_t w wt c tl T n fp (zS y n a0) 0 we nu na rp M R O A)) rfl rfl (rz_g 0 hpre rfl) (Nat.le_of_ble_eq_true rfl) rfl rfl (rz_s 0 hpre rfl) ?_
    refine ik_Wk 2 (pc' := 12) (loc' := [some (.ref 66), some (fI (-1))]) (st' := [.ref 66, .ref 66]) (h' := (pre ++ rz_t w wt c tl T n fp (zS y n a0) 0 we nu na rp M R O A)) (cl' := 0) (sl' := 0) rfl ?_
    refine fw_gf rfl rfl (rz_g 0 hpre rfl) rfl ?_
    refine fw_pf (h' := (pre ++ rz_t w wt c tl T n fp (zS y n a0) 0 (zS y n a0) nu na rp M R O A)) rfl rfl (rz_g 0 hpre rfl) (Nat.le_of_ble_eq_true rfl) rfl rfl (rz_s 0 hpre rfl) ?_
    refine ik_Wk 0 (pc' := 18) (loc' := [some (.ref 66), some (fI (-1))]) (st' := []) (h' := (pre ++ rz_t w wt c tl T n fp (zS y n a0) (zsd y (zS y n a0) (zS y n a0 - zS y n a0).toNat) (zS y n a0) nu na rp M R O A)) (cl' := 0) (sl' := 0) ?_ ?_
    · rw [show (zS y n a0 - zS y n a0).toNat = 0 by omega]; rfl
    · exact rz_wordL ok (by omega) _ (zS y n a0) rfl (by omega) (by omega) rfl

theorem rz_pass_pl {pre tl : List ik_E} {w : Nat → Value} {wt : List Value} {c : Nat → ik_E} {y : Int → Int} {T : List Int} {n fp sd we nu na rp : Int} {M R O A : List Int} (ok : rz_ok y T n pre tl) {a0 wd : Int} (hwd : wd = 8740067) (h0 : 0 ≤ a0) (h1 : a0 ≤ n) : ik_F 142 [.ref 66, fJ wd] (pre ++ rz_t w wt c tl T n fp a0 sd we nu na rp M R O A) (fun rv h' => (zpl y n (zS y n a0) = true ∧ rv = [fI 1] ∧ ∃ sd' we', 0 ≤ we' ∧ we' ≤ n ∧ h' = (pre ++ rz_t w wt c tl T n fp (zS y n a0 + 5) sd' we' nu na rp M R O A)) ∨ (zpl y n (zS y n a0) = false ∧ rv = [fI 0] ∧ ∃ sd' we', 0 ≤ we' ∧ we' ≤ n ∧ h' = (pre ++ rz_t w wt c tl T n fp (zS y n a0) sd' we' nu na rp M R O A))) := by
  have ok' := ok
  obtain ⟨hpre, htl, hT, bT, hn, hn2, hy⟩ := ok'
  refine ik_Wk 1 (pc' := 1) (loc' := [some (.ref 66), some (fJ wd), none, none]) (st' := [.ref 66]) (h' := (pre ++ rz_t w wt c tl T n fp a0 sd we nu na rp M R O A)) (cl' := 0) (sl' := 0) rfl ?_
  refine fw_call 138 1 0 [.ref 66] [] rfl rfl rfl (by decide) rfl rfl (fw_rec (rz_len hpre htl) rfl (rz_g 0 hpre rfl) rfl (by decide)) (rz_word ok (by omega) (by omega)) ?_
  rintro rv h' ⟨rfl, rfl⟩
  have hz1 := zS_ge (y := y) (n := n) a0
  have hz2 := zS_le (y := y) (n := n) (i := a0) (by omega)
  have hz3 := zE_ge (y := y) (n := n) (zS y n a0)
  have hz4 := zE_le (y := y) (n := n) (i := zS y n a0) (by omega)
  have hz5 := zsd_b (y := y) (s := zS y n a0) (zE y n (zS y n a0) - zS y n a0).toNat (fun j a b => zE_mid (y := y) (n := n) (i := zS y n a0) a (by omega))
  refine ik_Wk 0 (pc' := 4) (loc' := [some (.ref 66), some (fJ wd), none, none]) (st' := []) (h' := (pre ++ rz_t w wt c tl T n fp (zS y n a0) (zsd y (zS y n a0) (zE y n (zS y n a0) - zS y n a0).toNat) (zE y n (zS y n a0)) nu na rp M R O A)) (cl' := 0) (sl' := 0) rfl ?_
  refine ik_Wk 1 (pc' := 5) (loc' := [some (.ref 66), some (fJ wd), none, none]) (st' := [.ref 66]) (h' := (pre ++ rz_t w wt c tl T n fp (zS y n a0) (zsd y (zS y n a0) (zE y n (zS y n a0) - zS y n a0).toNat) (zE y n (zS y n a0)) nu na rp M R O A)) (cl' := 0) (sl' := 0) rfl ?_
  refine fw_gf rfl rfl (rz_g 0 hpre rfl) rfl ?_
  refine ik_Wk 1 (pc' := 9) (loc' := [some (.ref 66), some (fJ wd), none, none]) (st' := [fJ wd, fJ (zsd y (zS y n a0) (zE y n (zS y n a0) - zS y n a0).toNat)]) (h' := (pre ++ rz_t w wt c tl T n fp (zS y n a0) (zsd y (zS y n a0) (zE y n (zS y n a0) - zS y n a0).toNat) (zE y n (zS y n a0)) nu na rp M R O A)) (cl' := 0) (sl' := 0) rfl ?_
  refine fw_lcmp_ne rfl rfl rfl (by omega) (by omega) (by omega) (by omega) (fun hc6 => ?_) (fun hc6 => ?_)
  · refine ik_Wk 5 (pc' := 21) (loc' := [some (.ref 66), some (fJ wd), none, some (fI 1)]) (st' := [fI 1, .ref 66]) (h' := (pre ++ rz_t w wt c tl T n fp (zS y n a0) (zsd y (zS y n a0) (zE y n (zS y n a0) - zS y n a0).toNat) (zE y n (zS y n a0)) nu na rp M R O A)) (cl' := 0) (sl' := 0) rfl ?_
    refine fw_if_eq rfl rfl (by omega) (by omega) (fun hc7 => absurd hc7 (by omega)) (fun hc7 => ?_)
    refine ik_Wk 1 (pc' := 25) (loc' := [some (.ref 66), some (fJ wd), none, some (fI 1)]) (st' := [.ref 66, .ref 66]) (h' := (pre ++ rz_t w wt c tl T n fp (zS y n a0) (zsd y (zS y n a0) (zE y n (zS y n a0) - zS y n a0).toNat) (zE y n (zS y n a0)) nu na rp M R O A)) (cl' := 0) (sl' := 0) rfl ?_
    refine fw_gf rfl rfl (rz_g 0 hpre rfl) rfl ?_
    refine ik_Wk 1 (pc' := 35) (loc' := [some (.ref 66), some (fJ wd), none, some (fI 1)]) (st' := [fI (zE y n (zS y n a0)), .ref 66]) (h' := (pre ++ rz_t w wt c tl T n fp (zS y n a0) (zsd y (zS y n a0) (zE y n (zS y n a0) - zS y n a0).toNat) (zE y n (zS y n a0)) nu na rp M R O A)) (cl' := 0) (sl' := 0) rfl ?_
    refine fw_pf (h' := (pre ++ rz_t w wt c tl T n fp (zE y n (zS y n a0)) (zsd y (zS y n a0) (zE y n (zS y n a0) - zS y n a0).toNat) (zE y n (zS y n a0)) nu na rp M R O A)) rfl rfl (rz_g 0 hpre rfl) (Nat.le_of_ble_eq_true rfl) rfl rfl (rz_s 0 hpre rfl) ?_
    refine ik_Wk 1 (pc' := 39) (loc' := [some (.ref 66), some (fJ wd), none, some (fI 1)]) (st' := [fI 1]) (h' := (pre ++ rz_t w wt c tl T n fp (zE y n (zS y n a0)) (zsd y (zS y n a0) (zE y n (zS y n a0) - zS y n a0).toNat) (zE y n (zS y n a0)) nu na rp M R O A)) (cl' := 0) (sl' := 0) rfl ?_
    have hq : zpl y n (zS y n a0) = true := zis_pl.mp (by omega)
    have hq2 := hq
    unfold zpl at hq2
    have hq3 := of_decide_eq_true hq2
    exact ik_Wret rfl rfl ⟨_, _, rfl, rfl, rfl, rfl, (Or.inl ⟨hq, rfl, zsd y (zS y n a0) (zE y n (zS y n a0) - zS y n a0).toNat, zE y n (zS y n a0), by omega, by omega, by rw [hq3.1]⟩)⟩
  · refine ik_Wk 4 (pc' := 21) (loc' := [some (.ref 66), some (fJ wd), none, some (fI 0)]) (st' := [fI 0, .ref 66]) (h' := (pre ++ rz_t w wt c tl T n fp (zS y n a0) (zsd y (zS y n a0) (zE y n (zS y n a0) - zS y n a0).toNat) (zE y n (zS y n a0)) nu na rp M R O A)) (cl' := 0) (sl' := 0) rfl ?_
    refine fw_if_eq rfl rfl (by omega) (by omega) (fun hc8 => ?_) (fun hc8 => absurd hc8 (by omega))
    refine ik_Wk 1 (pc' := 32) (loc' := [some (.ref 66), some (fJ wd), none, some (fI 0)]) (st' := [.ref 66, .ref 66]) (h' := (pre ++ rz_t w wt c tl T n fp (zS y n a0) (zsd y (zS y n a0) (zE y n (zS y n a0) - zS y n a0).toNat) (zE y n (zS y n a0)) nu na rp M R O A)) (cl' := 0) (sl' := 0) rfl ?_
    refine fw_gf rfl rfl (rz_g 0 hpre rfl) rfl ?_
    refine fw_pf (h' := (pre ++ rz_t w wt c tl T n fp (zS y n a0) (zsd y (zS y n a0) (zE y n (zS y n a0) - zS y n a0).toNat) (zE y n (zS y n a0)) nu na rp M R O A)) rfl rfl (rz_g 0 hpre rfl) (Nat.le_of_ble_eq_true rfl) rfl rfl (rz_s 0 hpre rfl) ?_
    refine ik_Wk 1 (pc' := 39) (loc' := [some (.ref 66), some (fJ wd), none, some (fI 0)]) (st' := [fI 0]) (h' := (pre ++ rz_t w wt c tl T n fp (zS y n a0) (zsd y (zS y n a0) (zE y n (zS y n a0) - zS y n a0).toNat) (zE y n (zS y n a0)) nu na rp M R O A)) (cl' := 0) (sl' := 0) rfl ?_
    have hq : ¬ zpl y n (zS y n a0) = true := fun q => by have := zis_pl.mpr q; omega
    exact ik_Wret rfl rfl ⟨_, _, rfl, rfl, rfl, rfl, (Or.inr ⟨by cases hx : zpl y n (zS y n a0) with | false => rfl | true => exact absurd hx hq, rfl, zsd y (zS y n a0) (zE y n (zS y n a0) - zS y n a0).toNat, zE y n (zS y n a0), by omega, by omega, rfl⟩)⟩

theorem rz_pass_br {pre tl : List ik_E} {w : Nat → Value} {wt : List Value} {c : Nat → ik_E} {y : Int → Int} {T : List Int} {n fp sd we nu na rp : Int} {M R O A : List Int} (ok : rz_ok y T n pre tl) {a0 wd : Int} (hwd : wd = 38444009) (h0 : 0 ≤ a0) (h1 : a0 ≤ n) : ik_F 142 [.ref 66, fJ wd] (pre ++ rz_t w wt c tl T n fp a0 sd we nu na rp M R O A) (fun rv h' => (zbr y n (zS y n a0) = true ∧ rv = [fI 1] ∧ ∃ sd' we', 0 ≤ we' ∧ we' ≤ n ∧ h' = (pre ++ rz_t w wt c tl T n fp (zS y n a0 + 6) sd' we' nu na rp M R O A)) ∨ (zbr y n (zS y n a0) = false ∧ rv = [fI 0] ∧ ∃ sd' we', 0 ≤ we' ∧ we' ≤ n ∧ h' = (pre ++ rz_t w wt c tl T n fp (zS y n a0) sd' we' nu na rp M R O A))) := by
  have ok' := ok
  obtain ⟨hpre, htl, hT, bT, hn, hn2, hy⟩ := ok'
  refine ik_Wk 1 (pc' := 1) (loc' := [some (.ref 66), some (fJ wd), none, none]) (st' := [.ref 66]) (h' := (pre ++ rz_t w wt c tl T n fp a0 sd we nu na rp M R O A)) (cl' := 0) (sl' := 0) rfl ?_
  refine fw_call 138 1 0 [.ref 66] [] rfl rfl rfl (by decide) rfl rfl (fw_rec (rz_len hpre htl) rfl (rz_g 0 hpre rfl) rfl (by decide)) (rz_word ok (by omega) (by omega)) ?_
  rintro rv h' ⟨rfl, rfl⟩
  have hz1 := zS_ge (y := y) (n := n) a0
  have hz2 := zS_le (y := y) (n := n) (i := a0) (by omega)
  have hz3 := zE_ge (y := y) (n := n) (zS y n a0)
  have hz4 := zE_le (y := y) (n := n) (i := zS y n a0) (by omega)
  have hz5 := zsd_b (y := y) (s := zS y n a0) (zE y n (zS y n a0) - zS y n a0).toNat (fun j a b => zE_mid (y := y) (n := n) (i := zS y n a0) a (by omega))
  refine ik_Wk 0 (pc' := 4) (loc' := [some (.ref 66), some (fJ wd), none, none]) (st' := []) (h' := (pre ++ rz_t w wt c tl T n fp (zS y n a0) (zsd y (zS y n a0) (zE y n (zS y n a0) - zS y n a0).toNat) (zE y n (zS y n a0)) nu na rp M R O A)) (cl' := 0) (sl' := 0) rfl ?_
  refine ik_Wk 1 (pc' := 5) (loc' := [some (.ref 66), some (fJ wd), none, none]) (st' := [.ref 66]) (h' := (pre ++ rz_t w wt c tl T n fp (zS y n a0) (zsd y (zS y n a0) (zE y n (zS y n a0) - zS y n a0).toNat) (zE y n (zS y n a0)) nu na rp M R O A)) (cl' := 0) (sl' := 0) rfl ?_
  refine fw_gf rfl rfl (rz_g 0 hpre rfl) rfl ?_
  refine ik_Wk 1 (pc' := 9) (loc' := [some (.ref 66), some (fJ wd), none, none]) (st' := [fJ wd, fJ (zsd y (zS y n a0) (zE y n (zS y n a0) - zS y n a0).toNat)]) (h' := (pre ++ rz_t w wt c tl T n fp (zS y n a0) (zsd y (zS y n a0) (zE y n (zS y n a0) - zS y n a0).toNat) (zE y n (zS y n a0)) nu na rp M R O A)) (cl' := 0) (sl' := 0) rfl ?_
  refine fw_lcmp_ne rfl rfl rfl (by omega) (by omega) (by omega) (by omega) (fun hc6 => ?_) (fun hc6 => ?_)
  · refine ik_Wk 5 (pc' := 21) (loc' := [some (.ref 66), some (fJ wd), none, some (fI 1)]) (st' := [fI 1, .ref 66]) (h' := (pre ++ rz_t w wt c tl T n fp (zS y n a0) (zsd y (zS y n a0) (zE y n (zS y n a0) - zS y n a0).toNat) (zE y n (zS y n a0)) nu na rp M R O A)) (cl' := 0) (sl' := 0) rfl ?_
    refine fw_if_eq rfl rfl (by omega) (by omega) (fun hc7 => absurd hc7 (by omega)) (fun hc7 => ?_)
    refine ik_Wk 1 (pc' := 25) (loc' := [some (.ref 66), some (fJ wd), none, some (fI 1)]) (st' := [.ref 66, .ref 66]) (h' := (pre ++ rz_t w wt c tl T n fp (zS y n a0) (zsd y (zS y n a0) (zE y n (zS y n a0) - zS y n a0).toNat) (zE y n (zS y n a0)) nu na rp M R O A)) (cl' := 0) (sl' := 0) rfl ?_
    refine fw_gf rfl rfl (rz_g 0 hpre rfl) rfl ?_
    refine ik_Wk 1 (pc' := 35) (loc' := [some (.ref 66), some (fJ wd), none, some (fI 1)]) (st' := [fI (zE y n (zS y n a0)), .ref 66]) (h' := (pre ++ rz_t w wt c tl T n fp (zS y n a0) (zsd y (zS y n a0) (zE y n (zS y n a0) - zS y n a0).toNat) (zE y n (zS y n a0)) nu na rp M R O A)) (cl' := 0) (sl' := 0) rfl ?_
    refine fw_pf (h' := (pre ++ rz_t w wt c tl T n fp (zE y n (zS y n a0)) (zsd y (zS y n a0) (zE y n (zS y n a0) - zS y n a0).toNat) (zE y n (zS y n a0)) nu na rp M R O A)) rfl rfl (rz_g 0 hpre rfl) (Nat.le_of_ble_eq_true rfl) rfl rfl (rz_s 0 hpre rfl) ?_
    refine ik_Wk 1 (pc' := 39) (loc' := [some (.ref 66), some (fJ wd), none, some (fI 1)]) (st' := [fI 1]) (h' := (pre ++ rz_t w wt c tl T n fp (zE y n (zS y n a0)) (zsd y (zS y n a0) (zE y n (zS y n a0) - zS y n a0).toNat) (zE y n (zS y n a0)) nu na rp M R O A)) (cl' := 0) (sl' := 0) rfl ?_
    have hq : zbr y n (zS y n a0) = true := zis_br.mp (by omega)
    have hq2 := hq
    unfold zbr at hq2
    have hq3 := of_decide_eq_true hq2
    exact ik_Wret rfl rfl ⟨_, _, rfl, rfl, rfl, rfl, (Or.inl ⟨hq, rfl, zsd y (zS y n a0) (zE y n (zS y n a0) - zS y n a0).toNat, zE y n (zS y n a0), by omega, by omega, by rw [hq3.1]⟩)⟩
  · refine ik_Wk 4 (pc' := 21) (loc' := [some (.ref 66), some (fJ wd), none, some (fI 0)]) (st' := [fI 0, .ref 66]) (h' := (pre ++ rz_t w wt c tl T n fp (zS y n a0) (zsd y (zS y n a0) (zE y n (zS y n a0) - zS y n a0).toNat) (zE y n (zS y n a0)) nu na rp M R O A)) (cl' := 0) (sl' := 0) rfl ?_
    refine fw_if_eq rfl rfl (by omega) (by omega) (fun hc8 => ?_) (fun hc8 => absurd hc8 (by omega))
    refine ik_Wk 1 (pc' := 32) (loc' := [some (.ref 66), some (fJ wd), none, some (fI 0)]) (st' := [.ref 66, .ref 66]) (h' := (pre ++ rz_t w wt c tl T n fp (zS y n a0) (zsd y (zS y n a0) (zE y n (zS y n a0) - zS y n a0).toNat) (zE y n (zS y n a0)) nu na rp M R O A)) (cl' := 0) (sl' := 0) rfl ?_
    refine fw_gf rfl rfl (rz_g 0 hpre rfl) rfl ?_
    refine fw_pf (h' := (pre ++ rz_t w wt c tl T n fp (zS y n a0) (zsd y (zS y n a0) (zE y n (zS y n a0) - zS y n a0).toNat) (zE y n (zS y n a0)) nu na rp M R O A)) rfl rfl (rz_g 0 hpre rfl) (Nat.le_of_ble_eq_true rfl) rfl rfl (rz_s 0 hpre rfl) ?_
    refine ik_Wk 1 (pc' := 39) (loc' := [some (.ref 66), some (fJ wd), none, some (fI 0)]) (st' := [fI 0]) (h' := (pre ++ rz_t w wt c tl T n fp (zS y n a0) (zsd y (zS y n a0) (zE y n (zS y n a0) - zS y n a0).toNat) (zE y n (zS y n a0)) nu na rp M R O A)) (cl' := 0) (sl' := 0) rfl ?_
    have hq : ¬ zbr y n (zS y n a0) = true := fun q => by have := zis_br.mpr q; omega
    exact ik_Wret rfl rfl ⟨_, _, rfl, rfl, rfl, rfl, (Or.inr ⟨by cases hx : zbr y n (zS y n a0) with | false => rfl | true => exact absurd hx hq, rfl, zsd y (zS y n a0) (zE y n (zS y n a0) - zS y n a0).toNat, zE y n (zS y n a0), by omega, by omega, rfl⟩)⟩
