/-! comparisons as comparisons of whole numbers -/
theorem lg_lt0 (x y : Int64) : (lg_cmp x y < 0) = (x.toInt < y.toInt) := by
  unfold lg_cmp
  apply propext
  by_cases h1 : x > y
  · rw [if_pos h1]
    have : y.toInt < x.toInt := Int64.lt_iff_toInt_lt.mp h1
    constructor
    · intro h; exact absurd h (by decide)
    · intro h; omega
  · rw [if_neg h1]
    have h2 : ¬ y.toInt < x.toInt := fun q => h1 (Int64.lt_iff_toInt_lt.mpr q)
    by_cases h3 : x = y
    · rw [if_pos h3]
      subst h3
      constructor
      · intro h; exact absurd h (by decide)
      · intro h; omega
    · rw [if_neg h3]
      have h4 : ¬ x.toInt = y.toInt := fun q => h3 (Int64.toInt_inj.mp q)
      constructor
      · intro _; omega
      · intro _; decide
theorem lg_gt0 (x y : Int64) : (0 < lg_cmp x y) = (y.toInt < x.toInt) := by
  unfold lg_cmp
  apply propext
  by_cases h1 : x > y
  · rw [if_pos h1]
    have : y.toInt < x.toInt := Int64.lt_iff_toInt_lt.mp h1
    constructor
    · intro _; exact this
    · intro _; decide
  · rw [if_neg h1]
    have h2 : ¬ y.toInt < x.toInt := fun q => h1 (Int64.lt_iff_toInt_lt.mpr q)
    by_cases h3 : x = y
    · rw [if_pos h3]
      constructor
      · intro h; exact absurd h (by decide)
      · intro h; exact absurd h h2
    · rw [if_neg h3]
      constructor
      · intro h; exact absurd h (by decide)
      · intro h; exact absurd h h2
theorem cv_eq (x y : Int32) : (x = y) = (x.toInt = y.toInt) := propext ⟨fun h => by rw [h], fun h => Int32.toInt_inj.mp h⟩
theorem cv_lt (x y : Int32) : (x < y) = (x.toInt < y.toInt) := propext Int32.lt_iff_toInt_lt
theorem cv_le (x y : Int32) : (x ≤ y) = (x.toInt ≤ y.toInt) := propext Int32.le_iff_toInt_le
theorem cv_64 (x : Int32) : x.toInt64.toInt = x.toInt := Int32.toInt_toInt64 x
theorem cv_k {k : Int32} {n : Int} (h : k.toInt = n) : k.toInt = n := h
