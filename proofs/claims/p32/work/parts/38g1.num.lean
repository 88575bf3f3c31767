/-! numbers: what znum, zv are while one is read -/
def ik_hid (p : Prop) : Prop := p
theorem ik_hid_i {p : Prop} (h : p) : ik_hid p := h
theorem zval_of {y : Int → Int} {s cur v : Int} (hinv : (cur = s → v = 0) ∧ (cur = s + 1 → v = y s - 48) ∧ (cur = s + 2 → v = 10 * (y s - 48) + (y (s + 1) - 48)) ∧ (cur = s + 3 → v = 100 * (y s - 48) + 10 * (y (s + 1) - 48) + (y (s + 2) - 48))) (h1 : s < cur) (h3 : cur ≤ s + 3) : zval y s cur = v := by
  obtain ⟨_, i1, i2, i3⟩ := hinv
  unfold zval
  by_cases q1 : cur = s + 1
  · rw [if_pos q1]
    exact (i1 q1).symm
  · rw [if_neg q1]
    by_cases q2 : cur = s + 2
    · rw [if_pos q2]
      exact (i2 q2).symm
    · have q3 : cur = s + 3 := by
        clear i1 i2 i3
        omega
      rw [if_neg q2, if_pos q3]
      exact (i3 q3).symm
theorem zval_far {y : Int → Int} {s cur : Int} (h : s + 3 < cur) : zval y s cur = 5000 := by
  unfold zval
  rw [if_neg (by omega), if_neg (by omega), if_neg (by omega)]
theorem znum_1 {y : Int → Int} {n lo hi s cur : Int} (he : zD y n s = cur) (h : cur = s) : znum y n lo hi s = 1 := by
  unfold znum
  rw [he, if_pos h]
theorem znum_0 {y : Int → Int} {n lo hi s cur v : Int} (he : zD y n s = cur) (h : ¬ cur = s) (hz : zval y s cur = v) (h1 : lo ≤ v) (h2 : v ≤ hi) : znum y n lo hi s = 0 := by
  unfold znum
  rw [he, if_neg h, hz, if_pos ⟨h1, h2⟩]
theorem znum_2 {y : Int → Int} {n lo hi s cur v : Int} (he : zD y n s = cur) (h : ¬ cur = s) (hz : zval y s cur = v) (h1 : ¬ (lo ≤ v ∧ v ≤ hi)) : znum y n lo hi s = 2 := by
  unfold znum
  rw [he, if_neg h, hz, if_neg h1]
theorem zv_of {y : Int → Int} {n s cur v : Int} (he : zD y n s = cur) (hz : zval y s cur = v) : zv y n s = v := by
  unfold zv
  rw [he]
  exact hz
theorem znum_inv {y : Int → Int} {n s cur v v' : Int} (hinv : (cur = s → v = 0) ∧ (cur = s + 1 → v = y s - 48) ∧ (cur = s + 2 → v = 10 * (y s - 48) + (y (s + 1) - 48)) ∧ (cur = s + 3 → v = 100 * (y s - 48) + 10 * (y (s + 1) - 48) + (y (s + 2) - 48))) (h1 : s ≤ cur) (he : zD y n s = zD y n (cur + 1)) (hv : v ≤ 99 → v' = v * 10 + (y cur - 48)) : ((cur + 1) = s → v' = 0) ∧ ((cur + 1) = s + 1 → v' = y s - 48) ∧ ((cur + 1) = s + 2 → v' = 10 * (y s - 48) + (y (s + 1) - 48)) ∧ ((cur + 1) = s + 3 → v' = 100 * (y s - 48) + 10 * (y (s + 1) - 48) + (y (s + 2) - 48)) := by
  obtain ⟨i0, i1, i2, i3⟩ := hinv
  have d : ∀ j, s ≤ j → j ≤ cur → 48 ≤ y j ∧ y j ≤ 57 := fun j a b => zD_mid (n := n) a (by have := zD_ge (y := y) (n := n) (cur + 1); clear i0 i1 i2 i3 hv; omega)
  refine ⟨fun q => absurd q (by clear i0 i1 i2 i3 hv; omega), fun q => ?_, fun q => ?_, fun q => ?_⟩
  · have w : cur = s := by
      clear i0 i1 i2 i3 hv
      omega
    have z := i0 w
    have u := hv (by clear i0 i1 i2 i3 hv; omega)
    rw [w] at u
    clear i0 i1 i2 i3 hv
    omega
  · have w : cur = s + 1 := by
      clear i0 i1 i2 i3 hv
      omega
    have z := i1 w
    have d0 := d s (by clear i0 i1 i2 i3 hv; omega) (by clear i0 i1 i2 i3 hv; omega)
    have u := hv (by clear i0 i1 i2 i3 hv; omega)
    rw [w] at u
    clear i0 i1 i2 i3 hv
    omega
  · have w : cur = s + 2 := by
      clear i0 i1 i2 i3 hv
      omega
    have z := i2 w
    have d0 := d s (by clear i0 i1 i2 i3 hv; omega) (by clear i0 i1 i2 i3 hv; omega)
    have d1 := d (s + 1) (by clear i0 i1 i2 i3 hv; omega) (by clear i0 i1 i2 i3 hv; omega)
    have u := hv (by clear i0 i1 i2 i3 hv; omega)
    rw [w] at u
    clear i0 i1 i2 i3 hv
    omega
