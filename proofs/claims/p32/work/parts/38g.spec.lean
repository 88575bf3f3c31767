/-! THE TEXT READ, as functions of its bytes: y i the byte at i (0 .. 255), n how many there are -/
def zW (p : Int → Bool) (n : Int) : Nat → Int → Int
  | 0, i => i
  | k + 1, i => if i < n ∧ p i = true then zW p n k (i + 1) else i
/-- the first from i on at which p does not hold, or the end -/
def zw (p : Int → Bool) (n i : Int) : Int := zW p n (n - i).toNat i
theorem zw_step {p : Int → Bool} {n i : Int} (h1 : i < n) (h2 : p i = true) : zw p n i = zw p n (i + 1) := by
  unfold zw
  have e : (n - i).toNat = (n - (i + 1)).toNat + 1 := by omega
  rw [e, zW, if_pos ⟨h1, h2⟩]
theorem zw_stop {p : Int → Bool} {n i : Int} (h : ¬ (i < n ∧ p i = true)) : zw p n i = i := by
  unfold zw
  cases (n - i).toNat with
  | zero => rfl
  | succ k => rw [zW, if_neg h]
theorem zW_ge {p : Int → Bool} {n : Int} : ∀ (k : Nat) (i : Int), i ≤ zW p n k i := by
  intro k
  induction k with
  | zero => intro i; exact Int.le_refl i
  | succ k ih =>
    intro i
    rw [zW]
    split
    · have := ih (i + 1); omega
    · exact Int.le_refl i
theorem zW_le {p : Int → Bool} {n : Int} : ∀ (k : Nat) (i : Int), i ≤ n → zW p n k i ≤ n := by
  intro k
  induction k with
  | zero => intro i h; exact h
  | succ k ih =>
    intro i h
    rw [zW]
    split
    · rename_i q; exact ih (i + 1) (by omega)
    · exact h
theorem zW_mid {p : Int → Bool} {n : Int} : ∀ (k : Nat) (i j : Int), i ≤ j → j < zW p n k i → p j = true := by
  intro k
  induction k with
  | zero => intro i j h1 h2; rw [zW] at h2; omega
  | succ k ih =>
    intro i j h1 h2
    rw [zW] at h2
    split at h2
    · rename_i q
      by_cases e : i = j
      · rw [← e]; exact q.2
      · exact ih (i + 1) j (by omega) h2
    · omega
theorem zW_end {p : Int → Bool} {n : Int} : ∀ (k : Nat) (i : Int), (n - i).toNat ≤ k → zW p n k i < n → p (zW p n k i) = false := by
  intro k
  induction k with
  | zero => intro i h1 h2; rw [zW] at h2; omega
  | succ k ih =>
    intro i h1 h2
    rw [zW] at h2 ⊢
    split at h2
    · rename_i q
      rw [if_pos q]
      exact ih (i + 1) (by omega) h2
    · rename_i q
      rw [if_neg q]
      cases hp : p i with
      | true => exact absurd ⟨h2, hp⟩ q
      | false => rfl
theorem zw_ge {p : Int → Bool} {n : Int} (i : Int) : i ≤ zw p n i := zW_ge _ i
theorem zw_le {p : Int → Bool} {n i : Int} (h : i ≤ n) : zw p n i ≤ n := zW_le _ i h
theorem zw_mid {p : Int → Bool} {n i j : Int} (h1 : i ≤ j) (h2 : j < zw p n i) : p j = true := zW_mid _ i j h1 h2
theorem zw_end {p : Int → Bool} {n i : Int} (h : zw p n i < n) : p (zw p n i) = false := zW_end _ i (Nat.le_refl _) h
theorem zw_idem {p : Int → Bool} {n i : Int} : zw p n (zw p n i) = zw p n i := by
  refine zw_stop (fun q => ?_)
  have := zw_end q.1
  rw [this] at q
  exact absurd q.2 (by decide)
def zb (y : Int → Int) (i : Int) : Bool := decide (y i = 32)
def zl (y : Int → Int) (i : Int) : Bool := decide (97 ≤ y i ∧ y i ≤ 122)
def zd (y : Int → Int) (i : Int) : Bool := decide (48 ≤ y i ∧ y i ≤ 57)
def zS (y : Int → Int) (n i : Int) : Int := zw (zb y) n i
def zE (y : Int → Int) (n i : Int) : Int := zw (zl y) n i
def zD (y : Int → Int) (n i : Int) : Int := zw (zd y) n i
theorem zS_ge {y : Int → Int} {n : Int} (i : Int) : i ≤ zS y n i := zw_ge i
theorem zS_le {y : Int → Int} {n i : Int} (h : i ≤ n) : zS y n i ≤ n := zw_le h
theorem zE_ge {y : Int → Int} {n : Int} (i : Int) : i ≤ zE y n i := zw_ge i
theorem zE_le {y : Int → Int} {n i : Int} (h : i ≤ n) : zE y n i ≤ n := zw_le h
theorem zD_ge {y : Int → Int} {n : Int} (i : Int) : i ≤ zD y n i := zw_ge i
theorem zD_le {y : Int → Int} {n i : Int} (h : i ≤ n) : zD y n i ≤ n := zw_le h
theorem zS_step {y : Int → Int} {n i : Int} (h1 : i < n) (h2 : y i = 32) : zS y n i = zS y n (i + 1) := zw_step h1 (decide_eq_true h2)
theorem zS_stop {y : Int → Int} {n i : Int} (h : ¬ (i < n ∧ y i = 32)) : zS y n i = i := zw_stop (fun q => h ⟨q.1, of_decide_eq_true q.2⟩)
theorem zE_step {y : Int → Int} {n i : Int} (h1 : i < n) (h2 : 97 ≤ y i ∧ y i ≤ 122) : zE y n i = zE y n (i + 1) := zw_step h1 (decide_eq_true h2)
theorem zE_stop {y : Int → Int} {n i : Int} (h : ¬ (i < n ∧ 97 ≤ y i ∧ y i ≤ 122)) : zE y n i = i := zw_stop (fun q => h ⟨q.1, of_decide_eq_true q.2⟩)
theorem zD_step {y : Int → Int} {n i : Int} (h1 : i < n) (h2 : 48 ≤ y i ∧ y i ≤ 57) : zD y n i = zD y n (i + 1) := zw_step h1 (decide_eq_true h2)
theorem zD_stop {y : Int → Int} {n i : Int} (h : ¬ (i < n ∧ 48 ≤ y i ∧ y i ≤ 57)) : zD y n i = i := zw_stop (fun q => h ⟨q.1, of_decide_eq_true q.2⟩)
theorem zD_mid {y : Int → Int} {n i j : Int} (h1 : i ≤ j) (h2 : j < zD y n i) : 48 ≤ y j ∧ y j ≤ 57 := of_decide_eq_true (zw_mid (p := zd y) h1 h2)
theorem zE_mid {y : Int → Int} {n i j : Int} (h1 : i ≤ j) (h2 : j < zE y n i) : 97 ≤ y j ∧ y j ≤ 122 := of_decide_eq_true (zw_mid (p := zl y) h1 h2)
theorem zS_idem {y : Int → Int} {n i : Int} : zS y n (zS y n i) = zS y n i := zw_idem
theorem zS_end {y : Int → Int} {n i : Int} (h : zS y n i < n) : ¬ y (zS y n i) = 32 := of_decide_eq_false (zw_end (p := zb y) h)
/-- the number from s to e, if it has one to three figures -/
def zval (y : Int → Int) (s e : Int) : Int := if e = s + 1 then y s - 48 else if e = s + 2 then 10 * (y s - 48) + (y (s + 1) - 48) else if e = s + 3 then 100 * (y s - 48) + 10 * (y (s + 1) - 48) + (y (s + 2) - 48) else 5000
/-- a number at s: its fault, or 0 -/
def znum (y : Int → Int) (n lo hi s : Int) : Int := if zD y n s = s then 1 else if lo ≤ zval y s (zD y n s) ∧ zval y s (zD y n s) ≤ hi then 0 else 2
def zv (y : Int → Int) (n s : Int) : Int := zval y s (zD y n s)
def zto (y : Int → Int) (n s : Int) : Bool := decide (zE y n s = s + 2 ∧ y s = 116 ∧ y (s + 1) = 111)
def zpl (y : Int → Int) (n s : Int) : Bool := decide (zE y n s = s + 5 ∧ y s = 112 ∧ y (s + 1) = 108 ∧ y (s + 2) = 97 ∧ y (s + 3) = 99 ∧ y (s + 4) = 101)
def zbr (y : Int → Int) (n s : Int) : Bool := decide (zE y n s = s + 6 ∧ y s = 98 ∧ y (s + 1) = 114 ∧ y (s + 2) = 105 ∧ y (s + 3) = 100 ∧ y (s + 4) = 103 ∧ y (s + 5) = 101)
abbrev zM : Type := Int × Int × Int
/-- the moves of a place: a fault and its byte, or the moves and where it goes on -/
def zmv (y : Int → Int) (n : Int) : Nat → List zM → Int → Int → (Int × Int) ⊕ (List zM × Int)
  | 0, _, _, _ => .inl (1, 0)
  | k + 1, r, sum, cur =>
    if zto y n (zS y n cur) = true then
      if r.length = 4 then .inl (3, zS y n cur)
      else if znum y n 0 11 (zS y n (zS y n cur + 2)) = 0 then
        if (r.any fun m => decide (m.1 = zv y n (zS y n (zS y n cur + 2)))) = true then .inl (4, zS y n (zS y n cur + 2))
        else if znum y n 1 100 (zS y n (zD y n (zS y n (zS y n cur + 2)))) = 0 then
          if 100 < sum + zv y n (zS y n (zD y n (zS y n (zS y n cur + 2)))) then .inl (5, zS y n (zD y n (zS y n (zS y n cur + 2))))
          else zmv y n k (r ++ [(zv y n (zS y n (zS y n cur + 2)), zv y n (zS y n (zD y n (zS y n (zS y n cur + 2)))), zS y n (zS y n cur + 2))]) (sum + zv y n (zS y n (zD y n (zS y n (zS y n cur + 2))))) (zD y n (zS y n (zD y n (zS y n (zS y n cur + 2)))))
        else .inl (znum y n 1 100 (zS y n (zD y n (zS y n (zS y n cur + 2)))), zS y n (zD y n (zS y n (zS y n cur + 2))))
      else .inl (znum y n 0 11 (zS y n (zS y n cur + 2)), zS y n (zS y n cur + 2))
    else if r ≠ [] ∧ zS y n cur < n ∧ y (zS y n cur) = 59 then
      if sum = 100 then .inr (r, zS y n cur + 1) else .inl (5, zS y n cur)
    else .inl (1, zS y n cur)
/-- what stands behind 'bridge' -/
def zend (y : Int → Int) (n c : Int) : Int × Int :=
  if zS y n c < n ∧ y (zS y n c) = 59 then (if zS y n (zS y n c + 1) < n then (1, zS y n (zS y n c + 1)) else (0, 0)) else (1, zS y n c)
def zps (y : Int → Int) (n : Int) : Nat → List (List zM) → Int → (Int × Int) ⊕ List (List zM)
  | 0, _, _ => .inl (1, 0)
  | k + 1, rs, cur =>
    if zbr y n (zS y n cur) = true then
      if (zend y n (zS y n cur + 6)).1 = 0 then .inr rs else .inl (zend y n (zS y n cur + 6))
    else if zpl y n (zS y n cur) = true then
      if rs.length = 11 then .inl (3, zS y n cur)
      else match zmv y n 5 [] 0 (zS y n cur + 5) with
        | .inl e => .inl e
        | .inr (r, c) => zps y n k (rs ++ [r]) c
    else .inl (1, zS y n cur)
/-- the first goal that is no place -/
def zck (rs : List (List zM)) : Option zM := rs.flatten.find? fun m => decide ((rs.length : Int) + 1 ≤ m.1)
/-- the whole: a fault and its byte, or how many places, and the moves of all but the bridge -/
def zall (y : Int → Int) (n : Int) : (Int × Int) ⊕ (Int × List (List zM)) :=
  if zS y n 0 < n then
    match zps y n 12 [] (zS y n 0) with
    | .inl e => .inl e
    | .inr rs => match zck rs with
      | some m => .inl (6, m.2.2)
      | none => .inr ((rs.length : Int) + 1, rs)
  else .inr (0, [])
/-- rows hold these moves -/
def zh (G P B : List Int) (p : Nat) (r : List zM) : Prop := ∀ (i : Nat) (m : zM), r[i]? = some m → G.getD (4 * p + i) 0 = m.1 ∧ P.getD (4 * p + i) 0 = m.2.1 ∧ B.getD (4 * p + i) 0 = m.2.2
def zH (C G P B : List Int) (rs : List (List zM)) : Prop := ∀ (p : Nat) (r : List zM), rs[p]? = some r → C.getD p 0 = (r.length : Int) ∧ r.length ≤ 4 ∧ zh G P B p r
