noncomputable section
/-! a course of the class, as it lies in four cells -/
def mf_cr (h : List ik_E) (C : Nat) : Prop := ∃ (M a b : Nat) (k u : Int) (cm xs ys : List Int), M = C + 1 ∧ (a = C + 2 ∧ b = C + 3 ∨ a = C + 3 ∧ b = C + 2) ∧ h[C]? = some (.inr (2, [.ref 7, fI k, fI u, .ref M, .ref a, .ref b])) ∧ h[M]? = some (.inl (.int, fA cm)) ∧ h[a]? = some (.inl (.long, fL xs)) ∧ h[b]? = some (.inl (.long, fL ys)) ∧ cm.length = 201 ∧ xs.length = 12 ∧ ys.length = 12
/-- the course of a cork of kind k, set in at q, made up to minute u -/
def mf_cv (h : List ik_E) (C : Nat) (W : Int → List (Int × Int)) (pl k q u : Int) : Prop := ∃ (M a b : Nat) (cm xs ys : List Int), M = C + 1 ∧ (a = C + 2 ∧ b = C + 3 ∨ a = C + 3 ∧ b = C + 2) ∧ h[C]? = some (.inr (2, [.ref 7, fI k, fI u, .ref M, .ref a, .ref b])) ∧ h[M]? = some (.inl (.int, fA cm)) ∧ h[a]? = some (.inl (.long, fL xs)) ∧ h[b]? = some (.inl (.long, fL ys)) ∧ cm.length = 201 ∧ xs.length = 12 ∧ ys.length = 12 ∧ (0 ≤ u ∧ u ≤ 200) ∧ mf_is pl xs (mf_od W (pl - 1) k q u.toNat) ∧ (∀ j : Nat, (j : Int) ≤ u → cm.getD j 0 = mf_cm W (pl - 1) k q j)
theorem mf_cv_r {h : List ik_E} {C : Nat} {W : Int → List (Int × Int)} {pl k q u : Int} (v : mf_cv h C W pl k q u) : mf_cr h C := by
  obtain ⟨M, a, b, cm, xs, ys, h1, h2, h3, h4, h5, h6, h7, h8, h9, _⟩ := v
  exact ⟨M, a, b, k, u, cm, xs, ys, h1, h2, h3, h4, h5, h6, h7, h8, h9⟩
theorem mf_cr_o {h : List ik_E} {C : Nat} (v : mf_cr h C) : ∃ fs, h[C]? = some (.inr (2, fs)) := by
  obtain ⟨M, a, b, k, u, cm, xs, ys, h1, h2, h3, _⟩ := v
  exact ⟨_, h3⟩
theorem mf_cv_o {h : List ik_E} {C : Nat} {W : Int → List (Int × Int)} {pl k q u : Int} (v : mf_cv h C W pl k q u) : ∃ fs, h[C]? = some (.inr (2, fs)) := mf_cr_o (mf_cv_r v)
theorem mf_cr_f {h h' : List ik_E} {C : Nat} (v : mf_cr h C) (e0 : h'[C]? = h[C]?) (e1 : h'[C + 1]? = h[C + 1]?) (e2 : h'[C + 2]? = h[C + 2]?) (e3 : h'[C + 3]? = h[C + 3]?) : mf_cr h' C := by
  obtain ⟨M, a, b, k, u, cm, xs, ys, h1, h2, h3, h4, h5, h6, h7, h8, h9⟩ := v
  refine ⟨M, a, b, k, u, cm, xs, ys, h1, h2, e0.trans h3, ?_, ?_, ?_, h7, h8, h9⟩
  · subst h1; exact e1.trans h4
  · rcases h2 with ⟨p, q⟩ | ⟨p, q⟩ <;> subst p <;> first | exact e2.trans h5 | exact e3.trans h5
  · rcases h2 with ⟨p, q⟩ | ⟨p, q⟩ <;> subst q <;> first | exact e3.trans h6 | exact e2.trans h6
theorem mf_cv_f {h h' : List ik_E} {C : Nat} {W : Int → List (Int × Int)} {pl k q u : Int} (v : mf_cv h C W pl k q u) (e0 : h'[C]? = h[C]?) (e1 : h'[C + 1]? = h[C + 1]?) (e2 : h'[C + 2]? = h[C + 2]?) (e3 : h'[C + 3]? = h[C + 3]?) : mf_cv h' C W pl k q u := by
  obtain ⟨M, a, b, cm, xs, ys, h1, h2, h3, h4, h5, h6, h7, h8, h9, hr⟩ := v
  refine ⟨M, a, b, cm, xs, ys, h1, h2, e0.trans h3, ?_, ?_, ?_, h7, h8, h9, hr⟩
  · subst h1; exact e1.trans h4
  · rcases h2 with ⟨p, q⟩ | ⟨p, q⟩ <;> subst p <;> first | exact e2.trans h5 | exact e3.trans h5
  · rcases h2 with ⟨p, q⟩ | ⟨p, q⟩ <;> subst q <;> first | exact e3.trans h6 | exact e2.trans h6
/-- odds of a set of places -/
def mf_ss (B : Nat) (o : Nat → Int) : Nat → Int
  | 0 => 0
  | n + 1 => mf_ss B o n + if B.testBit n then o n else 0
theorem mf_ss_s {B : Nat} {o : Nat → Int} {p : Int} (h : 0 ≤ p) : mf_ss B o (p + 1).toNat = mf_ss B o p.toNat + if B.testBit p.toNat then o p.toNat else 0 := by
  rw [show (p + 1).toNat = p.toNat + 1 by omega]
  rfl
theorem mf_tb0 {q i : Nat} (h : ¬ i = q) : (1 <<< q).testBit i = false := by
  rw [Nat.testBit_shiftLeft]
  by_cases v : q ≤ i
  · have e : Nat.testBit 1 (i - q) = false := by
      cases e0 : i - q with
      | zero => omega
      | succ k => rw [Nat.testBit_succ]; exact Nat.zero_testBit k
    rw [e, Bool.and_false]
  · rw [decide_eq_false v, Bool.false_and]
theorem mf_tb1 (q : Nat) : (1 <<< q).testBit q = true := by
  rw [Nat.testBit_shiftLeft, Nat.sub_self, decide_eq_true (Nat.le_refl q)]
  rfl
theorem mf_ss_1 {o : Nat → Int} {q : Nat} : ∀ n, q < n → mf_ss (1 <<< q) o n = o q := by
  have lo : ∀ n, n ≤ q → mf_ss (1 <<< q) o n = 0 := by
    intro n
    induction n with
    | zero => intro _; rfl
    | succ n ih =>
      intro w
      show mf_ss (1 <<< q) o n + (if (1 <<< q).testBit n then o n else 0) = 0
      rw [ih (by omega), mf_tb0 (by omega)]
      rfl
  intro n
  induction n with
  | zero => intro w; omega
  | succ n ih =>
    intro w
    show mf_ss (1 <<< q) o n + (if (1 <<< q).testBit n then o n else 0) = o q
    by_cases e : n = q
    · subst e; rw [lo n (Nat.le_refl n), mf_tb1, if_pos rfl, Int.zero_add]
    · rw [ih (by omega), mf_tb0 e, if_neg (by decide), Int.add_zero]
/-- what comeBy answers -/
def mf_ct (W : Int → List (Int × Int)) (pl k q t : Int) : Int := if 0 ≤ t ∧ t ≤ 200 then mf_cm W (pl - 1) k q t.toNat else 0
end
