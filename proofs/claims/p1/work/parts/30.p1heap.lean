/-! p1: the two new objects, class at place 0, reference at place 66 (written by wip/gen/p1parts.py) -/
def ik_eE (a b : ik_E) : Bool := match a, b with
  | .inl x, .inl y => decide (x.1 = y.1) && decide (x.2 = y.2)
  | .inr x, .inr y => decide (x.1 = y.1) && decide (x.2 = y.2)
  | _, _ => false
theorem ik_eE_ok {a b : ik_E} (h : ik_eE a b = true) : a = b := by
  unfold ik_eE at h
  split at h
  · simp only [Bool.and_eq_true, decide_eq_true_eq] at h
    rename_i x y
    rw [show x = y from Prod.ext h.1 h.2]
  · simp only [Bool.and_eq_true, decide_eq_true_eq] at h
    rename_i x y
    rw [show x = y from Prod.ext h.1 h.2]
  · cases h
def ik_eH : List ik_E → List ik_E → Bool
  | [], [] => true
  | a :: r, b :: t => ik_eE a b && ik_eH r t
  | _, _ => false
theorem ik_eH_ok : ∀ {a b : List ik_E}, ik_eH a b = true → a = b
  | [], [], _ => rfl
  | a :: r, b :: t, h => by
    unfold ik_eH at h
    simp only [Bool.and_eq_true] at h
    rw [ik_eE_ok h.1, ik_eH_ok h.2]
  | [], _ :: _, h => by cases h
  | _ :: _, [], h => by cases h
/-- a run ends there: a check that a program decides -/
def ik_eZ (z : Option ik_St) (w : ik_St) : Bool := match z with
  | none => false
  | some z => decide (z.1 = w.1) && decide (z.2.1 = w.2.1) && decide (z.2.2.1 = w.2.2.1) && ik_eH z.2.2.2.1 w.2.2.2.1 && decide (z.2.2.2.2 = w.2.2.2.2)
theorem ik_eZ_ok {z : Option ik_St} {w : ik_St} (h : ik_eZ z w = true) : z = some w := by
  unfold ik_eZ at h
  split at h
  · cases h
  · rename_i z
    simp only [Bool.and_eq_true, decide_eq_true_eq] at h
    obtain ⟨⟨⟨⟨h1, h2⟩, h3⟩, h4⟩, h5⟩ := h
    congr 1
    exact Prod.ext h1 (Prod.ext h2 (Prod.ext h3 (Prod.ext (ik_eH_ok h4) h5)))
def p1_x : List ik_E := [.inr (9, [.ref 1, .ref 7, .ref 14, .ref 17, .ref 45, .ref 51, .ref 54, .ref 57]),
  .inr (6, [.ref 2, .int 0, .int 0, .int 0, .int (-1), .int 0, .ref 3, .ref 4, .ref 5, .ref 6]),
  .inl (.byte, List.replicate 500 (.int 0)),
  .inl (.int, List.replicate 12 (.int 0)),
  .inl (.int, List.replicate 48 (.int 0)),
  .inl (.int, List.replicate 48 (.int 0)),
  .inl (.int, List.replicate 48 (.int 0)),
  .inr (0, [.int 0, .int 0, .int 0, .ref 8, .ref 9, .ref 10, .ref 11, .ref 12, .ref 13]),
  .inl (.int, List.replicate 12 (.int 0)),
  .inl (.int, List.replicate 48 (.int 0)),
  .inl (.int, List.replicate 48 (.int 0)),
  .inl (.int, List.replicate 60 (.int 0)),
  .inl (.int, List.replicate 60 (.int 0)),
  .inl (.int, List.replicate 12 (.int 0)),
  .inr (1, [.ref 7, .ref 15, .ref 16, .int 0, .long 0]),
  .inl (.int, List.replicate 6 (.int 0)),
  .inl (.int, List.replicate 2 (.int 0)),
  .inr (8, [.ref 7, .ref 15, .ref 18, .ref 19, .long 0, .ref 20]),
  .inl ((.object "SlowerCork$Course"), [.ref 21, .ref 25, .ref 29, .ref 33, .ref 37, .ref 41]),
  .inl (.long, List.replicate 2 (.long 0)),
  .inl (.int, List.replicate 4 (.int 0)),
  .inr (2, [.ref 7, .int 0, .int 0, .ref 22, .ref 23, .ref 24]),
  .inl (.int, List.replicate 201 (.int 0)),
  .inl (.long, List.replicate 12 (.long 0)),
  .inl (.long, List.replicate 12 (.long 0)),
  .inr (2, [.ref 7, .int 0, .int 0, .ref 26, .ref 27, .ref 28]),
  .inl (.int, List.replicate 201 (.int 0)),
  .inl (.long, List.replicate 12 (.long 0)),
  .inl (.long, List.replicate 12 (.long 0)),
  .inr (2, [.ref 7, .int 0, .int 0, .ref 30, .ref 31, .ref 32]),
  .inl (.int, List.replicate 201 (.int 0)),
  .inl (.long, List.replicate 12 (.long 0)),
  .inl (.long, List.replicate 12 (.long 0)),
  .inr (2, [.ref 7, .int 0, .int 0, .ref 34, .ref 35, .ref 36]),
  .inl (.int, List.replicate 201 (.int 0)),
  .inl (.long, List.replicate 12 (.long 0)),
  .inl (.long, List.replicate 12 (.long 0)),
  .inr (2, [.ref 7, .int 0, .int 0, .ref 38, .ref 39, .ref 40]),
  .inl (.int, List.replicate 201 (.int 0)),
  .inl (.long, List.replicate 12 (.long 0)),
  .inl (.long, List.replicate 12 (.long 0)),
  .inr (2, [.ref 7, .int 0, .int 0, .ref 42, .ref 43, .ref 44]),
  .inl (.int, List.replicate 201 (.int 0)),
  .inl (.long, List.replicate 12 (.long 0)),
  .inl (.long, List.replicate 12 (.long 0)),
  .inr (5, [.ref 46, .ref 47, .ref 48, .ref 49, .ref 50]),
  .inl (.int, List.replicate 9 (.int 0)),
  .inl (.long, List.replicate 12 (.long 0)),
  .inl (.long, List.replicate 6 (.long 0)),
  .inl (.long, List.replicate 2 (.long 0)),
  .inl (.long, List.replicate 2 (.long 0)),
  .inr (7, [.ref 7, .int 0, .ref 52, .ref 53]),
  .inl (.int, List.replicate 12 (.int 0)),
  .inl (.int, List.replicate 12 (.int 0)),
  .inr (4, [.ref 55, .ref 56]),
  .inl (.int, List.replicate 80 (.int 0)),
  .inl (.int, List.replicate 2 (.int 0)),
  .inl ((.object "SlowerCork$Image"), [.ref 58, .ref 62]),
  .inr (3, [.int 0, .ref 59, .ref 60, .int 0, .long 0, .int 0, .ref 61]),
  .inl (.int, List.replicate 6 (.int 0)),
  .inl (.int, List.replicate 2 (.int 0)),
  .inl (.int, List.replicate 48 (.int 0)),
  .inr (3, [.int 0, .ref 63, .ref 64, .int 0, .long 0, .int 0, .ref 65]),
  .inl (.int, List.replicate 6 (.int 0)),
  .inl (.int, List.replicate 2 (.int 0)),
  .inl (.int, List.replicate 48 (.int 0))]
def p1_m : List ik_E := [.inr (10, [.int 0, .ref 67, .ref 68, .ref 69, .int 0, .ref 70, .ref 71, .int 0, .int 0, .ref 72, .int 0, .int (-1), .int 0, .long 0, .int 0, .int 0, .int 0, .int 0, .ref 73, .ref 74, .ref 75, .ref 76, .ref 77, .ref 78, .int 0, .ref 79, .ref 80, .ref 81, .ref 82, .ref 83, .ref 84, .ref 85, .long 0, .long 0, .ref 86, .ref 87, .int 0, .ref 88, .ref 89, .ref 90, .ref 91, .ref 92, .ref 93]),
  .inl (.int, List.replicate 12 (.int 0)),
  .inl (.int, List.replicate 48 (.int 0)),
  .inl (.int, List.replicate 48 (.int 0)),
  .inl (.int, List.replicate 6 (.int 0)),
  .inl (.int, List.replicate 2 (.int 0)),
  .inl (.int, List.replicate 500 (.int 0)),
  .inl (.int, List.replicate 12 (.int 0)),
  .inl (.int, List.replicate 48 (.int 0)),
  .inl (.int, List.replicate 48 (.int 0)),
  .inl (.int, List.replicate 48 (.int 0)),
  .inl (.int, List.replicate 5 (.int 0)),
  .inl (.int, List.replicate 5 (.int 0)),
  .inl (.long, List.replicate 12 (.long 0)),
  .inl (.long, List.replicate 12 (.long 0)),
  .inl (.long, List.replicate 201 (.long 0)),
  .inl (.long, List.replicate 201 (.long 0)),
  .inl (.long, List.replicate 9 (.long 0)),
  .inl (.long, List.replicate 3 (.long 0)),
  .inl (.long, List.replicate 3 (.long 0)),
  .inl (.int, List.replicate 3 (.int 0)),
  .inl (.int, List.replicate 3 (.int 0)),
  .inl (.int, List.replicate 12 (.int 0)),
  .inl (.int, List.replicate 12 (.int 0)),
  .inl (.int, List.replicate 2 (.int 0)),
  .inl (.int, List.replicate 80 (.int 0)),
  .inl (.int, List.replicate 160 (.int 0)),
  .inl (.boolean, List.replicate 2 (.int 0))]
def p1_h : List ik_E := p1_x ++ p1_m
set_option maxRecDepth 100000 in
theorem p1_newX : ik_ex none 700 33 0 (ik_loc (ik_ml 33) [.ref 0]) [] [.inr (9, ik_fs 9)] 0 0 = some (128, [some (.ref 0)], [], p1_x, 65, 2608) := ik_eZ_ok (by decide +kernel)
set_option maxRecDepth 100000 in
theorem p1_newM : ik_ex none 700 69 0 (ik_loc (ik_ml 69) [.ref 66]) [] (p1_x ++ [.inr (10, ik_fs 10)]) 0 0 = some (224, [some (.ref 66)], [], p1_h, 27, 1497) := ik_eZ_ok (by decide +kernel)
