noncomputable section
/-! the two new objects, class at place 0, reference at place 66; the law from its entry -/
def ik_eE (a b : ik_E) : Bool := match a, b with
  | .inl x, .inl y => decide (x.1 = y.1) && decide (x.2 = y.2)
  | .inr x, .inr y => decide (x.1 = y.1) && decide (x.2 = y.2)
  | _, _ => false
theorem ik_eE_ok {a b : ik_E} (h : ik_eE a b = true) : a = b := by
  unfold ik_eE at h
  split at h
  · simp only [Bool.and_eq_true, decide_eq_true_eq] at h
    rename_i x y
    rw [show x = y from Prod.ext h.1 h.2]
  · simp only [Bool.and_eq_true, decide_eq_true_eq] at h
    rename_i x y
    rw [show x = y from Prod.ext h.1 h.2]
  · cases h
def ik_eH : List ik_E → List ik_E → Bool
  | [], [] => true
  | a :: r, b :: t => ik_eE a b && ik_eH r t
  | _, _ => false
theorem ik_eH_ok : ∀ {a b : List ik_E}, ik_eH a b = true → a = b
  | [], [], _ => rfl
  | a :: r, b :: t, h => by
    unfold ik_eH at h
    simp only [Bool.and_eq_true] at h
    rw [ik_eE_ok h.1, ik_eH_ok h.2]
  | [], _ :: _, h => by cases h
  | _ :: _, [], h => by cases h
/-- a run ends there: a check that a program decides -/
def ik_eZ (z : Option ik_St) (w : ik_St) : Bool := match z with
  | none => false
  | some z => decide (z.1 = w.1) && decide (z.2.1 = w.2.1) && decide (z.2.2.1 = w.2.2.1) && ik_eH z.2.2.2.1 w.2.2.2.1 && decide (z.2.2.2.2 = w.2.2.2.2)
theorem ik_eZ_ok {z : Option ik_St} {w : ik_St} (h : ik_eZ z w = true) : z = some w := by
  unfold ik_eZ at h
  split at h
  · cases h
  · rename_i z
    simp only [Bool.and_eq_true, decide_eq_true_eq] at h
    obtain ⟨⟨⟨⟨h1, h2⟩, h3⟩, h4⟩, h5⟩ := h
    congr 1
    exact Prod.ext h1 (Prod.ext h2 (Prod.ext h3 (Prod.ext (ik_eH_ok h4) h5)))
def p1_x : List ik_E := [.inr (9, [.ref 1, .ref 7, .ref 14, .ref 17, .ref 45, .ref 51, .ref 54, .ref 57]),
  .inr (6, [.ref 2, .int 0, .int 0, .int 0, .int (-1), .int 0, .ref 3, .ref 4, .ref 5, .ref 6]),
  .inl (.byte, List.replicate 500 (.int 0)),
  .inl (.int, List.replicate 12 (.int 0)),
  .inl (.int, List.replicate 48 (.int 0)),
  .inl (.int, List.replicate 48 (.int 0)),
  .inl (.int, List.replicate 48 (.int 0)),
  .inr (0, [.int 0, .int 0, .int 0, .ref 8, .ref 9, .ref 10, .ref 11, .ref 12, .ref 13]),
  .inl (.int, List.replicate 12 (.int 0)),
  .inl (.int, List.replicate 48 (.int 0)),
  .inl (.int, List.replicate 48 (.int 0)),
  .inl (.int, List.replicate 60 (.int 0)),
  .inl (.int, List.replicate 60 (.int 0)),
  .inl (.int, List.replicate 12 (.int 0)),
  .inr (1, [.ref 7, .ref 15, .ref 16, .int 0, .long 0]),
  .inl (.int, List.replicate 6 (.int 0)),
  .inl (.int, List.replicate 2 (.int 0)),
  .inr (8, [.ref 7, .ref 15, .ref 18, .ref 19, .long 0, .ref 20]),
  .inl ((.object "SlowerCork$Course"), [.ref 21, .ref 25, .ref 29, .ref 33, .ref 37, .ref 41]),
  .inl (.long, List.replicate 2 (.long 0)),
  .inl (.int, List.replicate 4 (.int 0)),
  .inr (2, [.ref 7, .int 0, .int 0, .ref 22, .ref 23, .ref 24]),
  .inl (.int, List.replicate 201 (.int 0)),
  .inl (.long, List.replicate 12 (.long 0)),
  .inl (.long, List.replicate 12 (.long 0)),
  .inr (2, [.ref 7, .int 0, .int 0, .ref 26, .ref 27, .ref 28]),
  .inl (.int, List.replicate 201 (.int 0)),
  .inl (.long, List.replicate 12 (.long 0)),
  .inl (.long, List.replicate 12 (.long 0)),
  .inr (2, [.ref 7, .int 0, .int 0, .ref 30, .ref 31, .ref 32]),
  .inl (.int, List.replicate 201 (.int 0)),
  .inl (.long, List.replicate 12 (.long 0)),
  .inl (.long, List.replicate 12 (.long 0)),
  .inr (2, [.ref 7, .int 0, .int 0, .ref 34, .ref 35, .ref 36]),
  .inl (.int, List.replicate 201 (.int 0)),
  .inl (.long, List.replicate 12 (.long 0)),
  .inl (.long, List.replicate 12 (.long 0)),
  .inr (2, [.ref 7, .int 0, .int 0, .ref 38, .ref 39, .ref 40]),
  .inl (.int, List.replicate 201 (.int 0)),
  .inl (.long, List.replicate 12 (.long 0)),
  .inl (.long, List.replicate 12 (.long 0)),
  .inr (2, [.ref 7, .int 0, .int 0, .ref 42, .ref 43, .ref 44]),
  .inl (.int, List.replicate 201 (.int 0)),
  .inl (.long, List.replicate 12 (.long 0)),
  .inl (.long, List.replicate 12 (.long 0)),
  .inr (5, [.ref 46, .ref 47, .ref 48, .ref 49, .ref 50]),
  .inl (.int, List.replicate 9 (.int 0)),
  .inl (.long, List.replicate 12 (.long 0)),
  .inl (.long, List.replicate 6 (.long 0)),
  .inl (.long, List.replicate 2 (.long 0)),
  .inl (.long, List.replicate 2 (.long 0)),
  .inr (7, [.ref 7, .int 0, .ref 52, .ref 53]),
  .inl (.int, List.replicate 12 (.int 0)),
  .inl (.int, List.replicate 12 (.int 0)),
  .inr (4, [.ref 55, .ref 56]),
  .inl (.int, List.replicate 80 (.int 0)),
  .inl (.int, List.replicate 2 (.int 0)),
  .inl ((.object "SlowerCork$Image"), [.ref 58, .ref 62]),
  .inr (3, [.int 0, .ref 59, .ref 60, .int 0, .long 0, .int 0, .ref 61]),
  .inl (.int, List.replicate 6 (.int 0)),
  .inl (.int, List.replicate 2 (.int 0)),
  .inl (.int, List.replicate 48 (.int 0)),
  .inr (3, [.int 0, .ref 63, .ref 64, .int 0, .long 0, .int 0, .ref 65]),
  .inl (.int, List.replicate 6 (.int 0)),
  .inl (.int, List.replicate 2 (.int 0)),
  .inl (.int, List.replicate 48 (.int 0))]
def p1_m : List ik_E := [.inr (10, [.int 0, .ref 67, .ref 68, .ref 69, .int 0, .ref 70, .ref 71, .int 0, .int 0, .ref 72, .int 0, .int (-1), .int 0, .long 0, .int 0, .int 0, .int 0, .int 0, .ref 73, .ref 74, .ref 75, .ref 76, .ref 77, .ref 78, .int 0, .ref 79, .ref 80, .ref 81, .ref 82, .ref 83, .ref 84, .ref 85, .long 0, .long 0, .ref 86, .ref 87, .int 0, .ref 88, .ref 89, .ref 90, .ref 91, .ref 92, .ref 93]),
  .inl (.int, List.replicate 12 (.int 0)),
  .inl (.int, List.replicate 48 (.int 0)),
  .inl (.int, List.replicate 48 (.int 0)),
  .inl (.int, List.replicate 6 (.int 0)),
  .inl (.int, List.replicate 2 (.int 0)),
  .inl (.int, List.replicate 500 (.int 0)),
  .inl (.int, List.replicate 12 (.int 0)),
  .inl (.int, List.replicate 48 (.int 0)),
  .inl (.int, List.replicate 48 (.int 0)),
  .inl (.int, List.replicate 48 (.int 0)),
  .inl (.int, List.replicate 5 (.int 0)),
  .inl (.int, List.replicate 5 (.int 0)),
  .inl (.long, List.replicate 12 (.long 0)),
  .inl (.long, List.replicate 12 (.long 0)),
  .inl (.long, List.replicate 201 (.long 0)),
  .inl (.long, List.replicate 201 (.long 0)),
  .inl (.long, List.replicate 9 (.long 0)),
  .inl (.long, List.replicate 3 (.long 0)),
  .inl (.long, List.replicate 3 (.long 0)),
  .inl (.int, List.replicate 3 (.int 0)),
  .inl (.int, List.replicate 3 (.int 0)),
  .inl (.int, List.replicate 12 (.int 0)),
  .inl (.int, List.replicate 12 (.int 0)),
  .inl (.int, List.replicate 2 (.int 0)),
  .inl (.int, List.replicate 80 (.int 0)),
  .inl (.int, List.replicate 160 (.int 0)),
  .inl (.boolean, List.replicate 2 (.int 0))]
def p1_h : List ik_E := p1_x ++ p1_m
set_option maxRecDepth 100000 in
theorem p1_newX : ik_ex none 700 89 0 (ik_loc (ik_ml 89) [.ref 0]) [] [.inr (9, ik_fs 9)] 0 0 = some (128, [some (.ref 0)], [], p1_x, 65, 2608) := ik_eZ_ok (by decide +kernel)
set_option maxRecDepth 100000 in
theorem p1_newM : ik_ex none 700 126 0 (ik_loc (ik_ml 126) [.ref 66]) [] (p1_x ++ [.inr (10, ik_fs 10)]) 0 0 = some (224, [some (.ref 66)], [], p1_h, 27, 1497) := ik_eZ_ok (by decide +kernel)
theorem p1_t (k : Nat) : fA (List.replicate k 0) = List.replicate k (.int 0) := by
  unfold fA
  rw [List.map_replicate]
  rfl
theorem p1_tL (k : Nat) : fL (List.replicate k 0) = List.replicate k (.long 0) := by
  unfold fL
  rw [List.map_replicate]
  rfl
theorem p1_g (k n : Nat) : (List.replicate k (0 : Int)).getD n 0 = 0 := by
  rw [List.getD_eq_getElem?_getD, List.getElem?_replicate]
  split <;> rfl
theorem p1_hl : p1_h.length = 94 := by decide +kernel
theorem p1_c2 : cE p1_h 2 (.inl (.byte, fA (List.replicate 500 0))) := by
  rw [p1_t]
  rfl
theorem p1_c3 : cE p1_h 3 (.inl (.int, fA (List.replicate 12 0))) := by
  rw [p1_t]
  rfl
theorem p1_c4 : cE p1_h 4 (.inl (.int, fA (List.replicate 48 0))) := by
  rw [p1_t]
  rfl
theorem p1_c5 : cE p1_h 5 (.inl (.int, fA (List.replicate 48 0))) := by
  rw [p1_t]
  rfl
theorem p1_c6 : cE p1_h 6 (.inl (.int, fA (List.replicate 48 0))) := by
  rw [p1_t]
  rfl
theorem p1_c8 : cE p1_h 8 (.inl (.int, fA (List.replicate 12 0))) := by
  rw [p1_t]
  rfl
theorem p1_c9 : cE p1_h 9 (.inl (.int, fA (List.replicate 48 0))) := by
  rw [p1_t]
  rfl
theorem p1_c10 : cE p1_h 10 (.inl (.int, fA (List.replicate 48 0))) := by
  rw [p1_t]
  rfl
theorem p1_c11 : cE p1_h 11 (.inl (.int, fA (List.replicate 60 0))) := by
  rw [p1_t]
  rfl
theorem p1_c12 : cE p1_h 12 (.inl (.int, fA (List.replicate 60 0))) := by
  rw [p1_t]
  rfl
theorem p1_c13 : cE p1_h 13 (.inl (.int, fA (List.replicate 12 0))) := by
  rw [p1_t]
  rfl
theorem p1_c21 : mf_cr p1_h 21 := ⟨22, 23, 24, 0, 0, List.replicate 201 0, List.replicate 12 0, List.replicate 12 0, rfl, Or.inl ⟨rfl, rfl⟩, rfl, by rw [p1_t]; rfl, by rw [p1_tL]; rfl, by rw [p1_tL]; rfl, List.length_replicate, List.length_replicate, List.length_replicate⟩
theorem p1_c33 : mf_cr p1_h 33 := ⟨34, 35, 36, 0, 0, List.replicate 201 0, List.replicate 12 0, List.replicate 12 0, rfl, Or.inl ⟨rfl, rfl⟩, rfl, by rw [p1_t]; rfl, by rw [p1_tL]; rfl, by rw [p1_tL]; rfl, List.length_replicate, List.length_replicate, List.length_replicate⟩
theorem p1_c25 : mf_cr p1_h 25 := ⟨26, 27, 28, 0, 0, List.replicate 201 0, List.replicate 12 0, List.replicate 12 0, rfl, Or.inl ⟨rfl, rfl⟩, rfl, by rw [p1_t]; rfl, by rw [p1_tL]; rfl, by rw [p1_tL]; rfl, List.length_replicate, List.length_replicate, List.length_replicate⟩
theorem p1_c29 : mf_cr p1_h 29 := ⟨30, 31, 32, 0, 0, List.replicate 201 0, List.replicate 12 0, List.replicate 12 0, rfl, Or.inl ⟨rfl, rfl⟩, rfl, by rw [p1_t]; rfl, by rw [p1_tL]; rfl, by rw [p1_tL]; rfl, List.length_replicate, List.length_replicate, List.length_replicate⟩
theorem p1_c37 : mf_cr p1_h 37 := ⟨38, 39, 40, 0, 0, List.replicate 201 0, List.replicate 12 0, List.replicate 12 0, rfl, Or.inl ⟨rfl, rfl⟩, rfl, by rw [p1_t]; rfl, by rw [p1_tL]; rfl, by rw [p1_tL]; rfl, List.length_replicate, List.length_replicate, List.length_replicate⟩
theorem p1_c41 : mf_cr p1_h 41 := ⟨42, 43, 44, 0, 0, List.replicate 201 0, List.replicate 12 0, List.replicate 12 0, rfl, Or.inl ⟨rfl, rfl⟩, rfl, by rw [p1_t]; rfl, by rw [p1_tL]; rfl, by rw [p1_tL]; rfl, List.length_replicate, List.length_replicate, List.length_replicate⟩
theorem p1_c46 : cE p1_h 46 (.inl (.int, fA (List.replicate 9 0))) := by
  rw [p1_t]
  rfl
theorem p1_c47 : cE p1_h 47 (.inl (.long, fL (List.replicate 12 0))) := by
  rw [p1_tL]
  rfl
theorem p1_c48 : cE p1_h 48 (.inl (.long, fL (List.replicate 6 0))) := by
  rw [p1_tL]
  rfl
theorem p1_c49 : cE p1_h 49 (.inl (.long, fL (List.replicate 2 0))) := by
  rw [p1_tL]
  rfl
theorem p1_c50 : cE p1_h 50 (.inl (.long, fL (List.replicate 2 0))) := by
  rw [p1_tL]
  rfl
theorem p1_c52 : cE p1_h 52 (.inl (.int, fA (List.replicate 12 0))) := by
  rw [p1_t]
  rfl
theorem p1_c53 : cE p1_h 53 (.inl (.int, fA (List.replicate 12 0))) := by
  rw [p1_t]
  rfl
theorem p1_c55 : cE p1_h 55 (.inl (.int, fA (List.replicate 80 0))) := by
  rw [p1_t]
  rfl
theorem p1_c61 : cE p1_h 61 (.inl (.int, fA (List.replicate 48 0))) := by
  rw [p1_t]
  rfl
theorem p1_c65 : cE p1_h 65 (.inl (.int, fA (List.replicate 48 0))) := by
  rw [p1_t]
  rfl
theorem p1_c67 : cE p1_h 67 (.inl (.int, fA (List.replicate 12 0))) := by
  rw [p1_t]
  rfl
theorem p1_c68 : cE p1_h 68 (.inl (.int, fA (List.replicate 48 0))) := by
  rw [p1_t]
  rfl
theorem p1_c69 : cE p1_h 69 (.inl (.int, fA (List.replicate 48 0))) := by
  rw [p1_t]
  rfl
theorem p1_c72 : cE p1_h 72 (.inl (.int, fA (List.replicate 500 0))) := by
  rw [p1_t]
  rfl
theorem p1_c73 : cE p1_h 73 (.inl (.int, fA (List.replicate 12 0))) := by
  rw [p1_t]
  rfl
theorem p1_c74 : cE p1_h 74 (.inl (.int, fA (List.replicate 48 0))) := by
  rw [p1_t]
  rfl
theorem p1_c75 : cE p1_h 75 (.inl (.int, fA (List.replicate 48 0))) := by
  rw [p1_t]
  rfl
theorem p1_c76 : cE p1_h 76 (.inl (.int, fA (List.replicate 48 0))) := by
  rw [p1_t]
  rfl
theorem p1_c77 : cE p1_h 77 (.inl (.int, fA (List.replicate 5 0))) := by
  rw [p1_t]
  rfl
theorem p1_c78 : cE p1_h 78 (.inl (.int, fA (List.replicate 5 0))) := by
  rw [p1_t]
  rfl
theorem p1_c79 : cE p1_h 79 (.inl (.long, fL (List.replicate 12 0))) := by
  rw [p1_tL]
  rfl
theorem p1_c80 : cE p1_h 80 (.inl (.long, fL (List.replicate 12 0))) := by
  rw [p1_tL]
  rfl
theorem p1_c81 : cE p1_h 81 (.inl (.long, fL (List.replicate 201 0))) := by
  rw [p1_tL]
  rfl
theorem p1_c82 : cE p1_h 82 (.inl (.long, fL (List.replicate 201 0))) := by
  rw [p1_tL]
  rfl
theorem p1_c83 : cE p1_h 83 (.inl (.long, fL (List.replicate 9 0))) := by
  rw [p1_tL]
  rfl
theorem p1_c84 : cE p1_h 84 (.inl (.long, fL (List.replicate 3 0))) := by
  rw [p1_tL]
  rfl
theorem p1_c85 : cE p1_h 85 (.inl (.long, fL (List.replicate 3 0))) := by
  rw [p1_tL]
  rfl
theorem p1_c86 : cE p1_h 86 (.inl (.int, fA (List.replicate 3 0))) := by
  rw [p1_t]
  rfl
theorem p1_c87 : cE p1_h 87 (.inl (.int, fA (List.replicate 3 0))) := by
  rw [p1_t]
  rfl
theorem p1_c88 : cE p1_h 88 (.inl (.int, fA (List.replicate 12 0))) := by
  rw [p1_t]
  rfl
theorem p1_c89 : cE p1_h 89 (.inl (.int, fA (List.replicate 12 0))) := by
  rw [p1_t]
  rfl
theorem p1_c91 : cE p1_h 91 (.inl (.int, fA (List.replicate 80 0))) := by
  rw [p1_t]
  rfl
theorem p1_c92 : cE p1_h 92 (.inl (.int, fA (List.replicate 160 0))) := by
  rw [p1_t]
  rfl
set_option maxRecDepth 100000 in
theorem p1_E : st_S 0 p1_h := fun C_ k_ => k_ 0 (-1) 0 0 0 0 0 0 0 0 0 0 0 0 0 0 0 0 0 0 0 0 0 0 0 0 0 0 0 0 0 0 0 0 0 0 0 0 0 0 0 (List.replicate 500 0) (List.replicate 12 0) (List.replicate 48 0) (List.replicate 48 0) (List.replicate 60 0) (List.replicate 60 0) (List.replicate 12 0) (List.replicate 12 0) (List.replicate 12 0) (List.replicate 80 0) (List.replicate 48 0) (List.replicate 48 0) (List.replicate 12 0) (List.replicate 48 0) (List.replicate 48 0) (List.replicate 500 0) (List.replicate 160 0) (by decide) (by decide) (fun w => by exfalso; omega) (fun w => by exfalso; omega) (fun w => by exfalso; omega) (fun x h0 h1 => by exfalso; omega) (fun x h0 h1 => by exfalso; omega) (fun x h0 h1 => by exfalso; omega) (by decide) (fun w => by exfalso; omega) (fun w => by exfalso; omega) (by decide) (by decide) (by decide) (fun i hi => by exfalso; omega) (by decide) (fun j hj => by exfalso; omega) (fun j hj => by exfalso; omega) (by decide) (fun i i0 i1 => by exfalso; omega) (Or.inl rfl) (Or.inl rfl) (⟨rfl, rfl, rfl⟩) (⟨0, 0, 0, List.replicate 12 0, List.replicate 48 0, List.replicate 48 0, List.replicate 48 0, rfl, p1_c2, List.length_replicate, p1_c3, List.length_replicate, p1_c4, List.length_replicate, p1_c5, List.length_replicate, p1_c6, List.length_replicate⟩) (⟨rfl, p1_c8, List.length_replicate, p1_c9, List.length_replicate, p1_c10, List.length_replicate, p1_c11, List.length_replicate, p1_c12, List.length_replicate, p1_c13, List.length_replicate⟩) (⟨rfl, rfl, rfl⟩) (⟨0, 0, 0, 0, 0, 0, 0, rfl, rfl, rfl⟩) (⟨p1_c21, p1_c33⟩) (⟨p1_c25, p1_c29, p1_c37, p1_c41⟩) (⟨List.replicate 9 0, List.replicate 12 0, List.replicate 6 0, List.replicate 2 0, List.replicate 2 0, (fun i _ _ => by rw [p1_g]; decide), rfl, p1_c46, List.length_replicate, p1_c47, List.length_replicate, p1_c48, List.length_replicate, p1_c49, List.length_replicate, p1_c50, List.length_replicate⟩) (⟨rfl, p1_c52, List.length_replicate, p1_c53, List.length_replicate⟩) (⟨rfl, p1_c55, List.length_replicate, rfl⟩) (⟨rfl, rfl, rfl, p1_c61, List.length_replicate⟩) (⟨rfl, rfl, rfl, p1_c65, List.length_replicate⟩) (⟨0, 0, 0, 0, 0, 0, 0, 0, 0, rfl⟩) (⟨p1_c67, List.length_replicate, p1_c68, List.length_replicate, p1_c69, List.length_replicate⟩) (⟨rfl, rfl⟩) (⟨List.replicate 12 0, List.replicate 48 0, List.replicate 48 0, List.replicate 48 0, p1_c72, List.length_replicate, p1_c73, List.length_replicate, p1_c74, List.length_replicate, p1_c75, List.length_replicate, p1_c76, List.length_replicate⟩) (⟨List.replicate 5 0, List.replicate 5 0, List.replicate 12 0, List.replicate 12 0, List.replicate 201 0, List.replicate 201 0, p1_c77, List.length_replicate, p1_c78, List.length_replicate, p1_c79, List.length_replicate, p1_c80, List.length_replicate, p1_c81, List.length_replicate, p1_c82, List.length_replicate⟩) (⟨List.replicate 9 0, List.replicate 3 0, List.replicate 3 0, List.replicate 3 0, List.replicate 3 0, (fun i _ _ => by rw [p1_g]; decide), (fun i _ _ => by rw [p1_g]; decide), p1_c83, List.length_replicate, p1_c84, List.length_replicate, p1_c85, List.length_replicate, p1_c86, List.length_replicate, p1_c87, List.length_replicate⟩) (⟨p1_c88, List.length_replicate, p1_c89, List.length_replicate⟩) (⟨rfl, p1_c91, List.length_replicate⟩) (⟨p1_c92, List.length_replicate, rfl⟩) p1_hl
theorem p1_wfx : ik_wf [some (.retAddr 0), some (.ref 0), none, none] [] p1_x = true := by decide +kernel
theorem p1_xlen : p1_x.length = 66 := by decide +kernel
set_option maxHeartbeats 16000000 in
set_option maxRecDepth 100000 in
theorem lw_start (L : Nat) (hL : L ≤ 2560) (xs : Nat → Int32) : ik_W (some (L, xs)) 0 0 [some (.retAddr 0), none, none, none] [] [] 0 0 lw_post := by
  refine ik_Wk 2 (pc' := 4) (loc' := [some (.retAddr 0), none, none, none]) (st' := [.ref 0, .ref 0]) (h' := [.inr (9, ik_fs 9)]) (cl' := 1) (sl' := 8) rfl ?_
  refine ik_Wce 89 1 1 [.ref 0] [.ref 0] _ [] p1_newX rfl rfl rfl (by decide) rfl rfl rfl rfl rfl ?_
  refine ik_Wk 1 (pc' := 8) (loc' := [some (.retAddr 0), some (.ref 0), none, none]) (st' := []) (h' := p1_x) (cl' := 66) (sl' := 2616) rfl ?_
  have hnew : ik_run 1 (some (L, xs)) 0 (8, [some (.retAddr 0), some (.ref 0), none, none], [], p1_x, 66, 2616) = some (11, [some (.retAddr 0), some (.ref 0), none, none], [.ref 66], p1_x ++ [.inr (10, ik_fs 10)], 67, 2659) := by
    have h1 : ik_at 0 8 = some (.new 10) := rfl
    have h2 : ik_isR (.new 10) = false := rfl
    have h3 : ik_call 0 (.new 10) = none := rfl
    obtain ⟨q, h4⟩ : ∃ q, ik_nc 0 10 = some (10, q) := ⟨_, rfl⟩
    simp only [ik_run, h1, h2, h3, cond_false, ik_step, h4, ik_bo, p1_wfx, p1_xlen, if_true]
    rfl
  refine ik_Wk 1 hnew ?_
  refine ik_Wk 1 (pc' := 12) (loc' := [some (.retAddr 0), some (.ref 0), none, none]) (st' := [.ref 66, .ref 66]) (h' := p1_x ++ [.inr (10, ik_fs 10)]) (cl' := 67) (sl' := 2659) rfl ?_
  refine ik_Wce 126 1 1 [.ref 66] [.ref 66] _ [] p1_newM rfl rfl rfl (by decide) rfl rfl rfl rfl rfl ?_
  refine ik_Wk 3 (pc' := 18) (loc' := lw_LOC 0) (st' := []) (h' := p1_h) (cl' := 94) (sl' := 4156) rfl ?_
  exact lw_loop hL 2561 0 (by decide) (by decide) (by rw [show (0 : Int32).toInt = 0 from rfl]; omega) p1_E (by decide)
end
