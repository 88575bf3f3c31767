/-! feed's two loops -/
theorem ik_Wh {X : Option (Nat × (Nat → Int32))} {mid pc : Nat} {loc : ik_L} {st : List Value} {h h' : List ik_E} {cl sl : Nat} {post : ik_St → Prop} (e : h = h') (k : ik_W X mid pc loc st h' cl sl post) : ik_W X mid pc loc st h cl sl post := e ▸ k
theorem ik_set4 {h : List ik_E} {i j : Nat} (hij : i ≠ j) (a b a' b' : ik_E) : (((h.set i a).set j b).set i a').set j b' = (h.set i a').set j b' := by
  apply List.ext_getElem?
  intro k
  simp only [List.getElem?_set, List.length_set]
  by_cases h1 : j = k
  · simp [h1]
  · by_cases h2 : i = k
    · simp [h1, h2]
    · simp [h1, h2]
theorem ik_set0 {h : List ik_E} {i j : Nat} {a b : ik_E} (hij : i ≠ j) (ha : h[i]? = some a) (hb : h[j]? = some b) : h = (h.set i a).set j b := by
  apply List.ext_getElem?
  intro k
  simp only [List.getElem?_set, List.length_set]
  by_cases h1 : j = k
  · subst h1
    rw [if_pos rfl, if_pos (List.getElem?_eq_some_iff.mp hb).1]
    exact hb
  · by_cases h2 : i = k
    · subst h2
      rw [if_neg h1, if_pos rfl, if_pos (List.getElem?_eq_some_iff.mp ha).1]
      exact ha
    · rw [if_neg h1, if_neg h2]
def p1_hA (vs : List Value) (L : Int32) : List ik_E := (p1_h.set 2 (.inl (.byte, vs))).set 1 (.inr (6, [.ref 2, .int L, .int 0, .int 0, .int (-1), .int 0, .ref 3, .ref 4, .ref 5, .ref 6]))
theorem p1_hA0 : p1_h = p1_hA (List.replicate 500 (.int 0)) (nI 0) := ik_set0 (by decide) rfl rfl
def p1_hM (ws : List Value) (n : Int32) (vs : List Value) (L : Int32) : List ik_E := ((p1_hA ws n).set 72 (.inl (.int, vs))).set 66 (.inr (10, [.int 0, .ref 67, .ref 68, .ref 69, .int 0, .ref 70, .ref 71, .int 0, .int 0, .ref 72, .int L, .int (-1), .int 0, .long 0, .int 0, .int 0, .int 0, .int 0, .ref 73, .ref 74, .ref 75, .ref 76, .ref 77, .ref 78, .int 0, .ref 79, .ref 80, .ref 81, .ref 82, .ref 83, .ref 84, .ref 85, .long 0, .long 0, .ref 86, .ref 87, .int 0, .ref 88, .ref 89, .ref 90, .ref 91, .ref 92, .ref 93]))
theorem p1_hM0 (ws : List Value) (n : Int32) : p1_hA ws n = p1_hM ws n (List.replicate 500 (.int 0)) (nI 0) := ik_set0 (by decide) rfl rfl
theorem p1_m1 (j : Nat) : nI j + Int32.ofInt (-1) = nI j - 1 := by
  rw [Int32.sub_eq_add_neg]
  rfl
set_option maxHeartbeats 16000000 in
set_option maxRecDepth 100000 in
theorem p1_apl (n : Int32) (w : Int64) (post : ik_St → Prop) : ∀ (j L : Nat) (vs : List Value), vs.length = 500 → L + j ≤ 8 → (∀ vs' : List Value, vs'.length = 500 → ik_W none 24 44 [some (.ref 1), some (.int n), some (.long w), none, some (.int (-1))] [] (p1_hA vs' (nI (L + j))) 0 0 post) → ik_W none 24 5 [some (.ref 1), some (.int n), some (.long w), none, some (.int (nI j - 1))] [] (p1_hA vs (nI L)) 0 0 post := by
  intro j
  induction j with
  | zero =>
    intro L vs hv _ k
    rw [show nI 0 - 1 = -1 by decide]
    refine ik_Wk 2 (pc' := 44) (loc' := [some (.ref 1), some (.int n), some (.long w), none, some (.int (-1))]) (st' := []) (h' := p1_hA vs (nI L)) (cl' := 0) (sl' := 0) rfl ?_
    exact k vs hv
  | succ j ih =>
    intro L vs hv hb k
    rw [nI_pred j]
    refine ik_Wif 2 (c := nI j < 0) 44 10 (loc' := [some (.ref 1), some (.int n), some (.long w), none, some (.int (nI j))]) (st' := []) (h' := p1_hA vs (nI L)) (cl' := 0) (sl' := 0) rfl (fun hc => absurd hc (nI_pos (by omega))) (fun _ => ?_)
    refine ik_Wk 11 (pc' := 27) (loc' := [some (.ref 1), some (.int n), some (.long w), none, some (.int (nI j))]) (st' := [.int _, .int (nI L), .ref 2]) (h' := p1_hA vs (nI L)) (cl' := 0) (sl' := 0) rfl ?_
    refine ik_WbG vs rfl rfl (nI_pos (by omega)) (by rw [nI_clamp (by omega), hv]; omega) (fun vs' hv' => ?_)
    refine ik_Wk 8 (pc' := 5) (loc' := [some (.ref 1), some (.int n), some (.long w), none, some (.int (nI j + Int32.ofInt (-1)))]) (st' := []) (h' := ((p1_hA vs (nI L)).set 2 (.inl (.byte, vs'))).set 1 (.inr (6, [.ref 2, .int (nI L + 1), .int 0, .int 0, .int (-1), .int 0, .ref 3, .ref 4, .ref 5, .ref 6]))) (cl' := 0) (sl' := 0) rfl ?_
    rw [p1_m1, nI_1]
    refine ik_Wh (h' := p1_hA vs' (nI (L + 1))) (ik_set4 (by decide) _ _ _ _) ?_
    exact ih (L + 1) vs' (hv'.trans hv) (by omega) (fun vs2 hv2 => by rw [show L + 1 + j = L + (j + 1) by omega]; exact k vs2 hv2)
set_option maxHeartbeats 16000000 in
set_option maxRecDepth 100000 in
theorem p1_fdl (us : List Value) (u n : Int32) (w : Int64) (post : ik_St → Prop) : ∀ (j L : Nat) (vs : List Value), vs.length = 500 → L + j ≤ 8 → (∀ vs' : List Value, vs'.length = 500 → ik_W none 78 77 [some (.ref 66), some (.int n), some (.long w), none, some (.int (-1))] [] (p1_hM us u vs' (nI (L + j))) 0 0 post) → ik_W none 78 35 [some (.ref 66), some (.int n), some (.long w), none, some (.int (nI j - 1))] [] (p1_hM us u vs (nI L)) 0 0 post := by
  intro j
  induction j with
  | zero =>
    intro L vs hv _ k
    rw [show nI 0 - 1 = -1 by decide]
    refine ik_Wk 2 (pc' := 77) (loc' := [some (.ref 66), some (.int n), some (.long w), none, some (.int (-1))]) (st' := []) (h' := p1_hM us u vs (nI L)) (cl' := 0) (sl' := 0) rfl ?_
    exact k vs hv
  | succ j ih =>
    intro L vs hv hb k
    rw [nI_pred j]
    refine ik_Wif 2 (c := nI j < 0) 77 40 (loc' := [some (.ref 66), some (.int n), some (.long w), none, some (.int (nI j))]) (st' := []) (h' := p1_hM us u vs (nI L)) (cl' := 0) (sl' := 0) rfl (fun hc => absurd hc (nI_pos (by omega))) (fun _ => ?_)
    refine ik_Wk 12 (pc' := 60) (loc' := [some (.ref 66), some (.int n), some (.long w), none, some (.int (nI j))]) (st' := [.int _, .int (nI L), .ref 72]) (h' := p1_hM us u vs (nI L)) (cl' := 0) (sl' := 0) rfl ?_
    refine ik_WiG vs rfl rfl (nI_pos (by omega)) (by rw [nI_clamp (by omega), hv]; omega) (fun vs' hv' => ?_)
    refine ik_Wk 8 (pc' := 35) (loc' := [some (.ref 66), some (.int n), some (.long w), none, some (.int (nI j + Int32.ofInt (-1)))]) (st' := []) (h' := ((p1_hM us u vs (nI L)).set 72 (.inl (.int, vs'))).set 66 (.inr (10, [.int 0, .ref 67, .ref 68, .ref 69, .int 0, .ref 70, .ref 71, .int 0, .int 0, .ref 72, .int (nI L + 1), .int (-1), .int 0, .long 0, .int 0, .int 0, .int 0, .int 0, .ref 73, .ref 74, .ref 75, .ref 76, .ref 77, .ref 78, .int 0, .ref 79, .ref 80, .ref 81, .ref 82, .ref 83, .ref 84, .ref 85, .long 0, .long 0, .ref 86, .ref 87, .int 0, .ref 88, .ref 89, .ref 90, .ref 91, .ref 92, .ref 93]))) (cl' := 0) (sl' := 0) rfl ?_
    rw [p1_m1, nI_1]
    refine ik_Wh (h' := p1_hM us u vs' (nI (L + 1))) (ik_set4 (by decide) _ _ _ _) ?_
    exact ih (L + 1) vs' (hv'.trans hv) (by omega) (fun vs2 hv2 => by rw [show L + 1 + j = L + (j + 1) by omega]; exact k vs2 hv2)
