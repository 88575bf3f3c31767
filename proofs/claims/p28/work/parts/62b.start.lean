noncomputable section
/-! the two new objects, class at place 0, reference at place 66; the law from its entry -/
def ik_eE (a b : ik_E) : Bool := match a, b with
  | .inl x, .inl y => decide (x.1 = y.1) && decide (x.2 = y.2)
  | .inr x, .inr y => decide (x.1 = y.1) && decide (x.2 = y.2)
  | _, _ => false
theorem ik_eE_ok {a b : ik_E} (h : ik_eE a b = true) : a = b := by
  unfold ik_eE at h
  split at h
  · simp only [Bool.and_eq_true, decide_eq_true_eq] at h
    rename_i x y
    rw [show x = y from Prod.ext h.1 h.2]
  · simp only [Bool.and_eq_true, decide_eq_true_eq] at h
    rename_i x y
    rw [show x = y from Prod.ext h.1 h.2]
  · cases h
def ik_eH : List ik_E → List ik_E → Bool
  | [], [] => true
  | a :: r, b :: t => ik_eE a b && ik_eH r t
  | _, _ => false
theorem ik_eH_ok : ∀ {a b : List ik_E}, ik_eH a b = true → a = b
  | [], [], _ => rfl
  | a :: r, b :: t, h => by
    unfold ik_eH at h
    simp only [Bool.and_eq_true] at h
    rw [ik_eE_ok h.1, ik_eH_ok h.2]
  | [], _ :: _, h => by cases h
  | _ :: _, [], h => by cases h
/-- a run ends there: a check that a program decides -/
def ik_eZ (z : Option ik_St) (w : ik_St) : Bool := match z with
  | none => false
  | some z => decide (z.1 = w.1) && decide (z.2.1 = w.2.1) && decide (z.2.2.1 = w.2.2.1) && ik_eH z.2.2.2.1 w.2.2.2.1 && decide (z.2.2.2.2 = w.2.2.2.2)
theorem ik_eZ_ok {z : Option ik_St} {w : ik_St} (h : ik_eZ z w = true) : z = some w := by
  unfold ik_eZ at h
  split at h
  · cases h
  · rename_i z
    simp only [Bool.and_eq_true, decide_eq_true_eq] at h
    obtain ⟨⟨⟨⟨h1, h2⟩, h3⟩, h4⟩, h5⟩ := h
    congr 1
    exact Prod.ext h1 (Prod.ext h2 (Prod.ext h3 (Prod.ext (ik_eH_ok h4) h5)))
def p1_x : List ik_E := [.inr (9, [.ref 1, .ref 7, .ref 14, .ref 17, .ref 45, .ref 51, .ref 54, .ref 57]),
  .inr (6, [.ref 2, .int 0, .int 0, .int 0, .int (-1), .int 0, .ref 3, .ref 4, .ref 5, .ref 6]),
  .inl (.byte, List.replicate 500 (.int 0)),
  .inl (.int, List.replicate 12 (.int 0)),
  .inl (.int, List.replicate 48 (.int 0)),
  .inl (.int, List.replicate 48 (.int 0)),
  .inl (.int, List.replicate 48 (.int 0)),
  .inr (0, [.int 0, .int 0, .int 0, .ref 8, .ref 9, .ref 10, .ref 11, .ref 12, .ref 13]),
  .inl (.int, List.replicate 12 (.int 0)),
  .inl (.int, List.replicate 48 (.int 0)),
  .inl (.int, List.replicate 48 (.int 0)),
  .inl (.int, List.replicate 60 (.int 0)),
  .inl (.int, List.replicate 60 (.int 0)),
  .inl (.int, List.replicate 12 (.int 0)),
  .inr (1, [.ref 7, .ref 15, .ref 16, .int 0, .long 0]),
  .inl (.int, List.replicate 6 (.int 0)),
  .inl (.int, List.replicate 2 (.int 0)),
  .inr (8, [.ref 7, .ref 15, .ref 18, .ref 19, .long 0, .ref 20]),
  .inl ((.object "SlowerCork$Course"), [.ref 21, .ref 25, .ref 29, .ref 33, .ref 37, .ref 41]),
  .inl (.long, List.replicate 2 (.long 0)),
  .inl (.int, List.replicate 4 (.int 0)),
  .inr (2, [.ref 7, .int 0, .int 0, .ref 22, .ref 23, .ref 24]),
  .inl (.int, List.replicate 201 (.int 0)),
  .inl (.long, List.replicate 12 (.long 0)),
  .inl (.long, List.replicate 12 (.long 0)),
  .inr (2, [.ref 7, .int 0, .int 0, .ref 26, .ref 27, .ref 28]),
  .inl (.int, List.replicate 201 (.int 0)),
  .inl (.long, List.replicate 12 (.long 0)),
  .inl (.long, List.replicate 12 (.long 0)),
  .inr (2, [.ref 7, .int 0, .int 0, .ref 30, .ref 31, .ref 32]),
  .inl (.int, List.replicate 201 (.int 0)),
  .inl (.long, List.replicate 12 (.long 0)),
  .inl (.long, List.replicate 12 (.long 0)),
  .inr (2, [.ref 7, .int 0, .int 0, .ref 34, .ref 35, .ref 36]),
  .inl (.int, List.replicate 201 (.int 0)),
  .inl (.long, List.replicate 12 (.long 0)),
  .inl (.long, List.replicate 12 (.long 0)),
  .inr (2, [.ref 7, .int 0, .int 0, .ref 38, .ref 39, .ref 40]),
  .inl (.int, List.replicate 201 (.int 0)),
  .inl (.long, List.replicate 12 (.long 0)),
  .inl (.long, List.replicate 12 (.long 0)),
  .inr (2, [.ref 7, .int 0, .int 0, .ref 42, .ref 43, .ref 44]),
  .inl (.int, List.replicate 201 (.int 0)),
  .inl (.long, List.replicate 12 (.long 0)),
  .inl (.long, List.replicate 12 (.long 0)),
  .inr (5, [.ref 46, .ref 47, .ref 48, .ref 49, .ref 50]),
  .inl (.int, List.replicate 9 (.int 0)),
  .inl (.long, List.replicate 12 (.long 0)),
  .inl (.long, List.replicate 6 (.long 0)),
  .inl (.long, List.replicate 2 (.long 0)),
  .inl (.long, List.replicate 2 (.long 0)),
  .inr (7, [.ref 7, .int 0, .ref 52, .ref 53]),
  .inl (.int, List.replicate 12 (.int 0)),
  .inl (.int, List.replicate 12 (.int 0)),
  .inr (4, [.ref 55, .ref 56]),
  .inl (.int, List.replicate 80 (.int 0)),
  .inl (.int, List.replicate 2 (.int 0)),
  .inl ((.object "SlowerCork$Image"), [.ref 58, .ref 62]),
  .inr (3, [.int 0, .ref 59, .ref 60, .int 0, .long 0, .int 0, .ref 61]),
  .inl (.int, List.replicate 6 (.int 0)),
  .inl (.int, List.replicate 2 (.int 0)),
  .inl (.int, List.replicate 48 (.int 0)),
  .inr (3, [.int 0, .ref 63, .ref 64, .int 0, .long 0, .int 0, .ref 65]),
  .inl (.int, List.replicate 6 (.int 0)),
  .inl (.int, List.replicate 2 (.int 0)),
  .inl (.int, List.replicate 48 (.int 0))]
def p1_m : List ik_E := [.inr (10, [.int 0, .ref 67, .ref 68, .ref 69, .int 0, .ref 70, .ref 71, .int 0, .int 0, .ref 72, .int 0, .int (-1), .int 0, .long 0, .int 0, .int 0, .int 0, .int 0, .ref 73, .ref 74, .ref 75, .ref 76, .ref 77, .ref 78, .int 0, .ref 79, .ref 80, .ref 81, .ref 82, .ref 83, .ref 84, .ref 85, .long 0, .long 0, .ref 86, .ref 87, .int 0, .ref 88, .ref 89, .ref 90, .ref 91, .ref 92, .ref 93]),
  .inl (.int, List.replicate 12 (.int 0)),
  .inl (.int, List.replicate 48 (.int 0)),
  .inl (.int, List.replicate 48 (.int 0)),
  .inl (.int, List.replicate 6 (.int 0)),
  .inl (.int, List.replicate 2 (.int 0)),
  .inl (.int, List.replicate 500 (.int 0)),
  .inl (.int, List.replicate 12 (.int 0)),
  .inl (.int, List.replicate 48 (.int 0)),
  .inl (.int, List.replicate 48 (.int 0)),
  .inl (.int, List.replicate 48 (.int 0)),
  .inl (.int, List.replicate 5 (.int 0)),
  .inl (.int, List.replicate 5 (.int 0)),
  .inl (.long, List.replicate 12 (.long 0)),
  .inl (.long, List.replicate 12 (.long 0)),
  .inl (.long, List.replicate 201 (.long 0)),
  .inl (.long, List.replicate 201 (.long 0)),
  .inl (.long, List.replicate 9 (.long 0)),
  .inl (.long, List.replicate 3 (.long 0)),
  .inl (.long, List.replicate 3 (.long 0)),
  .inl (.int, List.replicate 3 (.int 0)),
  .inl (.int, List.replicate 3 (.int 0)),
  .inl (.int, List.replicate 12 (.int 0)),
  .inl (.int, List.replicate 12 (.int 0)),
  .inl (.int, List.replicate 2 (.int 0)),
  .inl (.int, List.replicate 80 (.int 0)),
  .inl (.int, List.replicate 160 (.int 0)),
  .inl (.boolean, List.replicate 2 (.int 0))]
def p1_h : List ik_E := p1_x ++ p1_m
set_option maxRecDepth 100000 in
theorem p1_newX : ik_ex none 700 89 0 (ik_loc (ik_ml 89) [.ref 0]) [] [.inr (9, ik_fs 9)] 0 0 = some (128, [some (.ref 0)], [], p1_x, 65, 2608) := ik_eZ_ok (by decide +kernel)
set_option maxRecDepth 100000 in
theorem p1_newM : ik_ex none 700 126 0 (ik_loc (ik_ml 126) [.ref 66]) [] (p1_x ++ [.inr (10, ik_fs 10)]) 0 0 = some (224, [some (.ref 66)], [], p1_h, 27, 1497) := ik_eZ_ok (by decide +kernel)
/-! a heap is as a state says: decided -/
def sx_vk (a : sx_V) (v : Value) : Bool := match a, v with
  | .inr (.inr (.inl ks)), .ref k => ks.contains k
  | .inr (.inr (.inr (.inr (.inl p)))), .int x => decide (p.1 ≤ x.toInt) && decide (x.toInt ≤ p.2)
  | .inr (.inr (.inr (.inr (.inr (.inl p))))), .long x => decide (p.1 ≤ x.toInt) && decide (x.toInt ≤ p.2)
  | _, _ => false
theorem sx_vk_ok {a : sx_V} {v : Value} (h : sx_vk a v = true) : sx_vr [] a v := by
  unfold sx_vk at h
  split at h
  · rename_i ks k
    exact ⟨k, List.contains_iff_mem.mp h, rfl⟩
  · rename_i p x
    obtain ⟨h1, h2⟩ := Bool.and_eq_true_iff.mp h
    exact ⟨x, rfl, of_decide_eq_true h1, of_decide_eq_true h2⟩
  · rename_i p x
    obtain ⟨h1, h2⟩ := Bool.and_eq_true_iff.mp h
    exact ⟨x, rfl, of_decide_eq_true h1, of_decide_eq_true h2⟩
  · cases h
def sx_vks : List sx_V → List Value → Bool
  | [], [] => true
  | a :: r, v :: s => sx_vk a v && sx_vks r s
  | _, _ => false
theorem sx_vks_ok : ∀ {as : List sx_V} {vs : List Value}, sx_vks as vs = true → sx_sr [] as vs
  | [], [], _ => trivial
  | a :: r, v :: s, h => by
    simp only [sx_vks] at h
    obtain ⟨h1, h2⟩ := Bool.and_eq_true_iff.mp h
    exact ⟨sx_vk_ok h1, sx_vks_ok h2⟩
  | [], _ :: _, h => by cases h
  | _ :: _, [], h => by cases h
def sx_ek (c : sx_C) (d : ik_E) : Bool := match c, d with
  | .inl (ci, as), .inr (cj, fs) => Nat.beq ci cj && sx_vks as fs
  | .inr (.inl (t, as)), .inl (ty, vs) => decide (ty = sx_ty t) && sx_vks as vs
  | .inr (.inr (t, n, l, u)), .inl (ty, vs) => decide (ty = sx_ty t) && Nat.beq vs.length n && vs.all (sx_vk (sx_bv t l u))
  | _, _ => false
theorem sx_ek_ok {c : sx_C} {d : ik_E} (h : sx_ek c d = true) : sx_cr [] c d := by
  unfold sx_ek at h
  split at h
  · obtain ⟨h1, h2⟩ := Bool.and_eq_true_iff.mp h
    rw [Nat.eq_of_beq_eq_true h1]
    exact ⟨_, rfl, sx_vks_ok h2⟩
  · obtain ⟨h1, h2⟩ := Bool.and_eq_true_iff.mp h
    rw [of_decide_eq_true h1]
    exact ⟨_, rfl, sx_vks_ok h2⟩
  · obtain ⟨h1, h3⟩ := Bool.and_eq_true_iff.mp h
    obtain ⟨h1, h2⟩ := Bool.and_eq_true_iff.mp h1
    rw [of_decide_eq_true h1]
    exact ⟨_, rfl, Nat.eq_of_beq_eq_true h2, fun v hv => sx_vk_ok (List.all_eq_true.mp h3 v hv)⟩
  · cases h
def sx_hkl : List (Option sx_C) → List ik_E → Bool
  | [], _ => true
  | none :: r, _ :: s => sx_hkl r s
  | some c :: r, d :: s => sx_ek c d && sx_hkl r s
  | _, _ => false
theorem sx_hkl_ok : ∀ {H : List (Option sx_C)} {h : List ik_E} {a : Nat} {c : sx_C}, sx_hkl H h = true → H[a]? = some (some c) → ∃ d, h[a]? = some d ∧ sx_cr [] c d
  | [], _, _, _, _, h => by simp at h
  | none :: r, _ :: s, 0, c, _, h => by simp at h
  | none :: r, _ :: s, a + 1, c, hk, h => by
    simp only [List.getElem?_cons_succ] at h ⊢
    exact sx_hkl_ok (H := r) hk h
  | some e :: r, d :: s, 0, c, hk, h => by
    simp only [List.getElem?_cons_zero, Option.some.injEq] at h
    subst h
    exact ⟨d, rfl, sx_ek_ok (Bool.and_eq_true_iff.mp hk).1⟩
  | some e :: r, d :: s, a + 1, c, hk, h => by
    simp only [List.getElem?_cons_succ] at h ⊢
    exact sx_hkl_ok (Bool.and_eq_true_iff.mp hk).2 h
  | none :: _, [], _, _, hk, _ => by cases hk
  | some _ :: _, [], _, _, hk, _ => by cases hk
def sx_hk (H : sx_H) (h : List ik_E) : Bool := Nat.ble (66 + H.2.length) h.length && Nat.ble H.1.length 66 && sx_hkl H.1 h && sx_hkl H.2 (h.drop 66)
theorem sx_hk_ok {H : sx_H} {h : List ik_E} (hk : sx_hk H h = true) : sx_hr [] H h := by
  unfold sx_hk at hk
  obtain ⟨hk, k4⟩ := Bool.and_eq_true_iff.mp hk
  obtain ⟨hk, k3⟩ := Bool.and_eq_true_iff.mp hk
  obtain ⟨k1, k2⟩ := Bool.and_eq_true_iff.mp hk
  refine ⟨Nat.ble_eq.mp k1, fun a c hc => ?_⟩
  unfold sx_hg at hc
  cases ha : Nat.blt a 66 <;> rw [ha] at hc <;> simp only [cond_true, cond_false, sx_get_eq] at hc
  · obtain ⟨d, h1, h2⟩ := sx_hkl_ok k4 hc
    rw [List.getElem?_drop, show 66 + (a - 66) = a by have := sx_bltf ha; omega] at h1
    exact ⟨d, h1, h2⟩
  · exact sx_hkl_ok k3 hc
theorem p1_hC : sx_hk cc_TB.1 p1_h = true := by decide +kernel
theorem p1_hR : sx_hk rc_TB.1 p1_h = true := by decide +kernel
theorem p1_hl : p1_h.length = 94 := by decide +kernel
theorem p1_LI : lw_LI p1_h := ⟨Or.inr ⟨sx_hk_ok p1_hC, fun x hx => (nomatch hx)⟩, ⟨Or.inr ⟨sx_hk_ok p1_hR, fun x hx => (nomatch hx)⟩, qq_B (sx_hk_ok p1_hR)⟩, p1_hl⟩
theorem p1_t (k : Nat) : fA (List.replicate k 0) = List.replicate k (.int 0) := by
  unfold fA
  rw [List.map_replicate]
  rfl
def p1_f (j : Nat) : Int := if j = 1 then -1 else 0
theorem p1_cC : ((List.range 8).all fun j => decide (sx_lk [] [] p1_h (1, (qc j).1, (qc j).2) = some (p1_f j)) && decide (sx_lk [] [] p1_h (1, (qr j).1, (qr j).2) = some (p1_f j))) = true := by decide +kernel
theorem p1_E : lw_E (fun _ => 0, p1_f) (fun _ => 0, p1_f) p1_h := ⟨p1_LI, ⟨⟨List.replicate 500 0, by rw [p1_t]; rfl, List.length_replicate, fun i a b => absurd (show i < 0 from b) (by omega)⟩, Int.le_refl 0, (by decide : (0 : Int) ≤ 500), fun j hj => of_decide_eq_true (Bool.and_eq_true_iff.mp (List.all_eq_true.mp p1_cC j (List.mem_range.mpr hj))).1⟩, ⟨⟨List.replicate 500 0, by rw [p1_t]; rfl, List.length_replicate, fun i a b => absurd (show i < 0 from b) (by omega)⟩, Int.le_refl 0, (by decide : (0 : Int) ≤ 500), fun j hj => of_decide_eq_true (Bool.and_eq_true_iff.mp (List.all_eq_true.mp p1_cC j (List.mem_range.mpr hj))).2⟩⟩
theorem p1_wfx : ik_wf [some (.retAddr 0), some (.ref 0), none, none] [] p1_x = true := by decide +kernel
theorem p1_xlen : p1_x.length = 66 := by decide +kernel
set_option maxHeartbeats 16000000 in
set_option maxRecDepth 100000 in
theorem lw_start (L : Nat) (hL : L ≤ 2560) (xs : Nat → Int32) : ik_W (some (L, xs)) 0 0 [some (.retAddr 0), none, none, none] [] [] 0 0 lw_post := by
  refine ik_Wk 2 (pc' := 4) (loc' := [some (.retAddr 0), none, none, none]) (st' := [.ref 0, .ref 0]) (h' := [.inr (9, ik_fs 9)]) (cl' := 1) (sl' := 8) rfl ?_
  refine ik_Wce 89 1 1 [.ref 0] [.ref 0] _ [] p1_newX rfl rfl rfl (by decide) rfl rfl rfl rfl rfl ?_
  refine ik_Wk 1 (pc' := 8) (loc' := [some (.retAddr 0), some (.ref 0), none, none]) (st' := []) (h' := p1_x) (cl' := 66) (sl' := 2616) rfl ?_
  have hnew : ik_run 1 (some (L, xs)) 0 (8, [some (.retAddr 0), some (.ref 0), none, none], [], p1_x, 66, 2616) = some (11, [some (.retAddr 0), some (.ref 0), none, none], [.ref 66], p1_x ++ [.inr (10, ik_fs 10)], 67, 2659) := by
    have h1 : ik_at 0 8 = some (.new 10) := rfl
    have h2 : ik_isR (.new 10) = false := rfl
    have h3 : ik_call 0 (.new 10) = none := rfl
    obtain ⟨q, h4⟩ : ∃ q, ik_nc 0 10 = some (10, q) := ⟨_, rfl⟩
    simp only [ik_run, h1, h2, h3, cond_false, ik_step, h4, ik_bo, p1_wfx, p1_xlen, if_true]
    rfl
  refine ik_Wk 1 hnew ?_
  refine ik_Wk 1 (pc' := 12) (loc' := [some (.retAddr 0), some (.ref 0), none, none]) (st' := [.ref 66, .ref 66]) (h' := p1_x ++ [.inr (10, ik_fs 10)]) (cl' := 67) (sl' := 2659) rfl ?_
  refine ik_Wce 126 1 1 [.ref 66] [.ref 66] _ [] p1_newM rfl rfl rfl (by decide) rfl rfl rfl rfl rfl ?_
  refine ik_Wk 3 (pc' := 18) (loc' := lw_LOC 0) (st' := []) (h' := p1_h) (cl' := 94) (sl' := 4156) rfl ?_
  exact lw_loop hL 2561 0 (by decide) (by decide) (by rw [show (0 : Int32).toInt = 0 from rfl]; omega) p1_E
end
