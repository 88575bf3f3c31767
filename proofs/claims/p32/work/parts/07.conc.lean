/-! WHAT AN ABSTRACT STATE SAYS OF THE MACHINE'S: ad: the address of a place, sd: of a thing outside, ct: the class of the array at a place -/
def ik_v (ad : Nat → Nat) (sd : Nat → Option Nat) (v : Value) : Value := match v with
  | .ref k => .ref (ad k)
  | .retAddr k => va_rf (sd k)
  | w => w
def ik_I (v : Value) : Int32 := match v with
  | .int x => x
  | _ => 0
def ik_Lg (v : Value) : Int64 := match v with
  | .long x => x
  | _ => 0
def ik_Rf (ad : Nat → Nat) (v : Value) : Option Nat := match v with
  | .ref k => some (ad k)
  | _ => none
def ik_a (ad : Nat → Nat) (ty : FieldType) (vs : List Value) : vp_A := (vs.length, match ty with
  | .long => .inr (.inl (fun j => ik_Lg (vs.getD j .null)))
  | .object _ => .inr (.inr (.inr (.inr (fun j => ik_Rf ad (vs.getD j .null)))))
  | _ => .inl (fun j => ik_I (vs.getD j .null)))
def ik_c (ad : Nat → Nat) (sd : Nat → Option Nat) (ct : Nat → Nat) (k : Nat) (e : ik_E) : Nat × va_E := (ad k, match e with
  | .inl (ty, vs) => .inl (ct k, ik_a ad ty vs)
  | .inr (ci, fs) => .inr (ci, fs.map (ik_v ad sd)))
def ik_w (ad : Nat → Nat) (sd : Nat → Option Nat) (ct : Nat → Nat) (h : List ik_E) : va_W := h.mapIdx (ik_c ad sd ct)
theorem ik_w_at {ad : Nat → Nat} {sd : Nat → Option Nat} {ct : Nat → Nat} {h : List ik_E} {k : Nat} {e : ik_E} (hk : h[k]? = some e) : (ik_w ad sd ct h)[k]? = some (ik_c ad sd ct k e) := by
  simp [ik_w, hk]
theorem ik_w_set {ad : Nat → Nat} {sd : Nat → Option Nat} {ct : Nat → Nat} {h : List ik_E} {k : Nat} {e : ik_E} : (ik_w ad sd ct h).set k (ik_c ad sd ct k e) = ik_w ad sd ct (h.set k e) := by
  apply List.ext_getElem?
  intro j
  by_cases hj : j = k
  · subst hj
    by_cases hl : j < h.length
    · simp [ik_w, hl]
    · simp [ik_w, hl]
  · simp [ik_w, List.getElem?_set_ne (Ne.symm hj), List.getElem?_set_ne (Ne.symm hj)]
theorem ik_w_push {ad : Nat → Nat} {sd : Nat → Option Nat} {ct : Nat → Nat} {h : List ik_E} {e : ik_E} : ik_w ad sd ct (h ++ [e]) = ik_w ad sd ct h ++ [ik_c ad sd ct h.length e] := by
  simp [ik_w]
theorem ik_v_cat (ad : Nat → Nat) (sd : Nat → Option Nat) (v : Value) : (ik_v ad sd v).category = v.category := by
  cases v with
  | retAddr k =>
    show (va_rf (sd k)).category = 1
    cases sd k <;> rfl
  | _ => rfl
/-- locals -/
def ik_pr (ad : Nat → Nat) (sd : Nat → Option Nat) (loc : ik_L) : List (Nat × Value) := (List.range loc.length).filterMap fun i => match loc[i]? with
  | some (some v) => some (i, ik_v ad sd v)
  | _ => none
theorem ik_pr_mem {ad : Nat → Nat} {sd : Nat → Option Nat} {loc : ik_L} {i : Nat} {w : Value} : (i, w) ∈ ik_pr ad sd loc ↔ ∃ v, loc[i]? = some (some v) ∧ w = ik_v ad sd v := by
  unfold ik_pr
  constructor
  · intro h
    obtain ⟨j, hj, hm⟩ := List.mem_filterMap.mp h
    split at hm
    · rename_i v hv
      cases hm
      exact ⟨v, hv, rfl⟩
    · cases hm
  · rintro ⟨v, hv, rfl⟩
    refine List.mem_filterMap.mpr ⟨i, List.mem_range.mpr (List.getElem?_eq_some_iff.mp hv).1, ?_⟩
    rw [hv]
def ik_lh (ad : Nat → Nat) (sd : Nat → Option Nat) (ls : Array Slot) (nL : Nat) (loc : ik_L) : Prop := lv_has ls nL (ik_pr ad sd loc)
theorem ik_lh.get {ad : Nat → Nat} {sd : Nat → Option Nat} {ls : Array Slot} {nL : Nat} {loc : ik_L} (h : ik_lh ad sd ls nL loc) {i : Nat} {v : Value} (hv : loc[i]? = some (some v)) : ls[i]? = some (.val (ik_v ad sd v)) :=
  h.2.2 (i, ik_v ad sd v) (ik_pr_mem.mpr ⟨v, hv, rfl⟩)
theorem ik_put_get {loc : ik_L} {i j : Nat} {v w : Value} (h : (ik_put loc i v)[j]? = some (some w)) : (j = i ∧ w = v) ∨ (j ≠ i ∧ loc[j]? = some (some w) ∧ ¬ (j + 1 = i ∧ w.category = 2) ∧ (v.category = 2 → j ≠ i + 1)) := by
  unfold ik_put at h
  have key : ∀ l1 : ik_L, (∀ j w, l1[j]? = some (some w) → loc[j]? = some (some w) ∧ ¬ (j + 1 = i ∧ w.category = 2)) → (let l2 := l1.set i (some v); if v.category = 2 then l2.set (i + 1) none else l2)[j]? = some (some w) → (j = i ∧ w = v) ∨ (j ≠ i ∧ loc[j]? = some (some w) ∧ ¬ (j + 1 = i ∧ w.category = 2) ∧ (v.category = 2 → j ≠ i + 1)) := by
    intro l1 h1 h2
    have h3 : ∀ j w, (l1.set i (some v))[j]? = some (some w) → (j = i ∧ w = v) ∨ (j ≠ i ∧ loc[j]? = some (some w) ∧ ¬ (j + 1 = i ∧ w.category = 2)) := by
      intro j w hj
      rw [List.getElem?_set] at hj
      split at hj
      · rename_i e
        split at hj
        · cases hj
          exact Or.inl ⟨e.symm, rfl⟩
        · cases hj
      · rename_i e
        exact Or.inr ⟨fun q => e q.symm, h1 j w hj⟩
    dsimp only at h2
    split at h2
    · rename_i hc
      rw [List.getElem?_set] at h2
      split at h2
      · split at h2 <;> cases h2
      · rename_i e
        rcases h3 j w h2 with q | ⟨q1, q2, q3⟩
        · exact Or.inl q
        · exact Or.inr ⟨q1, q2, q3, fun _ q => e q.symm⟩
    · rename_i hc
      rcases h3 j w h2 with q | ⟨q1, q2, q3⟩
      · exact Or.inl q
      · exact Or.inr ⟨q1, q2, q3, fun q => absurd q hc⟩
  refine key _ ?_ h
  intro j w hj
  cases i with
  | zero => exact ⟨hj, fun q => by omega⟩
  | succ i =>
    dsimp only at hj
    split at hj
    · rename_i u hu
      split at hj
      · rw [List.getElem?_set] at hj
        split at hj
        · split at hj <;> cases hj
        · rename_i e
          exact ⟨hj, fun q => e (by omega)⟩
      · rename_i hc
        refine ⟨hj, fun q => hc ?_⟩
        obtain ⟨q1, q2⟩ := q
        have : j = i := by omega
        subst this
        rw [hu] at hj
        cases hj
        exact q2
    · rename_i hn
      refine ⟨hj, fun q => ?_⟩
      have : j = i := by omega
      subst this
      exact hn w hj
theorem ik_lh.put1 {ad : Nat → Nat} {sd : Nat → Option Nat} {ls' : Array Slot} {nL : Nat} {loc : ik_L} {i : Nat} {v : Value} (hv : v.category = 1) (h : lv_has ls' nL ((i, ik_v ad sd v) :: (ik_pr ad sd loc).filter (fun q => !(q.1 == i) && !(q.1 + 1 == i && q.2.category == 2)))) : ik_lh ad sd ls' nL (ik_put loc i v) := by
  refine ⟨h.1, h.2.1, ?_⟩
  rintro ⟨j, w⟩ hq
  obtain ⟨u, hu, rfl⟩ := ik_pr_mem.mp hq
  apply h.2.2
  rcases ik_put_get hu with ⟨rfl, rfl⟩ | ⟨q1, q2, q3, q4⟩
  · exact List.mem_cons_self
  · refine List.mem_cons_of_mem _ (List.mem_filter.mpr ⟨ik_pr_mem.mpr ⟨u, q2, rfl⟩, ?_⟩)
    simp only [Bool.and_eq_true, Bool.not_eq_true', beq_eq_false_iff_ne, ne_eq, Bool.and_eq_false_iff, ik_v_cat]
    refine ⟨q1, ?_⟩
    by_cases e : j + 1 = i
    · exact Or.inr fun q => q3 ⟨e, q⟩
    · exact Or.inl e
theorem ik_lh.put2 {ad : Nat → Nat} {sd : Nat → Option Nat} {ls' : Array Slot} {nL : Nat} {loc : ik_L} {i : Nat} {v : Value} (hv : v.category = 2) (h : lv_has ls' nL ((i, ik_v ad sd v) :: (ik_pr ad sd loc).filter (fun q => !(q.1 == i) && (!(q.1 == i + 1) && !(q.1 + 1 == i && q.2.category == 2))))) : ik_lh ad sd ls' nL (ik_put loc i v) := by
  refine ⟨h.1, h.2.1, ?_⟩
  rintro ⟨j, w⟩ hq
  obtain ⟨u, hu, rfl⟩ := ik_pr_mem.mp hq
  apply h.2.2
  rcases ik_put_get hu with ⟨rfl, rfl⟩ | ⟨q1, q2, q3, q4⟩
  · exact List.mem_cons_self
  · refine List.mem_cons_of_mem _ (List.mem_filter.mpr ⟨ik_pr_mem.mpr ⟨u, q2, rfl⟩, ?_⟩)
    simp only [Bool.and_eq_true, Bool.not_eq_true', beq_eq_false_iff_ne, ne_eq, Bool.and_eq_false_iff, ik_v_cat]
    refine ⟨q1, q4 hv, ?_⟩
    by_cases e : j + 1 = i
    · exact Or.inr fun q => q3 ⟨e, q⟩
    · exact Or.inl e
theorem ik_getD_set {vs : List Value} {i : Nat} {x : Value} (hi : i < vs.length) (j : Nat) : (vs.set i x).getD j .null = if j = i then x else vs.getD j .null := by
  rw [List.getD_eq_getElem?_getD, List.getD_eq_getElem?_getD, List.getElem?_set]
  by_cases h : i = j
  · subst h
    simp [hi]
  · rw [if_neg h, if_neg (fun q => h q.symm)]
theorem ik_upI {vs : List Value} {i : Nat} {x : Int32} (hi : i < vs.length) : upd (fun j => ik_I (vs.getD j .null)) i x = fun j => ik_I ((vs.set i (.int x)).getD j .null) := by
  funext j
  rw [ik_getD_set hi]
  unfold upd
  by_cases h : j = i
  · rw [if_pos h, if_pos h]; rfl
  · rw [if_neg h, if_neg h]
theorem ik_upL {vs : List Value} {i : Nat} {x : Int64} (hi : i < vs.length) : vp_updL (fun j => ik_Lg (vs.getD j .null)) i x = fun j => ik_Lg ((vs.set i (.long x)).getD j .null) := by
  funext j
  rw [ik_getD_set hi]
  unfold vp_updL
  by_cases h : j = i
  · rw [if_pos h, if_pos h]; rfl
  · rw [if_neg h, if_neg h]
theorem ik_upR {ad : Nat → Nat} {vs : List Value} {i v : Nat} (hi : i < vs.length) : va_up (fun j => ik_Rf ad (vs.getD j .null)) i (some (ad v)) = fun j => ik_Rf ad ((vs.set i (.ref v)).getD j .null) := by
  funext j
  rw [ik_getD_set hi]
  unfold va_up
  by_cases h : j = i
  · rw [if_pos h, if_pos h]; rfl
  · rw [if_neg h, if_neg h]
/-- a new place: nothing that is there refers to it -/
theorem ik_v_up {ad : Nat → Nat} {sd : Nat → Option Nat} {n q : Nat} {v : Value} (h : ik_wv n v = true) : ik_v (va_up ad n q) sd v = ik_v ad sd v := by
  cases v with
  | ref k =>
    have hk : k < n := by simpa [ik_wv] using h
    simp [ik_v, va_up, Nat.ne_of_lt hk]
  | _ => rfl
theorem ik_map_up {ad : Nat → Nat} {sd : Nat → Option Nat} {n q : Nat} {l : List Value} (h : l.all (ik_wv n) = true) : l.map (ik_v (va_up ad n q) sd) = l.map (ik_v ad sd) :=
  List.map_congr_left fun v hv => ik_v_up (List.all_eq_true.mp h v hv)
theorem ik_a_up {ad : Nat → Nat} {n q : Nat} {ty : FieldType} {vs : List Value} (h : vs.all (ik_wv n) = true) : ik_a (va_up ad n q) ty vs = ik_a ad ty vs := by
  have key : ∀ j, ik_Rf (va_up ad n q) (vs.getD j .null) = ik_Rf ad (vs.getD j .null) := by
    intro j
    rw [List.getD_eq_getElem?_getD]
    cases hj : vs[j]? with
    | none => rfl
    | some v =>
      have hv := List.all_eq_true.mp h v (List.mem_of_getElem? hj)
      cases v with
      | ref k =>
        have hk : k < n := by simpa [ik_wv] using hv
        simp [ik_Rf, va_up, Nat.ne_of_lt hk]
      | _ => rfl
  unfold ik_a
  cases ty <;> first | rfl | (simp only [key])
theorem ik_c_up {ad : Nat → Nat} {sd : Nat → Option Nat} {ct : Nat → Nat} {n q cA k : Nat} {e : ik_E} (hk : k < n) (h : ik_we n e = true) : ik_c (va_up ad n q) sd (va_up ct n cA) k e = ik_c ad sd ct k e := by
  unfold ik_c
  have h1 : va_up ad n q k = ad k := va_up_ne _ _ (Nat.ne_of_lt hk)
  have h2 : va_up ct n cA k = ct k := va_up_ne _ _ (Nat.ne_of_lt hk)
  rw [h1]
  cases e with
  | inl x => simp only [h2]; rw [ik_a_up h]
  | inr x => simp only; rw [ik_map_up h]
theorem ik_w_up {ad : Nat → Nat} {sd : Nat → Option Nat} {ct : Nat → Nat} {q cA : Nat} {h : List ik_E} (hw : h.all (ik_we h.length) = true) (e : ik_E) : ik_w (va_up ad h.length q) sd (va_up ct h.length cA) (h ++ [e]) = ik_w ad sd ct h ++ [ik_c (va_up ad h.length q) sd (va_up ct h.length cA) h.length e] := by
  rw [ik_w_push]
  congr 1
  apply List.ext_getElem?
  intro j
  cases hj : h[j]? with
  | none => simp [ik_w, hj]
  | some x =>
    have hl : j < h.length := (List.getElem?_eq_some_iff.mp hj).1
    rw [ik_w_at hj, ik_w_at hj, ik_c_up hl (List.all_eq_true.mp hw x (List.mem_of_getElem? hj))]
theorem ik_pr_up {ad : Nat → Nat} {sd : Nat → Option Nat} {n q : Nat} {loc : ik_L} (h : loc.all (ik_wl n) = true) : ik_pr (va_up ad n q) sd loc = ik_pr ad sd loc := by
  unfold ik_pr
  congr 1
  funext i
  cases hi : loc[i]? with
  | none => rfl
  | some o =>
    cases o with
    | none => rfl
    | some v =>
      have hv := List.all_eq_true.mp h (some v) (List.mem_of_getElem? hi)
      simp only [ik_v_up (show ik_wv n v = true from hv)]
