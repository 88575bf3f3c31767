noncomputable section
/-! values, cells, heaps of the symbolic executor, and what they stand for -/
/-- int, long, a reference to one of these places, a thing outside, an int in bounds, a long in bounds, the sign of an expression -/
abbrev sx_V : Type := sx_E ⊕ sx_E ⊕ List Nat ⊕ Nat ⊕ (Int × Int) ⊕ (Int × Int) ⊕ sx_E
/-- an object, an array element by element, an array by its bounds; the type as a number -/
abbrev sx_C : Type := (Nat × List sx_V) ⊕ (Nat × List sx_V) ⊕ (Nat × Nat × Int × Int)
/-- the class's cells, the reference's -/
abbrev sx_H : Type := List (Option sx_C) × List (Option sx_C)
def sx_hg (H : sx_H) (a : Nat) : Option (Option sx_C) := bif Nat.blt a 66 then sx_get H.1 a else sx_get H.2 (a - 66)
def sx_hs (H : sx_H) (a : Nat) (c : Option sx_C) : sx_H := bif Nat.blt a 66 then (sx_set H.1 c a, H.2) else (H.1, sx_set H.2 c (a - 66))
def sx_hn (H : sx_H) : Nat := 66 + H.2.length
theorem sx_bltf {a b : Nat} (h : Nat.blt a b = false) : b ≤ a := by
  have : ¬ a < b := fun q => by rw [Nat.blt_eq.mpr q] at h; cases h
  omega
theorem sx_hg_ne {H : sx_H} {a b : Nat} {x : Option sx_C} (h : a ≠ b) : sx_hg (sx_hs H a x) b = sx_hg H b := by
  unfold sx_hg sx_hs
  cases ha : Nat.blt a 66 <;> cases hb : Nat.blt b 66 <;> simp only [cond_true, cond_false, sx_get_eq, sx_set_eq]
  · have h1 := sx_bltf ha
    have h2 := sx_bltf hb
    exact List.getElem?_set_ne (by omega)
  · exact List.getElem?_set_ne h
theorem sx_hg_self {H : sx_H} {a : Nat} {x y : Option sx_C} (h : sx_hg (sx_hs H a x) a = some y) : y = x ∧ ∃ z, sx_hg H a = some z := by
  unfold sx_hg sx_hs at h
  unfold sx_hg
  cases ha : Nat.blt a 66 <;> rw [ha] at h <;> simp only [cond_true, cond_false, sx_get_eq, sx_set_eq] at h ⊢
  · by_cases hl : a - 66 < H.2.length
    · rw [List.getElem?_set_self hl] at h
      cases h
      exact ⟨rfl, _, List.getElem?_eq_getElem hl⟩
    · rw [List.getElem?_eq_none (by rw [List.length_set]; omega)] at h
      cases h
  · by_cases hl : a < H.1.length
    · rw [List.getElem?_set_self hl] at h
      cases h
      exact ⟨rfl, _, List.getElem?_eq_getElem hl⟩
    · rw [List.getElem?_eq_none (by rw [List.length_set]; omega)] at h
      cases h
theorem sx_hg_lt {H : sx_H} {a : Nat} {z : Option sx_C} (h : sx_hg H a = some z) : a < sx_hn H := by
  unfold sx_hg at h
  unfold sx_hn
  cases ha : Nat.blt a 66 <;> rw [ha] at h <;> simp only [cond_true, cond_false, sx_get_eq] at h
  · have := (List.getElem?_eq_some_iff.mp h).1
    omega
  · have := Nat.blt_eq.mp ha
    omega
theorem sx_hn_hs {H : sx_H} {a : Nat} {x : Option sx_C} : sx_hn (sx_hs H a x) = sx_hn H := by
  unfold sx_hn sx_hs
  cases ha : Nat.blt a 66
  · rw [cond_false, sx_set_eq, List.length_set]
  · rw [cond_true]
abbrev sx_L : Type := List (Option sx_V)
abbrev sx_S : Type := sx_G × sx_L × List sx_V × sx_H
abbrev sx_vi (e : sx_E) : sx_V := .inl e
abbrev sx_vl (e : sx_E) : sx_V := .inr (.inl e)
abbrev sx_va (ks : List Nat) : sx_V := .inr (.inr (.inl ks))
abbrev sx_vo (k : Nat) : sx_V := .inr (.inr (.inr (.inl k)))
abbrev sx_ri (l u : Int) : sx_V := .inr (.inr (.inr (.inr (.inl (l, u)))))
abbrev sx_rl (l u : Int) : sx_V := .inr (.inr (.inr (.inr (.inr (.inl (l, u))))))
abbrev sx_vc (e : sx_E) : sx_V := .inr (.inr (.inr (.inr (.inr (.inr e)))))
theorem sx_ss {α : Type} : ∀ {l : List α} {k : Nat} {v : α}, l[k]? = some v → l.set k v = l
  | [], _, _, h => by simp at h
  | a :: r, 0, v, h => by
    simp only [List.getElem?_cons_zero, Option.some.injEq] at h
    subst h; rfl
  | a :: r, k + 1, v, h => by
    simp only [List.getElem?_cons_succ] at h
    simp only [List.set_cons_succ]
    rw [sx_ss h]
def sx_vr (ν : List Int) (a : sx_V) (v : Value) : Prop := match a with
  | .inl e => ∃ x : Int32, v = .int x ∧ sx_ev ν e = some x.toInt
  | .inr (.inl e) => ∃ x : Int64, v = .long x ∧ sx_ev ν e = some x.toInt
  | .inr (.inr (.inl ks)) => ∃ k, k ∈ ks ∧ v = .ref k
  | .inr (.inr (.inr (.inl k))) => v = .retAddr k
  | .inr (.inr (.inr (.inr (.inl p)))) => ∃ x : Int32, v = .int x ∧ p.1 ≤ x.toInt ∧ x.toInt ≤ p.2
  | .inr (.inr (.inr (.inr (.inr (.inl p))))) => ∃ x : Int64, v = .long x ∧ p.1 ≤ x.toInt ∧ x.toInt ≤ p.2
  | .inr (.inr (.inr (.inr (.inr (.inr e))))) => ∃ x : Int32, v = .int x ∧ ∃ y, sx_ev ν e = some y ∧ (x.toInt < 0 ↔ y < 0) ∧ (0 < x.toInt ↔ 0 < y)
theorem sx_vr_mono {ν δ : List Int} {a : sx_V} {v : Value} (h : sx_vr ν a v) : sx_vr (ν ++ δ) a v := by
  rcases a with e | e | ks | k | p | p | e
  · obtain ⟨x, h1, h2⟩ := h
    exact ⟨x, h1, sx_ev_mono h2⟩
  · obtain ⟨x, h1, h2⟩ := h
    exact ⟨x, h1, sx_ev_mono h2⟩
  · exact h
  · exact h
  · exact h
  · exact h
  · obtain ⟨x, h1, y, h2, h3⟩ := h
    exact ⟨x, h1, y, sx_ev_mono h2, h3⟩
def sx_sr (ν : List Int) : List sx_V → List Value → Prop
  | [], [] => True
  | a :: r, v :: s => sx_vr ν a v ∧ sx_sr ν r s
  | _, _ => False
theorem sx_sr_mono {ν δ : List Int} : ∀ {as : List sx_V} {vs : List Value}, sx_sr ν as vs → sx_sr (ν ++ δ) as vs
  | [], [], _ => trivial
  | _ :: _, _ :: _, h => ⟨sx_vr_mono h.1, sx_sr_mono h.2⟩
  | [], _ :: _, h => h.elim
  | _ :: _, [], h => h.elim
theorem sx_sr_len {ν : List Int} : ∀ {as : List sx_V} {vs : List Value}, sx_sr ν as vs → vs.length = as.length
  | [], [], _ => rfl
  | _ :: _, _ :: _, h => by simp only [List.length_cons]; rw [sx_sr_len h.2]
  | [], _ :: _, h => h.elim
  | _ :: _, [], h => h.elim
theorem sx_sr_get0 {ν : List Int} : ∀ {as : List sx_V} {vs : List Value} {k : Nat} {a : sx_V}, sx_sr ν as vs → as[k]? = some a → ∃ v, vs[k]? = some v ∧ sx_vr ν a v
  | [], _, _, _, _, h => by simp at h
  | _ :: _, [], _, _, h, _ => h.elim
  | b :: r, v :: s, 0, a, h, hk => by
    simp only [List.getElem?_cons_zero, Option.some.injEq] at hk
    subst hk
    exact ⟨v, rfl, h.1⟩
  | b :: r, v :: s, k + 1, a, h, hk => by
    simp only [List.getElem?_cons_succ] at hk ⊢
    exact sx_sr_get0 h.2 hk
theorem sx_sr_get {ν : List Int} {as : List sx_V} {vs : List Value} {k : Nat} {a : sx_V} (h : sx_sr ν as vs) (hk : sx_get as k = some a) : ∃ v, vs[k]? = some v ∧ sx_vr ν a v := sx_sr_get0 h (by rw [← sx_get_eq]; exact hk)
theorem sx_sr_set0 {ν : List Int} : ∀ {as : List sx_V} {vs : List Value} {k : Nat} {a : sx_V} {v : Value}, sx_sr ν as vs → sx_vr ν a v → sx_sr ν (as.set k a) (vs.set k v)
  | [], [], _, _, _, _, _ => trivial
  | [], _ :: _, _, _, _, h, _ => h.elim
  | _ :: _, [], _, _, _, h, _ => h.elim
  | b :: r, w :: s, 0, a, v, h, ha => ⟨ha, h.2⟩
  | b :: r, w :: s, k + 1, a, v, h, ha => ⟨h.1, sx_sr_set0 h.2 ha⟩
theorem sx_sr_set {ν : List Int} {as : List sx_V} {vs : List Value} {k : Nat} {a : sx_V} {v : Value} (h : sx_sr ν as vs) (hv : sx_vr ν a v) : sx_sr ν (sx_set as a k) (vs.set k v) := by
  rw [sx_set_eq]
  exact sx_sr_set0 h hv
/-- the same list, one of its values seen otherwise -/
theorem sx_sr_see {ν : List Int} {as : List sx_V} {vs : List Value} {k : Nat} {a : sx_V} {v : Value} (h : sx_sr ν as vs) (hv : vs[k]? = some v) (ha : sx_vr ν a v) : sx_sr ν (sx_set as a k) vs := by
  have := sx_sr_set (k := k) h ha
  rw [sx_ss hv] at this
  exact this
theorem sx_sr_app {ν : List Int} : ∀ {as bs : List sx_V} {vs ws : List Value}, sx_sr ν as vs → sx_sr ν bs ws → sx_sr ν (as ++ bs) (vs ++ ws)
  | [], _, [], _, _, h => h
  | _ :: _, _, _ :: _, _, h, h2 => ⟨h.1, sx_sr_app h.2 h2⟩
  | [], _, _ :: _, _, h, _ => h.elim
  | _ :: _, _, [], _, h, _ => h.elim
theorem sx_sr_mem {ν : List Int} : ∀ {as : List sx_V} {vs : List Value} {v : Value}, sx_sr ν as vs → v ∈ vs → ∃ a, a ∈ as ∧ sx_vr ν a v
  | [], [], v, _, h => by cases h
  | a :: r, w :: s, v, h, hm => by
    rcases List.mem_cons.mp hm with rfl | hm
    · exact ⟨a, List.mem_cons_self, h.1⟩
    · obtain ⟨b, hb, h2⟩ := sx_sr_mem h.2 hm
      exact ⟨b, List.mem_cons_of_mem _ hb, h2⟩
  | [], _ :: _, _, h, _ => h.elim
  | _ :: _, [], _, h, _ => h.elim
theorem sx_sr_take {ν : List Int} : ∀ (k : Nat) {as : List sx_V} {vs : List Value}, sx_sr ν as vs → sx_sr ν (as.take k) (vs.take k)
  | 0, _, _, _ => trivial
  | _ + 1, [], [], _ => trivial
  | k + 1, _ :: _, _ :: _, h => ⟨h.1, sx_sr_take k h.2⟩
  | _ + 1, [], _ :: _, h => h.elim
  | _ + 1, _ :: _, [], h => h.elim
theorem sx_sr_drop {ν : List Int} : ∀ (k : Nat) {as : List sx_V} {vs : List Value}, sx_sr ν as vs → sx_sr ν (as.drop k) (vs.drop k)
  | 0, _, _, h => h
  | _ + 1, [], [], _ => trivial
  | k + 1, _ :: _, _ :: _, h => sx_sr_drop k h.2
  | _ + 1, [], _ :: _, h => h.elim
  | _ + 1, _ :: _, [], h => h.elim
theorem sx_sr_rev {ν : List Int} : ∀ {as : List sx_V} {vs : List Value}, sx_sr ν as vs → sx_sr ν as.reverse vs.reverse
  | [], [], _ => trivial
  | a :: r, v :: s, h => by
    rw [List.reverse_cons, List.reverse_cons]
    exact sx_sr_app (sx_sr_rev h.2) ⟨h.1, trivial⟩
  | [], _ :: _, h => h.elim
  | _ :: _, [], h => h.elim
def sx_ct (a : sx_V) : Nat := match a with
  | .inr (.inl _) => 2
  | .inr (.inr (.inr (.inr (.inr (.inl _))))) => 2
  | _ => 1
theorem sx_ct_ok {ν : List Int} {a : sx_V} {v : Value} (h : sx_vr ν a v) : v.category = sx_ct a := by
  rcases a with e | e | ks | k | p | p | e
  · obtain ⟨x, rfl, _⟩ := h; rfl
  · obtain ⟨x, rfl, _⟩ := h; rfl
  · obtain ⟨x, _, rfl⟩ := h; rfl
  · cases h; rfl
  · obtain ⟨x, rfl, _⟩ := h; rfl
  · obtain ⟨x, rfl, _⟩ := h; rfl
  · obtain ⟨x, rfl, _⟩ := h; rfl
/-! cells -/
def sx_ty (t : Nat) : FieldType := match t with
  | 0 => .int
  | 1 => .long
  | 2 => .byte
  | 3 => .boolean
  | t + 4 => .object (ik_nm t)
def sx_bv (t : Nat) (l u : Int) : sx_V := bif Nat.beq t 1 then sx_rl l u else sx_ri l u
theorem sx_bv_nu {ν μ : List Int} {t : Nat} {l u : Int} {v : Value} (h : sx_vr ν (sx_bv t l u) v) : sx_vr μ (sx_bv t l u) v := by
  unfold sx_bv at h ⊢
  cases hb : Nat.beq t 1 <;> rw [hb] at h <;> exact h
def sx_cr (ν : List Int) (c : sx_C) (d : ik_E) : Prop := match c with
  | .inl p => ∃ fs, d = .inr (p.1, fs) ∧ sx_sr ν p.2 fs
  | .inr (.inl p) => ∃ vs, d = .inl (sx_ty p.1, vs) ∧ sx_sr ν p.2 vs
  | .inr (.inr p) => ∃ vs, d = .inl (sx_ty p.1, vs) ∧ vs.length = p.2.1 ∧ ∀ v, v ∈ vs → sx_vr [] (sx_bv p.1 p.2.2.1 p.2.2.2) v
theorem sx_cr_mono {ν δ : List Int} {c : sx_C} {d : ik_E} (h : sx_cr ν c d) : sx_cr (ν ++ δ) c d := by
  rcases c with p | p | p
  · obtain ⟨fs, h1, h2⟩ := h
    exact ⟨fs, h1, sx_sr_mono h2⟩
  · obtain ⟨fs, h1, h2⟩ := h
    exact ⟨fs, h1, sx_sr_mono h2⟩
  · exact h
def sx_hr (ν : List Int) (H : sx_H) (h : List ik_E) : Prop := sx_hn H ≤ h.length ∧ ∀ (a : Nat) (c : sx_C), sx_hg H a = some (some c) → ∃ d, h[a]? = some d ∧ sx_cr ν c d
theorem sx_hr_mono {ν δ : List Int} {H : sx_H} {h : List ik_E} (hh : sx_hr ν H h) : sx_hr (ν ++ δ) H h := by
  refine ⟨hh.1, fun a c hc => ?_⟩
  obtain ⟨d, h1, h2⟩ := hh.2 a c hc
  exact ⟨d, h1, sx_cr_mono h2⟩
theorem sx_hr_set {ν : List Int} {H : sx_H} {h : List ik_E} {a : Nat} {c : sx_C} {d : ik_E} (hh : sx_hr ν H h) (hc : sx_cr ν c d) : sx_hr ν (sx_hs H a (some c)) (h.set a d) := by
  refine ⟨by rw [sx_hn_hs, List.length_set]; exact hh.1, fun b c' hb => ?_⟩
  by_cases hab : a = b
  · subst hab
    obtain ⟨e1, z, e2⟩ := sx_hg_self hb
    cases e1
    exact ⟨d, List.getElem?_set_self (Nat.lt_of_lt_of_le (sx_hg_lt e2) hh.1), hc⟩
  · rw [sx_hg_ne hab] at hb
    rw [List.getElem?_set_ne hab]
    exact hh.2 b c' hb
/-- one cell seen otherwise -/
theorem sx_hr_see {ν : List Int} {H : sx_H} {h : List ik_E} {a : Nat} {c : sx_C} {d : ik_E} (hh : sx_hr ν H h) (hd : h[a]? = some d) (hc : sx_cr ν c d) : sx_hr ν (sx_hs H a (some c)) h := by
  have := sx_hr_set (a := a) hh hc
  rw [sx_ss hd] at this
  exact this
/-! what may be changed: places and, in each, elements (9999: all) -/
abbrev sx_M : Type := List (Nat × List Nat)
def sx_md (M : sx_M) (a k : Nat) : Bool := M.any fun p => Nat.beq p.1 a && (p.2.contains k || p.2.contains 9999)
def sx_ma (M : sx_M) (a : Nat) : Bool := M.any fun p => Nat.beq p.1 a && p.2.contains 9999
theorem sx_ma_md {M : sx_M} {a k : Nat} (h : sx_ma M a = true) : sx_md M a k = true := by
  unfold sx_ma at h
  unfold sx_md
  obtain ⟨p, hp, h1⟩ := List.any_eq_true.mp h
  refine List.any_eq_true.mpr ⟨p, hp, ?_⟩
  obtain ⟨h2, h3⟩ := Bool.and_eq_true_iff.mp h1
  rw [h2, h3, Bool.or_true]; rfl
def sx_pt (d : ik_E) : (FieldType ⊕ Nat) × List Value := match d with
  | .inl (ty, vs) => (.inl ty, vs)
  | .inr (ci, fs) => (.inr ci, fs)
def sx_fm (M : sx_M) (h0 h : List ik_E) : Prop := h.length = h0.length ∧ ∀ (a : Nat) (d0 : ik_E), h0[a]? = some d0 → ∃ d, h[a]? = some d ∧ (sx_pt d).1 = (sx_pt d0).1 ∧ (sx_pt d).2.length = (sx_pt d0).2.length ∧ ∀ k, sx_md M a k = false → (sx_pt d).2[k]? = (sx_pt d0).2[k]?
theorem sx_fm_refl (M : sx_M) (h : List ik_E) : sx_fm M h h := ⟨rfl, fun _ d hd => ⟨d, hd, rfl, rfl, fun _ _ => rfl⟩⟩
theorem sx_fm_trans {M N : sx_M} {h0 h1 h2 : List ik_E} (hm : ∀ a k, sx_md N a k = true → sx_md M a k = true) (f1 : sx_fm M h0 h1) (f2 : sx_fm N h1 h2) : sx_fm M h0 h2 := by
  refine ⟨f2.1.trans f1.1, fun a d0 hd0 => ?_⟩
  obtain ⟨d1, hd1, t1, l1, e1⟩ := f1.2 a d0 hd0
  obtain ⟨d2, hd2, t2, l2, e2⟩ := f2.2 a d1 hd1
  refine ⟨d2, hd2, t2.trans t1, l2.trans l1, fun k hk => ?_⟩
  have hk' : sx_md N a k = false := by
    cases hq : sx_md N a k with
    | false => rfl
    | true => rw [hm a k hq] at hk; cases hk
  rw [e2 k hk', e1 k hk]
theorem sx_fm_set {M : sx_M} {h0 h : List ik_E} {a : Nat} {d d' : ik_E} (hf : sx_fm M h0 h) (hd : h[a]? = some d) (ht : (sx_pt d').1 = (sx_pt d).1) (hl : (sx_pt d').2.length = (sx_pt d).2.length) (he : ∀ k, sx_md M a k = false → (sx_pt d').2[k]? = (sx_pt d).2[k]?) : sx_fm M h0 (h.set a d') := by
  refine ⟨by rw [List.length_set]; exact hf.1, fun b d0 hd0 => ?_⟩
  obtain ⟨d1, hd1, t1, l1, e1⟩ := hf.2 b d0 hd0
  by_cases hab : a = b
  · subst hab
    rw [hd] at hd1; cases hd1
    refine ⟨d', List.getElem?_set_self (List.getElem?_eq_some_iff.mp hd).1, ht.trans t1, hl.trans l1, fun k hk => ?_⟩
    rw [he k hk, e1 k hk]
  · refine ⟨d1, ?_, t1, l1, e1⟩
    rw [List.getElem?_set_ne hab]; exact hd1
def sx_mle (N M : sx_M) : Bool := N.all fun p => p.2.all fun k => bif Nat.beq k 9999 then sx_ma M p.1 else sx_md M p.1 k
theorem sx_mle_ok {N M : sx_M} (h : sx_mle N M = true) : ∀ a k, sx_md N a k = true → sx_md M a k = true := by
  intro a k hk
  unfold sx_md at hk
  obtain ⟨p, hp, h1⟩ := List.any_eq_true.mp hk
  obtain ⟨h2, h3⟩ := Bool.and_eq_true_iff.mp h1
  have hpa : p.1 = a := Nat.eq_of_beq_eq_true h2
  subst hpa
  unfold sx_mle at h
  have h4 := List.all_eq_true.mp (List.all_eq_true.mp h p hp)
  rcases Bool.or_eq_true_iff.mp h3 with h5 | h5
  · have := h4 k (List.contains_iff_mem.mp h5)
    cases hq : Nat.beq k 9999 with
    | true =>
      rw [hq] at this
      exact sx_ma_md this
    | false => rw [hq] at this; exact this
  · have := h4 9999 (List.contains_iff_mem.mp h5)
    exact sx_ma_md this
/-! locals -/
def sx_lr (ν : List Int) (n : Nat) : sx_L → ik_L → Prop
  | [], [] => True
  | none :: r, o :: l => ik_wl n o = true ∧ sx_lr ν n r l
  | some a :: r, o :: l => (∃ v, o = some v ∧ sx_vr ν a v) ∧ sx_lr ν n r l
  | _, _ => False
theorem sx_lr_mono {ν δ : List Int} {n : Nat} : ∀ {as : sx_L} {l : ik_L}, sx_lr ν n as l → sx_lr (ν ++ δ) n as l
  | [], [], _ => trivial
  | none :: _, _ :: _, h => ⟨h.1, sx_lr_mono h.2⟩
  | some _ :: _, _ :: _, h => by
    obtain ⟨⟨v, h1, h2⟩, h3⟩ := h
    exact ⟨⟨v, h1, sx_vr_mono h2⟩, sx_lr_mono h3⟩
  | [], _ :: _, h => h.elim
  | none :: _, [], h => h.elim
  | some _ :: _, [], h => h.elim
theorem sx_lr_get {ν : List Int} {n : Nat} : ∀ {as : sx_L} {l : ik_L} {k : Nat} {a : sx_V}, sx_lr ν n as l → as[k]? = some (some a) → ∃ v, l[k]? = some (some v) ∧ sx_vr ν a v
  | [], _, _, _, _, h => by simp at h
  | none :: _, [], _, _, h, _ => h.elim
  | some _ :: _, [], _, _, h, _ => h.elim
  | none :: r, o :: l, 0, a, h, hk => by simp at hk
  | some b :: r, o :: l, 0, a, h, hk => by
    simp only [List.getElem?_cons_zero, Option.some.injEq] at hk
    subst hk
    obtain ⟨⟨v, h1, h2⟩, _⟩ := h
    subst h1
    exact ⟨v, rfl, h2⟩
  | none :: r, o :: l, k + 1, a, h, hk => by
    simp only [List.getElem?_cons_succ] at hk ⊢
    exact sx_lr_get h.2 hk
  | some b :: r, o :: l, k + 1, a, h, hk => by
    simp only [List.getElem?_cons_succ] at hk ⊢
    exact sx_lr_get h.2 hk
theorem sx_lr_set {ν : List Int} {n : Nat} : ∀ {as : sx_L} {l : ik_L} {k : Nat} {a : sx_V} {v : Value}, sx_lr ν n as l → sx_vr ν a v → sx_lr ν n (as.set k (some a)) (l.set k (some v))
  | [], [], _, _, _, _, _ => trivial
  | [], _ :: _, _, _, _, h, _ => h.elim
  | none :: _, [], _, _, _, h, _ => h.elim
  | some _ :: _, [], _, _, _, h, _ => h.elim
  | none :: r, o :: l, 0, a, v, h, ha => ⟨⟨v, rfl, ha⟩, h.2⟩
  | some b :: r, o :: l, 0, a, v, h, ha => ⟨⟨v, rfl, ha⟩, h.2⟩
  | none :: r, o :: l, k + 1, a, v, h, ha => ⟨h.1, sx_lr_set h.2 ha⟩
  | some b :: r, o :: l, k + 1, a, v, h, ha => ⟨h.1, sx_lr_set h.2 ha⟩
theorem sx_lr_none {ν : List Int} {n : Nat} : ∀ {as : sx_L} {l : ik_L} {k : Nat}, sx_lr ν n as l → sx_lr ν n (as.set k none) (l.set k none)
  | [], [], _, _ => trivial
  | [], _ :: _, _, h => h.elim
  | none :: _, [], _, h => h.elim
  | some _ :: _, [], _, h => h.elim
  | none :: r, o :: l, 0, h => ⟨rfl, h.2⟩
  | some b :: r, o :: l, 0, h => ⟨rfl, h.2⟩
  | none :: r, o :: l, k + 1, h => ⟨h.1, sx_lr_none h.2⟩
  | some b :: r, o :: l, k + 1, h => ⟨h.1, sx_lr_none h.2⟩
theorem sx_lr_len {ν : List Int} {n : Nat} : ∀ {as : sx_L} {l : ik_L}, sx_lr ν n as l → l.length = as.length
  | [], [], _ => rfl
  | none :: _, _ :: _, h => by simp only [List.length_cons]; rw [sx_lr_len h.2]
  | some _ :: _, _ :: _, h => by simp only [List.length_cons]; rw [sx_lr_len h.2]
  | [], _ :: _, h => h.elim
  | none :: _, [], h => h.elim
  | some _ :: _, [], h => h.elim
/-- a local at a place that is not known -/
theorem sx_lr_wl {ν : List Int} {n : Nat} : ∀ {as : sx_L} {l : ik_L} {k : Nat}, sx_lr ν n as l → as[k]? = some none → sx_lr ν n as (l.set k none)
  | [], _, _, _, h => by simp at h
  | none :: _, [], _, h, _ => h.elim
  | some _ :: _, [], _, h, _ => h.elim
  | none :: r, o :: l, 0, h, _ => ⟨rfl, h.2⟩
  | some b :: r, o :: l, 0, h, hk => by simp at hk
  | none :: r, o :: l, k + 1, h, hk => ⟨h.1, sx_lr_wl h.2 (by simpa using hk)⟩
  | some b :: r, o :: l, k + 1, h, hk => ⟨h.1, sx_lr_wl h.2 (by simpa using hk)⟩
/-- storing into a local -/
def sx_put (l : sx_L) (i : Nat) (a : sx_V) : sx_L :=
  let l1 := match i with
    | 0 => l
    | j + 1 => match l[j]? with
      | some (some w) => bif Nat.beq (sx_ct w) 2 then l.set j none else l
      | _ => l
  bif Nat.beq (sx_ct a) 2 then (l1.set i (some a)).set (i + 1) none else l1.set i (some a)
theorem sx_put_ok {ν : List Int} {n : Nat} {as : sx_L} {l : ik_L} {i : Nat} {a : sx_V} {v : Value} (h : sx_lr ν n as l) (ha : sx_vr ν a v) : sx_lr ν n (sx_put as i a) (ik_put l i v) := by
  have hc := sx_ct_ok ha
  have h1 : sx_lr ν n (match i with
    | 0 => as
    | j + 1 => match as[j]? with
      | some (some w) => bif Nat.beq (sx_ct w) 2 then as.set j none else as
      | _ => as) (match i with
    | 0 => l
    | j + 1 => match l[j]? with
      | some (some w) => if w.category = 2 then l.set j none else l
      | _ => l) := by
    cases i with
    | zero => exact h
    | succ j =>
      dsimp only
      split
      · rename_i w hw
        obtain ⟨v', hv', hr⟩ := sx_lr_get h hw
        rw [hv']
        dsimp only
        rw [sx_ct_ok hr]
        cases hq : Nat.beq (sx_ct w) 2 with
        | true =>
          rw [if_pos (Nat.eq_of_beq_eq_true hq)]
          exact sx_lr_none h
        | false =>
          rw [if_neg (Nat.ne_of_beq_eq_false hq)]
          exact h
      · rename_i hw
        split
        · rename_i w hw2
          by_cases hcat : w.category = 2
          · rw [if_pos hcat]
            cases ha2 : as[j]? with
            | none =>
              have hlen := sx_lr_len h
              have := List.getElem?_eq_none_iff.mp ha2
              have := (List.getElem?_eq_some_iff.mp hw2).1
              omega
            | some o =>
              cases o with
              | none => exact sx_lr_wl h ha2
              | some w' => exact absurd ha2 (hw w')
          · rw [if_neg hcat]; exact h
        · exact h
  unfold sx_put ik_put
  dsimp only
  rw [hc]
  cases hq : Nat.beq (sx_ct a) 2 with
  | true =>
    rw [if_pos (Nat.eq_of_beq_eq_true hq)]
    exact sx_lr_none (sx_lr_set h1 ha)
  | false =>
    rw [if_neg (Nat.ne_of_beq_eq_false hq)]
    exact sx_lr_set h1 ha
end
