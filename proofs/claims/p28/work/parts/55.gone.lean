noncomputable section
/-! gone, out of the rows of the stream -/
def sx_nlx (x : sx_X) : Bool := x.2.all fun p => !(Nat.beq p.2.1 0)
theorem sx_lk_nlx {loc loc' : ik_L} {st : List Value} {h : List ik_E} {q : sx_Q} (hq : Nat.beq q.1 0 = false) : sx_lk loc st h q = sx_lk loc' st h q := by
  obtain ⟨n, a, k⟩ := q
  match n, hq with
  | 0, hq => cases hq
  | 1, _ => rfl
  | n + 2, _ => rfl
theorem sx_xk_nlx {loc loc' : ik_L} {st : List Value} {h : List ik_E} : ∀ {x : List (Int × sx_Q)}, x.all (fun p => !(Nat.beq p.2.1 0)) = true → sx_xk loc st h x = sx_xk loc' st h x
  | [], _ => rfl
  | (k, q) :: r, hx => by
    simp only [List.all_cons] at hx
    obtain ⟨h1, h2⟩ := Bool.and_eq_true_iff.mp hx
    have h3 : Nat.beq q.1 0 = false := by
      cases hb : Nat.beq q.1 0 with
      | false => rfl
      | true => rw [hb] at h1; cases h1
    simp only [sx_xk]
    rw [sx_lk_nlx (loc := loc) (loc' := loc') h3, sx_xk_nlx (loc := loc) (loc' := loc') h2]
theorem sx_xc_nlx {loc loc' : ik_L} {st : List Value} {h : List ik_E} {x : sx_X} (hx : sx_nlx x = true) : sx_xc loc st h x = sx_xc loc' st h x := by
  unfold sx_xc
  rw [sx_xk_nlx (loc := loc) (loc' := loc') hx]
/-- facts speak of the heap alone -/
theorem sx_cx_ho {loc : ik_L} {st : List Value} {h : List ik_E} {xs : List sx_X} (hx : sx_cx [] [] h xs) (ho : xs.all sx_ho = true) : sx_cx loc st h xs := by
  intro x hm
  obtain ⟨y, e1, e2⟩ := hx x hm
  exact ⟨y, by rw [sx_xc_ho (List.all_eq_true.mp ho x hm)]; exact e1, e2⟩
theorem sx_cx_app {loc : ik_L} {st : List Value} {h : List ik_E} {xs ys : List sx_X} (h1 : sx_cx loc st h xs) (h2 : sx_cx loc st h ys) : sx_cx loc st h (xs ++ ys) := by
  intro x hm
  rcases List.mem_append.mp hm with hm | hm
  · exact h1 x hm
  · exact h2 x hm
theorem qf_ho : ((List.range 11).all fun p => (qf_F p).all (fun r => r.all sx_ho) && (qf_E p).all (fun r => r.all sx_ho) && (qf_G p).all (fun r => r.all sx_ho) && (qf_R p).all (fun r => r.all sx_ho) && (List.range 2).all (fun i => (qf_I i p).all (fun r => r.all sx_ho))) = true := by decide +kernel
theorem qf_hoF {p : Nat} (hp : p < 11) {r : List sx_X} (hr : r ∈ qf_F p) : r.all sx_ho = true := by
  have h := List.all_eq_true.mp qf_ho p (List.mem_range.mpr hp)
  simp only [Bool.and_eq_true] at h
  exact List.all_eq_true.mp h.1.1.1.1 r hr
theorem qf_hoE {p : Nat} (hp : p < 11) {r : List sx_X} (hr : r ∈ qf_E p) : r.all sx_ho = true := by
  have h := List.all_eq_true.mp qf_ho p (List.mem_range.mpr hp)
  simp only [Bool.and_eq_true] at h
  exact List.all_eq_true.mp h.1.1.1.2 r hr
/-! gone -/
def gn_H : sx_H := sx_hs (sx_hs kr_31.2.1.2.1 68 (some (.inr (.inl (0, List.replicate 48 (sx_ri 0 11)))))) 69 (some (.inr (.inl (0, List.replicate 48 (sx_ri (-2147483648) 2147483647)))))
def gn_O : sx_U := (true, 0, [], [sx_ri 0 11], kr_31.2.1.2.1, [(-1, [(1, 1, 66, 0), (-1, 2, 0, 0)])], [])
def gn_k (p : Nat) : Bool := (qf_F p).all fun r => sx_sg [] [] kr_31.2.2.1 false 3000 195 0 (sx_lo (ik_ml 195) [sx_va [66], sx_ri p p]) gn_H [] (kr_31.2.1.2.2 ++ r) [] [gn_O]
theorem gn_k0 : gn_k 0 = true := by decide +kernel
theorem gn_k1 : gn_k 1 = true := by decide +kernel
theorem gn_k2 : gn_k 2 = true := by decide +kernel
theorem gn_k3 : gn_k 3 = true := by decide +kernel
theorem gn_k4 : gn_k 4 = true := by decide +kernel
theorem gn_k5 : gn_k 5 = true := by decide +kernel
theorem gn_k6 : gn_k 6 = true := by decide +kernel
theorem gn_k7 : gn_k 7 = true := by decide +kernel
theorem gn_k8 : gn_k 8 = true := by decide +kernel
theorem gn_k9 : gn_k 9 = true := by decide +kernel
theorem gn_k10 : gn_k 10 = true := by decide +kernel
theorem gn_kp {p : Nat} (hp : p < 11) : gn_k p = true := by
  match p, hp with
  | 0, _ => exact gn_k0
  | 1, _ => exact gn_k1
  | 2, _ => exact gn_k2
  | 3, _ => exact gn_k3
  | 4, _ => exact gn_k4
  | 5, _ => exact gn_k5
  | 6, _ => exact gn_k6
  | 7, _ => exact gn_k7
  | 8, _ => exact gn_k8
  | 9, _ => exact gn_k9
  | 10, _ => exact gn_k10
  | n + 11, h => omega
theorem gn_lh : sx_lh 0 ((0, []), []) kr_31.2.1.2.1 gn_H = true := by decide +kernel
theorem gn_mw : (kr_31.2.2.2.1.all fun P => sx_mw kr_31.2.2.1 P.2.1) = true := by decide +kernel
/-- a number in bounds is just itself -/
theorem sx_ri_self {v : Value} {l u : Int} (h : sx_vr [] (sx_ri l u) v) : ∃ x : Int32, v = .int x ∧ l ≤ x.toInt ∧ x.toInt ≤ u ∧ sx_vr [] (sx_ri x.toInt x.toInt) v := by
  obtain ⟨x, rfl, h1, h2⟩ := h
  exact ⟨x, rfl, h1, h2, x, rfl, Int.le_refl _, Int.le_refl _⟩
theorem krh_31 : sx_hd qq kr_31 := by
  refine ⟨fun P hP => List.all_eq_true.mp gn_mw P hP, ?_⟩
  intro as h ha hh hx hq
  have hQ := hq rfl
  match as, ha with
  | [v0, v1], ⟨h0, h1, _⟩ =>
    obtain ⟨x, rfl, x1, x2, x3⟩ := sx_ri_self h1
    obtain ⟨p, hp⟩ : ∃ p : Nat, x.toInt = (p : Int) := ⟨x.toInt.toNat, by omega⟩
    have hp' : p < 11 := by omega
    rw [hp] at x3
    obtain ⟨r, hr, hrx⟩ := hQ.1 p hp'
    have hc := List.all_eq_true.mp (gn_kp hp') r hr
    have hsr : sx_sr [] [sx_va [66], sx_ri p p] [v0, .int x] := ⟨h0, x3, trivial⟩
    refine sx_seg (Q := qq) sx_h0 hc (sx_lo_ok hsr) (sx_lh0 hh gn_lh) (sx_cx_app hx (sx_cx_ho hrx (qf_hoF hp' hr))) (fun u => nomatch u) ?_ ?_
    · intro O hO _ pc' loc' st' h' hur
      cases List.mem_singleton.mp hO
      obtain ⟨u1, u2, u3, ir, rv, u4, u5, u6, u7, u8⟩ := hur
      refine ⟨ir, rv, ([sx_ri 0 11], kr_31.2.1.2.1, [(-1, [(1, 1, 66, 0), (-1, 2, 0, 0)])]), List.mem_singleton.mpr rfl, u4, u5, u6, u3, u1, ?_, rfl, rfl⟩
      intro y hy
      obtain ⟨w, e1, e2⟩ := u7 y hy
      refine ⟨w, ?_, e2⟩
      rw [← e1]
      cases List.mem_singleton.mp hy
      exact sx_xc_nlx (by decide)
    · intro O hO hb
      cases List.mem_singleton.mp hO
      cases hb
end
