noncomputable section
/-! a contract is checked: from its entry and from each of its cuts (heads of loops) to the next cut or the end -/
/-- place in the code, locals, cells, constraints, measure -/
abbrev sx_N : Type := Nat × sx_L × sx_H × List sx_X × sx_X
def sx_ck (n0 : Nat) (C : sx_K) (cuts : List sx_N) (lU : sx_L) (m0 : Option sx_E) (o : sx_O) : Bool := match o with
  | (true, pc, g, _, s, H) => (match ik_at C.1 pc with
    | some ir => (match sx_rc g (ik_rt C.1) ir s with
      | some rv => C.2.2.2.1.any fun P => sx_lvs n0 g rv P.1 && sx_lh n0 g H P.2.1 && (match sx_mqs g H P.2.2 with
        | (g', H') => sx_xh lU rv H' g' P.2.2)
      | none => false)
    | none => false)
  | (false, pc, g, l, s, H) => cuts.any fun A => Nat.beq A.1 pc && s.isEmpty && sx_ll n0 g (sx_hn H) l A.2.1 && sx_lh n0 g H A.2.2.1 && (match sx_mqs g H (A.2.2.2.2 :: A.2.2.2.1) with
    | (g', H') => sx_xh l [] H' g' A.2.2.2.1 && (match sx_xe l [] H' A.2.2.2.2 with
      | some m1 => sx_nn g' m1 && (match m0 with
        | some e => sx_nn g' (sx_sub (sx_sub e m1) (1, []))
        | none => true)
      | none => false))
def sx_c0 (σ0 : sx_Z) (K : List sx_K) (sp : List (Nat × Nat)) (fuel : Nat) (C : sx_K) (cuts : List sx_N) (lU : sx_L) : Bool := match sx_ml (σ0, []) (sx_lo (ik_ml C.1) C.2.1.1) with
  | (g1, l1) => (match sx_mqs g1 C.2.1.2.1 C.2.1.2.2 with
    | (g2, H2) => (match sx_xa l1 [] H2 C.2.1.2.2 g2 with
      | some (some g3) => (match sx_run K sp C.2.2.1 C.2.2.2.2 fuel C.1 (cuts.map (fun A => A.1)) true 0 (g3, l1, [], H2) with
        | some L => L.all (sx_ck σ0.1 C cuts lU none)
        | none => false)
      | some none => true
      | none => false))
def sx_c1 (σ0 : sx_Z) (K : List sx_K) (sp : List (Nat × Nat)) (fuel : Nat) (C : sx_K) (cuts : List sx_N) (lU : sx_L) (A : sx_N) : Bool := match sx_ml (σ0, []) A.2.1 with
  | (g1, l1) => (match sx_mqs g1 A.2.2.1 (A.2.2.2.2 :: A.2.2.2.1) with
    | (g2, H2) => (match sx_xa l1 [] H2 A.2.2.2.1 g2 with
      | some (some g3) => (match sx_xe l1 [] H2 A.2.2.2.2 with
        | some m0 => (match sx_run K sp C.2.2.1 C.2.2.2.2 fuel C.1 (cuts.map (fun A => A.1)) true A.1 (g3, l1, [], H2) with
          | some L => L.all (sx_ck σ0.1 C cuts lU (some m0))
          | none => false)
        | none => false)
      | some none => true
      | none => false))
def sx_lu (C : sx_K) : sx_L := (sx_lo (ik_ml C.1) C.2.1.1).map fun _ => none
def sx_chL (σ0 : sx_Z) (K : List sx_K) (sp : List (Nat × Nat)) (fuel : Nat) (C : sx_K) (cuts : List sx_N) : Bool := (sx_lo (ik_ml C.1) C.2.1.1).all (sx_wl (sx_hn C.2.1.2.1)) && C.2.2.2.1.all (fun P => sx_mw C.2.2.1 P.2.1) && sx_c0 σ0 K sp fuel C cuts (sx_lu C) && cuts.all (sx_c1 σ0 K sp fuel C cuts (sx_lu C))
def sx_chk (K : List sx_K) (sp : List (Nat × Nat)) (fuel : Nat) (C : sx_K) (cuts : List sx_N) : Bool := sx_chL (0, []) K sp fuel C cuts
/-- with given symbols: what a contract says of the states before and behind -/
def sx_pq (μ : List Int) (C : sx_K) (as : List Value) (h : List ik_E) (z : ik_St) : Prop := ∃ ir rv P, P ∈ C.2.2.2.1 ∧ ik_at C.1 z.1 = some ir ∧ ik_rv (ik_rt C.1) ir z.2.2.1 = some rv ∧ sx_sr μ P.1 rv ∧ sx_hr μ P.2.1 z.2.2.2.1 ∧ sx_fm C.2.2.1 h z.2.2.2.1 ∧ (∀ x, x ∈ P.2.2 → ∃ y, sx_xc (ik_loc (ik_ml C.1) as) rv z.2.2.2.1 x = some y ∧ 0 ≤ y) ∧ z.2.2.2.2.1 = 0 ∧ z.2.2.2.2.2 = 0
def sx_hL (Q : List ik_E → Prop) (σ0 : sx_Z) (C : sx_K) : Prop := (∀ P, P ∈ C.2.2.2.1 → sx_mw C.2.2.1 P.2.1 = true) ∧ ∀ (μ : List Int), sx_gd σ0 μ → ∀ (as : List Value) (h : List ik_E), sx_sr μ C.2.1.1 as → sx_hr μ C.2.1.2.1 h → (∀ x, x ∈ C.2.1.2.2 → ∃ y, sx_xc (ik_loc (ik_ml C.1) as) [] h x = some y ∧ 0 ≤ y) → (C.2.2.2.2 = true → Q h) → ik_W none C.1 0 (ik_loc (ik_ml C.1) as) [] h 0 0 (sx_pq μ C as h)
theorem sx_lu_ok {ν μ : List Int} {N n : Nat} (hn : N ≤ n) : ∀ {l : sx_L} {loc : ik_L}, sx_lr ν n l loc → l.all (sx_wl N) = true → sx_lr μ n (l.map fun _ => none) loc
  | [], [], _, _ => trivial
  | none :: l, o :: loc, h, hw => by
    simp only [List.all_cons] at hw
    exact ⟨h.1, sx_lu_ok hn h.2 (Bool.and_eq_true_iff.mp hw).2⟩
  | some a :: l, o :: loc, h, hw => by
    simp only [List.all_cons] at hw
    obtain ⟨w1, w2⟩ := Bool.and_eq_true_iff.mp hw
    obtain ⟨⟨v, rfl, hv⟩, h2⟩ := h
    exact ⟨sx_wv_ok hn hv w1, sx_lu_ok hn h2 w2⟩
  | [], _ :: _, h, _ => h.elim
  | none :: _, [], h, _ => h.elim
  | some _ :: _, [], h, _ => h.elim
/-- at a cut, from a state with a measure below y0 -/
def sx_at (μ : List Int) (C : sx_K) (h : List ik_E) (A : sx_N) (loc' : ik_L) (h' : List ik_E) (y : Int) : Prop := sx_lr μ h.length A.2.1 loc' ∧ sx_hr μ A.2.2.1 h' ∧ sx_fm C.2.2.1 h h' ∧ h'.length = h.length ∧ (∀ x, x ∈ A.2.2.2.1 → ∃ y, sx_xc loc' [] h' x = some y ∧ 0 ≤ y) ∧ sx_xc loc' [] h' A.2.2.2.2 = some y ∧ 0 ≤ y
theorem sx_ck_ok {C : sx_K} {cuts : List sx_N} {lU : sx_L} {m0 : Option sx_E} {o : sx_O} {as : List Value} {h : List ik_E} {μ ν : List Int} {loc' : ik_L} {st' : List Value} {h' : List ik_E} (hc : sx_ck μ.length C cuts lU m0 o = true) (hU : ∀ μ, sx_lr μ h.length lU (ik_loc (ik_ml C.1) as)) (hr : sx_rr (μ ++ ν) o.2.2 loc' st' h') (hf : sx_fm C.2.2.1 h h') (hl : h'.length = h.length) (kk : ∀ A, A ∈ cuts → ∀ y, sx_at μ C h A loc' h' y → (∀ e, m0 = some e → ∀ y0, sx_ev (μ ++ ν) e = some y0 → y < y0) → ik_W none C.1 A.1 loc' [] h' 0 0 (sx_pq μ C as h)) : (o.1 = true → (∃ i, ik_at C.1 o.2.1 = some i ∧ ik_isR i = true) → sx_pq μ C as h (o.2.1, loc', st', h', 0, 0)) ∧ (o.1 = false → ik_W none C.1 o.2.1 loc' st' h' 0 0 (sx_pq μ C as h)) := by
  obtain ⟨b, pc, g, l, s, H⟩ := o
  obtain ⟨r1, r2, r3, r4⟩ := hr
  dsimp only at r1 r2 r3 r4
  rw [hl] at r2
  cases b with
  | true =>
    refine ⟨fun _ _ => ?_, fun q => nomatch q⟩
    simp only [sx_ck] at hc
    split at hc
    · rename_i ir hir
      split at hc
      · rename_i rv hrv
        obtain ⟨P, hP, p1⟩ := List.any_eq_true.mp hc
        obtain ⟨p1, p3⟩ := Bool.and_eq_true_iff.mp p1
        obtain ⟨p1, p2⟩ := Bool.and_eq_true_iff.mp p1
        obtain ⟨rw', g1, g2⟩ := sx_rc_ok r1 r3 hrv
        obtain ⟨δ, e1, e2⟩ := sx_mqs_ok (x := P.2.2) r1 r4 (rfl : sx_mqs _ _ _ = ((sx_mqs g H P.2.2).1, (sx_mqs g H P.2.2).2))
        exact ⟨ir, rw', P, hP, hir, g1, sx_lvs_ok r1 g2 p1, sx_lh_ok r1 r4 p2, hf, sx_xh_ok e1 (hU _) (sx_sr_mono g2) e2 p3, rfl, rfl⟩
      · cases hc
    · cases hc
  | false =>
    refine ⟨(fun q => nomatch q), fun _ => ?_⟩
    simp only [sx_ck] at hc
    obtain ⟨A, hA, p1⟩ := List.any_eq_true.mp hc
    obtain ⟨p1, p5⟩ := Bool.and_eq_true_iff.mp p1
    obtain ⟨p1, p4⟩ := Bool.and_eq_true_iff.mp p1
    obtain ⟨p1, p3⟩ := Bool.and_eq_true_iff.mp p1
    obtain ⟨p1, p2⟩ := Bool.and_eq_true_iff.mp p1
    have hpc := Nat.eq_of_beq_eq_true p1
    have hs0 : s = [] := List.isEmpty_iff.mp p2
    subst hs0
    have hst := sx_nil r3
    subst hst
    dsimp only
    rw [← hpc]
    obtain ⟨δ, e1, e2⟩ := sx_mqs_ok (x := A.2.2.2.2 :: A.2.2.2.1) r1 r4 (rfl : sx_mqs _ _ _ = ((sx_mqs g H (A.2.2.2.2 :: A.2.2.2.1)).1, (sx_mqs g H (A.2.2.2.2 :: A.2.2.2.1)).2))
    obtain ⟨p6, p7⟩ := Bool.and_eq_true_iff.mp p5
    split at p7
    · rename_i m1 hm1
      obtain ⟨p7, p8⟩ := Bool.and_eq_true_iff.mp p7
      have hls := sx_lr_mono (δ := δ) r2
      obtain ⟨y, f1, f2⟩ := sx_xe_ok (s := []) (st := []) hls trivial e2 hm1
      refine kk A hA y ⟨sx_ll_ok r1 (by rw [← hl]; exact r4.1) r2 p3, sx_lh_ok r1 r4 p4, hf, hl, sx_xh_ok (s := []) (st := []) e1 hls trivial e2 p6, f1, sx_nn_ok e1 f2 p7⟩ ?_
      intro e he y0 hy0
      subst he
      dsimp only at p8
      have := sx_nn_ok e1 (sx_ev_sub (sx_ev_sub (sx_ev_mono hy0) f2) sx_ev_k) p8
      omega
    · cases p7
theorem sx_chL_ok {Q : List ik_E → Prop} {σ0 : sx_Z} {K : List sx_K} {sp : List (Nat × Nat)} {fuel : Nat} {C : sx_K} {cuts : List sx_N} (hK : ∀ D, D ∈ K → sx_hd Q D) (hQ : C.2.2.2.2 = true → ∀ h h', sx_fm C.2.2.1 h h' → Q h → Q h') (hc : sx_chL σ0 K sp fuel C cuts = true) : sx_hL Q σ0 C := by
  unfold sx_chL at hc
  obtain ⟨c1, c4⟩ := Bool.and_eq_true_iff.mp hc
  obtain ⟨c1, c3⟩ := Bool.and_eq_true_iff.mp c1
  obtain ⟨c1, c2⟩ := Bool.and_eq_true_iff.mp c1
  refine ⟨fun P hP => List.all_eq_true.mp c2 P hP, ?_⟩
  intro μ hμ as h ha hh hx hq
  have hμl := sx_gd_len hμ
  have hl0 : sx_lr μ h.length (sx_lo (ik_ml C.1) C.2.1.1) (ik_loc (ik_ml C.1) as) := sx_lo_ok ha
  have hU : ∀ μ, sx_lr μ h.length (sx_lu C) (ik_loc (ik_ml C.1) as) := fun μ => sx_lu_ok hh.1 hl0 c1
  have hQ' : C.2.2.2.2 = true → ∀ h', sx_fm C.2.2.1 h h' → Q h' := fun u h' hf => hQ u h h' hf (hq u)
  have h00 : sx_ok μ (σ0, []) := ⟨hμ, fun c hc => by cases hc⟩
  -- from a cut
  have hcut : ∀ (N : Nat) (A : sx_N), A ∈ cuts → ∀ loc' h' y, sx_at μ C h A loc' h' y → y < N → ik_W none C.1 A.1 loc' [] h' 0 0 (sx_pq μ C as h) := by
    intro N
    induction N with
    | zero =>
      intro A hA loc' h' y hat hy
      obtain ⟨_, _, _, _, _, _, h0⟩ := hat
      omega
    | succ N ih =>
      intro A hA loc' h' y hat hy
      obtain ⟨a1, a2, a3, a4, a5, a6, a7⟩ := hat
      have hck := List.all_eq_true.mp c4 A hA
      unfold sx_c1 at hck
      obtain ⟨δ1, g1, r1⟩ := sx_ml_ok h00 a1 (rfl : sx_ml (σ0, []) A.2.1 = ((sx_ml (σ0, []) A.2.1).1, (sx_ml (σ0, []) A.2.1).2))
      have a2' : sx_hr (μ ++ δ1) A.2.2.1 h' := sx_hr_mono a2
      obtain ⟨δ2, g2, r2⟩ := sx_mqs_ok (x := A.2.2.2.2 :: A.2.2.2.1) g1 a2' (rfl : sx_mqs _ _ _ = ((sx_mqs (sx_ml (σ0, []) A.2.1).1 A.2.2.1 (A.2.2.2.2 :: A.2.2.2.1)).1, (sx_mqs (sx_ml (σ0, []) A.2.1).1 A.2.2.1 (A.2.2.2.2 :: A.2.2.2.1)).2))
      have r1' := sx_lr_mono (δ := δ2) r1
      dsimp only at hck
      split at hck
      · rename_i g3 hxa
        obtain ⟨g3', e1, e2⟩ := sx_xa_ok (s := []) (st := []) r1' trivial r2 g2 a5 hxa
        cases e1
        split at hck
        · rename_i m0 hm0
          obtain ⟨y', f1, f2⟩ := sx_xe_ok (s := []) (st := []) r1' trivial r2 hm0
          rw [a6] at f1
          cases f1
          split at hck
          · rename_i L hrun
            refine sx_run_ok hK hQ' fuel hrun (ν := μ ++ δ1 ++ δ2) (loc := loc') (st := []) (h := h') ⟨e2, by dsimp only; rw [a4]; exact r1', trivial, r2⟩ a3 ?_
            intro o ho δ loc2 st2 h2 hrr hfm hle
            rw [List.append_assoc, List.append_assoc] at hrr
            have hck1 := List.all_eq_true.mp hck o ho
            rw [← hμl] at hck1
            refine sx_ck_ok hck1 hU hrr hfm (hle.trans a4) ?_
            intro B hB yB hBat hlt
            refine ih B hB loc2 h2 yB hBat ?_
            have := hlt m0 rfl y (by rw [← List.append_assoc, ← List.append_assoc]; exact sx_ev_mono f2)
            omega
          · cases hck
        · cases hck
      · rename_i hxa
        obtain ⟨g3', e1, e2⟩ := sx_xa_ok (s := []) (st := []) r1' trivial r2 g2 a5 hxa
        cases e1
      · cases hck
  -- from the entry
  unfold sx_c0 at c3
  obtain ⟨δ1, g1, r1⟩ := sx_ml_ok h00 hl0 (rfl : sx_ml (σ0, []) (sx_lo (ik_ml C.1) C.2.1.1) = ((sx_ml (σ0, []) (sx_lo (ik_ml C.1) C.2.1.1)).1, (sx_ml (σ0, []) (sx_lo (ik_ml C.1) C.2.1.1)).2))
  have hh' : sx_hr (μ ++ δ1) C.2.1.2.1 h := sx_hr_mono hh
  obtain ⟨δ2, g2, r2⟩ := sx_mqs_ok (x := C.2.1.2.2) g1 hh' (rfl : sx_mqs _ _ _ = ((sx_mqs (sx_ml (σ0, []) (sx_lo (ik_ml C.1) C.2.1.1)).1 C.2.1.2.1 C.2.1.2.2).1, (sx_mqs (sx_ml (σ0, []) (sx_lo (ik_ml C.1) C.2.1.1)).1 C.2.1.2.1 C.2.1.2.2).2))
  have r1' := sx_lr_mono (δ := δ2) r1
  dsimp only at c3
  split at c3
  · rename_i g3 hxa
    obtain ⟨g3', e1, e2⟩ := sx_xa_ok (s := []) (st := []) r1' trivial r2 g2 hx hxa
    cases e1
    split at c3
    · rename_i L hrun
      refine sx_run_ok hK hQ' fuel hrun (ν := μ ++ δ1 ++ δ2) (st := []) (h := h) ⟨e2, r1', trivial, r2⟩ (sx_fm_refl _ _) ?_
      intro o ho δ loc2 st2 h2 hrr hfm hle
      rw [List.append_assoc, List.append_assoc] at hrr
      have hck1 := List.all_eq_true.mp c3 o ho
      rw [← hμl] at hck1
      refine sx_ck_ok hck1 hU hrr hfm hle ?_
      intro B hB yB hBat _
      refine hcut (yB.toNat + 1) B hB loc2 h2 yB hBat ?_
      have := hBat.2.2.2.2.2.2
      omega
    · cases c3
  · rename_i hxa
    obtain ⟨g3', e1, e2⟩ := sx_xa_ok (s := []) (st := []) r1' trivial r2 g2 hx hxa
    cases e1
  · cases c3
theorem sx_chk_ok {Q : List ik_E → Prop} {K : List sx_K} {sp : List (Nat × Nat)} {fuel : Nat} {C : sx_K} {cuts : List sx_N} (hK : ∀ D, D ∈ K → sx_hd Q D) (hQ : C.2.2.2.2 = true → ∀ h h', sx_fm C.2.2.1 h h' → Q h → Q h') (hc : sx_chk K sp fuel C cuts = true) : sx_hd Q C :=
  have h := sx_chL_ok (σ0 := (0, [])) hK hQ hc
  ⟨h.1, fun as hp => h.2 [] ⟨rfl, trivial⟩ as hp⟩
end
