noncomputable section
/-! SEGMENTS: from a place in the code, over states given by bounds and constraints, to cuts and returns. FACTS: one of some lists of constraints holds. -/
def sx_n2 (g : sx_G) (e : sx_E) : Bool := sx_nn g e || g.2.any (fun c => sx_nn g (sx_sub e c))
theorem sx_n2_ok {ν : List Int} {g : sx_G} (hg : sx_ok ν g) {e : sx_E} {y : Int} (he : sx_ev ν e = some y) (h : sx_n2 g e = true) : 0 ≤ y := by
  unfold sx_n2 at h
  rcases Bool.or_eq_true_iff.mp h with h | h
  · exact sx_nn_ok hg he h
  · obtain ⟨c, hc, h1⟩ := List.any_eq_true.mp h
    obtain ⟨w, hw, hw0⟩ := hg.2 c hc
    have := sx_nn_ok hg (sx_ev_sub he hw) h1
    omega
/-- constraints that hold -/
def sx_cx (loc : ik_L) (st : List Value) (h : List ik_E) (xs : List sx_X) : Prop := ∀ x, x ∈ xs → ∃ y, sx_xc loc st h x = some y ∧ 0 ≤ y
/-- the second, behind, is not less than the first, before -/
def sx_c2 (loc : ik_L) (h : List ik_E) (loc' : ik_L) (st' : List Value) (h' : List ik_E) (rl : List (sx_X × sx_X)) : Prop := ∀ p, p ∈ rl → ∃ y z, sx_xc loc [] h p.1 = some y ∧ sx_xc loc' st' h' p.2 = some z ∧ y ≤ z
def sx_x2 (l : sx_L) (s : List sx_V) (H : sx_H) (g : sx_G) (xs : List sx_X) : Bool := xs.all fun x => match sx_xe l s H x with
  | some e => sx_n2 g e
  | none => false
theorem sx_x2_ok {ν : List Int} {n : Nat} {g : sx_G} {l : sx_L} {s : List sx_V} {H : sx_H} {loc : ik_L} {st : List Value} {h : List ik_E} (hg : sx_ok ν g) (hl : sx_lr ν n l loc) (hs : sx_sr ν s st) (hh : sx_hr ν H h) {xs : List sx_X} (hx : sx_x2 l s H g xs = true) : sx_cx loc st h xs := by
  intro x hm
  have h1 := List.all_eq_true.mp hx x hm
  split at h1
  · rename_i e he
    obtain ⟨y, h2, h3⟩ := sx_xe_ok hl hs hh he
    exact ⟨y, h2, sx_n2_ok hg h3 h1⟩
  · cases h1
def sx_r2 (l0 : sx_L) (H0 : sx_H) (l : sx_L) (s : List sx_V) (H : sx_H) (g : sx_G) (rl : List (sx_X × sx_X)) : Bool := rl.all fun p => match sx_xe l0 [] H0 p.1, sx_xe l s H p.2 with
  | some e, some f => sx_n2 g (sx_sub f e)
  | _, _ => false
theorem sx_r2_ok {ν δ : List Int} {n : Nat} {g : sx_G} {l0 l : sx_L} {s : List sx_V} {H0 H : sx_H} {loc0 loc : ik_L} {st : List Value} {h0 h : List ik_E} (hl0 : sx_lr ν n l0 loc0) (hh0 : sx_hr ν H0 h0) (hg : sx_ok (ν ++ δ) g) (hl : sx_lr (ν ++ δ) n l loc) (hs : sx_sr (ν ++ δ) s st) (hh : sx_hr (ν ++ δ) H h) {rl : List (sx_X × sx_X)} (hx : sx_r2 l0 H0 l s H g rl = true) : sx_c2 loc0 h0 loc st h rl := by
  intro p hm
  have h1 := List.all_eq_true.mp hx p hm
  split at h1
  · rename_i e f he hf
    obtain ⟨y, h2, h3⟩ := sx_xe_ok (s := []) (st := []) hl0 trivial hh0 he
    obtain ⟨z, h4, h5⟩ := sx_xe_ok hl hs hh hf
    have := sx_n2_ok hg (sx_ev_sub h5 (sx_ev_mono h3)) h1
    exact ⟨y, z, h2, h4, by omega⟩
  · cases h1
/-- an end: a return?, the place of a cut, locals (cut), value (return), cells, constraints, comparisons with the beginning -/
abbrev sx_U : Type := Bool × Nat × sx_L × List sx_V × sx_H × List sx_X × List (sx_X × sx_X)
def sx_uo (mid : Nat) (l0 : sx_L) (H0 : sx_H) (O : sx_U) (o : sx_O) : Bool := match o with
  | (true, pc, g, l, s, H) => O.1 && (match ik_at mid pc with
    | some ir => (match sx_rc g (ik_rt mid) ir s with
      | some rv => sx_lvs 0 g rv O.2.2.2.1 && sx_lh 0 g H O.2.2.2.2.1 && (match sx_mqs g H (O.2.2.2.2.2.1 ++ O.2.2.2.2.2.2.map (fun p => p.2)) with
        | (g', H') => sx_x2 l rv H' g' O.2.2.2.2.2.1 && sx_r2 l0 H0 l rv H' g' O.2.2.2.2.2.2)
      | none => false)
    | none => false)
  | (false, pc, g, l, s, H) => !O.1 && (Nat.beq O.2.1 pc && s.isEmpty && sx_ll 0 g (sx_hn H) l O.2.2.1 && sx_lh 0 g H O.2.2.2.2.1 && (match sx_mqs g H (O.2.2.2.2.2.1 ++ O.2.2.2.2.2.2.map (fun p => p.2)) with
    | (g', H') => sx_x2 l [] H' g' O.2.2.2.2.2.1 && sx_r2 l0 H0 l [] H' g' O.2.2.2.2.2.2))
def sx_ur (mid : Nat) (M : sx_M) (loc : ik_L) (h : List ik_E) (O : sx_U) (pc' : Nat) (loc' : ik_L) (st' : List Value) (h' : List ik_E) : Prop := sx_fm M h h' ∧ h'.length = h.length ∧ sx_hr [] O.2.2.2.2.1 h' ∧ ∃ ir rv, ik_at mid pc' = some ir ∧ ik_rv (ik_rt mid) ir st' = some rv ∧ sx_sr [] O.2.2.2.1 rv ∧ sx_cx loc' rv h' O.2.2.2.2.2.1 ∧ sx_c2 loc h loc' rv h' O.2.2.2.2.2.2
def sx_uc (M : sx_M) (loc : ik_L) (h : List ik_E) (O : sx_U) (loc' : ik_L) (h' : List ik_E) : Prop := sx_fm M h h' ∧ h'.length = h.length ∧ sx_hr [] O.2.2.2.2.1 h' ∧ sx_lr [] h.length O.2.2.1 loc' ∧ sx_cx loc' [] h' O.2.2.2.2.2.1 ∧ sx_c2 loc h loc' [] h' O.2.2.2.2.2.2
def sx_sg (K : List sx_K) (sp : List (Nat × Nat)) (M : sx_M) (uq : Bool) (fuel mid pc : Nat) (L0 : sx_L) (H0 : sx_H) (mat xs : List sx_X) (cuts : List Nat) (outs : List sx_U) : Bool := match sx_ml ((0, []), []) L0 with
  | (g1, l1) => (match sx_mqs g1 H0 (xs ++ mat) with
    | (g2, H2) => (match sx_xa l1 [] H2 xs g2 with
      | some (some g3) => (match sx_run K sp M uq fuel mid cuts true pc (g3, l1, [], H2) with
        | some L => L.all (fun o => outs.any (fun O => sx_uo mid l1 H2 O o))
        | none => false)
      | some none => true
      | none => false))
theorem sx_seg {Q : List ik_E → Prop} {K : List sx_K} {sp : List (Nat × Nat)} {M : sx_M} {uq : Bool} {fuel mid pc : Nat} {L0 : sx_L} {H0 : sx_H} {mat xs : List sx_X} {cuts : List Nat} {outs : List sx_U} (hK : ∀ C, C ∈ K → sx_hd Q C) (hck : sx_sg K sp M uq fuel mid pc L0 H0 mat xs cuts outs = true) {X : Option (Nat × (Nat → Int32))} {loc : ik_L} {h : List ik_E} {cl sl : Nat} {post : ik_St → Prop} (hl : sx_lr [] h.length L0 loc) (hh : sx_hr [] H0 h) (hx : sx_cx loc [] h xs) (hQ : uq = true → ∀ h', sx_fm M h h' → Q h')
    (kr : ∀ O, O ∈ outs → O.1 = true → ∀ pc' loc' st' h', sx_ur mid M loc h O pc' loc' st' h' → post (pc', loc', st', h', cl, sl))
    (kc : ∀ O, O ∈ outs → O.1 = false → ∀ loc' h', sx_uc M loc h O loc' h' → ik_W X mid O.2.1 loc' [] h' cl sl post) : ik_W X mid pc loc [] h cl sl post := by
  unfold sx_sg at hck
  have h00 : sx_ok [] (((0, []), []) : sx_G) := ⟨⟨rfl, trivial⟩, fun c hc => by cases hc⟩
  obtain ⟨δ1, g1, r1⟩ := sx_ml_ok h00 hl (rfl : sx_ml ((0, []), []) L0 = ((sx_ml ((0, []), []) L0).1, (sx_ml ((0, []), []) L0).2))
  have hh' : sx_hr ([] ++ δ1) H0 h := sx_hr_mono hh
  obtain ⟨δ2, g2, r2⟩ := sx_mqs_ok (x := xs ++ mat) g1 hh' (rfl : sx_mqs _ _ _ = ((sx_mqs (sx_ml ((0, []), []) L0).1 H0 (xs ++ mat)).1, (sx_mqs (sx_ml ((0, []), []) L0).1 H0 (xs ++ mat)).2))
  have r1' := sx_lr_mono (δ := δ2) r1
  dsimp only at hck
  split at hck
  · rename_i g3 hxa
    obtain ⟨g3', e1, e2⟩ := sx_xa_ok (s := []) (st := []) r1' trivial r2 g2 hx hxa
    cases e1
    split at hck
    · rename_i L hrun
      refine sx_run_ok hK hQ fuel hrun (ν := [] ++ δ1 ++ δ2) (st := []) (h := h) ⟨e2, r1', trivial, r2⟩ (sx_fm_refl _ _) ?_
      intro o ho δ loc2 st2 h2 hrr hfm hle
      obtain ⟨O, hO, hc⟩ := List.any_eq_true.mp (List.all_eq_true.mp hck o ho)
      obtain ⟨b, pc2, g, l, s, H⟩ := o
      obtain ⟨q1, q2, q3, q4⟩ := hrr
      dsimp only at q1 q2 q3 q4
      rw [hle] at q2
      have hsub : ∀ (δ' : List Int), ([] ++ δ1 ++ δ2) ++ δ ++ δ' = ([] ++ δ1 ++ δ2) ++ (δ ++ δ') := fun δ' => List.append_assoc _ _ _
      cases b with
      | true =>
        refine ⟨fun _ _ => ?_, fun q => nomatch q⟩
        simp only [sx_uo] at hc
        obtain ⟨c0, hc⟩ := Bool.and_eq_true_iff.mp hc
        refine kr O hO c0 pc2 loc2 st2 h2 ⟨hfm, hle, ?_⟩
        split at hc
        · rename_i ir hir
          split at hc
          · rename_i rv hrv
            obtain ⟨p1, p3⟩ := Bool.and_eq_true_iff.mp hc
            obtain ⟨p1, p2⟩ := Bool.and_eq_true_iff.mp p1
            obtain ⟨rw', w1, w2⟩ := sx_rc_ok q1 q3 hrv
            obtain ⟨δ', f1, f2⟩ := sx_mqs_ok (x := O.2.2.2.2.2.1 ++ O.2.2.2.2.2.2.map (fun p => p.2)) q1 q4 (rfl : sx_mqs _ _ _ = ((sx_mqs g H (O.2.2.2.2.2.1 ++ O.2.2.2.2.2.2.map (fun p => p.2))).1, (sx_mqs g H (O.2.2.2.2.2.1 ++ O.2.2.2.2.2.2.map (fun p => p.2))).2))
            obtain ⟨p4, p5⟩ := Bool.and_eq_true_iff.mp p3
            have q2' := sx_lr_mono (δ := δ') q2
            have w2' := sx_sr_mono (δ := δ') w2
            refine ⟨sx_lh_ok (μ := []) (δ := ([] ++ δ1 ++ δ2) ++ δ) q1 q4 p2, ir, rw', hir, w1, sx_lvs_ok (μ := []) (δ := ([] ++ δ1 ++ δ2) ++ δ) q1 w2 p1, sx_x2_ok f1 q2' w2' f2 p4, ?_⟩
            rw [hsub] at f1 q2' w2' f2
            exact sx_r2_ok r1' r2 f1 q2' w2' f2 p5
          · cases hc
        · cases hc
      | false =>
        refine ⟨(fun q => nomatch q), fun _ => ?_⟩
        simp only [sx_uo] at hc
        obtain ⟨c0, hc⟩ := Bool.and_eq_true_iff.mp hc
        obtain ⟨p1, p5⟩ := Bool.and_eq_true_iff.mp hc
        obtain ⟨p1, p4⟩ := Bool.and_eq_true_iff.mp p1
        obtain ⟨p1, p3⟩ := Bool.and_eq_true_iff.mp p1
        obtain ⟨p1, p2⟩ := Bool.and_eq_true_iff.mp p1
        have hpc := Nat.eq_of_beq_eq_true p1
        have hs0 : s = [] := List.isEmpty_iff.mp p2
        subst hs0
        have hst := sx_nil q3
        subst hst
        dsimp only
        rw [← hpc]
        have c1 : O.1 = false := by
          cases ho1 : O.1 with
          | false => rfl
          | true => rw [ho1] at c0; cases c0
        obtain ⟨δ', f1, f2⟩ := sx_mqs_ok (x := O.2.2.2.2.2.1 ++ O.2.2.2.2.2.2.map (fun p => p.2)) q1 q4 (rfl : sx_mqs _ _ _ = ((sx_mqs g H (O.2.2.2.2.2.1 ++ O.2.2.2.2.2.2.map (fun p => p.2))).1, (sx_mqs g H (O.2.2.2.2.2.1 ++ O.2.2.2.2.2.2.map (fun p => p.2))).2))
        obtain ⟨p6, p7⟩ := Bool.and_eq_true_iff.mp p5
        have q2' := sx_lr_mono (δ := δ') q2
        refine kc O hO c1 loc2 h2 ⟨hfm, hle, sx_lh_ok (μ := []) (δ := ([] ++ δ1 ++ δ2) ++ δ) q1 q4 p4, sx_ll_ok (μ := []) (δ := ([] ++ δ1 ++ δ2) ++ δ) q1 (by rw [← hle]; exact q4.1) q2 p3, sx_x2_ok (s := []) (st := []) f1 q2' trivial f2 p6, ?_⟩
        rw [hsub] at f1 q2' f2
        exact sx_r2_ok (s := []) (st := []) r1' r2 f1 q2' trivial f2 p7
    · cases hck
  · rename_i hxa
    obtain ⟨g3', e1, e2⟩ := sx_xa_ok (s := []) (st := []) r1' trivial r2 g2 hx hxa
    cases e1
  · cases hck
/-! facts -/
abbrev sx_D : Type := List (List sx_X)
def sx_dh (h : List ik_E) (d : sx_D) : Prop := ∃ r, r ∈ d ∧ sx_cx [] [] h r
/-- over the heap alone -/
def sx_ho (x : sx_X) : Bool := x.2.all fun p => Nat.beq p.2.1 1
def sx_ut (M : sx_M) (x : sx_X) : Bool := x.2.all fun p => Nat.beq p.2.1 1 && !(sx_md M p.2.2.1 p.2.2.2)
theorem sx_lk_ho {loc : ik_L} {st : List Value} {h : List ik_E} {q : sx_Q} (hq : Nat.beq q.1 1 = true) : sx_lk loc st h q = sx_lk [] [] h q := by
  obtain ⟨n, a, k⟩ := q
  have := Nat.eq_of_beq_eq_true hq
  dsimp only at this
  subst this
  rfl
theorem sx_xk_ho {loc : ik_L} {st : List Value} {h : List ik_E} : ∀ {x : List (Int × sx_Q)}, x.all (fun p => Nat.beq p.2.1 1) = true → sx_xk loc st h x = sx_xk [] [] h x
  | [], _ => rfl
  | (k, q) :: r, hx => by
    simp only [List.all_cons] at hx
    obtain ⟨h1, h2⟩ := Bool.and_eq_true_iff.mp hx
    simp only [sx_xk]
    rw [sx_lk_ho h1, sx_xk_ho h2]
theorem sx_xc_ho {loc : ik_L} {st : List Value} {h : List ik_E} {x : sx_X} (hx : sx_ho x = true) : sx_xc loc st h x = sx_xc [] [] h x := by
  unfold sx_xc
  rw [sx_xk_ho hx]
theorem sx_xk_ut {M : sx_M} {h h' : List ik_E} (hf : sx_fm M h h') : ∀ {x : List (Int × sx_Q)} {y : Int}, x.all (fun p => Nat.beq p.2.1 1 && !(sx_md M p.2.2.1 p.2.2.2)) = true → sx_xk [] [] h x = some y → sx_xk [] [] h' x = some y
  | [], _, _, hy => hy
  | (c, n, a, k) :: r, y, hx, hy => by
    simp only [List.all_cons] at hx
    obtain ⟨h1, h2⟩ := Bool.and_eq_true_iff.mp hx
    obtain ⟨h0, h1⟩ := Bool.and_eq_true_iff.mp h1
    have hn := Nat.eq_of_beq_eq_true h0
    (try dsimp only at hn); (try dsimp only at h1)
    subst hn
    have hmd : sx_md M a k = false := by
      cases hb : sx_md M a k with
      | false => rfl
      | true => rw [hb] at h1; cases h1
    simp only [sx_xk] at hy ⊢
    split at hy
    · rename_i e f he hfe
      rw [sx_xk_ut hf h2 hfe]
      have : sx_lk [] [] h' (1, a, k) = some e := by
        simp only [sx_lk] at he ⊢
        split at he
        · rename_i d hd
          obtain ⟨d', e1, _, _, e4⟩ := hf.2 a d hd
          rw [e1]
          dsimp only
          rw [e4 k hmd]
          exact he
        · cases he
      rw [this]
      exact hy
    · cases hy
theorem sx_xc_ut {M : sx_M} {h h' : List ik_E} (hf : sx_fm M h h') {x : sx_X} {y : Int} (hx : sx_ut M x = true) (hy : sx_xc [] [] h x = some y) : sx_xc [] [] h' x = some y := by
  unfold sx_xc at hy ⊢
  split at hy
  · rename_i e he
    rw [sx_xk_ut hf hx he]
    exact hy
  · cases hy
/-- a fact behind out of a fact before -/
def sx_dj (M : sx_M) (xs : List sx_X) (rl : List (sx_X × sx_X)) (d d' : sx_D) : Bool := d.all fun r => d'.any fun r' => r'.all fun x => sx_ho x && (xs.contains x || (r.contains x && sx_ut M x) || rl.any (fun p => p.2 == x && r.contains p.1 && sx_ho p.1))
theorem sx_dj_ok {M : sx_M} {xs : List sx_X} {rl : List (sx_X × sx_X)} {d d' : sx_D} {loc loc' : ik_L} {st' : List Value} {h h' : List ik_E} (hf : sx_fm M h h') (hx : sx_cx loc' st' h' xs) (hr : sx_c2 loc h loc' st' h' rl) (hd : sx_dh h d) (hj : sx_dj M xs rl d d' = true) : sx_dh h' d' := by
  obtain ⟨r, hm, hr0⟩ := hd
  obtain ⟨r', hm', h1⟩ := List.any_eq_true.mp (List.all_eq_true.mp hj r hm)
  refine ⟨r', hm', ?_⟩
  intro x hxm
  obtain ⟨ho, h2⟩ := Bool.and_eq_true_iff.mp (List.all_eq_true.mp h1 x hxm)
  rcases Bool.or_eq_true_iff.mp h2 with h2 | h2
  · rcases Bool.or_eq_true_iff.mp h2 with h2 | h2
    · obtain ⟨y, e1, e2⟩ := hx x (List.contains_iff_mem.mp h2)
      exact ⟨y, by rw [← sx_xc_ho (loc := loc') (st := st') ho]; exact e1, e2⟩
    · obtain ⟨c1, c2⟩ := Bool.and_eq_true_iff.mp h2
      obtain ⟨y, e1, e2⟩ := hr0 x (List.contains_iff_mem.mp c1)
      exact ⟨y, sx_xc_ut hf c2 e1, e2⟩
  · obtain ⟨p, hp, c1⟩ := List.any_eq_true.mp h2
    obtain ⟨c1, c3⟩ := Bool.and_eq_true_iff.mp c1
    obtain ⟨c1, c2⟩ := Bool.and_eq_true_iff.mp c1
    have hpx : p.2 = x := eq_of_beq c1
    obtain ⟨y, z, e1, e2, e3⟩ := hr p hp
    obtain ⟨w, f1, f2⟩ := hr0 p.1 (List.contains_iff_mem.mp c2)
    rw [sx_xc_ho c3] at e1
    rw [e1] at f1
    cases f1
    refine ⟨z, ?_, by omega⟩
    rw [← sx_xc_ho (loc := loc') (st := st') ho, ← hpx]
    exact e2
/-- facts that a change leaves alone -/
def sx_dut (M : sx_M) (d : sx_D) : Bool := d.all fun r => r.all (sx_ut M)
theorem sx_dut_ok {M : sx_M} {d : sx_D} {h h' : List ik_E} (hf : sx_fm M h h') (hd : sx_dh h d) (hu : sx_dut M d = true) : sx_dh h' d := by
  obtain ⟨r, hm, hr⟩ := hd
  refine ⟨r, hm, fun x hx => ?_⟩
  obtain ⟨y, e1, e2⟩ := hr x hx
  exact ⟨y, sx_xc_ut hf (List.all_eq_true.mp (List.all_eq_true.mp hu r hm) x hx) e1, e2⟩
end
