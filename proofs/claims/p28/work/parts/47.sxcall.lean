noncomputable section
/-! contracts and calls of the executor -/
abbrev sx_P : Type := List sx_V × sx_H × List sx_X
/-- method; arguments, cells, constraints before; what may change; ends: value, cells, constraints; does it want the premise on the heap -/
abbrev sx_K : Type := Nat × (List sx_V × sx_H × List sx_X) × sx_M × List sx_P × Bool
def sx_aa : List sx_V → sx_L
  | [] => []
  | v :: r => bif Nat.beq (sx_ct v) 2 then some v :: none :: sx_aa r else some v :: sx_aa r
def sx_lo (n : Nat) (as : List sx_V) : sx_L := sx_aa as ++ List.replicate (n - (sx_aa as).length) none
theorem sx_aa_ok {ν : List Int} {n : Nat} : ∀ {as : List sx_V} {vs : List Value}, sx_sr ν as vs → sx_lr ν n (sx_aa as) (ik_args vs)
  | [], [], _ => trivial
  | a :: as, v :: vs, h => by
    have hc := sx_ct_ok h.1
    simp only [sx_aa, ik_args]
    cases hb : Nat.beq (sx_ct a) 2 with
    | true =>
      rw [if_pos (hc.trans (Nat.eq_of_beq_eq_true hb))]
      exact ⟨⟨v, rfl, h.1⟩, rfl, sx_aa_ok h.2⟩
    | false =>
      rw [if_neg (by rw [hc]; exact Nat.ne_of_beq_eq_false hb)]
      exact ⟨⟨v, rfl, h.1⟩, sx_aa_ok h.2⟩
  | [], _ :: _, h => h.elim
  | _ :: _, [], h => h.elim
theorem sx_lr_app {ν : List Int} {n : Nat} : ∀ {as bs : sx_L} {l m : ik_L}, sx_lr ν n as l → sx_lr ν n bs m → sx_lr ν n (as ++ bs) (l ++ m)
  | [], _, [], _, _, h => h
  | none :: _, _, _ :: _, _, h, h2 => ⟨h.1, sx_lr_app h.2 h2⟩
  | some _ :: _, _, _ :: _, _, h, h2 => ⟨h.1, sx_lr_app h.2 h2⟩
  | [], _, _ :: _, _, h, _ => h.elim
  | none :: _, _, [], _, h, _ => h.elim
  | some _ :: _, _, [], _, h, _ => h.elim
theorem sx_lr_rep {ν : List Int} {n : Nat} : ∀ (k : Nat), sx_lr ν n (List.replicate k none) (List.replicate k none)
  | 0 => trivial
  | k + 1 => by
    rw [List.replicate_succ, List.replicate_succ]
    exact ⟨rfl, sx_lr_rep k⟩
theorem sx_lo_ok {ν : List Int} {n m : Nat} {as : List sx_V} {vs : List Value} (h : sx_sr ν as vs) : sx_lr ν n (sx_lo m as) (ik_loc m vs) := by
  have h1 := sx_aa_ok (n := n) h
  unfold sx_lo ik_loc
  rw [sx_lr_len h1]
  exact sx_lr_app h1 (sx_lr_rep _)
/-! the heap behind a call -/
def sx_mt (M : sx_M) (a : Nat) : Bool := M.any fun p => Nat.beq p.1 a
theorem sx_mt_md {M : sx_M} {a : Nat} (h : sx_mt M a = false) (k : Nat) : sx_md M a k = false := by
  cases hq : sx_md M a k with
  | false => rfl
  | true =>
    unfold sx_md at hq
    obtain ⟨p, hp, h1⟩ := List.any_eq_true.mp hq
    have : sx_mt M a = true := List.any_eq_true.mpr ⟨p, hp, (Bool.and_eq_true_iff.mp h1).1⟩
    rw [this] at h; cases h
def sx_mw (M : sx_M) (P : sx_H) : Bool := M.all fun p => match sx_hg P p.1 with
  | some (some _) => true
  | _ => false
theorem sx_mw_ok {M : sx_M} {P : sx_H} (h : sx_mw M P = true) {a : Nat} (ha : ∀ c, ¬ sx_hg P a = some (some c)) : sx_mt M a = false := by
  cases hq : sx_mt M a with
  | false => rfl
  | true =>
    unfold sx_mt at hq
    obtain ⟨p, hp, h1⟩ := List.any_eq_true.mp hq
    have hpa := Nat.eq_of_beq_eq_true h1
    have := List.all_eq_true.mp h p hp
    rw [hpa] at this
    split at this
    · rename_i c hc
      exact absurd hc (ha c)
    · cases this
def sx_mxl (M : sx_M) (a : Nat) : Nat → List sx_V → List sx_V → List sx_V
  | k, x :: as, y :: bs => (bif sx_md M a k then y else x) :: sx_mxl M a (k + 1) as bs
  | _, _, _ => []
theorem sx_mxl_ok {ν : List Int} {M : sx_M} {a : Nat} : ∀ {as bs : List sx_V} {us vs : List Value} {j : Nat}, sx_sr ν as us → sx_sr [] bs vs → vs.length = us.length → (∀ k, sx_md M a (j + k) = false → vs[k]? = us[k]?) → sx_sr ν (sx_mxl M a j as bs) vs
  | [], [], [], [], j, _, _, _, _ => trivial
  | x :: as, y :: bs, u :: us, v :: vs, j, h1, h2, hl, he => by
    simp only [sx_mxl]
    refine ⟨?_, sx_mxl_ok h1.2 h2.2 (by simpa using hl) fun k hk => ?_⟩
    · cases hq : sx_md M a j with
      | true => exact sx_vr_mono (ν := []) (δ := ν) h2.1
      | false =>
        have := he 0 hq
        simp only [List.getElem?_cons_zero, Option.some.injEq] at this
        rw [this]
        exact h1.1
    · have := he (k + 1) (by rw [show j + (k + 1) = j + 1 + k by omega]; exact hk)
      simpa using this
  | [], _, _ :: _, _, _, h, _, _, _ => h.elim
  | _ :: _, _, [], _, _, h, _, _, _ => h.elim
  | _, [], _, _ :: _, _, _, h, _, _ => h.elim
  | _, _ :: _, _, [], _, _, h, _, _ => h.elim
  | [], _ :: _, [], _ :: _, _, _, _, hl, _ => by simp at hl
  | _ :: _, [], _ :: _, [], _, _, _, hl, _ => by simp at hl
theorem sx_md_f {M : sx_M} {a k : Nat} : sx_md (M.filter fun p => Nat.beq p.1 a) a k = sx_md M a k := by
  unfold sx_md
  rw [List.any_filter]
  congr 1
  funext p
  cases Nat.beq p.1 a <;> rfl
def sx_mxc (M : sx_M) (a : Nat) (c d : Option sx_C) : Option sx_C := match d with
  | none => c
  | some d => bif sx_mt M a then (match d with
    | .inl (cj, bs) => (match c with
      | some (.inl (ci, as)) => bif Nat.beq ci cj then some (.inl (ci, sx_mxl (M.filter fun p => Nat.beq p.1 a) a 0 as bs)) else none
      | _ => none)
    | .inr (.inl (t, bs)) => (match c with
      | some (.inr (.inl (u, as))) => bif Nat.beq u t then some (.inr (.inl (t, sx_mxl (M.filter fun p => Nat.beq p.1 a) a 0 as bs))) else none
      | some (.inr (.inr (u, n, l, h))) => bif Nat.beq u t then some (.inr (.inl (t, sx_mxl (M.filter fun p => Nat.beq p.1 a) a 0 (List.replicate n (sx_bv u l h)) bs))) else none
      | _ => none)
    | .inr (.inr p) => some (.inr (.inr p))) else c
def sx_mxhl (M : sx_M) : Nat → List (Option sx_C) → List (Option sx_C) → List (Option sx_C)
  | a, c :: H, d :: P => sx_mxc M a c d :: sx_mxhl M (a + 1) H P
  | _, H, _ => H
theorem sx_mxhl_len {M : sx_M} : ∀ {H P : List (Option sx_C)} {j : Nat}, (sx_mxhl M j H P).length = H.length
  | c :: H, d :: P, j => by simp only [sx_mxhl, List.length_cons]; rw [sx_mxhl_len]
  | [], _, _ => rfl
  | _ :: _, [], _ => rfl
theorem sx_mxhl_get {M : sx_M} : ∀ {H P : List (Option sx_C)} {j a : Nat} {o : Option sx_C}, (sx_mxhl M j H P)[a]? = some o → ∃ c, H[a]? = some c ∧ ((P[a]? = none ∧ o = c) ∨ ∃ d, P[a]? = some d ∧ o = sx_mxc M (j + a) c d)
  | c :: H, d :: P, j, 0, o, h => by
    simp only [sx_mxhl, List.getElem?_cons_zero, Option.some.injEq] at h
    exact ⟨c, rfl, Or.inr ⟨d, rfl, h.symm⟩⟩
  | c :: H, d :: P, j, a + 1, o, h => by
    simp only [sx_mxhl, List.getElem?_cons_succ] at h ⊢
    have := sx_mxhl_get h
    rw [show j + (a + 1) = j + 1 + a by omega]
    exact this
  | [], _, _, _, _, h => by simp [sx_mxhl] at h
  | c :: H, [], j, a, o, h => by
    simp only [sx_mxhl] at h
    exact ⟨o, h, Or.inl ⟨by simp, rfl⟩⟩
def sx_mxh (M : sx_M) (H P : sx_H) : sx_H := (sx_mxhl M 0 H.1 P.1, sx_mxhl M 66 H.2 P.2)
theorem sx_mxh_len {M : sx_M} {H P : sx_H} : sx_hn (sx_mxh M H P) = sx_hn H := by
  unfold sx_hn sx_mxh
  rw [sx_mxhl_len]
theorem sx_mxh_get {M : sx_M} {H P : sx_H} {a : Nat} {o : Option sx_C} (h : sx_hg (sx_mxh M H P) a = some o) : ∃ c, sx_hg H a = some c ∧ ((sx_hg P a = none ∧ o = c) ∨ ∃ d, sx_hg P a = some d ∧ o = sx_mxc M a c d) := by
  unfold sx_hg at h ⊢
  unfold sx_mxh at h
  cases ha : Nat.blt a 66 <;> rw [ha] at h <;> simp only [cond_true, cond_false, sx_get_eq] at h ⊢
  · have := sx_mxhl_get h
    rw [show 66 + (a - 66) = a by have := sx_bltf ha; omega] at this
    exact this
  · have := sx_mxhl_get h
    rw [Nat.zero_add] at this
    exact this
theorem sx_pt_eq {d e : ik_E} (h1 : (sx_pt d).1 = (sx_pt e).1) (h2 : ∀ k : Nat, (sx_pt d).2[k]? = (sx_pt e).2[k]?) : d = e := by
  rcases d with ⟨t, vs⟩ | ⟨t, vs⟩ <;> rcases e with ⟨u, ws⟩ | ⟨u, ws⟩
  · cases h1
    have : vs = ws := List.ext_getElem? h2
    rw [this]
  · cases h1
  · cases h1
  · cases h1
    have : vs = ws := List.ext_getElem? h2
    rw [this]
theorem sx_mxh_ok {ν : List Int} {M : sx_M} {H P : sx_H} {h h' : List ik_E} (hh : sx_hr ν H h) (hp : sx_hr [] P h') (hf : sx_fm M h h') (hw : sx_mw M P = true) : sx_hr ν (sx_mxh M H P) h' := by
  refine ⟨by rw [sx_mxh_len, hf.1]; exact hh.1, fun a c' hc => ?_⟩
  obtain ⟨c, h1, h2⟩ := sx_mxh_get hc
  have same : sx_mt M a = false → some c' = c → ∃ d, h'[a]? = some d ∧ sx_cr ν c' d := by
    intro hm hcc
    subst hcc
    obtain ⟨d0, hd0, hr⟩ := hh.2 a c' h1
    obtain ⟨d, hd, t1, l1, e1⟩ := hf.2 a d0 hd0
    have : d = d0 := sx_pt_eq t1 fun k => e1 k (sx_mt_md hm k)
    rw [this] at hd
    exact ⟨d0, hd, hr⟩
  rcases h2 with ⟨h2, h3⟩ | ⟨d, h2, h3⟩
  · exact same (sx_mw_ok hw fun c0 q => by rw [h2] at q; cases q) h3
  · rcases d with _ | d
    · exact same (sx_mw_ok hw fun c0 q => by rw [h2] at q; cases q) h3
    · cases hm : sx_mt M a with
      | false =>
        simp only [sx_mxc, hm, cond_false] at h3
        exact same hm h3
      | true =>
        rcases d with ⟨cj, bs⟩ | ⟨t, bs⟩ | p
        · simp only [sx_mxc, hm, cond_true] at h3
          split at h3
          · rename_i ci as
            cases hb : Nat.beq ci cj with
            | false => rw [hb] at h3; cases h3
            | true =>
              rw [hb] at h3
              cases h3
              obtain ⟨d0, hd0, us, q1, q2⟩ := hh.2 a _ h1
              subst q1
              obtain ⟨d, hd, t1, l1, e1⟩ := hf.2 a _ hd0
              obtain ⟨d', hd', vs, q3, q4⟩ := hp.2 a _ h2
              rw [hd] at hd'
              cases hd'
              subst q3
              cases t1
              exact ⟨_, hd, vs, rfl, sx_mxl_ok q2 q4 l1 fun k hk => e1 k (by rw [Nat.zero_add, sx_md_f] at hk; exact hk)⟩
          · cases h3
        · simp only [sx_mxc, hm, cond_true] at h3
          split at h3
          · rename_i u as
            cases hb : Nat.beq u t with
            | false => rw [hb] at h3; cases h3
            | true =>
              rw [hb] at h3
              cases h3
              have hut := Nat.eq_of_beq_eq_true hb
              subst hut
              obtain ⟨d0, hd0, us, q1, q2⟩ := hh.2 a _ h1
              subst q1
              obtain ⟨d, hd, t1, l1, e1⟩ := hf.2 a _ hd0
              obtain ⟨d', hd', vs, q3, q4⟩ := hp.2 a _ h2
              rw [hd] at hd'
              cases hd'
              subst q3
              exact ⟨_, hd, vs, rfl, sx_mxl_ok q2 q4 l1 fun k hk => e1 k (by rw [Nat.zero_add, sx_md_f] at hk; exact hk)⟩
          · rename_i u n lo hi
            cases hb : Nat.beq u t with
            | false => rw [hb] at h3; cases h3
            | true =>
              rw [hb] at h3
              cases h3
              have hut := Nat.eq_of_beq_eq_true hb
              subst hut
              obtain ⟨d0, hd0, us, q1, q2, q2'⟩ := hh.2 a _ h1
              subst q1
              dsimp only at q2 q2'
              obtain ⟨d, hd, t1, l1, e1⟩ := hf.2 a _ hd0
              obtain ⟨d', hd', vs, q3, q4⟩ := hp.2 a _ h2
              rw [hd] at hd'
              cases hd'
              subst q3
              have q5 : sx_sr [] (List.replicate n (sx_bv u lo hi)) us := sx_sr_all (by rw [List.length_replicate]; exact q2.symm) fun b v hb' hv => by
                rw [List.eq_of_mem_replicate hb']
                exact q2' v hv
              exact ⟨_, hd, vs, rfl, sx_mxl_ok (sx_sr_mono (ν := []) (δ := ν) q5) q4 l1 fun k hk => e1 k (by rw [Nat.zero_add, sx_md_f] at hk; exact hk)⟩
          · cases h3
        · simp only [sx_mxc, hm, cond_true] at h3
          cases h3
          obtain ⟨d', hd', hr⟩ := hp.2 a _ h2
          exact ⟨d', hd', hr⟩
/-! contracts -/
def sx_pp (C : sx_K) (as : List Value) (h : List ik_E) (z : ik_St) : Prop := ∃ ir rv P, P ∈ C.2.2.2.1 ∧ ik_at C.1 z.1 = some ir ∧ ik_rv (ik_rt C.1) ir z.2.2.1 = some rv ∧ sx_sr [] P.1 rv ∧ sx_hr [] P.2.1 z.2.2.2.1 ∧ sx_fm C.2.2.1 h z.2.2.2.1 ∧ (∀ x, x ∈ P.2.2 → ∃ y, sx_xc (ik_loc (ik_ml C.1) as) rv z.2.2.2.1 x = some y ∧ 0 ≤ y) ∧ z.2.2.2.2.1 = 0 ∧ z.2.2.2.2.2 = 0
def sx_hd (Q : List ik_E → Prop) (C : sx_K) : Prop := (∀ P, P ∈ C.2.2.2.1 → sx_mw C.2.2.1 P.2.1 = true) ∧ ∀ (as : List Value) (h : List ik_E), sx_sr [] C.2.1.1 as → sx_hr [] C.2.1.2.1 h → (∀ x, x ∈ C.2.1.2.2 → ∃ y, sx_xc (ik_loc (ik_ml C.1) as) [] h x = some y ∧ 0 ≤ y) → (C.2.2.2.2 = true → Q h) → ik_W none C.1 0 (ik_loc (ik_ml C.1) as) [] h 0 0 (sx_pp C as h)
theorem sx_W_mono {X : Option (Nat × (Nat → Int32))} {mid pc : Nat} {loc : ik_L} {st : List Value} {h : List ik_E} {cl sl : Nat} {p p' : ik_St → Prop} (hw : ik_W X mid pc loc st h cl sl p) (hp : ∀ z, p z → p' z) : ik_W X mid pc loc st h cl sl p' := by
  obtain ⟨n, z, h1, h2⟩ := hw
  exact ⟨n, z, h1, hp z h2⟩
def sx_po (l0 : sx_L) (M : sx_M) (g : sx_G) (H : sx_H) (P : sx_P) : Option (Option (sx_G × List sx_V × sx_H)) := match sx_ms g P.1 with
  | (g1, rv) => (match sx_mqs g1 (sx_mxh M H P.2.1) P.2.2 with
    | (g2, H2) => (match sx_xa l0 rv H2 P.2.2 g2 with
      | some (some g3) => some (some (g3, rv, H2))
      | some none => some none
      | none => none))
theorem sx_po_ok {ν : List Int} {n : Nat} {l0 : sx_L} {M : sx_M} {g : sx_G} {H : sx_H} {P : sx_P} {loc : ik_L} {h h' : List ik_E} {rv : List Value} {o : Option (sx_G × List sx_V × sx_H)} (hg : sx_ok ν g) (hl : sx_lr ν n l0 loc) (hh : sx_hr ν H h) (hr : sx_sr [] P.1 rv) (hp : sx_hr [] P.2.1 h') (hf : sx_fm M h h') (hw : sx_mw M P.2.1 = true) (hx : ∀ x, x ∈ P.2.2 → ∃ y, sx_xc loc rv h' x = some y ∧ 0 ≤ y) (ho : sx_po l0 M g H P = some o) : ∃ S δ, o = some S ∧ sx_ok (ν ++ δ) S.1 ∧ sx_sr (ν ++ δ) S.2.1 rv ∧ sx_hr (ν ++ δ) S.2.2 h' := by
  have hm := sx_mxh_ok hh hp hf hw
  have hr' : sx_sr ν P.1 rv := sx_sr_mono (ν := []) (δ := ν) hr
  obtain ⟨δ1, g1, r1⟩ := sx_ms_ok hg hr' (rfl : sx_ms g P.1 = ((sx_ms g P.1).1, (sx_ms g P.1).2))
  obtain ⟨δ2, g2, r2⟩ := sx_mqs_ok (x := P.2.2) g1 (sx_hr_mono hm) (rfl : sx_mqs _ _ _ = ((sx_mqs (sx_ms g P.1).1 (sx_mxh M H P.2.1) P.2.2).1, (sx_mqs (sx_ms g P.1).1 (sx_mxh M H P.2.1) P.2.2).2))
  unfold sx_po at ho
  dsimp only at ho
  split at ho
  · rename_i g3 hxa
    cases ho
    obtain ⟨g3', e1, e2⟩ := sx_xa_ok (sx_lr_mono (sx_lr_mono hl)) (sx_sr_mono r1) r2 g2 hx hxa
    cases e1
    refine ⟨_, δ1 ++ δ2, rfl, ?_⟩
    rw [← List.append_assoc]
    exact ⟨e2, sx_sr_mono r1, r2⟩
  · rename_i hxa
    obtain ⟨g3', e1, e2⟩ := sx_xa_ok (sx_lr_mono (sx_lr_mono hl)) (sx_sr_mono r1) r2 g2 hx hxa
    cases e1
  · cases ho
def sx_pos (l0 : sx_L) (M : sx_M) (g : sx_G) (H : sx_H) : List sx_P → Option (List (sx_G × List sx_V × sx_H))
  | [] => some []
  | P :: r => match sx_po l0 M g H P, sx_pos l0 M g H r with
    | some (some S), some L => some (S :: L)
    | some none, some L => some L
    | _, _ => none
theorem sx_pos_ok {l0 : sx_L} {M : sx_M} {g : sx_G} {H : sx_H} {P : sx_P} : ∀ {Ps : List sx_P} {L : List (sx_G × List sx_V × sx_H)}, sx_pos l0 M g H Ps = some L → P ∈ Ps → ∃ o, sx_po l0 M g H P = some o ∧ ∀ S, o = some S → S ∈ L
  | R :: r, L, hs, hm => by
    simp only [sx_pos] at hs
    split at hs
    · rename_i S L' h1 h2
      cases hs
      rcases List.mem_cons.mp hm with rfl | hm
      · exact ⟨_, h1, fun S' e => by cases e; exact List.mem_cons_self⟩
      · obtain ⟨o, q1, q2⟩ := sx_pos_ok h2 hm
        exact ⟨o, q1, fun S' e => List.mem_cons_of_mem _ (q2 S' e)⟩
    · rename_i L' h1 h2
      cases hs
      rcases List.mem_cons.mp hm with rfl | hm
      · exact ⟨_, h1, fun S' e => by cases e⟩
      · exact sx_pos_ok h2 hm
    · cases hs
def sx_ap1 (M : sx_M) (uq : Bool) (C : sx_K) (g : sx_G) (av : List sx_V) (H : sx_H) : Option (List (sx_G × List sx_V × sx_H)) := bif sx_lvs 0 g av C.2.1.1 && sx_lh 0 g H C.2.1.2.1 && sx_mle C.2.2.1 M && (!C.2.2.2.2 || uq) then (match sx_mqs g H C.2.1.2.2 with
  | (g1, H1) => bif sx_xh (sx_lo (ik_ml C.1) av) [] H1 g1 C.2.1.2.2 then sx_pos (sx_lo (ik_ml C.1) av) C.2.2.1 g1 H1 C.2.2.2.1 else none) else none
theorem sx_ap1_ok {Q : List ik_E → Prop} {M : sx_M} {uq : Bool} {C : sx_K} {ν : List Int} {g : sx_G} {av : List sx_V} {H : sx_H} {L : List (sx_G × List sx_V × sx_H)} {as : List Value} {h : List ik_E} (hC : sx_hd Q C) (hq : uq = true → Q h) (hg : sx_ok ν g) (ha : sx_sr ν av as) (hh : sx_hr ν H h) (hs : sx_ap1 M uq C g av H = some L) : (∀ a k, sx_md C.2.2.1 a k = true → sx_md M a k = true) ∧ ik_W none C.1 0 (ik_loc (ik_ml C.1) as) [] h 0 0 (fun z => ∃ ir rv, ik_at C.1 z.1 = some ir ∧ ik_rv (ik_rt C.1) ir z.2.2.1 = some rv ∧ sx_fm C.2.2.1 h z.2.2.2.1 ∧ z.2.2.2.2.1 = 0 ∧ z.2.2.2.2.2 = 0 ∧ ∃ S δ, S ∈ L ∧ sx_ok (ν ++ δ) S.1 ∧ sx_sr (ν ++ δ) S.2.1 rv ∧ sx_hr (ν ++ δ) S.2.2 z.2.2.2.1) := by
  unfold sx_ap1 at hs
  cases hb : (sx_lvs 0 g av C.2.1.1 && sx_lh 0 g H C.2.1.2.1 && sx_mle C.2.2.1 M && (!C.2.2.2.2 || uq)) with
  | false => rw [hb] at hs; cases hs
  | true =>
    rw [hb] at hs
    simp only [cond_true] at hs
    obtain ⟨b1, b4⟩ := Bool.and_eq_true_iff.mp hb
    obtain ⟨b1, b3⟩ := Bool.and_eq_true_iff.mp b1
    obtain ⟨b1, b2⟩ := Bool.and_eq_true_iff.mp b1
    refine ⟨sx_mle_ok b3, ?_⟩
    obtain ⟨δ1, g1, r1⟩ := sx_mqs_ok (x := C.2.1.2.2) hg hh (rfl : sx_mqs _ _ _ = ((sx_mqs g H C.2.1.2.2).1, (sx_mqs g H C.2.1.2.2).2))
    cases hx : sx_xh (sx_lo (ik_ml C.1) av) [] (sx_mqs g H C.2.1.2.2).2 (sx_mqs g H C.2.1.2.2).1 C.2.1.2.2 with
    | false => rw [hx] at hs; cases hs
    | true =>
      rw [hx] at hs
      simp only [cond_true] at hs
      have hl0 : sx_lr (ν ++ δ1) h.length (sx_lo (ik_ml C.1) av) (ik_loc (ik_ml C.1) as) := sx_lo_ok (sx_sr_mono ha)
      have hcs := sx_xh_ok (s := []) (st := []) g1 hl0 trivial r1 hx
      refine sx_W_mono (hC.2 as h (sx_lvs_ok (μ := []) (δ := ν) hg ha b1) (sx_lh_ok (μ := []) (δ := ν) hg hh b2) hcs ?_) ?_
      · intro hc
        apply hq
        rw [hc] at b4
        exact b4
      · rintro z ⟨ir, rv, P, hP, z1, z2, z3, z4, z5, z6, z7, z8⟩
        refine ⟨ir, rv, z1, z2, z5, z7, z8, ?_⟩
        obtain ⟨o, q1, q2⟩ := sx_pos_ok hs hP
        obtain ⟨S, δ2, e1, e2, e3, e4⟩ := sx_po_ok g1 hl0 r1 z3 z4 z5 (hC.1 P hP) z6 q1
        refine ⟨S, δ1 ++ δ2, q2 S e1, ?_⟩
        rw [← List.append_assoc]
        exact ⟨e2, e3, e4⟩
def sx_try (M : sx_M) (uq : Bool) (q : Nat) (g : sx_G) (av : List sx_V) (H : sx_H) : List sx_K → Option (Option (List (sx_G × List sx_V × sx_H)))
  | [] => none
  | C :: r => bif Nat.beq C.1 q then (match sx_ap1 M uq C g av H with
    | some L => some (some L)
    | none => (match sx_try M uq q g av H r with
      | some z => some z
      | none => some none)) else sx_try M uq q g av H r
theorem sx_try_ok {M : sx_M} {uq : Bool} {q : Nat} {g : sx_G} {av : List sx_V} {H : sx_H} {L : List (sx_G × List sx_V × sx_H)} : ∀ {K : List sx_K}, sx_try M uq q g av H K = some (some L) → ∃ C, C ∈ K ∧ C.1 = q ∧ sx_ap1 M uq C g av H = some L
  | C :: r, hs => by
    simp only [sx_try] at hs
    cases hb : Nat.beq C.1 q with
    | false =>
      rw [hb] at hs
      obtain ⟨D, h1, h2⟩ := sx_try_ok hs
      exact ⟨D, List.mem_cons_of_mem _ h1, h2⟩
    | true =>
      rw [hb] at hs
      simp only [cond_true] at hs
      split at hs
      · rename_i L' hL
        cases hs
        exact ⟨C, List.mem_cons_self, Nat.eq_of_beq_eq_true hb, hL⟩
      · split at hs
        · rename_i z hz
          cases hs
          obtain ⟨D, h1, h2⟩ := sx_try_ok hz
          exact ⟨D, List.mem_cons_of_mem _ h1, h2⟩
        · cases hs
/-! what a call asks for -/
def sx_cs : List sx_V → Nat
  | [] => 0
  | a :: r => sx_ct a + sx_cs r
theorem sx_cs_ok {ν : List Int} : ∀ {s : List sx_V} {st : List Value}, sx_sr ν s st → ik_sum st = sx_cs s
  | [], [], _ => rfl
  | a :: s, v :: st, h => by
    unfold ik_sum
    simp only [List.map_cons, List.sum_cons, sx_cs]
    rw [sx_ct_ok h.1]
    have := sx_cs_ok h.2
    unfold ik_sum at this
    rw [this]
  | [], _ :: _, h => h.elim
  | _ :: _, [], h => h.elim
def sx_rv (q kd : Nat) (H : sx_H) (av : List sx_V) : Bool := match kd, av with
  | 0, .inr (.inr (.inl ks)) :: _ => ks.all fun a => match sx_hg H a with
    | some (some (.inl (ci, _))) => Nat.beq ci (ik_ow q) && Nat.blt ci 11
    | _ => false
  | 0, .inr (.inr (.inr (.inl (k + 1)))) :: _ => Nat.beq (k % 2) 0 && Nat.blt k 6 && Nat.beq (ik_ow q) ik_sow
  | 3, _ => true
  | 4, _ => true
  | _, _ => false
def sx_fc (mid q kd : Nat) (av : List sx_V) (H : sx_H) (rest : List sx_V) (l : sx_L) : Bool :=
  Nat.ble (ik_fr q + 1) (ik_fr mid) && Nat.ble (8 + (ik_ml q + 11) + ik_lo q) (ik_lo mid) && Nat.ble (sx_cs rest) 8 && Nat.ble (sx_aa av).length (ik_ml q) && Nat.blt q 227 && rest.all (sx_wv (sx_hn H)) && l.all (sx_wl (sx_hn H)) && sx_rv q kd H av
theorem sx_mlen : ik_M.length = 227 := by decide +kernel
theorem sx_fc_ok {ν : List Int} {mid q kd : Nat} {av rest : List sx_V} {H : sx_H} {l : sx_L} {as rs : List Value} {loc : ik_L} {h : List ik_E} (ha : sx_sr ν av as) (hr : sx_sr ν rest rs) (hl : sx_lr ν h.length l loc) (hh : sx_hr ν H h) (hs : sx_fc mid q kd av H rest l = true) : kd < 5 ∧ ik_fitC mid q kd as h rs loc = true := by
  unfold sx_fc at hs
  obtain ⟨b1, b8⟩ := Bool.and_eq_true_iff.mp hs
  obtain ⟨b1, b7⟩ := Bool.and_eq_true_iff.mp b1
  obtain ⟨b1, b6⟩ := Bool.and_eq_true_iff.mp b1
  obtain ⟨b1, b5⟩ := Bool.and_eq_true_iff.mp b1
  obtain ⟨b1, b4⟩ := Bool.and_eq_true_iff.mp b1
  obtain ⟨b1, b3⟩ := Bool.and_eq_true_iff.mp b1
  obtain ⟨b1, b2⟩ := Bool.and_eq_true_iff.mp b1
  have a1 := Nat.ble_eq.mp b1
  have a2 := Nat.ble_eq.mp b2
  have a3 := Nat.ble_eq.mp b3
  have a4 := Nat.ble_eq.mp b4
  have a5 := Nat.blt_eq.mp b5
  have hlen : (ik_args as).length = (sx_aa av).length := sx_lr_len (sx_aa_ok (n := h.length) ha)
  have k3 : ik_sum rs ≤ 8 := by rw [sx_cs_ok hr]; exact a3
  have k4 : (ik_args as).length ≤ ik_ml q := by rw [hlen]; exact a4
  have k5 : q < ik_M.length := by rw [sx_mlen]; exact a5
  have k6 := sx_ws_ok hh.1 hr b6
  have k7 := sx_wl_ok hh.1 hl b7
  unfold ik_fitC
  rw [decide_eq_true a1, decide_eq_true a2, decide_eq_true k3, decide_eq_true k4, decide_eq_true k5, k6, k7]
  simp only [Bool.and_true, Bool.true_and]
  unfold sx_rv at b8
  split at b8
  · rename_i ks r
    obtain ⟨v, st', rfl, hv, _⟩ := sx_p1 ha
    obtain ⟨a, ha1, rfl⟩ := hv
    have := List.all_eq_true.mp b8 a ha1
    split at this
    · rename_i ci as' hc
      obtain ⟨d, hd, fs, e1, e2⟩ := hh.2 _ _ hc
      subst e1
      obtain ⟨c1, c2⟩ := Bool.and_eq_true_iff.mp this
      refine ⟨by omega, ?_⟩
      simp only [hd]
      rw [decide_eq_true (Nat.eq_of_beq_eq_true c1), decide_eq_true (Nat.blt_eq.mp c2)]
      rfl
    · cases this
  · rename_i k r
    obtain ⟨v, st', rfl, hv, _⟩ := sx_p1 ha
    cases hv
    obtain ⟨c1, c3⟩ := Bool.and_eq_true_iff.mp b8
    obtain ⟨c1, c2⟩ := Bool.and_eq_true_iff.mp c1
    refine ⟨by omega, ?_⟩
    exact Bool.and_eq_true_iff.mpr ⟨Bool.and_eq_true_iff.mpr ⟨decide_eq_true (Nat.eq_of_beq_eq_true c1), decide_eq_true (Nat.blt_eq.mp c2)⟩, decide_eq_true (Nat.eq_of_beq_eq_true c3)⟩
  · exact ⟨by omega, rfl⟩
  · exact ⟨by omega, rfl⟩
  · cases b8
/-- what a method gives back -/
def sx_rc (g : sx_G) (rt : Option FieldType) (i : Instr) (s : List sx_V) : Option (List sx_V) := match i, rt, s with
  | .return_, none, [] => some []
  | .ireturn, some .int, [.inl e] => some [.inl e]
  | .ireturn, some .boolean, [.inl e] => bif sx_inb g e 0 1 then some [.inl e] else none
  | .ireturn, some .byte, [.inl e] => bif sx_inb g e (-128) 127 then some [.inl e] else none
  | .ireturn, some .char, [.inl e] => bif sx_inb g e 0 65535 then some [.inl e] else none
  | .lreturn, some .long, [.inr (.inl e)] => some [.inr (.inl e)]
  | .areturn, some (.object _), [.inr (.inr (.inl ks))] => some [.inr (.inr (.inl ks))]
  | _, _, _ => none
theorem sx_nil {ν : List Int} {st : List Value} (h : sx_sr ν [] st) : st = [] := by
  cases st with
  | nil => rfl
  | cons _ _ => exact h.elim
theorem sx_rc_ok {ν : List Int} {g : sx_G} {rt : Option FieldType} {i : Instr} {s rv : List sx_V} {st : List Value} (hg : sx_ok ν g) (h : sx_sr ν s st) (hs : sx_rc g rt i s = some rv) : ∃ rw, ik_rv rt i st = some rw ∧ sx_sr ν rv rw := by
  unfold sx_rc at hs
  split at hs
  · cases hs
    rw [sx_nil h]
    exact ⟨[], rfl, trivial⟩
  · cases hs
    obtain ⟨x, st', rfl, hx, h2⟩ := sx_pI h
    rw [sx_nil h2]
    exact ⟨_, rfl, ⟨x, rfl, hx⟩, trivial⟩
  · rename_i e
    obtain ⟨x, st', rfl, hx, h2⟩ := sx_pI h
    rw [sx_nil h2]
    cases hb : sx_inb g e 0 1 with
    | false => rw [hb] at hs; cases hs
    | true =>
      rw [hb] at hs
      cases hs
      obtain ⟨q1, q2⟩ := sx_inb_ok hg hx hb
      refine ⟨[.int x], ?_, ⟨x, rfl, hx⟩, trivial⟩
      simp only [ik_rv]
      rw [if_pos (sx_01 q1 q2)]
  · rename_i e
    obtain ⟨x, st', rfl, hx, h2⟩ := sx_pI h
    rw [sx_nil h2]
    cases hb : sx_inb g e (-128) 127 with
    | false => rw [hb] at hs; cases hs
    | true =>
      rw [hb] at hs
      cases hs
      obtain ⟨q1, q2⟩ := sx_inb_ok hg hx hb
      refine ⟨[.int x], ?_, ⟨x, rfl, hx⟩, trivial⟩
      simp only [ik_rv]
      rw [if_pos (sx_byt q1 q2)]
  · rename_i e
    obtain ⟨x, st', rfl, hx, h2⟩ := sx_pI h
    rw [sx_nil h2]
    cases hb : sx_inb g e 0 65535 with
    | false => rw [hb] at hs; cases hs
    | true =>
      rw [hb] at hs
      cases hs
      obtain ⟨q1, q2⟩ := sx_inb_ok hg hx hb
      refine ⟨[.int x], ?_, ⟨x, rfl, hx⟩, trivial⟩
      simp only [ik_rv]
      rw [if_pos (sx_chr q1 q2)]
  · cases hs
    obtain ⟨x, st', rfl, hx, h2⟩ := sx_pL h
    rw [sx_nil h2]
    exact ⟨_, rfl, ⟨x, rfl, hx⟩, trivial⟩
  · cases hs
    obtain ⟨x, st', rfl, hx, h2⟩ := sx_pA h
    rw [sx_nil h2]
    exact ⟨_, rfl, ⟨x, hx, rfl⟩, trivial⟩
  · cases hs
end
