noncomputable section
/-! reading and writing the heap -/
/-- a value in bounds becomes a new symbol -/
def sx_mv (g : sx_G) (a : sx_V) : sx_G × sx_V := match a with
  | .inr (.inr (.inr (.inr (.inl p)))) => match sx_fr g p.1 p.2 with
    | (g', e) => (g', .inl e)
  | .inr (.inr (.inr (.inr (.inr (.inl p))))) => match sx_fr g p.1 p.2 with
    | (g', e) => (g', .inr (.inl e))
  | a => (g, a)
theorem sx_mv_ok {ν : List Int} {g g' : sx_G} {a w : sx_V} {v : Value} (hg : sx_ok ν g) (h : sx_vr ν a v) (hm : sx_mv g a = (g', w)) : ∃ δ, sx_ok (ν ++ δ) g' ∧ sx_vr (ν ++ δ) w v := by
  rcases a with e | e | ks | k | p | p | e
  · cases hm
    exact ⟨[], by rw [List.append_nil]; exact ⟨hg, h⟩⟩
  · cases hm
    exact ⟨[], by rw [List.append_nil]; exact ⟨hg, h⟩⟩
  · cases hm
    exact ⟨[], by rw [List.append_nil]; exact ⟨hg, h⟩⟩
  · cases hm
    exact ⟨[], by rw [List.append_nil]; exact ⟨hg, h⟩⟩
  · obtain ⟨x, h1, h2, h3⟩ := h
    cases hm
    have := sx_fr_ok hg h2 h3
    exact ⟨[x.toInt], this.1, x, h1, this.2⟩
  · obtain ⟨x, h1, h2, h3⟩ := h
    cases hm
    have := sx_fr_ok hg h2 h3
    exact ⟨[x.toInt], this.1, x, h1, this.2⟩
  · cases hm
    exact ⟨[], by rw [List.append_nil]; exact ⟨hg, h⟩⟩
/-- a long?, bounds -/
def sx_vb (g : sx_G) (a : sx_V) : Option (Bool × Int × Int) := match a with
  | .inl e => match sx_eb g.1 e with
    | some (l, u) => some (false, l, u)
    | none => none
  | .inr (.inl e) => match sx_eb g.1 e with
    | some (l, u) => some (true, l, u)
    | none => none
  | .inr (.inr (.inr (.inr (.inl p)))) => some (false, p.1, p.2)
  | .inr (.inr (.inr (.inr (.inr (.inl p))))) => some (true, p.1, p.2)
  | _ => none
def sx_rg (b : Bool) (l u : Int) : sx_V := bif b then sx_rl l u else sx_ri l u
theorem sx_rg_nu {ν μ : List Int} {b : Bool} {l u : Int} {v : Value} (h : sx_vr ν (sx_rg b l u) v) : sx_vr μ (sx_rg b l u) v := by
  unfold sx_rg at h ⊢
  cases b <;> exact h
theorem sx_rg_le {ν : List Int} {b : Bool} {l u l' u' : Int} {v : Value} (h : sx_vr ν (sx_rg b l u) v) (h1 : l' ≤ l) (h2 : u ≤ u') : sx_vr ν (sx_rg b l' u') v := by
  unfold sx_rg at h ⊢
  cases b
  · obtain ⟨x, e, a1, a2⟩ := h
    exact ⟨x, e, Int.le_trans h1 a1, Int.le_trans a2 h2⟩
  · obtain ⟨x, e, a1, a2⟩ := h
    exact ⟨x, e, Int.le_trans h1 a1, Int.le_trans a2 h2⟩
theorem sx_vb_ok {ν : List Int} {g : sx_G} {a : sx_V} {v : Value} {b : Bool} {l u : Int} (hg : sx_ok ν g) (h : sx_vr ν a v) (hb : sx_vb g a = some (b, l, u)) : sx_vr ν (sx_rg b l u) v := by
  rcases a with e | e | ks | k | p | p | e
  · obtain ⟨x, h1, h2⟩ := h
    simp only [sx_vb] at hb
    split at hb
    · rename_i l' u' he
      cases hb
      obtain ⟨y, hy, q1, q2⟩ := sx_eb_ok hg.1 he
      rw [h2] at hy; cases hy
      exact ⟨x, h1, q1, q2⟩
    · cases hb
  · obtain ⟨x, h1, h2⟩ := h
    simp only [sx_vb] at hb
    split at hb
    · rename_i l' u' he
      cases hb
      obtain ⟨y, hy, q1, q2⟩ := sx_eb_ok hg.1 he
      rw [h2] at hy; cases hy
      exact ⟨x, h1, q1, q2⟩
    · cases hb
  · cases hb
  · cases hb
  · cases hb; exact h
  · cases hb; exact h
  · cases hb
/-! one value for several -/
def sx_hb (g : sx_G) : List sx_V → Option (Bool × Int × Int)
  | [] => none
  | [a] => sx_vb g a
  | a :: r => match sx_vb g a, sx_hb g r with
    | some (b, l, u), some (b', l', u') => bif b == b' then some (b, min l l', max u u') else none
    | _, _ => none
theorem sx_hb_ok {ν : List Int} {g : sx_G} (hg : sx_ok ν g) {a : sx_V} {v : Value} (h : sx_vr ν a v) : ∀ {vs : List sx_V} {b : Bool} {l u : Int}, a ∈ vs → sx_hb g vs = some (b, l, u) → sx_vr ν (sx_rg b l u) v
  | [c], b, l, u, hm, hb => by
    rw [List.mem_singleton] at hm
    subst hm
    exact sx_vb_ok hg h hb
  | c :: d :: r, b, l, u, hm, hb => by
    simp only [sx_hb] at hb
    split at hb
    · rename_i b1 l1 u1 b2 l2 u2 h1 h2
      cases hq : (b1 == b2) with
      | false => rw [hq] at hb; cases hb
      | true =>
        rw [hq] at hb
        have hbb : b1 = b2 := eq_of_beq hq
        subst hbb
        simp only [cond_true, Option.some.injEq, Prod.mk.injEq] at hb
        obtain ⟨rfl, rfl, rfl⟩ := hb
        rcases List.mem_cons.mp hm with rfl | hm
        · exact sx_rg_le (sx_vb_ok hg h h1) (Int.min_le_left _ _) (Int.le_max_left _ _)
        · exact sx_rg_le (sx_hb_ok hg h hm h2) (Int.min_le_right _ _) (Int.le_max_right _ _)
    · cases hb
def sx_un : List Nat → List Nat → List Nat
  | [], b => b
  | k :: r, b => bif (sx_un r b).contains k then sx_un r b else k :: sx_un r b
theorem sx_un_l : ∀ {a b : List Nat} {k : Nat}, k ∈ a → k ∈ sx_un a b
  | j :: r, b, k, h => by
    simp only [sx_un]
    cases hc : (sx_un r b).contains j with
    | true =>
      simp only [cond_true]
      rcases List.mem_cons.mp h with rfl | h
      · exact List.contains_iff_mem.mp hc
      · exact sx_un_l h
    | false =>
      simp only [cond_false]
      rcases List.mem_cons.mp h with rfl | h
      · exact List.mem_cons_self
      · exact List.mem_cons_of_mem _ (sx_un_l h)
theorem sx_un_r : ∀ {a b : List Nat} {k : Nat}, k ∈ b → k ∈ sx_un a b
  | [], b, k, h => h
  | j :: r, b, k, h => by
    simp only [sx_un]
    cases hc : (sx_un r b).contains j with
    | true => exact sx_un_r h
    | false => exact List.mem_cons_of_mem _ (sx_un_r h)
def sx_hf : List sx_V → Option (List Nat)
  | [] => some []
  | .inr (.inr (.inl ks)) :: r => match sx_hf r with
    | some js => some (sx_un ks js)
    | none => none
  | _ => none
theorem sx_hf_ok {ν : List Int} {a : sx_V} {v : Value} (h : sx_vr ν a v) : ∀ {vs : List sx_V} {ks : List Nat}, a ∈ vs → sx_hf vs = some ks → sx_vr ν (sx_va ks) v
  | c :: r, ks, hm, hb => by
    rcases c with e | e | js | k | p | p | e
    · cases hb
    · cases hb
    · simp only [sx_hf] at hb
      split at hb
      · rename_i is hi
        cases hb
        rcases List.mem_cons.mp hm with rfl | hm
        · obtain ⟨k, h1, h2⟩ := h
          exact ⟨k, sx_un_l h1, h2⟩
        · obtain ⟨k, h1, h2⟩ := sx_hf_ok h hm hi
          exact ⟨k, sx_un_r h1, h2⟩
      · cases hb
    · cases hb
    · cases hb
    · cases hb
    · cases hb
def sx_hl (g : sx_G) (vs : List sx_V) : Option (sx_G × sx_V) := match sx_hf vs with
  | some ks => some (g, .inr (.inr (.inl ks)))
  | none => match sx_hb g vs with
    | some (b, l, u) => some (sx_mv g (sx_rg b l u))
    | none => none
theorem sx_hl_ok {ν : List Int} {g g' : sx_G} (hg : sx_ok ν g) {a w : sx_V} {v : Value} (h : sx_vr ν a v) {vs : List sx_V} (hm : a ∈ vs) (hl : sx_hl g vs = some (g', w)) : ∃ δ, sx_ok (ν ++ δ) g' ∧ sx_vr (ν ++ δ) w v := by
  unfold sx_hl at hl
  split at hl
  · rename_i ks hk
    cases hl
    exact ⟨[], by rw [List.append_nil]; exact ⟨hg, sx_hf_ok h hm hk⟩⟩
  · split at hl
    · rename_i b l u hb
      have h1 := sx_hb_ok hg h hm hb
      exact sx_mv_ok hg h1 (Option.some.inj hl)
    · cases hl
/-- a value in bounds -/
def sx_isr (v : sx_V) : Bool := match v with
  | .inr (.inr (.inr (.inr (.inl _)))) => true
  | .inr (.inr (.inr (.inr (.inr (.inl _))))) => true
  | _ => false
/-! fields -/
def sx_fs (H : sx_H) (ci k : Nat) : List Nat → Option (List sx_V)
  | [] => some []
  | a :: r => match sx_hg H a with
    | some (some (.inl (cj, as))) => bif Nat.beq cj ci then (match sx_get as k, sx_fs H ci k r with
      | some v, some vs => some (v :: vs)
      | _, _ => none) else none
    | _ => none
theorem sx_fs_ok {ν : List Int} {H : sx_H} {h : List ik_E} (hh : sx_hr ν H h) {ci k a : Nat} : ∀ {ks : List Nat} {vs : List sx_V}, a ∈ ks → sx_fs H ci k ks = some vs → ∃ fs v w, h[a]? = some (.inr (ci, fs)) ∧ fs[k]? = some v ∧ w ∈ vs ∧ sx_vr ν w v
  | b :: r, vs, hm, hf => by
    simp only [sx_fs] at hf
    split at hf
    · rename_i cj as hc
      cases hq : Nat.beq cj ci with
      | false => rw [hq] at hf; cases hf
      | true =>
        have hci : cj = ci := Nat.eq_of_beq_eq_true hq
        subst hci
        rw [hq] at hf
        simp only [cond_true] at hf
        split at hf
        · rename_i v vs' hv hvs
          cases hf
          rcases List.mem_cons.mp hm with rfl | hm
          · obtain ⟨d, hd, fs, e1, e2⟩ := hh.2 _ _ hc
            subst e1
            obtain ⟨x, hx, hr⟩ := sx_sr_get e2 hv
            exact ⟨fs, x, v, hd, hx, List.mem_cons_self, hr⟩
          · obtain ⟨fs, x, w, q1, q2, q3, q4⟩ := sx_fs_ok hh hm hvs
            exact ⟨fs, x, w, q1, q2, List.mem_cons_of_mem _ q3, q4⟩
        · cases hf
    · cases hf
def sx_gf (g : sx_G) (H : sx_H) (ci k : Nat) (ks : List Nat) : Option (sx_G × sx_H × sx_V) := match ks with
  | [a] => match sx_hg H a with
    | some (some (.inl (cj, as))) => bif Nat.beq cj ci then (match sx_get as k with
      | some v => (match sx_mv g v with
        | (g', w) => some (g', (bif sx_isr v then sx_hs H a (some (.inl (cj, sx_set as w k))) else H), w))
      | none => none) else none
    | _ => none
  | ks => match sx_fs H ci k ks with
    | some vs => (match sx_hl g vs with
      | some (g', w) => some (g', H, w)
      | none => none)
    | none => none
theorem sx_gf_ok {ν : List Int} {g g' : sx_G} {H H' : sx_H} {h : List ik_E} {ci k a : Nat} {ks : List Nat} {w : sx_V} (hg : sx_ok ν g) (hh : sx_hr ν H h) (ha : a ∈ ks) (hs : sx_gf g H ci k ks = some (g', H', w)) : ∃ fs v δ, h[a]? = some (.inr (ci, fs)) ∧ fs[k]? = some v ∧ sx_ok (ν ++ δ) g' ∧ sx_hr (ν ++ δ) H' h ∧ sx_vr (ν ++ δ) w v := by
  unfold sx_gf at hs
  split at hs
  · rename_i b
    rw [List.mem_singleton] at ha
    subst ha
    split at hs
    · rename_i cj as hc
      cases hq : Nat.beq cj ci with
      | false => rw [hq] at hs; cases hs
      | true =>
        have hci : cj = ci := Nat.eq_of_beq_eq_true hq
        subst hci
        rw [hq] at hs
        simp only [cond_true] at hs
        split at hs
        · rename_i v hv
          cases hs
          obtain ⟨d, hd, fs, e1, e2⟩ := hh.2 _ _ hc
          subst e1
          obtain ⟨x, hx, hr⟩ := sx_sr_get e2 hv
          obtain ⟨δ, h1, h2⟩ := sx_mv_ok hg hr (rfl : sx_mv g v = ((sx_mv g v).1, (sx_mv g v).2))
          refine ⟨fs, x, δ, hd, hx, h1, ?_, h2⟩
          cases sx_isr v
          · exact sx_hr_mono hh
          · exact sx_hr_see (sx_hr_mono hh) hd ⟨fs, rfl, sx_sr_see (sx_sr_mono e2) hx h2⟩
        · cases hs
    · cases hs
  · split at hs
    · rename_i vs hf
      split at hs
      · rename_i g1 w1 hl
        cases hs
        obtain ⟨fs, v, u, q1, q2, q3, q4⟩ := sx_fs_ok hh ha hf
        obtain ⟨δ, h1, h2⟩ := sx_hl_ok hg q4 q3 hl
        exact ⟨fs, v, δ, q1, q2, h1, sx_hr_mono hh, h2⟩
      · cases hs
    · cases hs
/-- the old value or the new -/
def sx_wk (g : sx_G) (o v : sx_V) : Option sx_V := match o with
  | .inr (.inr (.inr (.inr (.inl p)))) => match sx_vb g v with
    | some (false, l, u) => some (sx_ri (min p.1 l) (max p.2 u))
    | _ => none
  | .inr (.inr (.inr (.inr (.inr (.inl p))))) => match sx_vb g v with
    | some (true, l, u) => some (sx_rl (min p.1 l) (max p.2 u))
    | _ => none
  | .inr (.inr (.inl ks)) => match v with
    | .inr (.inr (.inl js)) => some (sx_va (sx_un ks js))
    | _ => none
  | _ => none
theorem sx_wk_ok {ν : List Int} {g : sx_G} (hg : sx_ok ν g) {o v w : sx_V} (h : sx_wk g o v = some w) : (∀ x, sx_vr ν o x → sx_vr ν w x) ∧ (∀ x, sx_vr ν v x → sx_vr ν w x) := by
  rcases o with e | e | ks | k | p | p | e
  · cases h
  · cases h
  · simp only [sx_wk] at h
    split at h
    · cases h
      refine ⟨fun x hx => ?_, fun x hx => ?_⟩
      · obtain ⟨k, h1, h2⟩ := hx
        exact ⟨k, sx_un_l h1, h2⟩
      · obtain ⟨k, h1, h2⟩ := hx
        exact ⟨k, sx_un_r h1, h2⟩
    · cases h
  · cases h
  · simp only [sx_wk] at h
    split at h
    · rename_i l u hb
      cases h
      refine ⟨fun x hx => ?_, fun x hx => ?_⟩
      · exact sx_rg_le (b := false) hx (Int.min_le_left _ _) (Int.le_max_left _ _)
      · exact sx_rg_le (b := false) (sx_vb_ok hg hx hb) (Int.min_le_right _ _) (Int.le_max_right _ _)
    · cases h
  · simp only [sx_wk] at h
    split at h
    · rename_i l u hb
      cases h
      refine ⟨fun x hx => ?_, fun x hx => ?_⟩
      · exact sx_rg_le (b := true) hx (Int.min_le_left _ _) (Int.le_max_left _ _)
      · exact sx_rg_le (b := true) (sx_vb_ok hg hx hb) (Int.min_le_right _ _) (Int.le_max_right _ _)
    · cases h
  · cases h
def sx_pw (M : sx_M) (g : sx_G) (ci k : Nat) (v : sx_V) : List Nat → sx_H → Option sx_H
  | [], H => some H
  | a :: r, H => match sx_hg H a with
    | some (some (.inl (cj, as))) => bif Nat.beq cj ci && sx_md M a k then (match sx_get as k with
      | some o => (match sx_wk g o v with
        | some w => sx_pw M g ci k v r (sx_hs H a (some (.inl (cj, sx_set as w k))))
        | none => none)
      | none => none) else none
    | _ => none
theorem sx_pw_ok {M : sx_M} {ν : List Int} {g : sx_G} (hg : sx_ok ν g) {ci k : Nat} {v : sx_V} {x : Value} (hx : sx_vr ν v x) : ∀ {ks : List Nat} {H H' : sx_H} {h : List ik_E}, sx_hr ν H h → sx_pw M g ci k v ks H = some H' → sx_hr ν H' h ∧ ∀ a, a ∈ ks → ∃ fs, h[a]? = some (.inr (ci, fs)) ∧ k < fs.length ∧ sx_md M a k = true ∧ sx_hr ν H' (h.set a (.inr (ci, fs.set k x)))
  | [], H, H', h, hh, hs => by
    cases hs
    exact ⟨hh, fun a ha => by cases ha⟩
  | b :: r, H, H', h, hh, hs => by
    simp only [sx_pw] at hs
    split at hs
    · rename_i cj as hc
      cases hq : (Nat.beq cj ci && sx_md M b k) with
      | false => rw [hq] at hs; cases hs
      | true =>
        obtain ⟨hq1, hq2⟩ := Bool.and_eq_true_iff.mp hq
        have hci : cj = ci := Nat.eq_of_beq_eq_true hq1
        subst hci
        rw [hq] at hs
        simp only [cond_true] at hs
        split at hs
        · rename_i o ho
          split at hs
          · rename_i w hw
            obtain ⟨w1, w2⟩ := sx_wk_ok hg hw
            obtain ⟨d, hd, fs, e1, e2⟩ := hh.2 _ _ hc
            subst e1
            obtain ⟨y, hy, hr⟩ := sx_sr_get e2 ho
            have hh1 : sx_hr ν (sx_hs H b (some (.inl (cj, sx_set as w k)))) h := sx_hr_see hh hd ⟨fs, rfl, sx_sr_see e2 hy (w1 _ hr)⟩
            have hh2 : sx_hr ν (sx_hs H b (some (.inl (cj, sx_set as w k)))) (h.set b (.inr (cj, fs.set k x))) := sx_hr_set hh ⟨fs.set k x, rfl, sx_sr_set e2 (w2 _ hx)⟩
            obtain ⟨r1, r2⟩ := sx_pw_ok hg hx hh1 hs
            refine ⟨r1, fun a ha => ?_⟩
            rcases List.mem_cons.mp ha with rfl | ha
            · exact ⟨fs, hd, (List.getElem?_eq_some_iff.mp hy).1, hq2, (sx_pw_ok hg hx hh2 hs).1⟩
            · exact r2 a ha
          · cases hs
        · cases hs
    · cases hs
def sx_pf (M : sx_M) (g : sx_G) (H : sx_H) (ci k : Nat) (ks : List Nat) (v : sx_V) : Option sx_H := match ks with
  | [a] => match sx_hg H a with
    | some (some (.inl (cj, as))) => bif Nat.beq cj ci && sx_md M a k && Nat.blt k as.length then some (sx_hs H a (some (.inl (cj, sx_set as v k)))) else none
    | _ => none
  | ks => sx_pw M g ci k v ks H
theorem sx_pf_ok {M : sx_M} {ν : List Int} {g : sx_G} {H H' : sx_H} {h : List ik_E} {ci k a : Nat} {ks : List Nat} {v : sx_V} {x : Value} (hg : sx_ok ν g) (hh : sx_hr ν H h) (ha : a ∈ ks) (hx : sx_vr ν v x) (hs : sx_pf M g H ci k ks v = some H') : ∃ fs, h[a]? = some (.inr (ci, fs)) ∧ k < fs.length ∧ sx_md M a k = true ∧ sx_hr ν H' (h.set a (.inr (ci, fs.set k x))) := by
  unfold sx_pf at hs
  split at hs
  · rename_i b
    rw [List.mem_singleton] at ha
    subst ha
    split at hs
    · rename_i cj as hc
      cases hq : (Nat.beq cj ci && sx_md M a k && Nat.blt k as.length) with
      | false => rw [hq] at hs; cases hs
      | true =>
        rw [hq] at hs
        cases hs
        obtain ⟨hq1, hq3⟩ := Bool.and_eq_true_iff.mp hq
        obtain ⟨hq1, hq2⟩ := Bool.and_eq_true_iff.mp hq1
        have hci : cj = ci := Nat.eq_of_beq_eq_true hq1
        subst hci
        obtain ⟨d, hd, fs, e1, e2⟩ := hh.2 _ _ hc
        subst e1
        have hl : k < fs.length := by
          rw [sx_sr_len e2]
          exact Nat.blt_eq.mp hq3
        exact ⟨fs, hd, hl, hq2, sx_hr_set hh ⟨fs.set k x, rfl, sx_sr_set e2 hx⟩⟩
    · cases hs
  · exact (sx_pw_ok hg hx hh hs).2 a ha
/-! arrays -/
def sx_a1 (g : sx_G) (H : sx_H) (ts : List Nat) (e : sx_E) (a : Nat) : Option (List sx_V) := match sx_hg H a with
  | some (some (.inr (.inl (t, as)))) => bif ts.contains t && sx_inb g e 0 ((as.length : Int) - 1) then (match sx_eb g.1 e with
    | some (L, U) => some ((as.drop L.toNat).take (U.toNat + 1 - L.toNat))
    | none => none) else none
  | some (some (.inr (.inr (t, n, l, u)))) => bif ts.contains t && sx_inb g e 0 ((n : Int) - 1) then some [sx_bv t l u] else none
  | _ => none
theorem sx_a1_ok {ν : List Int} {g : sx_G} {H : sx_H} {h : List ik_E} {ts : List Nat} {e : sx_E} {a : Nat} {y : Int} {vs : List sx_V} (hg : sx_ok ν g) (hh : sx_hr ν H h) (he : sx_ev ν e = some y) (hs : sx_a1 g H ts e a = some vs) : ∃ t ws v w, h[a]? = some (.inl (sx_ty t, ws)) ∧ t ∈ ts ∧ 0 ≤ y ∧ ws[y.toNat]? = some v ∧ w ∈ vs ∧ sx_vr ν w v := by
  unfold sx_a1 at hs
  split at hs
  · rename_i t as hc
    cases hq : (ts.contains t && sx_inb g e 0 ((as.length : Int) - 1)) with
    | false => rw [hq] at hs; cases hs
    | true =>
      rw [hq] at hs
      simp only [cond_true] at hs
      obtain ⟨q1, q2⟩ := Bool.and_eq_true_iff.mp hq
      obtain ⟨b1, b2⟩ := sx_inb_ok hg he q2
      split at hs
      · rename_i L U hb
        cases hs
        obtain ⟨z, hz, z1, z2⟩ := sx_eb_ok hg.1 hb
        rw [he] at hz; cases hz
        obtain ⟨d, hd, ws, e1, e2⟩ := hh.2 _ _ hc
        subst e1
        have hlt : y.toNat < as.length := by omega
        obtain ⟨v, hv, hr⟩ := sx_sr_get0 e2 (List.getElem?_eq_getElem hlt)
        refine ⟨t, ws, v, as[y.toNat], hd, List.contains_iff_mem.mp q1, b1, hv, ?_, hr⟩
        refine List.mem_iff_getElem?.mpr ⟨y.toNat - L.toNat, ?_⟩
        rw [List.getElem?_take_of_lt (by omega), List.getElem?_drop]
        rw [show L.toNat + (y.toNat - L.toNat) = y.toNat by omega]
        exact List.getElem?_eq_getElem hlt
      · cases hs
  · rename_i t n l u hc
    cases hq : (ts.contains t && sx_inb g e 0 ((n : Int) - 1)) with
    | false => rw [hq] at hs; cases hs
    | true =>
      rw [hq] at hs
      cases hs
      obtain ⟨q1, q2⟩ := Bool.and_eq_true_iff.mp hq
      obtain ⟨b1, b2⟩ := sx_inb_ok hg he q2
      obtain ⟨d, hd, ws, e1, e2, e3⟩ := hh.2 _ _ hc
      subst e1
      dsimp only at e2 e3
      have hlt : y.toNat < ws.length := by omega
      exact ⟨t, ws, ws[y.toNat], _, hd, List.contains_iff_mem.mp q1, b1, List.getElem?_eq_getElem hlt, List.mem_singleton.mpr rfl, sx_bv_nu (e3 _ (List.getElem_mem hlt))⟩
  · cases hs
def sx_av (g : sx_G) (H : sx_H) (ts : List Nat) (e : sx_E) : List Nat → Option (List sx_V)
  | [] => some []
  | a :: r => match sx_a1 g H ts e a, sx_av g H ts e r with
    | some xs, some ys => some (xs ++ ys)
    | _, _ => none
theorem sx_av_ok {ν : List Int} {g : sx_G} {H : sx_H} {h : List ik_E} {ts : List Nat} {e : sx_E} {a : Nat} {y : Int} (hg : sx_ok ν g) (hh : sx_hr ν H h) (he : sx_ev ν e = some y) : ∀ {ks : List Nat} {vs : List sx_V}, a ∈ ks → sx_av g H ts e ks = some vs → ∃ t ws v w, h[a]? = some (.inl (sx_ty t, ws)) ∧ t ∈ ts ∧ 0 ≤ y ∧ ws[y.toNat]? = some v ∧ w ∈ vs ∧ sx_vr ν w v
  | b :: r, vs, hm, hs => by
    simp only [sx_av] at hs
    split at hs
    · rename_i xs ys h1 h2
      cases hs
      rcases List.mem_cons.mp hm with rfl | hm
      · obtain ⟨t, ws, v, w, q1, q2, q3, q4, q5, q6⟩ := sx_a1_ok hg hh he h1
        exact ⟨t, ws, v, w, q1, q2, q3, q4, List.mem_append_left _ q5, q6⟩
      · obtain ⟨t, ws, v, w, q1, q2, q3, q4, q5, q6⟩ := sx_av_ok hg hh he hm h2
        exact ⟨t, ws, v, w, q1, q2, q3, q4, List.mem_append_right _ q5, q6⟩
    · cases hs
/-- one element, its place known -/
def sx_ae (g : sx_G) (H : sx_H) (ts : List Nat) (e : sx_E) (ks : List Nat) : Option (sx_G × sx_H × sx_V) := match ks with
  | [a] => match sx_hg H a with
    | some (some (.inr (.inl (t, as)))) => (match sx_k g e with
      | some c => bif ts.contains t && decide (0 ≤ c) then (match sx_get as c.toNat with
        | some v => (match sx_mv g v with
          | (g', w) => some (g', (bif sx_isr v then sx_hs H a (some (.inr (.inl (t, sx_set as w c.toNat)))) else H), w))
        | none => none) else none
      | none => none)
    | _ => none
  | _ => none
def sx_al (g : sx_G) (H : sx_H) (ts : List Nat) (e : sx_E) (ks : List Nat) : Option (sx_G × sx_H × sx_V) := match sx_ae g H ts e ks with
  | some z => some z
  | none => match sx_av g H ts e ks with
    | some vs => (match sx_hl g vs with
      | some (g', w) => some (g', H, w)
      | none => none)
    | none => none
theorem sx_al_ok {ν : List Int} {g g' : sx_G} {H H' : sx_H} {h : List ik_E} {ts : List Nat} {e : sx_E} {a : Nat} {ks : List Nat} {y : Int} {w : sx_V} (hg : sx_ok ν g) (hh : sx_hr ν H h) (ha : a ∈ ks) (he : sx_ev ν e = some y) (hs : sx_al g H ts e ks = some (g', H', w)) : ∃ t ws v δ, h[a]? = some (.inl (sx_ty t, ws)) ∧ t ∈ ts ∧ 0 ≤ y ∧ ws[y.toNat]? = some v ∧ sx_ok (ν ++ δ) g' ∧ sx_hr (ν ++ δ) H' h ∧ sx_vr (ν ++ δ) w v := by
  unfold sx_al at hs
  split at hs
  · rename_i z hz
    cases hs
    unfold sx_ae at hz
    split at hz
    · rename_i b
      rw [List.mem_singleton] at ha
      subst ha
      split at hz
      · rename_i t as hc
        split at hz
        · rename_i c hk
          have hyc := sx_k_ok hg he hk
          subst hyc
          cases hq : (ts.contains t && decide (0 ≤ y)) with
          | false => rw [hq] at hz; cases hz
          | true =>
            rw [hq] at hz
            simp only [cond_true] at hz
            obtain ⟨q1, q2⟩ := Bool.and_eq_true_iff.mp hq
            split at hz
            · rename_i v hv
              cases hz
              obtain ⟨d, hd, ws, e1, e2⟩ := hh.2 _ _ hc
              subst e1
              obtain ⟨x, hx, hr⟩ := sx_sr_get e2 hv
              obtain ⟨δ, h1, h2⟩ := sx_mv_ok hg hr (rfl : sx_mv g v = ((sx_mv g v).1, (sx_mv g v).2))
              refine ⟨t, ws, x, δ, hd, List.contains_iff_mem.mp q1, of_decide_eq_true q2, hx, h1, ?_, h2⟩
              cases sx_isr v
              · exact sx_hr_mono hh
              · exact sx_hr_see (sx_hr_mono hh) hd ⟨ws, rfl, sx_sr_see (sx_sr_mono e2) hx h2⟩
            · cases hz
        · cases hz
      · cases hz
    · cases hz
  · split at hs
    · rename_i vs hv
      split at hs
      · rename_i g1 w1 hl
        cases hs
        obtain ⟨t, ws, v, u, q1, q2, q3, q4, q5, q6⟩ := sx_av_ok hg hh he ha hv
        obtain ⟨δ, h1, h2⟩ := sx_hl_ok hg q6 q5 hl
        exact ⟨t, ws, v, δ, q1, q2, q3, q4, h1, sx_hr_mono hh, h2⟩
      · cases hs
    · cases hs
/-- what a row of this type takes of a value -/
def sx_nv (g : sx_G) (t : Nat) (v : sx_V) : sx_V := match t with
  | 2 => sx_ri (-128) 127
  | 3 => (match v with
    | .inl e => bif sx_inb g e 0 1 then v else sx_ri 0 1
    | _ => sx_ri 0 1)
  | _ => v
def sx_aw (M : sx_M) (g : sx_G) (ts : List Nat) (e : sx_E) (v : sx_V) : List Nat → sx_H → Option sx_H
  | [], H => some H
  | a :: r, H => match sx_hg H a with
    | some (some (.inr (.inr (t, n, l, u)))) => bif ts.contains t && sx_inb g e 0 ((n : Int) - 1) && sx_ma M a then (match sx_vb g (sx_nv g t v) with
      | some (b, l', u') => bif b == Nat.beq t 1 then sx_aw M g ts e v r (sx_hs H a (some (.inr (.inr (t, n, min l l', max u u'))))) else none
      | none => none) else none
    | _ => none
theorem sx_aw_ok {M : sx_M} {ν : List Int} {g : sx_G} (hg : sx_ok ν g) {ts : List Nat} {e : sx_E} {y : Int} (he : sx_ev ν e = some y) {v : sx_V} {f : Nat → Value} (hf : ∀ t, t ∈ ts → sx_vr ν (sx_nv g t v) (f t)) : ∀ {ks : List Nat} {H H' : sx_H} {h : List ik_E}, sx_hr ν H h → sx_aw M g ts e v ks H = some H' → sx_hr ν H' h ∧ ∀ a, a ∈ ks → ∃ t ws, t ∈ ts ∧ h[a]? = some (.inl (sx_ty t, ws)) ∧ 0 ≤ y ∧ y.toNat < ws.length ∧ sx_md M a y.toNat = true ∧ sx_hr ν H' (h.set a (.inl (sx_ty t, ws.set y.toNat (f t))))
  | [], H, H', h, hh, hs => by
    cases hs
    exact ⟨hh, fun a ha => by cases ha⟩
  | b :: r, H, H', h, hh, hs => by
    simp only [sx_aw] at hs
    split at hs
    · rename_i t n l u hc
      cases hq : (ts.contains t && sx_inb g e 0 ((n : Int) - 1) && sx_ma M b) with
      | false => rw [hq] at hs; cases hs
      | true =>
        obtain ⟨hq1, hq3⟩ := Bool.and_eq_true_iff.mp hq
        obtain ⟨hq1, hq2⟩ := Bool.and_eq_true_iff.mp hq1
        rw [hq] at hs
        simp only [cond_true] at hs
        split at hs
        · rename_i bb l' u' hb
          cases hbq : (bb == Nat.beq t 1) with
          | false => rw [hbq] at hs; cases hs
          | true =>
            rw [hbq] at hs
            simp only [cond_true] at hs
            have hbb : bb = Nat.beq t 1 := eq_of_beq hbq
            obtain ⟨b1, b2⟩ := sx_inb_ok hg he hq2
            have hts := List.contains_iff_mem.mp hq1
            have hnew := sx_vb_ok hg (hf t hts) hb
            rw [hbb] at hnew
            obtain ⟨d, hd, ws, e1, e2, e3⟩ := hh.2 _ _ hc
            subst e1
            dsimp only at e2 e3
            have hlt : y.toNat < ws.length := by omega
            have old : ∀ w, sx_vr [] (sx_bv t l u) w → sx_vr [] (sx_bv t (min l l') (max u u')) w := fun w hw => sx_rg_le (b := Nat.beq t 1) hw (Int.min_le_left _ _) (Int.le_max_left _ _)
            have new : sx_vr [] (sx_bv t (min l l') (max u u')) (f t) := sx_rg_nu (b := Nat.beq t 1) (sx_rg_le hnew (Int.min_le_right _ _) (Int.le_max_right _ _))
            have hh1 : sx_hr ν (sx_hs H b (some (.inr (.inr (t, n, min l l', max u u'))))) h := sx_hr_see hh hd ⟨ws, rfl, e2, fun w hw => old w (e3 w hw)⟩
            have hh2 : sx_hr ν (sx_hs H b (some (.inr (.inr (t, n, min l l', max u u'))))) (h.set b (.inl (sx_ty t, ws.set y.toNat (f t)))) := by
              refine sx_hr_set hh ⟨ws.set y.toNat (f t), rfl, by rw [List.length_set]; exact e2, fun w hw => ?_⟩
              rcases List.mem_or_eq_of_mem_set hw with hw | hw
              · exact old w (e3 w hw)
              · rw [hw]; exact new
            obtain ⟨r1, r2⟩ := sx_aw_ok hg he hf hh1 hs
            refine ⟨r1, fun a ha => ?_⟩
            rcases List.mem_cons.mp ha with rfl | ha
            · exact ⟨t, ws, hts, hd, b1, hlt, sx_ma_md hq3, (sx_aw_ok hg he hf hh2 hs).1⟩
            · exact r2 a ha
        · cases hs
    · cases hs
/-- one element, its place known -/
def sx_ax (M : sx_M) (g : sx_G) (ts : List Nat) (e : sx_E) (v : sx_V) (ks : List Nat) (H : sx_H) : Option sx_H := match ks with
  | [a] => match sx_hg H a with
    | some (some (.inr (.inl (t, as)))) => (match sx_k g e with
      | some c => bif ts.contains t && decide (0 ≤ c) && Nat.blt c.toNat as.length && sx_md M a c.toNat then some (sx_hs H a (some (.inr (.inl (t, sx_set as (sx_nv g t v) c.toNat))))) else none
      | none => none)
    | _ => none
  | _ => none
def sx_ap (M : sx_M) (g : sx_G) (ts : List Nat) (e : sx_E) (v : sx_V) (ks : List Nat) (H : sx_H) : Option sx_H := match sx_ax M g ts e v ks H with
  | some H' => some H'
  | none => sx_aw M g ts e v ks H
theorem sx_ap_ok {M : sx_M} {ν : List Int} {g : sx_G} (hg : sx_ok ν g) {ts : List Nat} {e : sx_E} {y : Int} (he : sx_ev ν e = some y) {v : sx_V} {f : Nat → Value} (hf : ∀ t, t ∈ ts → sx_vr ν (sx_nv g t v) (f t)) {ks : List Nat} {H H' : sx_H} {h : List ik_E} (hh : sx_hr ν H h) {a : Nat} (ha : a ∈ ks) (hs : sx_ap M g ts e v ks H = some H') : ∃ t ws, t ∈ ts ∧ h[a]? = some (.inl (sx_ty t, ws)) ∧ 0 ≤ y ∧ y.toNat < ws.length ∧ sx_md M a y.toNat = true ∧ sx_hr ν H' (h.set a (.inl (sx_ty t, ws.set y.toNat (f t)))) := by
  unfold sx_ap at hs
  split at hs
  · rename_i H1 hx
    cases hs
    unfold sx_ax at hx
    split at hx
    · rename_i b
      rw [List.mem_singleton] at ha
      subst ha
      split at hx
      · rename_i t as hc
        split at hx
        · rename_i c hk
          have hyc := sx_k_ok hg he hk
          subst hyc
          cases hq : (ts.contains t && decide (0 ≤ y) && Nat.blt y.toNat as.length && sx_md M a y.toNat) with
          | false => rw [hq] at hx; cases hx
          | true =>
            rw [hq] at hx
            cases hx
            obtain ⟨hq1, hq4⟩ := Bool.and_eq_true_iff.mp hq
            obtain ⟨hq1, hq3⟩ := Bool.and_eq_true_iff.mp hq1
            obtain ⟨hq1, hq2⟩ := Bool.and_eq_true_iff.mp hq1
            obtain ⟨d, hd, ws, e1, e2⟩ := hh.2 _ _ hc
            subst e1
            have hts := List.contains_iff_mem.mp hq1
            refine ⟨t, ws, hts, hd, of_decide_eq_true hq2, by rw [sx_sr_len e2]; exact Nat.blt_eq.mp hq3, hq4, ?_⟩
            exact sx_hr_set hh ⟨ws.set y.toNat (f t), rfl, sx_sr_set e2 (hf t hts)⟩
        · cases hx
      · cases hx
    · cases hx
  · exact (sx_aw_ok hg he hf hh hs).2 a ha
/-- how long the rows at these places are -/
def sx_n1c (H : sx_H) (a : Nat) : Option Nat := match sx_hg H a with
  | some (some (.inr (.inl (_, as)))) => some as.length
  | some (some (.inr (.inr (_, n, _, _)))) => some n
  | _ => none
def sx_nc (H : sx_H) : List Nat → Option Nat
  | [] => none
  | [a] => sx_n1c H a
  | a :: r => match sx_n1c H a, sx_nc H r with
    | some n, some m => bif Nat.beq n m then some n else none
    | _, _ => none
theorem sx_n1c_ok {ν : List Int} {H : sx_H} {h : List ik_E} (hh : sx_hr ν H h) {a n : Nat} (hs : sx_n1c H a = some n) : ∃ ty ws, h[a]? = some (.inl (ty, ws)) ∧ ws.length = n := by
  unfold sx_n1c at hs
  split at hs
  · rename_i t as hc
    cases hs
    obtain ⟨d, hd, ws, e1, e2⟩ := hh.2 _ _ hc
    subst e1
    exact ⟨_, ws, hd, sx_sr_len e2⟩
  · rename_i t m l u hc
    cases hs
    obtain ⟨d, hd, ws, e1, e2, e3⟩ := hh.2 _ _ hc
    subst e1
    exact ⟨_, ws, hd, e2⟩
  · cases hs
theorem sx_nc_ok {ν : List Int} {H : sx_H} {h : List ik_E} (hh : sx_hr ν H h) {a : Nat} : ∀ {ks : List Nat} {n : Nat}, a ∈ ks → sx_nc H ks = some n → ∃ ty ws, h[a]? = some (.inl (ty, ws)) ∧ ws.length = n
  | [b], n, hm, hs => by
    rw [List.mem_singleton] at hm
    subst hm
    exact sx_n1c_ok hh hs
  | b :: c :: r, n, hm, hs => by
    simp only [sx_nc] at hs
    split at hs
    · rename_i n1 n2 h1 h2
      cases hq : Nat.beq n1 n2 with
      | false => rw [hq] at hs; cases hs
      | true =>
        rw [hq] at hs
        cases hs
        have := Nat.eq_of_beq_eq_true hq
        subst this
        rcases List.mem_cons.mp hm with rfl | hm
        · exact sx_n1c_ok hh h1
        · exact sx_nc_ok hh hm h2
    · cases hs
end
