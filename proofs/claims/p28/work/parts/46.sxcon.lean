noncomputable section
/-! inclusion, places in a state, contracts -/
/-- all symbols of an expression are among the first n0 (the given ones) -/
def sx_e0 (n0 : Nat) (e : sx_E) : Bool := e.2.all fun p => Nat.blt p.1 n0
theorem sx_e0_ok {μ : List Int} : ∀ {l : List (Nat × Int)}, l.all (fun p => Nat.blt p.1 μ.length) = true → ∃ y, sx_sm μ l = some y
  | [], _ => ⟨0, rfl⟩
  | (s, k) :: r, h => by
    simp only [List.all_cons] at h
    obtain ⟨h1, h2⟩ := Bool.and_eq_true_iff.mp h
    obtain ⟨y, hy⟩ := sx_e0_ok h2
    have hs : s < μ.length := Nat.blt_eq.mp h1
    exact ⟨_, sx_sm_cons.mpr ⟨μ[s], y, List.getElem?_eq_getElem hs, hy, rfl⟩⟩
/-- alike -/
def sx_q (n0 : Nat) (g : sx_G) (e f : sx_E) : Bool := sx_e0 n0 f && sx_nn g (sx_sub e f) && sx_nn g (sx_sub f e)
theorem sx_q_ok {μ δ : List Int} {g : sx_G} (hg : sx_ok (μ ++ δ) g) {e f : sx_E} {y : Int} (he : sx_ev (μ ++ δ) e = some y) (h : sx_q μ.length g e f = true) : sx_ev μ f = some y := by
  unfold sx_q at h
  obtain ⟨h1, h3⟩ := Bool.and_eq_true_iff.mp h
  obtain ⟨h1, h2⟩ := Bool.and_eq_true_iff.mp h1
  obtain ⟨z, hz⟩ := sx_e0_ok h1
  have hf : sx_ev μ f = some (f.1 + z) := sx_ev_def.mpr ⟨z, hz, rfl⟩
  have a1 := sx_nn_ok hg (sx_ev_sub he (sx_ev_mono hf)) h2
  have a2 := sx_nn_ok hg (sx_ev_sub (sx_ev_mono hf) he) h3
  rw [hf]
  congr 1
  omega
def sx_lv (n0 : Nat) (g : sx_G) (v w : sx_V) : Bool := match w with
  | .inl f => (match v with
    | .inl e => sx_q n0 g e f
    | _ => false)
  | .inr (.inl f) => (match v with
    | .inr (.inl e) => sx_q n0 g e f
    | _ => false)
  | .inr (.inr (.inr (.inr (.inl p)))) => (match v with
    | .inl e => sx_inb g e p.1 p.2
    | .inr (.inr (.inr (.inr (.inl q)))) => decide (p.1 ≤ q.1) && decide (q.2 ≤ p.2)
    | _ => false)
  | .inr (.inr (.inr (.inr (.inr (.inl p))))) => (match v with
    | .inr (.inl e) => sx_inb g e p.1 p.2
    | .inr (.inr (.inr (.inr (.inr (.inl q))))) => decide (p.1 ≤ q.1) && decide (q.2 ≤ p.2)
    | _ => false)
  | .inr (.inr (.inl ks)) => (match v with
    | .inr (.inr (.inl js)) => js.all (fun j => ks.contains j)
    | _ => false)
  | .inr (.inr (.inr (.inl k))) => (match v with
    | .inr (.inr (.inr (.inl j))) => Nat.beq j k
    | _ => false)
  | _ => false
theorem sx_lv_ok {μ δ : List Int} {g : sx_G} (hg : sx_ok (μ ++ δ) g) {v w : sx_V} {x : Value} (hx : sx_vr (μ ++ δ) v x) (h : sx_lv μ.length g v w = true) : sx_vr μ w x := by
  rcases w with e | e | ks | k | p | p | e
  · simp only [sx_lv] at h
    split at h
    · obtain ⟨y, rfl, hy⟩ := hx
      exact ⟨y, rfl, sx_q_ok hg hy h⟩
    · cases h
  · simp only [sx_lv] at h
    split at h
    · obtain ⟨y, rfl, hy⟩ := hx
      exact ⟨y, rfl, sx_q_ok hg hy h⟩
    · cases h
  · simp only [sx_lv] at h
    split at h
    · obtain ⟨k, h1, h2⟩ := hx
      exact ⟨k, List.contains_iff_mem.mp (List.all_eq_true.mp h k h1), h2⟩
    · cases h
  · simp only [sx_lv] at h
    split at h
    · cases hx
      rw [Nat.eq_of_beq_eq_true h]
      rfl
    · cases h
  · simp only [sx_lv] at h
    split at h
    · obtain ⟨y, rfl, hy⟩ := hx
      exact ⟨y, rfl, sx_inb_ok hg hy h⟩
    · obtain ⟨y, rfl, h1, h2⟩ := hx
      obtain ⟨q1, q2⟩ := Bool.and_eq_true_iff.mp h
      exact ⟨y, rfl, Int.le_trans (of_decide_eq_true q1) h1, Int.le_trans h2 (of_decide_eq_true q2)⟩
    · cases h
  · simp only [sx_lv] at h
    split at h
    · obtain ⟨y, rfl, hy⟩ := hx
      exact ⟨y, rfl, sx_inb_ok hg hy h⟩
    · obtain ⟨y, rfl, h1, h2⟩ := hx
      obtain ⟨q1, q2⟩ := Bool.and_eq_true_iff.mp h
      exact ⟨y, rfl, Int.le_trans (of_decide_eq_true q1) h1, Int.le_trans h2 (of_decide_eq_true q2)⟩
    · cases h
  · cases h
def sx_lvs (n0 : Nat) (g : sx_G) : List sx_V → List sx_V → Bool
  | [], [] => true
  | v :: r, w :: s => sx_lv n0 g v w && sx_lvs n0 g r s
  | _, _ => false
theorem sx_lvs_ok {μ δ : List Int} {g : sx_G} (hg : sx_ok (μ ++ δ) g) : ∀ {vs ws : List sx_V} {xs : List Value}, sx_sr (μ ++ δ) vs xs → sx_lvs μ.length g vs ws = true → sx_sr μ ws xs
  | [], [], [], _, _ => trivial
  | v :: r, w :: s, x :: xs, hx, h => by
    simp only [sx_lvs] at h
    obtain ⟨h1, h2⟩ := Bool.and_eq_true_iff.mp h
    exact ⟨sx_lv_ok hg hx.1 h1, sx_lvs_ok hg hx.2 h2⟩
  | [], _ :: _, _, _, h => by cases h
  | _ :: _, [], _, _, h => by cases h
  | [], [], _ :: _, h, _ => h.elim
  | _ :: _, _ :: _, [], h, _ => h.elim
def sx_lc (n0 : Nat) (g : sx_G) (c d : sx_C) : Bool := match d with
  | .inl (cj, bs) => (match c with
    | .inl (ci, as) => Nat.beq ci cj && sx_lvs n0 g as bs
    | _ => false)
  | .inr (.inl (t, bs)) => (match c with
    | .inr (.inl (u, as)) => Nat.beq u t && sx_lvs n0 g as bs
    | .inr (.inr (t', n', l', u')) => Nat.beq t' t && Nat.beq bs.length n' && bs.all (fun b => sx_lv 0 ((0, []), []) (sx_bv t' l' u') b)
    | _ => false)
  | .inr (.inr (t, n, l, u)) => (match c with
    | .inr (.inr (t', n', l', u')) => Nat.beq t' t && Nat.beq n' n && decide (l ≤ l') && decide (u' ≤ u)
    | .inr (.inl (u', as)) => Nat.beq u' t && Nat.beq as.length n && as.all (fun a => sx_lv 0 g a (sx_bv t l u))
    | _ => false)
theorem sx_sr_all {μ : List Int} {P : List sx_V} : ∀ {vs : List Value}, P.length = vs.length → (∀ b v, b ∈ P → v ∈ vs → sx_vr μ b v) → sx_sr μ P vs := by
  induction P with
  | nil =>
    intro vs hl _
    cases vs with
    | nil => trivial
    | cons _ _ => simp at hl
  | cons b P ih =>
    intro vs hl h
    cases vs with
    | nil => simp at hl
    | cons v vs => exact ⟨h b v List.mem_cons_self List.mem_cons_self, ih (by simpa using hl) fun c w hc hw => h c w (List.mem_cons_of_mem _ hc) (List.mem_cons_of_mem _ hw)⟩
theorem sx_lc_ok {μ δ : List Int} {g : sx_G} (hg : sx_ok (μ ++ δ) g) {c d : sx_C} {x : ik_E} (hx : sx_cr (μ ++ δ) c x) (h : sx_lc μ.length g c d = true) : sx_cr μ d x := by
  rcases d with ⟨cj, bs⟩ | ⟨t, bs⟩ | ⟨t, n, l, u⟩
  · simp only [sx_lc] at h
    split at h
    · obtain ⟨q1, q2⟩ := Bool.and_eq_true_iff.mp h
      obtain ⟨fs, h1, h2⟩ := hx
      refine ⟨fs, ?_, sx_lvs_ok hg h2 q2⟩
      rw [h1, Nat.eq_of_beq_eq_true q1]
    · cases h
  · simp only [sx_lc] at h
    split at h
    · obtain ⟨q1, q2⟩ := Bool.and_eq_true_iff.mp h
      obtain ⟨fs, h1, h2⟩ := hx
      refine ⟨fs, ?_, sx_lvs_ok hg h2 q2⟩
      rw [h1, Nat.eq_of_beq_eq_true q1]
    · rename_i t' n' l' u'
      obtain ⟨q1, q3⟩ := Bool.and_eq_true_iff.mp h
      obtain ⟨q1, q2⟩ := Bool.and_eq_true_iff.mp q1
      obtain ⟨vs, h1, h2, h3⟩ := hx
      dsimp only at h1 h2 h3
      have e1 := Nat.eq_of_beq_eq_true q1
      subst e1
      refine ⟨vs, h1, sx_sr_all ((Nat.eq_of_beq_eq_true q2).trans h2.symm) fun b v hb hv => ?_⟩
      exact sx_vr_mono (ν := []) (δ := μ) (sx_lv_ok (μ := []) (δ := []) (g := ((0, []), [])) ⟨⟨rfl, trivial⟩, fun c hc => by cases hc⟩ (h3 v hv) (List.all_eq_true.mp q3 b hb))
    · cases h
  · simp only [sx_lc] at h
    split at h
    · rename_i t' n' l' u'
      obtain ⟨q1, q4⟩ := Bool.and_eq_true_iff.mp h
      obtain ⟨q1, q3⟩ := Bool.and_eq_true_iff.mp q1
      obtain ⟨q1, q2⟩ := Bool.and_eq_true_iff.mp q1
      obtain ⟨vs, h1, h2, h3⟩ := hx
      dsimp only at h1 h2 h3
      have e1 := Nat.eq_of_beq_eq_true q1
      subst e1
      exact ⟨vs, h1, h2.trans (Nat.eq_of_beq_eq_true q2), fun v hv => sx_rg_le (b := Nat.beq t' 1) (h3 v hv) (of_decide_eq_true q3) (of_decide_eq_true q4)⟩
    · rename_i u' as
      obtain ⟨q1, q3⟩ := Bool.and_eq_true_iff.mp h
      obtain ⟨q1, q2⟩ := Bool.and_eq_true_iff.mp q1
      obtain ⟨vs, h1, h2⟩ := hx
      dsimp only at h1 h2
      have e1 := Nat.eq_of_beq_eq_true q1
      subst e1
      refine ⟨vs, h1, (sx_sr_len h2).trans (Nat.eq_of_beq_eq_true q2), fun v hv => ?_⟩
      obtain ⟨a, ha, hr⟩ := sx_sr_mem h2 hv
      exact sx_lv_ok (μ := []) (δ := μ ++ δ) hg hr (List.all_eq_true.mp q3 a ha)
    · cases h
def sx_lhl (n0 : Nat) (g : sx_G) : List (Option sx_C) → List (Option sx_C) → Bool
  | _, [] => true
  | c :: H, none :: W => sx_lhl n0 g H W
  | some c :: H, some d :: W => sx_lc n0 g c d && sx_lhl n0 g H W
  | _, _ => false
theorem sx_lhl_len {n0 : Nat} {g : sx_G} : ∀ {H W : List (Option sx_C)}, sx_lhl n0 g H W = true → W.length ≤ H.length
  | _, [], _ => Nat.zero_le _
  | c :: H, none :: W, h => by
    simp only [sx_lhl] at h
    simp only [List.length_cons]
    have := sx_lhl_len h
    omega
  | some c :: H, some d :: W, h => by
    simp only [sx_lhl] at h
    simp only [List.length_cons]
    have := sx_lhl_len (Bool.and_eq_true_iff.mp h).2
    omega
  | [], none :: _, h => by cases h
  | [], some _ :: _, h => by cases h
  | none :: _, some _ :: _, h => by cases h
theorem sx_lhl_get {n0 : Nat} {g : sx_G} : ∀ {H W : List (Option sx_C)} {a : Nat} {d : sx_C}, sx_lhl n0 g H W = true → W[a]? = some (some d) → ∃ c, H[a]? = some (some c) ∧ sx_lc n0 g c d = true
  | _, [], a, d, _, hw => by simp at hw
  | c :: H, none :: W, 0, d, h, hw => by simp at hw
  | c :: H, none :: W, a + 1, d, h, hw => by
    simp only [sx_lhl] at h
    simp only [List.getElem?_cons_succ] at hw ⊢
    exact sx_lhl_get h hw
  | some c :: H, some e :: W, 0, d, h, hw => by
    simp only [sx_lhl] at h
    simp only [List.getElem?_cons_zero, Option.some.injEq] at hw
    subst hw
    exact ⟨c, rfl, (Bool.and_eq_true_iff.mp h).1⟩
  | some c :: H, some e :: W, a + 1, d, h, hw => by
    simp only [sx_lhl] at h
    simp only [List.getElem?_cons_succ] at hw ⊢
    exact sx_lhl_get (Bool.and_eq_true_iff.mp h).2 hw
  | [], none :: _, _, _, h, _ => by cases h
  | [], some _ :: _, _, _, h, _ => by cases h
  | none :: _, some _ :: _, _, _, h, _ => by cases h
def sx_lh (n0 : Nat) (g : sx_G) (H W : sx_H) : Bool := sx_lhl n0 g H.1 W.1 && sx_lhl n0 g H.2 W.2
theorem sx_lh_len {n0 : Nat} {g : sx_G} {H W : sx_H} (h : sx_lh n0 g H W = true) : sx_hn W ≤ sx_hn H := by
  have := sx_lhl_len (Bool.and_eq_true_iff.mp h).2
  unfold sx_hn
  omega
theorem sx_lh_get {n0 : Nat} {g : sx_G} {H W : sx_H} {a : Nat} {d : sx_C} (h : sx_lh n0 g H W = true) (hw : sx_hg W a = some (some d)) : ∃ c, sx_hg H a = some (some c) ∧ sx_lc n0 g c d = true := by
  obtain ⟨h1, h2⟩ := Bool.and_eq_true_iff.mp h
  unfold sx_hg at hw ⊢
  cases ha : Nat.blt a 66 <;> rw [ha] at hw <;> simp only [cond_true, cond_false, sx_get_eq] at hw ⊢
  · exact sx_lhl_get h2 hw
  · exact sx_lhl_get h1 hw
theorem sx_lh_ok {μ δ : List Int} {g : sx_G} (hg : sx_ok (μ ++ δ) g) {H W : sx_H} {h : List ik_E} (hh : sx_hr (μ ++ δ) H h) (hl : sx_lh μ.length g H W = true) : sx_hr μ W h := by
  refine ⟨Nat.le_trans (sx_lh_len hl) hh.1, fun a d hd => ?_⟩
  obtain ⟨c, h1, h2⟩ := sx_lh_get hl hd
  obtain ⟨x, q1, q2⟩ := hh.2 a c h1
  exact ⟨x, q1, sx_lc_ok hg q2 h2⟩
/-- its references are to places that there are -/
def sx_wv (N : Nat) (a : sx_V) : Bool := match a with
  | .inr (.inr (.inl ks)) => ks.all (fun k => Nat.blt k N)
  | _ => true
theorem sx_wv_ok {ν : List Int} {N n : Nat} (hn : N ≤ n) {a : sx_V} {v : Value} (hv : sx_vr ν a v) (h : sx_wv N a = true) : ik_wv n v = true := by
  rcases a with e | e | ks | k | p | p | e
  · obtain ⟨x, rfl, _⟩ := hv; rfl
  · obtain ⟨x, rfl, _⟩ := hv; rfl
  · obtain ⟨k, h1, rfl⟩ := hv
    have := Nat.blt_eq.mp (List.all_eq_true.mp h k h1)
    exact decide_eq_true (Nat.lt_of_lt_of_le this hn)
  · cases hv; rfl
  · obtain ⟨x, rfl, _⟩ := hv; rfl
  · obtain ⟨x, rfl, _⟩ := hv; rfl
  · obtain ⟨x, rfl, _⟩ := hv; rfl
def sx_wl (N : Nat) (o : Option sx_V) : Bool := match o with
  | some a => sx_wv N a
  | none => true
theorem sx_wl_ok {ν : List Int} {N n : Nat} (hn : N ≤ n) : ∀ {l : sx_L} {loc : ik_L}, sx_lr ν n l loc → l.all (sx_wl N) = true → loc.all (ik_wl n) = true
  | [], [], _, _ => rfl
  | none :: l, o :: loc, h, hw => by
    simp only [List.all_cons] at hw ⊢
    rw [h.1, sx_wl_ok hn h.2 (Bool.and_eq_true_iff.mp hw).2]; rfl
  | some a :: l, o :: loc, h, hw => by
    simp only [List.all_cons] at hw ⊢
    obtain ⟨w1, w2⟩ := Bool.and_eq_true_iff.mp hw
    obtain ⟨⟨v, rfl, hv⟩, h2⟩ := h
    have e1 : ik_wl n (some v) = true := sx_wv_ok hn hv w1
    rw [e1, sx_wl_ok hn h2 w2]; rfl
  | [], _ :: _, h, _ => h.elim
  | none :: _, [], h, _ => h.elim
  | some _ :: _, [], h, _ => h.elim
theorem sx_ws_ok {ν : List Int} {N n : Nat} (hn : N ≤ n) : ∀ {s : List sx_V} {st : List Value}, sx_sr ν s st → s.all (sx_wv N) = true → st.all (ik_wv n) = true
  | [], [], _, _ => rfl
  | a :: s, v :: st, h, hw => by
    simp only [List.all_cons] at hw ⊢
    obtain ⟨w1, w2⟩ := Bool.and_eq_true_iff.mp hw
    rw [sx_wv_ok hn h.1 w1, sx_ws_ok hn h.2 w2]; rfl
  | [], _ :: _, h, _ => h.elim
  | _ :: _, [], h, _ => h.elim
def sx_ll (n0 : Nat) (g : sx_G) (N : Nat) : sx_L → sx_L → Bool
  | [], [] => true
  | none :: l, none :: w => sx_ll n0 g N l w
  | some a :: l, none :: w => sx_wv N a && sx_ll n0 g N l w
  | some a :: l, some b :: w => sx_lv n0 g a b && sx_ll n0 g N l w
  | _, _ => false
theorem sx_ll_ok {μ δ : List Int} {g : sx_G} (hg : sx_ok (μ ++ δ) g) {N n : Nat} (hn : N ≤ n) : ∀ {l w : sx_L} {loc : ik_L}, sx_lr (μ ++ δ) n l loc → sx_ll μ.length g N l w = true → sx_lr μ n w loc
  | [], [], [], _, _ => trivial
  | none :: l, none :: w, o :: loc, h, hs => ⟨h.1, sx_ll_ok hg hn h.2 hs⟩
  | some a :: l, none :: w, o :: loc, h, hs => by
    simp only [sx_ll] at hs
    obtain ⟨h1, h2⟩ := Bool.and_eq_true_iff.mp hs
    obtain ⟨⟨v, rfl, hv⟩, h3⟩ := h
    exact ⟨sx_wv_ok hn hv h1, sx_ll_ok hg hn h3 h2⟩
  | some a :: l, some b :: w, o :: loc, h, hs => by
    simp only [sx_ll] at hs
    obtain ⟨h1, h2⟩ := Bool.and_eq_true_iff.mp hs
    obtain ⟨⟨v, rfl, hv⟩, h3⟩ := h
    exact ⟨⟨v, rfl, sx_lv_ok hg hv h1⟩, sx_ll_ok hg hn h3 h2⟩
  | [], _ :: _, _, _, hs => by cases hs
  | none :: _, [], _, _, hs => by cases hs
  | some _ :: _, [], _, _, hs => by cases hs
  | none :: _, some _ :: _, _, _, hs => by cases hs
  | [], [], _ :: _, h, _ => h.elim
  | none :: _, none :: _, [], h, _ => h.elim
  | some _ :: _, none :: _, [], h, _ => h.elim
  | some _ :: _, some _ :: _, [], h, _ => h.elim
/-! sums over places in a state: (0, a, _) the local a, (1, a, k) element k of the cell a, (2, ..) the value on top -/
abbrev sx_Q : Type := Nat × Nat × Nat
abbrev sx_X : Type := Int × List (Int × sx_Q)
def sx_sc (a : sx_V) : Option sx_E := match a with
  | .inl e => some e
  | .inr (.inl e) => some e
  | _ => none
def sx_iv (v : Value) : Option Int := match v with
  | .int x => some x.toInt
  | .long x => some x.toInt
  | _ => none
theorem sx_sc_ok {ν : List Int} {a : sx_V} {v : Value} {e : sx_E} (h : sx_vr ν a v) (hs : sx_sc a = some e) : ∃ y, sx_iv v = some y ∧ sx_ev ν e = some y := by
  rcases a with e' | e' | ks | k | p | p | e'
  · cases hs; obtain ⟨x, rfl, hx⟩ := h; exact ⟨_, rfl, hx⟩
  · cases hs; obtain ⟨x, rfl, hx⟩ := h; exact ⟨_, rfl, hx⟩
  · cases hs
  · cases hs
  · cases hs
  · cases hs
  · cases hs
def sx_ce (H : sx_H) (a k : Nat) : Option sx_V := match sx_hg H a with
  | some (some (.inl (_, as))) => sx_get as k
  | some (some (.inr (.inl (_, as)))) => sx_get as k
  | _ => none
theorem sx_ce_ok {ν : List Int} {H : sx_H} {h : List ik_E} (hh : sx_hr ν H h) {a k : Nat} {w : sx_V} (hs : sx_ce H a k = some w) : ∃ d v, h[a]? = some d ∧ (sx_pt d).2[k]? = some v ∧ sx_vr ν w v := by
  unfold sx_ce at hs
  split at hs
  · rename_i ci as hc
    obtain ⟨d, hd, fs, e1, e2⟩ := hh.2 _ _ hc
    subst e1
    obtain ⟨v, hv, hr⟩ := sx_sr_get e2 hs
    exact ⟨_, v, hd, hv, hr⟩
  · rename_i ci as hc
    obtain ⟨d, hd, fs, e1, e2⟩ := hh.2 _ _ hc
    subst e1
    obtain ⟨v, hv, hr⟩ := sx_sr_get e2 hs
    exact ⟨_, v, hd, hv, hr⟩
  · cases hs
def sx_la (l : sx_L) (s : List sx_V) (H : sx_H) (q : sx_Q) : Option sx_E := match q with
  | (0, a, _) => (match l[a]? with
    | some (some v) => sx_sc v
    | _ => none)
  | (1, a, k) => (match sx_ce H a k with
    | some v => sx_sc v
    | none => none)
  | _ => (match s with
    | v :: _ => sx_sc v
    | [] => none)
def sx_lk (loc : ik_L) (st : List Value) (h : List ik_E) (q : sx_Q) : Option Int := match q with
  | (0, a, _) => (match loc[a]? with
    | some (some v) => sx_iv v
    | _ => none)
  | (1, a, k) => (match h[a]? with
    | some d => (match (sx_pt d).2[k]? with
      | some v => sx_iv v
      | none => none)
    | none => none)
  | _ => (match st with
    | v :: _ => sx_iv v
    | [] => none)
theorem sx_la_ok {ν : List Int} {n : Nat} {l : sx_L} {s : List sx_V} {H : sx_H} {loc : ik_L} {st : List Value} {h : List ik_E} (hl : sx_lr ν n l loc) (hs : sx_sr ν s st) (hh : sx_hr ν H h) {q : sx_Q} {e : sx_E} (ha : sx_la l s H q = some e) : ∃ y, sx_lk loc st h q = some y ∧ sx_ev ν e = some y := by
  obtain ⟨t, a, k⟩ := q
  match t, ha with
  | 0, ha =>
    simp only [sx_la] at ha
    simp only [sx_lk]
    split at ha
    · rename_i v hv
      obtain ⟨x, hx, hr⟩ := sx_lr_get hl hv
      rw [hx]
      exact sx_sc_ok hr ha
    · cases ha
  | 1, ha =>
    simp only [sx_la] at ha
    simp only [sx_lk]
    split at ha
    · rename_i v hv
      obtain ⟨d, x, h1, h2, h3⟩ := sx_ce_ok hh hv
      rw [h1]
      dsimp only
      rw [h2]
      exact sx_sc_ok h3 ha
    · cases ha
  | t + 2, ha =>
    simp only [sx_la] at ha
    simp only [sx_lk]
    split at ha
    · rename_i v r
      obtain ⟨x, st', rfl, hr, _⟩ := sx_p1 hs
      exact sx_sc_ok hr ha
    · cases ha
def sx_xl (l : sx_L) (s : List sx_V) (H : sx_H) : List (Int × sx_Q) → Option sx_E
  | [] => some (0, [])
  | (k, q) :: r => match sx_la l s H q, sx_xl l s H r with
    | some e, some f => some (sx_add (sx_scl k e) f)
    | _, _ => none
def sx_xe (l : sx_L) (s : List sx_V) (H : sx_H) (x : sx_X) : Option sx_E := match sx_xl l s H x.2 with
  | some e => some (sx_add (x.1, []) e)
  | none => none
def sx_xk (loc : ik_L) (st : List Value) (h : List ik_E) : List (Int × sx_Q) → Option Int
  | [] => some 0
  | (k, q) :: r => match sx_lk loc st h q, sx_xk loc st h r with
    | some e, some f => some (k * e + f)
    | _, _ => none
def sx_xc (loc : ik_L) (st : List Value) (h : List ik_E) (x : sx_X) : Option Int := match sx_xk loc st h x.2 with
  | some e => some (x.1 + e)
  | none => none
theorem sx_xl_ok {ν : List Int} {n : Nat} {l : sx_L} {s : List sx_V} {H : sx_H} {loc : ik_L} {st : List Value} {h : List ik_E} (hl : sx_lr ν n l loc) (hs : sx_sr ν s st) (hh : sx_hr ν H h) : ∀ {x : List (Int × sx_Q)} {e : sx_E}, sx_xl l s H x = some e → ∃ y, sx_xk loc st h x = some y ∧ sx_ev ν e = some y
  | [], e, hx => by
    cases hx
    exact ⟨0, rfl, sx_ev_k⟩
  | (k, q) :: r, e, hx => by
    simp only [sx_xl] at hx
    split at hx
    · rename_i e1 e2 h1 h2
      cases hx
      obtain ⟨y1, q1, q2⟩ := sx_la_ok hl hs hh h1
      obtain ⟨y2, q3, q4⟩ := sx_xl_ok hl hs hh h2
      simp only [sx_xk, q1, q3]
      exact ⟨_, rfl, sx_ev_add (sx_ev_scl q2) q4⟩
    · cases hx
theorem sx_xe_ok {ν : List Int} {n : Nat} {l : sx_L} {s : List sx_V} {H : sx_H} {loc : ik_L} {st : List Value} {h : List ik_E} (hl : sx_lr ν n l loc) (hs : sx_sr ν s st) (hh : sx_hr ν H h) {x : sx_X} {e : sx_E} (hx : sx_xe l s H x = some e) : ∃ y, sx_xc loc st h x = some y ∧ sx_ev ν e = some y := by
  unfold sx_xe at hx
  split at hx
  · rename_i f hf
    cases hx
    obtain ⟨y, q1, q2⟩ := sx_xl_ok hl hs hh hf
    unfold sx_xc
    rw [q1]
    exact ⟨_, rfl, sx_ev_add sx_ev_k q2⟩
  · cases hx
/-! values in bounds become symbols -/
def sx_mh (g : sx_G) (H : sx_H) (a k : Nat) : sx_G × sx_H := match sx_hg H a with
  | some (some (.inl (ci, as))) => (match sx_get as k with
    | some v => (match sx_mv g v with
      | (g', w) => (g', bif sx_isr v then sx_hs H a (some (.inl (ci, sx_set as w k))) else H))
    | none => (g, H))
  | some (some (.inr (.inl (t, as)))) => (match sx_get as k with
    | some v => (match sx_mv g v with
      | (g', w) => (g', bif sx_isr v then sx_hs H a (some (.inr (.inl (t, sx_set as w k)))) else H))
    | none => (g, H))
  | _ => (g, H)
theorem sx_mh_ok {ν : List Int} {g g' : sx_G} {H H' : sx_H} {h : List ik_E} {a k : Nat} (hg : sx_ok ν g) (hh : sx_hr ν H h) (hs : sx_mh g H a k = (g', H')) : ∃ δ, sx_ok (ν ++ δ) g' ∧ sx_hr (ν ++ δ) H' h := by
  unfold sx_mh at hs
  split at hs
  · rename_i ci as hc
    split at hs
    · rename_i v hv
      obtain ⟨d, hd, fs, e1, e2⟩ := hh.2 _ _ hc
      subst e1
      obtain ⟨x, hx, hr⟩ := sx_sr_get e2 hv
      obtain ⟨δ, h1, h2⟩ := sx_mv_ok hg hr (rfl : sx_mv g v = ((sx_mv g v).1, (sx_mv g v).2))
      cases hs
      refine ⟨δ, h1, ?_⟩
      cases sx_isr v
      · exact sx_hr_mono hh
      · exact sx_hr_see (sx_hr_mono hh) hd ⟨fs, rfl, sx_sr_see (sx_sr_mono e2) hx h2⟩
    · cases hs
      exact ⟨[], by rw [List.append_nil]; exact ⟨hg, hh⟩⟩
  · rename_i t as hc
    split at hs
    · rename_i v hv
      obtain ⟨d, hd, fs, e1, e2⟩ := hh.2 _ _ hc
      subst e1
      obtain ⟨x, hx, hr⟩ := sx_sr_get e2 hv
      obtain ⟨δ, h1, h2⟩ := sx_mv_ok hg hr (rfl : sx_mv g v = ((sx_mv g v).1, (sx_mv g v).2))
      cases hs
      refine ⟨δ, h1, ?_⟩
      cases sx_isr v
      · exact sx_hr_mono hh
      · exact sx_hr_see (sx_hr_mono hh) hd ⟨fs, rfl, sx_sr_see (sx_sr_mono e2) hx h2⟩
    · cases hs
      exact ⟨[], by rw [List.append_nil]; exact ⟨hg, hh⟩⟩
  · cases hs
    exact ⟨[], by rw [List.append_nil]; exact ⟨hg, hh⟩⟩
def sx_mq (g : sx_G) (H : sx_H) : List (Int × sx_Q) → sx_G × sx_H
  | [] => (g, H)
  | (_, 1, a, k) :: r => match sx_mh g H a k with
    | (g', H') => sx_mq g' H' r
  | _ :: r => sx_mq g H r
theorem sx_mq_ok {h : List ik_E} : ∀ {x : List (Int × sx_Q)} {ν : List Int} {g g' : sx_G} {H H' : sx_H}, sx_ok ν g → sx_hr ν H h → sx_mq g H x = (g', H') → ∃ δ, sx_ok (ν ++ δ) g' ∧ sx_hr (ν ++ δ) H' h
  | [], ν, g, g', H, H', hg, hh, hs => by
    cases hs
    exact ⟨[], by rw [List.append_nil]; exact ⟨hg, hh⟩⟩
  | (z, t, a, k) :: r, ν, g, g', H, H', hg, hh, hs => by
    match t, hs with
    | 1, hs =>
      simp only [sx_mq] at hs
      obtain ⟨δ, h1, h2⟩ := sx_mh_ok hg hh (rfl : sx_mh g H a k = ((sx_mh g H a k).1, (sx_mh g H a k).2))
      obtain ⟨δ', h3, h4⟩ := sx_mq_ok h1 h2 hs
      exact ⟨δ ++ δ', by rw [← List.append_assoc]; exact ⟨h3, h4⟩⟩
    | 0, hs =>
      simp only [sx_mq] at hs
      exact sx_mq_ok hg hh hs
    | t + 2, hs =>
      simp only [sx_mq] at hs
      exact sx_mq_ok hg hh hs
def sx_mqs (g : sx_G) (H : sx_H) : List sx_X → sx_G × sx_H
  | [] => (g, H)
  | x :: r => match sx_mq g H x.2 with
    | (g', H') => sx_mqs g' H' r
theorem sx_mqs_ok {h : List ik_E} : ∀ {x : List sx_X} {ν : List Int} {g g' : sx_G} {H H' : sx_H}, sx_ok ν g → sx_hr ν H h → sx_mqs g H x = (g', H') → ∃ δ, sx_ok (ν ++ δ) g' ∧ sx_hr (ν ++ δ) H' h
  | [], ν, g, g', H, H', hg, hh, hs => by
    cases hs
    exact ⟨[], by rw [List.append_nil]; exact ⟨hg, hh⟩⟩
  | q :: r, ν, g, g', H, H', hg, hh, hs => by
    simp only [sx_mqs] at hs
    obtain ⟨δ, h1, h2⟩ := sx_mq_ok hg hh (rfl : sx_mq g H q.2 = ((sx_mq g H q.2).1, (sx_mq g H q.2).2))
    obtain ⟨δ', h3, h4⟩ := sx_mqs_ok h1 h2 hs
    exact ⟨δ ++ δ', by rw [← List.append_assoc]; exact ⟨h3, h4⟩⟩
def sx_ml (g : sx_G) : sx_L → sx_G × sx_L
  | [] => (g, [])
  | none :: r => match sx_ml g r with
    | (g', r') => (g', none :: r')
  | some v :: r => match sx_mv g v with
    | (g1, w) => (match sx_ml g1 r with
      | (g', r') => (g', some w :: r'))
theorem sx_ml_ok {n : Nat} : ∀ {l : sx_L} {loc : ik_L} {ν : List Int} {g g' : sx_G} {l' : sx_L}, sx_ok ν g → sx_lr ν n l loc → sx_ml g l = (g', l') → ∃ δ, sx_ok (ν ++ δ) g' ∧ sx_lr (ν ++ δ) n l' loc
  | [], [], ν, g, g', l', hg, _, hs => by
    cases hs
    exact ⟨[], by rw [List.append_nil]; exact ⟨hg, trivial⟩⟩
  | none :: r, o :: loc, ν, g, g', l', hg, hl, hs => by
    simp only [sx_ml] at hs
    cases hs
    obtain ⟨δ, h1, h2⟩ := sx_ml_ok hg hl.2 (rfl : sx_ml g r = ((sx_ml g r).1, (sx_ml g r).2))
    exact ⟨δ, h1, hl.1, h2⟩
  | some v :: r, o :: loc, ν, g, g', l', hg, hl, hs => by
    simp only [sx_ml] at hs
    cases hs
    obtain ⟨⟨x, rfl, hx⟩, hl2⟩ := hl
    obtain ⟨δ, h1, h2⟩ := sx_mv_ok hg hx (rfl : sx_mv g v = ((sx_mv g v).1, (sx_mv g v).2))
    obtain ⟨δ', h3, h4⟩ := sx_ml_ok h1 (sx_lr_mono hl2) (rfl : sx_ml (sx_mv g v).1 r = ((sx_ml (sx_mv g v).1 r).1, (sx_ml (sx_mv g v).1 r).2))
    refine ⟨δ ++ δ', ?_⟩
    rw [← List.append_assoc]
    exact ⟨h3, ⟨x, rfl, sx_vr_mono h2⟩, h4⟩
  | [], _ :: _, _, _, _, _, _, h, _ => h.elim
  | none :: _, [], _, _, _, _, _, h, _ => h.elim
  | some _ :: _, [], _, _, _, _, _, h, _ => h.elim
def sx_ms (g : sx_G) : List sx_V → sx_G × List sx_V
  | [] => (g, [])
  | v :: r => match sx_mv g v with
    | (g1, w) => (match sx_ms g1 r with
      | (g', r') => (g', w :: r'))
theorem sx_ms_ok : ∀ {l : List sx_V} {vs : List Value} {ν : List Int} {g g' : sx_G} {l' : List sx_V}, sx_ok ν g → sx_sr ν l vs → sx_ms g l = (g', l') → ∃ δ, sx_ok (ν ++ δ) g' ∧ sx_sr (ν ++ δ) l' vs
  | [], [], ν, g, g', l', hg, _, hs => by
    cases hs
    exact ⟨[], by rw [List.append_nil]; exact ⟨hg, trivial⟩⟩
  | v :: r, x :: vs, ν, g, g', l', hg, hl, hs => by
    simp only [sx_ms] at hs
    cases hs
    obtain ⟨δ, h1, h2⟩ := sx_mv_ok hg hl.1 (rfl : sx_mv g v = ((sx_mv g v).1, (sx_mv g v).2))
    obtain ⟨δ', h3, h4⟩ := sx_ms_ok h1 (sx_sr_mono hl.2) (rfl : sx_ms (sx_mv g v).1 r = ((sx_ms (sx_mv g v).1 r).1, (sx_ms (sx_mv g v).1 r).2))
    refine ⟨δ ++ δ', ?_⟩
    rw [← List.append_assoc]
    exact ⟨h3, sx_vr_mono h2, h4⟩
  | [], _ :: _, _, _, _, _, _, h, _ => h.elim
  | _ :: _, [], _, _, _, _, _, h, _ => h.elim
/-- constraints that hold -/
def sx_xh (l : sx_L) (s : List sx_V) (H : sx_H) (g : sx_G) (xs : List sx_X) : Bool := xs.all fun x => match sx_xe l s H x with
  | some e => sx_nn g e
  | none => false
theorem sx_xh_ok {ν : List Int} {n : Nat} {g : sx_G} {l : sx_L} {s : List sx_V} {H : sx_H} {loc : ik_L} {st : List Value} {h : List ik_E} (hg : sx_ok ν g) (hl : sx_lr ν n l loc) (hs : sx_sr ν s st) (hh : sx_hr ν H h) {xs : List sx_X} (hx : sx_xh l s H g xs = true) : ∀ x, x ∈ xs → ∃ y, sx_xc loc st h x = some y ∧ 0 ≤ y := by
  intro x hm
  have := List.all_eq_true.mp hx x hm
  split at this
  · rename_i e he
    obtain ⟨y, h1, h2⟩ := sx_xe_ok hl hs hh he
    exact ⟨y, h1, sx_nn_ok hg h2 this⟩
  · cases this
/-- constraints that are taken in; outer none: they can't be read, inner none: they can't hold -/
def sx_xa (l : sx_L) (s : List sx_V) (H : sx_H) : List sx_X → sx_G → Option (Option sx_G)
  | [], g => some (some g)
  | x :: r, g => match sx_xe l s H x with
    | some e => (match sx_as g e with
      | some g' => sx_xa l s H r g'
      | none => some none)
    | none => none
theorem sx_xa_ok {ν : List Int} {n : Nat} {l : sx_L} {s : List sx_V} {H : sx_H} {loc : ik_L} {st : List Value} {h : List ik_E} (hl : sx_lr ν n l loc) (hs : sx_sr ν s st) (hh : sx_hr ν H h) : ∀ {xs : List sx_X} {g : sx_G} {o : Option sx_G}, sx_ok ν g → (∀ x, x ∈ xs → ∃ y, sx_xc loc st h x = some y ∧ 0 ≤ y) → sx_xa l s H xs g = some o → ∃ g', o = some g' ∧ sx_ok ν g'
  | [], g, o, hg, _, ho => by
    cases ho
    exact ⟨g, rfl, hg⟩
  | x :: r, g, o, hg, hx, ho => by
    simp only [sx_xa] at ho
    split at ho
    · rename_i e he
      obtain ⟨y, h1, h2⟩ := sx_xe_ok hl hs hh he
      obtain ⟨y', q1, q2⟩ := hx x List.mem_cons_self
      rw [h1] at q1
      cases q1
      obtain ⟨g', e1, e2⟩ := sx_as_ok hg h2 q2
      rw [e1] at ho
      exact sx_xa_ok hl hs hh e2 (fun z hz => hx z (List.mem_cons_of_mem _ hz)) ho
    · cases ho
end
