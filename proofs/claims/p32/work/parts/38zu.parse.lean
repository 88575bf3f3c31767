noncomputable section
/-! what is read of a text is a stream: a hundred at each place, goals are places -/
def zsum (r : List zM) : Int := (r.map fun m => m.2.1).sum
theorem zsum_app (r : List zM) (m : zM) : zsum (r ++ [m]) = zsum r + m.2.1 := by
  unfold zsum
  rw [List.map_append, List.sum_append]
  show _ + (m.2.1 + 0) = _
  rw [Int.add_zero]
theorem zmv_ok {y : Int → Int} {n : Int} : ∀ (k : Nat) (r : List zM) (sum cur : Int) (r' : List zM) (c : Int), sum = zsum r → zmv y n k r sum cur = .inr (r', c) → r' ≠ [] ∧ zsum r' = 100 := by
  intro k
  induction k with
  | zero => intro r sum cur r' c _ h; rw [zmv] at h; cases h
  | succ k ih =>
    intro r sum cur r' c hs h
    rw [zmv] at h
    split at h
    · split at h
      · cases h
      · split at h
        · split at h
          · cases h
          · split at h
            · split at h
              · cases h
              · exact ih _ _ _ _ _ (by rw [zsum_app, hs]) h
            · cases h
        · cases h
    · split at h
      · rename_i q
        split at h
        · rename_i q2
          injection h with h
          injection h with h1 h2
          subst h1
          exact ⟨q.1, by rw [← hs]; exact q2⟩
        · cases h
      · cases h
theorem zps_ok {y : Int → Int} {n : Int} : ∀ (k : Nat) (rs : List (List zM)) (cur : Int) (rs' : List (List zM)), (∀ r, r ∈ rs → r ≠ [] ∧ zsum r = 100) → zps y n k rs cur = .inr rs' → ∀ r, r ∈ rs' → r ≠ [] ∧ zsum r = 100 := by
  intro k
  induction k with
  | zero => intro rs cur rs' _ h; rw [zps] at h; cases h
  | succ k ih =>
    intro rs cur rs' hr h
    rw [zps] at h
    split at h
    · split at h
      · injection h with h; subst h; exact hr
      · cases h
    · split at h
      · split at h
        · cases h
        · split at h
          · cases h
          · rename_i r c e
            refine ih _ _ _ ?_ h
            intro r0 m0
            rcases List.mem_append.mp m0 with w | w
            · exact hr r0 w
            · rw [List.mem_singleton.mp w]; exact zmv_ok 5 [] 0 _ r c rfl e
      · cases h
theorem zall_ok {y : Int → Int} {n pl : Int} {rs : List (List zM)} (h : zall y n = .inr (pl, rs)) : (pl = 0 ∧ rs = []) ∨ (pl = (rs.length : Int) + 1 ∧ ∀ r, r ∈ rs → (r ≠ [] ∧ zsum r = 100) ∧ ∀ m, m ∈ r → m.1 < pl) := by
  unfold zall at h
  split at h
  · split at h
    · cases h
    · rename_i rs0 e
      split at h
      · cases h
      · rename_i e2
        injection h with h
        injection h with h1 h2
        subst h2
        refine Or.inr ⟨h1.symm, fun r hr => ⟨zps_ok 12 [] _ _ (fun r q => by simp at q) e r hr, fun m hm => ?_⟩⟩
        unfold zck at e2
        have := List.find?_eq_none.mp e2 m (List.mem_flatten.mpr ⟨r, hr, hm⟩)
        have w : ¬ ((rs0.length : Int) + 1 ≤ m.1) := fun z => this (decide_eq_true z)
        omega
  · injection h with h
    injection h with h1 h2
    exact Or.inl ⟨h1.symm, h2.symm⟩
theorem zh_sum {G P B : List Int} {p : Nat} {r : List zM} (h : zh G P B p r) : ∀ n : Nat, n ≤ r.length → mx_sm P (p : Nat) n = zsum (r.take n) := by
  intro n
  induction n with
  | zero => intro _; rfl
  | succ n ih =>
    intro hn
    have e := (h n (r[n]'(by omega)) (List.getElem?_eq_getElem (by omega))).2.1
    show mx_sm P (p : Nat) n + P.getD (4 * ((p : Nat) : Int) + (n : Nat)).toNat 0 = _
    rw [ih (by omega), show (4 * ((p : Nat) : Int) + (n : Nat)).toNat = 4 * p + n by omega, e]
    rw [List.take_succ, List.getElem?_eq_getElem (by omega)]
    exact (zsum_app _ _).symm
/-- rows that hold what was read are rows of a stream -/
theorem mx_rw_z {y : Int → Int} {n pl : Int} {rs : List (List zM)} {C G P B : List Int} (h : zall y n = .inr (pl, rs)) (hz : zrows rs) (hH : zH C G P B rs) : mx_rw pl C G P := by
  rcases zall_ok h with ⟨e, _⟩ | ⟨e, hr⟩
  · intro x h0 h1; omega
  · intro x h0 h1
    have hp : x.toNat < rs.length := by omega
    have hm : rs[x.toNat] ∈ rs := List.getElem_mem hp
    have a := hH x.toNat rs[x.toNat] (List.getElem?_eq_getElem hp)
    have b := hr _ hm
    have c := hz.2 _ hm
    have hl : 0 < rs[x.toNat].length := List.length_pos_iff.mpr b.1.1
    refine ⟨by omega, fun i i0 i1 => ?_, ?_⟩
    · have hi : i.toNat < rs[x.toNat].length := by omega
      have mm : rs[x.toNat][i.toNat] ∈ rs[x.toNat] := List.getElem_mem hi
      have z := a.2.2 i.toNat _ (List.getElem?_eq_getElem hi)
      have w := c _ mm
      have v := b.2 _ mm
      rw [show (4 * x + i).toNat = 4 * x.toNat + i.toNat by omega, z.1, z.2.1]
      omega
    · have s := zh_sum a.2.2 rs[x.toNat].length (Nat.le_refl _)
      rw [List.take_length, Int.toNat_of_nonneg h0] at s
      rw [show (C.getD x.toNat 0).toNat = rs[x.toNat].length by omega, s]
      exact b.1.2
/-- rows of two readers: alike before the bridge -/
def mx_al (pl : Int) (cn go ch cn' go' ch' : List Int) : Prop := ∀ x : Int, 0 ≤ x → x < pl - 1 → cn'.getD x.toNat 0 = cn.getD x.toNat 0 ∧ ∀ i : Int, 0 ≤ i → i < cn.getD x.toNat 0 → go'.getD (4 * x + i).toNat 0 = go.getD (4 * x + i).toNat 0 ∧ ch'.getD (4 * x + i).toNat 0 = ch.getD (4 * x + i).toNat 0
theorem mx_al_z {pl : Int} {rs : List (List zM)} {C G P B C' G' P' B' : List Int} (e : pl = (rs.length : Int) + 1) (h : zH C G P B rs) (h' : zH C' G' P' B' rs) : mx_al pl C G P C' G' P' := by
  intro x h0 h1
  have hp : x.toNat < rs.length := by omega
  have a := h x.toNat rs[x.toNat] (List.getElem?_eq_getElem hp)
  have b := h' x.toNat rs[x.toNat] (List.getElem?_eq_getElem hp)
  refine ⟨by rw [a.1, b.1], fun i i0 i1 => ?_⟩
  have hi : i.toNat < rs[x.toNat].length := by omega
  have za := a.2.2 i.toNat _ (List.getElem?_eq_getElem hi)
  have zb := b.2.2 i.toNat _ (List.getElem?_eq_getElem hi)
  rw [show (4 * x + i).toNat = 4 * x.toNat + i.toNat by omega, za.1, zb.1, za.2.1, zb.2.1]
  exact ⟨rfl, rfl⟩
theorem mx_al_w {pl : Int} {cn go ch cn' go' ch' : List Int} (hr : mx_rw pl cn go ch) (h : mx_al pl cn go ch cn' go' ch') (t : Nat) : ∀ x : Int, 0 ≤ x → x < pl - 1 → mx_w cn' go' ch' t x = mx_w cn go ch t x := by
  intro x h0 h1
  have a := h x h0 h1
  have r := (hr x h0 h1).1
  have e0 := (a.2 0 (by omega) (by omega)).2
  rw [Int.add_zero] at e0
  have eg : mx_g ch' t x = mx_g ch t x := by unfold mx_g; rw [e0]
  unfold mx_w
  rw [eg, a.1]
  have er : mx_wr go' ch' (mx_g ch t x) x (cn.getD x.toNat 0).toNat = mx_wr go ch (mx_g ch t x) x (cn.getD x.toNat 0).toNat := by
    unfold mx_wr
    refine List.map_congr_left fun i hi => ?_
    have hi2 := List.mem_range.mp hi
    have z := a.2 (i : Nat) (by omega) (by omega)
    unfold mx_wi
    rw [z.1, z.2]
  rw [er]
theorem mx_al_rw {pl : Int} {cn go ch cn' go' ch' : List Int} (hr : mx_rw pl cn go ch) (h : mx_al pl cn go ch cn' go' ch') : mx_rw pl cn' go' ch' := by
  intro x h0 h1
  have a := h x h0 h1
  have r := hr x h0 h1
  rw [a.1]
  refine ⟨r.1, fun i i0 i1 => ?_, ?_⟩
  · have z := a.2 i i0 i1
    rw [z.1, z.2]
    exact r.2.1 i i0 i1
  · rw [← r.2.2]
    have : ∀ n : Nat, (n : Int) ≤ cn.getD x.toNat 0 → mx_sm ch' x n = mx_sm ch x n := by
      intro n
      induction n with
      | zero => intro _; rfl
      | succ n ih => intro hn; show mx_sm ch' x n + ch'.getD (4 * x + (n : Nat)).toNat 0 = mx_sm ch x n + ch.getD (4 * x + (n : Nat)).toNat 0; rw [ih (by omega), (a.2 (n : Nat) (by omega) (by omega)).2]
    exact this _ (by omega)
theorem mx_al_sh {pl p a b n : Int} {cn go ch cn' go' ch' : List Int} (h : mx_al pl cn go ch cn' go' ch') (hr : mx_rw pl cn go ch) (hpl : pl ≤ 12) (hp : 0 ≤ p ∧ p < pl - 1) (ha : 0 ≤ a ∧ a < cn.getD p.toNat 0) (hb : 0 ≤ b ∧ b < cn.getD p.toNat 0) (hl : ch.length = 48) (hl' : ch'.length = 48) : mx_al pl cn go (mx_sh ch p a b n) cn' go' (mx_sh ch' p a b n) := by
  intro x h0 h1
  have z := h x h0 h1
  have zp := h p hp.1 hp.2
  have r := (hr x h0 h1).1
  have rp := (hr p hp.1 hp.2).1
  refine ⟨z.1, fun i i0 i1 => ⟨(z.2 i i0 i1).1, ?_⟩⟩
  rw [mx_sh_get (by omega) (by omega), mx_sh_get (by omega) (by omega), (z.2 i i0 i1).2, (zp.2 a ha.1 ha.2).2, (zp.2 b hb.1 hb.2).2]
theorem mx_al_cm {pl : Int} {cn go ch cn' go' ch' : List Int} (hr : mx_rw pl cn go ch) (h : mx_al pl cn go ch cn' go' ch') (t : Nat) : mf_cm (fun x => mx_w cn' go' ch' t x) (pl - 1) = mf_cm (fun x => mx_w cn go ch t x) (pl - 1) := mf_cm_c fun x h0 h1 => mx_al_w hr h t x h0 h1
theorem mx_al_lw {pl : Int} {cn go ch cn' go' ch' : List Int} (hr : mx_rw pl cn go ch) (h : mx_al pl cn go ch cn' go' ch') (t : Nat) (ka pa fa kb pb fb k : Int) : mk_lw cn' go' ch' t pl ka pa fa kb pb fb k = mk_lw cn go ch t pl ka pa fa kb pb fb k := by
  unfold mk_lw
  rw [mx_al_cm hr h t]
theorem mx_al_vm {pl : Int} {cn go ch cn' go' ch' : List Int} (hr : mx_rw pl cn go ch) (h : mx_al pl cn go ch cn' go' ch') (s : Nat) (ka pa fa kb pb fb k : Int) : mk_vm cn' go' ch' s pl ka pa fa kb pb fb k = mk_vm cn go ch s pl ka pa fa kb pb fb k := by
  funext p
  unfold mk_vm
  rw [mx_al_lw hr h, mx_al_lw hr h]
theorem mx_al_fv {pl r : Int} {cn go ch cn' go' ch' rp rt rp' rt' : List Int} (hr : mx_rw pl cn go ch) (h : mx_al pl cn go ch cn' go' ch') (hp : ∀ i : Nat, (i : Int) < r → rp'.getD i 0 = rp.getD i 0 ∧ rt'.getD i 0 = rt.getD i 0) (t : Nat) : mk_fv cn' go' ch' t pl rp' rt' r = mk_fv cn go ch t pl rp rt r := by
  unfold mk_fv
  refine mk_ft_c _ fun i hi => ?_
  unfold mk_J
  rw [mx_al_cm hr h t, (hp i (by omega)).1, (hp i (by omega)).2]
theorem mx_al_vs {pl r : Int} {cn go ch cn' go' ch' rp rt rp' rt' : List Int} (hr : mx_rw pl cn go ch) (h : mx_al pl cn go ch cn' go' ch') (hp : ∀ i : Nat, (i : Int) < r → rp'.getD i 0 = rp.getD i 0 ∧ rt'.getD i 0 = rt.getD i 0) (s : Nat) : mk_vs cn' go' ch' s pl rp' rt' r = mk_vs cn go ch s pl rp rt r := by
  funext p
  unfold mk_vs
  exact mx_al_fv hr h hp _
theorem mx_al_gap {pl : Int} {cn go ch cn' go' ch' : List Int} (hr : mx_rw pl cn go ch) (h : mx_al pl cn go ch cn' go' ch') (t : Nat) (ka pa fa kb pb fb : Int) : mk_gap cn' go' ch' t pl ka pa fa kb pb fb = mk_gap cn go ch t pl ka pa fa kb pb fb := by
  unfold mk_gap
  rw [mx_al_lw hr h, mx_al_lw hr h]
theorem mk_c1_c {g g' : Int → Int → Int → Bool} {n p : Int} : ∀ (f : Nat) (k z : Int), 0 ≤ k → k + f ≤ 16 → (∀ j : Int, 0 ≤ j → j < 16 → g' n p j = g n p j) → mk_c1 g' n p f k z = mk_c1 g n p f k z := by
  intro f
  induction f with
  | zero => intro k z _ _ _; rfl
  | succ f ih =>
    intro k z h0 h1 h
    rw [mk_c1_s, mk_c1_s, h k (by omega) (by omega), ih (k + 1) z (by omega) (by omega) h]
theorem mk_c2_c {g g' : Int → Int → Int → Bool} {n m : Int} : ∀ (f : Nat) (p z : Int), 0 ≤ p → p + f ≤ m → (∀ q j : Int, 0 ≤ q → q < m → 0 ≤ j → j < 16 → g' n q j = g n q j) → mk_c2 g' n f p z = mk_c2 g n f p z := by
  intro f
  induction f with
  | zero => intro p z _ _ _; rfl
  | succ f ih =>
    intro p z h0 h1 h
    rw [mk_c2_s, mk_c2_s, ih (p + 1) z (by omega) (by omega) h, mk_c1_c 16 0 _ (by omega) (by omega) (fun j j0 j1 => h p j h0 (by omega) j0 j1)]
theorem mk_c3_c {g g' : Int → Int → Int → Bool} {m : Nat} : ∀ (f : Nat) (n : Int), 1 ≤ n → (∀ i q j : Int, 1 ≤ i → 0 ≤ q → q < (m : Int) → 0 ≤ j → j < 16 → g' i q j = g i q j) → mk_c3 g' m f n = mk_c3 g m f n := by
  intro f
  induction f with
  | zero => intro n _ _; rfl
  | succ f ih =>
    intro n h0 h
    rw [mk_c3_s, mk_c3_s, ih (n + 1) (by omega) h, mk_c2_c (m := (m : Int)) m 0 _ (by omega) (by omega) (fun q j q0 q1 j0 j1 => h n q j h0 q0 q1 j0 j1)]
theorem mx_al_fz {pl e : Int} {cn go ch cn' go' ch' : List Int} (hr : mx_rw pl cn go ch) (h : mx_al pl cn go ch cn' go' ch') (hpl : pl ≤ 12) (hl : ch.length = 48) (hl' : ch'.length = 48) (t : Nat) (ka pa fa kb pb fb : Int) : mk_fz cn' go' ch' t pl ka pa fa kb pb fb e = mk_fz cn go ch t pl ka pa fa kb pb fb e := by
  unfold mk_fz
  rw [mx_al_gap hr h]
  split
  · rfl
  · refine mk_c3_c 20 1 (by omega) fun n p k n1 p0 p1 k0 k1 => ?_
    have z := h p p0 (by omega)
    have r := (hr p p0 (by omega)).1
    unfold mk_gg
    rw [z.1]
    by_cases q : (k / 4 < cn.getD p.toNat 0 ∧ k % 4 < cn.getD p.toNat 0 ∧ ¬ k / 4 = k % 4 ∧ n < ch.getD (4 * p + k / 4).toNat 0)
    · have c := (z.2 (k / 4) (by omega) q.1).2
      rw [c, mx_al_gap (mx_rw_sh hr hpl ⟨p0, by omega⟩ ⟨by omega, q.1⟩ ⟨by omega, q.2.1⟩ q.2.2.1 hl (by omega) (by omega)) (mx_al_sh h hr hpl ⟨p0, by omega⟩ ⟨by omega, q.1⟩ ⟨by omega, q.2.1⟩ hl hl')]
    · by_cases w : k / 4 < cn.getD p.toNat 0
      · have c := (z.2 (k / 4) (by omega) w).2
        rw [c, decide_eq_false (fun v => q ⟨v.1, v.2.1, v.2.2.1, v.2.2.2.1⟩), decide_eq_false (fun v => q ⟨v.1, v.2.1, v.2.2.1, v.2.2.2.1⟩)]
      · rw [decide_eq_false (fun v => w v.1), decide_eq_false (fun v => w v.1)]
end
