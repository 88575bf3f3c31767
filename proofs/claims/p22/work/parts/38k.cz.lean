/-! 38k.cz -/
theorem zfl {f : zM → Bool} : ∀ (rs : List (List zM)) (p : Nat) (r : List zM) (i : Nat) (m : zM), rs[p]? = some r → r[i]? = some m → f m = true → (∀ j m', j < i → r[j]? = some m' → f m' = false) → (∀ p' r', p' < p → rs[p']? = some r' → ∀ m' ∈ r', f m' = false) → rs.flatten.find? f = some m := by
  intro rs
  induction rs with
  | nil => intro p r i m h; cases h
  | cons r0 rs ih =>
    intro p r i m h1 h2 h3 h4 h5
    rw [List.flatten_cons, List.find?_append]
    cases p with
    | zero =>
      cases h1
      have e : r0.find? f = some m := by
        refine List.find?_eq_some_iff_getElem.mpr ⟨h3, i, ?_⟩
        have hi : i < r0.length := by
          rcases Nat.lt_or_ge i r0.length with q | q
          · exact q
          · rw [List.getElem?_eq_none q] at h2; cases h2
        rw [List.getElem?_eq_getElem hi] at h2
        refine ⟨hi, Option.some.inj h2, fun j hj => ?_⟩
        rw [h4 j _ hj (List.getElem?_eq_getElem (by omega))]
        rfl
      rw [e]
      rfl
    | succ p =>
      have e : r0.find? f = none := List.find?_eq_none.mpr (fun m' hm' => by rw [h5 0 r0 (by omega) rfl m' hm']; decide)
      rw [e, Option.none_or]
      exact ih p r i m h1 h2 h3 h4 (fun p' r' hp' hr' => h5 (p' + 1) r' (by omega) hr')
theorem zfn {f : zM → Bool} {rs : List (List zM)} (h : ∀ (p : Nat) (r : List zM), rs[p]? = some r → ∀ m ∈ r, f m = false) : rs.flatten.find? f = none := by
  refine List.find?_eq_none.mpr (fun m hm => ?_)
  obtain ⟨r, hr, hmr⟩ := List.mem_flatten.mp hm
  obtain ⟨p, hp, he⟩ := List.mem_iff_getElem.mp hr
  rw [h p r (by rw [List.getElem?_eq_getElem hp, he]) m hmr]
  decide
/-- the rows ahead of p have no goal that is no place; of row p none ahead of i -/
def zno (rs : List (List zM)) (p : Nat) : Prop := ∀ (p' : Nat) (r' : List zM), p' < p → rs[p']? = some r' → ∀ m' ∈ r', m'.1 < (rs.length : Int) + 1
def zni (rs : List (List zM)) (r : List zM) (i : Nat) : Prop := ∀ (j : Nat) (m : zM), j < i → r[j]? = some m → m.1 < (rs.length : Int) + 1
theorem zck_t {rs : List (List zM)} {p i : Nat} {r : List zM} {m : zM} (h1 : rs[p]? = some r) (h2 : r[i]? = some m) (h3 : (rs.length : Int) + 1 ≤ m.1) (h4 : zni rs r i) (h5 : zno rs p) : zck rs = some m :=
  zfl rs p r i m h1 h2 (decide_eq_true h3) (fun j m' hj hm => decide_eq_false (by have := h4 j m' hj hm; omega)) (fun p' r' hp hr m' hm => decide_eq_false (by have := h5 p' r' hp hr m' hm; omega))
theorem zck_n {rs : List (List zM)} (h : zno rs rs.length) : zck rs = none :=
  zfn (fun p r hr m hm => decide_eq_false (by
    have hp : p < rs.length := by
      rcases Nat.lt_or_ge p rs.length with q | q
      · exact q
      · rw [List.getElem?_eq_none q] at hr; cases hr
    have := h p r hp hr m hm
    omega))
theorem zno_s {rs : List (List zM)} {p : Nat} {r : List zM} (h : zno rs p) (hr : rs[p]? = some r) (hi : zni rs r r.length) : zno rs (p + 1) := by
  intro p' r' hp hr' m' hm
  by_cases e : p' = p
  · subst e
    rw [hr] at hr'
    cases hr'
    obtain ⟨j, hj, he⟩ := List.mem_iff_getElem.mp hm
    exact hi j m' hj (by rw [List.getElem?_eq_getElem hj, he])
  · exact h p' r' (by omega) hr' m' hm
theorem zni_s {rs : List (List zM)} {r : List zM} {i : Nat} {m : zM} (h : zni rs r i) (hm : r[i]? = some m) (hl : m.1 < (rs.length : Int) + 1) : zni rs r (i + 1) := by
  intro j m' hj hm'
  by_cases e : j = i
  · subst e
    rw [hm] at hm'
    cases hm'
    exact hl
  · exact h j m' (by omega) hm'
theorem zh_at {G P B : List Int} {p i : Nat} {r : List zM} {m : zM} (h : zh G P B p r) (hr : r[i]? = some m) : G.getD ((p : Int) * 4 + (i : Int)).toNat 0 = m.1 ∧ B.getD ((p : Int) * 4 + (i : Int)).toNat 0 = m.2.2 := by
  have e : ((p : Int) * 4 + (i : Int)).toNat = 4 * p + i := by omega
  rw [e]
  have := h i m hr
  exact ⟨this.1, this.2.2⟩
def zrows (rs : List (List zM)) : Prop := rs.length ≤ 11 ∧ ∀ r ∈ rs, zrow r
theorem zH_nil {C G P B : List Int} : zH C G P B [] := by
  intro p r q
  simp at q
theorem zrows_nil : zrows [] := ⟨by decide, by intro r q; simp at q⟩

theorem cz_ckI {c0 : ik_E} {tl : List ik_E} {y : Int → Int} {T : List Int} {n fl fb : Int} {C G P B : List Int} (ok : cz_ok y T n tl) {rs : List (List zM)} {cur : Int} (hC : C.length = (12 : Nat)) (hG : G.length = (48 : Nat)) (hP : P.length = (48 : Nat)) (hB : B.length = (48 : Nat)) (hH : zH C G P B rs) (hrs : zrows rs) {p : Nat} {r : List zM} (hr : rs[p]? = some r) (hno : zno rs p) (K : zni rs r r.length → (p : Int) ≤ 10 → ik_G 62 63 [some (.ref 1), some (fI (p : Int)), some (fI (r.length : Int))] [] (c0 :: cz_t T n cur fl fb ((rs.length : Int) + 1) C G P B tl) (fun rv h_q => rv = [] ∧ ((∃ m, zck rs = some m ∧ h_q = (c0 :: cz_t T n cur 6 m.2.2 ((rs.length : Int) + 1) C G P B tl)) ∨ (zck rs = none ∧ h_q = (c0 :: cz_t T n cur fl fb ((rs.length : Int) + 1) C G P B tl))))) : ∀ (d : Nat) (i : Nat), r.length - i = d → i ≤ r.length → zni rs r i → ik_G 62 12 [some (.ref 1), some (fI (p : Int)), some (fI (i : Int))] [] (c0 :: cz_t T n cur fl fb ((rs.length : Int) + 1) C G P B tl) (fun rv h_q => rv = [] ∧ ((∃ m, zck rs = some m ∧ h_q = (c0 :: cz_t T n cur 6 m.2.2 ((rs.length : Int) + 1) C G P B tl)) ∨ (zck rs = none ∧ h_q = (c0 :: cz_t T n cur fl fb ((rs.length : Int) + 1) C G P B tl)))) := by
  have ok' := ok
  obtain ⟨htl, hT, bT, hn, hn2, hy⟩ := ok'
  have hrow := hH p r hr
  have hpl : p < rs.length := by
    rcases Nat.lt_or_ge p rs.length with q | q
    · exact q
    · rw [List.getElem?_eq_none q] at hr; cases hr
  have hrl := hrs.1
  intro d
  induction d using Nat.strongRecOn with
  | _ d ih =>
    intro i hk hi0 hni
    have hcp : C.getD (p : Int).toNat 0 = (r.length : Int) := by rw [Int.toNat_natCast]; exact hrow.1
    refine ik_Wk 2 (pc_q := 14) (loc_q := [some (.ref 1), some (fI (p : Int)), some (fI (i : Int))]) (st_q := [.ref 1, fI (i : Int)]) (h_q := (c0 :: cz_t T n cur fl fb ((rs.length : Int) + 1) C G P B tl)) (cl_q := 0) (sl_q := 0) rfl ?_
    refine fw_gf rfl rfl rfl rfl ?_
    refine ik_Wk 1 (pc_q := 18) (loc_q := [some (.ref 1), some (fI (p : Int)), some (fI (i : Int))]) (st_q := [fI (p : Int), .ref 3, fI (i : Int)]) (h_q := (c0 :: cz_t T n cur fl fb ((rs.length : Int) + 1) C G P B tl)) (cl_q := 0) (sl_q := 0) rfl ?_
    refine fw_ial rfl rfl (by omega) (by omega) (by omega) ?_
    refine fw_ic_ge rfl rfl (by omega) (by omega) (by omega) (by omega) (fun hc1 => ?_) (fun hc1 => ?_)
    · have e : i = r.length := by omega
      subst e
      exact K hni (by omega)
    · have hi : i < r.length := by omega
      have hm : r[i]? = some r[i] := List.getElem?_eq_getElem hi
      generalize r[i] = m at hm
      have hat := zh_at hrow.2.2 hm
      have hmb := (hrs.2 r (List.mem_of_getElem? hr)) m (List.mem_of_getElem? hm)
      refine ik_Wk 1 (pc_q := 23) (loc_q := [some (.ref 1), some (fI (p : Int)), some (fI (i : Int))]) (st_q := [.ref 1]) (h_q := (c0 :: cz_t T n cur fl fb ((rs.length : Int) + 1) C G P B tl)) (cl_q := 0) (sl_q := 0) rfl ?_
      refine fw_gf rfl rfl rfl rfl ?_
      refine ik_Wk 2 (pc_q := 28) (loc_q := [some (.ref 1), some (fI (p : Int)), some (fI (i : Int))]) (st_q := [fI 4, fI (p : Int), .ref 4]) (h_q := (c0 :: cz_t T n cur fl fb ((rs.length : Int) + 1) C G P B tl)) (cl_q := 0) (sl_q := 0) rfl ?_
      refine fw_mul rfl ?_
      refine ik_Wk 1 (pc_q := 30) (loc_q := [some (.ref 1), some (fI (p : Int)), some (fI (i : Int))]) (st_q := [fI (i : Int), fI ((p : Int) * 4), .ref 4]) (h_q := (c0 :: cz_t T n cur fl fb ((rs.length : Int) + 1) C G P B tl)) (cl_q := 0) (sl_q := 0) rfl ?_
      refine fw_add rfl ?_
      refine fw_ial rfl rfl (by omega) (by omega) (by omega) ?_
      refine ik_Wk 1 (pc_q := 33) (loc_q := [some (.ref 1), some (fI (p : Int)), some (fI (i : Int))]) (st_q := [.ref 1, fI (G.getD (((p : Int) * 4) + (i : Int)).toNat 0)]) (h_q := (c0 :: cz_t T n cur fl fb ((rs.length : Int) + 1) C G P B tl)) (cl_q := 0) (sl_q := 0) rfl ?_
      refine fw_gf rfl rfl rfl rfl ?_
      refine fw_ic_lt rfl rfl (by omega) (by omega) (by omega) (by omega) (fun hc2 => ?_) (fun hc2 => ?_)
      · refine fw_inc (a := (i : Int)) (loc_q := [some (.ref 1), some (fI (p : Int)), some (fI ((i : Int) + 1))]) rfl rfl (Nat.le_of_ble_eq_true rfl) rfl ?_
        refine ik_Wk 1 (pc_q := 12) (loc_q := [some (.ref 1), some (fI (p : Int)), some (fI ((i : Int) + 1))]) (st_q := []) (h_q := (c0 :: cz_t T n cur fl fb ((rs.length : Int) + 1) C G P B tl)) (cl_q := 0) (sl_q := 0) rfl ?_
        have el : (i : Int) + 1 = ((i + 1 : Nat) : Int) := by omega
        rw [el]
        exact ih _ (by omega) (i + 1) rfl (by omega) (zni_s hni hm (by omega))
      · refine ik_Wk 1 (pc_q := 40) (loc_q := [some (.ref 1), some (fI (p : Int)), some (fI (i : Int))]) (st_q := [.ref 1]) (h_q := (c0 :: cz_t T n cur fl fb ((rs.length : Int) + 1) C G P B tl)) (cl_q := 0) (sl_q := 0) rfl ?_
        refine fw_bi rfl (by decide) ?_
        refine ik_Wk 1 (pc_q := 43) (loc_q := [some (.ref 1), some (fI (p : Int)), some (fI (i : Int))]) (st_q := [.ref 1, fI 6, .ref 1]) (h_q := (c0 :: cz_t T n cur fl fb ((rs.length : Int) + 1) C G P B tl)) (cl_q := 0) (sl_q := 0) rfl ?_
        refine fw_gf rfl rfl rfl rfl ?_
        refine ik_Wk 2 (pc_q := 48) (loc_q := [some (.ref 1), some (fI (p : Int)), some (fI (i : Int))]) (st_q := [fI 4, fI (p : Int), .ref 6, fI 6, .ref 1]) (h_q := (c0 :: cz_t T n cur fl fb ((rs.length : Int) + 1) C G P B tl)) (cl_q := 0) (sl_q := 0) rfl ?_
        refine fw_mul rfl ?_
        refine ik_Wk 1 (pc_q := 50) (loc_q := [some (.ref 1), some (fI (p : Int)), some (fI (i : Int))]) (st_q := [fI (i : Int), fI ((p : Int) * 4), .ref 6, fI 6, .ref 1]) (h_q := (c0 :: cz_t T n cur fl fb ((rs.length : Int) + 1) C G P B tl)) (cl_q := 0) (sl_q := 0) rfl ?_
        refine fw_add rfl ?_
        refine fw_ial rfl rfl (by omega) (by omega) (by omega) ?_
        refine fw_call 67 3 0 [.ref 1, fI 6, fI (B.getD (((p : Int) * 4) + (i : Int)).toNat 0)] [] rfl rfl rfl (Nat.le_of_ble_eq_true rfl) rfl rfl (fw_rec (cz_len htl) rfl rfl rfl (by decide)) (cz_refuse ok) ?_
        rintro rv h_q ⟨rfl, rfl⟩
        refine ik_Wk 0 (pc_q := 55) (loc_q := [some (.ref 1), some (fI (p : Int)), some (fI (i : Int))]) (st_q := [fI 0]) (h_q := (c0 :: cz_t T n cur 6 (B.getD (((p : Int) * 4) + (i : Int)).toNat 0) ((rs.length : Int) + 1) C G P B tl)) (cl_q := 0) (sl_q := 0) rfl ?_
        refine ik_Wk 1 (pc_q := 56) (loc_q := [some (.ref 1), some (fI (p : Int)), some (fI (i : Int))]) (st_q := []) (h_q := (c0 :: cz_t T n cur 6 (B.getD (((p : Int) * 4) + (i : Int)).toNat 0) ((rs.length : Int) + 1) C G P B tl)) (cl_q := 0) (sl_q := 0) rfl ?_
        refine ik_Wret rfl rfl ⟨_, _, rfl, rfl, rfl, rfl, ⟨rfl, Or.inl ⟨m, zck_t hr hm (by omega) hni hno, ?_⟩⟩⟩
        rw [hat.2]

theorem cz_ckO {c0 : ik_E} {tl : List ik_E} {y : Int → Int} {T : List Int} {n fl fb : Int} {C G P B : List Int} (ok : cz_ok y T n tl) {rs : List (List zM)} {cur : Int} (hC : C.length = (12 : Nat)) (hG : G.length = (48 : Nat)) (hP : P.length = (48 : Nat)) (hB : B.length = (48 : Nat)) (hH : zH C G P B rs) (hrs : zrows rs) (hbr : C.getD rs.length 0 = 0) : ∀ (d : Nat) (p : Nat) (w : Option Value), rs.length + 1 - p = d → p ≤ rs.length + 1 → zno rs p → ik_G 62 2 [some (.ref 1), some (fI (p : Int)), w] [] (c0 :: cz_t T n cur fl fb ((rs.length : Int) + 1) C G P B tl) (fun rv h_q => rv = [] ∧ ((∃ m, zck rs = some m ∧ h_q = (c0 :: cz_t T n cur 6 m.2.2 ((rs.length : Int) + 1) C G P B tl)) ∨ (zck rs = none ∧ h_q = (c0 :: cz_t T n cur fl fb ((rs.length : Int) + 1) C G P B tl)))) := by
  have ok' := ok
  obtain ⟨htl, hT, bT, hn, hn2, hy⟩ := ok'
  have hrl := hrs.1
  intro d
  induction d using Nat.strongRecOn with
  | _ d ih =>
    intro p w hk hp0 hno
    refine ik_Wk 2 (pc_q := 4) (loc_q := [some (.ref 1), some (fI (p : Int)), w]) (st_q := [.ref 1, fI (p : Int)]) (h_q := (c0 :: cz_t T n cur fl fb ((rs.length : Int) + 1) C G P B tl)) (cl_q := 0) (sl_q := 0) rfl ?_
    refine fw_gf rfl rfl rfl rfl ?_
    refine fw_ic_ge rfl rfl (by omega) (by omega) (by omega) (by omega) (fun hc1 => ?_) (fun hc1 => ?_)
    · exact ik_Wret rfl rfl ⟨_, _, rfl, rfl, rfl, rfl, ⟨rfl, Or.inr ⟨zck_n (fun p' r' hp' hr' => hno p' r' (by omega) hr'), rfl⟩⟩⟩
    · refine ik_Wk 2 (pc_q := 12) (loc_q := [some (.ref 1), some (fI (p : Int)), some (fI 0)]) (st_q := []) (h_q := (c0 :: cz_t T n cur fl fb ((rs.length : Int) + 1) C G P B tl)) (cl_q := 0) (sl_q := 0) rfl ?_
      by_cases hp : p < rs.length
      · have hr : rs[p]? = some rs[p] := List.getElem?_eq_getElem hp
        generalize rs[p] = r at hr
        refine cz_ckI ok hC hG hP hB hH hrs hr hno (fun hni hp10 => ?_) _ 0 rfl (by omega) (fun j m q => absurd q (by omega))
        refine fw_inc (a := (p : Int)) (loc_q := [some (.ref 1), some (fI ((p : Int) + 1)), some (fI (r.length : Int))]) rfl rfl (Nat.le_of_ble_eq_true rfl) rfl ?_
        refine ik_Wk 1 (pc_q := 2) (loc_q := [some (.ref 1), some (fI ((p : Int) + 1)), some (fI (r.length : Int))]) (st_q := []) (h_q := (c0 :: cz_t T n cur fl fb ((rs.length : Int) + 1) C G P B tl)) (cl_q := 0) (sl_q := 0) rfl ?_
        have el : (p : Int) + 1 = ((p + 1 : Nat) : Int) := by omega
        rw [el]
        exact ih _ (by omega) (p + 1) _ rfl (by omega) (zno_s hno hr hni)
      · have hp2 : p = rs.length := by omega
        have hcp : C.getD (p : Int).toNat 0 = 0 := by rw [Int.toNat_natCast, hp2]; exact hbr
        refine ik_Wk 2 (pc_q := 14) (loc_q := [some (.ref 1), some (fI (p : Int)), some (fI 0)]) (st_q := [.ref 1, fI 0]) (h_q := (c0 :: cz_t T n cur fl fb ((rs.length : Int) + 1) C G P B tl)) (cl_q := 0) (sl_q := 0) rfl ?_
        refine fw_gf rfl rfl rfl rfl ?_
        refine ik_Wk 1 (pc_q := 18) (loc_q := [some (.ref 1), some (fI (p : Int)), some (fI 0)]) (st_q := [fI (p : Int), .ref 3, fI 0]) (h_q := (c0 :: cz_t T n cur fl fb ((rs.length : Int) + 1) C G P B tl)) (cl_q := 0) (sl_q := 0) rfl ?_
        refine fw_ial rfl rfl (by omega) (by omega) (by omega) ?_
        refine fw_ic_ge rfl rfl (by omega) (by omega) (by omega) (by omega) (fun hc2 => ?_) (fun hc2 => absurd hc2 (by omega))
        refine fw_inc (a := (p : Int)) (loc_q := [some (.ref 1), some (fI ((p : Int) + 1)), some (fI 0)]) rfl rfl (Nat.le_of_ble_eq_true rfl) rfl ?_
        refine ik_Wk 1 (pc_q := 2) (loc_q := [some (.ref 1), some (fI ((p : Int) + 1)), some (fI 0)]) (st_q := []) (h_q := (c0 :: cz_t T n cur fl fb ((rs.length : Int) + 1) C G P B tl)) (cl_q := 0) (sl_q := 0) rfl ?_
        have el : (p : Int) + 1 = ((p + 1 : Nat) : Int) := by omega
        rw [el]
        exact ih _ (by omega) (p + 1) _ rfl (by omega) (fun p' r' hp' hr' => hno p' r' (by rcases Nat.lt_or_ge p' rs.length with q | q; omega; (rw [List.getElem?_eq_none q] at hr'; cases hr')) hr')

theorem cz_ck {c0 : ik_E} {tl : List ik_E} {y : Int → Int} {T : List Int} {n fl fb : Int} {C G P B : List Int} (ok : cz_ok y T n tl) {cur : Int} {rs : List (List zM)} (hC : C.length = (12 : Nat)) (hG : G.length = (48 : Nat)) (hP : P.length = (48 : Nat)) (hB : B.length = (48 : Nat)) (hH : zH C G P B rs) (hrs : zrows rs) (hbr : C.getD rs.length 0 = 0) : ik_F 62 [.ref 1] (c0 :: cz_t T n cur fl fb ((rs.length : Int) + 1) C G P B tl) (fun rv h_q => rv = [] ∧ ((∃ m, zck rs = some m ∧ h_q = (c0 :: cz_t T n cur 6 m.2.2 ((rs.length : Int) + 1) C G P B tl)) ∨ (zck rs = none ∧ h_q = (c0 :: cz_t T n cur fl fb ((rs.length : Int) + 1) C G P B tl)))) := by
  have ok' := ok
  obtain ⟨htl, hT, bT, hn, hn2, hy⟩ := ok'
  refine ik_Wk 2 (pc_q := 2) (loc_q := [some (.ref 1), some (fI 0), none]) (st_q := []) (h_q := (c0 :: cz_t T n cur fl fb ((rs.length : Int) + 1) C G P B tl)) (cl_q := 0) (sl_q := 0) rfl ?_
  exact cz_ckO ok hC hG hP hB hH hrs hbr _ 0 none rfl (by omega) (fun p' r' q => absurd q (by omega))

/-! 38l.cz -/
theorem zH_snoc {C G P B C' G' P' B' : List Int} {rs : List (List zM)} {r : List zM} {p : Nat} (h : zH C G P B rs) (hp : p = rs.length) (hp2 : p < C.length) (hc : C' = C.set p (r.length : Int)) (hr : r.length ≤ 4) (hz : zh G' P' B' p r) (ag : zag (4 * p) G G') (ap : zag (4 * p) P P') (ab : zag (4 * p) B B') : zH C' G' P' B' (rs ++ [r]) := by
  intro q s hs
  by_cases hq : q < rs.length
  · rw [List.getElem?_append_left hq] at hs
    obtain ⟨h1, h2, h3⟩ := h q s hs
    refine ⟨?_, h2, fun i m hm => ?_⟩
    · rw [hc, fz_getD_set, if_neg (by omega)]; exact h1
    · have hi : i < s.length := by
        rcases Nat.lt_or_ge i s.length with w | w
        · exact w
        · rw [List.getElem?_eq_none w] at hm; cases hm
      rw [ag _ (by omega), ap _ (by omega), ab _ (by omega)]
      exact h3 i m hm
  · have e : q = rs.length := by
      have hq2 : q < (rs ++ [r]).length := by
        rcases Nat.lt_or_ge q (rs ++ [r]).length with w | w
        · exact w
        · rw [List.getElem?_eq_none w] at hs; cases hs
      rw [List.length_append] at hq2
      simp only [List.length_cons, List.length_nil] at hq2
      omega
    subst e
    rw [List.getElem?_append_right (Nat.le_refl _), Nat.sub_self] at hs
    cases hs
    subst hp
    refine ⟨?_, hr, hz⟩
    rw [hc, fz_getD_set, if_pos ⟨rfl, hp2⟩]
theorem zrows_snoc {rs : List (List zM)} {r : List zM} (h : zrows rs) (hl : rs.length ≤ 10) (hr : zrow r) : zrows (rs ++ [r]) := by
  refine ⟨by rw [List.length_append]; simp only [List.length_cons, List.length_nil]; omega, fun s hs => ?_⟩
  rcases List.mem_append.mp hs with q | q
  · exact h.2 s q
  · rw [List.mem_singleton.mp q]; exact hr
def cz_RP (c0 : ik_E) (tl : List ik_E) (T : List Int) (n fl fb : Int) (res : (Int × Int) ⊕ List (List zM)) (rv : List Value) (h_q : List ik_E) : Prop := match res with
  | .inl e => rv = [fI 0] ∧ ∃ (cur' pl' : Int) (C' G' P' B' : List Int), C'.length = 12 ∧ G'.length = 48 ∧ P'.length = 48 ∧ B'.length = 48 ∧ 0 ≤ cur' ∧ cur' ≤ n ∧ h_q = c0 :: cz_t T n cur' e.1 e.2 pl' C' G' P' B' tl
  | .inr rs => rv = [fI 1] ∧ ∃ (cur' : Int) (C' G' P' B' : List Int), C'.length = 12 ∧ G'.length = 48 ∧ P'.length = 48 ∧ B'.length = 48 ∧ 0 ≤ cur' ∧ cur' ≤ n ∧ h_q = c0 :: cz_t T n cur' fl fb ((rs.length : Int) + 1) C' G' P' B' tl ∧ zH C' G' P' B' rs ∧ C'.getD rs.length 0 = 0 ∧ zrows rs

theorem zH_c0 {C G P B : List Int} {rs : List (List zM)} {v : Int} {p : Nat} (h : zH C G P B rs) (hp : rs.length ≤ p) : zH (C.set p v) G P B rs := by
  intro q r hr
  have hq : q < rs.length := by
    rcases Nat.lt_or_ge q rs.length with w | w
    · exact w
    · rw [List.getElem?_eq_none w] at hr; cases hr
  rw [fz_getD_set, if_neg (by omega)]
  exact h q r hr

theorem cz_psL {c0 : ik_E} {tl : List ik_E} {y : Int → Int} {T : List Int} {n fl fb pl : Int} (ok : cz_ok y T n tl) : ∀ (k : Nat) (rs : List (List zM)) (cur : Int) (C G P B : List Int), rs.length + k = 11 → C.length = (12 : Nat) → G.length = (48 : Nat) → P.length = (48 : Nat) → B.length = (48 : Nat) → zH C G P B rs → zrows rs → (0 : Int) ≤ cur → cur ≤ n → ik_G 57 34 [some (.ref 1), some (fI (rs.length : Int)), some (fI (zS y n cur))] [] (c0 :: cz_t T n (zS y n cur) fl fb pl C G P B tl) (cz_RP c0 tl T n fl fb (zps y n (k + 1) rs cur)) := by
  have ok' := ok
  obtain ⟨htl, hT, bT, hn, hn2, hy⟩ := ok'
  intro k
  induction k using Nat.strongRecOn with
  | _ k ih =>
    intro rs cur C G P B hk hC hG hP hB hH hrs h0 h1
    have hz1 := zS_ge (y := y) (n := n) cur
    have hz2 := zS_le (y := y) (n := n) (i := cur) h1
    refine ik_Wk 2 (pc_q := 37) (loc_q := [some (.ref 1), some (fI (rs.length : Int)), some (fI (zS y n cur))]) (st_q := [.retAddr 1, .ref 1]) (h_q := (c0 :: cz_t T n (zS y n cur) fl fb pl C G P B tl)) (cl_q := 0) (sl_q := 0) rfl ?_
    refine fw_call 64 2 0 [.ref 1, .retAddr 1] [] rfl rfl rfl (Nat.le_of_ble_eq_true rfl) rfl rfl (fw_rec (cz_len htl) rfl rfl rfl (by decide)) (cz_rw0 ok (by omega) (by omega)) ?_
    rintro rv h_q (⟨hw1, rfl, rfl⟩ | ⟨hw1, rfl, rfl⟩)
    · have hz2 : (zS y n cur) + 6 ≤ n := by have q := hw1; unfold zbr at q; have := of_decide_eq_true q; have := zE_le (y := y) (n := n) (i := zS y n cur) (by omega); omega
      refine ik_Wk 0 (pc_q := 40) (loc_q := [some (.ref 1), some (fI (rs.length : Int)), some (fI (zS y n cur))]) (st_q := [fI 1]) (h_q := (c0 :: cz_t T n ((zS y n cur) + 6) fl fb pl C G P B tl)) (cl_q := 0) (sl_q := 0) rfl ?_
      refine fw_if_eq rfl rfl (by omega) (by omega) (fun hc3 => absurd hc3 (by omega)) (fun hc3 => ?_)
      refine ik_Wk 1 (pc_q := 44) (loc_q := [some (.ref 1), some (fI (rs.length : Int)), some (fI (zS y n cur))]) (st_q := [.ref 1]) (h_q := (c0 :: cz_t T n ((zS y n cur) + 6) fl fb pl C G P B tl)) (cl_q := 0) (sl_q := 0) rfl ?_
      refine fw_gf rfl rfl rfl rfl ?_
      refine ik_Wk 2 (pc_q := 49) (loc_q := [some (.ref 1), some (fI (rs.length : Int)), some (fI (zS y n cur))]) (st_q := [fI 0, fI (rs.length : Int), .ref 3]) (h_q := (c0 :: cz_t T n ((zS y n cur) + 6) fl fb pl C G P B tl)) (cl_q := 0) (sl_q := 0) rfl ?_
      have hl4 : (C.set (rs.length : Int).toNat 0).length = 12 := (List.length_set ..).trans hC
      refine fw_ias (h_q := (c0 :: cz_t T n ((zS y n cur) + 6) fl fb pl (C.set (rs.length : Int).toNat 0) G P B tl)) rfl rfl (by omega) (by omega) (by omega) rfl ?_
      refine ik_Wk 3 (pc_q := 53) (loc_q := [some (.ref 1), some (fI (rs.length : Int)), some (fI (zS y n cur))]) (st_q := [fI 1, fI (rs.length : Int), .ref 1]) (h_q := (c0 :: cz_t T n ((zS y n cur) + 6) fl fb pl (C.set (rs.length : Int).toNat 0) G P B tl)) (cl_q := 0) (sl_q := 0) rfl ?_
      refine fw_add rfl ?_
      refine fw_pf (h_q := (c0 :: cz_t T n ((zS y n cur) + 6) fl fb ((rs.length : Int) + 1) (C.set (rs.length : Int).toNat 0) G P B tl)) rfl rfl rfl (Nat.le_of_ble_eq_true rfl) rfl rfl rfl ?_
      refine ik_Wk 1 (pc_q := 58) (loc_q := [some (.ref 1), some (fI (rs.length : Int)), some (fI (zS y n cur))]) (st_q := [.ref 1]) (h_q := (c0 :: cz_t T n ((zS y n cur) + 6) fl fb ((rs.length : Int) + 1) (C.set (rs.length : Int).toNat 0) G P B tl)) (cl_q := 0) (sl_q := 0) rfl ?_
      refine fw_call 61 1 0 [.ref 1] [] rfl rfl rfl (Nat.le_of_ble_eq_true rfl) rfl rfl (fw_rec (cz_len htl) rfl rfl rfl (by decide)) (cz_end ok (by omega) (by omega)) ?_
      rintro rv h_q (⟨he, rfl, cf, hf0, hf1, rfl⟩ | ⟨he, rfl, cf, hf0, hf1, rfl⟩)
      · refine ik_Wk 0 (pc_q := 61) (loc_q := [some (.ref 1), some (fI (rs.length : Int)), some (fI (zS y n cur))]) (st_q := [fI 1]) (h_q := (c0 :: cz_t T n cf fl fb ((rs.length : Int) + 1) (C.set (rs.length : Int).toNat 0) G P B tl)) (cl_q := 0) (sl_q := 0) rfl ?_
        have hwz := hw1
        rw [zps, if_pos hwz, if_pos he]
        exact ik_Wret rfl rfl ⟨_, _, rfl, rfl, rfl, rfl, ⟨rfl, cf, _, G, P, B, hl4, hG, hP, hB, hf0, hf1, rfl, zH_c0 hH (by omega), by rw [Int.toNat_natCast, fz_getD_set, if_pos ⟨rfl, by omega⟩], hrs⟩⟩
      · refine ik_Wk 0 (pc_q := 61) (loc_q := [some (.ref 1), some (fI (rs.length : Int)), some (fI (zS y n cur))]) (st_q := [fI 0]) (h_q := (c0 :: cz_t T n cf ((zend y n ((zS y n cur) + 6)).1) ((zend y n ((zS y n cur) + 6)).2) ((rs.length : Int) + 1) (C.set (rs.length : Int).toNat 0) G P B tl)) (cl_q := 0) (sl_q := 0) rfl ?_
        have hwz := hw1
        rw [zps, if_pos hwz, if_neg he]
        exact ik_Wret rfl rfl ⟨_, _, rfl, rfl, rfl, rfl, ⟨rfl, cf, _, _, G, P, B, hl4, hG, hP, hB, hf0, hf1, rfl⟩⟩
    · refine ik_Wk 0 (pc_q := 40) (loc_q := [some (.ref 1), some (fI (rs.length : Int)), some (fI (zS y n cur))]) (st_q := [fI 0]) (h_q := (c0 :: cz_t T n (zS y n cur) fl fb pl C G P B tl)) (cl_q := 0) (sl_q := 0) rfl ?_
      refine fw_if_eq rfl rfl (by omega) (by omega) (fun hc5 => ?_) (fun hc5 => absurd hc5 (by omega))
      refine ik_Wk 2 (pc_q := 65) (loc_q := [some (.ref 1), some (fI (rs.length : Int)), some (fI (zS y n cur))]) (st_q := [.retAddr 3, .ref 1]) (h_q := (c0 :: cz_t T n (zS y n cur) fl fb pl C G P B tl)) (cl_q := 0) (sl_q := 0) rfl ?_
      refine fw_call 64 2 0 [.ref 1, .retAddr 3] [] rfl rfl rfl (Nat.le_of_ble_eq_true rfl) rfl rfl (fw_rec (cz_len htl) rfl rfl rfl (by decide)) (cz_rw1 ok (by omega) (by omega)) ?_
      rintro rv h_q (⟨hw6, rfl, rfl⟩ | ⟨hw6, rfl, rfl⟩)
      · have hz7 : (zS y n cur) + 5 ≤ n := by have q := hw6; unfold zpl at q; have := of_decide_eq_true q; have := zE_le (y := y) (n := n) (i := zS y n cur) (by omega); omega
        refine ik_Wk 0 (pc_q := 68) (loc_q := [some (.ref 1), some (fI (rs.length : Int)), some (fI (zS y n cur))]) (st_q := [fI 1]) (h_q := (c0 :: cz_t T n ((zS y n cur) + 5) fl fb pl C G P B tl)) (cl_q := 0) (sl_q := 0) rfl ?_
        refine fw_if_ne rfl rfl (by omega) (by omega) (fun hc8 => absurd hc8 (by omega)) (fun hc8 => ?_)
        refine ik_Wk 1 (pc_q := 79) (loc_q := [some (.ref 1), some (fI (rs.length : Int)), some (fI (zS y n cur))]) (st_q := [fI (rs.length : Int)]) (h_q := (c0 :: cz_t T n ((zS y n cur) + 5) fl fb pl C G P B tl)) (cl_q := 0) (sl_q := 0) rfl ?_
        refine fw_bi rfl (by decide) ?_
        refine fw_ic_ne rfl rfl (by omega) (by omega) (by omega) (by omega) (fun hc9 => ?_) (fun hc9 => ?_)
        · refine ik_Wk 3 (pc_q := 87) (loc_q := [some (.ref 1), some (fI (rs.length : Int)), some (fI (zS y n cur))]) (st_q := [fI (zS y n cur), fI 3, .ref 1]) (h_q := (c0 :: cz_t T n ((zS y n cur) + 5) fl fb pl C G P B tl)) (cl_q := 0) (sl_q := 0) rfl ?_
          refine fw_call 67 3 0 [.ref 1, fI 3, fI (zS y n cur)] [] rfl rfl rfl (Nat.le_of_ble_eq_true rfl) rfl rfl (fw_rec (cz_len htl) rfl rfl rfl (by decide)) (cz_refuse ok) ?_
          rintro rv h_q ⟨rfl, rfl⟩
          refine ik_Wk 0 (pc_q := 90) (loc_q := [some (.ref 1), some (fI (rs.length : Int)), some (fI (zS y n cur))]) (st_q := [fI 0]) (h_q := (c0 :: cz_t T n ((zS y n cur) + 5) 3 (zS y n cur) pl C G P B tl)) (cl_q := 0) (sl_q := 0) rfl ?_
          have hwz := hw6
          have hbz := hw1
          rw [zps, if_neg (by rw [hbz]; decide), if_pos hwz, if_pos (by omega)]
          exact ik_Wret rfl rfl ⟨_, _, rfl, rfl, rfl, rfl, ⟨rfl, _, _, C, G, P, B, hC, hG, hP, hB, by omega, by omega, rfl⟩⟩
        · refine ik_Wk 2 (pc_q := 93) (loc_q := [some (.ref 1), some (fI (rs.length : Int)), some (fI (zS y n cur))]) (st_q := [fI (rs.length : Int), .ref 1]) (h_q := (c0 :: cz_t T n ((zS y n cur) + 5) fl fb pl C G P B tl)) (cl_q := 0) (sl_q := 0) rfl ?_
          refine fw_call 58 2 0 [.ref 1, fI (rs.length : Int)] [] rfl rfl rfl (Nat.le_of_ble_eq_true rfl) rfl rfl (fw_rec (cz_len htl) rfl rfl rfl (by decide)) (cz_mv ok hC hG hP hB (by omega) (by omega) (by omega) (by omega)) ?_
          intro rv h_q hR
          rcases hm : zmv y n 5 [] 0 ((zS y n cur) + 5) with e | q
          · rw [hm] at hR
            obtain ⟨rfl, cf, C', G', P', B', hC', hG', hP', hB', hf0, hf1, rfl⟩ := hR
            refine ik_Wk 0 (pc_q := 96) (loc_q := [some (.ref 1), some (fI (rs.length : Int)), some (fI (zS y n cur))]) (st_q := [fI 0]) (h_q := (c0 :: cz_t T n cf e.1 e.2 pl C' G' P' B' tl)) (cl_q := 0) (sl_q := 0) rfl ?_
            refine fw_if_ne rfl rfl (by omega) (by omega) (fun hc10 => ?_) (fun hc10 => absurd hc10 (by omega))
            refine ik_Wk 1 (pc_q := 100) (loc_q := [some (.ref 1), some (fI (rs.length : Int)), some (fI (zS y n cur))]) (st_q := [fI 0]) (h_q := (c0 :: cz_t T n cf e.1 e.2 pl C' G' P' B' tl)) (cl_q := 0) (sl_q := 0) rfl ?_
            have hwz := hw6
            have hbz := hw1
            rw [zps, if_neg (by rw [hbz]; decide), if_pos hwz, if_neg (by omega), hm]
            exact ik_Wret rfl rfl ⟨_, _, rfl, rfl, rfl, rfl, ⟨rfl, cf, _, C', G', P', B', hC', hG', hP', hB', hf0, hf1, rfl⟩⟩
          · rw [hm] at hR
            obtain ⟨rfl, C', G', P', B', hC', hG', hP', hB', hf0, hf1, rfl, hcs, hzr, ag, ap, ab, hrr, hrl4⟩ := hR
            refine ik_Wk 0 (pc_q := 96) (loc_q := [some (.ref 1), some (fI (rs.length : Int)), some (fI (zS y n cur))]) (st_q := [fI 1]) (h_q := (c0 :: cz_t T n q.2 fl fb pl C' G' P' B' tl)) (cl_q := 0) (sl_q := 0) rfl ?_
            refine fw_if_ne rfl rfl (by omega) (by omega) (fun hc11 => absurd hc11 (by omega)) (fun hc11 => ?_)
            refine fw_inc (a := (rs.length : Int)) (loc_q := [some (.ref 1), some (fI ((rs.length : Int) + 1)), some (fI (zS y n cur))]) rfl rfl (Nat.le_of_ble_eq_true rfl) rfl ?_
            refine ik_Wk 2 (pc_q := 20) (loc_q := [some (.ref 1), some (fI ((rs.length : Int) + 1)), some (fI (zS y n cur))]) (st_q := [fI ((rs.length : Int) + 1)]) (h_q := (c0 :: cz_t T n q.2 fl fb pl C' G' P' B' tl)) (cl_q := 0) (sl_q := 0) rfl ?_
            refine fw_bi rfl (by decide) ?_
            refine fw_ic_ge rfl rfl (by omega) (by omega) (by omega) (by omega) (fun hc12 => absurd hc12 (by omega)) (fun hc12 => ?_)
            refine ik_Wk 1 (pc_q := 26) (loc_q := [some (.ref 1), some (fI ((rs.length : Int) + 1)), some (fI (zS y n cur))]) (st_q := [.ref 1]) (h_q := (c0 :: cz_t T n q.2 fl fb pl C' G' P' B' tl)) (cl_q := 0) (sl_q := 0) rfl ?_
            refine fw_call 66 1 0 [.ref 1] [] rfl rfl rfl (Nat.le_of_ble_eq_true rfl) rfl rfl (fw_rec (cz_len htl) rfl rfl rfl (by decide)) (cz_skip ok (by omega) (by omega)) ?_
            rintro rv h_q ⟨rfl, rfl⟩
            have hz13 := zS_ge (y := y) (n := n) q.2
            have hz14 := zS_le (y := y) (n := n) (i := q.2) (by omega)
            refine ik_Wk 0 (pc_q := 29) (loc_q := [some (.ref 1), some (fI ((rs.length : Int) + 1)), some (fI (zS y n cur))]) (st_q := []) (h_q := (c0 :: cz_t T n (zS y n q.2) fl fb pl C' G' P' B' tl)) (cl_q := 0) (sl_q := 0) rfl ?_
            refine ik_Wk 1 (pc_q := 30) (loc_q := [some (.ref 1), some (fI ((rs.length : Int) + 1)), some (fI (zS y n cur))]) (st_q := [.ref 1]) (h_q := (c0 :: cz_t T n (zS y n q.2) fl fb pl C' G' P' B' tl)) (cl_q := 0) (sl_q := 0) rfl ?_
            refine fw_gf rfl rfl rfl rfl ?_
            refine ik_Wk 1 (pc_q := 34) (loc_q := [some (.ref 1), some (fI ((rs.length : Int) + 1)), some (fI (zS y n q.2))]) (st_q := []) (h_q := (c0 :: cz_t T n (zS y n q.2) fl fb pl C' G' P' B' tl)) (cl_q := 0) (sl_q := 0) rfl ?_
            obtain ⟨k', rfl⟩ : ∃ k', k = k' + 1 := ⟨k - 1, by omega⟩
            have hwz := hw6
            have hbz := hw1
            have e2 : ((rs ++ [q.1]).length : Int) = (rs.length : Int) + 1 := by rw [List.length_append]; rfl
            rw [zps, if_neg (by rw [hbz]; decide), if_pos hwz, if_neg (by omega), hm, ← e2]
            rw [Int.toNat_natCast] at hcs hzr ag ap ab
            exact ih k' (by omega) (rs ++ [q.1]) q.2 C' G' P' B' (by rw [List.length_append]; simp only [List.length_cons, List.length_nil]; omega) hC' hG' hP' hB' (zH_snoc hH rfl (by omega) hcs hrl4 hzr ag ap ab) (zrows_snoc hrs (by omega) hrr) hf0 hf1
      · refine ik_Wk 0 (pc_q := 68) (loc_q := [some (.ref 1), some (fI (rs.length : Int)), some (fI (zS y n cur))]) (st_q := [fI 0]) (h_q := (c0 :: cz_t T n (zS y n cur) fl fb pl C G P B tl)) (cl_q := 0) (sl_q := 0) rfl ?_
        refine fw_if_ne rfl rfl (by omega) (by omega) (fun hc15 => ?_) (fun hc15 => absurd hc15 (by omega))
        refine ik_Wk 3 (pc_q := 74) (loc_q := [some (.ref 1), some (fI (rs.length : Int)), some (fI (zS y n cur))]) (st_q := [fI (zS y n cur), fI 1, .ref 1]) (h_q := (c0 :: cz_t T n (zS y n cur) fl fb pl C G P B tl)) (cl_q := 0) (sl_q := 0) rfl ?_
        refine fw_call 67 3 0 [.ref 1, fI 1, fI (zS y n cur)] [] rfl rfl rfl (Nat.le_of_ble_eq_true rfl) rfl rfl (fw_rec (cz_len htl) rfl rfl rfl (by decide)) (cz_refuse ok) ?_
        rintro rv h_q ⟨rfl, rfl⟩
        refine ik_Wk 0 (pc_q := 77) (loc_q := [some (.ref 1), some (fI (rs.length : Int)), some (fI (zS y n cur))]) (st_q := [fI 0]) (h_q := (c0 :: cz_t T n (zS y n cur) 1 (zS y n cur) pl C G P B tl)) (cl_q := 0) (sl_q := 0) rfl ?_
        have hwz := hw6
        have hbz := hw1
        rw [zps, if_neg (by rw [hbz]; decide), if_neg (by rw [hwz]; decide)]
        exact ik_Wret rfl rfl ⟨_, _, rfl, rfl, rfl, rfl, ⟨rfl, _, _, C, G, P, B, hC, hG, hP, hB, by omega, by omega, rfl⟩⟩

theorem cz_ps {c0 : ik_E} {tl : List ik_E} {y : Int → Int} {T : List Int} {n fl fb pl : Int} {C G P B : List Int} (ok : cz_ok y T n tl) {cur : Int} (hC : C.length = 12) (hG : G.length = 48) (hP : P.length = 48) (hB : B.length = 48) (h0 : 0 ≤ cur) (h1 : cur ≤ n) : ik_F 57 [.ref 1] (c0 :: cz_t T n cur fl fb pl C G P B tl) (fun rv h_q => (¬ zS y n cur < n ∧ rv = [fI 1] ∧ h_q = (c0 :: cz_t T n (zS y n cur) fl fb pl C G P B tl)) ∨ (zS y n cur < n ∧ cz_RP c0 tl T n fl fb (zps y n 12 [] (zS y n cur)) rv h_q)) := by
  have ok' := ok
  obtain ⟨htl, hT, bT, hn, hn2, hy⟩ := ok'
  refine ik_Wk 1 (pc_q := 1) (loc_q := [some (.ref 1), none, none]) (st_q := [.ref 1]) (h_q := (c0 :: cz_t T n cur fl fb pl C G P B tl)) (cl_q := 0) (sl_q := 0) rfl ?_
  refine fw_call 66 1 0 [.ref 1] [] rfl rfl rfl (Nat.le_of_ble_eq_true rfl) rfl rfl (fw_rec (cz_len htl) rfl rfl rfl (by decide)) (cz_skip ok (by omega) (by omega)) ?_
  rintro rv h_q ⟨rfl, rfl⟩
  have hz1 := zS_ge (y := y) (n := n) cur
  have hz2 := zS_le (y := y) (n := n) (i := cur) (by omega)
  refine ik_Wk 0 (pc_q := 4) (loc_q := [some (.ref 1), none, none]) (st_q := []) (h_q := (c0 :: cz_t T n (zS y n cur) fl fb pl C G P B tl)) (cl_q := 0) (sl_q := 0) rfl ?_
  refine ik_Wk 1 (pc_q := 5) (loc_q := [some (.ref 1), none, none]) (st_q := [.ref 1]) (h_q := (c0 :: cz_t T n (zS y n cur) fl fb pl C G P B tl)) (cl_q := 0) (sl_q := 0) rfl ?_
  refine fw_gf rfl rfl rfl rfl ?_
  refine ik_Wk 1 (pc_q := 9) (loc_q := [some (.ref 1), none, none]) (st_q := [.ref 1, fI (zS y n cur)]) (h_q := (c0 :: cz_t T n (zS y n cur) fl fb pl C G P B tl)) (cl_q := 0) (sl_q := 0) rfl ?_
  refine fw_gf rfl rfl rfl rfl ?_
  refine fw_ic_lt rfl rfl (by omega) (by omega) (by omega) (by omega) (fun hc3 => ?_) (fun hc3 => ?_)
  · refine ik_Wk 3 (pc_q := 20) (loc_q := [some (.ref 1), some (fI 0), none]) (st_q := [fI 0]) (h_q := (c0 :: cz_t T n (zS y n cur) fl fb pl C G P B tl)) (cl_q := 0) (sl_q := 0) rfl ?_
    refine fw_bi rfl (by decide) ?_
    refine fw_ic_ge rfl rfl (by omega) (by omega) (by omega) (by omega) (fun hc4 => absurd hc4 (by omega)) (fun hc4 => ?_)
    refine ik_Wk 1 (pc_q := 26) (loc_q := [some (.ref 1), some (fI 0), none]) (st_q := [.ref 1]) (h_q := (c0 :: cz_t T n (zS y n cur) fl fb pl C G P B tl)) (cl_q := 0) (sl_q := 0) rfl ?_
    refine fw_call 66 1 0 [.ref 1] [] rfl rfl rfl (Nat.le_of_ble_eq_true rfl) rfl rfl (fw_rec (cz_len htl) rfl rfl rfl (by decide)) (cz_skip ok (by omega) (by omega)) ?_
    rintro rv h_q ⟨rfl, rfl⟩
    have hz5 := zS_ge (y := y) (n := n) (zS y n cur)
    have hz6 := zS_le (y := y) (n := n) (i := zS y n cur) (by omega)
    refine ik_Wk 0 (pc_q := 29) (loc_q := [some (.ref 1), some (fI 0), none]) (st_q := []) (h_q := (c0 :: cz_t T n (zS y n (zS y n cur)) fl fb pl C G P B tl)) (cl_q := 0) (sl_q := 0) rfl ?_
    refine ik_Wk 1 (pc_q := 30) (loc_q := [some (.ref 1), some (fI 0), none]) (st_q := [.ref 1]) (h_q := (c0 :: cz_t T n (zS y n (zS y n cur)) fl fb pl C G P B tl)) (cl_q := 0) (sl_q := 0) rfl ?_
    refine fw_gf rfl rfl rfl rfl ?_
    refine ik_Wk 1 (pc_q := 34) (loc_q := [some (.ref 1), some (fI 0), some (fI (zS y n (zS y n cur)))]) (st_q := []) (h_q := (c0 :: cz_t T n (zS y n (zS y n cur)) fl fb pl C G P B tl)) (cl_q := 0) (sl_q := 0) rfl ?_
    refine ik_Wmono (cz_psL ok 11 [] (zS y n cur) C G P B rfl hC hG hP hB zH_nil zrows_nil (by omega) (by omega)) ?_
    rintro z ⟨ir, rv, z1, z2, z3, z4, z5⟩
    exact ⟨ir, rv, z1, z2, z3, z4, Or.inr ⟨by omega, z5⟩⟩
  · refine ik_Wk 1 (pc_q := 16) (loc_q := [some (.ref 1), none, none]) (st_q := [fI 1]) (h_q := (c0 :: cz_t T n (zS y n cur) fl fb pl C G P B tl)) (cl_q := 0) (sl_q := 0) rfl ?_
    exact ik_Wret rfl rfl ⟨_, _, rfl, rfl, rfl, rfl, (Or.inl ⟨by omega, rfl, rfl⟩)⟩

def cz_RT (c0 : ik_E) (tl : List ik_E) (T : List Int) (res : (Int × Int) ⊕ (Int × List (List zM))) (rv : List Value) (h_q : List ik_E) : Prop := match res with
  | .inl e => rv = [fI e.1] ∧ ∃ (cur' pl' : Int) (C' G' P' B' : List Int), C'.length = 12 ∧ G'.length = 48 ∧ P'.length = 48 ∧ B'.length = 48 ∧ h_q = c0 :: cz_t T 0 cur' e.1 e.2 pl' C' G' P' B' tl
  | .inr q => rv = [fI 0] ∧ ∃ (cur' : Int) (C' G' P' B' : List Int), C'.length = 12 ∧ G'.length = 48 ∧ P'.length = 48 ∧ B'.length = 48 ∧ h_q = c0 :: cz_t T 0 cur' 0 (-1) q.1 C' G' P' B' tl ∧ zH C' G' P' B' q.2 ∧ zrows q.2 ∧ (q.1 = 0 ∧ q.2 = [] ∨ q.1 = (q.2.length : Int) + 1 ∧ C'.getD q.2.length 0 = 0)

theorem cz_ck0 {c0 : ik_E} {tl : List ik_E} {y : Int → Int} {T : List Int} {n fl fb : Int} {C G P B : List Int} (ok : cz_ok y T n tl) {cur : Int} : ik_F 62 [.ref 1] (c0 :: cz_t T n cur fl fb 0 C G P B tl) (fun rv h_q => rv = [] ∧ h_q = (c0 :: cz_t T n cur fl fb 0 C G P B tl)) := by
  have ok' := ok
  obtain ⟨htl, hT, bT, hn, hn2, hy⟩ := ok'
  refine ik_Wk 4 (pc_q := 4) (loc_q := [some (.ref 1), some (fI 0), none]) (st_q := [.ref 1, fI 0]) (h_q := (c0 :: cz_t T n cur fl fb 0 C G P B tl)) (cl_q := 0) (sl_q := 0) rfl ?_
  refine fw_gf rfl rfl rfl rfl ?_
  refine fw_ic_ge rfl rfl (by omega) (by omega) (by omega) (by omega) (fun hc1 => ?_) (fun hc1 => absurd hc1 (by omega))
  exact ik_Wret rfl rfl ⟨_, _, rfl, rfl, rfl, rfl, ⟨rfl, rfl⟩⟩

theorem cz_text {c0 : ik_E} {tl : List ik_E} {y : Int → Int} {T : List Int} {n fl fb pl : Int} {C G P B : List Int} (ok : cz_ok y T n tl) {cur : Int} (hC : C.length = 12) (hG : G.length = 48) (hP : P.length = 48) (hB : B.length = 48) : ik_F 56 [.ref 1] (c0 :: cz_t T n cur fl fb pl C G P B tl) (cz_RT c0 tl T (zall y n)) := by
  have ok' := ok
  obtain ⟨htl, hT, bT, hn, hn2, hy⟩ := ok'
  refine ik_Wk 2 (pc_q := 2) (loc_q := [some (.ref 1)]) (st_q := [fI 0, .ref 1]) (h_q := (c0 :: cz_t T n cur fl fb pl C G P B tl)) (cl_q := 0) (sl_q := 0) rfl ?_
  refine fw_pf (h_q := (c0 :: cz_t T n 0 fl fb pl C G P B tl)) rfl rfl rfl (Nat.le_of_ble_eq_true rfl) rfl rfl rfl ?_
  refine ik_Wk 2 (pc_q := 7) (loc_q := [some (.ref 1)]) (st_q := [fI 0, .ref 1]) (h_q := (c0 :: cz_t T n 0 fl fb pl C G P B tl)) (cl_q := 0) (sl_q := 0) rfl ?_
  refine fw_pf (h_q := (c0 :: cz_t T n 0 0 fb pl C G P B tl)) rfl rfl rfl (Nat.le_of_ble_eq_true rfl) rfl rfl rfl ?_
  refine ik_Wk 2 (pc_q := 12) (loc_q := [some (.ref 1)]) (st_q := [fI (-1), .ref 1]) (h_q := (c0 :: cz_t T n 0 0 fb pl C G P B tl)) (cl_q := 0) (sl_q := 0) rfl ?_
  refine fw_pf (h_q := (c0 :: cz_t T n 0 0 (-1) pl C G P B tl)) rfl rfl rfl (Nat.le_of_ble_eq_true rfl) rfl rfl rfl ?_
  refine ik_Wk 2 (pc_q := 17) (loc_q := [some (.ref 1)]) (st_q := [fI 0, .ref 1]) (h_q := (c0 :: cz_t T n 0 0 (-1) pl C G P B tl)) (cl_q := 0) (sl_q := 0) rfl ?_
  refine fw_pf (h_q := (c0 :: cz_t T n 0 0 (-1) 0 C G P B tl)) rfl rfl rfl (Nat.le_of_ble_eq_true rfl) rfl rfl rfl ?_
  refine ik_Wk 1 (pc_q := 21) (loc_q := [some (.ref 1)]) (st_q := [.ref 1]) (h_q := (c0 :: cz_t T n 0 0 (-1) 0 C G P B tl)) (cl_q := 0) (sl_q := 0) rfl ?_
  refine fw_call 57 1 0 [.ref 1] [] rfl rfl rfl (Nat.le_of_ble_eq_true rfl) rfl rfl (fw_rec (cz_len htl) rfl rfl rfl (by decide)) (cz_ps ok hC hG hP hB (by omega) (by omega)) ?_
  rintro rv h_q (⟨hs, rfl, rfl⟩ | ⟨hs, hR⟩)
  · have hall : zall y n = .inr (0, []) := by unfold zall; rw [if_neg hs]
    rw [hall]
    have hP0 := hP
    refine ik_Wk 0 (pc_q := 24) (loc_q := [some (.ref 1)]) (st_q := [fI 1]) (h_q := (c0 :: cz_t T n (zS y n 0) 0 (-1) 0 C G P B tl)) (cl_q := 0) (sl_q := 0) rfl ?_
    refine fw_if_eq rfl rfl (by omega) (by omega) (fun hc1 => absurd hc1 (by omega)) (fun hc1 => ?_)
    refine ik_Wk 1 (pc_q := 28) (loc_q := [some (.ref 1)]) (st_q := [.ref 1]) (h_q := (c0 :: cz_t T n (zS y n 0) 0 (-1) 0 C G P B tl)) (cl_q := 0) (sl_q := 0) rfl ?_
    refine fw_call 62 1 0 [.ref 1] [] rfl rfl rfl (Nat.le_of_ble_eq_true rfl) rfl rfl (fw_rec (cz_len htl) rfl rfl rfl (by decide)) (cz_ck0 ok) ?_
    rintro rv h_q ⟨rfl, rfl⟩
    refine ik_Wk 0 (pc_q := 31) (loc_q := [some (.ref 1)]) (st_q := []) (h_q := (c0 :: cz_t T n (zS y n 0) 0 (-1) 0 C G P B tl)) (cl_q := 0) (sl_q := 0) rfl ?_
    refine ik_Wk 2 (pc_q := 33) (loc_q := [some (.ref 1)]) (st_q := [fI 0, .ref 1]) (h_q := (c0 :: cz_t T n (zS y n 0) 0 (-1) 0 C G P B tl)) (cl_q := 0) (sl_q := 0) rfl ?_
    refine fw_pf (h_q := (c0 :: cz_t T 0 (zS y n 0) 0 (-1) 0 C G P B tl)) rfl rfl rfl (Nat.le_of_ble_eq_true rfl) rfl rfl rfl ?_
    refine ik_Wk 1 (pc_q := 37) (loc_q := [some (.ref 1)]) (st_q := [.ref 1]) (h_q := (c0 :: cz_t T 0 (zS y n 0) 0 (-1) 0 C G P B tl)) (cl_q := 0) (sl_q := 0) rfl ?_
    refine fw_gf rfl rfl rfl rfl ?_
    exact ik_Wret rfl rfl ⟨_, _, rfl, rfl, rfl, rfl, ⟨rfl, _, C, G, P, B, hC, hG, hP, hB, rfl, zH_nil, zrows_nil, Or.inl ⟨rfl, rfl⟩⟩⟩
  · rcases hm : zps y n 12 [] (zS y n 0) with e | rs
    · rw [hm] at hR
      obtain ⟨rfl, cf, pf, C', G', P', B', hC', hG', hP', hB', hf0, hf1, rfl⟩ := hR
      have hall : zall y n = .inl e := by unfold zall; rw [if_pos hs, hm]
      rw [hall]
      refine ik_Wk 0 (pc_q := 24) (loc_q := [some (.ref 1)]) (st_q := [fI 0]) (h_q := (c0 :: cz_t T n cf e.1 e.2 pf C' G' P' B' tl)) (cl_q := 0) (sl_q := 0) rfl ?_
      refine fw_if_eq rfl rfl (by omega) (by omega) (fun hc2 => ?_) (fun hc2 => absurd hc2 (by omega))
      refine ik_Wk 2 (pc_q := 33) (loc_q := [some (.ref 1)]) (st_q := [fI 0, .ref 1]) (h_q := (c0 :: cz_t T n cf e.1 e.2 pf C' G' P' B' tl)) (cl_q := 0) (sl_q := 0) rfl ?_
      refine fw_pf (h_q := (c0 :: cz_t T 0 cf e.1 e.2 pf C' G' P' B' tl)) rfl rfl rfl (Nat.le_of_ble_eq_true rfl) rfl rfl rfl ?_
      refine ik_Wk 1 (pc_q := 37) (loc_q := [some (.ref 1)]) (st_q := [.ref 1]) (h_q := (c0 :: cz_t T 0 cf e.1 e.2 pf C' G' P' B' tl)) (cl_q := 0) (sl_q := 0) rfl ?_
      refine fw_gf rfl rfl rfl rfl ?_
      exact ik_Wret rfl rfl ⟨_, _, rfl, rfl, rfl, rfl, ⟨rfl, cf, pf, C', G', P', B', hC', hG', hP', hB', rfl⟩⟩
    · rw [hm] at hR
      obtain ⟨rfl, cf, C', G', P', B', hC', hG', hP', hB', hf0, hf1, rfl, hH, hbr, hrs⟩ := hR
      refine ik_Wk 0 (pc_q := 24) (loc_q := [some (.ref 1)]) (st_q := [fI 1]) (h_q := (c0 :: cz_t T n cf 0 (-1) ((rs.length : Int) + 1) C' G' P' B' tl)) (cl_q := 0) (sl_q := 0) rfl ?_
      refine fw_if_eq rfl rfl (by omega) (by omega) (fun hc3 => absurd hc3 (by omega)) (fun hc3 => ?_)
      refine ik_Wk 1 (pc_q := 28) (loc_q := [some (.ref 1)]) (st_q := [.ref 1]) (h_q := (c0 :: cz_t T n cf 0 (-1) ((rs.length : Int) + 1) C' G' P' B' tl)) (cl_q := 0) (sl_q := 0) rfl ?_
      refine fw_call 62 1 0 [.ref 1] [] rfl rfl rfl (Nat.le_of_ble_eq_true rfl) rfl rfl (fw_rec (cz_len htl) rfl rfl rfl (by decide)) (cz_ck ok hC' hG' hP' hB' hH hrs hbr) ?_
      rintro rv h_q ⟨rfl, ⟨m, hk, rfl⟩ | ⟨hk, rfl⟩⟩
      · have hall : zall y n = .inl (6, m.2.2) := by unfold zall; rw [if_pos hs, hm]; dsimp only; rw [hk]
        rw [hall]
        refine ik_Wk 0 (pc_q := 31) (loc_q := [some (.ref 1)]) (st_q := []) (h_q := (c0 :: cz_t T n cf 6 m.2.2 ((rs.length : Int) + 1) C' G' P' B' tl)) (cl_q := 0) (sl_q := 0) rfl ?_
        refine ik_Wk 2 (pc_q := 33) (loc_q := [some (.ref 1)]) (st_q := [fI 0, .ref 1]) (h_q := (c0 :: cz_t T n cf 6 m.2.2 ((rs.length : Int) + 1) C' G' P' B' tl)) (cl_q := 0) (sl_q := 0) rfl ?_
        refine fw_pf (h_q := (c0 :: cz_t T 0 cf 6 m.2.2 ((rs.length : Int) + 1) C' G' P' B' tl)) rfl rfl rfl (Nat.le_of_ble_eq_true rfl) rfl rfl rfl ?_
        refine ik_Wk 1 (pc_q := 37) (loc_q := [some (.ref 1)]) (st_q := [.ref 1]) (h_q := (c0 :: cz_t T 0 cf 6 m.2.2 ((rs.length : Int) + 1) C' G' P' B' tl)) (cl_q := 0) (sl_q := 0) rfl ?_
        refine fw_gf rfl rfl rfl rfl ?_
        exact ik_Wret rfl rfl ⟨_, _, rfl, rfl, rfl, rfl, ⟨rfl, cf, _, C', G', P', B', hC', hG', hP', hB', rfl⟩⟩
      · have hall : zall y n = .inr ((rs.length : Int) + 1, rs) := by unfold zall; rw [if_pos hs, hm]; dsimp only; rw [hk]
        rw [hall]
        refine ik_Wk 0 (pc_q := 31) (loc_q := [some (.ref 1)]) (st_q := []) (h_q := (c0 :: cz_t T n cf 0 (-1) ((rs.length : Int) + 1) C' G' P' B' tl)) (cl_q := 0) (sl_q := 0) rfl ?_
        refine ik_Wk 2 (pc_q := 33) (loc_q := [some (.ref 1)]) (st_q := [fI 0, .ref 1]) (h_q := (c0 :: cz_t T n cf 0 (-1) ((rs.length : Int) + 1) C' G' P' B' tl)) (cl_q := 0) (sl_q := 0) rfl ?_
        refine fw_pf (h_q := (c0 :: cz_t T 0 cf 0 (-1) ((rs.length : Int) + 1) C' G' P' B' tl)) rfl rfl rfl (Nat.le_of_ble_eq_true rfl) rfl rfl rfl ?_
        refine ik_Wk 1 (pc_q := 37) (loc_q := [some (.ref 1)]) (st_q := [.ref 1]) (h_q := (c0 :: cz_t T 0 cf 0 (-1) ((rs.length : Int) + 1) C' G' P' B' tl)) (cl_q := 0) (sl_q := 0) rfl ?_
        refine fw_gf rfl rfl rfl rfl ?_
        exact ik_Wret rfl rfl ⟨_, _, rfl, rfl, rfl, rfl, ⟨rfl, cf, C', G', P', B', hC', hG', hP', hB', rfl, hH, hrs, Or.inr ⟨rfl, hbr⟩⟩⟩

/-! 38m.rz -/
/-! THE REFERENCE READS: its object (66) and its cells 72 .. 76 -/
def rz_t (w : Nat → Value) (wt : List Value) (c : Nat → ik_E) (tl : List ik_E) (T : List Int) (n fp a0 sd we nu na rp : Int) (M R O A : List Int) : List ik_E := .inr (10, w 0 :: w 1 :: w 2 :: w 3 :: w 4 :: w 5 :: w 6 :: w 7 :: w 8 :: .ref 72 :: fI n :: fI fp :: fI a0 :: fJ sd :: fI we :: fI nu :: fI na :: fI rp :: .ref 73 :: .ref 74 :: .ref 75 :: .ref 76 :: wt) :: c 0 :: c 1 :: c 2 :: c 3 :: c 4 :: .inl (.int, fA T) :: .inl (.int, fA M) :: .inl (.int, fA R) :: .inl (.int, fA O) :: .inl (.int, fA A) :: tl
theorem rz_len {pre tl : List ik_E} {w : Nat → Value} {wt : List Value} {c : Nat → ik_E} {T : List Int} {n fp a0 sd we nu na rp : Int} {M R O A : List Int} (hp : pre.length = 66) (htl : tl.length = 17) : (pre ++ rz_t w wt c tl T n fp a0 sd we nu na rp M R O A).length = 94 := by
  unfold rz_t
  rw [List.length_append]
  simp only [List.length_cons, htl, hp]
theorem rz_g {pre t : List ik_E} (k : Nat) {d : ik_E} (hp : pre.length = 66) (h : t[k]? = some d) : (pre ++ t)[66 + k]? = some d := by
  rw [List.getElem?_append_right (by omega), show 66 + k - pre.length = k by omega]
  exact h
theorem rz_s {pre t t' : List ik_E} (k : Nat) {d : ik_E} (hp : pre.length = 66) (h : t.set k d = t') : (pre ++ t).set (66 + k) d = pre ++ t' := by
  rw [List.set_append_right _ _ (by omega), show 66 + k - pre.length = k by omega, h]
def rz_ok (y : Int → Int) (T : List Int) (n : Int) (pre tl : List ik_E) : Prop := pre.length = 66 ∧ tl.length = 17 ∧ T.length = 500 ∧ (∀ i : Int, 0 ≤ i → i < n → 0 ≤ T.getD i.toNat 0 ∧ T.getD i.toNat 0 ≤ 255) ∧ 0 ≤ n ∧ n ≤ 500 ∧ ∀ i, 0 ≤ i → i < n → y i = T.getD i.toNat 0

theorem rz_in {h : List ik_E} {a lo hi : Int} (a0 : -9223372036854775808 ≤ a) (a1 : a < 9223372036854775808) (l0 : -9223372036854775808 ≤ lo) (l1 : lo < 9223372036854775808) (u0 : -9223372036854775808 ≤ hi) (u1 : hi < 9223372036854775808) : ik_F 127 [fJ a, fJ lo, fJ hi] h (fun rv h_q => ((lo ≤ a ∧ a ≤ hi ∧ rv = [fI 1]) ∨ (¬ (lo ≤ a ∧ a ≤ hi) ∧ rv = [fI 0])) ∧ h_q = h) := by
  refine ik_Wk 2 (pc_q := 2) (loc_q := [some (fJ a), none, some (fJ lo), none, some (fJ hi), none]) (st_q := [fJ lo, fJ a]) (h_q := h) (cl_q := 0) (sl_q := 0) rfl ?_
  refine fw_lcmp_lt rfl rfl rfl (by omega) (by omega) (by omega) (by omega) (fun hc1 => ?_) (fun hc1 => ?_)
  · refine ik_Wk 1 (pc_q := 18) (loc_q := [some (fJ a), none, some (fJ lo), none, some (fJ hi), none]) (st_q := [fI 0]) (h_q := h) (cl_q := 0) (sl_q := 0) rfl ?_
    exact ik_Wret rfl rfl ⟨_, _, rfl, rfl, rfl, rfl, ⟨Or.inr ⟨by omega, rfl⟩, rfl⟩⟩
  · refine ik_Wk 2 (pc_q := 9) (loc_q := [some (fJ a), none, some (fJ lo), none, some (fJ hi), none]) (st_q := [fJ hi, fJ a]) (h_q := h) (cl_q := 0) (sl_q := 0) rfl ?_
    refine fw_lcmp_gt rfl rfl rfl (by omega) (by omega) (by omega) (by omega) (fun hc2 => ?_) (fun hc2 => ?_)
    · refine ik_Wk 1 (pc_q := 18) (loc_q := [some (fJ a), none, some (fJ lo), none, some (fJ hi), none]) (st_q := [fI 0]) (h_q := h) (cl_q := 0) (sl_q := 0) rfl ?_
      exact ik_Wret rfl rfl ⟨_, _, rfl, rfl, rfl, rfl, ⟨Or.inr ⟨by omega, rfl⟩, rfl⟩⟩
    · refine ik_Wk 2 (pc_q := 18) (loc_q := [some (fJ a), none, some (fJ lo), none, some (fJ hi), none]) (st_q := [fI 1]) (h_q := h) (cl_q := 0) (sl_q := 0) rfl ?_
      exact ik_Wret rfl rfl ⟨_, _, rfl, rfl, rfl, rfl, ⟨Or.inl ⟨by omega, by omega, rfl⟩, rfl⟩⟩

theorem rz_code {h : List ik_E} {a b e d : Int} (a0 : 0 ≤ a) (a1 : a ≤ 255) (b0 : 0 ≤ b) (b1 : b ≤ 255) (e0 : 0 ≤ e) (e1 : e ≤ 255) (d0 : 0 ≤ d) (d1 : d ≤ 255) : ik_F 139 [fI a, fI b, fI e, fI d] h (fun rv h_q => rv = [fJ (27 * (27 * (27 * (a - 96) + b - 96) + e - 96) + d - 96)] ∧ h_q = h) := by
  refine fw_l2 27 rfl rfl (by decide) ?_
  refine fw_l2 27 rfl rfl (by decide) ?_
  refine fw_l2 27 rfl rfl (by decide) ?_
  refine ik_Wk 1 (pc_q := 10) (loc_q := [some (fI a), some (fI b), some (fI e), some (fI d)]) (st_q := [fI a, fJ 27, fJ 27, fJ 27]) (h_q := h) (cl_q := 0) (sl_q := 0) rfl ?_
  refine fw_i2l rfl (by omega) (by omega) ?_
  refine fw_l2 96 rfl rfl (by decide) ?_
  refine fw_lsub rfl ?_
  refine fw_lmul rfl ?_
  refine ik_Wk 1 (pc_q := 17) (loc_q := [some (fI a), some (fI b), some (fI e), some (fI d)]) (st_q := [fI b, fJ (27 * (a - 96)), fJ 27, fJ 27]) (h_q := h) (cl_q := 0) (sl_q := 0) rfl ?_
  refine fw_i2l rfl (by omega) (by omega) ?_
  refine fw_ladd rfl ?_
  refine fw_l2 96 rfl rfl (by decide) ?_
  refine fw_lsub rfl ?_
  refine fw_lmul rfl ?_
  refine ik_Wk 1 (pc_q := 25) (loc_q := [some (fI a), some (fI b), some (fI e), some (fI d)]) (st_q := [fI e, fJ (27 * (((27 * (a - 96)) + b) - 96)), fJ 27]) (h_q := h) (cl_q := 0) (sl_q := 0) rfl ?_
  refine fw_i2l rfl (by omega) (by omega) ?_
  refine fw_ladd rfl ?_
  refine fw_l2 96 rfl rfl (by decide) ?_
  refine fw_lsub rfl ?_
  refine fw_lmul rfl ?_
  refine ik_Wk 1 (pc_q := 33) (loc_q := [some (fI a), some (fI b), some (fI e), some (fI d)]) (st_q := [fI d, fJ (27 * (((27 * (((27 * (a - 96)) + b) - 96)) + e) - 96))]) (h_q := h) (cl_q := 0) (sl_q := 0) rfl ?_
  refine fw_i2l rfl (by omega) (by omega) ?_
  refine fw_ladd rfl ?_
  refine fw_l2 96 rfl rfl (by decide) ?_
  refine fw_lsub rfl ?_
  exact ik_Wret rfl rfl ⟨_, _, rfl, rfl, rfl, rfl, ⟨rfl, rfl⟩⟩

theorem rz_longer {h : List ik_E} {a e : Int} (e0 : 0 ≤ e) (e1 : e ≤ 255) : ik_F 140 [fJ a, fI e] h (fun rv h_q => rv = [fJ (27 * a + e - 96)] ∧ h_q = h) := by
  refine fw_l2 27 rfl rfl (by decide) ?_
  refine ik_Wk 1 (pc_q := 4) (loc_q := [some (fJ a), none, some (fI e)]) (st_q := [fJ a, fJ 27]) (h_q := h) (cl_q := 0) (sl_q := 0) rfl ?_
  refine fw_lmul rfl ?_
  refine ik_Wk 1 (pc_q := 6) (loc_q := [some (fJ a), none, some (fI e)]) (st_q := [fI e, fJ (27 * a)]) (h_q := h) (cl_q := 0) (sl_q := 0) rfl ?_
  refine fw_i2l rfl (by omega) (by omega) ?_
  refine fw_ladd rfl ?_
  refine fw_l2 96 rfl rfl (by decide) ?_
  refine fw_lsub rfl ?_
  exact ik_Wret rfl rfl ⟨_, _, rfl, rfl, rfl, rfl, ⟨rfl, rfl⟩⟩

theorem rz_fails {pre tl : List ik_E} {w : Nat → Value} {wt : List Value} {c : Nat → ik_E} {y : Int → Int} {T : List Int} {n fp sd we nu na rp : Int} {M R O A : List Int} (ok : rz_ok y T n pre tl) {a0 f a : Int} : ik_F 137 [.ref 66, fI f, fI a] (pre ++ rz_t w wt c tl T n fp a0 sd we nu na rp M R O A) (fun rv h_q => rv = [fI f] ∧ h_q = (pre ++ rz_t w wt c tl T n a a0 sd we nu na rp M R O A)) := by
  have ok' := ok
  obtain ⟨hpre, htl, hT, bT, hn, hn2, hy⟩ := ok'
  refine ik_Wk 2 (pc_q := 2) (loc_q := [some (.ref 66), some (fI f), some (fI a)]) (st_q := [fI a, .ref 66]) (h_q := (pre ++ rz_t w wt c tl T n fp a0 sd we nu na rp M R O A)) (cl_q := 0) (sl_q := 0) rfl ?_
  refine fw_pf (h_q := (pre ++ rz_t w wt c tl T n a a0 sd we nu na rp M R O A)) rfl rfl (rz_g 0 hpre rfl) (Nat.le_of_ble_eq_true rfl) rfl rfl (rz_s 0 hpre rfl) ?_
  refine ik_Wk 1 (pc_q := 6) (loc_q := [some (.ref 66), some (fI f), some (fI a)]) (st_q := [fI f]) (h_q := (pre ++ rz_t w wt c tl T n a a0 sd we nu na rp M R O A)) (cl_q := 0) (sl_q := 0) rfl ?_
  exact ik_Wret rfl rfl ⟨_, _, rfl, rfl, rfl, rfl, ⟨rfl, rfl⟩⟩

theorem rz_here0 {pre tl : List ik_E} {w : Nat → Value} {wt : List Value} {c : Nat → ik_E} {y : Int → Int} {T : List Int} {n fp sd we nu na rp : Int} {M R O A : List Int} (ok : rz_ok y T n pre tl) : ∀ (k : Nat) (a0 : Int), (n - a0).toNat = k → (0 : Int) ≤ a0 → a0 ≤ n → ik_G 136 0 [some (.ref 66)] [] (pre ++ rz_t w wt c tl T n fp a0 sd we nu na rp M R O A) (fun rv h_q => ((zS y n a0 < n ∧ rv = [fI (y (zS y n a0))]) ∨ (¬ zS y n a0 < n ∧ rv = [fI (-1)])) ∧ h_q = (pre ++ rz_t w wt c tl T n fp (zS y n a0) sd we nu na rp M R O A)) := by
  have ok' := ok
  obtain ⟨hpre, htl, hT, bT, hn, hn2, hy⟩ := ok'
  intro k
  induction k using Nat.strongRecOn with
  | _ k ih =>
    intro a0 hk h0 h1
    refine ik_Wk 1 (pc_q := 1) (loc_q := [some (.ref 66)]) (st_q := [.ref 66]) (h_q := (pre ++ rz_t w wt c tl T n fp a0 sd we nu na rp M R O A)) (cl_q := 0) (sl_q := 0) rfl ?_
    refine fw_gf rfl rfl (rz_g 0 hpre rfl) rfl ?_
    refine ik_Wk 1 (pc_q := 5) (loc_q := [some (.ref 66)]) (st_q := [.ref 66, fI a0]) (h_q := (pre ++ rz_t w wt c tl T n fp a0 sd we nu na rp M R O A)) (cl_q := 0) (sl_q := 0) rfl ?_
    refine fw_gf rfl rfl (rz_g 0 hpre rfl) rfl ?_
    refine fw_ic_ge rfl rfl (by omega) (by omega) (by omega) (by omega) (fun hc1 => ?_) (fun hc1 => ?_)
    · refine ik_Wk 1 (pc_q := 39) (loc_q := [some (.ref 66)]) (st_q := [.ref 66]) (h_q := (pre ++ rz_t w wt c tl T n fp a0 sd we nu na rp M R O A)) (cl_q := 0) (sl_q := 0) rfl ?_
      refine fw_gf rfl rfl (rz_g 0 hpre rfl) rfl ?_
      refine ik_Wk 1 (pc_q := 43) (loc_q := [some (.ref 66)]) (st_q := [.ref 66, fI a0]) (h_q := (pre ++ rz_t w wt c tl T n fp a0 sd we nu na rp M R O A)) (cl_q := 0) (sl_q := 0) rfl ?_
      refine fw_gf rfl rfl (rz_g 0 hpre rfl) rfl ?_
      refine fw_ic_ge rfl rfl (by omega) (by omega) (by omega) (by omega) (fun hc2 => ?_) (fun hc2 => ?_)
      · refine ik_Wk 1 (pc_q := 62) (loc_q := [some (.ref 66)]) (st_q := [fI (-1)]) (h_q := (pre ++ rz_t w wt c tl T n fp a0 sd we nu na rp M R O A)) (cl_q := 0) (sl_q := 0) rfl ?_
        have hz : zS y n a0 = a0 := zS_stop (by omega)
        rw [hz]
        exact ik_Wret rfl rfl ⟨_, _, rfl, rfl, rfl, rfl, ⟨Or.inr ⟨by omega, rfl⟩, rfl⟩⟩
      · refine ik_Wk 1 (pc_q := 50) (loc_q := [some (.ref 66)]) (st_q := [.ref 66]) (h_q := (pre ++ rz_t w wt c tl T n fp a0 sd we nu na rp M R O A)) (cl_q := 0) (sl_q := 0) rfl ?_
        refine fw_gf rfl rfl (rz_g 0 hpre rfl) rfl ?_
        refine ik_Wk 1 (pc_q := 54) (loc_q := [some (.ref 66)]) (st_q := [.ref 66, .ref 72]) (h_q := (pre ++ rz_t w wt c tl T n fp a0 sd we nu na rp M R O A)) (cl_q := 0) (sl_q := 0) rfl ?_
        refine fw_gf rfl rfl (rz_g 0 hpre rfl) rfl ?_
        refine fw_ial rfl (rz_g 6 hpre rfl) (by omega) (by omega) (by omega) ?_
        have hb3 := bT a0 (by omega) (by omega)
        have hb4 := hy a0 (by omega) (by omega)
        refine ik_Wk 1 (pc_q := 62) (loc_q := [some (.ref 66)]) (st_q := [fI (T.getD a0.toNat 0)]) (h_q := (pre ++ rz_t w wt c tl T n fp a0 sd we nu na rp M R O A)) (cl_q := 0) (sl_q := 0) rfl ?_
        have hz : zS y n a0 = a0 := zS_stop (by omega)
        rw [hz]
        exact ik_Wret rfl rfl ⟨_, _, rfl, rfl, rfl, rfl, ⟨Or.inl ⟨by omega, by rw [hy a0 (by omega) (by omega)]⟩, rfl⟩⟩
    · refine ik_Wk 1 (pc_q := 12) (loc_q := [some (.ref 66)]) (st_q := [.ref 66]) (h_q := (pre ++ rz_t w wt c tl T n fp a0 sd we nu na rp M R O A)) (cl_q := 0) (sl_q := 0) rfl ?_
      refine fw_gf rfl rfl (rz_g 0 hpre rfl) rfl ?_
      refine ik_Wk 1 (pc_q := 16) (loc_q := [some (.ref 66)]) (st_q := [.ref 66, .ref 72]) (h_q := (pre ++ rz_t w wt c tl T n fp a0 sd we nu na rp M R O A)) (cl_q := 0) (sl_q := 0) rfl ?_
      refine fw_gf rfl rfl (rz_g 0 hpre rfl) rfl ?_
      refine fw_ial rfl (rz_g 6 hpre rfl) (by omega) (by omega) (by omega) ?_
      have hb5 := bT a0 (by omega) (by omega)
      have hb6 := hy a0 (by omega) (by omega)
      refine fw_bi rfl (by decide) ?_
      refine fw_ic_ne rfl rfl (by omega) (by omega) (by omega) (by omega) (fun hc7 => ?_) (fun hc7 => ?_)
      · refine ik_Wk 2 (pc_q := 27) (loc_q := [some (.ref 66)]) (st_q := [.ref 66, .ref 66]) (h_q := (pre ++ rz_t w wt c tl T n fp a0 sd we nu na rp M R O A)) (cl_q := 0) (sl_q := 0) rfl ?_
        refine fw_gf rfl rfl (rz_g 0 hpre rfl) rfl ?_
        refine ik_Wk 1 (pc_q := 31) (loc_q := [some (.ref 66)]) (st_q := [fI 1, fI a0, .ref 66]) (h_q := (pre ++ rz_t w wt c tl T n fp a0 sd we nu na rp M R O A)) (cl_q := 0) (sl_q := 0) rfl ?_
        refine fw_add rfl ?_
        refine fw_pf (h_q := (pre ++ rz_t w wt c tl T n fp (a0 + 1) sd we nu na rp M R O A)) rfl rfl (rz_g 0 hpre rfl) (Nat.le_of_ble_eq_true rfl) rfl rfl (rz_s 0 hpre rfl) ?_
        refine ik_Wk 1 (pc_q := 0) (loc_q := [some (.ref 66)]) (st_q := []) (h_q := (pre ++ rz_t w wt c tl T n fp (a0 + 1) sd we nu na rp M R O A)) (cl_q := 0) (sl_q := 0) rfl ?_
        rw [zS_step (y := y) (n := n) (i := a0) (by omega) (by omega)]
        exact ih _ (by omega) (a0 + 1) rfl (by omega) (by omega)
      · refine ik_Wk 1 (pc_q := 39) (loc_q := [some (.ref 66)]) (st_q := [.ref 66]) (h_q := (pre ++ rz_t w wt c tl T n fp a0 sd we nu na rp M R O A)) (cl_q := 0) (sl_q := 0) rfl ?_
        refine fw_gf rfl rfl (rz_g 0 hpre rfl) rfl ?_
        refine ik_Wk 1 (pc_q := 43) (loc_q := [some (.ref 66)]) (st_q := [.ref 66, fI a0]) (h_q := (pre ++ rz_t w wt c tl T n fp a0 sd we nu na rp M R O A)) (cl_q := 0) (sl_q := 0) rfl ?_
        refine fw_gf rfl rfl (rz_g 0 hpre rfl) rfl ?_
        refine fw_ic_ge rfl rfl (by omega) (by omega) (by omega) (by omega) (fun hc8 => ?_) (fun hc8 => ?_)
        · refine ik_Wk 1 (pc_q := 62) (loc_q := [some (.ref 66)]) (st_q := [fI (-1)]) (h_q := (pre ++ rz_t w wt c tl T n fp a0 sd we nu na rp M R O A)) (cl_q := 0) (sl_q := 0) rfl ?_
          have hz : zS y n a0 = a0 := zS_stop (by omega)
          rw [hz]
          exact ik_Wret rfl rfl ⟨_, _, rfl, rfl, rfl, rfl, ⟨Or.inr ⟨by omega, rfl⟩, rfl⟩⟩
        · refine ik_Wk 1 (pc_q := 50) (loc_q := [some (.ref 66)]) (st_q := [.ref 66]) (h_q := (pre ++ rz_t w wt c tl T n fp a0 sd we nu na rp M R O A)) (cl_q := 0) (sl_q := 0) rfl ?_
          refine fw_gf rfl rfl (rz_g 0 hpre rfl) rfl ?_
          refine ik_Wk 1 (pc_q := 54) (loc_q := [some (.ref 66)]) (st_q := [.ref 66, .ref 72]) (h_q := (pre ++ rz_t w wt c tl T n fp a0 sd we nu na rp M R O A)) (cl_q := 0) (sl_q := 0) rfl ?_
          refine fw_gf rfl rfl (rz_g 0 hpre rfl) rfl ?_
          refine fw_ial rfl (rz_g 6 hpre rfl) (by omega) (by omega) (by omega) ?_
          have hb9 := bT a0 (by omega) (by omega)
          have hb10 := hy a0 (by omega) (by omega)
          refine ik_Wk 1 (pc_q := 62) (loc_q := [some (.ref 66)]) (st_q := [fI (T.getD a0.toNat 0)]) (h_q := (pre ++ rz_t w wt c tl T n fp a0 sd we nu na rp M R O A)) (cl_q := 0) (sl_q := 0) rfl ?_
          have hz : zS y n a0 = a0 := zS_stop (by omega)
          rw [hz]
          exact ik_Wret rfl rfl ⟨_, _, rfl, rfl, rfl, rfl, ⟨Or.inl ⟨by omega, by rw [hy a0 (by omega) (by omega)]⟩, rfl⟩⟩

theorem rz_here {pre tl : List ik_E} {w : Nat → Value} {wt : List Value} {c : Nat → ik_E} {y : Int → Int} {T : List Int} {n fp sd we nu na rp : Int} {M R O A : List Int} (ok : rz_ok y T n pre tl) {a0 : Int} (h0 : 0 ≤ a0) (h1 : a0 ≤ n) : ik_F 136 [.ref 66] (pre ++ rz_t w wt c tl T n fp a0 sd we nu na rp M R O A) (fun rv h_q => ((zS y n a0 < n ∧ rv = [fI (y (zS y n a0))]) ∨ (¬ zS y n a0 < n ∧ rv = [fI (-1)])) ∧ h_q = (pre ++ rz_t w wt c tl T n fp (zS y n a0) sd we nu na rp M R O A)) := rz_here0 ok _ a0 rfl h0 h1

/-! 38n.rz -/
/-- what a word says as a number, as far as it is told -/
def zsd (y : Int → Int) (s : Int) : Nat → Int
  | 0 => 0
  | k + 1 => if 1000000000000 < zsd y s k then 2000000000000 else 27 * zsd y s k + y (s + (k : Int)) - 96
def zlt (y : Int → Int) (s : Int) (k : Nat) : Prop := ∀ j : Int, s ≤ j → j < s + (k : Int) → 97 ≤ y j ∧ y j ≤ 122
theorem zsd_b {y : Int → Int} {s : Int} : ∀ (k : Nat), zlt y s k → 0 ≤ zsd y s k ∧ zsd y s k ≤ 27000000000026 := by
  intro k
  induction k with
  | zero => intro _; exact ⟨Int.le_refl 0, by show (0 : Int) ≤ 27000000000026; decide⟩
  | succ k ih =>
    intro h
    have h1 := ih (fun j a b => h j a (by omega))
    have h2 := h (s + (k : Int)) (by omega) (by omega)
    rw [zsd]
    split <;> omega
theorem zsd_lo {y : Int → Int} {s a : Int} (ha : a ≤ 1000000000000) (k0 : Nat) (h0 : a ≤ zsd y s k0) : ∀ (d : Nat), zlt y s (k0 + d) → a ≤ zsd y s (k0 + d) := by
  intro d
  induction d with
  | zero => intro _; exact h0
  | succ d ih =>
    intro h
    have h1 := ih (fun j p q => h j p (by omega))
    have h2 := h (s + ((k0 + d : Nat) : Int)) (by omega) (by omega)
    have h3 := zsd_b (y := y) (s := s) (k0 + d) (fun j p q => h j p (by omega))
    rw [show k0 + (d + 1) = (k0 + d) + 1 by omega, zsd]
    split <;> omega
theorem zsd_n {y : Int → Int} {s : Int} {k : Nat} {z : Int} (h : zsd y s k = z) (hz : z ≤ 1000000000000) : zsd y s (k + 1) = 27 * z + y (s + (k : Int)) - 96 := by
  rw [zsd, h, if_neg (by omega)]

theorem zsd_7 {y : Int → Int} {s : Int} : zsd y s 1 = y s - 96 ∧ zsd y s 0 = 0 := by
  refine ⟨?_, rfl⟩
  rw [zsd_n (k := 0) (z := 0) rfl (by decide)]
  have : s + ((0 : Nat) : Int) = s := by omega
  rw [this]
  omega

theorem zsd_to {y : Int → Int} {s : Int} (L : Nat) (h : zlt y s L) : zsd y s L = 555 ↔ (L = 2 ∧ y s = 116 ∧ y (s + 1) = 111) := by
  have z1 := (zsd_7 (y := y) (s := s)).1
  have z0 := (zsd_7 (y := y) (s := s)).2
  rcases Nat.lt_or_ge L 3 with hL | hL
  · have hb : ∀ j : Int, s ≤ j → j < s + (L : Int) → 97 ≤ y j ∧ y j ≤ 122 := h
    match L, hL, hb with
    | 0, _, hb =>
      constructor
      · intro q; omega
      · intro q; omega
    | 1, _, hb =>
      have b0 := hb (s + 0) (by omega) (by omega)
      have s0 : y (s + 0) = y s := congrArg y (Int.add_zero s)
      have e1 : zsd y s 1 = y s - 96 := z1
      constructor
      · intro q; omega
      · intro q; omega
    | 2, _, hb =>
      have b0 := hb (s + 0) (by omega) (by omega)
      have b1 := hb (s + 1) (by omega) (by omega)
      have s0 : y (s + 0) = y s := congrArg y (Int.add_zero s)
      have e1 : zsd y s 1 = y s - 96 := z1
      have e2 : zsd y s 2 = 27 * zsd y s 1 + y (s + 1) - 96 := zsd_n (k := 1) rfl (by omega)
      constructor
      · intro q
        have q2 : zsd y s 1 = 20 ∧ y (s + 1) = 111 := by omega
        refine ⟨rfl, by omega, q2.2⟩
      · intro q; omega
  · have hb : ∀ j : Int, s ≤ j → j < s + (3 : Int) → 97 ≤ y j ∧ y j ≤ 122 := fun j a b => h j a (by omega)
    have b0 := hb (s + 0) (by omega) (by omega)
    have b1 := hb (s + 1) (by omega) (by omega)
    have b2 := hb (s + 2) (by omega) (by omega)
    have s0 : y (s + 0) = y s := congrArg y (Int.add_zero s)
    have e2 : zsd y s 2 = 27 * zsd y s 1 + y (s + 1) - 96 := zsd_n (k := 1) rfl (by omega)
    have e3 : zsd y s 3 = 27 * zsd y s 2 + y (s + 2) - 96 := zsd_n (k := 2) rfl (by omega)
    obtain ⟨d, rfl⟩ : ∃ d, L = 3 + d := ⟨L - 3, by omega⟩
    have hl := zsd_lo (a := 757) (by decide) 3 (by omega) d h
    constructor
    · intro q; omega
    · intro q; omega

theorem zsd_pl {y : Int → Int} {s : Int} (L : Nat) (h : zlt y s L) : zsd y s L = 8740067 ↔ (L = 5 ∧ y s = 112 ∧ y (s + 1) = 108 ∧ y (s + 2) = 97 ∧ y (s + 3) = 99 ∧ y (s + 4) = 101) := by
  have z1 := (zsd_7 (y := y) (s := s)).1
  have z0 := (zsd_7 (y := y) (s := s)).2
  rcases Nat.lt_or_ge L 6 with hL | hL
  · have hb : ∀ j : Int, s ≤ j → j < s + (L : Int) → 97 ≤ y j ∧ y j ≤ 122 := h
    match L, hL, hb with
    | 0, _, hb =>
      constructor
      · intro q; omega
      · intro q; omega
    | 1, _, hb =>
      have b0 := hb (s + 0) (by omega) (by omega)
      have s0 : y (s + 0) = y s := congrArg y (Int.add_zero s)
      have e1 : zsd y s 1 = y s - 96 := z1
      constructor
      · intro q; omega
      · intro q; omega
    | 2, _, hb =>
      have b0 := hb (s + 0) (by omega) (by omega)
      have b1 := hb (s + 1) (by omega) (by omega)
      have s0 : y (s + 0) = y s := congrArg y (Int.add_zero s)
      have e1 : zsd y s 1 = y s - 96 := z1
      have e2 : zsd y s 2 = 27 * zsd y s 1 + y (s + 1) - 96 := zsd_n (k := 1) rfl (by omega)
      constructor
      · intro q; omega
      · intro q; omega
    | 3, _, hb =>
      have b0 := hb (s + 0) (by omega) (by omega)
      have b1 := hb (s + 1) (by omega) (by omega)
      have b2 := hb (s + 2) (by omega) (by omega)
      have s0 : y (s + 0) = y s := congrArg y (Int.add_zero s)
      have e1 : zsd y s 1 = y s - 96 := z1
      have e2 : zsd y s 2 = 27 * zsd y s 1 + y (s + 1) - 96 := zsd_n (k := 1) rfl (by omega)
      have e3 : zsd y s 3 = 27 * zsd y s 2 + y (s + 2) - 96 := zsd_n (k := 2) rfl (by omega)
      constructor
      · intro q; omega
      · intro q; omega
    | 4, _, hb =>
      have b0 := hb (s + 0) (by omega) (by omega)
      have b1 := hb (s + 1) (by omega) (by omega)
      have b2 := hb (s + 2) (by omega) (by omega)
      have b3 := hb (s + 3) (by omega) (by omega)
      have s0 : y (s + 0) = y s := congrArg y (Int.add_zero s)
      have e1 : zsd y s 1 = y s - 96 := z1
      have e2 : zsd y s 2 = 27 * zsd y s 1 + y (s + 1) - 96 := zsd_n (k := 1) rfl (by omega)
      have e3 : zsd y s 3 = 27 * zsd y s 2 + y (s + 2) - 96 := zsd_n (k := 2) rfl (by omega)
      have e4 : zsd y s 4 = 27 * zsd y s 3 + y (s + 3) - 96 := zsd_n (k := 3) rfl (by omega)
      constructor
      · intro q; omega
      · intro q; omega
    | 5, _, hb =>
      have b0 := hb (s + 0) (by omega) (by omega)
      have b1 := hb (s + 1) (by omega) (by omega)
      have b2 := hb (s + 2) (by omega) (by omega)
      have b3 := hb (s + 3) (by omega) (by omega)
      have b4 := hb (s + 4) (by omega) (by omega)
      have s0 : y (s + 0) = y s := congrArg y (Int.add_zero s)
      have e1 : zsd y s 1 = y s - 96 := z1
      have e2 : zsd y s 2 = 27 * zsd y s 1 + y (s + 1) - 96 := zsd_n (k := 1) rfl (by omega)
      have e3 : zsd y s 3 = 27 * zsd y s 2 + y (s + 2) - 96 := zsd_n (k := 2) rfl (by omega)
      have e4 : zsd y s 4 = 27 * zsd y s 3 + y (s + 3) - 96 := zsd_n (k := 3) rfl (by omega)
      have e5 : zsd y s 5 = 27 * zsd y s 4 + y (s + 4) - 96 := zsd_n (k := 4) rfl (by omega)
      constructor
      · intro q
        have q5 : zsd y s 4 = 323706 ∧ y (s + 4) = 101 := by omega
        have q4 : zsd y s 3 = 11989 ∧ y (s + 3) = 99 := by omega
        have q3 : zsd y s 2 = 444 ∧ y (s + 2) = 97 := by omega
        have q2 : zsd y s 1 = 16 ∧ y (s + 1) = 108 := by omega
        refine ⟨rfl, by omega, q2.2, q3.2, q4.2, q5.2⟩
      · intro q; omega
  · have hb : ∀ j : Int, s ≤ j → j < s + (6 : Int) → 97 ≤ y j ∧ y j ≤ 122 := fun j a b => h j a (by omega)
    have b0 := hb (s + 0) (by omega) (by omega)
    have b1 := hb (s + 1) (by omega) (by omega)
    have b2 := hb (s + 2) (by omega) (by omega)
    have b3 := hb (s + 3) (by omega) (by omega)
    have b4 := hb (s + 4) (by omega) (by omega)
    have b5 := hb (s + 5) (by omega) (by omega)
    have s0 : y (s + 0) = y s := congrArg y (Int.add_zero s)
    have e2 : zsd y s 2 = 27 * zsd y s 1 + y (s + 1) - 96 := zsd_n (k := 1) rfl (by omega)
    have e3 : zsd y s 3 = 27 * zsd y s 2 + y (s + 2) - 96 := zsd_n (k := 2) rfl (by omega)
    have e4 : zsd y s 4 = 27 * zsd y s 3 + y (s + 3) - 96 := zsd_n (k := 3) rfl (by omega)
    have e5 : zsd y s 5 = 27 * zsd y s 4 + y (s + 4) - 96 := zsd_n (k := 4) rfl (by omega)
    have e6 : zsd y s 6 = 27 * zsd y s 5 + y (s + 5) - 96 := zsd_n (k := 5) rfl (by omega)
    obtain ⟨d, rfl⟩ : ∃ d, L = 6 + d := ⟨L - 6, by omega⟩
    have hl := zsd_lo (a := 14900788) (by decide) 6 (by omega) d h
    constructor
    · intro q; omega
    · intro q; omega

theorem zsd_br {y : Int → Int} {s : Int} (L : Nat) (h : zlt y s L) : zsd y s L = 38444009 ↔ (L = 6 ∧ y s = 98 ∧ y (s + 1) = 114 ∧ y (s + 2) = 105 ∧ y (s + 3) = 100 ∧ y (s + 4) = 103 ∧ y (s + 5) = 101) := by
  have z1 := (zsd_7 (y := y) (s := s)).1
  have z0 := (zsd_7 (y := y) (s := s)).2
  rcases Nat.lt_or_ge L 7 with hL | hL
  · have hb : ∀ j : Int, s ≤ j → j < s + (L : Int) → 97 ≤ y j ∧ y j ≤ 122 := h
    match L, hL, hb with
    | 0, _, hb =>
      constructor
      · intro q; omega
      · intro q; omega
    | 1, _, hb =>
      have b0 := hb (s + 0) (by omega) (by omega)
      have s0 : y (s + 0) = y s := congrArg y (Int.add_zero s)
      have e1 : zsd y s 1 = y s - 96 := z1
      constructor
      · intro q; omega
      · intro q; omega
    | 2, _, hb =>
      have b0 := hb (s + 0) (by omega) (by omega)
      have b1 := hb (s + 1) (by omega) (by omega)
      have s0 : y (s + 0) = y s := congrArg y (Int.add_zero s)
      have e1 : zsd y s 1 = y s - 96 := z1
      have e2 : zsd y s 2 = 27 * zsd y s 1 + y (s + 1) - 96 := zsd_n (k := 1) rfl (by omega)
      constructor
      · intro q; omega
      · intro q; omega
    | 3, _, hb =>
      have b0 := hb (s + 0) (by omega) (by omega)
      have b1 := hb (s + 1) (by omega) (by omega)
      have b2 := hb (s + 2) (by omega) (by omega)
      have s0 : y (s + 0) = y s := congrArg y (Int.add_zero s)
      have e1 : zsd y s 1 = y s - 96 := z1
      have e2 : zsd y s 2 = 27 * zsd y s 1 + y (s + 1) - 96 := zsd_n (k := 1) rfl (by omega)
      have e3 : zsd y s 3 = 27 * zsd y s 2 + y (s + 2) - 96 := zsd_n (k := 2) rfl (by omega)
      constructor
      · intro q; omega
      · intro q; omega
    | 4, _, hb =>
      have b0 := hb (s + 0) (by omega) (by omega)
      have b1 := hb (s + 1) (by omega) (by omega)
      have b2 := hb (s + 2) (by omega) (by omega)
      have b3 := hb (s + 3) (by omega) (by omega)
      have s0 : y (s + 0) = y s := congrArg y (Int.add_zero s)
      have e1 : zsd y s 1 = y s - 96 := z1
      have e2 : zsd y s 2 = 27 * zsd y s 1 + y (s + 1) - 96 := zsd_n (k := 1) rfl (by omega)
      have e3 : zsd y s 3 = 27 * zsd y s 2 + y (s + 2) - 96 := zsd_n (k := 2) rfl (by omega)
      have e4 : zsd y s 4 = 27 * zsd y s 3 + y (s + 3) - 96 := zsd_n (k := 3) rfl (by omega)
      constructor
      · intro q; omega
      · intro q; omega
    | 5, _, hb =>
      have b0 := hb (s + 0) (by omega) (by omega)
      have b1 := hb (s + 1) (by omega) (by omega)
      have b2 := hb (s + 2) (by omega) (by omega)
      have b3 := hb (s + 3) (by omega) (by omega)
      have b4 := hb (s + 4) (by omega) (by omega)
      have s0 : y (s + 0) = y s := congrArg y (Int.add_zero s)
      have e1 : zsd y s 1 = y s - 96 := z1
      have e2 : zsd y s 2 = 27 * zsd y s 1 + y (s + 1) - 96 := zsd_n (k := 1) rfl (by omega)
      have e3 : zsd y s 3 = 27 * zsd y s 2 + y (s + 2) - 96 := zsd_n (k := 2) rfl (by omega)
      have e4 : zsd y s 4 = 27 * zsd y s 3 + y (s + 3) - 96 := zsd_n (k := 3) rfl (by omega)
      have e5 : zsd y s 5 = 27 * zsd y s 4 + y (s + 4) - 96 := zsd_n (k := 4) rfl (by omega)
      constructor
      · intro q; omega
      · intro q; omega
    | 6, _, hb =>
      have b0 := hb (s + 0) (by omega) (by omega)
      have b1 := hb (s + 1) (by omega) (by omega)
      have b2 := hb (s + 2) (by omega) (by omega)
      have b3 := hb (s + 3) (by omega) (by omega)
      have b4 := hb (s + 4) (by omega) (by omega)
      have b5 := hb (s + 5) (by omega) (by omega)
      have s0 : y (s + 0) = y s := congrArg y (Int.add_zero s)
      have e1 : zsd y s 1 = y s - 96 := z1
      have e2 : zsd y s 2 = 27 * zsd y s 1 + y (s + 1) - 96 := zsd_n (k := 1) rfl (by omega)
      have e3 : zsd y s 3 = 27 * zsd y s 2 + y (s + 2) - 96 := zsd_n (k := 2) rfl (by omega)
      have e4 : zsd y s 4 = 27 * zsd y s 3 + y (s + 3) - 96 := zsd_n (k := 3) rfl (by omega)
      have e5 : zsd y s 5 = 27 * zsd y s 4 + y (s + 4) - 96 := zsd_n (k := 4) rfl (by omega)
      have e6 : zsd y s 6 = 27 * zsd y s 5 + y (s + 5) - 96 := zsd_n (k := 5) rfl (by omega)
      constructor
      · intro q
        have q6 : zsd y s 5 = 1423852 ∧ y (s + 5) = 101 := by omega
        have q5 : zsd y s 4 = 52735 ∧ y (s + 4) = 103 := by omega
        have q4 : zsd y s 3 = 1953 ∧ y (s + 3) = 100 := by omega
        have q3 : zsd y s 2 = 72 ∧ y (s + 2) = 105 := by omega
        have q2 : zsd y s 1 = 2 ∧ y (s + 1) = 114 := by omega
        refine ⟨rfl, by omega, q2.2, q3.2, q4.2, q5.2, q6.2⟩
      · intro q; omega
  · have hb : ∀ j : Int, s ≤ j → j < s + (7 : Int) → 97 ≤ y j ∧ y j ≤ 122 := fun j a b => h j a (by omega)
    have b0 := hb (s + 0) (by omega) (by omega)
    have b1 := hb (s + 1) (by omega) (by omega)
    have b2 := hb (s + 2) (by omega) (by omega)
    have b3 := hb (s + 3) (by omega) (by omega)
    have b4 := hb (s + 4) (by omega) (by omega)
    have b5 := hb (s + 5) (by omega) (by omega)
    have b6 := hb (s + 6) (by omega) (by omega)
    have s0 : y (s + 0) = y s := congrArg y (Int.add_zero s)
    have e2 : zsd y s 2 = 27 * zsd y s 1 + y (s + 1) - 96 := zsd_n (k := 1) rfl (by omega)
    have e3 : zsd y s 3 = 27 * zsd y s 2 + y (s + 2) - 96 := zsd_n (k := 2) rfl (by omega)
    have e4 : zsd y s 4 = 27 * zsd y s 3 + y (s + 3) - 96 := zsd_n (k := 3) rfl (by omega)
    have e5 : zsd y s 5 = 27 * zsd y s 4 + y (s + 4) - 96 := zsd_n (k := 4) rfl (by omega)
    have e6 : zsd y s 6 = 27 * zsd y s 5 + y (s + 5) - 96 := zsd_n (k := 5) rfl (by omega)
    have e7 : zsd y s 7 = 27 * zsd y s 6 + y (s + 6) - 96 := zsd_n (k := 6) rfl (by omega)
    obtain ⟨d, rfl⟩ : ∃ d, L = 7 + d := ⟨L - 7, by omega⟩
    have hl := zsd_lo (a := 402321277) (by decide) 7 (by omega) d h
    constructor
    · intro q; omega
    · intro q; omega

theorem zis_to {y : Int → Int} {n s : Int} : zsd y s (zE y n s - s).toNat = 555 ↔ zto y n s = true := by
  have hg := zE_ge (y := y) (n := n) s
  have h := zsd_to (y := y) (s := s) (zE y n s - s).toNat (fun j a b => zE_mid (y := y) (n := n) (i := s) a (by omega))
  rw [h]
  unfold zto
  rw [decide_eq_true_iff]
  constructor
  · intro q; exact ⟨by omega, q.2⟩
  · intro q; exact ⟨by omega, q.2⟩

theorem zis_pl {y : Int → Int} {n s : Int} : zsd y s (zE y n s - s).toNat = 8740067 ↔ zpl y n s = true := by
  have hg := zE_ge (y := y) (n := n) s
  have h := zsd_pl (y := y) (s := s) (zE y n s - s).toNat (fun j a b => zE_mid (y := y) (n := n) (i := s) a (by omega))
  rw [h]
  unfold zpl
  rw [decide_eq_true_iff]
  constructor
  · intro q; exact ⟨by omega, q.2⟩
  · intro q; exact ⟨by omega, q.2⟩

theorem zis_br {y : Int → Int} {n s : Int} : zsd y s (zE y n s - s).toNat = 38444009 ↔ zbr y n s = true := by
  have hg := zE_ge (y := y) (n := n) s
  have h := zsd_br (y := y) (s := s) (zE y n s - s).toNat (fun j a b => zE_mid (y := y) (n := n) (i := s) a (by omega))
  rw [h]
  unfold zbr
  rw [decide_eq_true_iff]
  constructor
  · intro q; exact ⟨by omega, q.2⟩
  · intro q; exact ⟨by omega, q.2⟩

theorem rz_wordL {pre tl : List ik_E} {w : Nat → Value} {wt : List Value} {c : Nat → ik_E} {y : Int → Int} {T : List Int} {n fp nu na rp : Int} {M R O A : List Int} (ok : rz_ok y T n pre tl) {s ch : Int} (h0 : 0 ≤ s) : ∀ (k : Nat) (e : Int), (n - e).toNat = k → s ≤ e → e ≤ n → zE y n s = zE y n e → ik_G 138 18 [some (.ref 66), some (fI ch)] [] (pre ++ rz_t w wt c tl T n fp s (zsd y s (e - s).toNat) e nu na rp M R O A) (fun rv h_q => rv = [] ∧ h_q = (pre ++ rz_t w wt c tl T n fp s (zsd y s (zE y n s - s).toNat) (zE y n s) nu na rp M R O A)) := by
  have ok' := ok
  obtain ⟨hpre, htl, hT, bT, hn, hn2, hy⟩ := ok'
  intro k
  induction k using Nat.strongRecOn with
  | _ k ih =>
    intro e hk h1 h2 he
    have hsb := zsd_b (y := y) (s := s) (e - s).toNat (fun j a b => zE_mid (y := y) (n := n) (i := s) a (by have := zE_ge (y := y) (n := n) e; omega))
    refine ik_Wk 1 (pc_q := 19) (loc_q := [some (.ref 66), some (fI ch)]) (st_q := [.ref 66]) (h_q := (pre ++ rz_t w wt c tl T n fp s (zsd y s (e - s).toNat) e nu na rp M R O A)) (cl_q := 0) (sl_q := 0) rfl ?_
    refine fw_gf rfl rfl (rz_g 0 hpre rfl) rfl ?_
    refine ik_Wk 1 (pc_q := 23) (loc_q := [some (.ref 66), some (fI ch)]) (st_q := [.ref 66, fI e]) (h_q := (pre ++ rz_t w wt c tl T n fp s (zsd y s (e - s).toNat) e nu na rp M R O A)) (cl_q := 0) (sl_q := 0) rfl ?_
    refine fw_gf rfl rfl (rz_g 0 hpre rfl) rfl ?_
    refine fw_ic_ge rfl rfl (by omega) (by omega) (by omega) (by omega) (fun hc1 => ?_) (fun hc1 => ?_)
    · have hz : zE y n s = e := he.trans (zE_stop (y := y) (n := n) (i := e) (by omega))
      exact ik_Wret rfl rfl ⟨_, _, rfl, rfl, rfl, rfl, ⟨rfl, by rw [hz]⟩⟩
    · refine ik_Wk 1 (pc_q := 30) (loc_q := [some (.ref 66), some (fI ch)]) (st_q := [.ref 66]) (h_q := (pre ++ rz_t w wt c tl T n fp s (zsd y s (e - s).toNat) e nu na rp M R O A)) (cl_q := 0) (sl_q := 0) rfl ?_
      refine fw_gf rfl rfl (rz_g 0 hpre rfl) rfl ?_
      refine ik_Wk 1 (pc_q := 34) (loc_q := [some (.ref 66), some (fI ch)]) (st_q := [.ref 66, .ref 72]) (h_q := (pre ++ rz_t w wt c tl T n fp s (zsd y s (e - s).toNat) e nu na rp M R O A)) (cl_q := 0) (sl_q := 0) rfl ?_
      refine fw_gf rfl rfl (rz_g 0 hpre rfl) rfl ?_
      refine fw_ial rfl (rz_g 6 hpre rfl) (by omega) (by omega) (by omega) ?_
      have hb2 := bT e (by omega) (by omega)
      have hb3 := hy e (by omega) (by omega)
      refine fw_i2l rfl (by omega) (by omega) ?_
      refine fw_l2 97 rfl rfl (by decide) ?_
      refine fw_l2 122 rfl rfl (by decide) ?_
      refine fw_call 127 3 3 [fJ (T.getD e.toNat 0), fJ 97, fJ 122] [] rfl rfl rfl (Nat.le_of_ble_eq_true rfl) rfl rfl (fw_sta (rz_len hpre htl) rfl (by decide)) (rz_in (by omega) (by omega) (by omega) (by omega) (by omega) (by omega)) ?_
      rintro rv h_q ⟨⟨hi4, hi5, rfl⟩ | ⟨hi4, rfl⟩, rfl⟩
      · refine ik_Wk 0 (pc_q := 48) (loc_q := [some (.ref 66), some (fI ch)]) (st_q := [fI 1]) (h_q := (pre ++ rz_t w wt c tl T n fp s (zsd y s (e - s).toNat) e nu na rp M R O A)) (cl_q := 0) (sl_q := 0) rfl ?_
        refine fw_if_eq rfl rfl (by omega) (by omega) (fun hc6 => absurd hc6 (by omega)) (fun hc6 => ?_)
        refine ik_Wk 2 (pc_q := 53) (loc_q := [some (.ref 66), some (fI ch)]) (st_q := [.ref 66, .ref 66]) (h_q := (pre ++ rz_t w wt c tl T n fp s (zsd y s (e - s).toNat) e nu na rp M R O A)) (cl_q := 0) (sl_q := 0) rfl ?_
        refine fw_gf rfl rfl (rz_g 0 hpre rfl) rfl ?_
        refine fw_l2 1000000000000 rfl rfl (by decide) ?_
        refine fw_lcmp_le rfl rfl rfl (by omega) (by omega) (by omega) (by omega) (fun hc7 => ?_) (fun hc7 => ?_)
        · refine fw_l2 27 rfl rfl (by decide) ?_
          refine ik_Wk 1 (pc_q := 73) (loc_q := [some (.ref 66), some (fI ch)]) (st_q := [.ref 66, fJ 27, .ref 66]) (h_q := (pre ++ rz_t w wt c tl T n fp s (zsd y s (e - s).toNat) e nu na rp M R O A)) (cl_q := 0) (sl_q := 0) rfl ?_
          refine fw_gf rfl rfl (rz_g 0 hpre rfl) rfl ?_
          refine fw_lmul rfl ?_
          refine ik_Wk 1 (pc_q := 78) (loc_q := [some (.ref 66), some (fI ch)]) (st_q := [.ref 66, fJ (27 * (zsd y s (e - s).toNat)), .ref 66]) (h_q := (pre ++ rz_t w wt c tl T n fp s (zsd y s (e - s).toNat) e nu na rp M R O A)) (cl_q := 0) (sl_q := 0) rfl ?_
          refine fw_gf rfl rfl (rz_g 0 hpre rfl) rfl ?_
          refine ik_Wk 1 (pc_q := 82) (loc_q := [some (.ref 66), some (fI ch)]) (st_q := [.ref 66, .ref 72, fJ (27 * (zsd y s (e - s).toNat)), .ref 66]) (h_q := (pre ++ rz_t w wt c tl T n fp s (zsd y s (e - s).toNat) e nu na rp M R O A)) (cl_q := 0) (sl_q := 0) rfl ?_
          refine fw_gf rfl rfl (rz_g 0 hpre rfl) rfl ?_
          refine fw_ial rfl (rz_g 6 hpre rfl) (by omega) (by omega) (by omega) ?_
          have hb8 := bT e (by omega) (by omega)
          have hb9 := hy e (by omega) (by omega)
          refine fw_i2l rfl (by omega) (by omega) ?_
          refine fw_ladd rfl ?_
          refine fw_l2 96 rfl rfl (by decide) ?_
          refine fw_lsub rfl ?_
          refine fw_pf (h_q := (pre ++ rz_t w wt c tl T n fp s (((27 * (zsd y s (e - s).toNat)) + (T.getD e.toNat 0)) - 96) e nu na rp M R O A)) rfl rfl (rz_g 0 hpre rfl) (Nat.le_of_ble_eq_true rfl) rfl rfl (rz_s 0 hpre rfl) ?_
          refine ik_Wk 2 (pc_q := 97) (loc_q := [some (.ref 66), some (fI ch)]) (st_q := [.ref 66, .ref 66]) (h_q := (pre ++ rz_t w wt c tl T n fp s (((27 * (zsd y s (e - s).toNat)) + (T.getD e.toNat 0)) - 96) e nu na rp M R O A)) (cl_q := 0) (sl_q := 0) rfl ?_
          refine fw_gf rfl rfl (rz_g 0 hpre rfl) rfl ?_
          refine ik_Wk 1 (pc_q := 101) (loc_q := [some (.ref 66), some (fI ch)]) (st_q := [fI 1, fI e, .ref 66]) (h_q := (pre ++ rz_t w wt c tl T n fp s (((27 * (zsd y s (e - s).toNat)) + (T.getD e.toNat 0)) - 96) e nu na rp M R O A)) (cl_q := 0) (sl_q := 0) rfl ?_
          refine fw_add rfl ?_
          refine fw_pf (h_q := (pre ++ rz_t w wt c tl T n fp s (((27 * (zsd y s (e - s).toNat)) + (T.getD e.toNat 0)) - 96) (e + 1) nu na rp M R O A)) rfl rfl (rz_g 0 hpre rfl) (Nat.le_of_ble_eq_true rfl) rfl rfl (rz_s 0 hpre rfl) ?_
          refine ik_Wk 1 (pc_q := 18) (loc_q := [some (.ref 66), some (fI ch)]) (st_q := []) (h_q := (pre ++ rz_t w wt c tl T n fp s (((27 * (zsd y s (e - s).toNat)) + (T.getD e.toNat 0)) - 96) (e + 1) nu na rp M R O A)) (cl_q := 0) (sl_q := 0) rfl ?_
          have e1 : (e + 1 - s).toNat = (e - s).toNat + 1 := by omega
          have e2 : s + (((e - s).toNat : Nat) : Int) = e := by omega
          have e3 : zsd y s (e + 1 - s).toNat = ((27 * (zsd y s (e - s).toNat)) + (T.getD e.toNat 0)) - 96 := by rw [e1, zsd]; rw [e2]; split <;> omega
          rw [← e3]
          exact ih _ (by omega) (e + 1) rfl (by omega) (by omega) (by rw [he, zE_step (y := y) (n := n) (i := e) (by omega) (by omega)])
        · refine fw_l2 2000000000000 rfl rfl (by decide) ?_
          refine ik_Wk 1 (pc_q := 92) (loc_q := [some (.ref 66), some (fI ch)]) (st_q := [fJ 2000000000000, .ref 66]) (h_q := (pre ++ rz_t w wt c tl T n fp s (zsd y s (e - s).toNat) e nu na rp M R O A)) (cl_q := 0) (sl_q := 0) rfl ?_
          refine fw_pf (h_q := (pre ++ rz_t w wt c tl T n fp s 2000000000000 e nu na rp M R O A)) rfl rfl (rz_g 0 hpre rfl) (Nat.le_of_ble_eq_true rfl) rfl rfl (rz_s 0 hpre rfl) ?_
          refine ik_Wk 2 (pc_q := 97) (loc_q := [some (.ref 66), some (fI ch)]) (st_q := [.ref 66, .ref 66]) (h_q := (pre ++ rz_t w wt c tl T n fp s 2000000000000 e nu na rp M R O A)) (cl_q := 0) (sl_q := 0) rfl ?_
          refine fw_gf rfl rfl (rz_g 0 hpre rfl) rfl ?_
          refine ik_Wk 1 (pc_q := 101) (loc_q := [some (.ref 66), some (fI ch)]) (st_q := [fI 1, fI e, .ref 66]) (h_q := (pre ++ rz_t w wt c tl T n fp s 2000000000000 e nu na rp M R O A)) (cl_q := 0) (sl_q := 0) rfl ?_
          refine fw_add rfl ?_
          refine fw_pf (h_q := (pre ++ rz_t w wt c tl T n fp s 2000000000000 (e + 1) nu na rp M R O A)) rfl rfl (rz_g 0 hpre rfl) (Nat.le_of_ble_eq_true rfl) rfl rfl (rz_s 0 hpre rfl) ?_
          refine ik_Wk 1 (pc_q := 18) (loc_q := [some (.ref 66), some (fI ch)]) (st_q := []) (h_q := (pre ++ rz_t w wt c tl T n fp s 2000000000000 (e + 1) nu na rp M R O A)) (cl_q := 0) (sl_q := 0) rfl ?_
          have e1 : (e + 1 - s).toNat = (e - s).toNat + 1 := by omega
          have e2 : s + (((e - s).toNat : Nat) : Int) = e := by omega
          have e3 : zsd y s (e + 1 - s).toNat = 2000000000000 := by rw [e1, zsd]; rw [e2]; split <;> omega
          rw [← e3]
          exact ih _ (by omega) (e + 1) rfl (by omega) (by omega) (by rw [he, zE_step (y := y) (n := n) (i := e) (by omega) (by omega)])
      · refine ik_Wk 0 (pc_q := 48) (loc_q := [some (.ref 66), some (fI ch)]) (st_q := [fI 0]) (h_q := (pre ++ rz_t w wt c tl T n fp s (zsd y s (e - s).toNat) e nu na rp M R O A)) (cl_q := 0) (sl_q := 0) rfl ?_
        refine fw_if_eq rfl rfl (by omega) (by omega) (fun hc10 => ?_) (fun hc10 => absurd hc10 (by omega))
        have hz : zE y n s = e := he.trans (zE_stop (y := y) (n := n) (i := e) (by omega))
        exact ik_Wret rfl rfl ⟨_, _, rfl, rfl, rfl, rfl, ⟨rfl, by rw [hz]⟩⟩

theorem rz_word {pre tl : List ik_E} {w : Nat → Value} {wt : List Value} {c : Nat → ik_E} {y : Int → Int} {T : List Int} {n fp sd we nu na rp : Int} {M R O A : List Int} (ok : rz_ok y T n pre tl) {a0 : Int} (h0 : 0 ≤ a0) (h1 : a0 ≤ n) : ik_F 138 [.ref 66] (pre ++ rz_t w wt c tl T n fp a0 sd we nu na rp M R O A) (fun rv h_q => rv = [] ∧ h_q = (pre ++ rz_t w wt c tl T n fp (zS y n a0) (zsd y (zS y n a0) (zE y n (zS y n a0) - zS y n a0).toNat) (zE y n (zS y n a0)) nu na rp M R O A)) := by
  have ok' := ok
  obtain ⟨hpre, htl, hT, bT, hn, hn2, hy⟩ := ok'
  refine ik_Wk 1 (pc_q := 1) (loc_q := [some (.ref 66), none]) (st_q := [.ref 66]) (h_q := (pre ++ rz_t w wt c tl T n fp a0 sd we nu na rp M R O A)) (cl_q := 0) (sl_q := 0) rfl ?_
  refine fw_call 136 1 0 [.ref 66] [] rfl rfl rfl (Nat.le_of_ble_eq_true rfl) rfl rfl (fw_rec (rz_len hpre htl) rfl (rz_g 0 hpre rfl) rfl (by decide)) (rz_here ok (by omega) (by omega)) ?_
  rintro rv h_q ⟨⟨ht1, rfl⟩ | ⟨ht1, rfl⟩, rfl⟩
  · have hz3 := zS_ge (y := y) (n := n) a0
    have hz4 := zS_le (y := y) (n := n) (i := a0) (by omega)
    have hb5 := bT (zS y n a0) (by omega) (by omega)
    have hb6 := hy (zS y n a0) (by omega) (by omega)
    refine ik_Wk 0 (pc_q := 4) (loc_q := [some (.ref 66), none]) (st_q := [fI (y (zS y n a0))]) (h_q := (pre ++ rz_t w wt c tl T n fp (zS y n a0) sd we nu na rp M R O A)) (cl_q := 0) (sl_q := 0) rfl ?_
    refine ik_Wk 2 (pc_q := 6) (loc_q := [some (.ref 66), some (fI (y (zS y n a0)))]) (st_q := [.ref 66]) (h_q := (pre ++ rz_t w wt c tl T n fp (zS y n a0) sd we nu na rp M R O A)) (cl_q := 0) (sl_q := 0) rfl ?_
    refine fw_lc (z := 0) rfl (by decide) ?_
    refine fw_pf (h_q := (pre ++ rz_t w wt c tl T n fp (zS y n a0) 0 we nu na rp M R O A)) rfl rfl (rz_g 0 hpre rfl) (Nat.le_of_ble_eq_true rfl) rfl rfl (rz_s 0 hpre rfl) ?_
    refine ik_Wk 2 (pc_q := 12) (loc_q := [some (.ref 66), some (fI (y (zS y n a0)))]) (st_q := [.ref 66, .ref 66]) (h_q := (pre ++ rz_t w wt c tl T n fp (zS y n a0) 0 we nu na rp M R O A)) (cl_q := 0) (sl_q := 0) rfl ?_
    refine fw_gf rfl rfl (rz_g 0 hpre rfl) rfl ?_
    refine fw_pf (h_q := (pre ++ rz_t w wt c tl T n fp (zS y n a0) 0 (zS y n a0) nu na rp M R O A)) rfl rfl (rz_g 0 hpre rfl) (Nat.le_of_ble_eq_true rfl) rfl rfl (rz_s 0 hpre rfl) ?_
    refine ik_Wk 0 (pc_q := 18) (loc_q := [some (.ref 66), some (fI (y (zS y n a0)))]) (st_q := []) (h_q := (pre ++ rz_t w wt c tl T n fp (zS y n a0) (zsd y (zS y n a0) (zS y n a0 - zS y n a0).toNat) (zS y n a0) nu na rp M R O A)) (cl_q := 0) (sl_q := 0) ?_ ?_
    · rw [show (zS y n a0 - zS y n a0).toNat = 0 by omega]; rfl
    · exact rz_wordL ok (by omega) _ (zS y n a0) rfl (by omega) (by omega) rfl
  · have hz7 := zS_ge (y := y) (n := n) a0
    have hz8 := zS_le (y := y) (n := n) (i := a0) (by omega)
    refine ik_Wk 0 (pc_q := 4) (loc_q := [some (.ref 66), none]) (st_q := [fI (-1)]) (h_q := (pre ++ rz_t w wt c tl T n fp (zS y n a0) sd we nu na rp M R O A)) (cl_q := 0) (sl_q := 0) rfl ?_
    refine ik_Wk 2 (pc_q := 6) (loc_q := [some (.ref 66), some (fI (-1))]) (st_q := [.ref 66]) (h_q := (pre ++ rz_t w wt c tl T n fp (zS y n a0) sd we nu na rp M R O A)) (cl_q := 0) (sl_q := 0) rfl ?_
    refine fw_lc (z := 0) rfl (by decide) ?_
    refine fw_pf (h_q := (pre ++ rz_t w wt c tl T n fp (zS y n a0) 0 we nu na rp M R O A)) rfl rfl (rz_g 0 hpre rfl) (Nat.le_of_ble_eq_true rfl) rfl rfl (rz_s 0 hpre rfl) ?_
    refine ik_Wk 2 (pc_q := 12) (loc_q := [some (.ref 66), some (fI (-1))]) (st_q := [.ref 66, .ref 66]) (h_q := (pre ++ rz_t w wt c tl T n fp (zS y n a0) 0 we nu na rp M R O A)) (cl_q := 0) (sl_q := 0) rfl ?_
    refine fw_gf rfl rfl (rz_g 0 hpre rfl) rfl ?_
    refine fw_pf (h_q := (pre ++ rz_t w wt c tl T n fp (zS y n a0) 0 (zS y n a0) nu na rp M R O A)) rfl rfl (rz_g 0 hpre rfl) (Nat.le_of_ble_eq_true rfl) rfl rfl (rz_s 0 hpre rfl) ?_
    refine ik_Wk 0 (pc_q := 18) (loc_q := [some (.ref 66), some (fI (-1))]) (st_q := []) (h_q := (pre ++ rz_t w wt c tl T n fp (zS y n a0) (zsd y (zS y n a0) (zS y n a0 - zS y n a0).toNat) (zS y n a0) nu na rp M R O A)) (cl_q := 0) (sl_q := 0) ?_ ?_
    · rw [show (zS y n a0 - zS y n a0).toNat = 0 by omega]; rfl
    · exact rz_wordL ok (by omega) _ (zS y n a0) rfl (by omega) (by omega) rfl

theorem rz_pass_pl {pre tl : List ik_E} {w : Nat → Value} {wt : List Value} {c : Nat → ik_E} {y : Int → Int} {T : List Int} {n fp sd we nu na rp : Int} {M R O A : List Int} (ok : rz_ok y T n pre tl) {a0 wd : Int} (hwd : wd = 8740067) (h0 : 0 ≤ a0) (h1 : a0 ≤ n) : ik_F 142 [.ref 66, fJ wd] (pre ++ rz_t w wt c tl T n fp a0 sd we nu na rp M R O A) (fun rv h_q => (zpl y n (zS y n a0) = true ∧ rv = [fI 1] ∧ ∃ sd' we', 0 ≤ we' ∧ we' ≤ n ∧ h_q = (pre ++ rz_t w wt c tl T n fp (zS y n a0 + 5) sd' we' nu na rp M R O A)) ∨ (zpl y n (zS y n a0) = false ∧ rv = [fI 0] ∧ ∃ sd' we', 0 ≤ we' ∧ we' ≤ n ∧ h_q = (pre ++ rz_t w wt c tl T n fp (zS y n a0) sd' we' nu na rp M R O A))) := by
  have ok' := ok
  obtain ⟨hpre, htl, hT, bT, hn, hn2, hy⟩ := ok'
  refine ik_Wk 1 (pc_q := 1) (loc_q := [some (.ref 66), some (fJ wd), none, none]) (st_q := [.ref 66]) (h_q := (pre ++ rz_t w wt c tl T n fp a0 sd we nu na rp M R O A)) (cl_q := 0) (sl_q := 0) rfl ?_
  refine fw_call 138 1 0 [.ref 66] [] rfl rfl rfl (Nat.le_of_ble_eq_true rfl) rfl rfl (fw_rec (rz_len hpre htl) rfl (rz_g 0 hpre rfl) rfl (by decide)) (rz_word ok (by omega) (by omega)) ?_
  rintro rv h_q ⟨rfl, rfl⟩
  have hz1 := zS_ge (y := y) (n := n) a0
  have hz2 := zS_le (y := y) (n := n) (i := a0) (by omega)
  have hz3 := zE_ge (y := y) (n := n) (zS y n a0)
  have hz4 := zE_le (y := y) (n := n) (i := zS y n a0) (by omega)
  have hz5 := zsd_b (y := y) (s := zS y n a0) (zE y n (zS y n a0) - zS y n a0).toNat (fun j a b => zE_mid (y := y) (n := n) (i := zS y n a0) a (by omega))
  refine ik_Wk 0 (pc_q := 4) (loc_q := [some (.ref 66), some (fJ wd), none, none]) (st_q := []) (h_q := (pre ++ rz_t w wt c tl T n fp (zS y n a0) (zsd y (zS y n a0) (zE y n (zS y n a0) - zS y n a0).toNat) (zE y n (zS y n a0)) nu na rp M R O A)) (cl_q := 0) (sl_q := 0) rfl ?_
  refine ik_Wk 1 (pc_q := 5) (loc_q := [some (.ref 66), some (fJ wd), none, none]) (st_q := [.ref 66]) (h_q := (pre ++ rz_t w wt c tl T n fp (zS y n a0) (zsd y (zS y n a0) (zE y n (zS y n a0) - zS y n a0).toNat) (zE y n (zS y n a0)) nu na rp M R O A)) (cl_q := 0) (sl_q := 0) rfl ?_
  refine fw_gf rfl rfl (rz_g 0 hpre rfl) rfl ?_
  refine ik_Wk 1 (pc_q := 9) (loc_q := [some (.ref 66), some (fJ wd), none, none]) (st_q := [fJ wd, fJ (zsd y (zS y n a0) (zE y n (zS y n a0) - zS y n a0).toNat)]) (h_q := (pre ++ rz_t w wt c tl T n fp (zS y n a0) (zsd y (zS y n a0) (zE y n (zS y n a0) - zS y n a0).toNat) (zE y n (zS y n a0)) nu na rp M R O A)) (cl_q := 0) (sl_q := 0) rfl ?_
  refine fw_lcmp_ne rfl rfl rfl (by omega) (by omega) (by omega) (by omega) (fun hc6 => ?_) (fun hc6 => ?_)
  · refine ik_Wk 5 (pc_q := 21) (loc_q := [some (.ref 66), some (fJ wd), none, some (fI 1)]) (st_q := [fI 1, .ref 66]) (h_q := (pre ++ rz_t w wt c tl T n fp (zS y n a0) (zsd y (zS y n a0) (zE y n (zS y n a0) - zS y n a0).toNat) (zE y n (zS y n a0)) nu na rp M R O A)) (cl_q := 0) (sl_q := 0) rfl ?_
    refine fw_if_eq rfl rfl (by omega) (by omega) (fun hc7 => absurd hc7 (by omega)) (fun hc7 => ?_)
    refine ik_Wk 1 (pc_q := 25) (loc_q := [some (.ref 66), some (fJ wd), none, some (fI 1)]) (st_q := [.ref 66, .ref 66]) (h_q := (pre ++ rz_t w wt c tl T n fp (zS y n a0) (zsd y (zS y n a0) (zE y n (zS y n a0) - zS y n a0).toNat) (zE y n (zS y n a0)) nu na rp M R O A)) (cl_q := 0) (sl_q := 0) rfl ?_
    refine fw_gf rfl rfl (rz_g 0 hpre rfl) rfl ?_
    refine ik_Wk 1 (pc_q := 35) (loc_q := [some (.ref 66), some (fJ wd), none, some (fI 1)]) (st_q := [fI (zE y n (zS y n a0)), .ref 66]) (h_q := (pre ++ rz_t w wt c tl T n fp (zS y n a0) (zsd y (zS y n a0) (zE y n (zS y n a0) - zS y n a0).toNat) (zE y n (zS y n a0)) nu na rp M R O A)) (cl_q := 0) (sl_q := 0) rfl ?_
    refine fw_pf (h_q := (pre ++ rz_t w wt c tl T n fp (zE y n (zS y n a0)) (zsd y (zS y n a0) (zE y n (zS y n a0) - zS y n a0).toNat) (zE y n (zS y n a0)) nu na rp M R O A)) rfl rfl (rz_g 0 hpre rfl) (Nat.le_of_ble_eq_true rfl) rfl rfl (rz_s 0 hpre rfl) ?_
    refine ik_Wk 1 (pc_q := 39) (loc_q := [some (.ref 66), some (fJ wd), none, some (fI 1)]) (st_q := [fI 1]) (h_q := (pre ++ rz_t w wt c tl T n fp (zE y n (zS y n a0)) (zsd y (zS y n a0) (zE y n (zS y n a0) - zS y n a0).toNat) (zE y n (zS y n a0)) nu na rp M R O A)) (cl_q := 0) (sl_q := 0) rfl ?_
    have hq : zpl y n (zS y n a0) = true := zis_pl.mp (by omega)
    have hq2 := hq
    unfold zpl at hq2
    have hq3 := of_decide_eq_true hq2
    exact ik_Wret rfl rfl ⟨_, _, rfl, rfl, rfl, rfl, (Or.inl ⟨hq, rfl, zsd y (zS y n a0) (zE y n (zS y n a0) - zS y n a0).toNat, zE y n (zS y n a0), by omega, by omega, by rw [hq3.1]⟩)⟩
  · refine ik_Wk 4 (pc_q := 21) (loc_q := [some (.ref 66), some (fJ wd), none, some (fI 0)]) (st_q := [fI 0, .ref 66]) (h_q := (pre ++ rz_t w wt c tl T n fp (zS y n a0) (zsd y (zS y n a0) (zE y n (zS y n a0) - zS y n a0).toNat) (zE y n (zS y n a0)) nu na rp M R O A)) (cl_q := 0) (sl_q := 0) rfl ?_
    refine fw_if_eq rfl rfl (by omega) (by omega) (fun hc8 => ?_) (fun hc8 => absurd hc8 (by omega))
    refine ik_Wk 1 (pc_q := 32) (loc_q := [some (.ref 66), some (fJ wd), none, some (fI 0)]) (st_q := [.ref 66, .ref 66]) (h_q := (pre ++ rz_t w wt c tl T n fp (zS y n a0) (zsd y (zS y n a0) (zE y n (zS y n a0) - zS y n a0).toNat) (zE y n (zS y n a0)) nu na rp M R O A)) (cl_q := 0) (sl_q := 0) rfl ?_
    refine fw_gf rfl rfl (rz_g 0 hpre rfl) rfl ?_
    refine fw_pf (h_q := (pre ++ rz_t w wt c tl T n fp (zS y n a0) (zsd y (zS y n a0) (zE y n (zS y n a0) - zS y n a0).toNat) (zE y n (zS y n a0)) nu na rp M R O A)) rfl rfl (rz_g 0 hpre rfl) (Nat.le_of_ble_eq_true rfl) rfl rfl (rz_s 0 hpre rfl) ?_
    refine ik_Wk 1 (pc_q := 39) (loc_q := [some (.ref 66), some (fJ wd), none, some (fI 0)]) (st_q := [fI 0]) (h_q := (pre ++ rz_t w wt c tl T n fp (zS y n a0) (zsd y (zS y n a0) (zE y n (zS y n a0) - zS y n a0).toNat) (zE y n (zS y n a0)) nu na rp M R O A)) (cl_q := 0) (sl_q := 0) rfl ?_
    have hq : ¬ zpl y n (zS y n a0) = true := fun q => by have := zis_pl.mpr q; omega
    exact ik_Wret rfl rfl ⟨_, _, rfl, rfl, rfl, rfl, (Or.inr ⟨by cases hx : zpl y n (zS y n a0) with | false => rfl | true => exact absurd hx hq, rfl, zsd y (zS y n a0) (zE y n (zS y n a0) - zS y n a0).toNat, zE y n (zS y n a0), by omega, by omega, rfl⟩)⟩

theorem rz_pass_br {pre tl : List ik_E} {w : Nat → Value} {wt : List Value} {c : Nat → ik_E} {y : Int → Int} {T : List Int} {n fp sd we nu na rp : Int} {M R O A : List Int} (ok : rz_ok y T n pre tl) {a0 wd : Int} (hwd : wd = 38444009) (h0 : 0 ≤ a0) (h1 : a0 ≤ n) : ik_F 142 [.ref 66, fJ wd] (pre ++ rz_t w wt c tl T n fp a0 sd we nu na rp M R O A) (fun rv h_q => (zbr y n (zS y n a0) = true ∧ rv = [fI 1] ∧ ∃ sd' we', 0 ≤ we' ∧ we' ≤ n ∧ h_q = (pre ++ rz_t w wt c tl T n fp (zS y n a0 + 6) sd' we' nu na rp M R O A)) ∨ (zbr y n (zS y n a0) = false ∧ rv = [fI 0] ∧ ∃ sd' we', 0 ≤ we' ∧ we' ≤ n ∧ h_q = (pre ++ rz_t w wt c tl T n fp (zS y n a0) sd' we' nu na rp M R O A))) := by
  have ok' := ok
  obtain ⟨hpre, htl, hT, bT, hn, hn2, hy⟩ := ok'
  refine ik_Wk 1 (pc_q := 1) (loc_q := [some (.ref 66), some (fJ wd), none, none]) (st_q := [.ref 66]) (h_q := (pre ++ rz_t w wt c tl T n fp a0 sd we nu na rp M R O A)) (cl_q := 0) (sl_q := 0) rfl ?_
  refine fw_call 138 1 0 [.ref 66] [] rfl rfl rfl (Nat.le_of_ble_eq_true rfl) rfl rfl (fw_rec (rz_len hpre htl) rfl (rz_g 0 hpre rfl) rfl (by decide)) (rz_word ok (by omega) (by omega)) ?_
  rintro rv h_q ⟨rfl, rfl⟩
  have hz1 := zS_ge (y := y) (n := n) a0
  have hz2 := zS_le (y := y) (n := n) (i := a0) (by omega)
  have hz3 := zE_ge (y := y) (n := n) (zS y n a0)
  have hz4 := zE_le (y := y) (n := n) (i := zS y n a0) (by omega)
  have hz5 := zsd_b (y := y) (s := zS y n a0) (zE y n (zS y n a0) - zS y n a0).toNat (fun j a b => zE_mid (y := y) (n := n) (i := zS y n a0) a (by omega))
  refine ik_Wk 0 (pc_q := 4) (loc_q := [some (.ref 66), some (fJ wd), none, none]) (st_q := []) (h_q := (pre ++ rz_t w wt c tl T n fp (zS y n a0) (zsd y (zS y n a0) (zE y n (zS y n a0) - zS y n a0).toNat) (zE y n (zS y n a0)) nu na rp M R O A)) (cl_q := 0) (sl_q := 0) rfl ?_
  refine ik_Wk 1 (pc_q := 5) (loc_q := [some (.ref 66), some (fJ wd), none, none]) (st_q := [.ref 66]) (h_q := (pre ++ rz_t w wt c tl T n fp (zS y n a0) (zsd y (zS y n a0) (zE y n (zS y n a0) - zS y n a0).toNat) (zE y n (zS y n a0)) nu na rp M R O A)) (cl_q := 0) (sl_q := 0) rfl ?_
  refine fw_gf rfl rfl (rz_g 0 hpre rfl) rfl ?_
  refine ik_Wk 1 (pc_q := 9) (loc_q := [some (.ref 66), some (fJ wd), none, none]) (st_q := [fJ wd, fJ (zsd y (zS y n a0) (zE y n (zS y n a0) - zS y n a0).toNat)]) (h_q := (pre ++ rz_t w wt c tl T n fp (zS y n a0) (zsd y (zS y n a0) (zE y n (zS y n a0) - zS y n a0).toNat) (zE y n (zS y n a0)) nu na rp M R O A)) (cl_q := 0) (sl_q := 0) rfl ?_
  refine fw_lcmp_ne rfl rfl rfl (by omega) (by omega) (by omega) (by omega) (fun hc6 => ?_) (fun hc6 => ?_)
  · refine ik_Wk 5 (pc_q := 21) (loc_q := [some (.ref 66), some (fJ wd), none, some (fI 1)]) (st_q := [fI 1, .ref 66]) (h_q := (pre ++ rz_t w wt c tl T n fp (zS y n a0) (zsd y (zS y n a0) (zE y n (zS y n a0) - zS y n a0).toNat) (zE y n (zS y n a0)) nu na rp M R O A)) (cl_q := 0) (sl_q := 0) rfl ?_
    refine fw_if_eq rfl rfl (by omega) (by omega) (fun hc7 => absurd hc7 (by omega)) (fun hc7 => ?_)
    refine ik_Wk 1 (pc_q := 25) (loc_q := [some (.ref 66), some (fJ wd), none, some (fI 1)]) (st_q := [.ref 66, .ref 66]) (h_q := (pre ++ rz_t w wt c tl T n fp (zS y n a0) (zsd y (zS y n a0) (zE y n (zS y n a0) - zS y n a0).toNat) (zE y n (zS y n a0)) nu na rp M R O A)) (cl_q := 0) (sl_q := 0) rfl ?_
    refine fw_gf rfl rfl (rz_g 0 hpre rfl) rfl ?_
    refine ik_Wk 1 (pc_q := 35) (loc_q := [some (.ref 66), some (fJ wd), none, some (fI 1)]) (st_q := [fI (zE y n (zS y n a0)), .ref 66]) (h_q := (pre ++ rz_t w wt c tl T n fp (zS y n a0) (zsd y (zS y n a0) (zE y n (zS y n a0) - zS y n a0).toNat) (zE y n (zS y n a0)) nu na rp M R O A)) (cl_q := 0) (sl_q := 0) rfl ?_
    refine fw_pf (h_q := (pre ++ rz_t w wt c tl T n fp (zE y n (zS y n a0)) (zsd y (zS y n a0) (zE y n (zS y n a0) - zS y n a0).toNat) (zE y n (zS y n a0)) nu na rp M R O A)) rfl rfl (rz_g 0 hpre rfl) (Nat.le_of_ble_eq_true rfl) rfl rfl (rz_s 0 hpre rfl) ?_
    refine ik_Wk 1 (pc_q := 39) (loc_q := [some (.ref 66), some (fJ wd), none, some (fI 1)]) (st_q := [fI 1]) (h_q := (pre ++ rz_t w wt c tl T n fp (zE y n (zS y n a0)) (zsd y (zS y n a0) (zE y n (zS y n a0) - zS y n a0).toNat) (zE y n (zS y n a0)) nu na rp M R O A)) (cl_q := 0) (sl_q := 0) rfl ?_
    have hq : zbr y n (zS y n a0) = true := zis_br.mp (by omega)
    have hq2 := hq
    unfold zbr at hq2
    have hq3 := of_decide_eq_true hq2
    exact ik_Wret rfl rfl ⟨_, _, rfl, rfl, rfl, rfl, (Or.inl ⟨hq, rfl, zsd y (zS y n a0) (zE y n (zS y n a0) - zS y n a0).toNat, zE y n (zS y n a0), by omega, by omega, by rw [hq3.1]⟩)⟩
  · refine ik_Wk 4 (pc_q := 21) (loc_q := [some (.ref 66), some (fJ wd), none, some (fI 0)]) (st_q := [fI 0, .ref 66]) (h_q := (pre ++ rz_t w wt c tl T n fp (zS y n a0) (zsd y (zS y n a0) (zE y n (zS y n a0) - zS y n a0).toNat) (zE y n (zS y n a0)) nu na rp M R O A)) (cl_q := 0) (sl_q := 0) rfl ?_
    refine fw_if_eq rfl rfl (by omega) (by omega) (fun hc8 => ?_) (fun hc8 => absurd hc8 (by omega))
    refine ik_Wk 1 (pc_q := 32) (loc_q := [some (.ref 66), some (fJ wd), none, some (fI 0)]) (st_q := [.ref 66, .ref 66]) (h_q := (pre ++ rz_t w wt c tl T n fp (zS y n a0) (zsd y (zS y n a0) (zE y n (zS y n a0) - zS y n a0).toNat) (zE y n (zS y n a0)) nu na rp M R O A)) (cl_q := 0) (sl_q := 0) rfl ?_
    refine fw_gf rfl rfl (rz_g 0 hpre rfl) rfl ?_
    refine fw_pf (h_q := (pre ++ rz_t w wt c tl T n fp (zS y n a0) (zsd y (zS y n a0) (zE y n (zS y n a0) - zS y n a0).toNat) (zE y n (zS y n a0)) nu na rp M R O A)) rfl rfl (rz_g 0 hpre rfl) (Nat.le_of_ble_eq_true rfl) rfl rfl (rz_s 0 hpre rfl) ?_
    refine ik_Wk 1 (pc_q := 39) (loc_q := [some (.ref 66), some (fJ wd), none, some (fI 0)]) (st_q := [fI 0]) (h_q := (pre ++ rz_t w wt c tl T n fp (zS y n a0) (zsd y (zS y n a0) (zE y n (zS y n a0) - zS y n a0).toNat) (zE y n (zS y n a0)) nu na rp M R O A)) (cl_q := 0) (sl_q := 0) rfl ?_
    have hq : ¬ zbr y n (zS y n a0) = true := fun q => by have := zis_br.mpr q; omega
    exact ik_Wret rfl rfl ⟨_, _, rfl, rfl, rfl, rfl, (Or.inr ⟨by cases hx : zbr y n (zS y n a0) with | false => rfl | true => exact absurd hx hq, rfl, zsd y (zS y n a0) (zE y n (zS y n a0) - zS y n a0).toNat, zE y n (zS y n a0), by omega, by omega, rfl⟩)⟩

/-! 38o.rz -/
theorem rz_numE {pre tl : List ik_E} {w : Nat → Value} {wt : List Value} {c : Nat → ik_E} {y : Int → Int} {T : List Int} {n fp sd we rp : Int} {M R O A : List Int} (ok : rz_ok y T n pre tl) {s lo hi ch cur v : Int} (h0 : 0 ≤ s) (hlo : 0 ≤ lo) (hhi : hi ≤ 999) (hlh : lo ≤ hi) (h1 : s < cur) (h2 : cur ≤ n) (he : zD y n s = cur) (hv0 : 0 ≤ v) (hv1 : v ≤ 100009) (hinv : (cur = s → v = 0) ∧ (cur = s + 1 → v = y s - 48) ∧ (cur = s + 2 → v = 10 * (y s - 48) + (y (s + 1) - 48)) ∧ (cur = s + 3 → v = 100 * (y s - 48) + 10 * (y (s + 1) - 48) + (y (s + 2) - 48))) : ik_G 141 129 [some (.ref 66), some (fI lo), some (fI hi), some (fI ch)] [] (pre ++ rz_t w wt c tl T n fp cur sd we v s rp M R O A) (fun rv h_q => (znum y n lo hi s = 0 ∧ rv = [fI 0] ∧ h_q = (pre ++ rz_t w wt c tl T n fp (zD y n s) sd we (zv y n s) s rp M R O A)) ∨ (¬ znum y n lo hi s = 0 ∧ rv = [fI (znum y n lo hi s)] ∧ ∃ a' nu' na', 0 ≤ a' ∧ a' ≤ n ∧ h_q = (pre ++ rz_t w wt c tl T n s a' sd we nu' na' rp M R O A))) := by
  have ok' := ok
  obtain ⟨hpre, htl, hT, bT, hn, hn2, hy⟩ := ok'
  have iq := ik_hid_i hinv
  clear hinv
  refine ik_Wk 1 (pc_q := 130) (loc_q := [some (.ref 66), some (fI lo), some (fI hi), some (fI ch)]) (st_q := [.ref 66]) (h_q := (pre ++ rz_t w wt c tl T n fp cur sd we v s rp M R O A)) (cl_q := 0) (sl_q := 0) rfl ?_
  refine fw_gf rfl rfl (rz_g 0 hpre rfl) rfl ?_
  refine ik_Wk 1 (pc_q := 134) (loc_q := [some (.ref 66), some (fI lo), some (fI hi), some (fI ch)]) (st_q := [.ref 66, fI cur]) (h_q := (pre ++ rz_t w wt c tl T n fp cur sd we v s rp M R O A)) (cl_q := 0) (sl_q := 0) rfl ?_
  refine fw_gf rfl rfl (rz_g 0 hpre rfl) rfl ?_
  refine fw_sub rfl ?_
  refine ik_Wk 1 (pc_q := 139) (loc_q := [some (.ref 66), some (fI lo), some (fI hi), some (fI ch)]) (st_q := [fI 3, fI (cur - s)]) (h_q := (pre ++ rz_t w wt c tl T n fp cur sd we v s rp M R O A)) (cl_q := 0) (sl_q := 0) rfl ?_
  refine fw_ic_gt rfl rfl (by omega) (by omega) (by omega) (by omega) (fun hc1 => ?_) (fun hc1 => ?_)
  · refine ik_Wk 3 (pc_q := 160) (loc_q := [some (.ref 66), some (fI lo), some (fI hi), some (fI ch)]) (st_q := [.ref 66, fI 2, .ref 66]) (h_q := (pre ++ rz_t w wt c tl T n fp cur sd we v s rp M R O A)) (cl_q := 0) (sl_q := 0) rfl ?_
    refine fw_gf rfl rfl (rz_g 0 hpre rfl) rfl ?_
    refine fw_call 137 3 0 [.ref 66, fI 2, fI s] [] rfl rfl rfl (Nat.le_of_ble_eq_true rfl) rfl rfl (fw_rec (rz_len hpre htl) rfl (rz_g 0 hpre rfl) rfl (by decide)) (rz_fails ok) ?_
    rintro rv h_q ⟨rfl, rfl⟩
    refine ik_Wk 0 (pc_q := 166) (loc_q := [some (.ref 66), some (fI lo), some (fI hi), some (fI ch)]) (st_q := [fI 2]) (h_q := (pre ++ rz_t w wt c tl T n s cur sd we v s rp M R O A)) (cl_q := 0) (sl_q := 0) rfl ?_
    refine ik_Wk 1 (pc_q := 170) (loc_q := [some (.ref 66), some (fI lo), some (fI hi), some (fI ch)]) (st_q := [fI 2]) (h_q := (pre ++ rz_t w wt c tl T n s cur sd we v s rp M R O A)) (cl_q := 0) (sl_q := 0) rfl ?_
    have hf : znum y n lo hi s = 2 := by
      first
      | exact znum_2 he (by omega) (zval_of iq (by omega) (by omega)) (by omega)
      | exact znum_2 he (by omega) (zval_far (by omega)) (by omega)
    exact ik_Wret rfl rfl ⟨_, _, rfl, rfl, rfl, rfl, (Or.inr ⟨by omega, by rw [hf], cur, v, s, by omega, by omega, rfl⟩)⟩
  · refine ik_Wk 1 (pc_q := 143) (loc_q := [some (.ref 66), some (fI lo), some (fI hi), some (fI ch)]) (st_q := [.ref 66]) (h_q := (pre ++ rz_t w wt c tl T n fp cur sd we v s rp M R O A)) (cl_q := 0) (sl_q := 0) rfl ?_
    refine fw_gf rfl rfl (rz_g 0 hpre rfl) rfl ?_
    refine fw_i2l rfl (by omega) (by omega) ?_
    refine ik_Wk 1 (pc_q := 148) (loc_q := [some (.ref 66), some (fI lo), some (fI hi), some (fI ch)]) (st_q := [fI lo, fJ v]) (h_q := (pre ++ rz_t w wt c tl T n fp cur sd we v s rp M R O A)) (cl_q := 0) (sl_q := 0) rfl ?_
    refine fw_i2l rfl (by omega) (by omega) ?_
    refine ik_Wk 1 (pc_q := 150) (loc_q := [some (.ref 66), some (fI lo), some (fI hi), some (fI ch)]) (st_q := [fI hi, fJ lo, fJ v]) (h_q := (pre ++ rz_t w wt c tl T n fp cur sd we v s rp M R O A)) (cl_q := 0) (sl_q := 0) rfl ?_
    refine fw_i2l rfl (by omega) (by omega) ?_
    refine fw_call 127 3 3 [fJ v, fJ lo, fJ hi] [] rfl rfl rfl (Nat.le_of_ble_eq_true rfl) rfl rfl (fw_sta (rz_len hpre htl) rfl (by decide)) (rz_in (by omega) (by omega) (by omega) (by omega) (by omega) (by omega)) ?_
    rintro rv h_q ⟨⟨hi2, hi3, rfl⟩ | ⟨hi2, rfl⟩, rfl⟩
    · refine ik_Wk 0 (pc_q := 154) (loc_q := [some (.ref 66), some (fI lo), some (fI hi), some (fI ch)]) (st_q := [fI 1]) (h_q := (pre ++ rz_t w wt c tl T n fp cur sd we v s rp M R O A)) (cl_q := 0) (sl_q := 0) rfl ?_
      refine fw_if_ne rfl rfl (by omega) (by omega) (fun hc4 => absurd hc4 (by omega)) (fun hc4 => ?_)
      refine ik_Wk 1 (pc_q := 170) (loc_q := [some (.ref 66), some (fI lo), some (fI hi), some (fI ch)]) (st_q := [fI 0]) (h_q := (pre ++ rz_t w wt c tl T n fp cur sd we v s rp M R O A)) (cl_q := 0) (sl_q := 0) rfl ?_
      have hf : znum y n lo hi s = 0 := znum_0 he (by omega) (zval_of iq (by omega) (by omega)) (by omega) (by omega)
      have hv : zv y n s = v := zv_of he (zval_of iq (by omega) (by omega))
      exact ik_Wret rfl rfl ⟨_, _, rfl, rfl, rfl, rfl, (Or.inl ⟨hf, rfl, by rw [hv, he]⟩)⟩
    · refine ik_Wk 0 (pc_q := 154) (loc_q := [some (.ref 66), some (fI lo), some (fI hi), some (fI ch)]) (st_q := [fI 0]) (h_q := (pre ++ rz_t w wt c tl T n fp cur sd we v s rp M R O A)) (cl_q := 0) (sl_q := 0) rfl ?_
      refine fw_if_ne rfl rfl (by omega) (by omega) (fun hc5 => ?_) (fun hc5 => absurd hc5 (by omega))
      refine ik_Wk 3 (pc_q := 160) (loc_q := [some (.ref 66), some (fI lo), some (fI hi), some (fI ch)]) (st_q := [.ref 66, fI 2, .ref 66]) (h_q := (pre ++ rz_t w wt c tl T n fp cur sd we v s rp M R O A)) (cl_q := 0) (sl_q := 0) rfl ?_
      refine fw_gf rfl rfl (rz_g 0 hpre rfl) rfl ?_
      refine fw_call 137 3 0 [.ref 66, fI 2, fI s] [] rfl rfl rfl (Nat.le_of_ble_eq_true rfl) rfl rfl (fw_rec (rz_len hpre htl) rfl (rz_g 0 hpre rfl) rfl (by decide)) (rz_fails ok) ?_
      rintro rv h_q ⟨rfl, rfl⟩
      refine ik_Wk 0 (pc_q := 166) (loc_q := [some (.ref 66), some (fI lo), some (fI hi), some (fI ch)]) (st_q := [fI 2]) (h_q := (pre ++ rz_t w wt c tl T n s cur sd we v s rp M R O A)) (cl_q := 0) (sl_q := 0) rfl ?_
      refine ik_Wk 1 (pc_q := 170) (loc_q := [some (.ref 66), some (fI lo), some (fI hi), some (fI ch)]) (st_q := [fI 2]) (h_q := (pre ++ rz_t w wt c tl T n s cur sd we v s rp M R O A)) (cl_q := 0) (sl_q := 0) rfl ?_
      have hf : znum y n lo hi s = 2 := by
        first
        | exact znum_2 he (by omega) (zval_of iq (by omega) (by omega)) (by omega)
        | exact znum_2 he (by omega) (zval_far (by omega)) (by omega)
      exact ik_Wret rfl rfl ⟨_, _, rfl, rfl, rfl, rfl, (Or.inr ⟨by omega, by rw [hf], cur, v, s, by omega, by omega, rfl⟩)⟩

theorem rz_numL {pre tl : List ik_E} {w : Nat → Value} {wt : List Value} {c : Nat → ik_E} {y : Int → Int} {T : List Int} {n fp sd we rp : Int} {M R O A : List Int} (ok : rz_ok y T n pre tl) {s lo hi ch : Int} (h0 : 0 ≤ s) (hlo : 0 ≤ lo) (hhi : hi ≤ 999) (hlh : lo ≤ hi) (hd : s < n ∧ 48 ≤ y s ∧ y s ≤ 57) : ∀ (k : Nat) (cur v : Int), (n - cur).toNat = k → s ≤ cur → cur ≤ n → zD y n s = zD y n cur → (0 : Int) ≤ v → v ≤ (100009 : Int) → ((cur = s → v = 0) ∧ (cur = s + 1 → v = y s - 48) ∧ (cur = s + 2 → v = 10 * (y s - 48) + (y (s + 1) - 48)) ∧ (cur = s + 3 → v = 100 * (y s - 48) + 10 * (y (s + 1) - 48) + (y (s + 2) - 48))) → ik_G 141 42 [some (.ref 66), some (fI lo), some (fI hi), some (fI ch)] [] (pre ++ rz_t w wt c tl T n fp cur sd we v s rp M R O A) (fun rv h_q => (znum y n lo hi s = 0 ∧ rv = [fI 0] ∧ h_q = (pre ++ rz_t w wt c tl T n fp (zD y n s) sd we (zv y n s) s rp M R O A)) ∨ (¬ znum y n lo hi s = 0 ∧ rv = [fI (znum y n lo hi s)] ∧ ∃ a' nu' na', 0 ≤ a' ∧ a' ≤ n ∧ h_q = (pre ++ rz_t w wt c tl T n s a' sd we nu' na' rp M R O A))) := by
  have ok' := ok
  obtain ⟨hpre, htl, hT, bT, hn, hn2, hy⟩ := ok'
  intro k
  induction k using Nat.strongRecOn with
  | _ k ih =>
    intro cur v hk h1 h2 he hv0 hv1 hinv
    have iq := ik_hid_i hinv
    clear hinv
    refine ik_Wk 1 (pc_q := 43) (loc_q := [some (.ref 66), some (fI lo), some (fI hi), some (fI ch)]) (st_q := [.ref 66]) (h_q := (pre ++ rz_t w wt c tl T n fp cur sd we v s rp M R O A)) (cl_q := 0) (sl_q := 0) rfl ?_
    refine fw_gf rfl rfl (rz_g 0 hpre rfl) rfl ?_
    refine ik_Wk 1 (pc_q := 47) (loc_q := [some (.ref 66), some (fI lo), some (fI hi), some (fI ch)]) (st_q := [.ref 66, fI cur]) (h_q := (pre ++ rz_t w wt c tl T n fp cur sd we v s rp M R O A)) (cl_q := 0) (sl_q := 0) rfl ?_
    refine fw_gf rfl rfl (rz_g 0 hpre rfl) rfl ?_
    refine fw_ic_ge rfl rfl (by omega) (by omega) (by omega) (by omega) (fun hc1 => ?_) (fun hc1 => ?_)
    · exact rz_numE ok h0 hlo hhi hlh (by have := hd; rcases Int.lt_or_eq_of_le h1 with q | q; exact q; (subst q; omega)) h2 (he.trans (zD_stop (y := y) (n := n) (i := cur) (by omega))) hv0 hv1 iq
    · refine ik_Wk 1 (pc_q := 54) (loc_q := [some (.ref 66), some (fI lo), some (fI hi), some (fI ch)]) (st_q := [.ref 66]) (h_q := (pre ++ rz_t w wt c tl T n fp cur sd we v s rp M R O A)) (cl_q := 0) (sl_q := 0) rfl ?_
      refine fw_gf rfl rfl (rz_g 0 hpre rfl) rfl ?_
      refine ik_Wk 1 (pc_q := 58) (loc_q := [some (.ref 66), some (fI lo), some (fI hi), some (fI ch)]) (st_q := [.ref 66, .ref 72]) (h_q := (pre ++ rz_t w wt c tl T n fp cur sd we v s rp M R O A)) (cl_q := 0) (sl_q := 0) rfl ?_
      refine fw_gf rfl rfl (rz_g 0 hpre rfl) rfl ?_
      refine fw_ial rfl (rz_g 6 hpre rfl) (by omega) (by omega) (by omega) ?_
      have hb2 := bT cur (by omega) (by omega)
      have hb3 := hy cur (by omega) (by omega)
      refine fw_i2l rfl (by omega) (by omega) ?_
      refine fw_l2 48 rfl rfl (by decide) ?_
      refine fw_l2 57 rfl rfl (by decide) ?_
      refine fw_call 127 3 3 [fJ (T.getD cur.toNat 0), fJ 48, fJ 57] [] rfl rfl rfl (Nat.le_of_ble_eq_true rfl) rfl rfl (fw_sta (rz_len hpre htl) rfl (by decide)) (rz_in (by omega) (by omega) (by omega) (by omega) (by omega) (by omega)) ?_
      rintro rv h_q ⟨⟨hi4, hi5, rfl⟩ | ⟨hi4, rfl⟩, rfl⟩
      · refine ik_Wk 0 (pc_q := 72) (loc_q := [some (.ref 66), some (fI lo), some (fI hi), some (fI ch)]) (st_q := [fI 1]) (h_q := (pre ++ rz_t w wt c tl T n fp cur sd we v s rp M R O A)) (cl_q := 0) (sl_q := 0) rfl ?_
        refine fw_if_eq rfl rfl (by omega) (by omega) (fun hc6 => absurd hc6 (by omega)) (fun hc6 => ?_)
        refine ik_Wk 2 (pc_q := 77) (loc_q := [some (.ref 66), some (fI lo), some (fI hi), some (fI ch)]) (st_q := [.ref 66, .ref 66]) (h_q := (pre ++ rz_t w wt c tl T n fp cur sd we v s rp M R O A)) (cl_q := 0) (sl_q := 0) rfl ?_
        refine fw_gf rfl rfl (rz_g 0 hpre rfl) rfl ?_
        refine fw_si rfl (by decide) ?_
        refine fw_ic_le rfl rfl (by omega) (by omega) (by omega) (by omega) (fun hc7 => ?_) (fun hc7 => ?_)
        · refine fw_bi rfl (by decide) ?_
          refine ik_Wk 1 (pc_q := 96) (loc_q := [some (.ref 66), some (fI lo), some (fI hi), some (fI ch)]) (st_q := [.ref 66, fI 10, .ref 66]) (h_q := (pre ++ rz_t w wt c tl T n fp cur sd we v s rp M R O A)) (cl_q := 0) (sl_q := 0) rfl ?_
          refine fw_gf rfl rfl (rz_g 0 hpre rfl) rfl ?_
          refine fw_mul rfl ?_
          refine ik_Wk 1 (pc_q := 101) (loc_q := [some (.ref 66), some (fI lo), some (fI hi), some (fI ch)]) (st_q := [.ref 66, fI (10 * v), .ref 66]) (h_q := (pre ++ rz_t w wt c tl T n fp cur sd we v s rp M R O A)) (cl_q := 0) (sl_q := 0) rfl ?_
          refine fw_gf rfl rfl (rz_g 0 hpre rfl) rfl ?_
          refine ik_Wk 1 (pc_q := 105) (loc_q := [some (.ref 66), some (fI lo), some (fI hi), some (fI ch)]) (st_q := [.ref 66, .ref 72, fI (10 * v), .ref 66]) (h_q := (pre ++ rz_t w wt c tl T n fp cur sd we v s rp M R O A)) (cl_q := 0) (sl_q := 0) rfl ?_
          refine fw_gf rfl rfl (rz_g 0 hpre rfl) rfl ?_
          refine fw_ial rfl (rz_g 6 hpre rfl) (by omega) (by omega) (by omega) ?_
          have hb8 := bT cur (by omega) (by omega)
          have hb9 := hy cur (by omega) (by omega)
          refine fw_add rfl ?_
          refine fw_bi rfl (by decide) ?_
          refine fw_sub rfl ?_
          refine fw_pf (h_q := (pre ++ rz_t w wt c tl T n fp cur sd we (((10 * v) + (T.getD cur.toNat 0)) - 48) s rp M R O A)) rfl rfl (rz_g 0 hpre rfl) (Nat.le_of_ble_eq_true rfl) rfl rfl (rz_s 0 hpre rfl) ?_
          refine ik_Wk 2 (pc_q := 118) (loc_q := [some (.ref 66), some (fI lo), some (fI hi), some (fI ch)]) (st_q := [.ref 66, .ref 66]) (h_q := (pre ++ rz_t w wt c tl T n fp cur sd we (((10 * v) + (T.getD cur.toNat 0)) - 48) s rp M R O A)) (cl_q := 0) (sl_q := 0) rfl ?_
          refine fw_gf rfl rfl (rz_g 0 hpre rfl) rfl ?_
          refine ik_Wk 1 (pc_q := 122) (loc_q := [some (.ref 66), some (fI lo), some (fI hi), some (fI ch)]) (st_q := [fI 1, fI cur, .ref 66]) (h_q := (pre ++ rz_t w wt c tl T n fp cur sd we (((10 * v) + (T.getD cur.toNat 0)) - 48) s rp M R O A)) (cl_q := 0) (sl_q := 0) rfl ?_
          refine fw_add rfl ?_
          refine fw_pf (h_q := (pre ++ rz_t w wt c tl T n fp (cur + 1) sd we (((10 * v) + (T.getD cur.toNat 0)) - 48) s rp M R O A)) rfl rfl (rz_g 0 hpre rfl) (Nat.le_of_ble_eq_true rfl) rfl rfl (rz_s 0 hpre rfl) ?_
          refine ik_Wk 1 (pc_q := 42) (loc_q := [some (.ref 66), some (fI lo), some (fI hi), some (fI ch)]) (st_q := []) (h_q := (pre ++ rz_t w wt c tl T n fp (cur + 1) sd we (((10 * v) + (T.getD cur.toNat 0)) - 48) s rp M R O A)) (cl_q := 0) (sl_q := 0) rfl ?_
          have e1 : zD y n cur = zD y n (cur + 1) := zD_step (by omega) (by omega)
          have e2 := zD_ge (y := y) (n := n) (cur + 1)
          exact ih _ (by omega) (cur + 1) _ rfl (by omega) (by omega) (by rw [he, e1]) (by omega) (by omega) (znum_inv iq h1 (he.trans e1) (fun hq => by omega))
        · refine ik_Wk 1 (pc_q := 87) (loc_q := [some (.ref 66), some (fI lo), some (fI hi), some (fI ch)]) (st_q := [.ref 66, .ref 66]) (h_q := (pre ++ rz_t w wt c tl T n fp cur sd we v s rp M R O A)) (cl_q := 0) (sl_q := 0) rfl ?_
          refine fw_gf rfl rfl (rz_g 0 hpre rfl) rfl ?_
          refine ik_Wk 1 (pc_q := 113) (loc_q := [some (.ref 66), some (fI lo), some (fI hi), some (fI ch)]) (st_q := [fI v, .ref 66]) (h_q := (pre ++ rz_t w wt c tl T n fp cur sd we v s rp M R O A)) (cl_q := 0) (sl_q := 0) rfl ?_
          refine fw_pf (h_q := (pre ++ rz_t w wt c tl T n fp cur sd we v s rp M R O A)) rfl rfl (rz_g 0 hpre rfl) (Nat.le_of_ble_eq_true rfl) rfl rfl (rz_s 0 hpre rfl) ?_
          refine ik_Wk 2 (pc_q := 118) (loc_q := [some (.ref 66), some (fI lo), some (fI hi), some (fI ch)]) (st_q := [.ref 66, .ref 66]) (h_q := (pre ++ rz_t w wt c tl T n fp cur sd we v s rp M R O A)) (cl_q := 0) (sl_q := 0) rfl ?_
          refine fw_gf rfl rfl (rz_g 0 hpre rfl) rfl ?_
          refine ik_Wk 1 (pc_q := 122) (loc_q := [some (.ref 66), some (fI lo), some (fI hi), some (fI ch)]) (st_q := [fI 1, fI cur, .ref 66]) (h_q := (pre ++ rz_t w wt c tl T n fp cur sd we v s rp M R O A)) (cl_q := 0) (sl_q := 0) rfl ?_
          refine fw_add rfl ?_
          refine fw_pf (h_q := (pre ++ rz_t w wt c tl T n fp (cur + 1) sd we v s rp M R O A)) rfl rfl (rz_g 0 hpre rfl) (Nat.le_of_ble_eq_true rfl) rfl rfl (rz_s 0 hpre rfl) ?_
          refine ik_Wk 1 (pc_q := 42) (loc_q := [some (.ref 66), some (fI lo), some (fI hi), some (fI ch)]) (st_q := []) (h_q := (pre ++ rz_t w wt c tl T n fp (cur + 1) sd we v s rp M R O A)) (cl_q := 0) (sl_q := 0) rfl ?_
          have e1 : zD y n cur = zD y n (cur + 1) := zD_step (by omega) (by omega)
          have e2 := zD_ge (y := y) (n := n) (cur + 1)
          exact ih _ (by omega) (cur + 1) _ rfl (by omega) (by omega) (by rw [he, e1]) (by omega) (by omega) (znum_inv iq h1 (he.trans e1) (fun hq => by omega))
      · refine ik_Wk 0 (pc_q := 72) (loc_q := [some (.ref 66), some (fI lo), some (fI hi), some (fI ch)]) (st_q := [fI 0]) (h_q := (pre ++ rz_t w wt c tl T n fp cur sd we v s rp M R O A)) (cl_q := 0) (sl_q := 0) rfl ?_
        refine fw_if_eq rfl rfl (by omega) (by omega) (fun hc10 => ?_) (fun hc10 => absurd hc10 (by omega))
        exact rz_numE ok h0 hlo hhi hlh (by have := hd; rcases Int.lt_or_eq_of_le h1 with q | q; exact q; (subst q; omega)) h2 (he.trans (zD_stop (y := y) (n := n) (i := cur) (by omega))) hv0 hv1 iq

theorem rz_num {pre tl : List ik_E} {w : Nat → Value} {wt : List Value} {c : Nat → ik_E} {y : Int → Int} {T : List Int} {n fp sd we nu na rp : Int} {M R O A : List Int} (ok : rz_ok y T n pre tl) {a0 lo hi : Int} (h0 : 0 ≤ a0) (h1 : a0 ≤ n) (hlo : 0 ≤ lo) (hhi : hi ≤ 999) (hlh : lo ≤ hi) : ik_F 141 [.ref 66, fI lo, fI hi] (pre ++ rz_t w wt c tl T n fp a0 sd we nu na rp M R O A) (fun rv h_q => (znum y n lo hi (zS y n a0) = 0 ∧ rv = [fI 0] ∧ h_q = (pre ++ rz_t w wt c tl T n fp (zD y n (zS y n a0)) sd we (zv y n (zS y n a0)) (zS y n a0) rp M R O A)) ∨ (¬ znum y n lo hi (zS y n a0) = 0 ∧ rv = [fI (znum y n lo hi (zS y n a0))] ∧ ∃ a' nu' na', 0 ≤ a' ∧ a' ≤ n ∧ h_q = (pre ++ rz_t w wt c tl T n (zS y n a0) a' sd we nu' na' rp M R O A))) := by
  have ok' := ok
  obtain ⟨hpre, htl, hT, bT, hn, hn2, hy⟩ := ok'
  refine ik_Wk 1 (pc_q := 1) (loc_q := [some (.ref 66), some (fI lo), some (fI hi), none]) (st_q := [.ref 66]) (h_q := (pre ++ rz_t w wt c tl T n fp a0 sd we nu na rp M R O A)) (cl_q := 0) (sl_q := 0) rfl ?_
  refine fw_call 136 1 0 [.ref 66] [] rfl rfl rfl (Nat.le_of_ble_eq_true rfl) rfl rfl (fw_rec (rz_len hpre htl) rfl (rz_g 0 hpre rfl) rfl (by decide)) (rz_here ok (by omega) (by omega)) ?_
  rintro rv h_q ⟨⟨ht1, rfl⟩ | ⟨ht1, rfl⟩, rfl⟩
  · have hz3 := zS_ge (y := y) (n := n) a0
    have hz4 := zS_le (y := y) (n := n) (i := a0) (by omega)
    have hb5 := bT (zS y n a0) (by omega) (by omega)
    have hb6 := hy (zS y n a0) (by omega) (by omega)
    refine ik_Wk 0 (pc_q := 4) (loc_q := [some (.ref 66), some (fI lo), some (fI hi), none]) (st_q := [fI (y (zS y n a0))]) (h_q := (pre ++ rz_t w wt c tl T n fp (zS y n a0) sd we nu na rp M R O A)) (cl_q := 0) (sl_q := 0) rfl ?_
    refine ik_Wk 2 (pc_q := 6) (loc_q := [some (.ref 66), some (fI lo), some (fI hi), some (fI (y (zS y n a0)))]) (st_q := [fI (y (zS y n a0))]) (h_q := (pre ++ rz_t w wt c tl T n fp (zS y n a0) sd we nu na rp M R O A)) (cl_q := 0) (sl_q := 0) rfl ?_
    refine fw_i2l rfl (by omega) (by omega) ?_
    refine fw_l2 48 rfl rfl (by decide) ?_
    refine fw_l2 57 rfl rfl (by decide) ?_
    refine fw_call 127 3 3 [fJ (y (zS y n a0)), fJ 48, fJ 57] [] rfl rfl rfl (Nat.le_of_ble_eq_true rfl) rfl rfl (fw_sta (rz_len hpre htl) rfl (by decide)) (rz_in (by omega) (by omega) (by omega) (by omega) (by omega) (by omega)) ?_
    rintro rv h_q ⟨⟨hi7, hi8, rfl⟩ | ⟨hi7, rfl⟩, rfl⟩
    · refine ik_Wk 0 (pc_q := 16) (loc_q := [some (.ref 66), some (fI lo), some (fI hi), some (fI (y (zS y n a0)))]) (st_q := [fI 1]) (h_q := (pre ++ rz_t w wt c tl T n fp (zS y n a0) sd we nu na rp M R O A)) (cl_q := 0) (sl_q := 0) rfl ?_
      refine fw_if_ne rfl rfl (by omega) (by omega) (fun hc9 => absurd hc9 (by omega)) (fun hc9 => ?_)
      refine ik_Wk 2 (pc_q := 31) (loc_q := [some (.ref 66), some (fI lo), some (fI hi), some (fI (y (zS y n a0)))]) (st_q := [.ref 66, .ref 66]) (h_q := (pre ++ rz_t w wt c tl T n fp (zS y n a0) sd we nu na rp M R O A)) (cl_q := 0) (sl_q := 0) rfl ?_
      refine fw_gf rfl rfl (rz_g 0 hpre rfl) rfl ?_
      refine fw_pf (h_q := (pre ++ rz_t w wt c tl T n fp (zS y n a0) sd we nu (zS y n a0) rp M R O A)) rfl rfl (rz_g 0 hpre rfl) (Nat.le_of_ble_eq_true rfl) rfl rfl (rz_s 0 hpre rfl) ?_
      refine ik_Wk 2 (pc_q := 39) (loc_q := [some (.ref 66), some (fI lo), some (fI hi), some (fI (y (zS y n a0)))]) (st_q := [fI 0, .ref 66]) (h_q := (pre ++ rz_t w wt c tl T n fp (zS y n a0) sd we nu (zS y n a0) rp M R O A)) (cl_q := 0) (sl_q := 0) rfl ?_
      refine fw_pf (h_q := (pre ++ rz_t w wt c tl T n fp (zS y n a0) sd we 0 (zS y n a0) rp M R O A)) rfl rfl (rz_g 0 hpre rfl) (Nat.le_of_ble_eq_true rfl) rfl rfl (rz_s 0 hpre rfl) ?_
      exact rz_numL ok (by omega) hlo hhi hlh ⟨by omega, by omega, by omega⟩ _ (zS y n a0) 0 rfl (by omega) (by omega) rfl (by omega) (by omega) ⟨by omega, by omega, by omega, by omega⟩
    · refine ik_Wk 0 (pc_q := 16) (loc_q := [some (.ref 66), some (fI lo), some (fI hi), some (fI (y (zS y n a0)))]) (st_q := [fI 0]) (h_q := (pre ++ rz_t w wt c tl T n fp (zS y n a0) sd we nu na rp M R O A)) (cl_q := 0) (sl_q := 0) rfl ?_
      refine fw_if_ne rfl rfl (by omega) (by omega) (fun hc10 => ?_) (fun hc10 => absurd hc10 (by omega))
      refine ik_Wk 3 (pc_q := 22) (loc_q := [some (.ref 66), some (fI lo), some (fI hi), some (fI (y (zS y n a0)))]) (st_q := [.ref 66, fI 1, .ref 66]) (h_q := (pre ++ rz_t w wt c tl T n fp (zS y n a0) sd we nu na rp M R O A)) (cl_q := 0) (sl_q := 0) rfl ?_
      refine fw_gf rfl rfl (rz_g 0 hpre rfl) rfl ?_
      refine fw_call 137 3 0 [.ref 66, fI 1, fI (zS y n a0)] [] rfl rfl rfl (Nat.le_of_ble_eq_true rfl) rfl rfl (fw_rec (rz_len hpre htl) rfl (rz_g 0 hpre rfl) rfl (by decide)) (rz_fails ok) ?_
      rintro rv h_q ⟨rfl, rfl⟩
      refine ik_Wk 0 (pc_q := 28) (loc_q := [some (.ref 66), some (fI lo), some (fI hi), some (fI (y (zS y n a0)))]) (st_q := [fI 1]) (h_q := (pre ++ rz_t w wt c tl T n (zS y n a0) (zS y n a0) sd we nu na rp M R O A)) (cl_q := 0) (sl_q := 0) rfl ?_
      have hf : znum y n lo hi (zS y n a0) = 1 := by unfold znum; rw [if_pos (zD_stop (y := y) (n := n) (i := zS y n a0) (by omega))]
      exact ik_Wret rfl rfl ⟨_, _, rfl, rfl, rfl, rfl, (Or.inr ⟨by omega, by rw [hf], _, _, _, by omega, by omega, rfl⟩)⟩
  · have hz11 := zS_ge (y := y) (n := n) a0
    have hz12 := zS_le (y := y) (n := n) (i := a0) (by omega)
    refine ik_Wk 0 (pc_q := 4) (loc_q := [some (.ref 66), some (fI lo), some (fI hi), none]) (st_q := [fI (-1)]) (h_q := (pre ++ rz_t w wt c tl T n fp (zS y n a0) sd we nu na rp M R O A)) (cl_q := 0) (sl_q := 0) rfl ?_
    refine ik_Wk 2 (pc_q := 6) (loc_q := [some (.ref 66), some (fI lo), some (fI hi), some (fI (-1))]) (st_q := [fI (-1)]) (h_q := (pre ++ rz_t w wt c tl T n fp (zS y n a0) sd we nu na rp M R O A)) (cl_q := 0) (sl_q := 0) rfl ?_
    refine fw_i2l rfl (by omega) (by omega) ?_
    refine fw_l2 48 rfl rfl (by decide) ?_
    refine fw_l2 57 rfl rfl (by decide) ?_
    refine fw_call 127 3 3 [fJ (-1), fJ 48, fJ 57] [] rfl rfl rfl (Nat.le_of_ble_eq_true rfl) rfl rfl (fw_sta (rz_len hpre htl) rfl (by decide)) (rz_in (by omega) (by omega) (by omega) (by omega) (by omega) (by omega)) ?_
    rintro rv h_q ⟨⟨hi13, hi14, rfl⟩ | ⟨hi13, rfl⟩, rfl⟩
    · exact absurd hi13 (by omega)
    · refine ik_Wk 0 (pc_q := 16) (loc_q := [some (.ref 66), some (fI lo), some (fI hi), some (fI (-1))]) (st_q := [fI 0]) (h_q := (pre ++ rz_t w wt c tl T n fp (zS y n a0) sd we nu na rp M R O A)) (cl_q := 0) (sl_q := 0) rfl ?_
      refine fw_if_ne rfl rfl (by omega) (by omega) (fun hc15 => ?_) (fun hc15 => absurd hc15 (by omega))
      refine ik_Wk 3 (pc_q := 22) (loc_q := [some (.ref 66), some (fI lo), some (fI hi), some (fI (-1))]) (st_q := [.ref 66, fI 1, .ref 66]) (h_q := (pre ++ rz_t w wt c tl T n fp (zS y n a0) sd we nu na rp M R O A)) (cl_q := 0) (sl_q := 0) rfl ?_
      refine fw_gf rfl rfl (rz_g 0 hpre rfl) rfl ?_
      refine fw_call 137 3 0 [.ref 66, fI 1, fI (zS y n a0)] [] rfl rfl rfl (Nat.le_of_ble_eq_true rfl) rfl rfl (fw_rec (rz_len hpre htl) rfl (rz_g 0 hpre rfl) rfl (by decide)) (rz_fails ok) ?_
      rintro rv h_q ⟨rfl, rfl⟩
      refine ik_Wk 0 (pc_q := 28) (loc_q := [some (.ref 66), some (fI lo), some (fI hi), some (fI (-1))]) (st_q := [fI 1]) (h_q := (pre ++ rz_t w wt c tl T n (zS y n a0) (zS y n a0) sd we nu na rp M R O A)) (cl_q := 0) (sl_q := 0) rfl ?_
      have hf : znum y n lo hi (zS y n a0) = 1 := by unfold znum; rw [if_pos (zD_stop (y := y) (n := n) (i := zS y n a0) (by omega))]
      exact ik_Wret rfl rfl ⟨_, _, rfl, rfl, rfl, rfl, (Or.inr ⟨by omega, by rw [hf], _, _, _, by omega, by omega, rfl⟩)⟩

def zmf (y : Int → Int) (n : Int) (r : List zM) (sum a0 f a : Int) : Prop := (¬ znum y n 0 11 (zS y n a0) = 0 ∧ f = znum y n 0 11 (zS y n a0) ∧ a = zS y n a0) ∨ (znum y n 0 11 (zS y n a0) = 0 ∧ (r.any fun m => decide (m.1 = zv y n (zS y n a0))) = true ∧ f = 4 ∧ a = zS y n a0) ∨ (znum y n 0 11 (zS y n a0) = 0 ∧ (r.any fun m => decide (m.1 = zv y n (zS y n a0))) = false ∧ ¬ znum y n 1 100 (zS y n (zD y n (zS y n a0))) = 0 ∧ f = znum y n 1 100 (zS y n (zD y n (zS y n a0))) ∧ a = zS y n (zD y n (zS y n a0))) ∨ (znum y n 0 11 (zS y n a0) = 0 ∧ (r.any fun m => decide (m.1 = zv y n (zS y n a0))) = false ∧ znum y n 1 100 (zS y n (zD y n (zS y n a0))) = 0 ∧ 100 < sum + zv y n (zS y n (zD y n (zS y n a0))) ∧ f = 5 ∧ a = zS y n (zD y n (zS y n a0)))

theorem rz_mv85_0 {pre tl : List ik_E} {w : Nat → Value} {wt : List Value} {c : Nat → ik_E} {y : Int → Int} {T : List Int} {n fp sd we rp : Int} {M R O A : List Int} (ok : rz_ok y T n pre tl) {a0 sum : Int} {r : List zM} (hM : M.length = (12 : Nat)) (hR : R.length = (48 : Nat)) (hO : O.length = (48 : Nat)) (hA : A.length = (48 : Nat)) (hrp : 0 ≤ rp) (hrp2 : rp ≤ 10) (hcnt : M.getD rp.toNat 0 = (r.length : Int)) (hrl : r.length ≤ 3) (hz : ∀ k : Int, (0 : Int) ≤ k → k < (r.length : Int) → R.getD (4 * rp + k).toNat 0 = (r.getD k.toNat (0, 0, 0)).1 ∧ 0 ≤ (r.getD k.toNat (0, 0, 0)).1 ∧ (r.getD k.toNat (0, 0, 0)).1 ≤ 11) (hs0 : (0 : Int) ≤ sum) (hs1 : sum ≤ (100 : Int)) (h0 : (0 : Int) ≤ a0) (h1 : a0 ≤ n) (hg1 : znum y n 0 11 (zS y n a0) = 0) (hany : (r.any fun m => decide (m.1 = zv y n (zS y n a0))) = false) : ik_G 143 85 [some (.ref 66), some (fI sum), some (fI (r.length : Int)), some (fI (4 * rp + (r.length : Int))), some (fI 0), some (fI (r.length : Int))] [] (pre ++ rz_t w wt c tl T n fp (zD y n (zS y n a0)) sd we (zv y n (zS y n a0)) (zS y n a0) rp M R O A) (fun rv h_q => (znum y n 0 11 (zS y n a0) = 0 ∧ (r.any fun m => decide (m.1 = zv y n (zS y n a0))) = false ∧ znum y n 1 100 (zS y n (zD y n (zS y n a0))) = 0 ∧ sum + zv y n (zS y n (zD y n (zS y n a0))) ≤ 100 ∧ rv = [fI 0] ∧ h_q = (pre ++ rz_t w wt c tl T n fp (zD y n (zS y n (zD y n (zS y n a0)))) sd we (zv y n (zS y n (zD y n (zS y n a0)))) (zS y n (zD y n (zS y n a0))) rp (M.set rp.toNat ((r.length : Int) + 1)) (R.set (4 * rp + (r.length : Int)).toNat (zv y n (zS y n a0))) (O.set (4 * rp + (r.length : Int)).toNat (zv y n (zS y n (zD y n (zS y n a0))))) (A.set (4 * rp + (r.length : Int)).toNat (zS y n a0)))) ∨ (∃ (f a a' nu' na' : Int) (M' R' O' A' : List Int), zmf y n r sum a0 f a ∧ rv = [fI f] ∧ M'.length = (12 : Nat) ∧ R'.length = (48 : Nat) ∧ O'.length = (48 : Nat) ∧ A'.length = (48 : Nat) ∧ (0 : Int) ≤ a' ∧ a' ≤ n ∧ h_q = (pre ++ rz_t w wt c tl T n a a' sd we nu' na' rp M' R' O' A'))) := by
  have ok' := ok
  obtain ⟨hpre, htl, hT, bT, hn, hn2, hy⟩ := ok'
  have hgv := znum0 hg1
  have hz1 := zS_ge (y := y) (n := n) a0
  have hz2 := zS_le (y := y) (n := n) (i := a0) h1
  have hz3 := zD_ge (y := y) (n := n) (zS y n a0)
  have hz4 := zD_le (y := y) (n := n) (i := zS y n a0) hz2
  refine ik_Wk 1 (pc_q := 86) (loc_q := [some (.ref 66), some (fI sum), some (fI (r.length : Int)), some (fI (4 * rp + (r.length : Int))), some (fI 0), some (fI (r.length : Int))]) (st_q := [.ref 66]) (h_q := (pre ++ rz_t w wt c tl T n fp (zD y n (zS y n a0)) sd we (zv y n (zS y n a0)) (zS y n a0) rp M R O A)) (cl_q := 0) (sl_q := 0) rfl ?_
  refine fw_gf rfl rfl (rz_g 0 hpre rfl) rfl ?_
  refine ik_Wk 2 (pc_q := 91) (loc_q := [some (.ref 66), some (fI sum), some (fI (r.length : Int)), some (fI (4 * rp + (r.length : Int))), some (fI 0), some (fI (r.length : Int))]) (st_q := [.ref 66, fI (4 * rp + (r.length : Int)), .ref 74]) (h_q := (pre ++ rz_t w wt c tl T n fp (zD y n (zS y n a0)) sd we (zv y n (zS y n a0)) (zS y n a0) rp M R O A)) (cl_q := 0) (sl_q := 0) rfl ?_
  refine fw_gf rfl rfl (rz_g 0 hpre rfl) rfl ?_
  have hl1 : (R.set (4 * rp + (r.length : Int)).toNat (zv y n (zS y n a0))).length = 48 := (List.length_set ..).trans hR
  refine fw_ias (h_q := (pre ++ rz_t w wt c tl T n fp (zD y n (zS y n a0)) sd we (zv y n (zS y n a0)) (zS y n a0) rp M (R.set (4 * rp + (r.length : Int)).toNat (zv y n (zS y n a0))) O A)) rfl (rz_g 8 hpre rfl) (by omega) (by omega) (by omega) (rz_s 8 hpre rfl) ?_
  refine ik_Wk 1 (pc_q := 96) (loc_q := [some (.ref 66), some (fI sum), some (fI (r.length : Int)), some (fI (4 * rp + (r.length : Int))), some (fI 0), some (fI (r.length : Int))]) (st_q := [.ref 66]) (h_q := (pre ++ rz_t w wt c tl T n fp (zD y n (zS y n a0)) sd we (zv y n (zS y n a0)) (zS y n a0) rp M (R.set (4 * rp + (r.length : Int)).toNat (zv y n (zS y n a0))) O A)) (cl_q := 0) (sl_q := 0) rfl ?_
  refine fw_gf rfl rfl (rz_g 0 hpre rfl) rfl ?_
  refine ik_Wk 2 (pc_q := 101) (loc_q := [some (.ref 66), some (fI sum), some (fI (r.length : Int)), some (fI (4 * rp + (r.length : Int))), some (fI 0), some (fI (r.length : Int))]) (st_q := [.ref 66, fI (4 * rp + (r.length : Int)), .ref 76]) (h_q := (pre ++ rz_t w wt c tl T n fp (zD y n (zS y n a0)) sd we (zv y n (zS y n a0)) (zS y n a0) rp M (R.set (4 * rp + (r.length : Int)).toNat (zv y n (zS y n a0))) O A)) (cl_q := 0) (sl_q := 0) rfl ?_
  refine fw_gf rfl rfl (rz_g 0 hpre rfl) rfl ?_
  have hl2 : (A.set (4 * rp + (r.length : Int)).toNat (zS y n a0)).length = 48 := (List.length_set ..).trans hA
  refine fw_ias (h_q := (pre ++ rz_t w wt c tl T n fp (zD y n (zS y n a0)) sd we (zv y n (zS y n a0)) (zS y n a0) rp M (R.set (4 * rp + (r.length : Int)).toNat (zv y n (zS y n a0))) O (A.set (4 * rp + (r.length : Int)).toNat (zS y n a0)))) rfl (rz_g 10 hpre rfl) (by omega) (by omega) (by omega) (rz_s 10 hpre rfl) ?_
  refine ik_Wk 1 (pc_q := 107) (loc_q := [some (.ref 66), some (fI sum), some (fI (r.length : Int)), some (fI (4 * rp + (r.length : Int))), some (fI 0), some (fI (r.length : Int))]) (st_q := [fI 0]) (h_q := (pre ++ rz_t w wt c tl T n fp (zD y n (zS y n a0)) sd we (zv y n (zS y n a0)) (zS y n a0) rp M (R.set (4 * rp + (r.length : Int)).toNat (zv y n (zS y n a0))) O (A.set (4 * rp + (r.length : Int)).toNat (zS y n a0)))) (cl_q := 0) (sl_q := 0) rfl ?_
  refine fw_if_le rfl rfl (by omega) (by omega) (fun hc3 => ?_) (fun hc3 => absurd hc3 (by omega))
  refine ik_Wk 2 (pc_q := 117) (loc_q := [some (.ref 66), some (fI sum), some (fI (r.length : Int)), some (fI (4 * rp + (r.length : Int))), some (fI 0), some (fI (r.length : Int))]) (st_q := [fI 1, .ref 66]) (h_q := (pre ++ rz_t w wt c tl T n fp (zD y n (zS y n a0)) sd we (zv y n (zS y n a0)) (zS y n a0) rp M (R.set (4 * rp + (r.length : Int)).toNat (zv y n (zS y n a0))) O (A.set (4 * rp + (r.length : Int)).toNat (zS y n a0)))) (cl_q := 0) (sl_q := 0) rfl ?_
  refine fw_bi rfl (by decide) ?_
  refine fw_call 141 3 0 [.ref 66, fI 1, fI 100] [] rfl rfl rfl (Nat.le_of_ble_eq_true rfl) rfl rfl (fw_rec (rz_len hpre htl) rfl (rz_g 0 hpre rfl) rfl (by decide)) (rz_num ok (by omega) (by omega) (by decide) (by decide) (by decide)) ?_
  rintro rv h_q (⟨hn4, rfl, rfl⟩ | ⟨hn4, rfl, a', nu', na', hn5a, hn5b, rfl⟩)
  · have hn5 := znum0 hn4
    have hz6 := zS_ge (y := y) (n := n) (zD y n (zS y n a0))
    have hz7 := zS_le (y := y) (n := n) (i := zD y n (zS y n a0)) (by omega)
    have hz8 := zD_ge (y := y) (n := n) (zS y n (zD y n (zS y n a0)))
    have hz9 := zD_le (y := y) (n := n) (i := zS y n (zD y n (zS y n a0))) (by omega)
    refine ik_Wk 0 (pc_q := 122) (loc_q := [some (.ref 66), some (fI sum), some (fI (r.length : Int)), some (fI (4 * rp + (r.length : Int))), some (fI 0), some (fI (r.length : Int))]) (st_q := [fI 0]) (h_q := (pre ++ rz_t w wt c tl T n fp (zD y n (zS y n (zD y n (zS y n a0)))) sd we (zv y n (zS y n (zD y n (zS y n a0)))) (zS y n (zD y n (zS y n a0))) rp M (R.set (4 * rp + (r.length : Int)).toNat (zv y n (zS y n a0))) O (A.set (4 * rp + (r.length : Int)).toNat (zS y n a0)))) (cl_q := 0) (sl_q := 0) rfl ?_
    refine ik_Wk 2 (pc_q := 126) (loc_q := [some (.ref 66), some (fI sum), some (fI (r.length : Int)), some (fI (4 * rp + (r.length : Int))), some (fI 0), some (fI (r.length : Int))]) (st_q := [fI 0]) (h_q := (pre ++ rz_t w wt c tl T n fp (zD y n (zS y n (zD y n (zS y n a0)))) sd we (zv y n (zS y n (zD y n (zS y n a0)))) (zS y n (zD y n (zS y n a0))) rp M (R.set (4 * rp + (r.length : Int)).toNat (zv y n (zS y n a0))) O (A.set (4 * rp + (r.length : Int)).toNat (zS y n a0)))) (cl_q := 0) (sl_q := 0) rfl ?_
    refine fw_if_ne rfl rfl (by omega) (by omega) (fun hc10 => ?_) (fun hc10 => absurd hc10 (by omega))
    refine ik_Wk 2 (pc_q := 131) (loc_q := [some (.ref 66), some (fI sum), some (fI (r.length : Int)), some (fI (4 * rp + (r.length : Int))), some (fI 0), some (fI (r.length : Int))]) (st_q := [.ref 66, fI sum]) (h_q := (pre ++ rz_t w wt c tl T n fp (zD y n (zS y n (zD y n (zS y n a0)))) sd we (zv y n (zS y n (zD y n (zS y n a0)))) (zS y n (zD y n (zS y n a0))) rp M (R.set (4 * rp + (r.length : Int)).toNat (zv y n (zS y n a0))) O (A.set (4 * rp + (r.length : Int)).toNat (zS y n a0)))) (cl_q := 0) (sl_q := 0) rfl ?_
    refine fw_gf rfl rfl (rz_g 0 hpre rfl) rfl ?_
    refine fw_add rfl ?_
    refine fw_bi rfl (by decide) ?_
    refine fw_ic_le rfl rfl (by omega) (by omega) (by omega) (by omega) (fun hc11 => ?_) (fun hc11 => ?_)
    · refine ik_Wk 3 (pc_q := 157) (loc_q := [some (.ref 66), some (fI sum), some (fI (r.length : Int)), some (fI (4 * rp + (r.length : Int))), some (fI 0), some (fI (r.length : Int))]) (st_q := [.ref 66]) (h_q := (pre ++ rz_t w wt c tl T n fp (zD y n (zS y n (zD y n (zS y n a0)))) sd we (zv y n (zS y n (zD y n (zS y n a0)))) (zS y n (zD y n (zS y n a0))) rp M (R.set (4 * rp + (r.length : Int)).toNat (zv y n (zS y n a0))) O (A.set (4 * rp + (r.length : Int)).toNat (zS y n a0)))) (cl_q := 0) (sl_q := 0) rfl ?_
      refine fw_gf rfl rfl (rz_g 0 hpre rfl) rfl ?_
      refine ik_Wk 2 (pc_q := 162) (loc_q := [some (.ref 66), some (fI sum), some (fI (r.length : Int)), some (fI (4 * rp + (r.length : Int))), some (fI 0), some (fI (r.length : Int))]) (st_q := [.ref 66, fI (4 * rp + (r.length : Int)), .ref 75]) (h_q := (pre ++ rz_t w wt c tl T n fp (zD y n (zS y n (zD y n (zS y n a0)))) sd we (zv y n (zS y n (zD y n (zS y n a0)))) (zS y n (zD y n (zS y n a0))) rp M (R.set (4 * rp + (r.length : Int)).toNat (zv y n (zS y n a0))) O (A.set (4 * rp + (r.length : Int)).toNat (zS y n a0)))) (cl_q := 0) (sl_q := 0) rfl ?_
      refine fw_gf rfl rfl (rz_g 0 hpre rfl) rfl ?_
      have hl12 : (O.set (4 * rp + (r.length : Int)).toNat (zv y n (zS y n (zD y n (zS y n a0))))).length = 48 := (List.length_set ..).trans hO
      refine fw_ias (h_q := (pre ++ rz_t w wt c tl T n fp (zD y n (zS y n (zD y n (zS y n a0)))) sd we (zv y n (zS y n (zD y n (zS y n a0)))) (zS y n (zD y n (zS y n a0))) rp M (R.set (4 * rp + (r.length : Int)).toNat (zv y n (zS y n a0))) (O.set (4 * rp + (r.length : Int)).toNat (zv y n (zS y n (zD y n (zS y n a0))))) (A.set (4 * rp + (r.length : Int)).toNat (zS y n a0)))) rfl (rz_g 9 hpre rfl) (by omega) (by omega) (by omega) (rz_s 9 hpre rfl) ?_
      refine ik_Wk 1 (pc_q := 167) (loc_q := [some (.ref 66), some (fI sum), some (fI (r.length : Int)), some (fI (4 * rp + (r.length : Int))), some (fI 0), some (fI (r.length : Int))]) (st_q := [.ref 66]) (h_q := (pre ++ rz_t w wt c tl T n fp (zD y n (zS y n (zD y n (zS y n a0)))) sd we (zv y n (zS y n (zD y n (zS y n a0)))) (zS y n (zD y n (zS y n a0))) rp M (R.set (4 * rp + (r.length : Int)).toNat (zv y n (zS y n a0))) (O.set (4 * rp + (r.length : Int)).toNat (zv y n (zS y n (zD y n (zS y n a0))))) (A.set (4 * rp + (r.length : Int)).toNat (zS y n a0)))) (cl_q := 0) (sl_q := 0) rfl ?_
      refine fw_gf rfl rfl (rz_g 0 hpre rfl) rfl ?_
      refine ik_Wk 1 (pc_q := 171) (loc_q := [some (.ref 66), some (fI sum), some (fI (r.length : Int)), some (fI (4 * rp + (r.length : Int))), some (fI 0), some (fI (r.length : Int))]) (st_q := [.ref 66, .ref 73]) (h_q := (pre ++ rz_t w wt c tl T n fp (zD y n (zS y n (zD y n (zS y n a0)))) sd we (zv y n (zS y n (zD y n (zS y n a0)))) (zS y n (zD y n (zS y n a0))) rp M (R.set (4 * rp + (r.length : Int)).toNat (zv y n (zS y n a0))) (O.set (4 * rp + (r.length : Int)).toNat (zv y n (zS y n (zD y n (zS y n a0))))) (A.set (4 * rp + (r.length : Int)).toNat (zS y n a0)))) (cl_q := 0) (sl_q := 0) rfl ?_
      refine fw_gf rfl rfl (rz_g 0 hpre rfl) rfl ?_
      refine ik_Wk 1 (pc_q := 175) (loc_q := [some (.ref 66), some (fI sum), some (fI (r.length : Int)), some (fI (4 * rp + (r.length : Int))), some (fI 0), some (fI (r.length : Int))]) (st_q := [fI rp, .ref 73, fI rp, .ref 73]) (h_q := (pre ++ rz_t w wt c tl T n fp (zD y n (zS y n (zD y n (zS y n a0)))) sd we (zv y n (zS y n (zD y n (zS y n a0)))) (zS y n (zD y n (zS y n a0))) rp M (R.set (4 * rp + (r.length : Int)).toNat (zv y n (zS y n a0))) (O.set (4 * rp + (r.length : Int)).toNat (zv y n (zS y n (zD y n (zS y n a0))))) (A.set (4 * rp + (r.length : Int)).toNat (zS y n a0)))) (cl_q := 0) (sl_q := 0) rfl ?_
      refine fw_ial rfl (rz_g 7 hpre rfl) (by omega) (by omega) (by omega) ?_
      rw [hcnt]
      refine ik_Wk 1 (pc_q := 177) (loc_q := [some (.ref 66), some (fI sum), some (fI (r.length : Int)), some (fI (4 * rp + (r.length : Int))), some (fI 0), some (fI (r.length : Int))]) (st_q := [fI 1, fI (r.length : Int), fI rp, .ref 73]) (h_q := (pre ++ rz_t w wt c tl T n fp (zD y n (zS y n (zD y n (zS y n a0)))) sd we (zv y n (zS y n (zD y n (zS y n a0)))) (zS y n (zD y n (zS y n a0))) rp M (R.set (4 * rp + (r.length : Int)).toNat (zv y n (zS y n a0))) (O.set (4 * rp + (r.length : Int)).toNat (zv y n (zS y n (zD y n (zS y n a0))))) (A.set (4 * rp + (r.length : Int)).toNat (zS y n a0)))) (cl_q := 0) (sl_q := 0) rfl ?_
      refine fw_add rfl ?_
      have hl13 : (M.set rp.toNat ((r.length : Int) + 1)).length = 12 := (List.length_set ..).trans hM
      refine fw_ias (h_q := (pre ++ rz_t w wt c tl T n fp (zD y n (zS y n (zD y n (zS y n a0)))) sd we (zv y n (zS y n (zD y n (zS y n a0)))) (zS y n (zD y n (zS y n a0))) rp (M.set rp.toNat ((r.length : Int) + 1)) (R.set (4 * rp + (r.length : Int)).toNat (zv y n (zS y n a0))) (O.set (4 * rp + (r.length : Int)).toNat (zv y n (zS y n (zD y n (zS y n a0))))) (A.set (4 * rp + (r.length : Int)).toNat (zS y n a0)))) rfl (rz_g 7 hpre rfl) (by omega) (by omega) (by omega) (rz_s 7 hpre rfl) ?_
      refine ik_Wk 1 (pc_q := 181) (loc_q := [some (.ref 66), some (fI sum), some (fI (r.length : Int)), some (fI (4 * rp + (r.length : Int))), some (fI 0), some (fI (r.length : Int))]) (st_q := [fI 0]) (h_q := (pre ++ rz_t w wt c tl T n fp (zD y n (zS y n (zD y n (zS y n a0)))) sd we (zv y n (zS y n (zD y n (zS y n a0)))) (zS y n (zD y n (zS y n a0))) rp (M.set rp.toNat ((r.length : Int) + 1)) (R.set (4 * rp + (r.length : Int)).toNat (zv y n (zS y n a0))) (O.set (4 * rp + (r.length : Int)).toNat (zv y n (zS y n (zD y n (zS y n a0))))) (A.set (4 * rp + (r.length : Int)).toNat (zS y n a0)))) (cl_q := 0) (sl_q := 0) rfl ?_
      exact ik_Wret rfl rfl ⟨_, _, rfl, rfl, rfl, rfl, (Or.inl ⟨hg1, hany, by assumption, by omega, rfl, rfl⟩)⟩
    · refine ik_Wk 3 (pc_q := 143) (loc_q := [some (.ref 66), some (fI sum), some (fI (r.length : Int)), some (fI (4 * rp + (r.length : Int))), some (fI 0), some (fI (r.length : Int))]) (st_q := [.ref 66, fI 5, .ref 66]) (h_q := (pre ++ rz_t w wt c tl T n fp (zD y n (zS y n (zD y n (zS y n a0)))) sd we (zv y n (zS y n (zD y n (zS y n a0)))) (zS y n (zD y n (zS y n a0))) rp M (R.set (4 * rp + (r.length : Int)).toNat (zv y n (zS y n a0))) O (A.set (4 * rp + (r.length : Int)).toNat (zS y n a0)))) (cl_q := 0) (sl_q := 0) rfl ?_
      refine fw_gf rfl rfl (rz_g 0 hpre rfl) rfl ?_
      refine fw_call 137 3 0 [.ref 66, fI 5, fI (zS y n (zD y n (zS y n a0)))] [] rfl rfl rfl (Nat.le_of_ble_eq_true rfl) rfl rfl (fw_rec (rz_len hpre htl) rfl (rz_g 0 hpre rfl) rfl (by decide)) (rz_fails ok) ?_
      rintro rv h_q ⟨rfl, rfl⟩
      refine ik_Wk 0 (pc_q := 149) (loc_q := [some (.ref 66), some (fI sum), some (fI (r.length : Int)), some (fI (4 * rp + (r.length : Int))), some (fI 0), some (fI (r.length : Int))]) (st_q := [fI 5]) (h_q := (pre ++ rz_t w wt c tl T n (zS y n (zD y n (zS y n a0))) (zD y n (zS y n (zD y n (zS y n a0)))) sd we (zv y n (zS y n (zD y n (zS y n a0)))) (zS y n (zD y n (zS y n a0))) rp M (R.set (4 * rp + (r.length : Int)).toNat (zv y n (zS y n a0))) O (A.set (4 * rp + (r.length : Int)).toNat (zS y n a0)))) (cl_q := 0) (sl_q := 0) rfl ?_
      refine ik_Wk 3 (pc_q := 157) (loc_q := [some (.ref 66), some (fI sum), some (fI (r.length : Int)), some (fI (4 * rp + (r.length : Int))), some (fI 5), some (fI (r.length : Int))]) (st_q := [.ref 66]) (h_q := (pre ++ rz_t w wt c tl T n (zS y n (zD y n (zS y n a0))) (zD y n (zS y n (zD y n (zS y n a0)))) sd we (zv y n (zS y n (zD y n (zS y n a0)))) (zS y n (zD y n (zS y n a0))) rp M (R.set (4 * rp + (r.length : Int)).toNat (zv y n (zS y n a0))) O (A.set (4 * rp + (r.length : Int)).toNat (zS y n a0)))) (cl_q := 0) (sl_q := 0) rfl ?_
      refine fw_gf rfl rfl (rz_g 0 hpre rfl) rfl ?_
      refine ik_Wk 2 (pc_q := 162) (loc_q := [some (.ref 66), some (fI sum), some (fI (r.length : Int)), some (fI (4 * rp + (r.length : Int))), some (fI 5), some (fI (r.length : Int))]) (st_q := [.ref 66, fI (4 * rp + (r.length : Int)), .ref 75]) (h_q := (pre ++ rz_t w wt c tl T n (zS y n (zD y n (zS y n a0))) (zD y n (zS y n (zD y n (zS y n a0)))) sd we (zv y n (zS y n (zD y n (zS y n a0)))) (zS y n (zD y n (zS y n a0))) rp M (R.set (4 * rp + (r.length : Int)).toNat (zv y n (zS y n a0))) O (A.set (4 * rp + (r.length : Int)).toNat (zS y n a0)))) (cl_q := 0) (sl_q := 0) rfl ?_
      refine fw_gf rfl rfl (rz_g 0 hpre rfl) rfl ?_
      have hl14 : (O.set (4 * rp + (r.length : Int)).toNat (zv y n (zS y n (zD y n (zS y n a0))))).length = 48 := (List.length_set ..).trans hO
      refine fw_ias (h_q := (pre ++ rz_t w wt c tl T n (zS y n (zD y n (zS y n a0))) (zD y n (zS y n (zD y n (zS y n a0)))) sd we (zv y n (zS y n (zD y n (zS y n a0)))) (zS y n (zD y n (zS y n a0))) rp M (R.set (4 * rp + (r.length : Int)).toNat (zv y n (zS y n a0))) (O.set (4 * rp + (r.length : Int)).toNat (zv y n (zS y n (zD y n (zS y n a0))))) (A.set (4 * rp + (r.length : Int)).toNat (zS y n a0)))) rfl (rz_g 9 hpre rfl) (by omega) (by omega) (by omega) (rz_s 9 hpre rfl) ?_
      refine ik_Wk 1 (pc_q := 167) (loc_q := [some (.ref 66), some (fI sum), some (fI (r.length : Int)), some (fI (4 * rp + (r.length : Int))), some (fI 5), some (fI (r.length : Int))]) (st_q := [.ref 66]) (h_q := (pre ++ rz_t w wt c tl T n (zS y n (zD y n (zS y n a0))) (zD y n (zS y n (zD y n (zS y n a0)))) sd we (zv y n (zS y n (zD y n (zS y n a0)))) (zS y n (zD y n (zS y n a0))) rp M (R.set (4 * rp + (r.length : Int)).toNat (zv y n (zS y n a0))) (O.set (4 * rp + (r.length : Int)).toNat (zv y n (zS y n (zD y n (zS y n a0))))) (A.set (4 * rp + (r.length : Int)).toNat (zS y n a0)))) (cl_q := 0) (sl_q := 0) rfl ?_
      refine fw_gf rfl rfl (rz_g 0 hpre rfl) rfl ?_
      refine ik_Wk 1 (pc_q := 171) (loc_q := [some (.ref 66), some (fI sum), some (fI (r.length : Int)), some (fI (4 * rp + (r.length : Int))), some (fI 5), some (fI (r.length : Int))]) (st_q := [.ref 66, .ref 73]) (h_q := (pre ++ rz_t w wt c tl T n (zS y n (zD y n (zS y n a0))) (zD y n (zS y n (zD y n (zS y n a0)))) sd we (zv y n (zS y n (zD y n (zS y n a0)))) (zS y n (zD y n (zS y n a0))) rp M (R.set (4 * rp + (r.length : Int)).toNat (zv y n (zS y n a0))) (O.set (4 * rp + (r.length : Int)).toNat (zv y n (zS y n (zD y n (zS y n a0))))) (A.set (4 * rp + (r.length : Int)).toNat (zS y n a0)))) (cl_q := 0) (sl_q := 0) rfl ?_
      refine fw_gf rfl rfl (rz_g 0 hpre rfl) rfl ?_
      refine ik_Wk 1 (pc_q := 175) (loc_q := [some (.ref 66), some (fI sum), some (fI (r.length : Int)), some (fI (4 * rp + (r.length : Int))), some (fI 5), some (fI (r.length : Int))]) (st_q := [fI rp, .ref 73, fI rp, .ref 73]) (h_q := (pre ++ rz_t w wt c tl T n (zS y n (zD y n (zS y n a0))) (zD y n (zS y n (zD y n (zS y n a0)))) sd we (zv y n (zS y n (zD y n (zS y n a0)))) (zS y n (zD y n (zS y n a0))) rp M (R.set (4 * rp + (r.length : Int)).toNat (zv y n (zS y n a0))) (O.set (4 * rp + (r.length : Int)).toNat (zv y n (zS y n (zD y n (zS y n a0))))) (A.set (4 * rp + (r.length : Int)).toNat (zS y n a0)))) (cl_q := 0) (sl_q := 0) rfl ?_
      refine fw_ial rfl (rz_g 7 hpre rfl) (by omega) (by omega) (by omega) ?_
      rw [hcnt]
      refine ik_Wk 1 (pc_q := 177) (loc_q := [some (.ref 66), some (fI sum), some (fI (r.length : Int)), some (fI (4 * rp + (r.length : Int))), some (fI 5), some (fI (r.length : Int))]) (st_q := [fI 1, fI (r.length : Int), fI rp, .ref 73]) (h_q := (pre ++ rz_t w wt c tl T n (zS y n (zD y n (zS y n a0))) (zD y n (zS y n (zD y n (zS y n a0)))) sd we (zv y n (zS y n (zD y n (zS y n a0)))) (zS y n (zD y n (zS y n a0))) rp M (R.set (4 * rp + (r.length : Int)).toNat (zv y n (zS y n a0))) (O.set (4 * rp + (r.length : Int)).toNat (zv y n (zS y n (zD y n (zS y n a0))))) (A.set (4 * rp + (r.length : Int)).toNat (zS y n a0)))) (cl_q := 0) (sl_q := 0) rfl ?_
      refine fw_add rfl ?_
      have hl15 : (M.set rp.toNat ((r.length : Int) + 1)).length = 12 := (List.length_set ..).trans hM
      refine fw_ias (h_q := (pre ++ rz_t w wt c tl T n (zS y n (zD y n (zS y n a0))) (zD y n (zS y n (zD y n (zS y n a0)))) sd we (zv y n (zS y n (zD y n (zS y n a0)))) (zS y n (zD y n (zS y n a0))) rp (M.set rp.toNat ((r.length : Int) + 1)) (R.set (4 * rp + (r.length : Int)).toNat (zv y n (zS y n a0))) (O.set (4 * rp + (r.length : Int)).toNat (zv y n (zS y n (zD y n (zS y n a0))))) (A.set (4 * rp + (r.length : Int)).toNat (zS y n a0)))) rfl (rz_g 7 hpre rfl) (by omega) (by omega) (by omega) (rz_s 7 hpre rfl) ?_
      refine ik_Wk 1 (pc_q := 181) (loc_q := [some (.ref 66), some (fI sum), some (fI (r.length : Int)), some (fI (4 * rp + (r.length : Int))), some (fI 5), some (fI (r.length : Int))]) (st_q := [fI 5]) (h_q := (pre ++ rz_t w wt c tl T n (zS y n (zD y n (zS y n a0))) (zD y n (zS y n (zD y n (zS y n a0)))) sd we (zv y n (zS y n (zD y n (zS y n a0)))) (zS y n (zD y n (zS y n a0))) rp (M.set rp.toNat ((r.length : Int) + 1)) (R.set (4 * rp + (r.length : Int)).toNat (zv y n (zS y n a0))) (O.set (4 * rp + (r.length : Int)).toNat (zv y n (zS y n (zD y n (zS y n a0))))) (A.set (4 * rp + (r.length : Int)).toNat (zS y n a0)))) (cl_q := 0) (sl_q := 0) rfl ?_
      exact ik_Wret rfl rfl ⟨_, _, rfl, rfl, rfl, rfl, (Or.inr ⟨_, _, _, _, _, _, _, _, _, Or.inr (Or.inr (Or.inr ⟨hg1, hany, by assumption, by omega, rfl, rfl⟩)), rfl, hl15, hl1, hl14, hl2, by omega, by omega, rfl⟩)⟩
  · have hz16 := znumR (y := y) (n := n) (lo := 1) (hi := 100) (s := zS y n (zD y n (zS y n a0)))
    refine ik_Wk 0 (pc_q := 122) (loc_q := [some (.ref 66), some (fI sum), some (fI (r.length : Int)), some (fI (4 * rp + (r.length : Int))), some (fI 0), some (fI (r.length : Int))]) (st_q := [fI (znum y n 1 100 (zS y n (zD y n (zS y n a0))))]) (h_q := (pre ++ rz_t w wt c tl T n (zS y n (zD y n (zS y n a0))) a' sd we nu' na' rp M (R.set (4 * rp + (r.length : Int)).toNat (zv y n (zS y n a0))) O (A.set (4 * rp + (r.length : Int)).toNat (zS y n a0)))) (cl_q := 0) (sl_q := 0) rfl ?_
    refine ik_Wk 2 (pc_q := 126) (loc_q := [some (.ref 66), some (fI sum), some (fI (r.length : Int)), some (fI (4 * rp + (r.length : Int))), some (fI (znum y n 1 100 (zS y n (zD y n (zS y n a0))))), some (fI (r.length : Int))]) (st_q := [fI (znum y n 1 100 (zS y n (zD y n (zS y n a0))))]) (h_q := (pre ++ rz_t w wt c tl T n (zS y n (zD y n (zS y n a0))) a' sd we nu' na' rp M (R.set (4 * rp + (r.length : Int)).toNat (zv y n (zS y n a0))) O (A.set (4 * rp + (r.length : Int)).toNat (zS y n a0)))) (cl_q := 0) (sl_q := 0) rfl ?_
    refine fw_if_ne rfl rfl (by omega) (by omega) (fun hc17 => absurd hc17 (by omega)) (fun hc17 => ?_)
    refine ik_Wk 3 (pc_q := 157) (loc_q := [some (.ref 66), some (fI sum), some (fI (r.length : Int)), some (fI (4 * rp + (r.length : Int))), some (fI (znum y n 1 100 (zS y n (zD y n (zS y n a0))))), some (fI (r.length : Int))]) (st_q := [.ref 66]) (h_q := (pre ++ rz_t w wt c tl T n (zS y n (zD y n (zS y n a0))) a' sd we nu' na' rp M (R.set (4 * rp + (r.length : Int)).toNat (zv y n (zS y n a0))) O (A.set (4 * rp + (r.length : Int)).toNat (zS y n a0)))) (cl_q := 0) (sl_q := 0) rfl ?_
    refine fw_gf rfl rfl (rz_g 0 hpre rfl) rfl ?_
    refine ik_Wk 2 (pc_q := 162) (loc_q := [some (.ref 66), some (fI sum), some (fI (r.length : Int)), some (fI (4 * rp + (r.length : Int))), some (fI (znum y n 1 100 (zS y n (zD y n (zS y n a0))))), some (fI (r.length : Int))]) (st_q := [.ref 66, fI (4 * rp + (r.length : Int)), .ref 75]) (h_q := (pre ++ rz_t w wt c tl T n (zS y n (zD y n (zS y n a0))) a' sd we nu' na' rp M (R.set (4 * rp + (r.length : Int)).toNat (zv y n (zS y n a0))) O (A.set (4 * rp + (r.length : Int)).toNat (zS y n a0)))) (cl_q := 0) (sl_q := 0) rfl ?_
    refine fw_gf rfl rfl (rz_g 0 hpre rfl) rfl ?_
    have hl18 : (O.set (4 * rp + (r.length : Int)).toNat nu').length = 48 := (List.length_set ..).trans hO
    refine fw_ias (h_q := (pre ++ rz_t w wt c tl T n (zS y n (zD y n (zS y n a0))) a' sd we nu' na' rp M (R.set (4 * rp + (r.length : Int)).toNat (zv y n (zS y n a0))) (O.set (4 * rp + (r.length : Int)).toNat nu') (A.set (4 * rp + (r.length : Int)).toNat (zS y n a0)))) rfl (rz_g 9 hpre rfl) (by omega) (by omega) (by omega) (rz_s 9 hpre rfl) ?_
    refine ik_Wk 1 (pc_q := 167) (loc_q := [some (.ref 66), some (fI sum), some (fI (r.length : Int)), some (fI (4 * rp + (r.length : Int))), some (fI (znum y n 1 100 (zS y n (zD y n (zS y n a0))))), some (fI (r.length : Int))]) (st_q := [.ref 66]) (h_q := (pre ++ rz_t w wt c tl T n (zS y n (zD y n (zS y n a0))) a' sd we nu' na' rp M (R.set (4 * rp + (r.length : Int)).toNat (zv y n (zS y n a0))) (O.set (4 * rp + (r.length : Int)).toNat nu') (A.set (4 * rp + (r.length : Int)).toNat (zS y n a0)))) (cl_q := 0) (sl_q := 0) rfl ?_
    refine fw_gf rfl rfl (rz_g 0 hpre rfl) rfl ?_
    refine ik_Wk 1 (pc_q := 171) (loc_q := [some (.ref 66), some (fI sum), some (fI (r.length : Int)), some (fI (4 * rp + (r.length : Int))), some (fI (znum y n 1 100 (zS y n (zD y n (zS y n a0))))), some (fI (r.length : Int))]) (st_q := [.ref 66, .ref 73]) (h_q := (pre ++ rz_t w wt c tl T n (zS y n (zD y n (zS y n a0))) a' sd we nu' na' rp M (R.set (4 * rp + (r.length : Int)).toNat (zv y n (zS y n a0))) (O.set (4 * rp + (r.length : Int)).toNat nu') (A.set (4 * rp + (r.length : Int)).toNat (zS y n a0)))) (cl_q := 0) (sl_q := 0) rfl ?_
    refine fw_gf rfl rfl (rz_g 0 hpre rfl) rfl ?_
    refine ik_Wk 1 (pc_q := 175) (loc_q := [some (.ref 66), some (fI sum), some (fI (r.length : Int)), some (fI (4 * rp + (r.length : Int))), some (fI (znum y n 1 100 (zS y n (zD y n (zS y n a0))))), some (fI (r.length : Int))]) (st_q := [fI rp, .ref 73, fI rp, .ref 73]) (h_q := (pre ++ rz_t w wt c tl T n (zS y n (zD y n (zS y n a0))) a' sd we nu' na' rp M (R.set (4 * rp + (r.length : Int)).toNat (zv y n (zS y n a0))) (O.set (4 * rp + (r.length : Int)).toNat nu') (A.set (4 * rp + (r.length : Int)).toNat (zS y n a0)))) (cl_q := 0) (sl_q := 0) rfl ?_
    refine fw_ial rfl (rz_g 7 hpre rfl) (by omega) (by omega) (by omega) ?_
    rw [hcnt]
    refine ik_Wk 1 (pc_q := 177) (loc_q := [some (.ref 66), some (fI sum), some (fI (r.length : Int)), some (fI (4 * rp + (r.length : Int))), some (fI (znum y n 1 100 (zS y n (zD y n (zS y n a0))))), some (fI (r.length : Int))]) (st_q := [fI 1, fI (r.length : Int), fI rp, .ref 73]) (h_q := (pre ++ rz_t w wt c tl T n (zS y n (zD y n (zS y n a0))) a' sd we nu' na' rp M (R.set (4 * rp + (r.length : Int)).toNat (zv y n (zS y n a0))) (O.set (4 * rp + (r.length : Int)).toNat nu') (A.set (4 * rp + (r.length : Int)).toNat (zS y n a0)))) (cl_q := 0) (sl_q := 0) rfl ?_
    refine fw_add rfl ?_
    have hl19 : (M.set rp.toNat ((r.length : Int) + 1)).length = 12 := (List.length_set ..).trans hM
    refine fw_ias (h_q := (pre ++ rz_t w wt c tl T n (zS y n (zD y n (zS y n a0))) a' sd we nu' na' rp (M.set rp.toNat ((r.length : Int) + 1)) (R.set (4 * rp + (r.length : Int)).toNat (zv y n (zS y n a0))) (O.set (4 * rp + (r.length : Int)).toNat nu') (A.set (4 * rp + (r.length : Int)).toNat (zS y n a0)))) rfl (rz_g 7 hpre rfl) (by omega) (by omega) (by omega) (rz_s 7 hpre rfl) ?_
    refine ik_Wk 1 (pc_q := 181) (loc_q := [some (.ref 66), some (fI sum), some (fI (r.length : Int)), some (fI (4 * rp + (r.length : Int))), some (fI (znum y n 1 100 (zS y n (zD y n (zS y n a0))))), some (fI (r.length : Int))]) (st_q := [fI (znum y n 1 100 (zS y n (zD y n (zS y n a0))))]) (h_q := (pre ++ rz_t w wt c tl T n (zS y n (zD y n (zS y n a0))) a' sd we nu' na' rp (M.set rp.toNat ((r.length : Int) + 1)) (R.set (4 * rp + (r.length : Int)).toNat (zv y n (zS y n a0))) (O.set (4 * rp + (r.length : Int)).toNat nu') (A.set (4 * rp + (r.length : Int)).toNat (zS y n a0)))) (cl_q := 0) (sl_q := 0) rfl ?_
    exact ik_Wret rfl rfl ⟨_, _, rfl, rfl, rfl, rfl, (Or.inr ⟨_, _, _, _, _, _, _, _, _, Or.inr (Or.inr (Or.inl ⟨hg1, hany, by assumption, rfl, rfl⟩)), rfl, hl19, hl1, hl18, hl2, by omega, by omega, rfl⟩)⟩

theorem rz_mv85_4 {pre tl : List ik_E} {w : Nat → Value} {wt : List Value} {c : Nat → ik_E} {y : Int → Int} {T : List Int} {n fp sd we rp : Int} {M R O A : List Int} (ok : rz_ok y T n pre tl) {a0 sum : Int} {r : List zM} (hM : M.length = (12 : Nat)) (hR : R.length = (48 : Nat)) (hO : O.length = (48 : Nat)) (hA : A.length = (48 : Nat)) (hrp : 0 ≤ rp) (hrp2 : rp ≤ 10) (hcnt : M.getD rp.toNat 0 = (r.length : Int)) (hrl : r.length ≤ 3) (hz : ∀ k : Int, (0 : Int) ≤ k → k < (r.length : Int) → R.getD (4 * rp + k).toNat 0 = (r.getD k.toNat (0, 0, 0)).1 ∧ 0 ≤ (r.getD k.toNat (0, 0, 0)).1 ∧ (r.getD k.toNat (0, 0, 0)).1 ≤ 11) (hs0 : (0 : Int) ≤ sum) (hs1 : sum ≤ (100 : Int)) (h0 : (0 : Int) ≤ a0) (h1 : a0 ≤ n) (hg1 : znum y n 0 11 (zS y n a0) = 0) (hany : (r.any fun m => decide (m.1 = zv y n (zS y n a0))) = true) : ik_G 143 85 [some (.ref 66), some (fI sum), some (fI (r.length : Int)), some (fI (4 * rp + (r.length : Int))), some (fI 4), some (fI (r.length : Int))] [] (pre ++ rz_t w wt c tl T n (zS y n a0) (zD y n (zS y n a0)) sd we (zv y n (zS y n a0)) (zS y n a0) rp M R O A) (fun rv h_q => (znum y n 0 11 (zS y n a0) = 0 ∧ (r.any fun m => decide (m.1 = zv y n (zS y n a0))) = false ∧ znum y n 1 100 (zS y n (zD y n (zS y n a0))) = 0 ∧ sum + zv y n (zS y n (zD y n (zS y n a0))) ≤ 100 ∧ rv = [fI 0] ∧ h_q = (pre ++ rz_t w wt c tl T n fp (zD y n (zS y n (zD y n (zS y n a0)))) sd we (zv y n (zS y n (zD y n (zS y n a0)))) (zS y n (zD y n (zS y n a0))) rp (M.set rp.toNat ((r.length : Int) + 1)) (R.set (4 * rp + (r.length : Int)).toNat (zv y n (zS y n a0))) (O.set (4 * rp + (r.length : Int)).toNat (zv y n (zS y n (zD y n (zS y n a0))))) (A.set (4 * rp + (r.length : Int)).toNat (zS y n a0)))) ∨ (∃ (f a a' nu' na' : Int) (M' R' O' A' : List Int), zmf y n r sum a0 f a ∧ rv = [fI f] ∧ M'.length = (12 : Nat) ∧ R'.length = (48 : Nat) ∧ O'.length = (48 : Nat) ∧ A'.length = (48 : Nat) ∧ (0 : Int) ≤ a' ∧ a' ≤ n ∧ h_q = (pre ++ rz_t w wt c tl T n a a' sd we nu' na' rp M' R' O' A'))) := by
  have ok' := ok
  obtain ⟨hpre, htl, hT, bT, hn, hn2, hy⟩ := ok'
  have hgv := znum0 hg1
  have hz1 := zS_ge (y := y) (n := n) a0
  have hz2 := zS_le (y := y) (n := n) (i := a0) h1
  have hz3 := zD_ge (y := y) (n := n) (zS y n a0)
  have hz4 := zD_le (y := y) (n := n) (i := zS y n a0) hz2
  refine ik_Wk 1 (pc_q := 86) (loc_q := [some (.ref 66), some (fI sum), some (fI (r.length : Int)), some (fI (4 * rp + (r.length : Int))), some (fI 4), some (fI (r.length : Int))]) (st_q := [.ref 66]) (h_q := (pre ++ rz_t w wt c tl T n (zS y n a0) (zD y n (zS y n a0)) sd we (zv y n (zS y n a0)) (zS y n a0) rp M R O A)) (cl_q := 0) (sl_q := 0) rfl ?_
  refine fw_gf rfl rfl (rz_g 0 hpre rfl) rfl ?_
  refine ik_Wk 2 (pc_q := 91) (loc_q := [some (.ref 66), some (fI sum), some (fI (r.length : Int)), some (fI (4 * rp + (r.length : Int))), some (fI 4), some (fI (r.length : Int))]) (st_q := [.ref 66, fI (4 * rp + (r.length : Int)), .ref 74]) (h_q := (pre ++ rz_t w wt c tl T n (zS y n a0) (zD y n (zS y n a0)) sd we (zv y n (zS y n a0)) (zS y n a0) rp M R O A)) (cl_q := 0) (sl_q := 0) rfl ?_
  refine fw_gf rfl rfl (rz_g 0 hpre rfl) rfl ?_
  have hl1 : (R.set (4 * rp + (r.length : Int)).toNat (zv y n (zS y n a0))).length = 48 := (List.length_set ..).trans hR
  refine fw_ias (h_q := (pre ++ rz_t w wt c tl T n (zS y n a0) (zD y n (zS y n a0)) sd we (zv y n (zS y n a0)) (zS y n a0) rp M (R.set (4 * rp + (r.length : Int)).toNat (zv y n (zS y n a0))) O A)) rfl (rz_g 8 hpre rfl) (by omega) (by omega) (by omega) (rz_s 8 hpre rfl) ?_
  refine ik_Wk 1 (pc_q := 96) (loc_q := [some (.ref 66), some (fI sum), some (fI (r.length : Int)), some (fI (4 * rp + (r.length : Int))), some (fI 4), some (fI (r.length : Int))]) (st_q := [.ref 66]) (h_q := (pre ++ rz_t w wt c tl T n (zS y n a0) (zD y n (zS y n a0)) sd we (zv y n (zS y n a0)) (zS y n a0) rp M (R.set (4 * rp + (r.length : Int)).toNat (zv y n (zS y n a0))) O A)) (cl_q := 0) (sl_q := 0) rfl ?_
  refine fw_gf rfl rfl (rz_g 0 hpre rfl) rfl ?_
  refine ik_Wk 2 (pc_q := 101) (loc_q := [some (.ref 66), some (fI sum), some (fI (r.length : Int)), some (fI (4 * rp + (r.length : Int))), some (fI 4), some (fI (r.length : Int))]) (st_q := [.ref 66, fI (4 * rp + (r.length : Int)), .ref 76]) (h_q := (pre ++ rz_t w wt c tl T n (zS y n a0) (zD y n (zS y n a0)) sd we (zv y n (zS y n a0)) (zS y n a0) rp M (R.set (4 * rp + (r.length : Int)).toNat (zv y n (zS y n a0))) O A)) (cl_q := 0) (sl_q := 0) rfl ?_
  refine fw_gf rfl rfl (rz_g 0 hpre rfl) rfl ?_
  have hl2 : (A.set (4 * rp + (r.length : Int)).toNat (zS y n a0)).length = 48 := (List.length_set ..).trans hA
  refine fw_ias (h_q := (pre ++ rz_t w wt c tl T n (zS y n a0) (zD y n (zS y n a0)) sd we (zv y n (zS y n a0)) (zS y n a0) rp M (R.set (4 * rp + (r.length : Int)).toNat (zv y n (zS y n a0))) O (A.set (4 * rp + (r.length : Int)).toNat (zS y n a0)))) rfl (rz_g 10 hpre rfl) (by omega) (by omega) (by omega) (rz_s 10 hpre rfl) ?_
  refine ik_Wk 1 (pc_q := 107) (loc_q := [some (.ref 66), some (fI sum), some (fI (r.length : Int)), some (fI (4 * rp + (r.length : Int))), some (fI 4), some (fI (r.length : Int))]) (st_q := [fI 4]) (h_q := (pre ++ rz_t w wt c tl T n (zS y n a0) (zD y n (zS y n a0)) sd we (zv y n (zS y n a0)) (zS y n a0) rp M (R.set (4 * rp + (r.length : Int)).toNat (zv y n (zS y n a0))) O (A.set (4 * rp + (r.length : Int)).toNat (zS y n a0)))) (cl_q := 0) (sl_q := 0) rfl ?_
  refine fw_if_le rfl rfl (by omega) (by omega) (fun hc3 => absurd hc3 (by omega)) (fun hc3 => ?_)
  refine ik_Wk 4 (pc_q := 126) (loc_q := [some (.ref 66), some (fI sum), some (fI (r.length : Int)), some (fI (4 * rp + (r.length : Int))), some (fI 4), some (fI (r.length : Int))]) (st_q := [fI 4]) (h_q := (pre ++ rz_t w wt c tl T n (zS y n a0) (zD y n (zS y n a0)) sd we (zv y n (zS y n a0)) (zS y n a0) rp M (R.set (4 * rp + (r.length : Int)).toNat (zv y n (zS y n a0))) O (A.set (4 * rp + (r.length : Int)).toNat (zS y n a0)))) (cl_q := 0) (sl_q := 0) rfl ?_
  refine fw_if_ne rfl rfl (by omega) (by omega) (fun hc4 => absurd hc4 (by omega)) (fun hc4 => ?_)
  refine ik_Wk 3 (pc_q := 157) (loc_q := [some (.ref 66), some (fI sum), some (fI (r.length : Int)), some (fI (4 * rp + (r.length : Int))), some (fI 4), some (fI (r.length : Int))]) (st_q := [.ref 66]) (h_q := (pre ++ rz_t w wt c tl T n (zS y n a0) (zD y n (zS y n a0)) sd we (zv y n (zS y n a0)) (zS y n a0) rp M (R.set (4 * rp + (r.length : Int)).toNat (zv y n (zS y n a0))) O (A.set (4 * rp + (r.length : Int)).toNat (zS y n a0)))) (cl_q := 0) (sl_q := 0) rfl ?_
  refine fw_gf rfl rfl (rz_g 0 hpre rfl) rfl ?_
  refine ik_Wk 2 (pc_q := 162) (loc_q := [some (.ref 66), some (fI sum), some (fI (r.length : Int)), some (fI (4 * rp + (r.length : Int))), some (fI 4), some (fI (r.length : Int))]) (st_q := [.ref 66, fI (4 * rp + (r.length : Int)), .ref 75]) (h_q := (pre ++ rz_t w wt c tl T n (zS y n a0) (zD y n (zS y n a0)) sd we (zv y n (zS y n a0)) (zS y n a0) rp M (R.set (4 * rp + (r.length : Int)).toNat (zv y n (zS y n a0))) O (A.set (4 * rp + (r.length : Int)).toNat (zS y n a0)))) (cl_q := 0) (sl_q := 0) rfl ?_
  refine fw_gf rfl rfl (rz_g 0 hpre rfl) rfl ?_
  have hl5 : (O.set (4 * rp + (r.length : Int)).toNat (zv y n (zS y n a0))).length = 48 := (List.length_set ..).trans hO
  refine fw_ias (h_q := (pre ++ rz_t w wt c tl T n (zS y n a0) (zD y n (zS y n a0)) sd we (zv y n (zS y n a0)) (zS y n a0) rp M (R.set (4 * rp + (r.length : Int)).toNat (zv y n (zS y n a0))) (O.set (4 * rp + (r.length : Int)).toNat (zv y n (zS y n a0))) (A.set (4 * rp + (r.length : Int)).toNat (zS y n a0)))) rfl (rz_g 9 hpre rfl) (by omega) (by omega) (by omega) (rz_s 9 hpre rfl) ?_
  refine ik_Wk 1 (pc_q := 167) (loc_q := [some (.ref 66), some (fI sum), some (fI (r.length : Int)), some (fI (4 * rp + (r.length : Int))), some (fI 4), some (fI (r.length : Int))]) (st_q := [.ref 66]) (h_q := (pre ++ rz_t w wt c tl T n (zS y n a0) (zD y n (zS y n a0)) sd we (zv y n (zS y n a0)) (zS y n a0) rp M (R.set (4 * rp + (r.length : Int)).toNat (zv y n (zS y n a0))) (O.set (4 * rp + (r.length : Int)).toNat (zv y n (zS y n a0))) (A.set (4 * rp + (r.length : Int)).toNat (zS y n a0)))) (cl_q := 0) (sl_q := 0) rfl ?_
  refine fw_gf rfl rfl (rz_g 0 hpre rfl) rfl ?_
  refine ik_Wk 1 (pc_q := 171) (loc_q := [some (.ref 66), some (fI sum), some (fI (r.length : Int)), some (fI (4 * rp + (r.length : Int))), some (fI 4), some (fI (r.length : Int))]) (st_q := [.ref 66, .ref 73]) (h_q := (pre ++ rz_t w wt c tl T n (zS y n a0) (zD y n (zS y n a0)) sd we (zv y n (zS y n a0)) (zS y n a0) rp M (R.set (4 * rp + (r.length : Int)).toNat (zv y n (zS y n a0))) (O.set (4 * rp + (r.length : Int)).toNat (zv y n (zS y n a0))) (A.set (4 * rp + (r.length : Int)).toNat (zS y n a0)))) (cl_q := 0) (sl_q := 0) rfl ?_
  refine fw_gf rfl rfl (rz_g 0 hpre rfl) rfl ?_
  refine ik_Wk 1 (pc_q := 175) (loc_q := [some (.ref 66), some (fI sum), some (fI (r.length : Int)), some (fI (4 * rp + (r.length : Int))), some (fI 4), some (fI (r.length : Int))]) (st_q := [fI rp, .ref 73, fI rp, .ref 73]) (h_q := (pre ++ rz_t w wt c tl T n (zS y n a0) (zD y n (zS y n a0)) sd we (zv y n (zS y n a0)) (zS y n a0) rp M (R.set (4 * rp + (r.length : Int)).toNat (zv y n (zS y n a0))) (O.set (4 * rp + (r.length : Int)).toNat (zv y n (zS y n a0))) (A.set (4 * rp + (r.length : Int)).toNat (zS y n a0)))) (cl_q := 0) (sl_q := 0) rfl ?_
  refine fw_ial rfl (rz_g 7 hpre rfl) (by omega) (by omega) (by omega) ?_
  rw [hcnt]
  refine ik_Wk 1 (pc_q := 177) (loc_q := [some (.ref 66), some (fI sum), some (fI (r.length : Int)), some (fI (4 * rp + (r.length : Int))), some (fI 4), some (fI (r.length : Int))]) (st_q := [fI 1, fI (r.length : Int), fI rp, .ref 73]) (h_q := (pre ++ rz_t w wt c tl T n (zS y n a0) (zD y n (zS y n a0)) sd we (zv y n (zS y n a0)) (zS y n a0) rp M (R.set (4 * rp + (r.length : Int)).toNat (zv y n (zS y n a0))) (O.set (4 * rp + (r.length : Int)).toNat (zv y n (zS y n a0))) (A.set (4 * rp + (r.length : Int)).toNat (zS y n a0)))) (cl_q := 0) (sl_q := 0) rfl ?_
  refine fw_add rfl ?_
  have hl6 : (M.set rp.toNat ((r.length : Int) + 1)).length = 12 := (List.length_set ..).trans hM
  refine fw_ias (h_q := (pre ++ rz_t w wt c tl T n (zS y n a0) (zD y n (zS y n a0)) sd we (zv y n (zS y n a0)) (zS y n a0) rp (M.set rp.toNat ((r.length : Int) + 1)) (R.set (4 * rp + (r.length : Int)).toNat (zv y n (zS y n a0))) (O.set (4 * rp + (r.length : Int)).toNat (zv y n (zS y n a0))) (A.set (4 * rp + (r.length : Int)).toNat (zS y n a0)))) rfl (rz_g 7 hpre rfl) (by omega) (by omega) (by omega) (rz_s 7 hpre rfl) ?_
  refine ik_Wk 1 (pc_q := 181) (loc_q := [some (.ref 66), some (fI sum), some (fI (r.length : Int)), some (fI (4 * rp + (r.length : Int))), some (fI 4), some (fI (r.length : Int))]) (st_q := [fI 4]) (h_q := (pre ++ rz_t w wt c tl T n (zS y n a0) (zD y n (zS y n a0)) sd we (zv y n (zS y n a0)) (zS y n a0) rp (M.set rp.toNat ((r.length : Int) + 1)) (R.set (4 * rp + (r.length : Int)).toNat (zv y n (zS y n a0))) (O.set (4 * rp + (r.length : Int)).toNat (zv y n (zS y n a0))) (A.set (4 * rp + (r.length : Int)).toNat (zS y n a0)))) (cl_q := 0) (sl_q := 0) rfl ?_
  exact ik_Wret rfl rfl ⟨_, _, rfl, rfl, rfl, rfl, (Or.inr ⟨_, _, _, _, _, _, _, _, _, Or.inr (Or.inl ⟨hg1, hany, rfl, rfl⟩), rfl, hl6, hl1, hl5, hl2, by omega, by omega, rfl⟩)⟩

theorem rz_mvL {pre tl : List ik_E} {w : Nat → Value} {wt : List Value} {c : Nat → ik_E} {y : Int → Int} {T : List Int} {n fp sd we rp : Int} {M R O A : List Int} (ok : rz_ok y T n pre tl) {a0 sum : Int} {r : List zM} (hM : M.length = (12 : Nat)) (hR : R.length = (48 : Nat)) (hO : O.length = (48 : Nat)) (hA : A.length = (48 : Nat)) (hrp : 0 ≤ rp) (hrp2 : rp ≤ 10) (hcnt : M.getD rp.toNat 0 = (r.length : Int)) (hrl : r.length ≤ 3) (hz : ∀ k : Int, (0 : Int) ≤ k → k < (r.length : Int) → R.getD (4 * rp + k).toNat 0 = (r.getD k.toNat (0, 0, 0)).1 ∧ 0 ≤ (r.getD k.toNat (0, 0, 0)).1 ∧ (r.getD k.toNat (0, 0, 0)).1 ≤ 11) (hs0 : (0 : Int) ≤ sum) (hs1 : sum ≤ (100 : Int)) (h0 : (0 : Int) ≤ a0) (h1 : a0 ≤ n) (hg1 : znum y n 0 11 (zS y n a0) = 0) : ∀ (d : Nat) (i f fq : Int), ((r.length : Int) - i).toNat = d → (0 : Int) ≤ i → i ≤ (r.length : Int) → ((f = 0 ∧ fq = fp ∧ ∀ j : Int, (r.length : Int) - i ≤ j → j < (r.length : Int) → ¬ (r.getD j.toNat (0, 0, 0)).1 = zv y n (zS y n a0)) ∨ (f = 4 ∧ fq = zS y n a0 ∧ (r.any fun m => decide (m.1 = zv y n (zS y n a0))) = true)) → ik_G 143 39 [some (.ref 66), some (fI sum), some (fI (r.length : Int)), some (fI (4 * rp + (r.length : Int))), some (fI f), some (fI i)] [] (pre ++ rz_t w wt c tl T n fq (zD y n (zS y n a0)) sd we (zv y n (zS y n a0)) (zS y n a0) rp M R O A) (fun rv h_q => (znum y n 0 11 (zS y n a0) = 0 ∧ (r.any fun m => decide (m.1 = zv y n (zS y n a0))) = false ∧ znum y n 1 100 (zS y n (zD y n (zS y n a0))) = 0 ∧ sum + zv y n (zS y n (zD y n (zS y n a0))) ≤ 100 ∧ rv = [fI 0] ∧ h_q = (pre ++ rz_t w wt c tl T n fp (zD y n (zS y n (zD y n (zS y n a0)))) sd we (zv y n (zS y n (zD y n (zS y n a0)))) (zS y n (zD y n (zS y n a0))) rp (M.set rp.toNat ((r.length : Int) + 1)) (R.set (4 * rp + (r.length : Int)).toNat (zv y n (zS y n a0))) (O.set (4 * rp + (r.length : Int)).toNat (zv y n (zS y n (zD y n (zS y n a0))))) (A.set (4 * rp + (r.length : Int)).toNat (zS y n a0)))) ∨ (∃ (f a a' nu' na' : Int) (M' R' O' A' : List Int), zmf y n r sum a0 f a ∧ rv = [fI f] ∧ M'.length = (12 : Nat) ∧ R'.length = (48 : Nat) ∧ O'.length = (48 : Nat) ∧ A'.length = (48 : Nat) ∧ (0 : Int) ≤ a' ∧ a' ≤ n ∧ h_q = (pre ++ rz_t w wt c tl T n a a' sd we nu' na' rp M' R' O' A'))) := by
  have ok' := ok
  obtain ⟨hpre, htl, hT, bT, hn, hn2, hy⟩ := ok'
  have hgv := znum0 hg1
  have hz1 := zS_ge (y := y) (n := n) a0
  have hz2 := zS_le (y := y) (n := n) (i := a0) h1
  have hz3 := zD_ge (y := y) (n := n) (zS y n a0)
  have hz4 := zD_le (y := y) (n := n) (i := zS y n a0) hz2
  intro d
  induction d using Nat.strongRecOn with
  | _ d ih =>
    intro i f fq hk hi0 hi1 hst
    refine ik_Wk 2 (pc_q := 42) (loc_q := [some (.ref 66), some (fI sum), some (fI (r.length : Int)), some (fI (4 * rp + (r.length : Int))), some (fI f), some (fI i)]) (st_q := [fI (r.length : Int), fI i]) (h_q := (pre ++ rz_t w wt c tl T n fq (zD y n (zS y n a0)) sd we (zv y n (zS y n a0)) (zS y n a0) rp M R O A)) (cl_q := 0) (sl_q := 0) rfl ?_
    refine fw_ic_ge rfl rfl (by omega) (by omega) (by omega) (by omega) (fun hc1 => ?_) (fun hc1 => ?_)
    · have ei : i = (r.length : Int) := by omega
      subst ei
      rcases hst with ⟨rfl, rfl, q⟩ | ⟨rfl, rfl, q⟩
      · exact rz_mv85_0 ok hM hR hO hA hrp hrp2 hcnt hrl hz hs0 hs1 h0 h1 hg1 (zany_f (fun k k0 k1 => q k (by omega) k1))
      · exact rz_mv85_4 ok hM hR hO hA hrp hrp2 hcnt hrl hz hs0 hs1 h0 h1 hg1 q
    · refine ik_Wk 1 (pc_q := 46) (loc_q := [some (.ref 66), some (fI sum), some (fI (r.length : Int)), some (fI (4 * rp + (r.length : Int))), some (fI f), some (fI i)]) (st_q := [.ref 66]) (h_q := (pre ++ rz_t w wt c tl T n fq (zD y n (zS y n a0)) sd we (zv y n (zS y n a0)) (zS y n a0) rp M R O A)) (cl_q := 0) (sl_q := 0) rfl ?_
      refine fw_gf rfl rfl (rz_g 0 hpre rfl) rfl ?_
      refine ik_Wk 2 (pc_q := 51) (loc_q := [some (.ref 66), some (fI sum), some (fI (r.length : Int)), some (fI (4 * rp + (r.length : Int))), some (fI f), some (fI i)]) (st_q := [fI 1, fI (4 * rp + (r.length : Int)), .ref 74]) (h_q := (pre ++ rz_t w wt c tl T n fq (zD y n (zS y n a0)) sd we (zv y n (zS y n a0)) (zS y n a0) rp M R O A)) (cl_q := 0) (sl_q := 0) rfl ?_
      refine fw_sub rfl ?_
      refine ik_Wk 1 (pc_q := 54) (loc_q := [some (.ref 66), some (fI sum), some (fI (r.length : Int)), some (fI (4 * rp + (r.length : Int))), some (fI f), some (fI i)]) (st_q := [fI i, fI ((4 * rp + (r.length : Int)) - 1), .ref 74]) (h_q := (pre ++ rz_t w wt c tl T n fq (zD y n (zS y n a0)) sd we (zv y n (zS y n a0)) (zS y n a0) rp M R O A)) (cl_q := 0) (sl_q := 0) rfl ?_
      refine fw_sub rfl ?_
      refine fw_ial rfl (rz_g 8 hpre rfl) (by omega) (by omega) (by omega) ?_
      have ez : (4 * rp + (r.length : Int) - 1 - i).toNat = (4 * rp + ((r.length : Int) - 1 - i)).toNat := by omega
      have hzk := hz ((r.length : Int) - 1 - i) (by omega) (by omega)
      rw [← ez] at hzk
      refine ik_Wk 1 (pc_q := 57) (loc_q := [some (.ref 66), some (fI sum), some (fI (r.length : Int)), some (fI (4 * rp + (r.length : Int))), some (fI f), some (fI i)]) (st_q := [.ref 66, fI (R.getD (((4 * rp + (r.length : Int)) - 1) - i).toNat 0)]) (h_q := (pre ++ rz_t w wt c tl T n fq (zD y n (zS y n a0)) sd we (zv y n (zS y n a0)) (zS y n a0) rp M R O A)) (cl_q := 0) (sl_q := 0) rfl ?_
      refine fw_gf rfl rfl (rz_g 0 hpre rfl) rfl ?_
      refine fw_ic_ne rfl rfl (by omega) (by omega) (by omega) (by omega) (fun hc2 => ?_) (fun hc2 => ?_)
      · refine ik_Wk 3 (pc_q := 66) (loc_q := [some (.ref 66), some (fI sum), some (fI (r.length : Int)), some (fI (4 * rp + (r.length : Int))), some (fI f), some (fI i)]) (st_q := [.ref 66, fI 4, .ref 66]) (h_q := (pre ++ rz_t w wt c tl T n fq (zD y n (zS y n a0)) sd we (zv y n (zS y n a0)) (zS y n a0) rp M R O A)) (cl_q := 0) (sl_q := 0) rfl ?_
        refine fw_gf rfl rfl (rz_g 0 hpre rfl) rfl ?_
        refine fw_call 137 3 0 [.ref 66, fI 4, fI (zS y n a0)] [] rfl rfl rfl (Nat.le_of_ble_eq_true rfl) rfl rfl (fw_rec (rz_len hpre htl) rfl (rz_g 0 hpre rfl) rfl (by decide)) (rz_fails ok) ?_
        rintro rv h_q ⟨rfl, rfl⟩
        refine ik_Wk 0 (pc_q := 72) (loc_q := [some (.ref 66), some (fI sum), some (fI (r.length : Int)), some (fI (4 * rp + (r.length : Int))), some (fI f), some (fI i)]) (st_q := [fI 4]) (h_q := (pre ++ rz_t w wt c tl T n (zS y n a0) (zD y n (zS y n a0)) sd we (zv y n (zS y n a0)) (zS y n a0) rp M R O A)) (cl_q := 0) (sl_q := 0) rfl ?_
        refine ik_Wk 2 (pc_q := 79) (loc_q := [some (.ref 66), some (fI sum), some (fI (r.length : Int)), some (fI (4 * rp + (r.length : Int))), some (fI 4), some (fI i)]) (st_q := []) (h_q := (pre ++ rz_t w wt c tl T n (zS y n a0) (zD y n (zS y n a0)) sd we (zv y n (zS y n a0)) (zS y n a0) rp M R O A)) (cl_q := 0) (sl_q := 0) rfl ?_
        refine fw_inc (a := i) (loc_q := [some (.ref 66), some (fI sum), some (fI (r.length : Int)), some (fI (4 * rp + (r.length : Int))), some (fI 4), some (fI (i + 1))]) rfl rfl (Nat.le_of_ble_eq_true rfl) rfl ?_
        refine ik_Wk 1 (pc_q := 39) (loc_q := [some (.ref 66), some (fI sum), some (fI (r.length : Int)), some (fI (4 * rp + (r.length : Int))), some (fI 4), some (fI (i + 1))]) (st_q := []) (h_q := (pre ++ rz_t w wt c tl T n (zS y n a0) (zD y n (zS y n a0)) sd we (zv y n (zS y n a0)) (zS y n a0) rp M R O A)) (cl_q := 0) (sl_q := 0) rfl ?_
        skip
        exact ih _ (by omega) (i + 1) 4 _ rfl (by omega) (by omega) (Or.inr ⟨rfl, rfl, zany_t (k := (r.length : Int) - 1 - i) (by omega) (by omega) (by omega)⟩)
      · refine ik_Wk 2 (pc_q := 79) (loc_q := [some (.ref 66), some (fI sum), some (fI (r.length : Int)), some (fI (4 * rp + (r.length : Int))), some (fI f), some (fI i)]) (st_q := []) (h_q := (pre ++ rz_t w wt c tl T n fq (zD y n (zS y n a0)) sd we (zv y n (zS y n a0)) (zS y n a0) rp M R O A)) (cl_q := 0) (sl_q := 0) rfl ?_
        refine fw_inc (a := i) (loc_q := [some (.ref 66), some (fI sum), some (fI (r.length : Int)), some (fI (4 * rp + (r.length : Int))), some (fI f), some (fI (i + 1))]) rfl rfl (Nat.le_of_ble_eq_true rfl) rfl ?_
        refine ik_Wk 1 (pc_q := 39) (loc_q := [some (.ref 66), some (fI sum), some (fI (r.length : Int)), some (fI (4 * rp + (r.length : Int))), some (fI f), some (fI (i + 1))]) (st_q := []) (h_q := (pre ++ rz_t w wt c tl T n fq (zD y n (zS y n a0)) sd we (zv y n (zS y n a0)) (zS y n a0) rp M R O A)) (cl_q := 0) (sl_q := 0) rfl ?_
        skip
        exact ih _ (by omega) (i + 1) f fq rfl (by omega) (by omega) (by rcases hst with ⟨a, b, q⟩ | q; (exact Or.inl ⟨a, b, fun j j0 j1 => by by_cases e : j = (r.length : Int) - 1 - i; (subst e; omega); exact q j (by omega) j1⟩); exact Or.inr q)

theorem rz_mv {pre tl : List ik_E} {w : Nat → Value} {wt : List Value} {c : Nat → ik_E} {y : Int → Int} {T : List Int} {n fp sd we nu na rp : Int} {M R O A : List Int} (ok : rz_ok y T n pre tl) {a0 sum : Int} {r : List zM} (hM : M.length = (12 : Nat)) (hR : R.length = (48 : Nat)) (hO : O.length = (48 : Nat)) (hA : A.length = (48 : Nat)) (hrp : 0 ≤ rp) (hrp2 : rp ≤ 10) (hcnt : M.getD rp.toNat 0 = (r.length : Int)) (hrl : r.length ≤ 3) (hz : ∀ k : Int, (0 : Int) ≤ k → k < (r.length : Int) → R.getD (4 * rp + k).toNat 0 = (r.getD k.toNat (0, 0, 0)).1 ∧ 0 ≤ (r.getD k.toNat (0, 0, 0)).1 ∧ (r.getD k.toNat (0, 0, 0)).1 ≤ 11) (hs0 : (0 : Int) ≤ sum) (hs1 : sum ≤ (100 : Int)) (h0 : (0 : Int) ≤ a0) (h1 : a0 ≤ n) : ik_F 143 [.ref 66, fI sum] (pre ++ rz_t w wt c tl T n fp a0 sd we nu na rp M R O A) (fun rv h_q => (znum y n 0 11 (zS y n a0) = 0 ∧ (r.any fun m => decide (m.1 = zv y n (zS y n a0))) = false ∧ znum y n 1 100 (zS y n (zD y n (zS y n a0))) = 0 ∧ sum + zv y n (zS y n (zD y n (zS y n a0))) ≤ 100 ∧ rv = [fI 0] ∧ h_q = (pre ++ rz_t w wt c tl T n fp (zD y n (zS y n (zD y n (zS y n a0)))) sd we (zv y n (zS y n (zD y n (zS y n a0)))) (zS y n (zD y n (zS y n a0))) rp (M.set rp.toNat ((r.length : Int) + 1)) (R.set (4 * rp + (r.length : Int)).toNat (zv y n (zS y n a0))) (O.set (4 * rp + (r.length : Int)).toNat (zv y n (zS y n (zD y n (zS y n a0))))) (A.set (4 * rp + (r.length : Int)).toNat (zS y n a0)))) ∨ (∃ (f a a' nu' na' : Int) (M' R' O' A' : List Int), zmf y n r sum a0 f a ∧ rv = [fI f] ∧ M'.length = (12 : Nat) ∧ R'.length = (48 : Nat) ∧ O'.length = (48 : Nat) ∧ A'.length = (48 : Nat) ∧ (0 : Int) ≤ a' ∧ a' ≤ n ∧ h_q = (pre ++ rz_t w wt c tl T n a a' sd we nu' na' rp M' R' O' A'))) := by
  have ok' := ok
  obtain ⟨hpre, htl, hT, bT, hn, hn2, hy⟩ := ok'
  refine ik_Wk 1 (pc_q := 1) (loc_q := [some (.ref 66), some (fI sum), none, none, none, none]) (st_q := [.ref 66]) (h_q := (pre ++ rz_t w wt c tl T n fp a0 sd we nu na rp M R O A)) (cl_q := 0) (sl_q := 0) rfl ?_
  refine fw_gf rfl rfl (rz_g 0 hpre rfl) rfl ?_
  refine ik_Wk 1 (pc_q := 5) (loc_q := [some (.ref 66), some (fI sum), none, none, none, none]) (st_q := [.ref 66, .ref 73]) (h_q := (pre ++ rz_t w wt c tl T n fp a0 sd we nu na rp M R O A)) (cl_q := 0) (sl_q := 0) rfl ?_
  refine fw_gf rfl rfl (rz_g 0 hpre rfl) rfl ?_
  refine fw_ial rfl (rz_g 7 hpre rfl) (by omega) (by omega) (by omega) ?_
  rw [hcnt]
  refine ik_Wk 3 (pc_q := 12) (loc_q := [some (.ref 66), some (fI sum), some (fI (r.length : Int)), none, none, none]) (st_q := [.ref 66, fI 4]) (h_q := (pre ++ rz_t w wt c tl T n fp a0 sd we nu na rp M R O A)) (cl_q := 0) (sl_q := 0) rfl ?_
  refine fw_gf rfl rfl (rz_g 0 hpre rfl) rfl ?_
  refine fw_mul rfl ?_
  refine ik_Wk 1 (pc_q := 17) (loc_q := [some (.ref 66), some (fI sum), some (fI (r.length : Int)), none, none, none]) (st_q := [fI (r.length : Int), fI (4 * rp)]) (h_q := (pre ++ rz_t w wt c tl T n fp a0 sd we nu na rp M R O A)) (cl_q := 0) (sl_q := 0) rfl ?_
  refine fw_add rfl ?_
  refine ik_Wk 3 (pc_q := 21) (loc_q := [some (.ref 66), some (fI sum), some (fI (r.length : Int)), some (fI ((4 * rp) + (r.length : Int))), none, none]) (st_q := [fI 0, .ref 66]) (h_q := (pre ++ rz_t w wt c tl T n fp a0 sd we nu na rp M R O A)) (cl_q := 0) (sl_q := 0) rfl ?_
  refine fw_bi rfl (by decide) ?_
  refine fw_call 141 3 0 [.ref 66, fI 0, fI 11] [] rfl rfl rfl (Nat.le_of_ble_eq_true rfl) rfl rfl (fw_rec (rz_len hpre htl) rfl (rz_g 0 hpre rfl) rfl (by decide)) (rz_num ok (by omega) (by omega) (by decide) (by decide) (by decide)) ?_
  rintro rv h_q (⟨hn1, rfl, rfl⟩ | ⟨hn1, rfl, a', nu', na', hn2a, hn2b, rfl⟩)
  · have hn2 := znum0 hn1
    have hz3 := zS_ge (y := y) (n := n) a0
    have hz4 := zS_le (y := y) (n := n) (i := a0) (by omega)
    have hz5 := zD_ge (y := y) (n := n) (zS y n a0)
    have hz6 := zD_le (y := y) (n := n) (i := zS y n a0) (by omega)
    refine ik_Wk 0 (pc_q := 26) (loc_q := [some (.ref 66), some (fI sum), some (fI (r.length : Int)), some (fI ((4 * rp) + (r.length : Int))), none, none]) (st_q := [fI 0]) (h_q := (pre ++ rz_t w wt c tl T n fp (zD y n (zS y n a0)) sd we (zv y n (zS y n a0)) (zS y n a0) rp M R O A)) (cl_q := 0) (sl_q := 0) rfl ?_
    refine ik_Wk 2 (pc_q := 30) (loc_q := [some (.ref 66), some (fI sum), some (fI (r.length : Int)), some (fI ((4 * rp) + (r.length : Int))), some (fI 0), none]) (st_q := [fI 0]) (h_q := (pre ++ rz_t w wt c tl T n fp (zD y n (zS y n a0)) sd we (zv y n (zS y n a0)) (zS y n a0) rp M R O A)) (cl_q := 0) (sl_q := 0) rfl ?_
    refine fw_if_le rfl rfl (by omega) (by omega) (fun hc7 => ?_) (fun hc7 => absurd hc7 (by omega))
    refine ik_Wk 2 (pc_q := 39) (loc_q := [some (.ref 66), some (fI sum), some (fI (r.length : Int)), some (fI ((4 * rp) + (r.length : Int))), some (fI 0), some (fI 0)]) (st_q := []) (h_q := (pre ++ rz_t w wt c tl T n fp (zD y n (zS y n a0)) sd we (zv y n (zS y n a0)) (zS y n a0) rp M R O A)) (cl_q := 0) (sl_q := 0) rfl ?_
    exact rz_mvL ok hM hR hO hA hrp hrp2 hcnt hrl hz hs0 hs1 h0 h1 (by assumption) _ 0 0 fp rfl (by omega) (by omega) (Or.inl ⟨rfl, rfl, fun j j0 j1 => absurd j1 (by omega)⟩)
  · have hz8 := znumR (y := y) (n := n) (lo := 0) (hi := 11) (s := zS y n a0)
    refine ik_Wk 0 (pc_q := 26) (loc_q := [some (.ref 66), some (fI sum), some (fI (r.length : Int)), some (fI ((4 * rp) + (r.length : Int))), none, none]) (st_q := [fI (znum y n 0 11 (zS y n a0))]) (h_q := (pre ++ rz_t w wt c tl T n (zS y n a0) a' sd we nu' na' rp M R O A)) (cl_q := 0) (sl_q := 0) rfl ?_
    refine ik_Wk 2 (pc_q := 30) (loc_q := [some (.ref 66), some (fI sum), some (fI (r.length : Int)), some (fI ((4 * rp) + (r.length : Int))), some (fI (znum y n 0 11 (zS y n a0))), none]) (st_q := [fI (znum y n 0 11 (zS y n a0))]) (h_q := (pre ++ rz_t w wt c tl T n (zS y n a0) a' sd we nu' na' rp M R O A)) (cl_q := 0) (sl_q := 0) rfl ?_
    refine fw_if_le rfl rfl (by omega) (by omega) (fun hc9 => absurd hc9 (by omega)) (fun hc9 => ?_)
    refine ik_Wk 1 (pc_q := 35) (loc_q := [some (.ref 66), some (fI sum), some (fI (r.length : Int)), some (fI ((4 * rp) + (r.length : Int))), some (fI (znum y n 0 11 (zS y n a0))), none]) (st_q := [fI (znum y n 0 11 (zS y n a0))]) (h_q := (pre ++ rz_t w wt c tl T n (zS y n a0) a' sd we nu' na' rp M R O A)) (cl_q := 0) (sl_q := 0) rfl ?_
    exact ik_Wret rfl rfl ⟨_, _, rfl, rfl, rfl, rfl, (Or.inr ⟨_, _, a', nu', na', M, R, O, A, Or.inl ⟨hn1, rfl, rfl⟩, rfl, hM, hR, hO, hA, by omega, by omega, rfl⟩)⟩

/-! 38p.rz -/
def rz_RM (pre tl : List ik_E) (w : Nat → Value) (wt : List Value) (c : Nat → ik_E) (T : List Int) (n fp rp : Int) (M R O A : List Int) (res : (Int × Int) ⊕ (List zM × Int)) (rv : List Value) (h_q : List ik_E) : Prop := match res with
  | .inl e => rv = [fI e.1] ∧ 1 ≤ e.1 ∧ e.1 ≤ 6 ∧ ∃ (a' sd' we' nu' na' : Int) (M' R' O' A' : List Int), M'.length = 12 ∧ R'.length = 48 ∧ O'.length = 48 ∧ A'.length = 48 ∧ 0 ≤ a' ∧ a' ≤ n ∧ h_q = pre ++ rz_t w wt c tl T n e.2 a' sd' we' nu' na' rp M' R' O' A'
  | .inr q => rv = [fI 0] ∧ ∃ (sd' we' nu' na' : Int) (M' R' O' A' : List Int), M'.length = 12 ∧ R'.length = 48 ∧ O'.length = 48 ∧ A'.length = 48 ∧ 0 ≤ q.2 ∧ q.2 ≤ n ∧ h_q = pre ++ rz_t w wt c tl T n fp q.2 sd' we' nu' na' (rp + 1) M' R' O' A' ∧ M'.getD rp.toNat 0 = (q.1.length : Int) ∧ (∀ j : Nat, ¬ j = rp.toNat → M'.getD j 0 = M.getD j 0) ∧ zh R' O' A' rp.toNat q.1 ∧ zag (4 * rp.toNat) R R' ∧ zag (4 * rp.toNat) O O' ∧ zag (4 * rp.toNat) A A' ∧ zrow q.1 ∧ q.1.length ≤ 4
theorem zh_hr {G P B : List Int} {p : Int} {r : List zM} (hp : 0 ≤ p) (h : zh G P B p.toNat r) (hr : zrow r) : ∀ k : Int, (0 : Int) ≤ k → k < (r.length : Int) → G.getD (4 * p + k).toNat 0 = (r.getD k.toNat (0, 0, 0)).1 ∧ 0 ≤ (r.getD k.toNat (0, 0, 0)).1 ∧ (r.getD k.toNat (0, 0, 0)).1 ≤ 11 := by
  intro k h0 h1
  have := zh_hz hp h hr k h0 h1
  rw [show 4 * p + k = p * 4 + k by omega]
  exact this

theorem rz_plE {pre tl : List ik_E} {w : Nat → Value} {wt : List Value} {c : Nat → ik_E} {y : Int → Int} {T : List Int} {n fp rp : Int} {M0 R0 O0 A0 : List Int} (ok : rz_ok y T n pre tl) {nu na cur sum : Int} {M R O A : List Int} {r : List zM} {w4 : Option Value} {k : Nat} (hrp : 0 ≤ rp) (hrp2 : rp ≤ 10) (hrl : r.length ≤ 4) (hw : ik_wl 94 w4 = true) (hM : M.length = (12 : Nat)) (hR : R.length = (48 : Nat)) (hO : O.length = (48 : Nat)) (hA : A.length = (48 : Nat)) (hcnt : M.getD rp.toNat 0 = (r.length : Int)) (hmj : ∀ j : Nat, ¬ j = rp.toNat → M.getD j 0 = M0.getD j 0) (hz : zh R O A rp.toNat r) (ag : zag (4 * rp.toNat) R0 R) (ap : zag (4 * rp.toNat) O0 O) (ab : zag (4 * rp.toNat) A0 A) (hr : zrow r) (hs0 : (0 : Int) ≤ sum) (hs1 : sum ≤ (100 : Int)) (h0 : (0 : Int) ≤ cur) (h1 : cur ≤ n) (hto : zto y n (zS y n cur) = false) (hne : r ≠ []) : ik_G 144 52 [some (.ref 66), some (fI sum), some (fI (zS y n cur)), some (fI 0), w4] [] (pre ++ rz_t w wt c tl T n fp (zS y n cur) (zsd y (zS y n cur) (zE y n (zS y n cur) - zS y n cur).toNat) (zE y n (zS y n cur)) nu na rp M R O A) (rz_RM pre tl w wt c T n fp rp M0 R0 O0 A0 (zmv y n (k + 1) r sum cur)) := by
  have ok' := ok
  obtain ⟨hpre, htl, hT, bT, hn, hn2, hy⟩ := ok'
  have hz1 := zS_ge (y := y) (n := n) cur
  have hz2 := zS_le (y := y) (n := n) (i := cur) h1
  refine ik_Wk 1 (pc_q := 53) (loc_q := [some (.ref 66), some (fI sum), some (fI (zS y n cur)), some (fI 0), w4]) (st_q := [fI 0]) (h_q := (pre ++ rz_t w wt c tl T n fp (zS y n cur) (zsd y (zS y n cur) (zE y n (zS y n cur) - zS y n cur).toNat) (zE y n (zS y n cur)) nu na rp M R O A)) (cl_q := 0) (sl_q := 0) rfl ?_
  refine fw_if_eq rfl rfl (by omega) (by omega) (fun hc1 => ?_) (fun hc1 => absurd hc1 (by omega))
  refine ik_Wk 1 (pc_q := 136) (loc_q := [some (.ref 66), some (fI sum), some (fI (zS y n cur)), some (fI 0), w4]) (st_q := [.ref 66]) (h_q := (pre ++ rz_t w wt c tl T n fp (zS y n cur) (zsd y (zS y n cur) (zE y n (zS y n cur) - zS y n cur).toNat) (zE y n (zS y n cur)) nu na rp M R O A)) (cl_q := 0) (sl_q := 0) rfl ?_
  refine fw_call 136 1 0 [.ref 66] [] rfl rfl rfl (Nat.le_of_ble_eq_true rfl) rfl rfl (fw_rec (rz_len hpre htl) (fw_ftw (l0 := [some (.ref 66), some (fI sum), some (fI (zS y n cur)), some (fI 0)]) hw rfl) (rz_g 0 hpre rfl) rfl (by decide)) (rz_here ok (by omega) (by omega)) ?_
  rw [zS_idem]
  rintro rv h_q ⟨⟨ht2, rfl⟩ | ⟨ht2, rfl⟩, rfl⟩
  · have hb3 := bT (zS y n cur) (by omega) (by omega)
    have hb4 := hy (zS y n cur) (by omega) (by omega)
    refine ik_Wk 0 (pc_q := 139) (loc_q := [some (.ref 66), some (fI sum), some (fI (zS y n cur)), some (fI 0), w4]) (st_q := [fI (y (zS y n cur))]) (h_q := (pre ++ rz_t w wt c tl T n fp (zS y n cur) (zsd y (zS y n cur) (zE y n (zS y n cur) - zS y n cur).toNat) (zE y n (zS y n cur)) nu na rp M R O A)) (cl_q := 0) (sl_q := 0) rfl ?_
    refine fw_bi rfl (by decide) ?_
    refine fw_ic_eq rfl rfl (by omega) (by omega) (by omega) (by omega) (fun hc5 => ?_) (fun hc5 => ?_)
    · refine ik_Wk 1 (pc_q := 155) (loc_q := [some (.ref 66), some (fI sum), some (fI (zS y n cur)), some (fI 0), w4]) (st_q := [fI sum]) (h_q := (pre ++ rz_t w wt c tl T n fp (zS y n cur) (zsd y (zS y n cur) (zE y n (zS y n cur) - zS y n cur).toNat) (zE y n (zS y n cur)) nu na rp M R O A)) (cl_q := 0) (sl_q := 0) rfl ?_
      refine fw_bi rfl (by decide) ?_
      refine fw_ic_ge rfl rfl (by omega) (by omega) (by omega) (by omega) (fun hc6 => ?_) (fun hc6 => ?_)
      · refine ik_Wk 2 (pc_q := 172) (loc_q := [some (.ref 66), some (fI sum), some (fI (zS y n cur)), some (fI 0), w4]) (st_q := [.ref 66, .ref 66]) (h_q := (pre ++ rz_t w wt c tl T n fp (zS y n cur) (zsd y (zS y n cur) (zE y n (zS y n cur) - zS y n cur).toNat) (zE y n (zS y n cur)) nu na rp M R O A)) (cl_q := 0) (sl_q := 0) rfl ?_
        refine fw_gf rfl rfl (rz_g 0 hpre rfl) rfl ?_
        refine ik_Wk 1 (pc_q := 176) (loc_q := [some (.ref 66), some (fI sum), some (fI (zS y n cur)), some (fI 0), w4]) (st_q := [fI 1, fI (zS y n cur), .ref 66]) (h_q := (pre ++ rz_t w wt c tl T n fp (zS y n cur) (zsd y (zS y n cur) (zE y n (zS y n cur) - zS y n cur).toNat) (zE y n (zS y n cur)) nu na rp M R O A)) (cl_q := 0) (sl_q := 0) rfl ?_
        refine fw_add rfl ?_
        refine fw_pf (h_q := (pre ++ rz_t w wt c tl T n fp ((zS y n cur) + 1) (zsd y (zS y n cur) (zE y n (zS y n cur) - zS y n cur).toNat) (zE y n (zS y n cur)) nu na rp M R O A)) rfl rfl (rz_g 0 hpre rfl) (Nat.le_of_ble_eq_true rfl) rfl rfl (rz_s 0 hpre rfl) ?_
        refine ik_Wk 2 (pc_q := 182) (loc_q := [some (.ref 66), some (fI sum), some (fI (zS y n cur)), some (fI 0), w4]) (st_q := [.ref 66, .ref 66]) (h_q := (pre ++ rz_t w wt c tl T n fp ((zS y n cur) + 1) (zsd y (zS y n cur) (zE y n (zS y n cur) - zS y n cur).toNat) (zE y n (zS y n cur)) nu na rp M R O A)) (cl_q := 0) (sl_q := 0) rfl ?_
        refine fw_gf rfl rfl (rz_g 0 hpre rfl) rfl ?_
        refine ik_Wk 1 (pc_q := 186) (loc_q := [some (.ref 66), some (fI sum), some (fI (zS y n cur)), some (fI 0), w4]) (st_q := [fI 1, fI rp, .ref 66]) (h_q := (pre ++ rz_t w wt c tl T n fp ((zS y n cur) + 1) (zsd y (zS y n cur) (zE y n (zS y n cur) - zS y n cur).toNat) (zE y n (zS y n cur)) nu na rp M R O A)) (cl_q := 0) (sl_q := 0) rfl ?_
        refine fw_add rfl ?_
        refine fw_pf (h_q := (pre ++ rz_t w wt c tl T n fp ((zS y n cur) + 1) (zsd y (zS y n cur) (zE y n (zS y n cur) - zS y n cur).toNat) (zE y n (zS y n cur)) nu na (rp + 1) M R O A)) rfl rfl (rz_g 0 hpre rfl) (Nat.le_of_ble_eq_true rfl) rfl rfl (rz_s 0 hpre rfl) ?_
        refine ik_Wk 1 (pc_q := 191) (loc_q := [some (.ref 66), some (fI sum), some (fI (zS y n cur)), some (fI 0), w4]) (st_q := [fI 0]) (h_q := (pre ++ rz_t w wt c tl T n fp ((zS y n cur) + 1) (zsd y (zS y n cur) (zE y n (zS y n cur) - zS y n cur).toNat) (zE y n (zS y n cur)) nu na (rp + 1) M R O A)) (cl_q := 0) (sl_q := 0) rfl ?_
        rw [zmv, if_neg (by rw [hto]; decide), if_pos ⟨hne, by omega, by omega⟩, if_pos (by omega)]
        exact ik_Wret rfl rfl ⟨_, _, rfl, rfl, rfl, rfl, ⟨rfl, _, _, _, _, M, R, O, A, hM, hR, hO, hA, by omega, by omega, rfl, hcnt, hmj, hz, ag, ap, ab, hr, (show r.length ≤ 4 by omega)⟩⟩
      · refine ik_Wk 3 (pc_q := 163) (loc_q := [some (.ref 66), some (fI sum), some (fI (zS y n cur)), some (fI 0), w4]) (st_q := [.ref 66, fI 5, .ref 66]) (h_q := (pre ++ rz_t w wt c tl T n fp (zS y n cur) (zsd y (zS y n cur) (zE y n (zS y n cur) - zS y n cur).toNat) (zE y n (zS y n cur)) nu na rp M R O A)) (cl_q := 0) (sl_q := 0) rfl ?_
        refine fw_gf rfl rfl (rz_g 0 hpre rfl) rfl ?_
        refine fw_call 137 3 0 [.ref 66, fI 5, fI (zS y n cur)] [] rfl rfl rfl (Nat.le_of_ble_eq_true rfl) rfl rfl (fw_rec (rz_len hpre htl) (fw_ftw (l0 := [some (.ref 66), some (fI sum), some (fI (zS y n cur)), some (fI 0)]) hw rfl) (rz_g 0 hpre rfl) rfl (by decide)) (rz_fails ok) ?_
        rintro rv h_q ⟨rfl, rfl⟩
        refine ik_Wk 0 (pc_q := 169) (loc_q := [some (.ref 66), some (fI sum), some (fI (zS y n cur)), some (fI 0), w4]) (st_q := [fI 5]) (h_q := (pre ++ rz_t w wt c tl T n (zS y n cur) (zS y n cur) (zsd y (zS y n cur) (zE y n (zS y n cur) - zS y n cur).toNat) (zE y n (zS y n cur)) nu na rp M R O A)) (cl_q := 0) (sl_q := 0) rfl ?_
        rw [zmv, if_neg (by rw [hto]; decide), if_pos ⟨hne, by omega, by omega⟩, if_neg (by omega)]
        exact ik_Wret rfl rfl ⟨_, _, rfl, rfl, rfl, rfl, ⟨rfl, (show (1 : Int) ≤ 5 by decide), (show (5 : Int) ≤ 6 by decide), _, _, _, _, _, M, R, O, A, hM, hR, hO, hA, by omega, by omega, rfl⟩⟩
    · refine ik_Wk 3 (pc_q := 147) (loc_q := [some (.ref 66), some (fI sum), some (fI (zS y n cur)), some (fI 0), w4]) (st_q := [.ref 66, fI 1, .ref 66]) (h_q := (pre ++ rz_t w wt c tl T n fp (zS y n cur) (zsd y (zS y n cur) (zE y n (zS y n cur) - zS y n cur).toNat) (zE y n (zS y n cur)) nu na rp M R O A)) (cl_q := 0) (sl_q := 0) rfl ?_
      refine fw_gf rfl rfl (rz_g 0 hpre rfl) rfl ?_
      refine fw_call 137 3 0 [.ref 66, fI 1, fI (zS y n cur)] [] rfl rfl rfl (Nat.le_of_ble_eq_true rfl) rfl rfl (fw_rec (rz_len hpre htl) (fw_ftw (l0 := [some (.ref 66), some (fI sum), some (fI (zS y n cur)), some (fI 0)]) hw rfl) (rz_g 0 hpre rfl) rfl (by decide)) (rz_fails ok) ?_
      rintro rv h_q ⟨rfl, rfl⟩
      refine ik_Wk 0 (pc_q := 153) (loc_q := [some (.ref 66), some (fI sum), some (fI (zS y n cur)), some (fI 0), w4]) (st_q := [fI 1]) (h_q := (pre ++ rz_t w wt c tl T n (zS y n cur) (zS y n cur) (zsd y (zS y n cur) (zE y n (zS y n cur) - zS y n cur).toNat) (zE y n (zS y n cur)) nu na rp M R O A)) (cl_q := 0) (sl_q := 0) rfl ?_
      rw [zmv, if_neg (by rw [hto]; decide), if_neg (by omega)]
      exact ik_Wret rfl rfl ⟨_, _, rfl, rfl, rfl, rfl, ⟨rfl, (show (1 : Int) ≤ 1 by decide), (show (1 : Int) ≤ 6 by decide), _, _, _, _, _, M, R, O, A, hM, hR, hO, hA, by omega, by omega, rfl⟩⟩
  · refine ik_Wk 0 (pc_q := 139) (loc_q := [some (.ref 66), some (fI sum), some (fI (zS y n cur)), some (fI 0), w4]) (st_q := [fI (-1)]) (h_q := (pre ++ rz_t w wt c tl T n fp (zS y n cur) (zsd y (zS y n cur) (zE y n (zS y n cur) - zS y n cur).toNat) (zE y n (zS y n cur)) nu na rp M R O A)) (cl_q := 0) (sl_q := 0) rfl ?_
    refine fw_bi rfl (by decide) ?_
    refine fw_ic_eq rfl rfl (by omega) (by omega) (by omega) (by omega) (fun hc7 => absurd hc7 (by omega)) (fun hc7 => ?_)
    refine ik_Wk 3 (pc_q := 147) (loc_q := [some (.ref 66), some (fI sum), some (fI (zS y n cur)), some (fI 0), w4]) (st_q := [.ref 66, fI 1, .ref 66]) (h_q := (pre ++ rz_t w wt c tl T n fp (zS y n cur) (zsd y (zS y n cur) (zE y n (zS y n cur) - zS y n cur).toNat) (zE y n (zS y n cur)) nu na rp M R O A)) (cl_q := 0) (sl_q := 0) rfl ?_
    refine fw_gf rfl rfl (rz_g 0 hpre rfl) rfl ?_
    refine fw_call 137 3 0 [.ref 66, fI 1, fI (zS y n cur)] [] rfl rfl rfl (Nat.le_of_ble_eq_true rfl) rfl rfl (fw_rec (rz_len hpre htl) (fw_ftw (l0 := [some (.ref 66), some (fI sum), some (fI (zS y n cur)), some (fI 0)]) hw rfl) (rz_g 0 hpre rfl) rfl (by decide)) (rz_fails ok) ?_
    rintro rv h_q ⟨rfl, rfl⟩
    refine ik_Wk 0 (pc_q := 153) (loc_q := [some (.ref 66), some (fI sum), some (fI (zS y n cur)), some (fI 0), w4]) (st_q := [fI 1]) (h_q := (pre ++ rz_t w wt c tl T n (zS y n cur) (zS y n cur) (zsd y (zS y n cur) (zE y n (zS y n cur) - zS y n cur).toNat) (zE y n (zS y n cur)) nu na rp M R O A)) (cl_q := 0) (sl_q := 0) rfl ?_
    rw [zmv, if_neg (by rw [hto]; decide), if_neg (by omega)]
    exact ik_Wret rfl rfl ⟨_, _, rfl, rfl, rfl, rfl, ⟨rfl, (show (1 : Int) ≤ 1 by decide), (show (1 : Int) ≤ 6 by decide), _, _, _, _, _, M, R, O, A, hM, hR, hO, hA, by omega, by omega, rfl⟩⟩

theorem rz_plL {pre tl : List ik_E} {w : Nat → Value} {wt : List Value} {c : Nat → ik_E} {y : Int → Int} {T : List Int} {n fp rp : Int} {M0 R0 O0 A0 : List Int} (ok : rz_ok y T n pre tl) (hrp : 0 ≤ rp) (hrp2 : rp ≤ 10) : ∀ (k : Nat) (r : List zM) (sum cur nu na : Int) (M R O A : List Int) (w4 : Option Value), r.length + k = 4 → ik_wl 94 w4 = true → M.length = (12 : Nat) → R.length = (48 : Nat) → O.length = (48 : Nat) → A.length = (48 : Nat) → M.getD rp.toNat 0 = (r.length : Int) → (∀ j : Nat, ¬ j = rp.toNat → M.getD j 0 = M0.getD j 0) → zh R O A rp.toNat r → zag (4 * rp.toNat) R0 R → zag (4 * rp.toNat) O0 O → zag (4 * rp.toNat) A0 A → zrow r → (0 : Int) ≤ sum → sum ≤ (100 : Int) → (0 : Int) ≤ cur → cur ≤ n → zto y n (zS y n cur) = true → ik_G 144 52 [some (.ref 66), some (fI sum), some (fI (zS y n cur)), some (fI 1), w4] [] (pre ++ rz_t w wt c tl T n fp (zS y n cur) (zsd y (zS y n cur) (zE y n (zS y n cur) - zS y n cur).toNat) (zE y n (zS y n cur)) nu na rp M R O A) (rz_RM pre tl w wt c T n fp rp M0 R0 O0 A0 (zmv y n (k + 1) r sum cur)) := by
  have ok' := ok
  obtain ⟨hpre, htl, hT, bT, hn, hn2, hy⟩ := ok'
  intro k
  induction k using Nat.strongRecOn with
  | _ k ih =>
    intro r sum cur nu na M R O A w4 hk hw hM hR hO hA hcnt hmj hz ag ap ab hr hs0 hs1 h0 h1 hto
    have hz1 := zS_ge (y := y) (n := n) cur
    have hz2 := zS_le (y := y) (n := n) (i := cur) h1
    have hto2 := hto
    unfold zto at hto2
    have htw := of_decide_eq_true hto2
    have htn := zE_le (y := y) (n := n) (i := zS y n cur) (by omega)
    refine ik_Wk 1 (pc_q := 53) (loc_q := [some (.ref 66), some (fI sum), some (fI (zS y n cur)), some (fI 1), w4]) (st_q := [fI 1]) (h_q := (pre ++ rz_t w wt c tl T n fp (zS y n cur) (zsd y (zS y n cur) (zE y n (zS y n cur) - zS y n cur).toNat) (zE y n (zS y n cur)) nu na rp M R O A)) (cl_q := 0) (sl_q := 0) rfl ?_
    refine fw_if_eq rfl rfl (by omega) (by omega) (fun hc1 => absurd hc1 (by omega)) (fun hc1 => ?_)
    refine ik_Wk 1 (pc_q := 57) (loc_q := [some (.ref 66), some (fI sum), some (fI (zS y n cur)), some (fI 1), w4]) (st_q := [.ref 66]) (h_q := (pre ++ rz_t w wt c tl T n fp (zS y n cur) (zsd y (zS y n cur) (zE y n (zS y n cur) - zS y n cur).toNat) (zE y n (zS y n cur)) nu na rp M R O A)) (cl_q := 0) (sl_q := 0) rfl ?_
    refine fw_gf rfl rfl (rz_g 0 hpre rfl) rfl ?_
    refine ik_Wk 1 (pc_q := 61) (loc_q := [some (.ref 66), some (fI sum), some (fI (zS y n cur)), some (fI 1), w4]) (st_q := [.ref 66, .ref 73]) (h_q := (pre ++ rz_t w wt c tl T n fp (zS y n cur) (zsd y (zS y n cur) (zE y n (zS y n cur) - zS y n cur).toNat) (zE y n (zS y n cur)) nu na rp M R O A)) (cl_q := 0) (sl_q := 0) rfl ?_
    refine fw_gf rfl rfl (rz_g 0 hpre rfl) rfl ?_
    refine fw_ial rfl (rz_g 7 hpre rfl) (by omega) (by omega) (by omega) ?_
    rw [hcnt]
    refine ik_Wk 1 (pc_q := 66) (loc_q := [some (.ref 66), some (fI sum), some (fI (zS y n cur)), some (fI 1), w4]) (st_q := [fI 4, fI (r.length : Int)]) (h_q := (pre ++ rz_t w wt c tl T n fp (zS y n cur) (zsd y (zS y n cur) (zE y n (zS y n cur) - zS y n cur).toNat) (zE y n (zS y n cur)) nu na rp M R O A)) (cl_q := 0) (sl_q := 0) rfl ?_
    refine fw_ic_ne rfl rfl (by omega) (by omega) (by omega) (by omega) (fun hc2 => ?_) (fun hc2 => ?_)
    · refine ik_Wk 3 (pc_q := 72) (loc_q := [some (.ref 66), some (fI sum), some (fI (zS y n cur)), some (fI 1), w4]) (st_q := [fI (zS y n cur), fI 3, .ref 66]) (h_q := (pre ++ rz_t w wt c tl T n fp (zS y n cur) (zsd y (zS y n cur) (zE y n (zS y n cur) - zS y n cur).toNat) (zE y n (zS y n cur)) nu na rp M R O A)) (cl_q := 0) (sl_q := 0) rfl ?_
      refine fw_call 137 3 0 [.ref 66, fI 3, fI (zS y n cur)] [] rfl rfl rfl (Nat.le_of_ble_eq_true rfl) rfl rfl (fw_rec (rz_len hpre htl) (fw_ftw (l0 := [some (.ref 66), some (fI sum), some (fI (zS y n cur)), some (fI 1)]) hw rfl) (rz_g 0 hpre rfl) rfl (by decide)) (rz_fails ok) ?_
      rintro rv h_q ⟨rfl, rfl⟩
      refine ik_Wk 0 (pc_q := 75) (loc_q := [some (.ref 66), some (fI sum), some (fI (zS y n cur)), some (fI 1), w4]) (st_q := [fI 3]) (h_q := (pre ++ rz_t w wt c tl T n (zS y n cur) (zS y n cur) (zsd y (zS y n cur) (zE y n (zS y n cur) - zS y n cur).toNat) (zE y n (zS y n cur)) nu na rp M R O A)) (cl_q := 0) (sl_q := 0) rfl ?_
      rw [zmv, if_pos hto, if_pos (by omega)]
      exact ik_Wret rfl rfl ⟨_, _, rfl, rfl, rfl, rfl, ⟨rfl, (show (1 : Int) ≤ 3 by decide), (show (3 : Int) ≤ 6 by decide), _, _, _, _, _, M, R, O, A, hM, hR, hO, hA, by omega, by omega, rfl⟩⟩
    · refine ik_Wk 2 (pc_q := 78) (loc_q := [some (.ref 66), some (fI sum), some (fI (zS y n cur)), some (fI 1), w4]) (st_q := [.ref 66, .ref 66]) (h_q := (pre ++ rz_t w wt c tl T n fp (zS y n cur) (zsd y (zS y n cur) (zE y n (zS y n cur) - zS y n cur).toNat) (zE y n (zS y n cur)) nu na rp M R O A)) (cl_q := 0) (sl_q := 0) rfl ?_
      refine fw_gf rfl rfl (rz_g 0 hpre rfl) rfl ?_
      refine fw_pf (h_q := (pre ++ rz_t w wt c tl T n fp (zE y n (zS y n cur)) (zsd y (zS y n cur) (zE y n (zS y n cur) - zS y n cur).toNat) (zE y n (zS y n cur)) nu na rp M R O A)) rfl rfl (rz_g 0 hpre rfl) (Nat.le_of_ble_eq_true rfl) rfl rfl (rz_s 0 hpre rfl) ?_
      rw [htw.1]
      refine ik_Wk 2 (pc_q := 86) (loc_q := [some (.ref 66), some (fI sum), some (fI (zS y n cur)), some (fI 1), w4]) (st_q := [fI sum, .ref 66]) (h_q := (pre ++ rz_t w wt c tl T n fp (zS y n cur + 2) (zsd y (zS y n cur) (zS y n cur + 2 - zS y n cur).toNat) (zS y n cur + 2) nu na rp M R O A)) (cl_q := 0) (sl_q := 0) rfl ?_
      refine fw_call 143 2 0 [.ref 66, fI sum] [] rfl rfl rfl (Nat.le_of_ble_eq_true rfl) rfl rfl (fw_rec (rz_len hpre htl) (fw_ftw (l0 := [some (.ref 66), some (fI sum), some (fI (zS y n cur)), some (fI 1)]) hw rfl) (rz_g 0 hpre rfl) rfl (by decide)) (rz_mv (r := r) ok hM hR hO hA hrp hrp2 hcnt (by omega) (zh_hr hrp hz hr) hs0 hs1 (by omega) (by omega)) ?_
      rintro rv h_q (⟨hg1, hg2, hk1, hk2, rfl, rfl⟩ | ⟨f, a, a', nu', na', M', R', O', A', hf, rfl, hM', hR', hO', hA', hf0, hf1, rfl⟩)
      · have hgv := znum0 hg1
        have hkv := znum0 hk1
        have hg3 := zS_ge (y := y) (n := n) (zS y n cur + 2)
        have hg4 := zS_le (y := y) (n := n) (i := zS y n cur + 2) (by omega)
        have hg5 := zD_ge (y := y) (n := n) (zS y n (zS y n cur + 2))
        have hg6 := zD_le (y := y) (n := n) (i := zS y n (zS y n cur + 2)) (by omega)
        have hk3 := zS_ge (y := y) (n := n) (zD y n (zS y n (zS y n cur + 2)))
        have hk4 := zS_le (y := y) (n := n) (i := zD y n (zS y n (zS y n cur + 2))) (by omega)
        have hk5 := zD_ge (y := y) (n := n) (zS y n (zD y n (zS y n (zS y n cur + 2))))
        have hk6 := zD_le (y := y) (n := n) (i := zS y n (zD y n (zS y n (zS y n cur + 2)))) (by omega)
        refine ik_Wk 0 (pc_q := 89) (loc_q := [some (.ref 66), some (fI sum), some (fI (zS y n cur)), some (fI 1), w4]) (st_q := [fI 0]) (h_q := (pre ++ rz_t w wt c tl T n fp (zD y n (zS y n (zD y n (zS y n (zS y n cur + 2))))) (zsd y (zS y n cur) (zS y n cur + 2 - zS y n cur).toNat) (zS y n cur + 2) (zv y n (zS y n (zD y n (zS y n (zS y n cur + 2))))) (zS y n (zD y n (zS y n (zS y n cur + 2)))) rp (M.set rp.toNat ((r.length : Int) + 1)) (R.set (4 * rp + (r.length : Int)).toNat (zv y n (zS y n (zS y n cur + 2)))) (O.set (4 * rp + (r.length : Int)).toNat (zv y n (zS y n (zD y n (zS y n (zS y n cur + 2)))))) (A.set (4 * rp + (r.length : Int)).toNat (zS y n (zS y n cur + 2))))) (cl_q := 0) (sl_q := 0) rfl ?_
        refine ik_Wk 2 (pc_q := 93) (loc_q := [some (.ref 66), some (fI sum), some (fI (zS y n cur)), some (fI 1), some (fI 0)]) (st_q := [fI 0]) (h_q := (pre ++ rz_t w wt c tl T n fp (zD y n (zS y n (zD y n (zS y n (zS y n cur + 2))))) (zsd y (zS y n cur) (zS y n cur + 2 - zS y n cur).toNat) (zS y n cur + 2) (zv y n (zS y n (zD y n (zS y n (zS y n cur + 2))))) (zS y n (zD y n (zS y n (zS y n cur + 2)))) rp (M.set rp.toNat ((r.length : Int) + 1)) (R.set (4 * rp + (r.length : Int)).toNat (zv y n (zS y n (zS y n cur + 2)))) (O.set (4 * rp + (r.length : Int)).toNat (zv y n (zS y n (zD y n (zS y n (zS y n cur + 2)))))) (A.set (4 * rp + (r.length : Int)).toNat (zS y n (zS y n cur + 2))))) (cl_q := 0) (sl_q := 0) rfl ?_
        refine fw_if_le rfl rfl (by omega) (by omega) (fun hc3 => ?_) (fun hc3 => absurd hc3 (by omega))
        refine ik_Wk 2 (pc_q := 101) (loc_q := [some (.ref 66), some (fI sum), some (fI (zS y n cur)), some (fI 1), some (fI 0)]) (st_q := [.ref 66, fI sum]) (h_q := (pre ++ rz_t w wt c tl T n fp (zD y n (zS y n (zD y n (zS y n (zS y n cur + 2))))) (zsd y (zS y n cur) (zS y n cur + 2 - zS y n cur).toNat) (zS y n cur + 2) (zv y n (zS y n (zD y n (zS y n (zS y n cur + 2))))) (zS y n (zD y n (zS y n (zS y n cur + 2)))) rp (M.set rp.toNat ((r.length : Int) + 1)) (R.set (4 * rp + (r.length : Int)).toNat (zv y n (zS y n (zS y n cur + 2)))) (O.set (4 * rp + (r.length : Int)).toNat (zv y n (zS y n (zD y n (zS y n (zS y n cur + 2)))))) (A.set (4 * rp + (r.length : Int)).toNat (zS y n (zS y n cur + 2))))) (cl_q := 0) (sl_q := 0) rfl ?_
        refine fw_gf rfl rfl (rz_g 0 hpre rfl) rfl ?_
        refine fw_add rfl ?_
        refine ik_Wk 2 (pc_q := 107) (loc_q := [some (.ref 66), some (fI (sum + (zv y n (zS y n (zD y n (zS y n (zS y n cur + 2))))))), some (fI (zS y n cur)), some (fI 1), some (fI 0)]) (st_q := [.ref 66]) (h_q := (pre ++ rz_t w wt c tl T n fp (zD y n (zS y n (zD y n (zS y n (zS y n cur + 2))))) (zsd y (zS y n cur) (zS y n cur + 2 - zS y n cur).toNat) (zS y n cur + 2) (zv y n (zS y n (zD y n (zS y n (zS y n cur + 2))))) (zS y n (zD y n (zS y n (zS y n cur + 2)))) rp (M.set rp.toNat ((r.length : Int) + 1)) (R.set (4 * rp + (r.length : Int)).toNat (zv y n (zS y n (zS y n cur + 2)))) (O.set (4 * rp + (r.length : Int)).toNat (zv y n (zS y n (zD y n (zS y n (zS y n cur + 2)))))) (A.set (4 * rp + (r.length : Int)).toNat (zS y n (zS y n cur + 2))))) (cl_q := 0) (sl_q := 0) rfl ?_
        refine fw_call 138 1 0 [.ref 66] [] rfl rfl rfl (Nat.le_of_ble_eq_true rfl) rfl rfl (fw_rec (rz_len hpre htl) rfl (rz_g 0 hpre rfl) rfl (by decide)) (rz_word ok (by omega) (by omega)) ?_
        rintro rv h_q ⟨rfl, rfl⟩
        have hz4 := zS_ge (y := y) (n := n) (zD y n (zS y n (zD y n (zS y n (zS y n cur + 2)))))
        have hz5 := zS_le (y := y) (n := n) (i := zD y n (zS y n (zD y n (zS y n (zS y n cur + 2))))) (by omega)
        have hz6 := zE_ge (y := y) (n := n) (zS y n (zD y n (zS y n (zD y n (zS y n (zS y n cur + 2))))))
        have hz7 := zE_le (y := y) (n := n) (i := zS y n (zD y n (zS y n (zD y n (zS y n (zS y n cur + 2)))))) (by omega)
        have hz8 := zsd_b (y := y) (s := zS y n (zD y n (zS y n (zD y n (zS y n (zS y n cur + 2)))))) (zE y n (zS y n (zD y n (zS y n (zD y n (zS y n (zS y n cur + 2)))))) - zS y n (zD y n (zS y n (zD y n (zS y n (zS y n cur + 2)))))).toNat (fun j a b => zE_mid (y := y) (n := n) (i := zS y n (zD y n (zS y n (zD y n (zS y n (zS y n cur + 2)))))) a (by omega))
        refine ik_Wk 0 (pc_q := 110) (loc_q := [some (.ref 66), some (fI (sum + (zv y n (zS y n (zD y n (zS y n (zS y n cur + 2))))))), some (fI (zS y n cur)), some (fI 1), some (fI 0)]) (st_q := []) (h_q := (pre ++ rz_t w wt c tl T n fp (zS y n (zD y n (zS y n (zD y n (zS y n (zS y n cur + 2)))))) (zsd y (zS y n (zD y n (zS y n (zD y n (zS y n (zS y n cur + 2)))))) (zE y n (zS y n (zD y n (zS y n (zD y n (zS y n (zS y n cur + 2)))))) - zS y n (zD y n (zS y n (zD y n (zS y n (zS y n cur + 2)))))).toNat) (zE y n (zS y n (zD y n (zS y n (zD y n (zS y n (zS y n cur + 2))))))) (zv y n (zS y n (zD y n (zS y n (zS y n cur + 2))))) (zS y n (zD y n (zS y n (zS y n cur + 2)))) rp (M.set rp.toNat ((r.length : Int) + 1)) (R.set (4 * rp + (r.length : Int)).toNat (zv y n (zS y n (zS y n cur + 2)))) (O.set (4 * rp + (r.length : Int)).toNat (zv y n (zS y n (zD y n (zS y n (zS y n cur + 2)))))) (A.set (4 * rp + (r.length : Int)).toNat (zS y n (zS y n cur + 2))))) (cl_q := 0) (sl_q := 0) rfl ?_
        refine ik_Wk 1 (pc_q := 111) (loc_q := [some (.ref 66), some (fI (sum + (zv y n (zS y n (zD y n (zS y n (zS y n cur + 2))))))), some (fI (zS y n cur)), some (fI 1), some (fI 0)]) (st_q := [.ref 66]) (h_q := (pre ++ rz_t w wt c tl T n fp (zS y n (zD y n (zS y n (zD y n (zS y n (zS y n cur + 2)))))) (zsd y (zS y n (zD y n (zS y n (zD y n (zS y n (zS y n cur + 2)))))) (zE y n (zS y n (zD y n (zS y n (zD y n (zS y n (zS y n cur + 2)))))) - zS y n (zD y n (zS y n (zD y n (zS y n (zS y n cur + 2)))))).toNat) (zE y n (zS y n (zD y n (zS y n (zD y n (zS y n (zS y n cur + 2))))))) (zv y n (zS y n (zD y n (zS y n (zS y n cur + 2))))) (zS y n (zD y n (zS y n (zS y n cur + 2)))) rp (M.set rp.toNat ((r.length : Int) + 1)) (R.set (4 * rp + (r.length : Int)).toNat (zv y n (zS y n (zS y n cur + 2)))) (O.set (4 * rp + (r.length : Int)).toNat (zv y n (zS y n (zD y n (zS y n (zS y n cur + 2)))))) (A.set (4 * rp + (r.length : Int)).toNat (zS y n (zS y n cur + 2))))) (cl_q := 0) (sl_q := 0) rfl ?_
        refine fw_gf rfl rfl (rz_g 0 hpre rfl) rfl ?_
        refine ik_Wk 2 (pc_q := 116) (loc_q := [some (.ref 66), some (fI (sum + (zv y n (zS y n (zD y n (zS y n (zS y n cur + 2))))))), some (fI (zS y n (zD y n (zS y n (zD y n (zS y n (zS y n cur + 2))))))), some (fI 1), some (fI 0)]) (st_q := [.ref 66]) (h_q := (pre ++ rz_t w wt c tl T n fp (zS y n (zD y n (zS y n (zD y n (zS y n (zS y n cur + 2)))))) (zsd y (zS y n (zD y n (zS y n (zD y n (zS y n (zS y n cur + 2)))))) (zE y n (zS y n (zD y n (zS y n (zD y n (zS y n (zS y n cur + 2)))))) - zS y n (zD y n (zS y n (zD y n (zS y n (zS y n cur + 2)))))).toNat) (zE y n (zS y n (zD y n (zS y n (zD y n (zS y n (zS y n cur + 2))))))) (zv y n (zS y n (zD y n (zS y n (zS y n cur + 2))))) (zS y n (zD y n (zS y n (zS y n cur + 2)))) rp (M.set rp.toNat ((r.length : Int) + 1)) (R.set (4 * rp + (r.length : Int)).toNat (zv y n (zS y n (zS y n cur + 2)))) (O.set (4 * rp + (r.length : Int)).toNat (zv y n (zS y n (zD y n (zS y n (zS y n cur + 2)))))) (A.set (4 * rp + (r.length : Int)).toNat (zS y n (zS y n cur + 2))))) (cl_q := 0) (sl_q := 0) rfl ?_
        refine fw_gf rfl rfl (rz_g 0 hpre rfl) rfl ?_
        refine fw_l2 555 rfl rfl (by decide) ?_
        refine fw_lcmp_ne rfl rfl rfl (by omega) (by omega) (by omega) (by omega) (fun hc9 => ?_) (fun hc9 => ?_)
        · refine ik_Wk 4 (pc_q := 52) (loc_q := [some (.ref 66), some (fI (sum + (zv y n (zS y n (zD y n (zS y n (zS y n cur + 2))))))), some (fI (zS y n (zD y n (zS y n (zD y n (zS y n (zS y n cur + 2))))))), some (fI 1), some (fI 0)]) (st_q := []) (h_q := (pre ++ rz_t w wt c tl T n fp (zS y n (zD y n (zS y n (zD y n (zS y n (zS y n cur + 2)))))) (zsd y (zS y n (zD y n (zS y n (zD y n (zS y n (zS y n cur + 2)))))) (zE y n (zS y n (zD y n (zS y n (zD y n (zS y n (zS y n cur + 2)))))) - zS y n (zD y n (zS y n (zD y n (zS y n (zS y n cur + 2)))))).toNat) (zE y n (zS y n (zD y n (zS y n (zD y n (zS y n (zS y n cur + 2))))))) (zv y n (zS y n (zD y n (zS y n (zS y n cur + 2))))) (zS y n (zD y n (zS y n (zS y n cur + 2)))) rp (M.set rp.toNat ((r.length : Int) + 1)) (R.set (4 * rp + (r.length : Int)).toNat (zv y n (zS y n (zS y n cur + 2)))) (O.set (4 * rp + (r.length : Int)).toNat (zv y n (zS y n (zD y n (zS y n (zS y n cur + 2)))))) (A.set (4 * rp + (r.length : Int)).toNat (zS y n (zS y n cur + 2))))) (cl_q := 0) (sl_q := 0) rfl ?_
          obtain ⟨k', rfl⟩ : ∃ k', k = k' + 1 := ⟨k - 1, by omega⟩
          rw [zmv, if_pos hto, if_neg (by omega), if_pos hg1, if_neg (by rw [hg2]; decide), if_pos hk1, if_neg (by omega)]
          have e2 : ((r ++ [(zv y n (zS y n (zS y n cur + 2)), zv y n (zS y n (zD y n (zS y n (zS y n cur + 2)))), zS y n (zS y n cur + 2))]).length : Int) = (r.length : Int) + 1 := by rw [List.length_append]; rfl
          have e3 : (4 * rp + (r.length : Int)).toNat = 4 * rp.toNat + r.length := by omega
          have c1 : (M.set rp.toNat ((r.length : Int) + 1)).getD rp.toNat 0 = ((r ++ [(zv y n (zS y n (zS y n cur + 2)), zv y n (zS y n (zD y n (zS y n (zS y n cur + 2)))), zS y n (zS y n cur + 2))]).length : Int) := by rw [fz_getD_set, if_pos ⟨rfl, by omega⟩, e2]
          have c2 : ∀ j : Nat, ¬ j = rp.toNat → (M.set rp.toNat ((r.length : Int) + 1)).getD j 0 = M0.getD j 0 := fun j hj => by rw [fz_getD_set, if_neg (fun q => hj q.1)]; exact hmj j hj
          have c3 := zh_snoc (a := zv y n (zS y n (zS y n cur + 2))) (b := zv y n (zS y n (zD y n (zS y n (zS y n cur + 2))))) (c := zS y n (zS y n cur + 2)) hz e3 (by omega) (by omega) (by omega)
          have c4 : zrow (r ++ [(zv y n (zS y n (zS y n cur + 2)), zv y n (zS y n (zD y n (zS y n (zS y n cur + 2)))), zS y n (zS y n cur + 2))]) := zrow_snoc hr ⟨by omega, by omega, by omega, by omega, by omega, by omega⟩
          have c5 : (r ++ [(zv y n (zS y n (zS y n cur + 2)), zv y n (zS y n (zD y n (zS y n (zS y n cur + 2)))), zS y n (zS y n cur + 2))]).length = r.length + 1 := by rw [List.length_append]; rfl
          exact ih k' (by omega) (r ++ [(zv y n (zS y n (zS y n cur + 2)), zv y n (zS y n (zD y n (zS y n (zS y n cur + 2)))), zS y n (zS y n cur + 2))]) _ (zD y n (zS y n (zD y n (zS y n (zS y n cur + 2))))) _ _ _ _ _ _ (some (fI 0)) (by omega) rfl ((List.length_set ..).trans hM) ((List.length_set ..).trans hR) ((List.length_set ..).trans hO) ((List.length_set ..).trans hA) c1 c2 c3 (zag_set ag (by omega)) (zag_set ap (by omega)) (zag_set ab (by omega)) c4 (by omega) (by omega) (by omega) (by omega) (zis_to.mp (by omega))
        · refine ik_Wk 3 (pc_q := 52) (loc_q := [some (.ref 66), some (fI (sum + (zv y n (zS y n (zD y n (zS y n (zS y n cur + 2))))))), some (fI (zS y n (zD y n (zS y n (zD y n (zS y n (zS y n cur + 2))))))), some (fI 0), some (fI 0)]) (st_q := []) (h_q := (pre ++ rz_t w wt c tl T n fp (zS y n (zD y n (zS y n (zD y n (zS y n (zS y n cur + 2)))))) (zsd y (zS y n (zD y n (zS y n (zD y n (zS y n (zS y n cur + 2)))))) (zE y n (zS y n (zD y n (zS y n (zD y n (zS y n (zS y n cur + 2)))))) - zS y n (zD y n (zS y n (zD y n (zS y n (zS y n cur + 2)))))).toNat) (zE y n (zS y n (zD y n (zS y n (zD y n (zS y n (zS y n cur + 2))))))) (zv y n (zS y n (zD y n (zS y n (zS y n cur + 2))))) (zS y n (zD y n (zS y n (zS y n cur + 2)))) rp (M.set rp.toNat ((r.length : Int) + 1)) (R.set (4 * rp + (r.length : Int)).toNat (zv y n (zS y n (zS y n cur + 2)))) (O.set (4 * rp + (r.length : Int)).toNat (zv y n (zS y n (zD y n (zS y n (zS y n cur + 2)))))) (A.set (4 * rp + (r.length : Int)).toNat (zS y n (zS y n cur + 2))))) (cl_q := 0) (sl_q := 0) rfl ?_
          obtain ⟨k', rfl⟩ : ∃ k', k = k' + 1 := ⟨k - 1, by omega⟩
          rw [zmv, if_pos hto, if_neg (by omega), if_pos hg1, if_neg (by rw [hg2]; decide), if_pos hk1, if_neg (by omega)]
          have e2 : ((r ++ [(zv y n (zS y n (zS y n cur + 2)), zv y n (zS y n (zD y n (zS y n (zS y n cur + 2)))), zS y n (zS y n cur + 2))]).length : Int) = (r.length : Int) + 1 := by rw [List.length_append]; rfl
          have e3 : (4 * rp + (r.length : Int)).toNat = 4 * rp.toNat + r.length := by omega
          have c1 : (M.set rp.toNat ((r.length : Int) + 1)).getD rp.toNat 0 = ((r ++ [(zv y n (zS y n (zS y n cur + 2)), zv y n (zS y n (zD y n (zS y n (zS y n cur + 2)))), zS y n (zS y n cur + 2))]).length : Int) := by rw [fz_getD_set, if_pos ⟨rfl, by omega⟩, e2]
          have c2 : ∀ j : Nat, ¬ j = rp.toNat → (M.set rp.toNat ((r.length : Int) + 1)).getD j 0 = M0.getD j 0 := fun j hj => by rw [fz_getD_set, if_neg (fun q => hj q.1)]; exact hmj j hj
          have c3 := zh_snoc (a := zv y n (zS y n (zS y n cur + 2))) (b := zv y n (zS y n (zD y n (zS y n (zS y n cur + 2))))) (c := zS y n (zS y n cur + 2)) hz e3 (by omega) (by omega) (by omega)
          have c4 : zrow (r ++ [(zv y n (zS y n (zS y n cur + 2)), zv y n (zS y n (zD y n (zS y n (zS y n cur + 2)))), zS y n (zS y n cur + 2))]) := zrow_snoc hr ⟨by omega, by omega, by omega, by omega, by omega, by omega⟩
          have c5 : (r ++ [(zv y n (zS y n (zS y n cur + 2)), zv y n (zS y n (zD y n (zS y n (zS y n cur + 2)))), zS y n (zS y n cur + 2))]).length = r.length + 1 := by rw [List.length_append]; rfl
          have hq : zto y n (zS y n (zD y n (zS y n (zD y n (zS y n (zS y n cur + 2)))))) = false := by cases hx : zto y n (zS y n (zD y n (zS y n (zD y n (zS y n (zS y n cur + 2)))))) with | false => rfl | true => exact absurd (zis_to.mpr hx) (by omega)
          exact rz_plE (w4 := some (fI 0)) ok hrp hrp2 (by omega) rfl ((List.length_set ..).trans hM) ((List.length_set ..).trans hR) ((List.length_set ..).trans hO) ((List.length_set ..).trans hA) c1 c2 c3 (zag_set ag (by omega)) (zag_set ap (by omega)) (zag_set ab (by omega)) c4 (by omega) (by omega) (by omega) (by omega) hq (fun q => by have qw := congrArg List.length q; rw [c5] at qw; exact Nat.succ_ne_zero _ qw)
      · have hfr : 1 ≤ f ∧ f ≤ 5 := by have q1 := znumR (y := y) (n := n) (lo := 0) (hi := 11) (s := zS y n (zS y n cur + 2)); have q2 := znumR (y := y) (n := n) (lo := 1) (hi := 100) (s := zS y n (zD y n (zS y n (zS y n cur + 2)))); rcases hf with q | q | q | q <;> omega
        refine ik_Wk 0 (pc_q := 89) (loc_q := [some (.ref 66), some (fI sum), some (fI (zS y n cur)), some (fI 1), w4]) (st_q := [fI f]) (h_q := (pre ++ rz_t w wt c tl T n a a' (zsd y (zS y n cur) (zS y n cur + 2 - zS y n cur).toNat) (zS y n cur + 2) nu' na' rp M' R' O' A')) (cl_q := 0) (sl_q := 0) rfl ?_
        refine ik_Wk 2 (pc_q := 93) (loc_q := [some (.ref 66), some (fI sum), some (fI (zS y n cur)), some (fI 1), some (fI f)]) (st_q := [fI f]) (h_q := (pre ++ rz_t w wt c tl T n a a' (zsd y (zS y n cur) (zS y n cur + 2 - zS y n cur).toNat) (zS y n cur + 2) nu' na' rp M' R' O' A')) (cl_q := 0) (sl_q := 0) rfl ?_
        refine fw_if_le rfl rfl (by omega) (by omega) (fun hc10 => absurd hc10 (by omega)) (fun hc10 => ?_)
        refine ik_Wk 1 (pc_q := 98) (loc_q := [some (.ref 66), some (fI sum), some (fI (zS y n cur)), some (fI 1), some (fI f)]) (st_q := [fI f]) (h_q := (pre ++ rz_t w wt c tl T n a a' (zsd y (zS y n cur) (zS y n cur + 2 - zS y n cur).toNat) (zS y n cur + 2) nu' na' rp M' R' O' A')) (cl_q := 0) (sl_q := 0) rfl ?_
        have hzm : zmv y n (k + 1) r sum cur = .inl (f, a) := by
          rw [zmv, if_pos hto, if_neg (by omega)]
          rcases hf with ⟨q1, rfl, rfl⟩ | ⟨q1, q2, rfl, rfl⟩ | ⟨q1, q2, q3, rfl, rfl⟩ | ⟨q1, q2, q3, q4, rfl, rfl⟩
          · rw [if_neg q1]
          · rw [if_pos q1, if_pos q2]
          · rw [if_pos q1, if_neg (by rw [q2]; decide), if_neg q3]
          · rw [if_pos q1, if_neg (by rw [q2]; decide), if_pos q3, if_pos q4]
        rw [hzm]
        exact ik_Wret rfl rfl ⟨_, _, rfl, rfl, rfl, rfl, ⟨rfl, by omega, by omega, a', _, _, nu', na', M', R', O', A', hM', hR', hO', hA', hf0, hf1, rfl⟩⟩

theorem rz_pl {pre tl : List ik_E} {w : Nat → Value} {wt : List Value} {c : Nat → ik_E} {y : Int → Int} {T : List Int} {n fp sd we nu na rp : Int} {M R O A : List Int} (ok : rz_ok y T n pre tl) {cur : Int} (hM : M.length = 12) (hR : R.length = 48) (hO : O.length = 48) (hA : A.length = 48) (hrp : 0 ≤ rp) (hrp2 : rp ≤ 10) (h0 : 0 ≤ cur) (h1 : cur ≤ n) : ik_F 144 [.ref 66] (pre ++ rz_t w wt c tl T n fp cur sd we nu na rp M R O A) (rz_RM pre tl w wt c T n fp rp M R O A (zmv y n 5 [] 0 cur)) := by
  have ok' := ok
  obtain ⟨hpre, htl, hT, bT, hn, hn2, hy⟩ := ok'
  refine ik_Wk 3 (pc_q := 3) (loc_q := [some (.ref 66), some (fI 0), none, none, none]) (st_q := [.ref 66]) (h_q := (pre ++ rz_t w wt c tl T n fp cur sd we nu na rp M R O A)) (cl_q := 0) (sl_q := 0) rfl ?_
  refine fw_gf rfl rfl (rz_g 0 hpre rfl) rfl ?_
  refine ik_Wk 1 (pc_q := 7) (loc_q := [some (.ref 66), some (fI 0), none, none, none]) (st_q := [.ref 66, .ref 73]) (h_q := (pre ++ rz_t w wt c tl T n fp cur sd we nu na rp M R O A)) (cl_q := 0) (sl_q := 0) rfl ?_
  refine fw_gf rfl rfl (rz_g 0 hpre rfl) rfl ?_
  refine ik_Wk 1 (pc_q := 11) (loc_q := [some (.ref 66), some (fI 0), none, none, none]) (st_q := [fI 0, fI rp, .ref 73]) (h_q := (pre ++ rz_t w wt c tl T n fp cur sd we nu na rp M R O A)) (cl_q := 0) (sl_q := 0) rfl ?_
  have hl1 : (M.set rp.toNat 0).length = 12 := (List.length_set ..).trans hM
  refine fw_ias (h_q := (pre ++ rz_t w wt c tl T n fp cur sd we nu na rp (M.set rp.toNat 0) R O A)) rfl (rz_g 7 hpre rfl) (by omega) (by omega) (by omega) (rz_s 7 hpre rfl) ?_
  refine ik_Wk 1 (pc_q := 13) (loc_q := [some (.ref 66), some (fI 0), none, none, none]) (st_q := [.ref 66]) (h_q := (pre ++ rz_t w wt c tl T n fp cur sd we nu na rp (M.set rp.toNat 0) R O A)) (cl_q := 0) (sl_q := 0) rfl ?_
  refine fw_call 138 1 0 [.ref 66] [] rfl rfl rfl (Nat.le_of_ble_eq_true rfl) rfl rfl (fw_rec (rz_len hpre htl) rfl (rz_g 0 hpre rfl) rfl (by decide)) (rz_word ok (by omega) (by omega)) ?_
  rintro rv h_q ⟨rfl, rfl⟩
  have hz2 := zS_ge (y := y) (n := n) cur
  have hz3 := zS_le (y := y) (n := n) (i := cur) (by omega)
  have hz4 := zE_ge (y := y) (n := n) (zS y n cur)
  have hz5 := zE_le (y := y) (n := n) (i := zS y n cur) (by omega)
  have hz6 := zsd_b (y := y) (s := zS y n cur) (zE y n (zS y n cur) - zS y n cur).toNat (fun j a b => zE_mid (y := y) (n := n) (i := zS y n cur) a (by omega))
  refine ik_Wk 0 (pc_q := 16) (loc_q := [some (.ref 66), some (fI 0), none, none, none]) (st_q := []) (h_q := (pre ++ rz_t w wt c tl T n fp (zS y n cur) (zsd y (zS y n cur) (zE y n (zS y n cur) - zS y n cur).toNat) (zE y n (zS y n cur)) nu na rp (M.set rp.toNat 0) R O A)) (cl_q := 0) (sl_q := 0) rfl ?_
  refine ik_Wk 1 (pc_q := 17) (loc_q := [some (.ref 66), some (fI 0), none, none, none]) (st_q := [.ref 66]) (h_q := (pre ++ rz_t w wt c tl T n fp (zS y n cur) (zsd y (zS y n cur) (zE y n (zS y n cur) - zS y n cur).toNat) (zE y n (zS y n cur)) nu na rp (M.set rp.toNat 0) R O A)) (cl_q := 0) (sl_q := 0) rfl ?_
  refine fw_gf rfl rfl (rz_g 0 hpre rfl) rfl ?_
  refine ik_Wk 2 (pc_q := 22) (loc_q := [some (.ref 66), some (fI 0), some (fI (zS y n cur)), none, none]) (st_q := [.ref 66]) (h_q := (pre ++ rz_t w wt c tl T n fp (zS y n cur) (zsd y (zS y n cur) (zE y n (zS y n cur) - zS y n cur).toNat) (zE y n (zS y n cur)) nu na rp (M.set rp.toNat 0) R O A)) (cl_q := 0) (sl_q := 0) rfl ?_
  refine fw_gf rfl rfl (rz_g 0 hpre rfl) rfl ?_
  refine fw_l2 555 rfl rfl (by decide) ?_
  refine fw_lcmp_ne rfl rfl rfl (by omega) (by omega) (by omega) (by omega) (fun hc7 => ?_) (fun hc7 => ?_)
  · refine ik_Wk 4 (pc_q := 39) (loc_q := [some (.ref 66), some (fI 0), some (fI (zS y n cur)), some (fI 1), none]) (st_q := [fI 1]) (h_q := (pre ++ rz_t w wt c tl T n fp (zS y n cur) (zsd y (zS y n cur) (zE y n (zS y n cur) - zS y n cur).toNat) (zE y n (zS y n cur)) nu na rp (M.set rp.toNat 0) R O A)) (cl_q := 0) (sl_q := 0) rfl ?_
    refine fw_if_ne rfl rfl (by omega) (by omega) (fun hc8 => absurd hc8 (by omega)) (fun hc8 => ?_)
    have c1 : (M.set rp.toNat 0).getD rp.toNat 0 = (([] : List zM).length : Int) := by rw [fz_getD_set, if_pos ⟨rfl, by omega⟩]; rfl
    have c2 : ∀ j : Nat, ¬ j = rp.toNat → (M.set rp.toNat 0).getD j 0 = M.getD j 0 := fun j hj => by rw [fz_getD_set, if_neg (fun q => hj q.1)]
    exact rz_plL ok hrp hrp2 4 [] 0 cur _ _ _ _ _ _ none rfl rfl ((List.length_set ..).trans hM) hR hO hA c1 c2 (fun i m q => nomatch q) (fun _ _ => rfl) (fun _ _ => rfl) (fun _ _ => rfl) (fun m q => nomatch q) (by omega) (by omega) h0 h1 (zis_to.mp (by omega))
  · refine ik_Wk 3 (pc_q := 39) (loc_q := [some (.ref 66), some (fI 0), some (fI (zS y n cur)), some (fI 0), none]) (st_q := [fI 0]) (h_q := (pre ++ rz_t w wt c tl T n fp (zS y n cur) (zsd y (zS y n cur) (zE y n (zS y n cur) - zS y n cur).toNat) (zE y n (zS y n cur)) nu na rp (M.set rp.toNat 0) R O A)) (cl_q := 0) (sl_q := 0) rfl ?_
    refine fw_if_ne rfl rfl (by omega) (by omega) (fun hc9 => ?_) (fun hc9 => absurd hc9 (by omega))
    refine ik_Wk 3 (pc_q := 45) (loc_q := [some (.ref 66), some (fI 0), some (fI (zS y n cur)), some (fI 0), none]) (st_q := [.ref 66, fI 1, .ref 66]) (h_q := (pre ++ rz_t w wt c tl T n fp (zS y n cur) (zsd y (zS y n cur) (zE y n (zS y n cur) - zS y n cur).toNat) (zE y n (zS y n cur)) nu na rp (M.set rp.toNat 0) R O A)) (cl_q := 0) (sl_q := 0) rfl ?_
    refine fw_gf rfl rfl (rz_g 0 hpre rfl) rfl ?_
    refine fw_call 137 3 0 [.ref 66, fI 1, fI (zS y n cur)] [] rfl rfl rfl (Nat.le_of_ble_eq_true rfl) rfl rfl (fw_rec (rz_len hpre htl) rfl (rz_g 0 hpre rfl) rfl (by decide)) (rz_fails ok) ?_
    rintro rv h_q ⟨rfl, rfl⟩
    refine ik_Wk 0 (pc_q := 51) (loc_q := [some (.ref 66), some (fI 0), some (fI (zS y n cur)), some (fI 0), none]) (st_q := [fI 1]) (h_q := (pre ++ rz_t w wt c tl T n (zS y n cur) (zS y n cur) (zsd y (zS y n cur) (zE y n (zS y n cur) - zS y n cur).toNat) (zE y n (zS y n cur)) nu na rp (M.set rp.toNat 0) R O A)) (cl_q := 0) (sl_q := 0) rfl ?_
    have hq : zto y n (zS y n cur) = false := by cases hx : zto y n (zS y n cur) with | false => rfl | true => exact absurd (zis_to.mpr hx) (by omega)
    rw [zmv, if_neg (by rw [hq]; decide), if_neg (fun q => q.1 rfl)]
    exact ik_Wret rfl rfl ⟨_, _, rfl, rfl, rfl, rfl, ⟨rfl, (show (1 : Int) ≤ 1 by decide), (show (1 : Int) ≤ 6 by decide), _, _, _, _, _, _, R, O, A, (List.length_set ..).trans hM, hR, hO, hA, by omega, by omega, rfl⟩⟩

/-! 38q.rz -/
theorem zh_ar {G P B : List Int} {p i : Nat} {r : List zM} {m : zM} (h : zh G P B p r) (hr : r[i]? = some m) : G.getD (4 * (p : Int) + (i : Int)).toNat 0 = m.1 ∧ B.getD (4 * (p : Int) + (i : Int)).toNat 0 = m.2.2 := by
  rw [show 4 * (p : Int) + (i : Int) = (p : Int) * 4 + (i : Int) by omega]
  exact zh_at h hr

theorem rz_ckI {pre tl : List ik_E} {w : Nat → Value} {wt : List Value} {c : Nat → ik_E} {y : Int → Int} {T : List Int} {n fp a0 sd we nu na : Int} {M R O A : List Int} (ok : rz_ok y T n pre tl) {rs : List (List zM)} (hM : M.length = (12 : Nat)) (hR : R.length = (48 : Nat)) (hO : O.length = (48 : Nat)) (hA : A.length = (48 : Nat)) (hH : zH M R O A rs) (hrs : zrows rs) {p : Nat} {r : List zM} (hr : rs[p]? = some r) (hno : zno rs p) (K : zni rs r r.length → (p : Int) ≤ 10 → ik_G 146 64 [some (.ref 66), some (fI (p : Int)), some (fI (r.length : Int))] [] (pre ++ rz_t w wt c tl T n fp a0 sd we nu na ((rs.length : Int) + 1) M R O A) (fun rv h_q => (∃ m, zck rs = some m ∧ rv = [fI 6] ∧ h_q = (pre ++ rz_t w wt c tl T n m.2.2 a0 sd we nu na ((rs.length : Int) + 1) M R O A)) ∨ (zck rs = none ∧ rv = [fI 0] ∧ h_q = (pre ++ rz_t w wt c tl T n fp a0 sd we nu na ((rs.length : Int) + 1) M R O A)))) : ∀ (d : Nat) (i : Nat), r.length - i = d → i ≤ r.length → zni rs r i → ik_G 146 14 [some (.ref 66), some (fI (p : Int)), some (fI (i : Int))] [] (pre ++ rz_t w wt c tl T n fp a0 sd we nu na ((rs.length : Int) + 1) M R O A) (fun rv h_q => (∃ m, zck rs = some m ∧ rv = [fI 6] ∧ h_q = (pre ++ rz_t w wt c tl T n m.2.2 a0 sd we nu na ((rs.length : Int) + 1) M R O A)) ∨ (zck rs = none ∧ rv = [fI 0] ∧ h_q = (pre ++ rz_t w wt c tl T n fp a0 sd we nu na ((rs.length : Int) + 1) M R O A))) := by
  have ok' := ok
  obtain ⟨hpre, htl, hT, bT, hn, hn2, hy⟩ := ok'
  have hrow := hH p r hr
  have hpl : p < rs.length := by
    rcases Nat.lt_or_ge p rs.length with q | q
    · exact q
    · rw [List.getElem?_eq_none q] at hr; cases hr
  have hrl := hrs.1
  intro d
  induction d using Nat.strongRecOn with
  | _ d ih =>
    intro i hk hi0 hni
    have hcp : M.getD (p : Int).toNat 0 = (r.length : Int) := by rw [Int.toNat_natCast]; exact hrow.1
    refine ik_Wk 2 (pc_q := 16) (loc_q := [some (.ref 66), some (fI (p : Int)), some (fI (i : Int))]) (st_q := [.ref 66, fI (i : Int)]) (h_q := (pre ++ rz_t w wt c tl T n fp a0 sd we nu na ((rs.length : Int) + 1) M R O A)) (cl_q := 0) (sl_q := 0) rfl ?_
    refine fw_gf rfl rfl (rz_g 0 hpre rfl) rfl ?_
    refine ik_Wk 1 (pc_q := 20) (loc_q := [some (.ref 66), some (fI (p : Int)), some (fI (i : Int))]) (st_q := [fI (p : Int), .ref 73, fI (i : Int)]) (h_q := (pre ++ rz_t w wt c tl T n fp a0 sd we nu na ((rs.length : Int) + 1) M R O A)) (cl_q := 0) (sl_q := 0) rfl ?_
    refine fw_ial rfl (rz_g 7 hpre rfl) (by omega) (by omega) (by omega) ?_
    refine fw_ic_ge rfl rfl (by omega) (by omega) (by omega) (by omega) (fun hc1 => ?_) (fun hc1 => ?_)
    · have e : i = r.length := by omega
      subst e
      exact K hni (by omega)
    · have hi : i < r.length := by omega
      have hm : r[i]? = some r[i] := List.getElem?_eq_getElem hi
      generalize r[i] = m at hm
      have hat := zh_ar hrow.2.2 hm
      have hmb := (hrs.2 r (List.mem_of_getElem? hr)) m (List.mem_of_getElem? hm)
      refine ik_Wk 1 (pc_q := 25) (loc_q := [some (.ref 66), some (fI (p : Int)), some (fI (i : Int))]) (st_q := [.ref 66]) (h_q := (pre ++ rz_t w wt c tl T n fp a0 sd we nu na ((rs.length : Int) + 1) M R O A)) (cl_q := 0) (sl_q := 0) rfl ?_
      refine fw_gf rfl rfl (rz_g 0 hpre rfl) rfl ?_
      refine ik_Wk 2 (pc_q := 30) (loc_q := [some (.ref 66), some (fI (p : Int)), some (fI (i : Int))]) (st_q := [fI (p : Int), fI 4, .ref 74]) (h_q := (pre ++ rz_t w wt c tl T n fp a0 sd we nu na ((rs.length : Int) + 1) M R O A)) (cl_q := 0) (sl_q := 0) rfl ?_
      refine fw_mul rfl ?_
      refine ik_Wk 1 (pc_q := 32) (loc_q := [some (.ref 66), some (fI (p : Int)), some (fI (i : Int))]) (st_q := [fI (i : Int), fI (4 * (p : Int)), .ref 74]) (h_q := (pre ++ rz_t w wt c tl T n fp a0 sd we nu na ((rs.length : Int) + 1) M R O A)) (cl_q := 0) (sl_q := 0) rfl ?_
      refine fw_add rfl ?_
      refine fw_ial rfl (rz_g 8 hpre rfl) (by omega) (by omega) (by omega) ?_
      refine ik_Wk 1 (pc_q := 35) (loc_q := [some (.ref 66), some (fI (p : Int)), some (fI (i : Int))]) (st_q := [.ref 66, fI (R.getD ((4 * (p : Int)) + (i : Int)).toNat 0)]) (h_q := (pre ++ rz_t w wt c tl T n fp a0 sd we nu na ((rs.length : Int) + 1) M R O A)) (cl_q := 0) (sl_q := 0) rfl ?_
      refine fw_gf rfl rfl (rz_g 0 hpre rfl) rfl ?_
      refine fw_ic_lt rfl rfl (by omega) (by omega) (by omega) (by omega) (fun hc2 => ?_) (fun hc2 => ?_)
      · refine fw_inc (a := (i : Int)) (loc_q := [some (.ref 66), some (fI (p : Int)), some (fI ((i : Int) + 1))]) rfl rfl (Nat.le_of_ble_eq_true rfl) rfl ?_
        refine ik_Wk 1 (pc_q := 14) (loc_q := [some (.ref 66), some (fI (p : Int)), some (fI ((i : Int) + 1))]) (st_q := []) (h_q := (pre ++ rz_t w wt c tl T n fp a0 sd we nu na ((rs.length : Int) + 1) M R O A)) (cl_q := 0) (sl_q := 0) rfl ?_
        have el : (i : Int) + 1 = ((i + 1 : Nat) : Int) := by omega
        rw [el]
        exact ih _ (by omega) (i + 1) rfl (by omega) (zni_s hni hm (by omega))
      · refine ik_Wk 1 (pc_q := 42) (loc_q := [some (.ref 66), some (fI (p : Int)), some (fI (i : Int))]) (st_q := [.ref 66]) (h_q := (pre ++ rz_t w wt c tl T n fp a0 sd we nu na ((rs.length : Int) + 1) M R O A)) (cl_q := 0) (sl_q := 0) rfl ?_
        refine fw_bi rfl (by decide) ?_
        refine ik_Wk 1 (pc_q := 45) (loc_q := [some (.ref 66), some (fI (p : Int)), some (fI (i : Int))]) (st_q := [.ref 66, fI 6, .ref 66]) (h_q := (pre ++ rz_t w wt c tl T n fp a0 sd we nu na ((rs.length : Int) + 1) M R O A)) (cl_q := 0) (sl_q := 0) rfl ?_
        refine fw_gf rfl rfl (rz_g 0 hpre rfl) rfl ?_
        refine ik_Wk 2 (pc_q := 50) (loc_q := [some (.ref 66), some (fI (p : Int)), some (fI (i : Int))]) (st_q := [fI (p : Int), fI 4, .ref 76, fI 6, .ref 66]) (h_q := (pre ++ rz_t w wt c tl T n fp a0 sd we nu na ((rs.length : Int) + 1) M R O A)) (cl_q := 0) (sl_q := 0) rfl ?_
        refine fw_mul rfl ?_
        refine ik_Wk 1 (pc_q := 52) (loc_q := [some (.ref 66), some (fI (p : Int)), some (fI (i : Int))]) (st_q := [fI (i : Int), fI (4 * (p : Int)), .ref 76, fI 6, .ref 66]) (h_q := (pre ++ rz_t w wt c tl T n fp a0 sd we nu na ((rs.length : Int) + 1) M R O A)) (cl_q := 0) (sl_q := 0) rfl ?_
        refine fw_add rfl ?_
        refine fw_ial rfl (rz_g 10 hpre rfl) (by omega) (by omega) (by omega) ?_
        refine fw_call 137 3 0 [.ref 66, fI 6, fI (A.getD ((4 * (p : Int)) + (i : Int)).toNat 0)] [] rfl rfl rfl (Nat.le_of_ble_eq_true rfl) rfl rfl (fw_rec (rz_len hpre htl) rfl (rz_g 0 hpre rfl) rfl (by decide)) (rz_fails ok) ?_
        rintro rv h_q ⟨rfl, rfl⟩
        refine ik_Wk 0 (pc_q := 57) (loc_q := [some (.ref 66), some (fI (p : Int)), some (fI (i : Int))]) (st_q := [fI 6]) (h_q := (pre ++ rz_t w wt c tl T n (A.getD ((4 * (p : Int)) + (i : Int)).toNat 0) a0 sd we nu na ((rs.length : Int) + 1) M R O A)) (cl_q := 0) (sl_q := 0) rfl ?_
        refine ik_Wret rfl rfl ⟨_, _, rfl, rfl, rfl, rfl, (Or.inl ⟨m, zck_t hr hm (by omega) hni hno, rfl, ?_⟩)⟩
        rw [hat.2]

theorem rz_ckO {pre tl : List ik_E} {w : Nat → Value} {wt : List Value} {c : Nat → ik_E} {y : Int → Int} {T : List Int} {n fp a0 sd we nu na : Int} {M R O A : List Int} (ok : rz_ok y T n pre tl) {rs : List (List zM)} (hM : M.length = (12 : Nat)) (hR : R.length = (48 : Nat)) (hO : O.length = (48 : Nat)) (hA : A.length = (48 : Nat)) (hH : zH M R O A rs) (hrs : zrows rs) : ∀ (d : Nat) (p : Nat) (w4 : Option Value), rs.length - p = d → p ≤ rs.length → zno rs p → ik_G 146 2 [some (.ref 66), some (fI (p : Int)), w4] [] (pre ++ rz_t w wt c tl T n fp a0 sd we nu na ((rs.length : Int) + 1) M R O A) (fun rv h_q => (∃ m, zck rs = some m ∧ rv = [fI 6] ∧ h_q = (pre ++ rz_t w wt c tl T n m.2.2 a0 sd we nu na ((rs.length : Int) + 1) M R O A)) ∨ (zck rs = none ∧ rv = [fI 0] ∧ h_q = (pre ++ rz_t w wt c tl T n fp a0 sd we nu na ((rs.length : Int) + 1) M R O A))) := by
  have ok' := ok
  obtain ⟨hpre, htl, hT, bT, hn, hn2, hy⟩ := ok'
  have hrl := hrs.1
  intro d
  induction d using Nat.strongRecOn with
  | _ d ih =>
    intro p w4 hk hp0 hno
    refine ik_Wk 2 (pc_q := 4) (loc_q := [some (.ref 66), some (fI (p : Int)), w4]) (st_q := [.ref 66, fI (p : Int)]) (h_q := (pre ++ rz_t w wt c tl T n fp a0 sd we nu na ((rs.length : Int) + 1) M R O A)) (cl_q := 0) (sl_q := 0) rfl ?_
    refine fw_gf rfl rfl (rz_g 0 hpre rfl) rfl ?_
    refine ik_Wk 1 (pc_q := 8) (loc_q := [some (.ref 66), some (fI (p : Int)), w4]) (st_q := [fI 1, fI ((rs.length : Int) + 1), fI (p : Int)]) (h_q := (pre ++ rz_t w wt c tl T n fp a0 sd we nu na ((rs.length : Int) + 1) M R O A)) (cl_q := 0) (sl_q := 0) rfl ?_
    refine fw_sub rfl ?_
    refine fw_ic_ge rfl rfl (by omega) (by omega) (by omega) (by omega) (fun hc1 => ?_) (fun hc1 => ?_)
    · refine ik_Wk 1 (pc_q := 71) (loc_q := [some (.ref 66), some (fI (p : Int)), w4]) (st_q := [fI 0]) (h_q := (pre ++ rz_t w wt c tl T n fp a0 sd we nu na ((rs.length : Int) + 1) M R O A)) (cl_q := 0) (sl_q := 0) rfl ?_
      exact ik_Wret rfl rfl ⟨_, _, rfl, rfl, rfl, rfl, (Or.inr ⟨zck_n (fun p' r' hp' hr' => hno p' r' (by omega) hr'), rfl, rfl⟩)⟩
    · refine ik_Wk 2 (pc_q := 14) (loc_q := [some (.ref 66), some (fI (p : Int)), some (fI 0)]) (st_q := []) (h_q := (pre ++ rz_t w wt c tl T n fp a0 sd we nu na ((rs.length : Int) + 1) M R O A)) (cl_q := 0) (sl_q := 0) rfl ?_
      have hp : p < rs.length := by omega
      have hr : rs[p]? = some rs[p] := List.getElem?_eq_getElem hp
      generalize rs[p] = r at hr
      refine rz_ckI ok hM hR hO hA hH hrs hr hno (fun hni hp10 => ?_) _ 0 rfl (by omega) (fun j m q => absurd q (by omega))
      refine fw_inc (a := (p : Int)) (loc_q := [some (.ref 66), some (fI ((p : Int) + 1)), some (fI (r.length : Int))]) rfl rfl (Nat.le_of_ble_eq_true rfl) rfl ?_
      refine ik_Wk 1 (pc_q := 2) (loc_q := [some (.ref 66), some (fI ((p : Int) + 1)), some (fI (r.length : Int))]) (st_q := []) (h_q := (pre ++ rz_t w wt c tl T n fp a0 sd we nu na ((rs.length : Int) + 1) M R O A)) (cl_q := 0) (sl_q := 0) rfl ?_
      have el : (p : Int) + 1 = ((p + 1 : Nat) : Int) := by omega
      rw [el]
      exact ih _ (by omega) (p + 1) _ rfl (by omega) (zno_s hno hr hni)

theorem rz_ck {pre tl : List ik_E} {w : Nat → Value} {wt : List Value} {c : Nat → ik_E} {y : Int → Int} {T : List Int} {n fp a0 sd we nu na : Int} {M R O A : List Int} (ok : rz_ok y T n pre tl) {rs : List (List zM)} (hM : M.length = (12 : Nat)) (hR : R.length = (48 : Nat)) (hO : O.length = (48 : Nat)) (hA : A.length = (48 : Nat)) (hH : zH M R O A rs) (hrs : zrows rs) : ik_F 146 [.ref 66] (pre ++ rz_t w wt c tl T n fp a0 sd we nu na ((rs.length : Int) + 1) M R O A) (fun rv h_q => (∃ m, zck rs = some m ∧ rv = [fI 6] ∧ h_q = (pre ++ rz_t w wt c tl T n m.2.2 a0 sd we nu na ((rs.length : Int) + 1) M R O A)) ∨ (zck rs = none ∧ rv = [fI 0] ∧ h_q = (pre ++ rz_t w wt c tl T n fp a0 sd we nu na ((rs.length : Int) + 1) M R O A))) := by
  have ok' := ok
  obtain ⟨hpre, htl, hT, bT, hn, hn2, hy⟩ := ok'
  refine ik_Wk 2 (pc_q := 2) (loc_q := [some (.ref 66), some (fI 0), none]) (st_q := []) (h_q := (pre ++ rz_t w wt c tl T n fp a0 sd we nu na ((rs.length : Int) + 1) M R O A)) (cl_q := 0) (sl_q := 0) rfl ?_
  exact rz_ckO ok hM hR hO hA hH hrs _ 0 none rfl (by omega) (fun p' r' q => absurd q (by omega))

theorem rz_ck0 {pre tl : List ik_E} {w : Nat → Value} {wt : List Value} {c : Nat → ik_E} {y : Int → Int} {T : List Int} {n fp a0 sd we nu na : Int} {M R O A : List Int} (ok : rz_ok y T n pre tl) : ik_F 146 [.ref 66] (pre ++ rz_t w wt c tl T n fp a0 sd we nu na 0 M R O A) (fun rv h_q => rv = [fI 0] ∧ h_q = (pre ++ rz_t w wt c tl T n fp a0 sd we nu na 0 M R O A)) := by
  have ok' := ok
  obtain ⟨hpre, htl, hT, bT, hn, hn2, hy⟩ := ok'
  refine ik_Wk 4 (pc_q := 4) (loc_q := [some (.ref 66), some (fI 0), none]) (st_q := [.ref 66, fI 0]) (h_q := (pre ++ rz_t w wt c tl T n fp a0 sd we nu na 0 M R O A)) (cl_q := 0) (sl_q := 0) rfl ?_
  refine fw_gf rfl rfl (rz_g 0 hpre rfl) rfl ?_
  refine ik_Wk 1 (pc_q := 8) (loc_q := [some (.ref 66), some (fI 0), none]) (st_q := [fI 1, fI 0, fI 0]) (h_q := (pre ++ rz_t w wt c tl T n fp a0 sd we nu na 0 M R O A)) (cl_q := 0) (sl_q := 0) rfl ?_
  refine fw_sub rfl ?_
  refine fw_ic_ge rfl rfl (by omega) (by omega) (by omega) (by omega) (fun hc1 => ?_) (fun hc1 => absurd hc1 (by omega))
  refine ik_Wk 1 (pc_q := 71) (loc_q := [some (.ref 66), some (fI 0), none]) (st_q := [fI 0]) (h_q := (pre ++ rz_t w wt c tl T n fp a0 sd we nu na 0 M R O A)) (cl_q := 0) (sl_q := 0) rfl ?_
  exact ik_Wret rfl rfl ⟨_, _, rfl, rfl, rfl, rfl, ⟨rfl, rfl⟩⟩

def rz_RA (pre tl : List ik_E) (w : Nat → Value) (wt : List Value) (c : Nat → ik_E) (T : List Int) (n fp : Int) (res : (Int × Int) ⊕ (Int × List (List zM))) (rv : List Value) (h_q : List ik_E) : Prop := match res with
  | .inl e => rv = [fI e.1] ∧ 1 ≤ e.1 ∧ e.1 ≤ 6 ∧ ∃ (a' sd' we' nu' na' rp' : Int) (M' R' O' A' : List Int), M'.length = 12 ∧ R'.length = 48 ∧ O'.length = 48 ∧ A'.length = 48 ∧ h_q = pre ++ rz_t w wt c tl T n e.2 a' sd' we' nu' na' rp' M' R' O' A'
  | .inr q => rv = [fI 0] ∧ ∃ (a' sd' we' nu' na' : Int) (M' R' O' A' : List Int), M'.length = 12 ∧ R'.length = 48 ∧ O'.length = 48 ∧ A'.length = 48 ∧ h_q = pre ++ rz_t w wt c tl T n fp a' sd' we' nu' na' q.1 M' R' O' A' ∧ zH M' R' O' A' q.2 ∧ zrows q.2 ∧ (q.1 = 0 ∧ q.2 = [] ∨ q.1 = (q.2.length : Int) + 1)
/-- what the places say of the whole -/
def zfin (res : (Int × Int) ⊕ List (List zM)) : (Int × Int) ⊕ (Int × List (List zM)) := match res with
  | .inl e => .inl e
  | .inr rs => match zck rs with
    | some m => .inl (6, m.2.2)
    | none => .inr ((rs.length : Int) + 1, rs)
theorem zall_e {y : Int → Int} {n : Int} : zall y n = if zS y n 0 < n then zfin (zps y n 12 [] (zS y n 0)) else .inr (0, []) := by
  unfold zall zfin
  split
  · cases zps y n 12 [] (zS y n 0) with
    | inl e => rfl
    | inr rs => rfl
  · rfl

theorem zpl_br {y : Int → Int} {n s : Int} (h : zpl y n s = true) : ¬ zbr y n s = true := by
  intro q
  unfold zpl at h
  unfold zbr at q
  have h1 := (of_decide_eq_true h).1
  have h2 := (of_decide_eq_true q).1
  omega
theorem zH_snr {C G P B C' G' P' B' : List Int} {rs : List (List zM)} {r : List zM} {p : Nat} (h : zH C G P B rs) (hp : p = rs.length) (hc1 : C'.getD p 0 = (r.length : Int)) (hc2 : ∀ j : Nat, ¬ j = p → C'.getD j 0 = C.getD j 0) (hr : r.length ≤ 4) (hz : zh G' P' B' p r) (ag : zag (4 * p) G G') (ap : zag (4 * p) P P') (ab : zag (4 * p) B B') : zH C' G' P' B' (rs ++ [r]) := by
  intro q s hs
  by_cases hq : q < rs.length
  · rw [List.getElem?_append_left hq] at hs
    obtain ⟨h1, h2, h3⟩ := h q s hs
    refine ⟨?_, h2, fun i m hm => ?_⟩
    · rw [hc2 q (by omega)]; exact h1
    · have hi : i < s.length := by
        rcases Nat.lt_or_ge i s.length with w | w
        · exact w
        · rw [List.getElem?_eq_none w] at hm; cases hm
      rw [ag _ (by omega), ap _ (by omega), ab _ (by omega)]
      exact h3 i m hm
  · have e : q = rs.length := by
      have hq2 : q < (rs ++ [r]).length := by
        rcases Nat.lt_or_ge q (rs ++ [r]).length with w | w
        · exact w
        · rw [List.getElem?_eq_none w] at hs; cases hs
      rw [List.length_append] at hq2
      simp only [List.length_cons, List.length_nil] at hq2
      omega
    subst e
    rw [List.getElem?_append_right (Nat.le_refl _), Nat.sub_self] at hs
    cases hs
    subst hp
    exact ⟨hc1, hr, hz⟩

theorem rz_alL {pre tl : List ik_E} {w : Nat → Value} {wt : List Value} {c : Nat → ik_E} {y : Int → Int} {T : List Int} {n fp : Int} (ok : rz_ok y T n pre tl) : ∀ (k : Nat) (rs : List (List zM)) (cur sd we nu na : Int) (M R O A : List Int) (w4 : Option Value), rs.length + k = 11 → ik_wl 94 w4 = true → M.length = (12 : Nat) → R.length = (48 : Nat) → O.length = (48 : Nat) → A.length = (48 : Nat) → zH M R O A rs → zrows rs → (0 : Int) ≤ cur → cur ≤ n → ik_G 145 13 [some (.ref 66), some (fI 1), w4] [] (pre ++ rz_t w wt c tl T n fp cur sd we nu na (rs.length : Int) M R O A) (rz_RA pre tl w wt c T n fp (zfin (zps y n (k + 1) rs cur))) := by
  have ok' := ok
  obtain ⟨hpre, htl, hT, bT, hn, hn2, hy⟩ := ok'
  intro k
  induction k using Nat.strongRecOn with
  | _ k ih =>
    intro rs cur sd we nu na M R O A w4 hk hw hM hR hO hA hH hrs h0 h1
    refine ik_Wk 1 (pc_q := 14) (loc_q := [some (.ref 66), some (fI 1), w4]) (st_q := [fI 1]) (h_q := (pre ++ rz_t w wt c tl T n fp cur sd we nu na (rs.length : Int) M R O A)) (cl_q := 0) (sl_q := 0) rfl ?_
    refine fw_if_eq rfl rfl (by omega) (by omega) (fun hc1 => absurd hc1 (by omega)) (fun hc1 => ?_)
    refine ik_Wk 1 (pc_q := 18) (loc_q := [some (.ref 66), some (fI 1), w4]) (st_q := [.ref 66]) (h_q := (pre ++ rz_t w wt c tl T n fp cur sd we nu na (rs.length : Int) M R O A)) (cl_q := 0) (sl_q := 0) rfl ?_
    refine fw_bi rfl (by decide) ?_
    refine fw_bi rfl (by decide) ?_
    refine fw_bi rfl (by decide) ?_
    refine fw_bi rfl (by decide) ?_
    refine fw_call 139 4 3 [fI 112, fI 108, fI 97, fI 99] [.ref 66] rfl rfl rfl (Nat.le_of_ble_eq_true rfl) rfl rfl (fw_sta (rz_len hpre htl) (fw_ftw (l0 := [some (.ref 66), some (fI 1)]) hw rfl) (by decide)) (rz_code (by decide) (by decide) (by decide) (by decide) (by decide) (by decide) (by decide) (by decide)) ?_
    rintro rv h_q ⟨rfl, rfl⟩
    refine ik_Wk 0 (pc_q := 29) (loc_q := [some (.ref 66), some (fI 1), w4]) (st_q := [fJ (27 * (27 * (27 * (112 - 96) + 108 - 96) + 97 - 96) + 99 - 96), .ref 66]) (h_q := (pre ++ rz_t w wt c tl T n fp cur sd we nu na (rs.length : Int) M R O A)) (cl_q := 0) (sl_q := 0) rfl ?_
    refine fw_bi rfl (by decide) ?_
    refine fw_call 140 2 3 [fJ (27 * (27 * (27 * (112 - 96) + 108 - 96) + 97 - 96) + 99 - 96), fI 101] [.ref 66] rfl rfl rfl (Nat.le_of_ble_eq_true rfl) rfl rfl (fw_sta (rz_len hpre htl) (fw_ftw (l0 := [some (.ref 66), some (fI 1)]) hw rfl) (by decide)) (rz_longer (by decide) (by decide)) ?_
    rintro rv h_q ⟨rfl, rfl⟩
    refine ik_Wk 0 (pc_q := 34) (loc_q := [some (.ref 66), some (fI 1), w4]) (st_q := [fJ (27 * (27 * (27 * (27 * (112 - 96) + 108 - 96) + 97 - 96) + 99 - 96) + 101 - 96), .ref 66]) (h_q := (pre ++ rz_t w wt c tl T n fp cur sd we nu na (rs.length : Int) M R O A)) (cl_q := 0) (sl_q := 0) rfl ?_
    refine fw_call 142 2 0 [.ref 66, fJ (27 * (27 * (27 * (27 * (112 - 96) + 108 - 96) + 97 - 96) + 99 - 96) + 101 - 96)] [] rfl rfl rfl (Nat.le_of_ble_eq_true rfl) rfl rfl (fw_rec (rz_len hpre htl) (fw_ftw (l0 := [some (.ref 66), some (fI 1)]) hw rfl) (rz_g 0 hpre rfl) rfl (by decide)) (rz_pass_pl ok (by decide) (by omega) (by omega)) ?_
    rintro rv h_q (⟨hw2, rfl, sd', we', hw2a, hw2b, rfl⟩ | ⟨hw2, rfl, sd', we', hw2a, hw2b, rfl⟩)
    · have hz3 := zS_ge (y := y) (n := n) cur
      have hz4 := zS_le (y := y) (n := n) (i := cur) (by omega)
      have hz5 : zS y n cur + 5 ≤ n := by have q := hw2; unfold zpl at q; have := of_decide_eq_true q; have := zE_le (y := y) (n := n) (i := zS y n cur) (by omega); omega
      refine ik_Wk 0 (pc_q := 37) (loc_q := [some (.ref 66), some (fI 1), w4]) (st_q := [fI 1]) (h_q := (pre ++ rz_t w wt c tl T n fp (zS y n cur + 5) sd' we' nu na (rs.length : Int) M R O A)) (cl_q := 0) (sl_q := 0) rfl ?_
      refine fw_if_eq rfl rfl (by omega) (by omega) (fun hc6 => absurd hc6 (by omega)) (fun hc6 => ?_)
      refine ik_Wk 1 (pc_q := 41) (loc_q := [some (.ref 66), some (fI 1), w4]) (st_q := [.ref 66]) (h_q := (pre ++ rz_t w wt c tl T n fp (zS y n cur + 5) sd' we' nu na (rs.length : Int) M R O A)) (cl_q := 0) (sl_q := 0) rfl ?_
      refine fw_gf rfl rfl (rz_g 0 hpre rfl) rfl ?_
      refine fw_bi rfl (by decide) ?_
      refine fw_ic_ne rfl rfl (by omega) (by omega) (by omega) (by omega) (fun hc7 => ?_) (fun hc7 => ?_)
      · refine ik_Wk 3 (pc_q := 52) (loc_q := [some (.ref 66), some (fI 1), w4]) (st_q := [.ref 66, fI 3, .ref 66]) (h_q := (pre ++ rz_t w wt c tl T n fp (zS y n cur + 5) sd' we' nu na (rs.length : Int) M R O A)) (cl_q := 0) (sl_q := 0) rfl ?_
        refine fw_gf rfl rfl (rz_g 0 hpre rfl) rfl ?_
        refine ik_Wk 1 (pc_q := 56) (loc_q := [some (.ref 66), some (fI 1), w4]) (st_q := [fI 5, fI (zS y n cur + 5), fI 3, .ref 66]) (h_q := (pre ++ rz_t w wt c tl T n fp (zS y n cur + 5) sd' we' nu na (rs.length : Int) M R O A)) (cl_q := 0) (sl_q := 0) rfl ?_
        refine fw_sub rfl ?_
        refine fw_call 137 3 0 [.ref 66, fI 3, fI ((zS y n cur + 5) - 5)] [] rfl rfl rfl (Nat.le_of_ble_eq_true rfl) rfl rfl (fw_rec (rz_len hpre htl) (fw_ftw (l0 := [some (.ref 66), some (fI 1)]) hw rfl) (rz_g 0 hpre rfl) rfl (by decide)) (rz_fails ok) ?_
        rintro rv h_q ⟨rfl, rfl⟩
        refine ik_Wk 0 (pc_q := 60) (loc_q := [some (.ref 66), some (fI 1), w4]) (st_q := [fI 3]) (h_q := (pre ++ rz_t w wt c tl T n ((zS y n cur + 5) - 5) (zS y n cur + 5) sd' we' nu na (rs.length : Int) M R O A)) (cl_q := 0) (sl_q := 0) rfl ?_
        have hnb : ¬ zbr y n (zS y n cur) = true := zpl_br hw2
        have hfin : zfin (zps y n (k + 1) rs cur) = .inl (3, zS y n cur) := by rw [zps, if_neg hnb, if_pos hw2, if_pos (by omega)]; rfl
        rw [hfin]
        exact ik_Wret rfl rfl ⟨_, _, rfl, rfl, rfl, rfl, ⟨rfl, (show (1 : Int) ≤ 3 by decide), (show (3 : Int) ≤ 6 by decide), _, _, _, _, _, _, M, R, O, A, hM, hR, hO, hA, by rw [show (zS y n cur + 5) - 5 = zS y n cur by omega]⟩⟩
      · refine ik_Wk 1 (pc_q := 62) (loc_q := [some (.ref 66), some (fI 1), w4]) (st_q := [.ref 66]) (h_q := (pre ++ rz_t w wt c tl T n fp (zS y n cur + 5) sd' we' nu na (rs.length : Int) M R O A)) (cl_q := 0) (sl_q := 0) rfl ?_
        refine fw_call 144 1 0 [.ref 66] [] rfl rfl rfl (Nat.le_of_ble_eq_true rfl) rfl rfl (fw_rec (rz_len hpre htl) (fw_ftw (l0 := [some (.ref 66), some (fI 1)]) hw rfl) (rz_g 0 hpre rfl) rfl (by decide)) (rz_pl ok hM hR hO hA (by omega) (by omega) (by omega) (by omega)) ?_
        intro rv h_q hq
        rcases hm : zmv y n 5 [] 0 (zS y n cur + 5) with e | q
        · rw [hm] at hq
          obtain ⟨rfl, he1, he2, a', sd'', we'', nu', na', M', R', O', A', hM', hR', hO', hA', hf0, hf1, rfl⟩ := hq
          refine ik_Wk 0 (pc_q := 65) (loc_q := [some (.ref 66), some (fI 1), w4]) (st_q := [fI e.1]) (h_q := (pre ++ rz_t w wt c tl T n e.2 a' sd'' we'' nu' na' (rs.length : Int) M' R' O' A')) (cl_q := 0) (sl_q := 0) rfl ?_
          refine ik_Wk 2 (pc_q := 67) (loc_q := [some (.ref 66), some (fI 1), some (fI e.1)]) (st_q := [fI e.1]) (h_q := (pre ++ rz_t w wt c tl T n e.2 a' sd'' we'' nu' na' (rs.length : Int) M' R' O' A')) (cl_q := 0) (sl_q := 0) rfl ?_
          refine fw_if_le rfl rfl (by omega) (by omega) (fun hc8 => absurd hc8 (by omega)) (fun hc8 => ?_)
          refine ik_Wk 1 (pc_q := 71) (loc_q := [some (.ref 66), some (fI 1), some (fI e.1)]) (st_q := [fI e.1]) (h_q := (pre ++ rz_t w wt c tl T n e.2 a' sd'' we'' nu' na' (rs.length : Int) M' R' O' A')) (cl_q := 0) (sl_q := 0) rfl ?_
          have hnb : ¬ zbr y n (zS y n cur) = true := zpl_br hw2
          have hfin : zfin (zps y n (k + 1) rs cur) = .inl e := by rw [zps, if_neg hnb, if_pos hw2, if_neg (by omega), hm]; rfl
          rw [hfin]
          exact ik_Wret rfl rfl ⟨_, _, rfl, rfl, rfl, rfl, ⟨rfl, he1, he2, a', _, _, nu', na', _, M', R', O', A', hM', hR', hO', hA', rfl⟩⟩
        · rw [hm] at hq
          obtain ⟨rfl, sd'', we'', nu', na', M', R', O', A', hM', hR', hO', hA', hf0, hf1, rfl, hc1, hc2, hzr, ag, ap, ab, hrr, hrl4⟩ := hq
          refine ik_Wk 0 (pc_q := 65) (loc_q := [some (.ref 66), some (fI 1), w4]) (st_q := [fI 0]) (h_q := (pre ++ rz_t w wt c tl T n fp q.2 sd'' we'' nu' na' ((rs.length : Int) + 1) M' R' O' A')) (cl_q := 0) (sl_q := 0) rfl ?_
          refine ik_Wk 2 (pc_q := 67) (loc_q := [some (.ref 66), some (fI 1), some (fI 0)]) (st_q := [fI 0]) (h_q := (pre ++ rz_t w wt c tl T n fp q.2 sd'' we'' nu' na' ((rs.length : Int) + 1) M' R' O' A')) (cl_q := 0) (sl_q := 0) rfl ?_
          refine fw_if_le rfl rfl (by omega) (by omega) (fun hc9 => ?_) (fun hc9 => absurd hc9 (by omega))
          refine ik_Wk 1 (pc_q := 13) (loc_q := [some (.ref 66), some (fI 1), some (fI 0)]) (st_q := []) (h_q := (pre ++ rz_t w wt c tl T n fp q.2 sd'' we'' nu' na' ((rs.length : Int) + 1) M' R' O' A')) (cl_q := 0) (sl_q := 0) rfl ?_
          obtain ⟨k', rfl⟩ : ∃ k', k = k' + 1 := ⟨k - 1, by omega⟩
          have hnb : ¬ zbr y n (zS y n cur) = true := zpl_br hw2
          have e2 : ((rs ++ [q.1]).length : Int) = (rs.length : Int) + 1 := by rw [List.length_append]; rfl
          rw [zps, if_neg hnb, if_pos hw2, if_neg (by omega), hm, ← e2]
          rw [Int.toNat_natCast] at hc1 hc2 hzr ag ap ab
          exact ih k' (by omega) (rs ++ [q.1]) q.2 _ _ _ _ M' R' O' A' _ (by rw [List.length_append]; simp only [List.length_cons, List.length_nil]; omega) rfl hM' hR' hO' hA' (zH_snr hH rfl hc1 hc2 hrl4 hzr ag ap ab) (zrows_snoc hrs (by omega) hrr) hf0 hf1
    · have hz10 := zS_ge (y := y) (n := n) cur
      have hz11 := zS_le (y := y) (n := n) (i := cur) (by omega)
      refine ik_Wk 0 (pc_q := 37) (loc_q := [some (.ref 66), some (fI 1), w4]) (st_q := [fI 0]) (h_q := (pre ++ rz_t w wt c tl T n fp (zS y n cur) sd' we' nu na (rs.length : Int) M R O A)) (cl_q := 0) (sl_q := 0) rfl ?_
      refine fw_if_eq rfl rfl (by omega) (by omega) (fun hc12 => ?_) (fun hc12 => absurd hc12 (by omega))
      refine ik_Wk 1 (pc_q := 76) (loc_q := [some (.ref 66), some (fI 1), w4]) (st_q := [.ref 66]) (h_q := (pre ++ rz_t w wt c tl T n fp (zS y n cur) sd' we' nu na (rs.length : Int) M R O A)) (cl_q := 0) (sl_q := 0) rfl ?_
      refine fw_bi rfl (by decide) ?_
      refine fw_bi rfl (by decide) ?_
      refine fw_bi rfl (by decide) ?_
      refine fw_bi rfl (by decide) ?_
      refine fw_call 139 4 3 [fI 98, fI 114, fI 105, fI 100] [.ref 66] rfl rfl rfl (Nat.le_of_ble_eq_true rfl) rfl rfl (fw_sta (rz_len hpre htl) (fw_ftw (l0 := [some (.ref 66), some (fI 1)]) hw rfl) (by decide)) (rz_code (by decide) (by decide) (by decide) (by decide) (by decide) (by decide) (by decide) (by decide)) ?_
      rintro rv h_q ⟨rfl, rfl⟩
      refine ik_Wk 0 (pc_q := 87) (loc_q := [some (.ref 66), some (fI 1), w4]) (st_q := [fJ (27 * (27 * (27 * (98 - 96) + 114 - 96) + 105 - 96) + 100 - 96), .ref 66]) (h_q := (pre ++ rz_t w wt c tl T n fp (zS y n cur) sd' we' nu na (rs.length : Int) M R O A)) (cl_q := 0) (sl_q := 0) rfl ?_
      refine fw_bi rfl (by decide) ?_
      refine fw_call 140 2 3 [fJ (27 * (27 * (27 * (98 - 96) + 114 - 96) + 105 - 96) + 100 - 96), fI 103] [.ref 66] rfl rfl rfl (Nat.le_of_ble_eq_true rfl) rfl rfl (fw_sta (rz_len hpre htl) (fw_ftw (l0 := [some (.ref 66), some (fI 1)]) hw rfl) (by decide)) (rz_longer (by decide) (by decide)) ?_
      rintro rv h_q ⟨rfl, rfl⟩
      refine ik_Wk 0 (pc_q := 92) (loc_q := [some (.ref 66), some (fI 1), w4]) (st_q := [fJ (27 * (27 * (27 * (27 * (98 - 96) + 114 - 96) + 105 - 96) + 100 - 96) + 103 - 96), .ref 66]) (h_q := (pre ++ rz_t w wt c tl T n fp (zS y n cur) sd' we' nu na (rs.length : Int) M R O A)) (cl_q := 0) (sl_q := 0) rfl ?_
      refine fw_bi rfl (by decide) ?_
      refine fw_call 140 2 3 [fJ (27 * (27 * (27 * (27 * (98 - 96) + 114 - 96) + 105 - 96) + 100 - 96) + 103 - 96), fI 101] [.ref 66] rfl rfl rfl (Nat.le_of_ble_eq_true rfl) rfl rfl (fw_sta (rz_len hpre htl) (fw_ftw (l0 := [some (.ref 66), some (fI 1)]) hw rfl) (by decide)) (rz_longer (by decide) (by decide)) ?_
      rintro rv h_q ⟨rfl, rfl⟩
      refine ik_Wk 0 (pc_q := 97) (loc_q := [some (.ref 66), some (fI 1), w4]) (st_q := [fJ (27 * (27 * (27 * (27 * (27 * (98 - 96) + 114 - 96) + 105 - 96) + 100 - 96) + 103 - 96) + 101 - 96), .ref 66]) (h_q := (pre ++ rz_t w wt c tl T n fp (zS y n cur) sd' we' nu na (rs.length : Int) M R O A)) (cl_q := 0) (sl_q := 0) rfl ?_
      refine fw_call 142 2 0 [.ref 66, fJ (27 * (27 * (27 * (27 * (27 * (98 - 96) + 114 - 96) + 105 - 96) + 100 - 96) + 103 - 96) + 101 - 96)] [] rfl rfl rfl (Nat.le_of_ble_eq_true rfl) rfl rfl (fw_rec (rz_len hpre htl) (fw_ftw (l0 := [some (.ref 66), some (fI 1)]) hw rfl) (rz_g 0 hpre rfl) rfl (by decide)) (rz_pass_br ok (by decide) (by omega) (by omega)) ?_
      rw [zS_idem]
      rintro rv h_q (⟨hw13, rfl, sd', we', hw13a, hw13b, rfl⟩ | ⟨hw13, rfl, sd', we', hw13a, hw13b, rfl⟩)
      · have hz14 := zS_ge (y := y) (n := n) cur
        have hz15 := zS_le (y := y) (n := n) (i := cur) (by omega)
        have hz16 : zS y n cur + 6 ≤ n := by have q := hw13; unfold zbr at q; have := of_decide_eq_true q; have := zE_le (y := y) (n := n) (i := zS y n cur) (by omega); omega
        refine ik_Wk 0 (pc_q := 100) (loc_q := [some (.ref 66), some (fI 1), w4]) (st_q := [fI 1]) (h_q := (pre ++ rz_t w wt c tl T n fp (zS y n cur + 6) sd' we' nu na (rs.length : Int) M R O A)) (cl_q := 0) (sl_q := 0) rfl ?_
        refine fw_if_ne rfl rfl (by omega) (by omega) (fun hc17 => absurd hc17 (by omega)) (fun hc17 => ?_)
        refine ik_Wk 1 (pc_q := 114) (loc_q := [some (.ref 66), some (fI 1), w4]) (st_q := [.ref 66]) (h_q := (pre ++ rz_t w wt c tl T n fp (zS y n cur + 6) sd' we' nu na (rs.length : Int) M R O A)) (cl_q := 0) (sl_q := 0) rfl ?_
        refine fw_call 136 1 0 [.ref 66] [] rfl rfl rfl (Nat.le_of_ble_eq_true rfl) rfl rfl (fw_rec (rz_len hpre htl) (fw_ftw (l0 := [some (.ref 66), some (fI 1)]) hw rfl) (rz_g 0 hpre rfl) rfl (by decide)) (rz_here ok (by omega) (by omega)) ?_
        rintro rv h_q ⟨⟨ht18, rfl⟩ | ⟨ht18, rfl⟩, rfl⟩
        · have hz20 := zS_ge (y := y) (n := n) (zS y n cur + 6)
          have hz21 := zS_le (y := y) (n := n) (i := zS y n cur + 6) (by omega)
          have hb22 := bT (zS y n (zS y n cur + 6)) (by omega) (by omega)
          have hb23 := hy (zS y n (zS y n cur + 6)) (by omega) (by omega)
          refine ik_Wk 0 (pc_q := 117) (loc_q := [some (.ref 66), some (fI 1), w4]) (st_q := [fI (y (zS y n (zS y n cur + 6)))]) (h_q := (pre ++ rz_t w wt c tl T n fp (zS y n (zS y n cur + 6)) sd' we' nu na (rs.length : Int) M R O A)) (cl_q := 0) (sl_q := 0) rfl ?_
          refine fw_bi rfl (by decide) ?_
          refine fw_ic_eq rfl rfl (by omega) (by omega) (by omega) (by omega) (fun hc24 => ?_) (fun hc24 => ?_)
          · refine ik_Wk 2 (pc_q := 134) (loc_q := [some (.ref 66), some (fI 1), w4]) (st_q := [.ref 66, .ref 66]) (h_q := (pre ++ rz_t w wt c tl T n fp (zS y n (zS y n cur + 6)) sd' we' nu na (rs.length : Int) M R O A)) (cl_q := 0) (sl_q := 0) rfl ?_
            refine fw_gf rfl rfl (rz_g 0 hpre rfl) rfl ?_
            refine ik_Wk 1 (pc_q := 138) (loc_q := [some (.ref 66), some (fI 1), w4]) (st_q := [fI 1, fI (zS y n (zS y n cur + 6)), .ref 66]) (h_q := (pre ++ rz_t w wt c tl T n fp (zS y n (zS y n cur + 6)) sd' we' nu na (rs.length : Int) M R O A)) (cl_q := 0) (sl_q := 0) rfl ?_
            refine fw_add rfl ?_
            refine fw_pf (h_q := (pre ++ rz_t w wt c tl T n fp ((zS y n (zS y n cur + 6)) + 1) sd' we' nu na (rs.length : Int) M R O A)) rfl rfl (rz_g 0 hpre rfl) (Nat.le_of_ble_eq_true rfl) rfl rfl (rz_s 0 hpre rfl) ?_
            refine ik_Wk 2 (pc_q := 144) (loc_q := [some (.ref 66), some (fI 1), w4]) (st_q := [.ref 66, .ref 66]) (h_q := (pre ++ rz_t w wt c tl T n fp ((zS y n (zS y n cur + 6)) + 1) sd' we' nu na (rs.length : Int) M R O A)) (cl_q := 0) (sl_q := 0) rfl ?_
            refine fw_gf rfl rfl (rz_g 0 hpre rfl) rfl ?_
            refine ik_Wk 1 (pc_q := 148) (loc_q := [some (.ref 66), some (fI 1), w4]) (st_q := [fI 1, fI (rs.length : Int), .ref 66]) (h_q := (pre ++ rz_t w wt c tl T n fp ((zS y n (zS y n cur + 6)) + 1) sd' we' nu na (rs.length : Int) M R O A)) (cl_q := 0) (sl_q := 0) rfl ?_
            refine fw_add rfl ?_
            refine fw_pf (h_q := (pre ++ rz_t w wt c tl T n fp ((zS y n (zS y n cur + 6)) + 1) sd' we' nu na ((rs.length : Int) + 1) M R O A)) rfl rfl (rz_g 0 hpre rfl) (Nat.le_of_ble_eq_true rfl) rfl rfl (rz_s 0 hpre rfl) ?_
            refine ik_Wk 3 (pc_q := 155) (loc_q := [some (.ref 66), some (fI 0), w4]) (st_q := [.ref 66]) (h_q := (pre ++ rz_t w wt c tl T n fp ((zS y n (zS y n cur + 6)) + 1) sd' we' nu na ((rs.length : Int) + 1) M R O A)) (cl_q := 0) (sl_q := 0) rfl ?_
            refine fw_call 136 1 0 [.ref 66] [] rfl rfl rfl (Nat.le_of_ble_eq_true rfl) rfl rfl (fw_rec (rz_len hpre htl) (fw_ftw (l0 := [some (.ref 66), some (fI 0)]) hw rfl) (rz_g 0 hpre rfl) rfl (by decide)) (rz_here ok (by omega) (by omega)) ?_
            rintro rv h_q ⟨⟨ht25, rfl⟩ | ⟨ht25, rfl⟩, rfl⟩
            · have hz27 := zS_ge (y := y) (n := n) ((zS y n (zS y n cur + 6)) + 1)
              have hz28 := zS_le (y := y) (n := n) (i := (zS y n (zS y n cur + 6)) + 1) (by omega)
              have hb29 := bT (zS y n ((zS y n (zS y n cur + 6)) + 1)) (by omega) (by omega)
              have hb30 := hy (zS y n ((zS y n (zS y n cur + 6)) + 1)) (by omega) (by omega)
              refine ik_Wk 0 (pc_q := 158) (loc_q := [some (.ref 66), some (fI 0), w4]) (st_q := [fI (y (zS y n ((zS y n (zS y n cur + 6)) + 1)))]) (h_q := (pre ++ rz_t w wt c tl T n fp (zS y n ((zS y n (zS y n cur + 6)) + 1)) sd' we' nu na ((rs.length : Int) + 1) M R O A)) (cl_q := 0) (sl_q := 0) rfl ?_
              refine fw_if_lt rfl rfl (by omega) (by omega) (fun hc31 => ?_) (fun hc31 => ?_)
              · refine ik_Wk 1 (pc_q := 14) (loc_q := [some (.ref 66), some (fI 0), w4]) (st_q := [fI 0]) (h_q := (pre ++ rz_t w wt c tl T n fp (zS y n ((zS y n (zS y n cur + 6)) + 1)) sd' we' nu na ((rs.length : Int) + 1) M R O A)) (cl_q := 0) (sl_q := 0) rfl ?_
                refine fw_if_eq rfl rfl (by omega) (by omega) (fun hc32 => ?_) (fun hc32 => absurd hc32 (by omega))
                refine ik_Wk 1 (pc_q := 172) (loc_q := [some (.ref 66), some (fI 0), w4]) (st_q := [.ref 66]) (h_q := (pre ++ rz_t w wt c tl T n fp (zS y n ((zS y n (zS y n cur + 6)) + 1)) sd' we' nu na ((rs.length : Int) + 1) M R O A)) (cl_q := 0) (sl_q := 0) rfl ?_
                have hze : zend y n (zS y n cur + 6) = (0, 0) := by unfold zend; rw [if_pos ⟨by omega, by omega⟩, if_neg (by omega)]
                have hzp : zps y n (k + 1) rs cur = .inr rs := by rw [zps, if_pos hw13, if_pos (by rw [hze])]
                refine fw_call 146 1 0 [.ref 66] [] rfl rfl rfl (Nat.le_of_ble_eq_true rfl) rfl rfl (fw_rec (rz_len hpre htl) (fw_ftw (l0 := [some (.ref 66), some (fI 0)]) hw rfl) (rz_g 0 hpre rfl) rfl (by decide)) (rz_ck ok hM hR hO hA hH hrs) ?_
                rintro rv h_q (⟨m, hk1, rfl, rfl⟩ | ⟨hk1, rfl, rfl⟩)
                · have hfin : zfin (zps y n (k + 1) rs cur) = .inl (6, m.2.2) := by rw [hzp]; unfold zfin; dsimp only; rw [hk1]
                  rw [hfin]
                  refine ik_Wk 0 (pc_q := 175) (loc_q := [some (.ref 66), some (fI 0), w4]) (st_q := [fI 6]) (h_q := (pre ++ rz_t w wt c tl T n m.2.2 (zS y n ((zS y n (zS y n cur + 6)) + 1)) sd' we' nu na ((rs.length : Int) + 1) M R O A)) (cl_q := 0) (sl_q := 0) rfl ?_
                  exact ik_Wret rfl rfl ⟨_, _, rfl, rfl, rfl, rfl, ⟨rfl, (show (1 : Int) ≤ 6 by decide), (show (6 : Int) ≤ 6 by decide), _, _, _, _, _, _, M, R, O, A, hM, hR, hO, hA, rfl⟩⟩
                · have hfin : zfin (zps y n (k + 1) rs cur) = .inr ((rs.length : Int) + 1, rs) := by rw [hzp]; unfold zfin; dsimp only; rw [hk1]
                  rw [hfin]
                  refine ik_Wk 0 (pc_q := 175) (loc_q := [some (.ref 66), some (fI 0), w4]) (st_q := [fI 0]) (h_q := (pre ++ rz_t w wt c tl T n fp (zS y n ((zS y n (zS y n cur + 6)) + 1)) sd' we' nu na ((rs.length : Int) + 1) M R O A)) (cl_q := 0) (sl_q := 0) rfl ?_
                  exact ik_Wret rfl rfl ⟨_, _, rfl, rfl, rfl, rfl, ⟨rfl, _, _, _, _, _, M, R, O, A, hM, hR, hO, hA, rfl, hH, hrs, Or.inr rfl⟩⟩
              · refine ik_Wk 3 (pc_q := 164) (loc_q := [some (.ref 66), some (fI 0), w4]) (st_q := [.ref 66, fI 1, .ref 66]) (h_q := (pre ++ rz_t w wt c tl T n fp (zS y n ((zS y n (zS y n cur + 6)) + 1)) sd' we' nu na ((rs.length : Int) + 1) M R O A)) (cl_q := 0) (sl_q := 0) rfl ?_
                refine fw_gf rfl rfl (rz_g 0 hpre rfl) rfl ?_
                refine fw_call 137 3 0 [.ref 66, fI 1, fI (zS y n ((zS y n (zS y n cur + 6)) + 1))] [] rfl rfl rfl (Nat.le_of_ble_eq_true rfl) rfl rfl (fw_rec (rz_len hpre htl) (fw_ftw (l0 := [some (.ref 66), some (fI 0)]) hw rfl) (rz_g 0 hpre rfl) rfl (by decide)) (rz_fails ok) ?_
                rintro rv h_q ⟨rfl, rfl⟩
                refine ik_Wk 0 (pc_q := 170) (loc_q := [some (.ref 66), some (fI 0), w4]) (st_q := [fI 1]) (h_q := (pre ++ rz_t w wt c tl T n (zS y n ((zS y n (zS y n cur + 6)) + 1)) (zS y n ((zS y n (zS y n cur + 6)) + 1)) sd' we' nu na ((rs.length : Int) + 1) M R O A)) (cl_q := 0) (sl_q := 0) rfl ?_
                have hze : zend y n (zS y n cur + 6) = (1, zS y n ((zS y n (zS y n cur + 6)) + 1)) := by unfold zend; (repeat split) <;> first | rfl | omega
                have hfin : zfin (zps y n (k + 1) rs cur) = .inl (1, zS y n ((zS y n (zS y n cur + 6)) + 1)) := by rw [zps, if_pos hw13, if_neg (by rw [hze]; show ¬ (1 : Int) = 0; decide), hze]; rfl
                rw [hfin]
                exact ik_Wret rfl rfl ⟨_, _, rfl, rfl, rfl, rfl, ⟨rfl, (show (1 : Int) ≤ 1 by decide), (show (1 : Int) ≤ 6 by decide), _, _, _, _, _, _, M, R, O, A, hM, hR, hO, hA, rfl⟩⟩
            · have hz33 := zS_ge (y := y) (n := n) ((zS y n (zS y n cur + 6)) + 1)
              have hz34 := zS_le (y := y) (n := n) (i := (zS y n (zS y n cur + 6)) + 1) (by omega)
              refine ik_Wk 0 (pc_q := 158) (loc_q := [some (.ref 66), some (fI 0), w4]) (st_q := [fI (-1)]) (h_q := (pre ++ rz_t w wt c tl T n fp (zS y n ((zS y n (zS y n cur + 6)) + 1)) sd' we' nu na ((rs.length : Int) + 1) M R O A)) (cl_q := 0) (sl_q := 0) rfl ?_
              refine fw_if_lt rfl rfl (by omega) (by omega) (fun hc35 => ?_) (fun hc35 => absurd hc35 (by omega))
              refine ik_Wk 1 (pc_q := 14) (loc_q := [some (.ref 66), some (fI 0), w4]) (st_q := [fI 0]) (h_q := (pre ++ rz_t w wt c tl T n fp (zS y n ((zS y n (zS y n cur + 6)) + 1)) sd' we' nu na ((rs.length : Int) + 1) M R O A)) (cl_q := 0) (sl_q := 0) rfl ?_
              refine fw_if_eq rfl rfl (by omega) (by omega) (fun hc36 => ?_) (fun hc36 => absurd hc36 (by omega))
              refine ik_Wk 1 (pc_q := 172) (loc_q := [some (.ref 66), some (fI 0), w4]) (st_q := [.ref 66]) (h_q := (pre ++ rz_t w wt c tl T n fp (zS y n ((zS y n (zS y n cur + 6)) + 1)) sd' we' nu na ((rs.length : Int) + 1) M R O A)) (cl_q := 0) (sl_q := 0) rfl ?_
              have hze : zend y n (zS y n cur + 6) = (0, 0) := by unfold zend; rw [if_pos ⟨by omega, by omega⟩, if_neg (by omega)]
              have hzp : zps y n (k + 1) rs cur = .inr rs := by rw [zps, if_pos hw13, if_pos (by rw [hze])]
              refine fw_call 146 1 0 [.ref 66] [] rfl rfl rfl (Nat.le_of_ble_eq_true rfl) rfl rfl (fw_rec (rz_len hpre htl) (fw_ftw (l0 := [some (.ref 66), some (fI 0)]) hw rfl) (rz_g 0 hpre rfl) rfl (by decide)) (rz_ck ok hM hR hO hA hH hrs) ?_
              rintro rv h_q (⟨m, hk1, rfl, rfl⟩ | ⟨hk1, rfl, rfl⟩)
              · have hfin : zfin (zps y n (k + 1) rs cur) = .inl (6, m.2.2) := by rw [hzp]; unfold zfin; dsimp only; rw [hk1]
                rw [hfin]
                refine ik_Wk 0 (pc_q := 175) (loc_q := [some (.ref 66), some (fI 0), w4]) (st_q := [fI 6]) (h_q := (pre ++ rz_t w wt c tl T n m.2.2 (zS y n ((zS y n (zS y n cur + 6)) + 1)) sd' we' nu na ((rs.length : Int) + 1) M R O A)) (cl_q := 0) (sl_q := 0) rfl ?_
                exact ik_Wret rfl rfl ⟨_, _, rfl, rfl, rfl, rfl, ⟨rfl, (show (1 : Int) ≤ 6 by decide), (show (6 : Int) ≤ 6 by decide), _, _, _, _, _, _, M, R, O, A, hM, hR, hO, hA, rfl⟩⟩
              · have hfin : zfin (zps y n (k + 1) rs cur) = .inr ((rs.length : Int) + 1, rs) := by rw [hzp]; unfold zfin; dsimp only; rw [hk1]
                rw [hfin]
                refine ik_Wk 0 (pc_q := 175) (loc_q := [some (.ref 66), some (fI 0), w4]) (st_q := [fI 0]) (h_q := (pre ++ rz_t w wt c tl T n fp (zS y n ((zS y n (zS y n cur + 6)) + 1)) sd' we' nu na ((rs.length : Int) + 1) M R O A)) (cl_q := 0) (sl_q := 0) rfl ?_
                exact ik_Wret rfl rfl ⟨_, _, rfl, rfl, rfl, rfl, ⟨rfl, _, _, _, _, _, M, R, O, A, hM, hR, hO, hA, rfl, hH, hrs, Or.inr rfl⟩⟩
          · refine ik_Wk 3 (pc_q := 125) (loc_q := [some (.ref 66), some (fI 1), w4]) (st_q := [.ref 66, fI 1, .ref 66]) (h_q := (pre ++ rz_t w wt c tl T n fp (zS y n (zS y n cur + 6)) sd' we' nu na (rs.length : Int) M R O A)) (cl_q := 0) (sl_q := 0) rfl ?_
            refine fw_gf rfl rfl (rz_g 0 hpre rfl) rfl ?_
            refine fw_call 137 3 0 [.ref 66, fI 1, fI (zS y n (zS y n cur + 6))] [] rfl rfl rfl (Nat.le_of_ble_eq_true rfl) rfl rfl (fw_rec (rz_len hpre htl) (fw_ftw (l0 := [some (.ref 66), some (fI 1)]) hw rfl) (rz_g 0 hpre rfl) rfl (by decide)) (rz_fails ok) ?_
            rintro rv h_q ⟨rfl, rfl⟩
            refine ik_Wk 0 (pc_q := 131) (loc_q := [some (.ref 66), some (fI 1), w4]) (st_q := [fI 1]) (h_q := (pre ++ rz_t w wt c tl T n (zS y n (zS y n cur + 6)) (zS y n (zS y n cur + 6)) sd' we' nu na (rs.length : Int) M R O A)) (cl_q := 0) (sl_q := 0) rfl ?_
            have hze : zend y n (zS y n cur + 6) = (1, zS y n (zS y n cur + 6)) := by unfold zend; (repeat split) <;> first | rfl | omega
            have hfin : zfin (zps y n (k + 1) rs cur) = .inl (1, zS y n (zS y n cur + 6)) := by rw [zps, if_pos hw13, if_neg (by rw [hze]; show ¬ (1 : Int) = 0; decide), hze]; rfl
            rw [hfin]
            exact ik_Wret rfl rfl ⟨_, _, rfl, rfl, rfl, rfl, ⟨rfl, (show (1 : Int) ≤ 1 by decide), (show (1 : Int) ≤ 6 by decide), _, _, _, _, _, _, M, R, O, A, hM, hR, hO, hA, rfl⟩⟩
        · have hz37 := zS_ge (y := y) (n := n) (zS y n cur + 6)
          have hz38 := zS_le (y := y) (n := n) (i := zS y n cur + 6) (by omega)
          refine ik_Wk 0 (pc_q := 117) (loc_q := [some (.ref 66), some (fI 1), w4]) (st_q := [fI (-1)]) (h_q := (pre ++ rz_t w wt c tl T n fp (zS y n (zS y n cur + 6)) sd' we' nu na (rs.length : Int) M R O A)) (cl_q := 0) (sl_q := 0) rfl ?_
          refine fw_bi rfl (by decide) ?_
          refine fw_ic_eq rfl rfl (by omega) (by omega) (by omega) (by omega) (fun hc39 => absurd hc39 (by omega)) (fun hc39 => ?_)
          refine ik_Wk 3 (pc_q := 125) (loc_q := [some (.ref 66), some (fI 1), w4]) (st_q := [.ref 66, fI 1, .ref 66]) (h_q := (pre ++ rz_t w wt c tl T n fp (zS y n (zS y n cur + 6)) sd' we' nu na (rs.length : Int) M R O A)) (cl_q := 0) (sl_q := 0) rfl ?_
          refine fw_gf rfl rfl (rz_g 0 hpre rfl) rfl ?_
          refine fw_call 137 3 0 [.ref 66, fI 1, fI (zS y n (zS y n cur + 6))] [] rfl rfl rfl (Nat.le_of_ble_eq_true rfl) rfl rfl (fw_rec (rz_len hpre htl) (fw_ftw (l0 := [some (.ref 66), some (fI 1)]) hw rfl) (rz_g 0 hpre rfl) rfl (by decide)) (rz_fails ok) ?_
          rintro rv h_q ⟨rfl, rfl⟩
          refine ik_Wk 0 (pc_q := 131) (loc_q := [some (.ref 66), some (fI 1), w4]) (st_q := [fI 1]) (h_q := (pre ++ rz_t w wt c tl T n (zS y n (zS y n cur + 6)) (zS y n (zS y n cur + 6)) sd' we' nu na (rs.length : Int) M R O A)) (cl_q := 0) (sl_q := 0) rfl ?_
          have hze : zend y n (zS y n cur + 6) = (1, zS y n (zS y n cur + 6)) := by unfold zend; (repeat split) <;> first | rfl | omega
          have hfin : zfin (zps y n (k + 1) rs cur) = .inl (1, zS y n (zS y n cur + 6)) := by rw [zps, if_pos hw13, if_neg (by rw [hze]; show ¬ (1 : Int) = 0; decide), hze]; rfl
          rw [hfin]
          exact ik_Wret rfl rfl ⟨_, _, rfl, rfl, rfl, rfl, ⟨rfl, (show (1 : Int) ≤ 1 by decide), (show (1 : Int) ≤ 6 by decide), _, _, _, _, _, _, M, R, O, A, hM, hR, hO, hA, rfl⟩⟩
      · have hz40 := zS_ge (y := y) (n := n) cur
        have hz41 := zS_le (y := y) (n := n) (i := cur) (by omega)
        refine ik_Wk 0 (pc_q := 100) (loc_q := [some (.ref 66), some (fI 1), w4]) (st_q := [fI 0]) (h_q := (pre ++ rz_t w wt c tl T n fp (zS y n cur) sd' we' nu na (rs.length : Int) M R O A)) (cl_q := 0) (sl_q := 0) rfl ?_
        refine fw_if_ne rfl rfl (by omega) (by omega) (fun hc42 => ?_) (fun hc42 => absurd hc42 (by omega))
        refine ik_Wk 3 (pc_q := 106) (loc_q := [some (.ref 66), some (fI 1), w4]) (st_q := [.ref 66, fI 1, .ref 66]) (h_q := (pre ++ rz_t w wt c tl T n fp (zS y n cur) sd' we' nu na (rs.length : Int) M R O A)) (cl_q := 0) (sl_q := 0) rfl ?_
        refine fw_gf rfl rfl (rz_g 0 hpre rfl) rfl ?_
        refine fw_call 137 3 0 [.ref 66, fI 1, fI (zS y n cur)] [] rfl rfl rfl (Nat.le_of_ble_eq_true rfl) rfl rfl (fw_rec (rz_len hpre htl) (fw_ftw (l0 := [some (.ref 66), some (fI 1)]) hw rfl) (rz_g 0 hpre rfl) rfl (by decide)) (rz_fails ok) ?_
        rintro rv h_q ⟨rfl, rfl⟩
        refine ik_Wk 0 (pc_q := 112) (loc_q := [some (.ref 66), some (fI 1), w4]) (st_q := [fI 1]) (h_q := (pre ++ rz_t w wt c tl T n (zS y n cur) (zS y n cur) sd' we' nu na (rs.length : Int) M R O A)) (cl_q := 0) (sl_q := 0) rfl ?_
        have hfin : zfin (zps y n (k + 1) rs cur) = .inl (1, zS y n cur) := by rw [zps, if_neg (by rw [hw13]; decide), if_neg (by rw [hw2]; decide)]; rfl
        rw [hfin]
        exact ik_Wret rfl rfl ⟨_, _, rfl, rfl, rfl, rfl, ⟨rfl, (show (1 : Int) ≤ 1 by decide), (show (1 : Int) ≤ 6 by decide), _, _, _, _, _, _, M, R, O, A, hM, hR, hO, hA, rfl⟩⟩

theorem rz_al {pre tl : List ik_E} {w : Nat → Value} {wt : List Value} {c : Nat → ik_E} {y : Int → Int} {T : List Int} {n fp sd we nu na : Int} {M R O A : List Int} (ok : rz_ok y T n pre tl) (hM : M.length = 12) (hR : R.length = 48) (hO : O.length = 48) (hA : A.length = 48) : ik_F 145 [.ref 66] (pre ++ rz_t w wt c tl T n fp 0 sd we nu na 0 M R O A) (rz_RA pre tl w wt c T n fp (zall y n)) := by
  have ok' := ok
  obtain ⟨hpre, htl, hT, bT, hn, hn2, hy⟩ := ok'
  refine ik_Wk 1 (pc_q := 1) (loc_q := [some (.ref 66), none, none]) (st_q := [.ref 66]) (h_q := (pre ++ rz_t w wt c tl T n fp 0 sd we nu na 0 M R O A)) (cl_q := 0) (sl_q := 0) rfl ?_
  refine fw_call 136 1 0 [.ref 66] [] rfl rfl rfl (Nat.le_of_ble_eq_true rfl) rfl rfl (fw_rec (rz_len hpre htl) rfl (rz_g 0 hpre rfl) rfl (by decide)) (rz_here ok (by omega) (by omega)) ?_
  rintro rv h_q ⟨⟨ht1, rfl⟩ | ⟨ht1, rfl⟩, rfl⟩
  · have hz3 := zS_ge (y := y) (n := n) 0
    have hz4 := zS_le (y := y) (n := n) (i := 0) (by omega)
    have hb5 := bT (zS y n 0) (by omega) (by omega)
    have hb6 := hy (zS y n 0) (by omega) (by omega)
    refine ik_Wk 0 (pc_q := 4) (loc_q := [some (.ref 66), none, none]) (st_q := [fI (y (zS y n 0))]) (h_q := (pre ++ rz_t w wt c tl T n fp (zS y n 0) sd we nu na 0 M R O A)) (cl_q := 0) (sl_q := 0) rfl ?_
    refine fw_if_lt rfl rfl (by omega) (by omega) (fun hc7 => absurd hc7 (by omega)) (fun hc7 => ?_)
    refine ik_Wk 3 (pc_q := 13) (loc_q := [some (.ref 66), some (fI 1), none]) (st_q := []) (h_q := (pre ++ rz_t w wt c tl T n fp (zS y n 0) sd we nu na 0 M R O A)) (cl_q := 0) (sl_q := 0) rfl ?_
    rw [zall_e, if_pos (by omega)]
    exact rz_alL ok 11 [] (zS y n 0) _ _ _ _ M R O A none rfl rfl hM hR hO hA zH_nil zrows_nil (by omega) (by omega)
  · have hz8 := zS_ge (y := y) (n := n) 0
    have hz9 := zS_le (y := y) (n := n) (i := 0) (by omega)
    refine ik_Wk 0 (pc_q := 4) (loc_q := [some (.ref 66), none, none]) (st_q := [fI (-1)]) (h_q := (pre ++ rz_t w wt c tl T n fp (zS y n 0) sd we nu na 0 M R O A)) (cl_q := 0) (sl_q := 0) rfl ?_
    refine fw_if_lt rfl rfl (by omega) (by omega) (fun hc10 => ?_) (fun hc10 => absurd hc10 (by omega))
    refine ik_Wk 2 (pc_q := 13) (loc_q := [some (.ref 66), some (fI 0), none]) (st_q := []) (h_q := (pre ++ rz_t w wt c tl T n fp (zS y n 0) sd we nu na 0 M R O A)) (cl_q := 0) (sl_q := 0) rfl ?_
    refine ik_Wk 1 (pc_q := 14) (loc_q := [some (.ref 66), some (fI 0), none]) (st_q := [fI 0]) (h_q := (pre ++ rz_t w wt c tl T n fp (zS y n 0) sd we nu na 0 M R O A)) (cl_q := 0) (sl_q := 0) rfl ?_
    refine fw_if_eq rfl rfl (by omega) (by omega) (fun hc11 => ?_) (fun hc11 => absurd hc11 (by omega))
    refine ik_Wk 1 (pc_q := 172) (loc_q := [some (.ref 66), some (fI 0), none]) (st_q := [.ref 66]) (h_q := (pre ++ rz_t w wt c tl T n fp (zS y n 0) sd we nu na 0 M R O A)) (cl_q := 0) (sl_q := 0) rfl ?_
    refine fw_call 146 1 0 [.ref 66] [] rfl rfl rfl (Nat.le_of_ble_eq_true rfl) rfl rfl (fw_rec (rz_len hpre htl) rfl (rz_g 0 hpre rfl) rfl (by decide)) (rz_ck0 ok) ?_
    rintro rv h_q ⟨rfl, rfl⟩
    refine ik_Wk 0 (pc_q := 175) (loc_q := [some (.ref 66), some (fI 0), none]) (st_q := [fI 0]) (h_q := (pre ++ rz_t w wt c tl T n fp (zS y n 0) sd we nu na 0 M R O A)) (cl_q := 0) (sl_q := 0) rfl ?_
    rw [zall_e, if_neg (by omega)]
    exact ik_Wret rfl rfl ⟨_, _, rfl, rfl, rfl, rfl, ⟨rfl, _, _, _, _, _, M, R, O, A, hM, hR, hO, hA, rfl, zH_nil, zrows_nil, Or.inl ⟨rfl, rfl⟩⟩⟩

/-! 38r.feed -/
/-! FEED: which bytes come behind the text -/
def fd_b (b : Int64) (k : Int) : Int64 := b >>> ((Int32.ofInt (8 * k)).toInt64 &&& 63)
/-- k bytes from place l on -/
def fd_w (f : Int → Int) : Nat → Int → List Int → List Int
  | 0, _, T => T
  | k + 1, l, T => fd_w f k (l + 1) (T.set l.toNat (f (k : Int)))
theorem fd_wl (f : Int → Int) : ∀ (k : Nat) (l : Int) (T : List Int), (fd_w f k l T).length = T.length := by
  intro k
  induction k with
  | zero => intro l T; rfl
  | succ k ih => intro l T; rw [fd_w, ih, List.length_set]
theorem fd_wg {f : Int → Int} : ∀ (k : Nat) (l : Int) (T : List Int) (i : Nat), (0 : Int) ≤ l → l + (k : Int) ≤ (T.length : Int) → (fd_w f k l T).getD i 0 = if l ≤ (i : Int) ∧ (i : Int) < l + (k : Int) then f (l + (k : Int) - 1 - (i : Int)) else T.getD i 0 := by
  intro k
  induction k with
  | zero => intro l T i h0 h1; rw [if_neg (by omega)]; rfl
  | succ k ih =>
    intro l T i h0 h1
    rw [fd_w, ih (l + 1) _ i (by omega) (by rw [List.length_set]; omega), fz_getD_set]
    by_cases e2 : l + 1 ≤ (i : Int) ∧ (i : Int) < l + 1 + (k : Int)
    · rw [if_pos e2, if_pos ⟨by omega, by omega⟩]
      congr 1
      omega
    · rw [if_neg e2]
      by_cases e : (i : Int) = l
      · rw [if_pos ⟨by omega, by omega⟩, if_pos ⟨by omega, by omega⟩]
        congr 1
        omega
      · rw [if_neg (fun q => e (by omega)), if_neg (by omega)]
def fd_c (b : Int64) (k : Int) : Int := (vp_nar .byte (fd_b b k).toInt32.toInt8.toInt32).toInt
def fd_r (b : Int64) (k : Int) : Int := (fd_b b k &&& 255).toInt32.toInt
theorem fd_and (x : Int64) : (x &&& 255).toInt32.toInt = x.toInt % 256 := by
  have h1 : (x &&& 255).toBitVec = x.toBitVec &&& 255#64 := rfl
  have h2 : (x &&& 255).toInt = x.toInt % 256 := by
    have e : (x &&& 255).toInt = (x.toBitVec &&& 255#64).toInt := rfl
    have e1 : (x.toBitVec &&& 255#64).toNat = x.toBitVec.toNat % 256 := by
      rw [BitVec.toNat_and]
      exact Nat.and_two_pow_sub_one_eq_mod x.toBitVec.toNat 8
    have e2 : (x.toBitVec &&& 255#64).toInt = ((x.toBitVec.toNat % 256 : Nat) : Int) := by
      rw [BitVec.toInt_eq_toNat_cond, e1, if_pos (by omega)]
    have e3 : x.toInt = x.toBitVec.toInt := rfl
    rw [e, e2, e3, BitVec.toInt_eq_toNat_cond]
    have := x.toBitVec.isLt
    split <;> omega
  rw [Int64.toInt_toInt32, h2, Int.bmod_def]
  have h0 : 0 ≤ x.toInt % 256 := Int.emod_nonneg _ (by decide)
  have h3 : x.toInt % 256 < 256 := Int.emod_lt_of_pos _ (by decide)
  split <;> omega
theorem fd_byte (x : Int32) : (vp_nar .byte x.toInt8.toInt32).toInt = x.toInt8.toInt := by
  show (x.toInt8.toInt32.toInt8.toInt32).toInt = x.toInt8.toInt
  rw [Int8.toInt8_toInt32, Int8.toInt_toInt32]
theorem fd_cr (b : Int64) (k : Int) : -128 ≤ fd_c b k ∧ fd_c b k ≤ 127 ∧ fd_c b k % 256 = fd_r b k := by
  have h1 : fd_c b k = (fd_b b k).toInt32.toInt8.toInt := fd_byte _
  have h2 : (fd_b b k).toInt32.toInt8.toInt = ((fd_b b k).toInt.bmod (2 ^ 32)).bmod (2 ^ 8) := by rw [Int32.toInt_toInt8, Int64.toInt_toInt32]
  have h3 := fd_and (fd_b b k)
  have h4 : fd_r b k = (fd_b b k).toInt % 256 := h3
  rw [h1, h2, h4]
  generalize (fd_b b k).toInt = z
  rw [Int.bmod_def, Int.bmod_def]
  refine ⟨?_, ?_, ?_⟩ <;> (repeat split) <;> omega

theorem fw_bas {X : Option (Nat × (Nat → Int32))} {mid pc : Nat} {loc : ik_L} {r : List Value} {h : List ik_E} {cl sl : Nat} {post : ik_St → Prop} {a : Nat} {z : Int} {v : Int32} {xs : List Int} {h_q : List ik_E} (hi : ik_at mid pc = some .bastore) (hc : h[a]? = some (.inl (.byte, fA xs))) (h0 : 0 ≤ z) (h1 : z.toNat < xs.length) (h2 : z < 2147483648) (hh : h.set a (.inl (.byte, fA (xs.set z.toNat (vp_nar .byte v).toInt))) = h_q) (K : ik_W X mid (pc + 1) loc r h_q cl sl post) : ik_W X mid pc loc (.int v :: fI z :: .ref a :: r) h cl sl post := by
  subst hh
  refine fw_1 hi rfl rfl ?_ K
  simp only [ik_step, hc, ik_bo]
  rw [if_pos ⟨fi_z h0 h2, by rw [fi_n h0 h2, fA_len]; exact h1⟩, fi_n h0 h2, ← fA_set, fI, Int32.ofInt_toInt]
theorem fw_iar {X : Option (Nat × (Nat → Int32))} {mid pc : Nat} {loc : ik_L} {r : List Value} {h : List ik_E} {cl sl : Nat} {post : ik_St → Prop} {a : Nat} {z : Int} {v : Int32} {xs : List Int} {h_q : List ik_E} (hi : ik_at mid pc = some .iastore) (hc : h[a]? = some (.inl (.int, fA xs))) (h0 : 0 ≤ z) (h1 : z.toNat < xs.length) (h2 : z < 2147483648) (hh : h.set a (.inl (.int, fA (xs.set z.toNat v.toInt))) = h_q) (K : ik_W X mid (pc + 1) loc r h_q cl sl post) : ik_W X mid pc loc (.int v :: fI z :: .ref a :: r) h cl sl post := by
  subst hh
  refine fw_1 hi rfl rfl ?_ K
  simp only [ik_step, hc, ik_bo]
  rw [if_pos ⟨fi_z h0 h2, by rw [fi_n h0 h2, fA_len]; exact h1⟩, fi_n h0 h2, ← fA_set, fI, Int32.ofInt_toInt]

theorem cz_app {c0 : ik_E} {tl : List ik_E} {cur fl fb pl : Int} {C G P B : List Int} {m : Int} {b : Int64} : ∀ (k : Nat) (n : Int) (T : List Int), T.length = (500 : Nat) → (0 : Int) ≤ n → n + (k : Int) ≤ 500 → (k : Int) ≤ 8 → ik_G 55 5 [some (.ref 1), some (fI m), some (.long b), none, some (fI ((k : Int) - 1))] [] (c0 :: cz_t T n cur fl fb pl C G P B tl) (fun rv h_q => rv = [fI (n + (k : Int))] ∧ h_q = c0 :: cz_t (fd_w (fd_c b) k n T) (n + (k : Int)) cur fl fb pl C G P B tl) := by
  intro k
  induction k with
  | zero =>
    intro n T hT h0 h1 h2
    refine ik_Wk 1 (pc_q := 7) (loc_q := [some (.ref 1), some (fI m), some (.long b), none, some (fI (((0 : Nat) : Int) - 1))]) (st_q := [fI (((0 : Nat) : Int) - 1)]) (h_q := c0 :: cz_t T n cur fl fb pl C G P B tl) (cl_q := 0) (sl_q := 0) rfl ?_
    refine fw_if_lt rfl rfl (by omega) (by omega) (fun _ => ?_) (fun q => absurd q (by omega))
    refine ik_Wk 1 (pc_q := 45) (loc_q := [some (.ref 1), some (fI m), some (.long b), none, some (fI (((0 : Nat) : Int) - 1))]) (st_q := [.ref 1]) (h_q := c0 :: cz_t T n cur fl fb pl C G P B tl) (cl_q := 0) (sl_q := 0) rfl ?_
    refine fw_gf rfl rfl rfl rfl ?_
    refine ik_Wret rfl rfl ⟨_, _, rfl, rfl, rfl, rfl, ⟨?_, ?_⟩⟩
    · rw [show n + ((0 : Nat) : Int) = n by omega]
    · rw [show n + ((0 : Nat) : Int) = n by omega]; rfl
  | succ k ih =>
    intro n T hT h0 h1 h2
    have ek : ((k + 1 : Nat) : Int) - 1 = (k : Int) := by omega
    rw [ek]
    refine ik_Wk 1 (pc_q := 7) (loc_q := [some (.ref 1), some (fI m), some (.long b), none, some (fI (k : Int))]) (st_q := [fI (k : Int)]) (h_q := c0 :: cz_t T n cur fl fb pl C G P B tl) (cl_q := 0) (sl_q := 0) rfl ?_
    refine fw_if_lt rfl rfl (by omega) (by omega) (fun q => absurd q (by omega)) (fun _ => ?_)
    refine ik_Wk 1 (pc_q := 11) (loc_q := [some (.ref 1), some (fI m), some (.long b), none, some (fI (k : Int))]) (st_q := [.ref 1]) (h_q := c0 :: cz_t T n cur fl fb pl C G P B tl) (cl_q := 0) (sl_q := 0) rfl ?_
    refine fw_gf rfl rfl rfl rfl ?_
    refine ik_Wk 1 (pc_q := 15) (loc_q := [some (.ref 1), some (fI m), some (.long b), none, some (fI (k : Int))]) (st_q := [.ref 1, .ref 2]) (h_q := c0 :: cz_t T n cur fl fb pl C G P B tl) (cl_q := 0) (sl_q := 0) rfl ?_
    refine fw_gf rfl rfl rfl rfl ?_
    refine ik_Wk 1 (pc_q := 19) (loc_q := [some (.ref 1), some (fI m), some (.long b), none, some (fI (k : Int))]) (st_q := [.long b, fI n, .ref 2]) (h_q := c0 :: cz_t T n cur fl fb pl C G P B tl) (cl_q := 0) (sl_q := 0) rfl ?_
    refine fw_bi rfl (by decide) ?_
    refine ik_Wk 1 (pc_q := 23) (loc_q := [some (.ref 1), some (fI m), some (.long b), none, some (fI (k : Int))]) (st_q := [fI (k : Int), fI 8, .long b, fI n, .ref 2]) (h_q := c0 :: cz_t T n cur fl fb pl C G P B tl) (cl_q := 0) (sl_q := 0) rfl ?_
    refine fw_mul rfl ?_
    refine ik_Wk 3 (pc_q := 27) (loc_q := [some (.ref 1), some (fI m), some (.long b), none, some (fI (k : Int))]) (st_q := [.int (fd_b b (k : Int)).toInt32.toInt8.toInt32, fI n, .ref 2]) (h_q := c0 :: cz_t T n cur fl fb pl C G P B tl) (cl_q := 0) (sl_q := 0) rfl ?_
    refine fw_bas (h_q := c0 :: cz_t (T.set n.toNat (fd_c b (k : Int))) n cur fl fb pl C G P B tl) rfl rfl h0 (by omega) (by omega) rfl ?_
    refine ik_Wk 2 (pc_q := 30) (loc_q := [some (.ref 1), some (fI m), some (.long b), none, some (fI (k : Int))]) (st_q := [.ref 1, .ref 1]) (h_q := c0 :: cz_t (T.set n.toNat (fd_c b (k : Int))) n cur fl fb pl C G P B tl) (cl_q := 0) (sl_q := 0) rfl ?_
    refine fw_gf rfl rfl rfl rfl ?_
    refine ik_Wk 1 (pc_q := 34) (loc_q := [some (.ref 1), some (fI m), some (.long b), none, some (fI (k : Int))]) (st_q := [fI 1, fI n, .ref 1]) (h_q := c0 :: cz_t (T.set n.toNat (fd_c b (k : Int))) n cur fl fb pl C G P B tl) (cl_q := 0) (sl_q := 0) rfl ?_
    refine fw_add rfl ?_
    refine fw_pf (h_q := c0 :: cz_t (T.set n.toNat (fd_c b (k : Int))) (n + 1) cur fl fb pl C G P B tl) rfl rfl rfl (Nat.le_of_ble_eq_true rfl) rfl rfl rfl ?_
    refine fw_inc (a := (k : Int)) (loc_q := [some (.ref 1), some (fI m), some (.long b), none, some (fI ((k : Int) + (-1)))]) rfl rfl (Nat.le_of_ble_eq_true rfl) rfl ?_
    rw [show (k : Int) + (-1) = (k : Int) - 1 by omega]
    refine ik_Wk 1 (pc_q := 5) (loc_q := [some (.ref 1), some (fI m), some (.long b), none, some (fI ((k : Int) - 1))]) (st_q := []) (h_q := c0 :: cz_t (T.set n.toNat (fd_c b (k : Int))) (n + 1) cur fl fb pl C G P B tl) (cl_q := 0) (sl_q := 0) rfl ?_
    have en : n + ((k + 1 : Nat) : Int) = n + 1 + (k : Int) := by omega
    rw [en, fd_w]
    exact ih (n + 1) _ ((List.length_set ..).trans hT) (by omega) (by omega) (by omega)

theorem rz_app {pre tl : List ik_E} {w : Nat → Value} {wt : List Value} {c : Nat → ik_E} {fp a0 sd we nu na rp : Int} {M R O A : List Int} {m : Int} {b : Int64} (hpre : pre.length = (66 : Nat)) : ∀ (k : Nat) (n : Int) (T : List Int), T.length = (500 : Nat) → (0 : Int) ≤ n → n + (k : Int) ≤ 500 → (k : Int) ≤ 8 → ik_G 135 35 [some (.ref 66), some (fI m), some (.long b), none, some (fI ((k : Int) - 1))] [] (pre ++ rz_t w wt c tl T n fp a0 sd we nu na rp M R O A) (fun rv h_q => rv = [fI (n + (k : Int))] ∧ h_q = (pre ++ rz_t w wt c tl (fd_w (fd_r b) k n T) (n + (k : Int)) fp a0 sd we nu na rp M R O A)) := by
  intro k
  induction k with
  | zero =>
    intro n T hT h0 h1 h2
    refine ik_Wk 1 (pc_q := 37) (loc_q := [some (.ref 66), some (fI m), some (.long b), none, some (fI (((0 : Nat) : Int) - 1))]) (st_q := [fI (((0 : Nat) : Int) - 1)]) (h_q := (pre ++ rz_t w wt c tl T n fp a0 sd we nu na rp M R O A)) (cl_q := 0) (sl_q := 0) rfl ?_
    refine fw_if_lt rfl rfl (by omega) (by omega) (fun _ => ?_) (fun q => absurd q (by omega))
    refine ik_Wk 1 (pc_q := 78) (loc_q := [some (.ref 66), some (fI m), some (.long b), none, some (fI (((0 : Nat) : Int) - 1))]) (st_q := [.ref 66]) (h_q := (pre ++ rz_t w wt c tl T n fp a0 sd we nu na rp M R O A)) (cl_q := 0) (sl_q := 0) rfl ?_
    refine fw_gf rfl rfl (rz_g 0 hpre rfl) rfl ?_
    refine ik_Wret rfl rfl ⟨_, _, rfl, rfl, rfl, rfl, ⟨?_, ?_⟩⟩
    · rw [show n + ((0 : Nat) : Int) = n by omega]
    · rw [show n + ((0 : Nat) : Int) = n by omega]; rfl
  | succ k ih =>
    intro n T hT h0 h1 h2
    have ek : ((k + 1 : Nat) : Int) - 1 = (k : Int) := by omega
    rw [ek]
    refine ik_Wk 1 (pc_q := 37) (loc_q := [some (.ref 66), some (fI m), some (.long b), none, some (fI (k : Int))]) (st_q := [fI (k : Int)]) (h_q := (pre ++ rz_t w wt c tl T n fp a0 sd we nu na rp M R O A)) (cl_q := 0) (sl_q := 0) rfl ?_
    refine fw_if_lt rfl rfl (by omega) (by omega) (fun q => absurd q (by omega)) (fun _ => ?_)
    refine ik_Wk 1 (pc_q := 41) (loc_q := [some (.ref 66), some (fI m), some (.long b), none, some (fI (k : Int))]) (st_q := [.ref 66]) (h_q := (pre ++ rz_t w wt c tl T n fp a0 sd we nu na rp M R O A)) (cl_q := 0) (sl_q := 0) rfl ?_
    refine fw_gf rfl rfl (rz_g 0 hpre rfl) rfl ?_
    refine ik_Wk 1 (pc_q := 45) (loc_q := [some (.ref 66), some (fI m), some (.long b), none, some (fI (k : Int))]) (st_q := [.ref 66, .ref 72]) (h_q := (pre ++ rz_t w wt c tl T n fp a0 sd we nu na rp M R O A)) (cl_q := 0) (sl_q := 0) rfl ?_
    refine fw_gf rfl rfl (rz_g 0 hpre rfl) rfl ?_
    refine ik_Wk 1 (pc_q := 49) (loc_q := [some (.ref 66), some (fI m), some (.long b), none, some (fI (k : Int))]) (st_q := [.long b, fI n, .ref 72]) (h_q := (pre ++ rz_t w wt c tl T n fp a0 sd we nu na rp M R O A)) (cl_q := 0) (sl_q := 0) rfl ?_
    refine fw_bi rfl (by decide) ?_
    refine ik_Wk 1 (pc_q := 53) (loc_q := [some (.ref 66), some (fI m), some (.long b), none, some (fI (k : Int))]) (st_q := [fI (k : Int), fI 8, .long b, fI n, .ref 72]) (h_q := (pre ++ rz_t w wt c tl T n fp a0 sd we nu na rp M R O A)) (cl_q := 0) (sl_q := 0) rfl ?_
    refine fw_mul rfl ?_
    refine ik_Wk 1 (pc_q := 55) (loc_q := [some (.ref 66), some (fI m), some (.long b), none, some (fI (k : Int))]) (st_q := [.long (fd_b b (k : Int)), fI n, .ref 72]) (h_q := (pre ++ rz_t w wt c tl T n fp a0 sd we nu na rp M R O A)) (cl_q := 0) (sl_q := 0) rfl ?_
    refine fw_l2 255 rfl rfl (by decide) ?_
    refine ik_Wk 2 (pc_q := 60) (loc_q := [some (.ref 66), some (fI m), some (.long b), none, some (fI (k : Int))]) (st_q := [.int (fd_b b (k : Int) &&& 255).toInt32, fI n, .ref 72]) (h_q := (pre ++ rz_t w wt c tl T n fp a0 sd we nu na rp M R O A)) (cl_q := 0) (sl_q := 0) rfl ?_
    refine fw_iar (h_q := (pre ++ rz_t w wt c tl (T.set n.toNat (fd_r b (k : Int))) n fp a0 sd we nu na rp M R O A)) rfl (rz_g 6 hpre rfl) h0 (by omega) (by omega) (rz_s 6 hpre rfl) ?_
    refine ik_Wk 2 (pc_q := 63) (loc_q := [some (.ref 66), some (fI m), some (.long b), none, some (fI (k : Int))]) (st_q := [.ref 66, .ref 66]) (h_q := (pre ++ rz_t w wt c tl (T.set n.toNat (fd_r b (k : Int))) n fp a0 sd we nu na rp M R O A)) (cl_q := 0) (sl_q := 0) rfl ?_
    refine fw_gf rfl rfl (rz_g 0 hpre rfl) rfl ?_
    refine ik_Wk 1 (pc_q := 67) (loc_q := [some (.ref 66), some (fI m), some (.long b), none, some (fI (k : Int))]) (st_q := [fI 1, fI n, .ref 66]) (h_q := (pre ++ rz_t w wt c tl (T.set n.toNat (fd_r b (k : Int))) n fp a0 sd we nu na rp M R O A)) (cl_q := 0) (sl_q := 0) rfl ?_
    refine fw_add rfl ?_
    refine fw_pf (h_q := (pre ++ rz_t w wt c tl (T.set n.toNat (fd_r b (k : Int))) (n + 1) fp a0 sd we nu na rp M R O A)) rfl rfl (rz_g 0 hpre rfl) (Nat.le_of_ble_eq_true rfl) rfl rfl (rz_s 0 hpre rfl) ?_
    refine fw_inc (a := (k : Int)) (loc_q := [some (.ref 66), some (fI m), some (.long b), none, some (fI ((k : Int) + (-1)))]) rfl rfl (Nat.le_of_ble_eq_true rfl) rfl ?_
    rw [show (k : Int) + (-1) = (k : Int) - 1 by omega]
    refine ik_Wk 1 (pc_q := 35) (loc_q := [some (.ref 66), some (fI m), some (.long b), none, some (fI ((k : Int) - 1))]) (st_q := []) (h_q := (pre ++ rz_t w wt c tl (T.set n.toNat (fd_r b (k : Int))) (n + 1) fp a0 sd we nu na rp M R O A)) (cl_q := 0) (sl_q := 0) rfl ?_
    have en : n + ((k + 1 : Nat) : Int) = n + 1 + (k : Int) := by omega
    rw [en, fd_w]
    exact ih (n + 1) _ ((List.length_set ..).trans hT) (by omega) (by omega) (by omega)

/-! 38s.rules -/
noncomputable section
/-! MORE RULES to walk by: rows of longs, quotients, bits, frames -/
/-- what lies at a place -/
abbrev cE (h : List ik_E) (a : Nat) (c : ik_E) : Prop := h[a]? = some c
/-- all cells are there (not seen by omega) -/
def cL (h : List ik_E) : Prop := h.length = 94
def fL (xs : List Int) : List Value := xs.map fJ
theorem fL_len (xs : List Int) : (fL xs).length = xs.length := List.length_map _
theorem fL_get {xs : List Int} {k : Nat} (h : k < xs.length) : (fL xs)[k]? = some (fJ (xs.getD k 0)) := by
  unfold fL
  rw [List.getElem?_map, List.getElem?_eq_getElem h, List.getD_eq_getElem?_getD, List.getElem?_eq_getElem h]
  rfl
theorem fL_set (xs : List Int) (k : Nat) (v : Int) : (fL xs).set k (fJ v) = fL (xs.set k v) := by
  unfold fL
  rw [List.map_set]
/-- the same but for the cells of T -/
def hfr (T : List Nat) (h h_q : List ik_E) : Prop := h_q.length = h.length ∧ ∀ b, b ∉ T → h_q[b]? = h[b]?
theorem hfr_refl (T : List Nat) (h : List ik_E) : hfr T h h := ⟨rfl, fun _ _ => rfl⟩
theorem hfr_tr {T : List Nat} {h h_q h'' : List ik_E} (a : hfr T h h_q) (b : hfr T h_q h'') : hfr T h h'' := ⟨b.1.trans a.1, fun c hc => (b.2 c hc).trans (a.2 c hc)⟩
theorem hfr_mono {T U : List Nat} {h h_q : List ik_E} (a : hfr T h h_q) (s : ∀ b, b ∈ T → b ∈ U) : hfr U h h_q := ⟨a.1, fun c hc => a.2 c (fun q => hc (s c q))⟩
theorem hfr_set {T : List Nat} {h : List ik_E} {a : Nat} (e : ik_E) (ha : a ∈ T) : hfr T h (h.set a e) := ⟨List.length_set, fun b hb => List.getElem?_set_ne (fun (q : a = b) => hb (by rw [← q]; exact ha))⟩
theorem wl_n {L : Nat} : ([] : ik_L).all (ik_wl L) = true := rfl
theorem wl_c {L : Nat} {o : Option Value} {l : ik_L} (h : ik_wl L o = true) (t : l.all (ik_wl L) = true) : (o :: l).all (ik_wl L) = true := by rw [List.all_cons, h, t]; rfl
theorem fw_ftv {mid q L : Nat} {as rest : List Value} {loc : ik_L} (h : fw_ft mid q L as rest [] = true) (hl : loc.all (ik_wl L) = true) : fw_ft mid q L as rest loc = true := by
  unfold fw_ft at h ⊢
  rw [hl]
  exact h
section
variable {X : Option (Nat × (Nat → Int32))} {mid pc : Nat} {loc : ik_L} {st r : List Value} {h : List ik_E} {cl sl : Nat} {post : ik_St → Prop}
theorem hg_lt {a : Nat} {d : ik_E} (hc : h[a]? = some d) : a < h.length := by
  rcases Nat.lt_or_ge a h.length with q | q
  · exact q
  · rw [List.getElem?_eq_none q] at hc; cases hc
theorem fx_pf {x ci k a : Nat} {w : Nat × Nat} {v : Value} {fs : List Value} (hi : ik_at mid pc = some (.putfield x)) (hf : ik_fl mid x = some (ci, k, w)) (hc : h[a]? = some (.inr (ci, fs))) (hk : k < fs.length) (ht : ik_fit (ik_ty ci k) v = true) (hfi : ik_fi ci k = false) (K : ∀ h_q, h_q[a]? = some (.inr (ci, fs.set k v)) → (∀ b, b ≠ a → h_q[b]? = h[b]?) → h_q.length = h.length → ik_W X mid (pc + 3) loc r h_q cl sl post) : ik_W X mid pc loc (v :: .ref a :: r) h cl sl post := by
  refine fw_pf hi hf hc hk ht hfi rfl (K _ ?_ ?_ List.length_set)
  · rw [List.getElem?_set_self (hg_lt hc)]
  · exact fun b hb => List.getElem?_set_ne (fun q => hb q.symm)
theorem fx_ias {a : Nat} {z v : Int} {xs : List Int} (hi : ik_at mid pc = some .iastore) (hc : h[a]? = some (.inl (.int, fA xs))) (h0 : 0 ≤ z) (h1 : z.toNat < xs.length) (h2 : z < 2147483648) (K : ∀ h_q, h_q[a]? = some (.inl (.int, fA (xs.set z.toNat v))) → (∀ b, b ≠ a → h_q[b]? = h[b]?) → h_q.length = h.length → ik_W X mid (pc + 1) loc r h_q cl sl post) : ik_W X mid pc loc (fI v :: fI z :: .ref a :: r) h cl sl post := by
  refine fw_ias hi hc h0 h1 h2 rfl (K _ ?_ ?_ List.length_set)
  · rw [List.getElem?_set_self (hg_lt hc)]
  · exact fun b hb => List.getElem?_set_ne (fun q => hb q.symm)
theorem fx_lal {a : Nat} {z : Int} {xs : List Int} (hi : ik_at mid pc = some .laload) (hc : h[a]? = some (.inl (.long, fL xs))) (h0 : 0 ≤ z) (h1 : z.toNat < xs.length) (h2 : z < 2147483648) (K : ik_W X mid (pc + 1) loc (fJ (xs.getD z.toNat 0) :: r) h cl sl post) : ik_W X mid pc loc (fI z :: .ref a :: r) h cl sl post := by
  refine fw_1 hi rfl rfl ?_ K
  simp only [ik_step, hc]
  rw [if_neg (fi_z h0 h2), fi_n h0 h2, fL_get h1]
theorem fx_las {a : Nat} {z v : Int} {xs : List Int} (hi : ik_at mid pc = some .lastore) (hc : h[a]? = some (.inl (.long, fL xs))) (h0 : 0 ≤ z) (h1 : z.toNat < xs.length) (h2 : z < 2147483648) (K : ∀ h_q, h_q[a]? = some (.inl (.long, fL (xs.set z.toNat v))) → (∀ b, b ≠ a → h_q[b]? = h[b]?) → h_q.length = h.length → ik_W X mid (pc + 1) loc r h_q cl sl post) : ik_W X mid pc loc (fJ v :: fI z :: .ref a :: r) h cl sl post := by
  refine fw_1 (h_q := h.set a (.inl (.long, fL (xs.set z.toNat v)))) hi rfl rfl ?_ (K _ ?_ ?_ List.length_set)
  · simp only [ik_step, hc, ik_bo]
    rw [if_pos ⟨fi_z h0 h2, by rw [fi_n h0 h2, fL_len]; exact h1⟩, fi_n h0 h2, fL_set]
  · rw [List.getElem?_set_self (hg_lt hc)]
  · exact fun b hb => List.getElem?_set_ne (fun q => hb q.symm)
theorem fi_ne0 {b : Int} (h1 : 0 < b) (h2 : b < 2147483648) : ¬ Int32.ofInt b = 0 := by
  rw [cv_eq, fi_i (by omega) h2, (show (0 : Int32).toInt = 0 from by decide)]
  omega
theorem fj_ne0 {b : Int} (h1 : 0 < b) (h2 : b < 9223372036854775808) : ¬ Int64.ofInt b = 0 := by
  intro q
  have := congrArg Int64.toInt q
  rw [fj_i (by omega) h2, (show (0 : Int64).toInt = 0 from by decide)] at this
  omega
theorem fi_div {a b : Int} (ha : 0 ≤ a) (ha2 : a < 2147483648) (hb : 0 < b) (hb2 : b < 2147483648) : Int32.ofInt a / Int32.ofInt b = Int32.ofInt (a / b) := by
  rw [← Int32.ofInt_tdiv (show -2147483648 ≤ a by omega) (show a ≤ 2147483647 by omega) (show -2147483648 ≤ b by omega) (show b ≤ 2147483647 by omega), Int.tdiv_eq_ediv_of_nonneg ha]
theorem fj_div {a b : Int} (ha : 0 ≤ a) (ha2 : a < 9223372036854775808) (hb : 0 < b) (hb2 : b < 9223372036854775808) : Int64.ofInt a / Int64.ofInt b = Int64.ofInt (a / b) := by
  rw [← Int64.ofInt_tdiv (show -9223372036854775808 ≤ a by omega) (show a ≤ 9223372036854775807 by omega) (show -9223372036854775808 ≤ b by omega) (show b ≤ 9223372036854775807 by omega), Int.tdiv_eq_ediv_of_nonneg ha]
theorem mx_md (a b : Int) : a - a / b * b = a % b := by
  have := Int.emod_add_mul_ediv a b
  have e : a / b * b = b * (a / b) := Int.mul_comm _ _
  omega
theorem fx_idiv {a b : Int} (hi : ik_at mid pc = some .idiv) (ha : 0 ≤ a) (ha2 : a < 2147483648) (hb : 0 < b) (hb2 : b < 2147483648) (K : ik_W X mid (pc + 1) loc (fI (a / b) :: r) h cl sl post) : ik_W X mid pc loc (fI b :: fI a :: r) h cl sl post :=
  fw_1 hi rfl rfl (by simp only [ik_step, ik_bo]; rw [if_pos (fi_ne0 hb hb2), fi_div ha ha2 hb hb2]) K
theorem fx_irem {a b : Int} (hi : ik_at mid pc = some .irem) (ha : 0 ≤ a) (ha2 : a < 2147483648) (hb : 0 < b) (hb2 : b < 2147483648) (K : ik_W X mid (pc + 1) loc (fI (a % b) :: r) h cl sl post) : ik_W X mid pc loc (fI b :: fI a :: r) h cl sl post :=
  fw_1 hi rfl rfl (by simp only [ik_step, ik_bo]; rw [if_pos (fi_ne0 hb hb2), fi_div ha ha2 hb hb2, ← Int32.ofInt_mul, ← Int32.ofInt_sub, mx_md]) K
theorem fx_ldiv {a b : Int} (hi : ik_at mid pc = some .ldiv) (ha : 0 ≤ a) (ha2 : a < 9223372036854775808) (hb : 0 < b) (hb2 : b < 9223372036854775808) (K : ik_W X mid (pc + 1) loc (fJ (a / b) :: r) h cl sl post) : ik_W X mid pc loc (fJ b :: fJ a :: r) h cl sl post :=
  fw_1 hi rfl rfl (by simp only [ik_step, ik_bo]; rw [if_pos (fj_ne0 hb hb2), fj_div ha ha2 hb hb2]) K
theorem fx_lrem {a b : Int} (hi : ik_at mid pc = some .lrem) (ha : 0 ≤ a) (ha2 : a < 9223372036854775808) (hb : 0 < b) (hb2 : b < 9223372036854775808) (K : ik_W X mid (pc + 1) loc (fJ (a % b) :: r) h cl sl post) : ik_W X mid pc loc (fJ b :: fJ a :: r) h cl sl post :=
  fw_1 hi rfl rfl (by simp only [ik_step, ik_bo]; rw [if_pos (fj_ne0 hb hb2), fj_div ha ha2 hb hb2, ← Int64.ofInt_mul, ← Int64.ofInt_sub, mx_md]) K
theorem fx_l2i {a : Int} (hi : ik_at mid pc = some .l2i) (K : ik_W X mid (pc + 1) loc (fI a :: r) h cl sl post) : ik_W X mid pc loc (fJ a :: r) h cl sl post :=
  fw_1 hi rfl rfl (congrArg (fun v => some (pc + 1, loc, Value.int v :: r, h, cl, sl)) Int64.toInt32_ofInt) K
theorem fx_ineg {a : Int} (hi : ik_at mid pc = some .ineg) (K : ik_W X mid (pc + 1) loc (fI (-a) :: r) h cl sl post) : ik_W X mid pc loc (fI a :: r) h cl sl post :=
  fw_1 hi rfl rfl (congrArg (fun v => some (pc + 1, loc, Value.int v :: r, h, cl, sl)) (Int32.ofInt_neg a).symm) K
theorem fx_lneg {a : Int} (hi : ik_at mid pc = some .lneg) (K : ik_W X mid (pc + 1) loc (fJ (-a) :: r) h cl sl post) : ik_W X mid pc loc (fJ a :: r) h cl sl post :=
  fw_1 hi rfl rfl (congrArg (fun v => some (pc + 1, loc, Value.long v :: r, h, cl, sl)) (Int64.ofInt_neg a).symm) K
theorem fb_and (m n : Nat) : Int32.ofInt m &&& Int32.ofInt n = Int32.ofInt ((m &&& n : Nat) : Int) := by
  rw [Int32.ofInt_eq_ofNat, Int32.ofInt_eq_ofNat, Int32.ofInt_eq_ofNat]
  exact Int32.toBitVec_inj.mp (by simp)
theorem fb_or (m n : Nat) : Int32.ofInt m ||| Int32.ofInt n = Int32.ofInt ((m ||| n : Nat) : Int) := by
  rw [Int32.ofInt_eq_ofNat, Int32.ofInt_eq_ofNat, Int32.ofInt_eq_ofNat]
  exact Int32.toBitVec_inj.mp (by simp)
theorem fb_xor (m n : Nat) : Int32.ofInt m ^^^ Int32.ofInt n = Int32.ofInt ((m ^^^ n : Nat) : Int) := by
  rw [Int32.ofInt_eq_ofNat, Int32.ofInt_eq_ofNat, Int32.ofInt_eq_ofNat]
  exact Int32.toBitVec_inj.mp (by simp)
theorem fb_not (n : Nat) : Int32.ofInt n ^^^ Int32.ofInt (-1) = Int32.ofInt (-(n : Int) - 1) := by
  have e : Int32.ofInt (-1) = -1 := by decide
  rw [e, Int32.xor_neg_one, Int32.not_eq_neg_add, Int32.ofInt_sub, Int32.ofInt_neg]
  rfl
theorem fb_nand (m n : Nat) : Int32.ofInt m &&& Int32.ofInt (-(n : Int) - 1) = Int32.ofInt ((m ^^^ (m &&& n) : Nat) : Int) := by
  rw [← fb_not, ← fb_xor, ← fb_and]
  have e : Int32.ofInt (-1) = -1 := by decide
  rw [e, Int32.xor_neg_one]
  refine Int32.toBitVec_inj.mp (BitVec.eq_of_getElem_eq fun i hi => ?_)
  simp only [Int32.toBitVec_and, Int32.toBitVec_not, Int32.toBitVec_xor, BitVec.getElem_and, BitVec.getElem_not, BitVec.getElem_xor]
  cases (Int32.ofInt (m : Int)).toBitVec[i] <;> cases (Int32.ofInt (n : Int)).toBitVec[i] <;> rfl
theorem fb_shl {p : Nat} (hp : p < 13) : Int32.ofInt 1 <<< (Int32.ofInt p &&& 31) = Int32.ofInt ((1 <<< p : Nat) : Int) := by
  have : ∀ p, p < 13 → Int32.ofInt 1 <<< (Int32.ofInt (p : Nat) &&& 31) = Int32.ofInt ((1 <<< p : Nat) : Int) := by decide +kernel
  exact this p hp
theorem fb_shr {n p : Nat} (hn : n < 2147483648) (hp : p < 13) : Int32.ofInt n >>> (Int32.ofInt p &&& 31) = Int32.ofInt ((n >>> p : Nat) : Int) := by
  have h1 : ∀ p, p < 13 → ((Int32.ofInt (p : Nat) &&& 31).toBitVec.smod 32).toNat = p := by decide +kernel
  have hm : (Int32.ofInt n).toBitVec.msb = false := by
    rw [BitVec.msb_eq_false_iff_two_mul_lt, Int32.ofInt_eq_ofNat]
    simp
    omega
  refine Int32.toBitVec_inj.mp (BitVec.eq_of_toNat_eq ?_)
  show (BitVec.sshiftRight' (Int32.ofInt n).toBitVec ((Int32.ofInt (p : Nat) &&& 31).toBitVec.smod 32)).toNat = _
  show ((Int32.ofInt n).toBitVec.sshiftRight ((Int32.ofInt (p : Nat) &&& 31).toBitVec.smod 32).toNat).toNat = _
  rw [BitVec.sshiftRight_eq_of_msb_false hm, BitVec.toNat_ushiftRight, h1 p hp, Int32.ofInt_eq_ofNat, Int32.ofInt_eq_ofNat]
  have : n >>> p ≤ n := by rw [Nat.shiftRight_eq_div_pow]; exact Nat.div_le_self ..
  simp
  rw [Nat.mod_eq_of_lt (show n < 4294967296 by omega), Nat.mod_eq_of_lt (show n >>> p < 4294967296 by omega)]
theorem fx_and {m n : Nat} (hi : ik_at mid pc = some .iand) (K : ik_W X mid (pc + 1) loc (fI ((m &&& n : Nat) : Int) :: r) h cl sl post) : ik_W X mid pc loc (fI (n : Int) :: fI (m : Int) :: r) h cl sl post :=
  fw_1 hi rfl rfl (congrArg (fun v => some (pc + 1, loc, Value.int v :: r, h, cl, sl)) (fb_and m n)) K
theorem fx_or {m n : Nat} (hi : ik_at mid pc = some .ior) (K : ik_W X mid (pc + 1) loc (fI ((m ||| n : Nat) : Int) :: r) h cl sl post) : ik_W X mid pc loc (fI (n : Int) :: fI (m : Int) :: r) h cl sl post :=
  fw_1 hi rfl rfl (congrArg (fun v => some (pc + 1, loc, Value.int v :: r, h, cl, sl)) (fb_or m n)) K
theorem fx_xor {m n : Nat} (hi : ik_at mid pc = some .ixor) (K : ik_W X mid (pc + 1) loc (fI ((m ^^^ n : Nat) : Int) :: r) h cl sl post) : ik_W X mid pc loc (fI (n : Int) :: fI (m : Int) :: r) h cl sl post :=
  fw_1 hi rfl rfl (congrArg (fun v => some (pc + 1, loc, Value.int v :: r, h, cl, sl)) (fb_xor m n)) K
theorem fx_not {n : Nat} (hi : ik_at mid pc = some .ixor) (K : ik_W X mid (pc + 1) loc (fI (-(n : Int) - 1) :: r) h cl sl post) : ik_W X mid pc loc (fI (-1) :: fI (n : Int) :: r) h cl sl post :=
  fw_1 hi rfl rfl (congrArg (fun v => some (pc + 1, loc, Value.int v :: r, h, cl, sl)) (fb_not n)) K
theorem fx_nand {m n : Nat} (hi : ik_at mid pc = some .iand) (K : ik_W X mid (pc + 1) loc (fI ((m ^^^ (m &&& n) : Nat) : Int) :: r) h cl sl post) : ik_W X mid pc loc (fI (-(n : Int) - 1) :: fI (m : Int) :: r) h cl sl post :=
  fw_1 hi rfl rfl (congrArg (fun v => some (pc + 1, loc, Value.int v :: r, h, cl, sl)) (fb_nand m n)) K
theorem fx_shl {p : Int} (hi : ik_at mid pc = some .ishl) (h0 : 0 ≤ p) (h1 : p < 13) (K : ik_W X mid (pc + 1) loc (fI ((1 <<< p.toNat : Nat) : Int) :: r) h cl sl post) : ik_W X mid pc loc (fI p :: fI 1 :: r) h cl sl post := by
  have e := fb_shl (p := p.toNat) (by omega)
  rw [Int.toNat_of_nonneg h0] at e
  exact fw_1 hi rfl rfl (congrArg (fun v => some (pc + 1, loc, Value.int v :: r, h, cl, sl)) e) K
theorem fx_shr {n : Nat} {p : Int} (hi : ik_at mid pc = some .ishr) (hn : n < 2147483648) (h0 : 0 ≤ p) (h1 : p < 13) (K : ik_W X mid (pc + 1) loc (fI ((n >>> p.toNat : Nat) : Int) :: r) h cl sl post) : ik_W X mid pc loc (fI p :: fI (n : Int) :: r) h cl sl post := by
  have e := fb_shr (n := n) (p := p.toNat) hn (by omega)
  rw [Int.toNat_of_nonneg h0] at e
  exact fw_1 hi rfl rfl (congrArg (fun v => some (pc + 1, loc, Value.int v :: r, h, cl, sl)) e) K
theorem fx_abs {a : Int} {i : Instr} {k : Nat} (hi : ik_at mid pc = some i) (hr : ik_isR i = false) (hc : ik_call mid i = some (1, k, 7)) (hl : 1 ≤ ik_fr mid ∧ 40 ≤ ik_lo mid ∧ ik_sum r ≤ 8) (ha : -2147483648 ≤ a) (ha2 : a < 2147483648) (K : ik_W X mid (pc + 3) loc (fI (if 0 ≤ a then a else 0 - a) :: r) h cl sl post) : ik_W X mid pc loc (fI a :: r) h cl sl post := by
  obtain ⟨n, z, he, hp⟩ := K
  refine ⟨n + 1, z, ?_, hp⟩
  simp only [ik_ex, hi, hr, hc, cond_false, ik_math, ik_bo]
  have e : (if 0 ≤ Int32.ofInt a then Int32.ofInt a else 0 - Int32.ofInt a) = Int32.ofInt (if 0 ≤ a then a else 0 - a) := by
    have hx : (0 ≤ Int32.ofInt a) = (0 ≤ a) := by rw [cv_le, fi_i ha ha2, (show (0 : Int32).toInt = 0 from by decide)]
    by_cases hba : 0 ≤ a
    · rw [if_pos hba, if_pos (hx.mpr hba)]
    · rw [if_neg hba, if_neg (fun w => hba (hx.mp w)), Int32.ofInt_sub]; rfl
  rw [e]
  simp only [List.drop_succ_cons, List.drop_zero]
  rw [if_pos hl]
  exact he
theorem fx_max {a b : Int} {i : Instr} {k : Nat} (hi : ik_at mid pc = some i) (hr : ik_isR i = false) (hc : ik_call mid i = some (2, k, 7)) (hl : 1 ≤ ik_fr mid ∧ 40 ≤ ik_lo mid ∧ ik_sum r ≤ 8) (ha : -9223372036854775808 ≤ a) (ha2 : a < 9223372036854775808) (hb : -9223372036854775808 ≤ b) (hb2 : b < 9223372036854775808) (K : ik_W X mid (pc + 3) loc (fJ (if b < a then a else b) :: r) h cl sl post) : ik_W X mid pc loc (fJ b :: fJ a :: r) h cl sl post := by
  obtain ⟨n, z, he, hp⟩ := K
  refine ⟨n + 1, z, ?_, hp⟩
  simp only [ik_ex, hi, hr, hc, cond_false, ik_math, ik_bo]
  have e : (if Int64.ofInt b < Int64.ofInt a then Int64.ofInt a else Int64.ofInt b) = Int64.ofInt (if b < a then a else b) := by
    have hx : (Int64.ofInt b < Int64.ofInt a) = (b < a) := by rw [Int64.lt_iff_toInt_lt, fj_i hb hb2, fj_i ha ha2]
    by_cases hba : b < a
    · rw [if_pos hba, if_pos (hx.mpr hba)]
    · rw [if_neg hba, if_neg (fun w => hba (hx.mp w))]
  rw [e]
  simp only [List.drop_succ_cons, List.drop_zero]
  rw [if_pos hl]
  exact he
theorem fx_aal {a k : Nat} {z : Int} {C : String} {vs : List Value} (hi : ik_at mid pc = some .aaload) (hc : h[a]? = some (.inl (.object C, vs))) (h0 : 0 ≤ z) (h2 : z < 2147483648) (hv : vs[z.toNat]? = some (.ref k)) (K : ik_W X mid (pc + 1) loc (.ref k :: r) h cl sl post) : ik_W X mid pc loc (fI z :: .ref a :: r) h cl sl post := by
  refine fw_1 hi rfl rfl ?_ K
  simp only [ik_step, hc]
  rw [if_neg (fi_z h0 h2), fi_n h0 h2, hv]
theorem fx_cpy {i : Instr} {q k a b : Nat} {xs ys : List Int} {n : Int} (hi : ik_at mid pc = some i) (hr : ik_isR i = false) (hc : ik_call mid i = some (q, k, 5)) (ha : h[a]? = some (.inl (.int, fA xs))) (hb : h[b]? = some (.inl (.int, fA ys))) (hn : 0 ≤ n) (hn2 : n < 2147483648) (h1 : xs.length = n.toNat) (h2 : ys.length = n.toNat) (hab : a ≠ b) (hl : 1 ≤ ik_fr mid ∧ 40 ≤ ik_lo mid ∧ ik_sum r ≤ 8) (K : ∀ h_q, h_q[b]? = some (.inl (.int, fA xs)) → (∀ c, c ≠ b → h_q[c]? = h[c]?) → h_q.length = h.length → ik_W X mid (pc + 3) loc r h_q cl sl post) : ik_W X mid pc loc (fI n :: fI 0 :: .ref b :: fI 0 :: .ref a :: r) h cl sl post := by
  obtain ⟨m, z, he, hp⟩ := K (h.set b (.inl (.int, fA xs))) (List.getElem?_set_self (hg_lt hb)) (fun c hcb => List.getElem?_set_ne (fun q => hcb q.symm)) List.length_set
  refine ⟨m + 1, z, ?_, hp⟩
  have z0 : (Int32.ofInt 0).toNatClampNeg = 0 := by decide
  have n0 : ¬ Int32.ofInt 0 < 0 := by decide
  have ec : ik_cpy (fA xs) (fA ys) 0 0 n.toNat = fA xs := by
    unfold ik_cpy
    rw [List.take_zero, List.drop_zero, List.nil_append, List.take_of_length_le (by rw [fA_len]; omega), List.drop_eq_nil_of_le (by rw [fA_len]; omega), List.append_nil]
  have ea : ik_acp (fI n :: fI 0 :: .ref b :: fI 0 :: .ref a :: r) h = some (r, h.set b (.inl (.int, fA xs))) := by
    simp only [ik_acp, ha, hb]
    rw [if_pos ⟨fi_z hn hn2, n0, n0, by rw [fi_n hn hn2, z0, fA_len]; omega, by rw [fi_n hn hn2, z0, fA_len]; omega, hab⟩, fi_n hn hn2, z0, ec]
  simp only [ik_ex, hi, hr, hc, cond_false, ea, ik_bo]
  rw [if_pos hl]
  exact he
end
end
noncomputable section
theorem hfr_w {T : List Nat} {h0 h h_q : List ik_E} {a : Nat} (F : hfr T h0 h) (f : ∀ b, b ≠ a → h_q[b]? = h[b]?) (l : h_q.length = h.length) (m : a ∈ T) : hfr T h0 h_q := ⟨l.trans F.1, fun b hb => (f b (fun q => hb (by rw [q]; exact m))).trans (F.2 b hb)⟩
theorem hfr_c {T U : List Nat} {h0 h h_q : List ik_E} (F : hfr T h0 h) (G : hfr U h h_q) (s : ∀ b, b ∈ U → b ∈ T) : hfr T h0 h_q := hfr_tr F (hfr_mono G s)
/-- b isn't one of T; b is one of T; all of a list (read off in steps, by recursors: what the elaborator is quick at) -/
def hnb (b : Nat) (T : List Nat) : Bool := List.rec (motive := fun _ => Bool) true (fun a _ ih => Bool.rec (motive := fun _ => Bool) ih false (Nat.beq b a)) T
def hmb (b : Nat) (T : List Nat) : Bool := List.rec (motive := fun _ => Bool) false (fun a _ ih => Bool.rec (motive := fun _ => Bool) ih true (Nat.beq b a)) T
def hnbs (X : List Nat) (L : List Nat) : Bool := List.rec (motive := fun _ => Bool) true (fun a _ ih => Bool.rec (motive := fun _ => Bool) false ih (hnb a X)) L
def hsb (T : List Nat) (U : List Nat) : Bool := List.rec (motive := fun _ => Bool) true (fun a _ ih => Bool.rec (motive := fun _ => Bool) false ih (hmb a T)) U
def hdj (L X : List Nat) : Prop := ∀ a, a ∈ L → a ∉ X
theorem hnb_ok {b : Nat} : ∀ {T : List Nat}, hnb b T = true → b ∉ T := by
  intro T
  induction T with
  | nil => intro _ m; cases m
  | cons a r ih =>
    intro e m
    have e2 : Bool.rec (motive := fun _ => Bool) (hnb b r) false (Nat.beq b a) = true := e
    cases q : Nat.beq b a with
    | true => rw [q] at e2; cases e2
    | false =>
      rw [q] at e2
      rcases List.mem_cons.mp m with w | w
      · exact Nat.ne_of_beq_eq_false q w
      · exact ih e2 w
theorem hmb_ok {b : Nat} : ∀ {T : List Nat}, hmb b T = true → b ∈ T := by
  intro T
  induction T with
  | nil => intro e; cases e
  | cons a r ih =>
    intro e
    have e2 : Bool.rec (motive := fun _ => Bool) (hmb b r) true (Nat.beq b a) = true := e
    cases q : Nat.beq b a with
    | true => rw [Nat.eq_of_beq_eq_true q]; exact List.mem_cons_self
    | false =>
      rw [q] at e2
      exact List.mem_cons_of_mem a (ih e2)
theorem hdj_b {L X : List Nat} (e : hnbs X L = true) : hdj L X := by
  induction L with
  | nil => intro a m; cases m
  | cons b r ih =>
    have e2 : Bool.rec (motive := fun _ => Bool) false (hnbs X r) (hnb b X) = true := e
    cases q : hnb b X with
    | true =>
      rw [q] at e2
      intro a m
      rcases List.mem_cons.mp m with w | w
      · rw [w]; exact hnb_ok q
      · exact ih e2 a w
    | false => rw [q] at e2; cases e2
theorem hsb_ok {T U : List Nat} (e : hsb T U = true) : ∀ b, b ∈ U → b ∈ T := by
  induction U with
  | nil => intro a m; cases m
  | cons b r ih =>
    have e2 : Bool.rec (motive := fun _ => Bool) false (hsb T r) (hmb b T) = true := e
    cases q : hmb b T with
    | true =>
      rw [q] at e2
      intro a m
      rcases List.mem_cons.mp m with w | w
      · rw [w]; exact hmb_ok q
      · exact ih e2 a w
    | false => rw [q] at e2; cases e2
theorem hfr_g {T : List Nat} {h h_q : List ik_E} (F : hfr T h h_q) (b : Nat) (e : hnb b T = true) : h_q[b]? = h[b]? := F.2 b (hnb_ok e)
theorem hfr_cb {T U : List Nat} {h0 h h_q : List ik_E} (F : hfr T h0 h) (G : hfr U h h_q) (e : hsb T U = true) : hfr T h0 h_q := hfr_c F G (hsb_ok e)
theorem hfr_wb {T : List Nat} {h0 h h_q : List ik_E} {a : Nat} (F : hfr T h0 h) (f : ∀ b, b ≠ a → h_q[b]? = h[b]?) (l : h_q.length = h.length) (e : hmb a T = true) : hfr T h0 h_q := hfr_w F f l (hmb_ok e)
section
variable {X : Option (Nat × (Nat → Int32))} {mid pc : Nat} {loc : ik_L} {st r : List Value} {h : List ik_E} {cl sl : Nat} {post : ik_St → Prop}
theorem fx_mulc {a b : Int} (hi : ik_at mid pc = some .imul) (K : ik_W X mid (pc + 1) loc (fI (b * a) :: r) h cl sl post) : ik_W X mid pc loc (fI b :: fI a :: r) h cl sl post :=
  fw_mul hi (by rw [Int.mul_comm]; exact K)
theorem bt_1 {n k : Nat} (hb : n.testBit k = true) : (n >>> k) &&& 1 = 1 := by
  rw [Nat.testBit, bne_iff_ne, Nat.and_comm] at hb
  have : (n >>> k) &&& 1 < 2 := by rw [Nat.and_one_is_mod]; omega
  omega
theorem bt_0 {n k : Nat} (hb : n.testBit k = false) : (n >>> k) &&& 1 = 0 := by
  rw [Nat.testBit, Nat.and_comm] at hb
  exact Decidable.byContradiction fun q => by
    rw [bne_iff_ne.mpr q] at hb; cases hb
theorem fx_bit {n k : Nat} (hi : ik_at mid pc = some .iand) (K1 : n.testBit k = true → ik_W X mid (pc + 1) loc (fI 1 :: r) h cl sl post) (K2 : n.testBit k = false → ik_W X mid (pc + 1) loc (fI 0 :: r) h cl sl post) : ik_W X mid pc loc (fI 1 :: fI ((n >>> k : Nat) : Int) :: r) h cl sl post := by
  refine fx_and (n := 1) hi ?_
  cases hb : n.testBit k with
  | true => rw [bt_1 hb]; exact K1 hb
  | false => rw [bt_0 hb]; exact K2 hb
theorem fx_min {a b : Int} {i : Instr} {k : Nat} (hi : ik_at mid pc = some i) (hr : ik_isR i = false) (hc : ik_call mid i = some (0, k, 7)) (hl : 1 ≤ ik_fr mid ∧ 40 ≤ ik_lo mid ∧ ik_sum r ≤ 8) (ha : -2147483648 ≤ a) (ha2 : a < 2147483648) (hb : -2147483648 ≤ b) (hb2 : b < 2147483648) (K : ∀ m, m ≤ a ∧ m ≤ b ∧ (m = a ∨ m = b) → ik_W X mid (pc + 3) loc (fI m :: r) h cl sl post) : ik_W X mid pc loc (fI b :: fI a :: r) h cl sl post :=
  fw_min hi hr hc hl ha ha2 hb hb2 (K _ (by split <;> omega))
theorem fx_ab {a : Int} {i : Instr} {k : Nat} (hi : ik_at mid pc = some i) (hr : ik_isR i = false) (hc : ik_call mid i = some (1, k, 7)) (hl : 1 ≤ ik_fr mid ∧ 40 ≤ ik_lo mid ∧ ik_sum r ≤ 8) (ha : -2147483648 ≤ a) (ha2 : a < 2147483648) (K : ∀ m, ((0 : Int) ≤ a ∧ m = a) ∨ (a < (0 : Int) ∧ m = -a) → ik_W X mid (pc + 3) loc (fI m :: r) h cl sl post) : ik_W X mid pc loc (fI a :: r) h cl sl post :=
  fx_abs hi hr hc hl ha ha2 (K _ (by split <;> omega))
theorem fx_mx {a b : Int} {i : Instr} {k : Nat} (hi : ik_at mid pc = some i) (hr : ik_isR i = false) (hc : ik_call mid i = some (2, k, 7)) (hl : 1 ≤ ik_fr mid ∧ 40 ≤ ik_lo mid ∧ ik_sum r ≤ 8) (ha : -9223372036854775808 ≤ a) (ha2 : a < 9223372036854775808) (hb : -9223372036854775808 ≤ b) (hb2 : b < 9223372036854775808) (K : ∀ m, a ≤ m ∧ b ≤ m ∧ (m = a ∨ m = b) → ik_W X mid (pc + 3) loc (fJ m :: r) h cl sl post) : ik_W X mid pc loc (fJ b :: fJ a :: r) h cl sl post :=
  fx_max hi hr hc hl ha ha2 hb hb2 (K _ (by split <;> omega))
theorem fx_ldw (k : Int) {x w : Nat} {v : Int32} (hi : ik_at mid pc = some (.ldc_w x)) (hx : ik_ci mid x = some (v, w)) (hk : v = Int32.ofInt k) (K : ik_W X mid (pc + 3) loc (fI k :: st) h cl sl post) : ik_W X mid pc loc st h cl sl post :=
  fw_1 hi rfl rfl (by subst hk; simp only [ik_step, hx]) K
end
end

/-! 38t.model -/
noncomputable section
/-! THE MODEL: ways of a place, draws, drifts -/
/-- what the stone of place p holds -/
def mx_g (ch : List Int) (s : Nat) (p : Int) : Int := if s.testBit p.toNat then (if ch.getD (4 * p).toNat 0 - 1 < 20 then ch.getD (4 * p).toNat 0 - 1 else 20) else 0
def mx_wi (go ch : List Int) (g p i : Int) : Int × Int := (go.getD (4 * p + i).toNat 0, if i = 0 then ch.getD (4 * p + i).toNat 0 - g else ch.getD (4 * p + i).toNat 0)
def mx_wr (go ch : List Int) (g p : Int) (n : Nat) : List (Int × Int) := (List.range n).map fun i => mx_wi go ch g p (i : Nat)
/-- the ways of place p: goal and chance; the stone's ahead -/
def mx_w (cn go ch : List Int) (s : Nat) (p : Int) : List (Int × Int) := (if 0 < mx_g ch s p then [(p, mx_g ch s p)] else []) ++ mx_wr go ch (mx_g ch s p) p (cn.getD p.toNat 0).toNat
def mx_o (ch : List Int) (s : Nat) (p : Int) : Nat := if 0 < mx_g ch s p then 1 else 0
theorem mx_wr_len {go ch : List Int} {g p : Int} {n : Nat} : (mx_wr go ch g p n).length = n := by unfold mx_wr; rw [List.length_map, List.length_range]
theorem mx_w_len (cn go ch : List Int) (s : Nat) (p : Int) : (mx_w cn go ch s p).length = mx_o ch s p + (cn.getD p.toNat 0).toNat := by
  unfold mx_w mx_o
  rw [List.length_append, mx_wr_len]
  split <;> rfl
theorem mx_w_0 {cn go ch : List Int} {s : Nat} {p : Int} (h : 0 < mx_g ch s p) : (mx_w cn go ch s p).getD 0 (0, 0) = (p, mx_g ch s p) := by
  unfold mx_w
  rw [if_pos h]
  rfl
theorem mx_w_i {cn go ch : List Int} {s : Nat} {p : Int} {i : Nat} (h : i < (cn.getD p.toNat 0).toNat) : (mx_w cn go ch s p).getD (mx_o ch s p + i) (0, 0) = mx_wi go ch (mx_g ch s p) p (i : Nat) := by
  have e : (mx_wr go ch (mx_g ch s p) p (cn.getD p.toNat 0).toNat).getD i (0, 0) = mx_wi go ch (mx_g ch s p) p (i : Nat) := by
    unfold mx_wr
    rw [List.getD_eq_getElem?_getD, List.getElem?_map, List.getElem?_range h]
    rfl
  unfold mx_w mx_o
  split
  · rw [List.singleton_append, Nat.add_comm, List.getD_cons_succ]; exact e
  · rw [List.nil_append, Nat.zero_add]; exact e
/-- two rows hold the first n of a list of pairs from base on -/
def mx_at (base : Nat) (L : List (Int × Int)) (A B : List Int) (n : Nat) : Prop := ∀ k, k < n → A.getD (base + k) 0 = (L.getD k (0, 0)).1 ∧ B.getD (base + k) 0 = (L.getD k (0, 0)).2
theorem mx_at_0 (base : Nat) (L : List (Int × Int)) (A B : List Int) : mx_at base L A B 0 := fun k hk => absurd hk (Nat.not_lt_zero k)
theorem mx_at_s {base : Nat} {L : List (Int × Int)} {A B : List Int} {n j : Nat} {a b : Int} (h : mx_at base L A B n) (e : j = base + n) (h1 : j < A.length) (h2 : j < B.length) (e1 : a = (L.getD n (0, 0)).1) (e2 : b = (L.getD n (0, 0)).2) : mx_at base L (A.set j a) (B.set j b) (n + 1) := by
  intro k hk
  rw [fz_getD_set, fz_getD_set]
  by_cases q : k = n
  · rw [if_pos ⟨by omega, h1⟩, if_pos ⟨by omega, h2⟩, q]; exact ⟨e1, e2⟩
  · rw [if_neg (fun w => q (by omega)), if_neg (fun w => q (by omega))]; exact h k (by omega)
/-- the same but in [lo, hi) -/
def mx_out (lo hi : Nat) (A B : List Int) : Prop := ∀ j, j < lo ∨ hi ≤ j → B.getD j 0 = A.getD j 0
theorem mx_out_r (lo hi : Nat) (A : List Int) : mx_out lo hi A A := fun _ _ => rfl
theorem mx_out_s {lo hi j : Nat} {A B : List Int} {v : Int} (h : mx_out lo hi A B) (h1 : lo ≤ j) (h2 : j < hi) : mx_out lo hi A (B.set j v) := by
  intro k hk
  rw [fz_getD_set, if_neg (fun w => by omega)]
  exact h k hk
/-- the place's ways lie in the class's rows -/
def mx_wy (wg wc we : List Int) (p : Int) (L : List (Int × Int)) : Prop := we.getD p.toNat 0 = 5 * p + L.length ∧ mx_at (5 * p.toNat) L wg wc L.length
/-- where a draw goes -/
def mx_pk : List (Int × Int) → Int → Int → Int
  | [], _, f => f
  | (g, c) :: L, d, f => if d < c then g else mx_pk L (d - c) f
theorem mx_pk_d {L : List (Int × Int)} {j : Nat} (h : j < L.length) (d f : Int) : mx_pk (L.drop j) d f = if d < (L.getD j (0, 0)).2 then (L.getD j (0, 0)).1 else mx_pk (L.drop (j + 1)) (d - (L.getD j (0, 0)).2) f := by
  rw [List.drop_eq_getElem_cons h, List.getD_eq_getElem?_getD, List.getElem?_eq_getElem h]
  rfl
theorem mx_pk_e {L : List (Int × Int)} {j : Nat} (h : L.length ≤ j) (d f : Int) : mx_pk (L.drop j) d f = f := by
  rw [List.drop_eq_nil_of_le h]
  rfl
/-- sums of chances from j on -/
def mx_cs (L : List (Int × Int)) : Int := (L.map fun x => x.2).sum
theorem mx_cs_d {L : List (Int × Int)} {j : Nat} (h : j < L.length) : mx_cs (L.drop j) = (L.getD j (0, 0)).2 + mx_cs (L.drop (j + 1)) := by
  unfold mx_cs
  rw [List.drop_eq_getElem_cons h, List.getD_eq_getElem?_getD, List.getElem?_eq_getElem h]
  rfl
theorem mx_cs_e {L : List (Int × Int)} {j : Nat} (h : L.length ≤ j) : mx_cs (L.drop j) = 0 := by
  unfold mx_cs
  rw [List.drop_eq_nil_of_le h]
  rfl
/-- ways as they must be: chances from 1 on, a hundred together; goals are places -/
def mx_ok (pl : Int) (L : List (Int × Int)) : Prop := L.length ≤ 5 ∧ mx_cs L = 100 ∧ ∀ j, j < L.length → 1 ≤ (L.getD j (0, 0)).2 ∧ (L.getD j (0, 0)).2 ≤ 100 ∧ 0 ≤ (L.getD j (0, 0)).1 ∧ (L.getD j (0, 0)).1 < pl
/-! draws and drifts -/
def mx_d (x : Int) : Int := (x * 1103515245 + 12345) % 2147483648
def mx_v (x : Int) : Int := mx_d x / 65536 % 100
theorem mx_d_b (x : Int) : 0 ≤ mx_d x ∧ mx_d x < 2147483648 := by unfold mx_d; omega
theorem mx_v_b (x : Int) : 0 ≤ mx_v x ∧ mx_v x < 100 := by unfold mx_v; omega
/-- a cork goes so often, by draws; it stays at the bridge -/
def mx_go (W : Int → List (Int × Int)) (br : Int) : Nat → Int → Int → Int × Int
  | 0, x, d => (x, d)
  | n + 1, x, d => if x = br then (x, d) else mx_go W br n (mx_pk (W x) (mx_v d) x) (mx_d d)
theorem mx_go_b {W : Int → List (Int × Int)} {br : Int} {n : Nat} {x d : Int} (h : x = br) : mx_go W br n x d = (x, d) := by
  cases n with
  | zero => rfl
  | succ n => rw [mx_go, if_pos h]
theorem mx_go_n {W : Int → List (Int × Int)} {br : Int} {n : Nat} {x d : Int} (h : ¬ x = br) : mx_go W br (n + 1) x d = mx_go W br n (mx_pk (W x) (mx_v d) x) (mx_d d) := by rw [mx_go, if_neg h]
def mx_tm (k own : Int) : Nat := if k = 0 then 1 else if k = 1 then 2 else if own % 2 = 0 then 1 else 0
/-- a minute m of a cork of kind k, set in at place c in minute fr -/
def mx_sd (W : Int → List (Int × Int)) (br k c fr m x d : Int) : Int × Int := if m = fr then (c, d) else if fr < m then mx_go W br (mx_tm k (m - fr)) x d else (x, d)
theorem mx_pk_in {pl : Int} {L : List (Int × Int)} {d f : Int} (hL : mx_ok pl L) (h0 : 0 ≤ d) (h1 : d < 100) : 0 ≤ mx_pk L d f ∧ mx_pk L d f < pl := by
  have key : ∀ n j d, L.length - j = n → j ≤ L.length → 0 ≤ d → d < mx_cs (L.drop j) → 0 ≤ mx_pk (L.drop j) d f ∧ mx_pk (L.drop j) d f < pl := by
    intro n
    induction n with
    | zero => intro j d e hj h0 h1; rw [mx_cs_e (by omega)] at h1; omega
    | succ n ih =>
      intro j d e hj h0 h1
      have hb := hL.2.2 j (by omega)
      rw [mx_cs_d (by omega)] at h1
      rw [mx_pk_d (by omega)]
      split
      · exact ⟨hb.2.2.1, hb.2.2.2⟩
      · exact ih (j + 1) _ (by omega) (by omega) (by omega) (by omega)
  have := key L.length 0 d (by omega) (by omega) h0 (by rw [List.drop_zero, hL.2.1]; exact h1)
  rwa [List.drop_zero] at this
theorem mx_go_in {W : Int → List (Int × Int)} {pl : Int} (hW : ∀ x : Int, (0 : Int) ≤ x → x < pl - 1 → mx_ok pl (W x)) : ∀ (n : Nat) (x d : Int), (0 : Int) ≤ x → x < pl → (0 : Int) ≤ d ∧ d < (2147483648 : Int) → (0 ≤ (mx_go W (pl - 1) n x d).1 ∧ (mx_go W (pl - 1) n x d).1 < pl) ∧ 0 ≤ (mx_go W (pl - 1) n x d).2 ∧ (mx_go W (pl - 1) n x d).2 < 2147483648 := by
  intro n
  induction n with
  | zero => intro x d h0 h1 h2; exact ⟨⟨h0, h1⟩, h2⟩
  | succ n ih =>
    intro x d h0 h1 h2
    rw [mx_go]
    split
    · exact ⟨⟨h0, h1⟩, h2⟩
    · have hp := mx_pk_in (f := x) (hW x h0 (by omega)) (mx_v_b d).1 (mx_v_b d).2
      exact ih _ _ hp.1 hp.2 (mx_d_b d)
theorem mx_sd_in {W : Int → List (Int × Int)} {pl k c fr m x d : Int} (hW : ∀ x : Int, (0 : Int) ≤ x → x < pl - 1 → mx_ok pl (W x)) (hx : fr < m → (0 : Int) ≤ x ∧ x < pl) (hc : (0 : Int) ≤ c ∧ c < pl) (hd : (0 : Int) ≤ d ∧ d < (2147483648 : Int)) : (fr ≤ m → 0 ≤ (mx_sd W (pl - 1) k c fr m x d).1 ∧ (mx_sd W (pl - 1) k c fr m x d).1 < pl) ∧ 0 ≤ (mx_sd W (pl - 1) k c fr m x d).2 ∧ (mx_sd W (pl - 1) k c fr m x d).2 < 2147483648 := by
  unfold mx_sd
  split
  · exact ⟨fun _ => hc, hd⟩
  · split
    · have hb := hx (by omega)
      have := mx_go_in hW (mx_tm k (m - fr)) x d hb.1 hb.2 hd
      exact ⟨fun _ => this.1, this.2⟩
    · exact ⟨fun _ => by omega, hd⟩
/-- what is not in yet stays out: -1 -/
theorem mx_sd_lo {W : Int → List (Int × Int)} {pl k c fr m x d : Int} (hW : ∀ x : Int, (0 : Int) ≤ x → x < pl - 1 → mx_ok pl (W x)) (hx : fr < m → (0 : Int) ≤ x ∧ x < pl) (hx2 : (-1 : Int) ≤ x ∧ x < pl) (hc : (0 : Int) ≤ c ∧ c < pl) (hd : (0 : Int) ≤ d ∧ d < (2147483648 : Int)) : -1 ≤ (mx_sd W (pl - 1) k c fr m x d).1 ∧ (mx_sd W (pl - 1) k c fr m x d).1 < pl := by
  by_cases q : fr ≤ m
  · have := (mx_sd_in (k := k) hW hx hc hd).1 q; omega
  · unfold mx_sd
    rw [if_neg (by omega), if_neg (by omega)]
    exact hx2
/-- n minutes more: both spots, the minute, the seed -/
def mx_dr (W : Int → List (Int × Int)) (br ka pa fa kb pb fb : Int) : Nat → Int → Int → Int → Int → Int × Int × Int × Int
  | 0, x, y, m, d => (x, y, m, d)
  | n + 1, x, y, m, d => if x = br ∨ y = br then (x, y, m, d) else
      mx_dr W br ka pa fa kb pb fb n (mx_sd W br ka pa fa (m + 1) x d).1 (mx_sd W br kb pb fb (m + 1) y (mx_sd W br ka pa fa (m + 1) x d).2).1 (m + 1) (mx_sd W br kb pb fb (m + 1) y (mx_sd W br ka pa fa (m + 1) x d).2).2
theorem mx_dr_b {W : Int → List (Int × Int)} {br ka pa fa kb pb fb x y m d : Int} {n : Nat} (h : x = br ∨ y = br) : mx_dr W br ka pa fa kb pb fb n x y m d = (x, y, m, d) := by
  cases n with
  | zero => rfl
  | succ n => rw [mx_dr, if_pos h]
theorem mx_dr_n {W : Int → List (Int × Int)} {br ka pa fa kb pb fb x y m d : Int} {n : Nat} (h : ¬ (x = br ∨ y = br)) : mx_dr W br ka pa fa kb pb fb (n + 1) x y m d = mx_dr W br ka pa fa kb pb fb n (mx_sd W br ka pa fa (m + 1) x d).1 (mx_sd W br kb pb fb (m + 1) y (mx_sd W br ka pa fa (m + 1) x d).2).1 (m + 1) (mx_sd W br kb pb fb (m + 1) y (mx_sd W br ka pa fa (m + 1) x d).2).2 := by rw [mx_dr, if_neg h]
def mx_en (br x y : Int) : Int := (if x = br then 1 else 0) + (if y = br then 2 else 0)
/-- a spot at the beginning -/
def mx_sp (c fr : Int) : Int := if fr = 0 then c else -1
theorem mx_dr_in {W : Int → List (Int × Int)} {pl ka pa fa kb pb fb : Int} (hW : ∀ x : Int, (0 : Int) ≤ x → x < pl - 1 → mx_ok pl (W x)) (ha : (0 : Int) ≤ pa ∧ pa < pl) (hb : (0 : Int) ≤ pb ∧ pb < pl) : ∀ (n : Nat) (x y m d : Int), (fa ≤ m → (0 : Int) ≤ x) → (fb ≤ m → (0 : Int) ≤ y) → ((-1 : Int) ≤ x ∧ x < pl) → ((-1 : Int) ≤ y ∧ y < pl) → ((0 : Int) ≤ d ∧ d < (2147483648 : Int)) →
    (fa ≤ (mx_dr W (pl - 1) ka pa fa kb pb fb n x y m d).2.2.1 → 0 ≤ (mx_dr W (pl - 1) ka pa fa kb pb fb n x y m d).1) ∧ (fb ≤ (mx_dr W (pl - 1) ka pa fa kb pb fb n x y m d).2.2.1 → 0 ≤ (mx_dr W (pl - 1) ka pa fa kb pb fb n x y m d).2.1) ∧ (-1 ≤ (mx_dr W (pl - 1) ka pa fa kb pb fb n x y m d).1 ∧ (mx_dr W (pl - 1) ka pa fa kb pb fb n x y m d).1 < pl) ∧ (-1 ≤ (mx_dr W (pl - 1) ka pa fa kb pb fb n x y m d).2.1 ∧ (mx_dr W (pl - 1) ka pa fa kb pb fb n x y m d).2.1 < pl) ∧ (0 ≤ (mx_dr W (pl - 1) ka pa fa kb pb fb n x y m d).2.2.2 ∧ (mx_dr W (pl - 1) ka pa fa kb pb fb n x y m d).2.2.2 < 2147483648) ∧ m ≤ (mx_dr W (pl - 1) ka pa fa kb pb fb n x y m d).2.2.1 ∧ (mx_dr W (pl - 1) ka pa fa kb pb fb n x y m d).2.2.1 ≤ m + n := by
  intro n
  induction n with
  | zero => intro x y m d h1 h2 h3 h4 h5; exact ⟨h1, h2, h3, h4, h5, Int.le_refl _, by simp only [mx_dr]; omega⟩
  | succ n ih =>
    intro x y m d h1 h2 h3 h4 h5
    by_cases q : x = pl - 1 ∨ y = pl - 1
    · rw [mx_dr_b q]; exact ⟨h1, h2, h3, h4, h5, Int.le_refl _, by show m ≤ m + ((n + 1 : Nat) : Int); omega⟩
    · rw [mx_dr_n q]
      have a1 := mx_sd_in (k := ka) (c := pa) (fr := fa) (m := m + 1) (x := x) (d := d) hW (by omega) ha h5
      have a2 := mx_sd_lo (k := ka) (c := pa) (fr := fa) (m := m + 1) (x := x) (d := d) hW (by omega) h3 ha h5
      have b1 := mx_sd_in (k := kb) (c := pb) (fr := fb) (m := m + 1) (x := y) (d := (mx_sd W (pl - 1) ka pa fa (m + 1) x d).2) hW (by omega) hb a1.2
      have b2 := mx_sd_lo (k := kb) (c := pb) (fr := fb) (m := m + 1) (x := y) (d := (mx_sd W (pl - 1) ka pa fa (m + 1) x d).2) hW (by omega) h4 hb a1.2
      have := ih (mx_sd W (pl - 1) ka pa fa (m + 1) x d).1 (mx_sd W (pl - 1) kb pb fb (m + 1) y (mx_sd W (pl - 1) ka pa fa (m + 1) x d).2).1 (m + 1) (mx_sd W (pl - 1) kb pb fb (m + 1) y (mx_sd W (pl - 1) ka pa fa (m + 1) x d).2).2 (fun q => (a1.1 q).1) (fun q => (b1.1 q).1) a2 b2 b1.2
      refine ⟨this.1, this.2.1, this.2.2.1, this.2.2.2.1, this.2.2.2.2.1, ?_, ?_⟩
      · omega
      · omega
/-- n suits: how many side 0 wins (w already), and the seed -/
def mx_mo (W : Int → List (Int × Int)) (br ka pa fa kb pb fb : Int) : Nat → Int → Int → Int × Int
  | 0, w, d => (w, d)
  | n + 1, w, d => mx_mo W br ka pa fa kb pb fb n (w + if mx_en br (mx_dr W br ka pa fa kb pb fb 200 (mx_sp pa fa) (mx_sp pb fb) 0 d).1 (mx_dr W br ka pa fa kb pb fb 200 (mx_sp pa fa) (mx_sp pb fb) 0 d).2.1 = 1 then 1 else 0) (mx_dr W br ka pa fa kb pb fb 200 (mx_sp pa fa) (mx_sp pb fb) 0 d).2.2.2
theorem mx_sp_b {c fr pl : Int} (hc : 0 ≤ c ∧ c < pl) (hf : 0 ≤ fr) : (fr ≤ 0 → 0 ≤ mx_sp c fr) ∧ -1 ≤ mx_sp c fr ∧ mx_sp c fr < pl := by
  unfold mx_sp
  split <;> omega
theorem mx_g_t {ch : List Int} {s : Nat} {p m : Int} (hb : s.testBit p.toNat = true) (q : m ≤ 20 ∧ m ≤ ch.getD (4 * p).toNat 0 - 1 ∧ (m = 20 ∨ m = ch.getD (4 * p).toNat 0 - 1)) : m = mx_g ch s p := by
  unfold mx_g
  rw [if_pos hb]
  split <;> omega
theorem mx_g_f {ch : List Int} {s : Nat} {p : Int} (hb : s.testBit p.toNat = false) : 0 = mx_g ch s p := by
  unfold mx_g
  rw [if_neg (by rw [hb]; decide)]
theorem mx_o_1 {ch : List Int} {s : Nat} {p : Int} (h : 0 < mx_g ch s p) : mx_o ch s p = 1 := by unfold mx_o; rw [if_pos h]
theorem mx_o_0 {ch : List Int} {s : Nat} {p : Int} (h : mx_g ch s p ≤ 0) : mx_o ch s p = 0 := by unfold mx_o; rw [if_neg (by omega)]
theorem mx_o_le {ch : List Int} {s : Nat} {p : Int} : mx_o ch s p ≤ 1 := by unfold mx_o; split <;> omega
theorem mx_w_I {cn go ch : List Int} {s : Nat} {p i : Int} (h0 : 0 ≤ i) (h : i < cn.getD p.toNat 0) : (mx_w cn go ch s p).getD (mx_o ch s p + i.toNat) (0, 0) = mx_wi go ch (mx_g ch s p) p i := by
  rw [mx_w_i (by omega), Int.toNat_of_nonneg h0]
def mx_sm (ch : List Int) (p : Int) : Nat → Int
  | 0 => 0
  | n + 1 => mx_sm ch p n + ch.getD (4 * p + (n : Nat)).toNat 0
def mx_rw (pl : Int) (cn go ch : List Int) : Prop := ∀ x : Int, 0 ≤ x → x < pl - 1 → (1 ≤ cn.getD x.toNat 0 ∧ cn.getD x.toNat 0 ≤ 4) ∧ (∀ i : Int, 0 ≤ i → i < cn.getD x.toNat 0 → 1 ≤ ch.getD (4 * x + i).toNat 0 ∧ ch.getD (4 * x + i).toNat 0 ≤ 100 ∧ 0 ≤ go.getD (4 * x + i).toNat 0 ∧ go.getD (4 * x + i).toNat 0 < pl) ∧ mx_sm ch x (cn.getD x.toNat 0).toNat = 100
theorem mx_cs_app (A B : List (Int × Int)) : mx_cs (A ++ B) = mx_cs A + mx_cs B := by
  unfold mx_cs
  rw [List.map_append, List.sum_append]
theorem mx_wr_cs (go ch : List Int) (g p : Int) : ∀ n, mx_cs (mx_wr go ch g p n) = mx_sm ch p n - (if n = 0 then 0 else g) := by
  intro n
  induction n with
  | zero => rfl
  | succ n ih =>
    have e : mx_wr go ch g p (n + 1) = mx_wr go ch g p n ++ [mx_wi go ch g p (n : Nat)] := by
      unfold mx_wr
      rw [List.range_succ, List.map_append]
      rfl
    rw [e, mx_cs_app, ih]
    have e1 : mx_cs [mx_wi go ch g p (n : Nat)] = if ((n : Nat) : Int) = 0 then ch.getD (4 * p + (n : Nat)).toNat 0 - g else ch.getD (4 * p + (n : Nat)).toNat 0 := Int.add_zero _
    rw [e1]
    show _ = mx_sm ch p n + ch.getD (4 * p + (n : Nat)).toNat 0 - (if n + 1 = 0 then 0 else g)
    by_cases q : n = 0
    · subst q; rw [if_pos rfl, if_pos (show ((0 : Nat) : Int) = 0 from rfl), if_neg (by omega)]; omega
    · rw [if_neg q, if_neg (by omega), if_neg (by omega)]; omega
theorem mx_g_b {cn go ch : List Int} {pl : Int} (h : mx_rw pl cn go ch) (t : Nat) {x : Int} (h0 : 0 ≤ x) (h1 : x < pl - 1) : 0 ≤ mx_g ch t x ∧ mx_g ch t x ≤ 20 ∧ mx_g ch t x ≤ ch.getD (4 * x).toNat 0 - 1 := by
  have r := h x h0 h1
  have c := r.2.1 0 (by omega) (by omega)
  rw [Int.add_zero] at c
  unfold mx_g
  split
  · split <;> omega
  · omega
theorem mx_rw_ok {cn go ch : List Int} {pl : Int} (h : mx_rw pl cn go ch) (t : Nat) : ∀ x : Int, (0 : Int) ≤ x → x < pl - 1 → mx_ok pl (mx_w cn go ch t x) := by
  intro x h0 h1
  have r := h x h0 h1
  have g := mx_g_b h t h0 h1
  have o := mx_o_le (ch := ch) (s := t) (p := x)
  refine ⟨?_, ?_, ?_⟩
  · rw [mx_w_len]; omega
  · unfold mx_w
    rw [mx_cs_app, mx_wr_cs, if_neg (show ¬ (cn.getD x.toNat 0).toNat = 0 by omega), r.2.2]
    by_cases q : 0 < mx_g ch t x
    · rw [if_pos q, show mx_cs [(x, mx_g ch t x)] = mx_g ch t x from Int.add_zero _]; omega
    · rw [if_neg q, show mx_cs [] = 0 from rfl]; omega
  · intro j hj
    rw [mx_w_len] at hj
    by_cases q : j < mx_o ch t x
    · have q1 : 0 < mx_g ch t x := by
        rcases Int.lt_or_le 0 (mx_g ch t x) with w | w
        · exact w
        · rw [mx_o_0 w] at q; omega
      rw [show j = 0 by omega, mx_w_0 q1]
      show 1 ≤ mx_g ch t x ∧ mx_g ch t x ≤ 100 ∧ 0 ≤ x ∧ x < pl
      omega
    · have e := mx_w_i (cn := cn) (go := go) (ch := ch) (s := t) (p := x) (i := j - mx_o ch t x) (by omega)
      rw [show mx_o ch t x + (j - mx_o ch t x) = j by omega] at e
      rw [e]
      have c := r.2.1 ((j - mx_o ch t x : Nat) : Int) (by omega) (by omega)
      show 1 ≤ (if (((j - mx_o ch t x : Nat) : Int)) = 0 then _ else _) ∧ (if (((j - mx_o ch t x : Nat) : Int)) = 0 then _ else _) ≤ 100 ∧ 0 ≤ go.getD (4 * x + ((j - mx_o ch t x : Nat) : Int)).toNat 0 ∧ go.getD (4 * x + ((j - mx_o ch t x : Nat) : Int)).toNat 0 < pl
      by_cases z : (((j - mx_o ch t x : Nat) : Int)) = 0
      · rw [if_pos z]
        rw [z, Int.add_zero] at c ⊢
        omega
      · rw [if_neg z]; omega
theorem mx_rw_ch {cn go ch : List Int} {pl : Int} (h : mx_rw pl cn go ch) : ∀ x : Int, (0 : Int) ≤ x → x < pl - 1 → 1 ≤ cn.getD x.toNat 0 ∧ ∀ j : Int, 4 * x ≤ j → j < 4 * x + cn.getD x.toNat 0 → 0 ≤ ch.getD j.toNat 0 ∧ ch.getD j.toNat 0 ≤ 100 := by
  intro x h0 h1
  have r := h x h0 h1
  refine ⟨r.1.1, fun j j0 j1 => ?_⟩
  have c := r.2.1 (j - 4 * x) (by omega) (by omega)
  rw [show 4 * x + (j - 4 * x) = j by omega] at c
  omega
end
