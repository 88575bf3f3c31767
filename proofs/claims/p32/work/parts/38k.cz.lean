theorem zfl {f : zM → Bool} : ∀ (rs : List (List zM)) (p : Nat) (r : List zM) (i : Nat) (m : zM), rs[p]? = some r → r[i]? = some m → f m = true → (∀ j m', j < i → r[j]? = some m' → f m' = false) → (∀ p' r', p' < p → rs[p']? = some r' → ∀ m' ∈ r', f m' = false) → rs.flatten.find? f = some m := by
  intro rs
  induction rs with
  | nil => intro p r i m h; cases h
  | cons r0 rs ih =>
    intro p r i m h1 h2 h3 h4 h5
    rw [List.flatten_cons, List.find?_append]
    cases p with
    | zero =>
      cases h1
      have e : r0.find? f = some m := by
        refine List.find?_eq_some_iff_getElem.mpr ⟨h3, i, ?_⟩
        have hi : i < r0.length := by
          rcases Nat.lt_or_ge i r0.length with q | q
          · exact q
          · rw [List.getElem?_eq_none q] at h2; cases h2
        rw [List.getElem?_eq_getElem hi] at h2
        refine ⟨hi, Option.some.inj h2, fun j hj => ?_⟩
        rw [h4 j _ hj (List.getElem?_eq_getElem (by omega))]
        rfl
      rw [e]
      rfl
    | succ p =>
      have e : r0.find? f = none := List.find?_eq_none.mpr (fun m' hm' => by rw [h5 0 r0 (by omega) rfl m' hm']; decide)
      rw [e, Option.none_or]
      exact ih p r i m h1 h2 h3 h4 (fun p' r' hp' hr' => h5 (p' + 1) r' (by omega) hr')
theorem zfn {f : zM → Bool} {rs : List (List zM)} (h : ∀ (p : Nat) (r : List zM), rs[p]? = some r → ∀ m ∈ r, f m = false) : rs.flatten.find? f = none := by
  refine List.find?_eq_none.mpr (fun m hm => ?_)
  obtain ⟨r, hr, hmr⟩ := List.mem_flatten.mp hm
  obtain ⟨p, hp, he⟩ := List.mem_iff_getElem.mp hr
  rw [h p r (by rw [List.getElem?_eq_getElem hp, he]) m hmr]
  decide
/-- the rows ahead of p have no goal that is no place; of row p none ahead of i -/
def zno (rs : List (List zM)) (p : Nat) : Prop := ∀ (p' : Nat) (r' : List zM), p' < p → rs[p']? = some r' → ∀ m' ∈ r', m'.1 < (rs.length : Int) + 1
def zni (rs : List (List zM)) (r : List zM) (i : Nat) : Prop := ∀ (j : Nat) (m : zM), j < i → r[j]? = some m → m.1 < (rs.length : Int) + 1
theorem zck_t {rs : List (List zM)} {p i : Nat} {r : List zM} {m : zM} (h1 : rs[p]? = some r) (h2 : r[i]? = some m) (h3 : (rs.length : Int) + 1 ≤ m.1) (h4 : zni rs r i) (h5 : zno rs p) : zck rs = some m :=
  zfl rs p r i m h1 h2 (decide_eq_true h3) (fun j m' hj hm => decide_eq_false (by have := h4 j m' hj hm; omega)) (fun p' r' hp hr m' hm => decide_eq_false (by have := h5 p' r' hp hr m' hm; omega))
theorem zck_n {rs : List (List zM)} (h : zno rs rs.length) : zck rs = none :=
  zfn (fun p r hr m hm => decide_eq_false (by
    have hp : p < rs.length := by
      rcases Nat.lt_or_ge p rs.length with q | q
      · exact q
      · rw [List.getElem?_eq_none q] at hr; cases hr
    have := h p r hp hr m hm
    omega))
theorem zno_s {rs : List (List zM)} {p : Nat} {r : List zM} (h : zno rs p) (hr : rs[p]? = some r) (hi : zni rs r r.length) : zno rs (p + 1) := by
  intro p' r' hp hr' m' hm
  by_cases e : p' = p
  · subst e
    rw [hr] at hr'
    cases hr'
    obtain ⟨j, hj, he⟩ := List.mem_iff_getElem.mp hm
    exact hi j m' hj (by rw [List.getElem?_eq_getElem hj, he])
  · exact h p' r' (by omega) hr' m' hm
theorem zni_s {rs : List (List zM)} {r : List zM} {i : Nat} {m : zM} (h : zni rs r i) (hm : r[i]? = some m) (hl : m.1 < (rs.length : Int) + 1) : zni rs r (i + 1) := by
  intro j m' hj hm'
  by_cases e : j = i
  · subst e
    rw [hm] at hm'
    cases hm'
    exact hl
  · exact h j m' (by omega) hm'
theorem zh_at {G P B : List Int} {p i : Nat} {r : List zM} {m : zM} (h : zh G P B p r) (hr : r[i]? = some m) : G.getD ((p : Int) * 4 + (i : Int)).toNat 0 = m.1 ∧ B.getD ((p : Int) * 4 + (i : Int)).toNat 0 = m.2.2 := by
  have e : ((p : Int) * 4 + (i : Int)).toNat = 4 * p + i := by omega
  rw [e]
  have := h i m hr
  exact ⟨this.1, this.2.2⟩
def zrows (rs : List (List zM)) : Prop := rs.length ≤ 11 ∧ ∀ r ∈ rs, zrow r
theorem zH_nil {C G P B : List Int} : zH C G P B [] := by
  intro p r q
  simp at q
theorem zrows_nil : zrows [] := ⟨by decide, by intro r q; simp at q⟩

theorem cz_ckI {c0 : ik_E} {tl : List ik_E} {y : Int → Int} {T : List Int} {n fl fb : Int} {C G P B : List Int} (ok : cz_ok y T n tl) {rs : List (List zM)} {cur : Int} (hC : C.length = 12) (hG : G.length = 48) (hP : P.length = 48) (hB : B.length = 48) (hH : zH C G P B rs) (hrs : zrows rs) {p : Nat} {r : List zM} (hr : rs[p]? = some r) (hno : zno rs p) (K : zni rs r r.length → (p : Int) ≤ 10 → ik_G 62 63 [some (.ref 1), some (fI (p : Int)), some (fI (r.length : Int))] [] (c0 :: cz_t T n cur fl fb ((rs.length : Int) + 1) C G P B tl) (fun rv h' => rv = [] ∧ ((∃ m, zck rs = some m ∧ h' = (c0 :: cz_t T n cur 6 m.2.2 ((rs.length : Int) + 1) C G P B tl)) ∨ (zck rs = none ∧ h' = (c0 :: cz_t T n cur fl fb ((rs.length : Int) + 1) C G P B tl))))) : ∀ (d : Nat) (i : Nat), r.length - i = d → i ≤ r.length → zni rs r i → ik_G 62 12 [some (.ref 1), some (fI (p : Int)), some (fI (i : Int))] [] (c0 :: cz_t T n cur fl fb ((rs.length : Int) + 1) C G P B tl) (fun rv h' => rv = [] ∧ ((∃ m, zck rs = some m ∧ h' = (c0 :: cz_t T n cur 6 m.2.2 ((rs.length : Int) + 1) C G P B tl)) ∨ (zck rs = none ∧ h' = (c0 :: cz_t T n cur fl fb ((rs.length : Int) + 1) C G P B tl)))) := by
  have ok' := ok
  obtain ⟨htl, hT, bT, hn, hn2, hy⟩ := ok'
  have hrow := hH p r hr
  have hpl : p < rs.length := by
    rcases Nat.lt_or_ge p rs.length with q | q
    · exact q
    · rw [List.getElem?_eq_none q] at hr; cases hr
  have hrl := hrs.1
  intro d
  induction d using Nat.strongRecOn with
  | _ d ih =>
    intro i hk hi0 hni
    have hcp : C.getD (p : Int).toNat 0 = (r.length : Int) := by rw [Int.toNat_natCast]; exact hrow.1
    refine ik_Wk 2 (pc' := 14) (loc' := [some (.ref 1), some (fI (p : Int)), some (fI (i : Int))]) (st' := [.ref 1, fI (i : Int)]) (h' := (c0 :: cz_t T n cur fl fb ((rs.length : Int) + 1) C G P B tl)) (cl' := 0) (sl' := 0) rfl ?_
    refine fw_gf rfl rfl rfl rfl ?_
    refine ik_Wk 1 (pc' := 18) (loc' := [some (.ref 1), some (fI (p : Int)), some (fI (i : Int))]) (st' := [fI (p : Int), .ref 3, fI (i : Int)]) (h' := (c0 :: cz_t T n cur fl fb ((rs.length : Int) + 1) C G P B tl)) (cl' := 0) (sl' := 0) rfl ?_
    refine fw_ial rfl rfl (by omega) (by omega) (by omega) ?_
    refine fw_ic_ge rfl rfl (by omega) (by omega) (by omega) (by omega) (fun hc1 => ?_) (fun hc1 => ?_)
    · have e : i = r.length := by omega
      subst e
      exact K hni (by omega)
    · have hi : i < r.length := by omega
      have hm : r[i]? = some r[i] := List.getElem?_eq_getElem hi
      generalize r[i] = m at hm
      have hat := zh_at hrow.2.2 hm
      have hmb := (hrs.2 r (List.mem_of_getElem? hr)) m (List.mem_of_getElem? hm)
      refine ik_Wk 1 (pc' := 23) (loc' := [some (.ref 1), some (fI (p : Int)), some (fI (i : Int))]) (st' := [.ref 1]) (h' := (c0 :: cz_t T n cur fl fb ((rs.length : Int) + 1) C G P B tl)) (cl' := 0) (sl' := 0) rfl ?_
      refine fw_gf rfl rfl rfl rfl ?_
      refine ik_Wk 2 (pc' := 28) (loc' := [some (.ref 1), some (fI (p : Int)), some (fI (i : Int))]) (st' := [fI 4, fI (p : Int), .ref 4]) (h' := (c0 :: cz_t T n cur fl fb ((rs.length : Int) + 1) C G P B tl)) (cl' := 0) (sl' := 0) rfl ?_
      refine fw_mul rfl ?_
      refine ik_Wk 1 (pc' := 30) (loc' := [some (.ref 1), some (fI (p : Int)), some (fI (i : Int))]) (st' := [fI (i : Int), fI ((p : Int) * 4), .ref 4]) (h' := (c0 :: cz_t T n cur fl fb ((rs.length : Int) + 1) C G P B tl)) (cl' := 0) (sl' := 0) rfl ?_
      refine fw_add rfl ?_
      refine fw_ial rfl rfl (by omega) (by omega) (by omega) ?_
      refine ik_Wk 1 (pc' := 33) (loc' := [some (.ref 1), some (fI (p : Int)), some (fI (i : Int))]) (st' := [.ref 1, fI (G.getD (((p : Int) * 4) + (i : Int)).toNat 0)]) (h' := (c0 :: cz_t T n cur fl fb ((rs.length : Int) + 1) C G P B tl)) (cl' := 0) (sl' := 0) rfl ?_
      refine fw_gf rfl rfl rfl rfl ?_
      refine fw_ic_lt rfl rfl (by omega) (by omega) (by omega) (by omega) (fun hc2 => ?_) (fun hc2 => ?_)
      · refine fw_inc (a := (i : Int)) (loc' := [some (.ref 1), some (fI (p : Int)), some (fI ((i : Int) + 1))]) rfl rfl (Nat.le_of_ble_eq_true rfl) rfl ?_
        refine ik_Wk 1 (pc' := 12) (loc' := [some (.ref 1), some (fI (p : Int)), some (fI ((i : Int) + 1))]) (st' := []) (h' := (c0 :: cz_t T n cur fl fb ((rs.length : Int) + 1) C G P B tl)) (cl' := 0) (sl' := 0) rfl ?_
        have el : (i : Int) + 1 = ((i + 1 : Nat) : Int) := by omega
        rw [el]
        exact ih _ (by omega) (i + 1) rfl (by omega) (zni_s hni hm (by omega))
      · refine ik_Wk 1 (pc' := 40) (loc' := [some (.ref 1), some (fI (p : Int)), some (fI (i : Int))]) (st' := [.ref 1]) (h' := (c0 :: cz_t T n cur fl fb ((rs.length : Int) + 1) C G P B tl)) (cl' := 0) (sl' := 0) rfl ?_
        refine fw_bi rfl (by decide) ?_
        refine ik_Wk 1 (pc' := 43) (loc' := [some (.ref 1), some (fI (p : Int)), some (fI (i : Int))]) (st' := [.ref 1, fI 6, .ref 1]) (h' := (c0 :: cz_t T n cur fl fb ((rs.length : Int) + 1) C G P B tl)) (cl' := 0) (sl' := 0) rfl ?_
        refine fw_gf rfl rfl rfl rfl ?_
        refine ik_Wk 2 (pc' := 48) (loc' := [some (.ref 1), some (fI (p : Int)), some (fI (i : Int))]) (st' := [fI 4, fI (p : Int), .ref 6, fI 6, .ref 1]) (h' := (c0 :: cz_t T n cur fl fb ((rs.length : Int) + 1) C G P B tl)) (cl' := 0) (sl' := 0) rfl ?_
        refine fw_mul rfl ?_
        refine ik_Wk 1 (pc' := 50) (loc' := [some (.ref 1), some (fI (p : Int)), some (fI (i : Int))]) (st' := [fI (i : Int), fI ((p : Int) * 4), .ref 6, fI 6, .ref 1]) (h' := (c0 :: cz_t T n cur fl fb ((rs.length : Int) + 1) C G P B tl)) (cl' := 0) (sl' := 0) rfl ?_
        refine fw_add rfl ?_
        refine fw_ial rfl rfl (by omega) (by omega) (by omega) ?_
        refine fw_call 67 3 0 [.ref 1, fI 6, fI (B.getD (((p : Int) * 4) + (i : Int)).toNat 0)] [] rfl rfl rfl (by decide) rfl rfl (fw_rec (cz_len htl) rfl rfl rfl (by decide)) (cz_refuse ok) ?_
        rintro rv h' ⟨rfl, rfl⟩
        refine ik_Wk 0 (pc' := 55) (loc' := [some (.ref 1), some (fI (p : Int)), some (fI (i : Int))]) (st' := [fI 0]) (h' := (c0 :: cz_t T n cur 6 (B.getD (((p : Int) * 4) + (i : Int)).toNat 0) ((rs.length : Int) + 1) C G P B tl)) (cl' := 0) (sl' := 0) rfl ?_
        refine ik_Wk 1 (pc' := 56) (loc' := [some (.ref 1), some (fI (p : Int)), some (fI (i : Int))]) (st' := []) (h' := (c0 :: cz_t T n cur 6 (B.getD (((p : Int) * 4) + (i : Int)).toNat 0) ((rs.length : Int) + 1) C G P B tl)) (cl' := 0) (sl' := 0) rfl ?_
        refine ik_Wret rfl rfl ⟨_, _, rfl, rfl, rfl, rfl, ⟨rfl, Or.inl ⟨m, zck_t hr hm (by omega) hni hno, ?_⟩⟩⟩
        rw [hat.2]

theorem cz_ckO {c0 : ik_E} {tl : List ik_E} {y : Int → Int} {T : List Int} {n fl fb : Int} {C G P B : List Int} (ok : cz_ok y T n tl) {rs : List (List zM)} {cur : Int} (hC : C.length = 12) (hG : G.length = 48) (hP : P.length = 48) (hB : B.length = 48) (hH : zH C G P B rs) (hrs : zrows rs) (hbr : C.getD rs.length 0 = 0) : ∀ (d : Nat) (p : Nat) (w : Option Value), rs.length + 1 - p = d → p ≤ rs.length + 1 → zno rs p → ik_G 62 2 [some (.ref 1), some (fI (p : Int)), w] [] (c0 :: cz_t T n cur fl fb ((rs.length : Int) + 1) C G P B tl) (fun rv h' => rv = [] ∧ ((∃ m, zck rs = some m ∧ h' = (c0 :: cz_t T n cur 6 m.2.2 ((rs.length : Int) + 1) C G P B tl)) ∨ (zck rs = none ∧ h' = (c0 :: cz_t T n cur fl fb ((rs.length : Int) + 1) C G P B tl)))) := by
  have ok' := ok
  obtain ⟨htl, hT, bT, hn, hn2, hy⟩ := ok'
  have hrl := hrs.1
  intro d
  induction d using Nat.strongRecOn with
  | _ d ih =>
    intro p w hk hp0 hno
    refine ik_Wk 2 (pc' := 4) (loc' := [some (.ref 1), some (fI (p : Int)), w]) (st' := [.ref 1, fI (p : Int)]) (h' := (c0 :: cz_t T n cur fl fb ((rs.length : Int) + 1) C G P B tl)) (cl' := 0) (sl' := 0) rfl ?_
    refine fw_gf rfl rfl rfl rfl ?_
    refine fw_ic_ge rfl rfl (by omega) (by omega) (by omega) (by omega) (fun hc1 => ?_) (fun hc1 => ?_)
    · exact ik_Wret rfl rfl ⟨_, _, rfl, rfl, rfl, rfl, ⟨rfl, Or.inr ⟨zck_n (fun p' r' hp' hr' => hno p' r' (by omega) hr'), rfl⟩⟩⟩
    · refine ik_Wk 2 (pc' := 12) (loc' := [some (.ref 1), some (fI (p : Int)), some (fI 0)]) (st' := []) (h' := (c0 :: cz_t T n cur fl fb ((rs.length : Int) + 1) C G P B tl)) (cl' := 0) (sl' := 0) rfl ?_
      by_cases hp : p < rs.length
      · have hr : rs[p]? = some rs[p] := List.getElem?_eq_getElem hp
        generalize rs[p] = r at hr
        refine cz_ckI ok hC hG hP hB hH hrs hr hno (fun hni hp10 => ?_) _ 0 rfl (by omega) (fun j m q => absurd q (by omega))
        refine fw_inc (a := (p : Int)) (loc' := [some (.ref 1), some (fI ((p : Int) + 1)), some (fI (r.length : Int))]) rfl rfl (Nat.le_of_ble_eq_true rfl) rfl ?_
        refine ik_Wk 1 (pc' := 2) (loc' := [some (.ref 1), some (fI ((p : Int) + 1)), some (fI (r.length : Int))]) (st' := []) (h' := (c0 :: cz_t T n cur fl fb ((rs.length : Int) + 1) C G P B tl)) (cl' := 0) (sl' := 0) rfl ?_
        have el : (p : Int) + 1 = ((p + 1 : Nat) : Int) := by omega
        rw [el]
        exact ih _ (by omega) (p + 1) _ rfl (by omega) (zno_s hno hr hni)
      · have hp2 : p = rs.length := by omega
        have hcp : C.getD (p : Int).toNat 0 = 0 := by rw [Int.toNat_natCast, hp2]; exact hbr
        refine ik_Wk 2 (pc' := 14) (loc' := [some (.ref 1), some (fI (p : Int)), some (fI 0)]) (st' := [.ref 1, fI 0]) (h' := (c0 :: cz_t T n cur fl fb ((rs.length : Int) + 1) C G P B tl)) (cl' := 0) (sl' := 0) rfl ?_
        refine fw_gf rfl rfl rfl rfl ?_
        refine ik_Wk 1 (pc' := 18) (loc' := [some (.ref 1), some (fI (p : Int)), some (fI 0)]) (st' := [fI (p : Int), .ref 3, fI 0]) (h' := (c0 :: cz_t T n cur fl fb ((rs.length : Int) + 1) C G P B tl)) (cl' := 0) (sl' := 0) rfl ?_
        refine fw_ial rfl rfl (by omega) (by omega) (by omega) ?_
        refine fw_ic_ge rfl rfl (by omega) (by omega) (by omega) (by omega) (fun hc2 => ?_) (fun hc2 => absurd hc2 (by omega))
        refine fw_inc (a := (p : Int)) (loc' := [some (.ref 1), some (fI ((p : Int) + 1)), some (fI 0)]) rfl rfl (Nat.le_of_ble_eq_true rfl) rfl ?_
        refine ik_Wk 1 (pc' := 2) (loc' := [some (.ref 1), some (fI ((p : Int) + 1)), some (fI 0)]) (st' := []) (h' := (c0 :: cz_t T n cur fl fb ((rs.length : Int) + 1) C G P B tl)) (cl' := 0) (sl' := 0) rfl ?_
        have el : (p : Int) + 1 = ((p + 1 : Nat) : Int) := by omega
        rw [el]
        exact ih _ (by omega) (p + 1) _ rfl (by omega) (fun p' r' hp' hr' => hno p' r' (by rcases Nat.lt_or_ge p' rs.length with q | q; omega; (rw [List.getElem?_eq_none q] at hr'; cases hr')) hr')

theorem cz_ck {c0 : ik_E} {tl : List ik_E} {y : Int → Int} {T : List Int} {n fl fb : Int} {C G P B : List Int} (ok : cz_ok y T n tl) {cur : Int} {rs : List (List zM)} (hC : C.length = 12) (hG : G.length = 48) (hP : P.length = 48) (hB : B.length = 48) (hH : zH C G P B rs) (hrs : zrows rs) (hbr : C.getD rs.length 0 = 0) : ik_F 62 [.ref 1] (c0 :: cz_t T n cur fl fb ((rs.length : Int) + 1) C G P B tl) (fun rv h' => rv = [] ∧ ((∃ m, zck rs = some m ∧ h' = (c0 :: cz_t T n cur 6 m.2.2 ((rs.length : Int) + 1) C G P B tl)) ∨ (zck rs = none ∧ h' = (c0 :: cz_t T n cur fl fb ((rs.length : Int) + 1) C G P B tl)))) := by
  have ok' := ok
  obtain ⟨htl, hT, bT, hn, hn2, hy⟩ := ok'
  refine ik_Wk 2 (pc' := 2) (loc' := [some (.ref 1), some (fI 0), none]) (st' := []) (h' := (c0 :: cz_t T n cur fl fb ((rs.length : Int) + 1) C G P B tl)) (cl' := 0) (sl' := 0) rfl ?_
  exact cz_ckO ok hC hG hP hB hH hrs hbr _ 0 none rfl (by omega) (fun p' r' q => absurd q (by omega))
