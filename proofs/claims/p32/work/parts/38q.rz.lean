theorem zh_ar {G P B : List Int} {p i : Nat} {r : List zM} {m : zM} (h : zh G P B p r) (hr : r[i]? = some m) : G.getD (4 * (p : Int) + (i : Int)).toNat 0 = m.1 ∧ B.getD (4 * (p : Int) + (i : Int)).toNat 0 = m.2.2 := by
  rw [show 4 * (p : Int) + (i : Int) = (p : Int) * 4 + (i : Int) by omega]
  exact zh_at h hr

theorem rz_ckI {pre tl : List ik_E} {w : Nat → Value} {wt : List Value} {c : Nat → ik_E} {y : Int → Int} {T : List Int} {n fp a0 sd we nu na : Int} {M R O A : List Int} (ok : rz_ok y T n pre tl) {rs : List (List zM)} (hM : M.length = 12) (hR : R.length = 48) (hO : O.length = 48) (hA : A.length = 48) (hH : zH M R O A rs) (hrs : zrows rs) {p : Nat} {r : List zM} (hr : rs[p]? = some r) (hno : zno rs p) (K : zni rs r r.length → (p : Int) ≤ 10 → ik_G 146 64 [some (.ref 66), some (fI (p : Int)), some (fI (r.length : Int))] [] (pre ++ rz_t w wt c tl T n fp a0 sd we nu na ((rs.length : Int) + 1) M R O A) (fun rv h' => (∃ m, zck rs = some m ∧ rv = [fI 6] ∧ h' = (pre ++ rz_t w wt c tl T n m.2.2 a0 sd we nu na ((rs.length : Int) + 1) M R O A)) ∨ (zck rs = none ∧ rv = [fI 0] ∧ h' = (pre ++ rz_t w wt c tl T n fp a0 sd we nu na ((rs.length : Int) + 1) M R O A)))) : ∀ (d : Nat) (i : Nat), r.length - i = d → i ≤ r.length → zni rs r i → ik_G 146 14 [some (.ref 66), some (fI (p : Int)), some (fI (i : Int))] [] (pre ++ rz_t w wt c tl T n fp a0 sd we nu na ((rs.length : Int) + 1) M R O A) (fun rv h' => (∃ m, zck rs = some m ∧ rv = [fI 6] ∧ h' = (pre ++ rz_t w wt c tl T n m.2.2 a0 sd we nu na ((rs.length : Int) + 1) M R O A)) ∨ (zck rs = none ∧ rv = [fI 0] ∧ h' = (pre ++ rz_t w wt c tl T n fp a0 sd we nu na ((rs.length : Int) + 1) M R O A))) := by
  have ok' := ok
  obtain ⟨hpre, htl, hT, bT, hn, hn2, hy⟩ := ok'
  have hrow := hH p r hr
  have hpl : p < rs.length := by
    rcases Nat.lt_or_ge p rs.length with q | q
    · exact q
    · rw [List.getElem?_eq_none q] at hr; cases hr
  have hrl := hrs.1
  intro d
  induction d using Nat.strongRecOn with
  | _ d ih =>
    intro i hk hi0 hni
    have hcp : M.getD (p : Int).toNat 0 = (r.length : Int) := by rw [Int.toNat_natCast]; exact hrow.1
    refine ik_Wk 2 (pc' := 16) (loc' := [some (.ref 66), some (fI (p : Int)), some (fI (i : Int))]) (st' := [.ref 66, fI (i : Int)]) (h' := (pre ++ rz_t w wt c tl T n fp a0 sd we nu na ((rs.length : Int) + 1) M R O A)) (cl' := 0) (sl' := 0) rfl ?_
    refine fw_gf rfl rfl (rz_g 0 hpre rfl) rfl ?_
    refine ik_Wk 1 (pc' := 20) (loc' := [some (.ref 66), some (fI (p : Int)), some (fI (i : Int))]) (st' := [fI (p : Int), .ref 73, fI (i : Int)]) (h' := (pre ++ rz_t w wt c tl T n fp a0 sd we nu na ((rs.length : Int) + 1) M R O A)) (cl' := 0) (sl' := 0) rfl ?_
    refine fw_ial rfl (rz_g 7 hpre rfl) (by omega) (by omega) (by omega) ?_
    refine fw_ic_ge rfl rfl (by omega) (by omega) (by omega) (by omega) (fun hc1 => ?_) (fun hc1 => ?_)
    · have e : i = r.length := by omega
      subst e
      exact K hni (by omega)
    · have hi : i < r.length := by omega
      have hm : r[i]? = some r[i] := List.getElem?_eq_getElem hi
      generalize r[i] = m at hm
      have hat := zh_ar hrow.2.2 hm
      have hmb := (hrs.2 r (List.mem_of_getElem? hr)) m (List.mem_of_getElem? hm)
      refine ik_Wk 1 (pc' := 25) (loc' := [some (.ref 66), some (fI (p : Int)), some (fI (i : Int))]) (st' := [.ref 66]) (h' := (pre ++ rz_t w wt c tl T n fp a0 sd we nu na ((rs.length : Int) + 1) M R O A)) (cl' := 0) (sl' := 0) rfl ?_
      refine fw_gf rfl rfl (rz_g 0 hpre rfl) rfl ?_
      refine ik_Wk 2 (pc' := 30) (loc' := [some (.ref 66), some (fI (p : Int)), some (fI (i : Int))]) (st' := [fI (p : Int), fI 4, .ref 74]) (h' := (pre ++ rz_t w wt c tl T n fp a0 sd we nu na ((rs.length : Int) + 1) M R O A)) (cl' := 0) (sl' := 0) rfl ?_
      refine fw_mul rfl ?_
      refine ik_Wk 1 (pc' := 32) (loc' := [some (.ref 66), some (fI (p : Int)), some (fI (i : Int))]) (st' := [fI (i : Int), fI (4 * (p : Int)), .ref 74]) (h' := (pre ++ rz_t w wt c tl T n fp a0 sd we nu na ((rs.length : Int) + 1) M R O A)) (cl' := 0) (sl' := 0) rfl ?_
      refine fw_add rfl ?_
      refine fw_ial rfl (rz_g 8 hpre rfl) (by omega) (by omega) (by omega) ?_
      refine ik_Wk 1 (pc' := 35) (loc' := [some (.ref 66), some (fI (p : Int)), some (fI (i : Int))]) (st' := [.ref 66, fI (R.getD ((4 * (p : Int)) + (i : Int)).toNat 0)]) (h' := (pre ++ rz_t w wt c tl T n fp a0 sd we nu na ((rs.length : Int) + 1) M R O A)) (cl' := 0) (sl' := 0) rfl ?_
      refine fw_gf rfl rfl (rz_g 0 hpre rfl) rfl ?_
      refine fw_ic_lt rfl rfl (by omega) (by omega) (by omega) (by omega) (fun hc2 => ?_) (fun hc2 => ?_)
      · refine fw_inc (a := (i : Int)) (loc' := [some (.ref 66), some (fI (p : Int)), some (fI ((i : Int) + 1))]) rfl rfl (Nat.le_of_ble_eq_true rfl) rfl ?_
        refine ik_Wk 1 (pc' := 14) (loc' := [some (.ref 66), some (fI (p : Int)), some (fI ((i : Int) + 1))]) (st' := []) (h' := (pre ++ rz_t w wt c tl T n fp a0 sd we nu na ((rs.length : Int) + 1) M R O A)) (cl' := 0) (sl' := 0) rfl ?_
        have el : (i : Int) + 1 = ((i + 1 : Nat) : Int) := by omega
        rw [el]
        exact ih _ (by omega) (i + 1) rfl (by omega) (zni_s hni hm (by omega))
      · refine ik_Wk 1 (pc' := 42) (loc' := [some (.ref 66), some (fI (p : Int)), some (fI (i : Int))]) (st' := [.ref 66]) (h' := (pre ++ rz_t w wt c tl T n fp a0 sd we nu na ((rs.length : Int) + 1) M R O A)) (cl' := 0) (sl' := 0) rfl ?_
        refine fw_bi rfl (by decide) ?_
        refine ik_Wk 1 (pc' := 45) (loc' := [some (.ref 66), some (fI (p : Int)), some (fI (i : Int))]) (st' := [.ref 66, fI 6, .ref 66]) (h' := (pre ++ rz_t w wt c tl T n fp a0 sd we nu na ((rs.length : Int) + 1) M R O A)) (cl' := 0) (sl' := 0) rfl ?_
        refine fw_gf rfl rfl (rz_g 0 hpre rfl) rfl ?_
        refine ik_Wk 2 (pc' := 50) (loc' := [some (.ref 66), some (fI (p : Int)), some (fI (i : Int))]) (st' := [fI (p : Int), fI 4, .ref 76, fI 6, .ref 66]) (h' := (pre ++ rz_t w wt c tl T n fp a0 sd we nu na ((rs.length : Int) + 1) M R O A)) (cl' := 0) (sl' := 0) rfl ?_
        refine fw_mul rfl ?_
        refine ik_Wk 1 (pc' := 52) (loc' := [some (.ref 66), some (fI (p : Int)), some (fI (i : Int))]) (st' := [fI (i : Int), fI (4 * (p : Int)), .ref 76, fI 6, .ref 66]) (h' := (pre ++ rz_t w wt c tl T n fp a0 sd we nu na ((rs.length : Int) + 1) M R O A)) (cl' := 0) (sl' := 0) rfl ?_
        refine fw_add rfl ?_
        refine fw_ial rfl (rz_g 10 hpre rfl) (by omega) (by omega) (by omega) ?_
        refine fw_call 137 3 0 [.ref 66, fI 6, fI (A.getD ((4 * (p : Int)) + (i : Int)).toNat 0)] [] rfl rfl rfl (by decide) rfl rfl (fw_rec (rz_len hpre htl) rfl (rz_g 0 hpre rfl) rfl (by decide)) (rz_fails ok) ?_
        rintro rv h' ⟨rfl, rfl⟩
        refine ik_Wk 0 (pc' := 57) (loc' := [some (.ref 66), some (fI (p : Int)), some (fI (i : Int))]) (st' := [fI 6]) (h' := (pre ++ rz_t w wt c tl T n (A.getD ((4 * (p : Int)) + (i : Int)).toNat 0) a0 sd we nu na ((rs.length : Int) + 1) M R O A)) (cl' := 0) (sl' := 0) rfl ?_
        refine ik_Wret rfl rfl ⟨_, _, rfl, rfl, rfl, rfl, (Or.inl ⟨m, zck_t hr hm (by omega) hni hno, rfl, ?_⟩)⟩
        rw [hat.2]

theorem rz_ckO {pre tl : List ik_E} {w : Nat → Value} {wt : List Value} {c : Nat → ik_E} {y : Int → Int} {T : List Int} {n fp a0 sd we nu na : Int} {M R O A : List Int} (ok : rz_ok y T n pre tl) {rs : List (List zM)} (hM : M.length = 12) (hR : R.length = 48) (hO : O.length = 48) (hA : A.length = 48) (hH : zH M R O A rs) (hrs : zrows rs) : ∀ (d : Nat) (p : Nat) (w4 : Option Value), rs.length - p = d → p ≤ rs.length → zno rs p → ik_G 146 2 [some (.ref 66), some (fI (p : Int)), w4] [] (pre ++ rz_t w wt c tl T n fp a0 sd we nu na ((rs.length : Int) + 1) M R O A) (fun rv h' => (∃ m, zck rs = some m ∧ rv = [fI 6] ∧ h' = (pre ++ rz_t w wt c tl T n m.2.2 a0 sd we nu na ((rs.length : Int) + 1) M R O A)) ∨ (zck rs = none ∧ rv = [fI 0] ∧ h' = (pre ++ rz_t w wt c tl T n fp a0 sd we nu na ((rs.length : Int) + 1) M R O A))) := by
  have ok' := ok
  obtain ⟨hpre, htl, hT, bT, hn, hn2, hy⟩ := ok'
  have hrl := hrs.1
  intro d
  induction d using Nat.strongRecOn with
  | _ d ih =>
    intro p w4 hk hp0 hno
    refine ik_Wk 2 (pc' := 4) (loc' := [some (.ref 66), some (fI (p : Int)), w4]) (st' := [.ref 66, fI (p : Int)]) (h' := (pre ++ rz_t w wt c tl T n fp a0 sd we nu na ((rs.length : Int) + 1) M R O A)) (cl' := 0) (sl' := 0) rfl ?_
    refine fw_gf rfl rfl (rz_g 0 hpre rfl) rfl ?_
    refine ik_Wk 1 (pc' := 8) (loc' := [some (.ref 66), some (fI (p : Int)), w4]) (st' := [fI 1, fI ((rs.length : Int) + 1), fI (p : Int)]) (h' := (pre ++ rz_t w wt c tl T n fp a0 sd we nu na ((rs.length : Int) + 1) M R O A)) (cl' := 0) (sl' := 0) rfl ?_
    refine fw_sub rfl ?_
    refine fw_ic_ge rfl rfl (by omega) (by omega) (by omega) (by omega) (fun hc1 => ?_) (fun hc1 => ?_)
    · refine ik_Wk 1 (pc' := 71) (loc' := [some (.ref 66), some (fI (p : Int)), w4]) (st' := [fI 0]) (h' := (pre ++ rz_t w wt c tl T n fp a0 sd we nu na ((rs.length : Int) + 1) M R O A)) (cl' := 0) (sl' := 0) rfl ?_
      exact ik_Wret rfl rfl ⟨_, _, rfl, rfl, rfl, rfl, (Or.inr ⟨zck_n (fun p' r' hp' hr' => hno p' r' (by omega) hr'), rfl, rfl⟩)⟩
    · refine ik_Wk 2 (pc' := 14) (loc' := [some (.ref 66), some (fI (p : Int)), some (fI 0)]) (st' := []) (h' := (pre ++ rz_t w wt c tl T n fp a0 sd we nu na ((rs.length : Int) + 1) M R O A)) (cl' := 0) (sl' := 0) rfl ?_
      have hp : p < rs.length := by omega
      have hr : rs[p]? = some rs[p] := List.getElem?_eq_getElem hp
      generalize rs[p] = r at hr
      refine rz_ckI ok hM hR hO hA hH hrs hr hno (fun hni hp10 => ?_) _ 0 rfl (by omega) (fun j m q => absurd q (by omega))
      refine fw_inc (a := (p : Int)) (loc' := [some (.ref 66), some (fI ((p : Int) + 1)), some (fI (r.length : Int))]) rfl rfl (Nat.le_of_ble_eq_true rfl) rfl ?_
      refine ik_Wk 1 (pc' := 2) (loc' := [some (.ref 66), some (fI ((p : Int) + 1)), some (fI (r.length : Int))]) (st' := []) (h' := (pre ++ rz_t w wt c tl T n fp a0 sd we nu na ((rs.length : Int) + 1) M R O A)) (cl' := 0) (sl' := 0) rfl ?_
      have el : (p : Int) + 1 = ((p + 1 : Nat) : Int) := by omega
      rw [el]
      exact ih _ (by omega) (p + 1) _ rfl (by omega) (zno_s hno hr hni)

theorem rz_ck {pre tl : List ik_E} {w : Nat → Value} {wt : List Value} {c : Nat → ik_E} {y : Int → Int} {T : List Int} {n fp a0 sd we nu na : Int} {M R O A : List Int} (ok : rz_ok y T n pre tl) {rs : List (List zM)} (hM : M.length = 12) (hR : R.length = 48) (hO : O.length = 48) (hA : A.length = 48) (hH : zH M R O A rs) (hrs : zrows rs) : ik_F 146 [.ref 66] (pre ++ rz_t w wt c tl T n fp a0 sd we nu na ((rs.length : Int) + 1) M R O A) (fun rv h' => (∃ m, zck rs = some m ∧ rv = [fI 6] ∧ h' = (pre ++ rz_t w wt c tl T n m.2.2 a0 sd we nu na ((rs.length : Int) + 1) M R O A)) ∨ (zck rs = none ∧ rv = [fI 0] ∧ h' = (pre ++ rz_t w wt c tl T n fp a0 sd we nu na ((rs.length : Int) + 1) M R O A))) := by
  have ok' := ok
  obtain ⟨hpre, htl, hT, bT, hn, hn2, hy⟩ := ok'
  refine ik_Wk 2 (pc' := 2) (loc' := [some (.ref 66), some (fI 0), none]) (st' := []) (h' := (pre ++ rz_t w wt c tl T n fp a0 sd we nu na ((rs.length : Int) + 1) M R O A)) (cl' := 0) (sl' := 0) rfl ?_
  exact rz_ckO ok hM hR hO hA hH hrs _ 0 none rfl (by omega) (fun p' r' q => absurd q (by omega))

theorem rz_ck0 {pre tl : List ik_E} {w : Nat → Value} {wt : List Value} {c : Nat → ik_E} {y : Int → Int} {T : List Int} {n fp a0 sd we nu na : Int} {M R O A : List Int} (ok : rz_ok y T n pre tl) : ik_F 146 [.ref 66] (pre ++ rz_t w wt c tl T n fp a0 sd we nu na 0 M R O A) (fun rv h' => rv = [fI 0] ∧ h' = (pre ++ rz_t w wt c tl T n fp a0 sd we nu na 0 M R O A)) := by
  have ok' := ok
  obtain ⟨hpre, htl, hT, bT, hn, hn2, hy⟩ := ok'
  refine ik_Wk 4 (pc' := 4) (loc' := [some (.ref 66), some (fI 0), none]) (st' := [.ref 66, fI 0]) (h' := (pre ++ rz_t w wt c tl T n fp a0 sd we nu na 0 M R O A)) (cl' := 0) (sl' := 0) rfl ?_
  refine fw_gf rfl rfl (rz_g 0 hpre rfl) rfl ?_
  refine ik_Wk 1 (pc' := 8) (loc' := [some (.ref 66), some (fI 0), none]) (st' := [fI 1, fI 0, fI 0]) (h' := (pre ++ rz_t w wt c tl T n fp a0 sd we nu na 0 M R O A)) (cl' := 0) (sl' := 0) rfl ?_
  refine fw_sub rfl ?_
  refine fw_ic_ge rfl rfl (by omega) (by omega) (by omega) (by omega) (fun hc1 => ?_) (fun hc1 => absurd hc1 (by omega))
  refine ik_Wk 1 (pc' := 71) (loc' := [some (.ref 66), some (fI 0), none]) (st' := [fI 0]) (h' := (pre ++ rz_t w wt c tl T n fp a0 sd we nu na 0 M R O A)) (cl' := 0) (sl' := 0) rfl ?_
  exact ik_Wret rfl rfl ⟨_, _, rfl, rfl, rfl, rfl, ⟨rfl, rfl⟩⟩

def rz_RA (pre tl : List ik_E) (w : Nat → Value) (wt : List Value) (c : Nat → ik_E) (T : List Int) (n fp : Int) (res : (Int × Int) ⊕ (Int × List (List zM))) (rv : List Value) (h' : List ik_E) : Prop := match res with
  | .inl e => rv = [fI e.1] ∧ 1 ≤ e.1 ∧ e.1 ≤ 6 ∧ ∃ (a' sd' we' nu' na' rp' : Int) (M' R' O' A' : List Int), M'.length = 12 ∧ R'.length = 48 ∧ O'.length = 48 ∧ A'.length = 48 ∧ h' = pre ++ rz_t w wt c tl T n e.2 a' sd' we' nu' na' rp' M' R' O' A'
  | .inr q => rv = [fI 0] ∧ ∃ (a' sd' we' nu' na' : Int) (M' R' O' A' : List Int), M'.length = 12 ∧ R'.length = 48 ∧ O'.length = 48 ∧ A'.length = 48 ∧ h' = pre ++ rz_t w wt c tl T n fp a' sd' we' nu' na' q.1 M' R' O' A' ∧ zH M' R' O' A' q.2 ∧ zrows q.2 ∧ (q.1 = 0 ∧ q.2 = [] ∨ q.1 = (q.2.length : Int) + 1)
/-- what the places say of the whole -/
def zfin (res : (Int × Int) ⊕ List (List zM)) : (Int × Int) ⊕ (Int × List (List zM)) := match res with
  | .inl e => .inl e
  | .inr rs => match zck rs with
    | some m => .inl (6, m.2.2)
    | none => .inr ((rs.length : Int) + 1, rs)
theorem zall_e {y : Int → Int} {n : Int} : zall y n = if zS y n 0 < n then zfin (zps y n 12 [] (zS y n 0)) else .inr (0, []) := by
  unfold zall zfin
  split
  · cases zps y n 12 [] (zS y n 0) with
    | inl e => rfl
    | inr rs => rfl
  · rfl

theorem zpl_br {y : Int → Int} {n s : Int} (h : zpl y n s = true) : ¬ zbr y n s = true := by
  intro q
  unfold zpl at h
  unfold zbr at q
  have h1 := (of_decide_eq_true h).1
  have h2 := (of_decide_eq_true q).1
  omega
theorem zH_snr {C G P B C' G' P' B' : List Int} {rs : List (List zM)} {r : List zM} {p : Nat} (h : zH C G P B rs) (hp : p = rs.length) (hc1 : C'.getD p 0 = (r.length : Int)) (hc2 : ∀ j : Nat, ¬ j = p → C'.getD j 0 = C.getD j 0) (hr : r.length ≤ 4) (hz : zh G' P' B' p r) (ag : zag (4 * p) G G') (ap : zag (4 * p) P P') (ab : zag (4 * p) B B') : zH C' G' P' B' (rs ++ [r]) := by
  intro q s hs
  by_cases hq : q < rs.length
  · rw [List.getElem?_append_left hq] at hs
    obtain ⟨h1, h2, h3⟩ := h q s hs
    refine ⟨?_, h2, fun i m hm => ?_⟩
    · rw [hc2 q (by omega)]; exact h1
    · have hi : i < s.length := by
        rcases Nat.lt_or_ge i s.length with w | w
        · exact w
        · rw [List.getElem?_eq_none w] at hm; cases hm
      rw [ag _ (by omega), ap _ (by omega), ab _ (by omega)]
      exact h3 i m hm
  · have e : q = rs.length := by
      have hq2 : q < (rs ++ [r]).length := by
        rcases Nat.lt_or_ge q (rs ++ [r]).length with w | w
        · exact w
        · rw [List.getElem?_eq_none w] at hs; cases hs
      rw [List.length_append] at hq2
      simp only [List.length_cons, List.length_nil] at hq2
      omega
    subst e
    rw [List.getElem?_append_right (Nat.le_refl _), Nat.sub_self] at hs
    cases hs
    subst hp
    exact ⟨hc1, hr, hz⟩

theorem rz_alL {pre tl : List ik_E} {w : Nat → Value} {wt : List Value} {c : Nat → ik_E} {y : Int → Int} {T : List Int} {n fp : Int} (ok : rz_ok y T n pre tl) : ∀ (k : Nat) (rs : List (List zM)) (cur sd we nu na : Int) (M R O A : List Int) (w4 : Option Value), rs.length + k = 11 → ik_wl 94 w4 = true → M.length = 12 → R.length = 48 → O.length = 48 → A.length = 48 → zH M R O A rs → zrows rs → 0 ≤ cur → cur ≤ n → ik_G 145 13 [some (.ref 66), some (fI 1), w4] [] (pre ++ rz_t w wt c tl T n fp cur sd we nu na (rs.length : Int) M R O A) (rz_RA pre tl w wt c T n fp (zfin (zps y n (k + 1) rs cur))) := by
  have ok' := ok
  obtain ⟨hpre, htl, hT, bT, hn, hn2, hy⟩ := ok'
  intro k
  induction k using Nat.strongRecOn with
  | _ k ih =>
    intro rs cur sd we nu na M R O A w4 hk hw hM hR hO hA hH hrs h0 h1
    refine ik_Wk 1 (pc' := 14) (loc' := [some (.ref 66), some (fI 1), w4]) (st' := [fI 1]) (h' := (pre ++ rz_t w wt c tl T n fp cur sd we nu na (rs.length : Int) M R O A)) (cl' := 0) (sl' := 0) rfl ?_
    refine fw_if_eq rfl rfl (by omega) (by omega) (fun hc1 => absurd hc1 (by omega)) (fun hc1 => ?_)
    refine ik_Wk 1 (pc' := 18) (loc' := [some (.ref 66), some (fI 1), w4]) (st' := [.ref 66]) (h' := (pre ++ rz_t w wt c tl T n fp cur sd we nu na (rs.length : Int) M R O A)) (cl' := 0) (sl' := 0) rfl ?_
    refine fw_bi rfl (by decide) ?_
    refine fw_bi rfl (by decide) ?_
    refine fw_bi rfl (by decide) ?_
    refine fw_bi rfl (by decide) ?_
    refine fw_call 139 4 3 [fI 112, fI 108, fI 97, fI 99] [.ref 66] rfl rfl rfl (by decide) rfl rfl (fw_sta (rz_len hpre htl) (fw_ftw (l0 := [some (.ref 66), some (fI 1)]) hw rfl) (by decide)) (rz_code (by decide) (by decide) (by decide) (by decide) (by decide) (by decide) (by decide) (by decide)) ?_
    rintro rv h' ⟨rfl, rfl⟩
    refine ik_Wk 0 (pc' := 29) (loc' := [some (.ref 66), some (fI 1), w4]) (st' := [fJ (27 * (27 * (27 * (112 - 96) + 108 - 96) + 97 - 96) + 99 - 96), .ref 66]) (h' := (pre ++ rz_t w wt c tl T n fp cur sd we nu na (rs.length : Int) M R O A)) (cl' := 0) (sl' := 0) rfl ?_
    refine fw_bi rfl (by decide) ?_
    refine fw_call 140 2 3 [fJ (27 * (27 * (27 * (112 - 96) + 108 - 96) + 97 - 96) + 99 - 96), fI 101] [.ref 66] rfl rfl rfl (by decide) rfl rfl (fw_sta (rz_len hpre htl) (fw_ftw (l0 := [some (.ref 66), some (fI 1)]) hw rfl) (by decide)) (rz_longer (by decide) (by decide)) ?_
    rintro rv h' ⟨rfl, rfl⟩
    refine ik_Wk 0 (pc' := 34) (loc' := [some (.ref 66), some (fI 1), w4]) (st' := [fJ (27 * (27 * (27 * (27 * (112 - 96) + 108 - 96) + 97 - 96) + 99 - 96) + 101 - 96), .ref 66]) (h' := (pre ++ rz_t w wt c tl T n fp cur sd we nu na (rs.length : Int) M R O A)) (cl' := 0) (sl' := 0) rfl ?_
    refine fw_call 142 2 0 [.ref 66, fJ (27 * (27 * (27 * (27 * (112 - 96) + 108 - 96) + 97 - 96) + 99 - 96) + 101 - 96)] [] rfl rfl rfl (by decide) rfl rfl (fw_rec (rz_len hpre htl) (fw_ftw (l0 := [some (.ref 66), some (fI 1)]) hw rfl) (rz_g 0 hpre rfl) rfl (by decide)) (rz_pass_pl ok (by decide) (by omega) (by omega)) ?_
    rintro rv h' (⟨hw2, rfl, sd', we', hw2a, hw2b, rfl⟩ | ⟨hw2, rfl, sd', we', hw2a, hw2b, rfl⟩)
    · have hz3 := zS_ge (y := y) (n := n) cur
      have hz4 := zS_le (y := y) (n := n) (i := cur) (by omega)
      have hz5 : zS y n cur + 5 ≤ n := by have q := hw2; unfold zpl at q; have := of_decide_eq_true q; have := zE_le (y := y) (n := n) (i := zS y n cur) (by omega); omega
      refine ik_Wk 0 (pc' := 37) (loc' := [some (.ref 66), some (fI 1), w4]) (st' := [fI 1]) (h' := (pre ++ rz_t w wt c tl T n fp (zS y n cur + 5) sd' we' nu na (rs.length : Int) M R O A)) (cl' := 0) (sl' := 0) rfl ?_
      refine fw_if_eq rfl rfl (by omega) (by omega) (fun hc6 => absurd hc6 (by omega)) (fun hc6 => ?_)
      refine ik_Wk 1 (pc' := 41) (loc' := [some (.ref 66), some (fI 1), w4]) (st' := [.ref 66]) (h' := (pre ++ rz_t w wt c tl T n fp (zS y n cur + 5) sd' we' nu na (rs.length : Int) M R O A)) (cl' := 0) (sl' := 0) rfl ?_
      refine fw_gf rfl rfl (rz_g 0 hpre rfl) rfl ?_
      refine fw_bi rfl (by decide) ?_
      refine fw_ic_ne rfl rfl (by omega) (by omega) (by omega) (by omega) (fun hc7 => ?_) (fun hc7 => ?_)
      · refine ik_Wk 3 (pc' := 52) (loc' := [some (.ref 66), some (fI 1), w4]) (st' := [.ref 66, fI 3, .ref 66]) (h' := (pre ++ rz_t w wt c tl T n fp (zS y n cur + 5) sd' we' nu na (rs.length : Int) M R O A)) (cl' := 0) (sl' := 0) rfl ?_
        refine fw_gf rfl rfl (rz_g 0 hpre rfl) rfl ?_
        refine ik_Wk 1 (pc' := 56) (loc' := [some (.ref 66), some (fI 1), w4]) (st' := [fI 5, fI (zS y n cur + 5), fI 3, .ref 66]) (h' := (pre ++ rz_t w wt c tl T n fp (zS y n cur + 5) sd' we' nu na (rs.length : Int) M R O A)) (cl' := 0) (sl' := 0) rfl ?_
        refine fw_sub rfl ?_
        refine fw_call 137 3 0 [.ref 66, fI 3, fI ((zS y n cur + 5) - 5)] [] rfl rfl rfl (by decide) rfl rfl (fw_rec (rz_len hpre htl) (fw_ftw (l0 := [some (.ref 66), some (fI 1)]) hw rfl) (rz_g 0 hpre rfl) rfl (by decide)) (rz_fails ok) ?_
        rintro rv h' ⟨rfl, rfl⟩
        refine ik_Wk 0 (pc' := 60) (loc' := [some (.ref 66), some (fI 1), w4]) (st' := [fI 3]) (h' := (pre ++ rz_t w wt c tl T n ((zS y n cur + 5) - 5) (zS y n cur + 5) sd' we' nu na (rs.length : Int) M R O A)) (cl' := 0) (sl' := 0) rfl ?_
        have hnb : ¬ zbr y n (zS y n cur) = true := zpl_br hw2
        have hfin : zfin (zps y n (k + 1) rs cur) = .inl (3, zS y n cur) := by rw [zps, if_neg hnb, if_pos hw2, if_pos (by omega)]; rfl
        rw [hfin]
        exact ik_Wret rfl rfl ⟨_, _, rfl, rfl, rfl, rfl, ⟨rfl, (show (1 : Int) ≤ 3 by decide), (show (3 : Int) ≤ 6 by decide), _, _, _, _, _, _, M, R, O, A, hM, hR, hO, hA, by rw [show (zS y n cur + 5) - 5 = zS y n cur by omega]⟩⟩
      · refine ik_Wk 1 (pc' := 62) (loc' := [some (.ref 66), some (fI 1), w4]) (st' := [.ref 66]) (h' := (pre ++ rz_t w wt c tl T n fp (zS y n cur + 5) sd' we' nu na (rs.length : Int) M R O A)) (cl' := 0) (sl' := 0) rfl ?_
        refine fw_call 144 1 0 [.ref 66] [] rfl rfl rfl (by decide) rfl rfl (fw_rec (rz_len hpre htl) (fw_ftw (l0 := [some (.ref 66), some (fI 1)]) hw rfl) (rz_g 0 hpre rfl) rfl (by decide)) (rz_pl ok hM hR hO hA (by omega) (by omega) (by omega) (by omega)) ?_
        intro rv h' hq
        rcases hm : zmv y n 5 [] 0 (zS y n cur + 5) with e | q
        · rw [hm] at hq
          obtain ⟨rfl, he1, he2, a', sd'', we'', nu', na', M', R', O', A', hM', hR', hO', hA', hf0, hf1, rfl⟩ := hq
          refine ik_Wk 0 (pc' := 65) (loc' := [some (.ref 66), some (fI 1), w4]) (st' := [fI e.1]) (h' := (pre ++ rz_t w wt c tl T n e.2 a' sd'' we'' nu' na' (rs.length : Int) M' R' O' A')) (cl' := 0) (sl' := 0) rfl ?_
          refine ik_Wk 2 (pc' := 67) (loc' := [some (.ref 66), some (fI 1), some (fI e.1)]) (st' := [fI e.1]) (h' := (pre ++ rz_t w wt c tl T n e.2 a' sd'' we'' nu' na' (rs.length : Int) M' R' O' A')) (cl' := 0) (sl' := 0) rfl ?_
          refine fw_if_le rfl rfl (by omega) (by omega) (fun hc8 => absurd hc8 (by omega)) (fun hc8 => ?_)
          refine ik_Wk 1 (pc' := 71) (loc' := [some (.ref 66), some (fI 1), some (fI e.1)]) (st' := [fI e.1]) (h' := (pre ++ rz_t w wt c tl T n e.2 a' sd'' we'' nu' na' (rs.length : Int) M' R' O' A')) (cl' := 0) (sl' := 0) rfl ?_
          have hnb : ¬ zbr y n (zS y n cur) = true := zpl_br hw2
          have hfin : zfin (zps y n (k + 1) rs cur) = .inl e := by rw [zps, if_neg hnb, if_pos hw2, if_neg (by omega), hm]; rfl
          rw [hfin]
          exact ik_Wret rfl rfl ⟨_, _, rfl, rfl, rfl, rfl, ⟨rfl, he1, he2, a', _, _, nu', na', _, M', R', O', A', hM', hR', hO', hA', rfl⟩⟩
        · rw [hm] at hq
          obtain ⟨rfl, sd'', we'', nu', na', M', R', O', A', hM', hR', hO', hA', hf0, hf1, rfl, hc1, hc2, hzr, ag, ap, ab, hrr, hrl4⟩ := hq
          refine ik_Wk 0 (pc' := 65) (loc' := [some (.ref 66), some (fI 1), w4]) (st' := [fI 0]) (h' := (pre ++ rz_t w wt c tl T n fp q.2 sd'' we'' nu' na' ((rs.length : Int) + 1) M' R' O' A')) (cl' := 0) (sl' := 0) rfl ?_
          refine ik_Wk 2 (pc' := 67) (loc' := [some (.ref 66), some (fI 1), some (fI 0)]) (st' := [fI 0]) (h' := (pre ++ rz_t w wt c tl T n fp q.2 sd'' we'' nu' na' ((rs.length : Int) + 1) M' R' O' A')) (cl' := 0) (sl' := 0) rfl ?_
          refine fw_if_le rfl rfl (by omega) (by omega) (fun hc9 => ?_) (fun hc9 => absurd hc9 (by omega))
          refine ik_Wk 1 (pc' := 13) (loc' := [some (.ref 66), some (fI 1), some (fI 0)]) (st' := []) (h' := (pre ++ rz_t w wt c tl T n fp q.2 sd'' we'' nu' na' ((rs.length : Int) + 1) M' R' O' A')) (cl' := 0) (sl' := 0) rfl ?_
          obtain ⟨k', rfl⟩ : ∃ k', k = k' + 1 := ⟨k - 1, by omega⟩
          have hnb : ¬ zbr y n (zS y n cur) = true := zpl_br hw2
          have e2 : ((rs ++ [q.1]).length : Int) = (rs.length : Int) + 1 := by rw [List.length_append]; rfl
          rw [zps, if_neg hnb, if_pos hw2, if_neg (by omega), hm, ← e2]
          rw [Int.toNat_natCast] at hc1 hc2 hzr ag ap ab
          exact ih k' (by omega) (rs ++ [q.1]) q.2 _ _ _ _ M' R' O' A' _ (by rw [List.length_append]; simp only [List.length_cons, List.length_nil]; omega) rfl hM' hR' hO' hA' (zH_snr hH rfl hc1 hc2 hrl4 hzr ag ap ab) (zrows_snoc hrs (by omega) hrr) hf0 hf1
    · have hz10 := zS_ge (y := y) (n := n) cur
      have hz11 := zS_le (y := y) (n := n) (i := cur) (by omega)
      refine ik_Wk 0 (pc' := 37) (loc' := [some (.ref 66), some (fI 1), w4]) (st' := [fI 0]) (h' := (pre ++ rz_t w wt c tl T n fp (zS y n cur) sd' we' nu na (rs.length : Int) M R O A)) (cl' := 0) (sl' := 0) rfl ?_
      refine fw_if_eq rfl rfl (by omega) (by omega) (fun hc12 => ?_) (fun hc12 => absurd hc12 (by omega))
      refine ik_Wk 1 (pc' := 76) (loc' := [some (.ref 66), some (fI 1), w4]) (st' := [.ref 66]) (h' := (pre ++ rz_t w wt c tl T n fp (zS y n cur) sd' we' nu na (rs.length : Int) M R O A)) (cl' := 0) (sl' := 0) rfl ?_
      refine fw_bi rfl (by decide) ?_
      refine fw_bi rfl (by decide) ?_
      refine fw_bi rfl (by decide) ?_
      refine fw_bi rfl (by decide) ?_
      refine fw_call 139 4 3 [fI 98, fI 114, fI 105, fI 100] [.ref 66] rfl rfl rfl (by decide) rfl rfl (fw_sta (rz_len hpre htl) (fw_ftw (l0 := [some (.ref 66), some (fI 1)]) hw rfl) (by decide)) (rz_code (by decide) (by decide) (by decide) (by decide) (by decide) (by decide) (by decide) (by decide)) ?_
      rintro rv h' ⟨rfl, rfl⟩
      refine ik_Wk 0 (pc' := 87) (loc' := [some (.ref 66), some (fI 1), w4]) (st' := [fJ (27 * (27 * (27 * (98 - 96) + 114 - 96) + 105 - 96) + 100 - 96), .ref 66]) (h' := (pre ++ rz_t w wt c tl T n fp (zS y n cur) sd' we' nu na (rs.length : Int) M R O A)) (cl' := 0) (sl' := 0) rfl ?_
      refine fw_bi rfl (by decide) ?_
      refine fw_call 140 2 3 [fJ (27 * (27 * (27 * (98 - 96) + 114 - 96) + 105 - 96) + 100 - 96), fI 103] [.ref 66] rfl rfl rfl (by decide) rfl rfl (fw_sta (rz_len hpre htl) (fw_ftw (l0 := [some (.ref 66), some (fI 1)]) hw rfl) (by decide)) (rz_longer (by decide) (by decide)) ?_
      rintro rv h' ⟨rfl, rfl⟩
      refine ik_Wk 0 (pc' := 92) (loc' := [some (.ref 66), some (fI 1), w4]) (st' := [fJ (27 * (27 * (27 * (27 * (98 - 96) + 114 - 96) + 105 - 96) + 100 - 96) + 103 - 96), .ref 66]) (h' := (pre ++ rz_t w wt c tl T n fp (zS y n cur) sd' we' nu na (rs.length : Int) M R O A)) (cl' := 0) (sl' := 0) rfl ?_
      refine fw_bi rfl (by decide) ?_
      refine fw_call 140 2 3 [fJ (27 * (27 * (27 * (27 * (98 - 96) + 114 - 96) + 105 - 96) + 100 - 96) + 103 - 96), fI 101] [.ref 66] rfl rfl rfl (by decide) rfl rfl (fw_sta (rz_len hpre htl) (fw_ftw (l0 := [some (.ref 66), some (fI 1)]) hw rfl) (by decide)) (rz_longer (by decide) (by decide)) ?_
      rintro rv h' ⟨rfl, rfl⟩
      refine ik_Wk 0 (pc' := 97) (loc' := [some (.ref 66), some (fI 1), w4]) (st' := [fJ (27 * (27 * (27 * (27 * (27 * (98 - 96) + 114 - 96) + 105 - 96) + 100 - 96) + 103 - 96) + 101 - 96), .ref 66]) (h' := (pre ++ rz_t w wt c tl T n fp (zS y n cur) sd' we' nu na (rs.length : Int) M R O A)) (cl' := 0) (sl' := 0) rfl ?_
      refine fw_call 142 2 0 [.ref 66, fJ (27 * (27 * (27 * (27 * (27 * (98 - 96) + 114 - 96) + 105 - 96) + 100 - 96) + 103 - 96) + 101 - 96)] [] rfl rfl rfl (by decide) rfl rfl (fw_rec (rz_len hpre htl) (fw_ftw (l0 := [some (.ref 66), some (fI 1)]) hw rfl) (rz_g 0 hpre rfl) rfl (by decide)) (rz_pass_br ok (by decide) (by omega) (by omega)) ?_
      rw [zS_idem]
      rintro rv h' (⟨hw13, rfl, sd', we', hw13a, hw13b, rfl⟩ | ⟨hw13, rfl, sd', we', hw13a, hw13b, rfl⟩)
      · have hz14 := zS_ge (y := y) (n := n) cur
        have hz15 := zS_le (y := y) (n := n) (i := cur) (by omega)
        have hz16 : zS y n cur + 6 ≤ n := by have q := hw13; unfold zbr at q; have := of_decide_eq_true q; have := zE_le (y := y) (n := n) (i := zS y n cur) (by omega); omega
        refine ik_Wk 0 (pc' := 100) (loc' := [some (.ref 66), some (fI 1), w4]) (st' := [fI 1]) (h' := (pre ++ rz_t w wt c tl T n fp (zS y n cur + 6) sd' we' nu na (rs.length : Int) M R O A)) (cl' := 0) (sl' := 0) rfl ?_
        refine fw_if_ne rfl rfl (by omega) (by omega) (fun hc17 => absurd hc17 (by omega)) (fun hc17 => ?_)
        refine ik_Wk 1 (pc' := 114) (loc' := [some (.ref 66), some (fI 1), w4]) (st' := [.ref 66]) (h' := (pre ++ rz_t w wt c tl T n fp (zS y n cur + 6) sd' we' nu na (rs.length : Int) M R O A)) (cl' := 0) (sl' := 0) rfl ?_
        refine fw_call 136 1 0 [.ref 66] [] rfl rfl rfl (by decide) rfl rfl (fw_rec (rz_len hpre htl) (fw_ftw (l0 := [some (.ref 66), some (fI 1)]) hw rfl) (rz_g 0 hpre rfl) rfl (by decide)) (rz_here ok (by omega) (by omega)) ?_
        rintro rv h' ⟨⟨ht18, rfl⟩ | ⟨ht18, rfl⟩, rfl⟩
        · have hz20 := zS_ge (y := y) (n := n) (zS y n cur + 6)
          have hz21 := zS_le (y := y) (n := n) (i := zS y n cur + 6) (by omega)
          have hb22 := bT (zS y n (zS y n cur + 6)) (by omega) (by omega)
          have hb23 := hy (zS y n (zS y n cur + 6)) (by omega) (by omega)
          refine ik_Wk 0 (pc' := 117) (loc' := [some (.ref 66), some (fI 1), w4]) (st' := [fI (y (zS y n (zS y n cur + 6)))]) (h' := (pre ++ rz_t w wt c tl T n fp (zS y n (zS y n cur + 6)) sd' we' nu na (rs.length : Int) M R O A)) (cl' := 0) (sl' := 0) rfl ?_
          refine fw_bi rfl (by decide) ?_
          refine fw_ic_eq rfl rfl (by omega) (by omega) (by omega) (by omega) (fun hc24 => ?_) (fun hc24 => ?_)
          · refine ik_Wk 2 (pc' := 134) (loc' := [some (.ref 66), some (fI 1), w4]) (st' := [.ref 66, .ref 66]) (h' := (pre ++ rz_t w wt c tl T n fp (zS y n (zS y n cur + 6)) sd' we' nu na (rs.length : Int) M R O A)) (cl' := 0) (sl' := 0) rfl ?_
            refine fw_gf rfl rfl (rz_g 0 hpre rfl) rfl ?_
            refine ik_Wk 1 (pc' := 138) (loc' := [some (.ref 66), some (fI 1), w4]) (st' := [fI 1, fI (zS y n (zS y n cur + 6)), .ref 66]) (h' := (pre ++ rz_t w wt c tl T n fp (zS y n (zS y n cur + 6)) sd' we' nu na (rs.length : Int) M R O A)) (cl' := 0) (sl' := 0) rfl ?_
            refine fw_add rfl ?_
            refine fw_pf (h' := (pre ++ rz_t w wt c tl T n fp ((zS y n (zS y n cur + 6)) + 1) sd' we' nu na (rs.length : Int) M R O A)) rfl rfl (rz_g 0 hpre rfl) (Nat.le_of_ble_eq_true rfl) rfl rfl (rz_s 0 hpre rfl) ?_
            refine ik_Wk 2 (pc' := 144) (loc' := [some (.ref 66), some (fI 1), w4]) (st' := [.ref 66, .ref 66]) (h' := (pre ++ rz_t w wt c tl T n fp ((zS y n (zS y n cur + 6)) + 1) sd' we' nu na (rs.length : Int) M R O A)) (cl' := 0) (sl' := 0) rfl ?_
            refine fw_gf rfl rfl (rz_g 0 hpre rfl) rfl ?_
            refine ik_Wk 1 (pc' := 148) (loc' := [some (.ref 66), some (fI 1), w4]) (st' := [fI 1, fI (rs.length : Int), .ref 66]) (h' := (pre ++ rz_t w wt c tl T n fp ((zS y n (zS y n cur + 6)) + 1) sd' we' nu na (rs.length : Int) M R O A)) (cl' := 0) (sl' := 0) rfl ?_
            refine fw_add rfl ?_
            refine fw_pf (h' := (pre ++ rz_t w wt c tl T n fp ((zS y n (zS y n cur + 6)) + 1) sd' we' nu na ((rs.length : Int) + 1) M R O A)) rfl rfl (rz_g 0 hpre rfl) (Nat.le_of_ble_eq_true rfl) rfl rfl (rz_s 0 hpre rfl) ?_
            refine ik_Wk 3 (pc' := 155) (loc' := [some (.ref 66), some (fI 0), w4]) (st' := [.ref 66]) (h' := (pre ++ rz_t w wt c tl T n fp ((zS y n (zS y n cur + 6)) + 1) sd' we' nu na ((rs.length : Int) + 1) M R O A)) (cl' := 0) (sl' := 0) rfl ?_
            refine fw_call 136 1 0 [.ref 66] [] rfl rfl rfl (by decide) rfl rfl (fw_rec (rz_len hpre htl) (fw_ftw (l0 := [some (.ref 66), some (fI 0)]) hw rfl) (rz_g 0 hpre rfl) rfl (by decide)) (rz_here ok (by omega) (by omega)) ?_
            rintro rv h' ⟨⟨ht25, rfl⟩ | ⟨ht25, rfl⟩, rfl⟩
            · have hz27 := zS_ge (y := y) (n := n) ((zS y n (zS y n cur + 6)) + 1)
              have hz28 := zS_le (y := y) (n := n) (i := (zS y n (zS y n cur + 6)) + 1) (by omega)
              have hb29 := bT (zS y n ((zS y n (zS y n cur + 6)) + 1)) (by omega) (by omega)
              have hb30 := hy (zS y n ((zS y n (zS y n cur + 6)) + 1)) (by omega) (by omega)
              refine ik_Wk 0 (pc' := 158) (loc' := [some (.ref 66), some (fI 0), w4]) (st' := [fI (y (zS y n ((zS y n (zS y n cur + 6)) + 1)))]) (h' := (pre ++ rz_t w wt c tl T n fp (zS y n ((zS y n (zS y n cur + 6)) + 1)) sd' we' nu na ((rs.length : Int) + 1) M R O A)) (cl' := 0) (sl' := 0) rfl ?_
              refine fw_if_lt rfl rfl (by omega) (by omega) (fun hc31 => ?_) (fun hc31 => ?_)
              · refine ik_Wk 1 (pc' := 14) (loc' := [some (.ref 66), some (fI 0), w4]) (st' := [fI 0]) (h' := (pre ++ rz_t w wt c tl T n fp (zS y n ((zS y n (zS y n cur + 6)) + 1)) sd' we' nu na ((rs.length : Int) + 1) M R O A)) (cl' := 0) (sl' := 0) rfl ?_
                refine fw_if_eq rfl rfl (by omega) (by omega) (fun hc32 => ?_) (fun hc32 => absurd hc32 (by omega))
                refine ik_Wk 1 (pc' := 172) (loc' := [some (.ref 66), some (fI 0), w4]) (st' := [.ref 66]) (h' := (pre ++ rz_t w wt c tl T n fp (zS y n ((zS y n (zS y n cur + 6)) + 1)) sd' we' nu na ((rs.length : Int) + 1) M R O A)) (cl' := 0) (sl' := 0) rfl ?_
                have hze : zend y n (zS y n cur + 6) = (0, 0) := by unfold zend; rw [if_pos ⟨by omega, by omega⟩, if_neg (by omega)]
                have hzp : zps y n (k + 1) rs cur = .inr rs := by rw [zps, if_pos hw13, if_pos (by rw [hze])]
                refine fw_call 146 1 0 [.ref 66] [] rfl rfl rfl (by decide) rfl rfl (fw_rec (rz_len hpre htl) (fw_ftw (l0 := [some (.ref 66), some (fI 0)]) hw rfl) (rz_g 0 hpre rfl) rfl (by decide)) (rz_ck ok hM hR hO hA hH hrs) ?_
                rintro rv h' (⟨m, hk1, rfl, rfl⟩ | ⟨hk1, rfl, rfl⟩)
                · have hfin : zfin (zps y n (k + 1) rs cur) = .inl (6, m.2.2) := by rw [hzp]; unfold zfin; dsimp only; rw [hk1]
                  rw [hfin]
                  refine ik_Wk 0 (pc' := 175) (loc' := [some (.ref 66), some (fI 0), w4]) (st' := [fI 6]) (h' := (pre ++ rz_t w wt c tl T n m.2.2 (zS y n ((zS y n (zS y n cur + 6)) + 1)) sd' we' nu na ((rs.length : Int) + 1) M R O A)) (cl' := 0) (sl' := 0) rfl ?_
                  exact ik_Wret rfl rfl ⟨_, _, rfl, rfl, rfl, rfl, ⟨rfl, (show (1 : Int) ≤ 6 by decide), (show (6 : Int) ≤ 6 by decide), _, _, _, _, _, _, M, R, O, A, hM, hR, hO, hA, rfl⟩⟩
                · have hfin : zfin (zps y n (k + 1) rs cur) = .inr ((rs.length : Int) + 1, rs) := by rw [hzp]; unfold zfin; dsimp only; rw [hk1]
                  rw [hfin]
                  refine ik_Wk 0 (pc' := 175) (loc' := [some (.ref 66), some (fI 0), w4]) (st' := [fI 0]) (h' := (pre ++ rz_t w wt c tl T n fp (zS y n ((zS y n (zS y n cur + 6)) + 1)) sd' we' nu na ((rs.length : Int) + 1) M R O A)) (cl' := 0) (sl' := 0) rfl ?_
                  exact ik_Wret rfl rfl ⟨_, _, rfl, rfl, rfl, rfl, ⟨rfl, _, _, _, _, _, M, R, O, A, hM, hR, hO, hA, rfl, hH, hrs, Or.inr rfl⟩⟩
              · refine ik_Wk 3 (pc' := 164) (loc' := [some (.ref 66), some (fI 0), w4]) (st' := [.ref 66, fI 1, .ref 66]) (h' := (pre ++ rz_t w wt c tl T n fp (zS y n ((zS y n (zS y n cur + 6)) + 1)) sd' we' nu na ((rs.length : Int) + 1) M R O A)) (cl' := 0) (sl' := 0) rfl ?_
                refine fw_gf rfl rfl (rz_g 0 hpre rfl) rfl ?_
                refine fw_call 137 3 0 [.ref 66, fI 1, fI (zS y n ((zS y n (zS y n cur + 6)) + 1))] [] rfl rfl rfl (by decide) rfl rfl (fw_rec (rz_len hpre htl) (fw_ftw (l0 := [some (.ref 66), some (fI 0)]) hw rfl) (rz_g 0 hpre rfl) rfl (by decide)) (rz_fails ok) ?_
                rintro rv h' ⟨rfl, rfl⟩
                refine ik_Wk 0 (pc' := 170) (loc' := [some (.ref 66), some (fI 0), w4]) (st' := [fI 1]) (h' := (pre ++ rz_t w wt c tl T n (zS y n ((zS y n (zS y n cur + 6)) + 1)) (zS y n ((zS y n (zS y n cur + 6)) + 1)) sd' we' nu na ((rs.length : Int) + 1) M R O A)) (cl' := 0) (sl' := 0) rfl ?_
                have hze : zend y n (zS y n cur + 6) = (1, zS y n ((zS y n (zS y n cur + 6)) + 1)) := by unfold zend; (repeat split) <;> first | rfl | omega
                have hfin : zfin (zps y n (k + 1) rs cur) = .inl (1, zS y n ((zS y n (zS y n cur + 6)) + 1)) := by rw [zps, if_pos hw13, if_neg (by rw [hze]; show ¬ (1 : Int) = 0; decide), hze]; rfl
                rw [hfin]
                exact ik_Wret rfl rfl ⟨_, _, rfl, rfl, rfl, rfl, ⟨rfl, (show (1 : Int) ≤ 1 by decide), (show (1 : Int) ≤ 6 by decide), _, _, _, _, _, _, M, R, O, A, hM, hR, hO, hA, rfl⟩⟩
            · have hz33 := zS_ge (y := y) (n := n) ((zS y n (zS y n cur + 6)) + 1)
              have hz34 := zS_le (y := y) (n := n) (i := (zS y n (zS y n cur + 6)) + 1) (by omega)
              refine ik_Wk 0 (pc' := 158) (loc' := [some (.ref 66), some (fI 0), w4]) (st' := [fI (-1)]) (h' := (pre ++ rz_t w wt c tl T n fp (zS y n ((zS y n (zS y n cur + 6)) + 1)) sd' we' nu na ((rs.length : Int) + 1) M R O A)) (cl' := 0) (sl' := 0) rfl ?_
              refine fw_if_lt rfl rfl (by omega) (by omega) (fun hc35 => ?_) (fun hc35 => absurd hc35 (by omega))
              refine ik_Wk 1 (pc' := 14) (loc' := [some (.ref 66), some (fI 0), w4]) (st' := [fI 0]) (h' := (pre ++ rz_t w wt c tl T n fp (zS y n ((zS y n (zS y n cur + 6)) + 1)) sd' we' nu na ((rs.length : Int) + 1) M R O A)) (cl' := 0) (sl' := 0) rfl ?_
              refine fw_if_eq rfl rfl (by omega) (by omega) (fun hc36 => ?_) (fun hc36 => absurd hc36 (by omega))
              refine ik_Wk 1 (pc' := 172) (loc' := [some (.ref 66), some (fI 0), w4]) (st' := [.ref 66]) (h' := (pre ++ rz_t w wt c tl T n fp (zS y n ((zS y n (zS y n cur + 6)) + 1)) sd' we' nu na ((rs.length : Int) + 1) M R O A)) (cl' := 0) (sl' := 0) rfl ?_
              have hze : zend y n (zS y n cur + 6) = (0, 0) := by unfold zend; rw [if_pos ⟨by omega, by omega⟩, if_neg (by omega)]
              have hzp : zps y n (k + 1) rs cur = .inr rs := by rw [zps, if_pos hw13, if_pos (by rw [hze])]
              refine fw_call 146 1 0 [.ref 66] [] rfl rfl rfl (by decide) rfl rfl (fw_rec (rz_len hpre htl) (fw_ftw (l0 := [some (.ref 66), some (fI 0)]) hw rfl) (rz_g 0 hpre rfl) rfl (by decide)) (rz_ck ok hM hR hO hA hH hrs) ?_
              rintro rv h' (⟨m, hk1, rfl, rfl⟩ | ⟨hk1, rfl, rfl⟩)
              · have hfin : zfin (zps y n (k + 1) rs cur) = .inl (6, m.2.2) := by rw [hzp]; unfold zfin; dsimp only; rw [hk1]
                rw [hfin]
                refine ik_Wk 0 (pc' := 175) (loc' := [some (.ref 66), some (fI 0), w4]) (st' := [fI 6]) (h' := (pre ++ rz_t w wt c tl T n m.2.2 (zS y n ((zS y n (zS y n cur + 6)) + 1)) sd' we' nu na ((rs.length : Int) + 1) M R O A)) (cl' := 0) (sl' := 0) rfl ?_
                exact ik_Wret rfl rfl ⟨_, _, rfl, rfl, rfl, rfl, ⟨rfl, (show (1 : Int) ≤ 6 by decide), (show (6 : Int) ≤ 6 by decide), _, _, _, _, _, _, M, R, O, A, hM, hR, hO, hA, rfl⟩⟩
              · have hfin : zfin (zps y n (k + 1) rs cur) = .inr ((rs.length : Int) + 1, rs) := by rw [hzp]; unfold zfin; dsimp only; rw [hk1]
                rw [hfin]
                refine ik_Wk 0 (pc' := 175) (loc' := [some (.ref 66), some (fI 0), w4]) (st' := [fI 0]) (h' := (pre ++ rz_t w wt c tl T n fp (zS y n ((zS y n (zS y n cur + 6)) + 1)) sd' we' nu na ((rs.length : Int) + 1) M R O A)) (cl' := 0) (sl' := 0) rfl ?_
                exact ik_Wret rfl rfl ⟨_, _, rfl, rfl, rfl, rfl, ⟨rfl, _, _, _, _, _, M, R, O, A, hM, hR, hO, hA, rfl, hH, hrs, Or.inr rfl⟩⟩
          · refine ik_Wk 3 (pc' := 125) (loc' := [some (.ref 66), some (fI 1), w4]) (st' := [.ref 66, fI 1, .ref 66]) (h' := (pre ++ rz_t w wt c tl T n fp (zS y n (zS y n cur + 6)) sd' we' nu na (rs.length : Int) M R O A)) (cl' := 0) (sl' := 0) rfl ?_
            refine fw_gf rfl rfl (rz_g 0 hpre rfl) rfl ?_
            refine fw_call 137 3 0 [.ref 66, fI 1, fI (zS y n (zS y n cur + 6))] [] rfl rfl rfl (by decide) rfl rfl (fw_rec (rz_len hpre htl) (fw_ftw (l0 := [some (.ref 66), some (fI 1)]) hw rfl) (rz_g 0 hpre rfl) rfl (by decide)) (rz_fails ok) ?_
            rintro rv h' ⟨rfl, rfl⟩
            refine ik_Wk 0 (pc' := 131) (loc' := [some (.ref 66), some (fI 1), w4]) (st' := [fI 1]) (h' := (pre ++ rz_t w wt c tl T n (zS y n (zS y n cur + 6)) (zS y n (zS y n cur + 6)) sd' we' nu na (rs.length : Int) M R O A)) (cl' := 0) (sl' := 0) rfl ?_
            have hze : zend y n (zS y n cur + 6) = (1, zS y n (zS y n cur + 6)) := by unfold zend; (repeat split) <;> first | rfl | omega
            have hfin : zfin (zps y n (k + 1) rs cur) = .inl (1, zS y n (zS y n cur + 6)) := by rw [zps, if_pos hw13, if_neg (by rw [hze]; show ¬ (1 : Int) = 0; decide), hze]; rfl
            rw [hfin]
            exact ik_Wret rfl rfl ⟨_, _, rfl, rfl, rfl, rfl, ⟨rfl, (show (1 : Int) ≤ 1 by decide), (show (1 : Int) ≤ 6 by decide), _, _, _, _, _, _, M, R, O, A, hM, hR, hO, hA, rfl⟩⟩
        · have hz37 := zS_ge (y := y) (n := n) (zS y n cur + 6)
          have hz38 := zS_le (y := y) (n := n) (i := zS y n cur + 6) (by omega)
          refine ik_Wk 0 (pc' := 117) (loc' := [some (.ref 66), some (fI 1), w4]) (st' := [fI (-1)]) (h' := (pre ++ rz_t w wt c tl T n fp (zS y n (zS y n cur + 6)) sd' we' nu na (rs.length : Int) M R O A)) (cl' := 0) (sl' := 0) rfl ?_
          refine fw_bi rfl (by decide) ?_
          refine fw_ic_eq rfl rfl (by omega) (by omega) (by omega) (by omega) (fun hc39 => absurd hc39 (by omega)) (fun hc39 => ?_)
          refine ik_Wk 3 (pc' := 125) (loc' := [some (.ref 66), some (fI 1), w4]) (st' := [.ref 66, fI 1, .ref 66]) (h' := (pre ++ rz_t w wt c tl T n fp (zS y n (zS y n cur + 6)) sd' we' nu na (rs.length : Int) M R O A)) (cl' := 0) (sl' := 0) rfl ?_
          refine fw_gf rfl rfl (rz_g 0 hpre rfl) rfl ?_
          refine fw_call 137 3 0 [.ref 66, fI 1, fI (zS y n (zS y n cur + 6))] [] rfl rfl rfl (by decide) rfl rfl (fw_rec (rz_len hpre htl) (fw_ftw (l0 := [some (.ref 66), some (fI 1)]) hw rfl) (rz_g 0 hpre rfl) rfl (by decide)) (rz_fails ok) ?_
          rintro rv h' ⟨rfl, rfl⟩
          refine ik_Wk 0 (pc' := 131) (loc' := [some (.ref 66), some (fI 1), w4]) (st' := [fI 1]) (h' := (pre ++ rz_t w wt c tl T n (zS y n (zS y n cur + 6)) (zS y n (zS y n cur + 6)) sd' we' nu na (rs.length : Int) M R O A)) (cl' := 0) (sl' := 0) rfl ?_
          have hze : zend y n (zS y n cur + 6) = (1, zS y n (zS y n cur + 6)) := by unfold zend; (repeat split) <;> first | rfl | omega
          have hfin : zfin (zps y n (k + 1) rs cur) = .inl (1, zS y n (zS y n cur + 6)) := by rw [zps, if_pos hw13, if_neg (by rw [hze]; show ¬ (1 : Int) = 0; decide), hze]; rfl
          rw [hfin]
          exact ik_Wret rfl rfl ⟨_, _, rfl, rfl, rfl, rfl, ⟨rfl, (show (1 : Int) ≤ 1 by decide), (show (1 : Int) ≤ 6 by decide), _, _, _, _, _, _, M, R, O, A, hM, hR, hO, hA, rfl⟩⟩
      · have hz40 := zS_ge (y := y) (n := n) cur
        have hz41 := zS_le (y := y) (n := n) (i := cur) (by omega)
        refine ik_Wk 0 (pc' := 100) (loc' := [some (.ref 66), some (fI 1), w4]) (st' := [fI 0]) (h' := (pre ++ rz_t w wt c tl T n fp (zS y n cur) sd' we' nu na (rs.length : Int) M R O A)) (cl' := 0) (sl' := 0) rfl ?_
        refine fw_if_ne rfl rfl (by omega) (by omega) (fun hc42 => ?_) (fun hc42 => absurd hc42 (by omega))
        refine ik_Wk 3 (pc' := 106) (loc' := [some (.ref 66), some (fI 1), w4]) (st' := [.ref 66, fI 1, .ref 66]) (h' := (pre ++ rz_t w wt c tl T n fp (zS y n cur) sd' we' nu na (rs.length : Int) M R O A)) (cl' := 0) (sl' := 0) rfl ?_
        refine fw_gf rfl rfl (rz_g 0 hpre rfl) rfl ?_
        refine fw_call 137 3 0 [.ref 66, fI 1, fI (zS y n cur)] [] rfl rfl rfl (by decide) rfl rfl (fw_rec (rz_len hpre htl) (fw_ftw (l0 := [some (.ref 66), some (fI 1)]) hw rfl) (rz_g 0 hpre rfl) rfl (by decide)) (rz_fails ok) ?_
        rintro rv h' ⟨rfl, rfl⟩
        refine ik_Wk 0 (pc' := 112) (loc' := [some (.ref 66), some (fI 1), w4]) (st' := [fI 1]) (h' := (pre ++ rz_t w wt c tl T n (zS y n cur) (zS y n cur) sd' we' nu na (rs.length : Int) M R O A)) (cl' := 0) (sl' := 0) rfl ?_
        have hfin : zfin (zps y n (k + 1) rs cur) = .inl (1, zS y n cur) := by rw [zps, if_neg (by rw [hw13]; decide), if_neg (by rw [hw2]; decide)]; rfl
        rw [hfin]
        exact ik_Wret rfl rfl ⟨_, _, rfl, rfl, rfl, rfl, ⟨rfl, (show (1 : Int) ≤ 1 by decide), (show (1 : Int) ≤ 6 by decide), _, _, _, _, _, _, M, R, O, A, hM, hR, hO, hA, rfl⟩⟩

theorem rz_al {pre tl : List ik_E} {w : Nat → Value} {wt : List Value} {c : Nat → ik_E} {y : Int → Int} {T : List Int} {n fp sd we nu na : Int} {M R O A : List Int} (ok : rz_ok y T n pre tl) (hM : M.length = 12) (hR : R.length = 48) (hO : O.length = 48) (hA : A.length = 48) : ik_F 145 [.ref 66] (pre ++ rz_t w wt c tl T n fp 0 sd we nu na 0 M R O A) (rz_RA pre tl w wt c T n fp (zall y n)) := by
  have ok' := ok
  obtain ⟨hpre, htl, hT, bT, hn, hn2, hy⟩ := ok'
  refine ik_Wk 1 (pc' := 1) (loc' := [some (.ref 66), none, none]) (st' := [.ref 66]) (h' := (pre ++ rz_t w wt c tl T n fp 0 sd we nu na 0 M R O A)) (cl' := 0) (sl' := 0) rfl ?_
  refine fw_call 136 1 0 [.ref 66] [] rfl rfl rfl (by decide) rfl rfl (fw_rec (rz_len hpre htl) rfl (rz_g 0 hpre rfl) rfl (by decide)) (rz_here ok (by omega) (by omega)) ?_
  rintro rv h' ⟨⟨ht1, rfl⟩ | ⟨ht1, rfl⟩, rfl⟩
  · have hz3 := zS_ge (y := y) (n := n) 0
    have hz4 := zS_le (y := y) (n := n) (i := 0) (by omega)
    have hb5 := bT (zS y n 0) (by omega) (by omega)
    have hb6 := hy (zS y n 0) (by omega) (by omega)
    refine ik_Wk 0 (pc' := 4) (loc' := [some (.ref 66), none, none]) (st' := [fI (y (zS y n 0))]) (h' := (pre ++ rz_t w wt c tl T n fp (zS y n 0) sd we nu na 0 M R O A)) (cl' := 0) (sl' := 0) rfl ?_
    refine fw_if_lt rfl rfl (by omega) (by omega) (fun hc7 => absurd hc7 (by omega)) (fun hc7 => ?_)
    refine ik_Wk 3 (pc' := 13) (loc' := [some (.ref 66), some (fI 1), none]) (st' := []) (h' := (pre ++ rz_t w wt c tl T n fp (zS y n 0) sd we nu na 0 M R O A)) (cl' := 0) (sl' := 0) rfl ?_
    rw [zall_e, if_pos (by omega)]
    exact rz_alL ok 11 [] (zS y n 0) _ _ _ _ M R O A none rfl rfl hM hR hO hA zH_nil zrows_nil (by omega) (by omega)
  · have hz8 := zS_ge (y := y) (n := n) 0
    have hz9 := zS_le (y := y) (n := n) (i := 0) (by omega)
    refine ik_Wk 0 (pc' := 4) (loc' := [some (.ref 66), none, none]) (st' := [fI (-1)]) (h' := (pre ++ rz_t w wt c tl T n fp (zS y n 0) sd we nu na 0 M R O A)) (cl' := 0) (sl' := 0) rfl ?_
    refine fw_if_lt rfl rfl (by omega) (by omega) (fun hc10 => ?_) (fun hc10 => absurd hc10 (by omega))
    refine ik_Wk 2 (pc' := 13) (loc' := [some (.ref 66), some (fI 0), none]) (st' := []) (h' := (pre ++ rz_t w wt c tl T n fp (zS y n 0) sd we nu na 0 M R O A)) (cl' := 0) (sl' := 0) rfl ?_
    refine ik_Wk 1 (pc' := 14) (loc' := [some (.ref 66), some (fI 0), none]) (st' := [fI 0]) (h' := (pre ++ rz_t w wt c tl T n fp (zS y n 0) sd we nu na 0 M R O A)) (cl' := 0) (sl' := 0) rfl ?_
    refine fw_if_eq rfl rfl (by omega) (by omega) (fun hc11 => ?_) (fun hc11 => absurd hc11 (by omega))
    refine ik_Wk 1 (pc' := 172) (loc' := [some (.ref 66), some (fI 0), none]) (st' := [.ref 66]) (h' := (pre ++ rz_t w wt c tl T n fp (zS y n 0) sd we nu na 0 M R O A)) (cl' := 0) (sl' := 0) rfl ?_
    refine fw_call 146 1 0 [.ref 66] [] rfl rfl rfl (by decide) rfl rfl (fw_rec (rz_len hpre htl) rfl (rz_g 0 hpre rfl) rfl (by decide)) (rz_ck0 ok) ?_
    rintro rv h' ⟨rfl, rfl⟩
    refine ik_Wk 0 (pc' := 175) (loc' := [some (.ref 66), some (fI 0), none]) (st' := [fI 0]) (h' := (pre ++ rz_t w wt c tl T n fp (zS y n 0) sd we nu na 0 M R O A)) (cl' := 0) (sl' := 0) rfl ?_
    rw [zall_e, if_neg (by omega)]
    exact ik_Wret rfl rfl ⟨_, _, rfl, rfl, rfl, rfl, ⟨rfl, _, _, _, _, _, M, R, O, A, hM, hR, hO, hA, rfl, zH_nil, zrows_nil, Or.inl ⟨rfl, rfl⟩⟩⟩
