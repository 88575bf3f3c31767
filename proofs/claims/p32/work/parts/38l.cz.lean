theorem zH_snoc {C G P B C' G' P' B' : List Int} {rs : List (List zM)} {r : List zM} {p : Nat} (h : zH C G P B rs) (hp : p = rs.length) (hp2 : p < C.length) (hc : C' = C.set p (r.length : Int)) (hr : r.length ≤ 4) (hz : zh G' P' B' p r) (ag : zag (4 * p) G G') (ap : zag (4 * p) P P') (ab : zag (4 * p) B B') : zH C' G' P' B' (rs ++ [r]) := by
  intro q s hs
  by_cases hq : q < rs.length
  · rw [List.getElem?_append_left hq] at hs
    obtain ⟨h1, h2, h3⟩ := h q s hs
    refine ⟨?_, h2, fun i m hm => ?_⟩
    · rw [hc, fz_getD_set, if_neg (by omega)]; exact h1
    · have hi : i < s.length := by
        rcases Nat.lt_or_ge i s.length with w | w
        · exact w
        · rw [List.getElem?_eq_none w] at hm; cases hm
      rw [ag _ (by omega), ap _ (by omega), ab _ (by omega)]
      exact h3 i m hm
  · have e : q = rs.length := by
      have hq2 : q < (rs ++ [r]).length := by
        rcases Nat.lt_or_ge q (rs ++ [r]).length with w | w
        · exact w
        · rw [List.getElem?_eq_none w] at hs; cases hs
      rw [List.length_append] at hq2
      simp only [List.length_cons, List.length_nil] at hq2
      omega
    subst e
    rw [List.getElem?_append_right (Nat.le_refl _), Nat.sub_self] at hs
    cases hs
    subst hp
    refine ⟨?_, hr, hz⟩
    rw [hc, fz_getD_set, if_pos ⟨rfl, hp2⟩]
theorem zrows_snoc {rs : List (List zM)} {r : List zM} (h : zrows rs) (hl : rs.length ≤ 10) (hr : zrow r) : zrows (rs ++ [r]) := by
  refine ⟨by rw [List.length_append]; simp only [List.length_cons, List.length_nil]; omega, fun s hs => ?_⟩
  rcases List.mem_append.mp hs with q | q
  · exact h.2 s q
  · rw [List.mem_singleton.mp q]; exact hr
def cz_RP (c0 : ik_E) (tl : List ik_E) (T : List Int) (n fl fb : Int) (res : (Int × Int) ⊕ List (List zM)) (rv : List Value) (h' : List ik_E) : Prop := match res with
  | .inl e => rv = [fI 0] ∧ ∃ (cur' pl' : Int) (C' G' P' B' : List Int), C'.length = 12 ∧ G'.length = 48 ∧ P'.length = 48 ∧ B'.length = 48 ∧ 0 ≤ cur' ∧ cur' ≤ n ∧ h' = c0 :: cz_t T n cur' e.1 e.2 pl' C' G' P' B' tl
  | .inr rs => rv = [fI 1] ∧ ∃ (cur' : Int) (C' G' P' B' : List Int), C'.length = 12 ∧ G'.length = 48 ∧ P'.length = 48 ∧ B'.length = 48 ∧ 0 ≤ cur' ∧ cur' ≤ n ∧ h' = c0 :: cz_t T n cur' fl fb ((rs.length : Int) + 1) C' G' P' B' tl ∧ zH C' G' P' B' rs ∧ C'.getD rs.length 0 = 0 ∧ zrows rs

theorem zH_c0 {C G P B : List Int} {rs : List (List zM)} {v : Int} {p : Nat} (h : zH C G P B rs) (hp : rs.length ≤ p) : zH (C.set p v) G P B rs := by
  intro q r hr
  have hq : q < rs.length := by
    rcases Nat.lt_or_ge q rs.length with w | w
    · exact w
    · rw [List.getElem?_eq_none w] at hr; cases hr
  rw [fz_getD_set, if_neg (by omega)]
  exact h q r hr

theorem cz_psL {c0 : ik_E} {tl : List ik_E} {y : Int → Int} {T : List Int} {n fl fb pl : Int} (ok : cz_ok y T n tl) : ∀ (k : Nat) (rs : List (List zM)) (cur : Int) (C G P B : List Int), rs.length + k = 11 → C.length = 12 → G.length = 48 → P.length = 48 → B.length = 48 → zH C G P B rs → zrows rs → 0 ≤ cur → cur ≤ n → ik_G 57 34 [some (.ref 1), some (fI (rs.length : Int)), some (fI (zS y n cur))] [] (c0 :: cz_t T n (zS y n cur) fl fb pl C G P B tl) (cz_RP c0 tl T n fl fb (zps y n (k + 1) rs cur)) := by
  have ok' := ok
  obtain ⟨htl, hT, bT, hn, hn2, hy⟩ := ok'
  intro k
  induction k using Nat.strongRecOn with
  | _ k ih =>
    intro rs cur C G P B hk hC hG hP hB hH hrs h0 h1
    have hz1 := zS_ge (y := y) (n := n) cur
    have hz2 := zS_le (y := y) (n := n) (i := cur) h1
    refine ik_Wk 2 (pc' := 37) (loc' := [some (.ref 1), some (fI (rs.length : Int)), some (fI (zS y n cur))]) (st' := [.retAddr 1, .ref 1]) (h' := (c0 :: cz_t T n (zS y n cur) fl fb pl C G P B tl)) (cl' := 0) (sl' := 0) rfl ?_
    refine fw_call 64 2 0 [.ref 1, .retAddr 1] [] rfl rfl rfl (by decide) rfl rfl (fw_rec (cz_len htl) rfl rfl rfl (by decide)) (cz_rw0 ok (by omega) (by omega)) ?_
    rintro rv h' (⟨hw1, rfl, rfl⟩ | ⟨hw1, rfl, rfl⟩)
    · have hz2 : (zS y n cur) + 6 ≤ n := by have q := hw1; unfold zbr at q; have := of_decide_eq_true q; have := zE_le (y := y) (n := n) (i := zS y n cur) (by omega); omega
      refine ik_Wk 0 (pc' := 40) (loc' := [some (.ref 1), some (fI (rs.length : Int)), some (fI (zS y n cur))]) (st' := [fI 1]) (h' := (c0 :: cz_t T n ((zS y n cur) + 6) fl fb pl C G P B tl)) (cl' := 0) (sl' := 0) rfl ?_
      refine fw_if_eq rfl rfl (by omega) (by omega) (fun hc3 => absurd hc3 (by omega)) (fun hc3 => ?_)
      refine ik_Wk 1 (pc' := 44) (loc' := [some (.ref 1), some (fI (rs.length : Int)), some (fI (zS y n cur))]) (st' := [.ref 1]) (h' := (c0 :: cz_t T n ((zS y n cur) + 6) fl fb pl C G P B tl)) (cl' := 0) (sl' := 0) rfl ?_
      refine fw_gf rfl rfl rfl rfl ?_
      refine ik_Wk 2 (pc' := 49) (loc' := [some (.ref 1), some (fI (rs.length : Int)), some (fI (zS y n cur))]) (st' := [fI 0, fI (rs.length : Int), .ref 3]) (h' := (c0 :: cz_t T n ((zS y n cur) + 6) fl fb pl C G P B tl)) (cl' := 0) (sl' := 0) rfl ?_
      have hl4 : (C.set (rs.length : Int).toNat 0).length = 12 := (List.length_set ..).trans hC
      refine fw_ias (h' := (c0 :: cz_t T n ((zS y n cur) + 6) fl fb pl (C.set (rs.length : Int).toNat 0) G P B tl)) rfl rfl (by omega) (by omega) (by omega) rfl ?_
      refine ik_Wk 3 (pc' := 53) (loc' := [some (.ref 1), some (fI (rs.length : Int)), some (fI (zS y n cur))]) (st' := [fI 1, fI (rs.length : Int), .ref 1]) (h' := (c0 :: cz_t T n ((zS y n cur) + 6) fl fb pl (C.set (rs.length : Int).toNat 0) G P B tl)) (cl' := 0) (sl' := 0) rfl ?_
      refine fw_add rfl ?_
      refine fw_pf (h' := (c0 :: cz_t T n ((zS y n cur) + 6) fl fb ((rs.length : Int) + 1) (C.set (rs.length : Int).toNat 0) G P B tl)) rfl rfl rfl (Nat.le_of_ble_eq_true rfl) rfl rfl rfl ?_
      refine ik_Wk 1 (pc' := 58) (loc' := [some (.ref 1), some (fI (rs.length : Int)), some (fI (zS y n cur))]) (st' := [.ref 1]) (h' := (c0 :: cz_t T n ((zS y n cur) + 6) fl fb ((rs.length : Int) + 1) (C.set (rs.length : Int).toNat 0) G P B tl)) (cl' := 0) (sl' := 0) rfl ?_
      refine fw_call 61 1 0 [.ref 1] [] rfl rfl rfl (by decide) rfl rfl (fw_rec (cz_len htl) rfl rfl rfl (by decide)) (cz_end ok (by omega) (by omega)) ?_
      rintro rv h' (⟨he, rfl, cf, hf0, hf1, rfl⟩ | ⟨he, rfl, cf, hf0, hf1, rfl⟩)
      · refine ik_Wk 0 (pc' := 61) (loc' := [some (.ref 1), some (fI (rs.length : Int)), some (fI (zS y n cur))]) (st' := [fI 1]) (h' := (c0 :: cz_t T n cf fl fb ((rs.length : Int) + 1) (C.set (rs.length : Int).toNat 0) G P B tl)) (cl' := 0) (sl' := 0) rfl ?_
        have hwz := hw1
        rw [zps, if_pos hwz, if_pos he]
        exact ik_Wret rfl rfl ⟨_, _, rfl, rfl, rfl, rfl, ⟨rfl, cf, _, G, P, B, hl4, hG, hP, hB, hf0, hf1, rfl, zH_c0 hH (by omega), by rw [Int.toNat_natCast, fz_getD_set, if_pos ⟨rfl, by omega⟩], hrs⟩⟩
      · refine ik_Wk 0 (pc' := 61) (loc' := [some (.ref 1), some (fI (rs.length : Int)), some (fI (zS y n cur))]) (st' := [fI 0]) (h' := (c0 :: cz_t T n cf ((zend y n ((zS y n cur) + 6)).1) ((zend y n ((zS y n cur) + 6)).2) ((rs.length : Int) + 1) (C.set (rs.length : Int).toNat 0) G P B tl)) (cl' := 0) (sl' := 0) rfl ?_
        have hwz := hw1
        rw [zps, if_pos hwz, if_neg he]
        exact ik_Wret rfl rfl ⟨_, _, rfl, rfl, rfl, rfl, ⟨rfl, cf, _, _, G, P, B, hl4, hG, hP, hB, hf0, hf1, rfl⟩⟩
    · refine ik_Wk 0 (pc' := 40) (loc' := [some (.ref 1), some (fI (rs.length : Int)), some (fI (zS y n cur))]) (st' := [fI 0]) (h' := (c0 :: cz_t T n (zS y n cur) fl fb pl C G P B tl)) (cl' := 0) (sl' := 0) rfl ?_
      refine fw_if_eq rfl rfl (by omega) (by omega) (fun hc5 => ?_) (fun hc5 => absurd hc5 (by omega))
      refine ik_Wk 2 (pc' := 65) (loc' := [some (.ref 1), some (fI (rs.length : Int)), some (fI (zS y n cur))]) (st' := [.retAddr 3, .ref 1]) (h' := (c0 :: cz_t T n (zS y n cur) fl fb pl C G P B tl)) (cl' := 0) (sl' := 0) rfl ?_
      refine fw_call 64 2 0 [.ref 1, .retAddr 3] [] rfl rfl rfl (by decide) rfl rfl (fw_rec (cz_len htl) rfl rfl rfl (by decide)) (cz_rw1 ok (by omega) (by omega)) ?_
      rintro rv h' (⟨hw6, rfl, rfl⟩ | ⟨hw6, rfl, rfl⟩)
      · have hz7 : (zS y n cur) + 5 ≤ n := by have q := hw6; unfold zpl at q; have := of_decide_eq_true q; have := zE_le (y := y) (n := n) (i := zS y n cur) (by omega); omega
        refine ik_Wk 0 (pc' := 68) (loc' := [some (.ref 1), some (fI (rs.length : Int)), some (fI (zS y n cur))]) (st' := [fI 1]) (h' := (c0 :: cz_t T n ((zS y n cur) + 5) fl fb pl C G P B tl)) (cl' := 0) (sl' := 0) rfl ?_
        refine fw_if_ne rfl rfl (by omega) (by omega) (fun hc8 => absurd hc8 (by omega)) (fun hc8 => ?_)
        refine ik_Wk 1 (pc' := 79) (loc' := [some (.ref 1), some (fI (rs.length : Int)), some (fI (zS y n cur))]) (st' := [fI (rs.length : Int)]) (h' := (c0 :: cz_t T n ((zS y n cur) + 5) fl fb pl C G P B tl)) (cl' := 0) (sl' := 0) rfl ?_
        refine fw_bi rfl (by decide) ?_
        refine fw_ic_ne rfl rfl (by omega) (by omega) (by omega) (by omega) (fun hc9 => ?_) (fun hc9 => ?_)
        · refine ik_Wk 3 (pc' := 87) (loc' := [some (.ref 1), some (fI (rs.length : Int)), some (fI (zS y n cur))]) (st' := [fI (zS y n cur), fI 3, .ref 1]) (h' := (c0 :: cz_t T n ((zS y n cur) + 5) fl fb pl C G P B tl)) (cl' := 0) (sl' := 0) rfl ?_
          refine fw_call 67 3 0 [.ref 1, fI 3, fI (zS y n cur)] [] rfl rfl rfl (by decide) rfl rfl (fw_rec (cz_len htl) rfl rfl rfl (by decide)) (cz_refuse ok) ?_
          rintro rv h' ⟨rfl, rfl⟩
          refine ik_Wk 0 (pc' := 90) (loc' := [some (.ref 1), some (fI (rs.length : Int)), some (fI (zS y n cur))]) (st' := [fI 0]) (h' := (c0 :: cz_t T n ((zS y n cur) + 5) 3 (zS y n cur) pl C G P B tl)) (cl' := 0) (sl' := 0) rfl ?_
          have hwz := hw6
          have hbz := hw1
          rw [zps, if_neg (by rw [hbz]; decide), if_pos hwz, if_pos (by omega)]
          exact ik_Wret rfl rfl ⟨_, _, rfl, rfl, rfl, rfl, ⟨rfl, _, _, C, G, P, B, hC, hG, hP, hB, by omega, by omega, rfl⟩⟩
        · refine ik_Wk 2 (pc' := 93) (loc' := [some (.ref 1), some (fI (rs.length : Int)), some (fI (zS y n cur))]) (st' := [fI (rs.length : Int), .ref 1]) (h' := (c0 :: cz_t T n ((zS y n cur) + 5) fl fb pl C G P B tl)) (cl' := 0) (sl' := 0) rfl ?_
          refine fw_call 58 2 0 [.ref 1, fI (rs.length : Int)] [] rfl rfl rfl (by decide) rfl rfl (fw_rec (cz_len htl) rfl rfl rfl (by decide)) (cz_mv ok hC hG hP hB (by omega) (by omega) (by omega) (by omega)) ?_
          intro rv h' hR
          rcases hm : zmv y n 5 [] 0 ((zS y n cur) + 5) with e | q
          · rw [hm] at hR
            obtain ⟨rfl, cf, C', G', P', B', hC', hG', hP', hB', hf0, hf1, rfl⟩ := hR
            refine ik_Wk 0 (pc' := 96) (loc' := [some (.ref 1), some (fI (rs.length : Int)), some (fI (zS y n cur))]) (st' := [fI 0]) (h' := (c0 :: cz_t T n cf e.1 e.2 pl C' G' P' B' tl)) (cl' := 0) (sl' := 0) rfl ?_
            refine fw_if_ne rfl rfl (by omega) (by omega) (fun hc10 => ?_) (fun hc10 => absurd hc10 (by omega))
            refine ik_Wk 1 (pc' := 100) (loc' := [some (.ref 1), some (fI (rs.length : Int)), some (fI (zS y n cur))]) (st' := [fI 0]) (h' := (c0 :: cz_t T n cf e.1 e.2 pl C' G' P' B' tl)) (cl' := 0) (sl' := 0) rfl ?_
            have hwz := hw6
            have hbz := hw1
            rw [zps, if_neg (by rw [hbz]; decide), if_pos hwz, if_neg (by omega), hm]
            exact ik_Wret rfl rfl ⟨_, _, rfl, rfl, rfl, rfl, ⟨rfl, cf, _, C', G', P', B', hC', hG', hP', hB', hf0, hf1, rfl⟩⟩
          · rw [hm] at hR
            obtain ⟨rfl, C', G', P', B', hC', hG', hP', hB', hf0, hf1, rfl, hcs, hzr, ag, ap, ab, hrr, hrl4⟩ := hR
            refine ik_Wk 0 (pc' := 96) (loc' := [some (.ref 1), some (fI (rs.length : Int)), some (fI (zS y n cur))]) (st' := [fI 1]) (h' := (c0 :: cz_t T n q.2 fl fb pl C' G' P' B' tl)) (cl' := 0) (sl' := 0) rfl ?_
            refine fw_if_ne rfl rfl (by omega) (by omega) (fun hc11 => absurd hc11 (by omega)) (fun hc11 => ?_)
            refine fw_inc (a := (rs.length : Int)) (loc' := [some (.ref 1), some (fI ((rs.length : Int) + 1)), some (fI (zS y n cur))]) rfl rfl (Nat.le_of_ble_eq_true rfl) rfl ?_
            refine ik_Wk 2 (pc' := 20) (loc' := [some (.ref 1), some (fI ((rs.length : Int) + 1)), some (fI (zS y n cur))]) (st' := [fI ((rs.length : Int) + 1)]) (h' := (c0 :: cz_t T n q.2 fl fb pl C' G' P' B' tl)) (cl' := 0) (sl' := 0) rfl ?_
            refine fw_bi rfl (by decide) ?_
            refine fw_ic_ge rfl rfl (by omega) (by omega) (by omega) (by omega) (fun hc12 => absurd hc12 (by omega)) (fun hc12 => ?_)
            refine ik_Wk 1 (pc' := 26) (loc' := [some (.ref 1), some (fI ((rs.length : Int) + 1)), some (fI (zS y n cur))]) (st' := [.ref 1]) (h' := (c0 :: cz_t T n q.2 fl fb pl C' G' P' B' tl)) (cl' := 0) (sl' := 0) rfl ?_
            refine fw_call 66 1 0 [.ref 1] [] rfl rfl rfl (by decide) rfl rfl (fw_rec (cz_len htl) rfl rfl rfl (by decide)) (cz_skip ok (by omega) (by omega)) ?_
            rintro rv h' ⟨rfl, rfl⟩
            have hz13 := zS_ge (y := y) (n := n) q.2
            have hz14 := zS_le (y := y) (n := n) (i := q.2) (by omega)
            refine ik_Wk 0 (pc' := 29) (loc' := [some (.ref 1), some (fI ((rs.length : Int) + 1)), some (fI (zS y n cur))]) (st' := []) (h' := (c0 :: cz_t T n (zS y n q.2) fl fb pl C' G' P' B' tl)) (cl' := 0) (sl' := 0) rfl ?_
            refine ik_Wk 1 (pc' := 30) (loc' := [some (.ref 1), some (fI ((rs.length : Int) + 1)), some (fI (zS y n cur))]) (st' := [.ref 1]) (h' := (c0 :: cz_t T n (zS y n q.2) fl fb pl C' G' P' B' tl)) (cl' := 0) (sl' := 0) rfl ?_
            refine fw_gf rfl rfl rfl rfl ?_
            refine ik_Wk 1 (pc' := 34) (loc' := [some (.ref 1), some (fI ((rs.length : Int) + 1)), some (fI (zS y n q.2))]) (st' := []) (h' := (c0 :: cz_t T n (zS y n q.2) fl fb pl C' G' P' B' tl)) (cl' := 0) (sl' := 0) rfl ?_
            obtain ⟨k', rfl⟩ : ∃ k', k = k' + 1 := ⟨k - 1, by omega⟩
            have hwz := hw6
            have hbz := hw1
            have e2 : ((rs ++ [q.1]).length : Int) = (rs.length : Int) + 1 := by rw [List.length_append]; rfl
            rw [zps, if_neg (by rw [hbz]; decide), if_pos hwz, if_neg (by omega), hm, ← e2]
            rw [Int.toNat_natCast] at hcs hzr ag ap ab
            exact ih k' (by omega) (rs ++ [q.1]) q.2 C' G' P' B' (by rw [List.length_append]; simp only [List.length_cons, List.length_nil]; omega) hC' hG' hP' hB' (zH_snoc hH rfl (by omega) hcs hrl4 hzr ag ap ab) (zrows_snoc hrs (by omega) hrr) hf0 hf1
      · refine ik_Wk 0 (pc' := 68) (loc' := [some (.ref 1), some (fI (rs.length : Int)), some (fI (zS y n cur))]) (st' := [fI 0]) (h' := (c0 :: cz_t T n (zS y n cur) fl fb pl C G P B tl)) (cl' := 0) (sl' := 0) rfl ?_
        refine fw_if_ne rfl rfl (by omega) (by omega) (fun hc15 => ?_) (fun hc15 => absurd hc15 (by omega))
        refine ik_Wk 3 (pc' := 74) (loc' := [some (.ref 1), some (fI (rs.length : Int)), some (fI (zS y n cur))]) (st' := [fI (zS y n cur), fI 1, .ref 1]) (h' := (c0 :: cz_t T n (zS y n cur) fl fb pl C G P B tl)) (cl' := 0) (sl' := 0) rfl ?_
        refine fw_call 67 3 0 [.ref 1, fI 1, fI (zS y n cur)] [] rfl rfl rfl (by decide) rfl rfl (fw_rec (cz_len htl) rfl rfl rfl (by decide)) (cz_refuse ok) ?_
        rintro rv h' ⟨rfl, rfl⟩
        refine ik_Wk 0 (pc' := 77) (loc' := [some (.ref 1), some (fI (rs.length : Int)), some (fI (zS y n cur))]) (st' := [fI 0]) (h' := (c0 :: cz_t T n (zS y n cur) 1 (zS y n cur) pl C G P B tl)) (cl' := 0) (sl' := 0) rfl ?_
        have hwz := hw6
        have hbz := hw1
        rw [zps, if_neg (by rw [hbz]; decide), if_neg (by rw [hwz]; decide)]
        exact ik_Wret rfl rfl ⟨_, _, rfl, rfl, rfl, rfl, ⟨rfl, _, _, C, G, P, B, hC, hG, hP, hB, by omega, by omega, rfl⟩⟩

theorem cz_ps {c0 : ik_E} {tl : List ik_E} {y : Int → Int} {T : List Int} {n fl fb pl : Int} {C G P B : List Int} (ok : cz_ok y T n tl) {cur : Int} (hC : C.length = 12) (hG : G.length = 48) (hP : P.length = 48) (hB : B.length = 48) (h0 : 0 ≤ cur) (h1 : cur ≤ n) : ik_F 57 [.ref 1] (c0 :: cz_t T n cur fl fb pl C G P B tl) (fun rv h' => (¬ zS y n cur < n ∧ rv = [fI 1] ∧ h' = (c0 :: cz_t T n (zS y n cur) fl fb pl C G P B tl)) ∨ (zS y n cur < n ∧ cz_RP c0 tl T n fl fb (zps y n 12 [] (zS y n cur)) rv h')) := by
  have ok' := ok
  obtain ⟨htl, hT, bT, hn, hn2, hy⟩ := ok'
  refine ik_Wk 1 (pc' := 1) (loc' := [some (.ref 1), none, none]) (st' := [.ref 1]) (h' := (c0 :: cz_t T n cur fl fb pl C G P B tl)) (cl' := 0) (sl' := 0) rfl ?_
  refine fw_call 66 1 0 [.ref 1] [] rfl rfl rfl (by decide) rfl rfl (fw_rec (cz_len htl) rfl rfl rfl (by decide)) (cz_skip ok (by omega) (by omega)) ?_
  rintro rv h' ⟨rfl, rfl⟩
  have hz1 := zS_ge (y := y) (n := n) cur
  have hz2 := zS_le (y := y) (n := n) (i := cur) (by omega)
  refine ik_Wk 0 (pc' := 4) (loc' := [some (.ref 1), none, none]) (st' := []) (h' := (c0 :: cz_t T n (zS y n cur) fl fb pl C G P B tl)) (cl' := 0) (sl' := 0) rfl ?_
  refine ik_Wk 1 (pc' := 5) (loc' := [some (.ref 1), none, none]) (st' := [.ref 1]) (h' := (c0 :: cz_t T n (zS y n cur) fl fb pl C G P B tl)) (cl' := 0) (sl' := 0) rfl ?_
  refine fw_gf rfl rfl rfl rfl ?_
  refine ik_Wk 1 (pc' := 9) (loc' := [some (.ref 1), none, none]) (st' := [.ref 1, fI (zS y n cur)]) (h' := (c0 :: cz_t T n (zS y n cur) fl fb pl C G P B tl)) (cl' := 0) (sl' := 0) rfl ?_
  refine fw_gf rfl rfl rfl rfl ?_
  refine fw_ic_lt rfl rfl (by omega) (by omega) (by omega) (by omega) (fun hc3 => ?_) (fun hc3 => ?_)
  · refine ik_Wk 3 (pc' := 20) (loc' := [some (.ref 1), some (fI 0), none]) (st' := [fI 0]) (h' := (c0 :: cz_t T n (zS y n cur) fl fb pl C G P B tl)) (cl' := 0) (sl' := 0) rfl ?_
    refine fw_bi rfl (by decide) ?_
    refine fw_ic_ge rfl rfl (by omega) (by omega) (by omega) (by omega) (fun hc4 => absurd hc4 (by omega)) (fun hc4 => ?_)
    refine ik_Wk 1 (pc' := 26) (loc' := [some (.ref 1), some (fI 0), none]) (st' := [.ref 1]) (h' := (c0 :: cz_t T n (zS y n cur) fl fb pl C G P B tl)) (cl' := 0) (sl' := 0) rfl ?_
    refine fw_call 66 1 0 [.ref 1] [] rfl rfl rfl (by decide) rfl rfl (fw_rec (cz_len htl) rfl rfl rfl (by decide)) (cz_skip ok (by omega) (by omega)) ?_
    rintro rv h' ⟨rfl, rfl⟩
    have hz5 := zS_ge (y := y) (n := n) (zS y n cur)
    have hz6 := zS_le (y := y) (n := n) (i := zS y n cur) (by omega)
    refine ik_Wk 0 (pc' := 29) (loc' := [some (.ref 1), some (fI 0), none]) (st' := []) (h' := (c0 :: cz_t T n (zS y n (zS y n cur)) fl fb pl C G P B tl)) (cl' := 0) (sl' := 0) rfl ?_
    refine ik_Wk 1 (pc' := 30) (loc' := [some (.ref 1), some (fI 0), none]) (st' := [.ref 1]) (h' := (c0 :: cz_t T n (zS y n (zS y n cur)) fl fb pl C G P B tl)) (cl' := 0) (sl' := 0) rfl ?_
    refine fw_gf rfl rfl rfl rfl ?_
    refine ik_Wk 1 (pc' := 34) (loc' := [some (.ref 1), some (fI 0), some (fI (zS y n (zS y n cur)))]) (st' := []) (h' := (c0 :: cz_t T n (zS y n (zS y n cur)) fl fb pl C G P B tl)) (cl' := 0) (sl' := 0) rfl ?_
    refine ik_Wmono (cz_psL ok 11 [] (zS y n cur) C G P B rfl hC hG hP hB zH_nil zrows_nil (by omega) (by omega)) ?_
    rintro z ⟨ir, rv, z1, z2, z3, z4, z5⟩
    exact ⟨ir, rv, z1, z2, z3, z4, Or.inr ⟨by omega, z5⟩⟩
  · refine ik_Wk 1 (pc' := 16) (loc' := [some (.ref 1), none, none]) (st' := [fI 1]) (h' := (c0 :: cz_t T n (zS y n cur) fl fb pl C G P B tl)) (cl' := 0) (sl' := 0) rfl ?_
    exact ik_Wret rfl rfl ⟨_, _, rfl, rfl, rfl, rfl, (Or.inl ⟨by omega, rfl, rfl⟩)⟩

def cz_RT (c0 : ik_E) (tl : List ik_E) (T : List Int) (res : (Int × Int) ⊕ (Int × List (List zM))) (rv : List Value) (h' : List ik_E) : Prop := match res with
  | .inl e => rv = [fI e.1] ∧ ∃ (cur' pl' : Int) (C' G' P' B' : List Int), C'.length = 12 ∧ G'.length = 48 ∧ P'.length = 48 ∧ B'.length = 48 ∧ h' = c0 :: cz_t T 0 cur' e.1 e.2 pl' C' G' P' B' tl
  | .inr q => rv = [fI 0] ∧ ∃ (cur' : Int) (C' G' P' B' : List Int), C'.length = 12 ∧ G'.length = 48 ∧ P'.length = 48 ∧ B'.length = 48 ∧ h' = c0 :: cz_t T 0 cur' 0 (-1) q.1 C' G' P' B' tl ∧ zH C' G' P' B' q.2 ∧ zrows q.2 ∧ (q.1 = 0 ∧ q.2 = [] ∨ q.1 = (q.2.length : Int) + 1 ∧ C'.getD q.2.length 0 = 0)

theorem cz_ck0 {c0 : ik_E} {tl : List ik_E} {y : Int → Int} {T : List Int} {n fl fb : Int} {C G P B : List Int} (ok : cz_ok y T n tl) {cur : Int} : ik_F 62 [.ref 1] (c0 :: cz_t T n cur fl fb 0 C G P B tl) (fun rv h' => rv = [] ∧ h' = (c0 :: cz_t T n cur fl fb 0 C G P B tl)) := by
  have ok' := ok
  obtain ⟨htl, hT, bT, hn, hn2, hy⟩ := ok'
  refine ik_Wk 4 (pc' := 4) (loc' := [some (.ref 1), some (fI 0), none]) (st' := [.ref 1, fI 0]) (h' := (c0 :: cz_t T n cur fl fb 0 C G P B tl)) (cl' := 0) (sl' := 0) rfl ?_
  refine fw_gf rfl rfl rfl rfl ?_
  refine fw_ic_ge rfl rfl (by omega) (by omega) (by omega) (by omega) (fun hc1 => ?_) (fun hc1 => absurd hc1 (by omega))
  exact ik_Wret rfl rfl ⟨_, _, rfl, rfl, rfl, rfl, ⟨rfl, rfl⟩⟩

theorem cz_text {c0 : ik_E} {tl : List ik_E} {y : Int → Int} {T : List Int} {n fl fb pl : Int} {C G P B : List Int} (ok : cz_ok y T n tl) {cur : Int} (hC : C.length = 12) (hG : G.length = 48) (hP : P.length = 48) (hB : B.length = 48) : ik_F 56 [.ref 1] (c0 :: cz_t T n cur fl fb pl C G P B tl) (cz_RT c0 tl T (zall y n)) := by
  have ok' := ok
  obtain ⟨htl, hT, bT, hn, hn2, hy⟩ := ok'
  refine ik_Wk 2 (pc' := 2) (loc' := [some (.ref 1)]) (st' := [fI 0, .ref 1]) (h' := (c0 :: cz_t T n cur fl fb pl C G P B tl)) (cl' := 0) (sl' := 0) rfl ?_
  refine fw_pf (h' := (c0 :: cz_t T n 0 fl fb pl C G P B tl)) rfl rfl rfl (Nat.le_of_ble_eq_true rfl) rfl rfl rfl ?_
  refine ik_Wk 2 (pc' := 7) (loc' := [some (.ref 1)]) (st' := [fI 0, .ref 1]) (h' := (c0 :: cz_t T n 0 fl fb pl C G P B tl)) (cl' := 0) (sl' := 0) rfl ?_
  refine fw_pf (h' := (c0 :: cz_t T n 0 0 fb pl C G P B tl)) rfl rfl rfl (Nat.le_of_ble_eq_true rfl) rfl rfl rfl ?_
  refine ik_Wk 2 (pc' := 12) (loc' := [some (.ref 1)]) (st' := [fI (-1), .ref 1]) (h' := (c0 :: cz_t T n 0 0 fb pl C G P B tl)) (cl' := 0) (sl' := 0) rfl ?_
  refine fw_pf (h' := (c0 :: cz_t T n 0 0 (-1) pl C G P B tl)) rfl rfl rfl (Nat.le_of_ble_eq_true rfl) rfl rfl rfl ?_
  refine ik_Wk 2 (pc' := 17) (loc' := [some (.ref 1)]) (st' := [fI 0, .ref 1]) (h' := (c0 :: cz_t T n 0 0 (-1) pl C G P B tl)) (cl' := 0) (sl' := 0) rfl ?_
  refine fw_pf (h' := (c0 :: cz_t T n 0 0 (-1) 0 C G P B tl)) rfl rfl rfl (Nat.le_of_ble_eq_true rfl) rfl rfl rfl ?_
  refine ik_Wk 1 (pc' := 21) (loc' := [some (.ref 1)]) (st' := [.ref 1]) (h' := (c0 :: cz_t T n 0 0 (-1) 0 C G P B tl)) (cl' := 0) (sl' := 0) rfl ?_
  refine fw_call 57 1 0 [.ref 1] [] rfl rfl rfl (by decide) rfl rfl (fw_rec (cz_len htl) rfl rfl rfl (by decide)) (cz_ps ok hC hG hP hB (by omega) (by omega)) ?_
  rintro rv h' (⟨hs, rfl, rfl⟩ | ⟨hs, hR⟩)
  · have hall : zall y n = .inr (0, []) := by unfold zall; rw [if_neg hs]
    rw [hall]
    have hP0 := hP
    refine ik_Wk 0 (pc' := 24) (loc' := [some (.ref 1)]) (st' := [fI 1]) (h' := (c0 :: cz_t T n (zS y n 0) 0 (-1) 0 C G P B tl)) (cl' := 0) (sl' := 0) rfl ?_
    refine fw_if_eq rfl rfl (by omega) (by omega) (fun hc1 => absurd hc1 (by omega)) (fun hc1 => ?_)
    refine ik_Wk 1 (pc' := 28) (loc' := [some (.ref 1)]) (st' := [.ref 1]) (h' := (c0 :: cz_t T n (zS y n 0) 0 (-1) 0 C G P B tl)) (cl' := 0) (sl' := 0) rfl ?_
    refine fw_call 62 1 0 [.ref 1] [] rfl rfl rfl (by decide) rfl rfl (fw_rec (cz_len htl) rfl rfl rfl (by decide)) (cz_ck0 ok) ?_
    rintro rv h' ⟨rfl, rfl⟩
    refine ik_Wk 0 (pc' := 31) (loc' := [some (.ref 1)]) (st' := []) (h' := (c0 :: cz_t T n (zS y n 0) 0 (-1) 0 C G P B tl)) (cl' := 0) (sl' := 0) rfl ?_
    refine ik_Wk 2 (pc' := 33) (loc' := [some (.ref 1)]) (st' := [fI 0, .ref 1]) (h' := (c0 :: cz_t T n (zS y n 0) 0 (-1) 0 C G P B tl)) (cl' := 0) (sl' := 0) rfl ?_
    refine fw_pf (h' := (c0 :: cz_t T 0 (zS y n 0) 0 (-1) 0 C G P B tl)) rfl rfl rfl (Nat.le_of_ble_eq_true rfl) rfl rfl rfl ?_
    refine ik_Wk 1 (pc' := 37) (loc' := [some (.ref 1)]) (st' := [.ref 1]) (h' := (c0 :: cz_t T 0 (zS y n 0) 0 (-1) 0 C G P B tl)) (cl' := 0) (sl' := 0) rfl ?_
    refine fw_gf rfl rfl rfl rfl ?_
    exact ik_Wret rfl rfl ⟨_, _, rfl, rfl, rfl, rfl, ⟨rfl, _, C, G, P, B, hC, hG, hP, hB, rfl, zH_nil, zrows_nil, Or.inl ⟨rfl, rfl⟩⟩⟩
  · rcases hm : zps y n 12 [] (zS y n 0) with e | rs
    · rw [hm] at hR
      obtain ⟨rfl, cf, pf, C', G', P', B', hC', hG', hP', hB', hf0, hf1, rfl⟩ := hR
      have hall : zall y n = .inl e := by unfold zall; rw [if_pos hs, hm]
      rw [hall]
      refine ik_Wk 0 (pc' := 24) (loc' := [some (.ref 1)]) (st' := [fI 0]) (h' := (c0 :: cz_t T n cf e.1 e.2 pf C' G' P' B' tl)) (cl' := 0) (sl' := 0) rfl ?_
      refine fw_if_eq rfl rfl (by omega) (by omega) (fun hc2 => ?_) (fun hc2 => absurd hc2 (by omega))
      refine ik_Wk 2 (pc' := 33) (loc' := [some (.ref 1)]) (st' := [fI 0, .ref 1]) (h' := (c0 :: cz_t T n cf e.1 e.2 pf C' G' P' B' tl)) (cl' := 0) (sl' := 0) rfl ?_
      refine fw_pf (h' := (c0 :: cz_t T 0 cf e.1 e.2 pf C' G' P' B' tl)) rfl rfl rfl (Nat.le_of_ble_eq_true rfl) rfl rfl rfl ?_
      refine ik_Wk 1 (pc' := 37) (loc' := [some (.ref 1)]) (st' := [.ref 1]) (h' := (c0 :: cz_t T 0 cf e.1 e.2 pf C' G' P' B' tl)) (cl' := 0) (sl' := 0) rfl ?_
      refine fw_gf rfl rfl rfl rfl ?_
      exact ik_Wret rfl rfl ⟨_, _, rfl, rfl, rfl, rfl, ⟨rfl, cf, pf, C', G', P', B', hC', hG', hP', hB', rfl⟩⟩
    · rw [hm] at hR
      obtain ⟨rfl, cf, C', G', P', B', hC', hG', hP', hB', hf0, hf1, rfl, hH, hbr, hrs⟩ := hR
      refine ik_Wk 0 (pc' := 24) (loc' := [some (.ref 1)]) (st' := [fI 1]) (h' := (c0 :: cz_t T n cf 0 (-1) ((rs.length : Int) + 1) C' G' P' B' tl)) (cl' := 0) (sl' := 0) rfl ?_
      refine fw_if_eq rfl rfl (by omega) (by omega) (fun hc3 => absurd hc3 (by omega)) (fun hc3 => ?_)
      refine ik_Wk 1 (pc' := 28) (loc' := [some (.ref 1)]) (st' := [.ref 1]) (h' := (c0 :: cz_t T n cf 0 (-1) ((rs.length : Int) + 1) C' G' P' B' tl)) (cl' := 0) (sl' := 0) rfl ?_
      refine fw_call 62 1 0 [.ref 1] [] rfl rfl rfl (by decide) rfl rfl (fw_rec (cz_len htl) rfl rfl rfl (by decide)) (cz_ck ok hC' hG' hP' hB' hH hrs hbr) ?_
      rintro rv h' ⟨rfl, ⟨m, hk, rfl⟩ | ⟨hk, rfl⟩⟩
      · have hall : zall y n = .inl (6, m.2.2) := by unfold zall; rw [if_pos hs, hm]; dsimp only; rw [hk]
        rw [hall]
        refine ik_Wk 0 (pc' := 31) (loc' := [some (.ref 1)]) (st' := []) (h' := (c0 :: cz_t T n cf 6 m.2.2 ((rs.length : Int) + 1) C' G' P' B' tl)) (cl' := 0) (sl' := 0) rfl ?_
        refine ik_Wk 2 (pc' := 33) (loc' := [some (.ref 1)]) (st' := [fI 0, .ref 1]) (h' := (c0 :: cz_t T n cf 6 m.2.2 ((rs.length : Int) + 1) C' G' P' B' tl)) (cl' := 0) (sl' := 0) rfl ?_
        refine fw_pf (h' := (c0 :: cz_t T 0 cf 6 m.2.2 ((rs.length : Int) + 1) C' G' P' B' tl)) rfl rfl rfl (Nat.le_of_ble_eq_true rfl) rfl rfl rfl ?_
        refine ik_Wk 1 (pc' := 37) (loc' := [some (.ref 1)]) (st' := [.ref 1]) (h' := (c0 :: cz_t T 0 cf 6 m.2.2 ((rs.length : Int) + 1) C' G' P' B' tl)) (cl' := 0) (sl' := 0) rfl ?_
        refine fw_gf rfl rfl rfl rfl ?_
        exact ik_Wret rfl rfl ⟨_, _, rfl, rfl, rfl, rfl, ⟨rfl, cf, _, C', G', P', B', hC', hG', hP', hB', rfl⟩⟩
      · have hall : zall y n = .inr ((rs.length : Int) + 1, rs) := by unfold zall; rw [if_pos hs, hm]; dsimp only; rw [hk]
        rw [hall]
        refine ik_Wk 0 (pc' := 31) (loc' := [some (.ref 1)]) (st' := []) (h' := (c0 :: cz_t T n cf 0 (-1) ((rs.length : Int) + 1) C' G' P' B' tl)) (cl' := 0) (sl' := 0) rfl ?_
        refine ik_Wk 2 (pc' := 33) (loc' := [some (.ref 1)]) (st' := [fI 0, .ref 1]) (h' := (c0 :: cz_t T n cf 0 (-1) ((rs.length : Int) + 1) C' G' P' B' tl)) (cl' := 0) (sl' := 0) rfl ?_
        refine fw_pf (h' := (c0 :: cz_t T 0 cf 0 (-1) ((rs.length : Int) + 1) C' G' P' B' tl)) rfl rfl rfl (Nat.le_of_ble_eq_true rfl) rfl rfl rfl ?_
        refine ik_Wk 1 (pc' := 37) (loc' := [some (.ref 1)]) (st' := [.ref 1]) (h' := (c0 :: cz_t T 0 cf 0 (-1) ((rs.length : Int) + 1) C' G' P' B' tl)) (cl' := 0) (sl' := 0) rfl ?_
        refine fw_gf rfl rfl rfl rfl ?_
        exact ik_Wret rfl rfl ⟨_, _, rfl, rfl, rfl, rfl, ⟨rfl, cf, C', G', P', B', hC', hG', hP', hB', rfl, hH, hrs, Or.inr ⟨rfl, hbr⟩⟩⟩
