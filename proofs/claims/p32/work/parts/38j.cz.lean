def zrow (r : List zM) : Prop := ∀ m, m ∈ r → 0 ≤ m.1 ∧ m.1 ≤ 11 ∧ 1 ≤ m.2.1 ∧ m.2.1 ≤ 100 ∧ 0 ≤ m.2.2 ∧ m.2.2 ≤ 500
/-- rows that are alike ahead of k -/
def zag (k : Nat) (G G' : List Int) : Prop := ∀ j, j < k → G'.getD j 0 = G.getD j 0
theorem zag_set {k j : Nat} {G G' : List Int} {a : Int} (h : zag k G G') (hj : k ≤ j) : zag k G (G'.set j a) := by
  intro i hi
  rw [fz_getD_set, if_neg (by omega)]
  exact h i hi
theorem zh_snoc {G P B : List Int} {q j : Nat} {r : List zM} {a b c : Int} (h : zh G P B q r) (hj : j = 4 * q + r.length) (hG : j < G.length) (hP : j < P.length) (hB : j < B.length) : zh (G.set j a) (P.set j b) (B.set j c) q (r ++ [(a, b, c)]) := by
  intro i m hm
  by_cases hi : i < r.length
  · rw [List.getElem?_append_left hi] at hm
    have := h i m hm
    rw [fz_getD_set, fz_getD_set, fz_getD_set, if_neg (by omega), if_neg (by omega), if_neg (by omega)]
    exact this
  · have hi2 : i < (r ++ [(a, b, c)]).length := by
      rcases Nat.lt_or_ge i (r ++ [(a, b, c)]).length with q | q
      · exact q
      · rw [List.getElem?_eq_none q] at hm; cases hm
    have e : i = r.length := by rw [List.length_append] at hi2; simp only [List.length_cons, List.length_nil] at hi2; omega
    subst e
    rw [List.getElem?_append_right (Nat.le_refl _), Nat.sub_self] at hm
    cases hm
    rw [fz_getD_set, fz_getD_set, fz_getD_set, if_pos ⟨hj.symm, hG⟩, if_pos ⟨hj.symm, hP⟩, if_pos ⟨hj.symm, hB⟩]
    exact ⟨rfl, rfl, rfl⟩
theorem zh_hz {G P B : List Int} {p : Int} {r : List zM} (hp : 0 ≤ p) (h : zh G P B p.toNat r) (hr : zrow r) : ∀ k : Int, 0 ≤ k → k < (r.length : Int) → G.getD (p * 4 + k).toNat 0 = (r.getD k.toNat (0, 0, 0)).1 ∧ 0 ≤ (r.getD k.toNat (0, 0, 0)).1 ∧ (r.getD k.toNat (0, 0, 0)).1 ≤ 11 := by
  intro k h0 h1
  have hk : k.toNat < r.length := by omega
  have e : (p * 4 + k).toNat = 4 * p.toNat + k.toNat := by omega
  rw [e, List.getD_eq_getElem?_getD, List.getD_eq_getElem?_getD (l := r), List.getElem?_eq_getElem hk, Option.getD_some]
  have h2 := h k.toNat _ (List.getElem?_eq_getElem hk)
  have h3 := hr _ (List.getElem_mem hk)
  rw [List.getD_eq_getElem?_getD] at h2
  exact ⟨h2.1, h3.1, h3.2.1⟩
theorem zrow_snoc {r : List zM} {a b c : Int} (h : zrow r) (hm : 0 ≤ a ∧ a ≤ 11 ∧ 1 ≤ b ∧ b ≤ 100 ∧ 0 ≤ c ∧ c ≤ 500) : zrow (r ++ [(a, b, c)]) := by
  intro x hx
  rcases List.mem_append.mp hx with q | q
  · exact h x q
  · rw [List.mem_singleton.mp q]; exact hm
def cz_RM (c0 : ik_E) (tl : List ik_E) (T : List Int) (n fl fb pl : Int) (C G P B : List Int) (p : Int) (res : (Int × Int) ⊕ (List zM × Int)) (rv : List Value) (h' : List ik_E) : Prop := match res with
  | .inl e => rv = [fI 0] ∧ ∃ (cur' : Int) (C' G' P' B' : List Int), C'.length = 12 ∧ G'.length = 48 ∧ P'.length = 48 ∧ B'.length = 48 ∧ 0 ≤ cur' ∧ cur' ≤ n ∧ h' = c0 :: cz_t T n cur' e.1 e.2 pl C' G' P' B' tl
  | .inr q => rv = [fI 1] ∧ ∃ (C' G' P' B' : List Int), C'.length = 12 ∧ G'.length = 48 ∧ P'.length = 48 ∧ B'.length = 48 ∧ 0 ≤ q.2 ∧ q.2 ≤ n ∧ h' = c0 :: cz_t T n q.2 fl fb pl C' G' P' B' tl ∧ C' = C.set p.toNat (q.1.length : Int) ∧ zh G' P' B' p.toNat q.1 ∧ zag (4 * p.toNat) G G' ∧ zag (4 * p.toNat) P P' ∧ zag (4 * p.toNat) B B' ∧ zrow q.1 ∧ q.1.length ≤ 4

theorem cz_mvL {c0 : ik_E} {tl : List ik_E} {y : Int → Int} {T : List Int} {n fl fb pl : Int} {C G0 P0 B0 : List Int} (ok : cz_ok y T n tl) {p : Int} (hC : C.length = 12) (hp : 0 ≤ p) (hp2 : p ≤ 10) : ∀ (k : Nat) (r : List zM) (sum cur : Int) (G P B : List Int), r.length + k = 4 → G.length = 48 → P.length = 48 → B.length = 48 → zh G P B p.toNat r → zag (4 * p.toNat) G0 G → zag (4 * p.toNat) P0 P → zag (4 * p.toNat) B0 B → zrow r → 0 ≤ sum → sum ≤ 100 → 0 ≤ cur → cur ≤ n → ik_G 58 19 [some (.ref 1), some (fI p), some (fI sum), some (fI (r.length : Int)), some (fI (zS y n cur))] [] (c0 :: cz_t T n (zS y n cur) fl fb pl C G P B tl) (cz_RM c0 tl T n fl fb pl C G0 P0 B0 p (zmv y n (k + 1) r sum cur)) := by
  have ok' := ok
  obtain ⟨htl, hT, bT, hn, hn2, hy⟩ := ok'
  intro k
  induction k using Nat.strongRecOn with
  | _ k ih =>
    intro r sum cur G P B hk hG hP hB hz ag ap ab hr hs0 hs1 h0 h1
    have hz1 := zS_ge (y := y) (n := n) cur
    have hz2 := zS_le (y := y) (n := n) (i := cur) h1
    refine ik_Wk 1 (pc' := 20) (loc' := [some (.ref 1), some (fI p), some (fI sum), some (fI (r.length : Int)), some (fI (zS y n cur))]) (st' := [fI (r.length : Int)]) (h' := (c0 :: cz_t T n (zS y n cur) fl fb pl C G P B tl)) (cl' := 0) (sl' := 0) rfl ?_
    refine fw_if_le rfl rfl (by omega) (by omega) (fun hc1 => ?_) (fun hc1 => ?_)
    · refine ik_Wk 2 (pc' := 74) (loc' := [some (.ref 1), some (fI p), some (fI sum), some (fI (r.length : Int)), some (fI (zS y n cur))]) (st' := [.retAddr 5, .ref 1]) (h' := (c0 :: cz_t T n (zS y n cur) fl fb pl C G P B tl)) (cl' := 0) (sl' := 0) rfl ?_
      refine fw_call 64 2 0 [.ref 1, .retAddr 5] [] rfl rfl rfl (by decide) rfl rfl (fw_rec (cz_len htl) rfl rfl rfl (by decide)) (cz_rw2 ok (by omega) (by omega)) ?_
      rintro rv h' (⟨hw2, rfl, rfl⟩ | ⟨hw2, rfl, rfl⟩)
      · have hz3 : (zS y n cur) + 2 ≤ n := by have q := hw2; unfold zto at q; have := of_decide_eq_true q; have := zE_le (y := y) (n := n) (i := zS y n cur) (by omega); omega
        refine ik_Wk 0 (pc' := 77) (loc' := [some (.ref 1), some (fI p), some (fI sum), some (fI (r.length : Int)), some (fI (zS y n cur))]) (st' := [fI 1]) (h' := (c0 :: cz_t T n ((zS y n cur) + 2) fl fb pl C G P B tl)) (cl' := 0) (sl' := 0) rfl ?_
        refine fw_if_ne rfl rfl (by omega) (by omega) (fun hc4 => absurd hc4 (by omega)) (fun hc4 => ?_)
        refine ik_Wk 2 (pc' := 90) (loc' := [some (.ref 1), some (fI p), some (fI sum), some (fI (r.length : Int)), some (fI (zS y n cur))]) (st' := [fI 4, fI (r.length : Int)]) (h' := (c0 :: cz_t T n ((zS y n cur) + 2) fl fb pl C G P B tl)) (cl' := 0) (sl' := 0) rfl ?_
        refine fw_ic_ne rfl rfl (by omega) (by omega) (by omega) (by omega) (fun hc5 => ?_) (fun hc5 => ?_)
        · refine ik_Wk 3 (pc' := 97) (loc' := [some (.ref 1), some (fI p), some (fI sum), some (fI (r.length : Int)), some (fI (zS y n cur))]) (st' := [fI (zS y n cur), fI 3, .ref 1]) (h' := (c0 :: cz_t T n ((zS y n cur) + 2) fl fb pl C G P B tl)) (cl' := 0) (sl' := 0) rfl ?_
          refine fw_call 67 3 0 [.ref 1, fI 3, fI (zS y n cur)] [] rfl rfl rfl (by decide) rfl rfl (fw_rec (cz_len htl) rfl rfl rfl (by decide)) (cz_refuse ok) ?_
          rintro rv h' ⟨rfl, rfl⟩
          refine ik_Wk 0 (pc' := 100) (loc' := [some (.ref 1), some (fI p), some (fI sum), some (fI (r.length : Int)), some (fI (zS y n cur))]) (st' := [fI 0]) (h' := (c0 :: cz_t T n ((zS y n cur) + 2) 3 (zS y n cur) pl C G P B tl)) (cl' := 0) (sl' := 0) rfl ?_
          have hwz := hw2
          rw [zmv, if_pos hwz, if_pos (by omega)]
          exact ik_Wret rfl rfl ⟨_, _, rfl, rfl, rfl, rfl, ⟨rfl, _, _, G, P, B, hC, hG, hP, hB, by omega, by omega, rfl⟩⟩
        · refine ik_Wk 3 (pc' := 104) (loc' := [some (.ref 1), some (fI p), some (fI sum), some (fI (r.length : Int)), some (fI (zS y n cur))]) (st' := [fI (r.length : Int), fI p, .ref 1]) (h' := (c0 :: cz_t T n ((zS y n cur) + 2) fl fb pl C G P B tl)) (cl' := 0) (sl' := 0) rfl ?_
          refine fw_call 59 3 0 [.ref 1, fI p, fI (r.length : Int)] [] rfl rfl rfl (by decide) rfl rfl (fw_rec (cz_len htl) rfl rfl rfl (by decide)) (cz_goal (r := r) ok hC hG hP hB hp hp2 rfl (by omega) (zh_hz hp hz hr) (by omega) (by omega)) ?_
          rintro rv h' (⟨hg1, hg2, rfl, rfl⟩ | ⟨f, cf, hf, rfl, hf0, hf1, rfl⟩)
          · have hl1 : (G.set (p * 4 + (r.length : Int)).toNat (zv y n (zS y n (zS y n cur + 2)))).length = 48 := (List.length_set ..).trans hG
            have hl2 : (B.set (p * 4 + (r.length : Int)).toNat (zS y n (zS y n cur + 2))).length = 48 := (List.length_set ..).trans hB
            have hgv := znum0 hg1
            have hg3 := zS_ge (y := y) (n := n) (zS y n cur + 2)
            have hg4 := zS_le (y := y) (n := n) (i := zS y n cur + 2) (by omega)
            have hg5 := zD_ge (y := y) (n := n) (zS y n (zS y n cur + 2))
            have hg6 := zD_le (y := y) (n := n) (i := zS y n (zS y n cur + 2)) (by omega)
            refine ik_Wk 0 (pc' := 107) (loc' := [some (.ref 1), some (fI p), some (fI sum), some (fI (r.length : Int)), some (fI (zS y n cur))]) (st' := [fI 1]) (h' := (c0 :: cz_t T n (zD y n (zS y n (zS y n cur + 2))) fl fb pl C (G.set (p * 4 + (r.length : Int)).toNat (zv y n (zS y n (zS y n cur + 2)))) P (B.set (p * 4 + (r.length : Int)).toNat (zS y n (zS y n cur + 2))) tl)) (cl' := 0) (sl' := 0) rfl ?_
            refine fw_if_eq rfl rfl (by omega) (by omega) (fun hc6 => absurd hc6 (by omega)) (fun hc6 => ?_)
            refine ik_Wk 3 (pc' := 113) (loc' := [some (.ref 1), some (fI p), some (fI sum), some (fI (r.length : Int)), some (fI (zS y n cur))]) (st' := [fI 4, fI p, .ref 1]) (h' := (c0 :: cz_t T n (zD y n (zS y n (zS y n cur + 2))) fl fb pl C (G.set (p * 4 + (r.length : Int)).toNat (zv y n (zS y n (zS y n cur + 2)))) P (B.set (p * 4 + (r.length : Int)).toNat (zS y n (zS y n cur + 2))) tl)) (cl' := 0) (sl' := 0) rfl ?_
            refine fw_mul rfl ?_
            refine ik_Wk 1 (pc' := 115) (loc' := [some (.ref 1), some (fI p), some (fI sum), some (fI (r.length : Int)), some (fI (zS y n cur))]) (st' := [fI (r.length : Int), fI (p * 4), .ref 1]) (h' := (c0 :: cz_t T n (zD y n (zS y n (zS y n cur + 2))) fl fb pl C (G.set (p * 4 + (r.length : Int)).toNat (zv y n (zS y n (zS y n cur + 2)))) P (B.set (p * 4 + (r.length : Int)).toNat (zS y n (zS y n cur + 2))) tl)) (cl' := 0) (sl' := 0) rfl ?_
            refine fw_add rfl ?_
            refine ik_Wk 1 (pc' := 117) (loc' := [some (.ref 1), some (fI p), some (fI sum), some (fI (r.length : Int)), some (fI (zS y n cur))]) (st' := [fI sum, fI ((p * 4) + (r.length : Int)), .ref 1]) (h' := (c0 :: cz_t T n (zD y n (zS y n (zS y n cur + 2))) fl fb pl C (G.set (p * 4 + (r.length : Int)).toNat (zv y n (zS y n (zS y n cur + 2)))) P (B.set (p * 4 + (r.length : Int)).toNat (zS y n (zS y n cur + 2))) tl)) (cl' := 0) (sl' := 0) rfl ?_
            refine fw_call 60 3 0 [.ref 1, fI ((p * 4) + (r.length : Int)), fI sum] [] rfl rfl rfl (by decide) rfl rfl (fw_rec (cz_len htl) rfl rfl rfl (by decide)) (cz_ch ok hC hl1 hP hl2 (by omega) (by omega) (by omega) (by omega) (by omega) (by omega)) ?_
            rintro rv h' (⟨hk1, hk2, rfl, rfl⟩ | ⟨f, cf, P', hf, rfl, hfp, hf0, hf1, rfl⟩)
            · have hl3 : (P.set (p * 4 + (r.length : Int)).toNat (zv y n (zS y n (zD y n (zS y n (zS y n cur + 2)))))).length = 48 := (List.length_set ..).trans hP
              have hkv := znum0 hk1
              have hk3 := zS_ge (y := y) (n := n) (zD y n (zS y n (zS y n cur + 2)))
              have hk4 := zS_le (y := y) (n := n) (i := zD y n (zS y n (zS y n cur + 2))) (by omega)
              have hk5 := zD_ge (y := y) (n := n) (zS y n (zD y n (zS y n (zS y n cur + 2))))
              have hk6 := zD_le (y := y) (n := n) (i := zS y n (zD y n (zS y n (zS y n cur + 2)))) (by omega)
              refine ik_Wk 0 (pc' := 120) (loc' := [some (.ref 1), some (fI p), some (fI sum), some (fI (r.length : Int)), some (fI (zS y n cur))]) (st' := [fI 1]) (h' := (c0 :: cz_t T n (zD y n (zS y n (zD y n (zS y n (zS y n cur + 2))))) fl fb pl C (G.set (p * 4 + (r.length : Int)).toNat (zv y n (zS y n (zS y n cur + 2)))) (P.set (p * 4 + (r.length : Int)).toNat (zv y n (zS y n (zD y n (zS y n (zS y n cur + 2)))))) (B.set (p * 4 + (r.length : Int)).toNat (zS y n (zS y n cur + 2))) tl)) (cl' := 0) (sl' := 0) rfl ?_
              refine fw_if_ne rfl rfl (by omega) (by omega) (fun hc7 => absurd hc7 (by omega)) (fun hc7 => ?_)
              refine ik_Wk 2 (pc' := 127) (loc' := [some (.ref 1), some (fI p), some (fI sum), some (fI (r.length : Int)), some (fI (zS y n cur))]) (st' := [.ref 1, fI sum]) (h' := (c0 :: cz_t T n (zD y n (zS y n (zD y n (zS y n (zS y n cur + 2))))) fl fb pl C (G.set (p * 4 + (r.length : Int)).toNat (zv y n (zS y n (zS y n cur + 2)))) (P.set (p * 4 + (r.length : Int)).toNat (zv y n (zS y n (zD y n (zS y n (zS y n cur + 2)))))) (B.set (p * 4 + (r.length : Int)).toNat (zS y n (zS y n cur + 2))) tl)) (cl' := 0) (sl' := 0) rfl ?_
              refine fw_gf rfl rfl rfl rfl ?_
              refine ik_Wk 2 (pc' := 132) (loc' := [some (.ref 1), some (fI p), some (fI sum), some (fI (r.length : Int)), some (fI (zS y n cur))]) (st' := [fI 4, fI p, .ref 5, fI sum]) (h' := (c0 :: cz_t T n (zD y n (zS y n (zD y n (zS y n (zS y n cur + 2))))) fl fb pl C (G.set (p * 4 + (r.length : Int)).toNat (zv y n (zS y n (zS y n cur + 2)))) (P.set (p * 4 + (r.length : Int)).toNat (zv y n (zS y n (zD y n (zS y n (zS y n cur + 2)))))) (B.set (p * 4 + (r.length : Int)).toNat (zS y n (zS y n cur + 2))) tl)) (cl' := 0) (sl' := 0) rfl ?_
              refine fw_mul rfl ?_
              refine ik_Wk 1 (pc' := 134) (loc' := [some (.ref 1), some (fI p), some (fI sum), some (fI (r.length : Int)), some (fI (zS y n cur))]) (st' := [fI (r.length : Int), fI (p * 4), .ref 5, fI sum]) (h' := (c0 :: cz_t T n (zD y n (zS y n (zD y n (zS y n (zS y n cur + 2))))) fl fb pl C (G.set (p * 4 + (r.length : Int)).toNat (zv y n (zS y n (zS y n cur + 2)))) (P.set (p * 4 + (r.length : Int)).toNat (zv y n (zS y n (zD y n (zS y n (zS y n cur + 2)))))) (B.set (p * 4 + (r.length : Int)).toNat (zS y n (zS y n cur + 2))) tl)) (cl' := 0) (sl' := 0) rfl ?_
              refine fw_add rfl ?_
              refine fw_ial rfl rfl (by omega) (by omega) (by omega) ?_
              refine fw_add rfl ?_
              refine ik_Wk 1 (pc' := 138) (loc' := [some (.ref 1), some (fI p), some (fI (sum + ((P.set (p * 4 + (r.length : Int)).toNat (zv y n (zS y n (zD y n (zS y n (zS y n cur + 2)))))).getD ((p * 4) + (r.length : Int)).toNat 0))), some (fI (r.length : Int)), some (fI (zS y n cur))]) (st' := []) (h' := (c0 :: cz_t T n (zD y n (zS y n (zD y n (zS y n (zS y n cur + 2))))) fl fb pl C (G.set (p * 4 + (r.length : Int)).toNat (zv y n (zS y n (zS y n cur + 2)))) (P.set (p * 4 + (r.length : Int)).toNat (zv y n (zS y n (zD y n (zS y n (zS y n cur + 2)))))) (B.set (p * 4 + (r.length : Int)).toNat (zS y n (zS y n cur + 2))) tl)) (cl' := 0) (sl' := 0) rfl ?_
              refine fw_inc (a := (r.length : Int)) (loc' := [some (.ref 1), some (fI p), some (fI (sum + ((P.set (p * 4 + (r.length : Int)).toNat (zv y n (zS y n (zD y n (zS y n (zS y n cur + 2)))))).getD ((p * 4) + (r.length : Int)).toNat 0))), some (fI ((r.length : Int) + 1)), some (fI (zS y n cur))]) rfl rfl (Nat.le_of_ble_eq_true rfl) rfl ?_
              refine ik_Wk 3 (pc' := 6) (loc' := [some (.ref 1), some (fI p), some (fI (sum + ((P.set (p * 4 + (r.length : Int)).toNat (zv y n (zS y n (zD y n (zS y n (zS y n cur + 2)))))).getD ((p * 4) + (r.length : Int)).toNat 0))), some (fI ((r.length : Int) + 1)), some (fI (zS y n cur))]) (st' := [fI 4, fI ((r.length : Int) + 1)]) (h' := (c0 :: cz_t T n (zD y n (zS y n (zD y n (zS y n (zS y n cur + 2))))) fl fb pl C (G.set (p * 4 + (r.length : Int)).toNat (zv y n (zS y n (zS y n cur + 2)))) (P.set (p * 4 + (r.length : Int)).toNat (zv y n (zS y n (zD y n (zS y n (zS y n cur + 2)))))) (B.set (p * 4 + (r.length : Int)).toNat (zS y n (zS y n cur + 2))) tl)) (cl' := 0) (sl' := 0) rfl ?_
              refine fw_ic_gt rfl rfl (by omega) (by omega) (by omega) (by omega) (fun hc8 => absurd hc8 (by omega)) (fun hc8 => ?_)
              refine ik_Wk 1 (pc' := 10) (loc' := [some (.ref 1), some (fI p), some (fI (sum + ((P.set (p * 4 + (r.length : Int)).toNat (zv y n (zS y n (zD y n (zS y n (zS y n cur + 2)))))).getD ((p * 4) + (r.length : Int)).toNat 0))), some (fI ((r.length : Int) + 1)), some (fI (zS y n cur))]) (st' := [.ref 1]) (h' := (c0 :: cz_t T n (zD y n (zS y n (zD y n (zS y n (zS y n cur + 2))))) fl fb pl C (G.set (p * 4 + (r.length : Int)).toNat (zv y n (zS y n (zS y n cur + 2)))) (P.set (p * 4 + (r.length : Int)).toNat (zv y n (zS y n (zD y n (zS y n (zS y n cur + 2)))))) (B.set (p * 4 + (r.length : Int)).toNat (zS y n (zS y n cur + 2))) tl)) (cl' := 0) (sl' := 0) rfl ?_
              refine fw_call 66 1 0 [.ref 1] [] rfl rfl rfl (by decide) rfl rfl (fw_rec (cz_len htl) rfl rfl rfl (by decide)) (cz_skip ok (by omega) (by omega)) ?_
              rintro rv h' ⟨rfl, rfl⟩
              have hz9 := zS_ge (y := y) (n := n) (zD y n (zS y n (zD y n (zS y n (zS y n cur + 2)))))
              have hz10 := zS_le (y := y) (n := n) (i := zD y n (zS y n (zD y n (zS y n (zS y n cur + 2))))) (by omega)
              refine ik_Wk 0 (pc' := 13) (loc' := [some (.ref 1), some (fI p), some (fI (sum + ((P.set (p * 4 + (r.length : Int)).toNat (zv y n (zS y n (zD y n (zS y n (zS y n cur + 2)))))).getD ((p * 4) + (r.length : Int)).toNat 0))), some (fI ((r.length : Int) + 1)), some (fI (zS y n cur))]) (st' := []) (h' := (c0 :: cz_t T n (zS y n (zD y n (zS y n (zD y n (zS y n (zS y n cur + 2)))))) fl fb pl C (G.set (p * 4 + (r.length : Int)).toNat (zv y n (zS y n (zS y n cur + 2)))) (P.set (p * 4 + (r.length : Int)).toNat (zv y n (zS y n (zD y n (zS y n (zS y n cur + 2)))))) (B.set (p * 4 + (r.length : Int)).toNat (zS y n (zS y n cur + 2))) tl)) (cl' := 0) (sl' := 0) rfl ?_
              refine ik_Wk 1 (pc' := 14) (loc' := [some (.ref 1), some (fI p), some (fI (sum + ((P.set (p * 4 + (r.length : Int)).toNat (zv y n (zS y n (zD y n (zS y n (zS y n cur + 2)))))).getD ((p * 4) + (r.length : Int)).toNat 0))), some (fI ((r.length : Int) + 1)), some (fI (zS y n cur))]) (st' := [.ref 1]) (h' := (c0 :: cz_t T n (zS y n (zD y n (zS y n (zD y n (zS y n (zS y n cur + 2)))))) fl fb pl C (G.set (p * 4 + (r.length : Int)).toNat (zv y n (zS y n (zS y n cur + 2)))) (P.set (p * 4 + (r.length : Int)).toNat (zv y n (zS y n (zD y n (zS y n (zS y n cur + 2)))))) (B.set (p * 4 + (r.length : Int)).toNat (zS y n (zS y n cur + 2))) tl)) (cl' := 0) (sl' := 0) rfl ?_
              refine fw_gf rfl rfl rfl rfl ?_
              refine ik_Wk 1 (pc' := 19) (loc' := [some (.ref 1), some (fI p), some (fI (sum + ((P.set (p * 4 + (r.length : Int)).toNat (zv y n (zS y n (zD y n (zS y n (zS y n cur + 2)))))).getD ((p * 4) + (r.length : Int)).toNat 0))), some (fI ((r.length : Int) + 1)), some (fI (zS y n (zD y n (zS y n (zD y n (zS y n (zS y n cur + 2)))))))]) (st' := []) (h' := (c0 :: cz_t T n (zS y n (zD y n (zS y n (zD y n (zS y n (zS y n cur + 2)))))) fl fb pl C (G.set (p * 4 + (r.length : Int)).toNat (zv y n (zS y n (zS y n cur + 2)))) (P.set (p * 4 + (r.length : Int)).toNat (zv y n (zS y n (zD y n (zS y n (zS y n cur + 2)))))) (B.set (p * 4 + (r.length : Int)).toNat (zS y n (zS y n cur + 2))) tl)) (cl' := 0) (sl' := 0) rfl ?_
              obtain ⟨k', rfl⟩ : ∃ k', k = k' + 1 := ⟨k - 1, by omega⟩
              have hwz := hw2
              have e1 : (P.set (p * 4 + (r.length : Int)).toNat (zv y n (zS y n (zD y n (zS y n (zS y n cur + 2)))))).getD (p * 4 + (r.length : Int)).toNat 0 = zv y n (zS y n (zD y n (zS y n (zS y n cur + 2)))) := by rw [fz_getD_set, if_pos ⟨rfl, by omega⟩]
              have e2 : ((r ++ [(zv y n (zS y n (zS y n cur + 2)), zv y n (zS y n (zD y n (zS y n (zS y n cur + 2)))), zS y n (zS y n cur + 2))]).length : Int) = (r.length : Int) + 1 := by rw [List.length_append]; rfl
              rw [e1, zmv, if_pos hwz, if_neg (by omega), if_pos hg1, if_neg (by rw [hg2]; decide), if_pos hk1, if_neg (by omega), ← e2]
              exact ih k' (by omega) (r ++ [(zv y n (zS y n (zS y n cur + 2)), zv y n (zS y n (zD y n (zS y n (zS y n cur + 2)))), zS y n (zS y n cur + 2))]) _ _ _ _ _ (by rw [List.length_append]; simp only [List.length_cons, List.length_nil]; omega) hl1 hl3 hl2 (zh_snoc hz (by omega) (by omega) (by omega) (by omega)) (zag_set ag (by omega)) (zag_set ap (by omega)) (zag_set ab (by omega)) (zrow_snoc hr ⟨by omega, by omega, by omega, by omega, by omega, by omega⟩) (by omega) (by omega) (by omega) (by omega)
            · refine ik_Wk 0 (pc' := 120) (loc' := [some (.ref 1), some (fI p), some (fI sum), some (fI (r.length : Int)), some (fI (zS y n cur))]) (st' := [fI 0]) (h' := (c0 :: cz_t T n cf f (zS y n (zD y n (zS y n (zS y n cur + 2)))) pl C (G.set (p * 4 + (r.length : Int)).toNat (zv y n (zS y n (zS y n cur + 2)))) P' (B.set (p * 4 + (r.length : Int)).toNat (zS y n (zS y n cur + 2))) tl)) (cl' := 0) (sl' := 0) rfl ?_
              refine fw_if_ne rfl rfl (by omega) (by omega) (fun hc11 => ?_) (fun hc11 => absurd hc11 (by omega))
              refine ik_Wk 1 (pc' := 124) (loc' := [some (.ref 1), some (fI p), some (fI sum), some (fI (r.length : Int)), some (fI (zS y n cur))]) (st' := [fI 0]) (h' := (c0 :: cz_t T n cf f (zS y n (zD y n (zS y n (zS y n cur + 2)))) pl C (G.set (p * 4 + (r.length : Int)).toNat (zv y n (zS y n (zS y n cur + 2)))) P' (B.set (p * 4 + (r.length : Int)).toNat (zS y n (zS y n cur + 2))) tl)) (cl' := 0) (sl' := 0) rfl ?_
              have hwz := hw2
              rcases hf with ⟨h1, rfl⟩ | ⟨h1, h2, rfl⟩
              · rw [zmv, if_pos hwz, if_neg (by omega), if_pos hg1, if_neg (by rw [hg2]; decide), if_neg h1]
                exact ik_Wret rfl rfl ⟨_, _, rfl, rfl, rfl, rfl, ⟨rfl, cf, C, _, P', _, hC, hl1, hfp, hl2, hf0, hf1, rfl⟩⟩
              · rw [zmv, if_pos hwz, if_neg (by omega), if_pos hg1, if_neg (by rw [hg2]; decide), if_pos h1, if_pos h2]
                exact ik_Wret rfl rfl ⟨_, _, rfl, rfl, rfl, rfl, ⟨rfl, cf, C, _, P', _, hC, hl1, hfp, hl2, hf0, hf1, rfl⟩⟩
          · refine ik_Wk 0 (pc' := 107) (loc' := [some (.ref 1), some (fI p), some (fI sum), some (fI (r.length : Int)), some (fI (zS y n cur))]) (st' := [fI 0]) (h' := (c0 :: cz_t T n cf f (zS y n (zS y n cur + 2)) pl C G P B tl)) (cl' := 0) (sl' := 0) rfl ?_
            refine fw_if_eq rfl rfl (by omega) (by omega) (fun hc12 => ?_) (fun hc12 => absurd hc12 (by omega))
            refine ik_Wk 1 (pc' := 124) (loc' := [some (.ref 1), some (fI p), some (fI sum), some (fI (r.length : Int)), some (fI (zS y n cur))]) (st' := [fI 0]) (h' := (c0 :: cz_t T n cf f (zS y n (zS y n cur + 2)) pl C G P B tl)) (cl' := 0) (sl' := 0) rfl ?_
            have hwz := hw2
            rcases hf with ⟨h1, rfl⟩ | ⟨h1, h2, rfl⟩
            · rw [zmv, if_pos hwz, if_neg (by omega), if_neg h1]
              exact ik_Wret rfl rfl ⟨_, _, rfl, rfl, rfl, rfl, ⟨rfl, cf, C, G, P, B, hC, hG, hP, hB, hf0, hf1, rfl⟩⟩
            · rw [zmv, if_pos hwz, if_neg (by omega), if_pos h1, if_pos h2]
              exact ik_Wret rfl rfl ⟨_, _, rfl, rfl, rfl, rfl, ⟨rfl, cf, C, G, P, B, hC, hG, hP, hB, hf0, hf1, rfl⟩⟩
      · refine ik_Wk 0 (pc' := 77) (loc' := [some (.ref 1), some (fI p), some (fI sum), some (fI (r.length : Int)), some (fI (zS y n cur))]) (st' := [fI 0]) (h' := (c0 :: cz_t T n (zS y n cur) fl fb pl C G P B tl)) (cl' := 0) (sl' := 0) rfl ?_
        refine fw_if_ne rfl rfl (by omega) (by omega) (fun hc13 => ?_) (fun hc13 => absurd hc13 (by omega))
        refine ik_Wk 3 (pc' := 84) (loc' := [some (.ref 1), some (fI p), some (fI sum), some (fI (r.length : Int)), some (fI (zS y n cur))]) (st' := [fI (zS y n cur), fI 1, .ref 1]) (h' := (c0 :: cz_t T n (zS y n cur) fl fb pl C G P B tl)) (cl' := 0) (sl' := 0) rfl ?_
        refine fw_call 67 3 0 [.ref 1, fI 1, fI (zS y n cur)] [] rfl rfl rfl (by decide) rfl rfl (fw_rec (cz_len htl) rfl rfl rfl (by decide)) (cz_refuse ok) ?_
        rintro rv h' ⟨rfl, rfl⟩
        refine ik_Wk 0 (pc' := 87) (loc' := [some (.ref 1), some (fI p), some (fI sum), some (fI (r.length : Int)), some (fI (zS y n cur))]) (st' := [fI 0]) (h' := (c0 :: cz_t T n (zS y n cur) 1 (zS y n cur) pl C G P B tl)) (cl' := 0) (sl' := 0) rfl ?_
        have hwz := hw2
        have hne : ¬ (r ≠ [] ∧ zS y n cur < n ∧ y (zS y n cur) = 59) := fun q => by have := List.length_pos_iff.mpr q.1; omega
        rw [zmv, if_neg (by rw [hwz]; decide), if_neg hne]
        exact ik_Wret rfl rfl ⟨_, _, rfl, rfl, rfl, rfl, ⟨rfl, _, _, G, P, B, hC, hG, hP, hB, by omega, by omega, rfl⟩⟩
    · refine ik_Wk 1 (pc' := 24) (loc' := [some (.ref 1), some (fI p), some (fI sum), some (fI (r.length : Int)), some (fI (zS y n cur))]) (st' := [.ref 1]) (h' := (c0 :: cz_t T n (zS y n cur) fl fb pl C G P B tl)) (cl' := 0) (sl' := 0) rfl ?_
      refine fw_bi rfl (by decide) ?_
      refine fw_call 65 2 0 [.ref 1, fI 59] [] rfl rfl rfl (by decide) rfl rfl (fw_rec (cz_len htl) rfl rfl rfl (by decide)) (cz_stands ok (by omega) (by omega) (by decide) (by decide)) ?_
      rintro rv h' ⟨⟨ht14, ht15, rfl⟩ | ⟨ht14, rfl⟩, rfl⟩
      · refine ik_Wk 0 (pc' := 29) (loc' := [some (.ref 1), some (fI p), some (fI sum), some (fI (r.length : Int)), some (fI (zS y n cur))]) (st' := [fI 1]) (h' := (c0 :: cz_t T n (zS y n cur) fl fb pl C G P B tl)) (cl' := 0) (sl' := 0) rfl ?_
        refine fw_if_eq rfl rfl (by omega) (by omega) (fun hc16 => absurd hc16 (by omega)) (fun hc16 => ?_)
        refine ik_Wk 2 (pc' := 34) (loc' := [some (.ref 1), some (fI p), some (fI sum), some (fI (r.length : Int)), some (fI (zS y n cur))]) (st' := [.ref 1, .ref 1]) (h' := (c0 :: cz_t T n (zS y n cur) fl fb pl C G P B tl)) (cl' := 0) (sl' := 0) rfl ?_
        refine fw_gf rfl rfl rfl rfl ?_
        refine ik_Wk 1 (pc' := 38) (loc' := [some (.ref 1), some (fI p), some (fI sum), some (fI (r.length : Int)), some (fI (zS y n cur))]) (st' := [fI 1, fI (zS y n cur), .ref 1]) (h' := (c0 :: cz_t T n (zS y n cur) fl fb pl C G P B tl)) (cl' := 0) (sl' := 0) rfl ?_
        refine fw_add rfl ?_
        refine fw_pf (h' := (c0 :: cz_t T n ((zS y n cur) + 1) fl fb pl C G P B tl)) rfl rfl rfl (Nat.le_of_ble_eq_true rfl) rfl rfl rfl ?_
        refine ik_Wk 1 (pc' := 43) (loc' := [some (.ref 1), some (fI p), some (fI sum), some (fI (r.length : Int)), some (fI (zS y n cur))]) (st' := [.ref 1]) (h' := (c0 :: cz_t T n ((zS y n cur) + 1) fl fb pl C G P B tl)) (cl' := 0) (sl' := 0) rfl ?_
        refine fw_gf rfl rfl rfl rfl ?_
        refine ik_Wk 2 (pc' := 48) (loc' := [some (.ref 1), some (fI p), some (fI sum), some (fI (r.length : Int)), some (fI (zS y n cur))]) (st' := [fI (r.length : Int), fI p, .ref 3]) (h' := (c0 :: cz_t T n ((zS y n cur) + 1) fl fb pl C G P B tl)) (cl' := 0) (sl' := 0) rfl ?_
        have hl17 : (C.set p.toNat (r.length : Int)).length = 12 := (List.length_set ..).trans hC
        refine fw_ias (h' := (c0 :: cz_t T n ((zS y n cur) + 1) fl fb pl (C.set p.toNat (r.length : Int)) G P B tl)) rfl rfl (by omega) (by omega) (by omega) rfl ?_
        refine ik_Wk 1 (pc' := 50) (loc' := [some (.ref 1), some (fI p), some (fI sum), some (fI (r.length : Int)), some (fI (zS y n cur))]) (st' := [fI sum]) (h' := (c0 :: cz_t T n ((zS y n cur) + 1) fl fb pl (C.set p.toNat (r.length : Int)) G P B tl)) (cl' := 0) (sl' := 0) rfl ?_
        refine fw_bi rfl (by decide) ?_
        refine fw_ic_eq rfl rfl (by omega) (by omega) (by omega) (by omega) (fun hc18 => ?_) (fun hc18 => ?_)
        · refine ik_Wk 2 (pc' := 70) (loc' := [some (.ref 1), some (fI p), some (fI sum), some (fI (r.length : Int)), some (fI (zS y n cur))]) (st' := [fI 1]) (h' := (c0 :: cz_t T n ((zS y n cur) + 1) fl fb pl (C.set p.toNat (r.length : Int)) G P B tl)) (cl' := 0) (sl' := 0) rfl ?_
          have hw : zto y n (zS y n cur) = false := by unfold zto; exact decide_eq_false (by omega)
          have hne : r ≠ [] := fun q => by rw [q] at hc1; exact absurd hc1 (by decide)
          rw [zmv, if_neg (by rw [hw]; decide), if_pos ⟨hne, by omega, by omega⟩, if_pos (by omega)]
          exact ik_Wret rfl rfl ⟨_, _, rfl, rfl, rfl, rfl, ⟨rfl, _, G, P, B, hl17, hG, hP, hB, by omega, by omega, rfl, rfl, hz, ag, ap, ab, hr, (show r.length ≤ 4 by omega)⟩⟩
        · refine ik_Wk 3 (pc' := 59) (loc' := [some (.ref 1), some (fI p), some (fI sum), some (fI (r.length : Int)), some (fI (zS y n cur))]) (st' := [fI (zS y n cur), fI 5, .ref 1]) (h' := (c0 :: cz_t T n ((zS y n cur) + 1) fl fb pl (C.set p.toNat (r.length : Int)) G P B tl)) (cl' := 0) (sl' := 0) rfl ?_
          refine fw_call 67 3 0 [.ref 1, fI 5, fI (zS y n cur)] [] rfl rfl rfl (by decide) rfl rfl (fw_rec (cz_len htl) rfl rfl rfl (by decide)) (cz_refuse ok) ?_
          rintro rv h' ⟨rfl, rfl⟩
          refine ik_Wk 0 (pc' := 62) (loc' := [some (.ref 1), some (fI p), some (fI sum), some (fI (r.length : Int)), some (fI (zS y n cur))]) (st' := [fI 0]) (h' := (c0 :: cz_t T n ((zS y n cur) + 1) 5 (zS y n cur) pl (C.set p.toNat (r.length : Int)) G P B tl)) (cl' := 0) (sl' := 0) rfl ?_
          refine fw_if_eq rfl rfl (by omega) (by omega) (fun hc19 => ?_) (fun hc19 => absurd hc19 (by omega))
          refine ik_Wk 1 (pc' := 70) (loc' := [some (.ref 1), some (fI p), some (fI sum), some (fI (r.length : Int)), some (fI (zS y n cur))]) (st' := [fI 0]) (h' := (c0 :: cz_t T n ((zS y n cur) + 1) 5 (zS y n cur) pl (C.set p.toNat (r.length : Int)) G P B tl)) (cl' := 0) (sl' := 0) rfl ?_
          have hw : zto y n (zS y n cur) = false := by unfold zto; exact decide_eq_false (by omega)
          have hne : r ≠ [] := fun q => by rw [q] at hc1; exact absurd hc1 (by decide)
          rw [zmv, if_neg (by rw [hw]; decide), if_pos ⟨hne, by omega, by omega⟩, if_neg (by omega)]
          exact ik_Wret rfl rfl ⟨_, _, rfl, rfl, rfl, rfl, ⟨rfl, _, _, G, P, B, hl17, hG, hP, hB, by omega, by omega, rfl⟩⟩
      · refine ik_Wk 0 (pc' := 29) (loc' := [some (.ref 1), some (fI p), some (fI sum), some (fI (r.length : Int)), some (fI (zS y n cur))]) (st' := [fI 0]) (h' := (c0 :: cz_t T n (zS y n cur) fl fb pl C G P B tl)) (cl' := 0) (sl' := 0) rfl ?_
        refine fw_if_eq rfl rfl (by omega) (by omega) (fun hc20 => ?_) (fun hc20 => absurd hc20 (by omega))
        refine ik_Wk 2 (pc' := 74) (loc' := [some (.ref 1), some (fI p), some (fI sum), some (fI (r.length : Int)), some (fI (zS y n cur))]) (st' := [.retAddr 5, .ref 1]) (h' := (c0 :: cz_t T n (zS y n cur) fl fb pl C G P B tl)) (cl' := 0) (sl' := 0) rfl ?_
        refine fw_call 64 2 0 [.ref 1, .retAddr 5] [] rfl rfl rfl (by decide) rfl rfl (fw_rec (cz_len htl) rfl rfl rfl (by decide)) (cz_rw2 ok (by omega) (by omega)) ?_
        rintro rv h' (⟨hw21, rfl, rfl⟩ | ⟨hw21, rfl, rfl⟩)
        · have hz22 : (zS y n cur) + 2 ≤ n := by have q := hw21; unfold zto at q; have := of_decide_eq_true q; have := zE_le (y := y) (n := n) (i := zS y n cur) (by omega); omega
          refine ik_Wk 0 (pc' := 77) (loc' := [some (.ref 1), some (fI p), some (fI sum), some (fI (r.length : Int)), some (fI (zS y n cur))]) (st' := [fI 1]) (h' := (c0 :: cz_t T n ((zS y n cur) + 2) fl fb pl C G P B tl)) (cl' := 0) (sl' := 0) rfl ?_
          refine fw_if_ne rfl rfl (by omega) (by omega) (fun hc23 => absurd hc23 (by omega)) (fun hc23 => ?_)
          refine ik_Wk 2 (pc' := 90) (loc' := [some (.ref 1), some (fI p), some (fI sum), some (fI (r.length : Int)), some (fI (zS y n cur))]) (st' := [fI 4, fI (r.length : Int)]) (h' := (c0 :: cz_t T n ((zS y n cur) + 2) fl fb pl C G P B tl)) (cl' := 0) (sl' := 0) rfl ?_
          refine fw_ic_ne rfl rfl (by omega) (by omega) (by omega) (by omega) (fun hc24 => ?_) (fun hc24 => ?_)
          · refine ik_Wk 3 (pc' := 97) (loc' := [some (.ref 1), some (fI p), some (fI sum), some (fI (r.length : Int)), some (fI (zS y n cur))]) (st' := [fI (zS y n cur), fI 3, .ref 1]) (h' := (c0 :: cz_t T n ((zS y n cur) + 2) fl fb pl C G P B tl)) (cl' := 0) (sl' := 0) rfl ?_
            refine fw_call 67 3 0 [.ref 1, fI 3, fI (zS y n cur)] [] rfl rfl rfl (by decide) rfl rfl (fw_rec (cz_len htl) rfl rfl rfl (by decide)) (cz_refuse ok) ?_
            rintro rv h' ⟨rfl, rfl⟩
            refine ik_Wk 0 (pc' := 100) (loc' := [some (.ref 1), some (fI p), some (fI sum), some (fI (r.length : Int)), some (fI (zS y n cur))]) (st' := [fI 0]) (h' := (c0 :: cz_t T n ((zS y n cur) + 2) 3 (zS y n cur) pl C G P B tl)) (cl' := 0) (sl' := 0) rfl ?_
            have hwz := hw21
            rw [zmv, if_pos hwz, if_pos (by omega)]
            exact ik_Wret rfl rfl ⟨_, _, rfl, rfl, rfl, rfl, ⟨rfl, _, _, G, P, B, hC, hG, hP, hB, by omega, by omega, rfl⟩⟩
          · refine ik_Wk 3 (pc' := 104) (loc' := [some (.ref 1), some (fI p), some (fI sum), some (fI (r.length : Int)), some (fI (zS y n cur))]) (st' := [fI (r.length : Int), fI p, .ref 1]) (h' := (c0 :: cz_t T n ((zS y n cur) + 2) fl fb pl C G P B tl)) (cl' := 0) (sl' := 0) rfl ?_
            refine fw_call 59 3 0 [.ref 1, fI p, fI (r.length : Int)] [] rfl rfl rfl (by decide) rfl rfl (fw_rec (cz_len htl) rfl rfl rfl (by decide)) (cz_goal (r := r) ok hC hG hP hB hp hp2 rfl (by omega) (zh_hz hp hz hr) (by omega) (by omega)) ?_
            rintro rv h' (⟨hg1, hg2, rfl, rfl⟩ | ⟨f, cf, hf, rfl, hf0, hf1, rfl⟩)
            · have hl1 : (G.set (p * 4 + (r.length : Int)).toNat (zv y n (zS y n (zS y n cur + 2)))).length = 48 := (List.length_set ..).trans hG
              have hl2 : (B.set (p * 4 + (r.length : Int)).toNat (zS y n (zS y n cur + 2))).length = 48 := (List.length_set ..).trans hB
              have hgv := znum0 hg1
              have hg3 := zS_ge (y := y) (n := n) (zS y n cur + 2)
              have hg4 := zS_le (y := y) (n := n) (i := zS y n cur + 2) (by omega)
              have hg5 := zD_ge (y := y) (n := n) (zS y n (zS y n cur + 2))
              have hg6 := zD_le (y := y) (n := n) (i := zS y n (zS y n cur + 2)) (by omega)
              refine ik_Wk 0 (pc' := 107) (loc' := [some (.ref 1), some (fI p), some (fI sum), some (fI (r.length : Int)), some (fI (zS y n cur))]) (st' := [fI 1]) (h' := (c0 :: cz_t T n (zD y n (zS y n (zS y n cur + 2))) fl fb pl C (G.set (p * 4 + (r.length : Int)).toNat (zv y n (zS y n (zS y n cur + 2)))) P (B.set (p * 4 + (r.length : Int)).toNat (zS y n (zS y n cur + 2))) tl)) (cl' := 0) (sl' := 0) rfl ?_
              refine fw_if_eq rfl rfl (by omega) (by omega) (fun hc25 => absurd hc25 (by omega)) (fun hc25 => ?_)
              refine ik_Wk 3 (pc' := 113) (loc' := [some (.ref 1), some (fI p), some (fI sum), some (fI (r.length : Int)), some (fI (zS y n cur))]) (st' := [fI 4, fI p, .ref 1]) (h' := (c0 :: cz_t T n (zD y n (zS y n (zS y n cur + 2))) fl fb pl C (G.set (p * 4 + (r.length : Int)).toNat (zv y n (zS y n (zS y n cur + 2)))) P (B.set (p * 4 + (r.length : Int)).toNat (zS y n (zS y n cur + 2))) tl)) (cl' := 0) (sl' := 0) rfl ?_
              refine fw_mul rfl ?_
              refine ik_Wk 1 (pc' := 115) (loc' := [some (.ref 1), some (fI p), some (fI sum), some (fI (r.length : Int)), some (fI (zS y n cur))]) (st' := [fI (r.length : Int), fI (p * 4), .ref 1]) (h' := (c0 :: cz_t T n (zD y n (zS y n (zS y n cur + 2))) fl fb pl C (G.set (p * 4 + (r.length : Int)).toNat (zv y n (zS y n (zS y n cur + 2)))) P (B.set (p * 4 + (r.length : Int)).toNat (zS y n (zS y n cur + 2))) tl)) (cl' := 0) (sl' := 0) rfl ?_
              refine fw_add rfl ?_
              refine ik_Wk 1 (pc' := 117) (loc' := [some (.ref 1), some (fI p), some (fI sum), some (fI (r.length : Int)), some (fI (zS y n cur))]) (st' := [fI sum, fI ((p * 4) + (r.length : Int)), .ref 1]) (h' := (c0 :: cz_t T n (zD y n (zS y n (zS y n cur + 2))) fl fb pl C (G.set (p * 4 + (r.length : Int)).toNat (zv y n (zS y n (zS y n cur + 2)))) P (B.set (p * 4 + (r.length : Int)).toNat (zS y n (zS y n cur + 2))) tl)) (cl' := 0) (sl' := 0) rfl ?_
              refine fw_call 60 3 0 [.ref 1, fI ((p * 4) + (r.length : Int)), fI sum] [] rfl rfl rfl (by decide) rfl rfl (fw_rec (cz_len htl) rfl rfl rfl (by decide)) (cz_ch ok hC hl1 hP hl2 (by omega) (by omega) (by omega) (by omega) (by omega) (by omega)) ?_
              rintro rv h' (⟨hk1, hk2, rfl, rfl⟩ | ⟨f, cf, P', hf, rfl, hfp, hf0, hf1, rfl⟩)
              · have hl3 : (P.set (p * 4 + (r.length : Int)).toNat (zv y n (zS y n (zD y n (zS y n (zS y n cur + 2)))))).length = 48 := (List.length_set ..).trans hP
                have hkv := znum0 hk1
                have hk3 := zS_ge (y := y) (n := n) (zD y n (zS y n (zS y n cur + 2)))
                have hk4 := zS_le (y := y) (n := n) (i := zD y n (zS y n (zS y n cur + 2))) (by omega)
                have hk5 := zD_ge (y := y) (n := n) (zS y n (zD y n (zS y n (zS y n cur + 2))))
                have hk6 := zD_le (y := y) (n := n) (i := zS y n (zD y n (zS y n (zS y n cur + 2)))) (by omega)
                refine ik_Wk 0 (pc' := 120) (loc' := [some (.ref 1), some (fI p), some (fI sum), some (fI (r.length : Int)), some (fI (zS y n cur))]) (st' := [fI 1]) (h' := (c0 :: cz_t T n (zD y n (zS y n (zD y n (zS y n (zS y n cur + 2))))) fl fb pl C (G.set (p * 4 + (r.length : Int)).toNat (zv y n (zS y n (zS y n cur + 2)))) (P.set (p * 4 + (r.length : Int)).toNat (zv y n (zS y n (zD y n (zS y n (zS y n cur + 2)))))) (B.set (p * 4 + (r.length : Int)).toNat (zS y n (zS y n cur + 2))) tl)) (cl' := 0) (sl' := 0) rfl ?_
                refine fw_if_ne rfl rfl (by omega) (by omega) (fun hc26 => absurd hc26 (by omega)) (fun hc26 => ?_)
                refine ik_Wk 2 (pc' := 127) (loc' := [some (.ref 1), some (fI p), some (fI sum), some (fI (r.length : Int)), some (fI (zS y n cur))]) (st' := [.ref 1, fI sum]) (h' := (c0 :: cz_t T n (zD y n (zS y n (zD y n (zS y n (zS y n cur + 2))))) fl fb pl C (G.set (p * 4 + (r.length : Int)).toNat (zv y n (zS y n (zS y n cur + 2)))) (P.set (p * 4 + (r.length : Int)).toNat (zv y n (zS y n (zD y n (zS y n (zS y n cur + 2)))))) (B.set (p * 4 + (r.length : Int)).toNat (zS y n (zS y n cur + 2))) tl)) (cl' := 0) (sl' := 0) rfl ?_
                refine fw_gf rfl rfl rfl rfl ?_
                refine ik_Wk 2 (pc' := 132) (loc' := [some (.ref 1), some (fI p), some (fI sum), some (fI (r.length : Int)), some (fI (zS y n cur))]) (st' := [fI 4, fI p, .ref 5, fI sum]) (h' := (c0 :: cz_t T n (zD y n (zS y n (zD y n (zS y n (zS y n cur + 2))))) fl fb pl C (G.set (p * 4 + (r.length : Int)).toNat (zv y n (zS y n (zS y n cur + 2)))) (P.set (p * 4 + (r.length : Int)).toNat (zv y n (zS y n (zD y n (zS y n (zS y n cur + 2)))))) (B.set (p * 4 + (r.length : Int)).toNat (zS y n (zS y n cur + 2))) tl)) (cl' := 0) (sl' := 0) rfl ?_
                refine fw_mul rfl ?_
                refine ik_Wk 1 (pc' := 134) (loc' := [some (.ref 1), some (fI p), some (fI sum), some (fI (r.length : Int)), some (fI (zS y n cur))]) (st' := [fI (r.length : Int), fI (p * 4), .ref 5, fI sum]) (h' := (c0 :: cz_t T n (zD y n (zS y n (zD y n (zS y n (zS y n cur + 2))))) fl fb pl C (G.set (p * 4 + (r.length : Int)).toNat (zv y n (zS y n (zS y n cur + 2)))) (P.set (p * 4 + (r.length : Int)).toNat (zv y n (zS y n (zD y n (zS y n (zS y n cur + 2)))))) (B.set (p * 4 + (r.length : Int)).toNat (zS y n (zS y n cur + 2))) tl)) (cl' := 0) (sl' := 0) rfl ?_
                refine fw_add rfl ?_
                refine fw_ial rfl rfl (by omega) (by omega) (by omega) ?_
                refine fw_add rfl ?_
                refine ik_Wk 1 (pc' := 138) (loc' := [some (.ref 1), some (fI p), some (fI (sum + ((P.set (p * 4 + (r.length : Int)).toNat (zv y n (zS y n (zD y n (zS y n (zS y n cur + 2)))))).getD ((p * 4) + (r.length : Int)).toNat 0))), some (fI (r.length : Int)), some (fI (zS y n cur))]) (st' := []) (h' := (c0 :: cz_t T n (zD y n (zS y n (zD y n (zS y n (zS y n cur + 2))))) fl fb pl C (G.set (p * 4 + (r.length : Int)).toNat (zv y n (zS y n (zS y n cur + 2)))) (P.set (p * 4 + (r.length : Int)).toNat (zv y n (zS y n (zD y n (zS y n (zS y n cur + 2)))))) (B.set (p * 4 + (r.length : Int)).toNat (zS y n (zS y n cur + 2))) tl)) (cl' := 0) (sl' := 0) rfl ?_
                refine fw_inc (a := (r.length : Int)) (loc' := [some (.ref 1), some (fI p), some (fI (sum + ((P.set (p * 4 + (r.length : Int)).toNat (zv y n (zS y n (zD y n (zS y n (zS y n cur + 2)))))).getD ((p * 4) + (r.length : Int)).toNat 0))), some (fI ((r.length : Int) + 1)), some (fI (zS y n cur))]) rfl rfl (Nat.le_of_ble_eq_true rfl) rfl ?_
                refine ik_Wk 3 (pc' := 6) (loc' := [some (.ref 1), some (fI p), some (fI (sum + ((P.set (p * 4 + (r.length : Int)).toNat (zv y n (zS y n (zD y n (zS y n (zS y n cur + 2)))))).getD ((p * 4) + (r.length : Int)).toNat 0))), some (fI ((r.length : Int) + 1)), some (fI (zS y n cur))]) (st' := [fI 4, fI ((r.length : Int) + 1)]) (h' := (c0 :: cz_t T n (zD y n (zS y n (zD y n (zS y n (zS y n cur + 2))))) fl fb pl C (G.set (p * 4 + (r.length : Int)).toNat (zv y n (zS y n (zS y n cur + 2)))) (P.set (p * 4 + (r.length : Int)).toNat (zv y n (zS y n (zD y n (zS y n (zS y n cur + 2)))))) (B.set (p * 4 + (r.length : Int)).toNat (zS y n (zS y n cur + 2))) tl)) (cl' := 0) (sl' := 0) rfl ?_
                refine fw_ic_gt rfl rfl (by omega) (by omega) (by omega) (by omega) (fun hc27 => absurd hc27 (by omega)) (fun hc27 => ?_)
                refine ik_Wk 1 (pc' := 10) (loc' := [some (.ref 1), some (fI p), some (fI (sum + ((P.set (p * 4 + (r.length : Int)).toNat (zv y n (zS y n (zD y n (zS y n (zS y n cur + 2)))))).getD ((p * 4) + (r.length : Int)).toNat 0))), some (fI ((r.length : Int) + 1)), some (fI (zS y n cur))]) (st' := [.ref 1]) (h' := (c0 :: cz_t T n (zD y n (zS y n (zD y n (zS y n (zS y n cur + 2))))) fl fb pl C (G.set (p * 4 + (r.length : Int)).toNat (zv y n (zS y n (zS y n cur + 2)))) (P.set (p * 4 + (r.length : Int)).toNat (zv y n (zS y n (zD y n (zS y n (zS y n cur + 2)))))) (B.set (p * 4 + (r.length : Int)).toNat (zS y n (zS y n cur + 2))) tl)) (cl' := 0) (sl' := 0) rfl ?_
                refine fw_call 66 1 0 [.ref 1] [] rfl rfl rfl (by decide) rfl rfl (fw_rec (cz_len htl) rfl rfl rfl (by decide)) (cz_skip ok (by omega) (by omega)) ?_
                rintro rv h' ⟨rfl, rfl⟩
                have hz28 := zS_ge (y := y) (n := n) (zD y n (zS y n (zD y n (zS y n (zS y n cur + 2)))))
                have hz29 := zS_le (y := y) (n := n) (i := zD y n (zS y n (zD y n (zS y n (zS y n cur + 2))))) (by omega)
                refine ik_Wk 0 (pc' := 13) (loc' := [some (.ref 1), some (fI p), some (fI (sum + ((P.set (p * 4 + (r.length : Int)).toNat (zv y n (zS y n (zD y n (zS y n (zS y n cur + 2)))))).getD ((p * 4) + (r.length : Int)).toNat 0))), some (fI ((r.length : Int) + 1)), some (fI (zS y n cur))]) (st' := []) (h' := (c0 :: cz_t T n (zS y n (zD y n (zS y n (zD y n (zS y n (zS y n cur + 2)))))) fl fb pl C (G.set (p * 4 + (r.length : Int)).toNat (zv y n (zS y n (zS y n cur + 2)))) (P.set (p * 4 + (r.length : Int)).toNat (zv y n (zS y n (zD y n (zS y n (zS y n cur + 2)))))) (B.set (p * 4 + (r.length : Int)).toNat (zS y n (zS y n cur + 2))) tl)) (cl' := 0) (sl' := 0) rfl ?_
                refine ik_Wk 1 (pc' := 14) (loc' := [some (.ref 1), some (fI p), some (fI (sum + ((P.set (p * 4 + (r.length : Int)).toNat (zv y n (zS y n (zD y n (zS y n (zS y n cur + 2)))))).getD ((p * 4) + (r.length : Int)).toNat 0))), some (fI ((r.length : Int) + 1)), some (fI (zS y n cur))]) (st' := [.ref 1]) (h' := (c0 :: cz_t T n (zS y n (zD y n (zS y n (zD y n (zS y n (zS y n cur + 2)))))) fl fb pl C (G.set (p * 4 + (r.length : Int)).toNat (zv y n (zS y n (zS y n cur + 2)))) (P.set (p * 4 + (r.length : Int)).toNat (zv y n (zS y n (zD y n (zS y n (zS y n cur + 2)))))) (B.set (p * 4 + (r.length : Int)).toNat (zS y n (zS y n cur + 2))) tl)) (cl' := 0) (sl' := 0) rfl ?_
                refine fw_gf rfl rfl rfl rfl ?_
                refine ik_Wk 1 (pc' := 19) (loc' := [some (.ref 1), some (fI p), some (fI (sum + ((P.set (p * 4 + (r.length : Int)).toNat (zv y n (zS y n (zD y n (zS y n (zS y n cur + 2)))))).getD ((p * 4) + (r.length : Int)).toNat 0))), some (fI ((r.length : Int) + 1)), some (fI (zS y n (zD y n (zS y n (zD y n (zS y n (zS y n cur + 2)))))))]) (st' := []) (h' := (c0 :: cz_t T n (zS y n (zD y n (zS y n (zD y n (zS y n (zS y n cur + 2)))))) fl fb pl C (G.set (p * 4 + (r.length : Int)).toNat (zv y n (zS y n (zS y n cur + 2)))) (P.set (p * 4 + (r.length : Int)).toNat (zv y n (zS y n (zD y n (zS y n (zS y n cur + 2)))))) (B.set (p * 4 + (r.length : Int)).toNat (zS y n (zS y n cur + 2))) tl)) (cl' := 0) (sl' := 0) rfl ?_
                obtain ⟨k', rfl⟩ : ∃ k', k = k' + 1 := ⟨k - 1, by omega⟩
                have hwz := hw21
                have e1 : (P.set (p * 4 + (r.length : Int)).toNat (zv y n (zS y n (zD y n (zS y n (zS y n cur + 2)))))).getD (p * 4 + (r.length : Int)).toNat 0 = zv y n (zS y n (zD y n (zS y n (zS y n cur + 2)))) := by rw [fz_getD_set, if_pos ⟨rfl, by omega⟩]
                have e2 : ((r ++ [(zv y n (zS y n (zS y n cur + 2)), zv y n (zS y n (zD y n (zS y n (zS y n cur + 2)))), zS y n (zS y n cur + 2))]).length : Int) = (r.length : Int) + 1 := by rw [List.length_append]; rfl
                rw [e1, zmv, if_pos hwz, if_neg (by omega), if_pos hg1, if_neg (by rw [hg2]; decide), if_pos hk1, if_neg (by omega), ← e2]
                exact ih k' (by omega) (r ++ [(zv y n (zS y n (zS y n cur + 2)), zv y n (zS y n (zD y n (zS y n (zS y n cur + 2)))), zS y n (zS y n cur + 2))]) _ _ _ _ _ (by rw [List.length_append]; simp only [List.length_cons, List.length_nil]; omega) hl1 hl3 hl2 (zh_snoc hz (by omega) (by omega) (by omega) (by omega)) (zag_set ag (by omega)) (zag_set ap (by omega)) (zag_set ab (by omega)) (zrow_snoc hr ⟨by omega, by omega, by omega, by omega, by omega, by omega⟩) (by omega) (by omega) (by omega) (by omega)
              · refine ik_Wk 0 (pc' := 120) (loc' := [some (.ref 1), some (fI p), some (fI sum), some (fI (r.length : Int)), some (fI (zS y n cur))]) (st' := [fI 0]) (h' := (c0 :: cz_t T n cf f (zS y n (zD y n (zS y n (zS y n cur + 2)))) pl C (G.set (p * 4 + (r.length : Int)).toNat (zv y n (zS y n (zS y n cur + 2)))) P' (B.set (p * 4 + (r.length : Int)).toNat (zS y n (zS y n cur + 2))) tl)) (cl' := 0) (sl' := 0) rfl ?_
                refine fw_if_ne rfl rfl (by omega) (by omega) (fun hc30 => ?_) (fun hc30 => absurd hc30 (by omega))
                refine ik_Wk 1 (pc' := 124) (loc' := [some (.ref 1), some (fI p), some (fI sum), some (fI (r.length : Int)), some (fI (zS y n cur))]) (st' := [fI 0]) (h' := (c0 :: cz_t T n cf f (zS y n (zD y n (zS y n (zS y n cur + 2)))) pl C (G.set (p * 4 + (r.length : Int)).toNat (zv y n (zS y n (zS y n cur + 2)))) P' (B.set (p * 4 + (r.length : Int)).toNat (zS y n (zS y n cur + 2))) tl)) (cl' := 0) (sl' := 0) rfl ?_
                have hwz := hw21
                rcases hf with ⟨h1, rfl⟩ | ⟨h1, h2, rfl⟩
                · rw [zmv, if_pos hwz, if_neg (by omega), if_pos hg1, if_neg (by rw [hg2]; decide), if_neg h1]
                  exact ik_Wret rfl rfl ⟨_, _, rfl, rfl, rfl, rfl, ⟨rfl, cf, C, _, P', _, hC, hl1, hfp, hl2, hf0, hf1, rfl⟩⟩
                · rw [zmv, if_pos hwz, if_neg (by omega), if_pos hg1, if_neg (by rw [hg2]; decide), if_pos h1, if_pos h2]
                  exact ik_Wret rfl rfl ⟨_, _, rfl, rfl, rfl, rfl, ⟨rfl, cf, C, _, P', _, hC, hl1, hfp, hl2, hf0, hf1, rfl⟩⟩
            · refine ik_Wk 0 (pc' := 107) (loc' := [some (.ref 1), some (fI p), some (fI sum), some (fI (r.length : Int)), some (fI (zS y n cur))]) (st' := [fI 0]) (h' := (c0 :: cz_t T n cf f (zS y n (zS y n cur + 2)) pl C G P B tl)) (cl' := 0) (sl' := 0) rfl ?_
              refine fw_if_eq rfl rfl (by omega) (by omega) (fun hc31 => ?_) (fun hc31 => absurd hc31 (by omega))
              refine ik_Wk 1 (pc' := 124) (loc' := [some (.ref 1), some (fI p), some (fI sum), some (fI (r.length : Int)), some (fI (zS y n cur))]) (st' := [fI 0]) (h' := (c0 :: cz_t T n cf f (zS y n (zS y n cur + 2)) pl C G P B tl)) (cl' := 0) (sl' := 0) rfl ?_
              have hwz := hw21
              rcases hf with ⟨h1, rfl⟩ | ⟨h1, h2, rfl⟩
              · rw [zmv, if_pos hwz, if_neg (by omega), if_neg h1]
                exact ik_Wret rfl rfl ⟨_, _, rfl, rfl, rfl, rfl, ⟨rfl, cf, C, G, P, B, hC, hG, hP, hB, hf0, hf1, rfl⟩⟩
              · rw [zmv, if_pos hwz, if_neg (by omega), if_pos h1, if_pos h2]
                exact ik_Wret rfl rfl ⟨_, _, rfl, rfl, rfl, rfl, ⟨rfl, cf, C, G, P, B, hC, hG, hP, hB, hf0, hf1, rfl⟩⟩
        · refine ik_Wk 0 (pc' := 77) (loc' := [some (.ref 1), some (fI p), some (fI sum), some (fI (r.length : Int)), some (fI (zS y n cur))]) (st' := [fI 0]) (h' := (c0 :: cz_t T n (zS y n cur) fl fb pl C G P B tl)) (cl' := 0) (sl' := 0) rfl ?_
          refine fw_if_ne rfl rfl (by omega) (by omega) (fun hc32 => ?_) (fun hc32 => absurd hc32 (by omega))
          refine ik_Wk 3 (pc' := 84) (loc' := [some (.ref 1), some (fI p), some (fI sum), some (fI (r.length : Int)), some (fI (zS y n cur))]) (st' := [fI (zS y n cur), fI 1, .ref 1]) (h' := (c0 :: cz_t T n (zS y n cur) fl fb pl C G P B tl)) (cl' := 0) (sl' := 0) rfl ?_
          refine fw_call 67 3 0 [.ref 1, fI 1, fI (zS y n cur)] [] rfl rfl rfl (by decide) rfl rfl (fw_rec (cz_len htl) rfl rfl rfl (by decide)) (cz_refuse ok) ?_
          rintro rv h' ⟨rfl, rfl⟩
          refine ik_Wk 0 (pc' := 87) (loc' := [some (.ref 1), some (fI p), some (fI sum), some (fI (r.length : Int)), some (fI (zS y n cur))]) (st' := [fI 0]) (h' := (c0 :: cz_t T n (zS y n cur) 1 (zS y n cur) pl C G P B tl)) (cl' := 0) (sl' := 0) rfl ?_
          have hwz := hw21
          have hne : ¬ (r ≠ [] ∧ zS y n cur < n ∧ y (zS y n cur) = 59) := fun q => by have := List.length_pos_iff.mpr q.1; omega
          rw [zmv, if_neg (by rw [hwz]; decide), if_neg hne]
          exact ik_Wret rfl rfl ⟨_, _, rfl, rfl, rfl, rfl, ⟨rfl, _, _, G, P, B, hC, hG, hP, hB, by omega, by omega, rfl⟩⟩

theorem cz_mv {c0 : ik_E} {tl : List ik_E} {y : Int → Int} {T : List Int} {n fl fb pl : Int} {C G P B : List Int} (ok : cz_ok y T n tl) {p cur : Int} (hC : C.length = 12) (hG : G.length = 48) (hP : P.length = 48) (hB : B.length = 48) (hp : 0 ≤ p) (hp2 : p ≤ 10) (h0 : 0 ≤ cur) (h1 : cur ≤ n) : ik_F 58 [.ref 1, fI p] (c0 :: cz_t T n cur fl fb pl C G P B tl) (cz_RM c0 tl T n fl fb pl C G P B p (zmv y n 5 [] 0 cur)) := by
  have ok' := ok
  obtain ⟨htl, hT, bT, hn, hn2, hy⟩ := ok'
  refine ik_Wk 6 (pc' := 6) (loc' := [some (.ref 1), some (fI p), some (fI 0), some (fI 0), none]) (st' := [fI 4, fI 0]) (h' := (c0 :: cz_t T n cur fl fb pl C G P B tl)) (cl' := 0) (sl' := 0) rfl ?_
  refine fw_ic_gt rfl rfl (by omega) (by omega) (by omega) (by omega) (fun hc1 => absurd hc1 (by omega)) (fun hc1 => ?_)
  refine ik_Wk 1 (pc' := 10) (loc' := [some (.ref 1), some (fI p), some (fI 0), some (fI 0), none]) (st' := [.ref 1]) (h' := (c0 :: cz_t T n cur fl fb pl C G P B tl)) (cl' := 0) (sl' := 0) rfl ?_
  refine fw_call 66 1 0 [.ref 1] [] rfl rfl rfl (by decide) rfl rfl (fw_rec (cz_len htl) rfl rfl rfl (by decide)) (cz_skip ok (by omega) (by omega)) ?_
  rintro rv h' ⟨rfl, rfl⟩
  have hz2 := zS_ge (y := y) (n := n) cur
  have hz3 := zS_le (y := y) (n := n) (i := cur) (by omega)
  refine ik_Wk 0 (pc' := 13) (loc' := [some (.ref 1), some (fI p), some (fI 0), some (fI 0), none]) (st' := []) (h' := (c0 :: cz_t T n (zS y n cur) fl fb pl C G P B tl)) (cl' := 0) (sl' := 0) rfl ?_
  refine ik_Wk 1 (pc' := 14) (loc' := [some (.ref 1), some (fI p), some (fI 0), some (fI 0), none]) (st' := [.ref 1]) (h' := (c0 :: cz_t T n (zS y n cur) fl fb pl C G P B tl)) (cl' := 0) (sl' := 0) rfl ?_
  refine fw_gf rfl rfl rfl rfl ?_
  refine ik_Wk 1 (pc' := 19) (loc' := [some (.ref 1), some (fI p), some (fI 0), some (fI 0), some (fI (zS y n cur))]) (st' := []) (h' := (c0 :: cz_t T n (zS y n cur) fl fb pl C G P B tl)) (cl' := 0) (sl' := 0) rfl ?_
  exact cz_mvL ok hC hp hp2 4 [] 0 cur G P B rfl hG hP hB (fun i m q => nomatch q) (fun _ _ => rfl) (fun _ _ => rfl) (fun _ _ => rfl) (fun m q => nomatch q) (by omega) (by omega) h0 h1
