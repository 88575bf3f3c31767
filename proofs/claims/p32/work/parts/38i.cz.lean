theorem znum0 {y : Int → Int} {n lo hi s : Int} (h : znum y n lo hi s = 0) : ¬ zD y n s = s ∧ lo ≤ zv y n s ∧ zv y n s ≤ hi := by
  unfold znum at h
  unfold zv
  split at h
  · omega
  · split at h
    · rename_i a b; exact ⟨a, b.1, b.2⟩
    · omega
theorem znumR {y : Int → Int} {n lo hi s : Int} : 0 ≤ znum y n lo hi s ∧ znum y n lo hi s ≤ 2 := by
  unfold znum
  split
  · omega
  · split <;> omega
theorem zany_t {r : List zM} {v k : Int} (h0 : 0 ≤ k) (h1 : k < (r.length : Int)) (h : (r.getD k.toNat (0, 0, 0)).1 = v) : (r.any fun m => decide (m.1 = v)) = true := by
  have hk : k.toNat < r.length := by omega
  rw [List.getD_eq_getElem?_getD, List.getElem?_eq_getElem hk] at h
  exact List.any_eq_true.mpr ⟨r[k.toNat], List.getElem_mem hk, decide_eq_true h⟩
theorem zany_f {r : List zM} {v : Int} (h : ∀ k : Int, 0 ≤ k → k < (r.length : Int) → ¬ (r.getD k.toNat (0, 0, 0)).1 = v) : (r.any fun m => decide (m.1 = v)) = false := by
  cases e : (r.any fun m => decide (m.1 = v)) with
  | false => rfl
  | true =>
    obtain ⟨m, hm, hd⟩ := List.any_eq_true.mp e
    obtain ⟨k, hk, hg⟩ := List.mem_iff_getElem.mp hm
    refine absurd (of_decide_eq_true hd) ?_
    have := h (k : Int) (by omega) (by omega)
    rw [List.getD_eq_getElem?_getD, Int.toNat_natCast, List.getElem?_eq_getElem hk, Option.getD_some, hg] at this
    exact this

theorem cz_goalL {c0 : ik_E} {tl : List ik_E} {y : Int → Int} {T : List Int} {n fl fb pl : Int} {C G P B : List Int} (ok : cz_ok y T n tl) {s p i v : Int} {r : List zM} (hC : C.length = 12) (hG : G.length = 48) (hP : P.length = 48) (hB : B.length = 48) (hp : 0 ≤ p) (hp2 : p ≤ 10) (hi : i = (r.length : Int)) (hr : r.length ≤ 3) (hz : ∀ k : Int, 0 ≤ k → k < (r.length : Int) → G.getD (p * 4 + k).toNat 0 = (r.getD k.toNat (0, 0, 0)).1 ∧ 0 ≤ (r.getD k.toNat (0, 0, 0)).1 ∧ (r.getD k.toNat (0, 0, 0)).1 ≤ 11) (hv : 0 ≤ v) (hv2 : v ≤ 11) : ∀ (d : Nat) (k : Int), (i - k).toNat = d → 0 ≤ k → k ≤ i → (∀ j : Int, 0 ≤ j → j < k → ¬ (r.getD j.toNat (0, 0, 0)).1 = v) → ik_G 59 29 [some (.ref 1), some (fI p), some (fI i), some (fI s), some (fI v), some (fI k)] [] (c0 :: cz_t T n (zD y n s) fl fb pl C G P B tl) (fun rv h' => ((r.any fun m => decide (m.1 = v)) = false ∧ rv = [fI 1] ∧ h' = (c0 :: cz_t T n (zD y n s) fl fb pl C (G.set (p * 4 + i).toNat v) P (B.set (p * 4 + i).toNat s) tl)) ∨ ((r.any fun m => decide (m.1 = v)) = true ∧ rv = [fI 0] ∧ h' = (c0 :: cz_t T n (zD y n s) 4 s pl C G P B tl))) := by
  have ok' := ok
  obtain ⟨htl, hT, bT, hn, hn2, hy⟩ := ok'
  intro d
  induction d using Nat.strongRecOn with
  | _ d ih =>
    intro k hk h1 h2 hno
    refine ik_Wk 2 (pc' := 32) (loc' := [some (.ref 1), some (fI p), some (fI i), some (fI s), some (fI v), some (fI k)]) (st' := [fI i, fI k]) (h' := (c0 :: cz_t T n (zD y n s) fl fb pl C G P B tl)) (cl' := 0) (sl' := 0) rfl ?_
    refine fw_ic_ge rfl rfl (by omega) (by omega) (by omega) (by omega) (fun hc1 => ?_) (fun hc1 => ?_)
    · refine ik_Wk 1 (pc' := 65) (loc' := [some (.ref 1), some (fI p), some (fI i), some (fI s), some (fI v), some (fI k)]) (st' := [.ref 1]) (h' := (c0 :: cz_t T n (zD y n s) fl fb pl C G P B tl)) (cl' := 0) (sl' := 0) rfl ?_
      refine fw_gf rfl rfl rfl rfl ?_
      refine ik_Wk 2 (pc' := 70) (loc' := [some (.ref 1), some (fI p), some (fI i), some (fI s), some (fI v), some (fI k)]) (st' := [fI 4, fI p, .ref 4]) (h' := (c0 :: cz_t T n (zD y n s) fl fb pl C G P B tl)) (cl' := 0) (sl' := 0) rfl ?_
      refine fw_mul rfl ?_
      refine ik_Wk 1 (pc' := 72) (loc' := [some (.ref 1), some (fI p), some (fI i), some (fI s), some (fI v), some (fI k)]) (st' := [fI i, fI (p * 4), .ref 4]) (h' := (c0 :: cz_t T n (zD y n s) fl fb pl C G P B tl)) (cl' := 0) (sl' := 0) rfl ?_
      refine fw_add rfl ?_
      refine ik_Wk 1 (pc' := 75) (loc' := [some (.ref 1), some (fI p), some (fI i), some (fI s), some (fI v), some (fI k)]) (st' := [fI v, fI ((p * 4) + i), .ref 4]) (h' := (c0 :: cz_t T n (zD y n s) fl fb pl C G P B tl)) (cl' := 0) (sl' := 0) rfl ?_
      have hl2 : (G.set ((p * 4) + i).toNat v).length = 48 := (List.length_set ..).trans hG
      refine fw_ias (h' := (c0 :: cz_t T n (zD y n s) fl fb pl C (G.set ((p * 4) + i).toNat v) P B tl)) rfl rfl (by omega) (by omega) (by omega) rfl ?_
      refine ik_Wk 1 (pc' := 77) (loc' := [some (.ref 1), some (fI p), some (fI i), some (fI s), some (fI v), some (fI k)]) (st' := [.ref 1]) (h' := (c0 :: cz_t T n (zD y n s) fl fb pl C (G.set ((p * 4) + i).toNat v) P B tl)) (cl' := 0) (sl' := 0) rfl ?_
      refine fw_gf rfl rfl rfl rfl ?_
      refine ik_Wk 2 (pc' := 82) (loc' := [some (.ref 1), some (fI p), some (fI i), some (fI s), some (fI v), some (fI k)]) (st' := [fI 4, fI p, .ref 6]) (h' := (c0 :: cz_t T n (zD y n s) fl fb pl C (G.set ((p * 4) + i).toNat v) P B tl)) (cl' := 0) (sl' := 0) rfl ?_
      refine fw_mul rfl ?_
      refine ik_Wk 1 (pc' := 84) (loc' := [some (.ref 1), some (fI p), some (fI i), some (fI s), some (fI v), some (fI k)]) (st' := [fI i, fI (p * 4), .ref 6]) (h' := (c0 :: cz_t T n (zD y n s) fl fb pl C (G.set ((p * 4) + i).toNat v) P B tl)) (cl' := 0) (sl' := 0) rfl ?_
      refine fw_add rfl ?_
      refine ik_Wk 1 (pc' := 86) (loc' := [some (.ref 1), some (fI p), some (fI i), some (fI s), some (fI v), some (fI k)]) (st' := [fI s, fI ((p * 4) + i), .ref 6]) (h' := (c0 :: cz_t T n (zD y n s) fl fb pl C (G.set ((p * 4) + i).toNat v) P B tl)) (cl' := 0) (sl' := 0) rfl ?_
      have hl3 : (B.set ((p * 4) + i).toNat s).length = 48 := (List.length_set ..).trans hB
      refine fw_ias (h' := (c0 :: cz_t T n (zD y n s) fl fb pl C (G.set ((p * 4) + i).toNat v) P (B.set ((p * 4) + i).toNat s) tl)) rfl rfl (by omega) (by omega) (by omega) rfl ?_
      refine ik_Wk 1 (pc' := 88) (loc' := [some (.ref 1), some (fI p), some (fI i), some (fI s), some (fI v), some (fI k)]) (st' := [fI 1]) (h' := (c0 :: cz_t T n (zD y n s) fl fb pl C (G.set ((p * 4) + i).toNat v) P (B.set ((p * 4) + i).toNat s) tl)) (cl' := 0) (sl' := 0) rfl ?_
      exact ik_Wret rfl rfl ⟨_, _, rfl, rfl, rfl, rfl, (Or.inl ⟨zany_f (fun j j0 j1 => hno j j0 (by omega)), rfl, rfl⟩)⟩
    · refine ik_Wk 1 (pc' := 36) (loc' := [some (.ref 1), some (fI p), some (fI i), some (fI s), some (fI v), some (fI k)]) (st' := [.ref 1]) (h' := (c0 :: cz_t T n (zD y n s) fl fb pl C G P B tl)) (cl' := 0) (sl' := 0) rfl ?_
      refine fw_gf rfl rfl rfl rfl ?_
      refine ik_Wk 2 (pc' := 41) (loc' := [some (.ref 1), some (fI p), some (fI i), some (fI s), some (fI v), some (fI k)]) (st' := [fI 4, fI p, .ref 4]) (h' := (c0 :: cz_t T n (zD y n s) fl fb pl C G P B tl)) (cl' := 0) (sl' := 0) rfl ?_
      refine fw_mul rfl ?_
      refine ik_Wk 1 (pc' := 44) (loc' := [some (.ref 1), some (fI p), some (fI i), some (fI s), some (fI v), some (fI k)]) (st' := [fI k, fI (p * 4), .ref 4]) (h' := (c0 :: cz_t T n (zD y n s) fl fb pl C G P B tl)) (cl' := 0) (sl' := 0) rfl ?_
      refine fw_add rfl ?_
      refine fw_ial rfl rfl (by omega) (by omega) (by omega) ?_
      have hb4 := hz k (by omega) (by omega)
      refine ik_Wk 1 (pc' := 48) (loc' := [some (.ref 1), some (fI p), some (fI i), some (fI s), some (fI v), some (fI k)]) (st' := [fI v, fI (G.getD ((p * 4) + k).toNat 0)]) (h' := (c0 :: cz_t T n (zD y n s) fl fb pl C G P B tl)) (cl' := 0) (sl' := 0) rfl ?_
      refine fw_ic_ne rfl rfl (by omega) (by omega) (by omega) (by omega) (fun hc5 => ?_) (fun hc5 => ?_)
      · refine ik_Wk 3 (pc' := 54) (loc' := [some (.ref 1), some (fI p), some (fI i), some (fI s), some (fI v), some (fI k)]) (st' := [fI s, fI 4, .ref 1]) (h' := (c0 :: cz_t T n (zD y n s) fl fb pl C G P B tl)) (cl' := 0) (sl' := 0) rfl ?_
        refine fw_call 67 3 0 [.ref 1, fI 4, fI s] [] rfl rfl rfl (by decide) rfl rfl (fw_rec (cz_len htl) rfl rfl rfl (by decide)) (cz_refuse ok) ?_
        rintro rv h' ⟨rfl, rfl⟩
        refine ik_Wk 0 (pc' := 57) (loc' := [some (.ref 1), some (fI p), some (fI i), some (fI s), some (fI v), some (fI k)]) (st' := [fI 0]) (h' := (c0 :: cz_t T n (zD y n s) 4 s pl C G P B tl)) (cl' := 0) (sl' := 0) rfl ?_
        exact ik_Wret rfl rfl ⟨_, _, rfl, rfl, rfl, rfl, (Or.inr ⟨zany_t (k := k) (by omega) (by omega) (by omega), rfl, rfl⟩)⟩
      · refine fw_inc (a := k) (loc' := [some (.ref 1), some (fI p), some (fI i), some (fI s), some (fI v), some (fI (k + 1))]) rfl rfl (Nat.le_of_ble_eq_true rfl) rfl ?_
        refine ik_Wk 1 (pc' := 29) (loc' := [some (.ref 1), some (fI p), some (fI i), some (fI s), some (fI v), some (fI (k + 1))]) (st' := []) (h' := (c0 :: cz_t T n (zD y n s) fl fb pl C G P B tl)) (cl' := 0) (sl' := 0) rfl ?_
        exact ih _ (by omega) (k + 1) rfl (by omega) (by omega) (fun j j0 j1 => by by_cases q : j = k; (subst q; omega); exact hno j j0 (by omega))

theorem cz_goal {c0 : ik_E} {tl : List ik_E} {y : Int → Int} {T : List Int} {n fl fb pl : Int} {C G P B : List Int} (ok : cz_ok y T n tl) {cur p i : Int} {r : List zM} (hC : C.length = 12) (hG : G.length = 48) (hP : P.length = 48) (hB : B.length = 48) (hp : 0 ≤ p) (hp2 : p ≤ 10) (hi : i = (r.length : Int)) (hr : r.length ≤ 3) (hz : ∀ k : Int, 0 ≤ k → k < (r.length : Int) → G.getD (p * 4 + k).toNat 0 = (r.getD k.toNat (0, 0, 0)).1 ∧ 0 ≤ (r.getD k.toNat (0, 0, 0)).1 ∧ (r.getD k.toNat (0, 0, 0)).1 ≤ 11) (h0 : 0 ≤ cur) (h1 : cur ≤ n) : ik_F 59 [.ref 1, fI p, fI i] (c0 :: cz_t T n cur fl fb pl C G P B tl) (fun rv h' => (znum y n 0 11 (zS y n cur) = 0 ∧ (r.any fun m => decide (m.1 = zv y n (zS y n cur))) = false ∧ rv = [fI 1] ∧ h' = (c0 :: cz_t T n (zD y n (zS y n cur)) fl fb pl C (G.set (p * 4 + i).toNat (zv y n (zS y n cur))) P (B.set (p * 4 + i).toNat (zS y n cur)) tl)) ∨ (∃ f cur', ((¬ znum y n 0 11 (zS y n cur) = 0 ∧ f = znum y n 0 11 (zS y n cur)) ∨ (znum y n 0 11 (zS y n cur) = 0 ∧ (r.any fun m => decide (m.1 = zv y n (zS y n cur))) = true ∧ f = 4)) ∧ rv = [fI 0] ∧ 0 ≤ cur' ∧ cur' ≤ n ∧ h' = (c0 :: cz_t T n cur' f (zS y n cur) pl C G P B tl))) := by
  have ok' := ok
  obtain ⟨htl, hT, bT, hn, hn2, hy⟩ := ok'
  refine ik_Wk 1 (pc' := 1) (loc' := [some (.ref 1), some (fI p), some (fI i), none, none, none]) (st' := [.ref 1]) (h' := (c0 :: cz_t T n cur fl fb pl C G P B tl)) (cl' := 0) (sl' := 0) rfl ?_
  refine fw_call 66 1 0 [.ref 1] [] rfl rfl rfl (by decide) rfl rfl (fw_rec (cz_len htl) rfl rfl rfl (by decide)) (cz_skip ok (by omega) (by omega)) ?_
  rintro rv h' ⟨rfl, rfl⟩
  have hz1 := zS_ge (y := y) (n := n) cur
  have hz2 := zS_le (y := y) (n := n) (i := cur) (by omega)
  refine ik_Wk 0 (pc' := 4) (loc' := [some (.ref 1), some (fI p), some (fI i), none, none, none]) (st' := []) (h' := (c0 :: cz_t T n (zS y n cur) fl fb pl C G P B tl)) (cl' := 0) (sl' := 0) rfl ?_
  refine ik_Wk 1 (pc' := 5) (loc' := [some (.ref 1), some (fI p), some (fI i), none, none, none]) (st' := [.ref 1]) (h' := (c0 :: cz_t T n (zS y n cur) fl fb pl C G P B tl)) (cl' := 0) (sl' := 0) rfl ?_
  refine fw_gf rfl rfl rfl rfl ?_
  refine ik_Wk 3 (pc' := 11) (loc' := [some (.ref 1), some (fI p), some (fI i), some (fI (zS y n cur)), none, none]) (st' := [fI 0, .ref 1]) (h' := (c0 :: cz_t T n (zS y n cur) fl fb pl C G P B tl)) (cl' := 0) (sl' := 0) rfl ?_
  refine fw_bi rfl (by decide) ?_
  refine fw_call 63 3 0 [.ref 1, fI 0, fI 11] [] rfl rfl rfl (by decide) rfl rfl (fw_rec (cz_len htl) rfl rfl rfl (by decide)) (cz_num ok (by omega) (by omega) (by decide) (by decide) (by decide)) ?_
  rintro rv h' (⟨hn3, rfl, rfl⟩ | ⟨hn3, rfl, cx5, hn4a, hn4b, rfl⟩)
  · have hn4 := znum0 hn3
    have hz6 := zD_ge (y := y) (n := n) (zS y n cur)
    have hz7 := zD_le (y := y) (n := n) (i := zS y n cur) (by omega)
    refine ik_Wk 0 (pc' := 16) (loc' := [some (.ref 1), some (fI p), some (fI i), some (fI (zS y n cur)), none, none]) (st' := [fI (zv y n (zS y n cur))]) (h' := (c0 :: cz_t T n (zD y n (zS y n cur)) fl fb pl C G P B tl)) (cl' := 0) (sl' := 0) rfl ?_
    refine ik_Wk 3 (pc' := 21) (loc' := [some (.ref 1), some (fI p), some (fI i), some (fI (zS y n cur)), some (fI (zv y n (zS y n cur))), none]) (st' := [fI (-1), fI (zv y n (zS y n cur))]) (h' := (c0 :: cz_t T n (zD y n (zS y n cur)) fl fb pl C G P B tl)) (cl' := 0) (sl' := 0) rfl ?_
    refine fw_ic_ne rfl rfl (by omega) (by omega) (by omega) (by omega) (fun hc8 => absurd hc8 (by omega)) (fun hc8 => ?_)
    refine ik_Wk 2 (pc' := 29) (loc' := [some (.ref 1), some (fI p), some (fI i), some (fI (zS y n cur)), some (fI (zv y n (zS y n cur))), some (fI 0)]) (st' := []) (h' := (c0 :: cz_t T n (zD y n (zS y n cur)) fl fb pl C G P B tl)) (cl' := 0) (sl' := 0) rfl ?_
    refine ik_Wmono (cz_goalL ok hC hG hP hB hp hp2 hi hr hz (by omega) (by omega) _ 0 rfl (by omega) (by omega) (fun j j0 j1 => absurd j1 (by omega))) ?_
    rintro z ⟨ir, rv, z1, z2, z3, z4, z5⟩
    refine ⟨ir, rv, z1, z2, z3, z4, ?_⟩
    revert z5
    generalize z.2.2.2.1 = hx
    rintro (⟨ha, rfl, rfl⟩ | ⟨ha, rfl, rfl⟩)
    · exact Or.inl ⟨by assumption, ha, rfl, rfl⟩
    · exact Or.inr ⟨4, _, Or.inr ⟨by assumption, ha, rfl⟩, rfl, by omega, by omega, rfl⟩
  · refine ik_Wk 0 (pc' := 16) (loc' := [some (.ref 1), some (fI p), some (fI i), some (fI (zS y n cur)), none, none]) (st' := [fI (-1)]) (h' := (c0 :: cz_t T n cx5 (znum y n 0 11 (zS y n cur)) (zS y n cur) pl C G P B tl)) (cl' := 0) (sl' := 0) rfl ?_
    refine ik_Wk 3 (pc' := 21) (loc' := [some (.ref 1), some (fI p), some (fI i), some (fI (zS y n cur)), some (fI (-1)), none]) (st' := [fI (-1), fI (-1)]) (h' := (c0 :: cz_t T n cx5 (znum y n 0 11 (zS y n cur)) (zS y n cur) pl C G P B tl)) (cl' := 0) (sl' := 0) rfl ?_
    refine fw_ic_ne rfl rfl (by omega) (by omega) (by omega) (by omega) (fun hc9 => ?_) (fun hc9 => absurd hc9 (by omega))
    refine ik_Wk 1 (pc' := 25) (loc' := [some (.ref 1), some (fI p), some (fI i), some (fI (zS y n cur)), some (fI (-1)), none]) (st' := [fI 0]) (h' := (c0 :: cz_t T n cx5 (znum y n 0 11 (zS y n cur)) (zS y n cur) pl C G P B tl)) (cl' := 0) (sl' := 0) rfl ?_
    exact ik_Wret rfl rfl ⟨_, _, rfl, rfl, rfl, rfl, (Or.inr ⟨_, cx5, Or.inl ⟨by assumption, rfl⟩, rfl, by assumption, by assumption, rfl⟩)⟩

theorem cz_ch {c0 : ik_E} {tl : List ik_E} {y : Int → Int} {T : List Int} {n fl fb pl : Int} {C G P B : List Int} (ok : cz_ok y T n tl) {cur slot sum : Int} (hC : C.length = 12) (hG : G.length = 48) (hP : P.length = 48) (hB : B.length = 48) (hs : 0 ≤ slot) (hs2 : slot ≤ 47) (hm : 0 ≤ sum) (hm2 : sum ≤ 100) (h0 : 0 ≤ cur) (h1 : cur ≤ n) : ik_F 60 [.ref 1, fI slot, fI sum] (c0 :: cz_t T n cur fl fb pl C G P B tl) (fun rv h' => (znum y n 1 100 (zS y n cur) = 0 ∧ sum + zv y n (zS y n cur) ≤ 100 ∧ rv = [fI 1] ∧ h' = (c0 :: cz_t T n (zD y n (zS y n cur)) fl fb pl C G (P.set slot.toNat (zv y n (zS y n cur))) B tl)) ∨ (∃ f cur' P', ((¬ znum y n 1 100 (zS y n cur) = 0 ∧ f = znum y n 1 100 (zS y n cur)) ∨ (znum y n 1 100 (zS y n cur) = 0 ∧ 100 < sum + zv y n (zS y n cur) ∧ f = 5)) ∧ rv = [fI 0] ∧ P'.length = 48 ∧ 0 ≤ cur' ∧ cur' ≤ n ∧ h' = (c0 :: cz_t T n cur' f (zS y n cur) pl C G P' B tl))) := by
  have ok' := ok
  obtain ⟨htl, hT, bT, hn, hn2, hy⟩ := ok'
  refine ik_Wk 1 (pc' := 1) (loc' := [some (.ref 1), some (fI slot), some (fI sum), none, none]) (st' := [.ref 1]) (h' := (c0 :: cz_t T n cur fl fb pl C G P B tl)) (cl' := 0) (sl' := 0) rfl ?_
  refine fw_call 66 1 0 [.ref 1] [] rfl rfl rfl (by decide) rfl rfl (fw_rec (cz_len htl) rfl rfl rfl (by decide)) (cz_skip ok (by omega) (by omega)) ?_
  rintro rv h' ⟨rfl, rfl⟩
  have hz1 := zS_ge (y := y) (n := n) cur
  have hz2 := zS_le (y := y) (n := n) (i := cur) (by omega)
  refine ik_Wk 0 (pc' := 4) (loc' := [some (.ref 1), some (fI slot), some (fI sum), none, none]) (st' := []) (h' := (c0 :: cz_t T n (zS y n cur) fl fb pl C G P B tl)) (cl' := 0) (sl' := 0) rfl ?_
  refine ik_Wk 1 (pc' := 5) (loc' := [some (.ref 1), some (fI slot), some (fI sum), none, none]) (st' := [.ref 1]) (h' := (c0 :: cz_t T n (zS y n cur) fl fb pl C G P B tl)) (cl' := 0) (sl' := 0) rfl ?_
  refine fw_gf rfl rfl rfl rfl ?_
  refine ik_Wk 3 (pc' := 11) (loc' := [some (.ref 1), some (fI slot), some (fI sum), some (fI (zS y n cur)), none]) (st' := [fI 1, .ref 1]) (h' := (c0 :: cz_t T n (zS y n cur) fl fb pl C G P B tl)) (cl' := 0) (sl' := 0) rfl ?_
  refine fw_bi rfl (by decide) ?_
  refine fw_call 63 3 0 [.ref 1, fI 1, fI 100] [] rfl rfl rfl (by decide) rfl rfl (fw_rec (cz_len htl) rfl rfl rfl (by decide)) (cz_num ok (by omega) (by omega) (by decide) (by decide) (by decide)) ?_
  rintro rv h' (⟨hn3, rfl, rfl⟩ | ⟨hn3, rfl, cx5, hn4a, hn4b, rfl⟩)
  · have hn4 := znum0 hn3
    have hz6 := zD_ge (y := y) (n := n) (zS y n cur)
    have hz7 := zD_le (y := y) (n := n) (i := zS y n cur) (by omega)
    refine ik_Wk 0 (pc' := 16) (loc' := [some (.ref 1), some (fI slot), some (fI sum), some (fI (zS y n cur)), none]) (st' := [fI (zv y n (zS y n cur))]) (h' := (c0 :: cz_t T n (zD y n (zS y n cur)) fl fb pl C G P B tl)) (cl' := 0) (sl' := 0) rfl ?_
    refine ik_Wk 3 (pc' := 21) (loc' := [some (.ref 1), some (fI slot), some (fI sum), some (fI (zS y n cur)), some (fI (zv y n (zS y n cur)))]) (st' := [fI (-1), fI (zv y n (zS y n cur))]) (h' := (c0 :: cz_t T n (zD y n (zS y n cur)) fl fb pl C G P B tl)) (cl' := 0) (sl' := 0) rfl ?_
    refine fw_ic_ne rfl rfl (by omega) (by omega) (by omega) (by omega) (fun hc8 => absurd hc8 (by omega)) (fun hc8 => ?_)
    refine ik_Wk 1 (pc' := 27) (loc' := [some (.ref 1), some (fI slot), some (fI sum), some (fI (zS y n cur)), some (fI (zv y n (zS y n cur)))]) (st' := [.ref 1]) (h' := (c0 :: cz_t T n (zD y n (zS y n cur)) fl fb pl C G P B tl)) (cl' := 0) (sl' := 0) rfl ?_
    refine fw_gf rfl rfl rfl rfl ?_
    refine ik_Wk 2 (pc' := 33) (loc' := [some (.ref 1), some (fI slot), some (fI sum), some (fI (zS y n cur)), some (fI (zv y n (zS y n cur)))]) (st' := [fI (zv y n (zS y n cur)), fI slot, .ref 5]) (h' := (c0 :: cz_t T n (zD y n (zS y n cur)) fl fb pl C G P B tl)) (cl' := 0) (sl' := 0) rfl ?_
    have hl9 : (P.set slot.toNat (zv y n (zS y n cur))).length = 48 := (List.length_set ..).trans hP
    refine fw_ias (h' := (c0 :: cz_t T n (zD y n (zS y n cur)) fl fb pl C G (P.set slot.toNat (zv y n (zS y n cur))) B tl)) rfl rfl (by omega) (by omega) (by omega) rfl ?_
    refine ik_Wk 2 (pc' := 37) (loc' := [some (.ref 1), some (fI slot), some (fI sum), some (fI (zS y n cur)), some (fI (zv y n (zS y n cur)))]) (st' := [fI (zv y n (zS y n cur)), fI sum]) (h' := (c0 :: cz_t T n (zD y n (zS y n cur)) fl fb pl C G (P.set slot.toNat (zv y n (zS y n cur))) B tl)) (cl' := 0) (sl' := 0) rfl ?_
    refine fw_add rfl ?_
    refine fw_bi rfl (by decide) ?_
    refine fw_ic_le rfl rfl (by omega) (by omega) (by omega) (by omega) (fun hc10 => ?_) (fun hc10 => ?_)
    · refine ik_Wk 2 (pc' := 57) (loc' := [some (.ref 1), some (fI slot), some (fI sum), some (fI (zS y n cur)), some (fI (zv y n (zS y n cur)))]) (st' := [fI 1]) (h' := (c0 :: cz_t T n (zD y n (zS y n cur)) fl fb pl C G (P.set slot.toNat (zv y n (zS y n cur))) B tl)) (cl' := 0) (sl' := 0) rfl ?_
      exact ik_Wret rfl rfl ⟨_, _, rfl, rfl, rfl, rfl, (Or.inl ⟨by assumption, by omega, rfl, rfl⟩)⟩
    · refine ik_Wk 3 (pc' := 46) (loc' := [some (.ref 1), some (fI slot), some (fI sum), some (fI (zS y n cur)), some (fI (zv y n (zS y n cur)))]) (st' := [fI (zS y n cur), fI 5, .ref 1]) (h' := (c0 :: cz_t T n (zD y n (zS y n cur)) fl fb pl C G (P.set slot.toNat (zv y n (zS y n cur))) B tl)) (cl' := 0) (sl' := 0) rfl ?_
      refine fw_call 67 3 0 [.ref 1, fI 5, fI (zS y n cur)] [] rfl rfl rfl (by decide) rfl rfl (fw_rec (cz_len htl) rfl rfl rfl (by decide)) (cz_refuse ok) ?_
      rintro rv h' ⟨rfl, rfl⟩
      refine ik_Wk 0 (pc' := 49) (loc' := [some (.ref 1), some (fI slot), some (fI sum), some (fI (zS y n cur)), some (fI (zv y n (zS y n cur)))]) (st' := [fI 0]) (h' := (c0 :: cz_t T n (zD y n (zS y n cur)) 5 (zS y n cur) pl C G (P.set slot.toNat (zv y n (zS y n cur))) B tl)) (cl' := 0) (sl' := 0) rfl ?_
      refine fw_if_eq rfl rfl (by omega) (by omega) (fun hc11 => ?_) (fun hc11 => absurd hc11 (by omega))
      refine ik_Wk 1 (pc' := 57) (loc' := [some (.ref 1), some (fI slot), some (fI sum), some (fI (zS y n cur)), some (fI (zv y n (zS y n cur)))]) (st' := [fI 0]) (h' := (c0 :: cz_t T n (zD y n (zS y n cur)) 5 (zS y n cur) pl C G (P.set slot.toNat (zv y n (zS y n cur))) B tl)) (cl' := 0) (sl' := 0) rfl ?_
      exact ik_Wret rfl rfl ⟨_, _, rfl, rfl, rfl, rfl, (Or.inr ⟨5, _, _, Or.inr ⟨by assumption, by omega, rfl⟩, rfl, (List.length_set ..).trans hP, by omega, by omega, rfl⟩)⟩
  · refine ik_Wk 0 (pc' := 16) (loc' := [some (.ref 1), some (fI slot), some (fI sum), some (fI (zS y n cur)), none]) (st' := [fI (-1)]) (h' := (c0 :: cz_t T n cx5 (znum y n 1 100 (zS y n cur)) (zS y n cur) pl C G P B tl)) (cl' := 0) (sl' := 0) rfl ?_
    refine ik_Wk 3 (pc' := 21) (loc' := [some (.ref 1), some (fI slot), some (fI sum), some (fI (zS y n cur)), some (fI (-1))]) (st' := [fI (-1), fI (-1)]) (h' := (c0 :: cz_t T n cx5 (znum y n 1 100 (zS y n cur)) (zS y n cur) pl C G P B tl)) (cl' := 0) (sl' := 0) rfl ?_
    refine fw_ic_ne rfl rfl (by omega) (by omega) (by omega) (by omega) (fun hc12 => ?_) (fun hc12 => absurd hc12 (by omega))
    refine ik_Wk 1 (pc' := 25) (loc' := [some (.ref 1), some (fI slot), some (fI sum), some (fI (zS y n cur)), some (fI (-1))]) (st' := [fI 0]) (h' := (c0 :: cz_t T n cx5 (znum y n 1 100 (zS y n cur)) (zS y n cur) pl C G P B tl)) (cl' := 0) (sl' := 0) rfl ?_
    exact ik_Wret rfl rfl ⟨_, _, rfl, rfl, rfl, rfl, (Or.inr ⟨_, cx5, P, Or.inl ⟨by assumption, rfl⟩, rfl, hP, by assumption, by assumption, rfl⟩)⟩

theorem cz_end {c0 : ik_E} {tl : List ik_E} {y : Int → Int} {T : List Int} {n fl fb pl : Int} {C G P B : List Int} (ok : cz_ok y T n tl) {cur : Int} (h0 : 0 ≤ cur) (h1 : cur ≤ n) : ik_F 61 [.ref 1] (c0 :: cz_t T n cur fl fb pl C G P B tl) (fun rv h' => ((zend y n cur).1 = 0 ∧ rv = [fI 1] ∧ ∃ cur', 0 ≤ cur' ∧ cur' ≤ n ∧ h' = (c0 :: cz_t T n cur' fl fb pl C G P B tl)) ∨ (¬ (zend y n cur).1 = 0 ∧ rv = [fI 0] ∧ ∃ cur', 0 ≤ cur' ∧ cur' ≤ n ∧ h' = (c0 :: cz_t T n cur' ((zend y n cur).1) ((zend y n cur).2) pl C G P B tl))) := by
  have ok' := ok
  obtain ⟨htl, hT, bT, hn, hn2, hy⟩ := ok'
  refine ik_Wk 1 (pc' := 1) (loc' := [some (.ref 1)]) (st' := [.ref 1]) (h' := (c0 :: cz_t T n cur fl fb pl C G P B tl)) (cl' := 0) (sl' := 0) rfl ?_
  refine fw_call 66 1 0 [.ref 1] [] rfl rfl rfl (by decide) rfl rfl (fw_rec (cz_len htl) rfl rfl rfl (by decide)) (cz_skip ok (by omega) (by omega)) ?_
  rintro rv h' ⟨rfl, rfl⟩
  have hz1 := zS_ge (y := y) (n := n) cur
  have hz2 := zS_le (y := y) (n := n) (i := cur) (by omega)
  refine ik_Wk 0 (pc' := 4) (loc' := [some (.ref 1)]) (st' := []) (h' := (c0 :: cz_t T n (zS y n cur) fl fb pl C G P B tl)) (cl' := 0) (sl' := 0) rfl ?_
  refine ik_Wk 1 (pc' := 5) (loc' := [some (.ref 1)]) (st' := [.ref 1]) (h' := (c0 :: cz_t T n (zS y n cur) fl fb pl C G P B tl)) (cl' := 0) (sl' := 0) rfl ?_
  refine fw_bi rfl (by decide) ?_
  refine fw_call 65 2 0 [.ref 1, fI 59] [] rfl rfl rfl (by decide) rfl rfl (fw_rec (cz_len htl) rfl rfl rfl (by decide)) (cz_stands ok (by omega) (by omega) (by decide) (by decide)) ?_
  rintro rv h' ⟨⟨ht3, ht4, rfl⟩ | ⟨ht3, rfl⟩, rfl⟩
  · refine ik_Wk 0 (pc' := 10) (loc' := [some (.ref 1)]) (st' := [fI 1]) (h' := (c0 :: cz_t T n (zS y n cur) fl fb pl C G P B tl)) (cl' := 0) (sl' := 0) rfl ?_
    refine fw_if_ne rfl rfl (by omega) (by omega) (fun hc5 => absurd hc5 (by omega)) (fun hc5 => ?_)
    refine ik_Wk 2 (pc' := 25) (loc' := [some (.ref 1)]) (st' := [.ref 1, .ref 1]) (h' := (c0 :: cz_t T n (zS y n cur) fl fb pl C G P B tl)) (cl' := 0) (sl' := 0) rfl ?_
    refine fw_gf rfl rfl rfl rfl ?_
    refine ik_Wk 1 (pc' := 29) (loc' := [some (.ref 1)]) (st' := [fI 1, fI (zS y n cur), .ref 1]) (h' := (c0 :: cz_t T n (zS y n cur) fl fb pl C G P B tl)) (cl' := 0) (sl' := 0) rfl ?_
    refine fw_add rfl ?_
    refine fw_pf (h' := (c0 :: cz_t T n ((zS y n cur) + 1) fl fb pl C G P B tl)) rfl rfl rfl (Nat.le_of_ble_eq_true rfl) rfl rfl rfl ?_
    refine ik_Wk 1 (pc' := 34) (loc' := [some (.ref 1)]) (st' := [.ref 1]) (h' := (c0 :: cz_t T n ((zS y n cur) + 1) fl fb pl C G P B tl)) (cl' := 0) (sl' := 0) rfl ?_
    refine fw_call 66 1 0 [.ref 1] [] rfl rfl rfl (by decide) rfl rfl (fw_rec (cz_len htl) rfl rfl rfl (by decide)) (cz_skip ok (by omega) (by omega)) ?_
    rintro rv h' ⟨rfl, rfl⟩
    have hz6 := zS_ge (y := y) (n := n) ((zS y n cur) + 1)
    have hz7 := zS_le (y := y) (n := n) (i := (zS y n cur) + 1) (by omega)
    refine ik_Wk 0 (pc' := 37) (loc' := [some (.ref 1)]) (st' := []) (h' := (c0 :: cz_t T n (zS y n ((zS y n cur) + 1)) fl fb pl C G P B tl)) (cl' := 0) (sl' := 0) rfl ?_
    refine ik_Wk 1 (pc' := 38) (loc' := [some (.ref 1)]) (st' := [.ref 1]) (h' := (c0 :: cz_t T n (zS y n ((zS y n cur) + 1)) fl fb pl C G P B tl)) (cl' := 0) (sl' := 0) rfl ?_
    refine fw_gf rfl rfl rfl rfl ?_
    refine ik_Wk 1 (pc' := 42) (loc' := [some (.ref 1)]) (st' := [.ref 1, fI (zS y n ((zS y n cur) + 1))]) (h' := (c0 :: cz_t T n (zS y n ((zS y n cur) + 1)) fl fb pl C G P B tl)) (cl' := 0) (sl' := 0) rfl ?_
    refine fw_gf rfl rfl rfl rfl ?_
    refine fw_ic_ge rfl rfl (by omega) (by omega) (by omega) (by omega) (fun hc8 => ?_) (fun hc8 => ?_)
    · refine ik_Wk 2 (pc' := 65) (loc' := [some (.ref 1)]) (st' := [fI 1]) (h' := (c0 :: cz_t T n (zS y n ((zS y n cur) + 1)) fl fb pl C G P B tl)) (cl' := 0) (sl' := 0) rfl ?_
      have hz : zend y n cur = (0, 0) := by unfold zend; (repeat split) <;> first | rfl | omega
      exact ik_Wret rfl rfl ⟨_, _, rfl, rfl, rfl, rfl, (Or.inl ⟨by rw [hz], rfl, zS y n ((zS y n cur) + 1), by omega, by omega, rfl⟩)⟩
    · refine ik_Wk 3 (pc' := 51) (loc' := [some (.ref 1)]) (st' := [.ref 1, fI 1, .ref 1]) (h' := (c0 :: cz_t T n (zS y n ((zS y n cur) + 1)) fl fb pl C G P B tl)) (cl' := 0) (sl' := 0) rfl ?_
      refine fw_gf rfl rfl rfl rfl ?_
      refine fw_call 67 3 0 [.ref 1, fI 1, fI (zS y n ((zS y n cur) + 1))] [] rfl rfl rfl (by decide) rfl rfl (fw_rec (cz_len htl) rfl rfl rfl (by decide)) (cz_refuse ok) ?_
      rintro rv h' ⟨rfl, rfl⟩
      refine ik_Wk 0 (pc' := 57) (loc' := [some (.ref 1)]) (st' := [fI 0]) (h' := (c0 :: cz_t T n (zS y n ((zS y n cur) + 1)) 1 (zS y n ((zS y n cur) + 1)) pl C G P B tl)) (cl' := 0) (sl' := 0) rfl ?_
      refine fw_if_eq rfl rfl (by omega) (by omega) (fun hc9 => ?_) (fun hc9 => absurd hc9 (by omega))
      refine ik_Wk 1 (pc' := 65) (loc' := [some (.ref 1)]) (st' := [fI 0]) (h' := (c0 :: cz_t T n (zS y n ((zS y n cur) + 1)) 1 (zS y n ((zS y n cur) + 1)) pl C G P B tl)) (cl' := 0) (sl' := 0) rfl ?_
      have hz : zend y n cur = (1, zS y n ((zS y n cur) + 1)) := by unfold zend; (repeat split) <;> first | rfl | omega
      exact ik_Wret rfl rfl ⟨_, _, rfl, rfl, rfl, rfl, (Or.inr ⟨by rw [hz]; show ¬ (1 : Int) = 0; decide, rfl, zS y n ((zS y n cur) + 1), by omega, by omega, by rw [hz]⟩)⟩
  · refine ik_Wk 0 (pc' := 10) (loc' := [some (.ref 1)]) (st' := [fI 0]) (h' := (c0 :: cz_t T n (zS y n cur) fl fb pl C G P B tl)) (cl' := 0) (sl' := 0) rfl ?_
    refine fw_if_ne rfl rfl (by omega) (by omega) (fun hc10 => ?_) (fun hc10 => absurd hc10 (by omega))
    refine ik_Wk 3 (pc' := 16) (loc' := [some (.ref 1)]) (st' := [.ref 1, fI 1, .ref 1]) (h' := (c0 :: cz_t T n (zS y n cur) fl fb pl C G P B tl)) (cl' := 0) (sl' := 0) rfl ?_
    refine fw_gf rfl rfl rfl rfl ?_
    refine fw_call 67 3 0 [.ref 1, fI 1, fI (zS y n cur)] [] rfl rfl rfl (by decide) rfl rfl (fw_rec (cz_len htl) rfl rfl rfl (by decide)) (cz_refuse ok) ?_
    rintro rv h' ⟨rfl, rfl⟩
    refine ik_Wk 0 (pc' := 22) (loc' := [some (.ref 1)]) (st' := [fI 0]) (h' := (c0 :: cz_t T n (zS y n cur) 1 (zS y n cur) pl C G P B tl)) (cl' := 0) (sl' := 0) rfl ?_
    have hz : zend y n cur = (1, zS y n cur) := by unfold zend; (repeat split) <;> first | rfl | omega
    exact ik_Wret rfl rfl ⟨_, _, rfl, rfl, rfl, rfl, (Or.inr ⟨by rw [hz]; show ¬ (1 : Int) = 0; decide, rfl, zS y n cur, by omega, by omega, by rw [hz]⟩)⟩
