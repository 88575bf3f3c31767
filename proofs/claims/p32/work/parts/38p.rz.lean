def rz_RM (pre tl : List ik_E) (w : Nat → Value) (wt : List Value) (c : Nat → ik_E) (T : List Int) (n fp rp : Int) (M R O A : List Int) (res : (Int × Int) ⊕ (List zM × Int)) (rv : List Value) (h' : List ik_E) : Prop := match res with
  | .inl e => rv = [fI e.1] ∧ 1 ≤ e.1 ∧ e.1 ≤ 6 ∧ ∃ (a' sd' we' nu' na' : Int) (M' R' O' A' : List Int), M'.length = 12 ∧ R'.length = 48 ∧ O'.length = 48 ∧ A'.length = 48 ∧ 0 ≤ a' ∧ a' ≤ n ∧ h' = pre ++ rz_t w wt c tl T n e.2 a' sd' we' nu' na' rp M' R' O' A'
  | .inr q => rv = [fI 0] ∧ ∃ (sd' we' nu' na' : Int) (M' R' O' A' : List Int), M'.length = 12 ∧ R'.length = 48 ∧ O'.length = 48 ∧ A'.length = 48 ∧ 0 ≤ q.2 ∧ q.2 ≤ n ∧ h' = pre ++ rz_t w wt c tl T n fp q.2 sd' we' nu' na' (rp + 1) M' R' O' A' ∧ M'.getD rp.toNat 0 = (q.1.length : Int) ∧ (∀ j : Nat, ¬ j = rp.toNat → M'.getD j 0 = M.getD j 0) ∧ zh R' O' A' rp.toNat q.1 ∧ zag (4 * rp.toNat) R R' ∧ zag (4 * rp.toNat) O O' ∧ zag (4 * rp.toNat) A A' ∧ zrow q.1 ∧ q.1.length ≤ 4
theorem zh_hr {G P B : List Int} {p : Int} {r : List zM} (hp : 0 ≤ p) (h : zh G P B p.toNat r) (hr : zrow r) : ∀ k : Int, 0 ≤ k → k < (r.length : Int) → G.getD (4 * p + k).toNat 0 = (r.getD k.toNat (0, 0, 0)).1 ∧ 0 ≤ (r.getD k.toNat (0, 0, 0)).1 ∧ (r.getD k.toNat (0, 0, 0)).1 ≤ 11 := by
  intro k h0 h1
  have := zh_hz hp h hr k h0 h1
  rw [show 4 * p + k = p * 4 + k by omega]
  exact this

theorem rz_plE {pre tl : List ik_E} {w : Nat → Value} {wt : List Value} {c : Nat → ik_E} {y : Int → Int} {T : List Int} {n fp rp : Int} {M0 R0 O0 A0 : List Int} (ok : rz_ok y T n pre tl) {nu na cur sum : Int} {M R O A : List Int} {r : List zM} {w4 : Option Value} {k : Nat} (hrp : 0 ≤ rp) (hrp2 : rp ≤ 10) (hrl : r.length ≤ 4) (hw : ik_wl 94 w4 = true) (hM : M.length = 12) (hR : R.length = 48) (hO : O.length = 48) (hA : A.length = 48) (hcnt : M.getD rp.toNat 0 = (r.length : Int)) (hmj : ∀ j : Nat, ¬ j = rp.toNat → M.getD j 0 = M0.getD j 0) (hz : zh R O A rp.toNat r) (ag : zag (4 * rp.toNat) R0 R) (ap : zag (4 * rp.toNat) O0 O) (ab : zag (4 * rp.toNat) A0 A) (hr : zrow r) (hs0 : 0 ≤ sum) (hs1 : sum ≤ 100) (h0 : 0 ≤ cur) (h1 : cur ≤ n) (hto : zto y n (zS y n cur) = false) (hne : r ≠ []) : ik_G 144 52 [some (.ref 66), some (fI sum), some (fI (zS y n cur)), some (fI 0), w4] [] (pre ++ rz_t w wt c tl T n fp (zS y n cur) (zsd y (zS y n cur) (zE y n (zS y n cur) - zS y n cur).toNat) (zE y n (zS y n cur)) nu na rp M R O A) (rz_RM pre tl w wt c T n fp rp M0 R0 O0 A0 (zmv y n (k + 1) r sum cur)) := by
  have ok' := ok
  obtain ⟨hpre, htl, hT, bT, hn, hn2, hy⟩ := ok'
  have hz1 := zS_ge (y := y) (n := n) cur
  have hz2 := zS_le (y := y) (n := n) (i := cur) h1
  refine ik_Wk 1 (pc' := 53) (loc' := [some (.ref 66), some (fI sum), some (fI (zS y n cur)), some (fI 0), w4]) (st' := [fI 0]) (h' := (pre ++ rz_t w wt c tl T n fp (zS y n cur) (zsd y (zS y n cur) (zE y n (zS y n cur) - zS y n cur).toNat) (zE y n (zS y n cur)) nu na rp M R O A)) (cl' := 0) (sl' := 0) rfl ?_
  refine fw_if_eq rfl rfl (by omega) (by omega) (fun hc1 => ?_) (fun hc1 => absurd hc1 (by omega))
  refine ik_Wk 1 (pc' := 136) (loc' := [some (.ref 66), some (fI sum), some (fI (zS y n cur)), some (fI 0), w4]) (st' := [.ref 66]) (h' := (pre ++ rz_t w wt c tl T n fp (zS y n cur) (zsd y (zS y n cur) (zE y n (zS y n cur) - zS y n cur).toNat) (zE y n (zS y n cur)) nu na rp M R O A)) (cl' := 0) (sl' := 0) rfl ?_
  refine fw_call 136 1 0 [.ref 66] [] rfl rfl rfl (by decide) rfl rfl (fw_rec (rz_len hpre htl) (fw_ftw (l0 := [some (.ref 66), some (fI sum), some (fI (zS y n cur)), some (fI 0)]) hw rfl) (rz_g 0 hpre rfl) rfl (by decide)) (rz_here ok (by omega) (by omega)) ?_
  rw [zS_idem]
  rintro rv h' ⟨⟨ht2, rfl⟩ | ⟨ht2, rfl⟩, rfl⟩
  · have hb3 := bT (zS y n cur) (by omega) (by omega)
    have hb4 := hy (zS y n cur) (by omega) (by omega)
    refine ik_Wk 0 (pc' := 139) (loc' := [some (.ref 66), some (fI sum), some (fI (zS y n cur)), some (fI 0), w4]) (st' := [fI (y (zS y n cur))]) (h' := (pre ++ rz_t w wt c tl T n fp (zS y n cur) (zsd y (zS y n cur) (zE y n (zS y n cur) - zS y n cur).toNat) (zE y n (zS y n cur)) nu na rp M R O A)) (cl' := 0) (sl' := 0) rfl ?_
    refine fw_bi rfl (by decide) ?_
    refine fw_ic_eq rfl rfl (by omega) (by omega) (by omega) (by omega) (fun hc5 => ?_) (fun hc5 => ?_)
    · refine ik_Wk 1 (pc' := 155) (loc' := [some (.ref 66), some (fI sum), some (fI (zS y n cur)), some (fI 0), w4]) (st' := [fI sum]) (h' := (pre ++ rz_t w wt c tl T n fp (zS y n cur) (zsd y (zS y n cur) (zE y n (zS y n cur) - zS y n cur).toNat) (zE y n (zS y n cur)) nu na rp M R O A)) (cl' := 0) (sl' := 0) rfl ?_
      refine fw_bi rfl (by decide) ?_
      refine fw_ic_ge rfl rfl (by omega) (by omega) (by omega) (by omega) (fun hc6 => ?_) (fun hc6 => ?_)
      · refine ik_Wk 2 (pc' := 172) (loc' := [some (.ref 66), some (fI sum), some (fI (zS y n cur)), some (fI 0), w4]) (st' := [.ref 66, .ref 66]) (h' := (pre ++ rz_t w wt c tl T n fp (zS y n cur) (zsd y (zS y n cur) (zE y n (zS y n cur) - zS y n cur).toNat) (zE y n (zS y n cur)) nu na rp M R O A)) (cl' := 0) (sl' := 0) rfl ?_
        refine fw_gf rfl rfl (rz_g 0 hpre rfl) rfl ?_
        refine ik_Wk 1 (pc' := 176) (loc' := [some (.ref 66), some (fI sum), some (fI (zS y n cur)), some (fI 0), w4]) (st' := [fI 1, fI (zS y n cur), .ref 66]) (h' := (pre ++ rz_t w wt c tl T n fp (zS y n cur) (zsd y (zS y n cur) (zE y n (zS y n cur) - zS y n cur).toNat) (zE y n (zS y n cur)) nu na rp M R O A)) (cl' := 0) (sl' := 0) rfl ?_
        refine fw_add rfl ?_
        refine fw_pf (h' := (pre ++ rz_t w wt c tl T n fp ((zS y n cur) + 1) (zsd y (zS y n cur) (zE y n (zS y n cur) - zS y n cur).toNat) (zE y n (zS y n cur)) nu na rp M R O A)) rfl rfl (rz_g 0 hpre rfl) (Nat.le_of_ble_eq_true rfl) rfl rfl (rz_s 0 hpre rfl) ?_
        refine ik_Wk 2 (pc' := 182) (loc' := [some (.ref 66), some (fI sum), some (fI (zS y n cur)), some (fI 0), w4]) (st' := [.ref 66, .ref 66]) (h' := (pre ++ rz_t w wt c tl T n fp ((zS y n cur) + 1) (zsd y (zS y n cur) (zE y n (zS y n cur) - zS y n cur).toNat) (zE y n (zS y n cur)) nu na rp M R O A)) (cl' := 0) (sl' := 0) rfl ?_
        refine fw_gf rfl rfl (rz_g 0 hpre rfl) rfl ?_
        refine ik_Wk 1 (pc' := 186) (loc' := [some (.ref 66), some (fI sum), some (fI (zS y n cur)), some (fI 0), w4]) (st' := [fI 1, fI rp, .ref 66]) (h' := (pre ++ rz_t w wt c tl T n fp ((zS y n cur) + 1) (zsd y (zS y n cur) (zE y n (zS y n cur) - zS y n cur).toNat) (zE y n (zS y n cur)) nu na rp M R O A)) (cl' := 0) (sl' := 0) rfl ?_
        refine fw_add rfl ?_
        refine fw_pf (h' := (pre ++ rz_t w wt c tl T n fp ((zS y n cur) + 1) (zsd y (zS y n cur) (zE y n (zS y n cur) - zS y n cur).toNat) (zE y n (zS y n cur)) nu na (rp + 1) M R O A)) rfl rfl (rz_g 0 hpre rfl) (Nat.le_of_ble_eq_true rfl) rfl rfl (rz_s 0 hpre rfl) ?_
        refine ik_Wk 1 (pc' := 191) (loc' := [some (.ref 66), some (fI sum), some (fI (zS y n cur)), some (fI 0), w4]) (st' := [fI 0]) (h' := (pre ++ rz_t w wt c tl T n fp ((zS y n cur) + 1) (zsd y (zS y n cur) (zE y n (zS y n cur) - zS y n cur).toNat) (zE y n (zS y n cur)) nu na (rp + 1) M R O A)) (cl' := 0) (sl' := 0) rfl ?_
        rw [zmv, if_neg (by rw [hto]; decide), if_pos ⟨hne, by omega, by omega⟩, if_pos (by omega)]
        exact ik_Wret rfl rfl ⟨_, _, rfl, rfl, rfl, rfl, ⟨rfl, _, _, _, _, M, R, O, A, hM, hR, hO, hA, by omega, by omega, rfl, hcnt, hmj, hz, ag, ap, ab, hr, (show r.length ≤ 4 by omega)⟩⟩
      · refine ik_Wk 3 (pc' := 163) (loc' := [some (.ref 66), some (fI sum), some (fI (zS y n cur)), some (fI 0), w4]) (st' := [.ref 66, fI 5, .ref 66]) (h' := (pre ++ rz_t w wt c tl T n fp (zS y n cur) (zsd y (zS y n cur) (zE y n (zS y n cur) - zS y n cur).toNat) (zE y n (zS y n cur)) nu na rp M R O A)) (cl' := 0) (sl' := 0) rfl ?_
        refine fw_gf rfl rfl (rz_g 0 hpre rfl) rfl ?_
        refine fw_call 137 3 0 [.ref 66, fI 5, fI (zS y n cur)] [] rfl rfl rfl (by decide) rfl rfl (fw_rec (rz_len hpre htl) (fw_ftw (l0 := [some (.ref 66), some (fI sum), some (fI (zS y n cur)), some (fI 0)]) hw rfl) (rz_g 0 hpre rfl) rfl (by decide)) (rz_fails ok) ?_
        rintro rv h' ⟨rfl, rfl⟩
        refine ik_Wk 0 (pc' := 169) (loc' := [some (.ref 66), some (fI sum), some (fI (zS y n cur)), some (fI 0), w4]) (st' := [fI 5]) (h' := (pre ++ rz_t w wt c tl T n (zS y n cur) (zS y n cur) (zsd y (zS y n cur) (zE y n (zS y n cur) - zS y n cur).toNat) (zE y n (zS y n cur)) nu na rp M R O A)) (cl' := 0) (sl' := 0) rfl ?_
        rw [zmv, if_neg (by rw [hto]; decide), if_pos ⟨hne, by omega, by omega⟩, if_neg (by omega)]
        exact ik_Wret rfl rfl ⟨_, _, rfl, rfl, rfl, rfl, ⟨rfl, (show (1 : Int) ≤ 5 by decide), (show (5 : Int) ≤ 6 by decide), _, _, _, _, _, M, R, O, A, hM, hR, hO, hA, by omega, by omega, rfl⟩⟩
    · refine ik_Wk 3 (pc' := 147) (loc' := [some (.ref 66), some (fI sum), some (fI (zS y n cur)), some (fI 0), w4]) (st' := [.ref 66, fI 1, .ref 66]) (h' := (pre ++ rz_t w wt c tl T n fp (zS y n cur) (zsd y (zS y n cur) (zE y n (zS y n cur) - zS y n cur).toNat) (zE y n (zS y n cur)) nu na rp M R O A)) (cl' := 0) (sl' := 0) rfl ?_
      refine fw_gf rfl rfl (rz_g 0 hpre rfl) rfl ?_
      refine fw_call 137 3 0 [.ref 66, fI 1, fI (zS y n cur)] [] rfl rfl rfl (by decide) rfl rfl (fw_rec (rz_len hpre htl) (fw_ftw (l0 := [some (.ref 66), some (fI sum), some (fI (zS y n cur)), some (fI 0)]) hw rfl) (rz_g 0 hpre rfl) rfl (by decide)) (rz_fails ok) ?_
      rintro rv h' ⟨rfl, rfl⟩
      refine ik_Wk 0 (pc' := 153) (loc' := [some (.ref 66), some (fI sum), some (fI (zS y n cur)), some (fI 0), w4]) (st' := [fI 1]) (h' := (pre ++ rz_t w wt c tl T n (zS y n cur) (zS y n cur) (zsd y (zS y n cur) (zE y n (zS y n cur) - zS y n cur).toNat) (zE y n (zS y n cur)) nu na rp M R O A)) (cl' := 0) (sl' := 0) rfl ?_
      rw [zmv, if_neg (by rw [hto]; decide), if_neg (by omega)]
      exact ik_Wret rfl rfl ⟨_, _, rfl, rfl, rfl, rfl, ⟨rfl, (show (1 : Int) ≤ 1 by decide), (show (1 : Int) ≤ 6 by decide), _, _, _, _, _, M, R, O, A, hM, hR, hO, hA, by omega, by omega, rfl⟩⟩
  · refine ik_Wk 0 (pc' := 139) (loc' := [some (.ref 66), some (fI sum), some (fI (zS y n cur)), some (fI 0), w4]) (st' := [fI (-1)]) (h' := (pre ++ rz_t w wt c tl T n fp (zS y n cur) (zsd y (zS y n cur) (zE y n (zS y n cur) - zS y n cur).toNat) (zE y n (zS y n cur)) nu na rp M R O A)) (cl' := 0) (sl' := 0) rfl ?_
    refine fw_bi rfl (by decide) ?_
    refine fw_ic_eq rfl rfl (by omega) (by omega) (by omega) (by omega) (fun hc7 => absurd hc7 (by omega)) (fun hc7 => ?_)
    refine ik_Wk 3 (pc' := 147) (loc' := [some (.ref 66), some (fI sum), some (fI (zS y n cur)), some (fI 0), w4]) (st' := [.ref 66, fI 1, .ref 66]) (h' := (pre ++ rz_t w wt c tl T n fp (zS y n cur) (zsd y (zS y n cur) (zE y n (zS y n cur) - zS y n cur).toNat) (zE y n (zS y n cur)) nu na rp M R O A)) (cl' := 0) (sl' := 0) rfl ?_
    refine fw_gf rfl rfl (rz_g 0 hpre rfl) rfl ?_
    refine fw_call 137 3 0 [.ref 66, fI 1, fI (zS y n cur)] [] rfl rfl rfl (by decide) rfl rfl (fw_rec (rz_len hpre htl) (fw_ftw (l0 := [some (.ref 66), some (fI sum), some (fI (zS y n cur)), some (fI 0)]) hw rfl) (rz_g 0 hpre rfl) rfl (by decide)) (rz_fails ok) ?_
    rintro rv h' ⟨rfl, rfl⟩
    refine ik_Wk 0 (pc' := 153) (loc' := [some (.ref 66), some (fI sum), some (fI (zS y n cur)), some (fI 0), w4]) (st' := [fI 1]) (h' := (pre ++ rz_t w wt c tl T n (zS y n cur) (zS y n cur) (zsd y (zS y n cur) (zE y n (zS y n cur) - zS y n cur).toNat) (zE y n (zS y n cur)) nu na rp M R O A)) (cl' := 0) (sl' := 0) rfl ?_
    rw [zmv, if_neg (by rw [hto]; decide), if_neg (by omega)]
    exact ik_Wret rfl rfl ⟨_, _, rfl, rfl, rfl, rfl, ⟨rfl, (show (1 : Int) ≤ 1 by decide), (show (1 : Int) ≤ 6 by decide), _, _, _, _, _, M, R, O, A, hM, hR, hO, hA, by omega, by omega, rfl⟩⟩

theorem rz_plL {pre tl : List ik_E} {w : Nat → Value} {wt : List Value} {c : Nat → ik_E} {y : Int → Int} {T : List Int} {n fp rp : Int} {M0 R0 O0 A0 : List Int} (ok : rz_ok y T n pre tl) (hrp : 0 ≤ rp) (hrp2 : rp ≤ 10) : ∀ (k : Nat) (r : List zM) (sum cur nu na : Int) (M R O A : List Int) (w4 : Option Value), r.length + k = 4 → ik_wl 94 w4 = true → M.length = 12 → R.length = 48 → O.length = 48 → A.length = 48 → M.getD rp.toNat 0 = (r.length : Int) → (∀ j : Nat, ¬ j = rp.toNat → M.getD j 0 = M0.getD j 0) → zh R O A rp.toNat r → zag (4 * rp.toNat) R0 R → zag (4 * rp.toNat) O0 O → zag (4 * rp.toNat) A0 A → zrow r → 0 ≤ sum → sum ≤ 100 → 0 ≤ cur → cur ≤ n → zto y n (zS y n cur) = true → ik_G 144 52 [some (.ref 66), some (fI sum), some (fI (zS y n cur)), some (fI 1), w4] [] (pre ++ rz_t w wt c tl T n fp (zS y n cur) (zsd y (zS y n cur) (zE y n (zS y n cur) - zS y n cur).toNat) (zE y n (zS y n cur)) nu na rp M R O A) (rz_RM pre tl w wt c T n fp rp M0 R0 O0 A0 (zmv y n (k + 1) r sum cur)) := by
  have ok' := ok
  obtain ⟨hpre, htl, hT, bT, hn, hn2, hy⟩ := ok'
  intro k
  induction k using Nat.strongRecOn with
  | _ k ih =>
    intro r sum cur nu na M R O A w4 hk hw hM hR hO hA hcnt hmj hz ag ap ab hr hs0 hs1 h0 h1 hto
    have hz1 := zS_ge (y := y) (n := n) cur
    have hz2 := zS_le (y := y) (n := n) (i := cur) h1
    have hto2 := hto
    unfold zto at hto2
    have htw := of_decide_eq_true hto2
    have htn := zE_le (y := y) (n := n) (i := zS y n cur) (by omega)
    refine ik_Wk 1 (pc' := 53) (loc' := [some (.ref 66), some (fI sum), some (fI (zS y n cur)), some (fI 1), w4]) (st' := [fI 1]) (h' := (pre ++ rz_t w wt c tl T n fp (zS y n cur) (zsd y (zS y n cur) (zE y n (zS y n cur) - zS y n cur).toNat) (zE y n (zS y n cur)) nu na rp M R O A)) (cl' := 0) (sl' := 0) rfl ?_
    refine fw_if_eq rfl rfl (by omega) (by omega) (fun hc1 => absurd hc1 (by omega)) (fun hc1 => ?_)
    refine ik_Wk 1 (pc' := 57) (loc' := [some (.ref 66), some (fI sum), some (fI (zS y n cur)), some (fI 1), w4]) (st' := [.ref 66]) (h' := (pre ++ rz_t w wt c tl T n fp (zS y n cur) (zsd y (zS y n cur) (zE y n (zS y n cur) - zS y n cur).toNat) (zE y n (zS y n cur)) nu na rp M R O A)) (cl' := 0) (sl' := 0) rfl ?_
    refine fw_gf rfl rfl (rz_g 0 hpre rfl) rfl ?_
    refine ik_Wk 1 (pc' := 61) (loc' := [some (.ref 66), some (fI sum), some (fI (zS y n cur)), some (fI 1), w4]) (st' := [.ref 66, .ref 73]) (h' := (pre ++ rz_t w wt c tl T n fp (zS y n cur) (zsd y (zS y n cur) (zE y n (zS y n cur) - zS y n cur).toNat) (zE y n (zS y n cur)) nu na rp M R O A)) (cl' := 0) (sl' := 0) rfl ?_
    refine fw_gf rfl rfl (rz_g 0 hpre rfl) rfl ?_
    refine fw_ial rfl (rz_g 7 hpre rfl) (by omega) (by omega) (by omega) ?_
    rw [hcnt]
    refine ik_Wk 1 (pc' := 66) (loc' := [some (.ref 66), some (fI sum), some (fI (zS y n cur)), some (fI 1), w4]) (st' := [fI 4, fI (r.length : Int)]) (h' := (pre ++ rz_t w wt c tl T n fp (zS y n cur) (zsd y (zS y n cur) (zE y n (zS y n cur) - zS y n cur).toNat) (zE y n (zS y n cur)) nu na rp M R O A)) (cl' := 0) (sl' := 0) rfl ?_
    refine fw_ic_ne rfl rfl (by omega) (by omega) (by omega) (by omega) (fun hc2 => ?_) (fun hc2 => ?_)
    · refine ik_Wk 3 (pc' := 72) (loc' := [some (.ref 66), some (fI sum), some (fI (zS y n cur)), some (fI 1), w4]) (st' := [fI (zS y n cur), fI 3, .ref 66]) (h' := (pre ++ rz_t w wt c tl T n fp (zS y n cur) (zsd y (zS y n cur) (zE y n (zS y n cur) - zS y n cur).toNat) (zE y n (zS y n cur)) nu na rp M R O A)) (cl' := 0) (sl' := 0) rfl ?_
      refine fw_call 137 3 0 [.ref 66, fI 3, fI (zS y n cur)] [] rfl rfl rfl (by decide) rfl rfl (fw_rec (rz_len hpre htl) (fw_ftw (l0 := [some (.ref 66), some (fI sum), some (fI (zS y n cur)), some (fI 1)]) hw rfl) (rz_g 0 hpre rfl) rfl (by decide)) (rz_fails ok) ?_
      rintro rv h' ⟨rfl, rfl⟩
      refine ik_Wk 0 (pc' := 75) (loc' := [some (.ref 66), some (fI sum), some (fI (zS y n cur)), some (fI 1), w4]) (st' := [fI 3]) (h' := (pre ++ rz_t w wt c tl T n (zS y n cur) (zS y n cur) (zsd y (zS y n cur) (zE y n (zS y n cur) - zS y n cur).toNat) (zE y n (zS y n cur)) nu na rp M R O A)) (cl' := 0) (sl' := 0) rfl ?_
      rw [zmv, if_pos hto, if_pos (by omega)]
      exact ik_Wret rfl rfl ⟨_, _, rfl, rfl, rfl, rfl, ⟨rfl, (show (1 : Int) ≤ 3 by decide), (show (3 : Int) ≤ 6 by decide), _, _, _, _, _, M, R, O, A, hM, hR, hO, hA, by omega, by omega, rfl⟩⟩
    · refine ik_Wk 2 (pc' := 78) (loc' := [some (.ref 66), some (fI sum), some (fI (zS y n cur)), some (fI 1), w4]) (st' := [.ref 66, .ref 66]) (h' := (pre ++ rz_t w wt c tl T n fp (zS y n cur) (zsd y (zS y n cur) (zE y n (zS y n cur) - zS y n cur).toNat) (zE y n (zS y n cur)) nu na rp M R O A)) (cl' := 0) (sl' := 0) rfl ?_
      refine fw_gf rfl rfl (rz_g 0 hpre rfl) rfl ?_
      refine fw_pf (h' := (pre ++ rz_t w wt c tl T n fp (zE y n (zS y n cur)) (zsd y (zS y n cur) (zE y n (zS y n cur) - zS y n cur).toNat) (zE y n (zS y n cur)) nu na rp M R O A)) rfl rfl (rz_g 0 hpre rfl) (Nat.le_of_ble_eq_true rfl) rfl rfl (rz_s 0 hpre rfl) ?_
      rw [htw.1]
      refine ik_Wk 2 (pc' := 86) (loc' := [some (.ref 66), some (fI sum), some (fI (zS y n cur)), some (fI 1), w4]) (st' := [fI sum, .ref 66]) (h' := (pre ++ rz_t w wt c tl T n fp (zS y n cur + 2) (zsd y (zS y n cur) (zS y n cur + 2 - zS y n cur).toNat) (zS y n cur + 2) nu na rp M R O A)) (cl' := 0) (sl' := 0) rfl ?_
      refine fw_call 143 2 0 [.ref 66, fI sum] [] rfl rfl rfl (by decide) rfl rfl (fw_rec (rz_len hpre htl) (fw_ftw (l0 := [some (.ref 66), some (fI sum), some (fI (zS y n cur)), some (fI 1)]) hw rfl) (rz_g 0 hpre rfl) rfl (by decide)) (rz_mv (r := r) ok hM hR hO hA hrp hrp2 hcnt (by omega) (zh_hr hrp hz hr) hs0 hs1 (by omega) (by omega)) ?_
      rintro rv h' (⟨hg1, hg2, hk1, hk2, rfl, rfl⟩ | ⟨f, a, a', nu', na', M', R', O', A', hf, rfl, hM', hR', hO', hA', hf0, hf1, rfl⟩)
      · have hgv := znum0 hg1
        have hkv := znum0 hk1
        have hg3 := zS_ge (y := y) (n := n) (zS y n cur + 2)
        have hg4 := zS_le (y := y) (n := n) (i := zS y n cur + 2) (by omega)
        have hg5 := zD_ge (y := y) (n := n) (zS y n (zS y n cur + 2))
        have hg6 := zD_le (y := y) (n := n) (i := zS y n (zS y n cur + 2)) (by omega)
        have hk3 := zS_ge (y := y) (n := n) (zD y n (zS y n (zS y n cur + 2)))
        have hk4 := zS_le (y := y) (n := n) (i := zD y n (zS y n (zS y n cur + 2))) (by omega)
        have hk5 := zD_ge (y := y) (n := n) (zS y n (zD y n (zS y n (zS y n cur + 2))))
        have hk6 := zD_le (y := y) (n := n) (i := zS y n (zD y n (zS y n (zS y n cur + 2)))) (by omega)
        refine ik_Wk 0 (pc' := 89) (loc' := [some (.ref 66), some (fI sum), some (fI (zS y n cur)), some (fI 1), w4]) (st' := [fI 0]) (h' := (pre ++ rz_t w wt c tl T n fp (zD y n (zS y n (zD y n (zS y n (zS y n cur + 2))))) (zsd y (zS y n cur) (zS y n cur + 2 - zS y n cur).toNat) (zS y n cur + 2) (zv y n (zS y n (zD y n (zS y n (zS y n cur + 2))))) (zS y n (zD y n (zS y n (zS y n cur + 2)))) rp (M.set rp.toNat ((r.length : Int) + 1)) (R.set (4 * rp + (r.length : Int)).toNat (zv y n (zS y n (zS y n cur + 2)))) (O.set (4 * rp + (r.length : Int)).toNat (zv y n (zS y n (zD y n (zS y n (zS y n cur + 2)))))) (A.set (4 * rp + (r.length : Int)).toNat (zS y n (zS y n cur + 2))))) (cl' := 0) (sl' := 0) rfl ?_
        refine ik_Wk 2 (pc' := 93) (loc' := [some (.ref 66), some (fI sum), some (fI (zS y n cur)), some (fI 1), some (fI 0)]) (st' := [fI 0]) (h' := (pre ++ rz_t w wt c tl T n fp (zD y n (zS y n (zD y n (zS y n (zS y n cur + 2))))) (zsd y (zS y n cur) (zS y n cur + 2 - zS y n cur).toNat) (zS y n cur + 2) (zv y n (zS y n (zD y n (zS y n (zS y n cur + 2))))) (zS y n (zD y n (zS y n (zS y n cur + 2)))) rp (M.set rp.toNat ((r.length : Int) + 1)) (R.set (4 * rp + (r.length : Int)).toNat (zv y n (zS y n (zS y n cur + 2)))) (O.set (4 * rp + (r.length : Int)).toNat (zv y n (zS y n (zD y n (zS y n (zS y n cur + 2)))))) (A.set (4 * rp + (r.length : Int)).toNat (zS y n (zS y n cur + 2))))) (cl' := 0) (sl' := 0) rfl ?_
        refine fw_if_le rfl rfl (by omega) (by omega) (fun hc3 => ?_) (fun hc3 => absurd hc3 (by omega))
        refine ik_Wk 2 (pc' := 101) (loc' := [some (.ref 66), some (fI sum), some (fI (zS y n cur)), some (fI 1), some (fI 0)]) (st' := [.ref 66, fI sum]) (h' := (pre ++ rz_t w wt c tl T n fp (zD y n (zS y n (zD y n (zS y n (zS y n cur + 2))))) (zsd y (zS y n cur) (zS y n cur + 2 - zS y n cur).toNat) (zS y n cur + 2) (zv y n (zS y n (zD y n (zS y n (zS y n cur + 2))))) (zS y n (zD y n (zS y n (zS y n cur + 2)))) rp (M.set rp.toNat ((r.length : Int) + 1)) (R.set (4 * rp + (r.length : Int)).toNat (zv y n (zS y n (zS y n cur + 2)))) (O.set (4 * rp + (r.length : Int)).toNat (zv y n (zS y n (zD y n (zS y n (zS y n cur + 2)))))) (A.set (4 * rp + (r.length : Int)).toNat (zS y n (zS y n cur + 2))))) (cl' := 0) (sl' := 0) rfl ?_
        refine fw_gf rfl rfl (rz_g 0 hpre rfl) rfl ?_
        refine fw_add rfl ?_
        refine ik_Wk 2 (pc' := 107) (loc' := [some (.ref 66), some (fI (sum + (zv y n (zS y n (zD y n (zS y n (zS y n cur + 2))))))), some (fI (zS y n cur)), some (fI 1), some (fI 0)]) (st' := [.ref 66]) (h' := (pre ++ rz_t w wt c tl T n fp (zD y n (zS y n (zD y n (zS y n (zS y n cur + 2))))) (zsd y (zS y n cur) (zS y n cur + 2 - zS y n cur).toNat) (zS y n cur + 2) (zv y n (zS y n (zD y n (zS y n (zS y n cur + 2))))) (zS y n (zD y n (zS y n (zS y n cur + 2)))) rp (M.set rp.toNat ((r.length : Int) + 1)) (R.set (4 * rp + (r.length : Int)).toNat (zv y n (zS y n (zS y n cur + 2)))) (O.set (4 * rp + (r.length : Int)).toNat (zv y n (zS y n (zD y n (zS y n (zS y n cur + 2)))))) (A.set (4 * rp + (r.length : Int)).toNat (zS y n (zS y n cur + 2))))) (cl' := 0) (sl' := 0) rfl ?_
        refine fw_call 138 1 0 [.ref 66] [] rfl rfl rfl (by decide) rfl rfl (fw_rec (rz_len hpre htl) rfl (rz_g 0 hpre rfl) rfl (by decide)) (rz_word ok (by omega) (by omega)) ?_
        rintro rv h' ⟨rfl, rfl⟩
        have hz4 := zS_ge (y := y) (n := n) (zD y n (zS y n (zD y n (zS y n (zS y n cur + 2)))))
        have hz5 := zS_le (y := y) (n := n) (i := zD y n (zS y n (zD y n (zS y n (zS y n cur + 2))))) (by omega)
        have hz6 := zE_ge (y := y) (n := n) (zS y n (zD y n (zS y n (zD y n (zS y n (zS y n cur + 2))))))
        have hz7 := zE_le (y := y) (n := n) (i := zS y n (zD y n (zS y n (zD y n (zS y n (zS y n cur + 2)))))) (by omega)
        have hz8 := zsd_b (y := y) (s := zS y n (zD y n (zS y n (zD y n (zS y n (zS y n cur + 2)))))) (zE y n (zS y n (zD y n (zS y n (zD y n (zS y n (zS y n cur + 2)))))) - zS y n (zD y n (zS y n (zD y n (zS y n (zS y n cur + 2)))))).toNat (fun j a b => zE_mid (y := y) (n := n) (i := zS y n (zD y n (zS y n (zD y n (zS y n (zS y n cur + 2)))))) a (by omega))
        refine ik_Wk 0 (pc' := 110) (loc' := [some (.ref 66), some (fI (sum + (zv y n (zS y n (zD y n (zS y n (zS y n cur + 2))))))), some (fI (zS y n cur)), some (fI 1), some (fI 0)]) (st' := []) (h' := (pre ++ rz_t w wt c tl T n fp (zS y n (zD y n (zS y n (zD y n (zS y n (zS y n cur + 2)))))) (zsd y (zS y n (zD y n (zS y n (zD y n (zS y n (zS y n cur + 2)))))) (zE y n (zS y n (zD y n (zS y n (zD y n (zS y n (zS y n cur + 2)))))) - zS y n (zD y n (zS y n (zD y n (zS y n (zS y n cur + 2)))))).toNat) (zE y n (zS y n (zD y n (zS y n (zD y n (zS y n (zS y n cur + 2))))))) (zv y n (zS y n (zD y n (zS y n (zS y n cur + 2))))) (zS y n (zD y n (zS y n (zS y n cur + 2)))) rp (M.set rp.toNat ((r.length : Int) + 1)) (R.set (4 * rp + (r.length : Int)).toNat (zv y n (zS y n (zS y n cur + 2)))) (O.set (4 * rp + (r.length : Int)).toNat (zv y n (zS y n (zD y n (zS y n (zS y n cur + 2)))))) (A.set (4 * rp + (r.length : Int)).toNat (zS y n (zS y n cur + 2))))) (cl' := 0) (sl' := 0) rfl ?_
        refine ik_Wk 1 (pc' := 111) (loc' := [some (.ref 66), some (fI (sum + (zv y n (zS y n (zD y n (zS y n (zS y n cur + 2))))))), some (fI (zS y n cur)), some (fI 1), some (fI 0)]) (st' := [.ref 66]) (h' := (pre ++ rz_t w wt c tl T n fp (zS y n (zD y n (zS y n (zD y n (zS y n (zS y n cur + 2)))))) (zsd y (zS y n (zD y n (zS y n (zD y n (zS y n (zS y n cur + 2)))))) (zE y n (zS y n (zD y n (zS y n (zD y n (zS y n (zS y n cur + 2)))))) - zS y n (zD y n (zS y n (zD y n (zS y n (zS y n cur + 2)))))).toNat) (zE y n (zS y n (zD y n (zS y n (zD y n (zS y n (zS y n cur + 2))))))) (zv y n (zS y n (zD y n (zS y n (zS y n cur + 2))))) (zS y n (zD y n (zS y n (zS y n cur + 2)))) rp (M.set rp.toNat ((r.length : Int) + 1)) (R.set (4 * rp + (r.length : Int)).toNat (zv y n (zS y n (zS y n cur + 2)))) (O.set (4 * rp + (r.length : Int)).toNat (zv y n (zS y n (zD y n (zS y n (zS y n cur + 2)))))) (A.set (4 * rp + (r.length : Int)).toNat (zS y n (zS y n cur + 2))))) (cl' := 0) (sl' := 0) rfl ?_
        refine fw_gf rfl rfl (rz_g 0 hpre rfl) rfl ?_
        refine ik_Wk 2 (pc' := 116) (loc' := [some (.ref 66), some (fI (sum + (zv y n (zS y n (zD y n (zS y n (zS y n cur + 2))))))), some (fI (zS y n (zD y n (zS y n (zD y n (zS y n (zS y n cur + 2))))))), some (fI 1), some (fI 0)]) (st' := [.ref 66]) (h' := (pre ++ rz_t w wt c tl T n fp (zS y n (zD y n (zS y n (zD y n (zS y n (zS y n cur + 2)))))) (zsd y (zS y n (zD y n (zS y n (zD y n (zS y n (zS y n cur + 2)))))) (zE y n (zS y n (zD y n (zS y n (zD y n (zS y n (zS y n cur + 2)))))) - zS y n (zD y n (zS y n (zD y n (zS y n (zS y n cur + 2)))))).toNat) (zE y n (zS y n (zD y n (zS y n (zD y n (zS y n (zS y n cur + 2))))))) (zv y n (zS y n (zD y n (zS y n (zS y n cur + 2))))) (zS y n (zD y n (zS y n (zS y n cur + 2)))) rp (M.set rp.toNat ((r.length : Int) + 1)) (R.set (4 * rp + (r.length : Int)).toNat (zv y n (zS y n (zS y n cur + 2)))) (O.set (4 * rp + (r.length : Int)).toNat (zv y n (zS y n (zD y n (zS y n (zS y n cur + 2)))))) (A.set (4 * rp + (r.length : Int)).toNat (zS y n (zS y n cur + 2))))) (cl' := 0) (sl' := 0) rfl ?_
        refine fw_gf rfl rfl (rz_g 0 hpre rfl) rfl ?_
        refine fw_l2 555 rfl rfl (by decide) ?_
        refine fw_lcmp_ne rfl rfl rfl (by omega) (by omega) (by omega) (by omega) (fun hc9 => ?_) (fun hc9 => ?_)
        · refine ik_Wk 4 (pc' := 52) (loc' := [some (.ref 66), some (fI (sum + (zv y n (zS y n (zD y n (zS y n (zS y n cur + 2))))))), some (fI (zS y n (zD y n (zS y n (zD y n (zS y n (zS y n cur + 2))))))), some (fI 1), some (fI 0)]) (st' := []) (h' := (pre ++ rz_t w wt c tl T n fp (zS y n (zD y n (zS y n (zD y n (zS y n (zS y n cur + 2)))))) (zsd y (zS y n (zD y n (zS y n (zD y n (zS y n (zS y n cur + 2)))))) (zE y n (zS y n (zD y n (zS y n (zD y n (zS y n (zS y n cur + 2)))))) - zS y n (zD y n (zS y n (zD y n (zS y n (zS y n cur + 2)))))).toNat) (zE y n (zS y n (zD y n (zS y n (zD y n (zS y n (zS y n cur + 2))))))) (zv y n (zS y n (zD y n (zS y n (zS y n cur + 2))))) (zS y n (zD y n (zS y n (zS y n cur + 2)))) rp (M.set rp.toNat ((r.length : Int) + 1)) (R.set (4 * rp + (r.length : Int)).toNat (zv y n (zS y n (zS y n cur + 2)))) (O.set (4 * rp + (r.length : Int)).toNat (zv y n (zS y n (zD y n (zS y n (zS y n cur + 2)))))) (A.set (4 * rp + (r.length : Int)).toNat (zS y n (zS y n cur + 2))))) (cl' := 0) (sl' := 0) rfl ?_
          obtain ⟨k', rfl⟩ : ∃ k', k = k' + 1 := ⟨k - 1, by omega⟩
          rw [zmv, if_pos hto, if_neg (by omega), if_pos hg1, if_neg (by rw [hg2]; decide), if_pos hk1, if_neg (by omega)]
          have e2 : ((r ++ [(zv y n (zS y n (zS y n cur + 2)), zv y n (zS y n (zD y n (zS y n (zS y n cur + 2)))), zS y n (zS y n cur + 2))]).length : Int) = (r.length : Int) + 1 := by rw [List.length_append]; rfl
          have e3 : (4 * rp + (r.length : Int)).toNat = 4 * rp.toNat + r.length := by omega
          have c1 : (M.set rp.toNat ((r.length : Int) + 1)).getD rp.toNat 0 = ((r ++ [(zv y n (zS y n (zS y n cur + 2)), zv y n (zS y n (zD y n (zS y n (zS y n cur + 2)))), zS y n (zS y n cur + 2))]).length : Int) := by rw [fz_getD_set, if_pos ⟨rfl, by omega⟩, e2]
          have c2 : ∀ j : Nat, ¬ j = rp.toNat → (M.set rp.toNat ((r.length : Int) + 1)).getD j 0 = M0.getD j 0 := fun j hj => by rw [fz_getD_set, if_neg (fun q => hj q.1)]; exact hmj j hj
          have c3 := zh_snoc (a := zv y n (zS y n (zS y n cur + 2))) (b := zv y n (zS y n (zD y n (zS y n (zS y n cur + 2))))) (c := zS y n (zS y n cur + 2)) hz e3 (by omega) (by omega) (by omega)
          have c4 : zrow (r ++ [(zv y n (zS y n (zS y n cur + 2)), zv y n (zS y n (zD y n (zS y n (zS y n cur + 2)))), zS y n (zS y n cur + 2))]) := zrow_snoc hr ⟨by omega, by omega, by omega, by omega, by omega, by omega⟩
          have c5 : (r ++ [(zv y n (zS y n (zS y n cur + 2)), zv y n (zS y n (zD y n (zS y n (zS y n cur + 2)))), zS y n (zS y n cur + 2))]).length = r.length + 1 := by rw [List.length_append]; rfl
          exact ih k' (by omega) (r ++ [(zv y n (zS y n (zS y n cur + 2)), zv y n (zS y n (zD y n (zS y n (zS y n cur + 2)))), zS y n (zS y n cur + 2))]) _ (zD y n (zS y n (zD y n (zS y n (zS y n cur + 2))))) _ _ _ _ _ _ (some (fI 0)) (by omega) rfl ((List.length_set ..).trans hM) ((List.length_set ..).trans hR) ((List.length_set ..).trans hO) ((List.length_set ..).trans hA) c1 c2 c3 (zag_set ag (by omega)) (zag_set ap (by omega)) (zag_set ab (by omega)) c4 (by omega) (by omega) (by omega) (by omega) (zis_to.mp (by omega))
        · refine ik_Wk 3 (pc' := 52) (loc' := [some (.ref 66), some (fI (sum + (zv y n (zS y n (zD y n (zS y n (zS y n cur + 2))))))), some (fI (zS y n (zD y n (zS y n (zD y n (zS y n (zS y n cur + 2))))))), some (fI 0), some (fI 0)]) (st' := []) (h' := (pre ++ rz_t w wt c tl T n fp (zS y n (zD y n (zS y n (zD y n (zS y n (zS y n cur + 2)))))) (zsd y (zS y n (zD y n (zS y n (zD y n (zS y n (zS y n cur + 2)))))) (zE y n (zS y n (zD y n (zS y n (zD y n (zS y n (zS y n cur + 2)))))) - zS y n (zD y n (zS y n (zD y n (zS y n (zS y n cur + 2)))))).toNat) (zE y n (zS y n (zD y n (zS y n (zD y n (zS y n (zS y n cur + 2))))))) (zv y n (zS y n (zD y n (zS y n (zS y n cur + 2))))) (zS y n (zD y n (zS y n (zS y n cur + 2)))) rp (M.set rp.toNat ((r.length : Int) + 1)) (R.set (4 * rp + (r.length : Int)).toNat (zv y n (zS y n (zS y n cur + 2)))) (O.set (4 * rp + (r.length : Int)).toNat (zv y n (zS y n (zD y n (zS y n (zS y n cur + 2)))))) (A.set (4 * rp + (r.length : Int)).toNat (zS y n (zS y n cur + 2))))) (cl' := 0) (sl' := 0) rfl ?_
          obtain ⟨k', rfl⟩ : ∃ k', k = k' + 1 := ⟨k - 1, by omega⟩
          rw [zmv, if_pos hto, if_neg (by omega), if_pos hg1, if_neg (by rw [hg2]; decide), if_pos hk1, if_neg (by omega)]
          have e2 : ((r ++ [(zv y n (zS y n (zS y n cur + 2)), zv y n (zS y n (zD y n (zS y n (zS y n cur + 2)))), zS y n (zS y n cur + 2))]).length : Int) = (r.length : Int) + 1 := by rw [List.length_append]; rfl
          have e3 : (4 * rp + (r.length : Int)).toNat = 4 * rp.toNat + r.length := by omega
          have c1 : (M.set rp.toNat ((r.length : Int) + 1)).getD rp.toNat 0 = ((r ++ [(zv y n (zS y n (zS y n cur + 2)), zv y n (zS y n (zD y n (zS y n (zS y n cur + 2)))), zS y n (zS y n cur + 2))]).length : Int) := by rw [fz_getD_set, if_pos ⟨rfl, by omega⟩, e2]
          have c2 : ∀ j : Nat, ¬ j = rp.toNat → (M.set rp.toNat ((r.length : Int) + 1)).getD j 0 = M0.getD j 0 := fun j hj => by rw [fz_getD_set, if_neg (fun q => hj q.1)]; exact hmj j hj
          have c3 := zh_snoc (a := zv y n (zS y n (zS y n cur + 2))) (b := zv y n (zS y n (zD y n (zS y n (zS y n cur + 2))))) (c := zS y n (zS y n cur + 2)) hz e3 (by omega) (by omega) (by omega)
          have c4 : zrow (r ++ [(zv y n (zS y n (zS y n cur + 2)), zv y n (zS y n (zD y n (zS y n (zS y n cur + 2)))), zS y n (zS y n cur + 2))]) := zrow_snoc hr ⟨by omega, by omega, by omega, by omega, by omega, by omega⟩
          have c5 : (r ++ [(zv y n (zS y n (zS y n cur + 2)), zv y n (zS y n (zD y n (zS y n (zS y n cur + 2)))), zS y n (zS y n cur + 2))]).length = r.length + 1 := by rw [List.length_append]; rfl
          have hq : zto y n (zS y n (zD y n (zS y n (zD y n (zS y n (zS y n cur + 2)))))) = false := by cases hx : zto y n (zS y n (zD y n (zS y n (zD y n (zS y n (zS y n cur + 2)))))) with | false => rfl | true => exact absurd (zis_to.mpr hx) (by omega)
          exact rz_plE (w4 := some (fI 0)) ok hrp hrp2 (by omega) rfl ((List.length_set ..).trans hM) ((List.length_set ..).trans hR) ((List.length_set ..).trans hO) ((List.length_set ..).trans hA) c1 c2 c3 (zag_set ag (by omega)) (zag_set ap (by omega)) (zag_set ab (by omega)) c4 (by omega) (by omega) (by omega) (by omega) hq (fun q => by have qw := congrArg List.length q; rw [c5] at qw; exact Nat.succ_ne_zero _ qw)
      · have hfr : 1 ≤ f ∧ f ≤ 5 := by have q1 := znumR (y := y) (n := n) (lo := 0) (hi := 11) (s := zS y n (zS y n cur + 2)); have q2 := znumR (y := y) (n := n) (lo := 1) (hi := 100) (s := zS y n (zD y n (zS y n (zS y n cur + 2)))); rcases hf with q | q | q | q <;> omega
        refine ik_Wk 0 (pc' := 89) (loc' := [some (.ref 66), some (fI sum), some (fI (zS y n cur)), some (fI 1), w4]) (st' := [fI f]) (h' := (pre ++ rz_t w wt c tl T n a a' (zsd y (zS y n cur) (zS y n cur + 2 - zS y n cur).toNat) (zS y n cur + 2) nu' na' rp M' R' O' A')) (cl' := 0) (sl' := 0) rfl ?_
        refine ik_Wk 2 (pc' := 93) (loc' := [some (.ref 66), some (fI sum), some (fI (zS y n cur)), some (fI 1), some (fI f)]) (st' := [fI f]) (h' := (pre ++ rz_t w wt c tl T n a a' (zsd y (zS y n cur) (zS y n cur + 2 - zS y n cur).toNat) (zS y n cur + 2) nu' na' rp M' R' O' A')) (cl' := 0) (sl' := 0) rfl ?_
        refine fw_if_le rfl rfl (by omega) (by omega) (fun hc10 => absurd hc10 (by omega)) (fun hc10 => ?_)
        refine ik_Wk 1 (pc' := 98) (loc' := [some (.ref 66), some (fI sum), some (fI (zS y n cur)), some (fI 1), some (fI f)]) (st' := [fI f]) (h' := (pre ++ rz_t w wt c tl T n a a' (zsd y (zS y n cur) (zS y n cur + 2 - zS y n cur).toNat) (zS y n cur + 2) nu' na' rp M' R' O' A')) (cl' := 0) (sl' := 0) rfl ?_
        have hzm : zmv y n (k + 1) r sum cur = .inl (f, a) := by
          rw [zmv, if_pos hto, if_neg (by omega)]
          rcases hf with ⟨q1, rfl, rfl⟩ | ⟨q1, q2, rfl, rfl⟩ | ⟨q1, q2, q3, rfl, rfl⟩ | ⟨q1, q2, q3, q4, rfl, rfl⟩
          · rw [if_neg q1]
          · rw [if_pos q1, if_pos q2]
          · rw [if_pos q1, if_neg (by rw [q2]; decide), if_neg q3]
          · rw [if_pos q1, if_neg (by rw [q2]; decide), if_pos q3, if_pos q4]
        rw [hzm]
        exact ik_Wret rfl rfl ⟨_, _, rfl, rfl, rfl, rfl, ⟨rfl, by omega, by omega, a', _, _, nu', na', M', R', O', A', hM', hR', hO', hA', hf0, hf1, rfl⟩⟩

theorem rz_pl {pre tl : List ik_E} {w : Nat → Value} {wt : List Value} {c : Nat → ik_E} {y : Int → Int} {T : List Int} {n fp sd we nu na rp : Int} {M R O A : List Int} (ok : rz_ok y T n pre tl) {cur : Int} (hM : M.length = 12) (hR : R.length = 48) (hO : O.length = 48) (hA : A.length = 48) (hrp : 0 ≤ rp) (hrp2 : rp ≤ 10) (h0 : 0 ≤ cur) (h1 : cur ≤ n) : ik_F 144 [.ref 66] (pre ++ rz_t w wt c tl T n fp cur sd we nu na rp M R O A) (rz_RM pre tl w wt c T n fp rp M R O A (zmv y n 5 [] 0 cur)) := by
  have ok' := ok
  obtain ⟨hpre, htl, hT, bT, hn, hn2, hy⟩ := ok'
  refine ik_Wk 3 (pc' := 3) (loc' := [some (.ref 66), some (fI 0), none, none, none]) (st' := [.ref 66]) (h' := (pre ++ rz_t w wt c tl T n fp cur sd we nu na rp M R O A)) (cl' := 0) (sl' := 0) rfl ?_
  refine fw_gf rfl rfl (rz_g 0 hpre rfl) rfl ?_
  refine ik_Wk 1 (pc' := 7) (loc' := [some (.ref 66), some (fI 0), none, none, none]) (st' := [.ref 66, .ref 73]) (h' := (pre ++ rz_t w wt c tl T n fp cur sd we nu na rp M R O A)) (cl' := 0) (sl' := 0) rfl ?_
  refine fw_gf rfl rfl (rz_g 0 hpre rfl) rfl ?_
  refine ik_Wk 1 (pc' := 11) (loc' := [some (.ref 66), some (fI 0), none, none, none]) (st' := [fI 0, fI rp, .ref 73]) (h' := (pre ++ rz_t w wt c tl T n fp cur sd we nu na rp M R O A)) (cl' := 0) (sl' := 0) rfl ?_
  have hl1 : (M.set rp.toNat 0).length = 12 := (List.length_set ..).trans hM
  refine fw_ias (h' := (pre ++ rz_t w wt c tl T n fp cur sd we nu na rp (M.set rp.toNat 0) R O A)) rfl (rz_g 7 hpre rfl) (by omega) (by omega) (by omega) (rz_s 7 hpre rfl) ?_
  refine ik_Wk 1 (pc' := 13) (loc' := [some (.ref 66), some (fI 0), none, none, none]) (st' := [.ref 66]) (h' := (pre ++ rz_t w wt c tl T n fp cur sd we nu na rp (M.set rp.toNat 0) R O A)) (cl' := 0) (sl' := 0) rfl ?_
  refine fw_call 138 1 0 [.ref 66] [] rfl rfl rfl (by decide) rfl rfl (fw_rec (rz_len hpre htl) rfl (rz_g 0 hpre rfl) rfl (by decide)) (rz_word ok (by omega) (by omega)) ?_
  rintro rv h' ⟨rfl, rfl⟩
  have hz2 := zS_ge (y := y) (n := n) cur
  have hz3 := zS_le (y := y) (n := n) (i := cur) (by omega)
  have hz4 := zE_ge (y := y) (n := n) (zS y n cur)
  have hz5 := zE_le (y := y) (n := n) (i := zS y n cur) (by omega)
  have hz6 := zsd_b (y := y) (s := zS y n cur) (zE y n (zS y n cur) - zS y n cur).toNat (fun j a b => zE_mid (y := y) (n := n) (i := zS y n cur) a (by omega))
  refine ik_Wk 0 (pc' := 16) (loc' := [some (.ref 66), some (fI 0), none, none, none]) (st' := []) (h' := (pre ++ rz_t w wt c tl T n fp (zS y n cur) (zsd y (zS y n cur) (zE y n (zS y n cur) - zS y n cur).toNat) (zE y n (zS y n cur)) nu na rp (M.set rp.toNat 0) R O A)) (cl' := 0) (sl' := 0) rfl ?_
  refine ik_Wk 1 (pc' := 17) (loc' := [some (.ref 66), some (fI 0), none, none, none]) (st' := [.ref 66]) (h' := (pre ++ rz_t w wt c tl T n fp (zS y n cur) (zsd y (zS y n cur) (zE y n (zS y n cur) - zS y n cur).toNat) (zE y n (zS y n cur)) nu na rp (M.set rp.toNat 0) R O A)) (cl' := 0) (sl' := 0) rfl ?_
  refine fw_gf rfl rfl (rz_g 0 hpre rfl) rfl ?_
  refine ik_Wk 2 (pc' := 22) (loc' := [some (.ref 66), some (fI 0), some (fI (zS y n cur)), none, none]) (st' := [.ref 66]) (h' := (pre ++ rz_t w wt c tl T n fp (zS y n cur) (zsd y (zS y n cur) (zE y n (zS y n cur) - zS y n cur).toNat) (zE y n (zS y n cur)) nu na rp (M.set rp.toNat 0) R O A)) (cl' := 0) (sl' := 0) rfl ?_
  refine fw_gf rfl rfl (rz_g 0 hpre rfl) rfl ?_
  refine fw_l2 555 rfl rfl (by decide) ?_
  refine fw_lcmp_ne rfl rfl rfl (by omega) (by omega) (by omega) (by omega) (fun hc7 => ?_) (fun hc7 => ?_)
  · refine ik_Wk 4 (pc' := 39) (loc' := [some (.ref 66), some (fI 0), some (fI (zS y n cur)), some (fI 1), none]) (st' := [fI 1]) (h' := (pre ++ rz_t w wt c tl T n fp (zS y n cur) (zsd y (zS y n cur) (zE y n (zS y n cur) - zS y n cur).toNat) (zE y n (zS y n cur)) nu na rp (M.set rp.toNat 0) R O A)) (cl' := 0) (sl' := 0) rfl ?_
    refine fw_if_ne rfl rfl (by omega) (by omega) (fun hc8 => absurd hc8 (by omega)) (fun hc8 => ?_)
    have c1 : (M.set rp.toNat 0).getD rp.toNat 0 = (([] : List zM).length : Int) := by rw [fz_getD_set, if_pos ⟨rfl, by omega⟩]; rfl
    have c2 : ∀ j : Nat, ¬ j = rp.toNat → (M.set rp.toNat 0).getD j 0 = M.getD j 0 := fun j hj => by rw [fz_getD_set, if_neg (fun q => hj q.1)]
    exact rz_plL ok hrp hrp2 4 [] 0 cur _ _ _ _ _ _ none rfl rfl ((List.length_set ..).trans hM) hR hO hA c1 c2 (fun i m q => nomatch q) (fun _ _ => rfl) (fun _ _ => rfl) (fun _ _ => rfl) (fun m q => nomatch q) (by omega) (by omega) h0 h1 (zis_to.mp (by omega))
  · refine ik_Wk 3 (pc' := 39) (loc' := [some (.ref 66), some (fI 0), some (fI (zS y n cur)), some (fI 0), none]) (st' := [fI 0]) (h' := (pre ++ rz_t w wt c tl T n fp (zS y n cur) (zsd y (zS y n cur) (zE y n (zS y n cur) - zS y n cur).toNat) (zE y n (zS y n cur)) nu na rp (M.set rp.toNat 0) R O A)) (cl' := 0) (sl' := 0) rfl ?_
    refine fw_if_ne rfl rfl (by omega) (by omega) (fun hc9 => ?_) (fun hc9 => absurd hc9 (by omega))
    refine ik_Wk 3 (pc' := 45) (loc' := [some (.ref 66), some (fI 0), some (fI (zS y n cur)), some (fI 0), none]) (st' := [.ref 66, fI 1, .ref 66]) (h' := (pre ++ rz_t w wt c tl T n fp (zS y n cur) (zsd y (zS y n cur) (zE y n (zS y n cur) - zS y n cur).toNat) (zE y n (zS y n cur)) nu na rp (M.set rp.toNat 0) R O A)) (cl' := 0) (sl' := 0) rfl ?_
    refine fw_gf rfl rfl (rz_g 0 hpre rfl) rfl ?_
    refine fw_call 137 3 0 [.ref 66, fI 1, fI (zS y n cur)] [] rfl rfl rfl (by decide) rfl rfl (fw_rec (rz_len hpre htl) rfl (rz_g 0 hpre rfl) rfl (by decide)) (rz_fails ok) ?_
    rintro rv h' ⟨rfl, rfl⟩
    refine ik_Wk 0 (pc' := 51) (loc' := [some (.ref 66), some (fI 0), some (fI (zS y n cur)), some (fI 0), none]) (st' := [fI 1]) (h' := (pre ++ rz_t w wt c tl T n (zS y n cur) (zS y n cur) (zsd y (zS y n cur) (zE y n (zS y n cur) - zS y n cur).toNat) (zE y n (zS y n cur)) nu na rp (M.set rp.toNat 0) R O A)) (cl' := 0) (sl' := 0) rfl ?_
    have hq : zto y n (zS y n cur) = false := by cases hx : zto y n (zS y n cur) with | false => rfl | true => exact absurd (zis_to.mpr hx) (by omega)
    rw [zmv, if_neg (by rw [hq]; decide), if_neg (fun q => q.1 rfl)]
    exact ik_Wret rfl rfl ⟨_, _, rfl, rfl, rfl, rfl, ⟨rfl, (show (1 : Int) ≤ 1 by decide), (show (1 : Int) ≤ 6 by decide), _, _, _, _, _, _, R, O, A, (List.length_set ..).trans hM, hR, hO, hA, by omega, by omega, rfl⟩⟩
