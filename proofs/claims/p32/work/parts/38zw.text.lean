noncomputable section
/-! the text: fed, read; by contracts (written by wip/fx/u22.py) -/
theorem cz_room {c0 : ik_E} {tl : List ik_E} {T : List Int} {n cur fl fb pl : Int} {C G P B : List Int} (htl : tl.length = 87) (hT : T.length = 500) (hn : 0 ≤ n) (hn2 : n ≤ 500) {m : Int} (hm : 1 ≤ m) (hm2 : m ≤ 8) : ik_F 54 [.ref 1, fI m] (c0 :: cz_t T n cur fl fb pl C G P B tl) (fun rv h' => ((n + m ≤ 500 ∧ rv = [fI 1]) ∨ (500 < n + m ∧ rv = [fI 0])) ∧ h' = (c0 :: cz_t T n cur fl fb pl C G P B tl)) := by
  refine ik_Wk 1 (pc' := 1) (loc' := [some (.ref 1), some (fI m)]) (st' := [.ref 1]) (h' := (c0 :: cz_t T n cur fl fb pl C G P B tl)) (cl' := 0) (sl' := 0) rfl ?_
  refine fw_gf rfl rfl rfl rfl ?_
  refine ik_Wk 1 (pc' := 5) (loc' := [some (.ref 1), some (fI m)]) (st' := [fI m, fI n]) (h' := (c0 :: cz_t T n cur fl fb pl C G P B tl)) (cl' := 0) (sl' := 0) rfl ?_
  refine fw_add rfl ?_
  refine fw_si rfl (by decide) ?_
  refine fw_ic_gt rfl rfl (by omega) (by omega) (by omega) (by omega) (fun hc1 => ?_) (fun hc1 => ?_)
  · refine ik_Wk 1 (pc' := 17) (loc' := [some (.ref 1), some (fI m)]) (st' := [fI 0]) (h' := (c0 :: cz_t T n cur fl fb pl C G P B tl)) (cl' := 0) (sl' := 0) rfl ?_
    exact ik_Wret rfl rfl ⟨_, _, rfl, rfl, rfl, rfl, ⟨Or.inr ⟨by omega, rfl⟩, rfl⟩⟩
  · refine ik_Wk 2 (pc' := 17) (loc' := [some (.ref 1), some (fI m)]) (st' := [fI 1]) (h' := (c0 :: cz_t T n cur fl fb pl C G P B tl)) (cl' := 0) (sl' := 0) rfl ?_
    exact ik_Wret rfl rfl ⟨_, _, rfl, rfl, rfl, rfl, ⟨Or.inl ⟨by omega, rfl⟩, rfl⟩⟩

theorem cz_append {c0 : ik_E} {tl : List ik_E} {T : List Int} {n cur fl fb pl : Int} {C G P B : List Int} (htl : tl.length = 87) (hT : T.length = 500) (hn : 0 ≤ n) (hn2 : n ≤ 500) {k : Nat} {b : Int64} (hk : (k : Int) ≤ 8) (hr : n + (k : Int) ≤ 500) : ik_F 55 [.ref 1, fI (k : Int), .long b] (c0 :: cz_t T n cur fl fb pl C G P B tl) (fun rv h' => rv = [fI (n + (k : Int))] ∧ h' = (c0 :: cz_t (fd_w (fd_c b) k n T) (n + (k : Int)) cur fl fb pl C G P B tl)) := by
  refine ik_Wk 2 (pc' := 2) (loc' := [some (.ref 1), some (fI (k : Int)), some (.long b), none, none]) (st' := [fI 1, fI (k : Int)]) (h' := (c0 :: cz_t T n cur fl fb pl C G P B tl)) (cl' := 0) (sl' := 0) rfl ?_
  refine fw_sub rfl ?_
  refine ik_Wk 1 (pc' := 5) (loc' := [some (.ref 1), some (fI (k : Int)), some (.long b), none, some (fI ((k : Int) - 1))]) (st' := []) (h' := (c0 :: cz_t T n cur fl fb pl C G P B tl)) (cl' := 0) (sl' := 0) rfl ?_
  exact cz_app k n T hT hn hr hk

theorem cz_feed {cs : List Value} {tl : List ik_E} {T : List Int} {n cur fl fb pl : Int} {C G P B : List Int} (htl : tl.length = 87) (hT : T.length = 500) (hn : 0 ≤ n) (hn2 : n ≤ 500) {m : Int} {b : Int64} (hm : -2147483648 ≤ m) (hm2 : m < 2147483648) : ik_F 90 [.ref 0, fI m, .long b] ((.inr (9, .ref 1 :: cs)) :: cz_t T n cur fl fb pl C G P B tl) (fun rv h' => ((m < 1 ∨ 8 < m) ∧ rv = [fI (-1000000002)] ∧ h' = ((.inr (9, .ref 1 :: cs)) :: cz_t T n cur fl fb pl C G P B tl)) ∨ (1 ≤ m ∧ m ≤ 8 ∧ 500 < n + m ∧ rv = [fI (-1000000004)] ∧ h' = ((.inr (9, .ref 1 :: cs)) :: cz_t T n cur fl fb pl C G P B tl)) ∨ (1 ≤ m ∧ m ≤ 8 ∧ n + m ≤ 500 ∧ rv = [fI (n + m)] ∧ h' = ((.inr (9, .ref 1 :: cs)) :: cz_t (fd_w (fd_c b) m.toNat n T) (n + m) cur fl fb pl C G P B tl))) := by
  refine ik_Wk 2 (pc' := 2) (loc' := [some (.ref 0), some (fI m), some (.long b), none]) (st' := [fI 1, fI m]) (h' := ((.inr (9, .ref 1 :: cs)) :: cz_t T n cur fl fb pl C G P B tl)) (cl' := 0) (sl' := 0) rfl ?_
  refine fw_ic_lt rfl rfl (by omega) (by omega) (by omega) (by omega) (fun hc1 => ?_) (fun hc1 => ?_)
  · refine fw_ld (-1000000002) rfl rfl (by decide) ?_
    exact ik_Wret rfl rfl ⟨_, _, rfl, rfl, rfl, rfl, (Or.inl ⟨by omega, rfl, rfl⟩)⟩
  · refine ik_Wk 1 (pc' := 6) (loc' := [some (.ref 0), some (fI m), some (.long b), none]) (st' := [fI m]) (h' := ((.inr (9, .ref 1 :: cs)) :: cz_t T n cur fl fb pl C G P B tl)) (cl' := 0) (sl' := 0) rfl ?_
    refine fw_bi rfl (by decide) ?_
    refine fw_ic_le rfl rfl (by omega) (by omega) (by omega) (by omega) (fun hc2 => ?_) (fun hc2 => ?_)
    · refine ik_Wk 1 (pc' := 15) (loc' := [some (.ref 0), some (fI m), some (.long b), none]) (st' := [.ref 0]) (h' := ((.inr (9, .ref 1 :: cs)) :: cz_t T n cur fl fb pl C G P B tl)) (cl' := 0) (sl' := 0) rfl ?_
      refine fw_gf rfl rfl rfl rfl ?_
      refine ik_Wk 1 (pc' := 19) (loc' := [some (.ref 0), some (fI m), some (.long b), none]) (st' := [fI m, .ref 1]) (h' := ((.inr (9, .ref 1 :: cs)) :: cz_t T n cur fl fb pl C G P B tl)) (cl' := 0) (sl' := 0) rfl ?_
      refine fw_call 54 2 0 [.ref 1, fI m] [] rfl rfl rfl (by decide) rfl rfl (fw_rec (cz_len htl) rfl rfl rfl (by decide)) (cz_room htl hT hn hn2 (by omega) (by omega)) ?_
      rintro rv h' ⟨⟨hrm, rfl⟩ | ⟨hrm, rfl⟩, rfl⟩
      · refine ik_Wk 0 (pc' := 22) (loc' := [some (.ref 0), some (fI m), some (.long b), none]) (st' := [fI 1]) (h' := ((.inr (9, .ref 1 :: cs)) :: cz_t T n cur fl fb pl C G P B tl)) (cl' := 0) (sl' := 0) rfl ?_
        refine fw_if_ne rfl rfl (by omega) (by omega) (fun hc3 => absurd hc3 (by omega)) (fun hc3 => ?_)
        refine ik_Wk 1 (pc' := 29) (loc' := [some (.ref 0), some (fI m), some (.long b), none]) (st' := [.ref 0]) (h' := ((.inr (9, .ref 1 :: cs)) :: cz_t T n cur fl fb pl C G P B tl)) (cl' := 0) (sl' := 0) rfl ?_
        refine fw_gf rfl rfl rfl rfl ?_
        refine ik_Wk 2 (pc' := 34) (loc' := [some (.ref 0), some (fI m), some (.long b), none]) (st' := [.long b, fI m, .ref 1]) (h' := ((.inr (9, .ref 1 :: cs)) :: cz_t T n cur fl fb pl C G P B tl)) (cl' := 0) (sl' := 0) rfl ?_
        obtain ⟨k, rfl⟩ : ∃ k : Nat, m = (k : Int) := ⟨m.toNat, by omega⟩
        refine fw_call 55 3 0 [.ref 1, fI (k : Int), .long b] [] rfl rfl rfl (by decide) rfl rfl (fw_rec (cz_len htl) rfl rfl rfl (by decide)) (cz_append htl hT hn hn2 (by omega) hrm) ?_
        rintro rv h' ⟨rfl, rfl⟩
        refine ik_Wk 0 (pc' := 37) (loc' := [some (.ref 0), some (fI (k : Int)), some (.long b), none]) (st' := [fI (n + (k : Int))]) (h' := ((.inr (9, .ref 1 :: cs)) :: cz_t (fd_w (fd_c b) k n T) (n + (k : Int)) cur fl fb pl C G P B tl)) (cl' := 0) (sl' := 0) rfl ?_
        exact ik_Wret rfl rfl ⟨_, _, rfl, rfl, rfl, rfl, (Or.inr (Or.inr ⟨by omega, by omega, by omega, rfl, by rw [Int.toNat_natCast]⟩))⟩
      · refine ik_Wk 0 (pc' := 22) (loc' := [some (.ref 0), some (fI m), some (.long b), none]) (st' := [fI 0]) (h' := ((.inr (9, .ref 1 :: cs)) :: cz_t T n cur fl fb pl C G P B tl)) (cl' := 0) (sl' := 0) rfl ?_
        refine fw_if_ne rfl rfl (by omega) (by omega) (fun hc4 => ?_) (fun hc4 => absurd hc4 (by omega))
        refine fw_ld (-1000000004) rfl rfl (by decide) ?_
        exact ik_Wret rfl rfl ⟨_, _, rfl, rfl, rfl, rfl, (Or.inr (Or.inl ⟨by omega, by omega, by omega, rfl, rfl⟩))⟩
    · refine fw_ld (-1000000002) rfl rfl (by decide) ?_
      exact ik_Wret rfl rfl ⟨_, _, rfl, rfl, rfl, rfl, (Or.inl ⟨by omega, rfl, rfl⟩)⟩

theorem rz_feed {pre tl : List ik_E} {w : Nat → Value} {wt : List Value} {c : Nat → ik_E} {T : List Int} {n fp a0 sd we nu na rp : Int} {M R O A : List Int} (hpre : pre.length = 66) (htl : tl.length = 17) (hT : T.length = 500) (hn : 0 ≤ n) (hn2 : n ≤ 500) {m : Int} {b : Int64} (hm : -2147483648 ≤ m) (hm2 : m < 2147483648) : ik_F 135 [.ref 66, fI m, .long b] (pre ++ rz_t w wt c tl T n fp a0 sd we nu na rp M R O A) (fun rv h' => ((m < 1 ∨ 8 < m) ∧ rv = [fI (-1000000002)] ∧ h' = (pre ++ rz_t w wt c tl T n fp a0 sd we nu na rp M R O A)) ∨ (1 ≤ m ∧ m ≤ 8 ∧ 500 < n + m ∧ rv = [fI (-1000000004)] ∧ h' = (pre ++ rz_t w wt c tl T n fp a0 sd we nu na rp M R O A)) ∨ (1 ≤ m ∧ m ≤ 8 ∧ n + m ≤ 500 ∧ rv = [fI (n + m)] ∧ h' = (pre ++ rz_t w wt c tl (fd_w (fd_r b) m.toNat n T) (n + m) fp a0 sd we nu na rp M R O A))) := by
  refine ik_Wk 1 (pc' := 1) (loc' := [some (.ref 66), some (fI m), some (.long b), none, none]) (st' := [fI m]) (h' := (pre ++ rz_t w wt c tl T n fp a0 sd we nu na rp M R O A)) (cl' := 0) (sl' := 0) rfl ?_
  refine fw_i2l rfl (by omega) (by omega) ?_
  refine fw_lc (z := 1) rfl (by decide) ?_
  refine fw_l2 8 rfl rfl (by decide) ?_
  refine fw_call 127 3 3 [fJ m, fJ 1, fJ 8] [] rfl rfl rfl (by decide) rfl rfl (fw_sta (rz_len hpre htl) rfl (by decide)) (rz_in (by omega) (by omega) (by omega) (by omega) (by omega) (by omega)) ?_
  rintro rv h' ⟨⟨hi1, hi2, rfl⟩ | ⟨hi1, rfl⟩, rfl⟩
  · refine ik_Wk 0 (pc' := 9) (loc' := [some (.ref 66), some (fI m), some (.long b), none, none]) (st' := [fI 1]) (h' := (pre ++ rz_t w wt c tl T n fp a0 sd we nu na rp M R O A)) (cl' := 0) (sl' := 0) rfl ?_
    refine fw_if_ne rfl rfl (by omega) (by omega) (fun hc3 => absurd hc3 (by omega)) (fun hc3 => ?_)
    refine ik_Wk 1 (pc' := 16) (loc' := [some (.ref 66), some (fI m), some (.long b), none, none]) (st' := [.ref 66]) (h' := (pre ++ rz_t w wt c tl T n fp a0 sd we nu na rp M R O A)) (cl' := 0) (sl' := 0) rfl ?_
    refine fw_gf rfl rfl (rz_g 0 hpre rfl) rfl ?_
    refine ik_Wk 1 (pc' := 20) (loc' := [some (.ref 66), some (fI m), some (.long b), none, none]) (st' := [fI m, fI n]) (h' := (pre ++ rz_t w wt c tl T n fp a0 sd we nu na rp M R O A)) (cl' := 0) (sl' := 0) rfl ?_
    refine fw_add rfl ?_
    refine fw_si rfl (by decide) ?_
    refine fw_ic_le rfl rfl (by omega) (by omega) (by omega) (by omega) (fun hc4 => ?_) (fun hc4 => ?_)
    · refine ik_Wk 2 (pc' := 32) (loc' := [some (.ref 66), some (fI m), some (.long b), none, none]) (st' := [fI 1, fI m]) (h' := (pre ++ rz_t w wt c tl T n fp a0 sd we nu na rp M R O A)) (cl' := 0) (sl' := 0) rfl ?_
      refine fw_sub rfl ?_
      refine ik_Wk 1 (pc' := 35) (loc' := [some (.ref 66), some (fI m), some (.long b), none, some (fI (m - 1))]) (st' := []) (h' := (pre ++ rz_t w wt c tl T n fp a0 sd we nu na rp M R O A)) (cl' := 0) (sl' := 0) rfl ?_
      obtain ⟨k, rfl⟩ : ∃ k : Nat, m = (k : Int) := ⟨m.toNat, by omega⟩
      refine ik_Wmono (rz_app hpre k n T hT hn (by omega) (by omega)) ?_
      rintro z ⟨ir, rv, z1, z2, z3, z4, z5⟩
      refine ⟨ir, rv, z1, z2, z3, z4, ?_⟩
      revert z5
      generalize z.2.2.2.1 = hx
      rintro ⟨rfl, rfl⟩
      exact Or.inr (Or.inr ⟨by omega, by omega, by omega, rfl, by rw [Int.toNat_natCast]⟩)
    · refine fw_ld (-1000000004) rfl rfl (by decide) ?_
      exact ik_Wret rfl rfl ⟨_, _, rfl, rfl, rfl, rfl, (Or.inr (Or.inl ⟨by omega, by omega, by omega, rfl, rfl⟩))⟩
  · refine ik_Wk 0 (pc' := 9) (loc' := [some (.ref 66), some (fI m), some (.long b), none, none]) (st' := [fI 0]) (h' := (pre ++ rz_t w wt c tl T n fp a0 sd we nu na rp M R O A)) (cl' := 0) (sl' := 0) rfl ?_
    refine fw_if_ne rfl rfl (by omega) (by omega) (fun hc5 => ?_) (fun hc5 => absurd hc5 (by omega))
    refine fw_ld (-1000000002) rfl rfl (by decide) ?_
    exact ik_Wret rfl rfl ⟨_, _, rfl, rfl, rfl, rfl, (Or.inl ⟨by omega, rfl, rfl⟩)⟩

def zret (r : (Int × Int) ⊕ (Int × List (List zM))) : Int := match r with
  | .inl e => -10 - e.1
  | .inr q => q.1
def zfb (r : (Int × Int) ⊕ (Int × List (List zM))) : Int := match r with
  | .inl e => e.2
  | .inr _ => -1
/-! the faults are 1 .. 6, their bytes in the text -/
theorem zf_of {f a : Int} (h1 : 1 ≤ f) (h2 : f ≤ 5) (h3 : 0 ≤ a) (h4 : a ≤ 500) : 1 ≤ (f, a).1 ∧ (f, a).1 ≤ 5 ∧ 0 ≤ (f, a).2 ∧ (f, a).2 ≤ 500 := ⟨h1, h2, h3, h4⟩
theorem zmv_f {y : Int → Int} {n : Int} (hn : n ≤ 500) : ∀ (k : Nat) (r : List zM) (sum cur : Int), 0 ≤ cur → cur ≤ n → ∀ e, zmv y n k r sum cur = .inl e → 1 ≤ e.1 ∧ e.1 ≤ 5 ∧ 0 ≤ e.2 ∧ e.2 ≤ 500 := by
  intro k
  induction k with
  | zero => intro r sum cur _ _ e h; cases h; exact zf_of (by decide) (by decide) (by decide) (by decide)
  | succ k ih =>
    intro r sum cur h0 h1 e h
    rw [zmv] at h
    have a1 := zS_ge (y := y) (n := n) cur
    have a2 := zS_le (y := y) (n := n) h1
    split at h
    · rename_i hto
      have ht : zS y n cur + 2 ≤ n := by
        unfold zto at hto
        have q := of_decide_eq_true hto
        have := zE_le (y := y) (n := n) (i := zS y n cur) a2
        omega
      have b1 := zS_ge (y := y) (n := n) (zS y n cur + 2)
      have b2 := zS_le (y := y) (n := n) ht
      have c1 := zD_ge (y := y) (n := n) (zS y n (zS y n cur + 2))
      have c2 := zD_le (y := y) (n := n) b2
      have d1 := zS_ge (y := y) (n := n) (zD y n (zS y n (zS y n cur + 2)))
      have d2 := zS_le (y := y) (n := n) c2
      have f1 := zD_ge (y := y) (n := n) (zS y n (zD y n (zS y n (zS y n cur + 2))))
      have f2 := zD_le (y := y) (n := n) d2
      have g1 := znumR (y := y) (n := n) (lo := 0) (hi := 11) (s := zS y n (zS y n cur + 2))
      have g2 := znumR (y := y) (n := n) (lo := 1) (hi := 100) (s := zS y n (zD y n (zS y n (zS y n cur + 2))))
      split at h
      · cases h; exact zf_of (by decide) (by decide) (by omega) (by omega)
      · split at h
        · split at h
          · cases h; exact zf_of (by decide) (by decide) (by omega) (by omega)
          · split at h
            · split at h
              · cases h; exact zf_of (by decide) (by decide) (by omega) (by omega)
              · exact ih _ _ _ (by omega) (by omega) e h
            · rename_i q; cases h; exact ⟨by omega, by omega, by omega, by omega⟩
        · rename_i q; cases h; exact ⟨by omega, by omega, by omega, by omega⟩
    · split at h
      · split at h
        · cases h
        · cases h; exact zf_of (by decide) (by decide) (by omega) (by omega)
      · cases h; exact zf_of (by decide) (by decide) (by omega) (by omega)
theorem zmv_c {y : Int → Int} {n : Int} : ∀ (k : Nat) (r : List zM) (sum cur : Int), 0 ≤ cur → cur ≤ n → ∀ q, zmv y n k r sum cur = .inr q → 0 ≤ q.2 ∧ q.2 ≤ n := by
  intro k
  induction k with
  | zero => intro r sum cur _ _ e h; cases h
  | succ k ih =>
    intro r sum cur h0 h1 q h
    rw [zmv] at h
    have a1 := zS_ge (y := y) (n := n) cur
    have a2 := zS_le (y := y) (n := n) h1
    split at h
    · rename_i hto
      have ht : zS y n cur + 2 ≤ n := by
        unfold zto at hto
        have q := of_decide_eq_true hto
        have := zE_le (y := y) (n := n) (i := zS y n cur) a2
        omega
      have b1 := zS_ge (y := y) (n := n) (zS y n cur + 2)
      have b2 := zS_le (y := y) (n := n) ht
      have c1 := zD_ge (y := y) (n := n) (zS y n (zS y n cur + 2))
      have c2 := zD_le (y := y) (n := n) b2
      have d1 := zS_ge (y := y) (n := n) (zD y n (zS y n (zS y n cur + 2)))
      have d2 := zS_le (y := y) (n := n) c2
      have f1 := zD_ge (y := y) (n := n) (zS y n (zD y n (zS y n (zS y n cur + 2))))
      have f2 := zD_le (y := y) (n := n) d2
      split at h
      · cases h
      · split at h
        · split at h
          · cases h
          · split at h
            · split at h
              · cases h
              · exact ih _ _ _ (by omega) (by omega) q h
            · cases h
        · cases h
    · split at h
      · rename_i hq
        split at h
        · cases h; exact ⟨by show 0 ≤ zS y n cur + 1; omega, by show zS y n cur + 1 ≤ n; omega⟩
        · cases h
      · cases h
theorem zps_f {y : Int → Int} {n : Int} (hn : n ≤ 500) : ∀ (k : Nat) (rs : List (List zM)) (cur : Int), 0 ≤ cur → cur ≤ n → ∀ e, zps y n k rs cur = .inl e → 1 ≤ e.1 ∧ e.1 ≤ 5 ∧ 0 ≤ e.2 ∧ e.2 ≤ 500 := by
  intro k
  induction k with
  | zero => intro rs cur _ _ e h; cases h; exact zf_of (by decide) (by decide) (by decide) (by decide)
  | succ k ih =>
    intro rs cur h0 h1 e h
    rw [zps] at h
    have a1 := zS_ge (y := y) (n := n) cur
    have a2 := zS_le (y := y) (n := n) h1
    split at h
    · rename_i hb
      have ht : zS y n cur + 6 ≤ n := by
        unfold zbr at hb
        have q := of_decide_eq_true hb
        have := zE_le (y := y) (n := n) (i := zS y n cur) a2
        omega
      have b1 := zS_ge (y := y) (n := n) (zS y n cur + 6)
      have b2 := zS_le (y := y) (n := n) ht
      split at h
      · cases h
      · rename_i hz
        cases h
        unfold zend at hz ⊢
        split at hz
        · rename_i hs
          have c1 := zS_ge (y := y) (n := n) (zS y n (zS y n cur + 6) + 1)
          have c2 := zS_le (y := y) (n := n) (i := zS y n (zS y n cur + 6) + 1) (by omega)
          split at hz
          · rename_i hu
            rw [if_pos hs, if_pos hu]
            exact zf_of (by decide) (by decide) (by omega) (by omega)
          · exact absurd rfl hz
        · rename_i hs
          rw [if_neg hs]
          exact zf_of (by decide) (by decide) (by omega) (by omega)
    · split at h
      · rename_i hp
        have ht : zS y n cur + 5 ≤ n := by
          unfold zpl at hp
          have q := of_decide_eq_true hp
          have := zE_le (y := y) (n := n) (i := zS y n cur) a2
          omega
        split at h
        · cases h; exact zf_of (by decide) (by decide) (by omega) (by omega)
        · cases hm : zmv y n 5 [] 0 (zS y n cur + 5) with
          | inl e' =>
            rw [hm] at h
            cases h
            exact zmv_f hn 5 [] 0 _ (by omega) ht _ hm
          | inr q =>
            rw [hm] at h
            have := zmv_c 5 [] 0 _ (by omega) ht q hm
            exact ih _ _ this.1 this.2 e h
      · cases h; exact zf_of (by decide) (by decide) (by omega) (by omega)
theorem zall_f {y : Int → Int} {n : Int} (h0 : 0 ≤ n) (hn : n ≤ 500) {e : Int × Int} (h : zall y n = .inl e) : 1 ≤ e.1 ∧ e.1 ≤ 6 := by
  rw [zall_e] at h
  split at h
  · rename_i hs
    have a1 := zS_ge (y := y) (n := n) 0
    cases hp : zps y n 12 [] (zS y n 0) with
    | inl e' =>
      rw [hp] at h
      cases h
      have := zps_f hn 12 [] _ (by omega) (by omega) _ hp
      omega
    | inr rs =>
      rw [hp] at h
      unfold zfin at h
      dsimp only at h
      split at h
      · cases h; exact ⟨(by decide : (1 : Int) ≤ 6), (by decide : (6 : Int) ≤ 6)⟩
      · cases h
  · cases h
theorem zmv_r {y : Int → Int} {n : Int} (hn : n ≤ 500) : ∀ (k : Nat) (r : List zM) (sum cur : Int), 0 ≤ cur → cur ≤ n → zrow r → ∀ q, zmv y n k r sum cur = .inr q → zrow q.1 := by
  intro k
  induction k with
  | zero => intro r sum cur _ _ _ e h; cases h
  | succ k ih =>
    intro r sum cur h0 h1 hr q h
    rw [zmv] at h
    have a1 := zS_ge (y := y) (n := n) cur
    have a2 := zS_le (y := y) (n := n) h1
    split at h
    · rename_i hto
      have ht : zS y n cur + 2 ≤ n := by
        unfold zto at hto
        have q := of_decide_eq_true hto
        have := zE_le (y := y) (n := n) (i := zS y n cur) a2
        omega
      have b1 := zS_ge (y := y) (n := n) (zS y n cur + 2)
      have b2 := zS_le (y := y) (n := n) ht
      have c1 := zD_ge (y := y) (n := n) (zS y n (zS y n cur + 2))
      have c2 := zD_le (y := y) (n := n) b2
      have d1 := zS_ge (y := y) (n := n) (zD y n (zS y n (zS y n cur + 2)))
      have d2 := zS_le (y := y) (n := n) c2
      have f1 := zD_ge (y := y) (n := n) (zS y n (zD y n (zS y n (zS y n cur + 2))))
      have f2 := zD_le (y := y) (n := n) d2
      split at h
      · cases h
      · split at h
        · rename_i z1
          have w1 := znum0 z1
          split at h
          · cases h
          · split at h
            · rename_i z2
              have w2 := znum0 z2
              split at h
              · cases h
              · exact ih _ _ _ (by omega) (by omega) (zrow_snoc hr ⟨w1.2.1, w1.2.2, w2.2.1, w2.2.2, by omega, by omega⟩) q h
            · cases h
        · cases h
    · split at h
      · split at h
        · cases h; exact hr
        · cases h
      · cases h
theorem zps_r {y : Int → Int} {n : Int} (hn : n ≤ 500) : ∀ (k : Nat) (rs : List (List zM)) (cur : Int), 0 ≤ cur → cur ≤ n → (∀ r ∈ rs, zrow r) → ∀ q, zps y n k rs cur = .inr q → ∀ r ∈ q, zrow r := by
  intro k
  induction k with
  | zero => intro rs cur _ _ _ q h; cases h
  | succ k ih =>
    intro rs cur h0 h1 hr q h
    rw [zps] at h
    have a1 := zS_ge (y := y) (n := n) cur
    have a2 := zS_le (y := y) (n := n) h1
    split at h
    · split at h
      · cases h; exact hr
      · cases h
    · split at h
      · rename_i hp
        have ht : zS y n cur + 5 ≤ n := by
          unfold zpl at hp
          have q := of_decide_eq_true hp
          have := zE_le (y := y) (n := n) (i := zS y n cur) a2
          omega
        split at h
        · cases h
        · cases hm : zmv y n 5 [] 0 (zS y n cur + 5) with
          | inl e' => rw [hm] at h; cases h
          | inr q' =>
            rw [hm] at h
            have h3 := zmv_c 5 [] 0 _ (by omega) ht q' hm
            have h4 := zmv_r hn 5 [] 0 _ (by omega) ht (fun m hm' => by cases hm') q' hm
            refine ih _ _ h3.1 h3.2 (fun r hr' => ?_) q h
            rcases List.mem_append.mp hr' with w | w
            · exact hr r w
            · rw [List.mem_singleton.mp w]; exact h4
      · cases h
theorem zall_b {y : Int → Int} {n : Int} (h0 : 0 ≤ n) (hn : n ≤ 500) {e : Int × Int} (h : zall y n = .inl e) : 0 ≤ e.2 ∧ e.2 ≤ 500 := by
  rw [zall_e] at h
  split at h
  · rename_i hs
    have a1 := zS_ge (y := y) (n := n) 0
    cases hp : zps y n 12 [] (zS y n 0) with
    | inl e' =>
      rw [hp] at h
      cases h
      have := zps_f hn 12 [] _ (by omega) (by omega) _ hp
      omega
    | inr rs =>
      rw [hp] at h
      unfold zfin at h
      dsimp only at h
      split at h
      · rename_i m hm
        cases h
        have hrs := zps_r hn 12 [] _ (by omega) (by omega) (fun r hr => by cases hr) rs hp
        obtain ⟨r, hr, hmr⟩ := List.mem_flatten.mp (List.mem_of_find?_eq_some hm)
        have := hrs r hr m hmr
        exact ⟨this.2.2.2.2.1, this.2.2.2.2.2⟩
      · cases h
  · cases h
/-! the views -/
theorem cz_form {h : List ik_E} {c1 c2 c3 c4 c5 c6 : ik_E} (h1 : h[1]? = some c1) (h2 : h[2]? = some c2) (h3 : h[3]? = some c3) (h4 : h[4]? = some c4) (h5 : h[5]? = some c5) (h6 : h[6]? = some c6) (hl : h.length = 94) : ∃ c0 tl, h = c0 :: c1 :: c2 :: c3 :: c4 :: c5 :: c6 :: tl ∧ tl.length = 87 := by
  refine ⟨h[0]'(by omega), h.drop 7, List.ext_getElem? fun i => ?_, by rw [List.length_drop]; omega⟩
  match i with
  | 0 => exact List.getElem?_eq_getElem (by omega)
  | 1 => exact h1
  | 2 => exact h2
  | 3 => exact h3
  | 4 => exact h4
  | 5 => exact h5
  | 6 => exact h6
  | i + 7 => show h[i + 7]? = (h.drop 7)[i]?; rw [List.getElem?_drop, Nat.add_comm]
theorem cz_hfr {c0 a1 a2 a3 a4 a5 a6 b1 b2 b3 b4 b5 b6 : ik_E} {tl : List ik_E} : hfr [1, 2, 3, 4, 5, 6] (c0 :: a1 :: a2 :: a3 :: a4 :: a5 :: a6 :: tl) (c0 :: b1 :: b2 :: b3 :: b4 :: b5 :: b6 :: tl) := by
  refine ⟨rfl, fun b hb => ?_⟩
  match b with
  | 0 => rfl
  | 1 => exact absurd (by decide) hb
  | 2 => exact absurd (by decide) hb
  | 3 => exact absurd (by decide) hb
  | 4 => exact absurd (by decide) hb
  | 5 => exact absurd (by decide) hb
  | 6 => exact absurd (by decide) hb
  | b + 7 => rfl
theorem rz_form {h : List ik_E} {c0 c1 c2 c3 c4 c5 d0 d1 d2 d3 d4 : ik_E} (h0 : h[66]? = some c0) (h1 : h[67]? = some c1) (h2 : h[68]? = some c2) (h3 : h[69]? = some c3) (h4 : h[70]? = some c4) (h5 : h[71]? = some c5) (k0 : h[72]? = some d0) (k1 : h[73]? = some d1) (k2 : h[74]? = some d2) (k3 : h[75]? = some d3) (k4 : h[76]? = some d4) (hl : h.length = 94) : ∃ pre tl, h = pre ++ (c0 :: c1 :: c2 :: c3 :: c4 :: c5 :: d0 :: d1 :: d2 :: d3 :: d4 :: tl) ∧ pre.length = 66 ∧ tl.length = 17 := by
  refine ⟨h.take 66, h.drop 77, ?_, by rw [List.length_take]; omega, by rw [List.length_drop]; omega⟩
  have e : h.drop 66 = c0 :: c1 :: c2 :: c3 :: c4 :: c5 :: d0 :: d1 :: d2 :: d3 :: d4 :: h.drop 77 := by
    refine List.ext_getElem? fun i => ?_
    rw [List.getElem?_drop]
    match i with
    | 0 => exact h0
    | 1 => exact h1
    | 2 => exact h2
    | 3 => exact h3
    | 4 => exact h4
    | 5 => exact h5
    | 6 => exact k0
    | 7 => exact k1
    | 8 => exact k2
    | 9 => exact k3
    | 10 => exact k4
    | i + 11 => show h[66 + (i + 11)]? = (h.drop 77)[i]?; rw [List.getElem?_drop, show 66 + (i + 11) = 77 + i by omega]
  rw [← e, List.take_append_drop]
theorem rz_at {pre t : List ik_E} (hp : pre.length = 66) (k : Nat) : (pre ++ t)[66 + k]? = t[k]? := by
  rw [List.getElem?_append_right (by omega), show 66 + k - pre.length = k by omega]
theorem rz_hfr {pre tl : List ik_E} {a0 b0 c1 c2 c3 c4 c5 a1 a2 a3 a4 a5 b1 b2 b3 b4 b5 : ik_E} (hp : pre.length = 66) : hfr [66, 72, 73, 74, 75, 76] (pre ++ (a0 :: c1 :: c2 :: c3 :: c4 :: c5 :: a1 :: a2 :: a3 :: a4 :: a5 :: tl)) (pre ++ (b0 :: c1 :: c2 :: c3 :: c4 :: c5 :: b1 :: b2 :: b3 :: b4 :: b5 :: tl)) := by
  refine ⟨by rw [List.length_append, List.length_append]; rfl, fun b hb => ?_⟩
  rcases Nat.lt_or_ge b 66 with q | q
  · rw [List.getElem?_append_left (by omega), List.getElem?_append_left (by omega)]
  · obtain ⟨i, rfl⟩ : ∃ i, b = 66 + i := ⟨b - 66, by omega⟩
    rw [rz_at hp, rz_at hp]
    match i with
    | 0 => exact absurd (by decide) hb
    | 1 => rfl
    | 2 => rfl
    | 3 => rfl
    | 4 => rfl
    | 5 => rfl
    | 6 => exact absurd (by decide) hb
    | 7 => exact absurd (by decide) hb
    | 8 => exact absurd (by decide) hb
    | 9 => exact absurd (by decide) hb
    | 10 => exact absurd (by decide) hb
    | i + 11 => rfl
theorem cs_readText {h : List ik_E} {tn : Int} {cu : Int} {fl : Int} {fp : Int} {rpl : Int} {T : List Int} {C : List Int} {G : List Int} {P : List Int} {B : List Int} {y : Int → Int} (q0 : ∀ i : Int, 0 ≤ i → i < tn → -128 ≤ T.getD i.toNat 0 ∧ T.getD i.toNat 0 ≤ 127) (q1 : 0 ≤ tn ∧ tn ≤ 500) (q2 : ∀ i : Int, 0 ≤ i → i < tn → y i = T.getD i.toNat 0 % 256) (h1 : cE h 1 (.inr (6, [.ref 2, fI tn, fI cu, fI fl, fI fp, fI rpl, .ref 3, .ref 4, .ref 5, .ref 6]))) (h2 : cE h 2 (.inl (.byte, fA T))) (n2 : T.length = 500) (h3 : cE h 3 (.inl (.int, fA C))) (n3 : C.length = 12) (h4 : cE h 4 (.inl (.int, fA G))) (n4 : G.length = 48) (h5 : cE h 5 (.inl (.int, fA P))) (n5 : P.length = 48) (h6 : cE h 6 (.inl (.int, fA B))) (n6 : B.length = 48) (hl : h.length = 94) : ik_F 56 [.ref 1] h (fun rv h' => (∃ (e : Int × Int) (cu' : Int) (rpl' : Int) (C' : List Int) (G' : List Int) (P' : List Int) (B' : List Int), rv = [fI e.1] ∧ cE h' 1 (.inr (6, [.ref 2, fI 0, fI cu', fI e.1, fI e.2, fI rpl', .ref 3, .ref 4, .ref 5, .ref 6])) ∧ cE h' 2 (.inl (.byte, fA T)) ∧ T.length = 500 ∧ cE h' 3 (.inl (.int, fA C')) ∧ C'.length = 12 ∧ cE h' 4 (.inl (.int, fA G')) ∧ G'.length = 48 ∧ cE h' 5 (.inl (.int, fA P')) ∧ P'.length = 48 ∧ cE h' 6 (.inl (.int, fA B')) ∧ B'.length = 48 ∧ (zall y tn = .inl e) ∧ hfr [1, 2, 3, 4, 5, 6] h h') ∨ (∃ (q : Int × List (List zM)) (cu' : Int) (C' : List Int) (G' : List Int) (P' : List Int) (B' : List Int), rv = [fI 0] ∧ cE h' 1 (.inr (6, [.ref 2, fI 0, fI cu', fI 0, fI (-1), fI q.1, .ref 3, .ref 4, .ref 5, .ref 6])) ∧ cE h' 2 (.inl (.byte, fA T)) ∧ T.length = 500 ∧ cE h' 3 (.inl (.int, fA C')) ∧ C'.length = 12 ∧ cE h' 4 (.inl (.int, fA G')) ∧ G'.length = 48 ∧ cE h' 5 (.inl (.int, fA P')) ∧ P'.length = 48 ∧ cE h' 6 (.inl (.int, fA B')) ∧ B'.length = 48 ∧ (zall y tn = .inr q) ∧ (zH C' G' P' B' q.2) ∧ (zrows q.2) ∧ (q.1 = 0 ∧ q.2 = [] ∨ q.1 = (q.2.length : Int) + 1 ∧ C'.getD q.2.length 0 = 0) ∧ hfr [1, 2, 3, 4, 5, 6] h h')) := by
  obtain ⟨c0, tl, e, htl⟩ := cz_form h1 h2 h3 h4 h5 h6 hl
  subst e
  have ok : cz_ok y T tn tl := ⟨htl, n2, q0, q1.1, q1.2, q2⟩
  refine ik_F_mono (cz_text (c0 := c0) (fl := fl) (fb := fp) (pl := rpl) (cur := cu) ok n3 n4 n5 n6) (fun rv h' r => ?_)
  cases hz : zall y tn with
  | inl e =>
    rw [hz] at r
    obtain ⟨r1, cur', pl', C', G', P', B', l1, l2, l3, l4, eh⟩ := r
    subst eh
    exact Or.inl ⟨e, cur', pl', C', G', P', B', r1, rfl, rfl, n2, rfl, l1, rfl, l2, rfl, l3, rfl, l4, rfl, cz_hfr⟩
  | inr q =>
    rw [hz] at r
    obtain ⟨r1, cur', C', G', P', B', l1, l2, l3, l4, eh, z1, z2, z3⟩ := r
    subst eh
    exact Or.inr ⟨q, cur', C', G', P', B', r1, rfl, rfl, n2, rfl, l1, rfl, l2, rfl, l3, rfl, l4, rfl, z1, z2, z3, cz_hfr⟩

theorem cp_feed {h : List ik_E} {tn : Int} {cu : Int} {fl : Int} {fp : Int} {rpl : Int} {T : List Int} {C : List Int} {G : List Int} {P : List Int} {B : List Int} {n : Int} {b : Int} (q0 : 0 ≤ tn ∧ tn ≤ 500) (q1 : -2147483648 ≤ n ∧ n < 2147483648) (h0 : cE h 0 (.inr (9, [.ref 1, .ref 7, .ref 14, .ref 17, .ref 45, .ref 51, .ref 54, .ref 57]))) (h1 : cE h 1 (.inr (6, [.ref 2, fI tn, fI cu, fI fl, fI fp, fI rpl, .ref 3, .ref 4, .ref 5, .ref 6]))) (h2 : cE h 2 (.inl (.byte, fA T))) (n2 : T.length = 500) (h3 : cE h 3 (.inl (.int, fA C))) (n3 : C.length = 12) (h4 : cE h 4 (.inl (.int, fA G))) (n4 : G.length = 48) (h5 : cE h 5 (.inl (.int, fA P))) (n5 : P.length = 48) (h6 : cE h 6 (.inl (.int, fA B))) (n6 : B.length = 48) (hl : h.length = 94) : ik_F 90 [.ref 0, fI n, fJ b] h (fun rv h' => (rv = [fI (tn + n)] ∧ cE h' 1 (.inr (6, [.ref 2, fI (tn + n), fI cu, fI fl, fI fp, fI rpl, .ref 3, .ref 4, .ref 5, .ref 6])) ∧ cE h' 2 (.inl (.byte, fA (fd_w (fd_c (Int64.ofInt b)) n.toNat tn T))) ∧ (fd_w (fd_c (Int64.ofInt b)) n.toNat tn T).length = 500 ∧ cE h' 3 (.inl (.int, fA C)) ∧ C.length = 12 ∧ cE h' 4 (.inl (.int, fA G)) ∧ G.length = 48 ∧ cE h' 5 (.inl (.int, fA P)) ∧ P.length = 48 ∧ cE h' 6 (.inl (.int, fA B)) ∧ B.length = 48 ∧ (1 ≤ n ∧ n ≤ 8 ∧ tn + n ≤ 500) ∧ hfr [1, 2, 3, 4, 5, 6] h h') ∨ (rv = [fI (if 1 ≤ n ∧ n ≤ 8 then -1000000004 else -1000000002)] ∧ cE h' 1 (.inr (6, [.ref 2, fI tn, fI cu, fI fl, fI fp, fI rpl, .ref 3, .ref 4, .ref 5, .ref 6])) ∧ cE h' 2 (.inl (.byte, fA T)) ∧ T.length = 500 ∧ cE h' 3 (.inl (.int, fA C)) ∧ C.length = 12 ∧ cE h' 4 (.inl (.int, fA G)) ∧ G.length = 48 ∧ cE h' 5 (.inl (.int, fA P)) ∧ P.length = 48 ∧ cE h' 6 (.inl (.int, fA B)) ∧ B.length = 48 ∧ (¬ (1 ≤ n ∧ n ≤ 8 ∧ tn + n ≤ 500)) ∧ hfr [1, 2, 3, 4, 5, 6] h h')) := by
  obtain ⟨c0, tl, e, htl⟩ := cz_form h1 h2 h3 h4 h5 h6 hl
  subst e
  obtain rfl : c0 = .inr (9, [.ref 1, .ref 7, .ref 14, .ref 17, .ref 45, .ref 51, .ref 54, .ref 57]) := Option.some.inj h0
  refine ik_F_mono (cz_feed (cs := [.ref 7, .ref 14, .ref 17, .ref 45, .ref 51, .ref 54, .ref 57]) (m := n) (b := Int64.ofInt b) (cur := cu) (fl := fl) (fb := fp) (pl := rpl) (C := C) (G := G) (P := P) (B := B) htl n2 q0.1 q0.2 q1.1 q1.2) (fun rv h' r => ?_)
  rcases r with ⟨a, r1, eh⟩ | ⟨a1, a2, a3, r1, eh⟩ | ⟨a1, a2, a3, r1, eh⟩
  · subst eh
    exact Or.inr ⟨by rw [r1, if_neg (by omega)], rfl, rfl, n2, rfl, n3, rfl, n4, rfl, n5, rfl, n6, by omega, cz_hfr⟩
  · subst eh
    exact Or.inr ⟨by rw [r1, if_pos (by omega)], rfl, rfl, n2, rfl, n3, rfl, n4, rfl, n5, rfl, n6, by omega, cz_hfr⟩
  · subst eh
    exact Or.inl ⟨r1, rfl, rfl, (fd_wl _ _ _ _).trans n2, rfl, n3, rfl, n4, rfl, n5, rfl, n6, ⟨a1, a2, a3⟩, cz_hfr⟩

theorem cr_takeAll {h : List ik_E} {f : Nat → Int} {tn : Int} {fp : Int} {sd : Int} {we : Int} {nu : Int} {na : Int} {ka : Int} {pa : Int} {fa : Int} {kb : Int} {pb : Int} {fb : Int} {xa : Int} {xb : Int} {cn : List Int} {go : List Int} {ch : List Int} {T : List Int} {M : List Int} {R : List Int} {O : List Int} {A : List Int} {y : Int → Int} (q0 : ∀ i : Int, 0 ≤ i → i < tn → 0 ≤ T.getD i.toNat 0 ∧ T.getD i.toNat 0 ≤ 255) (q1 : 0 ≤ tn ∧ tn ≤ 500) (q2 : ∀ i : Int, 0 ≤ i → i < tn → y i = T.getD i.toNat 0) (h66 : cE h 66 (.inr (10, [fI (f 0), .ref 67, .ref 68, .ref 69, fI (f 4), .ref 70, .ref 71, fI (f 7), fI (f 8), .ref 72, fI tn, fI fp, fI 0, fJ sd, fI we, fI nu, fI na, fI 0, .ref 73, .ref 74, .ref 75, .ref 76, .ref 77, .ref 78, fI (f 24), .ref 79, .ref 80, .ref 81, .ref 82, .ref 83, .ref 84, .ref 85, fJ (f 32), fJ (f 33), .ref 86, .ref 87, fI (f 36), .ref 88, .ref 89, .ref 90, .ref 91, .ref 92, .ref 93]))) (h67 : cE h 67 (.inl (.int, fA cn))) (n67 : cn.length = 12) (h68 : cE h 68 (.inl (.int, fA go))) (n68 : go.length = 48) (h69 : cE h 69 (.inl (.int, fA ch))) (n69 : ch.length = 48) (h70 : cE h 70 (.inl (.int, fA [ka, pa, fa, kb, pb, fb]))) (h71 : cE h 71 (.inl (.int, fA [xa, xb]))) (h72 : cE h 72 (.inl (.int, fA T))) (n72 : T.length = 500) (h73 : cE h 73 (.inl (.int, fA M))) (n73 : M.length = 12) (h74 : cE h 74 (.inl (.int, fA R))) (n74 : R.length = 48) (h75 : cE h 75 (.inl (.int, fA O))) (n75 : O.length = 48) (h76 : cE h 76 (.inl (.int, fA A))) (n76 : A.length = 48) (hl : h.length = 94) : ik_F 145 [.ref 66] h (fun rv h' => (∃ (e : Int × Int) (a0' : Int) (sd' : Int) (we' : Int) (nu' : Int) (na' : Int) (rp' : Int) (M' : List Int) (R' : List Int) (O' : List Int) (A' : List Int), rv = [fI e.1] ∧ cE h' 66 (.inr (10, [fI (f 0), .ref 67, .ref 68, .ref 69, fI (f 4), .ref 70, .ref 71, fI (f 7), fI (f 8), .ref 72, fI tn, fI e.2, fI a0', fJ sd', fI we', fI nu', fI na', fI rp', .ref 73, .ref 74, .ref 75, .ref 76, .ref 77, .ref 78, fI (f 24), .ref 79, .ref 80, .ref 81, .ref 82, .ref 83, .ref 84, .ref 85, fJ (f 32), fJ (f 33), .ref 86, .ref 87, fI (f 36), .ref 88, .ref 89, .ref 90, .ref 91, .ref 92, .ref 93])) ∧ cE h' 72 (.inl (.int, fA T)) ∧ T.length = 500 ∧ cE h' 73 (.inl (.int, fA M')) ∧ M'.length = 12 ∧ cE h' 74 (.inl (.int, fA R')) ∧ R'.length = 48 ∧ cE h' 75 (.inl (.int, fA O')) ∧ O'.length = 48 ∧ cE h' 76 (.inl (.int, fA A')) ∧ A'.length = 48 ∧ (zall y tn = .inl e) ∧ hfr [66, 72, 73, 74, 75, 76] h h') ∨ (∃ (q : Int × List (List zM)) (a0' : Int) (sd' : Int) (we' : Int) (nu' : Int) (na' : Int) (M' : List Int) (R' : List Int) (O' : List Int) (A' : List Int), rv = [fI 0] ∧ cE h' 66 (.inr (10, [fI (f 0), .ref 67, .ref 68, .ref 69, fI (f 4), .ref 70, .ref 71, fI (f 7), fI (f 8), .ref 72, fI tn, fI fp, fI a0', fJ sd', fI we', fI nu', fI na', fI q.1, .ref 73, .ref 74, .ref 75, .ref 76, .ref 77, .ref 78, fI (f 24), .ref 79, .ref 80, .ref 81, .ref 82, .ref 83, .ref 84, .ref 85, fJ (f 32), fJ (f 33), .ref 86, .ref 87, fI (f 36), .ref 88, .ref 89, .ref 90, .ref 91, .ref 92, .ref 93])) ∧ cE h' 72 (.inl (.int, fA T)) ∧ T.length = 500 ∧ cE h' 73 (.inl (.int, fA M')) ∧ M'.length = 12 ∧ cE h' 74 (.inl (.int, fA R')) ∧ R'.length = 48 ∧ cE h' 75 (.inl (.int, fA O')) ∧ O'.length = 48 ∧ cE h' 76 (.inl (.int, fA A')) ∧ A'.length = 48 ∧ (zall y tn = .inr q) ∧ (zH M' R' O' A' q.2) ∧ (zrows q.2) ∧ (q.1 = 0 ∧ q.2 = [] ∨ q.1 = (q.2.length : Int) + 1) ∧ hfr [66, 72, 73, 74, 75, 76] h h')) := by
  obtain ⟨pre, tl, e, hp, htl⟩ := rz_form h66 h67 h68 h69 h70 h71 h72 h73 h74 h75 h76 hl
  subst e
  have ok : rz_ok y T tn pre tl := ⟨hp, htl, n72, q0, q1.1, q1.2, q2⟩
  refine ik_F_mono (rz_al (w := fun k => ([fI (f 0), .ref 67, .ref 68, .ref 69, fI (f 4), .ref 70, .ref 71, fI (f 7), fI (f 8)] : List Value).getD k (.ref 0)) (wt := [.ref 77, .ref 78, fI (f 24), .ref 79, .ref 80, .ref 81, .ref 82, .ref 83, .ref 84, .ref 85, fJ (f 32), fJ (f 33), .ref 86, .ref 87, fI (f 36), .ref 88, .ref 89, .ref 90, .ref 91, .ref 92, .ref 93]) (c := fun k => ([.inl (.int, fA cn), .inl (.int, fA go), .inl (.int, fA ch), .inl (.int, fA [ka, pa, fa, kb, pb, fb]), .inl (.int, fA [xa, xb])] : List ik_E).getD k (.inr (0, []))) (fp := fp) (sd := sd) (we := we) (nu := nu) (na := na) ok n73 n74 n75 n76) (fun rv h' r => ?_)
  cases hz : zall y tn with
  | inl e =>
    rw [hz] at r
    obtain ⟨r1, _, _, a', sd', we', nu', na', rp', M', R', O', A', l1, l2, l3, l4, eh⟩ := r
    subst eh
    exact Or.inl ⟨e, a', sd', we', nu', na', rp', M', R', O', A', r1, rz_at hp 0, rz_at hp 6, n72, rz_at hp 7, l1, rz_at hp 8, l2, rz_at hp 9, l3, rz_at hp 10, l4, rfl, rz_hfr hp⟩
  | inr q =>
    rw [hz] at r
    obtain ⟨r1, a', sd', we', nu', na', M', R', O', A', l1, l2, l3, l4, eh, z1, z2, z3⟩ := r
    subst eh
    exact Or.inr ⟨q, a', sd', we', nu', na', M', R', O', A', r1, rz_at hp 0, rz_at hp 6, n72, rz_at hp 7, l1, rz_at hp 8, l2, rz_at hp 9, l3, rz_at hp 10, l4, rfl, z1, z2, z3, rz_hfr hp⟩

theorem rp_feed {h : List ik_E} {f : Nat → Int} {tn : Int} {fp : Int} {a0 : Int} {sd : Int} {we : Int} {nu : Int} {na : Int} {rp : Int} {ka : Int} {pa : Int} {fa : Int} {kb : Int} {pb : Int} {fb : Int} {xa : Int} {xb : Int} {cn : List Int} {go : List Int} {ch : List Int} {T : List Int} {M : List Int} {R : List Int} {O : List Int} {A : List Int} {n : Int} {b : Int} (q0 : 0 ≤ tn ∧ tn ≤ 500) (q1 : -2147483648 ≤ n ∧ n < 2147483648) (h66 : cE h 66 (.inr (10, [fI (f 0), .ref 67, .ref 68, .ref 69, fI (f 4), .ref 70, .ref 71, fI (f 7), fI (f 8), .ref 72, fI tn, fI fp, fI a0, fJ sd, fI we, fI nu, fI na, fI rp, .ref 73, .ref 74, .ref 75, .ref 76, .ref 77, .ref 78, fI (f 24), .ref 79, .ref 80, .ref 81, .ref 82, .ref 83, .ref 84, .ref 85, fJ (f 32), fJ (f 33), .ref 86, .ref 87, fI (f 36), .ref 88, .ref 89, .ref 90, .ref 91, .ref 92, .ref 93]))) (h67 : cE h 67 (.inl (.int, fA cn))) (n67 : cn.length = 12) (h68 : cE h 68 (.inl (.int, fA go))) (n68 : go.length = 48) (h69 : cE h 69 (.inl (.int, fA ch))) (n69 : ch.length = 48) (h70 : cE h 70 (.inl (.int, fA [ka, pa, fa, kb, pb, fb]))) (h71 : cE h 71 (.inl (.int, fA [xa, xb]))) (h72 : cE h 72 (.inl (.int, fA T))) (n72 : T.length = 500) (h73 : cE h 73 (.inl (.int, fA M))) (n73 : M.length = 12) (h74 : cE h 74 (.inl (.int, fA R))) (n74 : R.length = 48) (h75 : cE h 75 (.inl (.int, fA O))) (n75 : O.length = 48) (h76 : cE h 76 (.inl (.int, fA A))) (n76 : A.length = 48) (hl : h.length = 94) : ik_F 135 [.ref 66, fI n, fJ b] h (fun rv h' => (rv = [fI (tn + n)] ∧ cE h' 66 (.inr (10, [fI (f 0), .ref 67, .ref 68, .ref 69, fI (f 4), .ref 70, .ref 71, fI (f 7), fI (f 8), .ref 72, fI (tn + n), fI fp, fI a0, fJ sd, fI we, fI nu, fI na, fI rp, .ref 73, .ref 74, .ref 75, .ref 76, .ref 77, .ref 78, fI (f 24), .ref 79, .ref 80, .ref 81, .ref 82, .ref 83, .ref 84, .ref 85, fJ (f 32), fJ (f 33), .ref 86, .ref 87, fI (f 36), .ref 88, .ref 89, .ref 90, .ref 91, .ref 92, .ref 93])) ∧ cE h' 72 (.inl (.int, fA (fd_w (fd_r (Int64.ofInt b)) n.toNat tn T))) ∧ (fd_w (fd_r (Int64.ofInt b)) n.toNat tn T).length = 500 ∧ cE h' 73 (.inl (.int, fA M)) ∧ M.length = 12 ∧ cE h' 74 (.inl (.int, fA R)) ∧ R.length = 48 ∧ cE h' 75 (.inl (.int, fA O)) ∧ O.length = 48 ∧ cE h' 76 (.inl (.int, fA A)) ∧ A.length = 48 ∧ (1 ≤ n ∧ n ≤ 8 ∧ tn + n ≤ 500) ∧ hfr [66, 72, 73, 74, 75, 76] h h') ∨ (rv = [fI (if 1 ≤ n ∧ n ≤ 8 then -1000000004 else -1000000002)] ∧ cE h' 66 (.inr (10, [fI (f 0), .ref 67, .ref 68, .ref 69, fI (f 4), .ref 70, .ref 71, fI (f 7), fI (f 8), .ref 72, fI tn, fI fp, fI a0, fJ sd, fI we, fI nu, fI na, fI rp, .ref 73, .ref 74, .ref 75, .ref 76, .ref 77, .ref 78, fI (f 24), .ref 79, .ref 80, .ref 81, .ref 82, .ref 83, .ref 84, .ref 85, fJ (f 32), fJ (f 33), .ref 86, .ref 87, fI (f 36), .ref 88, .ref 89, .ref 90, .ref 91, .ref 92, .ref 93])) ∧ cE h' 72 (.inl (.int, fA T)) ∧ T.length = 500 ∧ cE h' 73 (.inl (.int, fA M)) ∧ M.length = 12 ∧ cE h' 74 (.inl (.int, fA R)) ∧ R.length = 48 ∧ cE h' 75 (.inl (.int, fA O)) ∧ O.length = 48 ∧ cE h' 76 (.inl (.int, fA A)) ∧ A.length = 48 ∧ (¬ (1 ≤ n ∧ n ≤ 8 ∧ tn + n ≤ 500)) ∧ hfr [66, 72, 73, 74, 75, 76] h h')) := by
  obtain ⟨pre, tl, e, hp, htl⟩ := rz_form h66 h67 h68 h69 h70 h71 h72 h73 h74 h75 h76 hl
  subst e
  refine ik_F_mono (rz_feed (w := fun k => ([fI (f 0), .ref 67, .ref 68, .ref 69, fI (f 4), .ref 70, .ref 71, fI (f 7), fI (f 8)] : List Value).getD k (.ref 0)) (wt := [.ref 77, .ref 78, fI (f 24), .ref 79, .ref 80, .ref 81, .ref 82, .ref 83, .ref 84, .ref 85, fJ (f 32), fJ (f 33), .ref 86, .ref 87, fI (f 36), .ref 88, .ref 89, .ref 90, .ref 91, .ref 92, .ref 93]) (c := fun k => ([.inl (.int, fA cn), .inl (.int, fA go), .inl (.int, fA ch), .inl (.int, fA [ka, pa, fa, kb, pb, fb]), .inl (.int, fA [xa, xb])] : List ik_E).getD k (.inr (0, []))) (m := n) (b := Int64.ofInt b) (fp := fp) (a0 := a0) (sd := sd) (we := we) (nu := nu) (na := na) (rp := rp) (M := M) (R := R) (O := O) (A := A) hp htl n72 q0.1 q0.2 q1.1 q1.2) (fun rv h' r => ?_)
  rcases r with ⟨a, r1, eh⟩ | ⟨a1, a2, a3, r1, eh⟩ | ⟨a1, a2, a3, r1, eh⟩
  · subst eh
    exact Or.inr ⟨by rw [r1, if_neg (by omega)], rz_at hp 0, rz_at hp 6, n72, rz_at hp 7, n73, rz_at hp 8, n74, rz_at hp 9, n75, rz_at hp 10, n76, by omega, rz_hfr hp⟩
  · subst eh
    exact Or.inr ⟨by rw [r1, if_pos (by omega)], rz_at hp 0, rz_at hp 6, n72, rz_at hp 7, n73, rz_at hp 8, n74, rz_at hp 9, n75, rz_at hp 10, n76, by omega, rz_hfr hp⟩
  · subst eh
    exact Or.inl ⟨r1, rz_at hp 0, rz_at hp 6, (fd_wl _ _ _ _).trans n72, rz_at hp 7, n73, rz_at hp 8, n74, rz_at hp 9, n75, rz_at hp 10, n76, ⟨a1, a2, a3⟩, rz_hfr hp⟩

end