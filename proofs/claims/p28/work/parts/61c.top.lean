theorem cz_room {c0 : ik_E} {tl : List ik_E} {T : List Int} {n cur fl fb pl : Int} {C G P B : List Int} (htl : tl.length = 87) (hT : T.length = 500) (hn : 0 ≤ n) (hn2 : n ≤ 500) {m : Int} (hm : 1 ≤ m) (hm2 : m ≤ 8) : ik_F 54 [.ref 1, fI m] (c0 :: cz_t T n cur fl fb pl C G P B tl) (fun rv h' => ((n + m ≤ 500 ∧ rv = [fI 1]) ∨ (500 < n + m ∧ rv = [fI 0])) ∧ h' = (c0 :: cz_t T n cur fl fb pl C G P B tl)) := by
  refine ik_Wk 1 (pc' := 1) (loc' := [some (.ref 1), some (fI m)]) (st' := [.ref 1]) (h' := (c0 :: cz_t T n cur fl fb pl C G P B tl)) (cl' := 0) (sl' := 0) rfl ?_
  refine fw_gf rfl rfl rfl rfl ?_
  refine ik_Wk 1 (pc' := 5) (loc' := [some (.ref 1), some (fI m)]) (st' := [fI m, fI n]) (h' := (c0 :: cz_t T n cur fl fb pl C G P B tl)) (cl' := 0) (sl' := 0) rfl ?_
  refine fw_add rfl ?_
  refine fw_si rfl (by decide) ?_
  refine fw_ic_gt rfl rfl (by omega) (by omega) (by omega) (by omega) (fun hc1 => ?_) (fun hc1 => ?_)
  · refine ik_Wk 1 (pc' := 17) (loc' := [some (.ref 1), some (fI m)]) (st' := [fI 0]) (h' := (c0 :: cz_t T n cur fl fb pl C G P B tl)) (cl' := 0) (sl' := 0) rfl ?_
    exact ik_Wret rfl rfl ⟨_, _, rfl, rfl, rfl, rfl, ⟨Or.inr ⟨by omega, rfl⟩, rfl⟩⟩
  · refine ik_Wk 2 (pc' := 17) (loc' := [some (.ref 1), some (fI m)]) (st' := [fI 1]) (h' := (c0 :: cz_t T n cur fl fb pl C G P B tl)) (cl' := 0) (sl' := 0) rfl ?_
    exact ik_Wret rfl rfl ⟨_, _, rfl, rfl, rfl, rfl, ⟨Or.inl ⟨by omega, rfl⟩, rfl⟩⟩

theorem cz_append {c0 : ik_E} {tl : List ik_E} {T : List Int} {n cur fl fb pl : Int} {C G P B : List Int} (htl : tl.length = 87) (hT : T.length = 500) (hn : 0 ≤ n) (hn2 : n ≤ 500) {k : Nat} {b : Int64} (hk : (k : Int) ≤ 8) (hr : n + (k : Int) ≤ 500) : ik_F 55 [.ref 1, fI (k : Int), .long b] (c0 :: cz_t T n cur fl fb pl C G P B tl) (fun rv h' => rv = [fI (n + (k : Int))] ∧ h' = (c0 :: cz_t (fd_w (fd_c b) k n T) (n + (k : Int)) cur fl fb pl C G P B tl)) := by
  refine ik_Wk 2 (pc' := 2) (loc' := [some (.ref 1), some (fI (k : Int)), some (.long b), none, none]) (st' := [fI 1, fI (k : Int)]) (h' := (c0 :: cz_t T n cur fl fb pl C G P B tl)) (cl' := 0) (sl' := 0) rfl ?_
  refine fw_sub rfl ?_
  refine ik_Wk 1 (pc' := 5) (loc' := [some (.ref 1), some (fI (k : Int)), some (.long b), none, some (fI ((k : Int) - 1))]) (st' := []) (h' := (c0 :: cz_t T n cur fl fb pl C G P B tl)) (cl' := 0) (sl' := 0) rfl ?_
  exact cz_app k n T hT hn hr hk

theorem cz_feed {cs : List Value} {tl : List ik_E} {T : List Int} {n cur fl fb pl : Int} {C G P B : List Int} (htl : tl.length = 87) (hT : T.length = 500) (hn : 0 ≤ n) (hn2 : n ≤ 500) {m : Int} {b : Int64} (hm : -2147483648 ≤ m) (hm2 : m < 2147483648) : ik_F 90 [.ref 0, fI m, .long b] ((.inr (9, .ref 1 :: cs)) :: cz_t T n cur fl fb pl C G P B tl) (fun rv h' => ((m < 1 ∨ 8 < m) ∧ rv = [fI (-1000000002)] ∧ h' = ((.inr (9, .ref 1 :: cs)) :: cz_t T n cur fl fb pl C G P B tl)) ∨ (1 ≤ m ∧ m ≤ 8 ∧ 500 < n + m ∧ rv = [fI (-1000000004)] ∧ h' = ((.inr (9, .ref 1 :: cs)) :: cz_t T n cur fl fb pl C G P B tl)) ∨ (1 ≤ m ∧ m ≤ 8 ∧ n + m ≤ 500 ∧ rv = [fI (n + m)] ∧ h' = ((.inr (9, .ref 1 :: cs)) :: cz_t (fd_w (fd_c b) m.toNat n T) (n + m) cur fl fb pl C G P B tl))) := by
  refine ik_Wk 2 (pc' := 2) (loc' := [some (.ref 0), some (fI m), some (.long b), none]) (st' := [fI 1, fI m]) (h' := ((.inr (9, .ref 1 :: cs)) :: cz_t T n cur fl fb pl C G P B tl)) (cl' := 0) (sl' := 0) rfl ?_
  refine fw_ic_lt rfl rfl (by omega) (by omega) (by omega) (by omega) (fun hc1 => ?_) (fun hc1 => ?_)
  · refine fw_ld (-1000000002) rfl rfl (by decide) ?_
    exact ik_Wret rfl rfl ⟨_, _, rfl, rfl, rfl, rfl, (Or.inl ⟨by omega, rfl, rfl⟩)⟩
  · refine ik_Wk 1 (pc' := 6) (loc' := [some (.ref 0), some (fI m), some (.long b), none]) (st' := [fI m]) (h' := ((.inr (9, .ref 1 :: cs)) :: cz_t T n cur fl fb pl C G P B tl)) (cl' := 0) (sl' := 0) rfl ?_
    refine fw_bi rfl (by decide) ?_
    refine fw_ic_le rfl rfl (by omega) (by omega) (by omega) (by omega) (fun hc2 => ?_) (fun hc2 => ?_)
    · refine ik_Wk 1 (pc' := 15) (loc' := [some (.ref 0), some (fI m), some (.long b), none]) (st' := [.ref 0]) (h' := ((.inr (9, .ref 1 :: cs)) :: cz_t T n cur fl fb pl C G P B tl)) (cl' := 0) (sl' := 0) rfl ?_
      refine fw_gf rfl rfl rfl rfl ?_
      refine ik_Wk 1 (pc' := 19) (loc' := [some (.ref 0), some (fI m), some (.long b), none]) (st' := [fI m, .ref 1]) (h' := ((.inr (9, .ref 1 :: cs)) :: cz_t T n cur fl fb pl C G P B tl)) (cl' := 0) (sl' := 0) rfl ?_
      refine fw_call 54 2 0 [.ref 1, fI m] [] rfl rfl rfl (by decide) rfl rfl (fw_rec (cz_len htl) rfl rfl rfl (by decide)) (cz_room htl hT hn hn2 (by omega) (by omega)) ?_
      rintro rv h' ⟨⟨hrm, rfl⟩ | ⟨hrm, rfl⟩, rfl⟩
      · refine ik_Wk 0 (pc' := 22) (loc' := [some (.ref 0), some (fI m), some (.long b), none]) (st' := [fI 1]) (h' := ((.inr (9, .ref 1 :: cs)) :: cz_t T n cur fl fb pl C G P B tl)) (cl' := 0) (sl' := 0) rfl ?_
        refine fw_if_ne rfl rfl (by omega) (by omega) (fun hc3 => absurd hc3 (by omega)) (fun hc3 => ?_)
        refine ik_Wk 1 (pc' := 29) (loc' := [some (.ref 0), some (fI m), some (.long b), none]) (st' := [.ref 0]) (h' := ((.inr (9, .ref 1 :: cs)) :: cz_t T n cur fl fb pl C G P B tl)) (cl' := 0) (sl' := 0) rfl ?_
        refine fw_gf rfl rfl rfl rfl ?_
        refine ik_Wk 2 (pc' := 34) (loc' := [some (.ref 0), some (fI m), some (.long b), none]) (st' := [.long b, fI m, .ref 1]) (h' := ((.inr (9, .ref 1 :: cs)) :: cz_t T n cur fl fb pl C G P B tl)) (cl' := 0) (sl' := 0) rfl ?_
        obtain ⟨k, rfl⟩ : ∃ k : Nat, m = (k : Int) := ⟨m.toNat, by omega⟩
        refine fw_call 55 3 0 [.ref 1, fI (k : Int), .long b] [] rfl rfl rfl (by decide) rfl rfl (fw_rec (cz_len htl) rfl rfl rfl (by decide)) (cz_append htl hT hn hn2 (by omega) hrm) ?_
        rintro rv h' ⟨rfl, rfl⟩
        refine ik_Wk 0 (pc' := 37) (loc' := [some (.ref 0), some (fI (k : Int)), some (.long b), none]) (st' := [fI (n + (k : Int))]) (h' := ((.inr (9, .ref 1 :: cs)) :: cz_t (fd_w (fd_c b) k n T) (n + (k : Int)) cur fl fb pl C G P B tl)) (cl' := 0) (sl' := 0) rfl ?_
        exact ik_Wret rfl rfl ⟨_, _, rfl, rfl, rfl, rfl, (Or.inr (Or.inr ⟨by omega, by omega, by omega, rfl, by rw [Int.toNat_natCast]⟩))⟩
      · refine ik_Wk 0 (pc' := 22) (loc' := [some (.ref 0), some (fI m), some (.long b), none]) (st' := [fI 0]) (h' := ((.inr (9, .ref 1 :: cs)) :: cz_t T n cur fl fb pl C G P B tl)) (cl' := 0) (sl' := 0) rfl ?_
        refine fw_if_ne rfl rfl (by omega) (by omega) (fun hc4 => ?_) (fun hc4 => absurd hc4 (by omega))
        refine fw_ld (-1000000004) rfl rfl (by decide) ?_
        exact ik_Wret rfl rfl ⟨_, _, rfl, rfl, rfl, rfl, (Or.inr (Or.inl ⟨by omega, by omega, by omega, rfl, rfl⟩))⟩
    · refine fw_ld (-1000000002) rfl rfl (by decide) ?_
      exact ik_Wret rfl rfl ⟨_, _, rfl, rfl, rfl, rfl, (Or.inl ⟨by omega, rfl, rfl⟩)⟩

theorem rz_feed {pre tl : List ik_E} {w : Nat → Value} {wt : List Value} {c : Nat → ik_E} {T : List Int} {n fp a0 sd we nu na rp : Int} {M R O A : List Int} (hpre : pre.length = 66) (htl : tl.length = 17) (hT : T.length = 500) (hn : 0 ≤ n) (hn2 : n ≤ 500) {m : Int} {b : Int64} (hm : -2147483648 ≤ m) (hm2 : m < 2147483648) : ik_F 135 [.ref 66, fI m, .long b] (pre ++ rz_t w wt c tl T n fp a0 sd we nu na rp M R O A) (fun rv h' => ((m < 1 ∨ 8 < m) ∧ rv = [fI (-1000000002)] ∧ h' = (pre ++ rz_t w wt c tl T n fp a0 sd we nu na rp M R O A)) ∨ (1 ≤ m ∧ m ≤ 8 ∧ 500 < n + m ∧ rv = [fI (-1000000004)] ∧ h' = (pre ++ rz_t w wt c tl T n fp a0 sd we nu na rp M R O A)) ∨ (1 ≤ m ∧ m ≤ 8 ∧ n + m ≤ 500 ∧ rv = [fI (n + m)] ∧ h' = (pre ++ rz_t w wt c tl (fd_w (fd_r b) m.toNat n T) (n + m) fp a0 sd we nu na rp M R O A))) := by
  refine ik_Wk 1 (pc' := 1) (loc' := [some (.ref 66), some (fI m), some (.long b), none, none]) (st' := [fI m]) (h' := (pre ++ rz_t w wt c tl T n fp a0 sd we nu na rp M R O A)) (cl' := 0) (sl' := 0) rfl ?_
  refine fw_i2l rfl (by omega) (by omega) ?_
  refine fw_lc (z := 1) rfl (by decide) ?_
  refine fw_l2 8 rfl rfl (by decide) ?_
  refine fw_call 127 3 3 [fJ m, fJ 1, fJ 8] [] rfl rfl rfl (by decide) rfl rfl (fw_sta (rz_len hpre htl) rfl (by decide)) (rz_in (by omega) (by omega) (by omega) (by omega) (by omega) (by omega)) ?_
  rintro rv h' ⟨⟨hi1, hi2, rfl⟩ | ⟨hi1, rfl⟩, rfl⟩
  · refine ik_Wk 0 (pc' := 9) (loc' := [some (.ref 66), some (fI m), some (.long b), none, none]) (st' := [fI 1]) (h' := (pre ++ rz_t w wt c tl T n fp a0 sd we nu na rp M R O A)) (cl' := 0) (sl' := 0) rfl ?_
    refine fw_if_ne rfl rfl (by omega) (by omega) (fun hc3 => absurd hc3 (by omega)) (fun hc3 => ?_)
    refine ik_Wk 1 (pc' := 16) (loc' := [some (.ref 66), some (fI m), some (.long b), none, none]) (st' := [.ref 66]) (h' := (pre ++ rz_t w wt c tl T n fp a0 sd we nu na rp M R O A)) (cl' := 0) (sl' := 0) rfl ?_
    refine fw_gf rfl rfl (rz_g 0 hpre rfl) rfl ?_
    refine ik_Wk 1 (pc' := 20) (loc' := [some (.ref 66), some (fI m), some (.long b), none, none]) (st' := [fI m, fI n]) (h' := (pre ++ rz_t w wt c tl T n fp a0 sd we nu na rp M R O A)) (cl' := 0) (sl' := 0) rfl ?_
    refine fw_add rfl ?_
    refine fw_si rfl (by decide) ?_
    refine fw_ic_le rfl rfl (by omega) (by omega) (by omega) (by omega) (fun hc4 => ?_) (fun hc4 => ?_)
    · refine ik_Wk 2 (pc' := 32) (loc' := [some (.ref 66), some (fI m), some (.long b), none, none]) (st' := [fI 1, fI m]) (h' := (pre ++ rz_t w wt c tl T n fp a0 sd we nu na rp M R O A)) (cl' := 0) (sl' := 0) rfl ?_
      refine fw_sub rfl ?_
      refine ik_Wk 1 (pc' := 35) (loc' := [some (.ref 66), some (fI m), some (.long b), none, some (fI (m - 1))]) (st' := []) (h' := (pre ++ rz_t w wt c tl T n fp a0 sd we nu na rp M R O A)) (cl' := 0) (sl' := 0) rfl ?_
      obtain ⟨k, rfl⟩ : ∃ k : Nat, m = (k : Int) := ⟨m.toNat, by omega⟩
      refine ik_Wmono (rz_app hpre k n T hT hn (by omega) (by omega)) ?_
      rintro z ⟨ir, rv, z1, z2, z3, z4, z5⟩
      refine ⟨ir, rv, z1, z2, z3, z4, ?_⟩
      revert z5
      generalize z.2.2.2.1 = hx
      rintro ⟨rfl, rfl⟩
      exact Or.inr (Or.inr ⟨by omega, by omega, by omega, rfl, by rw [Int.toNat_natCast]⟩)
    · refine fw_ld (-1000000004) rfl rfl (by decide) ?_
      exact ik_Wret rfl rfl ⟨_, _, rfl, rfl, rfl, rfl, (Or.inr (Or.inl ⟨by omega, by omega, by omega, rfl, rfl⟩))⟩
  · refine ik_Wk 0 (pc' := 9) (loc' := [some (.ref 66), some (fI m), some (.long b), none, none]) (st' := [fI 0]) (h' := (pre ++ rz_t w wt c tl T n fp a0 sd we nu na rp M R O A)) (cl' := 0) (sl' := 0) rfl ?_
    refine fw_if_ne rfl rfl (by omega) (by omega) (fun hc5 => ?_) (fun hc5 => absurd hc5 (by omega))
    refine fw_ld (-1000000002) rfl rfl (by decide) ?_
    exact ik_Wret rfl rfl ⟨_, _, rfl, rfl, rfl, rfl, (Or.inl ⟨by omega, rfl, rfl⟩)⟩
