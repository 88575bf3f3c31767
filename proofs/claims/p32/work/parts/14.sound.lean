set_option maxHeartbeats 16000000 in
set_option maxRecDepth 100000 in
theorem ik_sound : ∀ n, ik_S n := by
  intro n
  induction n with
  | zero =>
    intro p l e R s m args below meth c Q D A H0 sd mid n0 ad0 X pc loc st h cl sl z C0 hA hX hH0 hO hfr hlo hs
    cases hs
  | succ n ih =>
    intro p l e R s m args below meth c Q D A H0 sd mid n0 ad0 X pc loc st h cl sl z C0 hA hX hH0 hO hfr hlo hs hn0 hcl hsl k
    simp only [ik_ex] at hs
    split at hs
    · cases hs
    · rename_i i hi
      have hd := ik_dec hi
      cases hr : ik_isR i with
      | true =>
        rw [hr] at hs
        cases hs
        exact k
      | false =>
        rw [hr] at hs
        simp only [cond_false] at hs
        split at hs
        · rename_i q kn kd hc
          have C1 := C0
          obtain ⟨hx, hb, hml, hown, hts, hin, hmid⟩ := C1
          split at hs
          · -- Object's constructor
            split at hs
            · rename_i a r
              unfold ik_bo at hs
              split at hs
              · rename_i hrm
                have kk := ih p l e R s m args below meth c Q D A H0 sd mid n0 ad0 X (pc + 3) loc r h cl sl z C0 hA hX hH0 hO hfr hlo hs hn0 hcl hsl k
                intro ad ct H locs ls hn hK hP hD hS hl
                dsimp only at hK hP hD hl ⊢
                have key := kk ad ct H locs ls hn hK hP hD hS hl
                dsimp only at key
                unfold ik_call at hc
                split at hc
                · split at hc
                  · cases hc
                  · cases hc
                · rename_i x
                  split at hc
                  · cases hc
                  · cases hc
                  · rename_i q9 n9 p9 hca
                    have hch := ik_ca_ok hmid hca
                    unfold ik_cchk at hch
                    rw [ik_ownN hmid] at hch
                    simp only [Bool.and_eq_true] at hch
                    rw [List.map_cons, show ik_v ad sd (Value.ref a) = Value.ref (ad a) from rfl]
                    refine W.objInit hx hb hown (hts _ (ik_tw_ok hch.1)) (hts _ (ik_tw_ok ik_sys.2.2.2.1)) (hts _ (ik_tw_ok ik_sys.2.2.2.2)) (a := ad a) rfl (by rw [hml]; exact hl.1) rfl hd (Nat.le_trans hrm.1 hfr) ?_ key
                    have hsum : ((r.map (ik_v ad sd)).map fun v => v.category).sum = ik_sum r := by
                      unfold ik_sum
                      rw [List.map_map]
                      congr 1
                      apply List.map_congr_left
                      intro v _
                      exact ik_v_cat ad sd v
                    have h8 := lv_room (m := m) (pc := pc) (ls := ls) (rest := Value.ref (ad a) :: r.map (ik_v ad sd)) (st := r.map (ik_v ad sd)) (by rw [hsum]; exact hrm.2.2)
                    have h9 : 2 * (F0 m pc ls (Value.ref (ad a) :: r.map (ik_v ad sd))).monitorRoom + ((r.map (ik_v ad sd)).map fun v => v.category).sum ≤ 8 := h8
                    omega
                  · cases hc
                · split at hc
                  · cases hc
                  · cases hc
                  · cases hc
                  · cases hc
                  · cases hc
                · cases hc
              · cases hs
            · cases hs
          · -- arraycopy
            split at hs
            · rename_i r h' hac
              unfold ik_bo at hs
              split at hs
              · rename_i hrm
                have kk := ih p l e R s m args below meth c Q D A H0 sd mid n0 ad0 X (pc + 3) loc r h' cl sl z C0 hA hX hH0 hO hfr hlo hs (by rw [ik_acp_len hac]; exact hn0) hcl hsl k
                exact ik_acp_ok C0 hi hc hac hrm hfr hlo kk
              · cases hs
            · cases hs
          · -- Math
            split at hs
            · rename_i st' hmt
              unfold ik_bo at hs
              split at hs
              · rename_i hrm
                have hm2 := ik_mono n hs
                have kk := ih p l e R s m args below meth c Q D A H0 sd mid n0 ad0 X (pc + 3) loc st' h cl sl z C0 hA hX hH0 hO hfr hlo hs hn0 hcl hsl k
                exact ik_math_ok C0 hi hc hmt hrm hfr hlo ⟨by omega, by omega⟩ kk
              · cases hs
            · cases hs
          · -- a method
            cases hf : (ik_fitC mid q kd (st.take kn).reverse h (st.drop kn) loc && decide ((st.take kn).length = kn)) with
            | false => rw [hf] at hs; cases hs
            | true =>
              rw [hf] at hs
              simp only [cond_true] at hs
              split at hs
              · rename_i pr lr sr h' mc ms he
                split at hs
                · rename_i ir hir
                  split at hs
                  · rename_i rv hrv
                    have hm1 := ik_mono n he
                    have hm2 := ik_mono n hs
                    dsimp only at hm1
                    have kk := ih p l e R s m args below meth c Q D A H0 sd mid n0 ad0 X (pc + 3) loc (rv ++ st.drop kn) h' (cl + mc) (sl + ms) z C0 hA hX hH0 hO hfr hlo hs (by omega) hcl hsl k
                    exact ik_call_ok ih C0 hA hH0 hO hi hc hf he hir hrv hfr hlo hn0 ⟨by omega, by omega⟩ kk
                  · cases hs
                · cases hs
              · cases hs
        · split at hs
          · rename_i pc' loc' st' h' cl' sl' hst
            have hm1 := ik_step_mono hst
            have hm2 := ik_mono n hs
            dsimp only at hm1
            have kk := ih p l e R s m args below meth c Q D A H0 sd mid n0 ad0 X pc' loc' st' h' cl' sl' z C0 hA hX hH0 hO hfr hlo hs (by omega) hcl hsl k
            exact ik_step_ok C0 hA hX hH0 hO hd hst hn0 (by dsimp only; omega) (by dsimp only; omega) kk
          · cases hs
