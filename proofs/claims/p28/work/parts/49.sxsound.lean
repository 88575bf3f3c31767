noncomputable section
/-! the executor's run is sound -/
theorem sx_run_ok {Q : List ik_E → Prop} {K : List sx_K} {sp : List (Nat × Nat)} {M : sx_M} {uq : Bool} {h0 : List ik_E} (hK : ∀ C, C ∈ K → sx_hd Q C) (hQ : uq = true → ∀ h, sx_fm M h0 h → Q h) : ∀ (n : Nat) {X : Option (Nat × (Nat → Int32))} {mid : Nat} {cuts : List Nat} {first : Bool} {pc : Nat} {S : sx_S} {L : List sx_O} {ν : List Int} {loc : ik_L} {st : List Value} {h : List ik_E} {cl sl : Nat} {post : ik_St → Prop}, sx_run K sp M uq n mid cuts first pc S = some L → sx_rr ν S loc st h → sx_fm M h0 h → sx_ow X M h0 mid ν h.length cl sl post L → ik_W X mid pc loc st h cl sl post := by
  intro n
  induction n with
  | zero => intro X mid cuts first pc S L ν loc st h cl sl post hs; cases hs
  | succ n ih =>
    intro X mid cuts first pc S L ν loc st h cl sl post hs hr hf ho
    obtain ⟨g, l, s, H⟩ := S
    obtain ⟨hg, hl, hst, hh⟩ := hr
    dsimp only at hg hl hst hh
    simp only [sx_run] at hs
    cases hcut : ((!first) && cuts.contains pc) with
    | true =>
      rw [hcut] at hs
      cases hs
      exact (ho _ List.mem_cons_self [] loc st h (by rw [List.append_nil]; exact ⟨hg, hl, hst, hh⟩) hf rfl).2 rfl
    | false =>
      rw [hcut] at hs
      simp only [cond_false] at hs
      split at hs
      · rename_i gs hgs
        obtain ⟨g', m1, m2⟩ := sx_sp_ok hg hst hgs
        obtain ⟨R, e1, e2⟩ := sx_all_ok hs m1
        exact ih e1 (ν := ν) ⟨m2, hl, hst, hh⟩ hf (by
          have := sx_ow_sub ho e2 []
          rw [List.append_nil] at this
          exact this)
      · split at hs
        · cases hs
        · rename_i i hi
          rw [sx_iat_eq] at hi
          cases hR : ik_isR i with
          | true =>
            rw [hR] at hs
            cases hs
            refine ik_Wret hi hR ?_
            exact (ho _ List.mem_cons_self [] loc st h (by rw [List.append_nil]; exact ⟨hg, hl, hst, hh⟩) hf rfl).1 rfl ⟨i, hi, hR⟩
          | false =>
            rw [hR] at hs
            simp only [cond_false] at hs
            split at hs
            · rename_i q k kd hcall
              split at hs
              · split at hs
                · rename_i r H' hacp
                  cases hb : (Nat.ble 1 (ik_fr mid) && Nat.ble 40 (ik_lo mid) && Nat.ble (sx_cs r) 8) with
                  | false => rw [hb] at hs; cases hs
                  | true =>
                    rw [hb] at hs
                    simp only [cond_true] at hs
                    obtain ⟨b1, b3⟩ := Bool.and_eq_true_iff.mp hb
                    obtain ⟨b1, b2⟩ := Bool.and_eq_true_iff.mp b1
                    obtain ⟨st', h', a1, a2, a3, a4, a5⟩ := sx_acp_ok hg hst hh hf hacp
                    refine sx_W5 hi hR hcall a1 ⟨Nat.ble_eq.mp b1, Nat.ble_eq.mp b2, by rw [sx_cs_ok a2]; exact Nat.ble_eq.mp b3⟩ ?_
                    refine ih hs (ν := ν) ⟨hg, ?_, a2, a3⟩ a4 ?_
                    · dsimp only; rw [a5]; exact hl
                    · rw [a5]; exact ho
                · cases hs
              · split at hs
                · rename_i g' s' hm
                  cases hb : (Nat.ble 1 (ik_fr mid) && Nat.ble 40 (ik_lo mid) && Nat.ble (sx_cs (s'.drop 1)) 8) with
                  | false => rw [hb] at hs; cases hs
                  | true =>
                    rw [hb] at hs
                    simp only [cond_true] at hs
                    obtain ⟨b1, b3⟩ := Bool.and_eq_true_iff.mp hb
                    obtain ⟨b1, b2⟩ := Bool.and_eq_true_iff.mp b1
                    obtain ⟨st', δ, a1, a2, a3⟩ := sx_mth_ok hg hst hm
                    refine sx_W7 hi hR hcall a1 ⟨Nat.ble_eq.mp b1, Nat.ble_eq.mp b2, by rw [sx_cs_ok (sx_sr_drop 1 a3)]; exact Nat.ble_eq.mp b3⟩ ?_
                    exact ih hs (ν := ν ++ δ) ⟨a2, sx_lr_mono hl, a3, sx_hr_mono hh⟩ hf (sx_ow_sub ho (fun o h => h) δ)
                · cases hs
              · cases hb : (sx_fc mid q kd (s.take k).reverse H (s.drop k) l && Nat.beq (s.take k).length k) with
                | false => rw [hb] at hs; cases hs
                | true =>
                  rw [hb] at hs
                  simp only [cond_true] at hs
                  obtain ⟨b1, b2⟩ := Bool.and_eq_true_iff.mp hb
                  have sa : sx_sr ν (s.take k).reverse (st.take k).reverse := sx_sr_rev (sx_sr_take k hst)
                  have sd : sx_sr ν (s.drop k) (st.drop k) := sx_sr_drop k hst
                  obtain ⟨hkd, hfit⟩ := sx_fc_ok sa sd hl hh b1
                  have hlen : (st.take k).reverse.length = k := by
                    rw [List.length_reverse, sx_sr_len (sx_sr_take k hst)]
                    exact Nat.eq_of_beq_eq_true b2
                  have hste : st = (st.take k).reverse.reverse ++ st.drop k := by rw [List.reverse_reverse, List.take_append_drop]
                  refine ik_Wc q k kd (st.take k).reverse (st.drop k) hi hR hcall hkd hste hlen hfit ?_
                  split at hs
                  · rename_i Ls htry
                    obtain ⟨C, c1, c2, c3⟩ := sx_try_ok htry
                    subst c2
                    obtain ⟨w1, w2⟩ := sx_ap1_ok (hK C c1) (fun u => hQ u h hf) hg sa hh c3
                    refine sx_W_mono w2 ?_
                    rintro ⟨pr, lr, sr, h', mc, ms⟩ ⟨ir, rv, z1, z2, z3, z4, z5, S', δ, z6, z7, z8, z9⟩
                    dsimp only at z1 z2 z3 z4 z5 z9 ⊢
                    subst z4; subst z5
                    obtain ⟨R, e1, e2⟩ := sx_all_ok hs z6
                    refine ⟨ir, rv, z1, z2, ?_⟩
                    have hfm := sx_fm_trans w1 hf z3
                    have hle : h'.length = h.length := z3.1
                    refine ih e1 (ν := ν ++ δ) ⟨z7, ?_, sx_sr_app z8 (sx_sr_mono sd), z9⟩ hfm ?_
                    · dsimp only; rw [hle]; exact sx_lr_mono hl
                    · rw [hle]; exact sx_ow_sub ho e2 δ
                  · cases hs
                  · split at hs
                    · rename_i R hrun
                      refine ih hrun (ν := ν) ⟨hg, sx_lo_ok sa, trivial, hh⟩ hf ?_
                      intro o hmo δ loc' st' h' hrr hfm hle
                      obtain ⟨R', e1, e2⟩ := sx_all_ok hs hmo
                      cases hob : o.1 with
                      | false => rw [hob] at e1; cases e1
                      | true =>
                        rw [hob] at e1
                        simp only [cond_true] at e1
                        split at e1
                        · rename_i ir hir
                          split at e1
                          · rename_i rv hrv
                            obtain ⟨r1, r2, r3, r4⟩ := hrr
                            obtain ⟨rw', g1, g2⟩ := sx_rc_ok r1 r3 hrv
                            have fin : ∃ ir rv, ik_at q o.2.1 = some ir ∧ ik_rv (ik_rt q) ir st' = some rv ∧ ik_W X mid (pc + 3) loc (rv ++ st.drop k) h' (cl + 0) (sl + 0) post := by
                              refine ⟨ir, rw', hir, g1, ?_⟩
                              refine ih e1 (ν := ν ++ δ) ⟨r1, ?_, sx_sr_app g2 (sx_sr_mono sd), r4⟩ hfm ?_
                              · dsimp only; rw [hle]; exact sx_lr_mono hl
                              · rw [hle]; exact sx_ow_sub ho e2 δ
                            exact ⟨fun _ _ => fin, fun hfalse => by cases hfalse⟩
                          · cases e1
                        · cases e1
                    · cases hs
            · rename_i hcall
              split at hs
              · rename_i Ls hstep
                obtain ⟨pc', loc', st', h', q1, q2, q3, S', δ, q4, q5⟩ := sx_step_ok (X := X) (cl := cl) (sl := sl) hstep hg hl hst hh hf
                obtain ⟨R, e1, e2⟩ := sx_all_ok hs q4
                refine sx_W1 hi hR hcall q1 ?_
                refine ih e1 (ν := ν ++ δ) q5 q3 ?_
                rw [q2]
                exact sx_ow_sub ho e2 δ
              · cases hs
end
