/-! WHAT ONLY GROWS -/
set_option maxHeartbeats 8000000 in
set_option maxRecDepth 100000 in
theorem ik_step_mono {X : Option (Nat × (Nat → Int32))} {mid : Nat} {i : Instr} {pc : Nat} {loc : ik_L} {st : List Value} {h : List ik_E} {cl sl : Nat} {z : ik_St} (hs : ik_step X mid i pc loc st h cl sl = some z) : cl ≤ z.2.2.2.2.1 ∧ sl ≤ z.2.2.2.2.2 ∧ h.length ≤ z.2.2.2.1.length := by
  cases i <;> simp only [ik_step, ik_bo] at hs
  all_goals repeat' (split at hs)
  all_goals first
    | (cases hs; done)
    | (cases hs; exact ⟨Nat.le_refl _, Nat.le_refl _, Nat.le_refl _⟩)
    | (cases hs; refine ⟨Nat.le_refl _, Nat.le_refl _, ?_⟩; simp only [List.length_set]; exact Nat.le_refl _)
    | (cases hs; refine ⟨Nat.le_add_right _ _, Nat.le_add_right _ _, ?_⟩; simp only [List.length_append]; exact Nat.le_add_right _ _)
theorem ik_acp_len {st r : List Value} {h h' : List ik_E} (hs : ik_acp st h = some (r, h')) : h'.length = h.length := by
  unfold ik_acp at hs
  repeat' (split at hs)
  all_goals first
    | (cases hs; done)
    | (cases hs; simp only [List.length_set])
set_option maxHeartbeats 8000000 in
theorem ik_mono : ∀ (n : Nat) {X : Option (Nat × (Nat → Int32))} {mid pc : Nat} {loc : ik_L} {st : List Value} {h : List ik_E} {cl sl : Nat} {z : ik_St}, ik_ex X n mid pc loc st h cl sl = some z → cl ≤ z.2.2.2.2.1 ∧ sl ≤ z.2.2.2.2.2 ∧ h.length ≤ z.2.2.2.1.length := by
  intro n
  induction n with
  | zero => intro X mid pc loc st h cl sl z hs; cases hs
  | succ n ih =>
    intro X mid pc loc st h cl sl z hs
    simp only [ik_ex] at hs
    split at hs
    · cases hs
    · rename_i i hi
      cases hr : ik_isR i with
      | true =>
        rw [hr] at hs
        cases hs
        exact ⟨Nat.le_refl _, Nat.le_refl _, Nat.le_refl _⟩
      | false =>
        rw [hr] at hs
        simp only [cond_false] at hs
        split at hs
        · rename_i q k kd hc
          split at hs
          · split at hs
            · unfold ik_bo at hs
              split at hs
              · exact ih hs
              · cases hs
            · cases hs
          · split at hs
            · rename_i r h' ha
              unfold ik_bo at hs
              split at hs
              · have := ih hs
                rw [ik_acp_len ha] at this
                exact this
              · cases hs
            · cases hs
          · split at hs
            · unfold ik_bo at hs
              split at hs
              · exact ih hs
              · cases hs
            · cases hs
          · cases hf : (ik_fitC mid q kd (st.take k).reverse h (st.drop k) loc && decide ((st.take k).length = k)) with
            | false => rw [hf] at hs; cases hs
            | true =>
              rw [hf] at hs
              simp only [cond_true] at hs
              split at hs
              · rename_i pr lr sr h' mc ms he
                split at hs
                · split at hs
                  · have h1 := ih he
                    have h2 := ih hs
                    dsimp only at h1
                    exact ⟨by omega, by omega, by omega⟩
                  · cases hs
                · cases hs
              · cases hs
        · split at hs
          · rename_i pc' loc' st' h' cl' sl' hst
            have h1 := ik_step_mono hst
            have h2 := ih hs
            dsimp only at h1
            exact ⟨by omega, by omega, by omega⟩
          · cases hs
