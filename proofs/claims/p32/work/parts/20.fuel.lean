/-- more fuel does no harm -/
theorem ik_fuel : ∀ (n : Nat) {X : Option (Nat × (Nat → Int32))} {mid pc : Nat} {loc : ik_L} {st : List Value} {h : List ik_E} {cl sl : Nat} {z : ik_St}, ik_ex X n mid pc loc st h cl sl = some z → ∀ d, ik_ex X (n + d) mid pc loc st h cl sl = some z := by
  intro n
  induction n with
  | zero => intro X mid pc loc st h cl sl z hs; cases hs
  | succ n ih =>
    intro X mid pc loc st h cl sl z hs d
    rw [show n + 1 + d = (n + d) + 1 by omega]
    simp only [ik_ex] at hs ⊢
    split at hs
    · cases hs
    · rename_i i hi
      cases hr : ik_isR i with
      | true => rw [hr] at hs; exact hs
      | false =>
        rw [hr] at hs
        simp only [cond_false] at hs ⊢
        split at hs
        · rename_i q k kd hc
          split at hs
          · split at hs
            · unfold ik_bo at hs ⊢
              try dsimp only
              split at hs
              · rename_i c0; rw [if_pos c0]; exact ih hs d
              · cases hs
            · cases hs
          · split at hs
            · unfold ik_bo at hs ⊢
              try dsimp only
              split at hs
              · rename_i c0; rw [if_pos c0]; exact ih hs d
              · cases hs
            · cases hs
          · split at hs
            · unfold ik_bo at hs ⊢
              try dsimp only
              split at hs
              · rename_i c0; rw [if_pos c0]; exact ih hs d
              · cases hs
            · cases hs
          · cases hf : (ik_fitC mid q kd (st.take k).reverse h (st.drop k) loc && decide ((st.take k).length = k)) with
            | false => rw [hf] at hs; cases hs
            | true =>
              rw [hf] at hs
              simp only [cond_true] at hs
              split at hs
              · rename_i he
                split at hs
                · rename_i hir
                  split at hs
                  · rename_i hrv
                    simp only [cond_true, ih he d, hir, hrv]
                    exact ih hs d
                  · cases hs
                · cases hs
              · cases hs
        · split at hs
          · exact ih hs d
          · cases hs
