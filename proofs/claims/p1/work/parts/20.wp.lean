/-! WEAKEST PRECONDITIONS of the abstract machine: branches give two goals -/
def ik_wp : Option (Nat × (Nat → Int32)) → Nat → Nat → Nat → ik_L → List Value → List ik_E → Nat → Nat → (ik_St → Prop) → Prop
  | _, 0, _, _, _, _, _, _, _, _ => False
  | X, n + 1, mid, pc, loc, st, h, cl, sl, post => match ik_at mid pc with
    | none => False
    | some i => bif ik_isR i then post (pc, loc, st, h, cl, sl) else match ik_call mid i with
      | some (q, k, kd) =>
        (match kd with
        | 6 => (match st with
          | .ref _ :: r => bif decide (1 ≤ ik_fr mid ∧ 20 ≤ ik_lo mid ∧ ik_sum r ≤ 8) then ik_wp X n mid (pc + 3) loc r h cl sl post else False
          | _ => False)
        | 5 => (match ik_acp st h with
          | some (r, h') => bif decide (1 ≤ ik_fr mid ∧ 40 ≤ ik_lo mid ∧ ik_sum r ≤ 8) then ik_wp X n mid (pc + 3) loc r h' cl sl post else False
          | none => False)
        | _ => bif ik_fitC mid q kd (st.take k).reverse h (st.drop k) loc && decide ((st.take k).length = k) then ik_wp none n q 0 (ik_loc (ik_ml q) (st.take k).reverse) [] h 0 0 (fun zr => match ik_at q zr.1 with
            | some ir => (match ik_rv (ik_rt q) ir zr.2.2.1 with
              | some rv => ik_wp X n mid (pc + 3) loc (rv ++ st.drop k) zr.2.2.2.1 (cl + zr.2.2.2.2.1) (sl + zr.2.2.2.2.2) post
              | none => False)
            | none => False) else False)
      | none => (match i with
        | .ifCond c off => (match st, ik_tg pc off with
          | .int x :: r, some t => (match c with
            | .eq => (x = 0 → ik_wp X n mid t loc r h cl sl post) ∧ (¬ x = 0 → ik_wp X n mid (pc + 3) loc r h cl sl post)
            | .ne => (x = 0 → ik_wp X n mid (pc + 3) loc r h cl sl post) ∧ (¬ x = 0 → ik_wp X n mid t loc r h cl sl post)
            | .lt => (x < 0 → ik_wp X n mid t loc r h cl sl post) ∧ (¬ x < 0 → ik_wp X n mid (pc + 3) loc r h cl sl post)
            | .ge => (0 ≤ x → ik_wp X n mid t loc r h cl sl post) ∧ (¬ 0 ≤ x → ik_wp X n mid (pc + 3) loc r h cl sl post)
            | .gt => (0 < x → ik_wp X n mid t loc r h cl sl post) ∧ (¬ 0 < x → ik_wp X n mid (pc + 3) loc r h cl sl post)
            | .le => (x ≤ 0 → ik_wp X n mid t loc r h cl sl post) ∧ (¬ x ≤ 0 → ik_wp X n mid (pc + 3) loc r h cl sl post))
          | _, _ => False)
        | .if_icmp c off => (match st, ik_tg pc off with
          | .int y :: .int x :: r, some t => (match c with
            | .eq => (x = y → ik_wp X n mid t loc r h cl sl post) ∧ (¬ x = y → ik_wp X n mid (pc + 3) loc r h cl sl post)
            | .ne => (x = y → ik_wp X n mid (pc + 3) loc r h cl sl post) ∧ (¬ x = y → ik_wp X n mid t loc r h cl sl post)
            | .lt => (x < y → ik_wp X n mid t loc r h cl sl post) ∧ (¬ x < y → ik_wp X n mid (pc + 3) loc r h cl sl post)
            | .ge => (y ≤ x → ik_wp X n mid t loc r h cl sl post) ∧ (¬ y ≤ x → ik_wp X n mid (pc + 3) loc r h cl sl post)
            | .gt => (y < x → ik_wp X n mid t loc r h cl sl post) ∧ (¬ y < x → ik_wp X n mid (pc + 3) loc r h cl sl post)
            | .le => (x ≤ y → ik_wp X n mid t loc r h cl sl post) ∧ (¬ x ≤ y → ik_wp X n mid (pc + 3) loc r h cl sl post))
          | _, _ => False)
        | .tableswitch d lo hi offs => (match st with
          | .int x :: r => ((x.toInt < lo ∨ hi < x.toInt) → (match ik_tg pc d with
              | some t => ik_wp X n mid t loc r h cl sl post
              | none => False)) ∧ (¬ (x.toInt < lo ∨ hi < x.toInt) → (match offs.toList[(x.toInt - lo).toNat]? with
              | some off => (match ik_tg pc off with
                | some t => ik_wp X n mid t loc r h cl sl post
                | none => False)
              | none => False))
          | _ => False)
        | i => (match ik_step X mid i pc loc st h cl sl with
          | some z => ik_wp X n mid z.1 z.2.1 z.2.2.1 z.2.2.2.1 z.2.2.2.2.1 z.2.2.2.2.2 post
          | none => False))
set_option maxHeartbeats 4000000 in
theorem ik_wp_ok : ∀ (n : Nat) {X : Option (Nat × (Nat → Int32))} {mid pc : Nat} {loc : ik_L} {st : List Value} {h : List ik_E} {cl sl : Nat} {post : ik_St → Prop}, ik_wp X n mid pc loc st h cl sl post → ∃ z, ik_ex X n mid pc loc st h cl sl = some z ∧ post z := by
  intro n
  induction n with
  | zero => intro X mid pc loc st h cl sl post hw; exact hw.elim
  | succ n ih =>
    intro X mid pc loc st h cl sl post hw
    simp only [ik_wp] at hw
    simp only [ik_ex]
    cases hi : ik_at mid pc with
    | none => rw [hi] at hw; exact hw.elim
    | some i =>
      rw [hi] at hw
      dsimp only at hw ⊢
      cases hr : ik_isR i with
      | true =>
        rw [hr] at hw
        exact ⟨_, rfl, hw⟩
      | false =>
        rw [hr] at hw
        simp only [cond_false] at hw ⊢
        cases hc : ik_call mid i with
        | some qq =>
          obtain ⟨q, k, kd⟩ := qq
          rw [hc] at hw
          dsimp only at hw ⊢
          split at hw
          · split at hw
            · rename_i a r
              cases hd : decide (1 ≤ ik_fr mid ∧ 20 ≤ ik_lo mid ∧ ik_sum r ≤ 8) with
              | false => rw [hd] at hw; exact hw.elim
              | true =>
                rw [hd] at hw
                unfold ik_bo
                try dsimp only
                rw [if_pos (of_decide_eq_true hd)]
                exact ih hw
            · exact hw.elim
          · split at hw
            · rename_i r h' ha
              show ∃ z, (match ik_acp st h with
                | some (r, h') => ik_bo (1 ≤ ik_fr mid ∧ 40 ≤ ik_lo mid ∧ ik_sum r ≤ 8) (ik_ex X n mid (pc + 3) loc r h' cl sl)
                | none => none) = some z ∧ post z
              rw [ha]
              cases hd : decide (1 ≤ ik_fr mid ∧ 40 ≤ ik_lo mid ∧ ik_sum r ≤ 8) with
              | false => rw [hd] at hw; exact hw.elim
              | true =>
                rw [hd] at hw
                unfold ik_bo
                dsimp only
                rw [if_pos (of_decide_eq_true hd)]
                exact ih hw
            · exact hw.elim
          · rename_i x1 x2
            cases hf : (ik_fitC mid q kd (st.take k).reverse h (st.drop k) loc && decide ((st.take k).length = k)) with
            | false => rw [hf] at hw; exact hw.elim
            | true =>
              rw [hf] at hw
              simp only [cond_true] at hw
              obtain ⟨zr, he, hz⟩ := ih hw
              split
              · exact absurd rfl x1
              · exact absurd rfl x2
              · rw [he]
                simp only [cond_true]
                try dsimp only at hz
                split at hz
                · rename_i ir hir
                  split at hz
                  · rename_i rv hrv
                    rw [hir]
                    dsimp only
                    rw [hrv]
                    exact ih hz
                  · exact hz.elim
                · exact hz.elim
        | none =>
          rw [hc] at hw
          dsimp only at hw ⊢
          split at hw
          · split at hw
            · rename_i ht
              simp only [ik_step, ht]
              split at hw
              all_goals
                dsimp only
                split
                · rename_i c0; exact ih (hw.1 c0)
                · rename_i c0; exact ih (hw.2 c0)
            · exact hw.elim
          · split at hw
            · rename_i ht
              simp only [ik_step, ht]
              split at hw
              all_goals
                dsimp only
                split
                · rename_i c0; exact ih (hw.1 c0)
                · rename_i c0; exact ih (hw.2 c0)
            · exact hw.elim
          · rename_i d lo hu offs
            split at hw
            · rename_i x r
              simp only [ik_step]
              by_cases c0 : x.toInt < lo ∨ hu < x.toInt
              · have h1 := hw.1 c0
                rw [if_pos c0]
                split at h1
                · rename_i ht; rw [ht]; exact ih h1
                · exact h1.elim
              · have h1 := hw.2 c0
                rw [if_neg c0]
                split at h1
                · rename_i ho
                  rw [ho]
                  dsimp only
                  split at h1
                  · rename_i ht; rw [ht]; exact ih h1
                  · exact h1.elim
                · exact h1.elim
            · exact hw.elim
          · split at hw
            · rename_i z hz
              rw [hz]
              exact ih hw
            · exact hw.elim
/-- more fuel does no harm -/
theorem ik_fuel : ∀ (n : Nat) {X : Option (Nat × (Nat → Int32))} {mid pc : Nat} {loc : ik_L} {st : List Value} {h : List ik_E} {cl sl : Nat} {z : ik_St}, ik_ex X n mid pc loc st h cl sl = some z → ∀ d, ik_ex X (n + d) mid pc loc st h cl sl = some z := by
  intro n
  induction n with
  | zero => intro X mid pc loc st h cl sl z hs; cases hs
  | succ n ih =>
    intro X mid pc loc st h cl sl z hs d
    rw [show n + 1 + d = (n + d) + 1 by omega]
    simp only [ik_ex] at hs ⊢
    split at hs
    · cases hs
    · rename_i i hi
      cases hr : ik_isR i with
      | true => rw [hr] at hs; exact hs
      | false =>
        rw [hr] at hs
        simp only [cond_false] at hs ⊢
        split at hs
        · rename_i q k kd hc
          split at hs
          · split at hs
            · unfold ik_bo at hs ⊢
              try dsimp only
              split at hs
              · rename_i c0; rw [if_pos c0]; exact ih hs d
              · cases hs
            · cases hs
          · split at hs
            · unfold ik_bo at hs ⊢
              try dsimp only
              split at hs
              · rename_i c0; rw [if_pos c0]; exact ih hs d
              · cases hs
            · cases hs
          · cases hf : (ik_fitC mid q kd (st.take k).reverse h (st.drop k) loc && decide ((st.take k).length = k)) with
            | false => rw [hf] at hs; cases hs
            | true =>
              rw [hf] at hs
              simp only [cond_true] at hs
              split at hs
              · rename_i he
                split at hs
                · rename_i hir
                  split at hs
                  · rename_i hrv
                    simp only [cond_true, ih he d, hir, hrv]
                    exact ih hs d
                  · cases hs
                · cases hs
              · cases hs
        · split at hs
          · exact ih hs d
          · cases hs
