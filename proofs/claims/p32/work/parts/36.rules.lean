/-! RULES to walk the abstract machine with: a run there is, and its end is as 'post' says -/
def ik_W (X : Option (Nat × (Nat → Int32))) (mid pc : Nat) (loc : ik_L) (st : List Value) (h : List ik_E) (cl sl : Nat) (post : ik_St → Prop) : Prop := ∃ n z, ik_ex X n mid pc loc st h cl sl = some z ∧ post z
def ik_run : Nat → Option (Nat × (Nat → Int32)) → Nat → ik_St → Option ik_St
  | 0, _, _, z => some z
  | k + 1, X, mid, (pc, loc, st, h, cl, sl) => match ik_at mid pc with
    | none => none
    | some i => bif ik_isR i then none else (match ik_call mid i with
      | some _ => none
      | none => (match ik_step X mid i pc loc st h cl sl with
        | some z => ik_run k X mid z
        | none => none))
theorem ik_Wk (k : Nat) : ∀ {X : Option (Nat × (Nat → Int32))} {mid pc : Nat} {loc : ik_L} {st : List Value} {h : List ik_E} {cl sl : Nat} {pc' : Nat} {loc' : ik_L} {st' : List Value} {h' : List ik_E} {cl' sl' : Nat} {post : ik_St → Prop}, ik_run k X mid (pc, loc, st, h, cl, sl) = some (pc', loc', st', h', cl', sl') → ik_W X mid pc' loc' st' h' cl' sl' post → ik_W X mid pc loc st h cl sl post := by
  induction k with
  | zero =>
    intro X mid pc loc st h cl sl pc' loc' st' h' cl' sl' post hs kk
    cases hs
    exact kk
  | succ k ih =>
    intro X mid pc loc st h cl sl pc' loc' st' h' cl' sl' post hs kk
    simp only [ik_run] at hs
    split at hs
    · cases hs
    · rename_i i hi
      cases hr : ik_isR i with
      | true => rw [hr] at hs; cases hs
      | false =>
        rw [hr] at hs
        simp only [cond_false] at hs
        split at hs
        · cases hs
        · rename_i hc
          split at hs
          · rename_i z hz
            obtain ⟨p1, l1, s1, h1, c1, t1⟩ := z
            obtain ⟨n, zf, he, hp⟩ := ih hs kk
            refine ⟨n + 1, zf, ?_, hp⟩
            simp only [ik_ex, hi, hr, hc, hz, cond_false]
            exact he
          · cases hs
theorem ik_Wif (k : Nat) {c : Prop} [Decidable c] {X : Option (Nat × (Nat → Int32))} {mid pc : Nat} {loc : ik_L} {st : List Value} {h : List ik_E} {cl sl : Nat} (t e : Nat) {loc' : ik_L} {st' : List Value} {h' : List ik_E} {cl' sl' : Nat} {post : ik_St → Prop} (hs : ik_run k X mid (pc, loc, st, h, cl, sl) = some (if c then t else e, loc', st', h', cl', sl')) (k1 : c → ik_W X mid t loc' st' h' cl' sl' post) (k2 : ¬ c → ik_W X mid e loc' st' h' cl' sl' post) : ik_W X mid pc loc st h cl sl post := by
  refine ik_Wk k hs ?_
  by_cases hc : c
  · rw [if_pos hc]; exact k1 hc
  · rw [if_neg hc]; exact k2 hc
theorem ik_Wret {X : Option (Nat × (Nat → Int32))} {mid pc : Nat} {loc : ik_L} {st : List Value} {h : List ik_E} {cl sl : Nat} {post : ik_St → Prop} {i : Instr} (hi : ik_at mid pc = some i) (hr : ik_isR i = true) (hp : post (pc, loc, st, h, cl, sl)) : ik_W X mid pc loc st h cl sl post := by
  refine ⟨1, _, ?_, hp⟩
  simp only [ik_ex, hi, hr, cond_true]
/-- a call -/
theorem ik_Wc {X : Option (Nat × (Nat → Int32))} {mid pc : Nat} {loc : ik_L} {st : List Value} {h : List ik_E} {cl sl : Nat} {post : ik_St → Prop} {i : Instr} (q k kd : Nat) (as rest : List Value) (hi : ik_at mid pc = some i) (hr : ik_isR i = false) (hc : ik_call mid i = some (q, k, kd)) (hkd : kd < 5) (hst : st = as.reverse ++ rest) (hk : as.length = k) (hf : ik_fitC mid q kd as h rest loc = true)
    (kk : ik_W none q 0 (ik_loc (ik_ml q) as) [] h 0 0 (fun zr => ∃ ir rv, ik_at q zr.1 = some ir ∧ ik_rv (ik_rt q) ir zr.2.2.1 = some rv ∧ ik_W X mid (pc + 3) loc (rv ++ rest) zr.2.2.2.1 (cl + zr.2.2.2.2.1) (sl + zr.2.2.2.2.2) post)) : ik_W X mid pc loc st h cl sl post := by
  obtain ⟨n, zr, he, ir, rv, h1, h2, n2, zf, he2, hp⟩ := kk
  have e1 : (st.take k).reverse = as := by rw [hst, List.take_left' (by rw [List.length_reverse]; exact hk), List.reverse_reverse]
  have e2 : st.drop k = rest := by rw [hst, List.drop_left' (by rw [List.length_reverse]; exact hk)]
  have e3 : (st.take k).length = k := by rw [← List.length_reverse, e1]; exact hk
  refine ⟨n + n2 + 1, zf, ?_, hp⟩
  simp only [ik_ex, hi, hr, hc, cond_false, e1, e2, hf, e3, decide_true, Bool.and_true, cond_true]
  split
  · omega
  · omega
  · omega
  · rw [ik_fuel n he n2]
    dsimp only
    rw [h1]
    dsimp only
    rw [h2]
    dsimp only
    rw [Nat.add_comm n n2]
    exact ik_fuel n2 he2 n
/-- a call whose run is known -/
theorem ik_Wce {X : Option (Nat × (Nat → Int32))} {mid pc : Nat} {loc : ik_L} {st : List Value} {h : List ik_E} {cl sl : Nat} {post : ik_St → Prop} {i : Instr} (q k kd : Nat) (as rest : List Value) {n pr : Nat} {lr : ik_L} {sr : List Value} {h' : List ik_E} {mc ms : Nat} (ir : Instr) (rv : List Value) (he : ik_ex none n q 0 (ik_loc (ik_ml q) as) [] h 0 0 = some (pr, lr, sr, h', mc, ms)) (hi : ik_at mid pc = some i) (hr : ik_isR i = false) (hc : ik_call mid i = some (q, k, kd)) (hkd : kd < 5) (hst : st = as.reverse ++ rest) (hk : as.length = k) (hf : ik_fitC mid q kd as h rest loc = true) (h1 : ik_at q pr = some ir) (h2 : ik_rv (ik_rt q) ir sr = some rv)
    (kk : ik_W X mid (pc + 3) loc (rv ++ rest) h' (cl + mc) (sl + ms) post) : ik_W X mid pc loc st h cl sl post :=
  ik_Wc q k kd as rest hi hr hc hkd hst hk hf ⟨n, _, he, ir, rv, h1, h2, kk⟩
theorem ik_step_X {L : Nat} {f g : Nat → Int32} (hfg : ∀ j, j < L → f j = g j) {mid : Nat} {i : Instr} {pc : Nat} {loc : ik_L} {st : List Value} {h : List ik_E} {cl sl : Nat} : ik_step (some (L, f)) mid i pc loc st h cl sl = ik_step (some (L, g)) mid i pc loc st h cl sl := by
  cases i with
  | iaload =>
    simp only [ik_step]
    split
    · rfl
    · rename_i ix r
      unfold ik_bo
      by_cases hb : ¬ (ix < 0 ∨ L ≤ ix.toNatClampNeg)
      · rw [if_pos hb, if_pos hb, hfg _ (Nat.not_le.mp fun q => hb (Or.inr q))]
      · rw [if_neg hb, if_neg hb]
    · rfl
  | _ => rfl
/-- only the script's own ints are read -/
theorem ik_ex_X {L : Nat} {f g : Nat → Int32} (hfg : ∀ j, j < L → f j = g j) : ∀ (n : Nat) {mid pc : Nat} {loc : ik_L} {st : List Value} {h : List ik_E} {cl sl : Nat}, ik_ex (some (L, f)) n mid pc loc st h cl sl = ik_ex (some (L, g)) n mid pc loc st h cl sl := by
  intro n
  induction n with
  | zero => intros; rfl
  | succ n ih =>
    intro mid pc loc st h cl sl
    simp only [ik_ex, ik_step_X hfg, ih]
