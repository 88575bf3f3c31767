noncomputable section
/-! the executor's run -/
def sx_is (g : sx_G) (e : sx_E) (c : Int) : Bool := match sx_k g e with
  | some d => d == c
  | none => false
theorem sx_is_ok {ν : List Int} {g : sx_G} (hg : sx_ok ν g) {e : sx_E} {y c : Int} (he : sx_ev ν e = some y) (h : sx_is g e c = true) : y = c := by
  unfold sx_is at h
  split at h
  · rename_i d hd
    rw [sx_k_ok hg he hd]
    exact eq_of_beq h
  · cases h
def sx_acp (M : sx_M) (g : sx_G) (s : List sx_V) (H : sx_H) : Option (List sx_V × sx_H) := match s with
  | .inl n :: .inl dp :: .inr (.inr (.inl [b])) :: .inl sp :: .inr (.inr (.inl [a])) :: r => bif sx_is g sp 0 && sx_is g dp 0 && !(Nat.beq a b) then (match sx_hg H a, sx_hg H b with
    | some (some (.inr (.inl (0, as)))), some (some (.inr (.inl (0, bs)))) => bif Nat.beq as.length bs.length && sx_is g n (as.length : Int) && (List.range as.length).all (sx_md M b) then some (r, sx_hs H b (some (.inr (.inl (0, as))))) else none
    | some (some (.inr (.inr (0, m, l, u)))), some (some (.inr (.inr (0, m', _, _)))) => bif Nat.beq m m' && sx_is g n (m : Int) && sx_ma M b then some (r, sx_hs H b (some (.inr (.inr (0, m, l, u))))) else none
    | _, _ => none) else none
  | _ => none
theorem sx_cpy {vs ws : List Value} {n : Nat} (h1 : vs.length = n) (h2 : ws.length = n) : ik_cpy vs ws 0 0 n = vs := by
  unfold ik_cpy
  rw [List.take_zero, List.drop_zero, List.nil_append, Nat.zero_add, List.take_of_length_le (by omega), List.drop_eq_nil_of_le (by omega), List.append_nil]
theorem sx_acp_ok {ν : List Int} {M : sx_M} {g : sx_G} {s r : List sx_V} {H H' : sx_H} {st : List Value} {h0 h : List ik_E} (hg : sx_ok ν g) (hs : sx_sr ν s st) (hh : sx_hr ν H h) (hf : sx_fm M h0 h) (hc : sx_acp M g s H = some (r, H')) : ∃ st' h', ik_acp st h = some (st', h') ∧ sx_sr ν r st' ∧ sx_hr ν H' h' ∧ sx_fm M h0 h' ∧ h'.length = h.length := by
  unfold sx_acp at hc
  split at hc
  · rename_i en edp b esp a r'
    obtain ⟨n, st1, rfl, hn, s1⟩ := sx_pI hs
    obtain ⟨dp, st2, rfl, hdp, s2⟩ := sx_pI s1
    obtain ⟨b', st3, rfl, hb', s3⟩ := sx_pA s2
    obtain ⟨sp, st4, rfl, hsp, s4⟩ := sx_pI s3
    obtain ⟨a', st5, rfl, ha', s5⟩ := sx_pA s4
    rw [List.mem_singleton] at hb' ha'
    subst hb'; subst ha'
    cases hq : (sx_is g esp 0 && sx_is g edp 0 && !(Nat.beq a' b')) with
    | false => rw [hq] at hc; cases hc
    | true =>
      rw [hq] at hc
      simp only [cond_true] at hc
      obtain ⟨q1, q3⟩ := Bool.and_eq_true_iff.mp hq
      obtain ⟨q1, q2⟩ := Bool.and_eq_true_iff.mp q1
      have esp0 := sx_is_ok hg hsp q1
      have edp0 := sx_is_ok hg hdp q2
      have hab : a' ≠ b' := by
        intro e
        rw [e] at q3
        rw [Nat.beq_refl] at q3
        cases q3
      have hsp0 : sp.toNatClampNeg = 0 := by have : sp.toNatClampNeg = sp.toInt.toNat := rfl; omega
      have hdp0 : dp.toNatClampNeg = 0 := by have : dp.toNatClampNeg = dp.toInt.toNat := rfl; omega
      have e0 : (0 : Int32).toInt = 0 := rfl
      have g1 : ¬ dp < 0 := by rw [cv_lt, e0]; omega
      have g2 : ¬ sp < 0 := by rw [cv_lt, e0]; omega
      split at hc
      · rename_i as bs hca hcb
        cases hk : (Nat.beq as.length bs.length && sx_is g en (as.length : Int) && (List.range as.length).all (sx_md M b')) with
        | false => rw [hk] at hc; cases hc
        | true =>
          rw [hk] at hc
          cases hc
          obtain ⟨k1, k3⟩ := Bool.and_eq_true_iff.mp hk
          obtain ⟨k1, k2⟩ := Bool.and_eq_true_iff.mp k1
          have hn1 := sx_is_ok hg hn k2
          obtain ⟨da, hda, vs, e1, e2⟩ := hh.2 _ _ hca
          obtain ⟨db, hdb, ws, e3, e4⟩ := hh.2 _ _ hcb
          subst e1; subst e3
          have lv : vs.length = as.length := sx_sr_len e2
          have lw : ws.length = bs.length := sx_sr_len e4
          have lab := Nat.eq_of_beq_eq_true k1
          have hnn : n.toNatClampNeg = as.length := by have : n.toNatClampNeg = n.toInt.toNat := rfl; omega
          have g3 : ¬ n < 0 := by rw [cv_lt, e0]; omega
          dsimp only [sx_ty] at hda hdb
          refine ⟨st5, h.set b' (.inl (.int, vs)), ?_, s5, ?_, ?_, List.length_set⟩
          · simp only [ik_acp, hda, hdb]
            rw [if_pos ⟨g3, g1, g2, by omega, by omega, hab⟩, hsp0, hdp0, hnn, sx_cpy (by omega) (by omega)]
          · exact sx_hr_set hh ⟨vs, rfl, e2⟩
          · refine sx_fm_set hf hdb rfl ?_ fun k hkm => ?_
            · show vs.length = ws.length
              omega
            · show vs[k]? = ws[k]?
              by_cases hlt : k < as.length
              · have := List.all_eq_true.mp k3 k (List.mem_range.mpr hlt)
                rw [this] at hkm; cases hkm
              · rw [List.getElem?_eq_none (by omega), List.getElem?_eq_none (by omega)]
      · rename_i m l u m' l' u' hca hcb
        cases hk : (Nat.beq m m' && sx_is g en (m : Int) && sx_ma M b') with
        | false => rw [hk] at hc; cases hc
        | true =>
          rw [hk] at hc
          cases hc
          obtain ⟨k1, k3⟩ := Bool.and_eq_true_iff.mp hk
          obtain ⟨k1, k2⟩ := Bool.and_eq_true_iff.mp k1
          have hn1 := sx_is_ok hg hn k2
          obtain ⟨da, hda, vs, e1, e2, e2'⟩ := hh.2 _ _ hca
          obtain ⟨db, hdb, ws, e3, e4, e4'⟩ := hh.2 _ _ hcb
          subst e1; subst e3
          dsimp only at e2 e2' e4
          have lab := Nat.eq_of_beq_eq_true k1
          have hnn : n.toNatClampNeg = m := by have : n.toNatClampNeg = n.toInt.toNat := rfl; omega
          have g3 : ¬ n < 0 := by rw [cv_lt, e0]; omega
          dsimp only [sx_ty] at hda hdb
          refine ⟨st5, h.set b' (.inl (.int, vs)), ?_, s5, ?_, ?_, List.length_set⟩
          · simp only [ik_acp, hda, hdb]
            rw [if_pos ⟨g3, g1, g2, by omega, by omega, hab⟩, hsp0, hdp0, hnn, sx_cpy (by omega) (by omega)]
          · exact sx_hr_set hh ⟨vs, rfl, e2, e2'⟩
          · refine sx_fm_set hf hdb rfl ?_ fun k hkm => ?_
            · show vs.length = ws.length
              omega
            · rw [sx_ma_md k3] at hkm; cases hkm
      · cases hc
  · cases hc
def sx_mth (q : Nat) (g : sx_G) (s : List sx_V) : Option (sx_G × List sx_V) := match q, s with
  | 0, .inl y :: .inl x :: r => (match sx_eb g.1 x, sx_eb g.1 y with
    | some (a, b), some (c, d) => (match sx_fr g (min a c) (min b d) with
      | (g', e) => some (g', .inl e :: r))
    | _, _ => none)
  | 1, .inl x :: r => (match sx_eb g.1 x with
    | some (l, u) => bif decide (-2147483648 < l) then (match sx_fr g 0 (max (-l) u) with
      | (g', e) => some (g', .inl e :: r)) else (match sx_ti g with
      | (g', e) => some (g', .inl e :: r))
    | none => none)
  | 2, .inr (.inl y) :: .inr (.inl x) :: r => (match sx_eb g.1 x, sx_eb g.1 y with
    | some (a, b), some (c, d) => (match sx_fr g (max a c) (max b d) with
      | (g', e) => some (g', .inr (.inl e) :: r))
    | _, _ => none)
  | _, _ => none
theorem sx_mth_ok {ν : List Int} {q : Nat} {g g' : sx_G} {s s' : List sx_V} {st : List Value} (hg : sx_ok ν g) (hs : sx_sr ν s st) (hc : sx_mth q g s = some (g', s')) : ∃ st' δ, ik_math q st = some st' ∧ sx_ok (ν ++ δ) g' ∧ sx_sr (ν ++ δ) s' st' := by
  unfold sx_mth at hc
  split at hc
  · rename_i ey ex r
    obtain ⟨y, st1, rfl, hy, s1⟩ := sx_pI hs
    obtain ⟨x, st2, rfl, hx, s2⟩ := sx_pI s1
    split at hc
    · rename_i a b c d h1 h2
      obtain ⟨z1, e1, p1, p2⟩ := sx_eb_ok hg.1 h1
      obtain ⟨z2, e2, p3, p4⟩ := sx_eb_ok hg.1 h2
      rw [hx] at e1; cases e1
      rw [hy] at e2; cases e2
      cases hc
      have key : min a c ≤ (if y < x then y else x).toInt ∧ (if y < x then y else x).toInt ≤ min b d := by
        by_cases hxy : y < x
        · rw [if_pos hxy]
          rw [cv_lt] at hxy
          exact ⟨Int.le_trans (Int.min_le_right _ _) p3, Int.le_min.mpr ⟨by omega, p4⟩⟩
        · rw [if_neg hxy]
          rw [cv_lt] at hxy
          exact ⟨Int.le_trans (Int.min_le_left _ _) p1, Int.le_min.mpr ⟨p2, by omega⟩⟩
      have := sx_fr_ok hg key.1 key.2
      exact ⟨_, _, rfl, this.1, ⟨_, rfl, this.2⟩, sx_sr_mono s2⟩
    · cases hc
  · rename_i ex r
    obtain ⟨x, st1, rfl, hx, s1⟩ := sx_pI hs
    split at hc
    · rename_i l u h1
      obtain ⟨z1, e1, p1, p2⟩ := sx_eb_ok hg.1 h1
      rw [hx] at e1; cases e1
      by_cases hlt : -2147483648 < l
      · rw [decide_eq_true hlt] at hc
        cases hc
        have key : 0 ≤ (if 0 ≤ x then x else 0 - x).toInt ∧ (if 0 ≤ x then x else 0 - x).toInt ≤ max (-l) u := by
          have e0 : (0 : Int32).toInt = 0 := rfl
          have hb := sx_i32 x
          by_cases hxy : 0 ≤ x
          · rw [if_pos hxy]
            rw [cv_le, e0] at hxy
            exact ⟨hxy, Int.le_trans p2 (Int.le_max_right _ _)⟩
          · rw [if_neg hxy]
            rw [cv_le, e0] at hxy
            rw [Int32.toInt_sub, e0, sx_bm (by omega) (by omega)]
            exact ⟨by omega, Int.le_trans (by omega) (Int.le_max_left _ _)⟩
        have := sx_fr_ok hg key.1 key.2
        exact ⟨_, _, rfl, this.1, ⟨_, rfl, this.2⟩, sx_sr_mono s1⟩
      · rw [decide_eq_false hlt] at hc
        cases hc
        obtain ⟨δ, h2, h3⟩ := sx_gv_ti hg (if 0 ≤ x then x else 0 - x)
        exact ⟨_, δ, rfl, h2, ⟨_, rfl, h3⟩, sx_sr_mono s1⟩
    · cases hc
  · rename_i ey ex r
    obtain ⟨y, st1, rfl, hy, s1⟩ := sx_pL hs
    obtain ⟨x, st2, rfl, hx, s2⟩ := sx_pL s1
    split at hc
    · rename_i a b c d h1 h2
      obtain ⟨z1, e1, p1, p2⟩ := sx_eb_ok hg.1 h1
      obtain ⟨z2, e2, p3, p4⟩ := sx_eb_ok hg.1 h2
      rw [hx] at e1; cases e1
      rw [hy] at e2; cases e2
      cases hc
      have key : max a c ≤ (if y < x then x else y).toInt ∧ (if y < x then x else y).toInt ≤ max b d := by
        by_cases hxy : y < x
        · rw [if_pos hxy]
          have hxy := Int64.lt_iff_toInt_lt.mp hxy
          exact ⟨Int.max_le.mpr ⟨p1, by omega⟩, Int.le_trans p2 (Int.le_max_left _ _)⟩
        · rw [if_neg hxy]
          have hxy : ¬ y.toInt < x.toInt := fun w => hxy (Int64.lt_iff_toInt_lt.mpr w)
          exact ⟨Int.max_le.mpr ⟨by omega, p3⟩, Int.le_trans p4 (Int.le_max_right _ _)⟩
      have := sx_fr_ok hg key.1 key.2
      exact ⟨_, _, rfl, this.1, ⟨_, rfl, this.2⟩, sx_sr_mono s2⟩
    · cases hc
  · cases hc
/-! a value on top of the stack, each of its numbers by itself -/
def sx_vs (g : sx_G) (e : sx_E) : Int → Nat → List sx_G
  | _, 0 => []
  | v, n + 1 => match sx_eq g (sx_sub e (v, [])) with
    | some g' => g' :: sx_vs g e (v + 1) n
    | none => sx_vs g e (v + 1) n
theorem sx_vs_ok {ν : List Int} {g : sx_G} (hg : sx_ok ν g) {e : sx_E} {y : Int} (he : sx_ev ν e = some y) : ∀ {n : Nat} {v : Int}, v ≤ y → y < v + n → ∃ g', g' ∈ sx_vs g e v n ∧ sx_ok ν g'
  | 0, v, h1, h2 => by omega
  | n + 1, v, h1, h2 => by
    simp only [sx_vs]
    by_cases hv : y = v
    · obtain ⟨g', e1, e2⟩ := sx_eq_ok hg (sx_ev_sub he (sx_ev_k (c := v))) (by omega)
      rw [e1]
      exact ⟨g', List.mem_cons_self, e2⟩
    · obtain ⟨g', h3, h4⟩ := sx_vs_ok hg he (n := n) (v := v + 1) (by omega) (by omega)
      split
      · exact ⟨g', List.mem_cons_of_mem _ h3, h4⟩
      · exact ⟨g', h3, h4⟩
/-- what is known can't be -/
def sx_dd (g : sx_G) : Bool := g.2.any fun c => sx_nn g (sx_sub (-1, []) c)
theorem sx_dd_ok {ν : List Int} {g : sx_G} (hg : sx_ok ν g) : sx_dd g = false := by
  cases h : sx_dd g with
  | false => rfl
  | true =>
    unfold sx_dd at h
    obtain ⟨c, hc, h1⟩ := List.any_eq_true.mp h
    obtain ⟨y, hy, h0⟩ := hg.2 c hc
    have := sx_nn_ok hg (sx_ev_sub sx_ev_k hy) h1
    omega
/-- pc: each number by itself (of many: 0 .. 3, below, above); pc + 10000: below 0 or not; pc + 20000: two numbers, below, alike, above -/
def sx_s1 (g : sx_G) (e : sx_E) (o : Option (Int × Int)) : Option (List sx_G) := match o with
  | some (l, u) => bif decide (l < u) then (bif decide (u - l ≤ 60) then some (sx_vs g e l (u - l + 1).toNat) else bif decide (l ≤ 3) && decide (0 ≤ u) then some ((sx_lt g e).toList ++ (sx_gt g (sx_sub e (3, []))).toList ++ sx_vs g e 0 4) else none) else none
  | none => none
def sx_s2 (g : sx_G) (e : sx_E) (o : Option (Int × Int)) : Option (List sx_G) := match o with
  | some (l, u) => bif decide (l < 0) && decide (0 ≤ u) then some (((sx_lt g e).toList ++ (sx_as g e).toList).filter fun g => !(sx_dd g)) else none
  | none => none
theorem sx_s1_ok {ν : List Int} {g : sx_G} {e : sx_E} {y : Int} {gs : List sx_G} (hg : sx_ok ν g) (he : sx_ev ν e = some y) (h : sx_s1 g e (sx_eb g.1 e) = some gs) : ∃ g', g' ∈ gs ∧ sx_ok ν g' := by
  unfold sx_s1 at h
  split at h
  · rename_i l u hb
    obtain ⟨y', h1, h2, h3⟩ := sx_eb_ok hg.1 hb
    rw [he] at h1; cases h1
    by_cases hlu : l < u
    · rw [decide_eq_true hlu] at h
      simp only [cond_true] at h
      by_cases hw : u - l ≤ 60
      · rw [decide_eq_true hw] at h
        cases h
        exact sx_vs_ok hg he h2 (by omega)
      · rw [decide_eq_false hw] at h
        simp only [cond_false] at h
        cases hb2 : (decide (l ≤ 3) && decide (0 ≤ u)) with
        | false => rw [hb2] at h; cases h
        | true =>
          rw [hb2] at h
          cases h
          by_cases q1 : y < 0
          · obtain ⟨g', e1, e2⟩ := sx_lt_ok hg he q1
            refine ⟨g', ?_, e2⟩
            rw [e1]
            exact List.mem_append_left _ (List.mem_append_left _ (List.mem_singleton.mpr rfl))
          · by_cases q2 : 3 < y
            · obtain ⟨g', e1, e2⟩ := sx_gt_ok hg (sx_ev_sub he (sx_ev_k (c := 3))) (by omega)
              refine ⟨g', ?_, e2⟩
              rw [e1]
              exact List.mem_append_left _ (List.mem_append_right _ (List.mem_singleton.mpr rfl))
            · obtain ⟨g', h4, h5⟩ := sx_vs_ok hg he (n := 4) (v := 0) (by omega) (by omega)
              exact ⟨g', List.mem_append_right _ h4, h5⟩
    · rw [decide_eq_false hlu] at h
      cases h
  · cases h
theorem sx_s2_ok {ν : List Int} {g : sx_G} {e : sx_E} {y : Int} {gs : List sx_G} {o : Option (Int × Int)} (hg : sx_ok ν g) (he : sx_ev ν e = some y) (h : sx_s2 g e o = some gs) : ∃ g', g' ∈ gs ∧ sx_ok ν g' := by
  unfold sx_s2 at h
  split at h
  · rename_i l u
    cases hb2 : (decide (l < 0) && decide (0 ≤ u)) with
    | false => rw [hb2] at h; cases h
    | true =>
      rw [hb2] at h
      cases h
      by_cases q1 : y < 0
      · obtain ⟨g', e1, e2⟩ := sx_lt_ok hg he q1
        refine ⟨g', ?_, e2⟩
        rw [e1]
        exact List.mem_filter.mpr ⟨List.mem_append_left _ (List.mem_singleton.mpr rfl), by rw [sx_dd_ok e2]; rfl⟩
      · obtain ⟨g', e1, e2⟩ := sx_as_ok hg he (by omega)
        refine ⟨g', ?_, e2⟩
        rw [e1]
        exact List.mem_filter.mpr ⟨List.mem_append_right _ (List.mem_singleton.mpr rfl), by rw [sx_dd_ok e2]; rfl⟩
  · cases h
def sx_s3 (g : sx_G) (e : sx_E) : Option (List sx_G) := bif sx_nz g e || (sx_nn g e && sx_nn g (sx_scl (-1) e)) then none else some ((sx_lt g e).toList ++ (sx_eq g e).toList ++ (sx_gt g e).toList)
theorem sx_s3_ok {ν : List Int} {g : sx_G} {e : sx_E} {y : Int} {gs : List sx_G} (hg : sx_ok ν g) (he : sx_ev ν e = some y) (h : sx_s3 g e = some gs) : ∃ g', g' ∈ gs ∧ sx_ok ν g' := by
  unfold sx_s3 at h
  cases hb : (sx_nz g e || (sx_nn g e && sx_nn g (sx_scl (-1) e))) with
  | true => rw [hb] at h; cases h
  | false =>
    rw [hb] at h
    cases h
    by_cases q1 : y < 0
    · obtain ⟨g', e1, e2⟩ := sx_lt_ok hg he q1
      refine ⟨g', ?_, e2⟩
      rw [e1]
      exact List.mem_append_left _ (List.mem_append_left _ (List.mem_singleton.mpr rfl))
    · by_cases q2 : y = 0
      · obtain ⟨g', e1, e2⟩ := sx_eq_ok hg he q2
        refine ⟨g', ?_, e2⟩
        rw [e1]
        exact List.mem_append_left _ (List.mem_append_right _ (List.mem_singleton.mpr rfl))
      · obtain ⟨g', e1, e2⟩ := sx_gt_ok hg he (by omega)
        refine ⟨g', ?_, e2⟩
        rw [e1]
        exact List.mem_append_right _ (List.mem_singleton.mpr rfl)
def sx_sq (sp : List (Nat × Nat)) (mid pc : Nat) : Bool := sp.any fun p => Nat.beq p.1 mid && Nat.beq p.2 pc
def sx_sp (sp : List (Nat × Nat)) (mid pc : Nat) (g : sx_G) (s : List sx_V) : Option (List sx_G) := match sp with
  | [] => none
  | sp => (match s with
    | .inl e :: r => bif sx_sq sp mid pc then sx_s1 g e (sx_eb g.1 e) else bif sx_sq sp mid (pc + 10000) then sx_s2 g e (sx_eb g.1 e) else bif sx_sq sp mid (pc + 20000) then (match r with
      | .inl f :: _ => sx_s3 g (sx_sub f e)
      | _ => none) else bif sx_sq sp mid (pc + 30000) then (match r with
      | .inl f :: _ => bif sx_nn g (sx_sub (sx_add f e) (2147483648, [])) || sx_nn g (sx_sub (-1, []) (sx_sub (sx_add f e) (2147483648, []))) then none else sx_s2 g (sx_sub (sx_add f e) (2147483648, [])) (sx_eb g.1 (sx_sub (sx_add f e) (2147483648, [])))
      | _ => none) else none
    | _ => none)
theorem sx_sp_ok {ν : List Int} {sp : List (Nat × Nat)} {mid pc : Nat} {g : sx_G} {s : List sx_V} {st : List Value} {gs : List sx_G} (hg : sx_ok ν g) (hs : sx_sr ν s st) (h : sx_sp sp mid pc g s = some gs) : ∃ g', g' ∈ gs ∧ sx_ok ν g' := by
  unfold sx_sp at h
  split at h
  · cases h
  · split at h
    · rename_i e r
      obtain ⟨x, st', rfl, hx, hr⟩ := sx_pI hs
      cases hb : sx_sq sp mid pc with
      | true =>
        rw [hb] at h
        exact sx_s1_ok hg hx h
      | false =>
        rw [hb] at h
        simp only [cond_false] at h
        cases hb2 : sx_sq sp mid (pc + 10000) with
        | true =>
          rw [hb2] at h
          exact sx_s2_ok hg hx h
        | false =>
          rw [hb2] at h
          simp only [cond_false] at h
          cases hb3 : sx_sq sp mid (pc + 20000) with
          | false =>
            rw [hb3] at h
            simp only [cond_false] at h
            cases hb4 : sx_sq sp mid (pc + 30000) with
            | false => rw [hb4] at h; cases h
            | true =>
              rw [hb4] at h
              simp only [cond_true] at h
              split at h
              · rename_i f r'
                obtain ⟨y, st'', rfl, hy, _⟩ := sx_pI hr
                cases hb5 : (sx_nn g (sx_sub (sx_add f e) (2147483648, [])) || sx_nn g (sx_sub (-1, []) (sx_sub (sx_add f e) (2147483648, [])))) with
                | true => rw [hb5] at h; cases h
                | false =>
                  rw [hb5] at h
                  exact sx_s2_ok hg (sx_ev_sub (sx_ev_add hy hx) sx_ev_k) h
              · cases h
          | true =>
            rw [hb3] at h
            simp only [cond_true] at h
            split at h
            · rename_i f r'
              obtain ⟨y, st'', rfl, hy, _⟩ := sx_pI hr
              exact sx_s3_ok hg (sx_ev_sub hy hx) h
            · cases h
    · cases h
def sx_all {α β : Type} (f : α → Option (List β)) : List α → Option (List β)
  | [] => some []
  | a :: r => match f a with
    | some x => (match sx_all f r with
      | some y => some (x ++ y)
      | none => none)
    | none => none
theorem sx_all_ok {α β : Type} {f : α → Option (List β)} {a : α} : ∀ {L : List α} {R : List β}, sx_all f L = some R → a ∈ L → ∃ R', f a = some R' ∧ ∀ b, b ∈ R' → b ∈ R
  | c :: L, R, h, hm => by
    simp only [sx_all] at h
    split at h
    · rename_i x hx
      split at h
      · rename_i y hy
        cases h
        rcases List.mem_cons.mp hm with rfl | hm
        · exact ⟨x, hx, fun b hb => List.mem_append_left _ hb⟩
        · obtain ⟨R', h1, h2⟩ := sx_all_ok hy hm
          exact ⟨R', h1, fun b hb => List.mem_append_right _ (h2 b hb)⟩
      · cases h
    · cases h
abbrev sx_O : Type := Bool × Nat × sx_S
/-- a row of a method, found by the list's recursor -/
def sx_lkr (l : List (Nat × Instr)) (x : Nat) : Option Instr := @List.rec (Nat × Instr) (fun _ => Option Instr) none (fun p _ ih => bif Nat.beq p.1 x then some p.2 else ih) l
theorem sx_lkr_eq (x : Nat) : ∀ l : List (Nat × Instr), sx_lkr l x = ik_lk l x
  | [] => rfl
  | (k, a) :: r => by
    simp only [ik_lk]
    rw [← sx_lkr_eq x r]
    rfl
def sx_iat (mid pc : Nat) : Option Instr := sx_lkr (ik_mi mid).2.2 pc
theorem sx_iat_eq (mid pc : Nat) : sx_iat mid pc = ik_at mid pc := sx_lkr_eq pc _
def sx_run (K : List sx_K) (sp : List (Nat × Nat)) (M : sx_M) (uq : Bool) : Nat → Nat → List Nat → Bool → Nat → sx_S → Option (List sx_O)
  | 0, _, _, _, _, _ => none
  | n + 1, mid, cuts, first, pc, (g, l, s, H) =>
    bif (!first) && cuts.contains pc then some [(false, pc, g, l, s, H)] else
    match sx_sp sp mid pc g s with
    | some gs => sx_all (fun g' => sx_run K sp M uq n mid cuts true pc (g', l, s, H)) gs
    | none => (match sx_iat mid pc with
      | none => none
      | some i => bif ik_isR i then some [(true, pc, g, l, s, H)] else (match ik_call mid i with
        | some (q, k, kd) => (match kd with
          | 5 => (match sx_acp M g s H with
            | some (r, H') => bif Nat.ble 1 (ik_fr mid) && Nat.ble 40 (ik_lo mid) && Nat.ble (sx_cs r) 8 then sx_run K sp M uq n mid cuts false (pc + 3) (g, l, r, H') else none
            | none => none)
          | 7 => (match sx_mth q g s with
            | some (g', s') => bif Nat.ble 1 (ik_fr mid) && Nat.ble 40 (ik_lo mid) && Nat.ble (sx_cs (s'.drop 1)) 8 then sx_run K sp M uq n mid cuts false (pc + 3) (g', l, s', H) else none
            | none => none)
          | kd => bif sx_fc mid q kd (s.take k).reverse H (s.drop k) l && Nat.beq (s.take k).length k then (match sx_try M uq q g (s.take k).reverse H K with
            | some (some L) => sx_all (fun S => sx_run K sp M uq n mid cuts false (pc + 3) (S.1, l, S.2.1 ++ s.drop k, S.2.2)) L
            | some none => none
            | none => (match sx_run K sp M uq n q [] true 0 (g, sx_lo (ik_ml q) (s.take k).reverse, [], H) with
              | some R => sx_all (fun o => bif o.1 then (match ik_at q o.2.1 with
                | some ir => (match sx_rc o.2.2.1 (ik_rt q) ir o.2.2.2.2.1 with
                  | some rv => sx_run K sp M uq n mid cuts false (pc + 3) (o.2.2.1, l, rv ++ s.drop k, o.2.2.2.2.2)
                  | none => none)
                | none => none) else none) R
              | none => none)) else none)
        | none => (match sx_step M mid i pc g l s H with
          | some L => sx_all (fun o => sx_run K sp M uq n mid cuts false o.1 o.2) L
          | none => none)))
theorem sx_W1 {X : Option (Nat × (Nat → Int32))} {mid pc : Nat} {loc : ik_L} {st : List Value} {h : List ik_E} {cl sl : Nat} {post : ik_St → Prop} {i : Instr} {pc' : Nat} {loc' : ik_L} {st' : List Value} {h' : List ik_E} {cl' sl' : Nat} (hi : ik_at mid pc = some i) (hr : ik_isR i = false) (hc : ik_call mid i = none) (hs : ik_step X mid i pc loc st h cl sl = some (pc', loc', st', h', cl', sl')) (kk : ik_W X mid pc' loc' st' h' cl' sl' post) : ik_W X mid pc loc st h cl sl post := by
  obtain ⟨n, z, he, hp⟩ := kk
  refine ⟨n + 1, z, ?_, hp⟩
  simp only [ik_ex, hi, hr, hc, hs, cond_false]
  exact he
theorem sx_W5 {X : Option (Nat × (Nat → Int32))} {mid pc : Nat} {loc : ik_L} {st : List Value} {h : List ik_E} {cl sl : Nat} {post : ik_St → Prop} {i : Instr} {q k : Nat} {r : List Value} {h' : List ik_E} (hi : ik_at mid pc = some i) (hr : ik_isR i = false) (hc : ik_call mid i = some (q, k, 5)) (hs : ik_acp st h = some (r, h')) (hb : 1 ≤ ik_fr mid ∧ 40 ≤ ik_lo mid ∧ ik_sum r ≤ 8) (kk : ik_W X mid (pc + 3) loc r h' cl sl post) : ik_W X mid pc loc st h cl sl post := by
  obtain ⟨n, z, he, hp⟩ := kk
  refine ⟨n + 1, z, ?_, hp⟩
  simp only [ik_ex, hi, hr, hc, hs, cond_false, ik_bo]
  rw [if_pos hb]
  exact he
theorem sx_W7 {X : Option (Nat × (Nat → Int32))} {mid pc : Nat} {loc : ik_L} {st : List Value} {h : List ik_E} {cl sl : Nat} {post : ik_St → Prop} {i : Instr} {q k : Nat} {r : List Value} (hi : ik_at mid pc = some i) (hr : ik_isR i = false) (hc : ik_call mid i = some (q, k, 7)) (hs : ik_math q st = some r) (hb : 1 ≤ ik_fr mid ∧ 40 ≤ ik_lo mid ∧ ik_sum (r.drop 1) ≤ 8) (kk : ik_W X mid (pc + 3) loc r h cl sl post) : ik_W X mid pc loc st h cl sl post := by
  obtain ⟨n, z, he, hp⟩ := kk
  refine ⟨n + 1, z, ?_, hp⟩
  simp only [ik_ex, hi, hr, hc, hs, cond_false, ik_bo]
  rw [if_pos hb]
  exact he
/-- what is owed behind the states that the executor stops at -/
def sx_ow (X : Option (Nat × (Nat → Int32))) (M : sx_M) (h0 : List ik_E) (mid : Nat) (ν : List Int) (len cl sl : Nat) (post : ik_St → Prop) (L : List sx_O) : Prop := ∀ o, o ∈ L → ∀ δ loc' st' h', sx_rr (ν ++ δ) o.2.2 loc' st' h' → sx_fm M h0 h' → h'.length = len → (o.1 = true → (∃ i, ik_at mid o.2.1 = some i ∧ ik_isR i = true) → post (o.2.1, loc', st', h', cl, sl)) ∧ (o.1 = false → ik_W X mid o.2.1 loc' st' h' cl sl post)
theorem sx_ow_sub {X : Option (Nat × (Nat → Int32))} {M : sx_M} {h0 : List ik_E} {mid : Nat} {ν : List Int} {len cl sl : Nat} {post : ik_St → Prop} {L L' : List sx_O} (h : sx_ow X M h0 mid ν len cl sl post L) (hs : ∀ o, o ∈ L' → o ∈ L) (δ : List Int) : sx_ow X M h0 mid (ν ++ δ) len cl sl post L' := by
  intro o ho δ' loc' st' h' hr hf hl
  rw [List.append_assoc] at hr
  exact h o (hs o ho) (δ ++ δ') loc' st' h' hr hf hl
end
