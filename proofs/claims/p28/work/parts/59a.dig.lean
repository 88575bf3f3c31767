noncomputable section
/-! dig, keep, goBack of the reference -/
abbrev sx_I : sx_V := sx_ri (-2147483648) 2147483647
theorem rc_keep {M : sx_M} {P : sx_H} {h h' : List ik_E} (hI : rc_RI h) (hf : sx_fm M h h') (hP : sx_hr [] P h') (kA : sx_tk rc_TA rc_TA M P [] = true) (kB : sx_tk rc_TB rc_TB M P [] = true) : sx_iv' rc_TA h' ∨ sx_iv' rc_TB h' := by
  rcases hI.1 with q | q
  · exact Or.inl (sx_tk_ok (xs := []) (loc := []) (st := []) q hf hP sx_cx_nil kA)
  · exact Or.inr (sx_tk_ok (xs := []) (loc := []) (st := []) q hf hP sx_cx_nil kB)
theorem rc_k0A : sx_tk rc_TA rc_TA [] ([], []) [] = true := by decide +kernel
theorem rc_k0B : sx_tk rc_TB rc_TB [] ([], []) [] = true := by decide +kernel
theorem rc_q0 : qq_ut [] = true := by decide +kernel
/-- nothing was written -/
theorem rc_none {h h' : List ik_E} (hI : rc_RI h) (hf : sx_fm [] h h') : rc_RI h' := by
  have hP : sx_hr [] (([], []) : sx_H) h' := by
    refine ⟨?_, fun a c hc => ?_⟩
    · have h1 : 66 + 28 ≤ h.length := (rc_gen hI).1
      rw [hf.1]
      exact Nat.le_trans (by decide) h1
    · unfold sx_hg at hc
      cases hb : Nat.blt a 66 <;> rw [hb] at hc <;> simp only [cond_true, cond_false, sx_get_eq, List.getElem?_nil] at hc <;> cases hc
  exact ⟨rc_keep hI hf hP rc_k0A rc_k0B, qq_fr rc_q0 hf hI.2⟩
theorem rc_m0 {N : sx_M} : ∀ a k, sx_md [] a k = true → sx_md N a k = true := fun a k h => by cases h
/-- a segment from the entry to returns that write nothing -/
theorem pr_refuse {N : sx_M} {q : Nat} {args : List sx_V} {vs : List sx_V} (hck : sx_sg [] [] [] false 200 q 0 (sx_lo (ik_ml q) args) (rf_H rc_f) [] [] [] [(true, 0, [], vs, ([], []), [], [])] = true) {h : List ik_E} (hI : rc_RI h) {as : List Value} (has : sx_sr [] args as) {A : Int32 → Prop} (hA : ∀ rv, sx_sr [] vs rv → ∃ v, rv = [.int v] ∧ A v) : ik_W none q 0 (ik_loc (ik_ml q) as) [] h 0 0 (pr_P N q (fun v _ => A v) h) := by
  refine sx_seg (Q := qq) sx_h0 hck (sx_lo_ok has) (rc_gen hI) (fun x hx => (nomatch hx)) (fun u => nomatch u) ?_ ?_
  · intro O hO hb pc' loc' st' h' hur
    rw [List.mem_singleton] at hO
    subst hO
    obtain ⟨u1, u2, u3, ir, rv, u4, u5, u6, u7, u8⟩ := hur
    obtain ⟨v, rfl, hv⟩ := hA rv u6
    exact ⟨ir, v, u4, u5, hv, rc_none hI u1, sx_fm_trans rc_m0 (sx_fm_refl _ _) u1, rfl, rfl⟩
  · intro O hO hb
    rw [List.mem_singleton] at hO
    subst hO
    cases hb
theorem sx_sr1 {l u : Int} {rv : List Value} (h : sx_sr [] [sx_ri l u] rv) : ∃ v, rv = [.int v] ∧ (l ≤ v.toInt ∧ v.toInt ≤ u) := by
  match rv, h with
  | [_], ⟨⟨x, rfl, x1, x2⟩, _⟩ => exact ⟨x, rfl, x1, x2⟩
/-! dig -/
def dg_M (p : Nat) : sx_M := [(69, [4 * p, 4 * p + 1, 4 * p + 2, 4 * p + 3])]
def dg_O (r : List sx_X) : sx_U := (true, 0, [], [sx_I], rf_H rc_f, r, [])
def dg_k (p : Nat) : Bool := (qf_F p).all fun r => sx_sg [] [(189, 76), (189, 111)] (dg_M p) false 1000 189 0 (sx_lo (ik_ml 189) [sx_va [66], sx_ri p p, sx_I, sx_I, sx_I]) (rf_H rc_f) [] r [] [dg_O r]
theorem dg_k_0 : dg_k 0 = true := by decide +kernel
theorem dg_k_1 : dg_k 1 = true := by decide +kernel
theorem dg_k_2 : dg_k 2 = true := by decide +kernel
theorem dg_k_3 : dg_k 3 = true := by decide +kernel
theorem dg_k_4 : dg_k 4 = true := by decide +kernel
theorem dg_k_5 : dg_k 5 = true := by decide +kernel
theorem dg_k_6 : dg_k 6 = true := by decide +kernel
theorem dg_k_7 : dg_k 7 = true := by decide +kernel
theorem dg_k_8 : dg_k 8 = true := by decide +kernel
theorem dg_k_9 : dg_k 9 = true := by decide +kernel
theorem dg_k_10 : dg_k 10 = true := by decide +kernel
theorem dg_ka : (List.range 11).all dg_k = true := by
  simp only [List.all_eq_true, List.mem_range]
  intro j hj
  match j, hj with
  | 0, _ => exact dg_k_0
  | 1, _ => exact dg_k_1
  | 2, _ => exact dg_k_2
  | 3, _ => exact dg_k_3
  | 4, _ => exact dg_k_4
  | 5, _ => exact dg_k_5
  | 6, _ => exact dg_k_6
  | 7, _ => exact dg_k_7
  | 8, _ => exact dg_k_8
  | 9, _ => exact dg_k_9
  | 10, _ => exact dg_k_10
  | n + 11, h => omega
theorem dg_t : ((List.range 11).all fun p => sx_tk rc_TA rc_TA (dg_M p) (rf_H rc_f) [] && sx_tk rc_TB rc_TB (dg_M p) (rf_H rc_f) [] && sx_mle (dg_M p) rc_N && (List.range 11).all (fun q => (Nat.beq q p || sx_dut (dg_M p) (qf_F q)) && (List.range 2).all (fun i => sx_dut (dg_M p) (qf_I i q)))) = true := by decide +kernel
theorem dg_lo : sx_sg [] [] [] false 200 189 0 (sx_lo (ik_ml 189) [sx_va [66], sx_ri (-2147483648) (-1), sx_I, sx_I, sx_I]) (rf_H rc_f) [] [] [] [(true, 0, [], [sx_I], ([], []), [], [])] = true := by decide +kernel
theorem dg_hi : sx_sg [] [] [] false 200 189 0 (sx_lo (ik_ml 189) [sx_va [66], sx_ri 11 2147483647, sx_I, sx_I, sx_I]) (rf_H rc_f) [] [] [] [(true, 0, [], [sx_I], ([], []), [], [])] = true := by decide +kernel
theorem pr_dig {h : List ik_E} (hI : rc_RI h) {as : List Value} (has : sx_sr [] [sx_va [66], sx_I, sx_I, sx_I, sx_I] as) : ik_W none 189 0 (ik_loc (ik_ml 189) as) [] h 0 0 (pr_P rc_N 189 (fun _ _ => True) h) := by
  match as, has with
  | [v0, _, v2, v3, v4], ⟨h0, ⟨x, rfl, x1, x2⟩, h2, h3, h4, _⟩ =>
    by_cases hx : x.toInt < 0
    · exact pr_refuse (A := fun _ => True) dg_lo hI (as := [v0, .int x, v2, v3, v4]) ⟨h0, ⟨x, rfl, x1, by omega⟩, h2, h3, h4, trivial⟩ (fun rv hrv => by obtain ⟨v, e, _⟩ := sx_sr1 hrv; exact ⟨v, e, trivial⟩)
    · by_cases hx2 : 11 ≤ x.toInt
      · exact pr_refuse (A := fun _ => True) dg_hi hI (as := [v0, .int x, v2, v3, v4]) ⟨h0, ⟨x, rfl, hx2, x2⟩, h2, h3, h4, trivial⟩ (fun rv hrv => by obtain ⟨v, e, _⟩ := sx_sr1 hrv; exact ⟨v, e, trivial⟩)
      · obtain ⟨p, hp⟩ : ∃ p : Nat, x.toInt = (p : Int) := ⟨x.toInt.toNat, by omega⟩
        have hp' : p < 11 := by omega
        obtain ⟨r, hr, hrx⟩ := hI.2.1 p hp'
        have hck := List.all_eq_true.mp (List.all_eq_true.mp dg_ka p (List.mem_range.mpr hp')) r hr
        have ht := List.all_eq_true.mp dg_t p (List.mem_range.mpr hp')
        obtain ⟨ht, t4⟩ := Bool.and_eq_true_iff.mp ht
        obtain ⟨ht, t3⟩ := Bool.and_eq_true_iff.mp ht
        obtain ⟨t1, t2⟩ := Bool.and_eq_true_iff.mp ht
        have hsr : sx_sr [] [sx_va [66], sx_ri p p, sx_I, sx_I, sx_I] [v0, .int x, v2, v3, v4] := ⟨h0, ⟨x, rfl, by omega, by omega⟩, h2, h3, h4, trivial⟩
        refine sx_seg (Q := qq) sx_h0 hck (sx_lo_ok hsr) (rc_gen hI) (sx_cx_ho hrx (qf_hoF hp' hr)) (fun u => nomatch u) ?_ ?_
        · intro O hO hb pc' loc' st' h' hur
          rw [List.mem_singleton] at hO
          subst hO
          obtain ⟨u1, u2, u3, ir, rv, u4, u5, u6, u7, u8⟩ := hur
          obtain ⟨v, rfl, _⟩ := sx_sr1 u6
          refine ⟨ir, v, u4, u5, trivial, ⟨rc_keep hI u1 u3 t1 t2, ?_, ?_⟩, sx_fm_trans (sx_mle_ok t3) (sx_fm_refl _ _) u1, rfl, rfl⟩
          · intro q hq
            by_cases hqp : q = p
            · subst hqp
              exact ⟨r, hr, sx_cx_oh (loc := loc') (st := [.int v]) u7 (qf_hoF hp' hr)⟩
            · have t5 := (Bool.and_eq_true_iff.mp (List.all_eq_true.mp t4 q (List.mem_range.mpr hq))).1
              rcases Bool.or_eq_true_iff.mp t5 with t5 | t5
              · exact absurd (Nat.eq_of_beq_eq_true t5) hqp
              · exact sx_dut_ok u1 (hI.2.1 q hq) t5
          · intro i hi q hq
            have t5 := (Bool.and_eq_true_iff.mp (List.all_eq_true.mp t4 q (List.mem_range.mpr hq))).2
            exact sx_dut_ok u1 (hI.2.2 i hi q hq) (List.all_eq_true.mp t5 i (List.mem_range.mpr hi))
        · intro O hO hb
          rw [List.mem_singleton] at hO
          subst hO
          cases hb
end
