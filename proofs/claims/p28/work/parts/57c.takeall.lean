noncomputable section
/-! takeAll, row by row -/
def ta_M : sx_M := [(66, [11, 12, 13, 14, 15, 16, 17]), (73, [9999]), (74, [9999]), (75, [9999]), (76, [9999])]
def ta_Mj (j : Nat) : sx_M := [(66, [11, 12, 13, 14, 15, 16, 17]), (73, [j]), (74, [4 * j, 4 * j + 1, 4 * j + 2, 4 * j + 3]), (75, [4 * j, 4 * j + 1, 4 * j + 2, 4 * j + 3]), (76, [9999])]
def ta_L (b : Int) : sx_L := [some (sx_va [66]), some (sx_ri b b), none]
def ta_O (j : Nat) : List sx_U := [(true, 0, [], [sx_ri 1 5], rd_H rc_f, [], []), (false, 13, ta_L 0, [], rd_H (rc_rp (j + 1)), [], [])] ++ (bif Nat.blt j 11 then [1, 2, 3, 4].map (fun m => (false, 13, ta_L 1, [], rd_H (rc_rp (j + 1)), qf_rx 73 75 0 j m, [])) else [])
def ta_Ks : List sx_K := [kr_4, kr_5, kr_6, kr_7, kr_8, kr_9, kr_10, kr_11, kr_12, kr_13, kr_14]
def ta_K (j : Nat) : List sx_K := kr_0 :: kr_1 :: (ta_Ks.drop j).take 1
theorem ta_hK (j : Nat) : ∀ C, C ∈ ta_K j → sx_hd qq C := by
  have hk : ∀ C, C ∈ ta_Ks → sx_hd qq C := sx_h1 krh_4 (sx_h1 krh_5 (sx_h1 krh_6 (sx_h1 krh_7 (sx_h1 krh_8 (sx_h1 krh_9 (sx_h1 krh_10 (sx_h1 krh_11 (sx_h1 krh_12 (sx_h1 krh_13 (sx_h1 krh_14 sx_h0))))))))))
  intro C hC
  rcases List.mem_cons.mp hC with rfl | hC
  · exact krh_0
  · rcases List.mem_cons.mp hC with rfl | hC
    · exact krh_1
    · exact hk C (List.mem_of_mem_drop (List.mem_of_mem_take hC))
def ta_k (j : Nat) : Bool := sx_sg (ta_K j) [] (ta_Mj j) false 2000 145 13 (ta_L 1) (rd_H (rc_rp j)) [] [] [13] (ta_O j)
theorem ta_k_0 : ta_k 0 = true := by decide +kernel
theorem ta_k_1 : ta_k 1 = true := by decide +kernel
theorem ta_k_2 : ta_k 2 = true := by decide +kernel
theorem ta_k_3 : ta_k 3 = true := by decide +kernel
theorem ta_k_4 : ta_k 4 = true := by decide +kernel
theorem ta_k_5 : ta_k 5 = true := by decide +kernel
theorem ta_k_6 : ta_k 6 = true := by decide +kernel
theorem ta_k_7 : ta_k 7 = true := by decide +kernel
theorem ta_k_8 : ta_k 8 = true := by decide +kernel
theorem ta_k_9 : ta_k 9 = true := by decide +kernel
theorem ta_k_10 : ta_k 10 = true := by decide +kernel
theorem ta_k_11 : ta_k 11 = true := by decide +kernel
theorem ta_ka : (List.range 12).all ta_k = true := by
  simp only [List.all_eq_true, List.mem_range]
  intro j hj
  match j, hj with
  | 0, _ => exact ta_k_0
  | 1, _ => exact ta_k_1
  | 2, _ => exact ta_k_2
  | 3, _ => exact ta_k_3
  | 4, _ => exact ta_k_4
  | 5, _ => exact ta_k_5
  | 6, _ => exact ta_k_6
  | 7, _ => exact ta_k_7
  | 8, _ => exact ta_k_8
  | 9, _ => exact ta_k_9
  | 10, _ => exact ta_k_10
  | 11, _ => exact ta_k_11
  | n + 12, h => omega
theorem ta_ml : ((List.range 12).all fun j => sx_mle (ta_Mj j) ta_M && (List.range 11).all (fun p => Nat.beq p j || sx_dut (ta_Mj j) (qf_R p))) = true := by decide +kernel
theorem ta_mj {j : Nat} (hj : j < 12) : ∀ a k, sx_md (ta_Mj j) a k = true → sx_md ta_M a k = true := sx_mle_ok (Bool.and_eq_true_iff.mp (List.all_eq_true.mp ta_ml j (List.mem_range.mpr hj))).1
theorem ta_ut {j p : Nat} (hj : j < 12) (hp : p < 11) (hpj : p ≠ j) : sx_dut (ta_Mj j) (qf_R p) = true := by
  have h := List.all_eq_true.mp (Bool.and_eq_true_iff.mp (List.all_eq_true.mp ta_ml j (List.mem_range.mpr hj))).2 p (List.mem_range.mpr hp)
  rcases Bool.or_eq_true_iff.mp h with h | h
  · exact absurd (Nat.eq_of_beq_eq_true h) hpj
  · exact h
def ta_P (h0 : List ik_E) (z : ik_St) : Prop := ∃ ir v, ik_at 145 z.1 = some ir ∧ ik_rv (ik_rt 145) ir z.2.2.1 = some [.int v] ∧ sx_hr [] (rd_H rc_f) z.2.2.2.1 ∧ sx_fm ta_M h0 z.2.2.2.1 ∧ ((1 ≤ v.toInt ∧ v.toInt ≤ 6) ∨ (v.toInt = 0 ∧ ∀ p, p < 11 → sx_dh z.2.2.2.1 (qf_G p))) ∧ z.2.2.2.2.1 = 0 ∧ z.2.2.2.2.2 = 0
theorem rd_any : ((List.range 13).all fun j => sx_lh 0 ((0, []), []) (rd_H (rc_rp j)) (rd_H rc_f)) = true := by decide +kernel
theorem rd_gen {j : Nat} (hj : j < 13) {h : List ik_E} (hh : sx_hr [] (rd_H (rc_rp j)) h) : sx_hr [] (rd_H rc_f) h := sx_lh0 hh (List.all_eq_true.mp rd_any j (List.mem_range.mpr hj))
theorem rd_lo : ((List.range 13).all fun j => (List.range 11).all fun p => Nat.blt (p + 1) j || sx_stk (rd_H (rc_rp j)) [qf_lo qf_rp p]) = true := by decide +kernel
/-- no arguments but the reference itself -/
theorem rc_fit {mid q : Nat} {h : List ik_E} {loc : ik_L} (hk : (decide (ik_fr q + 1 ≤ ik_fr mid) && decide (8 + (ik_ml q + 11) + ik_lo q ≤ ik_lo mid) && decide (1 ≤ ik_ml q) && decide (q < ik_M.length) && decide (10 = ik_ow q)) = true) {fs : List Value} (h66 : h[66]? = some (.inr (10, fs))) (hl : loc.all (ik_wl h.length) = true) : ik_fitC mid q 0 [.ref 66] h [] loc = true := by
  simp only [Bool.and_eq_true] at hk
  unfold ik_fitC
  simp only [h66, Bool.and_eq_true]
  refine ⟨⟨⟨⟨⟨⟨⟨hk.1.1.1.1, hk.1.1.1.2⟩, rfl⟩, hk.1.1.2⟩, hk.1.2⟩, rfl⟩, hl⟩, hk.2, rfl⟩
theorem rc_66 {f : List sx_V} {h : List ik_E} (hh : sx_hr [] (rd_H f) h) : ∃ fs, h[66]? = some (.inr (10, fs)) := by
  obtain ⟨d, h1, fs, h2, _⟩ := hh.2 66 (.inl (10, f)) rfl
  rw [h2] at h1
  exact ⟨fs, h1⟩
theorem ta_it : (decide (ik_fr 146 + 1 ≤ ik_fr 145) && decide (8 + (ik_ml 146 + 11) + ik_lo 146 ≤ ik_lo 145) && decide (1 ≤ ik_ml 146) && decide (146 < ik_M.length) && decide (10 = ik_ow 146)) = true := by decide +kernel
theorem ta_itM : ∀ a k, sx_md it_M a k = true → sx_md ta_M a k = true := sx_mle_ok (by decide +kernel)
/-- the bridge was read, or there was no text -/
theorem ta_end {j : Nat} (hj : j < 13) {loc : ik_L} {h h0 : List ik_E} (hl : sx_lr [] h.length (ta_L 0) loc) (hh : sx_hr [] (rd_H (rc_rp j)) h) (hR : ∀ p, p + 1 < j → sx_dh h (qf_R p)) (hf : sx_fm ta_M h0 h) : ik_W none 145 13 loc [] h 0 0 (ta_P h0) := by
  have hn : sx_hn (rd_H (rc_rp j)) ≤ h.length := hh.1
  have hwl : loc.all (ik_wl h.length) = true := sx_wl_ok hn hl rfl
  match loc, hl with
  | [o0, o1, o2], ⟨⟨v0, e0, k0, hk0, e0'⟩, ⟨v1, e1, x, e1', x1, x2⟩, _⟩ =>
    subst e0; subst e1; subst e0'; subst e1'
    rw [List.mem_singleton] at hk0
    subst hk0
    have hx0 : x = 0 := by
      rw [cv_eq]
      have : (0 : Int32).toInt = 0 := rfl
      omega
    subst hx0
    refine ik_Wk 3 (pc' := 172) (loc' := [some (.ref 66), some (.int 0), o2]) (st' := [.ref 66]) (h' := h) (cl' := 0) (sl' := 0) rfl ?_
    obtain ⟨fs, h66⟩ := rc_66 hh
    refine ik_Wc 146 1 0 [.ref 66] [] rfl rfl rfl (by decide) rfl rfl (rc_fit ta_it h66 hwl) ?_
    have hE : ∀ p, p < 11 → sx_dh h (qf_E p) := by
      intro p hp
      by_cases hpj : p + 1 < j
      · obtain ⟨r, h1, h2⟩ := hR p hpj
        exact ⟨r, List.mem_cons_of_mem _ h1, h2⟩
      · refine ⟨[qf_lo qf_rp p], List.mem_cons_self, ?_⟩
        have hk := List.all_eq_true.mp (List.all_eq_true.mp rd_lo j (List.mem_range.mpr hj)) p (List.mem_range.mpr hp)
        rw [sx_bltn hpj, Bool.false_or] at hk
        exact sx_st hh hk
    refine sx_W_mono (it_all (rd_gen hj hh) hE) ?_
    rintro z ⟨ir, v, z1, z2, z3, z4, z5, z6, z7⟩
    refine ⟨ir, [.int v], z1, z2, ?_⟩
    rw [z6, z7]
    refine ik_Wret (i := .ireturn) rfl rfl ?_
    refine ⟨.ireturn, v, rfl, rfl, z3, sx_fm_trans ta_itM hf z4, ?_, rfl, rfl⟩
    rcases z5 with z5 | z5
    · exact Or.inl (by omega)
    · exact Or.inr z5
theorem ta_from : ∀ (n j : Nat), j + n = 12 → ∀ {loc : ik_L} {h h0 : List ik_E}, sx_lr [] h.length (ta_L 1) loc → sx_hr [] (rd_H (rc_rp j)) h → (∀ p, p < j → p < 11 → sx_dh h (qf_R p)) → sx_fm ta_M h0 h → j < 12 → ik_W none 145 13 loc [] h 0 0 (ta_P h0) := by
  intro n
  induction n with
  | zero =>
    intro j hj loc h h0 hl hh hR hf hj2
    omega
  | succ n ih =>
    intro j hj loc h h0 hl hh hR hf hj2
    have hck := List.all_eq_true.mp ta_ka j (List.mem_range.mpr hj2)
    have fr : ∀ {h' : List ik_E}, sx_fm (ta_Mj j) h h' → sx_fm ta_M h0 h' := fun q => sx_fm_trans (ta_mj hj2) hf q
    refine sx_seg (Q := qq) (ta_hK j) hck hl hh (fun x hx => (nomatch hx)) (fun u => nomatch u) ?_ ?_
    · intro O hO hb pc' loc' st' h' hur
      obtain ⟨u1, u2, u3, ir, rv, u4, u5, u6, u7, u8⟩ := hur
      unfold ta_O at hO
      rcases List.mem_append.mp hO with hO | hO
      · rcases List.mem_cons.mp hO with rfl | hO
        · match rv, u6 with
          | [_], ⟨⟨x, rfl, x1, x2⟩, _⟩ => exact ⟨ir, x, u4, u5, u3, fr u1, Or.inl (by omega), rfl, rfl⟩
        · rw [List.mem_singleton] at hO
          subst hO
          cases hb
      · cases hb2 : Nat.blt j 11 with
        | true =>
          rw [hb2, cond_true] at hO
          obtain ⟨m, _, rfl⟩ := List.mem_map.mp hO
          cases hb
        | false =>
          rw [hb2] at hO
          cases hO
    · intro O hO hb loc' h' huc
      obtain ⟨u1, u2, u3, u4, u5, u6⟩ := huc
      have u4' : sx_lr [] h'.length O.2.2.1 loc' := by rw [u2]; exact u4
      unfold ta_O at hO
      rcases List.mem_append.mp hO with hO | hO
      · rcases List.mem_cons.mp hO with rfl | hO
        · cases hb
        · rw [List.mem_singleton] at hO
          subst hO
          refine ta_end (j := j + 1) (by omega) u4' u3 ?_ (fr u1)
          intro p hp
          exact sx_dut_ok u1 (hR p (by omega) (by omega)) (ta_ut hj2 (by omega) (by omega))
      · cases hb2 : Nat.blt j 11 with
        | true =>
          rw [hb2, cond_true] at hO
          obtain ⟨m, hm, rfl⟩ := List.mem_map.mp hO
          have hj11 := Nat.blt_eq.mp hb2
          refine ih (j + 1) (by omega) u4' u3 ?_ (fr u1) (by omega)
          intro p hp hp11
          by_cases hpj : p = j
          · subst hpj
            have hmem : qf_rx 73 75 0 p m ∈ qf_R p := List.mem_map.mpr ⟨m, hm, rfl⟩
            exact ⟨_, hmem, sx_cx_oh u5 (qf_hoR hp11 hmem)⟩
          · exact sx_dut_ok u1 (hR p (by omega) hp11) (ta_ut hj2 hp11 hpj)
        | false =>
          rw [hb2] at hO
          cases hO
/-- from its entry to the head of its loop -/
def ta_O0 : List sx_U := [(false, 13, ta_L 0, [], rd_H (rc_rp 0), [], []), (false, 13, ta_L 1, [], rd_H (rc_rp 0), [], [])]
theorem ta_k0 : sx_sg [kr_0] [] ta_M false 200 145 0 (sx_lo (ik_ml 145) [sx_va [66]]) (rd_H (rc_rp 0)) [] [] [13] ta_O0 = true := by decide +kernel
theorem ta_all {h : List ik_E} (hh : sx_hr [] (rd_H (rc_rp 0)) h) : ik_W none 145 0 (ik_loc (ik_ml 145) [.ref 66]) [] h 0 0 (ta_P h) := by
  refine sx_seg (Q := qq) (sx_h1 krh_0 sx_h0) ta_k0 (sx_lo_ok ⟨⟨66, List.mem_singleton.mpr rfl, rfl⟩, trivial⟩) hh (fun x hx => (nomatch hx)) (fun u => nomatch u) ?_ ?_
  · intro O hO hb
    unfold ta_O0 at hO
    rcases List.mem_cons.mp hO with rfl | hO
    · cases hb
    · rw [List.mem_singleton] at hO
      subst hO
      cases hb
  · intro O hO hb loc' h' huc
    obtain ⟨u1, u2, u3, u4, u5, u6⟩ := huc
    have u4' : sx_lr [] h'.length O.2.2.1 loc' := by rw [u2]; exact u4
    unfold ta_O0 at hO
    rcases List.mem_cons.mp hO with rfl | hO
    · exact ta_end (j := 0) (by omega) u4' u3 (fun p hp => by omega) u1
    · rw [List.mem_singleton] at hO
      subst hO
      exact ta_from 12 0 rfl u4' u3 (fun p hp => by omega) u1 (by omega)
end
