noncomputable section
/-! reading: isThere and takeAll, row by row -/
/-- constraints that hold by the bounds alone -/
def sx_stk (H : sx_H) (xs : List sx_X) : Bool := match sx_mqs ((0, []), []) H xs with
  | (g, H') => sx_x2 [] [] H' g xs
theorem sx_st {H : sx_H} {h : List ik_E} {xs : List sx_X} (hh : sx_hr [] H h) (hk : sx_stk H xs = true) : sx_cx [] [] h xs := by
  unfold sx_stk at hk
  have h00 : sx_ok [] (((0, []), []) : sx_G) := ⟨⟨rfl, trivial⟩, fun c hc => by cases hc⟩
  obtain ⟨δ, e1, e2⟩ := sx_mqs_ok (x := xs) h00 hh (rfl : sx_mqs _ _ _ = ((sx_mqs ((0, []), []) H xs).1, (sx_mqs ((0, []), []) H xs).2))
  exact sx_x2_ok (n := 0) (l := []) (loc := []) (s := []) (st := []) e1 trivial trivial e2 hk
theorem sx_cx_oh {loc : ik_L} {st : List Value} {h : List ik_E} {xs : List sx_X} (hx : sx_cx loc st h xs) (ho : xs.all sx_ho = true) : sx_cx [] [] h xs := by
  intro x hm
  obtain ⟨y, e1, e2⟩ := hx x hm
  exact ⟨y, by rw [← sx_xc_ho (loc := loc) (st := st) (List.all_eq_true.mp ho x hm)]; exact e1, e2⟩
theorem qf_hoG {p : Nat} (hp : p < 11) {r : List sx_X} (hr : r ∈ qf_G p) : r.all sx_ho = true := by
  have h := List.all_eq_true.mp qf_ho p (List.mem_range.mpr hp)
  simp only [Bool.and_eq_true] at h
  exact List.all_eq_true.mp h.1.1.2 r hr
theorem qf_hoR {p : Nat} (hp : p < 11) {r : List sx_X} (hr : r ∈ qf_R p) : r.all sx_ho = true := by
  have h := List.all_eq_true.mp qf_ho p (List.mem_range.mpr hp)
  simp only [Bool.and_eq_true] at h
  exact List.all_eq_true.mp h.1.2 r hr
theorem sx_fm_same {M : sx_M} {h0 h h' : List ik_E} (f1 : sx_fm M h0 h) (f2 : sx_fm M h h') : sx_fm M h0 h' := sx_fm_trans (fun _ _ q => q) f1 f2
theorem sx_bltn {a b : Nat} (h : ¬ a < b) : Nat.blt a b = false := by
  cases hb : Nat.blt a b with
  | false => rfl
  | true => exact absurd (Nat.blt_eq.mp hb) h
/-! isThere -/
def it_M : sx_M := [(66, [11])]
def it_L (c : Nat) : sx_L := [some (sx_va [66]), some (sx_ri c c), none]
def it_g (c m : Nat) : List sx_X := qf_hi qf_rp c :: (qf_rx 73 75 0 c m ++ qf_tx 74 qf_rp c m)
def it_O (c : Nat) : List sx_U := [(true, 0, [], [sx_ri 6 6], rd_H rc_f, [], []), (true, 0, [], [sx_ri 0 0], rd_H rc_f, ((List.range 11).filter (fun p => Nat.ble c p)).map (qf_lo qf_rp), [])] ++ (bif Nat.blt c 11 then [1, 2, 3, 4].map (fun m => (false, 2, it_L (c + 1), [], rd_H rc_f, it_g c m, [])) else [])
def it_D (c : Nat) : sx_D := bif Nat.blt c 11 then qf_E c else [[]]
def it_k (c : Nat) : Bool := (it_D c).all fun r => sx_sg [] [] it_M false 1000 146 2 (it_L c) (rd_H rc_f) [] r [2] (it_O c)
theorem it_ka : (List.range 12).all it_k = true := by decide +kernel
theorem it_ut : ((List.range 11).all fun p => sx_dut it_M (qf_G p) && sx_dut it_M (qf_E p)) = true := by decide +kernel
theorem it_utG {p : Nat} (hp : p < 11) : sx_dut it_M (qf_G p) = true := (Bool.and_eq_true_iff.mp (List.all_eq_true.mp it_ut p (List.mem_range.mpr hp))).1
theorem it_utE {p : Nat} (hp : p < 11) : sx_dut it_M (qf_E p) = true := (Bool.and_eq_true_iff.mp (List.all_eq_true.mp it_ut p (List.mem_range.mpr hp))).2
def it_P (h0 : List ik_E) (z : ik_St) : Prop := ∃ ir v, ik_at 146 z.1 = some ir ∧ ik_rv (ik_rt 146) ir z.2.2.1 = some [.int v] ∧ sx_hr [] (rd_H rc_f) z.2.2.2.1 ∧ sx_fm it_M h0 z.2.2.2.1 ∧ (v.toInt = 6 ∨ (v.toInt = 0 ∧ ∀ p, p < 11 → sx_dh z.2.2.2.1 (qf_G p))) ∧ z.2.2.2.2.1 = 0 ∧ z.2.2.2.2.2 = 0
theorem it_one {c : Nat} (hc : c ≤ 11) {loc : ik_L} {h h0 : List ik_E} (hl : sx_lr [] h.length (it_L c) loc) (hh : sx_hr [] (rd_H rc_f) h) (hG : ∀ p, p < c → sx_dh h (qf_G p)) (hE : ∀ p, c ≤ p → p < 11 → sx_dh h (qf_E p)) (hf : sx_fm it_M h0 h)
    (kk : c < 11 → ∀ loc' h', sx_lr [] h'.length (it_L (c + 1)) loc' → sx_hr [] (rd_H rc_f) h' → (∀ p, p < c + 1 → sx_dh h' (qf_G p)) → (∀ p, c + 1 ≤ p → p < 11 → sx_dh h' (qf_E p)) → sx_fm it_M h0 h' → ik_W none 146 2 loc' [] h' 0 0 (it_P h0)) : ik_W none 146 2 loc [] h 0 0 (it_P h0) := by
  have hck := List.all_eq_true.mp it_ka c (List.mem_range.mpr (by omega))
  obtain ⟨r, hr, hrx, hro⟩ : ∃ r, r ∈ it_D c ∧ sx_cx [] [] h r ∧ r.all sx_ho = true := by
    unfold it_D
    by_cases hc : c < 11
    · rw [Nat.blt_eq.mpr hc, cond_true]
      obtain ⟨r, h1, h2⟩ := hE c (Nat.le_refl _) hc
      exact ⟨r, h1, h2, qf_hoE hc h1⟩
    · rw [sx_bltn hc, cond_false]
      exact ⟨[], List.mem_singleton.mpr rfl, fun x hx => (nomatch hx), rfl⟩
  have hc1 := List.all_eq_true.mp hck r hr
  refine sx_seg (Q := qq) sx_h0 hc1 hl hh (sx_cx_ho hrx hro) (fun u => nomatch u) ?_ ?_
  · intro O hO hb pc' loc' st' h' hur
    obtain ⟨u1, u2, u3, ir, rv, u4, u5, u6, u7, u8⟩ := hur
    unfold it_O at hO
    rcases List.mem_append.mp hO with hO | hO
    · rcases List.mem_cons.mp hO with rfl | hO
      · match rv, u6 with
        | [_], ⟨⟨x, rfl, x1, x2⟩, _⟩ => exact ⟨ir, x, u4, u5, u3, sx_fm_same hf u1, Or.inl (by omega), rfl, rfl⟩
      · rw [List.mem_singleton] at hO
        subst hO
        match rv, u6 with
        | [_], ⟨⟨x, rfl, x1, x2⟩, _⟩ =>
          refine ⟨ir, x, u4, u5, u3, sx_fm_same hf u1, Or.inr ⟨by omega, fun p hp => ?_⟩, rfl, rfl⟩
          by_cases hpc : p < c
          · exact sx_dut_ok u1 (hG p hpc) (it_utG hp)
          · refine ⟨[qf_lo qf_rp p], List.mem_cons_self, ?_⟩
            intro x' hx'
            rw [List.mem_singleton] at hx'
            subst hx'
            obtain ⟨y, e1, e2⟩ := u7 (qf_lo qf_rp p) (List.mem_map.mpr ⟨p, List.mem_filter.mpr ⟨List.mem_range.mpr hp, Nat.ble_eq.mpr (by omega)⟩, rfl⟩)
            exact ⟨y, by rw [← sx_xc_ho (loc := loc') (st := [.int x]) rfl]; exact e1, e2⟩
    · cases hb2 : Nat.blt c 11 with
      | true =>
        rw [hb2, cond_true] at hO
        obtain ⟨m, _, rfl⟩ := List.mem_map.mp hO
        cases hb
      | false =>
        rw [hb2] at hO
        cases hO
  · intro O hO hb loc' h' huc
    obtain ⟨u1, u2, u3, u4, u5, u6⟩ := huc
    unfold it_O at hO
    rcases List.mem_append.mp hO with hO | hO
    · rcases List.mem_cons.mp hO with rfl | hO
      · cases hb
      · rw [List.mem_singleton] at hO
        subst hO
        cases hb
    · cases hb2 : Nat.blt c 11 with
      | true =>
        rw [hb2, cond_true] at hO
        obtain ⟨m, hm, rfl⟩ := List.mem_map.mp hO
        have hc11 := Nat.blt_eq.mp hb2
        refine kk hc11 loc' h' (by rw [u2]; exact u4) u3 ?_ ?_ (sx_fm_same hf u1)
        · intro p hp
          by_cases hpc : p < c
          · exact sx_dut_ok u1 (hG p hpc) (it_utG (by omega))
          · have : p = c := by omega
            subst this
            have hmem : it_g p m ∈ qf_G p := List.mem_cons_of_mem _ (List.mem_map.mpr ⟨m, hm, rfl⟩)
            exact ⟨it_g p m, hmem, sx_cx_oh u5 (qf_hoG hc11 hmem)⟩
        · intro p hp1 hp2
          exact sx_dut_ok u1 (hE p (by omega) hp2) (it_utE hp2)
      | false =>
        rw [hb2] at hO
        cases hO
theorem it_from : ∀ (n c : Nat), c + n = 11 → ∀ {loc : ik_L} {h h0 : List ik_E}, sx_lr [] h.length (it_L c) loc → sx_hr [] (rd_H rc_f) h → (∀ p, p < c → sx_dh h (qf_G p)) → (∀ p, c ≤ p → p < 11 → sx_dh h (qf_E p)) → sx_fm it_M h0 h → ik_W none 146 2 loc [] h 0 0 (it_P h0) := by
  intro n
  induction n with
  | zero =>
    intro c hc loc h h0 hl hh hG hE hf
    exact it_one (by omega) hl hh hG hE hf (fun q => by omega)
  | succ n ih =>
    intro c hc loc h h0 hl hh hG hE hf
    exact it_one (by omega) hl hh hG hE hf (fun _ loc' h' q1 q2 q3 q4 q5 => ih (c + 1) (by omega) q1 q2 q3 q4 q5)
theorem it_all {h : List ik_E} (hh : sx_hr [] (rd_H rc_f) h) (hE : ∀ p, p < 11 → sx_dh h (qf_E p)) : ik_W none 146 0 (ik_loc (ik_ml 146) [.ref 66]) [] h 0 0 (it_P h) := by
  refine ik_Wk 2 (pc' := 2) (loc' := [some (.ref 66), some (.int 0), none]) (st' := []) (h' := h) (cl' := 0) (sl' := 0) rfl ?_
  refine it_from 11 0 rfl ⟨⟨_, rfl, 66, List.mem_singleton.mpr rfl, rfl⟩, ⟨_, rfl, 0, rfl, Int.le_refl _, Int.le_refl _⟩, rfl, trivial⟩ hh (fun p hp => absurd hp (Nat.not_lt_zero p)) (fun p _ hp => hE p hp) (sx_fm_refl _ _)
end
