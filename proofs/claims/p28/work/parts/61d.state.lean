noncomputable section
/-! THE TEXT from call to call: y its bytes, n how many, fb the byte of the latest fault; class (sc_S) and reference (sr_S) -/
theorem ik_W_and {X : Option (Nat × (Nat → Int32))} {mid pc : Nat} {loc : ik_L} {st : List Value} {h : List ik_E} {cl sl : Nat} {P Q : ik_St → Prop} (H1 : ik_W X mid pc loc st h cl sl P) (H2 : ik_W X mid pc loc st h cl sl Q) : ik_W X mid pc loc st h cl sl (fun z => P z ∧ Q z) := by
  obtain ⟨n1, z1, e1, p1⟩ := H1
  obtain ⟨n2, z2, e2, p2⟩ := H2
  have h1 := ik_fuel n1 e1 n2
  have h2 := ik_fuel n2 e2 n1
  rw [Nat.add_comm n2 n1, h1] at h2
  cases h2
  exact ⟨n1, z1, e1, p1, p2⟩
def sc_T (y : Int → Int) (n : Int) (h : List ik_E) : Prop := ∃ T : List Int, h[2]? = some (.inl (.byte, fA T)) ∧ T.length = 500 ∧ ∀ i, 0 ≤ i → i < n → (-128 ≤ T.getD i.toNat 0 ∧ T.getD i.toNat 0 ≤ 127) ∧ y i = T.getD i.toNat 0 % 256
def sr_T (y : Int → Int) (n : Int) (h : List ik_E) : Prop := ∃ T : List Int, h[72]? = some (.inl (.int, fA T)) ∧ T.length = 500 ∧ ∀ i, 0 ≤ i → i < n → (0 ≤ T.getD i.toNat 0 ∧ T.getD i.toNat 0 ≤ 255) ∧ y i = T.getD i.toNat 0
def sc_S (y : Int → Int) (n fb : Int) (h : List ik_E) : Prop := sc_T y n h ∧ 0 ≤ n ∧ n ≤ 500 ∧ sx_lk [] [] h (1, 1, 1) = some n ∧ sx_lk [] [] h (1, 1, 4) = some fb
def sr_S (y : Int → Int) (n fb : Int) (h : List ik_E) : Prop := sr_T y n h ∧ 0 ≤ n ∧ n ≤ 500 ∧ sx_lk [] [] h (1, 66, 10) = some n ∧ sx_lk [] [] h (1, 66, 11) = some fb
/-- what stream answers, and the byte of its fault -/
def zret (r : (Int × Int) ⊕ (Int × List (List zM))) : Int := match r with
  | .inl e => -10 - e.1
  | .inr q => q.1
def zfb (r : (Int × Int) ⊕ (Int × List (List zM))) : Int := match r with
  | .inl e => e.2
  | .inr _ => -1
/-! the faults are 1 .. 6, their bytes in the text -/
theorem zf_of {f a : Int} (h1 : 1 ≤ f) (h2 : f ≤ 5) (h3 : 0 ≤ a) (h4 : a ≤ 500) : 1 ≤ (f, a).1 ∧ (f, a).1 ≤ 5 ∧ 0 ≤ (f, a).2 ∧ (f, a).2 ≤ 500 := ⟨h1, h2, h3, h4⟩
theorem zmv_f {y : Int → Int} {n : Int} (hn : n ≤ 500) : ∀ (k : Nat) (r : List zM) (sum cur : Int), 0 ≤ cur → cur ≤ n → ∀ e, zmv y n k r sum cur = .inl e → 1 ≤ e.1 ∧ e.1 ≤ 5 ∧ 0 ≤ e.2 ∧ e.2 ≤ 500 := by
  intro k
  induction k with
  | zero => intro r sum cur _ _ e h; cases h; exact zf_of (by decide) (by decide) (by decide) (by decide)
  | succ k ih =>
    intro r sum cur h0 h1 e h
    rw [zmv] at h
    have a1 := zS_ge (y := y) (n := n) cur
    have a2 := zS_le (y := y) (n := n) h1
    split at h
    · rename_i hto
      have ht : zS y n cur + 2 ≤ n := by
        unfold zto at hto
        have q := of_decide_eq_true hto
        have := zE_le (y := y) (n := n) (i := zS y n cur) a2
        omega
      have b1 := zS_ge (y := y) (n := n) (zS y n cur + 2)
      have b2 := zS_le (y := y) (n := n) ht
      have c1 := zD_ge (y := y) (n := n) (zS y n (zS y n cur + 2))
      have c2 := zD_le (y := y) (n := n) b2
      have d1 := zS_ge (y := y) (n := n) (zD y n (zS y n (zS y n cur + 2)))
      have d2 := zS_le (y := y) (n := n) c2
      have f1 := zD_ge (y := y) (n := n) (zS y n (zD y n (zS y n (zS y n cur + 2))))
      have f2 := zD_le (y := y) (n := n) d2
      have g1 := znumR (y := y) (n := n) (lo := 0) (hi := 11) (s := zS y n (zS y n cur + 2))
      have g2 := znumR (y := y) (n := n) (lo := 1) (hi := 100) (s := zS y n (zD y n (zS y n (zS y n cur + 2))))
      split at h
      · cases h; exact zf_of (by decide) (by decide) (by omega) (by omega)
      · split at h
        · split at h
          · cases h; exact zf_of (by decide) (by decide) (by omega) (by omega)
          · split at h
            · split at h
              · cases h; exact zf_of (by decide) (by decide) (by omega) (by omega)
              · exact ih _ _ _ (by omega) (by omega) e h
            · rename_i q; cases h; exact ⟨by omega, by omega, by omega, by omega⟩
        · rename_i q; cases h; exact ⟨by omega, by omega, by omega, by omega⟩
    · split at h
      · split at h
        · cases h
        · cases h; exact zf_of (by decide) (by decide) (by omega) (by omega)
      · cases h; exact zf_of (by decide) (by decide) (by omega) (by omega)
theorem zmv_c {y : Int → Int} {n : Int} : ∀ (k : Nat) (r : List zM) (sum cur : Int), 0 ≤ cur → cur ≤ n → ∀ q, zmv y n k r sum cur = .inr q → 0 ≤ q.2 ∧ q.2 ≤ n := by
  intro k
  induction k with
  | zero => intro r sum cur _ _ e h; cases h
  | succ k ih =>
    intro r sum cur h0 h1 q h
    rw [zmv] at h
    have a1 := zS_ge (y := y) (n := n) cur
    have a2 := zS_le (y := y) (n := n) h1
    split at h
    · rename_i hto
      have ht : zS y n cur + 2 ≤ n := by
        unfold zto at hto
        have q := of_decide_eq_true hto
        have := zE_le (y := y) (n := n) (i := zS y n cur) a2
        omega
      have b1 := zS_ge (y := y) (n := n) (zS y n cur + 2)
      have b2 := zS_le (y := y) (n := n) ht
      have c1 := zD_ge (y := y) (n := n) (zS y n (zS y n cur + 2))
      have c2 := zD_le (y := y) (n := n) b2
      have d1 := zS_ge (y := y) (n := n) (zD y n (zS y n (zS y n cur + 2)))
      have d2 := zS_le (y := y) (n := n) c2
      have f1 := zD_ge (y := y) (n := n) (zS y n (zD y n (zS y n (zS y n cur + 2))))
      have f2 := zD_le (y := y) (n := n) d2
      split at h
      · cases h
      · split at h
        · split at h
          · cases h
          · split at h
            · split at h
              · cases h
              · exact ih _ _ _ (by omega) (by omega) q h
            · cases h
        · cases h
    · split at h
      · rename_i hq
        split at h
        · cases h; exact ⟨by show 0 ≤ zS y n cur + 1; omega, by show zS y n cur + 1 ≤ n; omega⟩
        · cases h
      · cases h
theorem zps_f {y : Int → Int} {n : Int} (hn : n ≤ 500) : ∀ (k : Nat) (rs : List (List zM)) (cur : Int), 0 ≤ cur → cur ≤ n → ∀ e, zps y n k rs cur = .inl e → 1 ≤ e.1 ∧ e.1 ≤ 5 ∧ 0 ≤ e.2 ∧ e.2 ≤ 500 := by
  intro k
  induction k with
  | zero => intro rs cur _ _ e h; cases h; exact zf_of (by decide) (by decide) (by decide) (by decide)
  | succ k ih =>
    intro rs cur h0 h1 e h
    rw [zps] at h
    have a1 := zS_ge (y := y) (n := n) cur
    have a2 := zS_le (y := y) (n := n) h1
    split at h
    · rename_i hb
      have ht : zS y n cur + 6 ≤ n := by
        unfold zbr at hb
        have q := of_decide_eq_true hb
        have := zE_le (y := y) (n := n) (i := zS y n cur) a2
        omega
      have b1 := zS_ge (y := y) (n := n) (zS y n cur + 6)
      have b2 := zS_le (y := y) (n := n) ht
      split at h
      · cases h
      · rename_i hz
        cases h
        unfold zend at hz ⊢
        split at hz
        · rename_i hs
          have c1 := zS_ge (y := y) (n := n) (zS y n (zS y n cur + 6) + 1)
          have c2 := zS_le (y := y) (n := n) (i := zS y n (zS y n cur + 6) + 1) (by omega)
          split at hz
          · rename_i hu
            rw [if_pos hs, if_pos hu]
            exact zf_of (by decide) (by decide) (by omega) (by omega)
          · exact absurd rfl hz
        · rename_i hs
          rw [if_neg hs]
          exact zf_of (by decide) (by decide) (by omega) (by omega)
    · split at h
      · rename_i hp
        have ht : zS y n cur + 5 ≤ n := by
          unfold zpl at hp
          have q := of_decide_eq_true hp
          have := zE_le (y := y) (n := n) (i := zS y n cur) a2
          omega
        split at h
        · cases h; exact zf_of (by decide) (by decide) (by omega) (by omega)
        · cases hm : zmv y n 5 [] 0 (zS y n cur + 5) with
          | inl e' =>
            rw [hm] at h
            cases h
            exact zmv_f hn 5 [] 0 _ (by omega) ht _ hm
          | inr q =>
            rw [hm] at h
            have := zmv_c 5 [] 0 _ (by omega) ht q hm
            exact ih _ _ this.1 this.2 e h
      · cases h; exact zf_of (by decide) (by decide) (by omega) (by omega)
theorem zall_f {y : Int → Int} {n : Int} (h0 : 0 ≤ n) (hn : n ≤ 500) {e : Int × Int} (h : zall y n = .inl e) : 1 ≤ e.1 ∧ e.1 ≤ 6 := by
  rw [zall_e] at h
  split at h
  · rename_i hs
    have a1 := zS_ge (y := y) (n := n) 0
    cases hp : zps y n 12 [] (zS y n 0) with
    | inl e' =>
      rw [hp] at h
      cases h
      have := zps_f hn 12 [] _ (by omega) (by omega) _ hp
      omega
    | inr rs =>
      rw [hp] at h
      unfold zfin at h
      dsimp only at h
      split at h
      · cases h; exact ⟨(by decide : (1 : Int) ≤ 6), (by decide : (6 : Int) ≤ 6)⟩
      · cases h
  · cases h
theorem zmv_r {y : Int → Int} {n : Int} (hn : n ≤ 500) : ∀ (k : Nat) (r : List zM) (sum cur : Int), 0 ≤ cur → cur ≤ n → zrow r → ∀ q, zmv y n k r sum cur = .inr q → zrow q.1 := by
  intro k
  induction k with
  | zero => intro r sum cur _ _ _ e h; cases h
  | succ k ih =>
    intro r sum cur h0 h1 hr q h
    rw [zmv] at h
    have a1 := zS_ge (y := y) (n := n) cur
    have a2 := zS_le (y := y) (n := n) h1
    split at h
    · rename_i hto
      have ht : zS y n cur + 2 ≤ n := by
        unfold zto at hto
        have q := of_decide_eq_true hto
        have := zE_le (y := y) (n := n) (i := zS y n cur) a2
        omega
      have b1 := zS_ge (y := y) (n := n) (zS y n cur + 2)
      have b2 := zS_le (y := y) (n := n) ht
      have c1 := zD_ge (y := y) (n := n) (zS y n (zS y n cur + 2))
      have c2 := zD_le (y := y) (n := n) b2
      have d1 := zS_ge (y := y) (n := n) (zD y n (zS y n (zS y n cur + 2)))
      have d2 := zS_le (y := y) (n := n) c2
      have f1 := zD_ge (y := y) (n := n) (zS y n (zD y n (zS y n (zS y n cur + 2))))
      have f2 := zD_le (y := y) (n := n) d2
      split at h
      · cases h
      · split at h
        · rename_i z1
          have w1 := znum0 z1
          split at h
          · cases h
          · split at h
            · rename_i z2
              have w2 := znum0 z2
              split at h
              · cases h
              · exact ih _ _ _ (by omega) (by omega) (zrow_snoc hr ⟨w1.2.1, w1.2.2, w2.2.1, w2.2.2, by omega, by omega⟩) q h
            · cases h
        · cases h
    · split at h
      · split at h
        · cases h; exact hr
        · cases h
      · cases h
theorem zps_r {y : Int → Int} {n : Int} (hn : n ≤ 500) : ∀ (k : Nat) (rs : List (List zM)) (cur : Int), 0 ≤ cur → cur ≤ n → (∀ r ∈ rs, zrow r) → ∀ q, zps y n k rs cur = .inr q → ∀ r ∈ q, zrow r := by
  intro k
  induction k with
  | zero => intro rs cur _ _ _ q h; cases h
  | succ k ih =>
    intro rs cur h0 h1 hr q h
    rw [zps] at h
    have a1 := zS_ge (y := y) (n := n) cur
    have a2 := zS_le (y := y) (n := n) h1
    split at h
    · split at h
      · cases h; exact hr
      · cases h
    · split at h
      · rename_i hp
        have ht : zS y n cur + 5 ≤ n := by
          unfold zpl at hp
          have q := of_decide_eq_true hp
          have := zE_le (y := y) (n := n) (i := zS y n cur) a2
          omega
        split at h
        · cases h
        · cases hm : zmv y n 5 [] 0 (zS y n cur + 5) with
          | inl e' => rw [hm] at h; cases h
          | inr q' =>
            rw [hm] at h
            have h3 := zmv_c 5 [] 0 _ (by omega) ht q' hm
            have h4 := zmv_r hn 5 [] 0 _ (by omega) ht (fun m hm' => by cases hm') q' hm
            refine ih _ _ h3.1 h3.2 (fun r hr' => ?_) q h
            rcases List.mem_append.mp hr' with w | w
            · exact hr r w
            · rw [List.mem_singleton.mp w]; exact h4
      · cases h
theorem zall_b {y : Int → Int} {n : Int} (h0 : 0 ≤ n) (hn : n ≤ 500) {e : Int × Int} (h : zall y n = .inl e) : 0 ≤ e.2 ∧ e.2 ≤ 500 := by
  rw [zall_e] at h
  split at h
  · rename_i hs
    have a1 := zS_ge (y := y) (n := n) 0
    cases hp : zps y n 12 [] (zS y n 0) with
    | inl e' =>
      rw [hp] at h
      cases h
      have := zps_f hn 12 [] _ (by omega) (by omega) _ hp
      omega
    | inr rs =>
      rw [hp] at h
      unfold zfin at h
      dsimp only at h
      split at h
      · rename_i m hm
        cases h
        have hrs := zps_r hn 12 [] _ (by omega) (by omega) (fun r hr => by cases hr) rs hp
        obtain ⟨r, hr, hmr⟩ := List.mem_flatten.mp (List.mem_of_find?_eq_some hm)
        have := hrs r hr m hmr
        exact ⟨this.2.2.2.2.1, this.2.2.2.2.2⟩
      · cases h
  · cases h
/-! the views -/
theorem l_cons {α : Type} {h : List α} {d : α} (e : h[0]? = some d) : ∃ t, h = d :: t := by
  cases h with
  | nil => cases e
  | cons a t => cases e; exact ⟨t, rfl⟩
theorem fA_of : ∀ {vs : List Value}, (∀ v, v ∈ vs → ∃ x : Int32, v = .int x) → ∃ xs : List Int, vs = fA xs ∧ xs.length = vs.length := by
  intro vs
  induction vs with
  | nil => intro _; exact ⟨[], rfl, rfl⟩
  | cons v vs ih =>
    intro h
    obtain ⟨x, rfl⟩ := h v List.mem_cons_self
    obtain ⟨xs, e, l⟩ := ih (fun u hu => h u (List.mem_cons_of_mem _ hu))
    refine ⟨x.toInt :: xs, ?_, by simp only [List.length_cons, l]⟩
    show _ = fI x.toInt :: fA xs
    rw [e, fI, Int32.ofInt_toInt]
theorem sx_row {t len : Nat} {lo hi : Int} (ht : Nat.beq t 1 = false) {d : ik_E} (h : sx_cr [] (.inr (.inr (t, len, lo, hi))) d) : ∃ xs : List Int, d = .inl (sx_ty t, fA xs) ∧ xs.length = len := by
  obtain ⟨vs, e, l, hv⟩ := h
  obtain ⟨xs, e2, l2⟩ := fA_of (vs := vs) (fun v hm => by
    have := hv v hm
    unfold sx_bv at this
    dsimp only at this
    rw [ht] at this
    obtain ⟨x, hx, _⟩ := this
    exact ⟨x, hx⟩)
  exact ⟨xs, by rw [e, e2], l2.trans l⟩
theorem sx_rwe : ∀ {as : List sx_V} {vs : List Value}, (as.all fun a => match a with | .inr (.inr (.inr (.inr (.inl _)))) => true | _ => false) = true → sx_sr [] as vs → ∀ v, v ∈ vs → ∃ x : Int32, v = .int x := by
  intro as
  induction as with
  | nil => intro vs _ h v hv; cases vs with
    | nil => cases hv
    | cons a r => exact h.elim
  | cons a as ih =>
    intro vs hk h v hv
    cases vs with
    | nil => exact h.elim
    | cons u vs =>
      rw [List.all_cons] at hk
      obtain ⟨k1, k2⟩ := Bool.and_eq_true_iff.mp hk
      rcases List.mem_cons.mp hv with rfl | hv
      · split at k1
        · obtain ⟨⟨x, hx, _⟩, _⟩ := h
          exact ⟨x, hx⟩
        · cases k1
      · exact ih k2 h.2 v hv
theorem sx_rwr {k : Nat} {l u : Int} {d : ik_E} (h : sx_cr [] (.inr (.inl (0, List.replicate k (sx_ri l u)))) d) : ∃ xs : List Int, d = .inl (.int, fA xs) ∧ xs.length = k := by
  obtain ⟨vs, e, hv⟩ := h
  obtain ⟨xs, e2, l2⟩ := fA_of (vs := vs) (sx_rwe (by
    rw [List.all_eq_true]
    intro a ha
    rw [(List.mem_replicate.mp ha).2]) hv)
  refine ⟨xs, by rw [e, e2]; rfl, ?_⟩
  have := sx_sr_len hv
  rw [l2, this]
  exact List.length_replicate
theorem cz_cells {H : sx_H} (h0 : sx_hg H 0 = some (some sd_0)) (h1 : sx_hg H 1 = some (some sd_1)) (h2 : sx_hg H 2 = some (some sd_2)) (h3 : sx_hg H 3 = some (some sd_3)) (h4 : sx_hg H 4 = some (some sd_4)) (h5 : sx_hg H 5 = some (some sd_5)) (h6 : sx_hg H 6 = some (some sd_5)) {h : List ik_E} (hh : sx_hr [] H h) (hl : h.length = 94) : ∃ (cs : List Value) (T : List Int) (n cur fl fb pl : Int) (C G P B : List Int) (tl : List ik_E), h = .inr (9, .ref 1 :: cs) :: cz_t T n cur fl fb pl C G P B tl ∧ tl.length = 87 ∧ T.length = 500 ∧ C.length = 12 ∧ G.length = 48 ∧ P.length = 48 ∧ B.length = 48 ∧ sx_lk [] [] h (1, 1, 1) = some n ∧ sx_lk [] [] h (1, 1, 4) = some fb := by
  obtain ⟨d0, e0, c0⟩ := hh.2 0 _ h0
  obtain ⟨d1, e1, c1⟩ := hh.2 1 _ h1
  obtain ⟨d2, e2, c2⟩ := hh.2 2 _ h2
  obtain ⟨d3, e3, c3⟩ := hh.2 3 _ h3
  obtain ⟨d4, e4, c4⟩ := hh.2 4 _ h4
  obtain ⟨d5, e5, c5⟩ := hh.2 5 _ h5
  obtain ⟨d6, e6, c6⟩ := hh.2 6 _ h6
  obtain ⟨T, f2, l2⟩ := sx_row rfl c2
  obtain ⟨C, f3, l3⟩ := sx_row rfl c3
  obtain ⟨G, f4, l4⟩ := sx_row rfl c4
  obtain ⟨P, f5, l5⟩ := sx_row rfl c5
  obtain ⟨B, f6, l6⟩ := sx_row rfl c6
  obtain ⟨fs0, f0, s0⟩ := c0
  obtain ⟨fs1, f1, s1⟩ := c1
  subst f0 f1 f2 f3 f4 f5 f6
  obtain ⟨t0, rfl⟩ := l_cons e0
  obtain ⟨t1, rfl⟩ := l_cons (show t0[0]? = _ from e1)
  obtain ⟨t2, rfl⟩ := l_cons (show t1[0]? = _ from e2)
  obtain ⟨t3, rfl⟩ := l_cons (show t2[0]? = _ from e3)
  obtain ⟨t4, rfl⟩ := l_cons (show t3[0]? = _ from e4)
  obtain ⟨t5, rfl⟩ := l_cons (show t4[0]? = _ from e5)
  obtain ⟨t6, rfl⟩ := l_cons (show t5[0]? = _ from e6)
  match fs0, s0, fs1, s1 with
  | a0 :: cs, ⟨⟨k0, m0, r0⟩, _⟩, [b0, b1, b2, b3, b4, b5, b6, b7, b8, b9], ⟨⟨k1, m1, q0⟩, ⟨x1, q1, _, _⟩, ⟨x2, q2, _, _⟩, ⟨x3, q3, _, _⟩, ⟨x4, q4, _, _⟩, ⟨x5, q5, _, _⟩, ⟨k6, m6, q6⟩, ⟨k7, m7, q7⟩, ⟨k8, m8, q8⟩, ⟨k9, m9, q9⟩, _⟩ =>
    rw [List.mem_singleton] at m0 m1 m6 m7 m8 m9
    subst m0 m1 m6 m7 m8 m9 r0 q0 q1 q2 q3 q4 q5 q6 q7 q8 q9
    refine ⟨cs, T, x1.toInt, x2.toInt, x3.toInt, x4.toInt, x5.toInt, C, G, P, B, t6, ?_, ?_, l2, l3, l4, l5, l6, rfl, rfl⟩
    · unfold cz_t
      simp only [fI, Int32.ofInt_toInt]
      rfl
    · simp only [List.length_cons] at hl
      omega
theorem cz_view {h : List ik_E} (hC : cc_CI h) (hl : h.length = 94) : ∃ (cs : List Value) (T : List Int) (n cur fl fb pl : Int) (C G P B : List Int) (tl : List ik_E), h = .inr (9, .ref 1 :: cs) :: cz_t T n cur fl fb pl C G P B tl ∧ tl.length = 87 ∧ T.length = 500 ∧ C.length = 12 ∧ G.length = 48 ∧ P.length = 48 ∧ B.length = 48 ∧ sx_lk [] [] h (1, 1, 1) = some n ∧ sx_lk [] [] h (1, 1, 4) = some fb := by
  rcases hC with q | q
  · exact cz_cells rfl rfl rfl rfl rfl rfl rfl q.1 hl
  · exact cz_cells rfl rfl rfl rfl rfl rfl rfl q.1 hl
theorem rz_view {h : List ik_E} (hI : rc_RI h) (hl : h.length = 94) : ∃ (pre tl : List ik_E) (w : Nat → Value) (wt : List Value) (c : Nat → ik_E) (T : List Int) (n fp a0 sd we nu na rp : Int) (M R O A : List Int), h = pre ++ rz_t w wt c tl T n fp a0 sd we nu na rp M R O A ∧ pre.length = 66 ∧ tl.length = 17 ∧ T.length = 500 ∧ M.length = 12 ∧ R.length = 48 ∧ O.length = 48 ∧ A.length = 48 ∧ sx_lk [] [] h (1, 66, 10) = some n ∧ sx_lk [] [] h (1, 66, 11) = some fp := by
  have hh := rc_gen hI
  obtain ⟨d0, e0, c0⟩ := hh.2 66 (.inl (10, rc_f)) rfl
  obtain ⟨d1, e1, _⟩ := hh.2 67 rc_67 rfl
  obtain ⟨d2, e2, _⟩ := hh.2 68 rc_68 rfl
  obtain ⟨d3, e3, _⟩ := hh.2 69 rc_69 rfl
  obtain ⟨d4, e4, _⟩ := hh.2 70 rc_70 rfl
  obtain ⟨d5, e5, _⟩ := hh.2 71 rc_71 rfl
  obtain ⟨d6, e6, c6⟩ := hh.2 72 rc_72 rfl
  obtain ⟨d7, e7, c7⟩ := hh.2 73 rc_73 rfl
  obtain ⟨d8, e8, c8⟩ := hh.2 74 rc_74 rfl
  obtain ⟨d9, e9, c9⟩ := hh.2 75 rc_75 rfl
  obtain ⟨d10, e10, c10⟩ := hh.2 76 rc_76 rfl
  obtain ⟨T, f6, l6⟩ := sx_row rfl c6
  obtain ⟨M, f7, l7⟩ := sx_rwr c7
  obtain ⟨R, f8, l8⟩ := sx_rwr c8
  obtain ⟨O, f9, l9⟩ := sx_rwr c9
  obtain ⟨A, f10, l10⟩ := sx_row rfl c10
  obtain ⟨fs, f0, s0⟩ := c0
  subst f0 f6 f7 f8 f9 f10
  have hpre : (h.take 66).length = 66 := by rw [List.length_take]; omega
  have hd : ∀ k, (h.drop 66)[k]? = h[66 + k]? := fun k => List.getElem?_drop
  have hdl : (h.drop 66).length = 28 := by rw [List.length_drop]; omega
  have hta : h.take 66 ++ h.drop 66 = h := List.take_append_drop 66 h
  have g0 : (h.drop 66)[0]? = _ := (hd 0).trans e0
  have g1 : (h.drop 66)[1]? = _ := (hd 1).trans e1
  have g2 : (h.drop 66)[2]? = _ := (hd 2).trans e2
  have g3 : (h.drop 66)[3]? = _ := (hd 3).trans e3
  have g4 : (h.drop 66)[4]? = _ := (hd 4).trans e4
  have g5 : (h.drop 66)[5]? = _ := (hd 5).trans e5
  have g6 : (h.drop 66)[6]? = _ := (hd 6).trans e6
  have g7 : (h.drop 66)[7]? = _ := (hd 7).trans e7
  have g8 : (h.drop 66)[8]? = _ := (hd 8).trans e8
  have g9 : (h.drop 66)[9]? = _ := (hd 9).trans e9
  have g10 : (h.drop 66)[10]? = _ := (hd 10).trans e10
  clear e1 e2 e3 e4 e5 e6 e7 e8 e9 e10 hd
  generalize h.drop 66 = t at *
  obtain ⟨t0, rfl⟩ := l_cons g0
  obtain ⟨t1, rfl⟩ := l_cons (show t0[0]? = _ from g1)
  obtain ⟨t2, rfl⟩ := l_cons (show t1[0]? = _ from g2)
  obtain ⟨t3, rfl⟩ := l_cons (show t2[0]? = _ from g3)
  obtain ⟨t4, rfl⟩ := l_cons (show t3[0]? = _ from g4)
  obtain ⟨t5, rfl⟩ := l_cons (show t4[0]? = _ from g5)
  obtain ⟨t6, rfl⟩ := l_cons (show t5[0]? = _ from g6)
  obtain ⟨t7, rfl⟩ := l_cons (show t6[0]? = _ from g7)
  obtain ⟨t8, rfl⟩ := l_cons (show t7[0]? = _ from g8)
  obtain ⟨t9, rfl⟩ := l_cons (show t8[0]? = _ from g9)
  obtain ⟨t10, rfl⟩ := l_cons (show t9[0]? = _ from g10)
  match fs, s0 with
  | b0 :: b1 :: b2 :: b3 :: b4 :: b5 :: b6 :: b7 :: b8 :: b9 :: b10 :: b11 :: b12 :: b13 :: b14 :: b15 :: b16 :: b17 :: b18 :: b19 :: b20 :: b21 :: wt, ⟨_, _, _, _, _, _, _, _, _, ⟨k9, m9, q9⟩, ⟨x10, q10, _, _⟩, ⟨x11, q11, _, _⟩, ⟨x12, q12, _, _⟩, ⟨x13, q13, _, _⟩, ⟨x14, q14, _, _⟩, ⟨x15, q15, _, _⟩, ⟨x16, q16, _, _⟩, ⟨x17, q17, _, _⟩, ⟨k18, m18, q18⟩, ⟨k19, m19, q19⟩, ⟨k20, m20, q20⟩, ⟨k21, m21, q21⟩, _⟩ =>
    rw [List.mem_singleton] at m9 m18 m19 m20 m21
    subst m9 m18 m19 m20 m21 q9 q10 q11 q12 q13 q14 q15 q16 q17 q18 q19 q20 q21
    refine ⟨h.take 66, t10, fun k => [b0, b1, b2, b3, b4, b5, b6, b7, b8].getD k .null, wt, fun k => [d1, d2, d3, d4, d5].getD k d1, T, x10.toInt, x11.toInt, x12.toInt, x13.toInt, x14.toInt, x15.toInt, x16.toInt, x17.toInt, M, R, O, A, ?_, hpre, ?_, l6, l7, l8, l9, l10, ?_, ?_⟩
    · unfold rz_t
      simp only [fI, fJ, Int32.ofInt_toInt, Int64.ofInt_toInt]
      exact hta.symm
    · simp only [List.length_cons] at hdl
      omega
    · simp only [sx_lk, e0]
      rfl
    · simp only [sx_lk, e0]
      rfl
end
