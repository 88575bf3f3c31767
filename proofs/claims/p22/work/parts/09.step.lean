/-! ONE INSTRUCTION: if the abstract machine goes on, so does the machine -/
set_option maxHeartbeats 8000000 in
set_option maxRecDepth 100000 in
theorem ik_step_ok {p : Program} {l : Launch} {e : Env} {R : Room} {s : State} {m : MethodId} {args : Array Value} {below : List Frame} {meth : Method} {c : Code} {Q : State → Prop} {D : va_G} {A : Nat → Prop} {H0 : Heap} {sd : Nat → Option Nat} {mid n0 : Nat} {ad0 : Nat → Nat} {X : Option (Nat × (Nat → Int32))} (C0 : ik_X p s m args meth c mid) (hA : ∀ q, H0.size ≤ q → A q) (hX : ∀ (L : Nat) (xs : Nat → Int32), X = some (L, xs) → ∃ b, sd 0 = some b ∧ va_X b L xs s H0 ∧ b < H0.size ∧ ¬ A b) (hH0 : H0 = s.heap) (hO : ik_O sd A s s.heap)
    {i : Instr} {pc : Nat} {loc : ik_L} {st : List Value} {h : List ik_E} {cl sl : Nat} {z : ik_St} (hd : decode (ik_by mid) pc = .ok (i, ik_len i pc)) (hs : ik_step X mid i pc loc st h cl sl = some z) (hn0 : n0 ≤ h.length) (hcl : z.2.2.2.2.1 ≤ R.cells) (hsl : z.2.2.2.2.2 ≤ R.slots) (k : ik_ok p l e R s m args below meth c Q D A H0 sd mid n0 ad0 z) : ik_ok p l e R s m args below meth c Q D A H0 sd mid n0 ad0 (pc, loc, st, h, cl, sl) := by
  obtain ⟨hx, hb, hml, hown, hts, hin, hmid⟩ := C0
  intro ad ct H locs ls hn hK hP hD hS hl
  dsimp only at hK hP hD hl ⊢
  cases i with
  | iconst a =>
    cases hs
    unfold ik_ok at k
    dsimp only at k hcl hsl
    exact lv_iconst hx hb hd rfl (k ad ct H locs ls hn hK hP hD hS hl)
  | bipush a =>
    cases hs
    unfold ik_ok at k
    dsimp only at k hcl hsl
    exact lv_bipush hx hb hd rfl (k ad ct H locs ls hn hK hP hD hS hl)
  | sipush a =>
    cases hs
    unfold ik_ok at k
    dsimp only at k hcl hsl
    exact lv_sipush hx hb hd rfl (k ad ct H locs ls hn hK hP hD hS hl)
  | lconst a =>
    cases hs
    unfold ik_ok at k
    dsimp only at k hcl hsl
    exact lv_lconst hx hb hd rfl (k ad ct H locs ls hn hK hP hD hS hl)
  | ldc a =>
    simp only [ik_step, ik_bo] at hs
    split at hs
    · rename_i v q hq
      cases hs
      unfold ik_ok at k
      dsimp only at k hcl hsl
      exact lv_ldc hx hb hown (hts _ (ik_ci_ok hmid hq)) hd (k ad ct H locs ls hn hK hP hD hS hl)
    · split at hs
      · rename_i i q hst
        split at hs
        · rename_i hi3
          cases hs
          unfold ik_ok at k
          dsimp only at k hcl hsl
          subst hH0
          obtain ⟨o0, adK, adV, o1, o2, o3, o4, o5⟩ := hO
          obtain ⟨tx, htx⟩ := ik_st_ok hmid hst
          have kk := (k ad ct H locs ls hn hK hP hD hS hl)
          rw [List.map_cons, show ik_v ad sd (.retAddr (2 * i + 1)) = .ref (adK i) from by show va_rf (sd (2 * i + 1)) = _; rw [(o1 i hi3).1]; rfl] at kk
          have hq5 := o5 i (ik_own mid, a, tx) htx
          exact va_ldcS hx hb hown hq5 hd kk
        · cases hs
      · cases hs
  | getstatic a =>
    simp only [ik_step] at hs
    split at hs
    · rename_i q hgs
      cases hs
      unfold ik_ok at k
      dsimp only at k hcl hsl
      subst hH0
      obtain ⟨o0, adK, adV, o1, o2, o3, o4, o5⟩ := hO
      exact va_gets hx hb o3 hS hown (hts _ ((ik_gs_ok hmid hgs).1 rfl)) (fun _ h9 => h9) hd (k ad ct H locs ls hn hK hP hD hS hl)
    · rename_i q hgs
      cases hs
      unfold ik_ok at k
      dsimp only at k hcl hsl
      subst hH0
      obtain ⟨o0, adK, adV, o1, o2, o3, o4, o5⟩ := hO
      exact va_gets hx hb o4 hS hown (hts _ ((ik_gs_ok hmid hgs).2 rfl)) (fun _ h9 => h9) hd (k ad ct H locs ls hn hK hP hD hS hl)
    · cases hs
  | ldc_w a =>
    simp only [ik_step] at hs
    split at hs
    · rename_i v q hq
      cases hs
      unfold ik_ok at k
      dsimp only at k hcl hsl
      exact lv_ldcw hx hb hown (hts _ (ik_ci_ok hmid hq)) hd (k ad ct H locs ls hn hK hP hD hS hl)
    · cases hs
  | ldc2_w a =>
    simp only [ik_step] at hs
    split at hs
    · rename_i v q hq
      cases hs
      unfold ik_ok at k
      dsimp only at k hcl hsl
      exact lv_ldc2 hx hb hown (hts _ (ik_ck_ok hmid hq)) hd (k ad ct H locs ls hn hK hP hD hS hl)
    · cases hs
  | iload_n a =>
    simp only [ik_step] at hs
    split at hs
    · rename_i x hq
      cases hs
      unfold ik_ok at k
      dsimp only at k hcl hsl
      exact lv_iload_n hx hb hd rfl (hl.get (ik_gI_ok hq)) (k ad ct H locs ls hn hK hP hD hS hl)
    · cases hs
  | iload a =>
    simp only [ik_step] at hs
    split at hs
    · rename_i x hq
      cases hs
      unfold ik_ok at k
      dsimp only at k hcl hsl
      exact lv_iload hx hb hd (hl.get (ik_gI_ok hq)) (k ad ct H locs ls hn hK hP hD hS hl)
    · cases hs
  | lload_n a =>
    simp only [ik_step] at hs
    split at hs
    · rename_i x hq
      cases hs
      unfold ik_ok at k
      dsimp only at k hcl hsl
      exact lv_lload_n hx hb hd rfl (hl.get (ik_gL_ok hq)) (k ad ct H locs ls hn hK hP hD hS hl)
    · cases hs
  | lload a =>
    simp only [ik_step] at hs
    split at hs
    · rename_i x hq
      cases hs
      unfold ik_ok at k
      dsimp only at k hcl hsl
      exact lv_lload hx hb hd (hl.get (ik_gL_ok hq)) (k ad ct H locs ls hn hK hP hD hS hl)
    · cases hs
  | aload_n a =>
    simp only [ik_step] at hs
    split at hs
    · rename_i v hq
      cases hs
      unfold ik_ok at k
      dsimp only at k hcl hsl
      obtain ⟨h1, q, h2⟩ := ik_gA_ok hq ad hO.1
      have kk := (k ad ct H locs ls hn hK hP hD hS hl)
      rw [List.map_cons] at kk
      rw [h2] at kk
      have h3 := hl.get h1
      rw [h2] at h3
      exact lv_aload_n hx hb hd rfl h3 kk
    · cases hs
  | aload a =>
    simp only [ik_step] at hs
    split at hs
    · rename_i v hq
      cases hs
      unfold ik_ok at k
      dsimp only at k hcl hsl
      obtain ⟨h1, q, h2⟩ := ik_gA_ok hq ad hO.1
      have kk := (k ad ct H locs ls hn hK hP hD hS hl)
      rw [List.map_cons] at kk
      rw [h2] at kk
      have h3 := hl.get h1
      rw [h2] at h3
      exact lv_aload hx hb hd h3 kk
    · cases hs
  | istore_n a =>
    simp only [ik_step, ik_bo] at hs
    split at hs
    · split at hs
      · rename_i hlt
        cases hs
        unfold ik_ok at k
        dsimp only at k hcl hsl
        exact lv_istore_n hx hb hd rfl hl hlt rfl (fun ls' h_q => k ad ct H locs ls' hn hK hP hD hS (ik_lh.put1 rfl h_q))
      · cases hs
    · cases hs
  | istore a =>
    simp only [ik_step, ik_bo] at hs
    split at hs
    · split at hs
      · rename_i hlt
        cases hs
        unfold ik_ok at k
        dsimp only at k hcl hsl
        exact lv_istore hx hb hd hl hlt rfl (fun ls' h_q => k ad ct H locs ls' hn hK hP hD hS (ik_lh.put1 rfl h_q))
      · cases hs
    · cases hs
  | lstore_n a =>
    simp only [ik_step, ik_bo] at hs
    split at hs
    · split at hs
      · rename_i hlt
        cases hs
        unfold ik_ok at k
        dsimp only at k hcl hsl
        exact lv_lstore_n hx hb hd rfl hl hlt rfl (fun ls' h_q => k ad ct H locs ls' hn hK hP hD hS (ik_lh.put2 rfl h_q))
      · cases hs
    · cases hs
  | lstore a =>
    simp only [ik_step, ik_bo] at hs
    split at hs
    · split at hs
      · rename_i hlt
        cases hs
        unfold ik_ok at k
        dsimp only at k hcl hsl
        exact lv_lstore hx hb hd hl hlt rfl (fun ls' h_q => k ad ct H locs ls' hn hK hP hD hS (ik_lh.put2 rfl h_q))
      · cases hs
    · cases hs
  | astore_n a =>
    simp only [ik_step, ik_bo] at hs
    split at hs
    · split at hs
      · rename_i hlt
        cases hs
        unfold ik_ok at k
        dsimp only at k hcl hsl
        exact lv_astore_n hx hb hd rfl hl hlt rfl (fun ls' h_q => k ad ct H locs ls' hn hK hP hD hS (ik_lh.put1 rfl h_q))
      · cases hs
    · cases hs
  | astore a =>
    simp only [ik_step, ik_bo] at hs
    split at hs
    · split at hs
      · rename_i hlt
        cases hs
        unfold ik_ok at k
        dsimp only at k hcl hsl
        exact lv_astore hx hb hd hl hlt rfl (fun ls' h_q => k ad ct H locs ls' hn hK hP hD hS (ik_lh.put1 rfl h_q))
      · cases hs
    · cases hs
  | iinc a b =>
    simp only [ik_step, ik_bo] at hs
    split at hs
    · rename_i x hq
      split at hs
      · rename_i hlt
        cases hs
        unfold ik_ok at k
        dsimp only at k hcl hsl
        obtain ⟨j, hj⟩ := List.getElem?_of_mem (ik_pr_mem.mpr ⟨_, ik_gI_ok hq, rfl⟩ : (a, ik_v ad sd (.int x)) ∈ ik_pr ad sd loc)
        exact lv_iinc hx hb hd hl hj rfl hlt rfl (fun ls' h_q => k ad ct H locs ls' hn hK hP hD hS (ik_lh.put1 rfl h_q))
      · cases hs
    · cases hs
  | iadd =>
    simp only [ik_step] at hs
    split at hs
    · cases hs
      exact lv_iadd hx hb hd (k ad ct H locs ls hn hK hP hD hS hl)
    · cases hs
  | isub =>
    simp only [ik_step] at hs
    split at hs
    · cases hs
      exact lv_isub hx hb hd (k ad ct H locs ls hn hK hP hD hS hl)
    · cases hs
  | imul =>
    simp only [ik_step] at hs
    split at hs
    · cases hs
      exact lv_imul hx hb hd (k ad ct H locs ls hn hK hP hD hS hl)
    · cases hs
  | iand =>
    simp only [ik_step] at hs
    split at hs
    · cases hs
      exact lv_iand hx hb hd (k ad ct H locs ls hn hK hP hD hS hl)
    · cases hs
  | ior =>
    simp only [ik_step] at hs
    split at hs
    · cases hs
      exact lv_ior hx hb hd (k ad ct H locs ls hn hK hP hD hS hl)
    · cases hs
  | ixor =>
    simp only [ik_step] at hs
    split at hs
    · cases hs
      exact lv_ixor hx hb hd (k ad ct H locs ls hn hK hP hD hS hl)
    · cases hs
  | ishl =>
    simp only [ik_step] at hs
    split at hs
    · cases hs
      exact lv_ishl hx hb hd (k ad ct H locs ls hn hK hP hD hS hl)
    · cases hs
  | ishr =>
    simp only [ik_step] at hs
    split at hs
    · cases hs
      exact lv_ishr hx hb hd (k ad ct H locs ls hn hK hP hD hS hl)
    · cases hs
  | ladd =>
    simp only [ik_step] at hs
    split at hs
    · cases hs
      exact lv_ladd hx hb hd (k ad ct H locs ls hn hK hP hD hS hl)
    · cases hs
  | lsub =>
    simp only [ik_step] at hs
    split at hs
    · cases hs
      exact lv_lsub hx hb hd (k ad ct H locs ls hn hK hP hD hS hl)
    · cases hs
  | lmul =>
    simp only [ik_step] at hs
    split at hs
    · cases hs
      exact lv_lmul hx hb hd (k ad ct H locs ls hn hK hP hD hS hl)
    · cases hs
  | land =>
    simp only [ik_step] at hs
    split at hs
    · cases hs
      exact lv_land hx hb hd (k ad ct H locs ls hn hK hP hD hS hl)
    · cases hs
  | lor =>
    simp only [ik_step] at hs
    split at hs
    · cases hs
      exact lv_lor hx hb hd (k ad ct H locs ls hn hK hP hD hS hl)
    · cases hs
  | lxor =>
    simp only [ik_step] at hs
    split at hs
    · cases hs
      exact lv_lxor hx hb hd (k ad ct H locs ls hn hK hP hD hS hl)
    · cases hs
  | ineg =>
    simp only [ik_step] at hs
    split at hs
    · cases hs
      exact lv_ineg hx hb hd (k ad ct H locs ls hn hK hP hD hS hl)
    · cases hs
  | lneg =>
    simp only [ik_step] at hs
    split at hs
    · cases hs
      exact lv_lneg hx hb hd (k ad ct H locs ls hn hK hP hD hS hl)
    · cases hs
  | iushr =>
    simp only [ik_step] at hs
    split at hs
    · cases hs
      exact lv_iushr hx hb hd rfl (k ad ct H locs ls hn hK hP hD hS hl)
    · cases hs
  | lshl =>
    simp only [ik_step] at hs
    split at hs
    · cases hs
      exact lv_lshl hx hb hd rfl (k ad ct H locs ls hn hK hP hD hS hl)
    · cases hs
  | lshr =>
    simp only [ik_step] at hs
    split at hs
    · cases hs
      exact lv_lshr hx hb hd rfl (k ad ct H locs ls hn hK hP hD hS hl)
    · cases hs
  | lushr =>
    simp only [ik_step] at hs
    split at hs
    · cases hs
      exact lv_lushr hx hb hd rfl (k ad ct H locs ls hn hK hP hD hS hl)
    · cases hs
  | i2l =>
    simp only [ik_step] at hs
    split at hs
    · cases hs
      exact lv_i2l hx hb hd rfl (k ad ct H locs ls hn hK hP hD hS hl)
    · cases hs
  | l2i =>
    simp only [ik_step] at hs
    split at hs
    · cases hs
      exact lv_l2i hx hb hd rfl (k ad ct H locs ls hn hK hP hD hS hl)
    · cases hs
  | i2b =>
    simp only [ik_step] at hs
    split at hs
    · cases hs
      exact lv_i2b hx hb hd rfl (k ad ct H locs ls hn hK hP hD hS hl)
    · cases hs
  | i2c =>
    simp only [ik_step] at hs
    split at hs
    · cases hs
      exact lv_i2c hx hb hd rfl (k ad ct H locs ls hn hK hP hD hS hl)
    · cases hs
  | lcmp =>
    simp only [ik_step] at hs
    split at hs
    · cases hs
      exact W.lcmp hx hb hd (k ad ct H locs ls hn hK hP hD hS hl)
    · cases hs
  | idiv =>
    simp only [ik_step, ik_bo] at hs
    split at hs
    · split at hs
      · rename_i hne
        cases hs
        unfold ik_ok at k
        dsimp only at k hcl hsl
        exact lv_idiv hx hb hd hne (k ad ct H locs ls hn hK hP hD hS hl)
      · cases hs
    · cases hs
  | irem =>
    simp only [ik_step, ik_bo] at hs
    split at hs
    · split at hs
      · rename_i hne
        cases hs
        unfold ik_ok at k
        dsimp only at k hcl hsl
        exact lv_irem hx hb hd hne (k ad ct H locs ls hn hK hP hD hS hl)
      · cases hs
    · cases hs
  | ldiv =>
    simp only [ik_step, ik_bo] at hs
    split at hs
    · split at hs
      · rename_i hne
        cases hs
        unfold ik_ok at k
        dsimp only at k hcl hsl
        exact lv_ldiv hx hb hd hne (k ad ct H locs ls hn hK hP hD hS hl)
      · cases hs
    · cases hs
  | lrem =>
    simp only [ik_step, ik_bo] at hs
    split at hs
    · split at hs
      · rename_i hne
        cases hs
        unfold ik_ok at k
        dsimp only at k hcl hsl
        exact lv_lrem hx hb hd hne (k ad ct H locs ls hn hK hP hD hS hl)
      · cases hs
    · cases hs
  | dup =>
    simp only [ik_step, ik_bo] at hs
    split at hs
    · split at hs
      · rename_i h1
        cases hs
        unfold ik_ok at k
        dsimp only at k hcl hsl
        exact lv_dup hx hb hd (by rw [ik_v_cat]; exact h1) (k ad ct H locs ls hn hK hP hD hS hl)
      · cases hs
    · cases hs
  | pop =>
    simp only [ik_step, ik_bo] at hs
    split at hs
    · split at hs
      · rename_i h1
        cases hs
        unfold ik_ok at k
        dsimp only at k hcl hsl
        exact lv_pop hx hb hd (by rw [ik_v_cat]; exact h1) (k ad ct H locs ls hn hK hP hD hS hl)
      · cases hs
    · cases hs
  | dup_x1 =>
    simp only [ik_step, ik_bo] at hs
    split at hs
    · split at hs
      · rename_i h1
        cases hs
        unfold ik_ok at k
        dsimp only at k hcl hsl
        exact lv_dup_x1 hx hb hd (by rw [ik_v_cat]; exact h1.1) (by rw [ik_v_cat]; exact h1.2) (k ad ct H locs ls hn hK hP hD hS hl)
      · cases hs
    · cases hs
  | dup_x2 =>
    simp only [ik_step, ik_bo] at hs
    split at hs
    · split at hs
      · rename_i h1
        cases hs
        unfold ik_ok at k
        dsimp only at k hcl hsl
        exact lv_dup_x2 hx hb hd (by rw [ik_v_cat]; exact h1.1) (by rw [ik_v_cat]; exact h1.2.1) (by rw [ik_v_cat]; exact h1.2.2) (k ad ct H locs ls hn hK hP hD hS hl)
      · cases hs
    · cases hs
  | dup2 =>
    simp only [ik_step, ik_bo] at hs
    split at hs
    · split at hs
      · rename_i h1
        cases hs
        unfold ik_ok at k
        dsimp only at k hcl hsl
        exact lv_dup2_2 hx hb hd (by rw [ik_v_cat]; exact h1) (k ad ct H locs ls hn hK hP hD hS hl)
      · split at hs
        · rename_i h1
          cases hs
          unfold ik_ok at k
          dsimp only at k hcl hsl
          exact lv_dup2_11 hx hb hd (by rw [ik_v_cat]; exact h1.1) (by rw [ik_v_cat]; exact h1.2) (k ad ct H locs ls hn hK hP hD hS hl)
        · cases hs
    · split at hs
      · rename_i h1
        cases hs
        unfold ik_ok at k
        dsimp only at k hcl hsl
        exact lv_dup2_2 hx hb hd (by rw [ik_v_cat]; exact h1) (k ad ct H locs ls hn hK hP hD hS hl)
      · cases hs
    · cases hs
  | dup2_x1 =>
    simp only [ik_step, ik_bo] at hs
    split at hs
    · split at hs
      · rename_i h1
        cases hs
        unfold ik_ok at k
        dsimp only at k hcl hsl
        exact lv_dup2_x1_2 hx hb hd (by rw [ik_v_cat]; exact h1.1) (by rw [ik_v_cat]; exact h1.2) (k ad ct H locs ls hn hK hP hD hS hl)
      · cases hs
    · cases hs
  | ifCond cnd off =>
    simp only [ik_step] at hs
    split at hs
    · rename_i ht
      cases cnd with
      | eq =>
        cases hs
        unfold ik_ok at k
        dsimp only at k hcl hsl
        exact lv_if_eq hx hb hd (ik_tg_ok ht) (fun c0 => by have kk := (k ad ct H locs ls hn hK hP hD hS hl); rw [if_pos c0] at kk; exact kk) (fun c0 => by have kk := (k ad ct H locs ls hn hK hP hD hS hl); rw [if_neg c0] at kk; exact kk)
      | ne =>
        cases hs
        unfold ik_ok at k
        dsimp only at k hcl hsl
        exact lv_if_ne hx hb hd (ik_tg_ok ht) (fun c0 => by have kk := (k ad ct H locs ls hn hK hP hD hS hl); rw [if_neg c0] at kk; exact kk) (fun c0 => by have kk := (k ad ct H locs ls hn hK hP hD hS hl); rw [if_pos c0] at kk; exact kk)
      | lt =>
        cases hs
        unfold ik_ok at k
        dsimp only at k hcl hsl
        exact lv_if_lt hx hb hd (ik_tg_ok ht) (fun c0 => by have kk := (k ad ct H locs ls hn hK hP hD hS hl); rw [if_pos c0] at kk; exact kk) (fun c0 => by have kk := (k ad ct H locs ls hn hK hP hD hS hl); rw [if_neg c0] at kk; exact kk)
      | ge =>
        cases hs
        unfold ik_ok at k
        dsimp only at k hcl hsl
        exact lv_if_ge hx hb hd (ik_tg_ok ht) (fun c0 => by have kk := (k ad ct H locs ls hn hK hP hD hS hl); rw [if_pos c0] at kk; exact kk) (fun c0 => by have kk := (k ad ct H locs ls hn hK hP hD hS hl); rw [if_neg c0] at kk; exact kk)
      | gt =>
        cases hs
        unfold ik_ok at k
        dsimp only at k hcl hsl
        exact lv_if_gt hx hb hd (ik_tg_ok ht) (fun c0 => by have kk := (k ad ct H locs ls hn hK hP hD hS hl); rw [if_pos c0] at kk; exact kk) (fun c0 => by have kk := (k ad ct H locs ls hn hK hP hD hS hl); rw [if_neg c0] at kk; exact kk)
      | le =>
        cases hs
        unfold ik_ok at k
        dsimp only at k hcl hsl
        exact lv_if_le hx hb hd (ik_tg_ok ht) (fun c0 => by have kk := (k ad ct H locs ls hn hK hP hD hS hl); rw [if_pos c0] at kk; exact kk) (fun c0 => by have kk := (k ad ct H locs ls hn hK hP hD hS hl); rw [if_neg c0] at kk; exact kk)
    · cases hs
  | if_icmp cnd off =>
    simp only [ik_step] at hs
    split at hs
    · rename_i ht
      cases cnd with
      | eq =>
        cases hs
        unfold ik_ok at k
        dsimp only at k hcl hsl
        exact lv_icmp_eq hx hb hd (ik_tg_ok ht) (fun c0 => by have kk := (k ad ct H locs ls hn hK hP hD hS hl); rw [if_pos c0] at kk; exact kk) (fun c0 => by have kk := (k ad ct H locs ls hn hK hP hD hS hl); rw [if_neg c0] at kk; exact kk)
      | ne =>
        cases hs
        unfold ik_ok at k
        dsimp only at k hcl hsl
        exact lv_icmp_ne hx hb hd (ik_tg_ok ht) (fun c0 => by have kk := (k ad ct H locs ls hn hK hP hD hS hl); rw [if_neg c0] at kk; exact kk) (fun c0 => by have kk := (k ad ct H locs ls hn hK hP hD hS hl); rw [if_pos c0] at kk; exact kk)
      | lt =>
        cases hs
        unfold ik_ok at k
        dsimp only at k hcl hsl
        exact lv_icmp_lt hx hb hd (ik_tg_ok ht) (fun c0 => by have kk := (k ad ct H locs ls hn hK hP hD hS hl); rw [if_pos c0] at kk; exact kk) (fun c0 => by have kk := (k ad ct H locs ls hn hK hP hD hS hl); rw [if_neg c0] at kk; exact kk)
      | ge =>
        cases hs
        unfold ik_ok at k
        dsimp only at k hcl hsl
        exact lv_icmp_ge hx hb hd (ik_tg_ok ht) (fun c0 => by have kk := (k ad ct H locs ls hn hK hP hD hS hl); rw [if_pos c0] at kk; exact kk) (fun c0 => by have kk := (k ad ct H locs ls hn hK hP hD hS hl); rw [if_neg c0] at kk; exact kk)
      | gt =>
        cases hs
        unfold ik_ok at k
        dsimp only at k hcl hsl
        exact lv_icmp_gt hx hb hd (ik_tg_ok ht) (fun c0 => by have kk := (k ad ct H locs ls hn hK hP hD hS hl); rw [if_pos c0] at kk; exact kk) (fun c0 => by have kk := (k ad ct H locs ls hn hK hP hD hS hl); rw [if_neg c0] at kk; exact kk)
      | le =>
        cases hs
        unfold ik_ok at k
        dsimp only at k hcl hsl
        exact lv_icmp_le hx hb hd (ik_tg_ok ht) (fun c0 => by have kk := (k ad ct H locs ls hn hK hP hD hS hl); rw [if_pos c0] at kk; exact kk) (fun c0 => by have kk := (k ad ct H locs ls hn hK hP hD hS hl); rw [if_neg c0] at kk; exact kk)
    · cases hs
  | goto off =>
    simp only [ik_step] at hs
    split at hs
    · rename_i t ht
      cases hs
      unfold ik_ok at k
      dsimp only at k hcl hsl
      exact lv_goto hx hb hd (ik_tg_ok ht) (k ad ct H locs ls hn hK hP hD hS hl)
    · cases hs
  | tableswitch d lo hi offs =>
    simp only [ik_step] at hs
    split at hs
    · split at hs
      · rename_i hc
        split at hs
        · rename_i t ht
          cases hs
          unfold ik_ok at k
          dsimp only at k hcl hsl
          exact lv_tableOut hx hb hd hc (ik_tg_ok ht) (k ad ct H locs ls hn hK hP hD hS hl)
        · cases hs
      · rename_i hc
        split at hs
        · rename_i off ho
          split at hs
          · rename_i t ht
            cases hs
            unfold ik_ok at k
            dsimp only at k hcl hsl
            exact lv_tableIn hx hb hd (fun q => hc (Or.inl q)) (fun q => hc (Or.inr q)) (by rw [← ho, Array.getElem?_toList]) (ik_tg_ok ht) (k ad ct H locs ls hn hK hP hD hS hl)
          · cases hs
        · cases hs
    · cases hs
  | getfield x =>
    simp only [ik_step, ik_bo] at hs
    split at hs
    · rename_i a r ci kf qq hf
      obtain ⟨q, ne⟩ := qq
      split at hs
      · rename_i cj fs hc
        split at hs
        · rename_i e1
          subst e1
          split at hs
          · rename_i v hv
            cases hs
            unfold ik_ok at k
            dsimp only at k hcl hsl
            obtain ⟨C, T, N, h1, h2, h3, h4, h5⟩ := ik_fl_ok hmid hf
            have he := ik_w_at (ad := ad) (sd := sd) (ct := ct) hc
            have hv2 : (fs.map (ik_v ad sd))[kf]? = some (ik_v ad sd v) := by rw [List.getElem?_map, hv]; rfl
            rcases h5 with h5 | h5
            · exact va_get (D := D) (C := C) (T := T) (N := N) hx hb hts (ik_cls_ok h1).1 hown hK.1 hP a he h1 kf h2 (hts _ h5) (fun _ h9 => by rw [h3] at h9; exact h9) hv2 hd (k ad ct H locs ls hn hK hP hD hS hl)
            · exact va_getN (D := D) (C := C) (T := T) (N := N) hx hb hts (ik_cls_ok h1).1 hown hK.1 hP a he h1 kf h2 (va_Nw.use rfl (hK.2.2.1 _ h5)) (fun _ h9 => by rw [h3] at h9; exact h9) hv2 hd (k ad ct H locs ls hn hK hP hD hS hl)
          · cases hs
        · cases hs
      · cases hs
    · rename_i q r hf
      split at hs
      · rename_i hq6
        split at hs
        · rename_i q9 hsf
          cases hs
          unfold ik_ok at k
          dsimp only at k hcl hsl
          subst hH0
          obtain ⟨o0, adK, adV, o1, o2, o3, o4, o5⟩ := hO
          have hi3 : q / 2 < 3 := by omega
          have e1 : q = 2 * (q / 2) := by omega
          obtain ⟨w1, w2, w3, w4⟩ := o2.1 (q / 2) hi3
          have kk := (k ad ct H locs ls hn hK hP hD hS hl)
          rw [List.map_cons, show ik_v ad sd (.retAddr (q + 2)) = .ref (adV (q / 2)) from by show va_rf (sd (q + 2)) = _; rw [show q + 2 = 2 * (q / 2) + 2 by omega, (o1 _ hi3).2]; rfl] at kk
          rw [List.map_cons, show ik_v ad sd (.retAddr (q + 1)) = .ref (adK (q / 2)) from by show va_rf (sd (q + 1)) = _; rw [show q + 1 = 2 * (q / 2) + 1 by omega, (o1 _ hi3).1]; rfl]
          exact vk_getf hx hb w3 hS hown (hts _ ((ik_sf_ok hmid hsf).1 rfl)) (fun _ h9 => h9) hd kk
        · rename_i q9 hsf
          cases hs
          unfold ik_ok at k
          dsimp only at k hcl hsl
          subst hH0
          obtain ⟨o0, adK, adV, o1, o2, o3, o4, o5⟩ := hO
          have hi3 : q / 2 < 3 := by omega
          obtain ⟨w1, w2, w3, w4⟩ := o2.1 (q / 2) hi3
          rw [List.map_cons, show ik_v ad sd (.retAddr (q + 1)) = .ref (adK (q / 2)) from by show va_rf (sd (q + 1)) = _; rw [show q + 1 = 2 * (q / 2) + 1 by omega, (o1 _ hi3).1]; rfl]
          have hq1 := hts _ ((ik_sf_ok hmid hsf).2 rfl)
          have kk := (k ad ct H locs ls hn hK hP hD hS hl)
          first
          | rw [List.map_cons, show ik_v ad sd (.int 0) = .int 0 from rfl] at kk
          | skip
          exact vk_getf hx hb w2 hS hown hq1 (fun _ h9 => h9) hd kk
        · cases hs
      · cases hs
    · cases hs
  | putfield x =>
    simp only [ik_step, ik_bo] at hs
    split at hs
    · rename_i v a r ci kf qq hf
      obtain ⟨q, ne⟩ := qq
      split at hs
      · rename_i cj fs hc
        split at hs
        · rename_i hcond
          obtain ⟨e1, hkl, hft, hfin⟩ := hcond
          subst e1
          cases hs
          unfold ik_ok at k
          dsimp only at k hcl hsl
          obtain ⟨C, T, N, h1, h2, h3, h4, h5⟩ := ik_fl_ok hmid hf
          obtain ⟨hty, hnm⟩ := ik_names h1
          have he := ik_w_at (ad := ad) (sd := sd) (ct := ct) hc
          obtain ⟨hn1, hf1⟩ := ik_fit_ok hft ad sd
          have kk : ∀ (H1 : Heap) (locs1 : List Loc), va_P D vwCl ((ik_w ad sd ct h).set a (ad a, .inr (cj, (fs.map (ik_v ad sd)).set kf (ik_v ad sd v)))) H1 → va_D A ((ik_w ad sd ct h).set a (ad a, .inr (cj, (fs.map (ik_v ad sd)).set kf (ik_v ad sd v)))) → va_S A H0 H1 locs1 → W p l e R s m args below meth c H1 locs1 cl sl Q (F0 m (pc + 3) ls (r.map (ik_v ad sd))) := by
            intro H1 locs1 hP1 hD1 hS1
            have e2 : (ad a, (.inr (cj, (fs.map (ik_v ad sd)).set kf (ik_v ad sd v)) : va_E)) = ik_c ad sd ct a (.inr (cj, fs.set kf v)) := by
              unfold ik_c
              dsimp only
              rw [List.map_set]
            rw [e2, ik_w_set] at hP1 hD1
            exact k ad ct H1 locs1 ls hn (hK.setR _ _) hP1 hD1 hS1 hl
          have hlen : kf < (fs.map (ik_v ad sd)).length := by rw [List.length_map]; exact hkl
          cases hfi : ik_fi cj kf with
          | false =>
            rcases h5 with h5 | h5
            · exact va_put (D := D) (C := C) (T := T) (N := N) hx hb hts (ik_cls_ok h1).1 _ hty hnm hown hK.1 hP hD hS a he h1 kf h2 (hts _ h5) (fun _ h9 => by rw [h3] at h9; exact h9) (h4.trans hfi) (hty kf h2) hn1 hf1 hlen hd kk
            · exact va_putN (D := D) (C := C) (T := T) (N := N) hx hb hts (ik_cls_ok h1).1 _ hty hnm hown hK.1 hP hD hS a he h1 kf h2 (va_Nw.use rfl (hK.2.2.1 _ h5)) (fun _ h9 => by rw [h3] at h9; exact h9) (h4.trans hfi) (hty kf h2) hn1 hf1 hlen hd kk
          | true =>
            have hi : ik_in mid = cj + 1 := by
              rcases hfin with q | q
              · rw [hfi] at q; cases q
              · exact q
            have hdecl : (T kf).1 = ik_own mid := h3.trans (ik_in_own hmid hi h1)
            rcases h5 with h5 | h5
            · exact va_putF (D := D) (C := C) (T := T) (N := N) hx hb hts (ik_cls_ok h1).1 _ hty hnm hown hK.1 hP hD hS a he h1 kf h2 (hts _ h5) (fun _ h9 => by rw [h3] at h9; exact h9) (h4.trans hfi) (hin (by omega)) hdecl (hty kf h2) hn1 hf1 hlen hd kk
            · exact absurd h5 (ik_noN hmid hi h1)
        · cases hs
      · cases hs
    · cases hs
  | arraylength =>
    simp only [ik_step, ik_bo] at hs
    split at hs
    · rename_i a r
      split at hs
      · rename_i ty vs hc
        cases hs
        unfold ik_ok at k
        dsimp only at k hcl hsl
        exact va_alen hx hb (hK.2.1 a ty vs hc) hP a 0 (ik_w_at hc) rfl rfl hd (k ad ct H locs ls hn hK hP hD hS hl)
      · cases hs
    · split at hs
      · rename_i L xs
        cases hs
        unfold ik_ok at k
        dsimp only at k hcl hsl
        obtain ⟨b, e0, q1, q2, q3⟩ := hX L xs rfl
        rw [List.map_cons, show ik_v ad sd (.retAddr 0) = .ref b from by show va_rf (sd 0) = _; rw [e0]; rfl]
        exact va_slen hx hb q1 q2 q3 hS hd (k ad ct H locs ls hn hK hP hD hS hl)
      · cases hs
    · rename_i q r
      split at hs
      · rename_i hq6
        cases hs
        unfold ik_ok at k
        dsimp only at k hcl hsl
        subst hH0
        obtain ⟨o0, adK, adV, o1, o2, o3, o4, o5⟩ := hO
        have hi3 : q / 2 < 3 := by omega
        obtain ⟨w1, w2, w3, w4⟩ := o2.1 (q / 2) hi3
        rw [List.map_cons, show ik_v ad sd (.retAddr (q + 1)) = .ref (adV (q / 2)) from by show va_rf (sd (q + 1)) = _; rw [show q + 1 = 2 * (q / 2) + 2 by omega, (o1 _ hi3).2]; rfl]
        exact va_tlen hx hb w4 hS (by rw [ik_sb_len hi3]) hd (k ad ct H locs ls hn hK hP hD hS hl)
      · cases hs
    · cases hs
  | iaload =>
    simp only [ik_step, ik_bo] at hs
    split at hs
    · rename_i ix a r
      split at hs
      · rename_i vs hc
        split at hs
        · cases hs
        · rename_i h0
          split at hs
          · rename_i x hv
            cases hs
            unfold ik_ok at k
            dsimp only at k hcl hsl
            have hlt : ix.toNatClampNeg < vs.length := (List.getElem?_eq_some_iff.mp hv).1
            have kk := (k ad ct H locs ls hn hK hP hD hS hl)
            have e9 : vs.getD ix.toNatClampNeg .null = .int x := by rw [List.getD_eq_getElem?_getD, hv]; rfl
            refine va_iald hx hb (hK.2.1 a _ vs hc) hP a 0 (ik_w_at hc) rfl (i := ix) (fun q => q.elim h0 (fun q => absurd hlt (Nat.not_lt.mpr q))) hd ?_
            try dsimp only
            rw [e9]
            exact kk
          · cases hs
      · cases hs
    · rename_i ix r
      split at hs
      · rename_i L xs
        split at hs
        · rename_i h0
          cases hs
          unfold ik_ok at k
          dsimp only at k hcl hsl
          obtain ⟨b, e0, q1, q2, q3⟩ := hX L xs rfl
          rw [List.map_cons, List.map_cons, show ik_v ad sd (.retAddr 0) = .ref b from by show va_rf (sd 0) = _; rw [e0]; rfl]
          exact va_sld hx hb q1 q2 q3 hS h0 hd (k ad ct H locs ls hn hK hP hD hS hl)
        · cases hs
      · cases hs
    · cases hs
  | baload =>
    simp only [ik_step, ik_bo] at hs
    split at hs
    · rename_i ix a r
      split at hs
      · rename_i vs hc
        split at hs
        · cases hs
        · rename_i h0
          split at hs
          · rename_i x hv
            cases hs
            unfold ik_ok at k
            dsimp only at k hcl hsl
            have hlt : ix.toNatClampNeg < vs.length := (List.getElem?_eq_some_iff.mp hv).1
            have kk := (k ad ct H locs ls hn hK hP hD hS hl)
            have e9 : vs.getD ix.toNatClampNeg .null = .int x := by rw [List.getD_eq_getElem?_getD, hv]; rfl
            refine va_bald hx hb (hK.2.1 a _ vs hc) hP a 0 (ik_w_at hc) rfl (i := ix) (fun q => q.elim h0 (fun q => absurd hlt (Nat.not_lt.mpr q))) hd ?_
            try dsimp only
            rw [e9]
            exact kk
          · cases hs
      · rename_i vs hc
        split at hs
        · cases hs
        · rename_i h0
          split at hs
          · rename_i x hv
            cases hs
            unfold ik_ok at k
            dsimp only at k hcl hsl
            have hlt : ix.toNatClampNeg < vs.length := (List.getElem?_eq_some_iff.mp hv).1
            have kk := (k ad ct H locs ls hn hK hP hD hS hl)
            have e9 : vs.getD ix.toNatClampNeg .null = .int x := by rw [List.getD_eq_getElem?_getD, hv]; rfl
            refine va_zald hx hb (hK.2.1 a _ vs hc) hP a 0 (ik_w_at hc) rfl (i := ix) (fun q => q.elim h0 (fun q => absurd hlt (Nat.not_lt.mpr q))) hd ?_
            try dsimp only
            rw [e9]
            exact kk
          · cases hs
      · cases hs
    · rename_i ix q r
      split at hs
      · cases hs
      · rename_i h0
        split at hs
        · rename_i x hv
          split at hs
          · rename_i hq6
            cases hs
            unfold ik_ok at k
            dsimp only at k hcl hsl
            subst hH0
            obtain ⟨o0, adK, adV, o1, o2, o3, o4, o5⟩ := hO
            have hi3 : q / 2 < 3 := by omega
            obtain ⟨w1, w2, w3, w4⟩ := o2.1 (q / 2) hi3
            have hlt : ix.toNatClampNeg < (ik_sb (q / 2)).length := (List.getElem?_eq_some_iff.mp hv).1
            rw [List.map_cons, List.map_cons, show ik_v ad sd (.retAddr (q + 1)) = .ref (adV (q / 2)) from by show va_rf (sd (q + 1)) = _; rw [show q + 1 = 2 * (q / 2) + 2 by omega, (o1 _ hi3).2]; rfl]
            exact va_tb hx hb w4 hS (i := ix) (fun z => z.elim h0 (fun z => absurd hlt (by rw [ik_sb_len hi3] at z; omega))) (v := .int x) (by show Value.int ((ik_sb (q / 2)).getD ix.toNatClampNeg 0) = _; rw [List.getD_eq_getElem?_getD, hv]; rfl) hd (k ad ct H locs ls hn hK hP hD hS hl)
          · cases hs
        · cases hs
    · cases hs
  | laload =>
    simp only [ik_step] at hs
    split at hs
    · rename_i ix a r
      split at hs
      · rename_i vs hc
        split at hs
        · cases hs
        · rename_i h0
          split at hs
          · rename_i x hv
            cases hs
            unfold ik_ok at k
            dsimp only at k hcl hsl
            have hlt : ix.toNatClampNeg < vs.length := (List.getElem?_eq_some_iff.mp hv).1
            have kk := (k ad ct H locs ls hn hK hP hD hS hl)
            have e9 : vs.getD ix.toNatClampNeg .null = .long x := by rw [List.getD_eq_getElem?_getD, hv]; rfl
            refine va_lald hx hb (hK.2.1 a _ vs hc) hP a 0 (ik_w_at hc) rfl (i := ix) (fun q => q.elim h0 (fun q => absurd hlt (Nat.not_lt.mpr q))) hd ?_
            try dsimp only
            rw [e9]
            exact kk
          · cases hs
      · cases hs
    · cases hs
  | aaload =>
    simp only [ik_step] at hs
    split at hs
    · rename_i ix a r
      split at hs
      · rename_i C vs hc
        split at hs
        · cases hs
        · rename_i h0
          split at hs
          · rename_i x hv
            cases hs
            unfold ik_ok at k
            dsimp only at k hcl hsl
            have hlt : ix.toNatClampNeg < vs.length := (List.getElem?_eq_some_iff.mp hv).1
            have kk := (k ad ct H locs ls hn hK hP hD hS hl)
            have e9 : vs.getD ix.toNatClampNeg .null = .ref x := by rw [List.getD_eq_getElem?_getD, hv]; rfl
            refine va_aldq hx hb (hK.2.1 a _ vs hc) hP a 0 (C := C) (ik_w_at hc) rfl (i := ix) (fun q => q.elim h0 (fun q => absurd hlt (Nat.not_lt.mpr q))) hd ?_
            try dsimp only
            rw [e9]
            exact kk
          · cases hs
      · cases hs
    · cases hs
  | iastore =>
    simp only [ik_step, ik_bo] at hs
    split at hs
    · rename_i x ix a r
      split at hs
      · rename_i vs hc
        split at hs
        · rename_i h0
          cases hs
          unfold ik_ok at k
          dsimp only at k hcl hsl
          refine va_iast hx hb (hK.2.1 a _ vs hc) hP hD hS a 0 (ik_w_at hc) rfl (i := ix) (fun q => q.elim h0.1 (fun q => absurd h0.2 (Nat.not_lt.mpr q))) hd (fun H1 locs1 hP1 hD1 hS1 => ?_)
          try dsimp only at hP1 hD1
          rw [ik_upI h0.2] at hP1 hD1
          have e2 : (ad a, (.inl (ct a, ik_a ad .int (vs.set ix.toNatClampNeg (.int x))) : va_E)) = ik_c ad sd ct a (.inl (.int, vs.set ix.toNatClampNeg (.int x))) := rfl
          have e3 : (ad a, (.inl (ct a, vs.length, .inl (fun j => ik_I ((vs.set ix.toNatClampNeg (.int x)).getD j .null))) : va_E)) = ik_c ad sd ct a (.inl (.int, vs.set ix.toNatClampNeg (.int x))) := by
            rw [← e2]
            unfold ik_a
            rw [List.length_set]
          rw [e3, ik_w_set] at hP1 hD1
          exact k ad ct H1 locs1 ls hn (hK.setL hc _) hP1 hD1 hS1 hl
        · cases hs
      · cases hs
    · cases hs
  | bastore =>
    simp only [ik_step, ik_bo] at hs
    split at hs
    · rename_i x ix a r
      split at hs
      · rename_i vs hc
        split at hs
        · rename_i h0
          cases hs
          unfold ik_ok at k
          dsimp only at k hcl hsl
          refine va_bast hx hb (hK.2.1 a _ vs hc) hP hD hS a 0 (ik_w_at hc) rfl (i := ix) (fun q => q.elim h0.1 (fun q => absurd h0.2 (Nat.not_lt.mpr q))) hd (fun H1 locs1 hP1 hD1 hS1 => ?_)
          try dsimp only at hP1 hD1
          rw [ik_upI h0.2] at hP1 hD1
          have e2 : (ad a, (.inl (ct a, ik_a ad .byte (vs.set ix.toNatClampNeg (.int (vp_nar .byte x)))) : va_E)) = ik_c ad sd ct a (.inl (.byte, vs.set ix.toNatClampNeg (.int (vp_nar .byte x)))) := rfl
          have e3 : (ad a, (.inl (ct a, vs.length, .inl (fun j => ik_I ((vs.set ix.toNatClampNeg (.int (vp_nar .byte x))).getD j .null))) : va_E)) = ik_c ad sd ct a (.inl (.byte, vs.set ix.toNatClampNeg (.int (vp_nar .byte x)))) := by
            rw [← e2]
            unfold ik_a
            rw [List.length_set]
          rw [e3, ik_w_set] at hP1 hD1
          exact k ad ct H1 locs1 ls hn (hK.setL hc _) hP1 hD1 hS1 hl
        · cases hs
      · rename_i vs hc
        split at hs
        · rename_i h0
          cases hs
          unfold ik_ok at k
          dsimp only at k hcl hsl
          refine va_zast hx hb (hK.2.1 a _ vs hc) hP hD hS a 0 (ik_w_at hc) rfl (i := ix) (fun q => q.elim h0.1 (fun q => absurd h0.2 (Nat.not_lt.mpr q))) hd (fun H1 locs1 hP1 hD1 hS1 => ?_)
          try dsimp only at hP1 hD1
          rw [ik_upI h0.2] at hP1 hD1
          have e2 : (ad a, (.inl (ct a, ik_a ad .boolean (vs.set ix.toNatClampNeg (.int (vp_nar .boolean x)))) : va_E)) = ik_c ad sd ct a (.inl (.boolean, vs.set ix.toNatClampNeg (.int (vp_nar .boolean x)))) := rfl
          have e3 : (ad a, (.inl (ct a, vs.length, .inl (fun j => ik_I ((vs.set ix.toNatClampNeg (.int (vp_nar .boolean x))).getD j .null))) : va_E)) = ik_c ad sd ct a (.inl (.boolean, vs.set ix.toNatClampNeg (.int (vp_nar .boolean x)))) := by
            rw [← e2]
            unfold ik_a
            rw [List.length_set]
          rw [e3, ik_w_set] at hP1 hD1
          exact k ad ct H1 locs1 ls hn (hK.setL hc _) hP1 hD1 hS1 hl
        · cases hs
      · cases hs
    · cases hs
  | lastore =>
    simp only [ik_step, ik_bo] at hs
    split at hs
    · rename_i x ix a r
      split at hs
      · rename_i vs hc
        split at hs
        · rename_i h0
          cases hs
          unfold ik_ok at k
          dsimp only at k hcl hsl
          refine va_last hx hb (hK.2.1 a _ vs hc) hP hD hS a 0 (ik_w_at hc) rfl (i := ix) (fun q => q.elim h0.1 (fun q => absurd h0.2 (Nat.not_lt.mpr q))) hd (fun H1 locs1 hP1 hD1 hS1 => ?_)
          try dsimp only at hP1 hD1
          rw [ik_upL h0.2] at hP1 hD1
          have e2 : (ad a, (.inl (ct a, ik_a ad .long (vs.set ix.toNatClampNeg (.long x))) : va_E)) = ik_c ad sd ct a (.inl (.long, vs.set ix.toNatClampNeg (.long x))) := rfl
          have e3 : (ad a, (.inl (ct a, vs.length, .inr (.inl (fun j => ik_Lg ((vs.set ix.toNatClampNeg (.long x)).getD j .null)))) : va_E)) = ik_c ad sd ct a (.inl (.long, vs.set ix.toNatClampNeg (.long x))) := by
            rw [← e2]
            unfold ik_a
            rw [List.length_set]
          rw [e3, ik_w_set] at hP1 hD1
          exact k ad ct H1 locs1 ls hn (hK.setL hc _) hP1 hD1 hS1 hl
        · cases hs
      · cases hs
    · cases hs
  | aastore =>
    simp only [ik_step, ik_bo] at hs
    split at hs
    · rename_i v ix a r
      split at hs
      · rename_i C vs ci fs hc hv
        split at hs
        · rename_i h0
          cases hs
          unfold ik_ok at k
          dsimp only at k hcl hsl
          obtain ⟨h01, h02, h03, h04⟩ := h0
          obtain ⟨C1, T1, N1, h1⟩ := ik_vw h04
          have hC : C1 = C := (ik_cls_ok h1).2.2.2.2.1.trans h03
          subst hC
          refine va_astq hx hb (hK.2.1 a _ vs hc) hP hD hS a 0 v ci (r := (C1, T1, N1)) (ik_w_at hc) rfl (ik_w_at hv) h1 (i := ix) (fun q => q.elim h01 (fun q => absurd h02 (Nat.not_lt.mpr q))) hd (fun H1 locs1 hP1 hD1 hS1 => ?_)
          try dsimp only at hP1 hD1
          rw [ik_upR h02] at hP1 hD1
          have e3 : (ad a, (.inl (ct a, vs.length, .inr (.inr (.inr (.inr (fun j => ik_Rf ad ((vs.set ix.toNatClampNeg (.ref v)).getD j .null)))))) : va_E)) = ik_c ad sd ct a (.inl (.object C1, vs.set ix.toNatClampNeg (.ref v))) := by
            unfold ik_c ik_a
            dsimp only
            rw [List.length_set]
          rw [e3, ik_w_set] at hP1 hD1
          exact k ad ct H1 locs1 ls hn (hK.setL hc _) hP1 hD1 hS1 hl
        · cases hs
      · cases hs
    · cases hs
  | newarray t =>
    simp only [ik_step, ik_bo] at hs
    split at hs
    · rename_i n r
      split at hs
      · rename_i ty v0 hdf
        split at hs
        · rename_i h0
          cases hs
          unfold ik_ok at k
          dsimp only at k hcl hsl
          obtain ⟨h01, h02, h03⟩ := h0
          simp only [ik_wf, Bool.and_eq_true] at h03
          obtain ⟨⟨hw1, hw2⟩, hw3⟩ := h03
          obtain ⟨t1, t2, t3, t4⟩ := ik_df_ok hdf
          refine va_newa hx hb (by rw [t1]; exact hts _ (ik_ap_ok t2)) (ty := ty) t1 hK.1 hP hD hS hA (a0 := ik_a ad ty (List.replicate n.toNatClampNeg v0)) (t4 ad n.toNatClampNeg) h01 rfl (Nat.le_trans (Nat.mul_le_mul h02 t3) (by decide)) hcl hsl hd (fun q cA H1 hK1 hP1 hD1 hS1 => ?_)
          have e1 := ik_w_up (ad := ad) (sd := sd) (ct := ct) (q := q) (cA := cA) hw3 (.inl (ty, List.replicate n.toNatClampNeg v0))
          have e2 : ik_c (va_up ad h.length q) sd (va_up ct h.length cA) h.length (.inl (ty, List.replicate n.toNatClampNeg v0)) = (q, .inl (cA, ik_a ad ty (List.replicate n.toNatClampNeg v0))) := by
            unfold ik_c
            dsimp only
            rw [va_up_self, va_up_self, ik_a_up (ik_rep_wv t2 hdf)]
          rw [e2] at e1
          rw [← e1] at hP1 hD1
          have kk := k (va_up ad h.length q) (va_up ct h.length cA) H1 locs ls (fun j hj => by rw [va_up_ne _ _ (by omega)]; exact hn j hj) (hK.push (hK1.sub (tys' := [(cA, ty)]) [0] rfl) _) hP1 hD1 hS1 (by unfold ik_lh; rw [ik_pr_up hw1]; exact hl)
          rw [List.map_cons] at kk
          rw [ik_map_up hw2] at kk
          have e4 : ik_v (va_up ad h.length q) sd (.ref h.length) = .ref q := by unfold ik_v; dsimp only; rw [va_up_self]
          rw [e4] at kk
          exact kk
        · cases hs
      · cases hs
    · cases hs
  | anewarray x =>
    simp only [ik_step, ik_bo] at hs
    split at hs
    · rename_i n r ci qq hac
      obtain ⟨q1, q2⟩ := qq
      split at hs
      · rename_i h0
        cases hs
        unfold ik_ok at k
        dsimp only at k hcl hsl
        obtain ⟨h01, h02, h03⟩ := h0
        simp only [ik_wf, Bool.and_eq_true] at h03
        obtain ⟨⟨hw1, hw2⟩, hw3⟩ := h03
        obtain ⟨C, T, N, c1, c2, c3⟩ := ik_ac_ok hmid hac
        have hC : C = ik_nm ci := (ik_cls_ok c1).2.2.2.2.1
        subst hC
        refine va_newq hx hb hown (hts _ c2) (hK.2.2.2 _ c3) hK.1 hP hD hS hA (N' := n.toNatClampNeg) h01 rfl (Nat.le_trans (Nat.mul_le_mul_right 4 h02) (by decide)) hcl hsl hd (fun q cA H1 hK1 hP1 hD1 hS1 => ?_)
        have e1 := ik_w_up (ad := ad) (sd := sd) (ct := ct) (q := q) (cA := cA) hw3 (.inl (.object (ik_nm ci), List.replicate n.toNatClampNeg .null))
        have e2 : ik_c (va_up ad h.length q) sd (va_up ct h.length cA) h.length (.inl (.object (ik_nm ci), List.replicate n.toNatClampNeg .null)) = (q, .inl (cA, n.toNatClampNeg, .inr (.inr (.inr (.inr (fun _ => none)))))) := by
          unfold ik_c ik_a
          dsimp only
          rw [va_up_self, va_up_self, List.length_replicate]
          congr 8
          funext j
          rw [ik_rep_getD]
          split <;> rfl
        rw [e2] at e1
        rw [← e1] at hP1 hD1
        have kk := k (va_up ad h.length q) (va_up ct h.length cA) H1 locs ls (fun j hj => by rw [va_up_ne _ _ (by omega)]; exact hn j hj) (hK.push (hK1.sub (tys' := [(cA, .object (ik_nm ci))]) [0] rfl) _) hP1 hD1 hS1 (by unfold ik_lh; rw [ik_pr_up hw1]; exact hl)
        rw [List.map_cons] at kk
        rw [ik_map_up hw2] at kk
        have e4 : ik_v (va_up ad h.length q) sd (.ref h.length) = .ref q := by unfold ik_v; dsimp only; rw [va_up_self]
        rw [e4] at kk
        exact kk
      · cases hs
    · cases hs
  | new x =>
    simp only [ik_step, ik_bo] at hs
    split at hs
    · rename_i ci q1 hnc
      split at hs
      · rename_i h03
        cases hs
        unfold ik_ok at k
        dsimp only at k hcl hsl
        simp only [ik_wf, Bool.and_eq_true] at h03
        obtain ⟨⟨hw1, hw2⟩, hw3⟩ := h03
        obtain ⟨C, T, N, c1, c2⟩ := ik_nc_ok hmid hnc
        obtain ⟨d1, d2, d3, d4, d5, d6, d7, d8⟩ := ik_cls_ok c1
        subst d4
        refine va_new hx hb hts d1 (ik_ty ci) (ik_names c1).1 hown (hts _ c2) (hts _ d2) (hts _ d3) hK.1 hP hD hS hA c1 (fs := ik_fs ci) d7 hcl hsl hd (fun q H1 hP1 hD1 hS1 => ?_)
        have e1 := ik_w_up (ad := ad) (sd := sd) (ct := ct) (q := q) (cA := 0) hw3 (.inr (ci, ik_fs ci))
        have e2 : ik_c (va_up ad h.length q) sd (va_up ct h.length 0) h.length (.inr (ci, ik_fs ci)) = (q, .inr (ci, ik_fs ci)) := by
          unfold ik_c
          dsimp only
          rw [va_up_self, ik_fs_map]
        rw [e2] at e1
        rw [← e1] at hP1 hD1
        have kk := k (va_up ad h.length q) (va_up ct h.length 0) H1 locs ls (fun j hj => by rw [va_up_ne _ _ (by omega)]; exact hn j hj) (hK.pushR _ _) hP1 hD1 hS1 (by unfold ik_lh; rw [ik_pr_up hw1]; exact hl)
        rw [List.map_cons] at kk
        rw [ik_map_up hw2] at kk
        have e4 : ik_v (va_up ad h.length q) sd (.ref h.length) = .ref q := by unfold ik_v; dsimp only; rw [va_up_self]
        rw [e4] at kk
        exact kk
      · cases hs
    · cases hs
  | _ => exact absurd hs (by simp [ik_step])
