theorem ik_sum_map (ad : Nat → Nat) (sd : Nat → Option Nat) (r : List Value) : ((r.map (ik_v ad sd)).map fun v => v.category).sum = ik_sum r := by
  unfold ik_sum
  rw [List.map_map]
  congr 1
  apply List.map_congr_left
  intro v _
  exact ik_v_cat ad sd v
theorem ik_cpy_get {vs ws : List Value} {sp dp n : Nat} (h1 : sp + n ≤ vs.length) (h2 : dp + n ≤ ws.length) (j : Nat) : (ik_cpy vs ws sp dp n).getD j .null = if dp ≤ j ∧ j < dp + n then vs.getD (sp + (j - dp)) .null else ws.getD j .null := by
  unfold ik_cpy
  simp only [List.getD_eq_getElem?_getD]
  congr 1
  by_cases a1 : j < dp
  · rw [if_neg (by omega), List.append_assoc, List.getElem?_append_left (by rw [List.length_take]; omega), List.getElem?_take_of_lt a1]
  · by_cases a2 : j < dp + n
    · rw [if_pos ⟨by omega, a2⟩, List.getElem?_append_left (by simp only [List.length_append, List.length_take, List.length_drop]; omega), List.getElem?_append_right (by rw [List.length_take]; omega), List.length_take, Nat.min_eq_left (by omega), List.getElem?_take_of_lt (by omega), List.getElem?_drop]
    · have hlen : (ws.take dp ++ (vs.drop sp).take n).length = dp + n := by
        simp only [List.length_append, List.length_take, List.length_drop]
        omega
      rw [if_neg (by omega), List.getElem?_append_right (by rw [hlen]; omega), List.getElem?_drop, hlen, show dp + n + (j - (dp + n)) = j by omega]
theorem ik_cpy_len {vs ws : List Value} {sp dp n : Nat} (h1 : sp + n ≤ vs.length) (h2 : dp + n ≤ ws.length) : (ik_cpy vs ws sp dp n).length = ws.length := by
  unfold ik_cpy
  simp only [List.length_append, List.length_take, List.length_drop]
  omega
set_option maxHeartbeats 4000000 in
theorem ik_acp_ok {p : Program} {l : Launch} {e : Env} {R : Room} {s : State} {m : MethodId} {args : Array Value} {below : List Frame} {meth : Method} {c : Code} {Q : State → Prop} {D : va_G} {A : Nat → Prop} {H0 : Heap} {sd : Nat → Option Nat} {mid n0 : Nat} {ad0 : Nat → Nat} {i : Instr} {pc : Nat} {loc : ik_L} {st r : List Value} {h h' : List ik_E} {cl sl q kn : Nat} (C0 : ik_X p s m args meth c mid) (hi : ik_at mid pc = some i) (hc : ik_call mid i = some (q, kn, 5)) (ha : ik_acp st h = some (r, h')) (hrm : 1 ≤ ik_fr mid ∧ 40 ≤ ik_lo mid ∧ ik_sum r ≤ 8) (hfr : ik_fr mid ≤ R.frames) (hlo : ik_lo mid ≤ R.locals)
    (k : ik_ok p l e R s m args below meth c Q D A H0 sd mid n0 ad0 (pc + 3, loc, r, h', cl, sl)) : ik_ok p l e R s m args below meth c Q D A H0 sd mid n0 ad0 (pc, loc, st, h, cl, sl) := by
  obtain ⟨hx, hb, hml, hown, hts, hin, hmid⟩ := C0
  have hd := ik_dec hi
  intro ad ct H locs ls hn hK hP hD hS hl
  unfold ik_ok at k
  dsimp only at hK hP hD hl k ⊢
  unfold ik_call at hc
  split at hc
  · split at hc <;> cases hc
  · split at hc <;> cases hc
  · rename_i x
    split at hc
    · cases hc
    · cases hc
    · rename_i q9 n9 p9 hca
      have hch := ik_ca_ok hmid hca
      unfold ik_cchk at hch
      rw [ik_ownN hmid] at hch
      simp only [Bool.and_eq_true] at hch
      unfold ik_acp at ha
      split at ha
      · rename_i n dp b sp a r
        split at ha
        · rename_i vs ws hva hvb
          split at ha
          · rename_i hcd
            obtain ⟨c1, c2, c3, c4, c5, c6⟩ := hcd
            cases ha
            have hKa := (hK.2.1 a _ vs hva).app (hK.2.1 b _ ws hvb)
            refine va_copyi hx hb (hml.trans hl.1.symm) hown (hts _ (ik_tw_ok hch.1)) (hts _ (ik_tw_ok ik_sys.1)) (hts _ (ik_tw_ok ik_sys.2.1)) (hts _ (ik_tw_ok ik_sys.2.2.1)) hKa hP hD hS a b 0 1 (ik_w_at hva) (ik_w_at hvb) rfl rfl rfl c3 c2 c1 c4 c5 (fun _ _ => rfl) (Nat.le_trans hrm.1 hfr) ?_ hd (fun H1 locs1 hP1 hD1 hS1 => ?_)
            · rw [ik_sum_map]
              have : nativeFrameWords "java/lang/System" "arraycopy" 5 = 7 := by decide
              omega
            · have e3 : (ad b, (.inl (ct b, ws.length, .inl (va_cpy (fun j => ik_I (vs.getD j .null)) (fun j => ik_I (ws.getD j .null)) sp.toNatClampNeg dp.toNatClampNeg n.toNatClampNeg)) : va_E)) = ik_c ad sd ct b (.inl (.int, ik_cpy vs ws sp.toNatClampNeg dp.toNatClampNeg n.toNatClampNeg)) := by
                unfold ik_c ik_a
                dsimp only
                rw [ik_cpy_len c4 c5]
                have e8 : va_cpy (fun j => ik_I (vs.getD j .null)) (fun j => ik_I (ws.getD j .null)) sp.toNatClampNeg dp.toNatClampNeg n.toNatClampNeg = fun j => ik_I ((ik_cpy vs ws sp.toNatClampNeg dp.toNatClampNeg n.toNatClampNeg).getD j .null) := by
                  funext j
                  rw [ik_cpy_get c4 c5]
                  unfold va_cpy
                  split <;> rfl
                rw [e8]
              rw [e3, ik_w_set] at hP1 hD1
              exact k ad ct H1 locs1 ls hn (hK.setL hvb _) hP1 hD1 hS1 hl
          · cases ha
        · cases ha
      · cases ha
    · cases hc
    · cases hc
  · cases hc
set_option maxHeartbeats 4000000 in
theorem ik_math_ok {p : Program} {l : Launch} {e : Env} {R : Room} {s : State} {m : MethodId} {args : Array Value} {below : List Frame} {meth : Method} {c : Code} {Q : State → Prop} {D : va_G} {A : Nat → Prop} {H0 : Heap} {sd : Nat → Option Nat} {mid n0 : Nat} {ad0 : Nat → Nat} {i : Instr} {pc : Nat} {loc : ik_L} {st st' : List Value} {h : List ik_E} {cl sl q kn : Nat} (C0 : ik_X p s m args meth c mid) (hi : ik_at mid pc = some i) (hc : ik_call mid i = some (q, kn, 7)) (ha : ik_math q st = some st') (hrm : 1 ≤ ik_fr mid ∧ 40 ≤ ik_lo mid ∧ ik_sum (st'.drop 1) ≤ 8) (hfr : ik_fr mid ≤ R.frames) (hlo : ik_lo mid ≤ R.locals) (hcs : cl ≤ R.cells ∧ sl ≤ R.slots)
    (k : ik_ok p l e R s m args below meth c Q D A H0 sd mid n0 ad0 (pc + 3, loc, st', h, cl, sl)) : ik_ok p l e R s m args below meth c Q D A H0 sd mid n0 ad0 (pc, loc, st, h, cl, sl) := by
  obtain ⟨hx, hb, hml, hown, hts, hin, hmid⟩ := C0
  have hd := ik_dec hi
  intro ad ct H locs ls hn hK hP hD hS hl
  unfold ik_ok at k
  dsimp only at hK hP hD hl k ⊢
  unfold ik_call at hc
  split at hc
  · split at hc <;> cases hc
  · split at hc <;> cases hc
  · rename_i x
    split at hc
    · cases hc
    · cases hc
    · cases hc
    · rename_i q9 n9 p9 hca
      cases hc
      have hch := ik_ca_ok hmid hca
      unfold ik_cchk at hch
      rw [ik_ownN hmid] at hch
      simp only [Bool.and_eq_true] at hch
      unfold ik_math at ha
      split at ha
      · rename_i y x1 r
        cases ha
        have h8 : ik_sum r ≤ 8 := hrm.2.2
        exact va_mmin hx hb (hml.trans hl.1.symm) hown (hts _ (ik_tw_ok hch.1)) (hts _ (ik_tw_ok ik_mth.1)) (hts _ (ik_tw_ok ik_mth.2.2.2)) (hts _ (List.mem_filter.mpr ⟨List.mem_of_getElem? ik_mthc.1, rfl⟩)) (Nat.le_trans hrm.1 hfr) (by rw [ik_sum_map]; omega) hcs.1 hcs.2 hd (k ad ct H locs ls hn hK hP hD hS hl)
      · rename_i x1 r
        cases ha
        have h8 : ik_sum r ≤ 8 := hrm.2.2
        exact va_mabs hx hb (hml.trans hl.1.symm) hown (hts _ (ik_tw_ok hch.1)) (hts _ (ik_tw_ok ik_mth.2.1)) (hts _ (ik_tw_ok ik_mth.2.2.2)) (hts _ (List.mem_filter.mpr ⟨List.mem_of_getElem? ik_mthc.2.1, rfl⟩)) (Nat.le_trans hrm.1 hfr) (by rw [ik_sum_map]; omega) hcs.1 hcs.2 hd (k ad ct H locs ls hn hK hP hD hS hl)
      · rename_i y x1 r
        cases ha
        have h8 : ik_sum r ≤ 8 := hrm.2.2
        exact va_mmax_long hx hb (hml.trans hl.1.symm) hown (hts _ (ik_tw_ok hch.1)) (hts _ (ik_tw_ok ik_mth.2.2.1)) (hts _ (ik_tw_ok ik_mth.2.2.2)) (hts _ (List.mem_filter.mpr ⟨List.mem_of_getElem? ik_mthc.2.2, rfl⟩)) (Nat.le_trans hrm.1 hfr) (by rw [ik_sum_map]; omega) hcs.1 hcs.2 hd (k ad ct H locs ls hn hK hP hD hS hl)
      · cases ha
    · cases hc
  · cases hc
set_option maxHeartbeats 8000000 in
set_option maxRecDepth 100000 in
theorem ik_call_ok {n : Nat} (ih : ik_S n) {p : Program} {l : Launch} {e : Env} {R : Room} {s : State} {m : MethodId} {args : Array Value} {below : List Frame} {meth : Method} {c : Code} {Q : State → Prop} {D : va_G} {A : Nat → Prop} {H0 : Heap} {sd : Nat → Option Nat} {mid n0 : Nat} {ad0 : Nat → Nat} {i : Instr} {pc : Nat} {loc : ik_L} {st : List Value} {h h' : List ik_E} {cl sl q kn kd : Nat} {pr : Nat} {lr : ik_L} {sr rv : List Value} {mc ms : Nat} {ir : Instr} (C0 : ik_X p s m args meth c mid) (hA : ∀ q, H0.size ≤ q → A q) (hH0 : H0 = s.heap) (hO : ik_O sd A s s.heap) (hi : ik_at mid pc = some i) (hc : ik_call mid i = some (q, kn, kd)) (hf : (ik_fitC mid q kd (st.take kn).reverse h (st.drop kn) loc && decide ((st.take kn).length = kn)) = true)
    (he : ik_ex none n q 0 (ik_loc (ik_ml q) (st.take kn).reverse) [] h 0 0 = some (pr, lr, sr, h', mc, ms)) (hir : ik_at q pr = some ir) (hrv : ik_rv (ik_rt q) ir sr = some rv) (hfr : ik_fr mid ≤ R.frames) (hlo : ik_lo mid ≤ R.locals) (hn0 : n0 ≤ h.length) (hrm : cl + mc ≤ R.cells ∧ sl + ms ≤ R.slots)
    (k : ik_ok p l e R s m args below meth c Q D A H0 sd mid n0 ad0 (pc + 3, loc, rv ++ st.drop kn, h', cl + mc, sl + ms)) : ik_ok p l e R s m args below meth c Q D A H0 sd mid n0 ad0 (pc, loc, st, h, cl, sl) := by
  obtain ⟨hx, hb, hml, hown, hts, hin, hmid⟩ := C0
  have hd := ik_dec hi
  intro ad ct H locs ls hn hK hP hD hS hl
  dsimp only at hK hP hD hl ⊢
  simp only [Bool.and_eq_true, decide_eq_true_eq] at hf
  obtain ⟨hf, hkn⟩ := hf
  unfold ik_fitC at hf
  simp only [Bool.and_eq_true, decide_eq_true_eq] at hf
  obtain ⟨⟨⟨⟨⟨⟨⟨f1, f2⟩, f3⟩, f4⟩, f5⟩, f6⟩, f7⟩, f8⟩ := hf
  generalize hasE : (st.take kn).reverse = as at he f4 f8
  have hst : st = as.reverse ++ st.drop kn := by rw [← hasE, List.reverse_reverse, List.take_append_drop]
  have hasl : as.length = kn := by rw [← hasE, List.length_reverse]; exact hkn
  generalize st.drop kn = rest at hst f3 f6 k
  subst hst
  have hW : 2 * (F0 m pc ls ((as.reverse ++ rest).map (ik_v ad sd))).monitorRoom + ((rest.map (ik_v ad sd)).map fun v => v.category).sum ≤ 8 := lv_room (by rw [ik_sum_map]; exact f3)
  subst hH0
  have hFA : ∀ q, va_A (ik_w ad sd ct h) H.size q → A q := by
    intro q hq
    rcases hq with ⟨j, e0, hj⟩ | hq
    · exact hD.2 j _ hj
    · exact hA q (Nat.le_trans hS.1 hq)
  have hS0 : ∀ U : State, U.heap = H → s.WarmedH U.vm → ik_Pq D ad sd ct h H.size as (as.map (ik_v ad sd)).toArray U := fun U hU hWm => ⟨rfl, by rw [hU], hK.warm hWm, by rw [hU]; exact hP, hD.weaken (fun _ _ _ _ => trivial), hO.call hS hWm hU hFA⟩
  have hroom : (ik_rm q mc ms).frames + 1 ≤ R.frames ∧ 8 + (ik_ml q + 11) + (ik_rm q mc ms).locals ≤ R.locals := ⟨Nat.le_trans f1 hfr, Nat.le_trans f2 hlo⟩
  unfold ik_call at hc
  split at hc
  · rename_i x
    split at hc
    · rename_i q9 n9 p9 hca
      cases hc
      have hch := ik_ca_ok hmid hca
      unfold ik_cchk at hch
      rw [ik_ownN hmid] at hch
      simp only [Bool.and_eq_true, decide_eq_true_eq, Bool.or_eq_true] at hch
      obtain ⟨⟨⟨⟨c1, c2⟩, c3⟩, c4⟩, c5⟩ := hch
      have hq0 : 0 < q := by omega
      obtain ⟨d1, d2, d3, d4, d5⟩ := ik_callee hq0 f5
      have hMP : (ik_MP.getD q (0, 0, 0, 0, true)).2.2.2.2 = false := by simpa using c3
      obtain ⟨d6, d7⟩ := d3 hMP
      have hcode := ik_code_in hq0 f5
      have hM := ik_met ih l D ad sd ct H.size hq0 f5 f4 he hir hrv
      match as, f8, hasl, hS0, hM, hW with
      | .ref a :: as', f8, hasl, hS0, hM, hW =>
        have f8 : (match h[a]? with
          | some (.inr (ci, _)) => decide (ci = ik_ow q) && decide (ci < 11)
          | _ => false) = true := f8
        split at f8
        · rename_i ci fs hcell
          simp only [Bool.and_eq_true, decide_eq_true_eq] at f8
          obtain ⟨g1, g2⟩ := f8
          obtain ⟨C, T, N, hvw⟩ := ik_vw g2
          have hC : C = (ik_y q).cls := by
            have := (ik_cls_ok hvw).2.2.2.2.2.2.2
            rw [g1, d5] at this
            exact (Option.some.inj this).symm
          have hl' : (parseMethodDescriptor (ik_y q).desc).map (fun d => d.parameters.length) = some as'.length := ik_len_map (by rw [c4, ← hasl]; rfl)
          have cw : CallW R s args (ik_own mid) (ik_y q).cls x (ik_y q) (ik_by q) (ik_ml q) (ik_rt q) (ik_wsM q) (ik_rm q mc ms) mc ms as'.length := ⟨callB_of _ hts (ik_good hcode) rfl rfl rfl (hts _ d1) (hts _ (ik_tw_ok c1)) ⟨d4.1, d4.2, hl'⟩ hroom, hts _ d6, hts _ (d7 c2)⟩
          have hrecv := va_recv hK.1 hP hvw (ik_w_at hcell)
          have hrun := va_runV (As := as'.map (ik_v ad sd)) (rest := rest.map (ik_v ad sd)) (g := F0 m pc ls (((Value.ref a :: as').reverse ++ rest).map (ik_v ad sd))) (b := ad a) (locs := locs) (cells := cl) (slots := sl) (below := below) (meth := meth) (e := e) ⟨hx, hb, hml, hown, hts⟩ hM cw ⟨ik_Pq_blind, by rw [← hC]; exact hrecv, hS0⟩ rfl (by rw [List.length_map]) hl.1 (by simp [ik_v]) hW hd hrm
          exact ik_after hrun (ik_rv_len hrv).2 hn0 hn hK hD hS hA hl f6 f7 k
        · cases f8
      | [], f8, _, _, _, _ => cases f8
      | .int _ :: _, f8, _, _, _, _ => cases f8
      | .long _ :: _, f8, _, _, _, _ => cases f8
      | .float _ :: _, f8, _, _, _, _ => cases f8
      | .double _ :: _, f8, _, _, _, _ => cases f8
      | .null :: _, f8, _, _, _, _ => cases f8
      | .retAddr 0 :: _, f8, _, _, _, _ => cases f8
      | .retAddr (kr + 1) :: as', f8, hasl, hS0, hM, hW =>
        have f8 : (decide (kr % 2 = 0) && decide (kr < 6) && decide (ik_ow q = ik_sow)) = true := f8
        simp only [Bool.and_eq_true, decide_eq_true_eq] at f8
        obtain ⟨⟨g1, g2⟩, g3⟩ := f8
        have hC : "java/lang/String" = (ik_y q).cls := by
          have h9 := d5
          rw [g3, ik_sowN] at h9
          exact Option.some.inj h9
        have hl' : (parseMethodDescriptor (ik_y q).desc).map (fun d => d.parameters.length) = some as'.length := ik_len_map (by rw [c4, ← hasl]; rfl)
        have cw : CallW R s args (ik_own mid) (ik_y q).cls x (ik_y q) (ik_by q) (ik_ml q) (ik_rt q) (ik_wsM q) (ik_rm q mc ms) mc ms as'.length := ⟨callB_of _ hts (ik_good hcode) rfl rfl rfl (hts _ d1) (hts _ (ik_tw_ok c1)) ⟨d4.1, d4.2, hl'⟩ hroom, hts _ d6, hts _ (d7 c2)⟩
        obtain ⟨o0, adK, adV, o1, o2, o3, o4, o5⟩ := hO
        have hi3 : kr / 2 < 3 := by omega
        have er : ik_v ad sd (.retAddr (kr + 1)) = .ref (adK (kr / 2)) := by
          show va_rf (sd (kr + 1)) = _
          rw [show kr + 1 = 2 * (kr / 2) + 1 by omega, (o1 _ hi3).1]
          rfl
        have hrecv := vk_recv o2 hi3 hS
        have hrun := va_runV (As := as'.map (ik_v ad sd)) (rest := rest.map (ik_v ad sd)) (g := F0 m pc ls (((Value.retAddr (kr + 1) :: as').reverse ++ rest).map (ik_v ad sd))) (b := adK (kr / 2)) (locs := locs) (cells := cl) (slots := sl) (below := below) (meth := meth) (e := e) ⟨hx, hb, hml, hown, hts⟩ hM cw ⟨ik_Pq_blind, by rw [← hC]; exact hrecv, fun U h1 h2 => by have h3 := hS0 U h1 h2; rw [List.map_cons, er] at h3; exact h3⟩ rfl (by rw [List.length_map]) hl.1 (by simp [er]) hW hd hrm
        exact ik_after hrun (ik_rv_len hrv).2 hn0 hn hK hD hS hA hl f6 f7 k
    · cases hc
  · rename_i x
    split at hc
    · rename_i q9 n9 p9 hca
      cases hc
      have hch := ik_ca_ok hmid hca
      unfold ik_cchk at hch
      rw [ik_ownN hmid] at hch
      simp only [Bool.and_eq_true, decide_eq_true_eq, Bool.or_eq_true] at hch
      obtain ⟨⟨⟨⟨⟨c1, c2⟩, c2b⟩, c3⟩, c4⟩, c5⟩ := hch
      have hq0 : 0 < q := by omega
      obtain ⟨d1, d2, d3, d4, d5⟩ := ik_callee hq0 f5
      have hMP : (ik_MP.getD q (0, 0, 0, 0, true)).2.2.2.2 = false := by simpa using c3
      obtain ⟨d6, d7⟩ := d3 hMP
      have hcode := ik_code_in hq0 f5
      have hM := ik_met ih l D ad sd ct H.size hq0 f5 f4 he hir hrv
      match as, f8, hasl, hS0, hM, hW with
      | .ref a :: as', f8, hasl, hS0, hM, hW =>
        have hl' : (parseMethodDescriptor (ik_y q).desc).map (fun d => d.parameters.length) = some as'.length := ik_len_map (by rw [c4, ← hasl]; rfl)
        have cw : CallB R s args (ik_own mid) x (ik_y q) (ik_by q) (ik_ml q) none (ik_wsM q) (ik_rm q mc ms) mc ms as'.length ∧ (ik_y q).name = "<init>" ∧ (Cond.instanceMethod (ik_y q)).before args s = true := ⟨callB_of _ hts (ik_good hcode) (by unfold ik_wsM; rw [c2b]) rfl rfl (hts _ d1) (hts _ (ik_tw_ok c1)) ⟨d4.1, d4.2, hl'⟩ hroom, c2, hts _ d6⟩
        have hrun := va_runI (As := as'.map (ik_v ad sd)) (rest := rest.map (ik_v ad sd)) (g := F0 m pc ls (((Value.ref a :: as').reverse ++ rest).map (ik_v ad sd))) (b := ad a) (locs := locs) (cells := cl) (slots := sl) (below := below) (meth := meth) (e := e) ⟨hx, hb, hml, hown, hts⟩ hM cw ⟨ik_Pq_blind, hS0⟩ rfl (by rw [List.length_map]) hl.1 (by simp [ik_v]) hW hd hrm
        exact ik_after hrun (ik_rv_len hrv).2 hn0 hn hK hD hS hA hl f6 f7 k
      | [], f8, _, _, _, _ => cases f8
      | .int _ :: _, f8, _, _, _, _ => cases f8
      | .long _ :: _, f8, _, _, _, _ => cases f8
      | .float _ :: _, f8, _, _, _, _ => cases f8
      | .double _ :: _, f8, _, _, _, _ => cases f8
      | .null :: _, f8, _, _, _, _ => cases f8
      | .retAddr _ :: _, f8, _, _, _, _ => cases f8
    · rename_i q9 n9 p9 hca
      cases hc
      have hch := ik_ca_ok hmid hca
      unfold ik_cchk at hch
      rw [ik_ownN hmid] at hch
      simp only [Bool.and_eq_true, decide_eq_true_eq, Bool.or_eq_true] at hch
      obtain ⟨⟨⟨⟨⟨c1, c2⟩, c2b⟩, c3⟩, c4⟩, c5⟩ := hch
      have hq0 : 0 < q := by omega
      obtain ⟨d1, d2, d3, d4, d5⟩ := ik_callee hq0 f5
      have hMP : (ik_MP.getD q (0, 0, 0, 0, true)).2.2.2.2 = false := by simpa using c3
      obtain ⟨d6, d7⟩ := d3 hMP
      have hcode := ik_code_in hq0 f5
      have hM := ik_met ih l D ad sd ct H.size hq0 f5 f4 he hir hrv
      match as, f8, hasl, hS0, hM, hW with
      | .ref a :: as', f8, hasl, hS0, hM, hW =>
        have hl' : (parseMethodDescriptor (ik_y q).desc).map (fun d => d.parameters.length) = some as'.length := ik_len_map (by rw [c4, ← hasl]; rfl)
        have cw : va_CN R s args (ik_own mid) x (ik_y q) "SlowerCork" (ik_by q) (ik_ml q) none (ik_wsM q) (ik_rm q mc ms) mc ms as'.length ∧ (ik_y q).name = "<init>" ∧ (Cond.instanceMethod (ik_y q)).before args s = true := ⟨va_cnB _ hts (ik_good hcode) (by unfold ik_wsM; rw [c2b]) rfl rfl (hK.2.2.1 _ (ik_tn_ok c1)) (hts _ d1) ⟨d4.1, d4.2, hl'⟩ hroom, c2, hts _ d6⟩
        have hrun := va_runIN (As := as'.map (ik_v ad sd)) (rest := rest.map (ik_v ad sd)) (g := F0 m pc ls (((Value.ref a :: as').reverse ++ rest).map (ik_v ad sd))) (b := ad a) (locs := locs) (cells := cl) (slots := sl) (below := below) (meth := meth) (e := e) ⟨hx, hb, hml, hown, hts⟩ hM cw ⟨ik_Pq_blind, hS0⟩ rfl (by rw [List.length_map]) hl.1 (by simp [ik_v]) hW hd hrm
        exact ik_after hrun (ik_rv_len hrv).2 hn0 hn hK hD hS hA hl f6 f7 k
      | [], f8, _, _, _, _ => cases f8
      | .int _ :: _, f8, _, _, _, _ => cases f8
      | .long _ :: _, f8, _, _, _, _ => cases f8
      | .float _ :: _, f8, _, _, _, _ => cases f8
      | .double _ :: _, f8, _, _, _, _ => cases f8
      | .null :: _, f8, _, _, _, _ => cases f8
      | .retAddr _ :: _, f8, _, _, _, _ => cases f8
    · cases hc
      cases f8
    · cases hc
  · rename_i x
    split at hc
    · rename_i q9 n9 p9 hca
      cases hc
      have hch := ik_ca_ok hmid hca
      unfold ik_cchk at hch
      rw [ik_ownN hmid] at hch
      simp only [Bool.and_eq_true, decide_eq_true_eq, Bool.or_eq_true] at hch
      obtain ⟨⟨⟨c1, c3⟩, c4⟩, c5⟩ := hch
      have hq0 : 0 < q := by omega
      obtain ⟨d1, d2, d3, d4, d5⟩ := ik_callee hq0 f5
      have hMP : (ik_MP.getD q (0, 0, 0, 0, true)).2.2.2.2 = true := ik_MPt c3
      have hcode := ik_code_in hq0 f5
      have hM := ik_met ih l D ad sd ct H.size hq0 f5 f4 he hir hrv
      have cw : CallB R s args (ik_own mid) x (ik_y q) (ik_by q) (ik_ml q) (ik_rt q) (ik_wsM q) (ik_rm q mc ms) mc ms kn ∧ (Cond.static (ik_y q)).before args s = true := ⟨callB_of _ hts (ik_good hcode) rfl rfl rfl (hts _ d1) (hts _ (ik_tw_ok c1)) ⟨d4.1, d4.2, c4⟩ hroom, hts _ (d2 hMP)⟩
      have hrun := va_runS (As := as.map (ik_v ad sd)) (rest := rest.map (ik_v ad sd)) (g := F0 m pc ls ((as.reverse ++ rest).map (ik_v ad sd))) (locs := locs) (cells := cl) (slots := sl) (below := below) (meth := meth) (e := e) ⟨hx, hb, hml, hown, hts⟩ hM cw ⟨ik_Pq_blind, hS0⟩ rfl (by rw [List.length_map]; exact hasl) hl.1 (by simp) hW hd hrm
      exact ik_after hrun (ik_rv_len hrv).2 hn0 hn hK hD hS hA hl f6 f7 k
    · rename_i q9 n9 p9 hca
      cases hc
      have hch := ik_ca_ok hmid hca
      unfold ik_cchk at hch
      rw [ik_ownN hmid] at hch
      simp only [Bool.and_eq_true, decide_eq_true_eq, Bool.or_eq_true] at hch
      obtain ⟨⟨⟨c1, c3⟩, c4⟩, c5⟩ := hch
      have hq0 : 0 < q := by omega
      obtain ⟨d1, d2, d3, d4, d5⟩ := ik_callee hq0 f5
      have hMP : (ik_MP.getD q (0, 0, 0, 0, true)).2.2.2.2 = true := ik_MPt c3
      have hcode := ik_code_in hq0 f5
      have hM := ik_met ih l D ad sd ct H.size hq0 f5 f4 he hir hrv
      have cw : va_CN R s args (ik_own mid) x (ik_y q) "SlowerCork" (ik_by q) (ik_ml q) (ik_rt q) (ik_wsM q) (ik_rm q mc ms) mc ms kn ∧ (Cond.static (ik_y q)).before args s = true ∧ True := ⟨va_cnB _ hts (ik_good hcode) rfl rfl rfl (hK.2.2.1 _ (ik_tn_ok c1)) (hts _ d1) ⟨d4.1, d4.2, c4⟩ hroom, hts _ (d2 hMP), trivial⟩
      have hrun := va_runSN (As := as.map (ik_v ad sd)) (rest := rest.map (ik_v ad sd)) (g := F0 m pc ls ((as.reverse ++ rest).map (ik_v ad sd))) (locs := locs) (cells := cl) (slots := sl) (below := below) (meth := meth) (e := e) ⟨hx, hb, hml, hown, hts⟩ hM cw ⟨ik_Pq_blind, hS0⟩ rfl (by rw [List.length_map]; exact hasl) hl.1 (by simp) hW hd hrm
      exact ik_after hrun (ik_rv_len hrv).2 hn0 hn hK hD hS hA hl f6 f7 k
    · cases hc
      cases f8
    · cases hc
      cases f8
    · cases hc
  · cases hc
