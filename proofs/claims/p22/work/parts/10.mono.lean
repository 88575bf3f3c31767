/-! 10.mono -/
/-! WHAT ONLY GROWS -/
set_option maxHeartbeats 8000000 in
set_option maxRecDepth 100000 in
theorem ik_step_mono {X : Option (Nat × (Nat → Int32))} {mid : Nat} {i : Instr} {pc : Nat} {loc : ik_L} {st : List Value} {h : List ik_E} {cl sl : Nat} {z : ik_St} (hs : ik_step X mid i pc loc st h cl sl = some z) : cl ≤ z.2.2.2.2.1 ∧ sl ≤ z.2.2.2.2.2 ∧ h.length ≤ z.2.2.2.1.length := by
  cases i <;> simp only [ik_step, ik_bo] at hs
  all_goals repeat' (split at hs)
  all_goals first
    | (cases hs; done)
    | (cases hs; exact ⟨Nat.le_refl _, Nat.le_refl _, Nat.le_refl _⟩)
    | (cases hs; refine ⟨Nat.le_refl _, Nat.le_refl _, ?_⟩; simp only [List.length_set]; exact Nat.le_refl _)
    | (cases hs; refine ⟨Nat.le_add_right _ _, Nat.le_add_right _ _, ?_⟩; simp only [List.length_append]; exact Nat.le_add_right _ _)
theorem ik_acp_len {st r : List Value} {h h_q : List ik_E} (hs : ik_acp st h = some (r, h_q)) : h_q.length = h.length := by
  unfold ik_acp at hs
  repeat' (split at hs)
  all_goals first
    | (cases hs; done)
    | (cases hs; simp only [List.length_set])
set_option maxHeartbeats 8000000 in
theorem ik_mono : ∀ (n : Nat) {X : Option (Nat × (Nat → Int32))} {mid pc : Nat} {loc : ik_L} {st : List Value} {h : List ik_E} {cl sl : Nat} {z : ik_St}, ik_ex X n mid pc loc st h cl sl = some z → cl ≤ z.2.2.2.2.1 ∧ sl ≤ z.2.2.2.2.2 ∧ h.length ≤ z.2.2.2.1.length := by
  intro n
  induction n with
  | zero => intro X mid pc loc st h cl sl z hs; cases hs
  | succ n ih =>
    intro X mid pc loc st h cl sl z hs
    simp only [ik_ex] at hs
    split at hs
    · cases hs
    · rename_i i hi
      cases hr : ik_isR i with
      | true =>
        rw [hr] at hs
        cases hs
        exact ⟨Nat.le_refl _, Nat.le_refl _, Nat.le_refl _⟩
      | false =>
        rw [hr] at hs
        simp only [cond_false] at hs
        split at hs
        · rename_i q k kd hc
          split at hs
          · split at hs
            · unfold ik_bo at hs
              split at hs
              · exact ih hs
              · cases hs
            · cases hs
          · split at hs
            · rename_i r h_q ha
              unfold ik_bo at hs
              split at hs
              · have := ih hs
                rw [ik_acp_len ha] at this
                exact this
              · cases hs
            · cases hs
          · split at hs
            · unfold ik_bo at hs
              split at hs
              · exact ih hs
              · cases hs
            · cases hs
          · cases hf : (ik_fitC mid q kd (st.take k).reverse h (st.drop k) loc && decide ((st.take k).length = k)) with
            | false => rw [hf] at hs; cases hs
            | true =>
              rw [hf] at hs
              simp only [cond_true] at hs
              split at hs
              · rename_i pr lr sr h_q mc ms he
                split at hs
                · split at hs
                  · have h1 := ih he
                    have h2 := ih hs
                    dsimp only at h1
                    exact ⟨by omega, by omega, by omega⟩
                  · cases hs
                · cases hs
              · cases hs
        · split at hs
          · rename_i pc_q loc_q st_q h_q cl_q sl_q hst
            have h1 := ik_step_mono hst
            have h2 := ih hs
            dsimp only at h1
            exact ⟨by omega, by omega, by omega⟩
          · cases hs

/-! 11.entry -/
/-! ENTRY AND RETURN -/
theorem ik_args_len (ad : Nat → Nat) (sd : Nat → Option Nat) : ∀ as : List Value, (lg_sl (as.map (ik_v ad sd))).length = (ik_args as).length
  | [] => rfl
  | v :: r => by
    have ih := ik_args_len ad sd r
    unfold lg_sl at ih ⊢
    rw [List.map_cons, List.flatMap_cons, List.length_append, ih, ik_v_cat]
    rw [show ik_args (v :: r) = if v.category = 2 then some v :: none :: ik_args r else some v :: ik_args r from rfl]
    by_cases hc : v.category = 2
    · rw [if_pos hc, if_pos hc]
      simp only [List.length_cons, List.length_nil]
      omega
    · rw [if_neg hc, if_neg hc]
      simp only [List.length_cons, List.length_nil]
      omega
theorem ik_args_mem (ad : Nat → Nat) (sd : Nat → Option Nat) : ∀ (as : List Value) (off i : Nat) (v : Value), (ik_args as)[i]? = some (some v) → (off + i, ik_v ad sd v) ∈ lv_args off (as.map (ik_v ad sd))
  | [], off, i, v, h => by simp [ik_args] at h
  | u :: r, off, i, v, h => by
    unfold ik_args at h
    rw [List.map_cons]
    unfold lv_args
    rw [ik_v_cat]
    by_cases hc : u.category = 2
    · rw [if_pos hc] at h
      rw [if_pos hc]
      match i, h with
      | 0, h => cases h; exact List.mem_cons_self
      | 1, h => cases h
      | i + 2, h =>
        have := ik_args_mem ad sd r (off + 2) i v h
        rw [show off + (i + 2) = off + 2 + i by omega]
        exact List.mem_cons_of_mem _ this
    · rw [if_neg hc] at h
      rw [if_neg hc]
      match i, h with
      | 0, h => cases h; exact List.mem_cons_self
      | i + 1, h =>
        have := ik_args_mem ad sd r (off + 1) i v h
        rw [show off + (i + 1) = off + 1 + i by omega]
        exact List.mem_cons_of_mem _ this
theorem ik_entry {ad : Nat → Nat} {sd : Nat → Option Nat} {as : List Value} {n : Nat} (h : (ik_args as).length ≤ n) : ik_lh ad sd ((lg_sl (as.map (ik_v ad sd)) ++ List.replicate (n - (lg_sl (as.map (ik_v ad sd))).length) Slot.unset).toArray) n (ik_loc n as) := by
  have hl := lv_entry (as.map (ik_v ad sd)) (n := n) (by rw [ik_args_len]; exact h)
  refine ⟨hl.1, hl.2.1, ?_⟩
  rintro ⟨i, w⟩ hq
  obtain ⟨v, hv, rfl⟩ := ik_pr_mem.mp hq
  apply hl.2.2
  unfold ik_loc at hv
  by_cases hi : i < (ik_args as).length
  · rw [List.getElem?_append_left hi] at hv
    have := ik_args_mem ad sd as 0 i v hv
    rw [Nat.zero_add] at this
    exact this
  · rw [List.getElem?_append_right (by omega), List.getElem?_replicate] at hv
    split at hv <;> cases hv
/-- the world behind a call: what came back, the places that were there stay where they were -/
def ik_Qc (D : va_G) (A : Nat → Prop) (sd : Nat → Option Nat) (ad0 : Nat → Nat) (n0 : Nat) (rv : List Value) (h_q : List ik_E) : Array Value → State → Outcome → State → Prop := fun _ st oc t =>
  (∃ ad ct : Nat → Nat, oc = .returned ((rv.map (ik_v ad sd)).head?) ∧ (∀ k, k < n0 → ad k = ad0 k) ∧ (∀ (k : Nat) (ty : FieldType) (vs : List Value), h_q[k]? = some (.inl (ty, vs)) → va_K D vwCl [(ct k, ty)] t) ∧ va_P D vwCl (ik_w ad sd ct h_q) t.heap ∧ va_D A (ik_w ad sd ct h_q)) ∧ va_F A st t
theorem ik_rv_len {rt : Option FieldType} {i : Instr} {st rv : List Value} (h : ik_rv rt i st = some rv) : rv = st ∧ rv.length ≤ 1 := by
  unfold ik_rv at h
  repeat' (split at h)
  all_goals first
    | (cases h; done)
    | (cases h; exact ⟨rfl, by simp⟩)
theorem ik_hd {f : Value → Value} {rv : List Value} (h : rv.length ≤ 1) : ((rv.map f).head?).toList = rv.map f := by
  match rv, h with
  | [], _ => rfl
  | [_], _ => rfl
set_option maxHeartbeats 4000000 in
theorem ik_ret_ok {p : Program} {l : Launch} {e : Env} {R : Room} {s : State} {m : MethodId} {args : Array Value} {below : List Frame} {meth : Method} {c : Code} {D : va_G} {A : Nat → Prop} {sd : Nat → Option Nat} {ad0 : Nat → Nat} {mid n0 : Nat} {pc : Nat} {loc : ik_L} {st rv : List Value} {h : List ik_E} {cl sl : Nat} {i : Instr} (hx : p.tables.exec = Jvm.exec) (hb : c.code = ik_by mid) (hr : meth.sig.returnType = ik_rt mid) (hlocks : meth.locks = false) (hi : ik_at mid pc = some i) (hrv : ik_rv (ik_rt mid) i st = some rv) :
    ik_ok p l e R s m args below meth c (MQ below (ik_Qc D A sd ad0 n0 rv h) args s cl sl A) D A s.heap sd mid n0 ad0 (pc, loc, st, h, cl, sl) := by
  have hd := ik_dec hi
  intro ad ct H locs ls hn hK hP hD hS hl
  dsimp only at hK hP hD hl ⊢
  have fin : ∀ (oc : Outcome), oc = .returned ((rv.map (ik_v ad sd)).head?) → ∀ t : State, t.heap = H → s.WarmedH t.vm → ik_Qc D A sd ad0 n0 rv h args s oc t := fun oc ho t ht hW =>
    ⟨⟨ad, ct, ho, hn, fun k ty vs hk => va_K.moved hW.alike (hK.2.1 k ty vs hk), by rw [ht]; exact hP, hD⟩, hS.F ht⟩
  unfold ik_rv at hrv
  split at hrv
  · rename_i h1
    cases hrv
    exact W.vret hx hb (hr.trans h1) (fin _ rfl) hS.2.2 hd hlocks
  · rename_i v h1
    cases hrv
    exact W.iret (v := v) hx hb (hr.trans h1) (fin _ rfl) hS.2.2 hd hlocks
  · rename_i v h1
    split at hrv
    · rename_i hv
      cases hrv
      exact W.zret (v := v) hx hb (hr.trans h1) (by rcases hv with rfl | rfl <;> decide) (fin _ rfl) hS.2.2 hd hlocks
    · cases hrv
  · rename_i v h1
    split at hrv
    · rename_i hv
      cases hrv
      exact W.zret (v := v) hx hb (hr.trans h1) hv (fin _ rfl) hS.2.2 hd hlocks
    · cases hrv
  · rename_i v h1
    split at hrv
    · rename_i hv
      cases hrv
      exact W.zret (v := v) hx hb (hr.trans h1) hv (fin _ rfl) hS.2.2 hd hlocks
    · cases hrv
  · rename_i v h1
    cases hrv
    exact W.lret (v := v) hx hb (hr.trans h1) (fin _ rfl) hS.2.2 hd hlocks
  · rename_i C v h1
    cases hrv
    exact W.aret (v := .ref (ad v)) hx hb (hr.trans h1) (Or.inl ⟨_, rfl⟩) (Or.inr ⟨_, rfl⟩) (fin _ rfl) hS.2.2 hd hlocks
  · cases hrv

/-! 12.after -/
/-! THE ABSTRACT MACHINE'S RUNS ARE THE MACHINE'S -/
/-- what the soundness theorem says at a fuel -/
def ik_S (n : Nat) : Prop := ∀ (p : Program) (l : Launch) (e : Env) (R : Room) (s : State) (m : MethodId) (args : Array Value) (below : List Frame) (meth : Method) (c : Code) (Q : State → Prop) (D : va_G) (A : Nat → Prop) (H0 : Heap) (sd : Nat → Option Nat) (mid n0 : Nat) (ad0 : Nat → Nat) (X : Option (Nat × (Nat → Int32))) (pc : Nat) (loc : ik_L) (st : List Value) (h : List ik_E) (cl sl : Nat) (z : ik_St),
  ik_X p s m args meth c mid → (∀ q, H0.size ≤ q → A q) → (∀ (L : Nat) (xs : Nat → Int32), X = some (L, xs) → ∃ b, sd 0 = some b ∧ va_X b L xs s H0 ∧ b < H0.size ∧ ¬ A b) → H0 = s.heap → ik_O sd A s s.heap → ik_fr mid ≤ R.frames → ik_lo mid ≤ R.locals → ik_ex X n mid pc loc st h cl sl = some z → n0 ≤ h.length → z.2.2.2.2.1 ≤ R.cells → z.2.2.2.2.2 ≤ R.slots →
  ik_ok p l e R s m args below meth c Q D A H0 sd mid n0 ad0 z → ik_ok p l e R s m args below meth c Q D A H0 sd mid n0 ad0 (pc, loc, st, h, cl, sl)
/-- the words of a method's contract -/
def ik_wsM (q : Nat) : List Cond := Cond.code (ik_y q) (ik_by q) (ik_ml q) (ik_rt q) :: ik_ts
def ik_rm (q mc ms : Nat) : Room := { frames := ik_fr q, cells := mc, slots := ms, locals := ik_lo q }
def ik_Pq (D : va_G) (ad : Nat → Nat) (sd : Nat → Option Nat) (ct : Nat → Nat) (h : List ik_E) (sz : Nat) (as : List Value) : Array Value → State → Prop := va_Pc (as.map (ik_v ad sd)) (fun U => U.heap.size = sz ∧ ik_K D ct h U ∧ va_P D vwCl (ik_w ad sd ct h) U.heap ∧ va_D (fun _ => True) (ik_w ad sd ct h) ∧ ik_O sd (va_A (ik_w ad sd ct h) sz) U U.heap)
set_option maxHeartbeats 4000000 in
/-- a method's contract out of its abstract run -/
theorem ik_met {n : Nat} (ih : ik_S n) (l : Launch) (D : va_G) (ad : Nat → Nat) (sd : Nat → Option Nat) (ct : Nat → Nat) (sz : Nat) {q : Nat} {as : List Value} {h h_q : List ik_E} {pr : Nat} {lr : ik_L} {sr rv : List Value} {mc ms : Nat} {ir : Instr} (hq0 : 0 < q) (hq : q < ik_M.length) (hal : (ik_args as).length ≤ ik_ml q) (he : ik_ex none n q 0 (ik_loc (ik_ml q) as) [] h 0 0 = some (pr, lr, sr, h_q, mc, ms)) (hi : ik_at q pr = some ir) (hrv : ik_rv (ik_rt q) ir sr = some rv) :
    Met l (ik_y q) (ik_wsM q) (ik_rm q mc ms) (ik_Pq D ad sd ct h sz as) (ik_Qc D (va_A (ik_w ad sd ct h) sz) sd ad h.length rv h_q) mc ms (va_A (ik_w ad sd ct h) sz) := by
  have hch := ik_mch hq0 hq
  unfold ik_mchk at hch
  simp only [Bool.and_eq_true, Bool.or_eq_true, decide_eq_true_eq] at hch
  refine Met.ofW (cc := ik_by q) (maxL := ik_ml q) (ret := ik_rt q) hch.1.1.2 rfl ?_
  intro p e s m args below meth c s₁ B hml hv
  obtain ⟨rfl, hsz, hK, hP, hD0, hO⟩ := hv
  subst hsz
  have hts := atoms_spec (ws := ik_wsM q) B.pre
  have hD := hD0.self (sz := s.heap.size)
  have hX : ik_X p s m (as.map (ik_v ad sd)).toArray meth c q := by
    refine ⟨B.exec, B.bytes, hml, findClass_of_methodNamed B.named, fun w hw => hts w (List.mem_cons_of_mem _ hw), fun hin => ?_, hq⟩
    have hn : meth.name = (ik_y q).name := (name_of_methodNamed B.named B.method).1
    rw [hn]
    rcases hch.2 with q1 | q1
    · have q1 : ik_in q = 0 := q1
      omega
    · exact q1.1.1
  rw [lg_entry_eq]
  have hent := ik_entry (ad := ad) (sd := sd) hal
  have key := ih p l e (headSpec (ik_wsM q) (ik_rm q mc ms)).room s m (as.map (ik_v ad sd)).toArray below meth c (MQ below (ik_Qc D (va_A (ik_w ad sd ct h) s.heap.size) sd ad h.length rv h_q) (as.map (ik_v ad sd)).toArray s mc ms (va_A (ik_w ad sd ct h) s.heap.size)) D (va_A (ik_w ad sd ct h) s.heap.size) s.heap sd q h.length ad none 0 (ik_loc (ik_ml q) as) [] h 0 0 (pr, lr, sr, h_q, mc, ms)
    hX (fun x hx => Or.inr hx) (fun L xs hn => by cases hn) rfl hO (Nat.le_refl _) (Nat.le_refl _) he (Nat.le_refl _) (Nat.le_refl _) (Nat.le_refl _) (ik_ret_ok B.exec B.bytes B.returns B.notSynchronized hi hrv)
  exact key ad ct s.heap [] _ (fun _ _ => rfl) hK hP hD va_S.rf hent
theorem ik_K.same {D : va_G} {ct : Nat → ClassId} {h : List ik_E} {u U : State} (hv : u.vm = U.vm) (hK : ik_K D ct h u) : ik_K D ct h U := by
  have ha : u.vm.Alike U.vm := by rw [hv]; exact Vm.Alike.refl U.vm
  refine ⟨va_K.moved ha hK.1, fun k ty vs hk => va_K.moved ha (hK.2.1 k ty vs hk), fun w hw => ?_, fun C hC => va_AO.moved ha (hK.2.2.2 C hC)⟩
  have h2 := (List.mem_filter.mp hw).2
  have h1 := hK.2.2.1 w hw
  cases w <;> first | exact va_Nw.same rfl hv h1 | cases h2
theorem ik_Pq_blind {D : va_G} {ad : Nat → Nat} {sd : Nat → Option Nat} {ct : Nat → Nat} {h : List ik_E} {sz : Nat} {as : List Value} : FrameBlind (ik_Pq D ad sd ct h sz as) := by
  intro a U g mk q
  obtain ⟨q0, q1, q2, q3, q4, q5⟩ := q
  exact ⟨q0, q1, ik_K.same (u := U) (U := U.calling g mk a) rfl q2, q3, q4, ik_O.same (u := U) (U := U.calling g mk a) rfl q5⟩
set_option maxHeartbeats 4000000 in
/-- behind a call, whatever it gives back -/
theorem ik_after {p : Program} {l : Launch} {e : Env} {R : Room} {s : State} {m : MethodId} {args : Array Value} {below : List Frame} {meth : Method} {c : Code} {Q : State → Prop} {D : va_G} {A : Nat → Prop} {H0 H : Heap} {locs : List Loc} {sd : Nat → Option Nat} {ad ct ad0 : Nat → Nat} {mid n0 pc mc ms cl sl : Nat} {loc : ik_L} {rest rv st0 : List Value} {h h_q : List ik_E} {ls : Array Slot} {a : Array Value}
    (hr : va_Run p l e R s m args below meth c H locs cl sl mc ms (F0 m pc ls st0) (rest.map (ik_v ad sd)) (ik_Qc D (va_A (ik_w ad sd ct h) H.size) sd ad h.length rv h_q a) (va_A (ik_w ad sd ct h) H.size)) (hlen : rv.length ≤ 1) (hn0 : n0 ≤ h.length) (hn : ∀ k, k < n0 → ad k = ad0 k) (hK : ik_K D ct h s) (hD : va_D A (ik_w ad sd ct h)) (hS : va_S A H0 H locs) (hA : ∀ q, H0.size ≤ q → A q) (hl : ik_lh ad sd ls (ik_ml mid) loc)
    (hrest : rest.all (ik_wv h.length) = true) (hloc : loc.all (ik_wl h.length) = true)
    (k : ik_ok p l e R s m args below meth c Q D A H0 sd mid n0 ad0 (pc + 3, loc, rv ++ rest, h_q, cl + mc, sl + ms)) : W p l e R s m args below meth c H locs cl sl Q (F0 m pc ls st0) := by
  have hF : ∀ q, va_A (ik_w ad sd ct h) H.size q → A q := by
    intro q hq
    rcases hq with ⟨j, e0, hj⟩ | hq
    · exact hD.2 j _ hj
    · exact hA q (Nat.le_trans hS.1 hq)
  intro T hT X
  obtain ⟨v, st₀, t, T', L, h0, X', hL, e1, e2, ⟨⟨ad', ct', hv, hag, hKt, hPt, hDt⟩, hz, hk⟩, stp⟩ := hr T hT X
  rw [h0] at hz hk
  have hv : v = (rv.map (ik_v ad' sd)).head? := by cases hv; rfl
  have hS1 : va_S A H0 T'.heap (locs ++ L) := ⟨Nat.le_trans hS.1 (by rw [e1]; exact hz), fun q h1 h2 => by rw [e1, hk q (Nat.lt_of_lt_of_le h1 hS.1) (fun z => h2 (hF q z))]; exact hS.2.1 q h1 h2, fun q hq => by
    rcases List.mem_append.mp hq with h | h
    · exact hS.2.2 q h
    · exact hF _ (hL q h)⟩
  have hvm : s.vm.Alike t.vm := by rw [← e2]; exact X'.warmed.alike
  have hvv : ∀ w : Value, ik_wv h.length w = true → ik_v ad' sd w = ik_v ad sd w := by
    intro w hw
    cases w with
    | ref j =>
      have hj : j < h.length := by simpa [ik_wv] using hw
      show Value.ref (ad' j) = Value.ref (ad j)
      rw [hag j hj]
    | _ => rfl
  have hrest' : rest.map (ik_v ad' sd) = rest.map (ik_v ad sd) := List.map_congr_left fun w hw => hvv w (List.all_eq_true.mp hrest w hw)
  have hpr : ik_pr ad' sd loc = ik_pr ad sd loc := by
    unfold ik_pr
    congr 1
    funext i
    cases hi : loc[i]? with
    | none => rfl
    | some o =>
      cases o with
      | none => rfl
      | some w =>
        have hw := List.all_eq_true.mp hloc (some w) (List.mem_of_getElem? hi)
        simp only [hvv w hw]
  have kk := k ad' ct' T'.heap (locs ++ L) ls (fun j hj => (hag j (Nat.lt_of_lt_of_le hj hn0)).trans (hn j hj)) ⟨hK.1, fun j ty vs hj => va_K.moved hvm.symm (hKt j ty vs hj), hK.2.2⟩ (by rw [e1]; exact hPt) (hDt.weaken (fun _ _ _ q => hF _ q)) hS1 (by unfold ik_lh; dsimp only; rw [hpr]; exact hl)
  dsimp only at kk
  rw [List.map_append, hrest'] at kk
  have kk2 := kk T' rfl X'
  obtain ⟨t2, a1, b1⟩ := kk2
  refine ⟨t2, stp t2 ?_, b1⟩
  rw [hv, ik_hd hlen]
  exact a1
theorem ik_ca_ok {mid x q n kd pos : Nat} (hm : mid < ik_M.length) (h : ik_ca mid x = some (q, n, kd, pos)) : ik_cchk (ik_ow mid) (x, q, n, kd, pos) = true := ik_row (Nat.le_of_ble_eq_true rfl) ik_call_all h
theorem ik_len_map {α : Type} {x : Option α} {f : α → Nat} {n : Nat} (h : x.map (fun d => f d + 1) = some (n + 1)) : x.map f = some n := by
  cases x with
  | none => cases h
  | some d =>
    have hz : f d + 1 = n + 1 := Option.some.inj h
    show some (f d) = some n
    congr 1
    omega
/-- what the tables say of a callee -/
theorem ik_callee {q : Nat} (h0 : 0 < q) (h : q < ik_M.length) : Cond.initialized (ik_y q).cls ∈ ik_ts ∧ ((ik_MP.getD q (0, 0, 0, 0, true)).2.2.2.2 = true → Cond.static (ik_y q) ∈ ik_ts) ∧ ((ik_MP.getD q (0, 0, 0, 0, true)).2.2.2.2 = false → Cond.instanceMethod (ik_y q) ∈ ik_ts ∧ ((ik_y q).name ≠ "<init>" → Cond.selects (ik_y q).cls (ik_y q) (ik_y q) ∈ ik_ts)) ∧ ((ik_y q).cls ≠ "java/lang/invoke/MethodHandle" ∧ (ik_y q).cls ≠ "java/lang/invoke/VarHandle") ∧ ik_oN[ik_ow q]? = some (ik_y q).cls := by
  have hch := ik_mch h0 h
  unfold ik_mchk at hch
  simp only [Bool.and_eq_true, Bool.or_eq_true, decide_eq_true_eq] at hch
  obtain ⟨⟨⟨⟨⟨⟨h1, h2⟩, h3⟩, h4⟩, h5⟩, h6⟩, h7⟩ := hch
  refine ⟨ik_tw_ok h1, fun hs => ?_, fun hs => ?_, ?_, h6⟩
  · rw [hs] at h2
    exact ik_tw_ok h2
  · rw [hs] at h2 h3
    refine ⟨ik_tw_ok h2, fun hn => ?_⟩
    rcases h3 with (q1 | q1) | q1
    · cases q1
    · exact absurd q1 hn
    · exact ik_tw_ok q1
  · unfold ik_isMH at h4
    simp only [Bool.not_eq_true', Bool.or_eq_false_iff, decide_eq_false_iff_not] at h4
    exact h4
theorem ik_MPt {q : Nat} (h : (ik_MP.getD q (0, 0, 0, 0, false)).2.2.2.2 = true) : (ik_MP.getD q (0, 0, 0, 0, true)).2.2.2.2 = true := by
  rw [List.getD_eq_getElem?_getD] at h ⊢
  cases hx : ik_MP[q]? with
  | none => rfl
  | some x => rw [hx] at h; exact h

/-! 13.calls -/
theorem ik_sum_map (ad : Nat → Nat) (sd : Nat → Option Nat) (r : List Value) : ((r.map (ik_v ad sd)).map fun v => v.category).sum = ik_sum r := by
  unfold ik_sum
  rw [List.map_map]
  congr 1
  apply List.map_congr_left
  intro v _
  exact ik_v_cat ad sd v
theorem ik_cpy_get {vs ws : List Value} {sp dp n : Nat} (h1 : sp + n ≤ vs.length) (h2 : dp + n ≤ ws.length) (j : Nat) : (ik_cpy vs ws sp dp n).getD j .null = if dp ≤ j ∧ j < dp + n then vs.getD (sp + (j - dp)) .null else ws.getD j .null := by
  unfold ik_cpy
  simp only [List.getD_eq_getElem?_getD]
  congr 1
  by_cases a1 : j < dp
  · rw [if_neg (by omega), List.append_assoc, List.getElem?_append_left (by rw [List.length_take]; omega), List.getElem?_take_of_lt a1]
  · by_cases a2 : j < dp + n
    · rw [if_pos ⟨by omega, a2⟩, List.getElem?_append_left (by simp only [List.length_append, List.length_take, List.length_drop]; omega), List.getElem?_append_right (by rw [List.length_take]; omega), List.length_take, Nat.min_eq_left (by omega), List.getElem?_take_of_lt (by omega), List.getElem?_drop]
    · have hlen : (ws.take dp ++ (vs.drop sp).take n).length = dp + n := by
        simp only [List.length_append, List.length_take, List.length_drop]
        omega
      rw [if_neg (by omega), List.getElem?_append_right (by rw [hlen]; omega), List.getElem?_drop, hlen, show dp + n + (j - (dp + n)) = j by omega]
theorem ik_cpy_len {vs ws : List Value} {sp dp n : Nat} (h1 : sp + n ≤ vs.length) (h2 : dp + n ≤ ws.length) : (ik_cpy vs ws sp dp n).length = ws.length := by
  unfold ik_cpy
  simp only [List.length_append, List.length_take, List.length_drop]
  omega
set_option maxHeartbeats 4000000 in
theorem ik_acp_ok {p : Program} {l : Launch} {e : Env} {R : Room} {s : State} {m : MethodId} {args : Array Value} {below : List Frame} {meth : Method} {c : Code} {Q : State → Prop} {D : va_G} {A : Nat → Prop} {H0 : Heap} {sd : Nat → Option Nat} {mid n0 : Nat} {ad0 : Nat → Nat} {i : Instr} {pc : Nat} {loc : ik_L} {st r : List Value} {h h_q : List ik_E} {cl sl q kn : Nat} (C0 : ik_X p s m args meth c mid) (hi : ik_at mid pc = some i) (hc : ik_call mid i = some (q, kn, 5)) (ha : ik_acp st h = some (r, h_q)) (hrm : 1 ≤ ik_fr mid ∧ 40 ≤ ik_lo mid ∧ ik_sum r ≤ 8) (hfr : ik_fr mid ≤ R.frames) (hlo : ik_lo mid ≤ R.locals)
    (k : ik_ok p l e R s m args below meth c Q D A H0 sd mid n0 ad0 (pc + 3, loc, r, h_q, cl, sl)) : ik_ok p l e R s m args below meth c Q D A H0 sd mid n0 ad0 (pc, loc, st, h, cl, sl) := by
  obtain ⟨hx, hb, hml, hown, hts, hin, hmid⟩ := C0
  have hd := ik_dec hi
  intro ad ct H locs ls hn hK hP hD hS hl
  unfold ik_ok at k
  dsimp only at hK hP hD hl k ⊢
  unfold ik_call at hc
  split at hc
  · split at hc <;> cases hc
  · split at hc <;> cases hc
  · rename_i x
    split at hc
    · cases hc
    · cases hc
    · rename_i q9 n9 p9 hca
      have hch := ik_ca_ok hmid hca
      unfold ik_cchk at hch
      rw [ik_ownN hmid] at hch
      simp only [Bool.and_eq_true] at hch
      unfold ik_acp at ha
      split at ha
      · rename_i n dp b sp a r
        split at ha
        · rename_i vs ws hva hvb
          split at ha
          · rename_i hcd
            obtain ⟨c1, c2, c3, c4, c5, c6⟩ := hcd
            cases ha
            have hKa := (hK.2.1 a _ vs hva).app (hK.2.1 b _ ws hvb)
            refine va_copyi hx hb (hml.trans hl.1.symm) hown (hts _ (ik_tw_ok hch.1)) (hts _ (ik_tw_ok ik_sys.1)) (hts _ (ik_tw_ok ik_sys.2.1)) (hts _ (ik_tw_ok ik_sys.2.2.1)) hKa hP hD hS a b 0 1 (ik_w_at hva) (ik_w_at hvb) rfl rfl rfl c3 c2 c1 c4 c5 (fun _ _ => rfl) (Nat.le_trans hrm.1 hfr) ?_ hd (fun H1 locs1 hP1 hD1 hS1 => ?_)
            · rw [ik_sum_map]
              have : nativeFrameWords "java/lang/System" "arraycopy" 5 = 7 := by decide
              omega
            · have e3 : (ad b, (.inl (ct b, ws.length, .inl (va_cpy (fun j => ik_I (vs.getD j .null)) (fun j => ik_I (ws.getD j .null)) sp.toNatClampNeg dp.toNatClampNeg n.toNatClampNeg)) : va_E)) = ik_c ad sd ct b (.inl (.int, ik_cpy vs ws sp.toNatClampNeg dp.toNatClampNeg n.toNatClampNeg)) := by
                unfold ik_c ik_a
                dsimp only
                rw [ik_cpy_len c4 c5]
                have e8 : va_cpy (fun j => ik_I (vs.getD j .null)) (fun j => ik_I (ws.getD j .null)) sp.toNatClampNeg dp.toNatClampNeg n.toNatClampNeg = fun j => ik_I ((ik_cpy vs ws sp.toNatClampNeg dp.toNatClampNeg n.toNatClampNeg).getD j .null) := by
                  funext j
                  rw [ik_cpy_get c4 c5]
                  unfold va_cpy
                  split <;> rfl
                rw [e8]
              rw [e3, ik_w_set] at hP1 hD1
              exact k ad ct H1 locs1 ls hn (hK.setL hvb _) hP1 hD1 hS1 hl
          · cases ha
        · cases ha
      · cases ha
    · cases hc
    · cases hc
  · cases hc
set_option maxHeartbeats 4000000 in
theorem ik_math_ok {p : Program} {l : Launch} {e : Env} {R : Room} {s : State} {m : MethodId} {args : Array Value} {below : List Frame} {meth : Method} {c : Code} {Q : State → Prop} {D : va_G} {A : Nat → Prop} {H0 : Heap} {sd : Nat → Option Nat} {mid n0 : Nat} {ad0 : Nat → Nat} {i : Instr} {pc : Nat} {loc : ik_L} {st st_q : List Value} {h : List ik_E} {cl sl q kn : Nat} (C0 : ik_X p s m args meth c mid) (hi : ik_at mid pc = some i) (hc : ik_call mid i = some (q, kn, 7)) (ha : ik_math q st = some st_q) (hrm : 1 ≤ ik_fr mid ∧ 40 ≤ ik_lo mid ∧ ik_sum (st_q.drop 1) ≤ 8) (hfr : ik_fr mid ≤ R.frames) (hlo : ik_lo mid ≤ R.locals) (hcs : cl ≤ R.cells ∧ sl ≤ R.slots)
    (k : ik_ok p l e R s m args below meth c Q D A H0 sd mid n0 ad0 (pc + 3, loc, st_q, h, cl, sl)) : ik_ok p l e R s m args below meth c Q D A H0 sd mid n0 ad0 (pc, loc, st, h, cl, sl) := by
  obtain ⟨hx, hb, hml, hown, hts, hin, hmid⟩ := C0
  have hd := ik_dec hi
  intro ad ct H locs ls hn hK hP hD hS hl
  unfold ik_ok at k
  dsimp only at hK hP hD hl k ⊢
  unfold ik_call at hc
  split at hc
  · split at hc <;> cases hc
  · split at hc <;> cases hc
  · rename_i x
    split at hc
    · cases hc
    · cases hc
    · cases hc
    · rename_i q9 n9 p9 hca
      cases hc
      have hch := ik_ca_ok hmid hca
      unfold ik_cchk at hch
      rw [ik_ownN hmid] at hch
      simp only [Bool.and_eq_true] at hch
      unfold ik_math at ha
      split at ha
      · rename_i y x1 r
        cases ha
        have h8 : ik_sum r ≤ 8 := hrm.2.2
        exact va_mmin hx hb (hml.trans hl.1.symm) hown (hts _ (ik_tw_ok hch.1)) (hts _ (ik_tw_ok ik_mth.1)) (hts _ (ik_tw_ok ik_mth.2.2.2)) (hts _ (List.mem_filter.mpr ⟨List.mem_of_getElem? ik_mthc.1, rfl⟩)) (Nat.le_trans hrm.1 hfr) (by rw [ik_sum_map]; omega) hcs.1 hcs.2 hd (k ad ct H locs ls hn hK hP hD hS hl)
      · rename_i x1 r
        cases ha
        have h8 : ik_sum r ≤ 8 := hrm.2.2
        exact va_mabs hx hb (hml.trans hl.1.symm) hown (hts _ (ik_tw_ok hch.1)) (hts _ (ik_tw_ok ik_mth.2.1)) (hts _ (ik_tw_ok ik_mth.2.2.2)) (hts _ (List.mem_filter.mpr ⟨List.mem_of_getElem? ik_mthc.2.1, rfl⟩)) (Nat.le_trans hrm.1 hfr) (by rw [ik_sum_map]; omega) hcs.1 hcs.2 hd (k ad ct H locs ls hn hK hP hD hS hl)
      · rename_i y x1 r
        cases ha
        have h8 : ik_sum r ≤ 8 := hrm.2.2
        exact va_mmax_long hx hb (hml.trans hl.1.symm) hown (hts _ (ik_tw_ok hch.1)) (hts _ (ik_tw_ok ik_mth.2.2.1)) (hts _ (ik_tw_ok ik_mth.2.2.2)) (hts _ (List.mem_filter.mpr ⟨List.mem_of_getElem? ik_mthc.2.2, rfl⟩)) (Nat.le_trans hrm.1 hfr) (by rw [ik_sum_map]; omega) hcs.1 hcs.2 hd (k ad ct H locs ls hn hK hP hD hS hl)
      · cases ha
    · cases hc
  · cases hc
set_option maxHeartbeats 8000000 in
set_option maxRecDepth 100000 in
theorem ik_call_ok {n : Nat} (ih : ik_S n) {p : Program} {l : Launch} {e : Env} {R : Room} {s : State} {m : MethodId} {args : Array Value} {below : List Frame} {meth : Method} {c : Code} {Q : State → Prop} {D : va_G} {A : Nat → Prop} {H0 : Heap} {sd : Nat → Option Nat} {mid n0 : Nat} {ad0 : Nat → Nat} {i : Instr} {pc : Nat} {loc : ik_L} {st : List Value} {h h_q : List ik_E} {cl sl q kn kd : Nat} {pr : Nat} {lr : ik_L} {sr rv : List Value} {mc ms : Nat} {ir : Instr} (C0 : ik_X p s m args meth c mid) (hA : ∀ q, H0.size ≤ q → A q) (hH0 : H0 = s.heap) (hO : ik_O sd A s s.heap) (hi : ik_at mid pc = some i) (hc : ik_call mid i = some (q, kn, kd)) (hf : (ik_fitC mid q kd (st.take kn).reverse h (st.drop kn) loc && decide ((st.take kn).length = kn)) = true)
    (he : ik_ex none n q 0 (ik_loc (ik_ml q) (st.take kn).reverse) [] h 0 0 = some (pr, lr, sr, h_q, mc, ms)) (hir : ik_at q pr = some ir) (hrv : ik_rv (ik_rt q) ir sr = some rv) (hfr : ik_fr mid ≤ R.frames) (hlo : ik_lo mid ≤ R.locals) (hn0 : n0 ≤ h.length) (hrm : cl + mc ≤ R.cells ∧ sl + ms ≤ R.slots)
    (k : ik_ok p l e R s m args below meth c Q D A H0 sd mid n0 ad0 (pc + 3, loc, rv ++ st.drop kn, h_q, cl + mc, sl + ms)) : ik_ok p l e R s m args below meth c Q D A H0 sd mid n0 ad0 (pc, loc, st, h, cl, sl) := by
  obtain ⟨hx, hb, hml, hown, hts, hin, hmid⟩ := C0
  have hd := ik_dec hi
  intro ad ct H locs ls hn hK hP hD hS hl
  dsimp only at hK hP hD hl ⊢
  simp only [Bool.and_eq_true, decide_eq_true_eq] at hf
  obtain ⟨hf, hkn⟩ := hf
  unfold ik_fitC at hf
  simp only [Bool.and_eq_true, decide_eq_true_eq] at hf
  obtain ⟨⟨⟨⟨⟨⟨⟨f1, f2⟩, f3⟩, f4⟩, f5⟩, f6⟩, f7⟩, f8⟩ := hf
  generalize hasE : (st.take kn).reverse = as at he f4 f8
  have hst : st = as.reverse ++ st.drop kn := by rw [← hasE, List.reverse_reverse, List.take_append_drop]
  have hasl : as.length = kn := by rw [← hasE, List.length_reverse]; exact hkn
  generalize st.drop kn = rest at hst f3 f6 k
  subst hst
  have hW : 2 * (F0 m pc ls ((as.reverse ++ rest).map (ik_v ad sd))).monitorRoom + ((rest.map (ik_v ad sd)).map fun v => v.category).sum ≤ 8 := lv_room (by rw [ik_sum_map]; exact f3)
  subst hH0
  have hFA : ∀ q, va_A (ik_w ad sd ct h) H.size q → A q := by
    intro q hq
    rcases hq with ⟨j, e0, hj⟩ | hq
    · exact hD.2 j _ hj
    · exact hA q (Nat.le_trans hS.1 hq)
  have hS0 : ∀ U : State, U.heap = H → s.WarmedH U.vm → ik_Pq D ad sd ct h H.size as (as.map (ik_v ad sd)).toArray U := fun U hU hWm => ⟨rfl, by rw [hU], hK.warm hWm, by rw [hU]; exact hP, hD.weaken (fun _ _ _ _ => trivial), hO.call hS hWm hU hFA⟩
  have hroom : (ik_rm q mc ms).frames + 1 ≤ R.frames ∧ 8 + (ik_ml q + 11) + (ik_rm q mc ms).locals ≤ R.locals := ⟨Nat.le_trans f1 hfr, Nat.le_trans f2 hlo⟩
  unfold ik_call at hc
  split at hc
  · rename_i x
    split at hc
    · rename_i q9 n9 p9 hca
      cases hc
      have hch := ik_ca_ok hmid hca
      unfold ik_cchk at hch
      rw [ik_ownN hmid] at hch
      simp only [Bool.and_eq_true, decide_eq_true_eq, Bool.or_eq_true] at hch
      obtain ⟨⟨⟨⟨c1, c2⟩, c3⟩, c4⟩, c5⟩ := hch
      have hq0 : 0 < q := by omega
      obtain ⟨d1, d2, d3, d4, d5⟩ := ik_callee hq0 f5
      have hMP : (ik_MP.getD q (0, 0, 0, 0, true)).2.2.2.2 = false := by simpa using c3
      obtain ⟨d6, d7⟩ := d3 hMP
      have hcode := ik_code_in hq0 f5
      have hM := ik_met ih l D ad sd ct H.size hq0 f5 f4 he hir hrv
      match as, f8, hasl, hS0, hM, hW with
      | .ref a :: as', f8, hasl, hS0, hM, hW =>
        have f8 : (match h[a]? with
          | some (.inr (ci, _)) => decide (ci = ik_ow q) && decide (ci < 11)
          | _ => false) = true := f8
        split at f8
        · rename_i ci fs hcell
          simp only [Bool.and_eq_true, decide_eq_true_eq] at f8
          obtain ⟨g1, g2⟩ := f8
          obtain ⟨C, T, N, hvw⟩ := ik_vw g2
          have hC : C = (ik_y q).cls := by
            have := (ik_cls_ok hvw).2.2.2.2.2.2.2
            rw [g1, d5] at this
            exact (Option.some.inj this).symm
          have hl' : (parseMethodDescriptor (ik_y q).desc).map (fun d => d.parameters.length) = some as'.length := ik_len_map (by rw [c4, ← hasl]; rfl)
          have cw : CallW R s args (ik_own mid) (ik_y q).cls x (ik_y q) (ik_by q) (ik_ml q) (ik_rt q) (ik_wsM q) (ik_rm q mc ms) mc ms as'.length := ⟨callB_of _ hts (ik_good hcode) rfl rfl rfl (hts _ d1) (hts _ (ik_tw_ok c1)) ⟨d4.1, d4.2, hl'⟩ hroom, hts _ d6, hts _ (d7 c2)⟩
          have hrecv := va_recv hK.1 hP hvw (ik_w_at hcell)
          have hrun := va_runV (As := as'.map (ik_v ad sd)) (rest := rest.map (ik_v ad sd)) (g := F0 m pc ls (((Value.ref a :: as').reverse ++ rest).map (ik_v ad sd))) (b := ad a) (locs := locs) (cells := cl) (slots := sl) (below := below) (meth := meth) (e := e) ⟨hx, hb, hml, hown, hts⟩ hM cw ⟨ik_Pq_blind, by rw [← hC]; exact hrecv, hS0⟩ rfl (by rw [List.length_map]) hl.1 (by simp [ik_v]) hW hd hrm
          exact ik_after hrun (ik_rv_len hrv).2 hn0 hn hK hD hS hA hl f6 f7 k
        · cases f8
      | [], f8, _, _, _, _ => cases f8
      | .int _ :: _, f8, _, _, _, _ => cases f8
      | .long _ :: _, f8, _, _, _, _ => cases f8
      | .float _ :: _, f8, _, _, _, _ => cases f8
      | .double _ :: _, f8, _, _, _, _ => cases f8
      | .null :: _, f8, _, _, _, _ => cases f8
      | .retAddr 0 :: _, f8, _, _, _, _ => cases f8
      | .retAddr (kr + 1) :: as', f8, hasl, hS0, hM, hW =>
        have f8 : (decide (kr % 2 = 0) && decide (kr < 6) && decide (ik_ow q = ik_sow)) = true := f8
        simp only [Bool.and_eq_true, decide_eq_true_eq] at f8
        obtain ⟨⟨g1, g2⟩, g3⟩ := f8
        have hC : "java/lang/String" = (ik_y q).cls := by
          have h9 := d5
          rw [g3, ik_sowN] at h9
          exact Option.some.inj h9
        have hl' : (parseMethodDescriptor (ik_y q).desc).map (fun d => d.parameters.length) = some as'.length := ik_len_map (by rw [c4, ← hasl]; rfl)
        have cw : CallW R s args (ik_own mid) (ik_y q).cls x (ik_y q) (ik_by q) (ik_ml q) (ik_rt q) (ik_wsM q) (ik_rm q mc ms) mc ms as'.length := ⟨callB_of _ hts (ik_good hcode) rfl rfl rfl (hts _ d1) (hts _ (ik_tw_ok c1)) ⟨d4.1, d4.2, hl'⟩ hroom, hts _ d6, hts _ (d7 c2)⟩
        obtain ⟨o0, adK, adV, o1, o2, o3, o4, o5⟩ := hO
        have hi3 : kr / 2 < 3 := by omega
        have er : ik_v ad sd (.retAddr (kr + 1)) = .ref (adK (kr / 2)) := by
          show va_rf (sd (kr + 1)) = _
          rw [show kr + 1 = 2 * (kr / 2) + 1 by omega, (o1 _ hi3).1]
          rfl
        have hrecv := vk_recv o2 hi3 hS
        have hrun := va_runV (As := as'.map (ik_v ad sd)) (rest := rest.map (ik_v ad sd)) (g := F0 m pc ls (((Value.retAddr (kr + 1) :: as').reverse ++ rest).map (ik_v ad sd))) (b := adK (kr / 2)) (locs := locs) (cells := cl) (slots := sl) (below := below) (meth := meth) (e := e) ⟨hx, hb, hml, hown, hts⟩ hM cw ⟨ik_Pq_blind, by rw [← hC]; exact hrecv, fun U h1 h2 => by have h3 := hS0 U h1 h2; rw [List.map_cons, er] at h3; exact h3⟩ rfl (by rw [List.length_map]) hl.1 (by simp [er]) hW hd hrm
        exact ik_after hrun (ik_rv_len hrv).2 hn0 hn hK hD hS hA hl f6 f7 k
    · cases hc
  · rename_i x
    split at hc
    · rename_i q9 n9 p9 hca
      cases hc
      have hch := ik_ca_ok hmid hca
      unfold ik_cchk at hch
      rw [ik_ownN hmid] at hch
      simp only [Bool.and_eq_true, decide_eq_true_eq, Bool.or_eq_true] at hch
      obtain ⟨⟨⟨⟨⟨c1, c2⟩, c2b⟩, c3⟩, c4⟩, c5⟩ := hch
      have hq0 : 0 < q := by omega
      obtain ⟨d1, d2, d3, d4, d5⟩ := ik_callee hq0 f5
      have hMP : (ik_MP.getD q (0, 0, 0, 0, true)).2.2.2.2 = false := by simpa using c3
      obtain ⟨d6, d7⟩ := d3 hMP
      have hcode := ik_code_in hq0 f5
      have hM := ik_met ih l D ad sd ct H.size hq0 f5 f4 he hir hrv
      match as, f8, hasl, hS0, hM, hW with
      | .ref a :: as', f8, hasl, hS0, hM, hW =>
        have hl' : (parseMethodDescriptor (ik_y q).desc).map (fun d => d.parameters.length) = some as'.length := ik_len_map (by rw [c4, ← hasl]; rfl)
        have cw : CallB R s args (ik_own mid) x (ik_y q) (ik_by q) (ik_ml q) none (ik_wsM q) (ik_rm q mc ms) mc ms as'.length ∧ (ik_y q).name = "<init>" ∧ (Cond.instanceMethod (ik_y q)).before args s = true := ⟨callB_of _ hts (ik_good hcode) (by unfold ik_wsM; rw [c2b]) rfl rfl (hts _ d1) (hts _ (ik_tw_ok c1)) ⟨d4.1, d4.2, hl'⟩ hroom, c2, hts _ d6⟩
        have hrun := va_runI (As := as'.map (ik_v ad sd)) (rest := rest.map (ik_v ad sd)) (g := F0 m pc ls (((Value.ref a :: as').reverse ++ rest).map (ik_v ad sd))) (b := ad a) (locs := locs) (cells := cl) (slots := sl) (below := below) (meth := meth) (e := e) ⟨hx, hb, hml, hown, hts⟩ hM cw ⟨ik_Pq_blind, hS0⟩ rfl (by rw [List.length_map]) hl.1 (by simp [ik_v]) hW hd hrm
        exact ik_after hrun (ik_rv_len hrv).2 hn0 hn hK hD hS hA hl f6 f7 k
      | [], f8, _, _, _, _ => cases f8
      | .int _ :: _, f8, _, _, _, _ => cases f8
      | .long _ :: _, f8, _, _, _, _ => cases f8
      | .float _ :: _, f8, _, _, _, _ => cases f8
      | .double _ :: _, f8, _, _, _, _ => cases f8
      | .null :: _, f8, _, _, _, _ => cases f8
      | .retAddr _ :: _, f8, _, _, _, _ => cases f8
    · rename_i q9 n9 p9 hca
      cases hc
      have hch := ik_ca_ok hmid hca
      unfold ik_cchk at hch
      rw [ik_ownN hmid] at hch
      simp only [Bool.and_eq_true, decide_eq_true_eq, Bool.or_eq_true] at hch
      obtain ⟨⟨⟨⟨⟨c1, c2⟩, c2b⟩, c3⟩, c4⟩, c5⟩ := hch
      have hq0 : 0 < q := by omega
      obtain ⟨d1, d2, d3, d4, d5⟩ := ik_callee hq0 f5
      have hMP : (ik_MP.getD q (0, 0, 0, 0, true)).2.2.2.2 = false := by simpa using c3
      obtain ⟨d6, d7⟩ := d3 hMP
      have hcode := ik_code_in hq0 f5
      have hM := ik_met ih l D ad sd ct H.size hq0 f5 f4 he hir hrv
      match as, f8, hasl, hS0, hM, hW with
      | .ref a :: as', f8, hasl, hS0, hM, hW =>
        have hl' : (parseMethodDescriptor (ik_y q).desc).map (fun d => d.parameters.length) = some as'.length := ik_len_map (by rw [c4, ← hasl]; rfl)
        have cw : va_CN R s args (ik_own mid) x (ik_y q) "SlowerCork" (ik_by q) (ik_ml q) none (ik_wsM q) (ik_rm q mc ms) mc ms as'.length ∧ (ik_y q).name = "<init>" ∧ (Cond.instanceMethod (ik_y q)).before args s = true := ⟨va_cnB _ hts (ik_good hcode) (by unfold ik_wsM; rw [c2b]) rfl rfl (hK.2.2.1 _ (ik_tn_ok c1)) (hts _ d1) ⟨d4.1, d4.2, hl'⟩ hroom, c2, hts _ d6⟩
        have hrun := va_runIN (As := as'.map (ik_v ad sd)) (rest := rest.map (ik_v ad sd)) (g := F0 m pc ls (((Value.ref a :: as').reverse ++ rest).map (ik_v ad sd))) (b := ad a) (locs := locs) (cells := cl) (slots := sl) (below := below) (meth := meth) (e := e) ⟨hx, hb, hml, hown, hts⟩ hM cw ⟨ik_Pq_blind, hS0⟩ rfl (by rw [List.length_map]) hl.1 (by simp [ik_v]) hW hd hrm
        exact ik_after hrun (ik_rv_len hrv).2 hn0 hn hK hD hS hA hl f6 f7 k
      | [], f8, _, _, _, _ => cases f8
      | .int _ :: _, f8, _, _, _, _ => cases f8
      | .long _ :: _, f8, _, _, _, _ => cases f8
      | .float _ :: _, f8, _, _, _, _ => cases f8
      | .double _ :: _, f8, _, _, _, _ => cases f8
      | .null :: _, f8, _, _, _, _ => cases f8
      | .retAddr _ :: _, f8, _, _, _, _ => cases f8
    · cases hc
      cases f8
    · cases hc
  · rename_i x
    split at hc
    · rename_i q9 n9 p9 hca
      cases hc
      have hch := ik_ca_ok hmid hca
      unfold ik_cchk at hch
      rw [ik_ownN hmid] at hch
      simp only [Bool.and_eq_true, decide_eq_true_eq, Bool.or_eq_true] at hch
      obtain ⟨⟨⟨c1, c3⟩, c4⟩, c5⟩ := hch
      have hq0 : 0 < q := by omega
      obtain ⟨d1, d2, d3, d4, d5⟩ := ik_callee hq0 f5
      have hMP : (ik_MP.getD q (0, 0, 0, 0, true)).2.2.2.2 = true := ik_MPt c3
      have hcode := ik_code_in hq0 f5
      have hM := ik_met ih l D ad sd ct H.size hq0 f5 f4 he hir hrv
      have cw : CallB R s args (ik_own mid) x (ik_y q) (ik_by q) (ik_ml q) (ik_rt q) (ik_wsM q) (ik_rm q mc ms) mc ms kn ∧ (Cond.static (ik_y q)).before args s = true := ⟨callB_of _ hts (ik_good hcode) rfl rfl rfl (hts _ d1) (hts _ (ik_tw_ok c1)) ⟨d4.1, d4.2, c4⟩ hroom, hts _ (d2 hMP)⟩
      have hrun := va_runS (As := as.map (ik_v ad sd)) (rest := rest.map (ik_v ad sd)) (g := F0 m pc ls ((as.reverse ++ rest).map (ik_v ad sd))) (locs := locs) (cells := cl) (slots := sl) (below := below) (meth := meth) (e := e) ⟨hx, hb, hml, hown, hts⟩ hM cw ⟨ik_Pq_blind, hS0⟩ rfl (by rw [List.length_map]; exact hasl) hl.1 (by simp) hW hd hrm
      exact ik_after hrun (ik_rv_len hrv).2 hn0 hn hK hD hS hA hl f6 f7 k
    · rename_i q9 n9 p9 hca
      cases hc
      have hch := ik_ca_ok hmid hca
      unfold ik_cchk at hch
      rw [ik_ownN hmid] at hch
      simp only [Bool.and_eq_true, decide_eq_true_eq, Bool.or_eq_true] at hch
      obtain ⟨⟨⟨c1, c3⟩, c4⟩, c5⟩ := hch
      have hq0 : 0 < q := by omega
      obtain ⟨d1, d2, d3, d4, d5⟩ := ik_callee hq0 f5
      have hMP : (ik_MP.getD q (0, 0, 0, 0, true)).2.2.2.2 = true := ik_MPt c3
      have hcode := ik_code_in hq0 f5
      have hM := ik_met ih l D ad sd ct H.size hq0 f5 f4 he hir hrv
      have cw : va_CN R s args (ik_own mid) x (ik_y q) "SlowerCork" (ik_by q) (ik_ml q) (ik_rt q) (ik_wsM q) (ik_rm q mc ms) mc ms kn ∧ (Cond.static (ik_y q)).before args s = true ∧ True := ⟨va_cnB _ hts (ik_good hcode) rfl rfl rfl (hK.2.2.1 _ (ik_tn_ok c1)) (hts _ d1) ⟨d4.1, d4.2, c4⟩ hroom, hts _ (d2 hMP), trivial⟩
      have hrun := va_runSN (As := as.map (ik_v ad sd)) (rest := rest.map (ik_v ad sd)) (g := F0 m pc ls ((as.reverse ++ rest).map (ik_v ad sd))) (locs := locs) (cells := cl) (slots := sl) (below := below) (meth := meth) (e := e) ⟨hx, hb, hml, hown, hts⟩ hM cw ⟨ik_Pq_blind, hS0⟩ rfl (by rw [List.length_map]; exact hasl) hl.1 (by simp) hW hd hrm
      exact ik_after hrun (ik_rv_len hrv).2 hn0 hn hK hD hS hA hl f6 f7 k
    · cases hc
      cases f8
    · cases hc
      cases f8
    · cases hc
  · cases hc

/-! 14.sound -/
set_option maxHeartbeats 16000000 in
set_option maxRecDepth 100000 in
theorem ik_sound : ∀ n, ik_S n := by
  intro n
  induction n with
  | zero =>
    intro p l e R s m args below meth c Q D A H0 sd mid n0 ad0 X pc loc st h cl sl z C0 hA hX hH0 hO hfr hlo hs
    cases hs
  | succ n ih =>
    intro p l e R s m args below meth c Q D A H0 sd mid n0 ad0 X pc loc st h cl sl z C0 hA hX hH0 hO hfr hlo hs hn0 hcl hsl k
    simp only [ik_ex] at hs
    split at hs
    · cases hs
    · rename_i i hi
      have hd := ik_dec hi
      cases hr : ik_isR i with
      | true =>
        rw [hr] at hs
        cases hs
        exact k
      | false =>
        rw [hr] at hs
        simp only [cond_false] at hs
        split at hs
        · rename_i q kn kd hc
          have C1 := C0
          obtain ⟨hx, hb, hml, hown, hts, hin, hmid⟩ := C1
          split at hs
          · -- Object's constructor
            split at hs
            · rename_i a r
              unfold ik_bo at hs
              split at hs
              · rename_i hrm
                have kk := ih p l e R s m args below meth c Q D A H0 sd mid n0 ad0 X (pc + 3) loc r h cl sl z C0 hA hX hH0 hO hfr hlo hs hn0 hcl hsl k
                intro ad ct H locs ls hn hK hP hD hS hl
                dsimp only at hK hP hD hl ⊢
                have key := kk ad ct H locs ls hn hK hP hD hS hl
                dsimp only at key
                unfold ik_call at hc
                split at hc
                · split at hc
                  · cases hc
                  · cases hc
                · rename_i x
                  split at hc
                  · cases hc
                  · cases hc
                  · rename_i q9 n9 p9 hca
                    have hch := ik_ca_ok hmid hca
                    unfold ik_cchk at hch
                    rw [ik_ownN hmid] at hch
                    simp only [Bool.and_eq_true] at hch
                    rw [List.map_cons, show ik_v ad sd (Value.ref a) = Value.ref (ad a) from rfl]
                    refine W.objInit hx hb hown (hts _ (ik_tw_ok hch.1)) (hts _ (ik_tw_ok ik_sys.2.2.2.1)) (hts _ (ik_tw_ok ik_sys.2.2.2.2)) (a := ad a) rfl (by rw [hml]; exact hl.1) rfl hd (Nat.le_trans hrm.1 hfr) ?_ key
                    have hsum : ((r.map (ik_v ad sd)).map fun v => v.category).sum = ik_sum r := by
                      unfold ik_sum
                      rw [List.map_map]
                      congr 1
                      apply List.map_congr_left
                      intro v _
                      exact ik_v_cat ad sd v
                    have h8 := lv_room (m := m) (pc := pc) (ls := ls) (rest := Value.ref (ad a) :: r.map (ik_v ad sd)) (st := r.map (ik_v ad sd)) (by rw [hsum]; exact hrm.2.2)
                    have h9 : 2 * (F0 m pc ls (Value.ref (ad a) :: r.map (ik_v ad sd))).monitorRoom + ((r.map (ik_v ad sd)).map fun v => v.category).sum ≤ 8 := h8
                    omega
                  · cases hc
                · split at hc
                  · cases hc
                  · cases hc
                  · cases hc
                  · cases hc
                  · cases hc
                · cases hc
              · cases hs
            · cases hs
          · -- arraycopy
            split at hs
            · rename_i r h_q hac
              unfold ik_bo at hs
              split at hs
              · rename_i hrm
                have kk := ih p l e R s m args below meth c Q D A H0 sd mid n0 ad0 X (pc + 3) loc r h_q cl sl z C0 hA hX hH0 hO hfr hlo hs (by rw [ik_acp_len hac]; exact hn0) hcl hsl k
                exact ik_acp_ok C0 hi hc hac hrm hfr hlo kk
              · cases hs
            · cases hs
          · -- Math
            split at hs
            · rename_i st_q hmt
              unfold ik_bo at hs
              split at hs
              · rename_i hrm
                have hm2 := ik_mono n hs
                have kk := ih p l e R s m args below meth c Q D A H0 sd mid n0 ad0 X (pc + 3) loc st_q h cl sl z C0 hA hX hH0 hO hfr hlo hs hn0 hcl hsl k
                exact ik_math_ok C0 hi hc hmt hrm hfr hlo ⟨by omega, by omega⟩ kk
              · cases hs
            · cases hs
          · -- a method
            cases hf : (ik_fitC mid q kd (st.take kn).reverse h (st.drop kn) loc && decide ((st.take kn).length = kn)) with
            | false => rw [hf] at hs; cases hs
            | true =>
              rw [hf] at hs
              simp only [cond_true] at hs
              split at hs
              · rename_i pr lr sr h_q mc ms he
                split at hs
                · rename_i ir hir
                  split at hs
                  · rename_i rv hrv
                    have hm1 := ik_mono n he
                    have hm2 := ik_mono n hs
                    dsimp only at hm1
                    have kk := ih p l e R s m args below meth c Q D A H0 sd mid n0 ad0 X (pc + 3) loc (rv ++ st.drop kn) h_q (cl + mc) (sl + ms) z C0 hA hX hH0 hO hfr hlo hs (by omega) hcl hsl k
                    exact ik_call_ok ih C0 hA hH0 hO hi hc hf he hir hrv hfr hlo hn0 ⟨by omega, by omega⟩ kk
                  · cases hs
                · cases hs
              · cases hs
        · split at hs
          · rename_i pc_q loc_q st_q h_q cl_q sl_q hst
            have hm1 := ik_step_mono hst
            have hm2 := ik_mono n hs
            dsimp only at hm1
            have kk := ih p l e R s m args below meth c Q D A H0 sd mid n0 ad0 X pc_q loc_q st_q h_q cl_q sl_q z C0 hA hX hH0 hO hfr hlo hs (by omega) hcl hsl k
            exact ik_step_ok C0 hA hX hH0 hO hd hst hn0 (by dsimp only; omega) (by dsimp only; omega) kk
          · cases hs

/-! 20.fuel -/
/-- more fuel does no harm -/
theorem ik_fuel : ∀ (n : Nat) {X : Option (Nat × (Nat → Int32))} {mid pc : Nat} {loc : ik_L} {st : List Value} {h : List ik_E} {cl sl : Nat} {z : ik_St}, ik_ex X n mid pc loc st h cl sl = some z → ∀ d, ik_ex X (n + d) mid pc loc st h cl sl = some z := by
  intro n
  induction n with
  | zero => intro X mid pc loc st h cl sl z hs; cases hs
  | succ n ih =>
    intro X mid pc loc st h cl sl z hs d
    rw [show n + 1 + d = (n + d) + 1 by omega]
    simp only [ik_ex] at hs ⊢
    split at hs
    · cases hs
    · rename_i i hi
      cases hr : ik_isR i with
      | true => rw [hr] at hs; exact hs
      | false =>
        rw [hr] at hs
        simp only [cond_false] at hs ⊢
        split at hs
        · rename_i q k kd hc
          split at hs
          · split at hs
            · unfold ik_bo at hs ⊢
              try dsimp only
              split at hs
              · rename_i c0; rw [if_pos c0]; exact ih hs d
              · cases hs
            · cases hs
          · split at hs
            · unfold ik_bo at hs ⊢
              try dsimp only
              split at hs
              · rename_i c0; rw [if_pos c0]; exact ih hs d
              · cases hs
            · cases hs
          · split at hs
            · unfold ik_bo at hs ⊢
              try dsimp only
              split at hs
              · rename_i c0; rw [if_pos c0]; exact ih hs d
              · cases hs
            · cases hs
          · cases hf : (ik_fitC mid q kd (st.take k).reverse h (st.drop k) loc && decide ((st.take k).length = k)) with
            | false => rw [hf] at hs; cases hs
            | true =>
              rw [hf] at hs
              simp only [cond_true] at hs
              split at hs
              · rename_i he
                split at hs
                · rename_i hir
                  split at hs
                  · rename_i hrv
                    simp only [cond_true, ih he d, hir, hrv]
                    exact ih hs d
                  · cases hs
                · cases hs
              · cases hs
        · split at hs
          · exact ih hs d
          · cases hs

/-! 35.conv -/
/-! comparisons as comparisons of whole numbers -/
theorem lg_lt0 (x y : Int64) : (lg_cmp x y < 0) = (x.toInt < y.toInt) := by
  unfold lg_cmp
  apply propext
  by_cases h1 : x > y
  · rw [if_pos h1]
    have : y.toInt < x.toInt := Int64.lt_iff_toInt_lt.mp h1
    constructor
    · intro h; exact absurd h (by decide)
    · intro h; omega
  · rw [if_neg h1]
    have h2 : ¬ y.toInt < x.toInt := fun q => h1 (Int64.lt_iff_toInt_lt.mpr q)
    by_cases h3 : x = y
    · rw [if_pos h3]
      subst h3
      constructor
      · intro h; exact absurd h (by decide)
      · intro h; omega
    · rw [if_neg h3]
      have h4 : ¬ x.toInt = y.toInt := fun q => h3 (Int64.toInt_inj.mp q)
      constructor
      · intro _; omega
      · intro _; decide
theorem lg_gt0 (x y : Int64) : (0 < lg_cmp x y) = (y.toInt < x.toInt) := by
  unfold lg_cmp
  apply propext
  by_cases h1 : x > y
  · rw [if_pos h1]
    have : y.toInt < x.toInt := Int64.lt_iff_toInt_lt.mp h1
    constructor
    · intro _; exact this
    · intro _; decide
  · rw [if_neg h1]
    have h2 : ¬ y.toInt < x.toInt := fun q => h1 (Int64.lt_iff_toInt_lt.mpr q)
    by_cases h3 : x = y
    · rw [if_pos h3]
      constructor
      · intro h; exact absurd h (by decide)
      · intro h; exact absurd h h2
    · rw [if_neg h3]
      constructor
      · intro h; exact absurd h (by decide)
      · intro h; exact absurd h h2
theorem cv_eq (x y : Int32) : (x = y) = (x.toInt = y.toInt) := propext ⟨fun h => by rw [h], fun h => Int32.toInt_inj.mp h⟩
theorem cv_lt (x y : Int32) : (x < y) = (x.toInt < y.toInt) := propext Int32.lt_iff_toInt_lt
theorem cv_le (x y : Int32) : (x ≤ y) = (x.toInt ≤ y.toInt) := propext Int32.le_iff_toInt_le
theorem cv_64 (x : Int32) : x.toInt64.toInt = x.toInt := Int32.toInt_toInt64 x
theorem cv_k {k : Int32} {n : Int} (h : k.toInt = n) : k.toInt = n := h

/-! 36.rules -/
/-! RULES to walk the abstract machine with: a run there is, and its end is as 'post' says -/
def ik_W (X : Option (Nat × (Nat → Int32))) (mid pc : Nat) (loc : ik_L) (st : List Value) (h : List ik_E) (cl sl : Nat) (post : ik_St → Prop) : Prop := ∃ n z, ik_ex X n mid pc loc st h cl sl = some z ∧ post z
def ik_run : Nat → Option (Nat × (Nat → Int32)) → Nat → ik_St → Option ik_St
  | 0, _, _, z => some z
  | k + 1, X, mid, (pc, loc, st, h, cl, sl) => match ik_at mid pc with
    | none => none
    | some i => bif ik_isR i then none else (match ik_call mid i with
      | some _ => none
      | none => (match ik_step X mid i pc loc st h cl sl with
        | some z => ik_run k X mid z
        | none => none))
theorem ik_Wk (k : Nat) : ∀ {X : Option (Nat × (Nat → Int32))} {mid pc : Nat} {loc : ik_L} {st : List Value} {h : List ik_E} {cl sl : Nat} {pc_q : Nat} {loc_q : ik_L} {st_q : List Value} {h_q : List ik_E} {cl_q sl_q : Nat} {post : ik_St → Prop}, ik_run k X mid (pc, loc, st, h, cl, sl) = some (pc_q, loc_q, st_q, h_q, cl_q, sl_q) → ik_W X mid pc_q loc_q st_q h_q cl_q sl_q post → ik_W X mid pc loc st h cl sl post := by
  induction k with
  | zero =>
    intro X mid pc loc st h cl sl pc_q loc_q st_q h_q cl_q sl_q post hs kk
    cases hs
    exact kk
  | succ k ih =>
    intro X mid pc loc st h cl sl pc_q loc_q st_q h_q cl_q sl_q post hs kk
    simp only [ik_run] at hs
    split at hs
    · cases hs
    · rename_i i hi
      cases hr : ik_isR i with
      | true => rw [hr] at hs; cases hs
      | false =>
        rw [hr] at hs
        simp only [cond_false] at hs
        split at hs
        · cases hs
        · rename_i hc
          split at hs
          · rename_i z hz
            obtain ⟨p1, l1, s1, h1, c1, t1⟩ := z
            obtain ⟨n, zf, he, hp⟩ := ih hs kk
            refine ⟨n + 1, zf, ?_, hp⟩
            simp only [ik_ex, hi, hr, hc, hz, cond_false]
            exact he
          · cases hs
theorem ik_Wif (k : Nat) {c : Prop} [Decidable c] {X : Option (Nat × (Nat → Int32))} {mid pc : Nat} {loc : ik_L} {st : List Value} {h : List ik_E} {cl sl : Nat} (t e : Nat) {loc_q : ik_L} {st_q : List Value} {h_q : List ik_E} {cl_q sl_q : Nat} {post : ik_St → Prop} (hs : ik_run k X mid (pc, loc, st, h, cl, sl) = some (if c then t else e, loc_q, st_q, h_q, cl_q, sl_q)) (k1 : c → ik_W X mid t loc_q st_q h_q cl_q sl_q post) (k2 : ¬ c → ik_W X mid e loc_q st_q h_q cl_q sl_q post) : ik_W X mid pc loc st h cl sl post := by
  refine ik_Wk k hs ?_
  by_cases hc : c
  · rw [if_pos hc]; exact k1 hc
  · rw [if_neg hc]; exact k2 hc
theorem ik_Wret {X : Option (Nat × (Nat → Int32))} {mid pc : Nat} {loc : ik_L} {st : List Value} {h : List ik_E} {cl sl : Nat} {post : ik_St → Prop} {i : Instr} (hi : ik_at mid pc = some i) (hr : ik_isR i = true) (hp : post (pc, loc, st, h, cl, sl)) : ik_W X mid pc loc st h cl sl post := by
  refine ⟨1, _, ?_, hp⟩
  simp only [ik_ex, hi, hr, cond_true]
/-- a call -/
theorem ik_Wc {X : Option (Nat × (Nat → Int32))} {mid pc : Nat} {loc : ik_L} {st : List Value} {h : List ik_E} {cl sl : Nat} {post : ik_St → Prop} {i : Instr} (q k kd : Nat) (as rest : List Value) (hi : ik_at mid pc = some i) (hr : ik_isR i = false) (hc : ik_call mid i = some (q, k, kd)) (hkd : kd < 5) (hst : st = as.reverse ++ rest) (hk : as.length = k) (hf : ik_fitC mid q kd as h rest loc = true)
    (kk : ik_W none q 0 (ik_loc (ik_ml q) as) [] h 0 0 (fun zr => ∃ ir rv, ik_at q zr.1 = some ir ∧ ik_rv (ik_rt q) ir zr.2.2.1 = some rv ∧ ik_W X mid (pc + 3) loc (rv ++ rest) zr.2.2.2.1 (cl + zr.2.2.2.2.1) (sl + zr.2.2.2.2.2) post)) : ik_W X mid pc loc st h cl sl post := by
  obtain ⟨n, zr, he, ir, rv, h1, h2, n2, zf, he2, hp⟩ := kk
  have e1 : (st.take k).reverse = as := by rw [hst, List.take_left' (by rw [List.length_reverse]; exact hk), List.reverse_reverse]
  have e2 : st.drop k = rest := by rw [hst, List.drop_left' (by rw [List.length_reverse]; exact hk)]
  have e3 : (st.take k).length = k := by rw [← List.length_reverse, e1]; exact hk
  refine ⟨n + n2 + 1, zf, ?_, hp⟩
  simp only [ik_ex, hi, hr, hc, cond_false, e1, e2, hf, e3, decide_true, Bool.and_true, cond_true]
  split
  · omega
  · omega
  · omega
  · rw [ik_fuel n he n2]
    dsimp only
    rw [h1]
    dsimp only
    rw [h2]
    dsimp only
    rw [Nat.add_comm n n2]
    exact ik_fuel n2 he2 n
/-- a call whose run is known -/
theorem ik_Wce {X : Option (Nat × (Nat → Int32))} {mid pc : Nat} {loc : ik_L} {st : List Value} {h : List ik_E} {cl sl : Nat} {post : ik_St → Prop} {i : Instr} (q k kd : Nat) (as rest : List Value) {n pr : Nat} {lr : ik_L} {sr : List Value} {h_q : List ik_E} {mc ms : Nat} (ir : Instr) (rv : List Value) (he : ik_ex none n q 0 (ik_loc (ik_ml q) as) [] h 0 0 = some (pr, lr, sr, h_q, mc, ms)) (hi : ik_at mid pc = some i) (hr : ik_isR i = false) (hc : ik_call mid i = some (q, k, kd)) (hkd : kd < 5) (hst : st = as.reverse ++ rest) (hk : as.length = k) (hf : ik_fitC mid q kd as h rest loc = true) (h1 : ik_at q pr = some ir) (h2 : ik_rv (ik_rt q) ir sr = some rv)
    (kk : ik_W X mid (pc + 3) loc (rv ++ rest) h_q (cl + mc) (sl + ms) post) : ik_W X mid pc loc st h cl sl post :=
  ik_Wc q k kd as rest hi hr hc hkd hst hk hf ⟨n, _, he, ir, rv, h1, h2, kk⟩
theorem ik_step_X {L : Nat} {f g : Nat → Int32} (hfg : ∀ j, j < L → f j = g j) {mid : Nat} {i : Instr} {pc : Nat} {loc : ik_L} {st : List Value} {h : List ik_E} {cl sl : Nat} : ik_step (some (L, f)) mid i pc loc st h cl sl = ik_step (some (L, g)) mid i pc loc st h cl sl := by
  cases i with
  | iaload =>
    simp only [ik_step]
    split
    · rfl
    · rename_i ix r
      unfold ik_bo
      by_cases hb : ¬ (ix < 0 ∨ L ≤ ix.toNatClampNeg)
      · rw [if_pos hb, if_pos hb, hfg _ (Nat.not_le.mp fun q => hb (Or.inr q))]
      · rw [if_neg hb, if_neg hb]
    · rfl
  | _ => rfl
/-- only the script's own ints are read -/
theorem ik_ex_X {L : Nat} {f g : Nat → Int32} (hfg : ∀ j, j < L → f j = g j) : ∀ (n : Nat) {mid pc : Nat} {loc : ik_L} {st : List Value} {h : List ik_E} {cl sl : Nat}, ik_ex (some (L, f)) n mid pc loc st h cl sl = ik_ex (some (L, g)) n mid pc loc st h cl sl := by
  intro n
  induction n with
  | zero => intros; rfl
  | succ n ih =>
    intro mid pc loc st h cl sl
    simp only [ik_ex, ik_step_X hfg, ih]

/-! 37.sw -/
/-- a switch, by its default -/
theorem ik_Wsw {X : Option (Nat × (Nat → Int32))} {mid pc : Nat} {loc : ik_L} {r : List Value} {h : List ik_E} {cl sl : Nat} {post : ik_St → Prop} {x : Int32} (d lo hi : Int) (offs : Array Int) (t : Nat) (hi0 : ik_at mid pc = some (.tableswitch d lo hi offs)) (ht : ik_tg pc d = some t) (hx : x.toInt < lo ∨ hi < x.toInt) (kk : ik_W X mid t loc r h cl sl post) : ik_W X mid pc loc (.int x :: r) h cl sl post := by
  obtain ⟨n, z, he, hp⟩ := kk
  refine ⟨n + 1, z, ?_, hp⟩
  have h1 : ik_isR (.tableswitch d lo hi offs) = false := rfl
  have h2 : ik_call mid (.tableswitch d lo hi offs) = none := rfl
  simp only [ik_ex, hi0, h1, h2, cond_false, ik_step]
  rw [if_pos hx, ht]
  exact he
/-- a switch, by one of its rows -/
theorem ik_Wsi {X : Option (Nat × (Nat → Int32))} {mid pc : Nat} {loc : ik_L} {r : List Value} {h : List ik_E} {cl sl : Nat} {post : ik_St → Prop} {x : Int32} (d lo hi : Int) (offs : Array Int) (o : Int) (t : Nat) (hi0 : ik_at mid pc = some (.tableswitch d lo hi offs)) (hx : ¬ (x.toInt < lo ∨ hi < x.toInt)) (ho : offs.toList[(x.toInt - lo).toNat]? = some o) (ht : ik_tg pc o = some t) (kk : ik_W X mid t loc r h cl sl post) : ik_W X mid pc loc (.int x :: r) h cl sl post := by
  obtain ⟨n, z, he, hp⟩ := kk
  refine ⟨n + 1, z, ?_, hp⟩
  have h1 : ik_isR (.tableswitch d lo hi offs) = false := rfl
  have h2 : ik_call mid (.tableswitch d lo hi offs) = none := rfl
  simp only [ik_ex, hi0, h1, h2, cond_false, ik_step]
  rw [if_neg hx, ho]
  dsimp only
  rw [ht]
  exact he

/-! 38.stores -/
/-- stores into long rows of which only the length matters from then on -/
theorem ik_WbG {X : Option (Nat × (Nat → Int32))} {mid pc : Nat} {loc : ik_L} {r : List Value} {h : List ik_E} {cl sl : Nat} {post : ik_St → Prop} {x i : Int32} {a : Nat} (vs : List Value) (hi : ik_at mid pc = some .bastore) (hc : h[a]? = some (.inl (.byte, vs))) (h0 : ¬ i < 0) (hb : i.toNatClampNeg < vs.length) (kk : ∀ vs' : List Value, vs'.length = vs.length → ik_W X mid (pc + 1) loc r (h.set a (.inl (.byte, vs'))) cl sl post) : ik_W X mid pc loc (.int x :: .int i :: .ref a :: r) h cl sl post := by
  obtain ⟨n, z, he, hp⟩ := kk (vs.set i.toNatClampNeg (.int (vp_nar .byte x))) List.length_set
  refine ⟨n + 1, z, ?_, hp⟩
  have h1 : ik_isR .bastore = false := rfl
  have h2 : ik_call mid .bastore = none := rfl
  have h3 : ¬ i < 0 ∧ i.toNatClampNeg < vs.length := ⟨h0, hb⟩
  simp only [ik_ex, hi, h1, h2, cond_false, ik_step, hc, ik_bo]
  rw [if_pos h3]
  exact he
theorem ik_WiG {X : Option (Nat × (Nat → Int32))} {mid pc : Nat} {loc : ik_L} {r : List Value} {h : List ik_E} {cl sl : Nat} {post : ik_St → Prop} {x i : Int32} {a : Nat} (vs : List Value) (hi : ik_at mid pc = some .iastore) (hc : h[a]? = some (.inl (.int, vs))) (h0 : ¬ i < 0) (hb : i.toNatClampNeg < vs.length) (kk : ∀ vs' : List Value, vs'.length = vs.length → ik_W X mid (pc + 1) loc r (h.set a (.inl (.int, vs'))) cl sl post) : ik_W X mid pc loc (.int x :: .int i :: .ref a :: r) h cl sl post := by
  obtain ⟨n, z, he, hp⟩ := kk (vs.set i.toNatClampNeg (.int x)) List.length_set
  refine ⟨n + 1, z, ?_, hp⟩
  have h1 : ik_isR .iastore = false := rfl
  have h2 : ik_call mid .iastore = none := rfl
  have h3 : ¬ i < 0 ∧ i.toNatClampNeg < vs.length := ⟨h0, hb⟩
  simp only [ik_ex, hi, h1, h2, cond_false, ik_step, hc, ik_bo]
  rw [if_pos h3]
  exact he

/-! 38f.fun -/
/-! RULES to walk by hand (printed by wip/fw/fe.py): whole numbers as they are, 'fI z' an int, 'fJ z' a long, 'fA xs' the ints of a row; a heap is 'pre ++ t', t the cells that are looked at -/
abbrev fI (z : Int) : Value := .int (Int32.ofInt z)
abbrev fJ (z : Int) : Value := .long (Int64.ofInt z)
def fA (xs : List Int) : List Value := xs.map fI
theorem fi_i {a : Int} (h1 : -2147483648 ≤ a) (h2 : a < 2147483648) : (Int32.ofInt a).toInt = a := Int32.toInt_ofInt_of_le (by omega) (by omega)
theorem fj_i {a : Int} (h1 : -9223372036854775808 ≤ a) (h2 : a < 9223372036854775808) : (Int64.ofInt a).toInt = a := Int64.toInt_ofInt_of_le (by omega) (by omega)
theorem fi_n {a : Int} (h1 : 0 ≤ a) (h2 : a < 2147483648) : (Int32.ofInt a).toNatClampNeg = a.toNat := Int32.toNatClampNeg_ofInt_of_le (by omega) (by omega)
theorem fi_z {a : Int} (h1 : 0 ≤ a) (h2 : a < 2147483648) : ¬ Int32.ofInt a < 0 := by
  rw [cv_lt, fi_i (by omega) h2]
  have : (0 : Int32).toInt = 0 := by decide
  omega
theorem fi_l {a : Int} (h1 : -2147483648 ≤ a) (h2 : a < 2147483648) : (Int32.ofInt a).toInt64 = Int64.ofInt a := Int64.toInt_inj.mp (by rw [Int32.toInt_toInt64, fi_i h1 h2, fj_i (by omega) (by omega)])
theorem fA_len (xs : List Int) : (fA xs).length = xs.length := List.length_map _
theorem fA_get {xs : List Int} {k : Nat} (h : k < xs.length) : (fA xs)[k]? = some (fI (xs.getD k 0)) := by
  unfold fA
  rw [List.getElem?_map, List.getElem?_eq_getElem h, List.getD_eq_getElem?_getD, List.getElem?_eq_getElem h]
  rfl
theorem fA_set (xs : List Int) (k : Nat) (v : Int) : (fA xs).set k (fI v) = fA (xs.set k v) := by
  unfold fA
  rw [List.map_set]
theorem fz_getD_set (xs : List Int) (k : Nat) (v : Int) (j : Nat) : (xs.set k v).getD j 0 = if j = k ∧ k < xs.length then v else xs.getD j 0 := by
  rw [List.getD_eq_getElem?_getD, List.getD_eq_getElem?_getD, List.getElem?_set]
  by_cases h1 : k = j
  · subst h1
    by_cases h2 : k < xs.length
    · rw [if_pos rfl, if_pos h2, if_pos ⟨rfl, h2⟩]; rfl
    · rw [if_pos rfl, if_neg h2, if_neg (fun q => h2 q.2), List.getElem?_eq_none (Nat.le_of_not_lt h2)]
  · rw [if_neg h1, if_neg (fun q => h1 q.1.symm)]
section
variable {X : Option (Nat × (Nat → Int32))} {mid pc : Nat} {loc : ik_L} {st r : List Value} {h : List ik_E} {cl sl : Nat} {post : ik_St → Prop}
theorem fw_1 {i : Instr} {pc_q : Nat} {loc_q : ik_L} {st_q : List Value} {h_q : List ik_E} {cl_q sl_q : Nat} (hi : ik_at mid pc = some i) (hr : ik_isR i = false) (hc : ik_call mid i = none) (hs : ik_step X mid i pc loc st h cl sl = some (pc_q, loc_q, st_q, h_q, cl_q, sl_q)) (K : ik_W X mid pc_q loc_q st_q h_q cl_q sl_q post) : ik_W X mid pc loc st h cl sl post :=
  ik_Wk 1 (by simp only [ik_run, hi, hr, hc, hs, cond_false]) K
theorem fw_add {a b : Int} (hi : ik_at mid pc = some .iadd) (K : ik_W X mid (pc + 1) loc (fI (a + b) :: r) h cl sl post) : ik_W X mid pc loc (fI b :: fI a :: r) h cl sl post :=
  fw_1 hi rfl rfl (congrArg (fun v => some (pc + 1, loc, Value.int v :: r, h, cl, sl)) (Int32.ofInt_add a b).symm) K
theorem fw_sub {a b : Int} (hi : ik_at mid pc = some .isub) (K : ik_W X mid (pc + 1) loc (fI (a - b) :: r) h cl sl post) : ik_W X mid pc loc (fI b :: fI a :: r) h cl sl post :=
  fw_1 hi rfl rfl (congrArg (fun v => some (pc + 1, loc, Value.int v :: r, h, cl, sl)) (Int32.ofInt_sub a b).symm) K
theorem fw_mul {a b : Int} (hi : ik_at mid pc = some .imul) (K : ik_W X mid (pc + 1) loc (fI (a * b) :: r) h cl sl post) : ik_W X mid pc loc (fI b :: fI a :: r) h cl sl post :=
  fw_1 hi rfl rfl (congrArg (fun v => some (pc + 1, loc, Value.int v :: r, h, cl, sl)) (Int32.ofInt_mul a b).symm) K
theorem fw_ladd {a b : Int} (hi : ik_at mid pc = some .ladd) (K : ik_W X mid (pc + 1) loc (fJ (a + b) :: r) h cl sl post) : ik_W X mid pc loc (fJ b :: fJ a :: r) h cl sl post :=
  fw_1 hi rfl rfl (congrArg (fun v => some (pc + 1, loc, Value.long v :: r, h, cl, sl)) (Int64.ofInt_add a b).symm) K
theorem fw_lsub {a b : Int} (hi : ik_at mid pc = some .lsub) (K : ik_W X mid (pc + 1) loc (fJ (a - b) :: r) h cl sl post) : ik_W X mid pc loc (fJ b :: fJ a :: r) h cl sl post :=
  fw_1 hi rfl rfl (congrArg (fun v => some (pc + 1, loc, Value.long v :: r, h, cl, sl)) (Int64.ofInt_sub a b).symm) K
theorem fw_lmul {a b : Int} (hi : ik_at mid pc = some .lmul) (K : ik_W X mid (pc + 1) loc (fJ (a * b) :: r) h cl sl post) : ik_W X mid pc loc (fJ b :: fJ a :: r) h cl sl post :=
  fw_1 hi rfl rfl (congrArg (fun v => some (pc + 1, loc, Value.long v :: r, h, cl, sl)) (Int64.ofInt_mul a b).symm) K
theorem fw_i2l {a : Int} (hi : ik_at mid pc = some .i2l) (h1 : -2147483648 ≤ a) (h2 : a < 2147483648) (K : ik_W X mid (pc + 1) loc (fJ a :: r) h cl sl post) : ik_W X mid pc loc (fI a :: r) h cl sl post :=
  fw_1 hi rfl rfl (congrArg (fun v => some (pc + 1, loc, Value.long v :: r, h, cl, sl)) (fi_l h1 h2)) K
theorem fw_bi {k : Int} (hi : ik_at mid pc = some (.bipush k)) (hk : (Int8.ofInt k).toInt32 = Int32.ofInt k) (K : ik_W X mid (pc + 2) loc (fI k :: st) h cl sl post) : ik_W X mid pc loc st h cl sl post :=
  fw_1 hi rfl rfl (congrArg (fun v => some (pc + 2, loc, Value.int v :: st, h, cl, sl)) hk) K
theorem fw_si {k : Int} (hi : ik_at mid pc = some (.sipush k)) (hk : (Int16.ofInt k).toInt32 = Int32.ofInt k) (K : ik_W X mid (pc + 3) loc (fI k :: st) h cl sl post) : ik_W X mid pc loc st h cl sl post :=
  fw_1 hi rfl rfl (congrArg (fun v => some (pc + 3, loc, Value.int v :: st, h, cl, sl)) hk) K
theorem fw_l2 (k : Int) {x w : Nat} {v : Int64} (hi : ik_at mid pc = some (.ldc2_w x)) (hx : ik_ck mid x = some (v, w)) (hk : v = Int64.ofInt k) (K : ik_W X mid (pc + 3) loc (fJ k :: st) h cl sl post) : ik_W X mid pc loc st h cl sl post :=
  fw_1 hi rfl rfl (by subst hk; simp only [ik_step, hx]) K
theorem fw_ld (k : Int) {x w : Nat} {v : Int32} (hi : ik_at mid pc = some (.ldc x)) (hx : ik_ci mid x = some (v, w)) (hk : v = Int32.ofInt k) (K : ik_W X mid (pc + 2) loc (fI k :: st) h cl sl post) : ik_W X mid pc loc st h cl sl post :=
  fw_1 hi rfl rfl (by subst hk; simp only [ik_step, hx]) K
theorem fw_lc {k : Fin 2} {z : Int} (hi : ik_at mid pc = some (.lconst k)) (hk : Int64.ofNat k = Int64.ofInt z) (K : ik_W X mid (pc + 1) loc (fJ z :: st) h cl sl post) : ik_W X mid pc loc st h cl sl post :=
  fw_1 hi rfl rfl (congrArg (fun v => some (pc + 1, loc, Value.long v :: st, h, cl, sl)) hk) K
theorem fw_inc {j : Nat} {k a : Int} {loc_q : ik_L} (hi : ik_at mid pc = some (.iinc j k)) (hl : ik_gI loc j = some (Int32.ofInt a)) (hj : j < ik_ml mid) (hp : ik_put loc j (fI (a + k)) = loc_q) (K : ik_W X mid (pc + 3) loc_q st h cl sl post) : ik_W X mid pc loc st h cl sl post :=
  fw_1 hi rfl rfl (by subst hp; simp only [ik_step, hl, ik_bo, if_pos hj, fI, Int32.ofInt_add]) K
theorem fw_gf {x ci k a : Nat} {w : Nat × Nat} {v : Value} {fs : List Value} (hi : ik_at mid pc = some (.getfield x)) (hf : ik_fl mid x = some (ci, k, w)) (hc : h[a]? = some (.inr (ci, fs))) (hv : fs[k]? = some v) (K : ik_W X mid (pc + 3) loc (v :: r) h cl sl post) : ik_W X mid pc loc (.ref a :: r) h cl sl post :=
  fw_1 hi rfl rfl (by simp only [ik_step, hf, hc, ik_bo, if_true, hv]) K
theorem fw_pf {x ci k a : Nat} {w : Nat × Nat} {v : Value} {fs : List Value} {h_q : List ik_E} (hi : ik_at mid pc = some (.putfield x)) (hf : ik_fl mid x = some (ci, k, w)) (hc : h[a]? = some (.inr (ci, fs))) (hk : k < fs.length) (ht : ik_fit (ik_ty ci k) v = true) (hfi : ik_fi ci k = false) (hh : h.set a (.inr (ci, fs.set k v)) = h_q) (K : ik_W X mid (pc + 3) loc r h_q cl sl post) : ik_W X mid pc loc (v :: .ref a :: r) h cl sl post := by
  subst hh
  refine fw_1 hi rfl rfl ?_ K
  simp only [ik_step, hf, hc, ik_bo]
  rw [if_pos ⟨trivial, hk, ht, Or.inl hfi⟩]
theorem fw_ial {a : Nat} {z : Int} {xs : List Int} (hi : ik_at mid pc = some .iaload) (hc : h[a]? = some (.inl (.int, fA xs))) (h0 : 0 ≤ z) (h1 : z.toNat < xs.length) (h2 : z < 2147483648) (K : ik_W X mid (pc + 1) loc (fI (xs.getD z.toNat 0) :: r) h cl sl post) : ik_W X mid pc loc (fI z :: .ref a :: r) h cl sl post := by
  refine fw_1 hi rfl rfl ?_ K
  simp only [ik_step, hc]
  rw [if_neg (fi_z h0 h2), fi_n h0 h2, fA_get h1]
theorem fw_bal {a : Nat} {z : Int} {xs : List Int} (hi : ik_at mid pc = some .baload) (hc : h[a]? = some (.inl (.byte, fA xs))) (h0 : 0 ≤ z) (h1 : z.toNat < xs.length) (h2 : z < 2147483648) (K : ik_W X mid (pc + 1) loc (fI (xs.getD z.toNat 0) :: r) h cl sl post) : ik_W X mid pc loc (fI z :: .ref a :: r) h cl sl post := by
  refine fw_1 hi rfl rfl ?_ K
  simp only [ik_step, hc]
  rw [if_neg (fi_z h0 h2), fi_n h0 h2, fA_get h1]
theorem fw_ias {a : Nat} {z v : Int} {xs : List Int} {h_q : List ik_E} (hi : ik_at mid pc = some .iastore) (hc : h[a]? = some (.inl (.int, fA xs))) (h0 : 0 ≤ z) (h1 : z.toNat < xs.length) (h2 : z < 2147483648) (hh : h.set a (.inl (.int, fA (xs.set z.toNat v))) = h_q) (K : ik_W X mid (pc + 1) loc r h_q cl sl post) : ik_W X mid pc loc (fI v :: fI z :: .ref a :: r) h cl sl post := by
  subst hh
  refine fw_1 hi rfl rfl ?_ K
  simp only [ik_step, hc, ik_bo]
  rw [if_pos ⟨fi_z h0 h2, by rw [fi_n h0 h2, fA_len]; exact h1⟩, fi_n h0 h2, fA_set]
theorem fw_br {i : Instr} {c : Prop} [Decidable c] {t e : Nat} {st_q : List Value} (hi : ik_at mid pc = some i) (hr : ik_isR i = false) (hc : ik_call mid i = none) (hs : ik_step X mid i pc loc st h cl sl = some (if c then t else e, loc, st_q, h, cl, sl)) (K1 : c → ik_W X mid t loc st_q h cl sl post) (K2 : ¬ c → ik_W X mid e loc st_q h cl sl post) : ik_W X mid pc loc st h cl sl post :=
  ik_Wif 1 t e (by simp only [ik_run, hi, hr, hc, hs, cond_false]) K1 K2
end
section
variable {X : Option (Nat × (Nat → Int32))} {mid pc : Nat} {loc : ik_L} {st r : List Value} {h : List ik_E} {cl sl : Nat} {post : ik_St → Prop}
theorem fw_ic_eq {a b off : Int} {t : Nat} (hi : ik_at mid pc = some (.if_icmp .eq off)) (ht : ik_tg pc off = some t) (ha : -2147483648 ≤ a) (ha2 : a < 2147483648) (hb : -2147483648 ≤ b) (hb2 : b < 2147483648) (K1 : a = b → ik_W X mid t loc r h cl sl post) (K2 : ¬ a = b → ik_W X mid (pc + 3) loc r h cl sl post) : ik_W X mid pc loc (fI b :: fI a :: r) h cl sl post :=
  fw_br (c := Int32.ofInt a = Int32.ofInt b) (t := t) (e := (pc + 3)) hi rfl rfl (by simp only [ik_step, ht]) (fun c => K1 (by rw [cv_eq, fi_i ha ha2, fi_i hb hb2] at c; omega)) (fun c => K2 (by rw [cv_eq, fi_i ha ha2, fi_i hb hb2] at c; omega))
theorem fw_ic_ne {a b off : Int} {t : Nat} (hi : ik_at mid pc = some (.if_icmp .ne off)) (ht : ik_tg pc off = some t) (ha : -2147483648 ≤ a) (ha2 : a < 2147483648) (hb : -2147483648 ≤ b) (hb2 : b < 2147483648) (K1 : a = b → ik_W X mid (pc + 3) loc r h cl sl post) (K2 : ¬ a = b → ik_W X mid t loc r h cl sl post) : ik_W X mid pc loc (fI b :: fI a :: r) h cl sl post :=
  fw_br (c := Int32.ofInt a = Int32.ofInt b) (t := (pc + 3)) (e := t) hi rfl rfl (by simp only [ik_step, ht]) (fun c => K1 (by rw [cv_eq, fi_i ha ha2, fi_i hb hb2] at c; omega)) (fun c => K2 (by rw [cv_eq, fi_i ha ha2, fi_i hb hb2] at c; omega))
theorem fw_ic_lt {a b off : Int} {t : Nat} (hi : ik_at mid pc = some (.if_icmp .lt off)) (ht : ik_tg pc off = some t) (ha : -2147483648 ≤ a) (ha2 : a < 2147483648) (hb : -2147483648 ≤ b) (hb2 : b < 2147483648) (K1 : a < b → ik_W X mid t loc r h cl sl post) (K2 : b ≤ a → ik_W X mid (pc + 3) loc r h cl sl post) : ik_W X mid pc loc (fI b :: fI a :: r) h cl sl post :=
  fw_br (c := Int32.ofInt a < Int32.ofInt b) (t := t) (e := (pc + 3)) hi rfl rfl (by simp only [ik_step, ht]) (fun c => K1 (by rw [cv_lt, fi_i ha ha2, fi_i hb hb2] at c; omega)) (fun c => K2 (by rw [cv_lt, fi_i ha ha2, fi_i hb hb2] at c; omega))
theorem fw_ic_ge {a b off : Int} {t : Nat} (hi : ik_at mid pc = some (.if_icmp .ge off)) (ht : ik_tg pc off = some t) (ha : -2147483648 ≤ a) (ha2 : a < 2147483648) (hb : -2147483648 ≤ b) (hb2 : b < 2147483648) (K1 : b ≤ a → ik_W X mid t loc r h cl sl post) (K2 : a < b → ik_W X mid (pc + 3) loc r h cl sl post) : ik_W X mid pc loc (fI b :: fI a :: r) h cl sl post :=
  fw_br (c := Int32.ofInt b ≤ Int32.ofInt a) (t := t) (e := (pc + 3)) hi rfl rfl (by simp only [ik_step, ht]) (fun c => K1 (by rw [cv_le, fi_i hb hb2, fi_i ha ha2] at c; omega)) (fun c => K2 (by rw [cv_le, fi_i hb hb2, fi_i ha ha2] at c; omega))
theorem fw_ic_gt {a b off : Int} {t : Nat} (hi : ik_at mid pc = some (.if_icmp .gt off)) (ht : ik_tg pc off = some t) (ha : -2147483648 ≤ a) (ha2 : a < 2147483648) (hb : -2147483648 ≤ b) (hb2 : b < 2147483648) (K1 : b < a → ik_W X mid t loc r h cl sl post) (K2 : a ≤ b → ik_W X mid (pc + 3) loc r h cl sl post) : ik_W X mid pc loc (fI b :: fI a :: r) h cl sl post :=
  fw_br (c := Int32.ofInt b < Int32.ofInt a) (t := t) (e := (pc + 3)) hi rfl rfl (by simp only [ik_step, ht]) (fun c => K1 (by rw [cv_lt, fi_i hb hb2, fi_i ha ha2] at c; omega)) (fun c => K2 (by rw [cv_lt, fi_i hb hb2, fi_i ha ha2] at c; omega))
theorem fw_ic_le {a b off : Int} {t : Nat} (hi : ik_at mid pc = some (.if_icmp .le off)) (ht : ik_tg pc off = some t) (ha : -2147483648 ≤ a) (ha2 : a < 2147483648) (hb : -2147483648 ≤ b) (hb2 : b < 2147483648) (K1 : a ≤ b → ik_W X mid t loc r h cl sl post) (K2 : b < a → ik_W X mid (pc + 3) loc r h cl sl post) : ik_W X mid pc loc (fI b :: fI a :: r) h cl sl post :=
  fw_br (c := Int32.ofInt a ≤ Int32.ofInt b) (t := t) (e := (pc + 3)) hi rfl rfl (by simp only [ik_step, ht]) (fun c => K1 (by rw [cv_le, fi_i ha ha2, fi_i hb hb2] at c; omega)) (fun c => K2 (by rw [cv_le, fi_i ha ha2, fi_i hb hb2] at c; omega))
theorem fw_if_eq {a off : Int} {t : Nat} (hi : ik_at mid pc = some (.ifCond .eq off)) (ht : ik_tg pc off = some t) (ha : -2147483648 ≤ a) (ha2 : a < 2147483648) (K1 : a = 0 → ik_W X mid t loc r h cl sl post) (K2 : ¬ a = 0 → ik_W X mid (pc + 3) loc r h cl sl post) : ik_W X mid pc loc (fI a :: r) h cl sl post :=
  fw_br (c := Int32.ofInt a = 0) (t := t) (e := (pc + 3)) hi rfl rfl (by simp only [ik_step, ht]) (fun c => K1 (by rw [cv_eq, fi_i ha ha2, (show (0 : Int32).toInt = 0 from by decide)] at c; omega)) (fun c => K2 (by rw [cv_eq, fi_i ha ha2, (show (0 : Int32).toInt = 0 from by decide)] at c; omega))
theorem fw_if_ne {a off : Int} {t : Nat} (hi : ik_at mid pc = some (.ifCond .ne off)) (ht : ik_tg pc off = some t) (ha : -2147483648 ≤ a) (ha2 : a < 2147483648) (K1 : a = 0 → ik_W X mid (pc + 3) loc r h cl sl post) (K2 : ¬ a = 0 → ik_W X mid t loc r h cl sl post) : ik_W X mid pc loc (fI a :: r) h cl sl post :=
  fw_br (c := Int32.ofInt a = 0) (t := (pc + 3)) (e := t) hi rfl rfl (by simp only [ik_step, ht]) (fun c => K1 (by rw [cv_eq, fi_i ha ha2, (show (0 : Int32).toInt = 0 from by decide)] at c; omega)) (fun c => K2 (by rw [cv_eq, fi_i ha ha2, (show (0 : Int32).toInt = 0 from by decide)] at c; omega))
theorem fw_if_lt {a off : Int} {t : Nat} (hi : ik_at mid pc = some (.ifCond .lt off)) (ht : ik_tg pc off = some t) (ha : -2147483648 ≤ a) (ha2 : a < 2147483648) (K1 : a < 0 → ik_W X mid t loc r h cl sl post) (K2 : 0 ≤ a → ik_W X mid (pc + 3) loc r h cl sl post) : ik_W X mid pc loc (fI a :: r) h cl sl post :=
  fw_br (c := Int32.ofInt a < 0) (t := t) (e := (pc + 3)) hi rfl rfl (by simp only [ik_step, ht]) (fun c => K1 (by rw [cv_lt, fi_i ha ha2, (show (0 : Int32).toInt = 0 from by decide)] at c; omega)) (fun c => K2 (by rw [cv_lt, fi_i ha ha2, (show (0 : Int32).toInt = 0 from by decide)] at c; omega))
theorem fw_if_ge {a off : Int} {t : Nat} (hi : ik_at mid pc = some (.ifCond .ge off)) (ht : ik_tg pc off = some t) (ha : -2147483648 ≤ a) (ha2 : a < 2147483648) (K1 : 0 ≤ a → ik_W X mid t loc r h cl sl post) (K2 : a < 0 → ik_W X mid (pc + 3) loc r h cl sl post) : ik_W X mid pc loc (fI a :: r) h cl sl post :=
  fw_br (c := 0 ≤ Int32.ofInt a) (t := t) (e := (pc + 3)) hi rfl rfl (by simp only [ik_step, ht]) (fun c => K1 (by rw [cv_le, (show (0 : Int32).toInt = 0 from by decide), fi_i ha ha2] at c; omega)) (fun c => K2 (by rw [cv_le, (show (0 : Int32).toInt = 0 from by decide), fi_i ha ha2] at c; omega))
theorem fw_if_gt {a off : Int} {t : Nat} (hi : ik_at mid pc = some (.ifCond .gt off)) (ht : ik_tg pc off = some t) (ha : -2147483648 ≤ a) (ha2 : a < 2147483648) (K1 : 0 < a → ik_W X mid t loc r h cl sl post) (K2 : a ≤ 0 → ik_W X mid (pc + 3) loc r h cl sl post) : ik_W X mid pc loc (fI a :: r) h cl sl post :=
  fw_br (c := 0 < Int32.ofInt a) (t := t) (e := (pc + 3)) hi rfl rfl (by simp only [ik_step, ht]) (fun c => K1 (by rw [cv_lt, (show (0 : Int32).toInt = 0 from by decide), fi_i ha ha2] at c; omega)) (fun c => K2 (by rw [cv_lt, (show (0 : Int32).toInt = 0 from by decide), fi_i ha ha2] at c; omega))
theorem fw_if_le {a off : Int} {t : Nat} (hi : ik_at mid pc = some (.ifCond .le off)) (ht : ik_tg pc off = some t) (ha : -2147483648 ≤ a) (ha2 : a < 2147483648) (K1 : a ≤ 0 → ik_W X mid t loc r h cl sl post) (K2 : 0 < a → ik_W X mid (pc + 3) loc r h cl sl post) : ik_W X mid pc loc (fI a :: r) h cl sl post :=
  fw_br (c := Int32.ofInt a ≤ 0) (t := t) (e := (pc + 3)) hi rfl rfl (by simp only [ik_step, ht]) (fun c => K1 (by rw [cv_le, fi_i ha ha2, (show (0 : Int32).toInt = 0 from by decide)] at c; omega)) (fun c => K2 (by rw [cv_le, fi_i ha ha2, (show (0 : Int32).toInt = 0 from by decide)] at c; omega))
end
theorem lg_eq0 (x y : Int64) : (lg_cmp x y = 0) = (x.toInt = y.toInt) := by
  apply propext
  have h1 := lg_lt0 x y
  have h2 := lg_gt0 x y
  rw [cv_lt] at h1 h2
  have z : (0 : Int32).toInt = 0 := by decide
  rw [z] at h1 h2
  rw [cv_eq, z]
  constructor
  · intro q
    have a1 : ¬ x.toInt < y.toInt := fun w => by have := h1.mpr w; omega
    have a2 : ¬ y.toInt < x.toInt := fun w => by have := h2.mpr w; omega
    omega
  · intro q
    have a1 : ¬ (lg_cmp x y).toInt < 0 := fun w => by have := h1.mp w; omega
    have a2 : ¬ 0 < (lg_cmp x y).toInt := fun w => by have := h2.mp w; omega
    omega
theorem lg_le0 (x y : Int64) : (lg_cmp x y ≤ 0) = (x.toInt ≤ y.toInt) := by
  apply propext
  have h2 := lg_gt0 x y
  rw [cv_lt] at h2
  have z : (0 : Int32).toInt = 0 := by decide
  rw [z] at h2
  rw [cv_le, z]
  constructor
  · intro q
    have a2 : ¬ y.toInt < x.toInt := fun w => by have := h2.mpr w; omega
    omega
  · intro q
    have a2 : ¬ 0 < (lg_cmp x y).toInt := fun w => by have := h2.mp w; omega
    omega
theorem lg_ge0 (x y : Int64) : (0 ≤ lg_cmp x y) = (y.toInt ≤ x.toInt) := by
  apply propext
  have h2 := lg_lt0 x y
  rw [cv_lt] at h2
  have z : (0 : Int32).toInt = 0 := by decide
  rw [z] at h2
  rw [cv_le, z]
  constructor
  · intro q
    have a2 : ¬ x.toInt < y.toInt := fun w => by have := h2.mpr w; omega
    omega
  · intro q
    have a2 : ¬ (lg_cmp x y).toInt < 0 := fun w => by have := h2.mp w; omega
    omega
section
variable {X : Option (Nat × (Nat → Int32))} {mid pc : Nat} {loc : ik_L} {st r : List Value} {h : List ik_E} {cl sl : Nat} {post : ik_St → Prop}
theorem fw_lcmp_eq {a b off : Int} {t : Nat} (h0 : ik_at mid pc = some .lcmp) (hi : ik_at mid (pc + 1) = some (.ifCond .eq off)) (ht : ik_tg (pc + 1) off = some t) (ha : -9223372036854775808 ≤ a) (ha2 : a < 9223372036854775808) (hb : -9223372036854775808 ≤ b) (hb2 : b < 9223372036854775808) (K1 : a = b → ik_W X mid t loc r h cl sl post) (K2 : ¬ a = b → ik_W X mid (pc + 1 + 3) loc r h cl sl post) : ik_W X mid pc loc (fJ b :: fJ a :: r) h cl sl post :=
  fw_1 h0 rfl rfl rfl (fw_br (c := lg_cmp (Int64.ofInt a) (Int64.ofInt b) = 0) (t := t) (e := (pc + 1 + 3)) hi rfl rfl (by simp only [ik_step, ht]) (fun c => K1 (by rw [lg_eq0, fj_i ha ha2, fj_i hb hb2] at c; omega)) (fun c => K2 (by rw [lg_eq0, fj_i ha ha2, fj_i hb hb2] at c; omega)))
theorem fw_lcmp_ne {a b off : Int} {t : Nat} (h0 : ik_at mid pc = some .lcmp) (hi : ik_at mid (pc + 1) = some (.ifCond .ne off)) (ht : ik_tg (pc + 1) off = some t) (ha : -9223372036854775808 ≤ a) (ha2 : a < 9223372036854775808) (hb : -9223372036854775808 ≤ b) (hb2 : b < 9223372036854775808) (K1 : a = b → ik_W X mid (pc + 1 + 3) loc r h cl sl post) (K2 : ¬ a = b → ik_W X mid t loc r h cl sl post) : ik_W X mid pc loc (fJ b :: fJ a :: r) h cl sl post :=
  fw_1 h0 rfl rfl rfl (fw_br (c := lg_cmp (Int64.ofInt a) (Int64.ofInt b) = 0) (t := (pc + 1 + 3)) (e := t) hi rfl rfl (by simp only [ik_step, ht]) (fun c => K1 (by rw [lg_eq0, fj_i ha ha2, fj_i hb hb2] at c; omega)) (fun c => K2 (by rw [lg_eq0, fj_i ha ha2, fj_i hb hb2] at c; omega)))
theorem fw_lcmp_lt {a b off : Int} {t : Nat} (h0 : ik_at mid pc = some .lcmp) (hi : ik_at mid (pc + 1) = some (.ifCond .lt off)) (ht : ik_tg (pc + 1) off = some t) (ha : -9223372036854775808 ≤ a) (ha2 : a < 9223372036854775808) (hb : -9223372036854775808 ≤ b) (hb2 : b < 9223372036854775808) (K1 : a < b → ik_W X mid t loc r h cl sl post) (K2 : b ≤ a → ik_W X mid (pc + 1 + 3) loc r h cl sl post) : ik_W X mid pc loc (fJ b :: fJ a :: r) h cl sl post :=
  fw_1 h0 rfl rfl rfl (fw_br (c := lg_cmp (Int64.ofInt a) (Int64.ofInt b) < 0) (t := t) (e := (pc + 1 + 3)) hi rfl rfl (by simp only [ik_step, ht]) (fun c => K1 (by rw [lg_lt0, fj_i ha ha2, fj_i hb hb2] at c; omega)) (fun c => K2 (by rw [lg_lt0, fj_i ha ha2, fj_i hb hb2] at c; omega)))
theorem fw_lcmp_ge {a b off : Int} {t : Nat} (h0 : ik_at mid pc = some .lcmp) (hi : ik_at mid (pc + 1) = some (.ifCond .ge off)) (ht : ik_tg (pc + 1) off = some t) (ha : -9223372036854775808 ≤ a) (ha2 : a < 9223372036854775808) (hb : -9223372036854775808 ≤ b) (hb2 : b < 9223372036854775808) (K1 : b ≤ a → ik_W X mid t loc r h cl sl post) (K2 : a < b → ik_W X mid (pc + 1 + 3) loc r h cl sl post) : ik_W X mid pc loc (fJ b :: fJ a :: r) h cl sl post :=
  fw_1 h0 rfl rfl rfl (fw_br (c := 0 ≤ lg_cmp (Int64.ofInt a) (Int64.ofInt b)) (t := t) (e := (pc + 1 + 3)) hi rfl rfl (by simp only [ik_step, ht]) (fun c => K1 (by rw [lg_ge0, fj_i hb hb2, fj_i ha ha2] at c; omega)) (fun c => K2 (by rw [lg_ge0, fj_i hb hb2, fj_i ha ha2] at c; omega)))
theorem fw_lcmp_gt {a b off : Int} {t : Nat} (h0 : ik_at mid pc = some .lcmp) (hi : ik_at mid (pc + 1) = some (.ifCond .gt off)) (ht : ik_tg (pc + 1) off = some t) (ha : -9223372036854775808 ≤ a) (ha2 : a < 9223372036854775808) (hb : -9223372036854775808 ≤ b) (hb2 : b < 9223372036854775808) (K1 : b < a → ik_W X mid t loc r h cl sl post) (K2 : a ≤ b → ik_W X mid (pc + 1 + 3) loc r h cl sl post) : ik_W X mid pc loc (fJ b :: fJ a :: r) h cl sl post :=
  fw_1 h0 rfl rfl rfl (fw_br (c := 0 < lg_cmp (Int64.ofInt a) (Int64.ofInt b)) (t := t) (e := (pc + 1 + 3)) hi rfl rfl (by simp only [ik_step, ht]) (fun c => K1 (by rw [lg_gt0, fj_i hb hb2, fj_i ha ha2] at c; omega)) (fun c => K2 (by rw [lg_gt0, fj_i hb hb2, fj_i ha ha2] at c; omega)))
theorem fw_lcmp_le {a b off : Int} {t : Nat} (h0 : ik_at mid pc = some .lcmp) (hi : ik_at mid (pc + 1) = some (.ifCond .le off)) (ht : ik_tg (pc + 1) off = some t) (ha : -9223372036854775808 ≤ a) (ha2 : a < 9223372036854775808) (hb : -9223372036854775808 ≤ b) (hb2 : b < 9223372036854775808) (K1 : a ≤ b → ik_W X mid t loc r h cl sl post) (K2 : b < a → ik_W X mid (pc + 1 + 3) loc r h cl sl post) : ik_W X mid pc loc (fJ b :: fJ a :: r) h cl sl post :=
  fw_1 h0 rfl rfl rfl (fw_br (c := lg_cmp (Int64.ofInt a) (Int64.ofInt b) ≤ 0) (t := t) (e := (pc + 1 + 3)) hi rfl rfl (by simp only [ik_step, ht]) (fun c => K1 (by rw [lg_le0, fj_i ha ha2, fj_i hb hb2] at c; omega)) (fun c => K2 (by rw [lg_le0, fj_i ha ha2, fj_i hb hb2] at c; omega)))
end
/-- a whole method: what it gives back, and the heap behind it -/
abbrev ik_G (q pc : Nat) (loc : ik_L) (st : List Value) (h : List ik_E) (R : List Value → List ik_E → Prop) : Prop := ik_W none q pc loc st h 0 0 (fun z => ∃ ir rv, ik_at q z.1 = some ir ∧ ik_rv (ik_rt q) ir z.2.2.1 = some rv ∧ z.2.2.2.2.1 = 0 ∧ z.2.2.2.2.2 = 0 ∧ R rv z.2.2.2.1)
def ik_F (q : Nat) (as : List Value) (h : List ik_E) (R : List Value → List ik_E → Prop) : Prop := ik_G q 0 (ik_loc (ik_ml q) as) [] h R
theorem ik_F_mono {q : Nat} {as : List Value} {h : List ik_E} {R R' : List Value → List ik_E → Prop} (H : ik_F q as h R) (hr : ∀ rv h_q, R rv h_q → R' rv h_q) : ik_F q as h R' := by
  obtain ⟨n, z, he, ir, rv, h1, h2, h3, h4, h5⟩ := H
  exact ⟨n, z, he, ir, rv, h1, h2, h3, h4, hr _ _ h5⟩
theorem ik_Wmono {X : Option (Nat × (Nat → Int32))} {mid pc : Nat} {loc : ik_L} {st : List Value} {h : List ik_E} {cl sl : Nat} {P Q : ik_St → Prop} (H : ik_W X mid pc loc st h cl sl P) (hq : ∀ z, P z → Q z) : ik_W X mid pc loc st h cl sl Q := by
  obtain ⟨n, z, he, hp⟩ := H
  exact ⟨n, z, he, hq z hp⟩
theorem ik_Gm {q pc : Nat} {loc : ik_L} {st : List Value} {h : List ik_E} {R R' : List Value → List ik_E → Prop} (H : ik_G q pc loc st h R) (hr : ∀ rv h_q, R rv h_q → R' rv h_q) : ik_G q pc loc st h R' := by
  obtain ⟨n, z, he, ir, rv, h1, h2, h3, h4, h5⟩ := H
  exact ⟨n, z, he, ir, rv, h1, h2, h3, h4, hr _ _ h5⟩
def fw_ft (mid q L : Nat) (as rest : List Value) (loc : ik_L) : Bool := decide (ik_fr q + 1 ≤ ik_fr mid) && decide (8 + (ik_ml q + 11) + ik_lo q ≤ ik_lo mid) && decide (ik_sum rest ≤ 8) && decide ((ik_args as).length ≤ ik_ml q) && decide (q < 227) && rest.all (ik_wv L) && loc.all (ik_wl L)
theorem fw_ftw {mid q L : Nat} {as rest : List Value} {l0 : ik_L} {w : Option Value} (hw : ik_wl L w = true) (h : fw_ft mid q L as rest l0 = true) : fw_ft mid q L as rest (l0 ++ [w]) = true := by
  unfold fw_ft at h ⊢
  rw [List.all_append]
  simp only [List.all_cons, List.all_nil, hw, Bool.and_true]
  exact h
theorem fw_M : ik_M.length = 227 := by decide +kernel
theorem fw_rec {mid q L a ci : Nat} {as rest : List Value} {loc : ik_L} {h : List ik_E} {fs : List Value} (hl : h.length = L) (h1 : fw_ft mid q L (.ref a :: as) rest loc = true) (hc : h[a]? = some (.inr (ci, fs))) (ho : ci = ik_ow q) (h2 : ci < 11) : ik_fitC mid q 0 (.ref a :: as) h rest loc = true := by
  unfold ik_fitC
  unfold fw_ft at h1
  rw [fw_M, hl, h1]
  simp only [hc, Bool.true_and]
  rw [decide_eq_true ho, decide_eq_true h2]
  rfl
theorem fw_str {mid q L k : Nat} {as rest : List Value} {loc : ik_L} {h : List ik_E} (hl : h.length = L) (h1 : fw_ft mid q L (.retAddr (k + 1) :: as) rest loc = true) (hk : k % 2 = 0) (hk2 : k < 6) (ho : ik_ow q = ik_sow) : ik_fitC mid q 0 (.retAddr (k + 1) :: as) h rest loc = true := by
  unfold ik_fitC
  unfold fw_ft at h1
  rw [fw_M, hl, h1]
  simp only [Bool.true_and]
  rw [decide_eq_true hk, decide_eq_true hk2, decide_eq_true ho]
  rfl
theorem fw_sta {mid q L kd : Nat} {as rest : List Value} {loc : ik_L} {h : List ik_E} (hl : h.length = L) (h1 : fw_ft mid q L as rest loc = true) (hk : kd = 3 ∨ kd = 4) : ik_fitC mid q kd as h rest loc = true := by
  unfold ik_fitC
  unfold fw_ft at h1
  rw [fw_M, hl, h1]
  rcases hk with hk | hk <;> subst hk <;> rfl
section
variable {X : Option (Nat × (Nat → Int32))} {mid pc : Nat} {loc : ik_L} {st r : List Value} {h : List ik_E} {cl sl : Nat} {post : ik_St → Prop}
theorem fw_call {i : Instr} (q k kd : Nat) (as rest : List Value) {R : List Value → List ik_E → Prop} (hi : ik_at mid pc = some i) (hr : ik_isR i = false) (hc : ik_call mid i = some (q, k, kd)) (hkd : kd < 5) (hst : st = as.reverse ++ rest) (hk : as.length = k) (hf : ik_fitC mid q kd as h rest loc = true) (F : ik_F q as h R)
    (K : ∀ rv h_q, R rv h_q → ik_W X mid (pc + 3) loc (rv ++ rest) h_q cl sl post) : ik_W X mid pc loc st h cl sl post := by
  obtain ⟨n, z, he, ir, rv, h1, h2, h3, h4, h5⟩ := F
  refine ik_Wc q k kd as rest hi hr hc hkd hst hk hf ⟨n, z, he, ir, rv, h1, h2, ?_⟩
  rw [h3, h4]
  exact K _ _ h5
theorem fw_min {a b : Int} {i : Instr} {k : Nat} (hi : ik_at mid pc = some i) (hr : ik_isR i = false) (hc : ik_call mid i = some (0, k, 7)) (hl : 1 ≤ ik_fr mid ∧ 40 ≤ ik_lo mid ∧ ik_sum r ≤ 8) (ha : -2147483648 ≤ a) (ha2 : a < 2147483648) (hb : -2147483648 ≤ b) (hb2 : b < 2147483648) (K : ik_W X mid (pc + 3) loc (fI (if b < a then b else a) :: r) h cl sl post) : ik_W X mid pc loc (fI b :: fI a :: r) h cl sl post := by
  obtain ⟨n, z, he, hp⟩ := K
  refine ⟨n + 1, z, ?_, hp⟩
  simp only [ik_ex, hi, hr, hc, cond_false, ik_math, ik_bo]
  have e : (if Int32.ofInt b < Int32.ofInt a then Int32.ofInt b else Int32.ofInt a) = Int32.ofInt (if b < a then b else a) := by
    have hx : (Int32.ofInt b < Int32.ofInt a) = (b < a) := by rw [cv_lt, fi_i hb hb2, fi_i ha ha2]
    by_cases hba : b < a
    · rw [if_pos hba, if_pos (hx.mpr hba)]
    · rw [if_neg hba, if_neg (fun w => hba (hx.mp w))]
  rw [e]
  simp only [List.drop_succ_cons, List.drop_zero]
  rw [if_pos hl]
  exact he
theorem fw_ret {q : Nat} {loc_q : ik_L} {i : Instr} {rv : List Value} {R : List Value → List ik_E → Prop} (hi : ik_at q pc = some i) (hr : ik_isR i = true) (hv : ik_rv (ik_rt q) i st = some rv) (hp : R rv h) : ik_G q pc loc_q st h R :=
  ik_Wret hi hr ⟨i, rv, hi, hv, rfl, rfl, hp⟩
end

/-! 38g.spec -/
/-! THE TEXT READ, as functions of its bytes: y i the byte at i (0 .. 255), n how many there are -/
def zW (p : Int → Bool) (n : Int) : Nat → Int → Int
  | 0, i => i
  | k + 1, i => if i < n ∧ p i = true then zW p n k (i + 1) else i
/-- the first from i on at which p does not hold, or the end -/
def zw (p : Int → Bool) (n i : Int) : Int := zW p n (n - i).toNat i
theorem zw_step {p : Int → Bool} {n i : Int} (h1 : i < n) (h2 : p i = true) : zw p n i = zw p n (i + 1) := by
  unfold zw
  have e : (n - i).toNat = (n - (i + 1)).toNat + 1 := by omega
  rw [e, zW, if_pos ⟨h1, h2⟩]
theorem zw_stop {p : Int → Bool} {n i : Int} (h : ¬ (i < n ∧ p i = true)) : zw p n i = i := by
  unfold zw
  cases (n - i).toNat with
  | zero => rfl
  | succ k => rw [zW, if_neg h]
theorem zW_ge {p : Int → Bool} {n : Int} : ∀ (k : Nat) (i : Int), i ≤ zW p n k i := by
  intro k
  induction k with
  | zero => intro i; exact Int.le_refl i
  | succ k ih =>
    intro i
    rw [zW]
    split
    · have := ih (i + 1); omega
    · exact Int.le_refl i
theorem zW_le {p : Int → Bool} {n : Int} : ∀ (k : Nat) (i : Int), i ≤ n → zW p n k i ≤ n := by
  intro k
  induction k with
  | zero => intro i h; exact h
  | succ k ih =>
    intro i h
    rw [zW]
    split
    · rename_i q; exact ih (i + 1) (by omega)
    · exact h
theorem zW_mid {p : Int → Bool} {n : Int} : ∀ (k : Nat) (i j : Int), i ≤ j → j < zW p n k i → p j = true := by
  intro k
  induction k with
  | zero => intro i j h1 h2; rw [zW] at h2; omega
  | succ k ih =>
    intro i j h1 h2
    rw [zW] at h2
    split at h2
    · rename_i q
      by_cases e : i = j
      · rw [← e]; exact q.2
      · exact ih (i + 1) j (by omega) h2
    · omega
theorem zW_end {p : Int → Bool} {n : Int} : ∀ (k : Nat) (i : Int), (n - i).toNat ≤ k → zW p n k i < n → p (zW p n k i) = false := by
  intro k
  induction k with
  | zero => intro i h1 h2; rw [zW] at h2; omega
  | succ k ih =>
    intro i h1 h2
    rw [zW] at h2 ⊢
    split at h2
    · rename_i q
      rw [if_pos q]
      exact ih (i + 1) (by omega) h2
    · rename_i q
      rw [if_neg q]
      cases hp : p i with
      | true => exact absurd ⟨h2, hp⟩ q
      | false => rfl
theorem zw_ge {p : Int → Bool} {n : Int} (i : Int) : i ≤ zw p n i := zW_ge _ i
theorem zw_le {p : Int → Bool} {n i : Int} (h : i ≤ n) : zw p n i ≤ n := zW_le _ i h
theorem zw_mid {p : Int → Bool} {n i j : Int} (h1 : i ≤ j) (h2 : j < zw p n i) : p j = true := zW_mid _ i j h1 h2
theorem zw_end {p : Int → Bool} {n i : Int} (h : zw p n i < n) : p (zw p n i) = false := zW_end _ i (Nat.le_refl _) h
theorem zw_idem {p : Int → Bool} {n i : Int} : zw p n (zw p n i) = zw p n i := by
  refine zw_stop (fun q => ?_)
  have := zw_end q.1
  rw [this] at q
  exact absurd q.2 (by decide)
def zb (y : Int → Int) (i : Int) : Bool := decide (y i = 32)
def zl (y : Int → Int) (i : Int) : Bool := decide (97 ≤ y i ∧ y i ≤ 122)
def zd (y : Int → Int) (i : Int) : Bool := decide (48 ≤ y i ∧ y i ≤ 57)
def zS (y : Int → Int) (n i : Int) : Int := zw (zb y) n i
def zE (y : Int → Int) (n i : Int) : Int := zw (zl y) n i
def zD (y : Int → Int) (n i : Int) : Int := zw (zd y) n i
theorem zS_ge {y : Int → Int} {n : Int} (i : Int) : i ≤ zS y n i := zw_ge i
theorem zS_le {y : Int → Int} {n i : Int} (h : i ≤ n) : zS y n i ≤ n := zw_le h
theorem zE_ge {y : Int → Int} {n : Int} (i : Int) : i ≤ zE y n i := zw_ge i
theorem zE_le {y : Int → Int} {n i : Int} (h : i ≤ n) : zE y n i ≤ n := zw_le h
theorem zD_ge {y : Int → Int} {n : Int} (i : Int) : i ≤ zD y n i := zw_ge i
theorem zD_le {y : Int → Int} {n i : Int} (h : i ≤ n) : zD y n i ≤ n := zw_le h
theorem zS_step {y : Int → Int} {n i : Int} (h1 : i < n) (h2 : y i = 32) : zS y n i = zS y n (i + 1) := zw_step h1 (decide_eq_true h2)
theorem zS_stop {y : Int → Int} {n i : Int} (h : ¬ (i < n ∧ y i = 32)) : zS y n i = i := zw_stop (fun q => h ⟨q.1, of_decide_eq_true q.2⟩)
theorem zE_step {y : Int → Int} {n i : Int} (h1 : i < n) (h2 : 97 ≤ y i ∧ y i ≤ 122) : zE y n i = zE y n (i + 1) := zw_step h1 (decide_eq_true h2)
theorem zE_stop {y : Int → Int} {n i : Int} (h : ¬ (i < n ∧ 97 ≤ y i ∧ y i ≤ 122)) : zE y n i = i := zw_stop (fun q => h ⟨q.1, of_decide_eq_true q.2⟩)
theorem zD_step {y : Int → Int} {n i : Int} (h1 : i < n) (h2 : 48 ≤ y i ∧ y i ≤ 57) : zD y n i = zD y n (i + 1) := zw_step h1 (decide_eq_true h2)
theorem zD_stop {y : Int → Int} {n i : Int} (h : ¬ (i < n ∧ 48 ≤ y i ∧ y i ≤ 57)) : zD y n i = i := zw_stop (fun q => h ⟨q.1, of_decide_eq_true q.2⟩)
theorem zD_mid {y : Int → Int} {n i j : Int} (h1 : i ≤ j) (h2 : j < zD y n i) : 48 ≤ y j ∧ y j ≤ 57 := of_decide_eq_true (zw_mid (p := zd y) h1 h2)
theorem zE_mid {y : Int → Int} {n i j : Int} (h1 : i ≤ j) (h2 : j < zE y n i) : 97 ≤ y j ∧ y j ≤ 122 := of_decide_eq_true (zw_mid (p := zl y) h1 h2)
theorem zS_idem {y : Int → Int} {n i : Int} : zS y n (zS y n i) = zS y n i := zw_idem
theorem zS_end {y : Int → Int} {n i : Int} (h : zS y n i < n) : ¬ y (zS y n i) = 32 := of_decide_eq_false (zw_end (p := zb y) h)
/-- the number from s to e, if it has one to three figures -/
def zval (y : Int → Int) (s e : Int) : Int := if e = s + 1 then y s - 48 else if e = s + 2 then 10 * (y s - 48) + (y (s + 1) - 48) else if e = s + 3 then 100 * (y s - 48) + 10 * (y (s + 1) - 48) + (y (s + 2) - 48) else 5000
/-- a number at s: its fault, or 0 -/
def znum (y : Int → Int) (n lo hi s : Int) : Int := if zD y n s = s then 1 else if lo ≤ zval y s (zD y n s) ∧ zval y s (zD y n s) ≤ hi then 0 else 2
def zv (y : Int → Int) (n s : Int) : Int := zval y s (zD y n s)
def zto (y : Int → Int) (n s : Int) : Bool := decide (zE y n s = s + 2 ∧ y s = 116 ∧ y (s + 1) = 111)
def zpl (y : Int → Int) (n s : Int) : Bool := decide (zE y n s = s + 5 ∧ y s = 112 ∧ y (s + 1) = 108 ∧ y (s + 2) = 97 ∧ y (s + 3) = 99 ∧ y (s + 4) = 101)
def zbr (y : Int → Int) (n s : Int) : Bool := decide (zE y n s = s + 6 ∧ y s = 98 ∧ y (s + 1) = 114 ∧ y (s + 2) = 105 ∧ y (s + 3) = 100 ∧ y (s + 4) = 103 ∧ y (s + 5) = 101)
abbrev zM : Type := Int × Int × Int
/-- the moves of a place: a fault and its byte, or the moves and where it goes on -/
def zmv (y : Int → Int) (n : Int) : Nat → List zM → Int → Int → (Int × Int) ⊕ (List zM × Int)
  | 0, _, _, _ => .inl (1, 0)
  | k + 1, r, sum, cur =>
    if zto y n (zS y n cur) = true then
      if r.length = 4 then .inl (3, zS y n cur)
      else if znum y n 0 11 (zS y n (zS y n cur + 2)) = 0 then
        if (r.any fun m => decide (m.1 = zv y n (zS y n (zS y n cur + 2)))) = true then .inl (4, zS y n (zS y n cur + 2))
        else if znum y n 1 100 (zS y n (zD y n (zS y n (zS y n cur + 2)))) = 0 then
          if 100 < sum + zv y n (zS y n (zD y n (zS y n (zS y n cur + 2)))) then .inl (5, zS y n (zD y n (zS y n (zS y n cur + 2))))
          else zmv y n k (r ++ [(zv y n (zS y n (zS y n cur + 2)), zv y n (zS y n (zD y n (zS y n (zS y n cur + 2)))), zS y n (zS y n cur + 2))]) (sum + zv y n (zS y n (zD y n (zS y n (zS y n cur + 2))))) (zD y n (zS y n (zD y n (zS y n (zS y n cur + 2)))))
        else .inl (znum y n 1 100 (zS y n (zD y n (zS y n (zS y n cur + 2)))), zS y n (zD y n (zS y n (zS y n cur + 2))))
      else .inl (znum y n 0 11 (zS y n (zS y n cur + 2)), zS y n (zS y n cur + 2))
    else if r ≠ [] ∧ zS y n cur < n ∧ y (zS y n cur) = 59 then
      if sum = 100 then .inr (r, zS y n cur + 1) else .inl (5, zS y n cur)
    else .inl (1, zS y n cur)
/-- what stands behind 'bridge' -/
def zend (y : Int → Int) (n c : Int) : Int × Int :=
  if zS y n c < n ∧ y (zS y n c) = 59 then (if zS y n (zS y n c + 1) < n then (1, zS y n (zS y n c + 1)) else (0, 0)) else (1, zS y n c)
def zps (y : Int → Int) (n : Int) : Nat → List (List zM) → Int → (Int × Int) ⊕ List (List zM)
  | 0, _, _ => .inl (1, 0)
  | k + 1, rs, cur =>
    if zbr y n (zS y n cur) = true then
      if (zend y n (zS y n cur + 6)).1 = 0 then .inr rs else .inl (zend y n (zS y n cur + 6))
    else if zpl y n (zS y n cur) = true then
      if rs.length = 11 then .inl (3, zS y n cur)
      else match zmv y n 5 [] 0 (zS y n cur + 5) with
        | .inl e => .inl e
        | .inr (r, c) => zps y n k (rs ++ [r]) c
    else .inl (1, zS y n cur)
/-- the first goal that is no place -/
def zck (rs : List (List zM)) : Option zM := rs.flatten.find? fun m => decide ((rs.length : Int) + 1 ≤ m.1)
/-- the whole: a fault and its byte, or how many places, and the moves of all but the bridge -/
def zall (y : Int → Int) (n : Int) : (Int × Int) ⊕ (Int × List (List zM)) :=
  if zS y n 0 < n then
    match zps y n 12 [] (zS y n 0) with
    | .inl e => .inl e
    | .inr rs => match zck rs with
      | some m => .inl (6, m.2.2)
      | none => .inr ((rs.length : Int) + 1, rs)
  else .inr (0, [])
/-- rows hold these moves -/
def zh (G P B : List Int) (p : Nat) (r : List zM) : Prop := ∀ (i : Nat) (m : zM), r[i]? = some m → G.getD (4 * p + i) 0 = m.1 ∧ P.getD (4 * p + i) 0 = m.2.1 ∧ B.getD (4 * p + i) 0 = m.2.2
def zH (C G P B : List Int) (rs : List (List zM)) : Prop := ∀ (p : Nat) (r : List zM), rs[p]? = some r → C.getD p 0 = (r.length : Int) ∧ r.length ≤ 4 ∧ zh G P B p r

/-! 38g1.num -/
/-! numbers: what znum, zv are while one is read -/
def ik_hid (p : Prop) : Prop := p
theorem ik_hid_i {p : Prop} (h : p) : ik_hid p := h
theorem zval_of {y : Int → Int} {s cur v : Int} (hinv : (cur = s → v = 0) ∧ (cur = s + 1 → v = y s - 48) ∧ (cur = s + 2 → v = 10 * (y s - 48) + (y (s + 1) - 48)) ∧ (cur = s + 3 → v = 100 * (y s - 48) + 10 * (y (s + 1) - 48) + (y (s + 2) - 48))) (h1 : s < cur) (h3 : cur ≤ s + 3) : zval y s cur = v := by
  obtain ⟨_, i1, i2, i3⟩ := hinv
  unfold zval
  by_cases q1 : cur = s + 1
  · rw [if_pos q1]
    exact (i1 q1).symm
  · rw [if_neg q1]
    by_cases q2 : cur = s + 2
    · rw [if_pos q2]
      exact (i2 q2).symm
    · have q3 : cur = s + 3 := by
        clear i1 i2 i3
        omega
      rw [if_neg q2, if_pos q3]
      exact (i3 q3).symm
theorem zval_far {y : Int → Int} {s cur : Int} (h : s + 3 < cur) : zval y s cur = 5000 := by
  unfold zval
  rw [if_neg (by omega), if_neg (by omega), if_neg (by omega)]
theorem znum_1 {y : Int → Int} {n lo hi s cur : Int} (he : zD y n s = cur) (h : cur = s) : znum y n lo hi s = 1 := by
  unfold znum
  rw [he, if_pos h]
theorem znum_0 {y : Int → Int} {n lo hi s cur v : Int} (he : zD y n s = cur) (h : ¬ cur = s) (hz : zval y s cur = v) (h1 : lo ≤ v) (h2 : v ≤ hi) : znum y n lo hi s = 0 := by
  unfold znum
  rw [he, if_neg h, hz, if_pos ⟨h1, h2⟩]
theorem znum_2 {y : Int → Int} {n lo hi s cur v : Int} (he : zD y n s = cur) (h : ¬ cur = s) (hz : zval y s cur = v) (h1 : ¬ (lo ≤ v ∧ v ≤ hi)) : znum y n lo hi s = 2 := by
  unfold znum
  rw [he, if_neg h, hz, if_neg h1]
theorem zv_of {y : Int → Int} {n s cur v : Int} (he : zD y n s = cur) (hz : zval y s cur = v) : zv y n s = v := by
  unfold zv
  rw [he]
  exact hz
theorem znum_inv {y : Int → Int} {n s cur v v' : Int} (hinv : (cur = s → v = 0) ∧ (cur = s + 1 → v = y s - 48) ∧ (cur = s + 2 → v = 10 * (y s - 48) + (y (s + 1) - 48)) ∧ (cur = s + 3 → v = 100 * (y s - 48) + 10 * (y (s + 1) - 48) + (y (s + 2) - 48))) (h1 : s ≤ cur) (he : zD y n s = zD y n (cur + 1)) (hv : v ≤ 99 → v' = v * 10 + (y cur - 48)) : ((cur + 1) = s → v' = 0) ∧ ((cur + 1) = s + 1 → v' = y s - 48) ∧ ((cur + 1) = s + 2 → v' = 10 * (y s - 48) + (y (s + 1) - 48)) ∧ ((cur + 1) = s + 3 → v' = 100 * (y s - 48) + 10 * (y (s + 1) - 48) + (y (s + 2) - 48)) := by
  obtain ⟨i0, i1, i2, i3⟩ := hinv
  have d : ∀ j, s ≤ j → j ≤ cur → 48 ≤ y j ∧ y j ≤ 57 := fun j a b => zD_mid (n := n) a (by have := zD_ge (y := y) (n := n) (cur + 1); clear i0 i1 i2 i3 hv; omega)
  refine ⟨fun q => absurd q (by clear i0 i1 i2 i3 hv; omega), fun q => ?_, fun q => ?_, fun q => ?_⟩
  · have w : cur = s := by
      clear i0 i1 i2 i3 hv
      omega
    have z := i0 w
    have u := hv (by clear i0 i1 i2 i3 hv; omega)
    rw [w] at u
    clear i0 i1 i2 i3 hv
    omega
  · have w : cur = s + 1 := by
      clear i0 i1 i2 i3 hv
      omega
    have z := i1 w
    have d0 := d s (by clear i0 i1 i2 i3 hv; omega) (by clear i0 i1 i2 i3 hv; omega)
    have u := hv (by clear i0 i1 i2 i3 hv; omega)
    rw [w] at u
    clear i0 i1 i2 i3 hv
    omega
  · have w : cur = s + 2 := by
      clear i0 i1 i2 i3 hv
      omega
    have z := i2 w
    have d0 := d s (by clear i0 i1 i2 i3 hv; omega) (by clear i0 i1 i2 i3 hv; omega)
    have d1 := d (s + 1) (by clear i0 i1 i2 i3 hv; omega) (by clear i0 i1 i2 i3 hv; omega)
    have u := hv (by clear i0 i1 i2 i3 hv; omega)
    rw [w] at u
    clear i0 i1 i2 i3 hv
    omega

/-! 38h.cz -/
/-! THE CLASS READS: its cells 1 .. 6 -/
def cz_t (T : List Int) (n cur fl fb pl : Int) (C G P B : List Int) (tl : List ik_E) : List ik_E := .inr (6, [.ref 2, fI n, fI cur, fI fl, fI fb, fI pl, .ref 3, .ref 4, .ref 5, .ref 6]) :: .inl (.byte, fA T) :: .inl (.int, fA C) :: .inl (.int, fA G) :: .inl (.int, fA P) :: .inl (.int, fA B) :: tl
theorem cz_len {c0 : ik_E} {T : List Int} {n cur fl fb pl : Int} {C G P B : List Int} {tl : List ik_E} (htl : tl.length = 87) : (c0 :: cz_t T n cur fl fb pl C G P B tl).length = 94 := by
  unfold cz_t
  simp only [List.length_cons, htl]
def cz_ok (y : Int → Int) (T : List Int) (n : Int) (tl : List ik_E) : Prop := tl.length = 87 ∧ T.length = 500 ∧ (∀ i : Int, 0 ≤ i → i < n → -128 ≤ T.getD i.toNat 0 ∧ T.getD i.toNat 0 ≤ 127) ∧ 0 ≤ n ∧ n ≤ 500 ∧ ∀ i, 0 ≤ i → i < n → y i = T.getD i.toNat 0 % 256

theorem cz_skip0 {c0 : ik_E} {tl : List ik_E} {y : Int → Int} {T : List Int} {n fl fb pl : Int} {C G P B : List Int} (ok : cz_ok y T n tl) : ∀ (k : Nat) (cur : Int), (n - cur).toNat = k → (0 : Int) ≤ cur → cur ≤ n → ik_G 66 0 [some (.ref 1)] [] (c0 :: cz_t T n cur fl fb pl C G P B tl) (fun rv h_q => rv = [] ∧ h_q = (c0 :: cz_t T n (zS y n cur) fl fb pl C G P B tl)) := by
  have ok' := ok
  obtain ⟨htl, hT, bT, hn, hn2, hy⟩ := ok'
  intro k
  induction k using Nat.strongRecOn with
  | _ k ih =>
    intro cur hk h0 h1
    refine ik_Wk 1 (pc_q := 1) (loc_q := [some (.ref 1)]) (st_q := [.ref 1]) (h_q := (c0 :: cz_t T n cur fl fb pl C G P B tl)) (cl_q := 0) (sl_q := 0) rfl ?_
    refine fw_gf rfl rfl rfl rfl ?_
    refine ik_Wk 1 (pc_q := 5) (loc_q := [some (.ref 1)]) (st_q := [.ref 1, fI cur]) (h_q := (c0 :: cz_t T n cur fl fb pl C G P B tl)) (cl_q := 0) (sl_q := 0) rfl ?_
    refine fw_gf rfl rfl rfl rfl ?_
    refine fw_ic_ge rfl rfl (by omega) (by omega) (by omega) (by omega) (fun hc1 => ?_) (fun hc1 => ?_)
    · exact ik_Wret rfl rfl ⟨_, _, rfl, rfl, rfl, rfl, ⟨rfl, by rw [zS_stop (y := y) (n := n) (i := cur) (by omega)]⟩⟩
    · refine ik_Wk 1 (pc_q := 12) (loc_q := [some (.ref 1)]) (st_q := [.ref 1]) (h_q := (c0 :: cz_t T n cur fl fb pl C G P B tl)) (cl_q := 0) (sl_q := 0) rfl ?_
      refine fw_gf rfl rfl rfl rfl ?_
      refine ik_Wk 1 (pc_q := 16) (loc_q := [some (.ref 1)]) (st_q := [.ref 1, .ref 2]) (h_q := (c0 :: cz_t T n cur fl fb pl C G P B tl)) (cl_q := 0) (sl_q := 0) rfl ?_
      refine fw_gf rfl rfl rfl rfl ?_
      refine fw_bal rfl rfl (by omega) (by omega) (by omega) ?_
      have hb2 := bT cur (by omega) (by omega)
      have hb3 := hy cur (by omega) (by omega)
      refine fw_bi rfl (by decide) ?_
      refine fw_ic_ne rfl rfl (by omega) (by omega) (by omega) (by omega) (fun hc4 => ?_) (fun hc4 => ?_)
      · refine ik_Wk 2 (pc_q := 27) (loc_q := [some (.ref 1)]) (st_q := [.ref 1, .ref 1]) (h_q := (c0 :: cz_t T n cur fl fb pl C G P B tl)) (cl_q := 0) (sl_q := 0) rfl ?_
        refine fw_gf rfl rfl rfl rfl ?_
        refine ik_Wk 1 (pc_q := 31) (loc_q := [some (.ref 1)]) (st_q := [fI 1, fI cur, .ref 1]) (h_q := (c0 :: cz_t T n cur fl fb pl C G P B tl)) (cl_q := 0) (sl_q := 0) rfl ?_
        refine fw_add rfl ?_
        refine fw_pf (h_q := (c0 :: cz_t T n (cur + 1) fl fb pl C G P B tl)) rfl rfl rfl (Nat.le_of_ble_eq_true rfl) rfl rfl rfl ?_
        refine ik_Wk 1 (pc_q := 0) (loc_q := [some (.ref 1)]) (st_q := []) (h_q := (c0 :: cz_t T n (cur + 1) fl fb pl C G P B tl)) (cl_q := 0) (sl_q := 0) rfl ?_
        rw [zS_step (y := y) (n := n) (i := cur) (by omega) (by omega)]
        exact ih _ (by omega) (cur + 1) rfl (by omega) (by omega)
      · exact ik_Wret rfl rfl ⟨_, _, rfl, rfl, rfl, rfl, ⟨rfl, by rw [zS_stop (y := y) (n := n) (i := cur) (by omega)]⟩⟩

theorem cz_skip {c0 : ik_E} {tl : List ik_E} {y : Int → Int} {T : List Int} {n fl fb pl : Int} {C G P B : List Int} (ok : cz_ok y T n tl) {cur : Int} (h0 : 0 ≤ cur) (h1 : cur ≤ n) : ik_F 66 [.ref 1] (c0 :: cz_t T n cur fl fb pl C G P B tl) (fun rv h_q => rv = [] ∧ h_q = (c0 :: cz_t T n (zS y n cur) fl fb pl C G P B tl)) := cz_skip0 ok _ cur rfl h0 h1

theorem cz_refuse {c0 : ik_E} {tl : List ik_E} {y : Int → Int} {T : List Int} {n fl fb pl : Int} {C G P B : List Int} (ok : cz_ok y T n tl) {cur f a : Int} : ik_F 67 [.ref 1, fI f, fI a] (c0 :: cz_t T n cur fl fb pl C G P B tl) (fun rv h_q => rv = [fI 0] ∧ h_q = (c0 :: cz_t T n cur f a pl C G P B tl)) := by
  have ok' := ok
  obtain ⟨htl, hT, bT, hn, hn2, hy⟩ := ok'
  refine ik_Wk 2 (pc_q := 2) (loc_q := [some (.ref 1), some (fI f), some (fI a)]) (st_q := [fI f, .ref 1]) (h_q := (c0 :: cz_t T n cur fl fb pl C G P B tl)) (cl_q := 0) (sl_q := 0) rfl ?_
  refine fw_pf (h_q := (c0 :: cz_t T n cur f fb pl C G P B tl)) rfl rfl rfl (Nat.le_of_ble_eq_true rfl) rfl rfl rfl ?_
  refine ik_Wk 2 (pc_q := 7) (loc_q := [some (.ref 1), some (fI f), some (fI a)]) (st_q := [fI a, .ref 1]) (h_q := (c0 :: cz_t T n cur f fb pl C G P B tl)) (cl_q := 0) (sl_q := 0) rfl ?_
  refine fw_pf (h_q := (c0 :: cz_t T n cur f a pl C G P B tl)) rfl rfl rfl (Nat.le_of_ble_eq_true rfl) rfl rfl rfl ?_
  refine ik_Wk 1 (pc_q := 11) (loc_q := [some (.ref 1), some (fI f), some (fI a)]) (st_q := [fI 0]) (h_q := (c0 :: cz_t T n cur f a pl C G P B tl)) (cl_q := 0) (sl_q := 0) rfl ?_
  exact ik_Wret rfl rfl ⟨_, _, rfl, rfl, rfl, rfl, ⟨rfl, rfl⟩⟩

theorem cz_stands {c0 : ik_E} {tl : List ik_E} {y : Int → Int} {T : List Int} {n fl fb pl : Int} {C G P B : List Int} (ok : cz_ok y T n tl) {cur c : Int} (h0 : 0 ≤ cur) (h1 : cur ≤ n) (hc0 : 0 ≤ c) (hc1 : c ≤ 127) : ik_F 65 [.ref 1, fI c] (c0 :: cz_t T n cur fl fb pl C G P B tl) (fun rv h_q => ((cur < n ∧ y cur = c ∧ rv = [fI 1]) ∨ (¬ (cur < n ∧ y cur = c) ∧ rv = [fI 0])) ∧ h_q = (c0 :: cz_t T n cur fl fb pl C G P B tl)) := by
  have ok' := ok
  obtain ⟨htl, hT, bT, hn, hn2, hy⟩ := ok'
  refine ik_Wk 1 (pc_q := 1) (loc_q := [some (.ref 1), some (fI c)]) (st_q := [.ref 1]) (h_q := (c0 :: cz_t T n cur fl fb pl C G P B tl)) (cl_q := 0) (sl_q := 0) rfl ?_
  refine fw_gf rfl rfl rfl rfl ?_
  refine ik_Wk 1 (pc_q := 5) (loc_q := [some (.ref 1), some (fI c)]) (st_q := [.ref 1, fI cur]) (h_q := (c0 :: cz_t T n cur fl fb pl C G P B tl)) (cl_q := 0) (sl_q := 0) rfl ?_
  refine fw_gf rfl rfl rfl rfl ?_
  refine fw_ic_ge rfl rfl (by omega) (by omega) (by omega) (by omega) (fun hc1 => ?_) (fun hc1 => ?_)
  · refine ik_Wk 1 (pc_q := 29) (loc_q := [some (.ref 1), some (fI c)]) (st_q := [fI 0]) (h_q := (c0 :: cz_t T n cur fl fb pl C G P B tl)) (cl_q := 0) (sl_q := 0) rfl ?_
    exact ik_Wret rfl rfl ⟨_, _, rfl, rfl, rfl, rfl, ⟨Or.inr ⟨by omega, rfl⟩, rfl⟩⟩
  · refine ik_Wk 1 (pc_q := 12) (loc_q := [some (.ref 1), some (fI c)]) (st_q := [.ref 1]) (h_q := (c0 :: cz_t T n cur fl fb pl C G P B tl)) (cl_q := 0) (sl_q := 0) rfl ?_
    refine fw_gf rfl rfl rfl rfl ?_
    refine ik_Wk 1 (pc_q := 16) (loc_q := [some (.ref 1), some (fI c)]) (st_q := [.ref 1, .ref 2]) (h_q := (c0 :: cz_t T n cur fl fb pl C G P B tl)) (cl_q := 0) (sl_q := 0) rfl ?_
    refine fw_gf rfl rfl rfl rfl ?_
    refine fw_bal rfl rfl (by omega) (by omega) (by omega) ?_
    have hb2 := bT cur (by omega) (by omega)
    have hb3 := hy cur (by omega) (by omega)
    refine ik_Wk 1 (pc_q := 21) (loc_q := [some (.ref 1), some (fI c)]) (st_q := [fI c, fI (T.getD cur.toNat 0)]) (h_q := (c0 :: cz_t T n cur fl fb pl C G P B tl)) (cl_q := 0) (sl_q := 0) rfl ?_
    refine fw_ic_ne rfl rfl (by omega) (by omega) (by omega) (by omega) (fun hc4 => ?_) (fun hc4 => ?_)
    · refine ik_Wk 2 (pc_q := 29) (loc_q := [some (.ref 1), some (fI c)]) (st_q := [fI 1]) (h_q := (c0 :: cz_t T n cur fl fb pl C G P B tl)) (cl_q := 0) (sl_q := 0) rfl ?_
      exact ik_Wret rfl rfl ⟨_, _, rfl, rfl, rfl, rfl, ⟨Or.inl ⟨by omega, by omega, rfl⟩, rfl⟩⟩
    · refine ik_Wk 1 (pc_q := 29) (loc_q := [some (.ref 1), some (fI c)]) (st_q := [fI 0]) (h_q := (c0 :: cz_t T n cur fl fb pl C G P B tl)) (cl_q := 0) (sl_q := 0) rfl ?_
      exact ik_Wret rfl rfl ⟨_, _, rfl, rfl, rfl, rfl, ⟨Or.inr ⟨by omega, rfl⟩, rfl⟩⟩

set_option maxRecDepth 100000 in
theorem cs_len0 (h : List ik_E) : ik_F 212 [.retAddr 1] h (fun rv h_q => rv = [fI 6] ∧ h_q = h) := ⟨60, (10, [some (.retAddr 1)], [.int 6], h, 0, 0), rfl, .ireturn, [fI 6], rfl, rfl, rfl, rfl, rfl, rfl⟩

set_option maxRecDepth 100000 in
theorem cs_ch0_0 (h : List ik_E) : ik_F 213 [.retAddr 1, fI 0] h (fun rv h_q => rv = [fI 98] ∧ h_q = h) := ⟨60, (15, [some (.retAddr 1), some (.int 0)], [.int 98], h, 0, 0), rfl, .ireturn, [fI 98], rfl, rfl, rfl, rfl, rfl, rfl⟩

set_option maxRecDepth 100000 in
theorem cs_ch0_1 (h : List ik_E) : ik_F 213 [.retAddr 1, fI 1] h (fun rv h_q => rv = [fI 114] ∧ h_q = h) := ⟨60, (15, [some (.retAddr 1), some (.int 1)], [.int 114], h, 0, 0), rfl, .ireturn, [fI 114], rfl, rfl, rfl, rfl, rfl, rfl⟩

set_option maxRecDepth 100000 in
theorem cs_ch0_2 (h : List ik_E) : ik_F 213 [.retAddr 1, fI 2] h (fun rv h_q => rv = [fI 105] ∧ h_q = h) := ⟨60, (15, [some (.retAddr 1), some (.int 2)], [.int 105], h, 0, 0), rfl, .ireturn, [fI 105], rfl, rfl, rfl, rfl, rfl, rfl⟩

set_option maxRecDepth 100000 in
theorem cs_ch0_3 (h : List ik_E) : ik_F 213 [.retAddr 1, fI 3] h (fun rv h_q => rv = [fI 100] ∧ h_q = h) := ⟨60, (15, [some (.retAddr 1), some (.int 3)], [.int 100], h, 0, 0), rfl, .ireturn, [fI 100], rfl, rfl, rfl, rfl, rfl, rfl⟩

set_option maxRecDepth 100000 in
theorem cs_ch0_4 (h : List ik_E) : ik_F 213 [.retAddr 1, fI 4] h (fun rv h_q => rv = [fI 103] ∧ h_q = h) := ⟨60, (15, [some (.retAddr 1), some (.int 4)], [.int 103], h, 0, 0), rfl, .ireturn, [fI 103], rfl, rfl, rfl, rfl, rfl, rfl⟩

set_option maxRecDepth 100000 in
theorem cs_ch0_5 (h : List ik_E) : ik_F 213 [.retAddr 1, fI 5] h (fun rv h_q => rv = [fI 101] ∧ h_q = h) := ⟨60, (15, [some (.retAddr 1), some (.int 5)], [.int 101], h, 0, 0), rfl, .ireturn, [fI 101], rfl, rfl, rfl, rfl, rfl, rfl⟩

set_option maxRecDepth 100000 in
theorem cs_len1 (h : List ik_E) : ik_F 212 [.retAddr 3] h (fun rv h_q => rv = [fI 5] ∧ h_q = h) := ⟨60, (10, [some (.retAddr 3)], [.int 5], h, 0, 0), rfl, .ireturn, [fI 5], rfl, rfl, rfl, rfl, rfl, rfl⟩

set_option maxRecDepth 100000 in
theorem cs_ch1_0 (h : List ik_E) : ik_F 213 [.retAddr 3, fI 0] h (fun rv h_q => rv = [fI 112] ∧ h_q = h) := ⟨60, (15, [some (.retAddr 3), some (.int 0)], [.int 112], h, 0, 0), rfl, .ireturn, [fI 112], rfl, rfl, rfl, rfl, rfl, rfl⟩

set_option maxRecDepth 100000 in
theorem cs_ch1_1 (h : List ik_E) : ik_F 213 [.retAddr 3, fI 1] h (fun rv h_q => rv = [fI 108] ∧ h_q = h) := ⟨60, (15, [some (.retAddr 3), some (.int 1)], [.int 108], h, 0, 0), rfl, .ireturn, [fI 108], rfl, rfl, rfl, rfl, rfl, rfl⟩

set_option maxRecDepth 100000 in
theorem cs_ch1_2 (h : List ik_E) : ik_F 213 [.retAddr 3, fI 2] h (fun rv h_q => rv = [fI 97] ∧ h_q = h) := ⟨60, (15, [some (.retAddr 3), some (.int 2)], [.int 97], h, 0, 0), rfl, .ireturn, [fI 97], rfl, rfl, rfl, rfl, rfl, rfl⟩

set_option maxRecDepth 100000 in
theorem cs_ch1_3 (h : List ik_E) : ik_F 213 [.retAddr 3, fI 3] h (fun rv h_q => rv = [fI 99] ∧ h_q = h) := ⟨60, (15, [some (.retAddr 3), some (.int 3)], [.int 99], h, 0, 0), rfl, .ireturn, [fI 99], rfl, rfl, rfl, rfl, rfl, rfl⟩

set_option maxRecDepth 100000 in
theorem cs_ch1_4 (h : List ik_E) : ik_F 213 [.retAddr 3, fI 4] h (fun rv h_q => rv = [fI 101] ∧ h_q = h) := ⟨60, (15, [some (.retAddr 3), some (.int 4)], [.int 101], h, 0, 0), rfl, .ireturn, [fI 101], rfl, rfl, rfl, rfl, rfl, rfl⟩

set_option maxRecDepth 100000 in
theorem cs_len2 (h : List ik_E) : ik_F 212 [.retAddr 5] h (fun rv h_q => rv = [fI 2] ∧ h_q = h) := ⟨60, (10, [some (.retAddr 5)], [.int 2], h, 0, 0), rfl, .ireturn, [fI 2], rfl, rfl, rfl, rfl, rfl, rfl⟩

set_option maxRecDepth 100000 in
theorem cs_ch2_0 (h : List ik_E) : ik_F 213 [.retAddr 5, fI 0] h (fun rv h_q => rv = [fI 116] ∧ h_q = h) := ⟨60, (15, [some (.retAddr 5), some (.int 0)], [.int 116], h, 0, 0), rfl, .ireturn, [fI 116], rfl, rfl, rfl, rfl, rfl, rfl⟩

set_option maxRecDepth 100000 in
theorem cs_ch2_1 (h : List ik_E) : ik_F 213 [.retAddr 5, fI 1] h (fun rv h_q => rv = [fI 111] ∧ h_q = h) := ⟨60, (15, [some (.retAddr 5), some (.int 1)], [.int 111], h, 0, 0), rfl, .ireturn, [fI 111], rfl, rfl, rfl, rfl, rfl, rfl⟩

theorem cz_rw0E {c0 : ik_E} {tl : List ik_E} {y : Int → Int} {T : List Int} {n fl fb pl : Int} {C G P B : List Int} (ok : cz_ok y T n tl) {cur e : Int} (h0 : 0 ≤ cur) (h1 : cur ≤ e) (h2 : e ≤ n) (he : zE y n cur = e) : ik_G 64 41 [some (.ref 1), some (.retAddr 1), some (fI e), none] [] (c0 :: cz_t T n cur fl fb pl C G P B tl) (fun rv h_q => (zbr y n cur = true ∧ rv = [fI 1] ∧ h_q = (c0 :: cz_t T n (cur + 6) fl fb pl C G P B tl)) ∨ (zbr y n cur = false ∧ rv = [fI 0] ∧ h_q = (c0 :: cz_t T n cur fl fb pl C G P B tl))) := by
  have ok' := ok
  obtain ⟨htl, hT, bT, hn, hn2, hy⟩ := ok'
  have q0 : y (cur + 0) = y cur := congrArg y (Int.add_zero cur)
  refine ik_Wk 2 (pc_q := 43) (loc_q := [some (.ref 1), some (.retAddr 1), some (fI e), none]) (st_q := [.ref 1, fI e]) (h_q := (c0 :: cz_t T n cur fl fb pl C G P B tl)) (cl_q := 0) (sl_q := 0) rfl ?_
  refine fw_gf rfl rfl rfl rfl ?_
  refine fw_sub rfl ?_
  refine ik_Wk 1 (pc_q := 48) (loc_q := [some (.ref 1), some (.retAddr 1), some (fI e), none]) (st_q := [.retAddr 1, fI (e - cur)]) (h_q := (c0 :: cz_t T n cur fl fb pl C G P B tl)) (cl_q := 0) (sl_q := 0) rfl ?_
  refine fw_call 212 1 0 [.retAddr 1] [fI (e - cur)] rfl rfl rfl (Nat.le_of_ble_eq_true rfl) rfl rfl (fw_str (cz_len htl) rfl (by decide) (by decide) rfl) (cs_len0 _) ?_
  rintro rv h_q ⟨rfl, rfl⟩
  refine ik_Wk 0 (pc_q := 51) (loc_q := [some (.ref 1), some (.retAddr 1), some (fI e), none]) (st_q := [fI 6, fI (e - cur)]) (h_q := (c0 :: cz_t T n cur fl fb pl C G P B tl)) (cl_q := 0) (sl_q := 0) rfl ?_
  refine fw_ic_eq rfl rfl (by omega) (by omega) (by omega) (by omega) (fun hc1 => ?_) (fun hc1 => ?_)
  · refine ik_Wk 4 (pc_q := 60) (loc_q := [some (.ref 1), some (.retAddr 1), some (fI e), some (fI 0)]) (st_q := [.retAddr 1, fI 0]) (h_q := (c0 :: cz_t T n cur fl fb pl C G P B tl)) (cl_q := 0) (sl_q := 0) rfl ?_
    refine fw_call 212 1 0 [.retAddr 1] [fI 0] rfl rfl rfl (Nat.le_of_ble_eq_true rfl) rfl rfl (fw_str (cz_len htl) rfl (by decide) (by decide) rfl) (cs_len0 _) ?_
    rintro rv h_q ⟨rfl, rfl⟩
    refine ik_Wk 0 (pc_q := 63) (loc_q := [some (.ref 1), some (.retAddr 1), some (fI e), some (fI 0)]) (st_q := [fI 6, fI 0]) (h_q := (c0 :: cz_t T n cur fl fb pl C G P B tl)) (cl_q := 0) (sl_q := 0) rfl ?_
    refine fw_ic_ge rfl rfl (by omega) (by omega) (by omega) (by omega) (fun hc2 => absurd hc2 (by omega)) (fun hc2 => ?_)
    refine ik_Wk 1 (pc_q := 67) (loc_q := [some (.ref 1), some (.retAddr 1), some (fI e), some (fI 0)]) (st_q := [.ref 1]) (h_q := (c0 :: cz_t T n cur fl fb pl C G P B tl)) (cl_q := 0) (sl_q := 0) rfl ?_
    refine fw_gf rfl rfl rfl rfl ?_
    refine ik_Wk 1 (pc_q := 71) (loc_q := [some (.ref 1), some (.retAddr 1), some (fI e), some (fI 0)]) (st_q := [.ref 1, .ref 2]) (h_q := (c0 :: cz_t T n cur fl fb pl C G P B tl)) (cl_q := 0) (sl_q := 0) rfl ?_
    refine fw_gf rfl rfl rfl rfl ?_
    refine ik_Wk 1 (pc_q := 75) (loc_q := [some (.ref 1), some (.retAddr 1), some (fI e), some (fI 0)]) (st_q := [fI 0, fI cur, .ref 2]) (h_q := (c0 :: cz_t T n cur fl fb pl C G P B tl)) (cl_q := 0) (sl_q := 0) rfl ?_
    refine fw_add rfl ?_
    refine fw_bal rfl rfl (by omega) (by omega) (by omega) ?_
    have hb3 := bT (cur + 0) (by omega) (by omega)
    have hb4 := hy (cur + 0) (by omega) (by omega)
    refine ik_Wk 2 (pc_q := 79) (loc_q := [some (.ref 1), some (.retAddr 1), some (fI e), some (fI 0)]) (st_q := [fI 0, .retAddr 1, fI (T.getD (cur + 0).toNat 0)]) (h_q := (c0 :: cz_t T n cur fl fb pl C G P B tl)) (cl_q := 0) (sl_q := 0) rfl ?_
    refine fw_call 213 2 0 [.retAddr 1, fI 0] [fI (T.getD (cur + 0).toNat 0)] rfl rfl rfl (Nat.le_of_ble_eq_true rfl) rfl rfl (fw_str (cz_len htl) rfl (by decide) (by decide) rfl) (cs_ch0_0 _) ?_
    rintro rv h_q ⟨rfl, rfl⟩
    refine ik_Wk 0 (pc_q := 82) (loc_q := [some (.ref 1), some (.retAddr 1), some (fI e), some (fI 0)]) (st_q := [fI 98, fI (T.getD (cur + 0).toNat 0)]) (h_q := (c0 :: cz_t T n cur fl fb pl C G P B tl)) (cl_q := 0) (sl_q := 0) rfl ?_
    refine fw_ic_eq rfl rfl (by omega) (by omega) (by omega) (by omega) (fun hc5 => ?_) (fun hc5 => ?_)
    · refine fw_inc (a := 0) (loc_q := [some (.ref 1), some (.retAddr 1), some (fI e), some (fI 1)]) rfl rfl (Nat.le_of_ble_eq_true rfl) rfl ?_
      refine ik_Wk 3 (pc_q := 60) (loc_q := [some (.ref 1), some (.retAddr 1), some (fI e), some (fI 1)]) (st_q := [.retAddr 1, fI 1]) (h_q := (c0 :: cz_t T n cur fl fb pl C G P B tl)) (cl_q := 0) (sl_q := 0) rfl ?_
      refine fw_call 212 1 0 [.retAddr 1] [fI 1] rfl rfl rfl (Nat.le_of_ble_eq_true rfl) rfl rfl (fw_str (cz_len htl) rfl (by decide) (by decide) rfl) (cs_len0 _) ?_
      rintro rv h_q ⟨rfl, rfl⟩
      refine ik_Wk 0 (pc_q := 63) (loc_q := [some (.ref 1), some (.retAddr 1), some (fI e), some (fI 1)]) (st_q := [fI 6, fI 1]) (h_q := (c0 :: cz_t T n cur fl fb pl C G P B tl)) (cl_q := 0) (sl_q := 0) rfl ?_
      refine fw_ic_ge rfl rfl (by omega) (by omega) (by omega) (by omega) (fun hc6 => absurd hc6 (by omega)) (fun hc6 => ?_)
      refine ik_Wk 1 (pc_q := 67) (loc_q := [some (.ref 1), some (.retAddr 1), some (fI e), some (fI 1)]) (st_q := [.ref 1]) (h_q := (c0 :: cz_t T n cur fl fb pl C G P B tl)) (cl_q := 0) (sl_q := 0) rfl ?_
      refine fw_gf rfl rfl rfl rfl ?_
      refine ik_Wk 1 (pc_q := 71) (loc_q := [some (.ref 1), some (.retAddr 1), some (fI e), some (fI 1)]) (st_q := [.ref 1, .ref 2]) (h_q := (c0 :: cz_t T n cur fl fb pl C G P B tl)) (cl_q := 0) (sl_q := 0) rfl ?_
      refine fw_gf rfl rfl rfl rfl ?_
      refine ik_Wk 1 (pc_q := 75) (loc_q := [some (.ref 1), some (.retAddr 1), some (fI e), some (fI 1)]) (st_q := [fI 1, fI cur, .ref 2]) (h_q := (c0 :: cz_t T n cur fl fb pl C G P B tl)) (cl_q := 0) (sl_q := 0) rfl ?_
      refine fw_add rfl ?_
      refine fw_bal rfl rfl (by omega) (by omega) (by omega) ?_
      have hb7 := bT (cur + 1) (by omega) (by omega)
      have hb8 := hy (cur + 1) (by omega) (by omega)
      refine ik_Wk 2 (pc_q := 79) (loc_q := [some (.ref 1), some (.retAddr 1), some (fI e), some (fI 1)]) (st_q := [fI 1, .retAddr 1, fI (T.getD (cur + 1).toNat 0)]) (h_q := (c0 :: cz_t T n cur fl fb pl C G P B tl)) (cl_q := 0) (sl_q := 0) rfl ?_
      refine fw_call 213 2 0 [.retAddr 1, fI 1] [fI (T.getD (cur + 1).toNat 0)] rfl rfl rfl (Nat.le_of_ble_eq_true rfl) rfl rfl (fw_str (cz_len htl) rfl (by decide) (by decide) rfl) (cs_ch0_1 _) ?_
      rintro rv h_q ⟨rfl, rfl⟩
      refine ik_Wk 0 (pc_q := 82) (loc_q := [some (.ref 1), some (.retAddr 1), some (fI e), some (fI 1)]) (st_q := [fI 114, fI (T.getD (cur + 1).toNat 0)]) (h_q := (c0 :: cz_t T n cur fl fb pl C G P B tl)) (cl_q := 0) (sl_q := 0) rfl ?_
      refine fw_ic_eq rfl rfl (by omega) (by omega) (by omega) (by omega) (fun hc9 => ?_) (fun hc9 => ?_)
      · refine fw_inc (a := 1) (loc_q := [some (.ref 1), some (.retAddr 1), some (fI e), some (fI 2)]) rfl rfl (Nat.le_of_ble_eq_true rfl) rfl ?_
        refine ik_Wk 3 (pc_q := 60) (loc_q := [some (.ref 1), some (.retAddr 1), some (fI e), some (fI 2)]) (st_q := [.retAddr 1, fI 2]) (h_q := (c0 :: cz_t T n cur fl fb pl C G P B tl)) (cl_q := 0) (sl_q := 0) rfl ?_
        refine fw_call 212 1 0 [.retAddr 1] [fI 2] rfl rfl rfl (Nat.le_of_ble_eq_true rfl) rfl rfl (fw_str (cz_len htl) rfl (by decide) (by decide) rfl) (cs_len0 _) ?_
        rintro rv h_q ⟨rfl, rfl⟩
        refine ik_Wk 0 (pc_q := 63) (loc_q := [some (.ref 1), some (.retAddr 1), some (fI e), some (fI 2)]) (st_q := [fI 6, fI 2]) (h_q := (c0 :: cz_t T n cur fl fb pl C G P B tl)) (cl_q := 0) (sl_q := 0) rfl ?_
        refine fw_ic_ge rfl rfl (by omega) (by omega) (by omega) (by omega) (fun hc10 => absurd hc10 (by omega)) (fun hc10 => ?_)
        refine ik_Wk 1 (pc_q := 67) (loc_q := [some (.ref 1), some (.retAddr 1), some (fI e), some (fI 2)]) (st_q := [.ref 1]) (h_q := (c0 :: cz_t T n cur fl fb pl C G P B tl)) (cl_q := 0) (sl_q := 0) rfl ?_
        refine fw_gf rfl rfl rfl rfl ?_
        refine ik_Wk 1 (pc_q := 71) (loc_q := [some (.ref 1), some (.retAddr 1), some (fI e), some (fI 2)]) (st_q := [.ref 1, .ref 2]) (h_q := (c0 :: cz_t T n cur fl fb pl C G P B tl)) (cl_q := 0) (sl_q := 0) rfl ?_
        refine fw_gf rfl rfl rfl rfl ?_
        refine ik_Wk 1 (pc_q := 75) (loc_q := [some (.ref 1), some (.retAddr 1), some (fI e), some (fI 2)]) (st_q := [fI 2, fI cur, .ref 2]) (h_q := (c0 :: cz_t T n cur fl fb pl C G P B tl)) (cl_q := 0) (sl_q := 0) rfl ?_
        refine fw_add rfl ?_
        refine fw_bal rfl rfl (by omega) (by omega) (by omega) ?_
        have hb11 := bT (cur + 2) (by omega) (by omega)
        have hb12 := hy (cur + 2) (by omega) (by omega)
        refine ik_Wk 2 (pc_q := 79) (loc_q := [some (.ref 1), some (.retAddr 1), some (fI e), some (fI 2)]) (st_q := [fI 2, .retAddr 1, fI (T.getD (cur + 2).toNat 0)]) (h_q := (c0 :: cz_t T n cur fl fb pl C G P B tl)) (cl_q := 0) (sl_q := 0) rfl ?_
        refine fw_call 213 2 0 [.retAddr 1, fI 2] [fI (T.getD (cur + 2).toNat 0)] rfl rfl rfl (Nat.le_of_ble_eq_true rfl) rfl rfl (fw_str (cz_len htl) rfl (by decide) (by decide) rfl) (cs_ch0_2 _) ?_
        rintro rv h_q ⟨rfl, rfl⟩
        refine ik_Wk 0 (pc_q := 82) (loc_q := [some (.ref 1), some (.retAddr 1), some (fI e), some (fI 2)]) (st_q := [fI 105, fI (T.getD (cur + 2).toNat 0)]) (h_q := (c0 :: cz_t T n cur fl fb pl C G P B tl)) (cl_q := 0) (sl_q := 0) rfl ?_
        refine fw_ic_eq rfl rfl (by omega) (by omega) (by omega) (by omega) (fun hc13 => ?_) (fun hc13 => ?_)
        · refine fw_inc (a := 2) (loc_q := [some (.ref 1), some (.retAddr 1), some (fI e), some (fI 3)]) rfl rfl (Nat.le_of_ble_eq_true rfl) rfl ?_
          refine ik_Wk 3 (pc_q := 60) (loc_q := [some (.ref 1), some (.retAddr 1), some (fI e), some (fI 3)]) (st_q := [.retAddr 1, fI 3]) (h_q := (c0 :: cz_t T n cur fl fb pl C G P B tl)) (cl_q := 0) (sl_q := 0) rfl ?_
          refine fw_call 212 1 0 [.retAddr 1] [fI 3] rfl rfl rfl (Nat.le_of_ble_eq_true rfl) rfl rfl (fw_str (cz_len htl) rfl (by decide) (by decide) rfl) (cs_len0 _) ?_
          rintro rv h_q ⟨rfl, rfl⟩
          refine ik_Wk 0 (pc_q := 63) (loc_q := [some (.ref 1), some (.retAddr 1), some (fI e), some (fI 3)]) (st_q := [fI 6, fI 3]) (h_q := (c0 :: cz_t T n cur fl fb pl C G P B tl)) (cl_q := 0) (sl_q := 0) rfl ?_
          refine fw_ic_ge rfl rfl (by omega) (by omega) (by omega) (by omega) (fun hc14 => absurd hc14 (by omega)) (fun hc14 => ?_)
          refine ik_Wk 1 (pc_q := 67) (loc_q := [some (.ref 1), some (.retAddr 1), some (fI e), some (fI 3)]) (st_q := [.ref 1]) (h_q := (c0 :: cz_t T n cur fl fb pl C G P B tl)) (cl_q := 0) (sl_q := 0) rfl ?_
          refine fw_gf rfl rfl rfl rfl ?_
          refine ik_Wk 1 (pc_q := 71) (loc_q := [some (.ref 1), some (.retAddr 1), some (fI e), some (fI 3)]) (st_q := [.ref 1, .ref 2]) (h_q := (c0 :: cz_t T n cur fl fb pl C G P B tl)) (cl_q := 0) (sl_q := 0) rfl ?_
          refine fw_gf rfl rfl rfl rfl ?_
          refine ik_Wk 1 (pc_q := 75) (loc_q := [some (.ref 1), some (.retAddr 1), some (fI e), some (fI 3)]) (st_q := [fI 3, fI cur, .ref 2]) (h_q := (c0 :: cz_t T n cur fl fb pl C G P B tl)) (cl_q := 0) (sl_q := 0) rfl ?_
          refine fw_add rfl ?_
          refine fw_bal rfl rfl (by omega) (by omega) (by omega) ?_
          have hb15 := bT (cur + 3) (by omega) (by omega)
          have hb16 := hy (cur + 3) (by omega) (by omega)
          refine ik_Wk 2 (pc_q := 79) (loc_q := [some (.ref 1), some (.retAddr 1), some (fI e), some (fI 3)]) (st_q := [fI 3, .retAddr 1, fI (T.getD (cur + 3).toNat 0)]) (h_q := (c0 :: cz_t T n cur fl fb pl C G P B tl)) (cl_q := 0) (sl_q := 0) rfl ?_
          refine fw_call 213 2 0 [.retAddr 1, fI 3] [fI (T.getD (cur + 3).toNat 0)] rfl rfl rfl (Nat.le_of_ble_eq_true rfl) rfl rfl (fw_str (cz_len htl) rfl (by decide) (by decide) rfl) (cs_ch0_3 _) ?_
          rintro rv h_q ⟨rfl, rfl⟩
          refine ik_Wk 0 (pc_q := 82) (loc_q := [some (.ref 1), some (.retAddr 1), some (fI e), some (fI 3)]) (st_q := [fI 100, fI (T.getD (cur + 3).toNat 0)]) (h_q := (c0 :: cz_t T n cur fl fb pl C G P B tl)) (cl_q := 0) (sl_q := 0) rfl ?_
          refine fw_ic_eq rfl rfl (by omega) (by omega) (by omega) (by omega) (fun hc17 => ?_) (fun hc17 => ?_)
          · refine fw_inc (a := 3) (loc_q := [some (.ref 1), some (.retAddr 1), some (fI e), some (fI 4)]) rfl rfl (Nat.le_of_ble_eq_true rfl) rfl ?_
            refine ik_Wk 3 (pc_q := 60) (loc_q := [some (.ref 1), some (.retAddr 1), some (fI e), some (fI 4)]) (st_q := [.retAddr 1, fI 4]) (h_q := (c0 :: cz_t T n cur fl fb pl C G P B tl)) (cl_q := 0) (sl_q := 0) rfl ?_
            refine fw_call 212 1 0 [.retAddr 1] [fI 4] rfl rfl rfl (Nat.le_of_ble_eq_true rfl) rfl rfl (fw_str (cz_len htl) rfl (by decide) (by decide) rfl) (cs_len0 _) ?_
            rintro rv h_q ⟨rfl, rfl⟩
            refine ik_Wk 0 (pc_q := 63) (loc_q := [some (.ref 1), some (.retAddr 1), some (fI e), some (fI 4)]) (st_q := [fI 6, fI 4]) (h_q := (c0 :: cz_t T n cur fl fb pl C G P B tl)) (cl_q := 0) (sl_q := 0) rfl ?_
            refine fw_ic_ge rfl rfl (by omega) (by omega) (by omega) (by omega) (fun hc18 => absurd hc18 (by omega)) (fun hc18 => ?_)
            refine ik_Wk 1 (pc_q := 67) (loc_q := [some (.ref 1), some (.retAddr 1), some (fI e), some (fI 4)]) (st_q := [.ref 1]) (h_q := (c0 :: cz_t T n cur fl fb pl C G P B tl)) (cl_q := 0) (sl_q := 0) rfl ?_
            refine fw_gf rfl rfl rfl rfl ?_
            refine ik_Wk 1 (pc_q := 71) (loc_q := [some (.ref 1), some (.retAddr 1), some (fI e), some (fI 4)]) (st_q := [.ref 1, .ref 2]) (h_q := (c0 :: cz_t T n cur fl fb pl C G P B tl)) (cl_q := 0) (sl_q := 0) rfl ?_
            refine fw_gf rfl rfl rfl rfl ?_
            refine ik_Wk 1 (pc_q := 75) (loc_q := [some (.ref 1), some (.retAddr 1), some (fI e), some (fI 4)]) (st_q := [fI 4, fI cur, .ref 2]) (h_q := (c0 :: cz_t T n cur fl fb pl C G P B tl)) (cl_q := 0) (sl_q := 0) rfl ?_
            refine fw_add rfl ?_
            refine fw_bal rfl rfl (by omega) (by omega) (by omega) ?_
            have hb19 := bT (cur + 4) (by omega) (by omega)
            have hb20 := hy (cur + 4) (by omega) (by omega)
            refine ik_Wk 2 (pc_q := 79) (loc_q := [some (.ref 1), some (.retAddr 1), some (fI e), some (fI 4)]) (st_q := [fI 4, .retAddr 1, fI (T.getD (cur + 4).toNat 0)]) (h_q := (c0 :: cz_t T n cur fl fb pl C G P B tl)) (cl_q := 0) (sl_q := 0) rfl ?_
            refine fw_call 213 2 0 [.retAddr 1, fI 4] [fI (T.getD (cur + 4).toNat 0)] rfl rfl rfl (Nat.le_of_ble_eq_true rfl) rfl rfl (fw_str (cz_len htl) rfl (by decide) (by decide) rfl) (cs_ch0_4 _) ?_
            rintro rv h_q ⟨rfl, rfl⟩
            refine ik_Wk 0 (pc_q := 82) (loc_q := [some (.ref 1), some (.retAddr 1), some (fI e), some (fI 4)]) (st_q := [fI 103, fI (T.getD (cur + 4).toNat 0)]) (h_q := (c0 :: cz_t T n cur fl fb pl C G P B tl)) (cl_q := 0) (sl_q := 0) rfl ?_
            refine fw_ic_eq rfl rfl (by omega) (by omega) (by omega) (by omega) (fun hc21 => ?_) (fun hc21 => ?_)
            · refine fw_inc (a := 4) (loc_q := [some (.ref 1), some (.retAddr 1), some (fI e), some (fI 5)]) rfl rfl (Nat.le_of_ble_eq_true rfl) rfl ?_
              refine ik_Wk 3 (pc_q := 60) (loc_q := [some (.ref 1), some (.retAddr 1), some (fI e), some (fI 5)]) (st_q := [.retAddr 1, fI 5]) (h_q := (c0 :: cz_t T n cur fl fb pl C G P B tl)) (cl_q := 0) (sl_q := 0) rfl ?_
              refine fw_call 212 1 0 [.retAddr 1] [fI 5] rfl rfl rfl (Nat.le_of_ble_eq_true rfl) rfl rfl (fw_str (cz_len htl) rfl (by decide) (by decide) rfl) (cs_len0 _) ?_
              rintro rv h_q ⟨rfl, rfl⟩
              refine ik_Wk 0 (pc_q := 63) (loc_q := [some (.ref 1), some (.retAddr 1), some (fI e), some (fI 5)]) (st_q := [fI 6, fI 5]) (h_q := (c0 :: cz_t T n cur fl fb pl C G P B tl)) (cl_q := 0) (sl_q := 0) rfl ?_
              refine fw_ic_ge rfl rfl (by omega) (by omega) (by omega) (by omega) (fun hc22 => absurd hc22 (by omega)) (fun hc22 => ?_)
              refine ik_Wk 1 (pc_q := 67) (loc_q := [some (.ref 1), some (.retAddr 1), some (fI e), some (fI 5)]) (st_q := [.ref 1]) (h_q := (c0 :: cz_t T n cur fl fb pl C G P B tl)) (cl_q := 0) (sl_q := 0) rfl ?_
              refine fw_gf rfl rfl rfl rfl ?_
              refine ik_Wk 1 (pc_q := 71) (loc_q := [some (.ref 1), some (.retAddr 1), some (fI e), some (fI 5)]) (st_q := [.ref 1, .ref 2]) (h_q := (c0 :: cz_t T n cur fl fb pl C G P B tl)) (cl_q := 0) (sl_q := 0) rfl ?_
              refine fw_gf rfl rfl rfl rfl ?_
              refine ik_Wk 1 (pc_q := 75) (loc_q := [some (.ref 1), some (.retAddr 1), some (fI e), some (fI 5)]) (st_q := [fI 5, fI cur, .ref 2]) (h_q := (c0 :: cz_t T n cur fl fb pl C G P B tl)) (cl_q := 0) (sl_q := 0) rfl ?_
              refine fw_add rfl ?_
              refine fw_bal rfl rfl (by omega) (by omega) (by omega) ?_
              have hb23 := bT (cur + 5) (by omega) (by omega)
              have hb24 := hy (cur + 5) (by omega) (by omega)
              refine ik_Wk 2 (pc_q := 79) (loc_q := [some (.ref 1), some (.retAddr 1), some (fI e), some (fI 5)]) (st_q := [fI 5, .retAddr 1, fI (T.getD (cur + 5).toNat 0)]) (h_q := (c0 :: cz_t T n cur fl fb pl C G P B tl)) (cl_q := 0) (sl_q := 0) rfl ?_
              refine fw_call 213 2 0 [.retAddr 1, fI 5] [fI (T.getD (cur + 5).toNat 0)] rfl rfl rfl (Nat.le_of_ble_eq_true rfl) rfl rfl (fw_str (cz_len htl) rfl (by decide) (by decide) rfl) (cs_ch0_5 _) ?_
              rintro rv h_q ⟨rfl, rfl⟩
              refine ik_Wk 0 (pc_q := 82) (loc_q := [some (.ref 1), some (.retAddr 1), some (fI e), some (fI 5)]) (st_q := [fI 101, fI (T.getD (cur + 5).toNat 0)]) (h_q := (c0 :: cz_t T n cur fl fb pl C G P B tl)) (cl_q := 0) (sl_q := 0) rfl ?_
              refine fw_ic_eq rfl rfl (by omega) (by omega) (by omega) (by omega) (fun hc25 => ?_) (fun hc25 => ?_)
              · refine fw_inc (a := 5) (loc_q := [some (.ref 1), some (.retAddr 1), some (fI e), some (fI 6)]) rfl rfl (Nat.le_of_ble_eq_true rfl) rfl ?_
                refine ik_Wk 3 (pc_q := 60) (loc_q := [some (.ref 1), some (.retAddr 1), some (fI e), some (fI 6)]) (st_q := [.retAddr 1, fI 6]) (h_q := (c0 :: cz_t T n cur fl fb pl C G P B tl)) (cl_q := 0) (sl_q := 0) rfl ?_
                refine fw_call 212 1 0 [.retAddr 1] [fI 6] rfl rfl rfl (Nat.le_of_ble_eq_true rfl) rfl rfl (fw_str (cz_len htl) rfl (by decide) (by decide) rfl) (cs_len0 _) ?_
                rintro rv h_q ⟨rfl, rfl⟩
                refine ik_Wk 0 (pc_q := 63) (loc_q := [some (.ref 1), some (.retAddr 1), some (fI e), some (fI 6)]) (st_q := [fI 6, fI 6]) (h_q := (c0 :: cz_t T n cur fl fb pl C G P B tl)) (cl_q := 0) (sl_q := 0) rfl ?_
                refine fw_ic_ge rfl rfl (by omega) (by omega) (by omega) (by omega) (fun hc26 => ?_) (fun hc26 => absurd hc26 (by omega))
                refine ik_Wk 2 (pc_q := 95) (loc_q := [some (.ref 1), some (.retAddr 1), some (fI e), some (fI 6)]) (st_q := [fI e, .ref 1]) (h_q := (c0 :: cz_t T n cur fl fb pl C G P B tl)) (cl_q := 0) (sl_q := 0) rfl ?_
                refine fw_pf (h_q := (c0 :: cz_t T n e fl fb pl C G P B tl)) rfl rfl rfl (Nat.le_of_ble_eq_true rfl) rfl rfl rfl ?_
                refine ik_Wk 1 (pc_q := 99) (loc_q := [some (.ref 1), some (.retAddr 1), some (fI e), some (fI 6)]) (st_q := [fI 1]) (h_q := (c0 :: cz_t T n e fl fb pl C G P B tl)) (cl_q := 0) (sl_q := 0) rfl ?_
                exact ik_Wret rfl rfl ⟨_, _, rfl, rfl, rfl, rfl, (Or.inl ⟨by unfold zbr; exact decide_eq_true (by omega), rfl, by rw [show e = cur + 6 by omega]⟩)⟩
              · refine ik_Wk 1 (pc_q := 86) (loc_q := [some (.ref 1), some (.retAddr 1), some (fI e), some (fI 5)]) (st_q := [fI 0]) (h_q := (c0 :: cz_t T n cur fl fb pl C G P B tl)) (cl_q := 0) (sl_q := 0) rfl ?_
                exact ik_Wret rfl rfl ⟨_, _, rfl, rfl, rfl, rfl, (Or.inr ⟨by unfold zbr; exact decide_eq_false (by omega), rfl, rfl⟩)⟩
            · refine ik_Wk 1 (pc_q := 86) (loc_q := [some (.ref 1), some (.retAddr 1), some (fI e), some (fI 4)]) (st_q := [fI 0]) (h_q := (c0 :: cz_t T n cur fl fb pl C G P B tl)) (cl_q := 0) (sl_q := 0) rfl ?_
              exact ik_Wret rfl rfl ⟨_, _, rfl, rfl, rfl, rfl, (Or.inr ⟨by unfold zbr; exact decide_eq_false (by omega), rfl, rfl⟩)⟩
          · refine ik_Wk 1 (pc_q := 86) (loc_q := [some (.ref 1), some (.retAddr 1), some (fI e), some (fI 3)]) (st_q := [fI 0]) (h_q := (c0 :: cz_t T n cur fl fb pl C G P B tl)) (cl_q := 0) (sl_q := 0) rfl ?_
            exact ik_Wret rfl rfl ⟨_, _, rfl, rfl, rfl, rfl, (Or.inr ⟨by unfold zbr; exact decide_eq_false (by omega), rfl, rfl⟩)⟩
        · refine ik_Wk 1 (pc_q := 86) (loc_q := [some (.ref 1), some (.retAddr 1), some (fI e), some (fI 2)]) (st_q := [fI 0]) (h_q := (c0 :: cz_t T n cur fl fb pl C G P B tl)) (cl_q := 0) (sl_q := 0) rfl ?_
          exact ik_Wret rfl rfl ⟨_, _, rfl, rfl, rfl, rfl, (Or.inr ⟨by unfold zbr; exact decide_eq_false (by omega), rfl, rfl⟩)⟩
      · refine ik_Wk 1 (pc_q := 86) (loc_q := [some (.ref 1), some (.retAddr 1), some (fI e), some (fI 1)]) (st_q := [fI 0]) (h_q := (c0 :: cz_t T n cur fl fb pl C G P B tl)) (cl_q := 0) (sl_q := 0) rfl ?_
        exact ik_Wret rfl rfl ⟨_, _, rfl, rfl, rfl, rfl, (Or.inr ⟨by unfold zbr; exact decide_eq_false (by omega), rfl, rfl⟩)⟩
    · refine ik_Wk 1 (pc_q := 86) (loc_q := [some (.ref 1), some (.retAddr 1), some (fI e), some (fI 0)]) (st_q := [fI 0]) (h_q := (c0 :: cz_t T n cur fl fb pl C G P B tl)) (cl_q := 0) (sl_q := 0) rfl ?_
      exact ik_Wret rfl rfl ⟨_, _, rfl, rfl, rfl, rfl, (Or.inr ⟨by unfold zbr; exact decide_eq_false (by omega), rfl, rfl⟩)⟩
  · refine ik_Wk 1 (pc_q := 55) (loc_q := [some (.ref 1), some (.retAddr 1), some (fI e), none]) (st_q := [fI 0]) (h_q := (c0 :: cz_t T n cur fl fb pl C G P B tl)) (cl_q := 0) (sl_q := 0) rfl ?_
    exact ik_Wret rfl rfl ⟨_, _, rfl, rfl, rfl, rfl, (Or.inr ⟨by unfold zbr; exact decide_eq_false (by omega), rfl, rfl⟩)⟩

theorem cz_rw0L {c0 : ik_E} {tl : List ik_E} {y : Int → Int} {T : List Int} {n fl fb pl : Int} {C G P B : List Int} (ok : cz_ok y T n tl) {cur : Int} (h0 : 0 ≤ cur) : ∀ (k : Nat) (e : Int), (n - e).toNat = k → cur ≤ e → e ≤ n → zE y n cur = zE y n e → ik_G 64 5 [some (.ref 1), some (.retAddr 1), some (fI e), none] [] (c0 :: cz_t T n cur fl fb pl C G P B tl) (fun rv h_q => (zbr y n cur = true ∧ rv = [fI 1] ∧ h_q = (c0 :: cz_t T n (cur + 6) fl fb pl C G P B tl)) ∨ (zbr y n cur = false ∧ rv = [fI 0] ∧ h_q = (c0 :: cz_t T n cur fl fb pl C G P B tl))) := by
  have ok' := ok
  obtain ⟨htl, hT, bT, hn, hn2, hy⟩ := ok'
  intro k
  induction k using Nat.strongRecOn with
  | _ k ih =>
    intro e hk h1 h2 he
    refine ik_Wk 2 (pc_q := 7) (loc_q := [some (.ref 1), some (.retAddr 1), some (fI e), none]) (st_q := [.ref 1, fI e]) (h_q := (c0 :: cz_t T n cur fl fb pl C G P B tl)) (cl_q := 0) (sl_q := 0) rfl ?_
    refine fw_gf rfl rfl rfl rfl ?_
    refine fw_ic_ge rfl rfl (by omega) (by omega) (by omega) (by omega) (fun hc1 => ?_) (fun hc1 => ?_)
    · exact cz_rw0E ok h0 h1 h2 (he.trans (zE_stop (y := y) (n := n) (i := e) (by omega)))
    · refine ik_Wk 1 (pc_q := 14) (loc_q := [some (.ref 1), some (.retAddr 1), some (fI e), none]) (st_q := [.ref 1]) (h_q := (c0 :: cz_t T n cur fl fb pl C G P B tl)) (cl_q := 0) (sl_q := 0) rfl ?_
      refine fw_gf rfl rfl rfl rfl ?_
      refine ik_Wk 1 (pc_q := 18) (loc_q := [some (.ref 1), some (.retAddr 1), some (fI e), none]) (st_q := [fI e, .ref 2]) (h_q := (c0 :: cz_t T n cur fl fb pl C G P B tl)) (cl_q := 0) (sl_q := 0) rfl ?_
      refine fw_bal rfl rfl (by omega) (by omega) (by omega) ?_
      have hb2 := bT e (by omega) (by omega)
      have hb3 := hy e (by omega) (by omega)
      refine fw_bi rfl (by decide) ?_
      refine fw_ic_lt rfl rfl (by omega) (by omega) (by omega) (by omega) (fun hc4 => ?_) (fun hc4 => ?_)
      · exact cz_rw0E ok h0 h1 h2 (he.trans (zE_stop (y := y) (n := n) (i := e) (by omega)))
      · refine ik_Wk 1 (pc_q := 25) (loc_q := [some (.ref 1), some (.retAddr 1), some (fI e), none]) (st_q := [.ref 1]) (h_q := (c0 :: cz_t T n cur fl fb pl C G P B tl)) (cl_q := 0) (sl_q := 0) rfl ?_
        refine fw_gf rfl rfl rfl rfl ?_
        refine ik_Wk 1 (pc_q := 29) (loc_q := [some (.ref 1), some (.retAddr 1), some (fI e), none]) (st_q := [fI e, .ref 2]) (h_q := (c0 :: cz_t T n cur fl fb pl C G P B tl)) (cl_q := 0) (sl_q := 0) rfl ?_
        refine fw_bal rfl rfl (by omega) (by omega) (by omega) ?_
        have hb5 := bT e (by omega) (by omega)
        have hb6 := hy e (by omega) (by omega)
        refine fw_bi rfl (by decide) ?_
        refine fw_ic_gt rfl rfl (by omega) (by omega) (by omega) (by omega) (fun hc7 => ?_) (fun hc7 => ?_)
        · exact cz_rw0E ok h0 h1 h2 (he.trans (zE_stop (y := y) (n := n) (i := e) (by omega)))
        · refine fw_inc (a := e) (loc_q := [some (.ref 1), some (.retAddr 1), some (fI (e + 1)), none]) rfl rfl (Nat.le_of_ble_eq_true rfl) rfl ?_
          refine ik_Wk 1 (pc_q := 5) (loc_q := [some (.ref 1), some (.retAddr 1), some (fI (e + 1)), none]) (st_q := []) (h_q := (c0 :: cz_t T n cur fl fb pl C G P B tl)) (cl_q := 0) (sl_q := 0) rfl ?_
          exact ih _ (by omega) (e + 1) rfl (by omega) (by omega) (by rw [he, zE_step (y := y) (n := n) (i := e) (by omega) (by omega)])

theorem cz_rw0 {c0 : ik_E} {tl : List ik_E} {y : Int → Int} {T : List Int} {n fl fb pl : Int} {C G P B : List Int} (ok : cz_ok y T n tl) {cur : Int} (h0 : 0 ≤ cur) (h1 : cur ≤ n) : ik_F 64 [.ref 1, .retAddr 1] (c0 :: cz_t T n cur fl fb pl C G P B tl) (fun rv h_q => (zbr y n cur = true ∧ rv = [fI 1] ∧ h_q = (c0 :: cz_t T n (cur + 6) fl fb pl C G P B tl)) ∨ (zbr y n cur = false ∧ rv = [fI 0] ∧ h_q = (c0 :: cz_t T n cur fl fb pl C G P B tl))) := by
  have ok' := ok
  obtain ⟨htl, hT, bT, hn, hn2, hy⟩ := ok'
  refine ik_Wk 1 (pc_q := 1) (loc_q := [some (.ref 1), some (.retAddr 1), none, none]) (st_q := [.ref 1]) (h_q := (c0 :: cz_t T n cur fl fb pl C G P B tl)) (cl_q := 0) (sl_q := 0) rfl ?_
  refine fw_gf rfl rfl rfl rfl ?_
  refine ik_Wk 1 (pc_q := 5) (loc_q := [some (.ref 1), some (.retAddr 1), some (fI cur), none]) (st_q := []) (h_q := (c0 :: cz_t T n cur fl fb pl C G P B tl)) (cl_q := 0) (sl_q := 0) rfl ?_
  exact cz_rw0L ok h0 _ cur rfl (by omega) (by omega) rfl

theorem cz_rw1E {c0 : ik_E} {tl : List ik_E} {y : Int → Int} {T : List Int} {n fl fb pl : Int} {C G P B : List Int} (ok : cz_ok y T n tl) {cur e : Int} (h0 : 0 ≤ cur) (h1 : cur ≤ e) (h2 : e ≤ n) (he : zE y n cur = e) : ik_G 64 41 [some (.ref 1), some (.retAddr 3), some (fI e), none] [] (c0 :: cz_t T n cur fl fb pl C G P B tl) (fun rv h_q => (zpl y n cur = true ∧ rv = [fI 1] ∧ h_q = (c0 :: cz_t T n (cur + 5) fl fb pl C G P B tl)) ∨ (zpl y n cur = false ∧ rv = [fI 0] ∧ h_q = (c0 :: cz_t T n cur fl fb pl C G P B tl))) := by
  have ok' := ok
  obtain ⟨htl, hT, bT, hn, hn2, hy⟩ := ok'
  have q0 : y (cur + 0) = y cur := congrArg y (Int.add_zero cur)
  refine ik_Wk 2 (pc_q := 43) (loc_q := [some (.ref 1), some (.retAddr 3), some (fI e), none]) (st_q := [.ref 1, fI e]) (h_q := (c0 :: cz_t T n cur fl fb pl C G P B tl)) (cl_q := 0) (sl_q := 0) rfl ?_
  refine fw_gf rfl rfl rfl rfl ?_
  refine fw_sub rfl ?_
  refine ik_Wk 1 (pc_q := 48) (loc_q := [some (.ref 1), some (.retAddr 3), some (fI e), none]) (st_q := [.retAddr 3, fI (e - cur)]) (h_q := (c0 :: cz_t T n cur fl fb pl C G P B tl)) (cl_q := 0) (sl_q := 0) rfl ?_
  refine fw_call 212 1 0 [.retAddr 3] [fI (e - cur)] rfl rfl rfl (Nat.le_of_ble_eq_true rfl) rfl rfl (fw_str (cz_len htl) rfl (by decide) (by decide) rfl) (cs_len1 _) ?_
  rintro rv h_q ⟨rfl, rfl⟩
  refine ik_Wk 0 (pc_q := 51) (loc_q := [some (.ref 1), some (.retAddr 3), some (fI e), none]) (st_q := [fI 5, fI (e - cur)]) (h_q := (c0 :: cz_t T n cur fl fb pl C G P B tl)) (cl_q := 0) (sl_q := 0) rfl ?_
  refine fw_ic_eq rfl rfl (by omega) (by omega) (by omega) (by omega) (fun hc1 => ?_) (fun hc1 => ?_)
  · refine ik_Wk 4 (pc_q := 60) (loc_q := [some (.ref 1), some (.retAddr 3), some (fI e), some (fI 0)]) (st_q := [.retAddr 3, fI 0]) (h_q := (c0 :: cz_t T n cur fl fb pl C G P B tl)) (cl_q := 0) (sl_q := 0) rfl ?_
    refine fw_call 212 1 0 [.retAddr 3] [fI 0] rfl rfl rfl (Nat.le_of_ble_eq_true rfl) rfl rfl (fw_str (cz_len htl) rfl (by decide) (by decide) rfl) (cs_len1 _) ?_
    rintro rv h_q ⟨rfl, rfl⟩
    refine ik_Wk 0 (pc_q := 63) (loc_q := [some (.ref 1), some (.retAddr 3), some (fI e), some (fI 0)]) (st_q := [fI 5, fI 0]) (h_q := (c0 :: cz_t T n cur fl fb pl C G P B tl)) (cl_q := 0) (sl_q := 0) rfl ?_
    refine fw_ic_ge rfl rfl (by omega) (by omega) (by omega) (by omega) (fun hc2 => absurd hc2 (by omega)) (fun hc2 => ?_)
    refine ik_Wk 1 (pc_q := 67) (loc_q := [some (.ref 1), some (.retAddr 3), some (fI e), some (fI 0)]) (st_q := [.ref 1]) (h_q := (c0 :: cz_t T n cur fl fb pl C G P B tl)) (cl_q := 0) (sl_q := 0) rfl ?_
    refine fw_gf rfl rfl rfl rfl ?_
    refine ik_Wk 1 (pc_q := 71) (loc_q := [some (.ref 1), some (.retAddr 3), some (fI e), some (fI 0)]) (st_q := [.ref 1, .ref 2]) (h_q := (c0 :: cz_t T n cur fl fb pl C G P B tl)) (cl_q := 0) (sl_q := 0) rfl ?_
    refine fw_gf rfl rfl rfl rfl ?_
    refine ik_Wk 1 (pc_q := 75) (loc_q := [some (.ref 1), some (.retAddr 3), some (fI e), some (fI 0)]) (st_q := [fI 0, fI cur, .ref 2]) (h_q := (c0 :: cz_t T n cur fl fb pl C G P B tl)) (cl_q := 0) (sl_q := 0) rfl ?_
    refine fw_add rfl ?_
    refine fw_bal rfl rfl (by omega) (by omega) (by omega) ?_
    have hb3 := bT (cur + 0) (by omega) (by omega)
    have hb4 := hy (cur + 0) (by omega) (by omega)
    refine ik_Wk 2 (pc_q := 79) (loc_q := [some (.ref 1), some (.retAddr 3), some (fI e), some (fI 0)]) (st_q := [fI 0, .retAddr 3, fI (T.getD (cur + 0).toNat 0)]) (h_q := (c0 :: cz_t T n cur fl fb pl C G P B tl)) (cl_q := 0) (sl_q := 0) rfl ?_
    refine fw_call 213 2 0 [.retAddr 3, fI 0] [fI (T.getD (cur + 0).toNat 0)] rfl rfl rfl (Nat.le_of_ble_eq_true rfl) rfl rfl (fw_str (cz_len htl) rfl (by decide) (by decide) rfl) (cs_ch1_0 _) ?_
    rintro rv h_q ⟨rfl, rfl⟩
    refine ik_Wk 0 (pc_q := 82) (loc_q := [some (.ref 1), some (.retAddr 3), some (fI e), some (fI 0)]) (st_q := [fI 112, fI (T.getD (cur + 0).toNat 0)]) (h_q := (c0 :: cz_t T n cur fl fb pl C G P B tl)) (cl_q := 0) (sl_q := 0) rfl ?_
    refine fw_ic_eq rfl rfl (by omega) (by omega) (by omega) (by omega) (fun hc5 => ?_) (fun hc5 => ?_)
    · refine fw_inc (a := 0) (loc_q := [some (.ref 1), some (.retAddr 3), some (fI e), some (fI 1)]) rfl rfl (Nat.le_of_ble_eq_true rfl) rfl ?_
      refine ik_Wk 3 (pc_q := 60) (loc_q := [some (.ref 1), some (.retAddr 3), some (fI e), some (fI 1)]) (st_q := [.retAddr 3, fI 1]) (h_q := (c0 :: cz_t T n cur fl fb pl C G P B tl)) (cl_q := 0) (sl_q := 0) rfl ?_
      refine fw_call 212 1 0 [.retAddr 3] [fI 1] rfl rfl rfl (Nat.le_of_ble_eq_true rfl) rfl rfl (fw_str (cz_len htl) rfl (by decide) (by decide) rfl) (cs_len1 _) ?_
      rintro rv h_q ⟨rfl, rfl⟩
      refine ik_Wk 0 (pc_q := 63) (loc_q := [some (.ref 1), some (.retAddr 3), some (fI e), some (fI 1)]) (st_q := [fI 5, fI 1]) (h_q := (c0 :: cz_t T n cur fl fb pl C G P B tl)) (cl_q := 0) (sl_q := 0) rfl ?_
      refine fw_ic_ge rfl rfl (by omega) (by omega) (by omega) (by omega) (fun hc6 => absurd hc6 (by omega)) (fun hc6 => ?_)
      refine ik_Wk 1 (pc_q := 67) (loc_q := [some (.ref 1), some (.retAddr 3), some (fI e), some (fI 1)]) (st_q := [.ref 1]) (h_q := (c0 :: cz_t T n cur fl fb pl C G P B tl)) (cl_q := 0) (sl_q := 0) rfl ?_
      refine fw_gf rfl rfl rfl rfl ?_
      refine ik_Wk 1 (pc_q := 71) (loc_q := [some (.ref 1), some (.retAddr 3), some (fI e), some (fI 1)]) (st_q := [.ref 1, .ref 2]) (h_q := (c0 :: cz_t T n cur fl fb pl C G P B tl)) (cl_q := 0) (sl_q := 0) rfl ?_
      refine fw_gf rfl rfl rfl rfl ?_
      refine ik_Wk 1 (pc_q := 75) (loc_q := [some (.ref 1), some (.retAddr 3), some (fI e), some (fI 1)]) (st_q := [fI 1, fI cur, .ref 2]) (h_q := (c0 :: cz_t T n cur fl fb pl C G P B tl)) (cl_q := 0) (sl_q := 0) rfl ?_
      refine fw_add rfl ?_
      refine fw_bal rfl rfl (by omega) (by omega) (by omega) ?_
      have hb7 := bT (cur + 1) (by omega) (by omega)
      have hb8 := hy (cur + 1) (by omega) (by omega)
      refine ik_Wk 2 (pc_q := 79) (loc_q := [some (.ref 1), some (.retAddr 3), some (fI e), some (fI 1)]) (st_q := [fI 1, .retAddr 3, fI (T.getD (cur + 1).toNat 0)]) (h_q := (c0 :: cz_t T n cur fl fb pl C G P B tl)) (cl_q := 0) (sl_q := 0) rfl ?_
      refine fw_call 213 2 0 [.retAddr 3, fI 1] [fI (T.getD (cur + 1).toNat 0)] rfl rfl rfl (Nat.le_of_ble_eq_true rfl) rfl rfl (fw_str (cz_len htl) rfl (by decide) (by decide) rfl) (cs_ch1_1 _) ?_
      rintro rv h_q ⟨rfl, rfl⟩
      refine ik_Wk 0 (pc_q := 82) (loc_q := [some (.ref 1), some (.retAddr 3), some (fI e), some (fI 1)]) (st_q := [fI 108, fI (T.getD (cur + 1).toNat 0)]) (h_q := (c0 :: cz_t T n cur fl fb pl C G P B tl)) (cl_q := 0) (sl_q := 0) rfl ?_
      refine fw_ic_eq rfl rfl (by omega) (by omega) (by omega) (by omega) (fun hc9 => ?_) (fun hc9 => ?_)
      · refine fw_inc (a := 1) (loc_q := [some (.ref 1), some (.retAddr 3), some (fI e), some (fI 2)]) rfl rfl (Nat.le_of_ble_eq_true rfl) rfl ?_
        refine ik_Wk 3 (pc_q := 60) (loc_q := [some (.ref 1), some (.retAddr 3), some (fI e), some (fI 2)]) (st_q := [.retAddr 3, fI 2]) (h_q := (c0 :: cz_t T n cur fl fb pl C G P B tl)) (cl_q := 0) (sl_q := 0) rfl ?_
        refine fw_call 212 1 0 [.retAddr 3] [fI 2] rfl rfl rfl (Nat.le_of_ble_eq_true rfl) rfl rfl (fw_str (cz_len htl) rfl (by decide) (by decide) rfl) (cs_len1 _) ?_
        rintro rv h_q ⟨rfl, rfl⟩
        refine ik_Wk 0 (pc_q := 63) (loc_q := [some (.ref 1), some (.retAddr 3), some (fI e), some (fI 2)]) (st_q := [fI 5, fI 2]) (h_q := (c0 :: cz_t T n cur fl fb pl C G P B tl)) (cl_q := 0) (sl_q := 0) rfl ?_
        refine fw_ic_ge rfl rfl (by omega) (by omega) (by omega) (by omega) (fun hc10 => absurd hc10 (by omega)) (fun hc10 => ?_)
        refine ik_Wk 1 (pc_q := 67) (loc_q := [some (.ref 1), some (.retAddr 3), some (fI e), some (fI 2)]) (st_q := [.ref 1]) (h_q := (c0 :: cz_t T n cur fl fb pl C G P B tl)) (cl_q := 0) (sl_q := 0) rfl ?_
        refine fw_gf rfl rfl rfl rfl ?_
        refine ik_Wk 1 (pc_q := 71) (loc_q := [some (.ref 1), some (.retAddr 3), some (fI e), some (fI 2)]) (st_q := [.ref 1, .ref 2]) (h_q := (c0 :: cz_t T n cur fl fb pl C G P B tl)) (cl_q := 0) (sl_q := 0) rfl ?_
        refine fw_gf rfl rfl rfl rfl ?_
        refine ik_Wk 1 (pc_q := 75) (loc_q := [some (.ref 1), some (.retAddr 3), some (fI e), some (fI 2)]) (st_q := [fI 2, fI cur, .ref 2]) (h_q := (c0 :: cz_t T n cur fl fb pl C G P B tl)) (cl_q := 0) (sl_q := 0) rfl ?_
        refine fw_add rfl ?_
        refine fw_bal rfl rfl (by omega) (by omega) (by omega) ?_
        have hb11 := bT (cur + 2) (by omega) (by omega)
        have hb12 := hy (cur + 2) (by omega) (by omega)
        refine ik_Wk 2 (pc_q := 79) (loc_q := [some (.ref 1), some (.retAddr 3), some (fI e), some (fI 2)]) (st_q := [fI 2, .retAddr 3, fI (T.getD (cur + 2).toNat 0)]) (h_q := (c0 :: cz_t T n cur fl fb pl C G P B tl)) (cl_q := 0) (sl_q := 0) rfl ?_
        refine fw_call 213 2 0 [.retAddr 3, fI 2] [fI (T.getD (cur + 2).toNat 0)] rfl rfl rfl (Nat.le_of_ble_eq_true rfl) rfl rfl (fw_str (cz_len htl) rfl (by decide) (by decide) rfl) (cs_ch1_2 _) ?_
        rintro rv h_q ⟨rfl, rfl⟩
        refine ik_Wk 0 (pc_q := 82) (loc_q := [some (.ref 1), some (.retAddr 3), some (fI e), some (fI 2)]) (st_q := [fI 97, fI (T.getD (cur + 2).toNat 0)]) (h_q := (c0 :: cz_t T n cur fl fb pl C G P B tl)) (cl_q := 0) (sl_q := 0) rfl ?_
        refine fw_ic_eq rfl rfl (by omega) (by omega) (by omega) (by omega) (fun hc13 => ?_) (fun hc13 => ?_)
        · refine fw_inc (a := 2) (loc_q := [some (.ref 1), some (.retAddr 3), some (fI e), some (fI 3)]) rfl rfl (Nat.le_of_ble_eq_true rfl) rfl ?_
          refine ik_Wk 3 (pc_q := 60) (loc_q := [some (.ref 1), some (.retAddr 3), some (fI e), some (fI 3)]) (st_q := [.retAddr 3, fI 3]) (h_q := (c0 :: cz_t T n cur fl fb pl C G P B tl)) (cl_q := 0) (sl_q := 0) rfl ?_
          refine fw_call 212 1 0 [.retAddr 3] [fI 3] rfl rfl rfl (Nat.le_of_ble_eq_true rfl) rfl rfl (fw_str (cz_len htl) rfl (by decide) (by decide) rfl) (cs_len1 _) ?_
          rintro rv h_q ⟨rfl, rfl⟩
          refine ik_Wk 0 (pc_q := 63) (loc_q := [some (.ref 1), some (.retAddr 3), some (fI e), some (fI 3)]) (st_q := [fI 5, fI 3]) (h_q := (c0 :: cz_t T n cur fl fb pl C G P B tl)) (cl_q := 0) (sl_q := 0) rfl ?_
          refine fw_ic_ge rfl rfl (by omega) (by omega) (by omega) (by omega) (fun hc14 => absurd hc14 (by omega)) (fun hc14 => ?_)
          refine ik_Wk 1 (pc_q := 67) (loc_q := [some (.ref 1), some (.retAddr 3), some (fI e), some (fI 3)]) (st_q := [.ref 1]) (h_q := (c0 :: cz_t T n cur fl fb pl C G P B tl)) (cl_q := 0) (sl_q := 0) rfl ?_
          refine fw_gf rfl rfl rfl rfl ?_
          refine ik_Wk 1 (pc_q := 71) (loc_q := [some (.ref 1), some (.retAddr 3), some (fI e), some (fI 3)]) (st_q := [.ref 1, .ref 2]) (h_q := (c0 :: cz_t T n cur fl fb pl C G P B tl)) (cl_q := 0) (sl_q := 0) rfl ?_
          refine fw_gf rfl rfl rfl rfl ?_
          refine ik_Wk 1 (pc_q := 75) (loc_q := [some (.ref 1), some (.retAddr 3), some (fI e), some (fI 3)]) (st_q := [fI 3, fI cur, .ref 2]) (h_q := (c0 :: cz_t T n cur fl fb pl C G P B tl)) (cl_q := 0) (sl_q := 0) rfl ?_
          refine fw_add rfl ?_
          refine fw_bal rfl rfl (by omega) (by omega) (by omega) ?_
          have hb15 := bT (cur + 3) (by omega) (by omega)
          have hb16 := hy (cur + 3) (by omega) (by omega)
          refine ik_Wk 2 (pc_q := 79) (loc_q := [some (.ref 1), some (.retAddr 3), some (fI e), some (fI 3)]) (st_q := [fI 3, .retAddr 3, fI (T.getD (cur + 3).toNat 0)]) (h_q := (c0 :: cz_t T n cur fl fb pl C G P B tl)) (cl_q := 0) (sl_q := 0) rfl ?_
          refine fw_call 213 2 0 [.retAddr 3, fI 3] [fI (T.getD (cur + 3).toNat 0)] rfl rfl rfl (Nat.le_of_ble_eq_true rfl) rfl rfl (fw_str (cz_len htl) rfl (by decide) (by decide) rfl) (cs_ch1_3 _) ?_
          rintro rv h_q ⟨rfl, rfl⟩
          refine ik_Wk 0 (pc_q := 82) (loc_q := [some (.ref 1), some (.retAddr 3), some (fI e), some (fI 3)]) (st_q := [fI 99, fI (T.getD (cur + 3).toNat 0)]) (h_q := (c0 :: cz_t T n cur fl fb pl C G P B tl)) (cl_q := 0) (sl_q := 0) rfl ?_
          refine fw_ic_eq rfl rfl (by omega) (by omega) (by omega) (by omega) (fun hc17 => ?_) (fun hc17 => ?_)
          · refine fw_inc (a := 3) (loc_q := [some (.ref 1), some (.retAddr 3), some (fI e), some (fI 4)]) rfl rfl (Nat.le_of_ble_eq_true rfl) rfl ?_
            refine ik_Wk 3 (pc_q := 60) (loc_q := [some (.ref 1), some (.retAddr 3), some (fI e), some (fI 4)]) (st_q := [.retAddr 3, fI 4]) (h_q := (c0 :: cz_t T n cur fl fb pl C G P B tl)) (cl_q := 0) (sl_q := 0) rfl ?_
            refine fw_call 212 1 0 [.retAddr 3] [fI 4] rfl rfl rfl (Nat.le_of_ble_eq_true rfl) rfl rfl (fw_str (cz_len htl) rfl (by decide) (by decide) rfl) (cs_len1 _) ?_
            rintro rv h_q ⟨rfl, rfl⟩
            refine ik_Wk 0 (pc_q := 63) (loc_q := [some (.ref 1), some (.retAddr 3), some (fI e), some (fI 4)]) (st_q := [fI 5, fI 4]) (h_q := (c0 :: cz_t T n cur fl fb pl C G P B tl)) (cl_q := 0) (sl_q := 0) rfl ?_
            refine fw_ic_ge rfl rfl (by omega) (by omega) (by omega) (by omega) (fun hc18 => absurd hc18 (by omega)) (fun hc18 => ?_)
            refine ik_Wk 1 (pc_q := 67) (loc_q := [some (.ref 1), some (.retAddr 3), some (fI e), some (fI 4)]) (st_q := [.ref 1]) (h_q := (c0 :: cz_t T n cur fl fb pl C G P B tl)) (cl_q := 0) (sl_q := 0) rfl ?_
            refine fw_gf rfl rfl rfl rfl ?_
            refine ik_Wk 1 (pc_q := 71) (loc_q := [some (.ref 1), some (.retAddr 3), some (fI e), some (fI 4)]) (st_q := [.ref 1, .ref 2]) (h_q := (c0 :: cz_t T n cur fl fb pl C G P B tl)) (cl_q := 0) (sl_q := 0) rfl ?_
            refine fw_gf rfl rfl rfl rfl ?_
            refine ik_Wk 1 (pc_q := 75) (loc_q := [some (.ref 1), some (.retAddr 3), some (fI e), some (fI 4)]) (st_q := [fI 4, fI cur, .ref 2]) (h_q := (c0 :: cz_t T n cur fl fb pl C G P B tl)) (cl_q := 0) (sl_q := 0) rfl ?_
            refine fw_add rfl ?_
            refine fw_bal rfl rfl (by omega) (by omega) (by omega) ?_
            have hb19 := bT (cur + 4) (by omega) (by omega)
            have hb20 := hy (cur + 4) (by omega) (by omega)
            refine ik_Wk 2 (pc_q := 79) (loc_q := [some (.ref 1), some (.retAddr 3), some (fI e), some (fI 4)]) (st_q := [fI 4, .retAddr 3, fI (T.getD (cur + 4).toNat 0)]) (h_q := (c0 :: cz_t T n cur fl fb pl C G P B tl)) (cl_q := 0) (sl_q := 0) rfl ?_
            refine fw_call 213 2 0 [.retAddr 3, fI 4] [fI (T.getD (cur + 4).toNat 0)] rfl rfl rfl (Nat.le_of_ble_eq_true rfl) rfl rfl (fw_str (cz_len htl) rfl (by decide) (by decide) rfl) (cs_ch1_4 _) ?_
            rintro rv h_q ⟨rfl, rfl⟩
            refine ik_Wk 0 (pc_q := 82) (loc_q := [some (.ref 1), some (.retAddr 3), some (fI e), some (fI 4)]) (st_q := [fI 101, fI (T.getD (cur + 4).toNat 0)]) (h_q := (c0 :: cz_t T n cur fl fb pl C G P B tl)) (cl_q := 0) (sl_q := 0) rfl ?_
            refine fw_ic_eq rfl rfl (by omega) (by omega) (by omega) (by omega) (fun hc21 => ?_) (fun hc21 => ?_)
            · refine fw_inc (a := 4) (loc_q := [some (.ref 1), some (.retAddr 3), some (fI e), some (fI 5)]) rfl rfl (Nat.le_of_ble_eq_true rfl) rfl ?_
              refine ik_Wk 3 (pc_q := 60) (loc_q := [some (.ref 1), some (.retAddr 3), some (fI e), some (fI 5)]) (st_q := [.retAddr 3, fI 5]) (h_q := (c0 :: cz_t T n cur fl fb pl C G P B tl)) (cl_q := 0) (sl_q := 0) rfl ?_
              refine fw_call 212 1 0 [.retAddr 3] [fI 5] rfl rfl rfl (Nat.le_of_ble_eq_true rfl) rfl rfl (fw_str (cz_len htl) rfl (by decide) (by decide) rfl) (cs_len1 _) ?_
              rintro rv h_q ⟨rfl, rfl⟩
              refine ik_Wk 0 (pc_q := 63) (loc_q := [some (.ref 1), some (.retAddr 3), some (fI e), some (fI 5)]) (st_q := [fI 5, fI 5]) (h_q := (c0 :: cz_t T n cur fl fb pl C G P B tl)) (cl_q := 0) (sl_q := 0) rfl ?_
              refine fw_ic_ge rfl rfl (by omega) (by omega) (by omega) (by omega) (fun hc22 => ?_) (fun hc22 => absurd hc22 (by omega))
              refine ik_Wk 2 (pc_q := 95) (loc_q := [some (.ref 1), some (.retAddr 3), some (fI e), some (fI 5)]) (st_q := [fI e, .ref 1]) (h_q := (c0 :: cz_t T n cur fl fb pl C G P B tl)) (cl_q := 0) (sl_q := 0) rfl ?_
              refine fw_pf (h_q := (c0 :: cz_t T n e fl fb pl C G P B tl)) rfl rfl rfl (Nat.le_of_ble_eq_true rfl) rfl rfl rfl ?_
              refine ik_Wk 1 (pc_q := 99) (loc_q := [some (.ref 1), some (.retAddr 3), some (fI e), some (fI 5)]) (st_q := [fI 1]) (h_q := (c0 :: cz_t T n e fl fb pl C G P B tl)) (cl_q := 0) (sl_q := 0) rfl ?_
              exact ik_Wret rfl rfl ⟨_, _, rfl, rfl, rfl, rfl, (Or.inl ⟨by unfold zpl; exact decide_eq_true (by omega), rfl, by rw [show e = cur + 5 by omega]⟩)⟩
            · refine ik_Wk 1 (pc_q := 86) (loc_q := [some (.ref 1), some (.retAddr 3), some (fI e), some (fI 4)]) (st_q := [fI 0]) (h_q := (c0 :: cz_t T n cur fl fb pl C G P B tl)) (cl_q := 0) (sl_q := 0) rfl ?_
              exact ik_Wret rfl rfl ⟨_, _, rfl, rfl, rfl, rfl, (Or.inr ⟨by unfold zpl; exact decide_eq_false (by omega), rfl, rfl⟩)⟩
          · refine ik_Wk 1 (pc_q := 86) (loc_q := [some (.ref 1), some (.retAddr 3), some (fI e), some (fI 3)]) (st_q := [fI 0]) (h_q := (c0 :: cz_t T n cur fl fb pl C G P B tl)) (cl_q := 0) (sl_q := 0) rfl ?_
            exact ik_Wret rfl rfl ⟨_, _, rfl, rfl, rfl, rfl, (Or.inr ⟨by unfold zpl; exact decide_eq_false (by omega), rfl, rfl⟩)⟩
        · refine ik_Wk 1 (pc_q := 86) (loc_q := [some (.ref 1), some (.retAddr 3), some (fI e), some (fI 2)]) (st_q := [fI 0]) (h_q := (c0 :: cz_t T n cur fl fb pl C G P B tl)) (cl_q := 0) (sl_q := 0) rfl ?_
          exact ik_Wret rfl rfl ⟨_, _, rfl, rfl, rfl, rfl, (Or.inr ⟨by unfold zpl; exact decide_eq_false (by omega), rfl, rfl⟩)⟩
      · refine ik_Wk 1 (pc_q := 86) (loc_q := [some (.ref 1), some (.retAddr 3), some (fI e), some (fI 1)]) (st_q := [fI 0]) (h_q := (c0 :: cz_t T n cur fl fb pl C G P B tl)) (cl_q := 0) (sl_q := 0) rfl ?_
        exact ik_Wret rfl rfl ⟨_, _, rfl, rfl, rfl, rfl, (Or.inr ⟨by unfold zpl; exact decide_eq_false (by omega), rfl, rfl⟩)⟩
    · refine ik_Wk 1 (pc_q := 86) (loc_q := [some (.ref 1), some (.retAddr 3), some (fI e), some (fI 0)]) (st_q := [fI 0]) (h_q := (c0 :: cz_t T n cur fl fb pl C G P B tl)) (cl_q := 0) (sl_q := 0) rfl ?_
      exact ik_Wret rfl rfl ⟨_, _, rfl, rfl, rfl, rfl, (Or.inr ⟨by unfold zpl; exact decide_eq_false (by omega), rfl, rfl⟩)⟩
  · refine ik_Wk 1 (pc_q := 55) (loc_q := [some (.ref 1), some (.retAddr 3), some (fI e), none]) (st_q := [fI 0]) (h_q := (c0 :: cz_t T n cur fl fb pl C G P B tl)) (cl_q := 0) (sl_q := 0) rfl ?_
    exact ik_Wret rfl rfl ⟨_, _, rfl, rfl, rfl, rfl, (Or.inr ⟨by unfold zpl; exact decide_eq_false (by omega), rfl, rfl⟩)⟩

theorem cz_rw1L {c0 : ik_E} {tl : List ik_E} {y : Int → Int} {T : List Int} {n fl fb pl : Int} {C G P B : List Int} (ok : cz_ok y T n tl) {cur : Int} (h0 : 0 ≤ cur) : ∀ (k : Nat) (e : Int), (n - e).toNat = k → cur ≤ e → e ≤ n → zE y n cur = zE y n e → ik_G 64 5 [some (.ref 1), some (.retAddr 3), some (fI e), none] [] (c0 :: cz_t T n cur fl fb pl C G P B tl) (fun rv h_q => (zpl y n cur = true ∧ rv = [fI 1] ∧ h_q = (c0 :: cz_t T n (cur + 5) fl fb pl C G P B tl)) ∨ (zpl y n cur = false ∧ rv = [fI 0] ∧ h_q = (c0 :: cz_t T n cur fl fb pl C G P B tl))) := by
  have ok' := ok
  obtain ⟨htl, hT, bT, hn, hn2, hy⟩ := ok'
  intro k
  induction k using Nat.strongRecOn with
  | _ k ih =>
    intro e hk h1 h2 he
    refine ik_Wk 2 (pc_q := 7) (loc_q := [some (.ref 1), some (.retAddr 3), some (fI e), none]) (st_q := [.ref 1, fI e]) (h_q := (c0 :: cz_t T n cur fl fb pl C G P B tl)) (cl_q := 0) (sl_q := 0) rfl ?_
    refine fw_gf rfl rfl rfl rfl ?_
    refine fw_ic_ge rfl rfl (by omega) (by omega) (by omega) (by omega) (fun hc1 => ?_) (fun hc1 => ?_)
    · exact cz_rw1E ok h0 h1 h2 (he.trans (zE_stop (y := y) (n := n) (i := e) (by omega)))
    · refine ik_Wk 1 (pc_q := 14) (loc_q := [some (.ref 1), some (.retAddr 3), some (fI e), none]) (st_q := [.ref 1]) (h_q := (c0 :: cz_t T n cur fl fb pl C G P B tl)) (cl_q := 0) (sl_q := 0) rfl ?_
      refine fw_gf rfl rfl rfl rfl ?_
      refine ik_Wk 1 (pc_q := 18) (loc_q := [some (.ref 1), some (.retAddr 3), some (fI e), none]) (st_q := [fI e, .ref 2]) (h_q := (c0 :: cz_t T n cur fl fb pl C G P B tl)) (cl_q := 0) (sl_q := 0) rfl ?_
      refine fw_bal rfl rfl (by omega) (by omega) (by omega) ?_
      have hb2 := bT e (by omega) (by omega)
      have hb3 := hy e (by omega) (by omega)
      refine fw_bi rfl (by decide) ?_
      refine fw_ic_lt rfl rfl (by omega) (by omega) (by omega) (by omega) (fun hc4 => ?_) (fun hc4 => ?_)
      · exact cz_rw1E ok h0 h1 h2 (he.trans (zE_stop (y := y) (n := n) (i := e) (by omega)))
      · refine ik_Wk 1 (pc_q := 25) (loc_q := [some (.ref 1), some (.retAddr 3), some (fI e), none]) (st_q := [.ref 1]) (h_q := (c0 :: cz_t T n cur fl fb pl C G P B tl)) (cl_q := 0) (sl_q := 0) rfl ?_
        refine fw_gf rfl rfl rfl rfl ?_
        refine ik_Wk 1 (pc_q := 29) (loc_q := [some (.ref 1), some (.retAddr 3), some (fI e), none]) (st_q := [fI e, .ref 2]) (h_q := (c0 :: cz_t T n cur fl fb pl C G P B tl)) (cl_q := 0) (sl_q := 0) rfl ?_
        refine fw_bal rfl rfl (by omega) (by omega) (by omega) ?_
        have hb5 := bT e (by omega) (by omega)
        have hb6 := hy e (by omega) (by omega)
        refine fw_bi rfl (by decide) ?_
        refine fw_ic_gt rfl rfl (by omega) (by omega) (by omega) (by omega) (fun hc7 => ?_) (fun hc7 => ?_)
        · exact cz_rw1E ok h0 h1 h2 (he.trans (zE_stop (y := y) (n := n) (i := e) (by omega)))
        · refine fw_inc (a := e) (loc_q := [some (.ref 1), some (.retAddr 3), some (fI (e + 1)), none]) rfl rfl (Nat.le_of_ble_eq_true rfl) rfl ?_
          refine ik_Wk 1 (pc_q := 5) (loc_q := [some (.ref 1), some (.retAddr 3), some (fI (e + 1)), none]) (st_q := []) (h_q := (c0 :: cz_t T n cur fl fb pl C G P B tl)) (cl_q := 0) (sl_q := 0) rfl ?_
          exact ih _ (by omega) (e + 1) rfl (by omega) (by omega) (by rw [he, zE_step (y := y) (n := n) (i := e) (by omega) (by omega)])

theorem cz_rw1 {c0 : ik_E} {tl : List ik_E} {y : Int → Int} {T : List Int} {n fl fb pl : Int} {C G P B : List Int} (ok : cz_ok y T n tl) {cur : Int} (h0 : 0 ≤ cur) (h1 : cur ≤ n) : ik_F 64 [.ref 1, .retAddr 3] (c0 :: cz_t T n cur fl fb pl C G P B tl) (fun rv h_q => (zpl y n cur = true ∧ rv = [fI 1] ∧ h_q = (c0 :: cz_t T n (cur + 5) fl fb pl C G P B tl)) ∨ (zpl y n cur = false ∧ rv = [fI 0] ∧ h_q = (c0 :: cz_t T n cur fl fb pl C G P B tl))) := by
  have ok' := ok
  obtain ⟨htl, hT, bT, hn, hn2, hy⟩ := ok'
  refine ik_Wk 1 (pc_q := 1) (loc_q := [some (.ref 1), some (.retAddr 3), none, none]) (st_q := [.ref 1]) (h_q := (c0 :: cz_t T n cur fl fb pl C G P B tl)) (cl_q := 0) (sl_q := 0) rfl ?_
  refine fw_gf rfl rfl rfl rfl ?_
  refine ik_Wk 1 (pc_q := 5) (loc_q := [some (.ref 1), some (.retAddr 3), some (fI cur), none]) (st_q := []) (h_q := (c0 :: cz_t T n cur fl fb pl C G P B tl)) (cl_q := 0) (sl_q := 0) rfl ?_
  exact cz_rw1L ok h0 _ cur rfl (by omega) (by omega) rfl

theorem cz_rw2E {c0 : ik_E} {tl : List ik_E} {y : Int → Int} {T : List Int} {n fl fb pl : Int} {C G P B : List Int} (ok : cz_ok y T n tl) {cur e : Int} (h0 : 0 ≤ cur) (h1 : cur ≤ e) (h2 : e ≤ n) (he : zE y n cur = e) : ik_G 64 41 [some (.ref 1), some (.retAddr 5), some (fI e), none] [] (c0 :: cz_t T n cur fl fb pl C G P B tl) (fun rv h_q => (zto y n cur = true ∧ rv = [fI 1] ∧ h_q = (c0 :: cz_t T n (cur + 2) fl fb pl C G P B tl)) ∨ (zto y n cur = false ∧ rv = [fI 0] ∧ h_q = (c0 :: cz_t T n cur fl fb pl C G P B tl))) := by
  have ok' := ok
  obtain ⟨htl, hT, bT, hn, hn2, hy⟩ := ok'
  have q0 : y (cur + 0) = y cur := congrArg y (Int.add_zero cur)
  refine ik_Wk 2 (pc_q := 43) (loc_q := [some (.ref 1), some (.retAddr 5), some (fI e), none]) (st_q := [.ref 1, fI e]) (h_q := (c0 :: cz_t T n cur fl fb pl C G P B tl)) (cl_q := 0) (sl_q := 0) rfl ?_
  refine fw_gf rfl rfl rfl rfl ?_
  refine fw_sub rfl ?_
  refine ik_Wk 1 (pc_q := 48) (loc_q := [some (.ref 1), some (.retAddr 5), some (fI e), none]) (st_q := [.retAddr 5, fI (e - cur)]) (h_q := (c0 :: cz_t T n cur fl fb pl C G P B tl)) (cl_q := 0) (sl_q := 0) rfl ?_
  refine fw_call 212 1 0 [.retAddr 5] [fI (e - cur)] rfl rfl rfl (Nat.le_of_ble_eq_true rfl) rfl rfl (fw_str (cz_len htl) rfl (by decide) (by decide) rfl) (cs_len2 _) ?_
  rintro rv h_q ⟨rfl, rfl⟩
  refine ik_Wk 0 (pc_q := 51) (loc_q := [some (.ref 1), some (.retAddr 5), some (fI e), none]) (st_q := [fI 2, fI (e - cur)]) (h_q := (c0 :: cz_t T n cur fl fb pl C G P B tl)) (cl_q := 0) (sl_q := 0) rfl ?_
  refine fw_ic_eq rfl rfl (by omega) (by omega) (by omega) (by omega) (fun hc1 => ?_) (fun hc1 => ?_)
  · refine ik_Wk 4 (pc_q := 60) (loc_q := [some (.ref 1), some (.retAddr 5), some (fI e), some (fI 0)]) (st_q := [.retAddr 5, fI 0]) (h_q := (c0 :: cz_t T n cur fl fb pl C G P B tl)) (cl_q := 0) (sl_q := 0) rfl ?_
    refine fw_call 212 1 0 [.retAddr 5] [fI 0] rfl rfl rfl (Nat.le_of_ble_eq_true rfl) rfl rfl (fw_str (cz_len htl) rfl (by decide) (by decide) rfl) (cs_len2 _) ?_
    rintro rv h_q ⟨rfl, rfl⟩
    refine ik_Wk 0 (pc_q := 63) (loc_q := [some (.ref 1), some (.retAddr 5), some (fI e), some (fI 0)]) (st_q := [fI 2, fI 0]) (h_q := (c0 :: cz_t T n cur fl fb pl C G P B tl)) (cl_q := 0) (sl_q := 0) rfl ?_
    refine fw_ic_ge rfl rfl (by omega) (by omega) (by omega) (by omega) (fun hc2 => absurd hc2 (by omega)) (fun hc2 => ?_)
    refine ik_Wk 1 (pc_q := 67) (loc_q := [some (.ref 1), some (.retAddr 5), some (fI e), some (fI 0)]) (st_q := [.ref 1]) (h_q := (c0 :: cz_t T n cur fl fb pl C G P B tl)) (cl_q := 0) (sl_q := 0) rfl ?_
    refine fw_gf rfl rfl rfl rfl ?_
    refine ik_Wk 1 (pc_q := 71) (loc_q := [some (.ref 1), some (.retAddr 5), some (fI e), some (fI 0)]) (st_q := [.ref 1, .ref 2]) (h_q := (c0 :: cz_t T n cur fl fb pl C G P B tl)) (cl_q := 0) (sl_q := 0) rfl ?_
    refine fw_gf rfl rfl rfl rfl ?_
    refine ik_Wk 1 (pc_q := 75) (loc_q := [some (.ref 1), some (.retAddr 5), some (fI e), some (fI 0)]) (st_q := [fI 0, fI cur, .ref 2]) (h_q := (c0 :: cz_t T n cur fl fb pl C G P B tl)) (cl_q := 0) (sl_q := 0) rfl ?_
    refine fw_add rfl ?_
    refine fw_bal rfl rfl (by omega) (by omega) (by omega) ?_
    have hb3 := bT (cur + 0) (by omega) (by omega)
    have hb4 := hy (cur + 0) (by omega) (by omega)
    refine ik_Wk 2 (pc_q := 79) (loc_q := [some (.ref 1), some (.retAddr 5), some (fI e), some (fI 0)]) (st_q := [fI 0, .retAddr 5, fI (T.getD (cur + 0).toNat 0)]) (h_q := (c0 :: cz_t T n cur fl fb pl C G P B tl)) (cl_q := 0) (sl_q := 0) rfl ?_
    refine fw_call 213 2 0 [.retAddr 5, fI 0] [fI (T.getD (cur + 0).toNat 0)] rfl rfl rfl (Nat.le_of_ble_eq_true rfl) rfl rfl (fw_str (cz_len htl) rfl (by decide) (by decide) rfl) (cs_ch2_0 _) ?_
    rintro rv h_q ⟨rfl, rfl⟩
    refine ik_Wk 0 (pc_q := 82) (loc_q := [some (.ref 1), some (.retAddr 5), some (fI e), some (fI 0)]) (st_q := [fI 116, fI (T.getD (cur + 0).toNat 0)]) (h_q := (c0 :: cz_t T n cur fl fb pl C G P B tl)) (cl_q := 0) (sl_q := 0) rfl ?_
    refine fw_ic_eq rfl rfl (by omega) (by omega) (by omega) (by omega) (fun hc5 => ?_) (fun hc5 => ?_)
    · refine fw_inc (a := 0) (loc_q := [some (.ref 1), some (.retAddr 5), some (fI e), some (fI 1)]) rfl rfl (Nat.le_of_ble_eq_true rfl) rfl ?_
      refine ik_Wk 3 (pc_q := 60) (loc_q := [some (.ref 1), some (.retAddr 5), some (fI e), some (fI 1)]) (st_q := [.retAddr 5, fI 1]) (h_q := (c0 :: cz_t T n cur fl fb pl C G P B tl)) (cl_q := 0) (sl_q := 0) rfl ?_
      refine fw_call 212 1 0 [.retAddr 5] [fI 1] rfl rfl rfl (Nat.le_of_ble_eq_true rfl) rfl rfl (fw_str (cz_len htl) rfl (by decide) (by decide) rfl) (cs_len2 _) ?_
      rintro rv h_q ⟨rfl, rfl⟩
      refine ik_Wk 0 (pc_q := 63) (loc_q := [some (.ref 1), some (.retAddr 5), some (fI e), some (fI 1)]) (st_q := [fI 2, fI 1]) (h_q := (c0 :: cz_t T n cur fl fb pl C G P B tl)) (cl_q := 0) (sl_q := 0) rfl ?_
      refine fw_ic_ge rfl rfl (by omega) (by omega) (by omega) (by omega) (fun hc6 => absurd hc6 (by omega)) (fun hc6 => ?_)
      refine ik_Wk 1 (pc_q := 67) (loc_q := [some (.ref 1), some (.retAddr 5), some (fI e), some (fI 1)]) (st_q := [.ref 1]) (h_q := (c0 :: cz_t T n cur fl fb pl C G P B tl)) (cl_q := 0) (sl_q := 0) rfl ?_
      refine fw_gf rfl rfl rfl rfl ?_
      refine ik_Wk 1 (pc_q := 71) (loc_q := [some (.ref 1), some (.retAddr 5), some (fI e), some (fI 1)]) (st_q := [.ref 1, .ref 2]) (h_q := (c0 :: cz_t T n cur fl fb pl C G P B tl)) (cl_q := 0) (sl_q := 0) rfl ?_
      refine fw_gf rfl rfl rfl rfl ?_
      refine ik_Wk 1 (pc_q := 75) (loc_q := [some (.ref 1), some (.retAddr 5), some (fI e), some (fI 1)]) (st_q := [fI 1, fI cur, .ref 2]) (h_q := (c0 :: cz_t T n cur fl fb pl C G P B tl)) (cl_q := 0) (sl_q := 0) rfl ?_
      refine fw_add rfl ?_
      refine fw_bal rfl rfl (by omega) (by omega) (by omega) ?_
      have hb7 := bT (cur + 1) (by omega) (by omega)
      have hb8 := hy (cur + 1) (by omega) (by omega)
      refine ik_Wk 2 (pc_q := 79) (loc_q := [some (.ref 1), some (.retAddr 5), some (fI e), some (fI 1)]) (st_q := [fI 1, .retAddr 5, fI (T.getD (cur + 1).toNat 0)]) (h_q := (c0 :: cz_t T n cur fl fb pl C G P B tl)) (cl_q := 0) (sl_q := 0) rfl ?_
      refine fw_call 213 2 0 [.retAddr 5, fI 1] [fI (T.getD (cur + 1).toNat 0)] rfl rfl rfl (Nat.le_of_ble_eq_true rfl) rfl rfl (fw_str (cz_len htl) rfl (by decide) (by decide) rfl) (cs_ch2_1 _) ?_
      rintro rv h_q ⟨rfl, rfl⟩
      refine ik_Wk 0 (pc_q := 82) (loc_q := [some (.ref 1), some (.retAddr 5), some (fI e), some (fI 1)]) (st_q := [fI 111, fI (T.getD (cur + 1).toNat 0)]) (h_q := (c0 :: cz_t T n cur fl fb pl C G P B tl)) (cl_q := 0) (sl_q := 0) rfl ?_
      refine fw_ic_eq rfl rfl (by omega) (by omega) (by omega) (by omega) (fun hc9 => ?_) (fun hc9 => ?_)
      · refine fw_inc (a := 1) (loc_q := [some (.ref 1), some (.retAddr 5), some (fI e), some (fI 2)]) rfl rfl (Nat.le_of_ble_eq_true rfl) rfl ?_
        refine ik_Wk 3 (pc_q := 60) (loc_q := [some (.ref 1), some (.retAddr 5), some (fI e), some (fI 2)]) (st_q := [.retAddr 5, fI 2]) (h_q := (c0 :: cz_t T n cur fl fb pl C G P B tl)) (cl_q := 0) (sl_q := 0) rfl ?_
        refine fw_call 212 1 0 [.retAddr 5] [fI 2] rfl rfl rfl (Nat.le_of_ble_eq_true rfl) rfl rfl (fw_str (cz_len htl) rfl (by decide) (by decide) rfl) (cs_len2 _) ?_
        rintro rv h_q ⟨rfl, rfl⟩
        refine ik_Wk 0 (pc_q := 63) (loc_q := [some (.ref 1), some (.retAddr 5), some (fI e), some (fI 2)]) (st_q := [fI 2, fI 2]) (h_q := (c0 :: cz_t T n cur fl fb pl C G P B tl)) (cl_q := 0) (sl_q := 0) rfl ?_
        refine fw_ic_ge rfl rfl (by omega) (by omega) (by omega) (by omega) (fun hc10 => ?_) (fun hc10 => absurd hc10 (by omega))
        refine ik_Wk 2 (pc_q := 95) (loc_q := [some (.ref 1), some (.retAddr 5), some (fI e), some (fI 2)]) (st_q := [fI e, .ref 1]) (h_q := (c0 :: cz_t T n cur fl fb pl C G P B tl)) (cl_q := 0) (sl_q := 0) rfl ?_
        refine fw_pf (h_q := (c0 :: cz_t T n e fl fb pl C G P B tl)) rfl rfl rfl (Nat.le_of_ble_eq_true rfl) rfl rfl rfl ?_
        refine ik_Wk 1 (pc_q := 99) (loc_q := [some (.ref 1), some (.retAddr 5), some (fI e), some (fI 2)]) (st_q := [fI 1]) (h_q := (c0 :: cz_t T n e fl fb pl C G P B tl)) (cl_q := 0) (sl_q := 0) rfl ?_
        exact ik_Wret rfl rfl ⟨_, _, rfl, rfl, rfl, rfl, (Or.inl ⟨by unfold zto; exact decide_eq_true (by omega), rfl, by rw [show e = cur + 2 by omega]⟩)⟩
      · refine ik_Wk 1 (pc_q := 86) (loc_q := [some (.ref 1), some (.retAddr 5), some (fI e), some (fI 1)]) (st_q := [fI 0]) (h_q := (c0 :: cz_t T n cur fl fb pl C G P B tl)) (cl_q := 0) (sl_q := 0) rfl ?_
        exact ik_Wret rfl rfl ⟨_, _, rfl, rfl, rfl, rfl, (Or.inr ⟨by unfold zto; exact decide_eq_false (by omega), rfl, rfl⟩)⟩
    · refine ik_Wk 1 (pc_q := 86) (loc_q := [some (.ref 1), some (.retAddr 5), some (fI e), some (fI 0)]) (st_q := [fI 0]) (h_q := (c0 :: cz_t T n cur fl fb pl C G P B tl)) (cl_q := 0) (sl_q := 0) rfl ?_
      exact ik_Wret rfl rfl ⟨_, _, rfl, rfl, rfl, rfl, (Or.inr ⟨by unfold zto; exact decide_eq_false (by omega), rfl, rfl⟩)⟩
  · refine ik_Wk 1 (pc_q := 55) (loc_q := [some (.ref 1), some (.retAddr 5), some (fI e), none]) (st_q := [fI 0]) (h_q := (c0 :: cz_t T n cur fl fb pl C G P B tl)) (cl_q := 0) (sl_q := 0) rfl ?_
    exact ik_Wret rfl rfl ⟨_, _, rfl, rfl, rfl, rfl, (Or.inr ⟨by unfold zto; exact decide_eq_false (by omega), rfl, rfl⟩)⟩

theorem cz_rw2L {c0 : ik_E} {tl : List ik_E} {y : Int → Int} {T : List Int} {n fl fb pl : Int} {C G P B : List Int} (ok : cz_ok y T n tl) {cur : Int} (h0 : 0 ≤ cur) : ∀ (k : Nat) (e : Int), (n - e).toNat = k → cur ≤ e → e ≤ n → zE y n cur = zE y n e → ik_G 64 5 [some (.ref 1), some (.retAddr 5), some (fI e), none] [] (c0 :: cz_t T n cur fl fb pl C G P B tl) (fun rv h_q => (zto y n cur = true ∧ rv = [fI 1] ∧ h_q = (c0 :: cz_t T n (cur + 2) fl fb pl C G P B tl)) ∨ (zto y n cur = false ∧ rv = [fI 0] ∧ h_q = (c0 :: cz_t T n cur fl fb pl C G P B tl))) := by
  have ok' := ok
  obtain ⟨htl, hT, bT, hn, hn2, hy⟩ := ok'
  intro k
  induction k using Nat.strongRecOn with
  | _ k ih =>
    intro e hk h1 h2 he
    refine ik_Wk 2 (pc_q := 7) (loc_q := [some (.ref 1), some (.retAddr 5), some (fI e), none]) (st_q := [.ref 1, fI e]) (h_q := (c0 :: cz_t T n cur fl fb pl C G P B tl)) (cl_q := 0) (sl_q := 0) rfl ?_
    refine fw_gf rfl rfl rfl rfl ?_
    refine fw_ic_ge rfl rfl (by omega) (by omega) (by omega) (by omega) (fun hc1 => ?_) (fun hc1 => ?_)
    · exact cz_rw2E ok h0 h1 h2 (he.trans (zE_stop (y := y) (n := n) (i := e) (by omega)))
    · refine ik_Wk 1 (pc_q := 14) (loc_q := [some (.ref 1), some (.retAddr 5), some (fI e), none]) (st_q := [.ref 1]) (h_q := (c0 :: cz_t T n cur fl fb pl C G P B tl)) (cl_q := 0) (sl_q := 0) rfl ?_
      refine fw_gf rfl rfl rfl rfl ?_
      refine ik_Wk 1 (pc_q := 18) (loc_q := [some (.ref 1), some (.retAddr 5), some (fI e), none]) (st_q := [fI e, .ref 2]) (h_q := (c0 :: cz_t T n cur fl fb pl C G P B tl)) (cl_q := 0) (sl_q := 0) rfl ?_
      refine fw_bal rfl rfl (by omega) (by omega) (by omega) ?_
      have hb2 := bT e (by omega) (by omega)
      have hb3 := hy e (by omega) (by omega)
      refine fw_bi rfl (by decide) ?_
      refine fw_ic_lt rfl rfl (by omega) (by omega) (by omega) (by omega) (fun hc4 => ?_) (fun hc4 => ?_)
      · exact cz_rw2E ok h0 h1 h2 (he.trans (zE_stop (y := y) (n := n) (i := e) (by omega)))
      · refine ik_Wk 1 (pc_q := 25) (loc_q := [some (.ref 1), some (.retAddr 5), some (fI e), none]) (st_q := [.ref 1]) (h_q := (c0 :: cz_t T n cur fl fb pl C G P B tl)) (cl_q := 0) (sl_q := 0) rfl ?_
        refine fw_gf rfl rfl rfl rfl ?_
        refine ik_Wk 1 (pc_q := 29) (loc_q := [some (.ref 1), some (.retAddr 5), some (fI e), none]) (st_q := [fI e, .ref 2]) (h_q := (c0 :: cz_t T n cur fl fb pl C G P B tl)) (cl_q := 0) (sl_q := 0) rfl ?_
        refine fw_bal rfl rfl (by omega) (by omega) (by omega) ?_
        have hb5 := bT e (by omega) (by omega)
        have hb6 := hy e (by omega) (by omega)
        refine fw_bi rfl (by decide) ?_
        refine fw_ic_gt rfl rfl (by omega) (by omega) (by omega) (by omega) (fun hc7 => ?_) (fun hc7 => ?_)
        · exact cz_rw2E ok h0 h1 h2 (he.trans (zE_stop (y := y) (n := n) (i := e) (by omega)))
        · refine fw_inc (a := e) (loc_q := [some (.ref 1), some (.retAddr 5), some (fI (e + 1)), none]) rfl rfl (Nat.le_of_ble_eq_true rfl) rfl ?_
          refine ik_Wk 1 (pc_q := 5) (loc_q := [some (.ref 1), some (.retAddr 5), some (fI (e + 1)), none]) (st_q := []) (h_q := (c0 :: cz_t T n cur fl fb pl C G P B tl)) (cl_q := 0) (sl_q := 0) rfl ?_
          exact ih _ (by omega) (e + 1) rfl (by omega) (by omega) (by rw [he, zE_step (y := y) (n := n) (i := e) (by omega) (by omega)])

theorem cz_rw2 {c0 : ik_E} {tl : List ik_E} {y : Int → Int} {T : List Int} {n fl fb pl : Int} {C G P B : List Int} (ok : cz_ok y T n tl) {cur : Int} (h0 : 0 ≤ cur) (h1 : cur ≤ n) : ik_F 64 [.ref 1, .retAddr 5] (c0 :: cz_t T n cur fl fb pl C G P B tl) (fun rv h_q => (zto y n cur = true ∧ rv = [fI 1] ∧ h_q = (c0 :: cz_t T n (cur + 2) fl fb pl C G P B tl)) ∨ (zto y n cur = false ∧ rv = [fI 0] ∧ h_q = (c0 :: cz_t T n cur fl fb pl C G P B tl))) := by
  have ok' := ok
  obtain ⟨htl, hT, bT, hn, hn2, hy⟩ := ok'
  refine ik_Wk 1 (pc_q := 1) (loc_q := [some (.ref 1), some (.retAddr 5), none, none]) (st_q := [.ref 1]) (h_q := (c0 :: cz_t T n cur fl fb pl C G P B tl)) (cl_q := 0) (sl_q := 0) rfl ?_
  refine fw_gf rfl rfl rfl rfl ?_
  refine ik_Wk 1 (pc_q := 5) (loc_q := [some (.ref 1), some (.retAddr 5), some (fI cur), none]) (st_q := []) (h_q := (c0 :: cz_t T n cur fl fb pl C G P B tl)) (cl_q := 0) (sl_q := 0) rfl ?_
  exact cz_rw2L ok h0 _ cur rfl (by omega) (by omega) rfl

theorem cz_numE {c0 : ik_E} {tl : List ik_E} {y : Int → Int} {T : List Int} {n fl fb pl : Int} {C G P B : List Int} (ok : cz_ok y T n tl) {s lo hi cur v : Int} (h0 : 0 ≤ s) (hlo : 0 ≤ lo) (hhi : hi ≤ 999) (hlh : lo ≤ hi) (h1 : s ≤ cur) (h2 : cur ≤ n) (he : zD y n s = cur) (hv0 : 0 ≤ v) (hv1 : v ≤ 1000) (hinv : (cur = s → v = 0) ∧ (cur = s + 1 → v = y s - 48) ∧ (cur = s + 2 → v = 10 * (y s - 48) + (y (s + 1) - 48)) ∧ (cur = s + 3 → v = 100 * (y s - 48) + 10 * (y (s + 1) - 48) + (y (s + 2) - 48))) : ik_G 63 86 [some (.ref 1), some (fI lo), some (fI hi), some (fI s), some (fI v)] [] (c0 :: cz_t T n cur fl fb pl C G P B tl) (fun rv h_q => (znum y n lo hi s = 0 ∧ rv = [fI (zv y n s)] ∧ h_q = (c0 :: cz_t T n (zD y n s) fl fb pl C G P B tl)) ∨ (¬ znum y n lo hi s = 0 ∧ rv = [fI (-1)] ∧ ∃ cur', 0 ≤ cur' ∧ cur' ≤ n ∧ h_q = (c0 :: cz_t T n cur' (znum y n lo hi s) s pl C G P B tl))) := by
  have ok' := ok
  obtain ⟨htl, hT, bT, hn, hn2, hy⟩ := ok'
  have iq := ik_hid_i hinv
  clear hinv
  refine ik_Wk 1 (pc_q := 87) (loc_q := [some (.ref 1), some (fI lo), some (fI hi), some (fI s), some (fI v)]) (st_q := [.ref 1]) (h_q := (c0 :: cz_t T n cur fl fb pl C G P B tl)) (cl_q := 0) (sl_q := 0) rfl ?_
  refine fw_gf rfl rfl rfl rfl ?_
  refine ik_Wk 1 (pc_q := 91) (loc_q := [some (.ref 1), some (fI lo), some (fI hi), some (fI s), some (fI v)]) (st_q := [fI s, fI cur]) (h_q := (c0 :: cz_t T n cur fl fb pl C G P B tl)) (cl_q := 0) (sl_q := 0) rfl ?_
  refine fw_ic_ne rfl rfl (by omega) (by omega) (by omega) (by omega) (fun hc1 => ?_) (fun hc1 => ?_)
  · refine ik_Wk 3 (pc_q := 97) (loc_q := [some (.ref 1), some (fI lo), some (fI hi), some (fI s), some (fI v)]) (st_q := [fI s, fI 1, .ref 1]) (h_q := (c0 :: cz_t T n cur fl fb pl C G P B tl)) (cl_q := 0) (sl_q := 0) rfl ?_
    refine fw_call 67 3 0 [.ref 1, fI 1, fI s] [] rfl rfl rfl (Nat.le_of_ble_eq_true rfl) rfl rfl (fw_rec (cz_len htl) rfl rfl rfl (by decide)) (cz_refuse ok) ?_
    rintro rv h_q ⟨rfl, rfl⟩
    refine ik_Wk 0 (pc_q := 100) (loc_q := [some (.ref 1), some (fI lo), some (fI hi), some (fI s), some (fI v)]) (st_q := [fI 0]) (h_q := (c0 :: cz_t T n cur 1 s pl C G P B tl)) (cl_q := 0) (sl_q := 0) rfl ?_
    refine ik_Wk 2 (pc_q := 102) (loc_q := [some (.ref 1), some (fI lo), some (fI hi), some (fI s), some (fI v)]) (st_q := [fI (-1)]) (h_q := (c0 :: cz_t T n cur 1 s pl C G P B tl)) (cl_q := 0) (sl_q := 0) rfl ?_
    refine ik_Wret rfl rfl ⟨_, _, rfl, rfl, rfl, rfl, (Or.inr ?_)⟩
    have hf : znum y n lo hi s = 1 := znum_1 he (by omega)
    exact ⟨by omega, rfl, cur, by omega, by omega, by rw [hf]⟩
  · refine ik_Wk 1 (pc_q := 104) (loc_q := [some (.ref 1), some (fI lo), some (fI hi), some (fI s), some (fI v)]) (st_q := [.ref 1]) (h_q := (c0 :: cz_t T n cur fl fb pl C G P B tl)) (cl_q := 0) (sl_q := 0) rfl ?_
    refine fw_gf rfl rfl rfl rfl ?_
    refine ik_Wk 1 (pc_q := 108) (loc_q := [some (.ref 1), some (fI lo), some (fI hi), some (fI s), some (fI v)]) (st_q := [fI s, fI cur]) (h_q := (c0 :: cz_t T n cur fl fb pl C G P B tl)) (cl_q := 0) (sl_q := 0) rfl ?_
    refine fw_sub rfl ?_
    refine ik_Wk 1 (pc_q := 110) (loc_q := [some (.ref 1), some (fI lo), some (fI hi), some (fI s), some (fI v)]) (st_q := [fI 3, fI (cur - s)]) (h_q := (c0 :: cz_t T n cur fl fb pl C G P B tl)) (cl_q := 0) (sl_q := 0) rfl ?_
    refine fw_ic_gt rfl rfl (by omega) (by omega) (by omega) (by omega) (fun hc2 => ?_) (fun hc2 => ?_)
    · refine ik_Wk 3 (pc_q := 128) (loc_q := [some (.ref 1), some (fI lo), some (fI hi), some (fI s), some (fI v)]) (st_q := [fI s, fI 2, .ref 1]) (h_q := (c0 :: cz_t T n cur fl fb pl C G P B tl)) (cl_q := 0) (sl_q := 0) rfl ?_
      refine fw_call 67 3 0 [.ref 1, fI 2, fI s] [] rfl rfl rfl (Nat.le_of_ble_eq_true rfl) rfl rfl (fw_rec (cz_len htl) rfl rfl rfl (by decide)) (cz_refuse ok) ?_
      rintro rv h_q ⟨rfl, rfl⟩
      refine ik_Wk 0 (pc_q := 131) (loc_q := [some (.ref 1), some (fI lo), some (fI hi), some (fI s), some (fI v)]) (st_q := [fI 0]) (h_q := (c0 :: cz_t T n cur 2 s pl C G P B tl)) (cl_q := 0) (sl_q := 0) rfl ?_
      refine ik_Wk 2 (pc_q := 133) (loc_q := [some (.ref 1), some (fI lo), some (fI hi), some (fI s), some (fI v)]) (st_q := [fI (-1)]) (h_q := (c0 :: cz_t T n cur 2 s pl C G P B tl)) (cl_q := 0) (sl_q := 0) rfl ?_
      refine ik_Wret rfl rfl ⟨_, _, rfl, rfl, rfl, rfl, (Or.inr ?_)⟩
      have hf : znum y n lo hi s = 2 := by
        first
        | exact znum_2 he (by omega) (zval_of iq (by omega) (by omega)) (by omega)
        | exact znum_2 he (by omega) (zval_far (by omega)) (by omega)
      exact ⟨by omega, rfl, cur, by omega, by omega, by rw [hf]⟩
    · refine ik_Wk 2 (pc_q := 116) (loc_q := [some (.ref 1), some (fI lo), some (fI hi), some (fI s), some (fI v)]) (st_q := [fI lo, fI v]) (h_q := (c0 :: cz_t T n cur fl fb pl C G P B tl)) (cl_q := 0) (sl_q := 0) rfl ?_
      refine fw_ic_lt rfl rfl (by omega) (by omega) (by omega) (by omega) (fun hc3 => ?_) (fun hc3 => ?_)
      · refine ik_Wk 3 (pc_q := 128) (loc_q := [some (.ref 1), some (fI lo), some (fI hi), some (fI s), some (fI v)]) (st_q := [fI s, fI 2, .ref 1]) (h_q := (c0 :: cz_t T n cur fl fb pl C G P B tl)) (cl_q := 0) (sl_q := 0) rfl ?_
        refine fw_call 67 3 0 [.ref 1, fI 2, fI s] [] rfl rfl rfl (Nat.le_of_ble_eq_true rfl) rfl rfl (fw_rec (cz_len htl) rfl rfl rfl (by decide)) (cz_refuse ok) ?_
        rintro rv h_q ⟨rfl, rfl⟩
        refine ik_Wk 0 (pc_q := 131) (loc_q := [some (.ref 1), some (fI lo), some (fI hi), some (fI s), some (fI v)]) (st_q := [fI 0]) (h_q := (c0 :: cz_t T n cur 2 s pl C G P B tl)) (cl_q := 0) (sl_q := 0) rfl ?_
        refine ik_Wk 2 (pc_q := 133) (loc_q := [some (.ref 1), some (fI lo), some (fI hi), some (fI s), some (fI v)]) (st_q := [fI (-1)]) (h_q := (c0 :: cz_t T n cur 2 s pl C G P B tl)) (cl_q := 0) (sl_q := 0) rfl ?_
        refine ik_Wret rfl rfl ⟨_, _, rfl, rfl, rfl, rfl, (Or.inr ?_)⟩
        have hf : znum y n lo hi s = 2 := by
          first
          | exact znum_2 he (by omega) (zval_of iq (by omega) (by omega)) (by omega)
          | exact znum_2 he (by omega) (zval_far (by omega)) (by omega)
        exact ⟨by omega, rfl, cur, by omega, by omega, by rw [hf]⟩
      · refine ik_Wk 2 (pc_q := 122) (loc_q := [some (.ref 1), some (fI lo), some (fI hi), some (fI s), some (fI v)]) (st_q := [fI hi, fI v]) (h_q := (c0 :: cz_t T n cur fl fb pl C G P B tl)) (cl_q := 0) (sl_q := 0) rfl ?_
        refine fw_ic_le rfl rfl (by omega) (by omega) (by omega) (by omega) (fun hc4 => ?_) (fun hc4 => ?_)
        · refine ik_Wk 1 (pc_q := 136) (loc_q := [some (.ref 1), some (fI lo), some (fI hi), some (fI s), some (fI v)]) (st_q := [fI v]) (h_q := (c0 :: cz_t T n cur fl fb pl C G P B tl)) (cl_q := 0) (sl_q := 0) rfl ?_
          refine ik_Wret rfl rfl ⟨_, _, rfl, rfl, rfl, rfl, (Or.inl ?_)⟩
          have hf : znum y n lo hi s = 0 := znum_0 he (by omega) (zval_of iq (by omega) (by omega)) (by omega) (by omega)
          have hv : zv y n s = v := zv_of he (zval_of iq (by omega) (by omega))
          exact ⟨hf, by rw [hv], by rw [he]⟩
        · refine ik_Wk 3 (pc_q := 128) (loc_q := [some (.ref 1), some (fI lo), some (fI hi), some (fI s), some (fI v)]) (st_q := [fI s, fI 2, .ref 1]) (h_q := (c0 :: cz_t T n cur fl fb pl C G P B tl)) (cl_q := 0) (sl_q := 0) rfl ?_
          refine fw_call 67 3 0 [.ref 1, fI 2, fI s] [] rfl rfl rfl (Nat.le_of_ble_eq_true rfl) rfl rfl (fw_rec (cz_len htl) rfl rfl rfl (by decide)) (cz_refuse ok) ?_
          rintro rv h_q ⟨rfl, rfl⟩
          refine ik_Wk 0 (pc_q := 131) (loc_q := [some (.ref 1), some (fI lo), some (fI hi), some (fI s), some (fI v)]) (st_q := [fI 0]) (h_q := (c0 :: cz_t T n cur 2 s pl C G P B tl)) (cl_q := 0) (sl_q := 0) rfl ?_
          refine ik_Wk 2 (pc_q := 133) (loc_q := [some (.ref 1), some (fI lo), some (fI hi), some (fI s), some (fI v)]) (st_q := [fI (-1)]) (h_q := (c0 :: cz_t T n cur 2 s pl C G P B tl)) (cl_q := 0) (sl_q := 0) rfl ?_
          refine ik_Wret rfl rfl ⟨_, _, rfl, rfl, rfl, rfl, (Or.inr ?_)⟩
          have hf : znum y n lo hi s = 2 := by
            first
            | exact znum_2 he (by omega) (zval_of iq (by omega) (by omega)) (by omega)
            | exact znum_2 he (by omega) (zval_far (by omega)) (by omega)
          exact ⟨by omega, rfl, cur, by omega, by omega, by rw [hf]⟩

theorem cz_numL {c0 : ik_E} {tl : List ik_E} {y : Int → Int} {T : List Int} {n fl fb pl : Int} {C G P B : List Int} (ok : cz_ok y T n tl) {s lo hi : Int} (h0 : 0 ≤ s) (hlo : 0 ≤ lo) (hhi : hi ≤ 999) (hlh : lo ≤ hi) : ∀ (k : Nat) (cur v : Int), (n - cur).toNat = k → s ≤ cur → cur ≤ n → zD y n s = zD y n cur → (0 : Int) ≤ v → v ≤ (1000 : Int) → ((cur = s → v = 0) ∧ (cur = s + 1 → v = y s - 48) ∧ (cur = s + 2 → v = 10 * (y s - 48) + (y (s + 1) - 48)) ∧ (cur = s + 3 → v = 100 * (y s - 48) + 10 * (y (s + 1) - 48) + (y (s + 2) - 48))) → ik_G 63 8 [some (.ref 1), some (fI lo), some (fI hi), some (fI s), some (fI v)] [] (c0 :: cz_t T n cur fl fb pl C G P B tl) (fun rv h_q => (znum y n lo hi s = 0 ∧ rv = [fI (zv y n s)] ∧ h_q = (c0 :: cz_t T n (zD y n s) fl fb pl C G P B tl)) ∨ (¬ znum y n lo hi s = 0 ∧ rv = [fI (-1)] ∧ ∃ cur', 0 ≤ cur' ∧ cur' ≤ n ∧ h_q = (c0 :: cz_t T n cur' (znum y n lo hi s) s pl C G P B tl))) := by
  have ok' := ok
  obtain ⟨htl, hT, bT, hn, hn2, hy⟩ := ok'
  intro k
  induction k using Nat.strongRecOn with
  | _ k ih =>
    intro cur v hk h1 h2 he hv0 hv1 hinv
    have iq := ik_hid_i hinv
    clear hinv
    refine ik_Wk 1 (pc_q := 9) (loc_q := [some (.ref 1), some (fI lo), some (fI hi), some (fI s), some (fI v)]) (st_q := [.ref 1]) (h_q := (c0 :: cz_t T n cur fl fb pl C G P B tl)) (cl_q := 0) (sl_q := 0) rfl ?_
    refine fw_gf rfl rfl rfl rfl ?_
    refine ik_Wk 1 (pc_q := 13) (loc_q := [some (.ref 1), some (fI lo), some (fI hi), some (fI s), some (fI v)]) (st_q := [.ref 1, fI cur]) (h_q := (c0 :: cz_t T n cur fl fb pl C G P B tl)) (cl_q := 0) (sl_q := 0) rfl ?_
    refine fw_gf rfl rfl rfl rfl ?_
    refine fw_ic_ge rfl rfl (by omega) (by omega) (by omega) (by omega) (fun hc1 => ?_) (fun hc1 => ?_)
    · exact cz_numE ok h0 hlo hhi hlh h1 h2 (he.trans (zD_stop (y := y) (n := n) (i := cur) (by omega))) hv0 hv1 iq
    · refine ik_Wk 1 (pc_q := 20) (loc_q := [some (.ref 1), some (fI lo), some (fI hi), some (fI s), some (fI v)]) (st_q := [.ref 1]) (h_q := (c0 :: cz_t T n cur fl fb pl C G P B tl)) (cl_q := 0) (sl_q := 0) rfl ?_
      refine fw_gf rfl rfl rfl rfl ?_
      refine ik_Wk 1 (pc_q := 24) (loc_q := [some (.ref 1), some (fI lo), some (fI hi), some (fI s), some (fI v)]) (st_q := [.ref 1, .ref 2]) (h_q := (c0 :: cz_t T n cur fl fb pl C G P B tl)) (cl_q := 0) (sl_q := 0) rfl ?_
      refine fw_gf rfl rfl rfl rfl ?_
      refine fw_bal rfl rfl (by omega) (by omega) (by omega) ?_
      have hb2 := bT cur (by omega) (by omega)
      have hb3 := hy cur (by omega) (by omega)
      refine fw_bi rfl (by decide) ?_
      refine fw_ic_lt rfl rfl (by omega) (by omega) (by omega) (by omega) (fun hc4 => ?_) (fun hc4 => ?_)
      · exact cz_numE ok h0 hlo hhi hlh h1 h2 (he.trans (zD_stop (y := y) (n := n) (i := cur) (by omega))) hv0 hv1 iq
      · refine ik_Wk 1 (pc_q := 34) (loc_q := [some (.ref 1), some (fI lo), some (fI hi), some (fI s), some (fI v)]) (st_q := [.ref 1]) (h_q := (c0 :: cz_t T n cur fl fb pl C G P B tl)) (cl_q := 0) (sl_q := 0) rfl ?_
        refine fw_gf rfl rfl rfl rfl ?_
        refine ik_Wk 1 (pc_q := 38) (loc_q := [some (.ref 1), some (fI lo), some (fI hi), some (fI s), some (fI v)]) (st_q := [.ref 1, .ref 2]) (h_q := (c0 :: cz_t T n cur fl fb pl C G P B tl)) (cl_q := 0) (sl_q := 0) rfl ?_
        refine fw_gf rfl rfl rfl rfl ?_
        refine fw_bal rfl rfl (by omega) (by omega) (by omega) ?_
        have hb5 := bT cur (by omega) (by omega)
        have hb6 := hy cur (by omega) (by omega)
        refine fw_bi rfl (by decide) ?_
        refine fw_ic_gt rfl rfl (by omega) (by omega) (by omega) (by omega) (fun hc7 => ?_) (fun hc7 => ?_)
        · exact cz_numE ok h0 hlo hhi hlh h1 h2 (he.trans (zD_stop (y := y) (n := n) (i := cur) (by omega))) hv0 hv1 iq
        · refine ik_Wk 1 (pc_q := 49) (loc_q := [some (.ref 1), some (fI lo), some (fI hi), some (fI s), some (fI v)]) (st_q := [fI v]) (h_q := (c0 :: cz_t T n cur fl fb pl C G P B tl)) (cl_q := 0) (sl_q := 0) rfl ?_
          refine fw_bi rfl (by decide) ?_
          refine fw_mul rfl ?_
          refine ik_Wk 1 (pc_q := 53) (loc_q := [some (.ref 1), some (fI lo), some (fI hi), some (fI s), some (fI v)]) (st_q := [.ref 1, fI (v * 10)]) (h_q := (c0 :: cz_t T n cur fl fb pl C G P B tl)) (cl_q := 0) (sl_q := 0) rfl ?_
          refine fw_gf rfl rfl rfl rfl ?_
          refine ik_Wk 1 (pc_q := 57) (loc_q := [some (.ref 1), some (fI lo), some (fI hi), some (fI s), some (fI v)]) (st_q := [.ref 1, .ref 2, fI (v * 10)]) (h_q := (c0 :: cz_t T n cur fl fb pl C G P B tl)) (cl_q := 0) (sl_q := 0) rfl ?_
          refine fw_gf rfl rfl rfl rfl ?_
          refine fw_bal rfl rfl (by omega) (by omega) (by omega) ?_
          have hb8 := bT cur (by omega) (by omega)
          have hb9 := hy cur (by omega) (by omega)
          refine fw_add rfl ?_
          refine fw_bi rfl (by decide) ?_
          refine fw_sub rfl ?_
          refine fw_si rfl (by decide) ?_
          refine fw_min rfl rfl rfl ⟨Nat.le_of_ble_eq_true rfl, Nat.le_of_ble_eq_true rfl, Nat.le_of_ble_eq_true rfl⟩ (by omega) (by omega) (by omega) (by omega) ?_
          refine ik_Wk 3 (pc_q := 75) (loc_q := [some (.ref 1), some (fI lo), some (fI hi), some (fI s), some (fI (if 1000 < ((v * 10) + (T.getD cur.toNat 0)) - 48 then 1000 else ((v * 10) + (T.getD cur.toNat 0)) - 48))]) (st_q := [.ref 1, .ref 1]) (h_q := (c0 :: cz_t T n cur fl fb pl C G P B tl)) (cl_q := 0) (sl_q := 0) rfl ?_
          refine fw_gf rfl rfl rfl rfl ?_
          refine ik_Wk 1 (pc_q := 79) (loc_q := [some (.ref 1), some (fI lo), some (fI hi), some (fI s), some (fI (if 1000 < ((v * 10) + (T.getD cur.toNat 0)) - 48 then 1000 else ((v * 10) + (T.getD cur.toNat 0)) - 48))]) (st_q := [fI 1, fI cur, .ref 1]) (h_q := (c0 :: cz_t T n cur fl fb pl C G P B tl)) (cl_q := 0) (sl_q := 0) rfl ?_
          refine fw_add rfl ?_
          refine fw_pf (h_q := (c0 :: cz_t T n (cur + 1) fl fb pl C G P B tl)) rfl rfl rfl (Nat.le_of_ble_eq_true rfl) rfl rfl rfl ?_
          refine ik_Wk 1 (pc_q := 8) (loc_q := [some (.ref 1), some (fI lo), some (fI hi), some (fI s), some (fI (if 1000 < ((v * 10) + (T.getD cur.toNat 0)) - 48 then 1000 else ((v * 10) + (T.getD cur.toNat 0)) - 48))]) (st_q := []) (h_q := (c0 :: cz_t T n (cur + 1) fl fb pl C G P B tl)) (cl_q := 0) (sl_q := 0) rfl ?_
          have e1 : zD y n cur = zD y n (cur + 1) := zD_step (by omega) (by omega)
          have e2 := zD_ge (y := y) (n := n) (cur + 1)
          exact ih _ (by omega) (cur + 1) _ rfl (by omega) (by omega) (by rw [he, e1]) (by split <;> omega) (by split <;> omega) (znum_inv iq h1 (he.trans e1) (fun hq => by split <;> omega))

theorem cz_num {c0 : ik_E} {tl : List ik_E} {y : Int → Int} {T : List Int} {n fl fb pl : Int} {C G P B : List Int} (ok : cz_ok y T n tl) {s lo hi : Int} (h0 : 0 ≤ s) (h1 : s ≤ n) (hlo : 0 ≤ lo) (hhi : hi ≤ 999) (hlh : lo ≤ hi) : ik_F 63 [.ref 1, fI lo, fI hi] (c0 :: cz_t T n s fl fb pl C G P B tl) (fun rv h_q => (znum y n lo hi s = 0 ∧ rv = [fI (zv y n s)] ∧ h_q = (c0 :: cz_t T n (zD y n s) fl fb pl C G P B tl)) ∨ (¬ znum y n lo hi s = 0 ∧ rv = [fI (-1)] ∧ ∃ cur', 0 ≤ cur' ∧ cur' ≤ n ∧ h_q = (c0 :: cz_t T n cur' (znum y n lo hi s) s pl C G P B tl))) := by
  have ok' := ok
  obtain ⟨htl, hT, bT, hn, hn2, hy⟩ := ok'
  refine ik_Wk 1 (pc_q := 1) (loc_q := [some (.ref 1), some (fI lo), some (fI hi), none, none]) (st_q := [.ref 1]) (h_q := (c0 :: cz_t T n s fl fb pl C G P B tl)) (cl_q := 0) (sl_q := 0) rfl ?_
  refine fw_gf rfl rfl rfl rfl ?_
  refine ik_Wk 3 (pc_q := 8) (loc_q := [some (.ref 1), some (fI lo), some (fI hi), some (fI s), some (fI 0)]) (st_q := []) (h_q := (c0 :: cz_t T n s fl fb pl C G P B tl)) (cl_q := 0) (sl_q := 0) rfl ?_
  exact cz_numL ok h0 hlo hhi hlh _ s 0 rfl (by omega) (by omega) rfl (by omega) (by omega) ⟨by omega, by omega, by omega, by omega⟩

/-! 38i.cz -/
theorem znum0 {y : Int → Int} {n lo hi s : Int} (h : znum y n lo hi s = 0) : ¬ zD y n s = s ∧ lo ≤ zv y n s ∧ zv y n s ≤ hi := by
  unfold znum at h
  unfold zv
  split at h
  · omega
  · split at h
    · rename_i a b; exact ⟨a, b.1, b.2⟩
    · omega
theorem znumR {y : Int → Int} {n lo hi s : Int} : 0 ≤ znum y n lo hi s ∧ znum y n lo hi s ≤ 2 := by
  unfold znum
  split
  · omega
  · split <;> omega
theorem zany_t {r : List zM} {v k : Int} (h0 : 0 ≤ k) (h1 : k < (r.length : Int)) (h : (r.getD k.toNat (0, 0, 0)).1 = v) : (r.any fun m => decide (m.1 = v)) = true := by
  have hk : k.toNat < r.length := by omega
  rw [List.getD_eq_getElem?_getD, List.getElem?_eq_getElem hk] at h
  exact List.any_eq_true.mpr ⟨r[k.toNat], List.getElem_mem hk, decide_eq_true h⟩
theorem zany_f {r : List zM} {v : Int} (h : ∀ k : Int, (0 : Int) ≤ k → k < (r.length : Int) → ¬ (r.getD k.toNat (0, 0, 0)).1 = v) : (r.any fun m => decide (m.1 = v)) = false := by
  cases e : (r.any fun m => decide (m.1 = v)) with
  | false => rfl
  | true =>
    obtain ⟨m, hm, hd⟩ := List.any_eq_true.mp e
    obtain ⟨k, hk, hg⟩ := List.mem_iff_getElem.mp hm
    refine absurd (of_decide_eq_true hd) ?_
    have := h (k : Int) (by omega) (by omega)
    rw [List.getD_eq_getElem?_getD, Int.toNat_natCast, List.getElem?_eq_getElem hk, Option.getD_some, hg] at this
    exact this

theorem cz_goalL {c0 : ik_E} {tl : List ik_E} {y : Int → Int} {T : List Int} {n fl fb pl : Int} {C G P B : List Int} (ok : cz_ok y T n tl) {s p i v : Int} {r : List zM} (hC : C.length = (12 : Nat)) (hG : G.length = (48 : Nat)) (hP : P.length = (48 : Nat)) (hB : B.length = (48 : Nat)) (hp : 0 ≤ p) (hp2 : p ≤ 10) (hi : i = (r.length : Int)) (hr : r.length ≤ 3) (hz : ∀ k : Int, (0 : Int) ≤ k → k < (r.length : Int) → G.getD (p * 4 + k).toNat 0 = (r.getD k.toNat (0, 0, 0)).1 ∧ 0 ≤ (r.getD k.toNat (0, 0, 0)).1 ∧ (r.getD k.toNat (0, 0, 0)).1 ≤ 11) (hv : (0 : Int) ≤ v) (hv2 : v ≤ (11 : Int)) : ∀ (d : Nat) (k : Int), (i - k).toNat = d → (0 : Int) ≤ k → k ≤ i → (∀ j : Int, (0 : Int) ≤ j → j < k → ¬ (r.getD j.toNat (0, 0, 0)).1 = v) → ik_G 59 29 [some (.ref 1), some (fI p), some (fI i), some (fI s), some (fI v), some (fI k)] [] (c0 :: cz_t T n (zD y n s) fl fb pl C G P B tl) (fun rv h_q => ((r.any fun m => decide (m.1 = v)) = false ∧ rv = [fI 1] ∧ h_q = (c0 :: cz_t T n (zD y n s) fl fb pl C (G.set (p * 4 + i).toNat v) P (B.set (p * 4 + i).toNat s) tl)) ∨ ((r.any fun m => decide (m.1 = v)) = true ∧ rv = [fI 0] ∧ h_q = (c0 :: cz_t T n (zD y n s) 4 s pl C G P B tl))) := by
  have ok' := ok
  obtain ⟨htl, hT, bT, hn, hn2, hy⟩ := ok'
  intro d
  induction d using Nat.strongRecOn with
  | _ d ih =>
    intro k hk h1 h2 hno
    refine ik_Wk 2 (pc_q := 32) (loc_q := [some (.ref 1), some (fI p), some (fI i), some (fI s), some (fI v), some (fI k)]) (st_q := [fI i, fI k]) (h_q := (c0 :: cz_t T n (zD y n s) fl fb pl C G P B tl)) (cl_q := 0) (sl_q := 0) rfl ?_
    refine fw_ic_ge rfl rfl (by omega) (by omega) (by omega) (by omega) (fun hc1 => ?_) (fun hc1 => ?_)
    · refine ik_Wk 1 (pc_q := 65) (loc_q := [some (.ref 1), some (fI p), some (fI i), some (fI s), some (fI v), some (fI k)]) (st_q := [.ref 1]) (h_q := (c0 :: cz_t T n (zD y n s) fl fb pl C G P B tl)) (cl_q := 0) (sl_q := 0) rfl ?_
      refine fw_gf rfl rfl rfl rfl ?_
      refine ik_Wk 2 (pc_q := 70) (loc_q := [some (.ref 1), some (fI p), some (fI i), some (fI s), some (fI v), some (fI k)]) (st_q := [fI 4, fI p, .ref 4]) (h_q := (c0 :: cz_t T n (zD y n s) fl fb pl C G P B tl)) (cl_q := 0) (sl_q := 0) rfl ?_
      refine fw_mul rfl ?_
      refine ik_Wk 1 (pc_q := 72) (loc_q := [some (.ref 1), some (fI p), some (fI i), some (fI s), some (fI v), some (fI k)]) (st_q := [fI i, fI (p * 4), .ref 4]) (h_q := (c0 :: cz_t T n (zD y n s) fl fb pl C G P B tl)) (cl_q := 0) (sl_q := 0) rfl ?_
      refine fw_add rfl ?_
      refine ik_Wk 1 (pc_q := 75) (loc_q := [some (.ref 1), some (fI p), some (fI i), some (fI s), some (fI v), some (fI k)]) (st_q := [fI v, fI ((p * 4) + i), .ref 4]) (h_q := (c0 :: cz_t T n (zD y n s) fl fb pl C G P B tl)) (cl_q := 0) (sl_q := 0) rfl ?_
      have hl2 : (G.set ((p * 4) + i).toNat v).length = 48 := (List.length_set ..).trans hG
      refine fw_ias (h_q := (c0 :: cz_t T n (zD y n s) fl fb pl C (G.set ((p * 4) + i).toNat v) P B tl)) rfl rfl (by omega) (by omega) (by omega) rfl ?_
      refine ik_Wk 1 (pc_q := 77) (loc_q := [some (.ref 1), some (fI p), some (fI i), some (fI s), some (fI v), some (fI k)]) (st_q := [.ref 1]) (h_q := (c0 :: cz_t T n (zD y n s) fl fb pl C (G.set ((p * 4) + i).toNat v) P B tl)) (cl_q := 0) (sl_q := 0) rfl ?_
      refine fw_gf rfl rfl rfl rfl ?_
      refine ik_Wk 2 (pc_q := 82) (loc_q := [some (.ref 1), some (fI p), some (fI i), some (fI s), some (fI v), some (fI k)]) (st_q := [fI 4, fI p, .ref 6]) (h_q := (c0 :: cz_t T n (zD y n s) fl fb pl C (G.set ((p * 4) + i).toNat v) P B tl)) (cl_q := 0) (sl_q := 0) rfl ?_
      refine fw_mul rfl ?_
      refine ik_Wk 1 (pc_q := 84) (loc_q := [some (.ref 1), some (fI p), some (fI i), some (fI s), some (fI v), some (fI k)]) (st_q := [fI i, fI (p * 4), .ref 6]) (h_q := (c0 :: cz_t T n (zD y n s) fl fb pl C (G.set ((p * 4) + i).toNat v) P B tl)) (cl_q := 0) (sl_q := 0) rfl ?_
      refine fw_add rfl ?_
      refine ik_Wk 1 (pc_q := 86) (loc_q := [some (.ref 1), some (fI p), some (fI i), some (fI s), some (fI v), some (fI k)]) (st_q := [fI s, fI ((p * 4) + i), .ref 6]) (h_q := (c0 :: cz_t T n (zD y n s) fl fb pl C (G.set ((p * 4) + i).toNat v) P B tl)) (cl_q := 0) (sl_q := 0) rfl ?_
      have hl3 : (B.set ((p * 4) + i).toNat s).length = 48 := (List.length_set ..).trans hB
      refine fw_ias (h_q := (c0 :: cz_t T n (zD y n s) fl fb pl C (G.set ((p * 4) + i).toNat v) P (B.set ((p * 4) + i).toNat s) tl)) rfl rfl (by omega) (by omega) (by omega) rfl ?_
      refine ik_Wk 1 (pc_q := 88) (loc_q := [some (.ref 1), some (fI p), some (fI i), some (fI s), some (fI v), some (fI k)]) (st_q := [fI 1]) (h_q := (c0 :: cz_t T n (zD y n s) fl fb pl C (G.set ((p * 4) + i).toNat v) P (B.set ((p * 4) + i).toNat s) tl)) (cl_q := 0) (sl_q := 0) rfl ?_
      exact ik_Wret rfl rfl ⟨_, _, rfl, rfl, rfl, rfl, (Or.inl ⟨zany_f (fun j j0 j1 => hno j j0 (by omega)), rfl, rfl⟩)⟩
    · refine ik_Wk 1 (pc_q := 36) (loc_q := [some (.ref 1), some (fI p), some (fI i), some (fI s), some (fI v), some (fI k)]) (st_q := [.ref 1]) (h_q := (c0 :: cz_t T n (zD y n s) fl fb pl C G P B tl)) (cl_q := 0) (sl_q := 0) rfl ?_
      refine fw_gf rfl rfl rfl rfl ?_
      refine ik_Wk 2 (pc_q := 41) (loc_q := [some (.ref 1), some (fI p), some (fI i), some (fI s), some (fI v), some (fI k)]) (st_q := [fI 4, fI p, .ref 4]) (h_q := (c0 :: cz_t T n (zD y n s) fl fb pl C G P B tl)) (cl_q := 0) (sl_q := 0) rfl ?_
      refine fw_mul rfl ?_
      refine ik_Wk 1 (pc_q := 44) (loc_q := [some (.ref 1), some (fI p), some (fI i), some (fI s), some (fI v), some (fI k)]) (st_q := [fI k, fI (p * 4), .ref 4]) (h_q := (c0 :: cz_t T n (zD y n s) fl fb pl C G P B tl)) (cl_q := 0) (sl_q := 0) rfl ?_
      refine fw_add rfl ?_
      refine fw_ial rfl rfl (by omega) (by omega) (by omega) ?_
      have hb4 := hz k (by omega) (by omega)
      refine ik_Wk 1 (pc_q := 48) (loc_q := [some (.ref 1), some (fI p), some (fI i), some (fI s), some (fI v), some (fI k)]) (st_q := [fI v, fI (G.getD ((p * 4) + k).toNat 0)]) (h_q := (c0 :: cz_t T n (zD y n s) fl fb pl C G P B tl)) (cl_q := 0) (sl_q := 0) rfl ?_
      refine fw_ic_ne rfl rfl (by omega) (by omega) (by omega) (by omega) (fun hc5 => ?_) (fun hc5 => ?_)
      · refine ik_Wk 3 (pc_q := 54) (loc_q := [some (.ref 1), some (fI p), some (fI i), some (fI s), some (fI v), some (fI k)]) (st_q := [fI s, fI 4, .ref 1]) (h_q := (c0 :: cz_t T n (zD y n s) fl fb pl C G P B tl)) (cl_q := 0) (sl_q := 0) rfl ?_
        refine fw_call 67 3 0 [.ref 1, fI 4, fI s] [] rfl rfl rfl (Nat.le_of_ble_eq_true rfl) rfl rfl (fw_rec (cz_len htl) rfl rfl rfl (by decide)) (cz_refuse ok) ?_
        rintro rv h_q ⟨rfl, rfl⟩
        refine ik_Wk 0 (pc_q := 57) (loc_q := [some (.ref 1), some (fI p), some (fI i), some (fI s), some (fI v), some (fI k)]) (st_q := [fI 0]) (h_q := (c0 :: cz_t T n (zD y n s) 4 s pl C G P B tl)) (cl_q := 0) (sl_q := 0) rfl ?_
        exact ik_Wret rfl rfl ⟨_, _, rfl, rfl, rfl, rfl, (Or.inr ⟨zany_t (k := k) (by omega) (by omega) (by omega), rfl, rfl⟩)⟩
      · refine fw_inc (a := k) (loc_q := [some (.ref 1), some (fI p), some (fI i), some (fI s), some (fI v), some (fI (k + 1))]) rfl rfl (Nat.le_of_ble_eq_true rfl) rfl ?_
        refine ik_Wk 1 (pc_q := 29) (loc_q := [some (.ref 1), some (fI p), some (fI i), some (fI s), some (fI v), some (fI (k + 1))]) (st_q := []) (h_q := (c0 :: cz_t T n (zD y n s) fl fb pl C G P B tl)) (cl_q := 0) (sl_q := 0) rfl ?_
        exact ih _ (by omega) (k + 1) rfl (by omega) (by omega) (fun j j0 j1 => by by_cases q : j = k; (subst q; omega); exact hno j j0 (by omega))

theorem cz_goal {c0 : ik_E} {tl : List ik_E} {y : Int → Int} {T : List Int} {n fl fb pl : Int} {C G P B : List Int} (ok : cz_ok y T n tl) {cur p i : Int} {r : List zM} (hC : C.length = (12 : Nat)) (hG : G.length = (48 : Nat)) (hP : P.length = (48 : Nat)) (hB : B.length = (48 : Nat)) (hp : 0 ≤ p) (hp2 : p ≤ 10) (hi : i = (r.length : Int)) (hr : r.length ≤ 3) (hz : ∀ k : Int, (0 : Int) ≤ k → k < (r.length : Int) → G.getD (p * 4 + k).toNat 0 = (r.getD k.toNat (0, 0, 0)).1 ∧ 0 ≤ (r.getD k.toNat (0, 0, 0)).1 ∧ (r.getD k.toNat (0, 0, 0)).1 ≤ 11) (h0 : (0 : Int) ≤ cur) (h1 : cur ≤ n) : ik_F 59 [.ref 1, fI p, fI i] (c0 :: cz_t T n cur fl fb pl C G P B tl) (fun rv h_q => (znum y n 0 11 (zS y n cur) = 0 ∧ (r.any fun m => decide (m.1 = zv y n (zS y n cur))) = false ∧ rv = [fI 1] ∧ h_q = (c0 :: cz_t T n (zD y n (zS y n cur)) fl fb pl C (G.set (p * 4 + i).toNat (zv y n (zS y n cur))) P (B.set (p * 4 + i).toNat (zS y n cur)) tl)) ∨ (∃ f cur', ((¬ znum y n 0 11 (zS y n cur) = 0 ∧ f = znum y n 0 11 (zS y n cur)) ∨ (znum y n 0 11 (zS y n cur) = 0 ∧ (r.any fun m => decide (m.1 = zv y n (zS y n cur))) = true ∧ f = 4)) ∧ rv = [fI 0] ∧ 0 ≤ cur' ∧ cur' ≤ n ∧ h_q = (c0 :: cz_t T n cur' f (zS y n cur) pl C G P B tl))) := by
  have ok' := ok
  obtain ⟨htl, hT, bT, hn, hn2, hy⟩ := ok'
  refine ik_Wk 1 (pc_q := 1) (loc_q := [some (.ref 1), some (fI p), some (fI i), none, none, none]) (st_q := [.ref 1]) (h_q := (c0 :: cz_t T n cur fl fb pl C G P B tl)) (cl_q := 0) (sl_q := 0) rfl ?_
  refine fw_call 66 1 0 [.ref 1] [] rfl rfl rfl (Nat.le_of_ble_eq_true rfl) rfl rfl (fw_rec (cz_len htl) rfl rfl rfl (by decide)) (cz_skip ok (by omega) (by omega)) ?_
  rintro rv h_q ⟨rfl, rfl⟩
  have hz1 := zS_ge (y := y) (n := n) cur
  have hz2 := zS_le (y := y) (n := n) (i := cur) (by omega)
  refine ik_Wk 0 (pc_q := 4) (loc_q := [some (.ref 1), some (fI p), some (fI i), none, none, none]) (st_q := []) (h_q := (c0 :: cz_t T n (zS y n cur) fl fb pl C G P B tl)) (cl_q := 0) (sl_q := 0) rfl ?_
  refine ik_Wk 1 (pc_q := 5) (loc_q := [some (.ref 1), some (fI p), some (fI i), none, none, none]) (st_q := [.ref 1]) (h_q := (c0 :: cz_t T n (zS y n cur) fl fb pl C G P B tl)) (cl_q := 0) (sl_q := 0) rfl ?_
  refine fw_gf rfl rfl rfl rfl ?_
  refine ik_Wk 3 (pc_q := 11) (loc_q := [some (.ref 1), some (fI p), some (fI i), some (fI (zS y n cur)), none, none]) (st_q := [fI 0, .ref 1]) (h_q := (c0 :: cz_t T n (zS y n cur) fl fb pl C G P B tl)) (cl_q := 0) (sl_q := 0) rfl ?_
  refine fw_bi rfl (by decide) ?_
  refine fw_call 63 3 0 [.ref 1, fI 0, fI 11] [] rfl rfl rfl (Nat.le_of_ble_eq_true rfl) rfl rfl (fw_rec (cz_len htl) rfl rfl rfl (by decide)) (cz_num ok (by omega) (by omega) (by decide) (by decide) (by decide)) ?_
  rintro rv h_q (⟨hn3, rfl, rfl⟩ | ⟨hn3, rfl, cx5, hn4a, hn4b, rfl⟩)
  · have hn4 := znum0 hn3
    have hz6 := zD_ge (y := y) (n := n) (zS y n cur)
    have hz7 := zD_le (y := y) (n := n) (i := zS y n cur) (by omega)
    refine ik_Wk 0 (pc_q := 16) (loc_q := [some (.ref 1), some (fI p), some (fI i), some (fI (zS y n cur)), none, none]) (st_q := [fI (zv y n (zS y n cur))]) (h_q := (c0 :: cz_t T n (zD y n (zS y n cur)) fl fb pl C G P B tl)) (cl_q := 0) (sl_q := 0) rfl ?_
    refine ik_Wk 3 (pc_q := 21) (loc_q := [some (.ref 1), some (fI p), some (fI i), some (fI (zS y n cur)), some (fI (zv y n (zS y n cur))), none]) (st_q := [fI (-1), fI (zv y n (zS y n cur))]) (h_q := (c0 :: cz_t T n (zD y n (zS y n cur)) fl fb pl C G P B tl)) (cl_q := 0) (sl_q := 0) rfl ?_
    refine fw_ic_ne rfl rfl (by omega) (by omega) (by omega) (by omega) (fun hc8 => absurd hc8 (by omega)) (fun hc8 => ?_)
    refine ik_Wk 2 (pc_q := 29) (loc_q := [some (.ref 1), some (fI p), some (fI i), some (fI (zS y n cur)), some (fI (zv y n (zS y n cur))), some (fI 0)]) (st_q := []) (h_q := (c0 :: cz_t T n (zD y n (zS y n cur)) fl fb pl C G P B tl)) (cl_q := 0) (sl_q := 0) rfl ?_
    refine ik_Wmono (cz_goalL ok hC hG hP hB hp hp2 hi hr hz (by omega) (by omega) _ 0 rfl (by omega) (by omega) (fun j j0 j1 => absurd j1 (by omega))) ?_
    rintro z ⟨ir, rv, z1, z2, z3, z4, z5⟩
    refine ⟨ir, rv, z1, z2, z3, z4, ?_⟩
    revert z5
    generalize z.2.2.2.1 = hx
    rintro (⟨ha, rfl, rfl⟩ | ⟨ha, rfl, rfl⟩)
    · exact Or.inl ⟨by assumption, ha, rfl, rfl⟩
    · exact Or.inr ⟨4, _, Or.inr ⟨by assumption, ha, rfl⟩, rfl, by omega, by omega, rfl⟩
  · refine ik_Wk 0 (pc_q := 16) (loc_q := [some (.ref 1), some (fI p), some (fI i), some (fI (zS y n cur)), none, none]) (st_q := [fI (-1)]) (h_q := (c0 :: cz_t T n cx5 (znum y n 0 11 (zS y n cur)) (zS y n cur) pl C G P B tl)) (cl_q := 0) (sl_q := 0) rfl ?_
    refine ik_Wk 3 (pc_q := 21) (loc_q := [some (.ref 1), some (fI p), some (fI i), some (fI (zS y n cur)), some (fI (-1)), none]) (st_q := [fI (-1), fI (-1)]) (h_q := (c0 :: cz_t T n cx5 (znum y n 0 11 (zS y n cur)) (zS y n cur) pl C G P B tl)) (cl_q := 0) (sl_q := 0) rfl ?_
    refine fw_ic_ne rfl rfl (by omega) (by omega) (by omega) (by omega) (fun hc9 => ?_) (fun hc9 => absurd hc9 (by omega))
    refine ik_Wk 1 (pc_q := 25) (loc_q := [some (.ref 1), some (fI p), some (fI i), some (fI (zS y n cur)), some (fI (-1)), none]) (st_q := [fI 0]) (h_q := (c0 :: cz_t T n cx5 (znum y n 0 11 (zS y n cur)) (zS y n cur) pl C G P B tl)) (cl_q := 0) (sl_q := 0) rfl ?_
    exact ik_Wret rfl rfl ⟨_, _, rfl, rfl, rfl, rfl, (Or.inr ⟨_, cx5, Or.inl ⟨by assumption, rfl⟩, rfl, by assumption, by assumption, rfl⟩)⟩

theorem cz_ch {c0 : ik_E} {tl : List ik_E} {y : Int → Int} {T : List Int} {n fl fb pl : Int} {C G P B : List Int} (ok : cz_ok y T n tl) {cur slot sum : Int} (hC : C.length = (12 : Nat)) (hG : G.length = (48 : Nat)) (hP : P.length = (48 : Nat)) (hB : B.length = (48 : Nat)) (hs : 0 ≤ slot) (hs2 : slot ≤ 47) (hm : 0 ≤ sum) (hm2 : sum ≤ 100) (h0 : 0 ≤ cur) (h1 : cur ≤ n) : ik_F 60 [.ref 1, fI slot, fI sum] (c0 :: cz_t T n cur fl fb pl C G P B tl) (fun rv h_q => (znum y n 1 100 (zS y n cur) = 0 ∧ sum + zv y n (zS y n cur) ≤ 100 ∧ rv = [fI 1] ∧ h_q = (c0 :: cz_t T n (zD y n (zS y n cur)) fl fb pl C G (P.set slot.toNat (zv y n (zS y n cur))) B tl)) ∨ (∃ f cur' P', ((¬ znum y n 1 100 (zS y n cur) = 0 ∧ f = znum y n 1 100 (zS y n cur)) ∨ (znum y n 1 100 (zS y n cur) = 0 ∧ 100 < sum + zv y n (zS y n cur) ∧ f = 5)) ∧ rv = [fI 0] ∧ P'.length = (48 : Nat) ∧ 0 ≤ cur' ∧ cur' ≤ n ∧ h_q = (c0 :: cz_t T n cur' f (zS y n cur) pl C G P' B tl))) := by
  have ok' := ok
  obtain ⟨htl, hT, bT, hn, hn2, hy⟩ := ok'
  refine ik_Wk 1 (pc_q := 1) (loc_q := [some (.ref 1), some (fI slot), some (fI sum), none, none]) (st_q := [.ref 1]) (h_q := (c0 :: cz_t T n cur fl fb pl C G P B tl)) (cl_q := 0) (sl_q := 0) rfl ?_
  refine fw_call 66 1 0 [.ref 1] [] rfl rfl rfl (Nat.le_of_ble_eq_true rfl) rfl rfl (fw_rec (cz_len htl) rfl rfl rfl (by decide)) (cz_skip ok (by omega) (by omega)) ?_
  rintro rv h_q ⟨rfl, rfl⟩
  have hz1 := zS_ge (y := y) (n := n) cur
  have hz2 := zS_le (y := y) (n := n) (i := cur) (by omega)
  refine ik_Wk 0 (pc_q := 4) (loc_q := [some (.ref 1), some (fI slot), some (fI sum), none, none]) (st_q := []) (h_q := (c0 :: cz_t T n (zS y n cur) fl fb pl C G P B tl)) (cl_q := 0) (sl_q := 0) rfl ?_
  refine ik_Wk 1 (pc_q := 5) (loc_q := [some (.ref 1), some (fI slot), some (fI sum), none, none]) (st_q := [.ref 1]) (h_q := (c0 :: cz_t T n (zS y n cur) fl fb pl C G P B tl)) (cl_q := 0) (sl_q := 0) rfl ?_
  refine fw_gf rfl rfl rfl rfl ?_
  refine ik_Wk 3 (pc_q := 11) (loc_q := [some (.ref 1), some (fI slot), some (fI sum), some (fI (zS y n cur)), none]) (st_q := [fI 1, .ref 1]) (h_q := (c0 :: cz_t T n (zS y n cur) fl fb pl C G P B tl)) (cl_q := 0) (sl_q := 0) rfl ?_
  refine fw_bi rfl (by decide) ?_
  refine fw_call 63 3 0 [.ref 1, fI 1, fI 100] [] rfl rfl rfl (Nat.le_of_ble_eq_true rfl) rfl rfl (fw_rec (cz_len htl) rfl rfl rfl (by decide)) (cz_num ok (by omega) (by omega) (by decide) (by decide) (by decide)) ?_
  rintro rv h_q (⟨hn3, rfl, rfl⟩ | ⟨hn3, rfl, cx5, hn4a, hn4b, rfl⟩)
  · have hn4 := znum0 hn3
    have hz6 := zD_ge (y := y) (n := n) (zS y n cur)
    have hz7 := zD_le (y := y) (n := n) (i := zS y n cur) (by omega)
    refine ik_Wk 0 (pc_q := 16) (loc_q := [some (.ref 1), some (fI slot), some (fI sum), some (fI (zS y n cur)), none]) (st_q := [fI (zv y n (zS y n cur))]) (h_q := (c0 :: cz_t T n (zD y n (zS y n cur)) fl fb pl C G P B tl)) (cl_q := 0) (sl_q := 0) rfl ?_
    refine ik_Wk 3 (pc_q := 21) (loc_q := [some (.ref 1), some (fI slot), some (fI sum), some (fI (zS y n cur)), some (fI (zv y n (zS y n cur)))]) (st_q := [fI (-1), fI (zv y n (zS y n cur))]) (h_q := (c0 :: cz_t T n (zD y n (zS y n cur)) fl fb pl C G P B tl)) (cl_q := 0) (sl_q := 0) rfl ?_
    refine fw_ic_ne rfl rfl (by omega) (by omega) (by omega) (by omega) (fun hc8 => absurd hc8 (by omega)) (fun hc8 => ?_)
    refine ik_Wk 1 (pc_q := 27) (loc_q := [some (.ref 1), some (fI slot), some (fI sum), some (fI (zS y n cur)), some (fI (zv y n (zS y n cur)))]) (st_q := [.ref 1]) (h_q := (c0 :: cz_t T n (zD y n (zS y n cur)) fl fb pl C G P B tl)) (cl_q := 0) (sl_q := 0) rfl ?_
    refine fw_gf rfl rfl rfl rfl ?_
    refine ik_Wk 2 (pc_q := 33) (loc_q := [some (.ref 1), some (fI slot), some (fI sum), some (fI (zS y n cur)), some (fI (zv y n (zS y n cur)))]) (st_q := [fI (zv y n (zS y n cur)), fI slot, .ref 5]) (h_q := (c0 :: cz_t T n (zD y n (zS y n cur)) fl fb pl C G P B tl)) (cl_q := 0) (sl_q := 0) rfl ?_
    have hl9 : (P.set slot.toNat (zv y n (zS y n cur))).length = 48 := (List.length_set ..).trans hP
    refine fw_ias (h_q := (c0 :: cz_t T n (zD y n (zS y n cur)) fl fb pl C G (P.set slot.toNat (zv y n (zS y n cur))) B tl)) rfl rfl (by omega) (by omega) (by omega) rfl ?_
    refine ik_Wk 2 (pc_q := 37) (loc_q := [some (.ref 1), some (fI slot), some (fI sum), some (fI (zS y n cur)), some (fI (zv y n (zS y n cur)))]) (st_q := [fI (zv y n (zS y n cur)), fI sum]) (h_q := (c0 :: cz_t T n (zD y n (zS y n cur)) fl fb pl C G (P.set slot.toNat (zv y n (zS y n cur))) B tl)) (cl_q := 0) (sl_q := 0) rfl ?_
    refine fw_add rfl ?_
    refine fw_bi rfl (by decide) ?_
    refine fw_ic_le rfl rfl (by omega) (by omega) (by omega) (by omega) (fun hc10 => ?_) (fun hc10 => ?_)
    · refine ik_Wk 2 (pc_q := 57) (loc_q := [some (.ref 1), some (fI slot), some (fI sum), some (fI (zS y n cur)), some (fI (zv y n (zS y n cur)))]) (st_q := [fI 1]) (h_q := (c0 :: cz_t T n (zD y n (zS y n cur)) fl fb pl C G (P.set slot.toNat (zv y n (zS y n cur))) B tl)) (cl_q := 0) (sl_q := 0) rfl ?_
      exact ik_Wret rfl rfl ⟨_, _, rfl, rfl, rfl, rfl, (Or.inl ⟨by assumption, by omega, rfl, rfl⟩)⟩
    · refine ik_Wk 3 (pc_q := 46) (loc_q := [some (.ref 1), some (fI slot), some (fI sum), some (fI (zS y n cur)), some (fI (zv y n (zS y n cur)))]) (st_q := [fI (zS y n cur), fI 5, .ref 1]) (h_q := (c0 :: cz_t T n (zD y n (zS y n cur)) fl fb pl C G (P.set slot.toNat (zv y n (zS y n cur))) B tl)) (cl_q := 0) (sl_q := 0) rfl ?_
      refine fw_call 67 3 0 [.ref 1, fI 5, fI (zS y n cur)] [] rfl rfl rfl (Nat.le_of_ble_eq_true rfl) rfl rfl (fw_rec (cz_len htl) rfl rfl rfl (by decide)) (cz_refuse ok) ?_
      rintro rv h_q ⟨rfl, rfl⟩
      refine ik_Wk 0 (pc_q := 49) (loc_q := [some (.ref 1), some (fI slot), some (fI sum), some (fI (zS y n cur)), some (fI (zv y n (zS y n cur)))]) (st_q := [fI 0]) (h_q := (c0 :: cz_t T n (zD y n (zS y n cur)) 5 (zS y n cur) pl C G (P.set slot.toNat (zv y n (zS y n cur))) B tl)) (cl_q := 0) (sl_q := 0) rfl ?_
      refine fw_if_eq rfl rfl (by omega) (by omega) (fun hc11 => ?_) (fun hc11 => absurd hc11 (by omega))
      refine ik_Wk 1 (pc_q := 57) (loc_q := [some (.ref 1), some (fI slot), some (fI sum), some (fI (zS y n cur)), some (fI (zv y n (zS y n cur)))]) (st_q := [fI 0]) (h_q := (c0 :: cz_t T n (zD y n (zS y n cur)) 5 (zS y n cur) pl C G (P.set slot.toNat (zv y n (zS y n cur))) B tl)) (cl_q := 0) (sl_q := 0) rfl ?_
      exact ik_Wret rfl rfl ⟨_, _, rfl, rfl, rfl, rfl, (Or.inr ⟨5, _, _, Or.inr ⟨by assumption, by omega, rfl⟩, rfl, (List.length_set ..).trans hP, by omega, by omega, rfl⟩)⟩
  · refine ik_Wk 0 (pc_q := 16) (loc_q := [some (.ref 1), some (fI slot), some (fI sum), some (fI (zS y n cur)), none]) (st_q := [fI (-1)]) (h_q := (c0 :: cz_t T n cx5 (znum y n 1 100 (zS y n cur)) (zS y n cur) pl C G P B tl)) (cl_q := 0) (sl_q := 0) rfl ?_
    refine ik_Wk 3 (pc_q := 21) (loc_q := [some (.ref 1), some (fI slot), some (fI sum), some (fI (zS y n cur)), some (fI (-1))]) (st_q := [fI (-1), fI (-1)]) (h_q := (c0 :: cz_t T n cx5 (znum y n 1 100 (zS y n cur)) (zS y n cur) pl C G P B tl)) (cl_q := 0) (sl_q := 0) rfl ?_
    refine fw_ic_ne rfl rfl (by omega) (by omega) (by omega) (by omega) (fun hc12 => ?_) (fun hc12 => absurd hc12 (by omega))
    refine ik_Wk 1 (pc_q := 25) (loc_q := [some (.ref 1), some (fI slot), some (fI sum), some (fI (zS y n cur)), some (fI (-1))]) (st_q := [fI 0]) (h_q := (c0 :: cz_t T n cx5 (znum y n 1 100 (zS y n cur)) (zS y n cur) pl C G P B tl)) (cl_q := 0) (sl_q := 0) rfl ?_
    exact ik_Wret rfl rfl ⟨_, _, rfl, rfl, rfl, rfl, (Or.inr ⟨_, cx5, P, Or.inl ⟨by assumption, rfl⟩, rfl, hP, by assumption, by assumption, rfl⟩)⟩

theorem cz_end {c0 : ik_E} {tl : List ik_E} {y : Int → Int} {T : List Int} {n fl fb pl : Int} {C G P B : List Int} (ok : cz_ok y T n tl) {cur : Int} (h0 : 0 ≤ cur) (h1 : cur ≤ n) : ik_F 61 [.ref 1] (c0 :: cz_t T n cur fl fb pl C G P B tl) (fun rv h_q => ((zend y n cur).1 = 0 ∧ rv = [fI 1] ∧ ∃ cur', 0 ≤ cur' ∧ cur' ≤ n ∧ h_q = (c0 :: cz_t T n cur' fl fb pl C G P B tl)) ∨ (¬ (zend y n cur).1 = 0 ∧ rv = [fI 0] ∧ ∃ cur', 0 ≤ cur' ∧ cur' ≤ n ∧ h_q = (c0 :: cz_t T n cur' ((zend y n cur).1) ((zend y n cur).2) pl C G P B tl))) := by
  have ok' := ok
  obtain ⟨htl, hT, bT, hn, hn2, hy⟩ := ok'
  refine ik_Wk 1 (pc_q := 1) (loc_q := [some (.ref 1)]) (st_q := [.ref 1]) (h_q := (c0 :: cz_t T n cur fl fb pl C G P B tl)) (cl_q := 0) (sl_q := 0) rfl ?_
  refine fw_call 66 1 0 [.ref 1] [] rfl rfl rfl (Nat.le_of_ble_eq_true rfl) rfl rfl (fw_rec (cz_len htl) rfl rfl rfl (by decide)) (cz_skip ok (by omega) (by omega)) ?_
  rintro rv h_q ⟨rfl, rfl⟩
  have hz1 := zS_ge (y := y) (n := n) cur
  have hz2 := zS_le (y := y) (n := n) (i := cur) (by omega)
  refine ik_Wk 0 (pc_q := 4) (loc_q := [some (.ref 1)]) (st_q := []) (h_q := (c0 :: cz_t T n (zS y n cur) fl fb pl C G P B tl)) (cl_q := 0) (sl_q := 0) rfl ?_
  refine ik_Wk 1 (pc_q := 5) (loc_q := [some (.ref 1)]) (st_q := [.ref 1]) (h_q := (c0 :: cz_t T n (zS y n cur) fl fb pl C G P B tl)) (cl_q := 0) (sl_q := 0) rfl ?_
  refine fw_bi rfl (by decide) ?_
  refine fw_call 65 2 0 [.ref 1, fI 59] [] rfl rfl rfl (Nat.le_of_ble_eq_true rfl) rfl rfl (fw_rec (cz_len htl) rfl rfl rfl (by decide)) (cz_stands ok (by omega) (by omega) (by decide) (by decide)) ?_
  rintro rv h_q ⟨⟨ht3, ht4, rfl⟩ | ⟨ht3, rfl⟩, rfl⟩
  · refine ik_Wk 0 (pc_q := 10) (loc_q := [some (.ref 1)]) (st_q := [fI 1]) (h_q := (c0 :: cz_t T n (zS y n cur) fl fb pl C G P B tl)) (cl_q := 0) (sl_q := 0) rfl ?_
    refine fw_if_ne rfl rfl (by omega) (by omega) (fun hc5 => absurd hc5 (by omega)) (fun hc5 => ?_)
    refine ik_Wk 2 (pc_q := 25) (loc_q := [some (.ref 1)]) (st_q := [.ref 1, .ref 1]) (h_q := (c0 :: cz_t T n (zS y n cur) fl fb pl C G P B tl)) (cl_q := 0) (sl_q := 0) rfl ?_
    refine fw_gf rfl rfl rfl rfl ?_
    refine ik_Wk 1 (pc_q := 29) (loc_q := [some (.ref 1)]) (st_q := [fI 1, fI (zS y n cur), .ref 1]) (h_q := (c0 :: cz_t T n (zS y n cur) fl fb pl C G P B tl)) (cl_q := 0) (sl_q := 0) rfl ?_
    refine fw_add rfl ?_
    refine fw_pf (h_q := (c0 :: cz_t T n ((zS y n cur) + 1) fl fb pl C G P B tl)) rfl rfl rfl (Nat.le_of_ble_eq_true rfl) rfl rfl rfl ?_
    refine ik_Wk 1 (pc_q := 34) (loc_q := [some (.ref 1)]) (st_q := [.ref 1]) (h_q := (c0 :: cz_t T n ((zS y n cur) + 1) fl fb pl C G P B tl)) (cl_q := 0) (sl_q := 0) rfl ?_
    refine fw_call 66 1 0 [.ref 1] [] rfl rfl rfl (Nat.le_of_ble_eq_true rfl) rfl rfl (fw_rec (cz_len htl) rfl rfl rfl (by decide)) (cz_skip ok (by omega) (by omega)) ?_
    rintro rv h_q ⟨rfl, rfl⟩
    have hz6 := zS_ge (y := y) (n := n) ((zS y n cur) + 1)
    have hz7 := zS_le (y := y) (n := n) (i := (zS y n cur) + 1) (by omega)
    refine ik_Wk 0 (pc_q := 37) (loc_q := [some (.ref 1)]) (st_q := []) (h_q := (c0 :: cz_t T n (zS y n ((zS y n cur) + 1)) fl fb pl C G P B tl)) (cl_q := 0) (sl_q := 0) rfl ?_
    refine ik_Wk 1 (pc_q := 38) (loc_q := [some (.ref 1)]) (st_q := [.ref 1]) (h_q := (c0 :: cz_t T n (zS y n ((zS y n cur) + 1)) fl fb pl C G P B tl)) (cl_q := 0) (sl_q := 0) rfl ?_
    refine fw_gf rfl rfl rfl rfl ?_
    refine ik_Wk 1 (pc_q := 42) (loc_q := [some (.ref 1)]) (st_q := [.ref 1, fI (zS y n ((zS y n cur) + 1))]) (h_q := (c0 :: cz_t T n (zS y n ((zS y n cur) + 1)) fl fb pl C G P B tl)) (cl_q := 0) (sl_q := 0) rfl ?_
    refine fw_gf rfl rfl rfl rfl ?_
    refine fw_ic_ge rfl rfl (by omega) (by omega) (by omega) (by omega) (fun hc8 => ?_) (fun hc8 => ?_)
    · refine ik_Wk 2 (pc_q := 65) (loc_q := [some (.ref 1)]) (st_q := [fI 1]) (h_q := (c0 :: cz_t T n (zS y n ((zS y n cur) + 1)) fl fb pl C G P B tl)) (cl_q := 0) (sl_q := 0) rfl ?_
      have hz : zend y n cur = (0, 0) := by unfold zend; (repeat split) <;> first | rfl | omega
      exact ik_Wret rfl rfl ⟨_, _, rfl, rfl, rfl, rfl, (Or.inl ⟨by rw [hz], rfl, zS y n ((zS y n cur) + 1), by omega, by omega, rfl⟩)⟩
    · refine ik_Wk 3 (pc_q := 51) (loc_q := [some (.ref 1)]) (st_q := [.ref 1, fI 1, .ref 1]) (h_q := (c0 :: cz_t T n (zS y n ((zS y n cur) + 1)) fl fb pl C G P B tl)) (cl_q := 0) (sl_q := 0) rfl ?_
      refine fw_gf rfl rfl rfl rfl ?_
      refine fw_call 67 3 0 [.ref 1, fI 1, fI (zS y n ((zS y n cur) + 1))] [] rfl rfl rfl (Nat.le_of_ble_eq_true rfl) rfl rfl (fw_rec (cz_len htl) rfl rfl rfl (by decide)) (cz_refuse ok) ?_
      rintro rv h_q ⟨rfl, rfl⟩
      refine ik_Wk 0 (pc_q := 57) (loc_q := [some (.ref 1)]) (st_q := [fI 0]) (h_q := (c0 :: cz_t T n (zS y n ((zS y n cur) + 1)) 1 (zS y n ((zS y n cur) + 1)) pl C G P B tl)) (cl_q := 0) (sl_q := 0) rfl ?_
      refine fw_if_eq rfl rfl (by omega) (by omega) (fun hc9 => ?_) (fun hc9 => absurd hc9 (by omega))
      refine ik_Wk 1 (pc_q := 65) (loc_q := [some (.ref 1)]) (st_q := [fI 0]) (h_q := (c0 :: cz_t T n (zS y n ((zS y n cur) + 1)) 1 (zS y n ((zS y n cur) + 1)) pl C G P B tl)) (cl_q := 0) (sl_q := 0) rfl ?_
      have hz : zend y n cur = (1, zS y n ((zS y n cur) + 1)) := by unfold zend; (repeat split) <;> first | rfl | omega
      exact ik_Wret rfl rfl ⟨_, _, rfl, rfl, rfl, rfl, (Or.inr ⟨by rw [hz]; show ¬ (1 : Int) = 0; decide, rfl, zS y n ((zS y n cur) + 1), by omega, by omega, by rw [hz]⟩)⟩
  · refine ik_Wk 0 (pc_q := 10) (loc_q := [some (.ref 1)]) (st_q := [fI 0]) (h_q := (c0 :: cz_t T n (zS y n cur) fl fb pl C G P B tl)) (cl_q := 0) (sl_q := 0) rfl ?_
    refine fw_if_ne rfl rfl (by omega) (by omega) (fun hc10 => ?_) (fun hc10 => absurd hc10 (by omega))
    refine ik_Wk 3 (pc_q := 16) (loc_q := [some (.ref 1)]) (st_q := [.ref 1, fI 1, .ref 1]) (h_q := (c0 :: cz_t T n (zS y n cur) fl fb pl C G P B tl)) (cl_q := 0) (sl_q := 0) rfl ?_
    refine fw_gf rfl rfl rfl rfl ?_
    refine fw_call 67 3 0 [.ref 1, fI 1, fI (zS y n cur)] [] rfl rfl rfl (Nat.le_of_ble_eq_true rfl) rfl rfl (fw_rec (cz_len htl) rfl rfl rfl (by decide)) (cz_refuse ok) ?_
    rintro rv h_q ⟨rfl, rfl⟩
    refine ik_Wk 0 (pc_q := 22) (loc_q := [some (.ref 1)]) (st_q := [fI 0]) (h_q := (c0 :: cz_t T n (zS y n cur) 1 (zS y n cur) pl C G P B tl)) (cl_q := 0) (sl_q := 0) rfl ?_
    have hz : zend y n cur = (1, zS y n cur) := by unfold zend; (repeat split) <;> first | rfl | omega
    exact ik_Wret rfl rfl ⟨_, _, rfl, rfl, rfl, rfl, (Or.inr ⟨by rw [hz]; show ¬ (1 : Int) = 0; decide, rfl, zS y n cur, by omega, by omega, by rw [hz]⟩)⟩

/-! 38j.cz -/
def zrow (r : List zM) : Prop := ∀ m, m ∈ r → 0 ≤ m.1 ∧ m.1 ≤ 11 ∧ 1 ≤ m.2.1 ∧ m.2.1 ≤ 100 ∧ 0 ≤ m.2.2 ∧ m.2.2 ≤ 500
/-- rows that are alike ahead of k -/
def zag (k : Nat) (G G' : List Int) : Prop := ∀ j, j < k → G'.getD j 0 = G.getD j 0
theorem zag_set {k j : Nat} {G G' : List Int} {a : Int} (h : zag k G G') (hj : k ≤ j) : zag k G (G'.set j a) := by
  intro i hi
  rw [fz_getD_set, if_neg (by omega)]
  exact h i hi
theorem zh_snoc {G P B : List Int} {q j : Nat} {r : List zM} {a b c : Int} (h : zh G P B q r) (hj : j = 4 * q + r.length) (hG : j < G.length) (hP : j < P.length) (hB : j < B.length) : zh (G.set j a) (P.set j b) (B.set j c) q (r ++ [(a, b, c)]) := by
  intro i m hm
  by_cases hi : i < r.length
  · rw [List.getElem?_append_left hi] at hm
    have := h i m hm
    rw [fz_getD_set, fz_getD_set, fz_getD_set, if_neg (by omega), if_neg (by omega), if_neg (by omega)]
    exact this
  · have hi2 : i < (r ++ [(a, b, c)]).length := by
      rcases Nat.lt_or_ge i (r ++ [(a, b, c)]).length with q | q
      · exact q
      · rw [List.getElem?_eq_none q] at hm; cases hm
    have e : i = r.length := by rw [List.length_append] at hi2; simp only [List.length_cons, List.length_nil] at hi2; omega
    subst e
    rw [List.getElem?_append_right (Nat.le_refl _), Nat.sub_self] at hm
    cases hm
    rw [fz_getD_set, fz_getD_set, fz_getD_set, if_pos ⟨hj.symm, hG⟩, if_pos ⟨hj.symm, hP⟩, if_pos ⟨hj.symm, hB⟩]
    exact ⟨rfl, rfl, rfl⟩
theorem zh_hz {G P B : List Int} {p : Int} {r : List zM} (hp : 0 ≤ p) (h : zh G P B p.toNat r) (hr : zrow r) : ∀ k : Int, (0 : Int) ≤ k → k < (r.length : Int) → G.getD (p * 4 + k).toNat 0 = (r.getD k.toNat (0, 0, 0)).1 ∧ 0 ≤ (r.getD k.toNat (0, 0, 0)).1 ∧ (r.getD k.toNat (0, 0, 0)).1 ≤ 11 := by
  intro k h0 h1
  have hk : k.toNat < r.length := by omega
  have e : (p * 4 + k).toNat = 4 * p.toNat + k.toNat := by omega
  rw [e, List.getD_eq_getElem?_getD, List.getD_eq_getElem?_getD (l := r), List.getElem?_eq_getElem hk, Option.getD_some]
  have h2 := h k.toNat _ (List.getElem?_eq_getElem hk)
  have h3 := hr _ (List.getElem_mem hk)
  rw [List.getD_eq_getElem?_getD] at h2
  exact ⟨h2.1, h3.1, h3.2.1⟩
theorem zrow_snoc {r : List zM} {a b c : Int} (h : zrow r) (hm : 0 ≤ a ∧ a ≤ 11 ∧ 1 ≤ b ∧ b ≤ 100 ∧ 0 ≤ c ∧ c ≤ 500) : zrow (r ++ [(a, b, c)]) := by
  intro x hx
  rcases List.mem_append.mp hx with q | q
  · exact h x q
  · rw [List.mem_singleton.mp q]; exact hm
def cz_RM (c0 : ik_E) (tl : List ik_E) (T : List Int) (n fl fb pl : Int) (C G P B : List Int) (p : Int) (res : (Int × Int) ⊕ (List zM × Int)) (rv : List Value) (h_q : List ik_E) : Prop := match res with
  | .inl e => rv = [fI 0] ∧ ∃ (cur' : Int) (C' G' P' B' : List Int), C'.length = 12 ∧ G'.length = 48 ∧ P'.length = 48 ∧ B'.length = 48 ∧ 0 ≤ cur' ∧ cur' ≤ n ∧ h_q = c0 :: cz_t T n cur' e.1 e.2 pl C' G' P' B' tl
  | .inr q => rv = [fI 1] ∧ ∃ (C' G' P' B' : List Int), C'.length = 12 ∧ G'.length = 48 ∧ P'.length = 48 ∧ B'.length = 48 ∧ 0 ≤ q.2 ∧ q.2 ≤ n ∧ h_q = c0 :: cz_t T n q.2 fl fb pl C' G' P' B' tl ∧ C' = C.set p.toNat (q.1.length : Int) ∧ zh G' P' B' p.toNat q.1 ∧ zag (4 * p.toNat) G G' ∧ zag (4 * p.toNat) P P' ∧ zag (4 * p.toNat) B B' ∧ zrow q.1 ∧ q.1.length ≤ 4

theorem cz_mvL {c0 : ik_E} {tl : List ik_E} {y : Int → Int} {T : List Int} {n fl fb pl : Int} {C G0 P0 B0 : List Int} (ok : cz_ok y T n tl) {p : Int} (hC : C.length = (12 : Nat)) (hp : 0 ≤ p) (hp2 : p ≤ 10) : ∀ (k : Nat) (r : List zM) (sum cur : Int) (G P B : List Int), r.length + k = 4 → G.length = (48 : Nat) → P.length = (48 : Nat) → B.length = (48 : Nat) → zh G P B p.toNat r → zag (4 * p.toNat) G0 G → zag (4 * p.toNat) P0 P → zag (4 * p.toNat) B0 B → zrow r → (0 : Int) ≤ sum → sum ≤ (100 : Int) → (0 : Int) ≤ cur → cur ≤ n → ik_G 58 19 [some (.ref 1), some (fI p), some (fI sum), some (fI (r.length : Int)), some (fI (zS y n cur))] [] (c0 :: cz_t T n (zS y n cur) fl fb pl C G P B tl) (cz_RM c0 tl T n fl fb pl C G0 P0 B0 p (zmv y n (k + 1) r sum cur)) := by
  have ok' := ok
  obtain ⟨htl, hT, bT, hn, hn2, hy⟩ := ok'
  intro k
  induction k using Nat.strongRecOn with
  | _ k ih =>
    intro r sum cur G P B hk hG hP hB hz ag ap ab hr hs0 hs1 h0 h1
    have hz1 := zS_ge (y := y) (n := n) cur
    have hz2 := zS_le (y := y) (n := n) (i := cur) h1
    refine ik_Wk 1 (pc_q := 20) (loc_q := [some (.ref 1), some (fI p), some (fI sum), some (fI (r.length : Int)), some (fI (zS y n cur))]) (st_q := [fI (r.length : Int)]) (h_q := (c0 :: cz_t T n (zS y n cur) fl fb pl C G P B tl)) (cl_q := 0) (sl_q := 0) rfl ?_
    refine fw_if_le rfl rfl (by omega) (by omega) (fun hc1 => ?_) (fun hc1 => ?_)
    · refine ik_Wk 2 (pc_q := 74) (loc_q := [some (.ref 1), some (fI p), some (fI sum), some (fI (r.length : Int)), some (fI (zS y n cur))]) (st_q := [.retAddr 5, .ref 1]) (h_q := (c0 :: cz_t T n (zS y n cur) fl fb pl C G P B tl)) (cl_q := 0) (sl_q := 0) rfl ?_
      refine fw_call 64 2 0 [.ref 1, .retAddr 5] [] rfl rfl rfl (Nat.le_of_ble_eq_true rfl) rfl rfl (fw_rec (cz_len htl) rfl rfl rfl (by decide)) (cz_rw2 ok (by omega) (by omega)) ?_
      rintro rv h_q (⟨hw2, rfl, rfl⟩ | ⟨hw2, rfl, rfl⟩)
      · have hz3 : (zS y n cur) + 2 ≤ n := by have q := hw2; unfold zto at q; have := of_decide_eq_true q; have := zE_le (y := y) (n := n) (i := zS y n cur) (by omega); omega
        refine ik_Wk 0 (pc_q := 77) (loc_q := [some (.ref 1), some (fI p), some (fI sum), some (fI (r.length : Int)), some (fI (zS y n cur))]) (st_q := [fI 1]) (h_q := (c0 :: cz_t T n ((zS y n cur) + 2) fl fb pl C G P B tl)) (cl_q := 0) (sl_q := 0) rfl ?_
        refine fw_if_ne rfl rfl (by omega) (by omega) (fun hc4 => absurd hc4 (by omega)) (fun hc4 => ?_)
        refine ik_Wk 2 (pc_q := 90) (loc_q := [some (.ref 1), some (fI p), some (fI sum), some (fI (r.length : Int)), some (fI (zS y n cur))]) (st_q := [fI 4, fI (r.length : Int)]) (h_q := (c0 :: cz_t T n ((zS y n cur) + 2) fl fb pl C G P B tl)) (cl_q := 0) (sl_q := 0) rfl ?_
        refine fw_ic_ne rfl rfl (by omega) (by omega) (by omega) (by omega) (fun hc5 => ?_) (fun hc5 => ?_)
        · refine ik_Wk 3 (pc_q := 97) (loc_q := [some (.ref 1), some (fI p), some (fI sum), some (fI (r.length : Int)), some (fI (zS y n cur))]) (st_q := [fI (zS y n cur), fI 3, .ref 1]) (h_q := (c0 :: cz_t T n ((zS y n cur) + 2) fl fb pl C G P B tl)) (cl_q := 0) (sl_q := 0) rfl ?_
          refine fw_call 67 3 0 [.ref 1, fI 3, fI (zS y n cur)] [] rfl rfl rfl (Nat.le_of_ble_eq_true rfl) rfl rfl (fw_rec (cz_len htl) rfl rfl rfl (by decide)) (cz_refuse ok) ?_
          rintro rv h_q ⟨rfl, rfl⟩
          refine ik_Wk 0 (pc_q := 100) (loc_q := [some (.ref 1), some (fI p), some (fI sum), some (fI (r.length : Int)), some (fI (zS y n cur))]) (st_q := [fI 0]) (h_q := (c0 :: cz_t T n ((zS y n cur) + 2) 3 (zS y n cur) pl C G P B tl)) (cl_q := 0) (sl_q := 0) rfl ?_
          have hwz := hw2
          rw [zmv, if_pos hwz, if_pos (by omega)]
          exact ik_Wret rfl rfl ⟨_, _, rfl, rfl, rfl, rfl, ⟨rfl, _, _, G, P, B, hC, hG, hP, hB, by omega, by omega, rfl⟩⟩
        · refine ik_Wk 3 (pc_q := 104) (loc_q := [some (.ref 1), some (fI p), some (fI sum), some (fI (r.length : Int)), some (fI (zS y n cur))]) (st_q := [fI (r.length : Int), fI p, .ref 1]) (h_q := (c0 :: cz_t T n ((zS y n cur) + 2) fl fb pl C G P B tl)) (cl_q := 0) (sl_q := 0) rfl ?_
          refine fw_call 59 3 0 [.ref 1, fI p, fI (r.length : Int)] [] rfl rfl rfl (Nat.le_of_ble_eq_true rfl) rfl rfl (fw_rec (cz_len htl) rfl rfl rfl (by decide)) (cz_goal (r := r) ok hC hG hP hB hp hp2 rfl (by omega) (zh_hz hp hz hr) (by omega) (by omega)) ?_
          rintro rv h_q (⟨hg1, hg2, rfl, rfl⟩ | ⟨f, cf, hf, rfl, hf0, hf1, rfl⟩)
          · have hl1 : (G.set (p * 4 + (r.length : Int)).toNat (zv y n (zS y n (zS y n cur + 2)))).length = 48 := (List.length_set ..).trans hG
            have hl2 : (B.set (p * 4 + (r.length : Int)).toNat (zS y n (zS y n cur + 2))).length = 48 := (List.length_set ..).trans hB
            have hgv := znum0 hg1
            have hg3 := zS_ge (y := y) (n := n) (zS y n cur + 2)
            have hg4 := zS_le (y := y) (n := n) (i := zS y n cur + 2) (by omega)
            have hg5 := zD_ge (y := y) (n := n) (zS y n (zS y n cur + 2))
            have hg6 := zD_le (y := y) (n := n) (i := zS y n (zS y n cur + 2)) (by omega)
            refine ik_Wk 0 (pc_q := 107) (loc_q := [some (.ref 1), some (fI p), some (fI sum), some (fI (r.length : Int)), some (fI (zS y n cur))]) (st_q := [fI 1]) (h_q := (c0 :: cz_t T n (zD y n (zS y n (zS y n cur + 2))) fl fb pl C (G.set (p * 4 + (r.length : Int)).toNat (zv y n (zS y n (zS y n cur + 2)))) P (B.set (p * 4 + (r.length : Int)).toNat (zS y n (zS y n cur + 2))) tl)) (cl_q := 0) (sl_q := 0) rfl ?_
            refine fw_if_eq rfl rfl (by omega) (by omega) (fun hc6 => absurd hc6 (by omega)) (fun hc6 => ?_)
            refine ik_Wk 3 (pc_q := 113) (loc_q := [some (.ref 1), some (fI p), some (fI sum), some (fI (r.length : Int)), some (fI (zS y n cur))]) (st_q := [fI 4, fI p, .ref 1]) (h_q := (c0 :: cz_t T n (zD y n (zS y n (zS y n cur + 2))) fl fb pl C (G.set (p * 4 + (r.length : Int)).toNat (zv y n (zS y n (zS y n cur + 2)))) P (B.set (p * 4 + (r.length : Int)).toNat (zS y n (zS y n cur + 2))) tl)) (cl_q := 0) (sl_q := 0) rfl ?_
            refine fw_mul rfl ?_
            refine ik_Wk 1 (pc_q := 115) (loc_q := [some (.ref 1), some (fI p), some (fI sum), some (fI (r.length : Int)), some (fI (zS y n cur))]) (st_q := [fI (r.length : Int), fI (p * 4), .ref 1]) (h_q := (c0 :: cz_t T n (zD y n (zS y n (zS y n cur + 2))) fl fb pl C (G.set (p * 4 + (r.length : Int)).toNat (zv y n (zS y n (zS y n cur + 2)))) P (B.set (p * 4 + (r.length : Int)).toNat (zS y n (zS y n cur + 2))) tl)) (cl_q := 0) (sl_q := 0) rfl ?_
            refine fw_add rfl ?_
            refine ik_Wk 1 (pc_q := 117) (loc_q := [some (.ref 1), some (fI p), some (fI sum), some (fI (r.length : Int)), some (fI (zS y n cur))]) (st_q := [fI sum, fI ((p * 4) + (r.length : Int)), .ref 1]) (h_q := (c0 :: cz_t T n (zD y n (zS y n (zS y n cur + 2))) fl fb pl C (G.set (p * 4 + (r.length : Int)).toNat (zv y n (zS y n (zS y n cur + 2)))) P (B.set (p * 4 + (r.length : Int)).toNat (zS y n (zS y n cur + 2))) tl)) (cl_q := 0) (sl_q := 0) rfl ?_
            refine fw_call 60 3 0 [.ref 1, fI ((p * 4) + (r.length : Int)), fI sum] [] rfl rfl rfl (Nat.le_of_ble_eq_true rfl) rfl rfl (fw_rec (cz_len htl) rfl rfl rfl (by decide)) (cz_ch ok hC hl1 hP hl2 (by omega) (by omega) (by omega) (by omega) (by omega) (by omega)) ?_
            rintro rv h_q (⟨hk1, hk2, rfl, rfl⟩ | ⟨f, cf, P', hf, rfl, hfp, hf0, hf1, rfl⟩)
            · have hl3 : (P.set (p * 4 + (r.length : Int)).toNat (zv y n (zS y n (zD y n (zS y n (zS y n cur + 2)))))).length = 48 := (List.length_set ..).trans hP
              have hkv := znum0 hk1
              have hk3 := zS_ge (y := y) (n := n) (zD y n (zS y n (zS y n cur + 2)))
              have hk4 := zS_le (y := y) (n := n) (i := zD y n (zS y n (zS y n cur + 2))) (by omega)
              have hk5 := zD_ge (y := y) (n := n) (zS y n (zD y n (zS y n (zS y n cur + 2))))
              have hk6 := zD_le (y := y) (n := n) (i := zS y n (zD y n (zS y n (zS y n cur + 2)))) (by omega)
              refine ik_Wk 0 (pc_q := 120) (loc_q := [some (.ref 1), some (fI p), some (fI sum), some (fI (r.length : Int)), some (fI (zS y n cur))]) (st_q := [fI 1]) (h_q := (c0 :: cz_t T n (zD y n (zS y n (zD y n (zS y n (zS y n cur + 2))))) fl fb pl C (G.set (p * 4 + (r.length : Int)).toNat (zv y n (zS y n (zS y n cur + 2)))) (P.set (p * 4 + (r.length : Int)).toNat (zv y n (zS y n (zD y n (zS y n (zS y n cur + 2)))))) (B.set (p * 4 + (r.length : Int)).toNat (zS y n (zS y n cur + 2))) tl)) (cl_q := 0) (sl_q := 0) rfl ?_
              refine fw_if_ne rfl rfl (by omega) (by omega) (fun hc7 => absurd hc7 (by omega)) (fun hc7 => ?_)
              refine ik_Wk 2 (pc_q := 127) (loc_q := [some (.ref 1), some (fI p), some (fI sum), some (fI (r.length : Int)), some (fI (zS y n cur))]) (st_q := [.ref 1, fI sum]) (h_q := (c0 :: cz_t T n (zD y n (zS y n (zD y n (zS y n (zS y n cur + 2))))) fl fb pl C (G.set (p * 4 + (r.length : Int)).toNat (zv y n (zS y n (zS y n cur + 2)))) (P.set (p * 4 + (r.length : Int)).toNat (zv y n (zS y n (zD y n (zS y n (zS y n cur + 2)))))) (B.set (p * 4 + (r.length : Int)).toNat (zS y n (zS y n cur + 2))) tl)) (cl_q := 0) (sl_q := 0) rfl ?_
              refine fw_gf rfl rfl rfl rfl ?_
              refine ik_Wk 2 (pc_q := 132) (loc_q := [some (.ref 1), some (fI p), some (fI sum), some (fI (r.length : Int)), some (fI (zS y n cur))]) (st_q := [fI 4, fI p, .ref 5, fI sum]) (h_q := (c0 :: cz_t T n (zD y n (zS y n (zD y n (zS y n (zS y n cur + 2))))) fl fb pl C (G.set (p * 4 + (r.length : Int)).toNat (zv y n (zS y n (zS y n cur + 2)))) (P.set (p * 4 + (r.length : Int)).toNat (zv y n (zS y n (zD y n (zS y n (zS y n cur + 2)))))) (B.set (p * 4 + (r.length : Int)).toNat (zS y n (zS y n cur + 2))) tl)) (cl_q := 0) (sl_q := 0) rfl ?_
              refine fw_mul rfl ?_
              refine ik_Wk 1 (pc_q := 134) (loc_q := [some (.ref 1), some (fI p), some (fI sum), some (fI (r.length : Int)), some (fI (zS y n cur))]) (st_q := [fI (r.length : Int), fI (p * 4), .ref 5, fI sum]) (h_q := (c0 :: cz_t T n (zD y n (zS y n (zD y n (zS y n (zS y n cur + 2))))) fl fb pl C (G.set (p * 4 + (r.length : Int)).toNat (zv y n (zS y n (zS y n cur + 2)))) (P.set (p * 4 + (r.length : Int)).toNat (zv y n (zS y n (zD y n (zS y n (zS y n cur + 2)))))) (B.set (p * 4 + (r.length : Int)).toNat (zS y n (zS y n cur + 2))) tl)) (cl_q := 0) (sl_q := 0) rfl ?_
              refine fw_add rfl ?_
              refine fw_ial rfl rfl (by omega) (by omega) (by omega) ?_
              refine fw_add rfl ?_
              refine ik_Wk 1 (pc_q := 138) (loc_q := [some (.ref 1), some (fI p), some (fI (sum + ((P.set (p * 4 + (r.length : Int)).toNat (zv y n (zS y n (zD y n (zS y n (zS y n cur + 2)))))).getD ((p * 4) + (r.length : Int)).toNat 0))), some (fI (r.length : Int)), some (fI (zS y n cur))]) (st_q := []) (h_q := (c0 :: cz_t T n (zD y n (zS y n (zD y n (zS y n (zS y n cur + 2))))) fl fb pl C (G.set (p * 4 + (r.length : Int)).toNat (zv y n (zS y n (zS y n cur + 2)))) (P.set (p * 4 + (r.length : Int)).toNat (zv y n (zS y n (zD y n (zS y n (zS y n cur + 2)))))) (B.set (p * 4 + (r.length : Int)).toNat (zS y n (zS y n cur + 2))) tl)) (cl_q := 0) (sl_q := 0) rfl ?_
              refine fw_inc (a := (r.length : Int)) (loc_q := [some (.ref 1), some (fI p), some (fI (sum + ((P.set (p * 4 + (r.length : Int)).toNat (zv y n (zS y n (zD y n (zS y n (zS y n cur + 2)))))).getD ((p * 4) + (r.length : Int)).toNat 0))), some (fI ((r.length : Int) + 1)), some (fI (zS y n cur))]) rfl rfl (Nat.le_of_ble_eq_true rfl) rfl ?_
              refine ik_Wk 3 (pc_q := 6) (loc_q := [some (.ref 1), some (fI p), some (fI (sum + ((P.set (p * 4 + (r.length : Int)).toNat (zv y n (zS y n (zD y n (zS y n (zS y n cur + 2)))))).getD ((p * 4) + (r.length : Int)).toNat 0))), some (fI ((r.length : Int) + 1)), some (fI (zS y n cur))]) (st_q := [fI 4, fI ((r.length : Int) + 1)]) (h_q := (c0 :: cz_t T n (zD y n (zS y n (zD y n (zS y n (zS y n cur + 2))))) fl fb pl C (G.set (p * 4 + (r.length : Int)).toNat (zv y n (zS y n (zS y n cur + 2)))) (P.set (p * 4 + (r.length : Int)).toNat (zv y n (zS y n (zD y n (zS y n (zS y n cur + 2)))))) (B.set (p * 4 + (r.length : Int)).toNat (zS y n (zS y n cur + 2))) tl)) (cl_q := 0) (sl_q := 0) rfl ?_
              refine fw_ic_gt rfl rfl (by omega) (by omega) (by omega) (by omega) (fun hc8 => absurd hc8 (by omega)) (fun hc8 => ?_)
              refine ik_Wk 1 (pc_q := 10) (loc_q := [some (.ref 1), some (fI p), some (fI (sum + ((P.set (p * 4 + (r.length : Int)).toNat (zv y n (zS y n (zD y n (zS y n (zS y n cur + 2)))))).getD ((p * 4) + (r.length : Int)).toNat 0))), some (fI ((r.length : Int) + 1)), some (fI (zS y n cur))]) (st_q := [.ref 1]) (h_q := (c0 :: cz_t T n (zD y n (zS y n (zD y n (zS y n (zS y n cur + 2))))) fl fb pl C (G.set (p * 4 + (r.length : Int)).toNat (zv y n (zS y n (zS y n cur + 2)))) (P.set (p * 4 + (r.length : Int)).toNat (zv y n (zS y n (zD y n (zS y n (zS y n cur + 2)))))) (B.set (p * 4 + (r.length : Int)).toNat (zS y n (zS y n cur + 2))) tl)) (cl_q := 0) (sl_q := 0) rfl ?_
              refine fw_call 66 1 0 [.ref 1] [] rfl rfl rfl (Nat.le_of_ble_eq_true rfl) rfl rfl (fw_rec (cz_len htl) rfl rfl rfl (by decide)) (cz_skip ok (by omega) (by omega)) ?_
              rintro rv h_q ⟨rfl, rfl⟩
              have hz9 := zS_ge (y := y) (n := n) (zD y n (zS y n (zD y n (zS y n (zS y n cur + 2)))))
              have hz10 := zS_le (y := y) (n := n) (i := zD y n (zS y n (zD y n (zS y n (zS y n cur + 2))))) (by omega)
              refine ik_Wk 0 (pc_q := 13) (loc_q := [some (.ref 1), some (fI p), some (fI (sum + ((P.set (p * 4 + (r.length : Int)).toNat (zv y n (zS y n (zD y n (zS y n (zS y n cur + 2)))))).getD ((p * 4) + (r.length : Int)).toNat 0))), some (fI ((r.length : Int) + 1)), some (fI (zS y n cur))]) (st_q := []) (h_q := (c0 :: cz_t T n (zS y n (zD y n (zS y n (zD y n (zS y n (zS y n cur + 2)))))) fl fb pl C (G.set (p * 4 + (r.length : Int)).toNat (zv y n (zS y n (zS y n cur + 2)))) (P.set (p * 4 + (r.length : Int)).toNat (zv y n (zS y n (zD y n (zS y n (zS y n cur + 2)))))) (B.set (p * 4 + (r.length : Int)).toNat (zS y n (zS y n cur + 2))) tl)) (cl_q := 0) (sl_q := 0) rfl ?_
              refine ik_Wk 1 (pc_q := 14) (loc_q := [some (.ref 1), some (fI p), some (fI (sum + ((P.set (p * 4 + (r.length : Int)).toNat (zv y n (zS y n (zD y n (zS y n (zS y n cur + 2)))))).getD ((p * 4) + (r.length : Int)).toNat 0))), some (fI ((r.length : Int) + 1)), some (fI (zS y n cur))]) (st_q := [.ref 1]) (h_q := (c0 :: cz_t T n (zS y n (zD y n (zS y n (zD y n (zS y n (zS y n cur + 2)))))) fl fb pl C (G.set (p * 4 + (r.length : Int)).toNat (zv y n (zS y n (zS y n cur + 2)))) (P.set (p * 4 + (r.length : Int)).toNat (zv y n (zS y n (zD y n (zS y n (zS y n cur + 2)))))) (B.set (p * 4 + (r.length : Int)).toNat (zS y n (zS y n cur + 2))) tl)) (cl_q := 0) (sl_q := 0) rfl ?_
              refine fw_gf rfl rfl rfl rfl ?_
              refine ik_Wk 1 (pc_q := 19) (loc_q := [some (.ref 1), some (fI p), some (fI (sum + ((P.set (p * 4 + (r.length : Int)).toNat (zv y n (zS y n (zD y n (zS y n (zS y n cur + 2)))))).getD ((p * 4) + (r.length : Int)).toNat 0))), some (fI ((r.length : Int) + 1)), some (fI (zS y n (zD y n (zS y n (zD y n (zS y n (zS y n cur + 2)))))))]) (st_q := []) (h_q := (c0 :: cz_t T n (zS y n (zD y n (zS y n (zD y n (zS y n (zS y n cur + 2)))))) fl fb pl C (G.set (p * 4 + (r.length : Int)).toNat (zv y n (zS y n (zS y n cur + 2)))) (P.set (p * 4 + (r.length : Int)).toNat (zv y n (zS y n (zD y n (zS y n (zS y n cur + 2)))))) (B.set (p * 4 + (r.length : Int)).toNat (zS y n (zS y n cur + 2))) tl)) (cl_q := 0) (sl_q := 0) rfl ?_
              obtain ⟨k', rfl⟩ : ∃ k', k = k' + 1 := ⟨k - 1, by omega⟩
              have hwz := hw2
              have e1 : (P.set (p * 4 + (r.length : Int)).toNat (zv y n (zS y n (zD y n (zS y n (zS y n cur + 2)))))).getD (p * 4 + (r.length : Int)).toNat 0 = zv y n (zS y n (zD y n (zS y n (zS y n cur + 2)))) := by rw [fz_getD_set, if_pos ⟨rfl, by omega⟩]
              have e2 : ((r ++ [(zv y n (zS y n (zS y n cur + 2)), zv y n (zS y n (zD y n (zS y n (zS y n cur + 2)))), zS y n (zS y n cur + 2))]).length : Int) = (r.length : Int) + 1 := by rw [List.length_append]; rfl
              rw [e1, zmv, if_pos hwz, if_neg (by omega), if_pos hg1, if_neg (by rw [hg2]; decide), if_pos hk1, if_neg (by omega), ← e2]
              exact ih k' (by omega) (r ++ [(zv y n (zS y n (zS y n cur + 2)), zv y n (zS y n (zD y n (zS y n (zS y n cur + 2)))), zS y n (zS y n cur + 2))]) _ _ _ _ _ (by rw [List.length_append]; simp only [List.length_cons, List.length_nil]; omega) hl1 hl3 hl2 (zh_snoc hz (by omega) (by omega) (by omega) (by omega)) (zag_set ag (by omega)) (zag_set ap (by omega)) (zag_set ab (by omega)) (zrow_snoc hr ⟨by omega, by omega, by omega, by omega, by omega, by omega⟩) (by omega) (by omega) (by omega) (by omega)
            · refine ik_Wk 0 (pc_q := 120) (loc_q := [some (.ref 1), some (fI p), some (fI sum), some (fI (r.length : Int)), some (fI (zS y n cur))]) (st_q := [fI 0]) (h_q := (c0 :: cz_t T n cf f (zS y n (zD y n (zS y n (zS y n cur + 2)))) pl C (G.set (p * 4 + (r.length : Int)).toNat (zv y n (zS y n (zS y n cur + 2)))) P' (B.set (p * 4 + (r.length : Int)).toNat (zS y n (zS y n cur + 2))) tl)) (cl_q := 0) (sl_q := 0) rfl ?_
              refine fw_if_ne rfl rfl (by omega) (by omega) (fun hc11 => ?_) (fun hc11 => absurd hc11 (by omega))
              refine ik_Wk 1 (pc_q := 124) (loc_q := [some (.ref 1), some (fI p), some (fI sum), some (fI (r.length : Int)), some (fI (zS y n cur))]) (st_q := [fI 0]) (h_q := (c0 :: cz_t T n cf f (zS y n (zD y n (zS y n (zS y n cur + 2)))) pl C (G.set (p * 4 + (r.length : Int)).toNat (zv y n (zS y n (zS y n cur + 2)))) P' (B.set (p * 4 + (r.length : Int)).toNat (zS y n (zS y n cur + 2))) tl)) (cl_q := 0) (sl_q := 0) rfl ?_
              have hwz := hw2
              rcases hf with ⟨h1, rfl⟩ | ⟨h1, h2, rfl⟩
              · rw [zmv, if_pos hwz, if_neg (by omega), if_pos hg1, if_neg (by rw [hg2]; decide), if_neg h1]
                exact ik_Wret rfl rfl ⟨_, _, rfl, rfl, rfl, rfl, ⟨rfl, cf, C, _, P', _, hC, hl1, hfp, hl2, hf0, hf1, rfl⟩⟩
              · rw [zmv, if_pos hwz, if_neg (by omega), if_pos hg1, if_neg (by rw [hg2]; decide), if_pos h1, if_pos h2]
                exact ik_Wret rfl rfl ⟨_, _, rfl, rfl, rfl, rfl, ⟨rfl, cf, C, _, P', _, hC, hl1, hfp, hl2, hf0, hf1, rfl⟩⟩
          · refine ik_Wk 0 (pc_q := 107) (loc_q := [some (.ref 1), some (fI p), some (fI sum), some (fI (r.length : Int)), some (fI (zS y n cur))]) (st_q := [fI 0]) (h_q := (c0 :: cz_t T n cf f (zS y n (zS y n cur + 2)) pl C G P B tl)) (cl_q := 0) (sl_q := 0) rfl ?_
            refine fw_if_eq rfl rfl (by omega) (by omega) (fun hc12 => ?_) (fun hc12 => absurd hc12 (by omega))
            refine ik_Wk 1 (pc_q := 124) (loc_q := [some (.ref 1), some (fI p), some (fI sum), some (fI (r.length : Int)), some (fI (zS y n cur))]) (st_q := [fI 0]) (h_q := (c0 :: cz_t T n cf f (zS y n (zS y n cur + 2)) pl C G P B tl)) (cl_q := 0) (sl_q := 0) rfl ?_
            have hwz := hw2
            rcases hf with ⟨h1, rfl⟩ | ⟨h1, h2, rfl⟩
            · rw [zmv, if_pos hwz, if_neg (by omega), if_neg h1]
              exact ik_Wret rfl rfl ⟨_, _, rfl, rfl, rfl, rfl, ⟨rfl, cf, C, G, P, B, hC, hG, hP, hB, hf0, hf1, rfl⟩⟩
            · rw [zmv, if_pos hwz, if_neg (by omega), if_pos h1, if_pos h2]
              exact ik_Wret rfl rfl ⟨_, _, rfl, rfl, rfl, rfl, ⟨rfl, cf, C, G, P, B, hC, hG, hP, hB, hf0, hf1, rfl⟩⟩
      · refine ik_Wk 0 (pc_q := 77) (loc_q := [some (.ref 1), some (fI p), some (fI sum), some (fI (r.length : Int)), some (fI (zS y n cur))]) (st_q := [fI 0]) (h_q := (c0 :: cz_t T n (zS y n cur) fl fb pl C G P B tl)) (cl_q := 0) (sl_q := 0) rfl ?_
        refine fw_if_ne rfl rfl (by omega) (by omega) (fun hc13 => ?_) (fun hc13 => absurd hc13 (by omega))
        refine ik_Wk 3 (pc_q := 84) (loc_q := [some (.ref 1), some (fI p), some (fI sum), some (fI (r.length : Int)), some (fI (zS y n cur))]) (st_q := [fI (zS y n cur), fI 1, .ref 1]) (h_q := (c0 :: cz_t T n (zS y n cur) fl fb pl C G P B tl)) (cl_q := 0) (sl_q := 0) rfl ?_
        refine fw_call 67 3 0 [.ref 1, fI 1, fI (zS y n cur)] [] rfl rfl rfl (Nat.le_of_ble_eq_true rfl) rfl rfl (fw_rec (cz_len htl) rfl rfl rfl (by decide)) (cz_refuse ok) ?_
        rintro rv h_q ⟨rfl, rfl⟩
        refine ik_Wk 0 (pc_q := 87) (loc_q := [some (.ref 1), some (fI p), some (fI sum), some (fI (r.length : Int)), some (fI (zS y n cur))]) (st_q := [fI 0]) (h_q := (c0 :: cz_t T n (zS y n cur) 1 (zS y n cur) pl C G P B tl)) (cl_q := 0) (sl_q := 0) rfl ?_
        have hwz := hw2
        have hne : ¬ (r ≠ [] ∧ zS y n cur < n ∧ y (zS y n cur) = 59) := fun q => by have := List.length_pos_iff.mpr q.1; omega
        rw [zmv, if_neg (by rw [hwz]; decide), if_neg hne]
        exact ik_Wret rfl rfl ⟨_, _, rfl, rfl, rfl, rfl, ⟨rfl, _, _, G, P, B, hC, hG, hP, hB, by omega, by omega, rfl⟩⟩
    · refine ik_Wk 1 (pc_q := 24) (loc_q := [some (.ref 1), some (fI p), some (fI sum), some (fI (r.length : Int)), some (fI (zS y n cur))]) (st_q := [.ref 1]) (h_q := (c0 :: cz_t T n (zS y n cur) fl fb pl C G P B tl)) (cl_q := 0) (sl_q := 0) rfl ?_
      refine fw_bi rfl (by decide) ?_
      refine fw_call 65 2 0 [.ref 1, fI 59] [] rfl rfl rfl (Nat.le_of_ble_eq_true rfl) rfl rfl (fw_rec (cz_len htl) rfl rfl rfl (by decide)) (cz_stands ok (by omega) (by omega) (by decide) (by decide)) ?_
      rintro rv h_q ⟨⟨ht14, ht15, rfl⟩ | ⟨ht14, rfl⟩, rfl⟩
      · refine ik_Wk 0 (pc_q := 29) (loc_q := [some (.ref 1), some (fI p), some (fI sum), some (fI (r.length : Int)), some (fI (zS y n cur))]) (st_q := [fI 1]) (h_q := (c0 :: cz_t T n (zS y n cur) fl fb pl C G P B tl)) (cl_q := 0) (sl_q := 0) rfl ?_
        refine fw_if_eq rfl rfl (by omega) (by omega) (fun hc16 => absurd hc16 (by omega)) (fun hc16 => ?_)
        refine ik_Wk 2 (pc_q := 34) (loc_q := [some (.ref 1), some (fI p), some (fI sum), some (fI (r.length : Int)), some (fI (zS y n cur))]) (st_q := [.ref 1, .ref 1]) (h_q := (c0 :: cz_t T n (zS y n cur) fl fb pl C G P B tl)) (cl_q := 0) (sl_q := 0) rfl ?_
        refine fw_gf rfl rfl rfl rfl ?_
        refine ik_Wk 1 (pc_q := 38) (loc_q := [some (.ref 1), some (fI p), some (fI sum), some (fI (r.length : Int)), some (fI (zS y n cur))]) (st_q := [fI 1, fI (zS y n cur), .ref 1]) (h_q := (c0 :: cz_t T n (zS y n cur) fl fb pl C G P B tl)) (cl_q := 0) (sl_q := 0) rfl ?_
        refine fw_add rfl ?_
        refine fw_pf (h_q := (c0 :: cz_t T n ((zS y n cur) + 1) fl fb pl C G P B tl)) rfl rfl rfl (Nat.le_of_ble_eq_true rfl) rfl rfl rfl ?_
        refine ik_Wk 1 (pc_q := 43) (loc_q := [some (.ref 1), some (fI p), some (fI sum), some (fI (r.length : Int)), some (fI (zS y n cur))]) (st_q := [.ref 1]) (h_q := (c0 :: cz_t T n ((zS y n cur) + 1) fl fb pl C G P B tl)) (cl_q := 0) (sl_q := 0) rfl ?_
        refine fw_gf rfl rfl rfl rfl ?_
        refine ik_Wk 2 (pc_q := 48) (loc_q := [some (.ref 1), some (fI p), some (fI sum), some (fI (r.length : Int)), some (fI (zS y n cur))]) (st_q := [fI (r.length : Int), fI p, .ref 3]) (h_q := (c0 :: cz_t T n ((zS y n cur) + 1) fl fb pl C G P B tl)) (cl_q := 0) (sl_q := 0) rfl ?_
        have hl17 : (C.set p.toNat (r.length : Int)).length = 12 := (List.length_set ..).trans hC
        refine fw_ias (h_q := (c0 :: cz_t T n ((zS y n cur) + 1) fl fb pl (C.set p.toNat (r.length : Int)) G P B tl)) rfl rfl (by omega) (by omega) (by omega) rfl ?_
        refine ik_Wk 1 (pc_q := 50) (loc_q := [some (.ref 1), some (fI p), some (fI sum), some (fI (r.length : Int)), some (fI (zS y n cur))]) (st_q := [fI sum]) (h_q := (c0 :: cz_t T n ((zS y n cur) + 1) fl fb pl (C.set p.toNat (r.length : Int)) G P B tl)) (cl_q := 0) (sl_q := 0) rfl ?_
        refine fw_bi rfl (by decide) ?_
        refine fw_ic_eq rfl rfl (by omega) (by omega) (by omega) (by omega) (fun hc18 => ?_) (fun hc18 => ?_)
        · refine ik_Wk 2 (pc_q := 70) (loc_q := [some (.ref 1), some (fI p), some (fI sum), some (fI (r.length : Int)), some (fI (zS y n cur))]) (st_q := [fI 1]) (h_q := (c0 :: cz_t T n ((zS y n cur) + 1) fl fb pl (C.set p.toNat (r.length : Int)) G P B tl)) (cl_q := 0) (sl_q := 0) rfl ?_
          have hw : zto y n (zS y n cur) = false := by unfold zto; exact decide_eq_false (by omega)
          have hne : r ≠ [] := fun q => by rw [q] at hc1; exact absurd hc1 (by decide)
          rw [zmv, if_neg (by rw [hw]; decide), if_pos ⟨hne, by omega, by omega⟩, if_pos (by omega)]
          exact ik_Wret rfl rfl ⟨_, _, rfl, rfl, rfl, rfl, ⟨rfl, _, G, P, B, hl17, hG, hP, hB, by omega, by omega, rfl, rfl, hz, ag, ap, ab, hr, (show r.length ≤ 4 by omega)⟩⟩
        · refine ik_Wk 3 (pc_q := 59) (loc_q := [some (.ref 1), some (fI p), some (fI sum), some (fI (r.length : Int)), some (fI (zS y n cur))]) (st_q := [fI (zS y n cur), fI 5, .ref 1]) (h_q := (c0 :: cz_t T n ((zS y n cur) + 1) fl fb pl (C.set p.toNat (r.length : Int)) G P B tl)) (cl_q := 0) (sl_q := 0) rfl ?_
          refine fw_call 67 3 0 [.ref 1, fI 5, fI (zS y n cur)] [] rfl rfl rfl (Nat.le_of_ble_eq_true rfl) rfl rfl (fw_rec (cz_len htl) rfl rfl rfl (by decide)) (cz_refuse ok) ?_
          rintro rv h_q ⟨rfl, rfl⟩
          refine ik_Wk 0 (pc_q := 62) (loc_q := [some (.ref 1), some (fI p), some (fI sum), some (fI (r.length : Int)), some (fI (zS y n cur))]) (st_q := [fI 0]) (h_q := (c0 :: cz_t T n ((zS y n cur) + 1) 5 (zS y n cur) pl (C.set p.toNat (r.length : Int)) G P B tl)) (cl_q := 0) (sl_q := 0) rfl ?_
          refine fw_if_eq rfl rfl (by omega) (by omega) (fun hc19 => ?_) (fun hc19 => absurd hc19 (by omega))
          refine ik_Wk 1 (pc_q := 70) (loc_q := [some (.ref 1), some (fI p), some (fI sum), some (fI (r.length : Int)), some (fI (zS y n cur))]) (st_q := [fI 0]) (h_q := (c0 :: cz_t T n ((zS y n cur) + 1) 5 (zS y n cur) pl (C.set p.toNat (r.length : Int)) G P B tl)) (cl_q := 0) (sl_q := 0) rfl ?_
          have hw : zto y n (zS y n cur) = false := by unfold zto; exact decide_eq_false (by omega)
          have hne : r ≠ [] := fun q => by rw [q] at hc1; exact absurd hc1 (by decide)
          rw [zmv, if_neg (by rw [hw]; decide), if_pos ⟨hne, by omega, by omega⟩, if_neg (by omega)]
          exact ik_Wret rfl rfl ⟨_, _, rfl, rfl, rfl, rfl, ⟨rfl, _, _, G, P, B, hl17, hG, hP, hB, by omega, by omega, rfl⟩⟩
      · refine ik_Wk 0 (pc_q := 29) (loc_q := [some (.ref 1), some (fI p), some (fI sum), some (fI (r.length : Int)), some (fI (zS y n cur))]) (st_q := [fI 0]) (h_q := (c0 :: cz_t T n (zS y n cur) fl fb pl C G P B tl)) (cl_q := 0) (sl_q := 0) rfl ?_
        refine fw_if_eq rfl rfl (by omega) (by omega) (fun hc20 => ?_) (fun hc20 => absurd hc20 (by omega))
        refine ik_Wk 2 (pc_q := 74) (loc_q := [some (.ref 1), some (fI p), some (fI sum), some (fI (r.length : Int)), some (fI (zS y n cur))]) (st_q := [.retAddr 5, .ref 1]) (h_q := (c0 :: cz_t T n (zS y n cur) fl fb pl C G P B tl)) (cl_q := 0) (sl_q := 0) rfl ?_
        refine fw_call 64 2 0 [.ref 1, .retAddr 5] [] rfl rfl rfl (Nat.le_of_ble_eq_true rfl) rfl rfl (fw_rec (cz_len htl) rfl rfl rfl (by decide)) (cz_rw2 ok (by omega) (by omega)) ?_
        rintro rv h_q (⟨hw21, rfl, rfl⟩ | ⟨hw21, rfl, rfl⟩)
        · have hz22 : (zS y n cur) + 2 ≤ n := by have q := hw21; unfold zto at q; have := of_decide_eq_true q; have := zE_le (y := y) (n := n) (i := zS y n cur) (by omega); omega
          refine ik_Wk 0 (pc_q := 77) (loc_q := [some (.ref 1), some (fI p), some (fI sum), some (fI (r.length : Int)), some (fI (zS y n cur))]) (st_q := [fI 1]) (h_q := (c0 :: cz_t T n ((zS y n cur) + 2) fl fb pl C G P B tl)) (cl_q := 0) (sl_q := 0) rfl ?_
          refine fw_if_ne rfl rfl (by omega) (by omega) (fun hc23 => absurd hc23 (by omega)) (fun hc23 => ?_)
          refine ik_Wk 2 (pc_q := 90) (loc_q := [some (.ref 1), some (fI p), some (fI sum), some (fI (r.length : Int)), some (fI (zS y n cur))]) (st_q := [fI 4, fI (r.length : Int)]) (h_q := (c0 :: cz_t T n ((zS y n cur) + 2) fl fb pl C G P B tl)) (cl_q := 0) (sl_q := 0) rfl ?_
          refine fw_ic_ne rfl rfl (by omega) (by omega) (by omega) (by omega) (fun hc24 => ?_) (fun hc24 => ?_)
          · refine ik_Wk 3 (pc_q := 97) (loc_q := [some (.ref 1), some (fI p), some (fI sum), some (fI (r.length : Int)), some (fI (zS y n cur))]) (st_q := [fI (zS y n cur), fI 3, .ref 1]) (h_q := (c0 :: cz_t T n ((zS y n cur) + 2) fl fb pl C G P B tl)) (cl_q := 0) (sl_q := 0) rfl ?_
            refine fw_call 67 3 0 [.ref 1, fI 3, fI (zS y n cur)] [] rfl rfl rfl (Nat.le_of_ble_eq_true rfl) rfl rfl (fw_rec (cz_len htl) rfl rfl rfl (by decide)) (cz_refuse ok) ?_
            rintro rv h_q ⟨rfl, rfl⟩
            refine ik_Wk 0 (pc_q := 100) (loc_q := [some (.ref 1), some (fI p), some (fI sum), some (fI (r.length : Int)), some (fI (zS y n cur))]) (st_q := [fI 0]) (h_q := (c0 :: cz_t T n ((zS y n cur) + 2) 3 (zS y n cur) pl C G P B tl)) (cl_q := 0) (sl_q := 0) rfl ?_
            have hwz := hw21
            rw [zmv, if_pos hwz, if_pos (by omega)]
            exact ik_Wret rfl rfl ⟨_, _, rfl, rfl, rfl, rfl, ⟨rfl, _, _, G, P, B, hC, hG, hP, hB, by omega, by omega, rfl⟩⟩
          · refine ik_Wk 3 (pc_q := 104) (loc_q := [some (.ref 1), some (fI p), some (fI sum), some (fI (r.length : Int)), some (fI (zS y n cur))]) (st_q := [fI (r.length : Int), fI p, .ref 1]) (h_q := (c0 :: cz_t T n ((zS y n cur) + 2) fl fb pl C G P B tl)) (cl_q := 0) (sl_q := 0) rfl ?_
            refine fw_call 59 3 0 [.ref 1, fI p, fI (r.length : Int)] [] rfl rfl rfl (Nat.le_of_ble_eq_true rfl) rfl rfl (fw_rec (cz_len htl) rfl rfl rfl (by decide)) (cz_goal (r := r) ok hC hG hP hB hp hp2 rfl (by omega) (zh_hz hp hz hr) (by omega) (by omega)) ?_
            rintro rv h_q (⟨hg1, hg2, rfl, rfl⟩ | ⟨f, cf, hf, rfl, hf0, hf1, rfl⟩)
            · have hl1 : (G.set (p * 4 + (r.length : Int)).toNat (zv y n (zS y n (zS y n cur + 2)))).length = 48 := (List.length_set ..).trans hG
              have hl2 : (B.set (p * 4 + (r.length : Int)).toNat (zS y n (zS y n cur + 2))).length = 48 := (List.length_set ..).trans hB
              have hgv := znum0 hg1
              have hg3 := zS_ge (y := y) (n := n) (zS y n cur + 2)
              have hg4 := zS_le (y := y) (n := n) (i := zS y n cur + 2) (by omega)
              have hg5 := zD_ge (y := y) (n := n) (zS y n (zS y n cur + 2))
              have hg6 := zD_le (y := y) (n := n) (i := zS y n (zS y n cur + 2)) (by omega)
              refine ik_Wk 0 (pc_q := 107) (loc_q := [some (.ref 1), some (fI p), some (fI sum), some (fI (r.length : Int)), some (fI (zS y n cur))]) (st_q := [fI 1]) (h_q := (c0 :: cz_t T n (zD y n (zS y n (zS y n cur + 2))) fl fb pl C (G.set (p * 4 + (r.length : Int)).toNat (zv y n (zS y n (zS y n cur + 2)))) P (B.set (p * 4 + (r.length : Int)).toNat (zS y n (zS y n cur + 2))) tl)) (cl_q := 0) (sl_q := 0) rfl ?_
              refine fw_if_eq rfl rfl (by omega) (by omega) (fun hc25 => absurd hc25 (by omega)) (fun hc25 => ?_)
              refine ik_Wk 3 (pc_q := 113) (loc_q := [some (.ref 1), some (fI p), some (fI sum), some (fI (r.length : Int)), some (fI (zS y n cur))]) (st_q := [fI 4, fI p, .ref 1]) (h_q := (c0 :: cz_t T n (zD y n (zS y n (zS y n cur + 2))) fl fb pl C (G.set (p * 4 + (r.length : Int)).toNat (zv y n (zS y n (zS y n cur + 2)))) P (B.set (p * 4 + (r.length : Int)).toNat (zS y n (zS y n cur + 2))) tl)) (cl_q := 0) (sl_q := 0) rfl ?_
              refine fw_mul rfl ?_
              refine ik_Wk 1 (pc_q := 115) (loc_q := [some (.ref 1), some (fI p), some (fI sum), some (fI (r.length : Int)), some (fI (zS y n cur))]) (st_q := [fI (r.length : Int), fI (p * 4), .ref 1]) (h_q := (c0 :: cz_t T n (zD y n (zS y n (zS y n cur + 2))) fl fb pl C (G.set (p * 4 + (r.length : Int)).toNat (zv y n (zS y n (zS y n cur + 2)))) P (B.set (p * 4 + (r.length : Int)).toNat (zS y n (zS y n cur + 2))) tl)) (cl_q := 0) (sl_q := 0) rfl ?_
              refine fw_add rfl ?_
              refine ik_Wk 1 (pc_q := 117) (loc_q := [some (.ref 1), some (fI p), some (fI sum), some (fI (r.length : Int)), some (fI (zS y n cur))]) (st_q := [fI sum, fI ((p * 4) + (r.length : Int)), .ref 1]) (h_q := (c0 :: cz_t T n (zD y n (zS y n (zS y n cur + 2))) fl fb pl C (G.set (p * 4 + (r.length : Int)).toNat (zv y n (zS y n (zS y n cur + 2)))) P (B.set (p * 4 + (r.length : Int)).toNat (zS y n (zS y n cur + 2))) tl)) (cl_q := 0) (sl_q := 0) rfl ?_
              refine fw_call 60 3 0 [.ref 1, fI ((p * 4) + (r.length : Int)), fI sum] [] rfl rfl rfl (Nat.le_of_ble_eq_true rfl) rfl rfl (fw_rec (cz_len htl) rfl rfl rfl (by decide)) (cz_ch ok hC hl1 hP hl2 (by omega) (by omega) (by omega) (by omega) (by omega) (by omega)) ?_
              rintro rv h_q (⟨hk1, hk2, rfl, rfl⟩ | ⟨f, cf, P', hf, rfl, hfp, hf0, hf1, rfl⟩)
              · have hl3 : (P.set (p * 4 + (r.length : Int)).toNat (zv y n (zS y n (zD y n (zS y n (zS y n cur + 2)))))).length = 48 := (List.length_set ..).trans hP
                have hkv := znum0 hk1
                have hk3 := zS_ge (y := y) (n := n) (zD y n (zS y n (zS y n cur + 2)))
                have hk4 := zS_le (y := y) (n := n) (i := zD y n (zS y n (zS y n cur + 2))) (by omega)
                have hk5 := zD_ge (y := y) (n := n) (zS y n (zD y n (zS y n (zS y n cur + 2))))
                have hk6 := zD_le (y := y) (n := n) (i := zS y n (zD y n (zS y n (zS y n cur + 2)))) (by omega)
                refine ik_Wk 0 (pc_q := 120) (loc_q := [some (.ref 1), some (fI p), some (fI sum), some (fI (r.length : Int)), some (fI (zS y n cur))]) (st_q := [fI 1]) (h_q := (c0 :: cz_t T n (zD y n (zS y n (zD y n (zS y n (zS y n cur + 2))))) fl fb pl C (G.set (p * 4 + (r.length : Int)).toNat (zv y n (zS y n (zS y n cur + 2)))) (P.set (p * 4 + (r.length : Int)).toNat (zv y n (zS y n (zD y n (zS y n (zS y n cur + 2)))))) (B.set (p * 4 + (r.length : Int)).toNat (zS y n (zS y n cur + 2))) tl)) (cl_q := 0) (sl_q := 0) rfl ?_
                refine fw_if_ne rfl rfl (by omega) (by omega) (fun hc26 => absurd hc26 (by omega)) (fun hc26 => ?_)
                refine ik_Wk 2 (pc_q := 127) (loc_q := [some (.ref 1), some (fI p), some (fI sum), some (fI (r.length : Int)), some (fI (zS y n cur))]) (st_q := [.ref 1, fI sum]) (h_q := (c0 :: cz_t T n (zD y n (zS y n (zD y n (zS y n (zS y n cur + 2))))) fl fb pl C (G.set (p * 4 + (r.length : Int)).toNat (zv y n (zS y n (zS y n cur + 2)))) (P.set (p * 4 + (r.length : Int)).toNat (zv y n (zS y n (zD y n (zS y n (zS y n cur + 2)))))) (B.set (p * 4 + (r.length : Int)).toNat (zS y n (zS y n cur + 2))) tl)) (cl_q := 0) (sl_q := 0) rfl ?_
                refine fw_gf rfl rfl rfl rfl ?_
                refine ik_Wk 2 (pc_q := 132) (loc_q := [some (.ref 1), some (fI p), some (fI sum), some (fI (r.length : Int)), some (fI (zS y n cur))]) (st_q := [fI 4, fI p, .ref 5, fI sum]) (h_q := (c0 :: cz_t T n (zD y n (zS y n (zD y n (zS y n (zS y n cur + 2))))) fl fb pl C (G.set (p * 4 + (r.length : Int)).toNat (zv y n (zS y n (zS y n cur + 2)))) (P.set (p * 4 + (r.length : Int)).toNat (zv y n (zS y n (zD y n (zS y n (zS y n cur + 2)))))) (B.set (p * 4 + (r.length : Int)).toNat (zS y n (zS y n cur + 2))) tl)) (cl_q := 0) (sl_q := 0) rfl ?_
                refine fw_mul rfl ?_
                refine ik_Wk 1 (pc_q := 134) (loc_q := [some (.ref 1), some (fI p), some (fI sum), some (fI (r.length : Int)), some (fI (zS y n cur))]) (st_q := [fI (r.length : Int), fI (p * 4), .ref 5, fI sum]) (h_q := (c0 :: cz_t T n (zD y n (zS y n (zD y n (zS y n (zS y n cur + 2))))) fl fb pl C (G.set (p * 4 + (r.length : Int)).toNat (zv y n (zS y n (zS y n cur + 2)))) (P.set (p * 4 + (r.length : Int)).toNat (zv y n (zS y n (zD y n (zS y n (zS y n cur + 2)))))) (B.set (p * 4 + (r.length : Int)).toNat (zS y n (zS y n cur + 2))) tl)) (cl_q := 0) (sl_q := 0) rfl ?_
                refine fw_add rfl ?_
                refine fw_ial rfl rfl (by omega) (by omega) (by omega) ?_
                refine fw_add rfl ?_
                refine ik_Wk 1 (pc_q := 138) (loc_q := [some (.ref 1), some (fI p), some (fI (sum + ((P.set (p * 4 + (r.length : Int)).toNat (zv y n (zS y n (zD y n (zS y n (zS y n cur + 2)))))).getD ((p * 4) + (r.length : Int)).toNat 0))), some (fI (r.length : Int)), some (fI (zS y n cur))]) (st_q := []) (h_q := (c0 :: cz_t T n (zD y n (zS y n (zD y n (zS y n (zS y n cur + 2))))) fl fb pl C (G.set (p * 4 + (r.length : Int)).toNat (zv y n (zS y n (zS y n cur + 2)))) (P.set (p * 4 + (r.length : Int)).toNat (zv y n (zS y n (zD y n (zS y n (zS y n cur + 2)))))) (B.set (p * 4 + (r.length : Int)).toNat (zS y n (zS y n cur + 2))) tl)) (cl_q := 0) (sl_q := 0) rfl ?_
                refine fw_inc (a := (r.length : Int)) (loc_q := [some (.ref 1), some (fI p), some (fI (sum + ((P.set (p * 4 + (r.length : Int)).toNat (zv y n (zS y n (zD y n (zS y n (zS y n cur + 2)))))).getD ((p * 4) + (r.length : Int)).toNat 0))), some (fI ((r.length : Int) + 1)), some (fI (zS y n cur))]) rfl rfl (Nat.le_of_ble_eq_true rfl) rfl ?_
                refine ik_Wk 3 (pc_q := 6) (loc_q := [some (.ref 1), some (fI p), some (fI (sum + ((P.set (p * 4 + (r.length : Int)).toNat (zv y n (zS y n (zD y n (zS y n (zS y n cur + 2)))))).getD ((p * 4) + (r.length : Int)).toNat 0))), some (fI ((r.length : Int) + 1)), some (fI (zS y n cur))]) (st_q := [fI 4, fI ((r.length : Int) + 1)]) (h_q := (c0 :: cz_t T n (zD y n (zS y n (zD y n (zS y n (zS y n cur + 2))))) fl fb pl C (G.set (p * 4 + (r.length : Int)).toNat (zv y n (zS y n (zS y n cur + 2)))) (P.set (p * 4 + (r.length : Int)).toNat (zv y n (zS y n (zD y n (zS y n (zS y n cur + 2)))))) (B.set (p * 4 + (r.length : Int)).toNat (zS y n (zS y n cur + 2))) tl)) (cl_q := 0) (sl_q := 0) rfl ?_
                refine fw_ic_gt rfl rfl (by omega) (by omega) (by omega) (by omega) (fun hc27 => absurd hc27 (by omega)) (fun hc27 => ?_)
                refine ik_Wk 1 (pc_q := 10) (loc_q := [some (.ref 1), some (fI p), some (fI (sum + ((P.set (p * 4 + (r.length : Int)).toNat (zv y n (zS y n (zD y n (zS y n (zS y n cur + 2)))))).getD ((p * 4) + (r.length : Int)).toNat 0))), some (fI ((r.length : Int) + 1)), some (fI (zS y n cur))]) (st_q := [.ref 1]) (h_q := (c0 :: cz_t T n (zD y n (zS y n (zD y n (zS y n (zS y n cur + 2))))) fl fb pl C (G.set (p * 4 + (r.length : Int)).toNat (zv y n (zS y n (zS y n cur + 2)))) (P.set (p * 4 + (r.length : Int)).toNat (zv y n (zS y n (zD y n (zS y n (zS y n cur + 2)))))) (B.set (p * 4 + (r.length : Int)).toNat (zS y n (zS y n cur + 2))) tl)) (cl_q := 0) (sl_q := 0) rfl ?_
                refine fw_call 66 1 0 [.ref 1] [] rfl rfl rfl (Nat.le_of_ble_eq_true rfl) rfl rfl (fw_rec (cz_len htl) rfl rfl rfl (by decide)) (cz_skip ok (by omega) (by omega)) ?_
                rintro rv h_q ⟨rfl, rfl⟩
                have hz28 := zS_ge (y := y) (n := n) (zD y n (zS y n (zD y n (zS y n (zS y n cur + 2)))))
                have hz29 := zS_le (y := y) (n := n) (i := zD y n (zS y n (zD y n (zS y n (zS y n cur + 2))))) (by omega)
                refine ik_Wk 0 (pc_q := 13) (loc_q := [some (.ref 1), some (fI p), some (fI (sum + ((P.set (p * 4 + (r.length : Int)).toNat (zv y n (zS y n (zD y n (zS y n (zS y n cur + 2)))))).getD ((p * 4) + (r.length : Int)).toNat 0))), some (fI ((r.length : Int) + 1)), some (fI (zS y n cur))]) (st_q := []) (h_q := (c0 :: cz_t T n (zS y n (zD y n (zS y n (zD y n (zS y n (zS y n cur + 2)))))) fl fb pl C (G.set (p * 4 + (r.length : Int)).toNat (zv y n (zS y n (zS y n cur + 2)))) (P.set (p * 4 + (r.length : Int)).toNat (zv y n (zS y n (zD y n (zS y n (zS y n cur + 2)))))) (B.set (p * 4 + (r.length : Int)).toNat (zS y n (zS y n cur + 2))) tl)) (cl_q := 0) (sl_q := 0) rfl ?_
                refine ik_Wk 1 (pc_q := 14) (loc_q := [some (.ref 1), some (fI p), some (fI (sum + ((P.set (p * 4 + (r.length : Int)).toNat (zv y n (zS y n (zD y n (zS y n (zS y n cur + 2)))))).getD ((p * 4) + (r.length : Int)).toNat 0))), some (fI ((r.length : Int) + 1)), some (fI (zS y n cur))]) (st_q := [.ref 1]) (h_q := (c0 :: cz_t T n (zS y n (zD y n (zS y n (zD y n (zS y n (zS y n cur + 2)))))) fl fb pl C (G.set (p * 4 + (r.length : Int)).toNat (zv y n (zS y n (zS y n cur + 2)))) (P.set (p * 4 + (r.length : Int)).toNat (zv y n (zS y n (zD y n (zS y n (zS y n cur + 2)))))) (B.set (p * 4 + (r.length : Int)).toNat (zS y n (zS y n cur + 2))) tl)) (cl_q := 0) (sl_q := 0) rfl ?_
                refine fw_gf rfl rfl rfl rfl ?_
                refine ik_Wk 1 (pc_q := 19) (loc_q := [some (.ref 1), some (fI p), some (fI (sum + ((P.set (p * 4 + (r.length : Int)).toNat (zv y n (zS y n (zD y n (zS y n (zS y n cur + 2)))))).getD ((p * 4) + (r.length : Int)).toNat 0))), some (fI ((r.length : Int) + 1)), some (fI (zS y n (zD y n (zS y n (zD y n (zS y n (zS y n cur + 2)))))))]) (st_q := []) (h_q := (c0 :: cz_t T n (zS y n (zD y n (zS y n (zD y n (zS y n (zS y n cur + 2)))))) fl fb pl C (G.set (p * 4 + (r.length : Int)).toNat (zv y n (zS y n (zS y n cur + 2)))) (P.set (p * 4 + (r.length : Int)).toNat (zv y n (zS y n (zD y n (zS y n (zS y n cur + 2)))))) (B.set (p * 4 + (r.length : Int)).toNat (zS y n (zS y n cur + 2))) tl)) (cl_q := 0) (sl_q := 0) rfl ?_
                obtain ⟨k', rfl⟩ : ∃ k', k = k' + 1 := ⟨k - 1, by omega⟩
                have hwz := hw21
                have e1 : (P.set (p * 4 + (r.length : Int)).toNat (zv y n (zS y n (zD y n (zS y n (zS y n cur + 2)))))).getD (p * 4 + (r.length : Int)).toNat 0 = zv y n (zS y n (zD y n (zS y n (zS y n cur + 2)))) := by rw [fz_getD_set, if_pos ⟨rfl, by omega⟩]
                have e2 : ((r ++ [(zv y n (zS y n (zS y n cur + 2)), zv y n (zS y n (zD y n (zS y n (zS y n cur + 2)))), zS y n (zS y n cur + 2))]).length : Int) = (r.length : Int) + 1 := by rw [List.length_append]; rfl
                rw [e1, zmv, if_pos hwz, if_neg (by omega), if_pos hg1, if_neg (by rw [hg2]; decide), if_pos hk1, if_neg (by omega), ← e2]
                exact ih k' (by omega) (r ++ [(zv y n (zS y n (zS y n cur + 2)), zv y n (zS y n (zD y n (zS y n (zS y n cur + 2)))), zS y n (zS y n cur + 2))]) _ _ _ _ _ (by rw [List.length_append]; simp only [List.length_cons, List.length_nil]; omega) hl1 hl3 hl2 (zh_snoc hz (by omega) (by omega) (by omega) (by omega)) (zag_set ag (by omega)) (zag_set ap (by omega)) (zag_set ab (by omega)) (zrow_snoc hr ⟨by omega, by omega, by omega, by omega, by omega, by omega⟩) (by omega) (by omega) (by omega) (by omega)
              · refine ik_Wk 0 (pc_q := 120) (loc_q := [some (.ref 1), some (fI p), some (fI sum), some (fI (r.length : Int)), some (fI (zS y n cur))]) (st_q := [fI 0]) (h_q := (c0 :: cz_t T n cf f (zS y n (zD y n (zS y n (zS y n cur + 2)))) pl C (G.set (p * 4 + (r.length : Int)).toNat (zv y n (zS y n (zS y n cur + 2)))) P' (B.set (p * 4 + (r.length : Int)).toNat (zS y n (zS y n cur + 2))) tl)) (cl_q := 0) (sl_q := 0) rfl ?_
                refine fw_if_ne rfl rfl (by omega) (by omega) (fun hc30 => ?_) (fun hc30 => absurd hc30 (by omega))
                refine ik_Wk 1 (pc_q := 124) (loc_q := [some (.ref 1), some (fI p), some (fI sum), some (fI (r.length : Int)), some (fI (zS y n cur))]) (st_q := [fI 0]) (h_q := (c0 :: cz_t T n cf f (zS y n (zD y n (zS y n (zS y n cur + 2)))) pl C (G.set (p * 4 + (r.length : Int)).toNat (zv y n (zS y n (zS y n cur + 2)))) P' (B.set (p * 4 + (r.length : Int)).toNat (zS y n (zS y n cur + 2))) tl)) (cl_q := 0) (sl_q := 0) rfl ?_
                have hwz := hw21
                rcases hf with ⟨h1, rfl⟩ | ⟨h1, h2, rfl⟩
                · rw [zmv, if_pos hwz, if_neg (by omega), if_pos hg1, if_neg (by rw [hg2]; decide), if_neg h1]
                  exact ik_Wret rfl rfl ⟨_, _, rfl, rfl, rfl, rfl, ⟨rfl, cf, C, _, P', _, hC, hl1, hfp, hl2, hf0, hf1, rfl⟩⟩
                · rw [zmv, if_pos hwz, if_neg (by omega), if_pos hg1, if_neg (by rw [hg2]; decide), if_pos h1, if_pos h2]
                  exact ik_Wret rfl rfl ⟨_, _, rfl, rfl, rfl, rfl, ⟨rfl, cf, C, _, P', _, hC, hl1, hfp, hl2, hf0, hf1, rfl⟩⟩
            · refine ik_Wk 0 (pc_q := 107) (loc_q := [some (.ref 1), some (fI p), some (fI sum), some (fI (r.length : Int)), some (fI (zS y n cur))]) (st_q := [fI 0]) (h_q := (c0 :: cz_t T n cf f (zS y n (zS y n cur + 2)) pl C G P B tl)) (cl_q := 0) (sl_q := 0) rfl ?_
              refine fw_if_eq rfl rfl (by omega) (by omega) (fun hc31 => ?_) (fun hc31 => absurd hc31 (by omega))
              refine ik_Wk 1 (pc_q := 124) (loc_q := [some (.ref 1), some (fI p), some (fI sum), some (fI (r.length : Int)), some (fI (zS y n cur))]) (st_q := [fI 0]) (h_q := (c0 :: cz_t T n cf f (zS y n (zS y n cur + 2)) pl C G P B tl)) (cl_q := 0) (sl_q := 0) rfl ?_
              have hwz := hw21
              rcases hf with ⟨h1, rfl⟩ | ⟨h1, h2, rfl⟩
              · rw [zmv, if_pos hwz, if_neg (by omega), if_neg h1]
                exact ik_Wret rfl rfl ⟨_, _, rfl, rfl, rfl, rfl, ⟨rfl, cf, C, G, P, B, hC, hG, hP, hB, hf0, hf1, rfl⟩⟩
              · rw [zmv, if_pos hwz, if_neg (by omega), if_pos h1, if_pos h2]
                exact ik_Wret rfl rfl ⟨_, _, rfl, rfl, rfl, rfl, ⟨rfl, cf, C, G, P, B, hC, hG, hP, hB, hf0, hf1, rfl⟩⟩
        · refine ik_Wk 0 (pc_q := 77) (loc_q := [some (.ref 1), some (fI p), some (fI sum), some (fI (r.length : Int)), some (fI (zS y n cur))]) (st_q := [fI 0]) (h_q := (c0 :: cz_t T n (zS y n cur) fl fb pl C G P B tl)) (cl_q := 0) (sl_q := 0) rfl ?_
          refine fw_if_ne rfl rfl (by omega) (by omega) (fun hc32 => ?_) (fun hc32 => absurd hc32 (by omega))
          refine ik_Wk 3 (pc_q := 84) (loc_q := [some (.ref 1), some (fI p), some (fI sum), some (fI (r.length : Int)), some (fI (zS y n cur))]) (st_q := [fI (zS y n cur), fI 1, .ref 1]) (h_q := (c0 :: cz_t T n (zS y n cur) fl fb pl C G P B tl)) (cl_q := 0) (sl_q := 0) rfl ?_
          refine fw_call 67 3 0 [.ref 1, fI 1, fI (zS y n cur)] [] rfl rfl rfl (Nat.le_of_ble_eq_true rfl) rfl rfl (fw_rec (cz_len htl) rfl rfl rfl (by decide)) (cz_refuse ok) ?_
          rintro rv h_q ⟨rfl, rfl⟩
          refine ik_Wk 0 (pc_q := 87) (loc_q := [some (.ref 1), some (fI p), some (fI sum), some (fI (r.length : Int)), some (fI (zS y n cur))]) (st_q := [fI 0]) (h_q := (c0 :: cz_t T n (zS y n cur) 1 (zS y n cur) pl C G P B tl)) (cl_q := 0) (sl_q := 0) rfl ?_
          have hwz := hw21
          have hne : ¬ (r ≠ [] ∧ zS y n cur < n ∧ y (zS y n cur) = 59) := fun q => by have := List.length_pos_iff.mpr q.1; omega
          rw [zmv, if_neg (by rw [hwz]; decide), if_neg hne]
          exact ik_Wret rfl rfl ⟨_, _, rfl, rfl, rfl, rfl, ⟨rfl, _, _, G, P, B, hC, hG, hP, hB, by omega, by omega, rfl⟩⟩

theorem cz_mv {c0 : ik_E} {tl : List ik_E} {y : Int → Int} {T : List Int} {n fl fb pl : Int} {C G P B : List Int} (ok : cz_ok y T n tl) {p cur : Int} (hC : C.length = 12) (hG : G.length = 48) (hP : P.length = 48) (hB : B.length = 48) (hp : 0 ≤ p) (hp2 : p ≤ 10) (h0 : 0 ≤ cur) (h1 : cur ≤ n) : ik_F 58 [.ref 1, fI p] (c0 :: cz_t T n cur fl fb pl C G P B tl) (cz_RM c0 tl T n fl fb pl C G P B p (zmv y n 5 [] 0 cur)) := by
  have ok' := ok
  obtain ⟨htl, hT, bT, hn, hn2, hy⟩ := ok'
  refine ik_Wk 6 (pc_q := 6) (loc_q := [some (.ref 1), some (fI p), some (fI 0), some (fI 0), none]) (st_q := [fI 4, fI 0]) (h_q := (c0 :: cz_t T n cur fl fb pl C G P B tl)) (cl_q := 0) (sl_q := 0) rfl ?_
  refine fw_ic_gt rfl rfl (by omega) (by omega) (by omega) (by omega) (fun hc1 => absurd hc1 (by omega)) (fun hc1 => ?_)
  refine ik_Wk 1 (pc_q := 10) (loc_q := [some (.ref 1), some (fI p), some (fI 0), some (fI 0), none]) (st_q := [.ref 1]) (h_q := (c0 :: cz_t T n cur fl fb pl C G P B tl)) (cl_q := 0) (sl_q := 0) rfl ?_
  refine fw_call 66 1 0 [.ref 1] [] rfl rfl rfl (Nat.le_of_ble_eq_true rfl) rfl rfl (fw_rec (cz_len htl) rfl rfl rfl (by decide)) (cz_skip ok (by omega) (by omega)) ?_
  rintro rv h_q ⟨rfl, rfl⟩
  have hz2 := zS_ge (y := y) (n := n) cur
  have hz3 := zS_le (y := y) (n := n) (i := cur) (by omega)
  refine ik_Wk 0 (pc_q := 13) (loc_q := [some (.ref 1), some (fI p), some (fI 0), some (fI 0), none]) (st_q := []) (h_q := (c0 :: cz_t T n (zS y n cur) fl fb pl C G P B tl)) (cl_q := 0) (sl_q := 0) rfl ?_
  refine ik_Wk 1 (pc_q := 14) (loc_q := [some (.ref 1), some (fI p), some (fI 0), some (fI 0), none]) (st_q := [.ref 1]) (h_q := (c0 :: cz_t T n (zS y n cur) fl fb pl C G P B tl)) (cl_q := 0) (sl_q := 0) rfl ?_
  refine fw_gf rfl rfl rfl rfl ?_
  refine ik_Wk 1 (pc_q := 19) (loc_q := [some (.ref 1), some (fI p), some (fI 0), some (fI 0), some (fI (zS y n cur))]) (st_q := []) (h_q := (c0 :: cz_t T n (zS y n cur) fl fb pl C G P B tl)) (cl_q := 0) (sl_q := 0) rfl ?_
  exact cz_mvL ok hC hp hp2 4 [] 0 cur G P B rfl hG hP hB (fun i m q => nomatch q) (fun _ _ => rfl) (fun _ _ => rfl) (fun _ _ => rfl) (fun m q => nomatch q) (by omega) (by omega) h0 h1
