/-! THE ABSTRACT MACHINE'S RUNS ARE THE MACHINE'S -/
/-- what the soundness theorem says at a fuel -/
def ik_S (n : Nat) : Prop := ∀ (p : Program) (l : Launch) (e : Env) (R : Room) (s : State) (m : MethodId) (args : Array Value) (below : List Frame) (meth : Method) (c : Code) (Q : State → Prop) (D : va_G) (A : Nat → Prop) (H0 : Heap) (sd : Nat → Option Nat) (mid n0 : Nat) (ad0 : Nat → Nat) (X : Option (Nat × (Nat → Int32))) (pc : Nat) (loc : ik_L) (st : List Value) (h : List ik_E) (cl sl : Nat) (z : ik_St),
  ik_X p s m args meth c mid → (∀ q, H0.size ≤ q → A q) → (∀ (L : Nat) (xs : Nat → Int32), X = some (L, xs) → ∃ b, sd 0 = some b ∧ va_X b L xs s H0 ∧ b < H0.size ∧ ¬ A b) → H0 = s.heap → ik_O sd A s s.heap → ik_fr mid ≤ R.frames → ik_lo mid ≤ R.locals → ik_ex X n mid pc loc st h cl sl = some z → n0 ≤ h.length → z.2.2.2.2.1 ≤ R.cells → z.2.2.2.2.2 ≤ R.slots →
  ik_ok p l e R s m args below meth c Q D A H0 sd mid n0 ad0 z → ik_ok p l e R s m args below meth c Q D A H0 sd mid n0 ad0 (pc, loc, st, h, cl, sl)
/-- the words of a method's contract -/
def ik_wsM (q : Nat) : List Cond := Cond.code (ik_y q) (ik_by q) (ik_ml q) (ik_rt q) :: ik_ts
def ik_rm (q mc ms : Nat) : Room := { frames := ik_fr q, cells := mc, slots := ms, locals := ik_lo q }
def ik_Pq (D : va_G) (ad : Nat → Nat) (sd : Nat → Option Nat) (ct : Nat → Nat) (h : List ik_E) (sz : Nat) (as : List Value) : Array Value → State → Prop := va_Pc (as.map (ik_v ad sd)) (fun U => U.heap.size = sz ∧ ik_K D ct h U ∧ va_P D vwCl (ik_w ad sd ct h) U.heap ∧ va_D (fun _ => True) (ik_w ad sd ct h) ∧ ik_O sd (va_A (ik_w ad sd ct h) sz) U U.heap)
set_option maxHeartbeats 4000000 in
/-- a method's contract out of its abstract run -/
theorem ik_met {n : Nat} (ih : ik_S n) (l : Launch) (D : va_G) (ad : Nat → Nat) (sd : Nat → Option Nat) (ct : Nat → Nat) (sz : Nat) {q : Nat} {as : List Value} {h h' : List ik_E} {pr : Nat} {lr : ik_L} {sr rv : List Value} {mc ms : Nat} {ir : Instr} (hq0 : 0 < q) (hq : q < ik_M.length) (hal : (ik_args as).length ≤ ik_ml q) (he : ik_ex none n q 0 (ik_loc (ik_ml q) as) [] h 0 0 = some (pr, lr, sr, h', mc, ms)) (hi : ik_at q pr = some ir) (hrv : ik_rv (ik_rt q) ir sr = some rv) :
    Met l (ik_y q) (ik_wsM q) (ik_rm q mc ms) (ik_Pq D ad sd ct h sz as) (ik_Qc D (va_A (ik_w ad sd ct h) sz) sd ad h.length rv h') mc ms (va_A (ik_w ad sd ct h) sz) := by
  have hch := ik_mch hq0 hq
  unfold ik_mchk at hch
  simp only [Bool.and_eq_true, Bool.or_eq_true, decide_eq_true_eq] at hch
  refine Met.ofW (cc := ik_by q) (maxL := ik_ml q) (ret := ik_rt q) hch.1.1.2 rfl ?_
  intro p e s m args below meth c s₁ B hml hv
  obtain ⟨rfl, hsz, hK, hP, hD0, hO⟩ := hv
  subst hsz
  have hts := atoms_spec (ws := ik_wsM q) B.pre
  have hD := hD0.self (sz := s.heap.size)
  have hX : ik_X p s m (as.map (ik_v ad sd)).toArray meth c q := by
    refine ⟨B.exec, B.bytes, hml, findClass_of_methodNamed B.named, fun w hw => hts w (List.mem_cons_of_mem _ hw), fun hin => ?_, hq⟩
    have hn : meth.name = (ik_y q).name := (name_of_methodNamed B.named B.method).1
    rw [hn]
    rcases hch.2 with q1 | q1
    · have q1 : ik_in q = 0 := q1
      omega
    · exact q1.1.1
  rw [lg_entry_eq]
  have hent := ik_entry (ad := ad) (sd := sd) hal
  have key := ih p l e (headSpec (ik_wsM q) (ik_rm q mc ms)).room s m (as.map (ik_v ad sd)).toArray below meth c (MQ below (ik_Qc D (va_A (ik_w ad sd ct h) s.heap.size) sd ad h.length rv h') (as.map (ik_v ad sd)).toArray s mc ms (va_A (ik_w ad sd ct h) s.heap.size)) D (va_A (ik_w ad sd ct h) s.heap.size) s.heap sd q h.length ad none 0 (ik_loc (ik_ml q) as) [] h 0 0 (pr, lr, sr, h', mc, ms)
    hX (fun x hx => Or.inr hx) (fun L xs hn => by cases hn) rfl hO (Nat.le_refl _) (Nat.le_refl _) he (Nat.le_refl _) (Nat.le_refl _) (Nat.le_refl _) (ik_ret_ok B.exec B.bytes B.returns B.notSynchronized hi hrv)
  exact key ad ct s.heap [] _ (fun _ _ => rfl) hK hP hD va_S.rf hent
theorem ik_K.same {D : va_G} {ct : Nat → ClassId} {h : List ik_E} {u U : State} (hv : u.vm = U.vm) (hK : ik_K D ct h u) : ik_K D ct h U := by
  have ha : u.vm.Alike U.vm := by rw [hv]; exact Vm.Alike.refl U.vm
  refine ⟨va_K.moved ha hK.1, fun k ty vs hk => va_K.moved ha (hK.2.1 k ty vs hk), fun w hw => ?_, fun C hC => va_AO.moved ha (hK.2.2.2 C hC)⟩
  have h2 := (List.mem_filter.mp hw).2
  have h1 := hK.2.2.1 w hw
  cases w <;> first | exact va_Nw.same rfl hv h1 | cases h2
theorem ik_Pq_blind {D : va_G} {ad : Nat → Nat} {sd : Nat → Option Nat} {ct : Nat → Nat} {h : List ik_E} {sz : Nat} {as : List Value} : FrameBlind (ik_Pq D ad sd ct h sz as) := by
  intro a U g mk q
  obtain ⟨q0, q1, q2, q3, q4, q5⟩ := q
  exact ⟨q0, q1, ik_K.same (u := U) (U := U.calling g mk a) rfl q2, q3, q4, ik_O.same (u := U) (U := U.calling g mk a) rfl q5⟩
set_option maxHeartbeats 4000000 in
/-- behind a call, whatever it gives back -/
theorem ik_after {p : Program} {l : Launch} {e : Env} {R : Room} {s : State} {m : MethodId} {args : Array Value} {below : List Frame} {meth : Method} {c : Code} {Q : State → Prop} {D : va_G} {A : Nat → Prop} {H0 H : Heap} {locs : List Loc} {sd : Nat → Option Nat} {ad ct ad0 : Nat → Nat} {mid n0 pc mc ms cl sl : Nat} {loc : ik_L} {rest rv st0 : List Value} {h h' : List ik_E} {ls : Array Slot} {a : Array Value}
    (hr : va_Run p l e R s m args below meth c H locs cl sl mc ms (F0 m pc ls st0) (rest.map (ik_v ad sd)) (ik_Qc D (va_A (ik_w ad sd ct h) H.size) sd ad h.length rv h' a) (va_A (ik_w ad sd ct h) H.size)) (hlen : rv.length ≤ 1) (hn0 : n0 ≤ h.length) (hn : ∀ k, k < n0 → ad k = ad0 k) (hK : ik_K D ct h s) (hD : va_D A (ik_w ad sd ct h)) (hS : va_S A H0 H locs) (hA : ∀ q, H0.size ≤ q → A q) (hl : ik_lh ad sd ls (ik_ml mid) loc)
    (hrest : rest.all (ik_wv h.length) = true) (hloc : loc.all (ik_wl h.length) = true)
    (k : ik_ok p l e R s m args below meth c Q D A H0 sd mid n0 ad0 (pc + 3, loc, rv ++ rest, h', cl + mc, sl + ms)) : W p l e R s m args below meth c H locs cl sl Q (F0 m pc ls st0) := by
  have hF : ∀ q, va_A (ik_w ad sd ct h) H.size q → A q := by
    intro q hq
    rcases hq with ⟨j, e0, hj⟩ | hq
    · exact hD.2 j _ hj
    · exact hA q (Nat.le_trans hS.1 hq)
  intro T hT X
  obtain ⟨v, st₀, t, T', L, h0, X', hL, e1, e2, ⟨⟨ad', ct', hv, hag, hKt, hPt, hDt⟩, hz, hk⟩, stp⟩ := hr T hT X
  rw [h0] at hz hk
  have hv : v = (rv.map (ik_v ad' sd)).head? := by cases hv; rfl
  have hS1 : va_S A H0 T'.heap (locs ++ L) := ⟨Nat.le_trans hS.1 (by rw [e1]; exact hz), fun q h1 h2 => by rw [e1, hk q (Nat.lt_of_lt_of_le h1 hS.1) (fun z => h2 (hF q z))]; exact hS.2.1 q h1 h2, fun q hq => by
    rcases List.mem_append.mp hq with h | h
    · exact hS.2.2 q h
    · exact hF _ (hL q h)⟩
  have hvm : s.vm.Alike t.vm := by rw [← e2]; exact X'.warmed.alike
  have hvv : ∀ w : Value, ik_wv h.length w = true → ik_v ad' sd w = ik_v ad sd w := by
    intro w hw
    cases w with
    | ref j =>
      have hj : j < h.length := by simpa [ik_wv] using hw
      show Value.ref (ad' j) = Value.ref (ad j)
      rw [hag j hj]
    | _ => rfl
  have hrest' : rest.map (ik_v ad' sd) = rest.map (ik_v ad sd) := List.map_congr_left fun w hw => hvv w (List.all_eq_true.mp hrest w hw)
  have hpr : ik_pr ad' sd loc = ik_pr ad sd loc := by
    unfold ik_pr
    congr 1
    funext i
    cases hi : loc[i]? with
    | none => rfl
    | some o =>
      cases o with
      | none => rfl
      | some w =>
        have hw := List.all_eq_true.mp hloc (some w) (List.mem_of_getElem? hi)
        simp only [hvv w hw]
  have kk := k ad' ct' T'.heap (locs ++ L) ls (fun j hj => (hag j (Nat.lt_of_lt_of_le hj hn0)).trans (hn j hj)) ⟨hK.1, fun j ty vs hj => va_K.moved hvm.symm (hKt j ty vs hj), hK.2.2⟩ (by rw [e1]; exact hPt) (hDt.weaken (fun _ _ _ q => hF _ q)) hS1 (by unfold ik_lh; dsimp only; rw [hpr]; exact hl)
  dsimp only at kk
  rw [List.map_append, hrest'] at kk
  have kk2 := kk T' rfl X'
  obtain ⟨t2, a1, b1⟩ := kk2
  refine ⟨t2, stp t2 ?_, b1⟩
  rw [hv, ik_hd hlen]
  exact a1
theorem ik_ca_ok {mid x q n kd pos : Nat} (hm : mid < ik_M.length) (h : ik_ca mid x = some (q, n, kd, pos)) : ik_cchk (ik_ow mid) (x, q, n, kd, pos) = true := ik_row (Nat.le_of_ble_eq_true rfl) ik_call_all h
theorem ik_len_map {α : Type} {x : Option α} {f : α → Nat} {n : Nat} (h : x.map (fun d => f d + 1) = some (n + 1)) : x.map f = some n := by
  cases x with
  | none => cases h
  | some d =>
    have hz : f d + 1 = n + 1 := Option.some.inj h
    show some (f d) = some n
    congr 1
    omega
/-- what the tables say of a callee -/
theorem ik_callee {q : Nat} (h0 : 0 < q) (h : q < ik_M.length) : Cond.initialized (ik_y q).cls ∈ ik_ts ∧ ((ik_MP.getD q (0, 0, 0, 0, true)).2.2.2.2 = true → Cond.static (ik_y q) ∈ ik_ts) ∧ ((ik_MP.getD q (0, 0, 0, 0, true)).2.2.2.2 = false → Cond.instanceMethod (ik_y q) ∈ ik_ts ∧ ((ik_y q).name ≠ "<init>" → Cond.selects (ik_y q).cls (ik_y q) (ik_y q) ∈ ik_ts)) ∧ ((ik_y q).cls ≠ "java/lang/invoke/MethodHandle" ∧ (ik_y q).cls ≠ "java/lang/invoke/VarHandle") ∧ ik_oN[ik_ow q]? = some (ik_y q).cls := by
  have hch := ik_mch h0 h
  unfold ik_mchk at hch
  simp only [Bool.and_eq_true, Bool.or_eq_true, decide_eq_true_eq] at hch
  obtain ⟨⟨⟨⟨⟨⟨h1, h2⟩, h3⟩, h4⟩, h5⟩, h6⟩, h7⟩ := hch
  refine ⟨ik_tw_ok h1, fun hs => ?_, fun hs => ?_, ?_, h6⟩
  · rw [hs] at h2
    exact ik_tw_ok h2
  · rw [hs] at h2 h3
    refine ⟨ik_tw_ok h2, fun hn => ?_⟩
    rcases h3 with (q1 | q1) | q1
    · cases q1
    · exact absurd q1 hn
    · exact ik_tw_ok q1
  · unfold ik_isMH at h4
    simp only [Bool.not_eq_true', Bool.or_eq_false_iff, decide_eq_false_iff_not] at h4
    exact h4
theorem ik_MPt {q : Nat} (h : (ik_MP.getD q (0, 0, 0, 0, false)).2.2.2.2 = true) : (ik_MP.getD q (0, 0, 0, 0, true)).2.2.2.2 = true := by
  rw [List.getD_eq_getElem?_getD] at h ⊢
  cases hx : ik_MP[q]? with
  | none => rfl
  | some x => rw [hx] at h; exact h
