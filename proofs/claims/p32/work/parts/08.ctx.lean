/-! WHERE A METHOD RUNS: facts of the tables at a state, and what an abstract state promises (ik_ok) -/
theorem ik_ownN {mid : Nat} (h : mid < ik_M.length) : ik_oN[ik_ow mid]? = some (ik_own mid) := by
  have := List.all_eq_true.mp ik_oall mid (List.mem_range.mpr (by rw [ik_Mlen] at h; exact h))
  simpa using this
theorem ik_row {α : Type} {T : List (List (Nat × List (Nat × α)))} {n o x : Nat} {a : α} {chk : Nat → Nat × α → Bool} (hT : T.length ≤ n) (hall : ((List.range n).all fun o => (T.getD o []).all fun c => c.2.all (chk o)) = true) (h : ik_lk2 (T.getD o []) x = some a) : chk o (x, a) = true := by
  have hm := ik_lk2_mem h
  by_cases ho : o < n
  · have h2 : ((T.getD o []).all fun c => c.2.all (chk o)) = true := List.all_eq_true.mp hall o (List.mem_range.mpr ho)
    exact ik_flat_all h2 _ hm
  · have : T.getD o [] = [] := by rw [List.getD_eq_getElem?_getD, List.getElem?_eq_none (by omega)]; rfl
    rw [this] at hm
    exact absurd (show (x, a) ∈ ([] : List (Nat × α)) from hm) List.not_mem_nil
theorem ik_ci_ok {mid x : Nat} {v : Int32} {q : Nat} (hm : mid < ik_M.length) (h : ik_ci mid x = some (v, q)) : Cond.constant (ik_own mid) x v ∈ ik_ts := by
  have := ik_row (Nat.le_of_ble_eq_true rfl) ik_iall h
  unfold ik_ichk at this
  rw [ik_ownN hm] at this
  exact ik_tw_ok this
theorem ik_ck_ok {mid x : Nat} {v : Int64} {q : Nat} (hm : mid < ik_M.length) (h : ik_ck mid x = some (v, q)) : Cond.constantLong (ik_own mid) x v ∈ ik_ts := by
  have := ik_row (Nat.le_of_ble_eq_true rfl) ik_kall h
  unfold ik_kchk at this
  rw [ik_ownN hm] at this
  exact ik_tw_ok this
theorem ik_nc_ok {mid x ci q : Nat} (hm : mid < ik_M.length) (h : ik_nc mid x = some (ci, q)) : ∃ C T N, vwCl[ci]? = some (C, T, N) ∧ Cond.classLink (ik_own mid) x C ∈ ik_ts := by
  have := ik_row (Nat.le_of_ble_eq_true rfl) ik_nall h
  unfold ik_nchk at this
  rw [ik_ownN hm] at this
  dsimp only at this
  split at this
  · rename_i C T N own hc ho
    cases ho
    exact ⟨C, T, N, hc, ik_tw_ok this⟩
  · cases this
theorem ik_ac_ok {mid x ci q r : Nat} (hm : mid < ik_M.length) (h : ik_ac mid x = some (ci, q, r)) : ∃ C T N, vwCl[ci]? = some (C, T, N) ∧ Cond.classLink (ik_own mid) x C ∈ ik_ts ∧ Cond.arrayOver (.object C) ∈ lw_tbl := by
  have := ik_row (Nat.le_of_ble_eq_true rfl) ik_aall h
  unfold ik_achk at this
  rw [ik_ownN hm] at this
  dsimp only at this
  split at this
  · rename_i C T N own hc ho
    cases ho
    simp only [Bool.and_eq_true, decide_eq_true_eq] at this
    exact ⟨C, T, N, hc, ik_tw_ok this.1, ik_ix_mem this.2⟩
  · cases this
theorem ik_fl_ok {mid x ci k q ne : Nat} (hm : mid < ik_M.length) (h : ik_fl mid x = some (ci, k, q, ne)) : ∃ C T N, vwCl[ci]? = some (C, T, N) ∧ k < N ∧ (T k).1 = C ∧ (T k).2.2.2 = ik_fi ci k ∧ (Cond.fieldLink (ik_own mid) x C (T k).2.1 (T k).2.2.1 ∈ ik_ts ∨ Cond.fieldLinkNest (ik_own mid) x C (T k).2.1 (T k).2.2.1 "SlowerCork" ∈ ik_nw) := by
  have := ik_row (Nat.le_of_ble_eq_true rfl) ik_fall h
  unfold ik_fchk at this
  rw [ik_ownN hm] at this
  dsimp only at this
  split at this
  · rename_i C T N own hc ho
    cases ho
    simp only [Bool.and_eq_true, decide_eq_true_eq] at this
    obtain ⟨⟨⟨h1, h2⟩, h3⟩, h4⟩ := this
    refine ⟨C, T, N, hc, h1, h2, h3, ?_⟩
    split at h4
    · exact Or.inl (ik_tw_ok h4)
    · exact Or.inr (ik_tn_ok h4)
  · cases this
theorem ik_cls_ok {ci : Nat} {C : String} {T : u_T} {N : Nat} (h : vwCl[ci]? = some (C, T, N)) : (∀ w ∈ u_ws C T N, w ∈ ik_ts) ∧ Cond.instantiable C N ∈ ik_ts ∧ Cond.initialized C ∈ ik_ts ∧ N = ik_nf ci ∧ C = ik_nm ci ∧ (ik_fs ci).length = N ∧ (∀ k, k < N → defaultValue (ik_ty ci k) = vp_V (ik_fs ci) k) ∧ ik_oN[ci]? = some C := by
  have hl : ci < 11 := (List.getElem?_eq_some_iff.mp h).1
  have := List.all_eq_true.mp ik_wall ci (List.mem_range.mpr hl)
  unfold ik_wchk at this
  rw [h] at this
  dsimp only at this
  simp only [Bool.and_eq_true, decide_eq_true_eq] at this
  obtain ⟨⟨⟨⟨⟨⟨⟨h1, h2⟩, h3⟩, h4⟩, h5⟩, h6⟩, h7⟩, h8⟩ := this
  refine ⟨?_, ik_tw_ok h2, ik_tw_ok h3, h4, h5, h6, ?_, h8⟩
  · intro w hw
    unfold u_ws at hw
    obtain ⟨k, hk, rfl⟩ := List.mem_map.mp hw
    exact ik_tw_ok (List.all_eq_true.mp h1 k hk)
  · intro k hk
    have := List.all_eq_true.mp h7 k (List.mem_range.mpr hk)
    simpa using this
theorem ik_ap_ok {ty : FieldType} (h : ty = .int ∨ ty = .long ∨ ty = .byte ∨ ty = .boolean) : Cond.arrayClass ty ∈ ik_ts := by
  have key : ∀ e ∈ ik_ap, Cond.arrayClass e.1 ∈ ik_ts := fun e he => ik_tw_ok (List.all_eq_true.mp ik_aps e he)
  have h4 : ∀ t : FieldType, t ∈ ik_ap.map Prod.fst → Cond.arrayClass t ∈ ik_ts := fun t ht => by
    obtain ⟨e, he, rfl⟩ := List.mem_map.mp ht
    exact key e he
  rcases h with rfl | rfl | rfl | rfl <;> exact h4 _ (by decide +kernel)
/-- what a method's state gives: the machine, its bytes, the words -/
def ik_X (p : Program) (s : State) (m : MethodId) (args : Array Value) (meth : Method) (c : Code) (mid : Nat) : Prop := p.tables.exec = Jvm.exec ∧ c.code = ik_by mid ∧ c.maxLocals = ik_ml mid ∧ s.vm.findClass (ik_own mid) = some m.cls ∧ (∀ w ∈ ik_ts, w.before args s = true) ∧ (0 < ik_in mid → meth.name = "<init>") ∧ mid < ik_M.length
/-- what is known of classes and arrays -/
def ik_K (D : va_G) (ct : Nat → ClassId) (h : List ik_E) (s : State) : Prop := va_K D vwCl [] s ∧ (∀ (k : Nat) (ty : FieldType) (vs : List Value), h[k]? = some (.inl (ty, vs)) → va_K D vwCl [(ct k, ty)] s) ∧ (∀ w ∈ ik_nw, va_Nw w s) ∧ (∀ C : String, Cond.arrayOver (.object C) ∈ lw_tbl → va_AO C s)
theorem ik_K.setR {D : va_G} {ct : Nat → ClassId} {h : List ik_E} {s : State} (hK : ik_K D ct h s) (a : Nat) (x : Nat × List Value) : ik_K D ct (h.set a (.inr x)) s := by
  refine ⟨hK.1, fun k ty vs hk => ?_, hK.2.2⟩
  rw [List.getElem?_set] at hk
  split at hk
  · split at hk <;> cases hk
  · exact hK.2.1 k ty vs hk
theorem ik_K.setL {D : va_G} {ct : Nat → ClassId} {h : List ik_E} {s : State} (hK : ik_K D ct h s) {a : Nat} {ty : FieldType} {vs : List Value} (ha : h[a]? = some (.inl (ty, vs))) (ws : List Value) : ik_K D ct (h.set a (.inl (ty, ws))) s := by
  refine ⟨hK.1, fun k ty' vs' hk => ?_, hK.2.2⟩
  rw [List.getElem?_set] at hk
  split at hk
  · rename_i e
    subst e
    split at hk
    · cases hk
      exact hK.2.1 a ty vs ha
    · cases hk
  · exact hK.2.1 k ty' vs' hk
theorem ik_K.push {D : va_G} {ct : Nat → ClassId} {h : List ik_E} {s : State} (hK : ik_K D ct h s) {cA : ClassId} {ty : FieldType} (hc : va_K D vwCl [(cA, ty)] s) (vs : List Value) : ik_K D (va_up ct h.length cA) (h ++ [.inl (ty, vs)]) s := by
  refine ⟨hK.1, fun k ty' vs' hk => ?_, hK.2.2⟩
  by_cases hl : k < h.length
  · rw [List.getElem?_append_left hl] at hk
    rw [va_up_ne _ _ (Nat.ne_of_lt hl)]
    exact hK.2.1 k ty' vs' hk
  · rw [List.getElem?_append_right (by omega)] at hk
    have hz : k - h.length < 1 := (List.getElem?_eq_some_iff.mp hk).1
    have e : k = h.length := by omega
    subst e
    rw [Nat.sub_self] at hk
    cases hk
    rw [va_up_self]
    exact hc
theorem ik_K.pushR {D : va_G} {ct : Nat → ClassId} {h : List ik_E} {s : State} (hK : ik_K D ct h s) (cA : ClassId) (x : Nat × List Value) : ik_K D (va_up ct h.length cA) (h ++ [.inr x]) s := by
  refine ⟨hK.1, fun k ty' vs' hk => ?_, hK.2.2⟩
  by_cases hl : k < h.length
  · rw [List.getElem?_append_left hl] at hk
    rw [va_up_ne _ _ (Nat.ne_of_lt hl)]
    exact hK.2.1 k ty' vs' hk
  · rw [List.getElem?_append_right (by omega)] at hk
    have hz : k - h.length < 1 := (List.getElem?_eq_some_iff.mp hk).1
    rw [show k - h.length = 0 by omega] at hk
    cases hk
theorem ik_K.warm {D : va_G} {ct : Nat → ClassId} {h : List ik_E} {s U : State} (hW : s.WarmedH U.vm) (hK : ik_K D ct h s) : ik_K D ct h U := by
  refine ⟨va_K.moved hW.alike hK.1, fun k ty vs hk => va_K.moved hW.alike (hK.2.1 k ty vs hk), fun w hw => ?_, fun C hC => va_AO.moved hW.alike (hK.2.2.2 C hC)⟩
  have h1 := hK.2.2.1 w hw
  have h2 := (List.mem_filter.mp hw).2
  cases w <;> first | exact va_Nw.warmF hW h1 | exact va_Nw.warmM hW h1 | cases h2
/-- the machine comes on from this abstract state: from every state of it that this one tells -/
def ik_ok (p : Program) (l : Launch) (e : Env) (R : Room) (s : State) (m : MethodId) (args : Array Value) (below : List Frame) (meth : Method) (c : Code) (Q : State → Prop) (D : va_G) (A : Nat → Prop) (H0 : Heap) (sd : Nat → Option Nat) (mid n0 : Nat) (ad0 : Nat → Nat) (z : ik_St) : Prop :=
  ∀ (ad ct : Nat → Nat) (H : Heap) (locs : List Loc) (ls : Array Slot), (∀ k, k < n0 → ad k = ad0 k) → ik_K D ct z.2.2.2.1 s → va_P D vwCl (ik_w ad sd ct z.2.2.2.1) H → va_D A (ik_w ad sd ct z.2.2.2.1) → va_S A H0 H locs → ik_lh ad sd ls (ik_ml mid) z.2.1 → W p l e R s m args below meth c H locs z.2.2.2.2.1 z.2.2.2.2.2 Q (F0 m z.1 ls (z.2.2.1.map (ik_v ad sd)))
theorem ik_gI_ok {loc : ik_L} {i : Nat} {x : Int32} (h : ik_gI loc i = some x) : loc[i]? = some (some (.int x)) := by
  unfold ik_gI at h
  split at h
  · rename_i hx; cases h; exact hx
  · cases h
theorem ik_gL_ok {loc : ik_L} {i : Nat} {x : Int64} (h : ik_gL loc i = some x) : loc[i]? = some (some (.long x)) := by
  unfold ik_gL at h
  split at h
  · rename_i hx; cases h; exact hx
  · cases h
theorem ik_gA_ok {loc : ik_L} {i : Nat} {v : Value} (h : ik_gA loc i = some v) (ad : Nat → Nat) {sd : Nat → Option Nat} (hsd : ∀ k, k < 100 → ∃ q, sd k = some q) : loc[i]? = some (some v) ∧ ∃ q, ik_v ad sd v = .ref q := by
  unfold ik_gA at h
  split at h
  · rename_i hx; cases h; exact ⟨hx, _, rfl⟩
  · rename_i x hx
    split at h
    · rename_i hl
      cases h
      obtain ⟨q, hq⟩ := hsd x hl
      refine ⟨hx, q, ?_⟩
      show va_rf (sd x) = .ref q
      rw [hq]
      rfl
    · cases h
  · cases h
/-- what lies outside: the script, the String constants, the statics -/
def ik_O (sd : Nat → Option Nat) (A : Nat → Prop) (s : State) (H : Heap) : Prop := (∀ k, k < 100 → ∃ q, sd k = some q) ∧ ∃ adK adV : Nat → Nat, (∀ i, i < 3 → sd (2 * i + 1) = some (adK i) ∧ sd (2 * i + 2) = some (adV i)) ∧ vk_S 3 (ik_sbs.map List.length) ik_sbs adK adV A s H ∧ va_Z "java/lang/String" "COMPACT_STRINGS" "Z" (.int 1) A s H ∧ va_Z "jdk/internal/util/Preconditions" "SIOOBE_FORMATTER" "Ljava/util/function/BiFunction;" (va_rf (sd 100)) A s H ∧ (∀ (i : Nat) (q : String × Nat × String), ik_slit[i]? = some q → vk_R q.1 q.2.1 q.2.2 (adK i) s)
theorem ik_O.call {sd : Nat → Option Nat} {A B : Nat → Prop} {s U : State} {H : Heap} {locs : List Loc} (h : ik_O sd A s s.heap) (hS : va_S A s.heap H locs) (hW : s.WarmedH U.vm) (hU : U.heap = H) (hAB : ∀ q, B q → A q) : ik_O sd B U U.heap := by
  obtain ⟨h0, adK, adV, h1, h2, h3, h4, h5⟩ := h
  have hq : ∀ a : Nat, a < s.heap.size → ¬ A a → H[a]? = s.heap[a]? := hS.2.1
  refine ⟨h0, adK, adV, h1, ?_, ?_, ?_, fun i q hi => (h5 i q hi).warm hW⟩
  · rw [hU]; exact ((h2.kept hq).moved hW.alike).narrow hAB
  · rw [hU]; exact ((h3.kept hq).moved hW.alike).narrow hAB
  · rw [hU]; exact ((h4.kept hq).moved hW.alike).narrow hAB
theorem ik_O.same {sd : Nat → Option Nat} {A : Nat → Prop} {u U : State} {H : Heap} (hv : u.vm = U.vm) (h : ik_O sd A u H) : ik_O sd A U H := by
  obtain ⟨h0, adK, adV, h1, h2, h3, h4, h5⟩ := h
  have ha : u.vm.Alike U.vm := by rw [hv]; exact Vm.Alike.refl U.vm
  exact ⟨h0, adK, adV, h1, h2.moved ha, h3.moved ha, h4.moved ha, fun i q hi => (h5 i q hi).same hv.symm⟩
theorem ik_st_ok {mid x i q : Nat} (hm : mid < ik_M.length) (h : ik_st mid x = some (i, q)) : ∃ tx, ik_slit[i]? = some (ik_own mid, x, tx) := by
  have := ik_row (Nat.le_of_ble_eq_true rfl) ik_stall h
  unfold ik_stchk at this
  rw [ik_ownN hm] at this
  dsimp only at this
  split at this
  · rename_i own e ho he
    cases ho
    simp only [Bool.and_eq_true, decide_eq_true_eq] at this
    obtain ⟨a, b, c⟩ := e
    obtain ⟨rfl, rfl⟩ := this
    exact ⟨c, he⟩
  · cases this
theorem ik_sf_ok {mid x k q : Nat} (hm : mid < ik_M.length) (h : ik_sf mid x = some (k, q)) : (k = 0 → Cond.fieldLink (ik_own mid) x "java/lang/String" "value" "[B" ∈ ik_ts) ∧ (k = 1 → Cond.fieldLink (ik_own mid) x "java/lang/String" "coder" "B" ∈ ik_ts) := by
  have h1 := ik_row (Nat.le_of_ble_eq_true rfl) ik_sfall h
  unfold ik_sfchk at h1
  rw [ik_ownN hm] at h1
  match k, h1 with
  | 0, h1 => exact ⟨fun _ => ik_tw_ok h1, fun e => by omega⟩
  | 1, h1 => exact ⟨fun e => by omega, fun _ => ik_tw_ok h1⟩
  | n + 2, h1 => cases h1
theorem ik_gs_ok {mid x k q : Nat} (hm : mid < ik_M.length) (h : ik_gs mid x = some (k, q)) : (k = 0 → Cond.fieldLink (ik_own mid) x "java/lang/String" "COMPACT_STRINGS" "Z" ∈ ik_ts) ∧ (k = 1 → Cond.fieldLink (ik_own mid) x "jdk/internal/util/Preconditions" "SIOOBE_FORMATTER" "Ljava/util/function/BiFunction;" ∈ ik_ts) := by
  have h1 := ik_row (Nat.le_of_ble_eq_true rfl) ik_gsall h
  unfold ik_gschk at h1
  rw [ik_ownN hm] at h1
  match k, h1 with
  | 0, h1 => exact ⟨fun _ => ik_tw_ok h1, fun e => by omega⟩
  | 1, h1 => exact ⟨fun e => by omega, fun _ => ik_tw_ok h1⟩
  | n + 2, h1 => cases h1
theorem ik_sb_len {i : Nat} (h : i < 3) : (ik_sbs.map List.length).getD i 0 = (ik_sb i).length := by
  have : ∀ j, j < 3 → (ik_sbs.map List.length).getD j 0 = (ik_sb j).length := by decide +kernel
  exact this i h
theorem ik_tg_ok {pc t : Nat} {off : Int} (h : ik_tg pc off = some t) : (pc : Int) + off = (t : Int) := by
  unfold ik_tg at h
  split at h
  · rename_i q hq; cases h; exact hq
  · cases h
theorem ik_fit_ok {ty : FieldType} {v : Value} (h : ik_fit ty v = true) (ad : Nat → Nat) (sd : Nat → Option Nat) : narrow ty (ik_v ad sd v) = ik_v ad sd v ∧ fits ty (ik_v ad sd v) = true := by
  unfold ik_fit at h
  split at h
  · exact ⟨rfl, rfl⟩
  · exact ⟨rfl, rfl⟩
  · rename_i x
    simp only [Bool.or_eq_true, beq_iff_eq] at h
    rcases h with rfl | rfl
    · exact ⟨(by decide : narrow .boolean (.int 0) = .int 0), (by decide : fits .boolean (.int 0) = true)⟩
    · exact ⟨(by decide : narrow .boolean (.int 1) = .int 1), (by decide : fits .boolean (.int 1) = true)⟩
  · exact ⟨rfl, rfl⟩
  · exact ⟨rfl, rfl⟩
  · cases h
