/-! ENTRY AND RETURN -/
theorem ik_args_len (ad : Nat → Nat) (sd : Nat → Option Nat) : ∀ as : List Value, (lg_sl (as.map (ik_v ad sd))).length = (ik_args as).length
  | [] => rfl
  | v :: r => by
    have ih := ik_args_len ad sd r
    unfold lg_sl at ih ⊢
    rw [List.map_cons, List.flatMap_cons, List.length_append, ih, ik_v_cat]
    rw [show ik_args (v :: r) = if v.category = 2 then some v :: none :: ik_args r else some v :: ik_args r from rfl]
    by_cases hc : v.category = 2
    · rw [if_pos hc, if_pos hc]
      simp only [List.length_cons, List.length_nil]
      omega
    · rw [if_neg hc, if_neg hc]
      simp only [List.length_cons, List.length_nil]
      omega
theorem ik_args_mem (ad : Nat → Nat) (sd : Nat → Option Nat) : ∀ (as : List Value) (off i : Nat) (v : Value), (ik_args as)[i]? = some (some v) → (off + i, ik_v ad sd v) ∈ lv_args off (as.map (ik_v ad sd))
  | [], off, i, v, h => by simp [ik_args] at h
  | u :: r, off, i, v, h => by
    unfold ik_args at h
    rw [List.map_cons]
    unfold lv_args
    rw [ik_v_cat]
    by_cases hc : u.category = 2
    · rw [if_pos hc] at h
      rw [if_pos hc]
      match i, h with
      | 0, h => cases h; exact List.mem_cons_self
      | 1, h => cases h
      | i + 2, h =>
        have := ik_args_mem ad sd r (off + 2) i v h
        rw [show off + (i + 2) = off + 2 + i by omega]
        exact List.mem_cons_of_mem _ this
    · rw [if_neg hc] at h
      rw [if_neg hc]
      match i, h with
      | 0, h => cases h; exact List.mem_cons_self
      | i + 1, h =>
        have := ik_args_mem ad sd r (off + 1) i v h
        rw [show off + (i + 1) = off + 1 + i by omega]
        exact List.mem_cons_of_mem _ this
theorem ik_entry {ad : Nat → Nat} {sd : Nat → Option Nat} {as : List Value} {n : Nat} (h : (ik_args as).length ≤ n) : ik_lh ad sd ((lg_sl (as.map (ik_v ad sd)) ++ List.replicate (n - (lg_sl (as.map (ik_v ad sd))).length) Slot.unset).toArray) n (ik_loc n as) := by
  have hl := lv_entry (as.map (ik_v ad sd)) (n := n) (by rw [ik_args_len]; exact h)
  refine ⟨hl.1, hl.2.1, ?_⟩
  rintro ⟨i, w⟩ hq
  obtain ⟨v, hv, rfl⟩ := ik_pr_mem.mp hq
  apply hl.2.2
  unfold ik_loc at hv
  by_cases hi : i < (ik_args as).length
  · rw [List.getElem?_append_left hi] at hv
    have := ik_args_mem ad sd as 0 i v hv
    rw [Nat.zero_add] at this
    exact this
  · rw [List.getElem?_append_right (by omega), List.getElem?_replicate] at hv
    split at hv <;> cases hv
/-- the world behind a call: what came back, the places that were there stay where they were -/
def ik_Qc (D : va_G) (A : Nat → Prop) (sd : Nat → Option Nat) (ad0 : Nat → Nat) (n0 : Nat) (rv : List Value) (h' : List ik_E) : Array Value → State → Outcome → State → Prop := fun _ st oc t =>
  (∃ ad ct : Nat → Nat, oc = .returned ((rv.map (ik_v ad sd)).head?) ∧ (∀ k, k < n0 → ad k = ad0 k) ∧ (∀ (k : Nat) (ty : FieldType) (vs : List Value), h'[k]? = some (.inl (ty, vs)) → va_K D vwCl [(ct k, ty)] t) ∧ va_P D vwCl (ik_w ad sd ct h') t.heap ∧ va_D A (ik_w ad sd ct h')) ∧ va_F A st t
theorem ik_rv_len {rt : Option FieldType} {i : Instr} {st rv : List Value} (h : ik_rv rt i st = some rv) : rv = st ∧ rv.length ≤ 1 := by
  unfold ik_rv at h
  repeat' (split at h)
  all_goals first
    | (cases h; done)
    | (cases h; exact ⟨rfl, by simp⟩)
theorem ik_hd {f : Value → Value} {rv : List Value} (h : rv.length ≤ 1) : ((rv.map f).head?).toList = rv.map f := by
  match rv, h with
  | [], _ => rfl
  | [_], _ => rfl
set_option maxHeartbeats 4000000 in
theorem ik_ret_ok {p : Program} {l : Launch} {e : Env} {R : Room} {s : State} {m : MethodId} {args : Array Value} {below : List Frame} {meth : Method} {c : Code} {D : va_G} {A : Nat → Prop} {sd : Nat → Option Nat} {ad0 : Nat → Nat} {mid n0 : Nat} {pc : Nat} {loc : ik_L} {st rv : List Value} {h : List ik_E} {cl sl : Nat} {i : Instr} (hx : p.tables.exec = Jvm.exec) (hb : c.code = ik_by mid) (hr : meth.sig.returnType = ik_rt mid) (hlocks : meth.locks = false) (hi : ik_at mid pc = some i) (hrv : ik_rv (ik_rt mid) i st = some rv) :
    ik_ok p l e R s m args below meth c (MQ below (ik_Qc D A sd ad0 n0 rv h) args s cl sl A) D A s.heap sd mid n0 ad0 (pc, loc, st, h, cl, sl) := by
  have hd := ik_dec hi
  intro ad ct H locs ls hn hK hP hD hS hl
  dsimp only at hK hP hD hl ⊢
  have fin : ∀ (oc : Outcome), oc = .returned ((rv.map (ik_v ad sd)).head?) → ∀ t : State, t.heap = H → s.WarmedH t.vm → ik_Qc D A sd ad0 n0 rv h args s oc t := fun oc ho t ht hW =>
    ⟨⟨ad, ct, ho, hn, fun k ty vs hk => va_K.moved hW.alike (hK.2.1 k ty vs hk), by rw [ht]; exact hP, hD⟩, hS.F ht⟩
  unfold ik_rv at hrv
  split at hrv
  · rename_i h1
    cases hrv
    exact W.vret hx hb (hr.trans h1) (fin _ rfl) hS.2.2 hd hlocks
  · rename_i v h1
    cases hrv
    exact W.iret (v := v) hx hb (hr.trans h1) (fin _ rfl) hS.2.2 hd hlocks
  · rename_i v h1
    split at hrv
    · rename_i hv
      cases hrv
      exact W.zret (v := v) hx hb (hr.trans h1) (by rcases hv with rfl | rfl <;> decide) (fin _ rfl) hS.2.2 hd hlocks
    · cases hrv
  · rename_i v h1
    split at hrv
    · rename_i hv
      cases hrv
      exact W.zret (v := v) hx hb (hr.trans h1) hv (fin _ rfl) hS.2.2 hd hlocks
    · cases hrv
  · rename_i v h1
    split at hrv
    · rename_i hv
      cases hrv
      exact W.zret (v := v) hx hb (hr.trans h1) hv (fin _ rfl) hS.2.2 hd hlocks
    · cases hrv
  · rename_i v h1
    cases hrv
    exact W.lret (v := v) hx hb (hr.trans h1) (fin _ rfl) hS.2.2 hd hlocks
  · rename_i C v h1
    cases hrv
    exact W.aret (v := .ref (ad v)) hx hb (hr.trans h1) (Or.inl ⟨_, rfl⟩) (Or.inr ⟨_, rfl⟩) (fin _ rfl) hS.2.2 hd hlocks
  · cases hrv
