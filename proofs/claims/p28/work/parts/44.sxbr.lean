noncomputable section
/-! branches of the executor; what a state stands for -/
def sx_gt (g : sx_G) (e : sx_E) : Option sx_G := sx_as g (sx_sub e (1, []))
def sx_lt (g : sx_G) (e : sx_E) : Option sx_G := sx_as g (sx_sub (-1, []) e)
def sx_le (g : sx_G) (e : sx_E) : Option sx_G := sx_as g (sx_scl (-1) e)
def sx_eq (g : sx_G) (e : sx_E) : Option sx_G := match sx_as g e with
  | some g' => sx_as g' (sx_scl (-1) e)
  | none => none
def sx_ne (g : sx_G) (e : sx_E) : Option sx_G := bif sx_nn g e then sx_gt g e else bif sx_nn g (sx_scl (-1) e) then sx_lt g e else some g
theorem sx_gt_ok {ν : List Int} {g : sx_G} (hg : sx_ok ν g) {e : sx_E} {y : Int} (he : sx_ev ν e = some y) (h : 0 < y) : ∃ g', sx_gt g e = some g' ∧ sx_ok ν g' := sx_as_ok hg (sx_ev_sub he sx_ev_k) (by omega)
theorem sx_lt_ok {ν : List Int} {g : sx_G} (hg : sx_ok ν g) {e : sx_E} {y : Int} (he : sx_ev ν e = some y) (h : y < 0) : ∃ g', sx_lt g e = some g' ∧ sx_ok ν g' := sx_as_ok hg (sx_ev_sub sx_ev_k he) (by omega)
theorem sx_le_ok {ν : List Int} {g : sx_G} (hg : sx_ok ν g) {e : sx_E} {y : Int} (he : sx_ev ν e = some y) (h : y ≤ 0) : ∃ g', sx_le g e = some g' ∧ sx_ok ν g' := sx_as_ok hg (sx_ev_scl he) (by omega)
theorem sx_eq_ok {ν : List Int} {g : sx_G} (hg : sx_ok ν g) {e : sx_E} {y : Int} (he : sx_ev ν e = some y) (h : y = 0) : ∃ g', sx_eq g e = some g' ∧ sx_ok ν g' := by
  obtain ⟨g1, h1, h2⟩ := sx_as_ok hg he (by omega)
  unfold sx_eq
  rw [h1]
  exact sx_as_ok h2 (sx_ev_scl he) (by omega)
theorem sx_ne_ok {ν : List Int} {g : sx_G} (hg : sx_ok ν g) {e : sx_E} {y : Int} (he : sx_ev ν e = some y) (h : ¬ y = 0) : ∃ g', sx_ne g e = some g' ∧ sx_ok ν g' := by
  unfold sx_ne
  cases h1 : sx_nn g e with
  | true =>
    have := sx_nn_ok hg he h1
    exact sx_gt_ok hg he (by omega)
  | false =>
    simp only [cond_false]
    cases h2 : sx_nn g (sx_scl (-1) e) with
    | true =>
      have := sx_nn_ok hg (sx_ev_scl he) h2
      exact sx_lt_ok hg he (by omega)
    | false => exact ⟨g, rfl, hg⟩
def sx_cd (c : Jvm.ClassFile.Cond) (g : sx_G) (e : sx_E) : Option sx_G × Option sx_G := match c with
  | .eq => (sx_eq g e, sx_ne g e)
  | .ne => (sx_ne g e, sx_eq g e)
  | .lt => (sx_lt g e, sx_as g e)
  | .ge => (sx_as g e, sx_lt g e)
  | .gt => (sx_gt g e, sx_le g e)
  | .le => (sx_le g e, sx_gt g e)
def sx_tr (c : Jvm.ClassFile.Cond) (y : Int) : Prop := match c with
  | .eq => y = 0
  | .ne => ¬ y = 0
  | .lt => y < 0
  | .ge => 0 ≤ y
  | .gt => 0 < y
  | .le => y ≤ 0
theorem sx_cd_ok {ν : List Int} {g : sx_G} (hg : sx_ok ν g) {e : sx_E} {y : Int} (he : sx_ev ν e = some y) (c : Jvm.ClassFile.Cond) : (sx_tr c y → ∃ g', (sx_cd c g e).1 = some g' ∧ sx_ok ν g') ∧ (¬ sx_tr c y → ∃ g', (sx_cd c g e).2 = some g' ∧ sx_ok ν g') := by
  cases c
  · exact ⟨fun h => sx_eq_ok hg he h, fun h => sx_ne_ok hg he h⟩
  · exact ⟨fun h => sx_ne_ok hg he h, fun h => sx_eq_ok hg he (Classical.not_not.mp h)⟩
  · exact ⟨fun h => sx_lt_ok hg he h, fun h => sx_as_ok hg he (Int.not_lt.mp h)⟩
  · exact ⟨fun h => sx_as_ok hg he h, fun h => sx_lt_ok hg he (Int.not_le.mp h)⟩
  · exact ⟨fun h => sx_gt_ok hg he h, fun h => sx_le_ok hg he (Int.not_lt.mp h)⟩
  · exact ⟨fun h => sx_le_ok hg he h, fun h => sx_gt_ok hg he (Int.not_le.mp h)⟩
def sx_o1 (t : Nat) (l : sx_L) (s : List sx_V) (H : sx_H) (o : Option sx_G) : List (Nat × sx_S) := match o with
  | some g => [(t, g, l, s, H)]
  | none => []
def sx_o2 (t e : Nat) (l : sx_L) (s : List sx_V) (H : sx_H) (p : Option sx_G × Option sx_G) : List (Nat × sx_S) := match p with
  | (a, b) => sx_o1 t l s H a ++ sx_o1 e l s H b
/-- what a state stands for -/
def sx_rr (ν : List Int) (S : sx_S) (loc : ik_L) (st : List Value) (h : List ik_E) : Prop := sx_ok ν S.1 ∧ sx_lr ν h.length S.2.1 loc ∧ sx_sr ν S.2.2.1 st ∧ sx_hr ν S.2.2.2 h
/-- a step of the machine, and one of the states that the executor goes on with -/
def sx_sd (M : sx_M) (h0 : List ik_E) (ν : List Int) (L : List (Nat × sx_S)) (z : Option ik_St) (h : List ik_E) (cl sl : Nat) : Prop := ∃ pc' loc' st' h', z = some (pc', loc', st', h', cl, sl) ∧ h'.length = h.length ∧ sx_fm M h0 h' ∧ ∃ S' δ, (pc', S') ∈ L ∧ sx_rr (ν ++ δ) S' loc' st' h'
theorem sx_br {M : sx_M} {h0 : List ik_E} {ν : List Int} {g : sx_G} {l : sx_L} {s : List sx_V} {H : sx_H} {loc : ik_L} {st : List Value} {h : List ik_E} {cl sl t e : Nat} {ex : sx_E} {y : Int} {c : Jvm.ClassFile.Cond} {b : Prop} [Decidable b] (hg : sx_ok ν g) (hl : sx_lr ν h.length l loc) (hs : sx_sr ν s st) (hh : sx_hr ν H h) (hf : sx_fm M h0 h) (he : sx_ev ν ex = some y) (hb : b ↔ sx_tr c y) : sx_sd M h0 ν (sx_o2 t e l s H (sx_cd c g ex)) (some (if b then t else e, loc, st, h, cl, sl)) h cl sl := by
  obtain ⟨k1, k2⟩ := sx_cd_ok hg he c
  by_cases hq : b
  · obtain ⟨g', e1, e2⟩ := k1 (hb.mp hq)
    refine ⟨t, loc, st, h, by rw [if_pos hq], rfl, hf, (g', l, s, H), [], ?_, ?_⟩
    · unfold sx_o2
      dsimp only
      rw [e1]
      exact List.mem_append_left _ (List.mem_singleton.mpr rfl)
    · rw [List.append_nil]
      exact ⟨e2, hl, hs, hh⟩
  · obtain ⟨g', e1, e2⟩ := k2 (fun q => hq (hb.mpr q))
    refine ⟨e, loc, st, h, by rw [if_neg hq], rfl, hf, (g', l, s, H), [], ?_, ?_⟩
    · unfold sx_o2
      dsimp only
      rw [e1]
      exact List.mem_append_right _ (List.mem_singleton.mpr rfl)
    · rw [List.append_nil]
      exact ⟨e2, hl, hs, hh⟩
/-- not equal: above or below -/
def sx_o3 (c : Jvm.ClassFile.Cond) (t e : Nat) (l : sx_L) (s : List sx_V) (H : sx_H) (g : sx_G) (x : sx_E) : List (Nat × sx_S) := match c with
  | .eq => sx_o1 t l s H (sx_eq g x) ++ (sx_o1 e l s H (sx_gt g x) ++ sx_o1 e l s H (sx_lt g x))
  | .ne => sx_o1 e l s H (sx_eq g x) ++ (sx_o1 t l s H (sx_gt g x) ++ sx_o1 t l s H (sx_lt g x))
  | c => sx_o2 t e l s H (sx_cd c g x)
theorem sx_br3 {M : sx_M} {h0 : List ik_E} {ν : List Int} {g : sx_G} {l : sx_L} {s : List sx_V} {H : sx_H} {loc : ik_L} {st : List Value} {h : List ik_E} {cl sl t e : Nat} {ex : sx_E} {y : Int} {c : Jvm.ClassFile.Cond} {b : Prop} [Decidable b] (hg : sx_ok ν g) (hl : sx_lr ν h.length l loc) (hs : sx_sr ν s st) (hh : sx_hr ν H h) (hf : sx_fm M h0 h) (he : sx_ev ν ex = some y) (hb : b ↔ sx_tr c y) : sx_sd M h0 ν (sx_o3 c t e l s H g ex) (some (if b then t else e, loc, st, h, cl, sl)) h cl sl := by
  have fin : ∀ (t' : Nat) (g' : sx_G), (if b then t else e) = t' → sx_ok ν g' → (t', g', l, s, H) ∈ sx_o3 c t e l s H g ex → sx_sd M h0 ν (sx_o3 c t e l s H g ex) (some (if b then t else e, loc, st, h, cl, sl)) h cl sl := by
    intro t' g' e1 e2 e3
    refine ⟨t', loc, st, h, by rw [e1], rfl, hf, (g', l, s, H), [], e3, ?_⟩
    rw [List.append_nil]
    exact ⟨e2, hl, hs, hh⟩
  cases c with
  | eq =>
    by_cases h0' : y = 0
    · obtain ⟨g', q1, q2⟩ := sx_eq_ok hg he h0'
      refine fin t g' (if_pos (hb.mpr h0')) q2 ?_
      simp only [sx_o3, q1]
      exact List.mem_append_left _ (List.mem_singleton.mpr rfl)
    · by_cases h1 : 0 < y
      · obtain ⟨g', q1, q2⟩ := sx_gt_ok hg he h1
        refine fin e g' (if_neg fun w => h0' (hb.mp w)) q2 ?_
        simp only [sx_o3, q1]
        exact List.mem_append_right _ (List.mem_append_left _ (List.mem_singleton.mpr rfl))
      · obtain ⟨g', q1, q2⟩ := sx_lt_ok hg he (by omega)
        refine fin e g' (if_neg fun w => h0' (hb.mp w)) q2 ?_
        simp only [sx_o3, q1]
        exact List.mem_append_right _ (List.mem_append_right _ (List.mem_singleton.mpr rfl))
  | ne =>
    by_cases h0' : y = 0
    · obtain ⟨g', q1, q2⟩ := sx_eq_ok hg he h0'
      refine fin e g' (if_neg fun w => (hb.mp w) h0') q2 ?_
      simp only [sx_o3, q1]
      exact List.mem_append_left _ (List.mem_singleton.mpr rfl)
    · by_cases h1 : 0 < y
      · obtain ⟨g', q1, q2⟩ := sx_gt_ok hg he h1
        refine fin t g' (if_pos (hb.mpr h0')) q2 ?_
        simp only [sx_o3, q1]
        exact List.mem_append_right _ (List.mem_append_left _ (List.mem_singleton.mpr rfl))
      · obtain ⟨g', q1, q2⟩ := sx_lt_ok hg he (by omega)
        refine fin t g' (if_pos (hb.mpr h0')) q2 ?_
        simp only [sx_o3, q1]
        exact List.mem_append_right _ (List.mem_append_right _ (List.mem_singleton.mpr rfl))
  | lt => exact sx_br (c := .lt) hg hl hs hh hf he hb
  | ge => exact sx_br (c := .ge) hg hl hs hh hf he hb
  | gt => exact sx_br (c := .gt) hg hl hs hh hf he hb
  | le => exact sx_br (c := .le) hg hl hs hh hf he hb
/-! taking values off the stack -/
theorem sx_p1 {ν : List Int} {a : sx_V} {r : List sx_V} {st : List Value} (h : sx_sr ν (a :: r) st) : ∃ v st', st = v :: st' ∧ sx_vr ν a v ∧ sx_sr ν r st' := by
  cases st with
  | nil => exact h.elim
  | cons v st' => exact ⟨v, st', rfl, h.1, h.2⟩
theorem sx_pI {ν : List Int} {e : sx_E} {r : List sx_V} {st : List Value} (h : sx_sr ν (.inl e :: r) st) : ∃ x st', st = .int x :: st' ∧ sx_ev ν e = some x.toInt ∧ sx_sr ν r st' := by
  obtain ⟨v, st', rfl, ⟨x, rfl, hx⟩, h2⟩ := sx_p1 h
  exact ⟨x, st', rfl, hx, h2⟩
theorem sx_pL {ν : List Int} {e : sx_E} {r : List sx_V} {st : List Value} (h : sx_sr ν (.inr (.inl e) :: r) st) : ∃ x st', st = .long x :: st' ∧ sx_ev ν e = some x.toInt ∧ sx_sr ν r st' := by
  obtain ⟨v, st', rfl, ⟨x, rfl, hx⟩, h2⟩ := sx_p1 h
  exact ⟨x, st', rfl, hx, h2⟩
theorem sx_pA {ν : List Int} {ks : List Nat} {r : List sx_V} {st : List Value} (h : sx_sr ν (.inr (.inr (.inl ks)) :: r) st) : ∃ k st', st = .ref k :: st' ∧ k ∈ ks ∧ sx_sr ν r st' := by
  obtain ⟨v, st', rfl, ⟨x, hx, rfl⟩, h2⟩ := sx_p1 h
  exact ⟨x, st', rfl, hx, h2⟩
theorem sx_pO {ν : List Int} {k : Nat} {r : List sx_V} {st : List Value} (h : sx_sr ν (.inr (.inr (.inr (.inl k))) :: r) st) : ∃ st', st = .retAddr k :: st' ∧ sx_sr ν r st' := by
  obtain ⟨v, st', rfl, h1, h2⟩ := sx_p1 h
  cases h1
  exact ⟨st', rfl, h2⟩
theorem sx_pC {ν : List Int} {e : sx_E} {r : List sx_V} {st : List Value} (h : sx_sr ν (.inr (.inr (.inr (.inr (.inr (.inr e))))) :: r) st) : ∃ x st' y, st = .int x :: st' ∧ sx_ev ν e = some y ∧ (x.toInt < 0 ↔ y < 0) ∧ (0 < x.toInt ↔ 0 < y) ∧ sx_sr ν r st' := by
  obtain ⟨v, st', rfl, ⟨x, rfl, y, hy, h3, h4⟩, h2⟩ := sx_p1 h
  exact ⟨x, st', y, rfl, hy, h3, h4, h2⟩
/-! one state behind an instruction -/
def sx_oi (pc : Nat) (l : sx_L) (r : List sx_V) (H : sx_H) (p : sx_G × sx_E) : Option (List (Nat × sx_S)) := match p with
  | (g, e) => some [(pc, g, l, .inl e :: r, H)]
def sx_ol (pc : Nat) (l : sx_L) (r : List sx_V) (H : sx_H) (p : sx_G × sx_E) : Option (List (Nat × sx_S)) := match p with
  | (g, e) => some [(pc, g, l, .inr (.inl e) :: r, H)]
theorem sx_oi_ok {M : sx_M} {h0 : List ik_E} {ν : List Int} {l : sx_L} {r : List sx_V} {H : sx_H} {loc : ik_L} {st : List Value} {h : List ik_E} {cl sl pc : Nat} {p : sx_G × sx_E} {z : Int32} {L : List (Nat × sx_S)} (hs : sx_oi pc l r H p = some L) (hv : sx_gv ν p z.toInt) (hl : sx_lr ν h.length l loc) (hr : sx_sr ν r st) (hh : sx_hr ν H h) (hf : sx_fm M h0 h) : sx_sd M h0 ν L (some (pc, loc, .int z :: st, h, cl, sl)) h cl sl := by
  obtain ⟨g, e⟩ := p
  cases hs
  obtain ⟨δ, h1, h2⟩ := hv
  exact ⟨_, _, _, _, rfl, rfl, hf, _, δ, List.mem_singleton.mpr rfl, h1, sx_lr_mono hl, ⟨⟨z, rfl, h2⟩, sx_sr_mono hr⟩, sx_hr_mono hh⟩
theorem sx_ol_ok {M : sx_M} {h0 : List ik_E} {ν : List Int} {l : sx_L} {r : List sx_V} {H : sx_H} {loc : ik_L} {st : List Value} {h : List ik_E} {cl sl pc : Nat} {p : sx_G × sx_E} {z : Int64} {L : List (Nat × sx_S)} (hs : sx_ol pc l r H p = some L) (hv : sx_gv ν p z.toInt) (hl : sx_lr ν h.length l loc) (hr : sx_sr ν r st) (hh : sx_hr ν H h) (hf : sx_fm M h0 h) : sx_sd M h0 ν L (some (pc, loc, .long z :: st, h, cl, sl)) h cl sl := by
  obtain ⟨g, e⟩ := p
  cases hs
  obtain ⟨δ, h1, h2⟩ := hv
  exact ⟨_, _, _, _, rfl, rfl, hf, _, δ, List.mem_singleton.mpr rfl, h1, sx_lr_mono hl, ⟨⟨z, rfl, h2⟩, sx_sr_mono hr⟩, sx_hr_mono hh⟩
theorem sx_o_ok {M : sx_M} {h0 : List ik_E} {ν : List Int} {g : sx_G} {l : sx_L} {s : List sx_V} {H : sx_H} {loc : ik_L} {st : List Value} {h : List ik_E} {cl sl pc : Nat} (hg : sx_ok ν g) (hl : sx_lr ν h.length l loc) (hr : sx_sr ν s st) (hh : sx_hr ν H h) (hf : sx_fm M h0 h) : sx_sd M h0 ν [(pc, g, l, s, H)] (some (pc, loc, st, h, cl, sl)) h cl sl :=
  ⟨_, _, _, _, rfl, rfl, hf, _, [], List.mem_singleton.mpr rfl, by rw [List.append_nil]; exact ⟨hg, hl, hr, hh⟩⟩
/-- a switch's rows -/
def sx_sw (g : sx_G) (e : sx_E) (l : sx_L) (r : List sx_V) (H : sx_H) (pc : Nat) : Int → List Int → Option (List (Nat × sx_S))
  | _, [] => some []
  | v, o :: os => match ik_tg pc o, sx_sw g e l r H pc (v + 1) os with
    | some t, some L => some (sx_o1 t l r H (sx_eq g (sx_sub e (v, []))) ++ L)
    | _, _ => none
theorem sx_sw_ok {ν : List Int} {g : sx_G} (hg : sx_ok ν g) {e : sx_E} {y : Int} (he : sx_ev ν e = some y) {l : sx_L} {r : List sx_V} {H : sx_H} {pc : Nat} : ∀ {os : List Int} {v : Int} {L : List (Nat × sx_S)}, sx_sw g e l r H pc v os = some L → v ≤ y → y < v + os.length → ∃ o t g', os[(y - v).toNat]? = some o ∧ ik_tg pc o = some t ∧ (t, g', l, r, H) ∈ L ∧ sx_ok ν g'
  | [], v, L, hs, h1, h2 => by
    simp only [List.length_nil] at h2
    omega
  | o :: os, v, L, hs, h1, h2 => by
    simp only [sx_sw] at hs
    split at hs
    · rename_i t L' ht hL
      cases hs
      by_cases hv : y = v
      · obtain ⟨g', e1, e2⟩ := sx_eq_ok hg (sx_ev_sub he (sx_ev_k (c := v))) (by omega)
        refine ⟨o, t, g', ?_, ht, ?_, e2⟩
        · rw [show (y - v).toNat = 0 by omega]; rfl
        · rw [e1]
          exact List.mem_append_left _ (List.mem_singleton.mpr rfl)
      · simp only [List.length_cons] at h2
        obtain ⟨o', t', g', q1, q2, q3, q4⟩ := sx_sw_ok hg he hL (by omega) (by omega)
        refine ⟨o', t', g', ?_, q2, List.mem_append_right _ q3, q4⟩
        rw [show (y - v).toNat = (y - (v + 1)).toNat + 1 by omega, List.getElem?_cons_succ]
        exact q1
    · cases hs
end
