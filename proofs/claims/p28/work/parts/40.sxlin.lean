noncomputable section
/-! A SYMBOLIC EXECUTOR over the abstract machine, decided in the kernel. First: linear expressions over symbols, and what is known of these. -/
abbrev sx_E : Type := Int × List (Nat × Int)
/-- bounds: how many, the last one first -/
abbrev sx_Z : Type := Nat × List (Int × Int)
def sx_zg (σ : sx_Z) (s : Nat) : Option (Int × Int) := bif Nat.blt s σ.1 then sx_get σ.2 (σ.1 - 1 - s) else none
def sx_zs (σ : sx_Z) (s : Nat) (p : Int × Int) : sx_Z := bif Nat.blt s σ.1 then (σ.1, sx_set σ.2 p (σ.1 - 1 - s)) else σ
def sx_za (σ : sx_Z) (p : Int × Int) : sx_Z := (σ.1 + 1, p :: σ.2)
abbrev sx_G : Type := sx_Z × List sx_E
def sx_sm (ν : List Int) : List (Nat × Int) → Option Int
  | [] => some 0
  | (s, k) :: r => match ν[s]?, sx_sm ν r with
    | some x, some y => some (k * x + y)
    | _, _ => none
def sx_ev (ν : List Int) (e : sx_E) : Option Int := match sx_sm ν e.2 with
  | some y => some (e.1 + y)
  | none => none
def sx_ins (s : Nat) (k : Int) : List (Nat × Int) → List (Nat × Int)
  | [] => [(s, k)]
  | (t, j) :: r => bif Nat.beq s t then (bif (k + j == 0) then r else (t, k + j) :: r) else bif Nat.blt s t then (s, k) :: (t, j) :: r else (t, j) :: sx_ins s k r
def sx_adl : List (Nat × Int) → List (Nat × Int) → List (Nat × Int)
  | [], b => b
  | (s, k) :: r, b => sx_ins s k (sx_adl r b)
def sx_add (e f : sx_E) : sx_E := (e.1 + f.1, sx_adl e.2 f.2)
def sx_mul (m : Int) : List (Nat × Int) → List (Nat × Int)
  | [] => []
  | (s, k) :: r => (s, m * k) :: sx_mul m r
def sx_scl (m : Int) (e : sx_E) : sx_E := bif (m == 0) then (0, []) else (m * e.1, sx_mul m e.2)
def sx_sub (e f : sx_E) : sx_E := (e.1 - f.1, sx_adl (sx_mul (-1) f.2) e.2)
theorem sx_ev_def {ν : List Int} {e : sx_E} {y : Int} : sx_ev ν e = some y ↔ ∃ z, sx_sm ν e.2 = some z ∧ y = e.1 + z := by
  unfold sx_ev
  split
  · rename_i z hz
    constructor
    · intro h; cases h; exact ⟨z, hz, rfl⟩
    · rintro ⟨w, hw, he⟩
      rw [hz] at hw; cases hw; rw [he]
  · rename_i hz
    constructor
    · intro h; cases h
    · rintro ⟨w, hw, _⟩
      rw [hz] at hw; cases hw
theorem sx_sm_cons {ν : List Int} {s : Nat} {k : Int} {r : List (Nat × Int)} {y : Int} : sx_sm ν ((s, k) :: r) = some y ↔ ∃ x z, ν[s]? = some x ∧ sx_sm ν r = some z ∧ y = k * x + z := by
  simp only [sx_sm]
  split
  · rename_i x z hx hz
    constructor
    · intro h; cases h; exact ⟨x, z, hx, hz, rfl⟩
    · rintro ⟨x', z', h1, h2, h3⟩
      rw [hx] at h1; cases h1
      rw [hz] at h2; cases h2
      rw [h3]
  · rename_i hn
    constructor
    · intro h; cases h
    · rintro ⟨x', z', h1, h2, _⟩
      exact absurd h2 (hn x' z' h1)
theorem sx_sm_ins {ν : List Int} {s : Nat} {k x : Int} (hx : ν[s]? = some x) : ∀ {l : List (Nat × Int)} {y : Int}, sx_sm ν l = some y → sx_sm ν (sx_ins s k l) = some (k * x + y)
  | [], y, h => by
    simp only [sx_ins]
    refine sx_sm_cons.mpr ⟨x, y, hx, h, rfl⟩
  | (t, j) :: r, y, h => by
    obtain ⟨xt, z, h1, h2, h3⟩ := sx_sm_cons.mp h
    simp only [sx_ins]
    cases hb : Nat.beq s t with
    | true =>
      have hst : s = t := Nat.eq_of_beq_eq_true hb
      subst hst
      rw [hx] at h1; cases h1
      simp only [cond_true]
      cases hk : (k + j == 0) with
      | true =>
        have : k + j = 0 := eq_of_beq hk
        simp only [cond_true]
        rw [h2, h3]
        congr 1
        have : (k + j) * x = 0 := by rw [this]; exact Int.zero_mul x
        rw [Int.add_mul] at this
        omega
      | false =>
        simp only [cond_false]
        refine sx_sm_cons.mpr ⟨x, z, hx, h2, ?_⟩
        rw [h3, Int.add_mul]; omega
    | false =>
      simp only [cond_false]
      cases Nat.blt s t with
      | true =>
        simp only [cond_true]
        exact sx_sm_cons.mpr ⟨x, y, hx, h, rfl⟩
      | false =>
        simp only [cond_false]
        refine sx_sm_cons.mpr ⟨xt, k * x + z, h1, sx_sm_ins hx h2, ?_⟩
        rw [h3]; omega
theorem sx_sm_adl {ν : List Int} : ∀ {a b : List (Nat × Int)} {y z : Int}, sx_sm ν a = some y → sx_sm ν b = some z → sx_sm ν (sx_adl a b) = some (y + z)
  | [], b, y, z, ha, hb => by
    cases ha
    simp only [sx_adl]
    rw [hb, Int.zero_add]
  | (s, k) :: r, b, y, z, ha, hb => by
    obtain ⟨x, w, h1, h2, h3⟩ := sx_sm_cons.mp ha
    simp only [sx_adl]
    rw [sx_sm_ins h1 (sx_sm_adl h2 hb), h3]
    congr 1
    omega
theorem sx_sm_mul {ν : List Int} {m : Int} : ∀ {a : List (Nat × Int)} {y : Int}, sx_sm ν a = some y → sx_sm ν (sx_mul m a) = some (m * y)
  | [], y, h => by cases h; simp only [sx_mul, sx_sm, Int.mul_zero]
  | (s, k) :: r, y, h => by
    obtain ⟨x, w, h1, h2, h3⟩ := sx_sm_cons.mp h
    simp only [sx_mul]
    refine sx_sm_cons.mpr ⟨x, m * w, h1, sx_sm_mul h2, ?_⟩
    rw [h3, Int.mul_add, Int.mul_assoc]
theorem sx_ev_add {ν : List Int} {e f : sx_E} {y z : Int} (he : sx_ev ν e = some y) (hf : sx_ev ν f = some z) : sx_ev ν (sx_add e f) = some (y + z) := by
  obtain ⟨a, ha, ea⟩ := sx_ev_def.mp he
  obtain ⟨b, hb, eb⟩ := sx_ev_def.mp hf
  refine sx_ev_def.mpr ⟨a + b, sx_sm_adl ha hb, ?_⟩
  simp only [sx_add]
  omega
theorem sx_ev_sub {ν : List Int} {e f : sx_E} {y z : Int} (he : sx_ev ν e = some y) (hf : sx_ev ν f = some z) : sx_ev ν (sx_sub e f) = some (y - z) := by
  obtain ⟨a, ha, ea⟩ := sx_ev_def.mp he
  obtain ⟨b, hb, eb⟩ := sx_ev_def.mp hf
  refine sx_ev_def.mpr ⟨-1 * b + a, sx_sm_adl (sx_sm_mul hb) ha, ?_⟩
  simp only [sx_sub]
  omega
theorem sx_ev_scl {ν : List Int} {m : Int} {e : sx_E} {y : Int} (he : sx_ev ν e = some y) : sx_ev ν (sx_scl m e) = some (m * y) := by
  obtain ⟨a, ha, ea⟩ := sx_ev_def.mp he
  unfold sx_scl
  cases hm : (m == 0) with
  | true =>
    have : m = 0 := eq_of_beq hm
    simp only [cond_true]
    refine sx_ev_def.mpr ⟨0, rfl, ?_⟩
    rw [this]; simp
  | false =>
    simp only [cond_false]
    refine sx_ev_def.mpr ⟨m * a, sx_sm_mul ha, ?_⟩
    rw [ea, Int.mul_add]
theorem sx_ev_k {ν : List Int} {c : Int} : sx_ev ν (c, []) = some c := sx_ev_def.mpr ⟨0, rfl, by simp⟩
/-! what was so stays so when symbols are added -/
theorem sx_sm_mono {ν δ : List Int} : ∀ {a : List (Nat × Int)} {y : Int}, sx_sm ν a = some y → sx_sm (ν ++ δ) a = some y
  | [], y, h => h
  | (s, k) :: r, y, h => by
    obtain ⟨x, w, h1, h2, h3⟩ := sx_sm_cons.mp h
    refine sx_sm_cons.mpr ⟨x, w, ?_, sx_sm_mono h2, h3⟩
    rw [List.getElem?_append_left (List.getElem?_eq_some_iff.mp h1).1]
    exact h1
theorem sx_ev_mono {ν δ : List Int} {e : sx_E} {y : Int} (h : sx_ev ν e = some y) : sx_ev (ν ++ δ) e = some y := by
  obtain ⟨a, ha, ea⟩ := sx_ev_def.mp h
  exact sx_ev_def.mpr ⟨a, sx_sm_mono ha, ea⟩
/-! knowledge -/
def sx_gdl : List (Int × Int) → List Int → Prop
  | [], [] => True
  | p :: r, x :: xs => p.1 ≤ x ∧ x ≤ p.2 ∧ sx_gdl r xs
  | _, _ => False
def sx_gd (σ : sx_Z) (ν : List Int) : Prop := σ.1 = σ.2.length ∧ sx_gdl σ.2 ν.reverse
def sx_ok (ν : List Int) (g : sx_G) : Prop := sx_gd g.1 ν ∧ ∀ c, c ∈ g.2 → ∃ y, sx_ev ν c = some y ∧ 0 ≤ y
theorem sx_gdl_len : ∀ {σ : List (Int × Int)} {ν : List Int}, sx_gdl σ ν → ν.length = σ.length
  | [], [], _ => rfl
  | _ :: _, _ :: _, h => by
    simp only [List.length_cons]
    rw [sx_gdl_len h.2.2]
  | [], _ :: _, h => h.elim
  | _ :: _, [], h => h.elim
theorem sx_gdl_get : ∀ {σ : List (Int × Int)} {ν : List Int} {s : Nat} {p : Int × Int}, sx_gdl σ ν → σ[s]? = some p → ∃ x, ν[s]? = some x ∧ p.1 ≤ x ∧ x ≤ p.2
  | [], _, s, p, _, h => by simp at h
  | q :: r, [], s, p, hg, h => hg.elim
  | q :: r, x :: xs, 0, p, hg, h => by
    simp only [List.getElem?_cons_zero, Option.some.injEq] at h
    subst h
    exact ⟨x, rfl, hg.1, hg.2.1⟩
  | q :: r, x :: xs, s + 1, p, hg, h => by
    simp only [List.getElem?_cons_succ] at h ⊢
    exact sx_gdl_get hg.2.2 h
theorem sx_gdl_set : ∀ {σ : List (Int × Int)} {ν : List Int} {s : Nat} {p : Int × Int} {x : Int}, sx_gdl σ ν → ν[s]? = some x → p.1 ≤ x → x ≤ p.2 → sx_gdl (σ.set s p) ν
  | [], _, s, p, _, hg, _, _, _ => hg
  | q :: r, [], s, p, _, hg, _, _, _ => hg.elim
  | q :: r, y :: ys, 0, p, x, hg, h, h1, h2 => by
    simp only [List.getElem?_cons_zero, Option.some.injEq] at h
    subst h
    exact ⟨h1, h2, hg.2.2⟩
  | q :: r, y :: ys, s + 1, p, x, hg, h, h1, h2 => by
    simp only [List.getElem?_cons_succ] at h
    exact ⟨hg.1, hg.2.1, sx_gdl_set hg.2.2 h h1 h2⟩
theorem sx_gdl_app : ∀ {σ : List (Int × Int)} {ν : List Int} {p : Int × Int} {x : Int}, sx_gdl σ ν → p.1 ≤ x → x ≤ p.2 → sx_gdl (σ ++ [p]) (ν ++ [x])
  | [], [], p, x, _, h1, h2 => ⟨h1, h2, trivial⟩
  | q :: r, y :: ys, p, x, hg, h1, h2 => ⟨hg.1, hg.2.1, sx_gdl_app hg.2.2 h1 h2⟩
  | [], _ :: _, _, _, h, _, _ => h.elim
  | _ :: _, [], _, _, h, _, _ => h.elim
theorem sx_gd_len {σ : sx_Z} {ν : List Int} (h : sx_gd σ ν) : ν.length = σ.1 := by
  rw [h.1, ← sx_gdl_len h.2, List.length_reverse]
theorem sx_rvs {ν : List Int} {n s : Nat} (hn : ν.length = n) (hs : s < n) : ν.reverse[n - 1 - s]? = ν[s]? := by
  rw [List.getElem?_reverse (by omega)]
  congr 1
  omega
theorem sx_gd_get {σ : sx_Z} {ν : List Int} {s : Nat} {p : Int × Int} (hg : sx_gd σ ν) (h : sx_zg σ s = some p) : ∃ x, ν[s]? = some x ∧ p.1 ≤ x ∧ x ≤ p.2 := by
  unfold sx_zg at h
  cases hb : Nat.blt s σ.1 with
  | false => rw [hb] at h; cases h
  | true =>
    rw [hb, cond_true, sx_get_eq] at h
    obtain ⟨x, h1, h2⟩ := sx_gdl_get hg.2 h
    rw [sx_rvs (sx_gd_len hg) (Nat.blt_eq.mp hb)] at h1
    exact ⟨x, h1, h2⟩
theorem sx_gd_set {σ : sx_Z} {ν : List Int} {s : Nat} {p : Int × Int} {x : Int} (hg : sx_gd σ ν) (h : ν[s]? = some x) (h1 : p.1 ≤ x) (h2 : x ≤ p.2) : sx_gd (sx_zs σ s p) ν := by
  unfold sx_zs
  cases hb : Nat.blt s σ.1 with
  | false => rw [cond_false]; exact hg
  | true =>
    rw [cond_true, sx_set_eq]
    refine ⟨by rw [List.length_set]; exact hg.1, sx_gdl_set hg.2 ?_ h1 h2⟩
    rw [sx_rvs (sx_gd_len hg) (Nat.blt_eq.mp hb)]
    exact h
theorem sx_gd_app {σ : sx_Z} {ν : List Int} {p : Int × Int} {x : Int} (hg : sx_gd σ ν) (h1 : p.1 ≤ x) (h2 : x ≤ p.2) : sx_gd (sx_za σ p) (ν ++ [x]) := by
  refine ⟨by unfold sx_za; rw [List.length_cons, hg.1], ?_⟩
  rw [List.reverse_append]
  exact ⟨h1, h2, hg.2⟩
/-! bounds -/
def sx_bd (σ : sx_Z) : List (Nat × Int) → Option (Int × Int)
  | [] => some (0, 0)
  | (s, k) :: r => match sx_zg σ s, sx_bd σ r with
    | some (l, u), some (L, U) => bif decide (0 ≤ k) then some (k * l + L, k * u + U) else some (k * u + L, k * l + U)
    | _, _ => none
theorem sx_bd_cons {σ : sx_Z} {s : Nat} {k : Int} {r : List (Nat × Int)} {L U : Int} (h : sx_bd σ ((s, k) :: r) = some (L, U)) : ∃ l u L' U', sx_zg σ s = some (l, u) ∧ sx_bd σ r = some (L', U') ∧ ((0 ≤ k ∧ L = k * l + L' ∧ U = k * u + U') ∨ (k < 0 ∧ L = k * u + L' ∧ U = k * l + U')) := by
  simp only [sx_bd] at h
  split at h
  · rename_i l u L' U' h1 h2
    refine ⟨l, u, L', U', h1, h2, ?_⟩
    by_cases hk : 0 ≤ k
    · rw [decide_eq_true hk] at h
      simp only [cond_true, Option.some.injEq, Prod.mk.injEq] at h
      exact Or.inl ⟨hk, h.1.symm, h.2.symm⟩
    · rw [decide_eq_false hk] at h
      simp only [cond_false, Option.some.injEq, Prod.mk.injEq] at h
      exact Or.inr ⟨by omega, h.1.symm, h.2.symm⟩
  · cases h
theorem sx_bd_ok {σ : sx_Z} {ν : List Int} (hg : sx_gd σ ν) : ∀ {a : List (Nat × Int)} {L U : Int}, sx_bd σ a = some (L, U) → ∃ y, sx_sm ν a = some y ∧ L ≤ y ∧ y ≤ U
  | [], L, U, h => by
    cases h
    exact ⟨0, rfl, Int.le_refl _, Int.le_refl _⟩
  | (s, k) :: r, L, U, h => by
    obtain ⟨l, u, L', U', h1, h2, h3⟩ := sx_bd_cons h
    obtain ⟨x, hx, hl, hu⟩ := sx_gd_get hg h1
    obtain ⟨y, hy, hL, hU⟩ := sx_bd_ok hg h2
    refine ⟨k * x + y, sx_sm_cons.mpr ⟨x, y, hx, hy, rfl⟩, ?_⟩
    rcases h3 with ⟨hk, e1, e2⟩ | ⟨hk, e1, e2⟩
    · have a1 : k * l ≤ k * x := Int.mul_le_mul_of_nonneg_left hl hk
      have a2 : k * x ≤ k * u := Int.mul_le_mul_of_nonneg_left hu hk
      omega
    · have a1 : k * u ≤ k * x := Int.mul_le_mul_of_nonpos_left (by omega) hu
      have a2 : k * x ≤ k * l := Int.mul_le_mul_of_nonpos_left (by omega) hl
      omega
def sx_eb (σ : sx_Z) (e : sx_E) : Option (Int × Int) := match sx_bd σ e.2 with
  | some (L, U) => some (e.1 + L, e.1 + U)
  | none => none
theorem sx_eb_ok {σ : sx_Z} {ν : List Int} (hg : sx_gd σ ν) {e : sx_E} {L U : Int} (h : sx_eb σ e = some (L, U)) : ∃ y, sx_ev ν e = some y ∧ L ≤ y ∧ y ≤ U := by
  unfold sx_eb at h
  split at h
  · rename_i L' U' hb
    cases h
    obtain ⟨y, hy, h1, h2⟩ := sx_bd_ok hg hb
    exact ⟨e.1 + y, sx_ev_def.mpr ⟨y, hy, rfl⟩, by omega, by omega⟩
  · cases h
def sx_n1 (σ : sx_Z) (e : sx_E) : Bool := match sx_bd σ e.2 with
  | some (L, _) => decide (0 ≤ e.1 + L)
  | none => false
def sx_nn (g : sx_G) (e : sx_E) : Bool := sx_n1 g.1 e || g.2.any (fun c => sx_n1 g.1 (sx_sub e c))
theorem sx_n1_ok {σ : sx_Z} {ν : List Int} (hg : sx_gd σ ν) {e : sx_E} (h : sx_n1 σ e = true) : ∃ y, sx_ev ν e = some y ∧ 0 ≤ y := by
  unfold sx_n1 at h
  split at h
  · rename_i L U hb
    obtain ⟨y, hy, h1, _⟩ := sx_bd_ok hg hb
    have := of_decide_eq_true h
    exact ⟨e.1 + y, sx_ev_def.mpr ⟨y, hy, rfl⟩, by omega⟩
  · cases h
theorem sx_nn_ok {ν : List Int} {g : sx_G} (hg : sx_ok ν g) {e : sx_E} {y : Int} (he : sx_ev ν e = some y) (h : sx_nn g e = true) : 0 ≤ y := by
  unfold sx_nn at h
  rcases Bool.or_eq_true_iff.mp h with h | h
  · obtain ⟨z, hz, h0⟩ := sx_n1_ok hg.1 h
    rw [he] at hz; cases hz; exact h0
  · obtain ⟨c, hc, h1⟩ := List.any_eq_true.mp h
    obtain ⟨w, hw, hw0⟩ := hg.2 c hc
    obtain ⟨z, hz, h0⟩ := sx_n1_ok hg.1 h1
    rw [sx_ev_sub he hw] at hz
    cases hz
    omega
/-! narrowing -/
def sx_rf (e : sx_E) : List (Nat × Int) → sx_Z → Option sx_Z
  | [], σ => some σ
  | (s, k) :: r, σ => match sx_zg σ s, sx_bd σ e.2 with
    | some (l, u), some (_, U) =>
      bif decide (0 < k) then (bif decide (-((e.1 + U - k * u) / k) ≤ l) then sx_rf e r σ else bif decide (u < -((e.1 + U - k * u) / k)) then none else sx_rf e r (sx_zs σ s (-((e.1 + U - k * u) / k), u)))
      else bif decide (k < 0) then (bif decide (u ≤ (e.1 + U - k * l) / (-k)) then sx_rf e r σ else bif decide ((e.1 + U - k * l) / (-k) < l) then none else sx_rf e r (sx_zs σ s (l, (e.1 + U - k * l) / (-k))))
      else sx_rf e r σ
    | _, _ => some σ
theorem sx_bd_mem {σ : sx_Z} {ν : List Int} (hg : sx_gd σ ν) {s : Nat} {k : Int} : ∀ {a : List (Nat × Int)} {L U y : Int}, (s, k) ∈ a → sx_bd σ a = some (L, U) → sx_sm ν a = some y → ∃ l u x, sx_zg σ s = some (l, u) ∧ ν[s]? = some x ∧ (0 ≤ k → y - k * x ≤ U - k * u) ∧ (k < 0 → y - k * x ≤ U - k * l)
  | (t, j) :: r, L, U, y, hm, hb, hy => by
    obtain ⟨l, u, L', U', h1, h2, h3⟩ := sx_bd_cons hb
    obtain ⟨x, z, g1, g2, g3⟩ := sx_sm_cons.mp hy
    obtain ⟨x', hx', hl, hu⟩ := sx_gd_get hg h1
    rw [g1] at hx'; cases hx'
    obtain ⟨z', hz', hzL, hzU⟩ := sx_bd_ok hg h2
    rw [g2] at hz'; cases hz'
    rcases List.mem_cons.mp hm with he | hm
    · obtain ⟨e1, e2⟩ := Prod.mk.inj he
      subst e1; subst e2
      refine ⟨l, u, x, h1, g1, ?_, ?_⟩
      · intro hk
        rcases h3 with ⟨_, _, e2⟩ | ⟨hk', _, _⟩
        · omega
        · omega
      · intro hk
        rcases h3 with ⟨hk', _, _⟩ | ⟨_, _, e2⟩
        · omega
        · omega
    · obtain ⟨ls, us, xs, q1, q2, q3, q4⟩ := sx_bd_mem hg hm h2 g2
      have hh : j * x ≤ U - U' := by
        rcases h3 with ⟨hk', _, e2⟩ | ⟨hk', _, e2⟩
        · have : j * x ≤ j * u := Int.mul_le_mul_of_nonneg_left hu hk'
          omega
        · have : j * x ≤ j * l := Int.mul_le_mul_of_nonpos_left (by omega) hl
          omega
      refine ⟨ls, us, xs, q1, q2, ?_, ?_⟩
      · intro hk
        have := q3 hk
        omega
      · intro hk
        have := q4 hk
        omega
theorem sx_rf_ok {ν : List Int} {e : sx_E} {y : Int} (he : sx_ev ν e = some y) (h0 : 0 ≤ y) : ∀ {r : List (Nat × Int)} {σ : sx_Z}, (∀ q, q ∈ r → q ∈ e.2) → sx_gd σ ν → ∃ σ', sx_rf e r σ = some σ' ∧ sx_gd σ' ν
  | [], σ, _, hg => ⟨σ, rfl, hg⟩
  | (s, k) :: r, σ, hm, hg => by
    have hm' : ∀ q, q ∈ r → q ∈ e.2 := fun q hq => hm q (List.mem_cons_of_mem _ hq)
    simp only [sx_rf]
    split
    · rename_i l u L U h1 h2
      obtain ⟨z, hz, ez⟩ := sx_ev_def.mp he
      obtain ⟨l', u', x, q1, q2, q3, q4⟩ := sx_bd_mem hg (hm (s, k) List.mem_cons_self) h2 hz
      rw [h1] at q1
      cases q1
      obtain ⟨x', hx', hl, hu⟩ := sx_gd_get hg h1
      rw [q2] at hx'; cases hx'
      by_cases hk : 0 < k
      · rw [decide_eq_true hk]
        simp only [cond_true]
        have hb : -((e.1 + U - k * u) / k) ≤ x := by
          have : -x ≤ (e.1 + U - k * u) / k := by
            refine Int.le_ediv_of_mul_le hk ?_
            have := q3 (by omega)
            rw [Int.neg_mul, Int.mul_comm x k]
            omega
          omega
        cases hz : decide (-((e.1 + U - k * u) / k) ≤ l) with
        | true =>
          simp only [cond_true]
          exact sx_rf_ok he h0 hm' hg
        | false =>
          rw [decide_eq_false (by omega : ¬ u < -((e.1 + U - k * u) / k))]
          simp only [cond_false]
          exact sx_rf_ok he h0 hm' (sx_gd_set hg q2 hb hu)
      · rw [decide_eq_false hk]
        simp only [cond_false]
        by_cases hk2 : k < 0
        · rw [decide_eq_true hk2]
          simp only [cond_true]
          have hb : x ≤ (e.1 + U - k * l) / (-k) := by
            refine Int.le_ediv_of_mul_le (by omega) ?_
            have := q4 hk2
            rw [Int.mul_neg, Int.mul_comm x k]
            omega
          cases hz : decide (u ≤ (e.1 + U - k * l) / (-k)) with
          | true =>
            simp only [cond_true]
            exact sx_rf_ok he h0 hm' hg
          | false =>
            rw [decide_eq_false (by omega : ¬ (e.1 + U - k * l) / (-k) < l)]
            simp only [cond_false]
            exact sx_rf_ok he h0 hm' (sx_gd_set hg q2 hl hb)
        · rw [decide_eq_false hk2]
          simp only [cond_false]
          exact sx_rf_ok he h0 hm' hg
    · exact ⟨σ, rfl, hg⟩
def sx_rfs : List sx_E → sx_Z → Option sx_Z
  | [], σ => some σ
  | c :: r, σ => match sx_rf c c.2 σ with
    | none => none
    | some σ' => sx_rfs r σ'
theorem sx_rfs_ok {ν : List Int} : ∀ {cs : List sx_E} {σ : sx_Z}, (∀ c, c ∈ cs → ∃ y, sx_ev ν c = some y ∧ 0 ≤ y) → sx_gd σ ν → ∃ σ', sx_rfs cs σ = some σ' ∧ sx_gd σ' ν
  | [], σ, _, hg => ⟨σ, rfl, hg⟩
  | c :: r, σ, hc, hg => by
    obtain ⟨y, hy, h0⟩ := hc c List.mem_cons_self
    obtain ⟨σ', h1, h2⟩ := sx_rf_ok hy h0 (fun q hq => hq) hg
    simp only [sx_rfs, h1]
    exact sx_rfs_ok (fun q hq => hc q (List.mem_cons_of_mem _ hq)) h2
/-- e is not below 0: what is known then; none: it can't be -/
def sx_as (g : sx_G) (e : sx_E) : Option sx_G :=
  bif sx_nn g (sx_sub (-1, []) e) then none
  else bif sx_n1 g.1 e then some g
  else match sx_rf e e.2 g.1 with
    | none => none
    | some σ => match sx_rfs g.2 σ with
      | none => none
      | some σ' => some (σ', bif Nat.blt 1 e.2.length then e :: g.2 else g.2)
theorem sx_as_ok {ν : List Int} {g : sx_G} (hg : sx_ok ν g) {e : sx_E} {y : Int} (he : sx_ev ν e = some y) (h0 : 0 ≤ y) : ∃ g', sx_as g e = some g' ∧ sx_ok ν g' := by
  unfold sx_as
  cases hn : sx_nn g (sx_sub (-1, []) e) with
  | true =>
    have := sx_nn_ok hg (sx_ev_sub sx_ev_k he) hn
    omega
  | false =>
    simp only [cond_false]
    cases h1 : sx_n1 g.1 e with
    | true => exact ⟨g, rfl, hg⟩
    | false =>
      simp only [cond_false]
      obtain ⟨σ, h2, h3⟩ := sx_rf_ok he h0 (fun q hq => hq) hg.1
      obtain ⟨σ', h4, h5⟩ := sx_rfs_ok hg.2 h3
      simp only [h2, h4]
      refine ⟨_, rfl, h5, ?_⟩
      intro c hc
      cases hl : Nat.blt 1 e.2.length with
      | true =>
        rw [hl] at hc
        simp only [cond_true] at hc
        rcases List.mem_cons.mp hc with rfl | hc
        · exact ⟨y, he, h0⟩
        · exact hg.2 c hc
      | false =>
        rw [hl] at hc
        simp only [cond_false] at hc
        exact hg.2 c hc
/-- several -/
def sx_ass (g : sx_G) : List sx_E → Option sx_G
  | [] => some g
  | e :: r => match sx_as g e with
    | none => none
    | some g' => sx_ass g' r
theorem sx_ass_ok {ν : List Int} : ∀ {es : List sx_E} {g : sx_G}, sx_ok ν g → (∀ e, e ∈ es → ∃ y, sx_ev ν e = some y ∧ 0 ≤ y) → ∃ g', sx_ass g es = some g' ∧ sx_ok ν g'
  | [], g, hg, _ => ⟨g, rfl, hg⟩
  | e :: r, g, hg, h => by
    obtain ⟨y, hy, h0⟩ := h e List.mem_cons_self
    obtain ⟨g', h1, h2⟩ := sx_as_ok hg hy h0
    simp only [sx_ass, h1]
    exact sx_ass_ok h2 (fun q hq => h q (List.mem_cons_of_mem _ hq))
/-- a new symbol -/
def sx_fr (g : sx_G) (l u : Int) : sx_G × sx_E := ((sx_za g.1 (l, u), g.2), (0, [(g.1.1, 1)]))
theorem sx_fr_ok {ν : List Int} {g : sx_G} (hg : sx_ok ν g) {l u x : Int} (h1 : l ≤ x) (h2 : x ≤ u) : sx_ok (ν ++ [x]) (sx_fr g l u).1 ∧ sx_ev (ν ++ [x]) (sx_fr g l u).2 = some x := by
  refine ⟨⟨sx_gd_app hg.1 h1 h2, ?_⟩, ?_⟩
  · intro c hc
    obtain ⟨y, hy, h0⟩ := hg.2 c hc
    exact ⟨y, sx_ev_mono hy, h0⟩
  · refine sx_ev_def.mpr ⟨x, ?_, ?_⟩
    · refine sx_sm_cons.mpr ⟨x, 0, ?_, rfl, by omega⟩
      rw [← sx_gd_len hg.1]
      simp
    · simp [sx_fr]
/-- the one value that an expression has, if it has one -/
def sx_k (g : sx_G) (e : sx_E) : Option Int := match sx_eb g.1 e with
  | some (L, U) => bif (L == U) then some L else none
  | none => none
theorem sx_k_ok {ν : List Int} {g : sx_G} (hg : sx_ok ν g) {e : sx_E} {y c : Int} (he : sx_ev ν e = some y) (h : sx_k g e = some c) : y = c := by
  unfold sx_k at h
  split at h
  · rename_i L U hb
    obtain ⟨z, hz, h1, h2⟩ := sx_eb_ok hg.1 hb
    rw [he] at hz; cases hz
    cases hq : (L == U) with
    | true =>
      rw [hq] at h
      have : L = U := eq_of_beq hq
      simp only [cond_true, Option.some.injEq] at h
      omega
    | false => rw [hq] at h; cases h
  · cases h
/-- is an expression in l .. u -/
def sx_inb (g : sx_G) (e : sx_E) (l u : Int) : Bool := sx_nn g (sx_sub e (l, [])) && sx_nn g (sx_sub (u, []) e)
theorem sx_inb_ok {ν : List Int} {g : sx_G} (hg : sx_ok ν g) {e : sx_E} {y l u : Int} (he : sx_ev ν e = some y) (h : sx_inb g e l u = true) : l ≤ y ∧ y ≤ u := by
  unfold sx_inb at h
  obtain ⟨h1, h2⟩ := Bool.and_eq_true_iff.mp h
  have a1 := sx_nn_ok hg (sx_ev_sub he sx_ev_k) h1
  have a2 := sx_nn_ok hg (sx_ev_sub sx_ev_k he) h2
  omega
end
