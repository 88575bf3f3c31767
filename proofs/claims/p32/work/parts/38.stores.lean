/-- stores into long rows of which only the length matters from then on -/
theorem ik_WbG {X : Option (Nat × (Nat → Int32))} {mid pc : Nat} {loc : ik_L} {r : List Value} {h : List ik_E} {cl sl : Nat} {post : ik_St → Prop} {x i : Int32} {a : Nat} (vs : List Value) (hi : ik_at mid pc = some .bastore) (hc : h[a]? = some (.inl (.byte, vs))) (h0 : ¬ i < 0) (hb : i.toNatClampNeg < vs.length) (kk : ∀ vs' : List Value, vs'.length = vs.length → ik_W X mid (pc + 1) loc r (h.set a (.inl (.byte, vs'))) cl sl post) : ik_W X mid pc loc (.int x :: .int i :: .ref a :: r) h cl sl post := by
  obtain ⟨n, z, he, hp⟩ := kk (vs.set i.toNatClampNeg (.int (vp_nar .byte x))) List.length_set
  refine ⟨n + 1, z, ?_, hp⟩
  have h1 : ik_isR .bastore = false := rfl
  have h2 : ik_call mid .bastore = none := rfl
  have h3 : ¬ i < 0 ∧ i.toNatClampNeg < vs.length := ⟨h0, hb⟩
  simp only [ik_ex, hi, h1, h2, cond_false, ik_step, hc, ik_bo]
  rw [if_pos h3]
  exact he
theorem ik_WiG {X : Option (Nat × (Nat → Int32))} {mid pc : Nat} {loc : ik_L} {r : List Value} {h : List ik_E} {cl sl : Nat} {post : ik_St → Prop} {x i : Int32} {a : Nat} (vs : List Value) (hi : ik_at mid pc = some .iastore) (hc : h[a]? = some (.inl (.int, vs))) (h0 : ¬ i < 0) (hb : i.toNatClampNeg < vs.length) (kk : ∀ vs' : List Value, vs'.length = vs.length → ik_W X mid (pc + 1) loc r (h.set a (.inl (.int, vs'))) cl sl post) : ik_W X mid pc loc (.int x :: .int i :: .ref a :: r) h cl sl post := by
  obtain ⟨n, z, he, hp⟩ := kk (vs.set i.toNatClampNeg (.int x)) List.length_set
  refine ⟨n + 1, z, ?_, hp⟩
  have h1 : ik_isR .iastore = false := rfl
  have h2 : ik_call mid .iastore = none := rfl
  have h3 : ¬ i < 0 ∧ i.toNatClampNeg < vs.length := ⟨h0, hb⟩
  simp only [ik_ex, hi, h1, h2, cond_false, ik_step, hc, ik_bo]
  rw [if_pos h3]
  exact he
