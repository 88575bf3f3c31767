/-- a switch, by its default -/
theorem ik_Wsw {X : Option (Nat × (Nat → Int32))} {mid pc : Nat} {loc : ik_L} {r : List Value} {h : List ik_E} {cl sl : Nat} {post : ik_St → Prop} {x : Int32} (d lo hi : Int) (offs : Array Int) (t : Nat) (hi0 : ik_at mid pc = some (.tableswitch d lo hi offs)) (ht : ik_tg pc d = some t) (hx : x.toInt < lo ∨ hi < x.toInt) (kk : ik_W X mid t loc r h cl sl post) : ik_W X mid pc loc (.int x :: r) h cl sl post := by
  obtain ⟨n, z, he, hp⟩ := kk
  refine ⟨n + 1, z, ?_, hp⟩
  have h1 : ik_isR (.tableswitch d lo hi offs) = false := rfl
  have h2 : ik_call mid (.tableswitch d lo hi offs) = none := rfl
  simp only [ik_ex, hi0, h1, h2, cond_false, ik_step]
  rw [if_pos hx, ht]
  exact he
/-- a switch, by one of its rows -/
theorem ik_Wsi {X : Option (Nat × (Nat → Int32))} {mid pc : Nat} {loc : ik_L} {r : List Value} {h : List ik_E} {cl sl : Nat} {post : ik_St → Prop} {x : Int32} (d lo hi : Int) (offs : Array Int) (o : Int) (t : Nat) (hi0 : ik_at mid pc = some (.tableswitch d lo hi offs)) (hx : ¬ (x.toInt < lo ∨ hi < x.toInt)) (ho : offs.toList[(x.toInt - lo).toNat]? = some o) (ht : ik_tg pc o = some t) (kk : ik_W X mid t loc r h cl sl post) : ik_W X mid pc loc (.int x :: r) h cl sl post := by
  obtain ⟨n, z, he, hp⟩ := kk
  refine ⟨n + 1, z, ?_, hp⟩
  have h1 : ik_isR (.tableswitch d lo hi offs) = false := rfl
  have h2 : ik_call mid (.tableswitch d lo hi offs) = none := rfl
  simp only [ik_ex, hi0, h1, h2, cond_false, ik_step]
  rw [if_neg hx, ho]
  dsimp only
  rw [ht]
  exact he
