noncomputable section
/-! the rows of the reference's stream: what is known of each place ahead of the bridge (many moves, their odds sum up to 100, their goals are places) -/
def qf_pl : sx_Q := (1, 66, 0)
def qf_rp : sx_Q := (1, 66, 17)
def qf_rx (am ao off p m : Nat) : List sx_X := [(-(m : Int), [(1, 1, am, p)]), ((m : Int), [(-1, 1, am, p)])] ++ (List.range m).map (fun k => (-1, [(1, 1, ao, off + 4 * p + k)])) ++ (List.range m).map (fun k => (100, [(-1, 1, ao, off + 4 * p + k)])) ++ [(-100, (List.range m).map (fun k => (1, 1, ao, off + 4 * p + k))), (100, (List.range m).map (fun k => (-1, 1, ao, off + 4 * p + k)))]
def qf_tx (at' : Nat) (pl : sx_Q) (p m : Nat) : List sx_X := (List.range m).map (fun k => (-1, [(1, pl), (-1, 1, at', 4 * p + k)]))
def qf_lo (pl : sx_Q) (p : Nat) : sx_X := (((p + 1 : Nat) : Int), [(-1, pl)])
def qf_hi (pl : sx_Q) (p : Nat) : sx_X := (-((p + 2 : Nat) : Int), [(1, pl)])
/-- the stream as it lies -/
def qf_F (p : Nat) : sx_D := [qf_lo qf_pl p] :: [1, 2, 3, 4].map (fun m => qf_hi qf_pl p :: (qf_rx 67 69 0 p m ++ qf_tx 68 qf_pl p m))
/-- an image -/
def qf_I (i p : Nat) : sx_D := [qf_lo qf_pl p] :: [(0, [(-1, 1, 93, i)])] :: [1, 2, 3, 4].map (fun m => qf_hi qf_pl p :: (qf_rx 67 92 (80 * i) p m ++ qf_tx 68 qf_pl p m))
/-- a row as it was read; the same with goals not held against the places yet; and with them -/
def qf_R (p : Nat) : sx_D := [1, 2, 3, 4].map (fun m => qf_rx 73 75 0 p m)
def qf_E (p : Nat) : sx_D := [qf_lo qf_rp p] :: [1, 2, 3, 4].map (fun m => qf_rx 73 75 0 p m)
def qf_G (p : Nat) : sx_D := [qf_lo qf_rp p] :: [1, 2, 3, 4].map (fun m => qf_hi qf_rp p :: (qf_rx 73 75 0 p m ++ qf_tx 74 qf_rp p m))
def qq (h : List ik_E) : Prop := (∀ p, p < 11 → sx_dh h (qf_F p)) ∧ ∀ i, i < 2 → ∀ p, p < 11 → sx_dh h (qf_I i p)
def qq_ut (M : sx_M) : Bool := (List.range 11).all fun p => sx_dut M (qf_F p) && (List.range 2).all fun i => sx_dut M (qf_I i p)
theorem qq_fr {M : sx_M} {h h' : List ik_E} (hu : qq_ut M = true) (hf : sx_fm M h h') (hq : qq h) : qq h' := by
  have h1 : ∀ p, p < 11 → (sx_dut M (qf_F p) && (List.range 2).all fun i => sx_dut M (qf_I i p)) = true := fun p hp => List.all_eq_true.mp hu p (List.mem_range.mpr hp)
  refine ⟨fun p hp => sx_dut_ok hf (hq.1 p hp) (Bool.and_eq_true_iff.mp (h1 p hp)).1, fun i hi p hp => sx_dut_ok hf (hq.2 i hi p hp) ?_⟩
  exact List.all_eq_true.mp (Bool.and_eq_true_iff.mp (h1 p hp)).2 i (List.mem_range.mpr hi)
/-! states that are kept from call to call: cells and constraints -/
abbrev sx_T : Type := sx_H × List sx_X
def sx_iv' (T : sx_T) (h : List ik_E) : Prop := sx_hr [] T.1 h ∧ sx_cx [] [] h T.2
def sx_tk (T T' : sx_T) (M : sx_M) (P : sx_H) (xs : List sx_X) : Bool := sx_mw M P && sx_lh 0 ((0, []), []) (sx_mxh M T.1 P) T'.1 && T'.2.all (fun x => sx_ho x && (xs.contains x || (T.2.contains x && sx_ut M x)))
theorem sx_tk_ok {T T' : sx_T} {M : sx_M} {P : sx_H} {xs : List sx_X} {loc : ik_L} {st : List Value} {h h' : List ik_E} (hT : sx_iv' T h) (hf : sx_fm M h h') (hP : sx_hr [] P h') (hx : sx_cx loc st h' xs) (hk : sx_tk T T' M P xs = true) : sx_iv' T' h' := by
  obtain ⟨k1, k3⟩ := Bool.and_eq_true_iff.mp hk
  obtain ⟨k1, k2⟩ := Bool.and_eq_true_iff.mp k1
  have h00 : sx_ok ([] ++ []) (((0, []), []) : sx_G) := ⟨⟨rfl, trivial⟩, fun c hc => by cases hc⟩
  have hm : sx_hr ([] ++ []) (sx_mxh M T.1 P) h' := sx_mxh_ok hT.1 hP hf k1
  refine ⟨sx_lh_ok h00 hm k2, fun x hxm => ?_⟩
  obtain ⟨ho, k4⟩ := Bool.and_eq_true_iff.mp (List.all_eq_true.mp k3 x hxm)
  rcases Bool.or_eq_true_iff.mp k4 with k4 | k4
  · obtain ⟨y, e1, e2⟩ := hx x (List.contains_iff_mem.mp k4)
    exact ⟨y, by rw [← sx_xc_ho (loc := loc) (st := st) ho]; exact e1, e2⟩
  · obtain ⟨c1, c2⟩ := Bool.and_eq_true_iff.mp k4
    obtain ⟨y, e1, e2⟩ := hT.2 x (List.contains_iff_mem.mp c1)
    exact ⟨y, sx_xc_ut hf c2 e1, e2⟩
/-- one state is another -/
theorem sx_lh0 {A B : sx_H} {h : List ik_E} (hA : sx_hr [] A h) (hk : sx_lh 0 ((0, []), []) A B = true) : sx_hr [] B h := by
  have h00 : sx_ok ([] ++ []) (((0, []), []) : sx_G) := ⟨⟨rfl, trivial⟩, fun c hc => by cases hc⟩
  exact sx_lh_ok h00 (μ := []) (δ := []) hA hk
end
