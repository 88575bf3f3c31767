noncomputable section
/-! THE MODEL of odds: one go of all odds, many goes, what comes to the bridge -/
theorem wv_n {L : Nat} : ([] : List Value).all (ik_wv L) = true := rfl
theorem wv_r {L a : Nat} (h : a < L) : ik_wv L (.ref a) = true := decide_eq_true h
theorem wl_r {L a : Nat} (h : a < L) : ik_wl L (some (.ref a)) = true := decide_eq_true h
theorem fx_aln {X : Option (Nat × (Nat → Int32))} {mid pc : Nat} {loc : ik_L} {r : List Value} {h : List ik_E} {cl sl : Nat} {post : ik_St → Prop} {a L : Nat} {ty : FieldType} {vs : List Value} (hi : ik_at mid pc = some .arraylength) (hc : h[a]? = some (.inl (ty, vs))) (hv : vs.length = L) (hL : Int32.ofNat L = Int32.ofInt (L : Int)) (K : ik_W X mid (pc + 1) loc (fI (L : Int) :: r) h cl sl post) : ik_W X mid pc loc (.ref a :: r) h cl sl post := by
  refine fw_1 hi rfl rfl ?_ K
  simp only [ik_step, hc]
  rw [hv, hL]
theorem wv_c {L : Nat} {v : Value} {l : List Value} (h : ik_wv L v = true) (t : l.all (ik_wv L) = true) : (v :: l).all (ik_wv L) = true := by rw [List.all_cons, h, t]; rfl
theorem fw_ftx {mid q L : Nat} {as rest : List Value} {loc : ik_L} (h : (decide (ik_fr q + 1 ≤ ik_fr mid) && decide (8 + (ik_ml q + 11) + ik_lo q ≤ ik_lo mid) && decide (ik_sum rest ≤ 8) && decide ((ik_args as).length ≤ ik_ml q) && decide (q < 227)) = true) (hr : rest.all (ik_wv L) = true) (hl : loc.all (ik_wl L) = true) : fw_ft mid q L as rest loc = true := by
  unfold fw_ft
  rw [h, hr, hl]
  rfl
def mf_up (o : Nat → Int) (g : Nat) (v : Int) : Nat → Int := fun j => if j = g then v else o j
theorem mf_up_s (o : Nat → Int) (g : Nat) (v : Int) : mf_up o g v g = v := if_pos rfl
theorem mf_up_n {o : Nat → Int} {g j : Nat} {v : Int} (h : ¬ j = g) : mf_up o g v j = o j := if_neg h
/-- x goes by the ways of L, l of it is left -/
def mf_ps : List (Int × Int) → Int → Int → (Nat → Int) → (Nat → Int)
  | [], _, _, T => T
  | (g, c) :: L, x, l, T => if L.length = 0 then mf_up T g.toNat (T g.toNat + l) else mf_ps L x (l - x * c / 100) (mf_up T g.toNat (T g.toNat + x * c / 100))
theorem mf_ps_d {L : List (Int × Int)} {j : Nat} (h : j < L.length) (x l : Int) (T : Nat → Int) : mf_ps (L.drop j) x l T = if j + 1 = L.length then mf_up T (L.getD j (0, 0)).1.toNat (T (L.getD j (0, 0)).1.toNat + l) else mf_ps (L.drop (j + 1)) x (l - x * (L.getD j (0, 0)).2 / 100) (mf_up T (L.getD j (0, 0)).1.toNat (T (L.getD j (0, 0)).1.toNat + x * (L.getD j (0, 0)).2 / 100)) := by
  have e : (L.drop (j + 1)).length = 0 ↔ j + 1 = L.length := by rw [List.length_drop]; omega
  rw [List.drop_eq_getElem_cons h, List.getD_eq_getElem?_getD, List.getElem?_eq_getElem h]
  show (if (L.drop (j + 1)).length = 0 then _ else _) = _
  by_cases q : j + 1 = L.length
  · rw [if_pos (e.mpr q), if_pos q]; rfl
  · rw [if_neg (fun w => q (e.mp w)), if_neg q]; rfl
theorem mf_ps_e {L : List (Int × Int)} {j : Nat} (h : L.length ≤ j) (x l : Int) (T : Nat → Int) : mf_ps (L.drop j) x l T = T := by
  rw [List.drop_eq_nil_of_le h]
  rfl
/-- the odds behind the first n places' goes -/
def mf_fn (W : Int → List (Int × Int)) (o : Nat → Int) (br : Nat) : Nat → (Nat → Int)
  | 0 => fun j => if j = br then o br else 0
  | p + 1 => if 0 < o p then mf_ps (W (p : Nat)) (o p) (o p) (mf_fn W o br p) else mf_fn W o br p
theorem mf_fn_s {W : Int → List (Int × Int)} {o : Nat → Int} {br : Nat} {p : Int} (h : 0 ≤ p) : mf_fn W o br (p + 1).toNat = if 0 < o p.toNat then mf_ps (W p) (o p.toNat) (o p.toNat) (mf_fn W o br p.toNat) else mf_fn W o br p.toNat := by
  rw [show (p + 1).toNat = p.toNat + 1 by omega]
  show (if 0 < o p.toNat then mf_ps (W ((p.toNat : Nat) : Int)) _ _ _ else _) = _
  rw [Int.toNat_of_nonneg h]
/-- one go of all odds -/
def mf_fl (W : Int → List (Int × Int)) (br : Int) (o : Nat → Int) : Nat → Int := mf_fn W o br.toNat br.toNat
def mf_it (W : Int → List (Int × Int)) (br : Int) : Nat → (Nat → Int) → (Nat → Int)
  | 0, o => o
  | n + 1, o => mf_it W br n (mf_fl W br o)
/-- the odds of a cork of kind k, set in at place q, after u minutes -/
def mf_od (W : Int → List (Int × Int)) (br k q : Int) : Nat → (Nat → Int)
  | 0 => mf_up (fun _ => 0) q.toNat 1000000000
  | u + 1 => mf_it W br (mx_tm k ((u + 1 : Nat) : Int)) (mf_od W br k q u)
def mf_cm (W : Int → List (Int × Int)) (br k q : Int) (u : Nat) : Int := mf_od W br k q u br.toNat
theorem mf_od_s {W : Int → List (Int × Int)} {br k q u : Int} (h : 0 ≤ u) : mf_od W br k q (u + 1).toNat = mf_it W br (mx_tm k (u + 1)) (mf_od W br k q u.toNat) := by
  rw [show (u + 1).toNat = u.toNat + 1 by omega]
  show mf_it W br (mx_tm k ((u.toNat + 1 : Nat) : Int)) _ = _
  rw [show ((u.toNat + 1 : Nat) : Int) = u + 1 by omega]
/-- a row holds these odds for the first n places -/
def mf_is (n : Int) (xs : List Int) (o : Nat → Int) : Prop := ∀ j : Nat, (j : Int) < n → xs.getD j 0 = o j
theorem mf_is_x {n : Int} {xs : List Int} {o : Nat → Int} {v : Int} (h : mf_is n xs o) (h0 : 0 ≤ n) (hl : n.toNat < xs.length) (e : v = o n.toNat) : mf_is (n + 1) (xs.set n.toNat v) o := by
  intro j hj
  rw [fz_getD_set]
  by_cases q : j = n.toNat
  · rw [if_pos ⟨q, hl⟩, q]; exact e
  · rw [if_neg (fun w => q w.1)]; exact h j (by omega)
theorem mf_is_0 {xs : List Int} {o : Nat → Int} {n : Int} (h : n ≤ 0) : mf_is n xs o := fun j hj => absurd hj (by omega)
theorem mf_is_a {pl : Int} {ys : List Int} {T : Nat → Int} {g G v w : Int} (h : mf_is pl ys T) (e : G = g) (h0 : 0 ≤ g) (hg : g < pl) (hl : g.toNat < ys.length) (ev : v = w) : mf_is pl (ys.set G.toNat (ys.getD G.toNat 0 + v)) (mf_up T g.toNat (T g.toNat + w)) := by
  subst e
  subst ev
  intro j hj
  rw [fz_getD_set]
  by_cases q : j = G.toNat
  · rw [if_pos ⟨q, hl⟩, q, mf_up_s, h G.toNat (by omega)]
  · rw [if_neg (fun w => q w.1), mf_up_n q]; exact h j hj
theorem mf_is_b {pl : Int} {W : Int → List (Int × Int)} {o : Nat → Int} {xs ys : List Int} (h : mf_is (pl - 1) ys (fun _ => 0)) (h1 : 1 ≤ pl) (hx : mf_is pl xs o) (hl : (pl - 1).toNat < ys.length) : mf_is pl (ys.set (pl - 1).toNat (xs.getD (pl - 1).toNat 0)) (mf_fn W o (pl - 1).toNat 0) := by
  intro j hj
  rw [fz_getD_set]
  show _ = if j = (pl - 1).toNat then o (pl - 1).toNat else 0
  by_cases q : j = (pl - 1).toNat
  · rw [if_pos ⟨q, hl⟩, if_pos q]; exact hx _ (by omega)
  · rw [if_neg (fun w => q w.1), if_neg q]; exact h j (by omega)
/-! sums and bounds -/
def mf_su (o : Nat → Int) : Nat → Int
  | 0 => 0
  | n + 1 => mf_su o n + o n
theorem mf_su_hi {o : Nat → Int} {g : Nat} {v : Int} : ∀ n, n ≤ g → mf_su (mf_up o g v) n = mf_su o n := by
  intro n
  induction n with
  | zero => intro _; rfl
  | succ n ih =>
    intro h
    show mf_su (mf_up o g v) n + mf_up o g v n = mf_su o n + o n
    rw [ih (by omega), mf_up_n (by omega)]
theorem mf_su_up {o : Nat → Int} {g : Nat} {v : Int} : ∀ n, g < n → mf_su (mf_up o g v) n = mf_su o n - o g + v := by
  intro n
  induction n with
  | zero => intro h; omega
  | succ n ih =>
    intro h
    show mf_su (mf_up o g v) n + mf_up o g v n = mf_su o n + o n - o g + v
    by_cases q : n = g
    · subst q; rw [mf_su_hi n (Nat.le_refl n), mf_up_s]; omega
    · rw [ih (by omega), mf_up_n q]; omega
theorem mf_su_nn {o : Nat → Int} (h : ∀ j, 0 ≤ o j) : ∀ n, 0 ≤ mf_su o n := by
  intro n
  induction n with
  | zero => exact Int.le_refl 0
  | succ n ih => have := h n; show 0 ≤ mf_su o n + o n; omega
theorem mf_su_le {o : Nat → Int} (h : ∀ j, 0 ≤ o j) : ∀ n j, j < n → o j ≤ mf_su o n := by
  intro n
  induction n with
  | zero => intro j hj; omega
  | succ n ih =>
    intro j hj
    show o j ≤ mf_su o n + o n
    by_cases q : j = n
    · subst q; have := mf_su_nn h j; omega
    · have := ih j (by omega); have := h n; omega
theorem mf_su_mono {o : Nat → Int} (h : ∀ j, 0 ≤ o j) : ∀ n m, n ≤ m → mf_su o n ≤ mf_su o m := by
  intro n m
  induction m with
  | zero => intro q; rw [show n = 0 by omega]; exact Int.le_refl _
  | succ m ih =>
    intro q
    by_cases e : n = m + 1
    · rw [e]; exact Int.le_refl _
    · have := ih (by omega); have := h m; show mf_su o n ≤ mf_su o m + o m; omega
/-- odds as they are: none below 0, together at most a billion, none beyond the places -/
def mf_gd (pl : Int) (o : Nat → Int) : Prop := (∀ j, 0 ≤ o j) ∧ mf_su o pl.toNat ≤ 1000000000 ∧ ∀ j : Nat, pl ≤ (j : Int) → o j = 0
theorem mf_gd_b {pl : Int} {o : Nat → Int} (h : mf_gd pl o) (j : Nat) : 0 ≤ o j ∧ o j ≤ 1000000000 := by
  refine ⟨h.1 j, ?_⟩
  by_cases q : (j : Int) < pl
  · have := mf_su_le h.1 pl.toNat j (by omega); have := h.2.1; omega
  · rw [h.2.2 j (by omega)]; decide
theorem mx_cs_nn {pl : Int} {L : List (Int × Int)} (hL : mx_ok pl L) : ∀ n j, L.length - j = n → 0 ≤ mx_cs (L.drop j) := by
  intro n
  induction n with
  | zero => intro j e; rw [mx_cs_e (by omega)]; exact Int.le_refl 0
  | succ n ih =>
    intro j e
    rw [mx_cs_d (by omega)]
    have := ih (j + 1) (by omega)
    have := hL.2.2 j (by omega)
    omega
theorem mf_mul_b {x c : Int} (h0 : 0 ≤ x) (h1 : x ≤ 1000000000) (c0 : 1 ≤ c) (c1 : c ≤ 100) : 0 ≤ x * c ∧ x * c ≤ 100000000000 := by
  refine ⟨Int.mul_nonneg h0 (by omega), ?_⟩
  have a := Int.mul_le_mul h1 c1 (by omega) (by omega : (0 : Int) ≤ 1000000000)
  omega
theorem mf_left_n {pl x l : Int} {L : List (Int × Int)} {j : Nat} (hL : mx_ok pl L) (hx : 0 ≤ x) (hj : j < L.length) (h : x * mx_cs (L.drop j) ≤ 100 * l) : x * mx_cs (L.drop (j + 1)) ≤ 100 * (l - x * (L.getD j (0, 0)).2 / 100) ∧ 0 ≤ l - x * (L.getD j (0, 0)).2 / 100 ∧ 0 ≤ x * (L.getD j (0, 0)).2 / 100 := by
  rw [mx_cs_d hj, Int.mul_add] at h
  have hb := hL.2.2 j hj
  have h2 : 0 ≤ x * mx_cs (L.drop (j + 1)) := Int.mul_nonneg hx (mx_cs_nn hL _ (j + 1) rfl)
  have h3 : 0 ≤ x * (L.getD j (0, 0)).2 := Int.mul_nonneg hx (by omega)
  omega
theorem mf_left_p {pl x l : Int} {L : List (Int × Int)} {j : Nat} (hL : mx_ok pl L) (hx : 0 < x) (hj : j < L.length) (h : x * mx_cs (L.drop j) ≤ 100 * l) : 0 < l := by
  rw [mx_cs_d hj, Int.mul_add] at h
  have hb := hL.2.2 j hj
  have h2 : 0 ≤ x * mx_cs (L.drop (j + 1)) := Int.mul_nonneg (by omega) (mx_cs_nn hL _ (j + 1) rfl)
  have h3 : x * 1 ≤ x * (L.getD j (0, 0)).2 := Int.mul_le_mul_of_nonneg_left (by omega) (by omega)
  omega
theorem mf_ps_gd {pl x : Int} {L : List (Int × Int)} (hL : mx_ok pl L) (hx : 0 ≤ x) : ∀ (n j : Nat) (l : Int) (T : Nat → Int), L.length - j = n → j < L.length → x * mx_cs (L.drop j) ≤ 100 * l → (∀ i, 0 ≤ T i) → (∀ i : Nat, pl ≤ (i : Int) → T i = 0) →
    (∀ i, T i ≤ mf_ps (L.drop j) x l T i) ∧ mf_su (mf_ps (L.drop j) x l T) pl.toNat = mf_su T pl.toNat + l ∧ ∀ i : Nat, pl ≤ (i : Int) → mf_ps (L.drop j) x l T i = 0 := by
  intro n
  induction n with
  | zero => intro j l T e hj; omega
  | succ n ih =>
    intro j l T e hj h h0 hz
    have hb := hL.2.2 j hj
    have hn := mf_left_n hL hx hj h
    have hg : (L.getD j (0, 0)).1.toNat < pl.toNat := by omega
    have hl : 0 ≤ l := by have h2 : 0 ≤ x * mx_cs (L.drop j) := Int.mul_nonneg hx (mx_cs_nn hL _ j rfl); omega
    rw [mf_ps_d hj]
    by_cases q : j + 1 = L.length
    · rw [if_pos q, mf_su_up _ hg]
      refine ⟨fun i => ?_, by omega, fun i hi => ?_⟩
      · by_cases w : i = (L.getD j (0, 0)).1.toNat
        · subst w; rw [mf_up_s]; omega
        · rw [mf_up_n w]; exact Int.le_refl _
      · rw [mf_up_n (by omega)]; exact hz i hi
    · rw [if_neg q]
      have t1 : ∀ i, T i ≤ mf_up T (L.getD j (0, 0)).1.toNat (T (L.getD j (0, 0)).1.toNat + x * (L.getD j (0, 0)).2 / 100) i := by
        intro i
        by_cases w : i = (L.getD j (0, 0)).1.toNat
        · subst w; rw [mf_up_s]; omega
        · rw [mf_up_n w]; exact Int.le_refl _
      have r := ih (j + 1) (l - x * (L.getD j (0, 0)).2 / 100) (mf_up T (L.getD j (0, 0)).1.toNat (T (L.getD j (0, 0)).1.toNat + x * (L.getD j (0, 0)).2 / 100)) (by omega) (by omega) hn.1
        (fun i => Int.le_trans (h0 i) (t1 i)) (fun i hi => by rw [mf_up_n (by omega)]; exact hz i hi)
      refine ⟨fun i => Int.le_trans (t1 i) (r.1 i), ?_, r.2.2⟩
      rw [r.2.1, mf_su_up _ hg]
      omega
theorem mf_fn_gd {W : Int → List (Int × Int)} {pl : Int} {o : Nat → Int} (hW : ∀ x : Int, 0 ≤ x → x < pl - 1 → mx_ok pl (W x)) (h1 : 1 ≤ pl) (ho : ∀ j, 0 ≤ o j) : ∀ p : Nat, (p : Int) ≤ pl - 1 → (∀ i, 0 ≤ mf_fn W o (pl - 1).toNat p i) ∧ mf_su (mf_fn W o (pl - 1).toNat p) pl.toNat = mf_su o p + o (pl - 1).toNat ∧ (∀ i : Nat, pl ≤ (i : Int) → mf_fn W o (pl - 1).toNat p i = 0) ∧ o (pl - 1).toNat ≤ mf_fn W o (pl - 1).toNat p (pl - 1).toNat := by
  intro p
  induction p with
  | zero =>
    intro _
    have e : mf_fn W o (pl - 1).toNat 0 = mf_up (fun _ => 0) (pl - 1).toNat (o (pl - 1).toNat) := rfl
    have z : ∀ n, mf_su (fun _ => 0) n = 0 := by
      intro n
      induction n with
      | zero => rfl
      | succ n ih => show mf_su (fun _ => 0) n + 0 = 0; rw [ih]; rfl
    rw [e]
    refine ⟨fun i => ?_, ?_, fun i hi => ?_, ?_⟩
    · by_cases w : i = (pl - 1).toNat
      · subst w; rw [mf_up_s]; exact ho _
      · rw [mf_up_n w]; exact Int.le_refl 0
    · rw [mf_su_up _ (by omega), z]; show 0 - 0 + _ = 0 + _; omega
    · rw [mf_up_n (by omega)]
    · rw [mf_up_s]; exact Int.le_refl _
  | succ p ih =>
    intro hp
    have r := ih (by omega)
    have hw := hW (p : Nat) (by omega) (by omega)
    by_cases q : 0 < o p
    · have e : mf_fn W o (pl - 1).toNat (p + 1) = mf_ps (W (p : Nat)) (o p) (o p) (mf_fn W o (pl - 1).toNat p) := if_pos q
      have hl : 0 < (W (p : Nat)).length := by
        rcases Nat.eq_zero_or_pos (W (p : Nat)).length with w | w
        · have a := mx_cs_e (L := W (p : Nat)) (j := 0) (by omega); rw [List.drop_zero] at a; have := hw.2.1; omega
        · exact w
      have g := mf_ps_gd hw (Int.le_of_lt q) (W (p : Nat)).length 0 (o p) (mf_fn W o (pl - 1).toNat p) (by omega) hl (by rw [List.drop_zero, hw.2.1]; omega) r.1 r.2.2.1
      rw [List.drop_zero] at g
      rw [e]
      refine ⟨fun i => Int.le_trans (r.1 i) (g.1 i), ?_, g.2.2, Int.le_trans r.2.2.2 (g.1 _)⟩
      rw [g.2.1, r.2.1]
      show _ = mf_su o p + o p + _
      omega
    · have e : mf_fn W o (pl - 1).toNat (p + 1) = mf_fn W o (pl - 1).toNat p := if_neg q
      rw [e]
      refine ⟨r.1, ?_, r.2.2⟩
      rw [r.2.1]
      have := ho p
      show _ = mf_su o p + o p + _
      omega
theorem mf_fl_gd {W : Int → List (Int × Int)} {pl : Int} {o : Nat → Int} (hW : ∀ x : Int, 0 ≤ x → x < pl - 1 → mx_ok pl (W x)) (h1 : 1 ≤ pl) (ho : mf_gd pl o) : mf_gd pl (mf_fl W (pl - 1) o) ∧ o (pl - 1).toNat ≤ mf_fl W (pl - 1) o (pl - 1).toNat := by
  have r := mf_fn_gd hW h1 ho.1 (pl - 1).toNat (by omega)
  refine ⟨⟨r.1, ?_, r.2.2.1⟩, r.2.2.2⟩
  show mf_su (mf_fn W o (pl - 1).toNat (pl - 1).toNat) pl.toNat ≤ _
  rw [r.2.1]
  have e : pl.toNat = (pl - 1).toNat + 1 := by omega
  have := ho.2.1
  rw [e] at this
  exact this
theorem mf_it_gd {W : Int → List (Int × Int)} {pl : Int} (hW : ∀ x : Int, 0 ≤ x → x < pl - 1 → mx_ok pl (W x)) (h1 : 1 ≤ pl) : ∀ (n : Nat) (o : Nat → Int), mf_gd pl o → mf_gd pl (mf_it W (pl - 1) n o) ∧ o (pl - 1).toNat ≤ mf_it W (pl - 1) n o (pl - 1).toNat := by
  intro n
  induction n with
  | zero => intro o h; exact ⟨h, Int.le_refl _⟩
  | succ n ih =>
    intro o h
    have a := mf_fl_gd hW h1 h
    have b := ih _ a.1
    exact ⟨b.1, Int.le_trans a.2 b.2⟩
theorem mf_od_gd {W : Int → List (Int × Int)} {pl k q : Int} (hW : ∀ x : Int, 0 ≤ x → x < pl - 1 → mx_ok pl (W x)) (hq : 0 ≤ q ∧ q < pl) : ∀ u : Nat, mf_gd pl (mf_od W (pl - 1) k q u) := by
  intro u
  induction u with
  | zero =>
    have z : ∀ n, mf_su (fun _ => 0) n = 0 := by
      intro n
      induction n with
      | zero => rfl
      | succ n ih => show mf_su (fun _ => 0) n + 0 = 0; rw [ih]; rfl
    show mf_gd pl (mf_up (fun _ => 0) q.toNat 1000000000)
    refine ⟨fun i => ?_, ?_, fun i hi => ?_⟩
    · by_cases w : i = q.toNat
      · subst w; rw [mf_up_s]; decide
      · rw [mf_up_n w]; exact Int.le_refl 0
    · rw [mf_su_up _ (by omega), z]; decide
    · rw [mf_up_n (by omega)]
  | succ u ih => exact (mf_it_gd hW (by omega) _ _ ih).1
theorem mf_cm_b {W : Int → List (Int × Int)} {pl k q : Int} (hW : ∀ x : Int, 0 ≤ x → x < pl - 1 → mx_ok pl (W x)) (hq : 0 ≤ q ∧ q < pl) (u : Nat) : 0 ≤ mf_cm W (pl - 1) k q u ∧ mf_cm W (pl - 1) k q u ≤ 1000000000 ∧ mf_cm W (pl - 1) k q u ≤ mf_cm W (pl - 1) k q (u + 1) := by
  have g := mf_od_gd (k := k) hW hq u
  have a := mf_gd_b g (pl - 1).toNat
  exact ⟨a.1, a.2, (mf_it_gd hW (by omega) _ _ g).2⟩
theorem mf_cm_0 {W : Int → List (Int × Int)} {pl k q : Int} (hq : 0 ≤ q ∧ q < pl - 1) : mf_cm W (pl - 1) k q 0 = 0 := by
  show mf_up (fun _ => 0) q.toNat 1000000000 (pl - 1).toNat = 0
  rw [mf_up_n (by omega)]
end
