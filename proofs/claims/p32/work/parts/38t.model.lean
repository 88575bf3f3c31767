noncomputable section
/-! THE MODEL: ways of a place, draws, drifts -/
/-- what the stone of place p holds -/
def mx_g (ch : List Int) (s : Nat) (p : Int) : Int := if s.testBit p.toNat then (if ch.getD (4 * p).toNat 0 - 1 < 20 then ch.getD (4 * p).toNat 0 - 1 else 20) else 0
def mx_wi (go ch : List Int) (g p i : Int) : Int × Int := (go.getD (4 * p + i).toNat 0, if i = 0 then ch.getD (4 * p + i).toNat 0 - g else ch.getD (4 * p + i).toNat 0)
def mx_wr (go ch : List Int) (g p : Int) (n : Nat) : List (Int × Int) := (List.range n).map fun i => mx_wi go ch g p (i : Nat)
/-- the ways of place p: goal and chance; the stone's ahead -/
def mx_w (cn go ch : List Int) (s : Nat) (p : Int) : List (Int × Int) := (if 0 < mx_g ch s p then [(p, mx_g ch s p)] else []) ++ mx_wr go ch (mx_g ch s p) p (cn.getD p.toNat 0).toNat
def mx_o (ch : List Int) (s : Nat) (p : Int) : Nat := if 0 < mx_g ch s p then 1 else 0
theorem mx_wr_len {go ch : List Int} {g p : Int} {n : Nat} : (mx_wr go ch g p n).length = n := by unfold mx_wr; rw [List.length_map, List.length_range]
theorem mx_w_len (cn go ch : List Int) (s : Nat) (p : Int) : (mx_w cn go ch s p).length = mx_o ch s p + (cn.getD p.toNat 0).toNat := by
  unfold mx_w mx_o
  rw [List.length_append, mx_wr_len]
  split <;> rfl
theorem mx_w_0 {cn go ch : List Int} {s : Nat} {p : Int} (h : 0 < mx_g ch s p) : (mx_w cn go ch s p).getD 0 (0, 0) = (p, mx_g ch s p) := by
  unfold mx_w
  rw [if_pos h]
  rfl
theorem mx_w_i {cn go ch : List Int} {s : Nat} {p : Int} {i : Nat} (h : i < (cn.getD p.toNat 0).toNat) : (mx_w cn go ch s p).getD (mx_o ch s p + i) (0, 0) = mx_wi go ch (mx_g ch s p) p (i : Nat) := by
  have e : (mx_wr go ch (mx_g ch s p) p (cn.getD p.toNat 0).toNat).getD i (0, 0) = mx_wi go ch (mx_g ch s p) p (i : Nat) := by
    unfold mx_wr
    rw [List.getD_eq_getElem?_getD, List.getElem?_map, List.getElem?_range h]
    rfl
  unfold mx_w mx_o
  split
  · rw [List.singleton_append, Nat.add_comm, List.getD_cons_succ]; exact e
  · rw [List.nil_append, Nat.zero_add]; exact e
/-- two rows hold the first n of a list of pairs from base on -/
def mx_at (base : Nat) (L : List (Int × Int)) (A B : List Int) (n : Nat) : Prop := ∀ k, k < n → A.getD (base + k) 0 = (L.getD k (0, 0)).1 ∧ B.getD (base + k) 0 = (L.getD k (0, 0)).2
theorem mx_at_0 (base : Nat) (L : List (Int × Int)) (A B : List Int) : mx_at base L A B 0 := fun k hk => absurd hk (Nat.not_lt_zero k)
theorem mx_at_s {base : Nat} {L : List (Int × Int)} {A B : List Int} {n j : Nat} {a b : Int} (h : mx_at base L A B n) (e : j = base + n) (h1 : j < A.length) (h2 : j < B.length) (e1 : a = (L.getD n (0, 0)).1) (e2 : b = (L.getD n (0, 0)).2) : mx_at base L (A.set j a) (B.set j b) (n + 1) := by
  intro k hk
  rw [fz_getD_set, fz_getD_set]
  by_cases q : k = n
  · rw [if_pos ⟨by omega, h1⟩, if_pos ⟨by omega, h2⟩, q]; exact ⟨e1, e2⟩
  · rw [if_neg (fun w => q (by omega)), if_neg (fun w => q (by omega))]; exact h k (by omega)
/-- the same but in [lo, hi) -/
def mx_out (lo hi : Nat) (A B : List Int) : Prop := ∀ j, j < lo ∨ hi ≤ j → B.getD j 0 = A.getD j 0
theorem mx_out_r (lo hi : Nat) (A : List Int) : mx_out lo hi A A := fun _ _ => rfl
theorem mx_out_s {lo hi j : Nat} {A B : List Int} {v : Int} (h : mx_out lo hi A B) (h1 : lo ≤ j) (h2 : j < hi) : mx_out lo hi A (B.set j v) := by
  intro k hk
  rw [fz_getD_set, if_neg (fun w => by omega)]
  exact h k hk
/-- the place's ways lie in the class's rows -/
def mx_wy (wg wc we : List Int) (p : Int) (L : List (Int × Int)) : Prop := we.getD p.toNat 0 = 5 * p + L.length ∧ mx_at (5 * p.toNat) L wg wc L.length
/-- where a draw goes -/
def mx_pk : List (Int × Int) → Int → Int → Int
  | [], _, f => f
  | (g, c) :: L, d, f => if d < c then g else mx_pk L (d - c) f
theorem mx_pk_d {L : List (Int × Int)} {j : Nat} (h : j < L.length) (d f : Int) : mx_pk (L.drop j) d f = if d < (L.getD j (0, 0)).2 then (L.getD j (0, 0)).1 else mx_pk (L.drop (j + 1)) (d - (L.getD j (0, 0)).2) f := by
  rw [List.drop_eq_getElem_cons h, List.getD_eq_getElem?_getD, List.getElem?_eq_getElem h]
  rfl
theorem mx_pk_e {L : List (Int × Int)} {j : Nat} (h : L.length ≤ j) (d f : Int) : mx_pk (L.drop j) d f = f := by
  rw [List.drop_eq_nil_of_le h]
  rfl
/-- sums of chances from j on -/
def mx_cs (L : List (Int × Int)) : Int := (L.map fun x => x.2).sum
theorem mx_cs_d {L : List (Int × Int)} {j : Nat} (h : j < L.length) : mx_cs (L.drop j) = (L.getD j (0, 0)).2 + mx_cs (L.drop (j + 1)) := by
  unfold mx_cs
  rw [List.drop_eq_getElem_cons h, List.getD_eq_getElem?_getD, List.getElem?_eq_getElem h]
  rfl
theorem mx_cs_e {L : List (Int × Int)} {j : Nat} (h : L.length ≤ j) : mx_cs (L.drop j) = 0 := by
  unfold mx_cs
  rw [List.drop_eq_nil_of_le h]
  rfl
/-- ways as they must be: chances from 1 on, a hundred together; goals are places -/
def mx_ok (pl : Int) (L : List (Int × Int)) : Prop := L.length ≤ 5 ∧ mx_cs L = 100 ∧ ∀ j, j < L.length → 1 ≤ (L.getD j (0, 0)).2 ∧ (L.getD j (0, 0)).2 ≤ 100 ∧ 0 ≤ (L.getD j (0, 0)).1 ∧ (L.getD j (0, 0)).1 < pl
/-! draws and drifts -/
def mx_d (x : Int) : Int := (x * 1103515245 + 12345) % 2147483648
def mx_v (x : Int) : Int := mx_d x / 65536 % 100
theorem mx_d_b (x : Int) : 0 ≤ mx_d x ∧ mx_d x < 2147483648 := by unfold mx_d; omega
theorem mx_v_b (x : Int) : 0 ≤ mx_v x ∧ mx_v x < 100 := by unfold mx_v; omega
/-- a cork goes so often, by draws; it stays at the bridge -/
def mx_go (W : Int → List (Int × Int)) (br : Int) : Nat → Int → Int → Int × Int
  | 0, x, d => (x, d)
  | n + 1, x, d => if x = br then (x, d) else mx_go W br n (mx_pk (W x) (mx_v d) x) (mx_d d)
theorem mx_go_b {W : Int → List (Int × Int)} {br : Int} {n : Nat} {x d : Int} (h : x = br) : mx_go W br n x d = (x, d) := by
  cases n with
  | zero => rfl
  | succ n => rw [mx_go, if_pos h]
theorem mx_go_n {W : Int → List (Int × Int)} {br : Int} {n : Nat} {x d : Int} (h : ¬ x = br) : mx_go W br (n + 1) x d = mx_go W br n (mx_pk (W x) (mx_v d) x) (mx_d d) := by rw [mx_go, if_neg h]
def mx_tm (k own : Int) : Nat := if k = 0 then 1 else if k = 1 then 2 else if own % 2 = 0 then 1 else 0
/-- a minute m of a cork of kind k, set in at place c in minute fr -/
def mx_sd (W : Int → List (Int × Int)) (br k c fr m x d : Int) : Int × Int := if m = fr then (c, d) else if fr < m then mx_go W br (mx_tm k (m - fr)) x d else (x, d)
theorem mx_pk_in {pl : Int} {L : List (Int × Int)} {d f : Int} (hL : mx_ok pl L) (h0 : 0 ≤ d) (h1 : d < 100) : 0 ≤ mx_pk L d f ∧ mx_pk L d f < pl := by
  have key : ∀ n j d, L.length - j = n → j ≤ L.length → 0 ≤ d → d < mx_cs (L.drop j) → 0 ≤ mx_pk (L.drop j) d f ∧ mx_pk (L.drop j) d f < pl := by
    intro n
    induction n with
    | zero => intro j d e hj h0 h1; rw [mx_cs_e (by omega)] at h1; omega
    | succ n ih =>
      intro j d e hj h0 h1
      have hb := hL.2.2 j (by omega)
      rw [mx_cs_d (by omega)] at h1
      rw [mx_pk_d (by omega)]
      split
      · exact ⟨hb.2.2.1, hb.2.2.2⟩
      · exact ih (j + 1) _ (by omega) (by omega) (by omega) (by omega)
  have := key L.length 0 d (by omega) (by omega) h0 (by rw [List.drop_zero, hL.2.1]; exact h1)
  rwa [List.drop_zero] at this
theorem mx_go_in {W : Int → List (Int × Int)} {pl : Int} (hW : ∀ x : Int, 0 ≤ x → x < pl - 1 → mx_ok pl (W x)) : ∀ (n : Nat) (x d : Int), 0 ≤ x → x < pl → 0 ≤ d ∧ d < 2147483648 → (0 ≤ (mx_go W (pl - 1) n x d).1 ∧ (mx_go W (pl - 1) n x d).1 < pl) ∧ 0 ≤ (mx_go W (pl - 1) n x d).2 ∧ (mx_go W (pl - 1) n x d).2 < 2147483648 := by
  intro n
  induction n with
  | zero => intro x d h0 h1 h2; exact ⟨⟨h0, h1⟩, h2⟩
  | succ n ih =>
    intro x d h0 h1 h2
    rw [mx_go]
    split
    · exact ⟨⟨h0, h1⟩, h2⟩
    · have hp := mx_pk_in (f := x) (hW x h0 (by omega)) (mx_v_b d).1 (mx_v_b d).2
      exact ih _ _ hp.1 hp.2 (mx_d_b d)
theorem mx_sd_in {W : Int → List (Int × Int)} {pl k c fr m x d : Int} (hW : ∀ x : Int, 0 ≤ x → x < pl - 1 → mx_ok pl (W x)) (hx : fr < m → 0 ≤ x ∧ x < pl) (hc : 0 ≤ c ∧ c < pl) (hd : 0 ≤ d ∧ d < 2147483648) : (fr ≤ m → 0 ≤ (mx_sd W (pl - 1) k c fr m x d).1 ∧ (mx_sd W (pl - 1) k c fr m x d).1 < pl) ∧ 0 ≤ (mx_sd W (pl - 1) k c fr m x d).2 ∧ (mx_sd W (pl - 1) k c fr m x d).2 < 2147483648 := by
  unfold mx_sd
  split
  · exact ⟨fun _ => hc, hd⟩
  · split
    · have hb := hx (by omega)
      have := mx_go_in hW (mx_tm k (m - fr)) x d hb.1 hb.2 hd
      exact ⟨fun _ => this.1, this.2⟩
    · exact ⟨fun _ => by omega, hd⟩
/-- what is not in yet stays out: -1 -/
theorem mx_sd_lo {W : Int → List (Int × Int)} {pl k c fr m x d : Int} (hW : ∀ x : Int, 0 ≤ x → x < pl - 1 → mx_ok pl (W x)) (hx : fr < m → 0 ≤ x ∧ x < pl) (hx2 : -1 ≤ x ∧ x < pl) (hc : 0 ≤ c ∧ c < pl) (hd : 0 ≤ d ∧ d < 2147483648) : -1 ≤ (mx_sd W (pl - 1) k c fr m x d).1 ∧ (mx_sd W (pl - 1) k c fr m x d).1 < pl := by
  by_cases q : fr ≤ m
  · have := (mx_sd_in (k := k) hW hx hc hd).1 q; omega
  · unfold mx_sd
    rw [if_neg (by omega), if_neg (by omega)]
    exact hx2
/-- n minutes more: both spots, the minute, the seed -/
def mx_dr (W : Int → List (Int × Int)) (br ka pa fa kb pb fb : Int) : Nat → Int → Int → Int → Int → Int × Int × Int × Int
  | 0, x, y, m, d => (x, y, m, d)
  | n + 1, x, y, m, d => if x = br ∨ y = br then (x, y, m, d) else
      mx_dr W br ka pa fa kb pb fb n (mx_sd W br ka pa fa (m + 1) x d).1 (mx_sd W br kb pb fb (m + 1) y (mx_sd W br ka pa fa (m + 1) x d).2).1 (m + 1) (mx_sd W br kb pb fb (m + 1) y (mx_sd W br ka pa fa (m + 1) x d).2).2
theorem mx_dr_b {W : Int → List (Int × Int)} {br ka pa fa kb pb fb x y m d : Int} {n : Nat} (h : x = br ∨ y = br) : mx_dr W br ka pa fa kb pb fb n x y m d = (x, y, m, d) := by
  cases n with
  | zero => rfl
  | succ n => rw [mx_dr, if_pos h]
theorem mx_dr_n {W : Int → List (Int × Int)} {br ka pa fa kb pb fb x y m d : Int} {n : Nat} (h : ¬ (x = br ∨ y = br)) : mx_dr W br ka pa fa kb pb fb (n + 1) x y m d = mx_dr W br ka pa fa kb pb fb n (mx_sd W br ka pa fa (m + 1) x d).1 (mx_sd W br kb pb fb (m + 1) y (mx_sd W br ka pa fa (m + 1) x d).2).1 (m + 1) (mx_sd W br kb pb fb (m + 1) y (mx_sd W br ka pa fa (m + 1) x d).2).2 := by rw [mx_dr, if_neg h]
def mx_en (br x y : Int) : Int := (if x = br then 1 else 0) + (if y = br then 2 else 0)
/-- a spot at the beginning -/
def mx_sp (c fr : Int) : Int := if fr = 0 then c else -1
theorem mx_dr_in {W : Int → List (Int × Int)} {pl ka pa fa kb pb fb : Int} (hW : ∀ x : Int, 0 ≤ x → x < pl - 1 → mx_ok pl (W x)) (ha : 0 ≤ pa ∧ pa < pl) (hb : 0 ≤ pb ∧ pb < pl) : ∀ (n : Nat) (x y m d : Int), (fa ≤ m → 0 ≤ x) → (fb ≤ m → 0 ≤ y) → (-1 ≤ x ∧ x < pl) → (-1 ≤ y ∧ y < pl) → (0 ≤ d ∧ d < 2147483648) →
    (fa ≤ (mx_dr W (pl - 1) ka pa fa kb pb fb n x y m d).2.2.1 → 0 ≤ (mx_dr W (pl - 1) ka pa fa kb pb fb n x y m d).1) ∧ (fb ≤ (mx_dr W (pl - 1) ka pa fa kb pb fb n x y m d).2.2.1 → 0 ≤ (mx_dr W (pl - 1) ka pa fa kb pb fb n x y m d).2.1) ∧ (-1 ≤ (mx_dr W (pl - 1) ka pa fa kb pb fb n x y m d).1 ∧ (mx_dr W (pl - 1) ka pa fa kb pb fb n x y m d).1 < pl) ∧ (-1 ≤ (mx_dr W (pl - 1) ka pa fa kb pb fb n x y m d).2.1 ∧ (mx_dr W (pl - 1) ka pa fa kb pb fb n x y m d).2.1 < pl) ∧ (0 ≤ (mx_dr W (pl - 1) ka pa fa kb pb fb n x y m d).2.2.2 ∧ (mx_dr W (pl - 1) ka pa fa kb pb fb n x y m d).2.2.2 < 2147483648) ∧ m ≤ (mx_dr W (pl - 1) ka pa fa kb pb fb n x y m d).2.2.1 ∧ (mx_dr W (pl - 1) ka pa fa kb pb fb n x y m d).2.2.1 ≤ m + n := by
  intro n
  induction n with
  | zero => intro x y m d h1 h2 h3 h4 h5; exact ⟨h1, h2, h3, h4, h5, Int.le_refl _, by simp only [mx_dr]; omega⟩
  | succ n ih =>
    intro x y m d h1 h2 h3 h4 h5
    by_cases q : x = pl - 1 ∨ y = pl - 1
    · rw [mx_dr_b q]; exact ⟨h1, h2, h3, h4, h5, Int.le_refl _, by show m ≤ m + ((n + 1 : Nat) : Int); omega⟩
    · rw [mx_dr_n q]
      have a1 := mx_sd_in (k := ka) (c := pa) (fr := fa) (m := m + 1) (x := x) (d := d) hW (by omega) ha h5
      have a2 := mx_sd_lo (k := ka) (c := pa) (fr := fa) (m := m + 1) (x := x) (d := d) hW (by omega) h3 ha h5
      have b1 := mx_sd_in (k := kb) (c := pb) (fr := fb) (m := m + 1) (x := y) (d := (mx_sd W (pl - 1) ka pa fa (m + 1) x d).2) hW (by omega) hb a1.2
      have b2 := mx_sd_lo (k := kb) (c := pb) (fr := fb) (m := m + 1) (x := y) (d := (mx_sd W (pl - 1) ka pa fa (m + 1) x d).2) hW (by omega) h4 hb a1.2
      have := ih (mx_sd W (pl - 1) ka pa fa (m + 1) x d).1 (mx_sd W (pl - 1) kb pb fb (m + 1) y (mx_sd W (pl - 1) ka pa fa (m + 1) x d).2).1 (m + 1) (mx_sd W (pl - 1) kb pb fb (m + 1) y (mx_sd W (pl - 1) ka pa fa (m + 1) x d).2).2 (fun q => (a1.1 q).1) (fun q => (b1.1 q).1) a2 b2 b1.2
      refine ⟨this.1, this.2.1, this.2.2.1, this.2.2.2.1, this.2.2.2.2.1, ?_, ?_⟩
      · omega
      · omega
/-- n suits: how many side 0 wins (w already), and the seed -/
def mx_mo (W : Int → List (Int × Int)) (br ka pa fa kb pb fb : Int) : Nat → Int → Int → Int × Int
  | 0, w, d => (w, d)
  | n + 1, w, d => mx_mo W br ka pa fa kb pb fb n (w + if mx_en br (mx_dr W br ka pa fa kb pb fb 200 (mx_sp pa fa) (mx_sp pb fb) 0 d).1 (mx_dr W br ka pa fa kb pb fb 200 (mx_sp pa fa) (mx_sp pb fb) 0 d).2.1 = 1 then 1 else 0) (mx_dr W br ka pa fa kb pb fb 200 (mx_sp pa fa) (mx_sp pb fb) 0 d).2.2.2
theorem mx_sp_b {c fr pl : Int} (hc : 0 ≤ c ∧ c < pl) (hf : 0 ≤ fr) : (fr ≤ 0 → 0 ≤ mx_sp c fr) ∧ -1 ≤ mx_sp c fr ∧ mx_sp c fr < pl := by
  unfold mx_sp
  split <;> omega
theorem mx_g_t {ch : List Int} {s : Nat} {p m : Int} (hb : s.testBit p.toNat = true) (q : m ≤ 20 ∧ m ≤ ch.getD (4 * p).toNat 0 - 1 ∧ (m = 20 ∨ m = ch.getD (4 * p).toNat 0 - 1)) : m = mx_g ch s p := by
  unfold mx_g
  rw [if_pos hb]
  split <;> omega
theorem mx_g_f {ch : List Int} {s : Nat} {p : Int} (hb : s.testBit p.toNat = false) : 0 = mx_g ch s p := by
  unfold mx_g
  rw [if_neg (by rw [hb]; decide)]
theorem mx_o_1 {ch : List Int} {s : Nat} {p : Int} (h : 0 < mx_g ch s p) : mx_o ch s p = 1 := by unfold mx_o; rw [if_pos h]
theorem mx_o_0 {ch : List Int} {s : Nat} {p : Int} (h : mx_g ch s p ≤ 0) : mx_o ch s p = 0 := by unfold mx_o; rw [if_neg (by omega)]
theorem mx_o_le {ch : List Int} {s : Nat} {p : Int} : mx_o ch s p ≤ 1 := by unfold mx_o; split <;> omega
theorem mx_w_I {cn go ch : List Int} {s : Nat} {p i : Int} (h0 : 0 ≤ i) (h : i < cn.getD p.toNat 0) : (mx_w cn go ch s p).getD (mx_o ch s p + i.toNat) (0, 0) = mx_wi go ch (mx_g ch s p) p i := by
  rw [mx_w_i (by omega), Int.toNat_of_nonneg h0]
def mx_sm (ch : List Int) (p : Int) : Nat → Int
  | 0 => 0
  | n + 1 => mx_sm ch p n + ch.getD (4 * p + (n : Nat)).toNat 0
def mx_rw (pl : Int) (cn go ch : List Int) : Prop := ∀ x : Int, 0 ≤ x → x < pl - 1 → (1 ≤ cn.getD x.toNat 0 ∧ cn.getD x.toNat 0 ≤ 4) ∧ (∀ i : Int, 0 ≤ i → i < cn.getD x.toNat 0 → 1 ≤ ch.getD (4 * x + i).toNat 0 ∧ ch.getD (4 * x + i).toNat 0 ≤ 100 ∧ 0 ≤ go.getD (4 * x + i).toNat 0 ∧ go.getD (4 * x + i).toNat 0 < pl) ∧ mx_sm ch x (cn.getD x.toNat 0).toNat = 100
theorem mx_cs_app (A B : List (Int × Int)) : mx_cs (A ++ B) = mx_cs A + mx_cs B := by
  unfold mx_cs
  rw [List.map_append, List.sum_append]
theorem mx_wr_cs (go ch : List Int) (g p : Int) : ∀ n, mx_cs (mx_wr go ch g p n) = mx_sm ch p n - (if n = 0 then 0 else g) := by
  intro n
  induction n with
  | zero => rfl
  | succ n ih =>
    have e : mx_wr go ch g p (n + 1) = mx_wr go ch g p n ++ [mx_wi go ch g p (n : Nat)] := by
      unfold mx_wr
      rw [List.range_succ, List.map_append]
      rfl
    rw [e, mx_cs_app, ih]
    have e1 : mx_cs [mx_wi go ch g p (n : Nat)] = if ((n : Nat) : Int) = 0 then ch.getD (4 * p + (n : Nat)).toNat 0 - g else ch.getD (4 * p + (n : Nat)).toNat 0 := Int.add_zero _
    rw [e1]
    show _ = mx_sm ch p n + ch.getD (4 * p + (n : Nat)).toNat 0 - (if n + 1 = 0 then 0 else g)
    by_cases q : n = 0
    · subst q; rw [if_pos rfl, if_pos (show ((0 : Nat) : Int) = 0 from rfl), if_neg (by omega)]; omega
    · rw [if_neg q, if_neg (by omega), if_neg (by omega)]; omega
theorem mx_g_b {cn go ch : List Int} {pl : Int} (h : mx_rw pl cn go ch) (t : Nat) {x : Int} (h0 : 0 ≤ x) (h1 : x < pl - 1) : 0 ≤ mx_g ch t x ∧ mx_g ch t x ≤ 20 ∧ mx_g ch t x ≤ ch.getD (4 * x).toNat 0 - 1 := by
  have r := h x h0 h1
  have c := r.2.1 0 (by omega) (by omega)
  rw [Int.add_zero] at c
  unfold mx_g
  split
  · split <;> omega
  · omega
theorem mx_rw_ok {cn go ch : List Int} {pl : Int} (h : mx_rw pl cn go ch) (t : Nat) : ∀ x : Int, 0 ≤ x → x < pl - 1 → mx_ok pl (mx_w cn go ch t x) := by
  intro x h0 h1
  have r := h x h0 h1
  have g := mx_g_b h t h0 h1
  have o := mx_o_le (ch := ch) (s := t) (p := x)
  refine ⟨?_, ?_, ?_⟩
  · rw [mx_w_len]; omega
  · unfold mx_w
    rw [mx_cs_app, mx_wr_cs, if_neg (show ¬ (cn.getD x.toNat 0).toNat = 0 by omega), r.2.2]
    by_cases q : 0 < mx_g ch t x
    · rw [if_pos q, show mx_cs [(x, mx_g ch t x)] = mx_g ch t x from Int.add_zero _]; omega
    · rw [if_neg q, show mx_cs [] = 0 from rfl]; omega
  · intro j hj
    rw [mx_w_len] at hj
    by_cases q : j < mx_o ch t x
    · have q1 : 0 < mx_g ch t x := by
        rcases Int.lt_or_le 0 (mx_g ch t x) with w | w
        · exact w
        · rw [mx_o_0 w] at q; omega
      rw [show j = 0 by omega, mx_w_0 q1]
      show 1 ≤ mx_g ch t x ∧ mx_g ch t x ≤ 100 ∧ 0 ≤ x ∧ x < pl
      omega
    · have e := mx_w_i (cn := cn) (go := go) (ch := ch) (s := t) (p := x) (i := j - mx_o ch t x) (by omega)
      rw [show mx_o ch t x + (j - mx_o ch t x) = j by omega] at e
      rw [e]
      have c := r.2.1 ((j - mx_o ch t x : Nat) : Int) (by omega) (by omega)
      show 1 ≤ (if (((j - mx_o ch t x : Nat) : Int)) = 0 then _ else _) ∧ (if (((j - mx_o ch t x : Nat) : Int)) = 0 then _ else _) ≤ 100 ∧ 0 ≤ go.getD (4 * x + ((j - mx_o ch t x : Nat) : Int)).toNat 0 ∧ go.getD (4 * x + ((j - mx_o ch t x : Nat) : Int)).toNat 0 < pl
      by_cases z : (((j - mx_o ch t x : Nat) : Int)) = 0
      · rw [if_pos z]
        rw [z, Int.add_zero] at c ⊢
        omega
      · rw [if_neg z]; omega
theorem mx_rw_ch {cn go ch : List Int} {pl : Int} (h : mx_rw pl cn go ch) : ∀ x : Int, 0 ≤ x → x < pl - 1 → 1 ≤ cn.getD x.toNat 0 ∧ ∀ j : Int, 4 * x ≤ j → j < 4 * x + cn.getD x.toNat 0 → 0 ≤ ch.getD j.toNat 0 ∧ ch.getD j.toNat 0 ≤ 100 := by
  intro x h0 h1
  have r := h x h0 h1
  refine ⟨r.1.1, fun j j0 j1 => ?_⟩
  have c := r.2.1 (j - 4 * x) (by omega) (by omega)
  rw [show 4 * x + (j - 4 * x) = j by omega] at c
  omega
end
