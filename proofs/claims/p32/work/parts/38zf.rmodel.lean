noncomputable section
/-! THE MODEL of suits: whose cork comes later -/
/-- a row of what has come: grows from 0 to at most a billion -/
def mr_ok (c : Nat → Int) : Prop := (∀ n, 0 ≤ c n ∧ c n ≤ 1000000000) ∧ (∀ n, c n ≤ c (n + 1)) ∧ c 0 = 0
theorem mr_ok_cm {W : Int → List (Int × Int)} {pl k q : Int} (hW : ∀ x : Int, 0 ≤ x → x < pl - 1 → mx_ok pl (W x)) (hq : 0 ≤ q ∧ q < pl - 1) : mr_ok (mf_cm W (pl - 1) k q) :=
  ⟨fun n => ⟨(mf_cm_b hW (by omega) n).1, (mf_cm_b hW (by omega) n).2.1⟩, fun n => (mf_cm_b hW (by omega) n).2.2, mf_cm_0 hq⟩
def mr_by (c : Nat → Int) (m u : Int) : Int := if u < m then 0 else c (u - m).toNat
def mr_ju (c : Nat → Int) (m u : Int) : Int := mr_by c m u - mr_by c m (u - 1)
theorem mr_by_b {c : Nat → Int} (hc : mr_ok c) (m u : Int) : 0 ≤ mr_by c m u ∧ mr_by c m u ≤ 1000000000 ∧ mr_by c m (u - 1) ≤ mr_by c m u := by
  unfold mr_by
  by_cases h : u < m
  · rw [if_pos h, if_pos (by omega)]; decide
  · rw [if_neg h]
    have a := hc.1 (u - m).toNat
    by_cases g : u - 1 < m
    · rw [if_pos g]; omega
    · rw [if_neg g]
      have b := hc.2.1 (u - 1 - m).toNat
      rw [show (u - 1 - m).toNat + 1 = (u - m).toNat by omega] at b
      omega
theorem mr_by_0 {c : Nat → Int} (hc : mr_ok c) {m u : Int} (hu : u ≤ 0) (hm : 0 ≤ m) : mr_by c m u = 0 := by
  unfold mr_by
  split
  · rfl
  · rw [show (u - m).toNat = 0 by omega]; exact hc.2.2
theorem mr_by_mono {c : Nat → Int} (hc : mr_ok c) (m u : Int) : ∀ k : Nat, mr_by c m u ≤ mr_by c m (u + k) := by
  intro k
  induction k with
  | zero => rw [show u + ((0 : Nat) : Int) = u by omega]; exact Int.le_refl _
  | succ k ih =>
    have := (mr_by_b hc m (u + ((k + 1 : Nat) : Int))).2.2
    rw [show u + ((k + 1 : Nat) : Int) - 1 = u + (k : Nat) by omega] at this
    omega
theorem mr_mul_b {a b : Int} (a0 : 0 ≤ a) (a1 : a ≤ 1000000000) (b0 : 0 ≤ b) (b1 : b ≤ 1000000000) : 0 ≤ a * b ∧ a * b ≤ 1000000000000000000 := by
  refine ⟨Int.mul_nonneg a0 b0, ?_⟩
  have := Int.mul_le_mul a1 b1 b0 (by omega : (0 : Int) ≤ 1000000000)
  omega
/-- sums of the first n -/
def mr_S (t : Int → Int) : Nat → Int
  | 0 => 0
  | n + 1 => mr_S t n + t (n : Nat)
theorem mr_S_s {t : Int → Int} {u : Int} (h : 0 ≤ u) : mr_S t (u + 1).toNat = mr_S t u.toNat + t u := by
  rw [show (u + 1).toNat = u.toNat + 1 by omega]
  show mr_S t u.toNat + t ((u.toNat : Nat) : Int) = _
  rw [Int.toNat_of_nonneg h]
theorem mr_S_mono {t : Int → Int} (h : ∀ u, 0 ≤ t u) (n : Nat) : ∀ k, mr_S t n ≤ mr_S t (n + k) := by
  intro k
  induction k with
  | zero => exact Int.le_refl _
  | succ k ih => have := h ((n + k : Nat) : Int); show mr_S t n ≤ mr_S t (n + k) + t ((n + k : Nat) : Int); omega
/-- of a minute: side 0 is later -/
def mr_t0 (c0 : Nat → Int) (m0 : Int) (c1 : Nat → Int) (m1 u : Int) : Int := mr_ju c1 m1 u * (1000000000 - mr_by c0 m0 u) / 1000000000
def mr_t2 (c0 : Nat → Int) (m0 : Int) (c1 : Nat → Int) (m1 u : Int) : Int := mr_ju c0 m0 u * mr_ju c1 m1 u / 1000000000
def mr_F0 (c0 : Nat → Int) (m0 : Int) (c1 : Nat → Int) (m1 : Int) : Int := mr_S (mr_t0 c0 m0 c1 m1) 201
def mr_F2 (c0 : Nat → Int) (m0 : Int) (c1 : Nat → Int) (m1 : Int) : Int := mr_S (mr_t2 c0 m0 c1 m1) 201
def mr_w (c0 : Nat → Int) (m0 : Int) (c1 : Nat → Int) (m1 wh : Int) : Int := (if wh = 0 then mr_F0 c0 m0 c1 m1 else if wh = 1 then mr_F0 c1 m1 c0 m0 else mr_F2 c0 m0 c1 m1) / 1000
theorem mr_tail {c : Nat → Int} {m A : Int} {z t : Int → Int} {n : Nat} (hc : mr_ok c) (ht : ∀ u, t u = mr_ju c m u * z u / 1000000000) (hz : ∀ u : Int, (n : Int) ≤ u → 0 ≤ z u ∧ z u ≤ A) (hA : 0 ≤ A) : ∀ k : Nat, mr_S t (n + k) - mr_S t n ≤ (mr_by c m ((n + k : Nat) - 1) - mr_by c m ((n : Nat) - 1)) * A / 1000000000 := by
  intro k
  induction k with
  | zero =>
    rw [show mr_by c m (((n + 0 : Nat) : Int) - 1) - mr_by c m ((n : Nat) - 1) = 0 from Int.sub_self _, Int.zero_mul]
    show mr_S t n - mr_S t n ≤ 0 / 1000000000
    omega
  | succ k ih =>
    have e : mr_S t (n + (k + 1)) = mr_S t (n + k) + t ((n + k : Nat) : Int) := rfl
    have hb := mr_by_b hc m ((n + k : Nat) : Int)
    have hu := hz ((n + k : Nat) : Int) (by omega)
    have e2 : (((n + (k + 1) : Nat) : Int) - 1) = ((n + k : Nat) : Int) := by omega
    rw [e, ht, e2]
    have h1 : mr_ju c m ((n + k : Nat) : Int) * z ((n + k : Nat) : Int) ≤ mr_ju c m ((n + k : Nat) : Int) * A := Int.mul_le_mul_of_nonneg_left hu.2 (by unfold mr_ju; omega)
    have h0 : 0 ≤ mr_ju c m ((n + k : Nat) : Int) * z ((n + k : Nat) : Int) := Int.mul_nonneg (by unfold mr_ju; omega) hu.1
    have h2 : (mr_by c m ((n + k : Nat) : Int) - mr_by c m ((n : Nat) - 1)) * A = (mr_by c m (((n + k : Nat) : Int) - 1) - mr_by c m ((n : Nat) - 1)) * A + mr_ju c m ((n + k : Nat) : Int) * A := by
      rw [← Int.add_mul]
      unfold mr_ju
      exact congrArg (· * A) (by omega)
    omega
theorem mr_t0_nn {c0 c1 : Nat → Int} (h0 : mr_ok c0) (h1 : mr_ok c1) (m0 m1 u : Int) : 0 ≤ mr_t0 c0 m0 c1 m1 u := by
  have a := mr_by_b h0 m0 u
  have b := mr_by_b h1 m1 u
  have := Int.mul_nonneg (show 0 ≤ mr_ju c1 m1 u by unfold mr_ju; omega) (show 0 ≤ 1000000000 - mr_by c0 m0 u by omega)
  unfold mr_t0
  omega
theorem mr_t2_nn {c0 c1 : Nat → Int} (h0 : mr_ok c0) (h1 : mr_ok c1) (m0 m1 u : Int) : 0 ≤ mr_t2 c0 m0 c1 m1 u := by
  have a := mr_by_b h0 m0 u
  have b := mr_by_b h1 m1 u
  have := Int.mul_nonneg (show 0 ≤ mr_ju c0 m0 u by unfold mr_ju; omega) (show 0 ≤ mr_ju c1 m1 u by unfold mr_ju; omega)
  unfold mr_t2
  omega
/-- what can still be added behind minute u -/
theorem mr_rest0 {c0 c1 : Nat → Int} (h0 : mr_ok c0) (h1 : mr_ok c1) {m0 m1 u : Int} (hu : 0 ≤ u ∧ u ≤ 200) : mr_S (mr_t0 c0 m0 c1 m1) (u + 1).toNat ≤ mr_F0 c0 m0 c1 m1 ∧ mr_F0 c0 m0 c1 m1 ≤ mr_S (mr_t0 c0 m0 c1 m1) (u + 1).toNat + (1000000000 - mr_by c0 m0 u) * (1000000000 - mr_by c1 m1 u) / 1000000000 := by
  have en : (u + 1).toNat + (200 - u).toNat = 201 := by omega
  have hm := mr_S_mono (t := mr_t0 c0 m0 c1 m1) (fun v => mr_t0_nn h0 h1 m0 m1 v) (u + 1).toNat (200 - u).toNat
  have a := mr_by_b h0 m0 u
  have b := mr_by_b h1 m1 u
  have ht := mr_tail (c := c1) (m := m1) (A := 1000000000 - mr_by c0 m0 u) (z := fun v => 1000000000 - mr_by c0 m0 v) (t := mr_t0 c0 m0 c1 m1) (n := (u + 1).toNat) h1 (fun _ => rfl)
    (fun v hv => by
      have x := mr_by_b h0 m0 v
      have y := mr_by_mono h0 m0 u (v - u).toNat
      rw [show u + ((v - u).toNat : Int) = v by omega] at y
      show 0 ≤ 1000000000 - mr_by c0 m0 v ∧ 1000000000 - mr_by c0 m0 v ≤ _
      omega) (by omega) (200 - u).toNat
  rw [en] at hm ht
  rw [show (((u + 1).toNat : Nat) : Int) - 1 = u by omega] at ht
  have b2 := mr_by_b h1 m1 (((201 : Nat) : Int) - 1)
  have hx : (mr_by c1 m1 (((201 : Nat) : Int) - 1) - mr_by c1 m1 u) * (1000000000 - mr_by c0 m0 u) ≤ (1000000000 - mr_by c1 m1 u) * (1000000000 - mr_by c0 m0 u) := Int.mul_le_mul_of_nonneg_right (by omega) (by omega)
  rw [Int.mul_comm (1000000000 - mr_by c1 m1 u)] at hx
  unfold mr_F0
  omega
theorem mr_rest2 {c0 c1 : Nat → Int} (h0 : mr_ok c0) (h1 : mr_ok c1) {m0 m1 u : Int} (hu : 0 ≤ u ∧ u ≤ 200) : mr_S (mr_t2 c0 m0 c1 m1) (u + 1).toNat ≤ mr_F2 c0 m0 c1 m1 ∧ mr_F2 c0 m0 c1 m1 ≤ mr_S (mr_t2 c0 m0 c1 m1) (u + 1).toNat + (1000000000 - mr_by c0 m0 u) * (1000000000 - mr_by c1 m1 u) / 1000000000 := by
  have en : (u + 1).toNat + (200 - u).toNat = 201 := by omega
  have hm := mr_S_mono (t := mr_t2 c0 m0 c1 m1) (fun v => mr_t2_nn h0 h1 m0 m1 v) (u + 1).toNat (200 - u).toNat
  have a := mr_by_b h0 m0 u
  have b := mr_by_b h1 m1 u
  have ht := mr_tail (c := c1) (m := m1) (A := 1000000000 - mr_by c0 m0 u) (z := fun v => mr_ju c0 m0 v) (t := mr_t2 c0 m0 c1 m1) (n := (u + 1).toNat) h1 (fun v => by unfold mr_t2; rw [Int.mul_comm])
    (fun v hv => by
      have x := mr_by_b h0 m0 v
      have y := mr_by_mono h0 m0 u (v - 1 - u).toNat
      rw [show u + ((v - 1 - u).toNat : Int) = v - 1 by omega] at y
      show 0 ≤ mr_ju c0 m0 v ∧ mr_ju c0 m0 v ≤ _
      unfold mr_ju
      omega) (by omega) (200 - u).toNat
  rw [en] at hm ht
  rw [show (((u + 1).toNat : Nat) : Int) - 1 = u by omega] at ht
  have b2 := mr_by_b h1 m1 (((201 : Nat) : Int) - 1)
  have hx : (mr_by c1 m1 (((201 : Nat) : Int) - 1) - mr_by c1 m1 u) * (1000000000 - mr_by c0 m0 u) ≤ (1000000000 - mr_by c1 m1 u) * (1000000000 - mr_by c0 m0 u) := Int.mul_le_mul_of_nonneg_right (by omega) (by omega)
  rw [Int.mul_comm (1000000000 - mr_by c1 m1 u)] at hx
  unfold mr_F2
  omega
theorem mr_S_b0 {c0 c1 : Nat → Int} (h0 : mr_ok c0) (h1 : mr_ok c1) (m0 : Int) {m1 : Int} (hm : 0 ≤ m1) (n : Nat) : 0 ≤ mr_S (mr_t0 c0 m0 c1 m1) n ∧ mr_S (mr_t0 c0 m0 c1 m1) n ≤ 1000000000 := by
  have hm' := mr_S_mono (t := mr_t0 c0 m0 c1 m1) (fun v => mr_t0_nn h0 h1 m0 m1 v) 0 n
  have ht := mr_tail (c := c1) (m := m1) (A := 1000000000) (z := fun v => 1000000000 - mr_by c0 m0 v) (t := mr_t0 c0 m0 c1 m1) (n := 0) h1 (fun _ => rfl) (fun v _ => by have x := mr_by_b h0 m0 v; show 0 ≤ 1000000000 - mr_by c0 m0 v ∧ 1000000000 - mr_by c0 m0 v ≤ _; omega) (by decide) n
  rw [Nat.zero_add] at hm' ht
  have z := mr_by_0 h1 (m := m1) (u := ((0 : Nat) : Int) - 1) (by omega) hm
  have b := mr_by_b h1 m1 ((n : Nat) - 1)
  have s0 : mr_S (mr_t0 c0 m0 c1 m1) 0 = 0 := rfl
  rw [z] at ht
  omega
theorem mr_S_b2 {c0 c1 : Nat → Int} (h0 : mr_ok c0) (h1 : mr_ok c1) (m0 : Int) {m1 : Int} (hm : 0 ≤ m1) (n : Nat) : 0 ≤ mr_S (mr_t2 c0 m0 c1 m1) n ∧ mr_S (mr_t2 c0 m0 c1 m1) n ≤ 1000000000 := by
  have hm' := mr_S_mono (t := mr_t2 c0 m0 c1 m1) (fun v => mr_t2_nn h0 h1 m0 m1 v) 0 n
  have ht := mr_tail (c := c1) (m := m1) (A := 1000000000) (z := fun v => mr_ju c0 m0 v) (t := mr_t2 c0 m0 c1 m1) (n := 0) h1 (fun v => by unfold mr_t2; rw [Int.mul_comm]) (fun v _ => by have x := mr_by_b h0 m0 v; have y := mr_by_b h0 m0 (v - 1); show 0 ≤ mr_ju c0 m0 v ∧ mr_ju c0 m0 v ≤ _; unfold mr_ju; omega) (by decide) n
  rw [Nat.zero_add] at hm' ht
  have z := mr_by_0 h1 (m := m1) (u := ((0 : Nat) : Int) - 1) (by omega) hm
  have b := mr_by_b h1 m1 ((n : Nat) - 1)
  have s0 : mr_S (mr_t2 c0 m0 c1 m1) 0 = 0 := rfl
  rw [z] at ht
  omega
theorem mr_t0_0 {c0 c1 : Nat → Int} (h1 : mr_ok c1) (m0 : Int) {m1 : Int} (hm : 0 ≤ m1) : mr_S (mr_t0 c0 m0 c1 m1) 1 = 0 := by
  show 0 + mr_t0 c0 m0 c1 m1 ((0 : Nat) : Int) = 0
  unfold mr_t0 mr_ju
  rw [mr_by_0 h1 (u := ((0 : Nat) : Int)) (by omega) hm, mr_by_0 h1 (u := ((0 : Nat) : Int) - 1) (by omega) hm, Int.sub_self, Int.zero_mul]
  decide
theorem mr_t2_0 {c0 c1 : Nat → Int} (h1 : mr_ok c1) (m0 : Int) {m1 : Int} (hm : 0 ≤ m1) : mr_S (mr_t2 c0 m0 c1 m1) 1 = 0 := by
  show 0 + mr_t2 c0 m0 c1 m1 ((0 : Nat) : Int) = 0
  unfold mr_t2
  rw [show mr_ju c1 m1 ((0 : Nat) : Int) = 0 by unfold mr_ju; rw [mr_by_0 h1 (u := ((0 : Nat) : Int)) (by omega) hm, mr_by_0 h1 (u := ((0 : Nat) : Int) - 1) (by omega) hm]; rfl, Int.mul_zero]
  decide
theorem mr_w_b {c0 c1 : Nat → Int} (h0 : mr_ok c0) (h1 : mr_ok c1) {m0 m1 : Int} (hm0 : 0 ≤ m0) (hm : 0 ≤ m1) (wh : Int) : 0 ≤ mr_w c0 m0 c1 m1 wh ∧ mr_w c0 m0 c1 m1 wh ≤ 1000000 := by
  have a := mr_S_b0 h0 h1 m0 hm 201
  have b := mr_S_b0 h1 h0 m1 hm0 201
  have c := mr_S_b2 h0 h1 m0 hm 201
  unfold mr_w mr_F0 mr_F2
  split
  · omega
  · split <;> omega
theorem mr_w_0 {c0 c1 : Nat → Int} {m0 m1 : Int} : mr_w c0 m0 c1 m1 0 = mr_F0 c0 m0 c1 m1 / 1000 := by unfold mr_w; rw [if_pos rfl]
theorem mr_w_1 {c0 c1 : Nat → Int} {m0 m1 : Int} : mr_w c0 m0 c1 m1 1 = mr_F0 c1 m1 c0 m0 / 1000 := by unfold mr_w; rw [if_neg (by decide), if_pos rfl]
theorem mr_w_2 {c0 c1 : Nat → Int} {m0 m1 : Int} : mr_w c0 m0 c1 m1 2 = mr_F2 c0 m0 c1 m1 / 1000 := by unfold mr_w; rw [if_neg (by decide), if_neg (by decide)]
theorem mr_F_b {c0 c1 : Nat → Int} (h0 : mr_ok c0) (h1 : mr_ok c1) (m0 : Int) {m1 : Int} (hm : 0 ≤ m1) : 0 ≤ mr_F0 c0 m0 c1 m1 ∧ mr_F0 c0 m0 c1 m1 ≤ 1000000000 := mr_S_b0 h0 h1 m0 hm 201
theorem mr_ct {W : Int → List (Int × Int)} {pl k q u m : Int} (hu : u ≤ 200) (hm : 0 ≤ m) : mf_ct W pl k q (u - m) = mr_by (mf_cm W (pl - 1) k q) m u := by
  unfold mf_ct mr_by
  by_cases h : u < m
  · rw [if_pos h, if_neg (by omega)]
  · rw [if_neg h, if_pos (by omega)]
end
