noncomputable section
/-! the rows of a stream as they must be; stones and digging keep them; what is sought over them -/
theorem mx_ext {xs ys : List Int} (hl : xs.length = ys.length) (h : ∀ k, xs.getD k 0 = ys.getD k 0) : xs = ys := by
  refine List.ext_getElem hl fun k h1 h2 => ?_
  have e := h k
  rw [List.getD_eq_getElem?_getD, List.getD_eq_getElem?_getD, List.getElem?_eq_getElem h1, List.getElem?_eq_getElem h2] at e
  exact e
/-- another stone, or another digging, at p: the other places' ways stay -/
theorem mx_wy_one {wg wc we wg' wc' : List Int} {pl p : Int} {W W' : Int → List (Int × Int)} (h : ∀ x : Int, 0 ≤ x → x < pl - 1 → mx_wy wg wc we x (W x)) (hok : ∀ x : Int, 0 ≤ x → x < pl - 1 → mx_ok pl (W x)) (hpl : pl ≤ 12) (hp : 0 ≤ p ∧ p < pl - 1) (hl : we.length = 12) (hat : mx_at (5 * p.toNat) (W' p) wg' wc' (W' p).length) (o1 : mx_out (5 * p.toNat) (5 * p.toNat + 5) wg wg') (o2 : mx_out (5 * p.toNat) (5 * p.toNat + 5) wc wc') (hw : ∀ x : Int, 0 ≤ x → x < pl - 1 → ¬ x = p → W' x = W x) : ∀ x : Int, 0 ≤ x → x < pl - 1 → mx_wy wg' wc' (we.set p.toNat (5 * p + ((W' p).length : Int))) x (W' x) := by
  intro x h0 h1
  by_cases q : x = p
  · subst q
    refine ⟨?_, hat⟩
    rw [fz_getD_set, if_pos ⟨rfl, by omega⟩]
  · rw [hw x h0 h1 q]
    have r := h x h0 h1
    have l5 := (hok x h0 h1).1
    refine ⟨?_, fun k hk => ?_⟩
    · rw [fz_getD_set, if_neg (fun w => q (by omega))]; exact r.1
    · rw [o1 _ (by omega), o2 _ (by omega)]; exact r.2 k hk
theorem mx_w_tb {cn go ch : List Int} {s t : Nat} {p : Int} (h : t.testBit p.toNat = s.testBit p.toNat) : mx_w cn go ch t p = mx_w cn go ch s p := by
  unfold mx_w mx_g
  rw [h]
theorem mx_tb_ne {s p x : Nat} (h : ¬ x = p) : (s ^^^ 1 <<< p).testBit x = s.testBit x := by
  rw [Nat.testBit_xor, mf_tb0 h, Bool.xor_false]
theorem mx_xor2 (s b : Nat) : s ^^^ b ^^^ b = s := by rw [Nat.xor_assoc, Nat.xor_self, Nat.xor_zero]
theorem mx_w_ch {cn go ch ch' : List Int} {t : Nat} {x : Int} (h4 : cn.getD x.toNat 0 ≤ 4) (h : ∀ i : Int, 0 ≤ i → i < 4 → ch'.getD (4 * x + i).toNat 0 = ch.getD (4 * x + i).toNat 0) : mx_w cn go ch' t x = mx_w cn go ch t x := by
  have e0 := h 0 (by omega) (by omega)
  rw [Int.add_zero] at e0
  have eg : mx_g ch' t x = mx_g ch t x := by unfold mx_g; rw [e0]
  unfold mx_w
  rw [eg]
  have er : mx_wr go ch' (mx_g ch t x) x (cn.getD x.toNat 0).toNat = mx_wr go ch (mx_g ch t x) x (cn.getD x.toNat 0).toNat := by
    unfold mx_wr
    refine List.map_congr_left fun i hi => ?_
    have hi2 := List.mem_range.mp hi
    unfold mx_wi
    rw [h (i : Nat) (by omega) (by omega)]
  rw [er]
theorem mx_sh_get {ch : List Int} {p a b n : Int} {k : Nat} (ha : (4 * p + a).toNat < ch.length) (hb : (4 * p + b).toNat < ch.length) : (mx_sh ch p a b n).getD k 0 = if k = (4 * p + b).toNat then ch.getD (4 * p + b).toNat 0 + n else if k = (4 * p + a).toNat then ch.getD (4 * p + a).toNat 0 - n else ch.getD k 0 := by
  unfold mx_sh
  rw [fz_getD_set, List.length_set]
  by_cases q : k = (4 * p + b).toNat
  · rw [if_pos ⟨q, hb⟩, if_pos q]
  · rw [if_neg (fun w => q w.1), if_neg q, fz_getD_set]
    by_cases z : k = (4 * p + a).toNat
    · rw [if_pos ⟨z, ha⟩, if_pos z]
    · rw [if_neg (fun w => z w.1), if_neg z]
theorem mx_sh_2 {ch : List Int} {p a b n : Int} (hp : 0 ≤ p ∧ p < 12) (ha : 0 ≤ a ∧ a < 4) (hb : 0 ≤ b ∧ b < 4) (hab : ¬ a = b) (hl : ch.length = 48) : mx_sh (mx_sh ch p a b n) p b a n = ch := by
  refine mx_ext (by rw [mx_sh_len, mx_sh_len]) fun k => ?_
  rw [mx_sh_get (by rw [mx_sh_len]; omega) (by rw [mx_sh_len]; omega), mx_sh_get (by omega) (by omega), mx_sh_get (by omega) (by omega), mx_sh_get (by omega) (by omega)]
  by_cases q : k = (4 * p + a).toNat
  · rw [if_pos q, if_neg (by omega), if_pos rfl, q]; omega
  · rw [if_neg q]
    by_cases z : k = (4 * p + b).toNat
    · rw [if_pos z, if_pos rfl, z]; omega
    · rw [if_neg z, if_neg z, if_neg q]
theorem mx_w_sh {cn go ch : List Int} {t : Nat} {p a b n x : Int} (hp : 0 ≤ p ∧ p < 12) (ha : 0 ≤ a ∧ a < 4) (hb : 0 ≤ b ∧ b < 4) (hl : ch.length = 48) (h4 : cn.getD x.toNat 0 ≤ 4) (h0 : 0 ≤ x) (hx : ¬ x = p) : mx_w cn go (mx_sh ch p a b n) t x = mx_w cn go ch t x := by
  refine mx_w_ch h4 fun i h1 h2 => ?_
  rw [mx_sh_get (by omega) (by omega), if_neg (by omega), if_neg (by omega)]
theorem mx_sm_sh {ch : List Int} {p a b n x : Int} (hp : 0 ≤ p ∧ p < 12) (ha : 0 ≤ a ∧ a < 4) (hb : 0 ≤ b ∧ b < 4) (hab : ¬ a = b) (hl : ch.length = 48) (h0 : 0 ≤ x) : ∀ m : Nat, m ≤ 4 → mx_sm (mx_sh ch p a b n) x m = mx_sm ch x m + (if x = p ∧ b < (m : Int) then n else 0) - (if x = p ∧ a < (m : Int) then n else 0) := by
  intro m
  induction m with
  | zero => intro _; rw [if_neg (by omega), if_neg (by omega)]; rfl
  | succ m ih =>
    intro h4
    show mx_sm (mx_sh ch p a b n) x m + (mx_sh ch p a b n).getD (4 * x + (m : Nat)).toNat 0 = mx_sm ch x m + ch.getD (4 * x + (m : Nat)).toNat 0 + _ - _
    rw [ih (by omega), mx_sh_get (by omega) (by omega)]
    by_cases q : x = p
    · subst q
      by_cases zb : (m : Int) = b
      · rw [if_pos (show (4 * x + (m : Nat)).toNat = (4 * x + b).toNat by omega), if_neg (show ¬ (x = x ∧ b < (m : Int)) by omega), if_pos (show x = x ∧ b < ((m + 1 : Nat) : Int) by omega), zb]
        by_cases za : a < b
        · rw [if_pos ⟨rfl, za⟩, if_pos (show x = x ∧ a < ((m + 1 : Nat) : Int) by omega)]; omega
        · rw [if_neg (fun w => za w.2), if_neg (show ¬ (x = x ∧ a < ((m + 1 : Nat) : Int)) by omega)]; omega
      · rw [if_neg (show ¬ (4 * x + (m : Nat)).toNat = (4 * x + b).toNat by omega)]
        by_cases za : (m : Int) = a
        · rw [if_pos (show (4 * x + (m : Nat)).toNat = (4 * x + a).toNat by omega), if_neg (show ¬ (x = x ∧ a < (m : Int)) by omega), if_pos (show x = x ∧ a < ((m + 1 : Nat) : Int) by omega), za]
          by_cases y : b < a
          · rw [if_pos ⟨rfl, y⟩, if_pos (show x = x ∧ b < ((m + 1 : Nat) : Int) by omega)]; omega
          · rw [if_neg (fun w => y w.2), if_neg (show ¬ (x = x ∧ b < ((m + 1 : Nat) : Int)) by omega)]; omega
        · rw [if_neg (show ¬ (4 * x + (m : Nat)).toNat = (4 * x + a).toNat by omega)]
          have e1 : ∀ c : Int, ¬ (m : Int) = c → (if x = x ∧ c < ((m + 1 : Nat) : Int) then n else 0) = (if x = x ∧ c < (m : Int) then n else 0) := by
            intro c hc
            by_cases y : c < (m : Int)
            · rw [if_pos ⟨rfl, by omega⟩, if_pos ⟨rfl, y⟩]
            · rw [if_neg (fun w => y (by omega)), if_neg (fun w => y w.2)]
          rw [e1 b zb, e1 a za]
          omega
    · rw [if_neg (show ¬ (4 * x + (m : Nat)).toNat = (4 * p + b).toNat by omega), if_neg (show ¬ (4 * x + (m : Nat)).toNat = (4 * p + a).toNat by omega), if_neg (fun w => q w.1), if_neg (fun w => q w.1), if_neg (fun w => q w.1), if_neg (fun w => q w.1)]
      omega
theorem mx_sm_ge {ch : List Int} {x : Int} : ∀ (m : Nat), (∀ i : Int, 0 ≤ i → i < (m : Int) → 1 ≤ ch.getD (4 * x + i).toNat 0) → ∀ i : Int, 0 ≤ i → i < (m : Int) → ch.getD (4 * x + i).toNat 0 + (m : Int) - 1 ≤ mx_sm ch x m := by
  intro m
  induction m with
  | zero => intro _ i h0 h1; omega
  | succ m ih =>
    intro h i h0 h1
    have hm := h (m : Nat) (by omega) (by omega)
    have ge : ∀ (k : Nat), (∀ i : Int, 0 ≤ i → i < (k : Int) → 1 ≤ ch.getD (4 * x + i).toNat 0) → (k : Int) ≤ mx_sm ch x k := by
      intro k
      induction k with
      | zero => intro _; exact Int.le_refl 0
      | succ k ih2 => intro g; have a := ih2 (fun i h0 h1 => g i h0 (by omega)); have b := g (k : Nat) (by omega) (by omega); show ((k + 1 : Nat) : Int) ≤ mx_sm ch x k + ch.getD (4 * x + (k : Nat)).toNat 0; omega
    show _ ≤ mx_sm ch x m + ch.getD (4 * x + (m : Nat)).toNat 0
    by_cases q : i = (m : Int)
    · subst q; have := ge m (fun i h0 h1 => h i h0 (by omega)); omega
    · have := ih (fun i h0 h1 => h i h0 (by omega)) i h0 (by omega); omega
/-- together with another: at most a hundred -/
theorem mx_rw_sum {cn go ch : List Int} {pl x a b : Int} (h : mx_rw pl cn go ch) (h0 : 0 ≤ x) (h1 : x < pl - 1) (ha : 0 ≤ a ∧ a < cn.getD x.toNat 0) (hb : 0 ≤ b ∧ b < cn.getD x.toNat 0) (hab : ¬ a = b) : ch.getD (4 * x + a).toNat 0 + ch.getD (4 * x + b).toNat 0 ≤ 100 := by
  have r := h x h0 h1
  have two : ∀ (m : Nat), (∀ i : Int, 0 ≤ i → i < (m : Int) → 1 ≤ ch.getD (4 * x + i).toNat 0) → ∀ i k : Int, 0 ≤ i → i < k → k < (m : Int) → ch.getD (4 * x + i).toNat 0 + ch.getD (4 * x + k).toNat 0 ≤ mx_sm ch x m := by
    intro m
    induction m with
    | zero => intro _ i k h0 h1 h2; omega
    | succ m ih =>
      intro g i k g0 g1 g2
      have hm := g (m : Nat) (by omega) (by omega)
      show _ ≤ mx_sm ch x m + ch.getD (4 * x + (m : Nat)).toNat 0
      by_cases q : k = (m : Int)
      · subst q; have := mx_sm_ge m (fun i h0 h1 => g i h0 (by omega)) i g0 g1; omega
      · have := ih (fun i h0 h1 => g i h0 (by omega)) i k g0 g1 (by omega); omega
  have g := fun i h0 h1 => (r.2.1 i h0 (show i < cn.getD x.toNat 0 by omega)).1
  rcases Int.lt_or_le a b with q | q
  · have := two (cn.getD x.toNat 0).toNat (fun i h0 h1 => (r.2.1 i h0 (by omega)).1) a b (by omega) q (by omega); rw [r.2.2] at this; omega
  · have := two (cn.getD x.toNat 0).toNat (fun i h0 h1 => (r.2.1 i h0 (by omega)).1) b a (by omega) (by omega) (by omega); rw [r.2.2] at this; omega
theorem mx_rw_sh {cn go ch : List Int} {pl p a b n : Int} (h : mx_rw pl cn go ch) (hpl : pl ≤ 12) (hp : 0 ≤ p ∧ p < pl - 1) (ha : 0 ≤ a ∧ a < cn.getD p.toNat 0) (hb : 0 ≤ b ∧ b < cn.getD p.toNat 0) (hab : ¬ a = b) (hl : ch.length = 48) (h0 : 0 ≤ n) (h1 : 1 ≤ ch.getD (4 * p + a).toNat 0 - n) : mx_rw pl cn go (mx_sh ch p a b n) := by
  intro x x0 x1
  have r := h x x0 x1
  have rp := h p hp.1 hp.2
  have hs := mx_rw_sum h hp.1 hp.2 ha hb hab
  refine ⟨r.1, fun i i0 i1 => ?_, ?_⟩
  · have c := r.2.1 i i0 i1
    have ca := rp.2.1 a ha.1 ha.2
    have cb := rp.2.1 b hb.1 hb.2
    rw [mx_sh_get (by omega) (by omega)]
    split
    · omega
    · split <;> omega
  · rw [mx_sm_sh (by omega) (by omega) (by omega) hab hl x0 _ (by omega), r.2.2]
    by_cases q : x = p
    · subst q; rw [if_pos ⟨rfl, by omega⟩, if_pos ⟨rfl, by omega⟩]; omega
    · rw [if_neg (fun w => q w.1), if_neg (fun w => q w.1)]; omega
/-! what is sought -/
def mk_ab (x : Int) : Int := if x < 0 then -x else x
def mk_kn (c0 c1 : Nat → Int) (d : Int) : Nat → Int → Int
  | 0, _ => -1
  | n + 1, t => if d ≤ mk_ab (c0 t.toNat - c1 t.toNat) / 1000000 then t else mk_kn c0 c1 d n (t + 1)
theorem mk_kn_s {c0 c1 : Nat → Int} {d t : Int} (h : t ≤ 200) : mk_kn c0 c1 d (201 - t).toNat t = if d ≤ mk_ab (c0 t.toNat - c1 t.toNat) / 1000000 then t else mk_kn c0 c1 d (201 - (t + 1)).toNat (t + 1) := by
  rw [show (201 - t).toNat = (201 - (t + 1)).toNat + 1 by omega]
  rfl
/-- how well runs fit -/
def mk_ft (J : Nat → Int) : Nat → Int
  | 0 => 1000000000
  | n + 1 => if mk_ft J n * (J n / 1000) / 1000000 < 1 then 1 else mk_ft J n * (J n / 1000) / 1000000
theorem mk_ft_s {J : Nat → Int} {i : Int} (h : 0 ≤ i) : mk_ft J (i + 1).toNat = if mk_ft J i.toNat * (J i.toNat / 1000) / 1000000 < 1 then 1 else mk_ft J i.toNat * (J i.toNat / 1000) / 1000000 := by
  rw [show (i + 1).toNat = i.toNat + 1 by omega]
  rfl
theorem mk_mul_b {v j : Int} (v0 : 1 ≤ v) (v1 : v ≤ 1000000000) (j0 : 0 ≤ j) (j1 : j ≤ 1000000) : 0 ≤ v * j ∧ v * j ≤ 1000000000000000 := by
  refine ⟨Int.mul_nonneg (by omega) j0, ?_⟩
  have := Int.mul_le_mul v1 j1 j0 (by omega : (0 : Int) ≤ 1000000000)
  omega
theorem mk_ft_b {J : Nat → Int} : ∀ n, (∀ i, i < n → 0 ≤ J i ∧ J i ≤ 1000000000) → 1 ≤ mk_ft J n ∧ mk_ft J n ≤ 1000000000 := by
  intro n
  induction n with
  | zero => intro _; exact ⟨show (1 : Int) ≤ 1000000000 by decide, show (1000000000 : Int) ≤ 1000000000 by decide⟩
  | succ n ih =>
    intro h
    have a := ih (fun i hi => h i (by omega))
    have j := h n (by omega)
    have m := mk_mul_b (v := mk_ft J n) (j := J n / 1000) a.1 a.2 (by omega) (by omega)
    have e : mk_ft J (n + 1) = if mk_ft J n * (J n / 1000) / 1000000 < 1 then 1 else mk_ft J n * (J n / 1000) / 1000000 := rfl
    rw [e]
    split <;> omega
theorem mk_ft_c {J J' : Nat → Int} : ∀ n, (∀ i, i < n → J i = J' i) → mk_ft J n = mk_ft J' n := by
  intro n
  induction n with
  | zero => intro _; rfl
  | succ n ih =>
    intro h
    show (if _ then _ else _) = (if _ then _ else _)
    rw [ih (fun i hi => h i (by omega)), h n (by omega)]
def mk_J (W : Int → List (Int × Int)) (pl : Int) (rp rt : List Int) (i : Nat) : Int := mf_cm W (pl - 1) 0 (rp.getD i 0) (rt.getD i 0).toNat - mf_cm W (pl - 1) 0 (rp.getD i 0) (rt.getD i 0 - 1).toNat
def mk_rr (pl n : Int) (rp rt : List Int) : Prop := ∀ i : Nat, (i : Int) < n → (0 ≤ rp.getD i 0 ∧ rp.getD i 0 < pl - 1) ∧ 1 ≤ rt.getD i 0 ∧ rt.getD i 0 ≤ 200
theorem mk_J_b {W : Int → List (Int × Int)} {pl n : Int} {rp rt : List Int} (hW : ∀ x : Int, 0 ≤ x → x < pl - 1 → mx_ok pl (W x)) (h : mk_rr pl n rp rt) (i : Nat) (hi : (i : Int) < n) : 0 ≤ mk_J W pl rp rt i ∧ mk_J W pl rp rt i ≤ 1000000000 := by
  have r := h i hi
  have a := mf_cm_b (k := 0) hW (show 0 ≤ rp.getD i 0 ∧ rp.getD i 0 < pl by omega) (rt.getD i 0 - 1).toNat
  have b := mf_cm_b (k := 0) hW (show 0 ≤ rp.getD i 0 ∧ rp.getD i 0 < pl by omega) (rt.getD i 0).toNat
  rw [show (rt.getD i 0 - 1).toNat + 1 = (rt.getD i 0).toNat by omega] at a
  unfold mk_J
  omega
/-- which stone more fits best -/
def mk_so (v : Int → Int) : Nat → Int → Int → Int → Int
  | 0, _, _, w => w
  | n + 1, p, g, w => if g < v p then mk_so v n (p + 1) (v p) p else mk_so v n (p + 1) g w
/-- where one stone changes a suit most -/
def mk_mo (v : Int → Int) : Nat → Int → Int → Int → Int × Int
  | 0, _, b, y => (b, y)
  | n + 1, p, b, y => if p = 0 ∨ mk_ab y < mk_ab (v p) then mk_mo v n (p + 1) p (v p) else mk_mo v n (p + 1) b y
/-- where to set one in, when: of a place's minutes; of all places -/
def mk_bk (v : Int → Int → Int) (p : Int) : Nat → Int → Int → Int → Int → Int × Int × Int
  | 0, _, x, y, l => (x, y, l)
  | n + 1, k, x, y, l => if v p k < l then mk_bk v p n (k + 1) p k (v p k) else mk_bk v p n (k + 1) x y l
def mk_bp (v : Int → Int → Int) (m : Nat) : Nat → Int → Int → Int → Int → Int × Int × Int
  | 0, _, x, y, l => (x, y, l)
  | n + 1, p, x, y, l => mk_bp v m n (p + 1) (mk_bk v p m 0 x y l).1 (mk_bk v p m 0 x y l).2.1 (mk_bk v p m 0 x y l).2.2
def mk_lw (cn go ch : List Int) (t : Nat) (pl ka pa fa kb pb fb k : Int) : Int := mr_w (mf_cm (fun x => mx_w cn go ch t x) (pl - 1) ka pa) fa (mf_cm (fun x => mx_w cn go ch t x) (pl - 1) kb pb) fb k
def mk_vm (cn go ch : List Int) (s : Nat) (pl ka pa fa kb pb fb k p : Int) : Int := mk_lw cn go ch (s ^^^ 1 <<< p.toNat) pl ka pa fa kb pb fb k - mk_lw cn go ch s pl ka pa fa kb pb fb k
def mk_fv (cn go ch : List Int) (t : Nat) (pl : Int) (rp rt : List Int) (r : Int) : Int := mk_ft (mk_J (fun x => mx_w cn go ch t x) pl rp rt) r.toNat
def mk_vs (cn go ch : List Int) (s : Nat) (pl : Int) (rp rt : List Int) (r p : Int) : Int := mk_fv cn go ch (s ^^^ 1 <<< p.toNat) pl rp rt r
def mk_vb (W : Int → List (Int × Int)) (pl ka pa fa kb pb fb k : Int) (p m : Int) : Int := if k = 0 then mr_w (mf_cm W (pl - 1) ka p) m (mf_cm W (pl - 1) kb pb) fb 0 else mr_w (mf_cm W (pl - 1) ka pa) fa (mf_cm W (pl - 1) kb p) m 1
def mk_fs (c : Prop) (x y l z0 z1 z2 : Int) : Prop := (c ∧ l = 1000001 ∧ x = 0 ∧ y = 0) ∨ (z0 = x ∧ z1 = y ∧ z2 = l)
/-- where to dig least: pairs k of a place p, n in the hundred; z if none -/
def mk_c1 (g : Int → Int → Int → Bool) (n p : Int) : Nat → Int → Int → Int
  | 0, _, z => z
  | f + 1, k, z => if g n p k then 10000 * n + 100 * p + 10 * (k / 4) + k % 4 else mk_c1 g n p f (k + 1) z
def mk_c2 (g : Int → Int → Int → Bool) (n : Int) : Nat → Int → Int → Int
  | 0, _, z => z
  | f + 1, p, z => mk_c1 g n p 16 0 (mk_c2 g n f (p + 1) z)
def mk_c3 (g : Int → Int → Int → Bool) (m : Nat) : Nat → Int → Int
  | 0, _ => -1
  | f + 1, n => mk_c2 g n m 0 (mk_c3 g m f (n + 1))
theorem mk_c1_0 {g : Int → Int → Int → Bool} {n p k z : Int} : mk_c1 g n p 0 k z = z := rfl
theorem mk_c1_s {g : Int → Int → Int → Bool} {n p k z : Int} {f : Nat} : mk_c1 g n p (f + 1) k z = if g n p k then 10000 * n + 100 * p + 10 * (k / 4) + k % 4 else mk_c1 g n p f (k + 1) z := rfl
theorem mk_c2_0 {g : Int → Int → Int → Bool} {n p z : Int} : mk_c2 g n 0 p z = z := rfl
theorem mk_c2_s {g : Int → Int → Int → Bool} {n p z : Int} {f : Nat} : mk_c2 g n (f + 1) p z = mk_c1 g n p 16 0 (mk_c2 g n f (p + 1) z) := rfl
theorem mk_c3_0 {g : Int → Int → Int → Bool} {m : Nat} {n : Int} : mk_c3 g m 0 n = -1 := rfl
theorem mk_c3_s {g : Int → Int → Int → Bool} {m f : Nat} {n : Int} : mk_c3 g m (f + 1) n = mk_c2 g n m 0 (mk_c3 g m f (n + 1)) := rfl
def mk_gap (cn go ch : List Int) (t : Nat) (pl ka pa fa kb pb fb : Int) : Int := mk_ab (mk_lw cn go ch t pl ka pa fa kb pb fb 0 - mk_lw cn go ch t pl ka pa fa kb pb fb 1)
def mk_gg (cn go ch : List Int) (t : Nat) (pl ka pa fa kb pb fb e : Int) (n p k : Int) : Bool := decide (k / 4 < cn.getD p.toNat 0 ∧ k % 4 < cn.getD p.toNat 0 ∧ ¬ k / 4 = k % 4 ∧ n < ch.getD (4 * p + k / 4).toNat 0 ∧ mk_gap cn go (mx_sh ch p (k / 4) (k % 4) n) t pl ka pa fa kb pb fb ≤ e)
def mk_fz (cn go ch : List Int) (t : Nat) (pl ka pa fa kb pb fb e : Int) : Int := if mk_gap cn go ch t pl ka pa fa kb pb fb ≤ e then 0 else mk_c3 (mk_gg cn go ch t pl ka pa fa kb pb fb e) (pl - 1).toNat 20 1
theorem mk_fz_n {cn go ch : List Int} {t : Nat} {pl ka pa fa kb pb fb e : Int} (h : ¬ mk_gap cn go ch t pl ka pa fa kb pb fb ≤ e) : mk_fz cn go ch t pl ka pa fa kb pb fb e = mk_c3 (mk_gg cn go ch t pl ka pa fa kb pb fb e) (pl - 1).toNat (21 - (1 : Int)).toNat 1 := by
  unfold mk_fz
  rw [if_neg h]
  rw [show (21 - (1 : Int)).toNat = 20 from rfl]
theorem mk_fz_y {cn go ch : List Int} {t : Nat} {pl ka pa fa kb pb fb e : Int} (h : mk_gap cn go ch t pl ka pa fa kb pb fb ≤ e) : mk_fz cn go ch t pl ka pa fa kb pb fb e = 0 := by
  unfold mk_fz
  rw [if_pos h]
/-- what is told of it -/
def mk_fo (z t0 t1 t2 t3 : Int) : Prop := (z ≤ 0 ∧ t0 = z ∧ t1 = -1 ∧ t2 = -1 ∧ t3 = -1) ∨ (0 < z ∧ t0 = z / 10000 ∧ t1 = z / 100 % 100 ∧ t2 = z / 10 % 10 ∧ t3 = z % 10)
/-! rows of ways that agree before the bridge: the odds agree -/
theorem mf_fn_c {W W' : Int → List (Int × Int)} {o : Nat → Int} {br : Nat} : ∀ p : Nat, (∀ x : Int, 0 ≤ x → x < (p : Int) → W x = W' x) → mf_fn W o br p = mf_fn W' o br p := by
  intro p
  induction p with
  | zero => intro _; rfl
  | succ p ih =>
    intro h
    show (if 0 < o p then _ else _) = (if 0 < o p then _ else _)
    rw [ih (fun x h0 h1 => h x h0 (by omega)), h (p : Nat) (by omega) (by omega)]
theorem mf_fl_c {W W' : Int → List (Int × Int)} {br : Int} (h : ∀ x : Int, 0 ≤ x → x < br → W x = W' x) (o : Nat → Int) : mf_fl W br o = mf_fl W' br o := mf_fn_c _ fun x h0 h1 => h x h0 (by omega)
theorem mf_it_c {W W' : Int → List (Int × Int)} {br : Int} (h : ∀ x : Int, 0 ≤ x → x < br → W x = W' x) : ∀ (n : Nat) (o : Nat → Int), mf_it W br n o = mf_it W' br n o := by
  intro n
  induction n with
  | zero => intro o; rfl
  | succ n ih => intro o; show mf_it W br n (mf_fl W br o) = mf_it W' br n (mf_fl W' br o); rw [mf_fl_c h, ih]
theorem mf_od_c {W W' : Int → List (Int × Int)} {br k q : Int} (h : ∀ x : Int, 0 ≤ x → x < br → W x = W' x) : ∀ u : Nat, mf_od W br k q u = mf_od W' br k q u := by
  intro u
  induction u with
  | zero => rfl
  | succ u ih => show mf_it W br _ (mf_od W br k q u) = mf_it W' br _ (mf_od W' br k q u); rw [ih, mf_it_c h]
theorem mf_cm_c {W W' : Int → List (Int × Int)} {br : Int} (h : ∀ x : Int, 0 ≤ x → x < br → W x = W' x) : mf_cm W br = mf_cm W' br := by
  funext k q u
  unfold mf_cm
  rw [mf_od_c h]
end
