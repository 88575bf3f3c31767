noncomputable section
/-! ANSWERS of the calls, as functions of what both objects hold -/
def an_kp (kd p pl t v : Int) : Int := if (0 ≤ kd ∧ kd ≤ 2) ∧ (0 ≤ p ∧ p < pl) then (if 0 ≤ t ∧ t ≤ 200 then v else -1000000002) else -1000000001
def an_kpq (kd p q pl t v : Int) : Int := if (0 ≤ kd ∧ kd ≤ 2) ∧ (0 ≤ p ∧ p < pl) ∧ (0 ≤ q ∧ q < pl) then (if 0 ≤ t ∧ t ≤ 200 then v else -1000000002) else -1000000001
def an_kpd (kd p pl d v : Int) : Int := if (0 ≤ kd ∧ kd ≤ 2) ∧ (0 ≤ p ∧ p < pl) then (if 1 ≤ d ∧ d ≤ 1000 then v else -1000000002) else -1000000001
def an_wh (b pl v : Int) : Int := if b = 1 then (if 1 < pl then v else -1000000003) else -1000000002
def an_la (what pl v : Int) : Int := if 0 ≤ what ∧ what ≤ 2 then (if 1 < pl then v else -1000000003) else -1000000002
def an_be (m what pl v : Int) : Int := if (0 ≤ m ∧ m ≤ 10) ∧ (0 ≤ what ∧ what ≤ 2) then (if 1 < pl then v else -1000000003) else -1000000002
def an_mo (what pl v : Int) : Int := if 0 ≤ what ∧ what ≤ 1 then (if 1 < pl then v else -1000000003) else -1000000002
def an_fi (p pl a b : Int) : Int := if p = -1 then a else if 0 ≤ p ∧ p < pl - 1 then b else -1000000001
def an_fa (e what pl v : Int) : Int := if (0 ≤ e ∧ e ≤ 1000000) ∧ (0 ≤ what ∧ what ≤ 3) then (if 1 < pl then v else -1000000003) else -1000000002
def an_fw (z what : Int) : Int := if z ≤ 0 then (if what = 0 then z else -1) else if what = 0 then z / 10000 else if what = 1 then z / 100 % 100 else if what = 2 then z / 10 % 10 else z % 10
/-! searches over rows of pairs: the reference goes over them otherwise -/
theorem mk_c1_skip {g : Int → Int → Int → Bool} {n p z : Int} : ∀ (d : Nat) (k : Int), k + d ≤ 16 → (∀ j : Int, k ≤ j → j < k + d → g n p j = false) → mk_c1 g n p (16 - k).toNat k z = mk_c1 g n p (16 - (k + d)).toNat (k + d) z := by
  intro d
  induction d with
  | zero => intro k _ _; rw [show k + ((0 : Nat) : Int) = k by omega]
  | succ d ih =>
    intro k h1 h2
    rw [show (16 - k).toNat = (16 - (k + 1)).toNat + 1 by omega]
    rw [mk_c1_s, h2 k (by omega) (by omega), if_neg (by decide), ih (k + 1) (by omega) (fun j j0 j1 => h2 j (by omega) (by omega))]
    rw [show k + 1 + (d : Int) = k + ((d + 1 : Nat) : Int) by omega]
/-- the pair number j of c times c -/
def mk_ix (c j : Int) : Int := 4 * (j / c) + j % c
theorem mk_ix_b {c j : Int} (hc : 1 ≤ c ∧ c ≤ 4) (h0 : 0 ≤ j) (h1 : j < c * c) : (0 ≤ j / c ∧ j / c < c) ∧ (0 ≤ j % c ∧ j % c < c) ∧ mk_ix c j / 4 = j / c ∧ mk_ix c j % 4 = j % c := by
  unfold mk_ix
  obtain q | q | q | q : c = 1 ∨ c = 2 ∨ c = 3 ∨ c = 4 := by omega
  all_goals (subst q; omega)
theorem mk_ix_s {g : Int → Int → Int → Bool} {n p z c j : Int} (hc : 1 ≤ c ∧ c ≤ 4) (h0 : 0 ≤ j) (h1 : j < c * c) (hg : ∀ k : Int, 0 ≤ k → k < 16 → (c ≤ k / 4 ∨ c ≤ k % 4) → g n p k = false) (hk : g n p (mk_ix c j) = false) : mk_c1 g n p (16 - mk_ix c j).toNat (mk_ix c j) z = if j + 1 < c * c then mk_c1 g n p (16 - mk_ix c (j + 1)).toNat (mk_ix c (j + 1)) z else z := by
  have b := mk_ix_b hc h0 h1
  have hd : ∃ d : Nat, (mk_ix c j + d ≤ 16 ∧ (∀ i : Int, mk_ix c j < i → i < mk_ix c j + d → c ≤ i / 4 ∨ c ≤ i % 4)) ∧ 1 ≤ d ∧ ((j + 1 < c * c ∧ mk_ix c (j + 1) = mk_ix c j + d) ∨ (¬ j + 1 < c * c ∧ mk_ix c j + d = 16)) := by
    by_cases q : j + 1 < c * c
    · refine ⟨(mk_ix c (j + 1) - mk_ix c j).toNat, ⟨?_, ?_⟩, ?_, Or.inl ⟨q, ?_⟩⟩
      all_goals (unfold mk_ix; obtain r | r | r | r : c = 1 ∨ c = 2 ∨ c = 3 ∨ c = 4 := by omega)
      all_goals (subst r; omega)
    · refine ⟨(16 - mk_ix c j).toNat, ⟨?_, ?_⟩, ?_, Or.inr ⟨q, ?_⟩⟩
      all_goals (unfold mk_ix; obtain r | r | r | r : c = 1 ∨ c = 2 ∨ c = 3 ∨ c = 4 := by omega)
      all_goals (subst r; omega)
  obtain ⟨d, ⟨h16, hs⟩, hd1, hd2⟩ := hd
  rw [mk_c1_skip (z := z) d (mk_ix c j) h16 (fun i i0 i1 => by
    by_cases e : i = mk_ix c j
    · rw [e]; exact hk
    · exact hg i (by omega) (by omega) (hs i (by omega) i1))]
  rcases hd2 with ⟨q, e⟩ | ⟨q, e⟩
  · rw [if_pos q, e]
  · rw [if_neg q, e, show (16 - (16 : Int)).toNat = 0 from rfl, mk_c1_0]
theorem mx_sh_r {ch : List Int} {p a b n : Int} (hp : 0 ≤ p ∧ p < 12) (ha : 0 ≤ a ∧ a < 4) (hb : 0 ≤ b ∧ b < 4) (hab : ¬ a = b) (hl : ch.length = 48) : ((mx_sh ch p a b n).set (4 * p + a).toNat (ch.getD (4 * p + a).toNat 0 - n + n)).set (4 * p + b).toNat (ch.getD (4 * p + b).toNat 0 + n - n) = ch := by
  refine mx_ext (by rw [List.length_set, List.length_set, mx_sh_len]) fun k => ?_
  rw [fz_getD_set, List.length_set, mx_sh_len]
  by_cases q : k = (4 * p + b).toNat
  · rw [if_pos ⟨q, by omega⟩, q]; omega
  · rw [if_neg (fun w => q w.1), fz_getD_set, mx_sh_len]
    by_cases z : k = (4 * p + a).toNat
    · rw [if_pos ⟨z, by omega⟩, z]; omega
    · rw [if_neg (fun w => z w.1), mx_sh_get (by omega) (by omega), if_neg q, if_neg z]
theorem mk_c1_b {g : Int → Int → Int → Bool} {n p : Int} (hn : 1 ≤ n ∧ n ≤ 20) (hp : 0 ≤ p ∧ p < 12) : ∀ (f : Nat) (k z : Int), 0 ≤ k → k + f ≤ 16 → (-1 ≤ z ∧ z < 300000) → -1 ≤ mk_c1 g n p f k z ∧ mk_c1 g n p f k z < 300000 := by
  intro f
  induction f with
  | zero => intro k z _ _ hz; exact hz
  | succ f ih =>
    intro k z h0 h1 hz
    rw [mk_c1_s]
    split
    · omega
    · exact ih (k + 1) z (by omega) (by omega) hz
theorem mk_c2_b {g : Int → Int → Int → Bool} {n : Int} (hn : 1 ≤ n ∧ n ≤ 20) : ∀ (f : Nat) (p z : Int), 0 ≤ p → p + f ≤ 12 → (-1 ≤ z ∧ z < 300000) → -1 ≤ mk_c2 g n f p z ∧ mk_c2 g n f p z < 300000 := by
  intro f
  induction f with
  | zero => intro p z _ _ hz; exact hz
  | succ f ih => intro p z h0 h1 hz; rw [mk_c2_s]; exact mk_c1_b hn (by omega) 16 0 _ (by omega) (by omega) (ih (p + 1) z (by omega) (by omega) hz)
theorem mk_c3_b {g : Int → Int → Int → Bool} {m : Nat} (hm : m ≤ 12) : ∀ (f : Nat) (n : Int), 1 ≤ n → n + f ≤ 21 → -1 ≤ mk_c3 g m f n ∧ mk_c3 g m f n < 300000 := by
  intro f
  induction f with
  | zero => intro n _ _; exact ⟨Int.le_refl _, show (-1 : Int) < 300000 by decide⟩
  | succ f ih => intro n h0 h1; rw [mk_c3_s]; exact mk_c2_b (by omega) m 0 _ (by omega) (by omega) (ih (n + 1) (by omega) (by omega))
theorem mk_fz_b {cn go ch : List Int} {t : Nat} {pl ka pa fa kb pb fb e : Int} (h : pl ≤ 12) : -1 ≤ mk_fz cn go ch t pl ka pa fa kb pb fb e ∧ mk_fz cn go ch t pl ka pa fa kb pb fb e < 300000 := by
  unfold mk_fz
  split
  · omega
  · exact mk_c3_b (by omega) 20 1 (by omega) (by omega)
/-! rows of true and false -/
theorem fx_bsb {X : Option (Nat × (Nat → Int32))} {mid pc : Nat} {loc : ik_L} {r : List Value} {h : List ik_E} {cl sl : Nat} {post : ik_St → Prop} {a : Nat} {z v : Int} {xs : List Int} (hi : ik_at mid pc = some .bastore) (hc : h[a]? = some (.inl (.boolean, fA xs))) (h0 : 0 ≤ z) (h1 : z.toNat < xs.length) (h2 : z < 2147483648) (hv : vp_nar .boolean (Int32.ofInt v) = Int32.ofInt v) (K : ∀ h', h'[a]? = some (.inl (.boolean, fA (xs.set z.toNat v))) → (∀ b, b ≠ a → h'[b]? = h[b]?) → h'.length = h.length → ik_W X mid (pc + 1) loc r h' cl sl post) : ik_W X mid pc loc (fI v :: fI z :: .ref a :: r) h cl sl post := by
  refine fw_1 (h' := h.set a (.inl (.boolean, fA (xs.set z.toNat v)))) hi rfl rfl ?_ (K _ ?_ ?_ List.length_set)
  · simp only [ik_step, hc, ik_bo]
    rw [if_pos ⟨fi_z h0 h2, by rw [fi_n h0 h2, fA_len]; exact h1⟩, fi_n h0 h2, hv, fA_set]
  · rw [List.getElem?_set_self (hg_lt hc)]
  · exact fun b hb => List.getElem?_set_ne (fun q => hb q.symm)
theorem fx_bbl {X : Option (Nat × (Nat → Int32))} {mid pc : Nat} {loc : ik_L} {r : List Value} {h : List ik_E} {cl sl : Nat} {post : ik_St → Prop} {a : Nat} {z : Int} {xs : List Int} (hi : ik_at mid pc = some .baload) (hc : h[a]? = some (.inl (.boolean, fA xs))) (h0 : 0 ≤ z) (h1 : z.toNat < xs.length) (h2 : z < 2147483648) (K : ik_W X mid (pc + 1) loc (fI (xs.getD z.toNat 0) :: r) h cl sl post) : ik_W X mid pc loc (fI z :: .ref a :: r) h cl sl post := by
  refine fw_1 hi rfl rfl ?_ K
  simp only [ik_step, hc]
  rw [if_neg (fi_z h0 h2), fi_n h0 h2, fA_get h1]
/-! answers of the smaller calls -/
def an_mv (pl c g o p i what : Int) : Int := if (0 ≤ p ∧ p < pl) ∧ (i = -1 ∨ (0 ≤ i ∧ i < c)) then (if 0 ≤ what ∧ what ≤ 1 then (if i = -1 then c else if what = 0 then g else o) else -1000000002) else -1000000001
def an_rn (pl p t : Int) : Int := if 0 ≤ p ∧ p < pl - 1 then (if 1 ≤ t ∧ t ≤ 200 then -1000000004 else -1000000002) else -1000000001
def an_dg (pl c p a b n : Int) : Int := if (0 ≤ p ∧ p < pl - 1) ∧ (0 ≤ a ∧ a < c) ∧ (0 ≤ b ∧ b < c) ∧ ¬ a = b then (if 1 ≤ n ∧ n ≤ 99 then -1000000003 else -1000000002) else -1000000001
def an_n (hi n : Int) : Int := if 1 ≤ n ∧ n ≤ hi then -1000000003 else -1000000002
def an_lg (pl p : Int) : Int := if p = 12 ∨ (0 ≤ p ∧ p < pl) then -1000000004 else -1000000001
theorem mx_or_1 {s p : Nat} (h : s.testBit p = true) : s ||| 1 <<< p = s := by
  refine Nat.eq_of_testBit_eq fun i => ?_
  rw [Nat.testBit_or]
  by_cases q : i = p
  · subst q; rw [h]; rfl
  · rw [mf_tb0 q, Bool.or_false]
theorem mx_or_0 {s p : Nat} (h : s.testBit p = false) : s ||| 1 <<< p = s ^^^ 1 <<< p := by
  refine Nat.eq_of_testBit_eq fun i => ?_
  rw [Nat.testBit_or, Nat.testBit_xor]
  by_cases q : i = p
  · subst q; rw [h, mf_tb1]; rfl
  · rw [mf_tb0 q, Bool.or_false, Bool.xor_false]
end
