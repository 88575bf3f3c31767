noncomputable section
theorem la_told {K : Nat} {h : List ik_E} (E : st_S K h) (hK : K ≤ 600) {what : Int} (z_what : -2147483648 ≤ what ∧ what < 2147483648) : ik_F 93 [.ref 0, fI what] h (fun rv h' => ∃ o_ : Int, rv = [fI o_] ∧ (h'.length = 94 ∧ ∃ fs, h'[66]? = some (.inr (10, fs))) ∧ ik_F 150 [.ref 66, fI what] h' (fun rv' h'' => rv' = [fI o_] ∧ st_S (K + 1) h'')) := by
  rcases (by omega : what = 0 ∨ what = 1 ∨ what = 2 ∨ what = 3 ∨ what = 4 ∨ what = 5 ∨ what = 6 ∨ what = 7 ∨ (what < 0 ∨ 7 < what)) with rfl | rfl | rfl | rfl | rfl | rfl | rfl | rfl | w
  · exact lk_told0 E hK
  · exact lk_told1 E hK
  · exact lk_told2 E hK
  · exact lk_told3 E hK
  · exact lk_told4 E hK
  · exact lk_told5 E hK
  · exact lk_told6 E hK
  · exact lk_told7 E hK
  · exact lk_toldE E hK z_what w
theorem la_cork {K : Nat} {h : List ik_E} (E : st_S K h) (hK : K ≤ 600) {side : Int} {what : Int} {v : Int} (z_side : -2147483648 ≤ side ∧ side < 2147483648) (z_what : -2147483648 ≤ what ∧ what < 2147483648) (z_v : -2147483648 ≤ v ∧ v < 2147483648) : ik_F 95 [.ref 0, fI side, fI what, fI v] h (fun rv h' => ∃ o_ : Int, rv = [fI o_] ∧ (h'.length = 94 ∧ ∃ fs, h'[66]? = some (.inr (10, fs))) ∧ ik_F 158 [.ref 66, fI side, fI what, fI v] h' (fun rv' h'' => rv' = [fI o_] ∧ st_S (K + 1) h'')) := by
  by_cases a0 : side = 0
  · subst a0
    rcases (by omega : what = 0 ∨ what = 1 ∨ what = 2 ∨ (what < 0 ∨ 2 < what)) with rfl | rfl | rfl | w
    · exact lk_cork00 E hK z_v
    · exact lk_cork01 E hK z_v
    · exact lk_cork02 E hK z_v
    · exact lk_cork0E E hK z_what z_v w
  · by_cases a1 : side = 1
    · subst a1
      rcases (by omega : what = 0 ∨ what = 1 ∨ what = 2 ∨ (what < 0 ∨ 2 < what)) with rfl | rfl | rfl | w
      · exact lk_cork10 E hK z_v
      · exact lk_cork11 E hK z_v
      · exact lk_cork12 E hK z_v
      · exact lk_cork1E E hK z_what z_v w
    · exact lk_corkE E hK z_side z_what z_v a0 a1
theorem la_later {K : Nat} {h : List ik_E} (E : st_S K h) (hK : K ≤ 600) {what : Int} (z_what : -2147483648 ≤ what ∧ what < 2147483648) : ik_F 100 [.ref 0, fI what] h (fun rv h' => ∃ o_ : Int, rv = [fI o_] ∧ (h'.length = 94 ∧ ∃ fs, h'[66]? = some (.inr (10, fs))) ∧ ik_F 170 [.ref 66, fI what] h' (fun rv' h'' => rv' = [fI o_] ∧ st_S (K + 1) h'')) := by
  rcases (by omega : what = 0 ∨ what = 1 ∨ what = 2 ∨ (what < 0 ∨ 2 < what)) with rfl | rfl | rfl | w
  · exact lk_later0 E hK
  · exact lk_later1 E hK
  · exact lk_later2 E hK
  · exact lk_laterE E hK z_what w
theorem la_best {K : Nat} {h : List ik_E} (E : st_S K h) (hK : K ≤ 600) {side : Int} {m : Int} {what : Int} (z_side : -2147483648 ≤ side ∧ side < 2147483648) (z_m : -2147483648 ≤ m ∧ m < 2147483648) (z_what : -2147483648 ≤ what ∧ what < 2147483648) : ik_F 101 [.ref 0, fI side, fI m, fI what] h (fun rv h' => ∃ o_ : Int, rv = [fI o_] ∧ (h'.length = 94 ∧ ∃ fs, h'[66]? = some (.inr (10, fs))) ∧ ik_F 171 [.ref 66, fI side, fI m, fI what] h' (fun rv' h'' => rv' = [fI o_] ∧ st_S (K + 1) h'')) := by
  by_cases a0 : side = 0
  · subst a0
    exact lk_best0 E hK z_m z_what
  · by_cases a1 : side = 1
    · subst a1
      exact lk_best1 E hK z_m z_what
    · exact lk_bestE E hK z_side z_m z_what a0 a1
theorem la_most {K : Nat} {h : List ik_E} (E : st_S K h) (hK : K ≤ 600) {side : Int} {what : Int} (z_side : -2147483648 ≤ side ∧ side < 2147483648) (z_what : -2147483648 ≤ what ∧ what < 2147483648) : ik_F 104 [.ref 0, fI side, fI what] h (fun rv h' => ∃ o_ : Int, rv = [fI o_] ∧ (h'.length = 94 ∧ ∃ fs, h'[66]? = some (.inr (10, fs))) ∧ ik_F 182 [.ref 66, fI side, fI what] h' (fun rv' h'' => rv' = [fI o_] ∧ st_S (K + 1) h'')) := by
  by_cases a0 : side = 0
  · subst a0
    exact lk_most0 E hK z_what
  · by_cases a1 : side = 1
    · subst a1
      exact lk_most1 E hK z_what
    · exact lk_mostE E hK z_side z_what a0 a1
theorem la_judge {K : Nat} {h : List ik_E} (E : st_S K h) (hK : K ≤ 600) {side : Int} (z_side : -2147483648 ≤ side ∧ side < 2147483648) : ik_F 117 [.ref 0, fI side] h (fun rv h' => ∃ o_ : Int, rv = [fI o_] ∧ (h'.length = 94 ∧ ∃ fs, h'[66]? = some (.inr (10, fs))) ∧ ik_F 207 [.ref 66, fI side] h' (fun rv' h'' => rv' = [fI o_] ∧ st_S (K + 1) h'')) := by
  by_cases a0 : side = 0
  · subst a0
    exact lk_judge0 E hK
  · by_cases a1 : side = 1
    · subst a1
      exact lk_judge1 E hK
    · exact lk_judgeE E hK z_side a0 a1
theorem la_where {K : Nat} {h : List ik_E} (E : st_S K h) (hK : K ≤ 600) {side : Int} (z_side : -2147483648 ≤ side ∧ side < 2147483648) : ik_F 112 [.ref 0, fI side] h (fun rv h' => ∃ o_ : Int, rv = [fI o_] ∧ (h'.length = 94 ∧ ∃ fs, h'[66]? = some (.inr (10, fs))) ∧ ik_F 200 [.ref 66, fI side] h' (fun rv' h'' => rv' = [fI o_] ∧ st_S (K + 1) h'')) := by
  by_cases a0 : side = 0
  · subst a0
    exact lk_where0 E hK
  · by_cases a1 : side = 1
    · subst a1
      exact lk_where1 E hK
    · exact lk_whereE E hK z_side a0 a1
theorem la_log {K : Nat} {h : List ik_E} (E : st_S K h) (hK : K ≤ 600) {side : Int} {p : Int} (z_side : -2147483648 ≤ side ∧ side < 2147483648) (z_p : -2147483648 ≤ p ∧ p < 2147483648) : ik_F 115 [.ref 0, fI side, fI p] h (fun rv h' => ∃ o_ : Int, rv = [fI o_] ∧ (h'.length = 94 ∧ ∃ fs, h'[66]? = some (.inr (10, fs))) ∧ ik_F 203 [.ref 66, fI side, fI p] h' (fun rv' h'' => rv' = [fI o_] ∧ st_S (K + 1) h'')) := by
  by_cases a0 : side = 0
  · subst a0
    exact lk_log0 E hK z_p
  · by_cases a1 : side = 1
    · subst a1
      exact lk_log1 E hK z_p
    · exact lk_logE E hK z_side z_p a0 a1
theorem la_keep {K : Nat} {h : List ik_E} (E : st_S K h) (hK : K ≤ 600) {i : Int} (z_i : -2147483648 ≤ i ∧ i < 2147483648) : ik_F 119 [.ref 0, fI i] h (fun rv h' => ∃ o_ : Int, rv = [fI o_] ∧ (h'.length = 94 ∧ ∃ fs, h'[66]? = some (.inr (10, fs))) ∧ ik_F 209 [.ref 66, fI i] h' (fun rv' h'' => rv' = [fI o_] ∧ st_S (K + 1) h'')) := by
  rcases (by omega : i = 0 ∨ i = 1 ∨ (i < 0 ∨ 1 < i)) with rfl | rfl | w
  · exact lk_keep0 E hK
  · exact lk_keep1 E hK
  · exact lk_keepE E hK z_i w
theorem la_goBack {K : Nat} {h : List ik_E} (E : st_S K h) (hK : K ≤ 600) {i : Int} (z_i : -2147483648 ≤ i ∧ i < 2147483648) : ik_F 120 [.ref 0, fI i] h (fun rv h' => ∃ o_ : Int, rv = [fI o_] ∧ (h'.length = 94 ∧ ∃ fs, h'[66]? = some (.inr (10, fs))) ∧ ik_F 210 [.ref 66, fI i] h' (fun rv' h'' => rv' = [fI o_] ∧ st_S (K + 1) h'')) := by
  rcases (by omega : i = 0 ∨ i = 1 ∨ (i < 0 ∨ 1 < i)) with rfl | rfl | w
  · exact lk_goBack0 E hK
  · exact lk_goBack1 E hK
  · exact lk_goBackE E hK z_i w
theorem la_mixed {K : Nat} {h : List ik_E} (E : st_S K h) (hK : K ≤ 600) {p : Int} {n : Int} {what : Int} (z_p : -2147483648 ≤ p ∧ p < 2147483648) (z_n : -2147483648 ≤ n ∧ n < 2147483648) (z_what : -2147483648 ≤ what ∧ what < 2147483648) : ik_F 102 [.ref 0, fI p, fI n, fI what] h (fun rv h' => ∃ o_ : Int, rv = [fI o_] ∧ (h'.length = 94 ∧ ∃ fs, h'[66]? = some (.inr (10, fs))) ∧ ik_F 180 [.ref 66, fI p, fI n, fI what] h' (fun rv' h'' => (∃ v' : Int, rv' = [fI v']) ∧ st_S (K + 1) h'')) := by
  rcases (by omega : n = 1 ∨ n = 2 ∨ n = 3 ∨ (n < 1 ∨ 3 < n)) with rfl | rfl | rfl | w
  · exact lk_mixed1 E hK z_p z_what
  · exact lk_mixed2 E hK z_p z_what
  · exact lk_mixed3 E hK z_p z_what
  · exact lk_mixedE E hK z_p z_n z_what w
set_option maxRecDepth 100000 in
theorem st_K {K : Nat} {h : List ik_E} (E : st_S K h) : st_S (K + 1) h := by
  refine E _ ?_
  intro tn fp pl mi sd ka pa fa kb pb fb xa xb r n0 n1 ga0 gm0 gd_0 gs0 g00 g01 g02 g03 g04 g05 gx0 gy0 ga1 gm1 gd_1 gs1 g10 g11 g12 g13 g14 g15 gx1 gy1 s T cn go ch wg wc we rp rt lr ci0 ci1 cnr gor chr T2 im f_pl f_s f_st f_cb f_cr f_rw f_al f_wy f_k f_p f_x f_m f_sd f_r f_rr f_n f_l0 f_l1 f_tn f_t f_i0 f_i1 gA gT gB gC gS gV gW gM gR gL gI gJ hO hB hC hT hS hM hR hL hI hl
  intro C_ k_
  exact k_ tn fp pl mi sd ka pa fa kb pb fb xa xb r n0 n1 ga0 gm0 gd_0 gs0 g00 g01 g02 g03 g04 g05 gx0 gy0 ga1 gm1 gd_1 gs1 g10 g11 g12 g13 g14 g15 gx1 gy1 s T cn go ch wg wc we rp rt lr ci0 ci1 cnr gor chr T2 im f_pl f_s f_st f_cb f_cr f_rw f_al f_wy f_k f_p f_x (by omega) f_sd f_r f_rr f_n f_l0 f_l1 f_tn f_t (st_I_K f_i0) (st_I_K f_i1) gA gT gB gC gS gV gW gM gR gL gI gJ hO hB hC hT hS hM hR hL hI hl
theorem st_0 {K : Nat} {h : List ik_E} (E : st_S K h) : h.length = 94 ∧ ∃ fs, h[0]? = some (.inr (9, fs)) := by
  refine E _ ?_
  intro tn fp pl mi sd ka pa fa kb pb fb xa xb r n0 n1 ga0 gm0 gd_0 gs0 g00 g01 g02 g03 g04 g05 gx0 gy0 ga1 gm1 gd_1 gs1 g10 g11 g12 g13 g14 g15 gx1 gy1 s T cn go ch wg wc we rp rt lr ci0 ci1 cnr gor chr T2 im f_pl f_s f_st f_cb f_cr f_rw f_al f_wy f_k f_p f_x f_m f_sd f_r f_rr f_n f_l0 f_l1 f_tn f_t f_i0 f_i1 gA gT gB gC gS gV gW gM gR gL gI gJ hO hB hC hT hS hM hR hL hI hl
  exact ⟨hl, _, gA.1⟩
end