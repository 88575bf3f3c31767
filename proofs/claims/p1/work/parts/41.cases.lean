set_option maxHeartbeats 16000000 in
set_option maxRecDepth 100000 in
/-- stream on the new objects -/
theorem p1_k1 (a0 a1 a2 a3 a4 : Int32) : ik_W (some (5, p1_f a0 a1 a2 a3 a4)) 0 235 [some (.retAddr 0), some (.ref 0), some (.ref 66), some (.int 0)] [] p1_h 94 4156 p1_post := by
  refine ik_Wk 1 (pc' := 236) (loc' := [some (.retAddr 0), some (.ref 0), some (.ref 66), some (.int 0)]) (st' := [.ref 0]) (h' := p1_h) (cl' := 94) (sl' := 4156) rfl ?_
  refine ik_Wce 35 1 0 [.ref 0] [] _ [.int 0] p1_r1 rfl rfl rfl (by decide) rfl rfl rfl rfl rfl ?_
  refine ik_Wk 1 (pc' := 240) (loc' := [some (.retAddr 0), some (.ref 0), some (.ref 66), some (.int 0)]) (st' := [.ref 66, .int 0]) (h' := p1_h) (cl' := 94) (sl' := 4156) rfl ?_
  refine ik_Wce 82 1 0 [.ref 66] [.int 0] _ [.int 0] p1_r2 rfl rfl rfl (by decide) rfl rfl rfl rfl rfl ?_
  refine ik_Wk 10 (pc' := 1138) (loc' := [some (.retAddr 0), some (.ref 0), some (.ref 66), some (.int 5)]) (st' := [.int 1]) (h' := p1_h) (cl' := 94) (sl' := 4156) rfl ?_
  exact ik_Wret rfl rfl ⟨rfl, rfl, Nat.le_of_ble_eq_true rfl, Nat.le_of_ble_eq_true rfl⟩

set_option maxHeartbeats 16000000 in
set_option maxRecDepth 100000 in
/-- fault on the new objects -/
theorem p1_k2 (a0 a1 a2 a3 a4 : Int32) : ik_W (some (5, p1_f a0 a1 a2 a3 a4)) 0 248 [some (.retAddr 0), some (.ref 0), some (.ref 66), some (.int 0)] [] p1_h 94 4156 p1_post := by
  refine ik_Wk 1 (pc' := 249) (loc' := [some (.retAddr 0), some (.ref 0), some (.ref 66), some (.int 0)]) (st' := [.ref 0]) (h' := p1_h) (cl' := 94) (sl' := 4156) rfl ?_
  refine ik_Wce 36 1 0 [.ref 0] [] _ [.int (-1)] p1_r3 rfl rfl rfl (by decide) rfl rfl rfl rfl rfl ?_
  refine ik_Wk 1 (pc' := 253) (loc' := [some (.retAddr 0), some (.ref 0), some (.ref 66), some (.int 0)]) (st' := [.ref 66, .int (-1)]) (h' := p1_h) (cl' := 94) (sl' := 4156) rfl ?_
  refine ik_Wce 83 1 0 [.ref 66] [.int (-1)] _ [.int (-1)] p1_r4 rfl rfl rfl (by decide) rfl rfl rfl rfl rfl ?_
  refine ik_Wk 10 (pc' := 1138) (loc' := [some (.retAddr 0), some (.ref 0), some (.ref 66), some (.int 5)]) (st' := [.int 1]) (h' := p1_h) (cl' := 94) (sl' := 4156) rfl ?_
  exact ik_Wret rfl rfl ⟨rfl, rfl, Nat.le_of_ble_eq_true rfl, Nat.le_of_ble_eq_true rfl⟩

set_option maxHeartbeats 16000000 in
set_option maxRecDepth 100000 in
/-- forget on the new objects -/
theorem p1_k16 (a0 a1 a2 a3 a4 : Int32) : ik_W (some (5, p1_f a0 a1 a2 a3 a4)) 0 776 [some (.retAddr 0), some (.ref 0), some (.ref 66), some (.int 0)] [] p1_h 94 4156 p1_post := by
  refine ik_Wk 1 (pc' := 777) (loc' := [some (.retAddr 0), some (.ref 0), some (.ref 66), some (.int 0)]) (st' := [.ref 0]) (h' := p1_h) (cl' := 94) (sl' := 4156) rfl ?_
  refine ik_Wce 50 1 0 [.ref 0] [] _ [.int 0] p1_r21 rfl rfl rfl (by decide) rfl rfl rfl rfl rfl ?_
  refine ik_Wk 1 (pc' := 781) (loc' := [some (.retAddr 0), some (.ref 0), some (.ref 66), some (.int 0)]) (st' := [.ref 66, .int 0]) (h' := p1_h) (cl' := 94) (sl' := 4156) rfl ?_
  refine ik_Wce 99 1 0 [.ref 66] [.int 0] _ [.int 0] p1_r22 rfl rfl rfl (by decide) rfl rfl rfl rfl rfl ?_
  refine ik_Wk 10 (pc' := 1138) (loc' := [some (.retAddr 0), some (.ref 0), some (.ref 66), some (.int 5)]) (st' := [.int 1]) (h' := p1_h) (cl' := 94) (sl' := 4156) rfl ?_
  exact ik_Wret rfl rfl ⟨rfl, rfl, Nat.le_of_ble_eq_true rfl, Nat.le_of_ble_eq_true rfl⟩

set_option maxHeartbeats 16000000 in
set_option maxRecDepth 100000 in
/-- stoned on the new objects -/
theorem p1_k18 (a0 a1 a2 a3 a4 : Int32) : ik_W (some (5, p1_f a0 a1 a2 a3 a4)) 0 812 [some (.retAddr 0), some (.ref 0), some (.ref 66), some (.int 0)] [] p1_h 94 4156 p1_post := by
  refine ik_Wk 1 (pc' := 813) (loc' := [some (.retAddr 0), some (.ref 0), some (.ref 66), some (.int 0)]) (st' := [.ref 0]) (h' := p1_h) (cl' := 94) (sl' := 4156) rfl ?_
  refine ik_Wce 52 1 0 [.ref 0] [] _ [.int (-1)] p1_r25 rfl rfl rfl (by decide) rfl rfl rfl rfl rfl ?_
  refine ik_Wk 1 (pc' := 817) (loc' := [some (.retAddr 0), some (.ref 0), some (.ref 66), some (.int 0)]) (st' := [.ref 66, .int (-1)]) (h' := p1_h) (cl' := 94) (sl' := 4156) rfl ?_
  refine ik_Wce 103 1 0 [.ref 66] [.int (-1)] _ [.int (-1)] p1_r26 rfl rfl rfl (by decide) rfl rfl rfl rfl rfl ?_
  refine ik_Wk 10 (pc' := 1138) (loc' := [some (.retAddr 0), some (.ref 0), some (.ref 66), some (.int 5)]) (st' := [.int 1]) (h' := p1_h) (cl' := 94) (sl' := 4156) rfl ?_
  exact ik_Wret rfl rfl ⟨rfl, rfl, Nat.le_of_ble_eq_true rfl, Nat.le_of_ble_eq_true rfl⟩

set_option maxHeartbeats 16000000 in
set_option maxRecDepth 100000 in
/-- begin on the new objects -/
theorem p1_k23 (a0 a1 a2 a3 a4 : Int32) : ik_W (some (5, p1_f a0 a1 a2 a3 a4)) 0 957 [some (.retAddr 0), some (.ref 0), some (.ref 66), some (.int 0)] [] p1_h 94 4156 p1_post := by
  refine ik_Wk 1 (pc' := 958) (loc' := [some (.retAddr 0), some (.ref 0), some (.ref 66), some (.int 0)]) (st' := [.ref 0]) (h' := p1_h) (cl' := 94) (sl' := 4156) rfl ?_
  refine ik_Wce 57 1 0 [.ref 0] [] _ [.int 0] p1_r31 rfl rfl rfl (by decide) rfl rfl rfl rfl rfl ?_
  refine ik_Wk 1 (pc' := 962) (loc' := [some (.retAddr 0), some (.ref 0), some (.ref 66), some (.int 0)]) (st' := [.ref 66, .int 0]) (h' := p1_h) (cl' := 94) (sl' := 4156) rfl ?_
  refine ik_Wce 109 1 0 [.ref 66] [.int 0] _ [.int 0] p1_r32 rfl rfl rfl (by decide) rfl rfl rfl rfl rfl ?_
  refine ik_Wk 10 (pc' := 1138) (loc' := [some (.retAddr 0), some (.ref 0), some (.ref 66), some (.int 5)]) (st' := [.int 1]) (h' := p1_h) (cl' := 94) (sl' := 4156) rfl ?_
  exact ik_Wret rfl rfl ⟨rfl, rfl, Nat.le_of_ble_eq_true rfl, Nat.le_of_ble_eq_true rfl⟩

set_option maxHeartbeats 16000000 in
set_option maxRecDepth 100000 in
/-- clear on the new objects -/
theorem p1_k26 (a0 a1 a2 a3 a4 : Int32) : ik_W (some (5, p1_f a0 a1 a2 a3 a4)) 0 1026 [some (.retAddr 0), some (.ref 0), some (.ref 66), some (.int 0)] [] p1_h 94 4156 p1_post := by
  refine ik_Wk 1 (pc' := 1027) (loc' := [some (.retAddr 0), some (.ref 0), some (.ref 66), some (.int 0)]) (st' := [.ref 0]) (h' := p1_h) (cl' := 94) (sl' := 4156) rfl ?_
  refine ik_Wce 60 1 0 [.ref 0] [] _ [.int 0] p1_r37 rfl rfl rfl (by decide) rfl rfl rfl rfl rfl ?_
  refine ik_Wk 1 (pc' := 1031) (loc' := [some (.retAddr 0), some (.ref 0), some (.ref 66), some (.int 0)]) (st' := [.ref 66, .int 0]) (h' := p1_h) (cl' := 94) (sl' := 4156) rfl ?_
  refine ik_Wce 112 1 0 [.ref 66] [.int 0] _ [.int 0] p1_r38 rfl rfl rfl (by decide) rfl rfl rfl rfl rfl ?_
  refine ik_Wk 10 (pc' := 1138) (loc' := [some (.retAddr 0), some (.ref 0), some (.ref 66), some (.int 5)]) (st' := [.int 1]) (h' := p1_h) (cl' := 94) (sl' := 4156) rfl ?_
  exact ik_Wret rfl rfl ⟨rfl, rfl, Nat.le_of_ble_eq_true rfl, Nat.le_of_ble_eq_true rfl⟩

set_option maxHeartbeats 16000000 in
set_option maxRecDepth 100000 in
/-- seed on the new objects -/
theorem p1_k28 (a0 a1 a2 a3 a4 : Int32) : ik_W (some (5, p1_f a0 a1 a2 a3 a4)) 0 1062 [some (.retAddr 0), some (.ref 0), some (.ref 66), some (.int 0)] [] p1_h 94 4156 p1_post := by
  refine ik_Wk 6 (pc' := 1068) (loc' := [some (.retAddr 0), some (.ref 0), some (.ref 66), some (.int 0)]) (st' := [.int a1, .ref 0]) (h' := p1_h) (cl' := 94) (sl' := 4156) rfl ?_
  refine ik_Wc 62 2 0 [.ref 0, .int a1] [] rfl rfl rfl (by decide) rfl rfl rfl ?_
  refine ik_Wif 2 (c := 0 ≤ a1) 7 4 (loc' := [some (.ref 0), some (.int a1), none]) (st' := []) (h' := p1_h) (cl' := 0) (sl' := 0) rfl (fun hc1 => ?_) (fun hc1 => ?_)
  · refine ik_Wk 11 (pc' := 26) (loc' := [some (.ref 0), some (.int a1), some (.int 0)]) (st' := [.int 0]) (h' := (p1_h.set 14 (.inr (1, [.ref 7, .ref 15, .ref 16, .int 0, .long a1.toInt64])))) (cl' := 0) (sl' := 0) rfl ?_
    refine ik_Wret rfl rfl ⟨_, _, rfl, rfl, ?_⟩
    refine ik_Wk 6 (pc' := 1077) (loc' := [some (.retAddr 0), some (.ref 0), some (.ref 66), some (.int 0)]) (st' := [.int a1, .ref 66, .int 0]) (h' := (p1_h.set 14 (.inr (1, [.ref 7, .ref 15, .ref 16, .int 0, .long a1.toInt64])))) (cl' := 94) (sl' := 4156) rfl ?_
    refine ik_Wc 114 2 0 [.ref 66, .int a1] [.int 0] rfl rfl rfl (by decide) rfl rfl rfl ?_
    refine ik_Wif 2 (c := 0 ≤ a1) 7 4 (loc' := [some (.ref 66), some (.int a1), none]) (st' := []) (h' := (p1_h.set 14 (.inr (1, [.ref 7, .ref 15, .ref 16, .int 0, .long a1.toInt64])))) (cl' := 0) (sl' := 0) rfl (fun hc2 => ?_) (fun hc2 => ?_)
    · refine ik_Wk 7 (pc' := 18) (loc' := [some (.ref 66), some (.int a1), some (.int 0)]) (st' := [.int 0]) (h' := ((p1_h.set 14 (.inr (1, [.ref 7, .ref 15, .ref 16, .int 0, .long a1.toInt64]))).set 66 (.inr (10, [.int 0, .ref 67, .ref 68, .ref 69, .int 0, .ref 70, .ref 71, .int 0, .int a1, .ref 72, .int 0, .int (-1), .int 0, .long 0, .int 0, .int 0, .int 0, .int 0, .ref 73, .ref 74, .ref 75, .ref 76, .ref 77, .ref 78, .int 0, .ref 79, .ref 80, .ref 81, .ref 82, .ref 83, .ref 84, .ref 85, .long 0, .long 0, .ref 86, .ref 87, .int 0, .ref 88, .ref 89, .ref 90, .ref 91, .ref 92, .ref 93])))) (cl' := 0) (sl' := 0) rfl ?_
      refine ik_Wret rfl rfl ⟨_, _, rfl, rfl, ?_⟩
      refine ik_Wk 10 (pc' := 1138) (loc' := [some (.retAddr 0), some (.ref 0), some (.ref 66), some (.int 5)]) (st' := [.int 1]) (h' := ((p1_h.set 14 (.inr (1, [.ref 7, .ref 15, .ref 16, .int 0, .long a1.toInt64]))).set 66 (.inr (10, [.int 0, .ref 67, .ref 68, .ref 69, .int 0, .ref 70, .ref 71, .int 0, .int a1, .ref 72, .int 0, .int (-1), .int 0, .long 0, .int 0, .int 0, .int 0, .int 0, .ref 73, .ref 74, .ref 75, .ref 76, .ref 77, .ref 78, .int 0, .ref 79, .ref 80, .ref 81, .ref 82, .ref 83, .ref 84, .ref 85, .long 0, .long 0, .ref 86, .ref 87, .int 0, .ref 88, .ref 89, .ref 90, .ref 91, .ref 92, .ref 93])))) (cl' := 94) (sl' := 4156) rfl ?_
      exact ik_Wret rfl rfl ⟨rfl, rfl, Nat.le_of_ble_eq_true rfl, Nat.le_of_ble_eq_true rfl⟩
    · exfalso
      (try simp only [lg_lt0, lg_gt0] at hc1 hc2) <;> simp only [cv_eq, cv_lt, cv_le, cv_64, (show (0 : Int32).toInt = 0 from by decide), (show (0 : Int64).toInt = 0 from by decide)] at hc1 hc2 <;> omega
  · refine ik_Wk 1 (pc' := 6) (loc' := [some (.ref 0), some (.int a1), none]) (st' := [.int (-1000000002)]) (h' := p1_h) (cl' := 0) (sl' := 0) rfl ?_
    refine ik_Wret rfl rfl ⟨_, _, rfl, rfl, ?_⟩
    refine ik_Wk 6 (pc' := 1077) (loc' := [some (.retAddr 0), some (.ref 0), some (.ref 66), some (.int 0)]) (st' := [.int a1, .ref 66, .int (-1000000002)]) (h' := p1_h) (cl' := 94) (sl' := 4156) rfl ?_
    refine ik_Wc 114 2 0 [.ref 66, .int a1] [.int (-1000000002)] rfl rfl rfl (by decide) rfl rfl rfl ?_
    refine ik_Wif 2 (c := 0 ≤ a1) 7 4 (loc' := [some (.ref 66), some (.int a1), none]) (st' := []) (h' := p1_h) (cl' := 0) (sl' := 0) rfl (fun hc3 => ?_) (fun hc3 => ?_)
    · exfalso
      (try simp only [lg_lt0, lg_gt0] at hc1 hc3) <;> simp only [cv_eq, cv_lt, cv_le, cv_64, (show (0 : Int32).toInt = 0 from by decide), (show (0 : Int64).toInt = 0 from by decide)] at hc1 hc3 <;> omega
    · refine ik_Wk 1 (pc' := 6) (loc' := [some (.ref 66), some (.int a1), none]) (st' := [.int (-1000000002)]) (h' := p1_h) (cl' := 0) (sl' := 0) rfl ?_
      refine ik_Wret rfl rfl ⟨_, _, rfl, rfl, ?_⟩
      refine ik_Wk 10 (pc' := 1138) (loc' := [some (.retAddr 0), some (.ref 0), some (.ref 66), some (.int 5)]) (st' := [.int 1]) (h' := p1_h) (cl' := 94) (sl' := 4156) rfl ?_
      exact ik_Wret rfl rfl ⟨rfl, rfl, Nat.le_of_ble_eq_true rfl, Nat.le_of_ble_eq_true rfl⟩

set_option maxHeartbeats 16000000 in
set_option maxRecDepth 100000 in
/-- comes on the new objects -/
theorem p1_k6 (a0 a1 a2 a3 a4 : Int32) : ik_W (some (5, p1_f a0 a1 a2 a3 a4)) 0 370 [some (.retAddr 0), some (.ref 0), some (.ref 66), some (.int 0)] [] p1_h 94 4156 p1_post := by
  refine ik_Wk 16 (pc' := 386) (loc' := [some (.retAddr 0), some (.ref 0), some (.ref 66), some (.int 0)]) (st' := [.int a3, .int a2, .int a1, .ref 0]) (h' := p1_h) (cl' := 94) (sl' := 4156) rfl ?_
  refine ik_Wc 40 4 0 [.ref 0, .int a1, .int a2, .int a3] [] rfl rfl rfl (by decide) rfl rfl rfl ?_
  refine ik_Wk 1 (pc' := 1) (loc' := [some (.ref 0), some (.int a1), some (.int a2), some (.int a3)]) (st' := [.int a1]) (h' := p1_h) (cl' := 0) (sl' := 0) rfl ?_
  refine ik_Wc 66 1 3 [.int a1] [] rfl rfl rfl (by decide) rfl rfl rfl ?_
  refine ik_Wif 2 (c := a1 < 0) 13 4 (loc' := [some (.int a1)]) (st' := []) (h' := p1_h) (cl' := 0) (sl' := 0) rfl (fun hc1 => ?_) (fun hc1 => ?_)
  · refine ik_Wk 1 (pc' := 14) (loc' := [some (.int a1)]) (st' := [.int 0]) (h' := p1_h) (cl' := 0) (sl' := 0) rfl ?_
    refine ik_Wret rfl rfl ⟨_, _, rfl, rfl, ?_⟩
    refine ik_Wk 2 (pc' := 20) (loc' := [some (.ref 0), some (.int a1), some (.int a2), some (.int a3)]) (st' := [.int (-1000000001)]) (h' := p1_h) (cl' := 0) (sl' := 0) rfl ?_
    refine ik_Wret rfl rfl ⟨_, _, rfl, rfl, ?_⟩
    refine ik_Wk 16 (pc' := 405) (loc' := [some (.retAddr 0), some (.ref 0), some (.ref 66), some (.int 0)]) (st' := [.int a3, .int a2, .int a1, .ref 66, .int (-1000000001)]) (h' := p1_h) (cl' := 94) (sl' := 4156) rfl ?_
    refine ik_Wc 89 4 0 [.ref 66, .int a1, .int a2, .int a3] [.int (-1000000001)] rfl rfl rfl (by decide) rfl rfl rfl ?_
    refine ik_Wk 1 (pc' := 1) (loc' := [some (.ref 66), some (.int a1), some (.int a2), some (.int a3)]) (st' := [.int a1]) (h' := p1_h) (cl' := 0) (sl' := 0) rfl ?_
    refine ik_Wc 76 1 3 [.int a1] [] rfl rfl rfl (by decide) rfl rfl rfl ?_
    refine ik_Wk 4 (pc' := 6) (loc' := [some (.int a1)]) (st' := [.long 2, .long 0, .long a1.toInt64]) (h' := p1_h) (cl' := 0) (sl' := 0) rfl ?_
    refine ik_Wc 70 3 3 [.long a1.toInt64, .long 0, .long 2] [] rfl rfl rfl (by decide) rfl rfl rfl ?_
    refine ik_Wif 4 (c := (lg_cmp a1.toInt64 (0 : Int64)) < 0) 17 6 (loc' := [some (.long a1.toInt64), none, some (.long 0), none, some (.long 2), none]) (st' := []) (h' := p1_h) (cl' := 0) (sl' := 0) rfl (fun hc2 => ?_) (fun hc2 => ?_)
    · refine ik_Wk 1 (pc' := 18) (loc' := [some (.long a1.toInt64), none, some (.long 0), none, some (.long 2), none]) (st' := [.int 0]) (h' := p1_h) (cl' := 0) (sl' := 0) rfl ?_
      refine ik_Wret rfl rfl ⟨_, _, rfl, rfl, ?_⟩
      refine ik_Wret rfl rfl ⟨_, _, rfl, rfl, ?_⟩
      refine ik_Wk 2 (pc' := 17) (loc' := [some (.ref 66), some (.int a1), some (.int a2), some (.int a3)]) (st' := [.int (-1000000001)]) (h' := p1_h) (cl' := 0) (sl' := 0) rfl ?_
      refine ik_Wret rfl rfl ⟨_, _, rfl, rfl, ?_⟩
      refine ik_Wk 10 (pc' := 1138) (loc' := [some (.retAddr 0), some (.ref 0), some (.ref 66), some (.int 5)]) (st' := [.int 1]) (h' := p1_h) (cl' := 94) (sl' := 4156) rfl ?_
      exact ik_Wret rfl rfl ⟨rfl, rfl, Nat.le_of_ble_eq_true rfl, Nat.le_of_ble_eq_true rfl⟩
    · exfalso
      (try simp only [lg_lt0, lg_gt0] at hc1 hc2) <;> simp only [cv_eq, cv_lt, cv_le, cv_64, (show (0 : Int32).toInt = 0 from by decide), (show (0 : Int64).toInt = 0 from by decide)] at hc1 hc2 <;> omega
  · refine ik_Wif 3 (c := (2 : Int32) < a1) 13 9 (loc' := [some (.int a1)]) (st' := []) (h' := p1_h) (cl' := 0) (sl' := 0) rfl (fun hc3 => ?_) (fun hc3 => ?_)
    · refine ik_Wk 1 (pc' := 14) (loc' := [some (.int a1)]) (st' := [.int 0]) (h' := p1_h) (cl' := 0) (sl' := 0) rfl ?_
      refine ik_Wret rfl rfl ⟨_, _, rfl, rfl, ?_⟩
      refine ik_Wk 2 (pc' := 20) (loc' := [some (.ref 0), some (.int a1), some (.int a2), some (.int a3)]) (st' := [.int (-1000000001)]) (h' := p1_h) (cl' := 0) (sl' := 0) rfl ?_
      refine ik_Wret rfl rfl ⟨_, _, rfl, rfl, ?_⟩
      refine ik_Wk 16 (pc' := 405) (loc' := [some (.retAddr 0), some (.ref 0), some (.ref 66), some (.int 0)]) (st' := [.int a3, .int a2, .int a1, .ref 66, .int (-1000000001)]) (h' := p1_h) (cl' := 94) (sl' := 4156) rfl ?_
      refine ik_Wc 89 4 0 [.ref 66, .int a1, .int a2, .int a3] [.int (-1000000001)] rfl rfl rfl (by decide) rfl rfl rfl ?_
      refine ik_Wk 1 (pc' := 1) (loc' := [some (.ref 66), some (.int a1), some (.int a2), some (.int a3)]) (st' := [.int a1]) (h' := p1_h) (cl' := 0) (sl' := 0) rfl ?_
      refine ik_Wc 76 1 3 [.int a1] [] rfl rfl rfl (by decide) rfl rfl rfl ?_
      refine ik_Wk 4 (pc' := 6) (loc' := [some (.int a1)]) (st' := [.long 2, .long 0, .long a1.toInt64]) (h' := p1_h) (cl' := 0) (sl' := 0) rfl ?_
      refine ik_Wc 70 3 3 [.long a1.toInt64, .long 0, .long 2] [] rfl rfl rfl (by decide) rfl rfl rfl ?_
      refine ik_Wif 4 (c := (lg_cmp a1.toInt64 (0 : Int64)) < 0) 17 6 (loc' := [some (.long a1.toInt64), none, some (.long 0), none, some (.long 2), none]) (st' := []) (h' := p1_h) (cl' := 0) (sl' := 0) rfl (fun hc4 => ?_) (fun hc4 => ?_)
      · exfalso
        (try simp only [lg_lt0, lg_gt0] at hc1 hc3 hc4) <;> simp only [cv_eq, cv_lt, cv_le, cv_64, (show (0 : Int32).toInt = 0 from by decide), (show (0 : Int64).toInt = 0 from by decide), (show (2 : Int32).toInt = 2 from by decide), (show (2 : Int64).toInt = 2 from by decide)] at hc1 hc3 hc4 <;> omega
      · refine ik_Wif 4 (c := 0 < (lg_cmp a1.toInt64 (2 : Int64))) 17 13 (loc' := [some (.long a1.toInt64), none, some (.long 0), none, some (.long 2), none]) (st' := []) (h' := p1_h) (cl' := 0) (sl' := 0) rfl (fun hc5 => ?_) (fun hc5 => ?_)
        · refine ik_Wk 1 (pc' := 18) (loc' := [some (.long a1.toInt64), none, some (.long 0), none, some (.long 2), none]) (st' := [.int 0]) (h' := p1_h) (cl' := 0) (sl' := 0) rfl ?_
          refine ik_Wret rfl rfl ⟨_, _, rfl, rfl, ?_⟩
          refine ik_Wret rfl rfl ⟨_, _, rfl, rfl, ?_⟩
          refine ik_Wk 2 (pc' := 17) (loc' := [some (.ref 66), some (.int a1), some (.int a2), some (.int a3)]) (st' := [.int (-1000000001)]) (h' := p1_h) (cl' := 0) (sl' := 0) rfl ?_
          refine ik_Wret rfl rfl ⟨_, _, rfl, rfl, ?_⟩
          refine ik_Wk 10 (pc' := 1138) (loc' := [some (.retAddr 0), some (.ref 0), some (.ref 66), some (.int 5)]) (st' := [.int 1]) (h' := p1_h) (cl' := 94) (sl' := 4156) rfl ?_
          exact ik_Wret rfl rfl ⟨rfl, rfl, Nat.le_of_ble_eq_true rfl, Nat.le_of_ble_eq_true rfl⟩
        · exfalso
          (try simp only [lg_lt0, lg_gt0] at hc1 hc3 hc4 hc5) <;> simp only [cv_eq, cv_lt, cv_le, cv_64, (show (0 : Int32).toInt = 0 from by decide), (show (0 : Int64).toInt = 0 from by decide), (show (2 : Int32).toInt = 2 from by decide), (show (2 : Int64).toInt = 2 from by decide)] at hc1 hc3 hc4 hc5 <;> omega
    · refine ik_Wk 2 (pc' := 14) (loc' := [some (.int a1)]) (st' := [.int 1]) (h' := p1_h) (cl' := 0) (sl' := 0) rfl ?_
      refine ik_Wret rfl rfl ⟨_, _, rfl, rfl, ?_⟩
      refine ik_Wk 4 (pc' := 12) (loc' := [some (.ref 0), some (.int a1), some (.int a2), some (.int a3)]) (st' := [.int a2, .ref 7]) (h' := p1_h) (cl' := 0) (sl' := 0) rfl ?_
      refine ik_Wc 3 2 0 [.ref 7, .int a2] [] rfl rfl rfl (by decide) rfl rfl rfl ?_
      refine ik_Wif 2 (c := a2 < 0) 16 4 (loc' := [some (.ref 7), some (.int a2)]) (st' := []) (h' := p1_h) (cl' := 0) (sl' := 0) rfl (fun hc6 => ?_) (fun hc6 => ?_)
      · refine ik_Wk 1 (pc' := 17) (loc' := [some (.ref 7), some (.int a2)]) (st' := [.int 0]) (h' := p1_h) (cl' := 0) (sl' := 0) rfl ?_
        refine ik_Wret rfl rfl ⟨_, _, rfl, rfl, ?_⟩
        refine ik_Wk 2 (pc' := 20) (loc' := [some (.ref 0), some (.int a1), some (.int a2), some (.int a3)]) (st' := [.int (-1000000001)]) (h' := p1_h) (cl' := 0) (sl' := 0) rfl ?_
        refine ik_Wret rfl rfl ⟨_, _, rfl, rfl, ?_⟩
        refine ik_Wk 16 (pc' := 405) (loc' := [some (.retAddr 0), some (.ref 0), some (.ref 66), some (.int 0)]) (st' := [.int a3, .int a2, .int a1, .ref 66, .int (-1000000001)]) (h' := p1_h) (cl' := 94) (sl' := 4156) rfl ?_
        refine ik_Wc 89 4 0 [.ref 66, .int a1, .int a2, .int a3] [.int (-1000000001)] rfl rfl rfl (by decide) rfl rfl rfl ?_
        refine ik_Wk 1 (pc' := 1) (loc' := [some (.ref 66), some (.int a1), some (.int a2), some (.int a3)]) (st' := [.int a1]) (h' := p1_h) (cl' := 0) (sl' := 0) rfl ?_
        refine ik_Wc 76 1 3 [.int a1] [] rfl rfl rfl (by decide) rfl rfl rfl ?_
        refine ik_Wk 4 (pc' := 6) (loc' := [some (.int a1)]) (st' := [.long 2, .long 0, .long a1.toInt64]) (h' := p1_h) (cl' := 0) (sl' := 0) rfl ?_
        refine ik_Wc 70 3 3 [.long a1.toInt64, .long 0, .long 2] [] rfl rfl rfl (by decide) rfl rfl rfl ?_
        refine ik_Wif 4 (c := (lg_cmp a1.toInt64 (0 : Int64)) < 0) 17 6 (loc' := [some (.long a1.toInt64), none, some (.long 0), none, some (.long 2), none]) (st' := []) (h' := p1_h) (cl' := 0) (sl' := 0) rfl (fun hc7 => ?_) (fun hc7 => ?_)
        · exfalso
          (try simp only [lg_lt0, lg_gt0] at hc1 hc3 hc7) <;> simp only [cv_eq, cv_lt, cv_le, cv_64, (show (0 : Int32).toInt = 0 from by decide), (show (0 : Int64).toInt = 0 from by decide), (show (2 : Int32).toInt = 2 from by decide), (show (2 : Int64).toInt = 2 from by decide)] at hc1 hc3 hc7 <;> omega
        · refine ik_Wif 4 (c := 0 < (lg_cmp a1.toInt64 (2 : Int64))) 17 13 (loc' := [some (.long a1.toInt64), none, some (.long 0), none, some (.long 2), none]) (st' := []) (h' := p1_h) (cl' := 0) (sl' := 0) rfl (fun hc8 => ?_) (fun hc8 => ?_)
          · exfalso
            (try simp only [lg_lt0, lg_gt0] at hc1 hc3 hc7 hc8) <;> simp only [cv_eq, cv_lt, cv_le, cv_64, (show (0 : Int32).toInt = 0 from by decide), (show (0 : Int64).toInt = 0 from by decide), (show (2 : Int32).toInt = 2 from by decide), (show (2 : Int64).toInt = 2 from by decide)] at hc1 hc3 hc7 hc8 <;> omega
          · refine ik_Wk 2 (pc' := 18) (loc' := [some (.long a1.toInt64), none, some (.long 0), none, some (.long 2), none]) (st' := [.int 1]) (h' := p1_h) (cl' := 0) (sl' := 0) rfl ?_
            refine ik_Wret rfl rfl ⟨_, _, rfl, rfl, ?_⟩
            refine ik_Wret rfl rfl ⟨_, _, rfl, rfl, ?_⟩
            refine ik_Wk 3 (pc' := 9) (loc' := [some (.ref 66), some (.int a1), some (.int a2), some (.int a3)]) (st' := [.int a2, .ref 66]) (h' := p1_h) (cl' := 0) (sl' := 0) rfl ?_
            refine ik_Wc 72 2 0 [.ref 66, .int a2] [] rfl rfl rfl (by decide) rfl rfl rfl ?_
            refine ik_Wk 8 (pc' := 10) (loc' := [some (.ref 66), some (.int a2)]) (st' := [.long (-1), .long 0, .long a2.toInt64]) (h' := p1_h) (cl' := 0) (sl' := 0) rfl ?_
            refine ik_Wc 70 3 3 [.long a2.toInt64, .long 0, .long (-1)] [] rfl rfl rfl (by decide) rfl rfl rfl ?_
            refine ik_Wif 4 (c := (lg_cmp a2.toInt64 (0 : Int64)) < 0) 17 6 (loc' := [some (.long a2.toInt64), none, some (.long 0), none, some (.long (-1)), none]) (st' := []) (h' := p1_h) (cl' := 0) (sl' := 0) rfl (fun hc9 => ?_) (fun hc9 => ?_)
            · refine ik_Wk 1 (pc' := 18) (loc' := [some (.long a2.toInt64), none, some (.long 0), none, some (.long (-1)), none]) (st' := [.int 0]) (h' := p1_h) (cl' := 0) (sl' := 0) rfl ?_
              refine ik_Wret rfl rfl ⟨_, _, rfl, rfl, ?_⟩
              refine ik_Wret rfl rfl ⟨_, _, rfl, rfl, ?_⟩
              refine ik_Wk 2 (pc' := 17) (loc' := [some (.ref 66), some (.int a1), some (.int a2), some (.int a3)]) (st' := [.int (-1000000001)]) (h' := p1_h) (cl' := 0) (sl' := 0) rfl ?_
              refine ik_Wret rfl rfl ⟨_, _, rfl, rfl, ?_⟩
              refine ik_Wk 10 (pc' := 1138) (loc' := [some (.retAddr 0), some (.ref 0), some (.ref 66), some (.int 5)]) (st' := [.int 1]) (h' := p1_h) (cl' := 94) (sl' := 4156) rfl ?_
              exact ik_Wret rfl rfl ⟨rfl, rfl, Nat.le_of_ble_eq_true rfl, Nat.le_of_ble_eq_true rfl⟩
            · exfalso
              (try simp only [lg_lt0, lg_gt0] at hc6 hc9) <;> simp only [cv_eq, cv_lt, cv_le, cv_64, (show (0 : Int32).toInt = 0 from by decide), (show (0 : Int64).toInt = 0 from by decide), (show (2 : Int32).toInt = 2 from by decide), (show (2 : Int64).toInt = 2 from by decide)] at hc6 hc9 <;> omega
      · refine ik_Wif 4 (c := (0 : Int32) ≤ a2) 16 12 (loc' := [some (.ref 7), some (.int a2)]) (st' := []) (h' := p1_h) (cl' := 0) (sl' := 0) rfl (fun hc10 => ?_) (fun hc10 => ?_)
        · refine ik_Wk 1 (pc' := 17) (loc' := [some (.ref 7), some (.int a2)]) (st' := [.int 0]) (h' := p1_h) (cl' := 0) (sl' := 0) rfl ?_
          refine ik_Wret rfl rfl ⟨_, _, rfl, rfl, ?_⟩
          refine ik_Wk 2 (pc' := 20) (loc' := [some (.ref 0), some (.int a1), some (.int a2), some (.int a3)]) (st' := [.int (-1000000001)]) (h' := p1_h) (cl' := 0) (sl' := 0) rfl ?_
          refine ik_Wret rfl rfl ⟨_, _, rfl, rfl, ?_⟩
          refine ik_Wk 16 (pc' := 405) (loc' := [some (.retAddr 0), some (.ref 0), some (.ref 66), some (.int 0)]) (st' := [.int a3, .int a2, .int a1, .ref 66, .int (-1000000001)]) (h' := p1_h) (cl' := 94) (sl' := 4156) rfl ?_
          refine ik_Wc 89 4 0 [.ref 66, .int a1, .int a2, .int a3] [.int (-1000000001)] rfl rfl rfl (by decide) rfl rfl rfl ?_
          refine ik_Wk 1 (pc' := 1) (loc' := [some (.ref 66), some (.int a1), some (.int a2), some (.int a3)]) (st' := [.int a1]) (h' := p1_h) (cl' := 0) (sl' := 0) rfl ?_
          refine ik_Wc 76 1 3 [.int a1] [] rfl rfl rfl (by decide) rfl rfl rfl ?_
          refine ik_Wk 4 (pc' := 6) (loc' := [some (.int a1)]) (st' := [.long 2, .long 0, .long a1.toInt64]) (h' := p1_h) (cl' := 0) (sl' := 0) rfl ?_
          refine ik_Wc 70 3 3 [.long a1.toInt64, .long 0, .long 2] [] rfl rfl rfl (by decide) rfl rfl rfl ?_
          refine ik_Wif 4 (c := (lg_cmp a1.toInt64 (0 : Int64)) < 0) 17 6 (loc' := [some (.long a1.toInt64), none, some (.long 0), none, some (.long 2), none]) (st' := []) (h' := p1_h) (cl' := 0) (sl' := 0) rfl (fun hc11 => ?_) (fun hc11 => ?_)
          · exfalso
            (try simp only [lg_lt0, lg_gt0] at hc1 hc3 hc11) <;> simp only [cv_eq, cv_lt, cv_le, cv_64, (show (0 : Int32).toInt = 0 from by decide), (show (0 : Int64).toInt = 0 from by decide), (show (2 : Int32).toInt = 2 from by decide), (show (2 : Int64).toInt = 2 from by decide)] at hc1 hc3 hc11 <;> omega
          · refine ik_Wif 4 (c := 0 < (lg_cmp a1.toInt64 (2 : Int64))) 17 13 (loc' := [some (.long a1.toInt64), none, some (.long 0), none, some (.long 2), none]) (st' := []) (h' := p1_h) (cl' := 0) (sl' := 0) rfl (fun hc12 => ?_) (fun hc12 => ?_)
            · exfalso
              (try simp only [lg_lt0, lg_gt0] at hc1 hc3 hc11 hc12) <;> simp only [cv_eq, cv_lt, cv_le, cv_64, (show (0 : Int32).toInt = 0 from by decide), (show (0 : Int64).toInt = 0 from by decide), (show (2 : Int32).toInt = 2 from by decide), (show (2 : Int64).toInt = 2 from by decide)] at hc1 hc3 hc11 hc12 <;> omega
            · refine ik_Wk 2 (pc' := 18) (loc' := [some (.long a1.toInt64), none, some (.long 0), none, some (.long 2), none]) (st' := [.int 1]) (h' := p1_h) (cl' := 0) (sl' := 0) rfl ?_
              refine ik_Wret rfl rfl ⟨_, _, rfl, rfl, ?_⟩
              refine ik_Wret rfl rfl ⟨_, _, rfl, rfl, ?_⟩
              refine ik_Wk 3 (pc' := 9) (loc' := [some (.ref 66), some (.int a1), some (.int a2), some (.int a3)]) (st' := [.int a2, .ref 66]) (h' := p1_h) (cl' := 0) (sl' := 0) rfl ?_
              refine ik_Wc 72 2 0 [.ref 66, .int a2] [] rfl rfl rfl (by decide) rfl rfl rfl ?_
              refine ik_Wk 8 (pc' := 10) (loc' := [some (.ref 66), some (.int a2)]) (st' := [.long (-1), .long 0, .long a2.toInt64]) (h' := p1_h) (cl' := 0) (sl' := 0) rfl ?_
              refine ik_Wc 70 3 3 [.long a2.toInt64, .long 0, .long (-1)] [] rfl rfl rfl (by decide) rfl rfl rfl ?_
              refine ik_Wif 4 (c := (lg_cmp a2.toInt64 (0 : Int64)) < 0) 17 6 (loc' := [some (.long a2.toInt64), none, some (.long 0), none, some (.long (-1)), none]) (st' := []) (h' := p1_h) (cl' := 0) (sl' := 0) rfl (fun hc13 => ?_) (fun hc13 => ?_)
              · exfalso
                (try simp only [lg_lt0, lg_gt0] at hc6 hc10 hc13) <;> simp only [cv_eq, cv_lt, cv_le, cv_64, (show (0 : Int32).toInt = 0 from by decide), (show (0 : Int64).toInt = 0 from by decide), (show (2 : Int32).toInt = 2 from by decide), (show (2 : Int64).toInt = 2 from by decide)] at hc6 hc10 hc13 <;> omega
              · refine ik_Wif 4 (c := 0 < (lg_cmp a2.toInt64 (-1 : Int64))) 17 13 (loc' := [some (.long a2.toInt64), none, some (.long 0), none, some (.long (-1)), none]) (st' := []) (h' := p1_h) (cl' := 0) (sl' := 0) rfl (fun hc14 => ?_) (fun hc14 => ?_)
                · refine ik_Wk 1 (pc' := 18) (loc' := [some (.long a2.toInt64), none, some (.long 0), none, some (.long (-1)), none]) (st' := [.int 0]) (h' := p1_h) (cl' := 0) (sl' := 0) rfl ?_
                  refine ik_Wret rfl rfl ⟨_, _, rfl, rfl, ?_⟩
                  refine ik_Wret rfl rfl ⟨_, _, rfl, rfl, ?_⟩
                  refine ik_Wk 2 (pc' := 17) (loc' := [some (.ref 66), some (.int a1), some (.int a2), some (.int a3)]) (st' := [.int (-1000000001)]) (h' := p1_h) (cl' := 0) (sl' := 0) rfl ?_
                  refine ik_Wret rfl rfl ⟨_, _, rfl, rfl, ?_⟩
                  refine ik_Wk 10 (pc' := 1138) (loc' := [some (.retAddr 0), some (.ref 0), some (.ref 66), some (.int 5)]) (st' := [.int 1]) (h' := p1_h) (cl' := 94) (sl' := 4156) rfl ?_
                  exact ik_Wret rfl rfl ⟨rfl, rfl, Nat.le_of_ble_eq_true rfl, Nat.le_of_ble_eq_true rfl⟩
                · exfalso
                  (try simp only [lg_lt0, lg_gt0] at hc6 hc10 hc13 hc14) <;> simp only [cv_eq, cv_lt, cv_le, cv_64, (show (-1 : Int32).toInt = -1 from by decide), (show (-1 : Int64).toInt = -1 from by decide), (show (0 : Int32).toInt = 0 from by decide), (show (0 : Int64).toInt = 0 from by decide), (show (2 : Int32).toInt = 2 from by decide), (show (2 : Int64).toInt = 2 from by decide)] at hc6 hc10 hc13 hc14 <;> omega
        · exfalso
          (try simp only [lg_lt0, lg_gt0] at hc6 hc10) <;> simp only [cv_eq, cv_lt, cv_le, cv_64, (show (0 : Int32).toInt = 0 from by decide), (show (0 : Int64).toInt = 0 from by decide), (show (2 : Int32).toInt = 2 from by decide), (show (2 : Int64).toInt = 2 from by decide)] at hc6 hc10 <;> omega

set_option maxHeartbeats 16000000 in
set_option maxRecDepth 100000 in
/-- at on the new objects -/
theorem p1_k7 (a0 a1 a2 a3 a4 : Int32) : ik_W (some (5, p1_f a0 a1 a2 a3 a4)) 0 413 [some (.retAddr 0), some (.ref 0), some (.ref 66), some (.int 0)] [] p1_h 94 4156 p1_post := by
  refine ik_Wk 21 (pc' := 434) (loc' := [some (.retAddr 0), some (.ref 0), some (.ref 66), some (.int 0)]) (st' := [.int a4, .int a3, .int a2, .int a1, .ref 0]) (h' := p1_h) (cl' := 94) (sl' := 4156) rfl ?_
  refine ik_Wc 41 5 0 [.ref 0, .int a1, .int a2, .int a3, .int a4] [] rfl rfl rfl (by decide) rfl rfl rfl ?_
  refine ik_Wk 1 (pc' := 1) (loc' := [some (.ref 0), some (.int a1), some (.int a2), some (.int a3), some (.int a4)]) (st' := [.int a1]) (h' := p1_h) (cl' := 0) (sl' := 0) rfl ?_
  refine ik_Wc 66 1 3 [.int a1] [] rfl rfl rfl (by decide) rfl rfl rfl ?_
  refine ik_Wif 2 (c := a1 < 0) 13 4 (loc' := [some (.int a1)]) (st' := []) (h' := p1_h) (cl' := 0) (sl' := 0) rfl (fun hc1 => ?_) (fun hc1 => ?_)
  · refine ik_Wk 1 (pc' := 14) (loc' := [some (.int a1)]) (st' := [.int 0]) (h' := p1_h) (cl' := 0) (sl' := 0) rfl ?_
    refine ik_Wret rfl rfl ⟨_, _, rfl, rfl, ?_⟩
    refine ik_Wk 2 (pc' := 32) (loc' := [some (.ref 0), some (.int a1), some (.int a2), some (.int a3), some (.int a4)]) (st' := [.int (-1000000001)]) (h' := p1_h) (cl' := 0) (sl' := 0) rfl ?_
    refine ik_Wret rfl rfl ⟨_, _, rfl, rfl, ?_⟩
    refine ik_Wk 21 (pc' := 458) (loc' := [some (.retAddr 0), some (.ref 0), some (.ref 66), some (.int 0)]) (st' := [.int a4, .int a3, .int a2, .int a1, .ref 66, .int (-1000000001)]) (h' := p1_h) (cl' := 94) (sl' := 4156) rfl ?_
    refine ik_Wc 90 5 0 [.ref 66, .int a1, .int a2, .int a3, .int a4] [.int (-1000000001)] rfl rfl rfl (by decide) rfl rfl rfl ?_
    refine ik_Wk 1 (pc' := 1) (loc' := [some (.ref 66), some (.int a1), some (.int a2), some (.int a3), some (.int a4)]) (st' := [.int a1]) (h' := p1_h) (cl' := 0) (sl' := 0) rfl ?_
    refine ik_Wc 76 1 3 [.int a1] [] rfl rfl rfl (by decide) rfl rfl rfl ?_
    refine ik_Wk 4 (pc' := 6) (loc' := [some (.int a1)]) (st' := [.long 2, .long 0, .long a1.toInt64]) (h' := p1_h) (cl' := 0) (sl' := 0) rfl ?_
    refine ik_Wc 70 3 3 [.long a1.toInt64, .long 0, .long 2] [] rfl rfl rfl (by decide) rfl rfl rfl ?_
    refine ik_Wif 4 (c := (lg_cmp a1.toInt64 (0 : Int64)) < 0) 17 6 (loc' := [some (.long a1.toInt64), none, some (.long 0), none, some (.long 2), none]) (st' := []) (h' := p1_h) (cl' := 0) (sl' := 0) rfl (fun hc2 => ?_) (fun hc2 => ?_)
    · refine ik_Wk 1 (pc' := 18) (loc' := [some (.long a1.toInt64), none, some (.long 0), none, some (.long 2), none]) (st' := [.int 0]) (h' := p1_h) (cl' := 0) (sl' := 0) rfl ?_
      refine ik_Wret rfl rfl ⟨_, _, rfl, rfl, ?_⟩
      refine ik_Wret rfl rfl ⟨_, _, rfl, rfl, ?_⟩
      refine ik_Wk 2 (pc' := 26) (loc' := [some (.ref 66), some (.int a1), some (.int a2), some (.int a3), some (.int a4)]) (st' := [.int (-1000000001)]) (h' := p1_h) (cl' := 0) (sl' := 0) rfl ?_
      refine ik_Wret rfl rfl ⟨_, _, rfl, rfl, ?_⟩
      refine ik_Wk 10 (pc' := 1138) (loc' := [some (.retAddr 0), some (.ref 0), some (.ref 66), some (.int 5)]) (st' := [.int 1]) (h' := p1_h) (cl' := 94) (sl' := 4156) rfl ?_
      exact ik_Wret rfl rfl ⟨rfl, rfl, Nat.le_of_ble_eq_true rfl, Nat.le_of_ble_eq_true rfl⟩
    · exfalso
      (try simp only [lg_lt0, lg_gt0] at hc1 hc2) <;> simp only [cv_eq, cv_lt, cv_le, cv_64, (show (0 : Int32).toInt = 0 from by decide), (show (0 : Int64).toInt = 0 from by decide)] at hc1 hc2 <;> omega
  · refine ik_Wif 3 (c := (2 : Int32) < a1) 13 9 (loc' := [some (.int a1)]) (st' := []) (h' := p1_h) (cl' := 0) (sl' := 0) rfl (fun hc3 => ?_) (fun hc3 => ?_)
    · refine ik_Wk 1 (pc' := 14) (loc' := [some (.int a1)]) (st' := [.int 0]) (h' := p1_h) (cl' := 0) (sl' := 0) rfl ?_
      refine ik_Wret rfl rfl ⟨_, _, rfl, rfl, ?_⟩
      refine ik_Wk 2 (pc' := 32) (loc' := [some (.ref 0), some (.int a1), some (.int a2), some (.int a3), some (.int a4)]) (st' := [.int (-1000000001)]) (h' := p1_h) (cl' := 0) (sl' := 0) rfl ?_
      refine ik_Wret rfl rfl ⟨_, _, rfl, rfl, ?_⟩
      refine ik_Wk 21 (pc' := 458) (loc' := [some (.retAddr 0), some (.ref 0), some (.ref 66), some (.int 0)]) (st' := [.int a4, .int a3, .int a2, .int a1, .ref 66, .int (-1000000001)]) (h' := p1_h) (cl' := 94) (sl' := 4156) rfl ?_
      refine ik_Wc 90 5 0 [.ref 66, .int a1, .int a2, .int a3, .int a4] [.int (-1000000001)] rfl rfl rfl (by decide) rfl rfl rfl ?_
      refine ik_Wk 1 (pc' := 1) (loc' := [some (.ref 66), some (.int a1), some (.int a2), some (.int a3), some (.int a4)]) (st' := [.int a1]) (h' := p1_h) (cl' := 0) (sl' := 0) rfl ?_
      refine ik_Wc 76 1 3 [.int a1] [] rfl rfl rfl (by decide) rfl rfl rfl ?_
      refine ik_Wk 4 (pc' := 6) (loc' := [some (.int a1)]) (st' := [.long 2, .long 0, .long a1.toInt64]) (h' := p1_h) (cl' := 0) (sl' := 0) rfl ?_
      refine ik_Wc 70 3 3 [.long a1.toInt64, .long 0, .long 2] [] rfl rfl rfl (by decide) rfl rfl rfl ?_
      refine ik_Wif 4 (c := (lg_cmp a1.toInt64 (0 : Int64)) < 0) 17 6 (loc' := [some (.long a1.toInt64), none, some (.long 0), none, some (.long 2), none]) (st' := []) (h' := p1_h) (cl' := 0) (sl' := 0) rfl (fun hc4 => ?_) (fun hc4 => ?_)
      · exfalso
        (try simp only [lg_lt0, lg_gt0] at hc1 hc3 hc4) <;> simp only [cv_eq, cv_lt, cv_le, cv_64, (show (0 : Int32).toInt = 0 from by decide), (show (0 : Int64).toInt = 0 from by decide), (show (2 : Int32).toInt = 2 from by decide), (show (2 : Int64).toInt = 2 from by decide)] at hc1 hc3 hc4 <;> omega
      · refine ik_Wif 4 (c := 0 < (lg_cmp a1.toInt64 (2 : Int64))) 17 13 (loc' := [some (.long a1.toInt64), none, some (.long 0), none, some (.long 2), none]) (st' := []) (h' := p1_h) (cl' := 0) (sl' := 0) rfl (fun hc5 => ?_) (fun hc5 => ?_)
        · refine ik_Wk 1 (pc' := 18) (loc' := [some (.long a1.toInt64), none, some (.long 0), none, some (.long 2), none]) (st' := [.int 0]) (h' := p1_h) (cl' := 0) (sl' := 0) rfl ?_
          refine ik_Wret rfl rfl ⟨_, _, rfl, rfl, ?_⟩
          refine ik_Wret rfl rfl ⟨_, _, rfl, rfl, ?_⟩
          refine ik_Wk 2 (pc' := 26) (loc' := [some (.ref 66), some (.int a1), some (.int a2), some (.int a3), some (.int a4)]) (st' := [.int (-1000000001)]) (h' := p1_h) (cl' := 0) (sl' := 0) rfl ?_
          refine ik_Wret rfl rfl ⟨_, _, rfl, rfl, ?_⟩
          refine ik_Wk 10 (pc' := 1138) (loc' := [some (.retAddr 0), some (.ref 0), some (.ref 66), some (.int 5)]) (st' := [.int 1]) (h' := p1_h) (cl' := 94) (sl' := 4156) rfl ?_
          exact ik_Wret rfl rfl ⟨rfl, rfl, Nat.le_of_ble_eq_true rfl, Nat.le_of_ble_eq_true rfl⟩
        · exfalso
          (try simp only [lg_lt0, lg_gt0] at hc1 hc3 hc4 hc5) <;> simp only [cv_eq, cv_lt, cv_le, cv_64, (show (0 : Int32).toInt = 0 from by decide), (show (0 : Int64).toInt = 0 from by decide), (show (2 : Int32).toInt = 2 from by decide), (show (2 : Int64).toInt = 2 from by decide)] at hc1 hc3 hc4 hc5 <;> omega
    · refine ik_Wk 2 (pc' := 14) (loc' := [some (.int a1)]) (st' := [.int 1]) (h' := p1_h) (cl' := 0) (sl' := 0) rfl ?_
      refine ik_Wret rfl rfl ⟨_, _, rfl, rfl, ?_⟩
      refine ik_Wk 4 (pc' := 12) (loc' := [some (.ref 0), some (.int a1), some (.int a2), some (.int a3), some (.int a4)]) (st' := [.int a2, .ref 7]) (h' := p1_h) (cl' := 0) (sl' := 0) rfl ?_
      refine ik_Wc 3 2 0 [.ref 7, .int a2] [] rfl rfl rfl (by decide) rfl rfl rfl ?_
      refine ik_Wif 2 (c := a2 < 0) 16 4 (loc' := [some (.ref 7), some (.int a2)]) (st' := []) (h' := p1_h) (cl' := 0) (sl' := 0) rfl (fun hc6 => ?_) (fun hc6 => ?_)
      · refine ik_Wk 1 (pc' := 17) (loc' := [some (.ref 7), some (.int a2)]) (st' := [.int 0]) (h' := p1_h) (cl' := 0) (sl' := 0) rfl ?_
        refine ik_Wret rfl rfl ⟨_, _, rfl, rfl, ?_⟩
        refine ik_Wk 2 (pc' := 32) (loc' := [some (.ref 0), some (.int a1), some (.int a2), some (.int a3), some (.int a4)]) (st' := [.int (-1000000001)]) (h' := p1_h) (cl' := 0) (sl' := 0) rfl ?_
        refine ik_Wret rfl rfl ⟨_, _, rfl, rfl, ?_⟩
        refine ik_Wk 21 (pc' := 458) (loc' := [some (.retAddr 0), some (.ref 0), some (.ref 66), some (.int 0)]) (st' := [.int a4, .int a3, .int a2, .int a1, .ref 66, .int (-1000000001)]) (h' := p1_h) (cl' := 94) (sl' := 4156) rfl ?_
        refine ik_Wc 90 5 0 [.ref 66, .int a1, .int a2, .int a3, .int a4] [.int (-1000000001)] rfl rfl rfl (by decide) rfl rfl rfl ?_
        refine ik_Wk 1 (pc' := 1) (loc' := [some (.ref 66), some (.int a1), some (.int a2), some (.int a3), some (.int a4)]) (st' := [.int a1]) (h' := p1_h) (cl' := 0) (sl' := 0) rfl ?_
        refine ik_Wc 76 1 3 [.int a1] [] rfl rfl rfl (by decide) rfl rfl rfl ?_
        refine ik_Wk 4 (pc' := 6) (loc' := [some (.int a1)]) (st' := [.long 2, .long 0, .long a1.toInt64]) (h' := p1_h) (cl' := 0) (sl' := 0) rfl ?_
        refine ik_Wc 70 3 3 [.long a1.toInt64, .long 0, .long 2] [] rfl rfl rfl (by decide) rfl rfl rfl ?_
        refine ik_Wif 4 (c := (lg_cmp a1.toInt64 (0 : Int64)) < 0) 17 6 (loc' := [some (.long a1.toInt64), none, some (.long 0), none, some (.long 2), none]) (st' := []) (h' := p1_h) (cl' := 0) (sl' := 0) rfl (fun hc7 => ?_) (fun hc7 => ?_)
        · exfalso
          (try simp only [lg_lt0, lg_gt0] at hc1 hc3 hc7) <;> simp only [cv_eq, cv_lt, cv_le, cv_64, (show (0 : Int32).toInt = 0 from by decide), (show (0 : Int64).toInt = 0 from by decide), (show (2 : Int32).toInt = 2 from by decide), (show (2 : Int64).toInt = 2 from by decide)] at hc1 hc3 hc7 <;> omega
        · refine ik_Wif 4 (c := 0 < (lg_cmp a1.toInt64 (2 : Int64))) 17 13 (loc' := [some (.long a1.toInt64), none, some (.long 0), none, some (.long 2), none]) (st' := []) (h' := p1_h) (cl' := 0) (sl' := 0) rfl (fun hc8 => ?_) (fun hc8 => ?_)
          · exfalso
            (try simp only [lg_lt0, lg_gt0] at hc1 hc3 hc7 hc8) <;> simp only [cv_eq, cv_lt, cv_le, cv_64, (show (0 : Int32).toInt = 0 from by decide), (show (0 : Int64).toInt = 0 from by decide), (show (2 : Int32).toInt = 2 from by decide), (show (2 : Int64).toInt = 2 from by decide)] at hc1 hc3 hc7 hc8 <;> omega
          · refine ik_Wk 2 (pc' := 18) (loc' := [some (.long a1.toInt64), none, some (.long 0), none, some (.long 2), none]) (st' := [.int 1]) (h' := p1_h) (cl' := 0) (sl' := 0) rfl ?_
            refine ik_Wret rfl rfl ⟨_, _, rfl, rfl, ?_⟩
            refine ik_Wret rfl rfl ⟨_, _, rfl, rfl, ?_⟩
            refine ik_Wk 3 (pc' := 9) (loc' := [some (.ref 66), some (.int a1), some (.int a2), some (.int a3), some (.int a4)]) (st' := [.int a2, .ref 66]) (h' := p1_h) (cl' := 0) (sl' := 0) rfl ?_
            refine ik_Wc 72 2 0 [.ref 66, .int a2] [] rfl rfl rfl (by decide) rfl rfl rfl ?_
            refine ik_Wk 8 (pc' := 10) (loc' := [some (.ref 66), some (.int a2)]) (st' := [.long (-1), .long 0, .long a2.toInt64]) (h' := p1_h) (cl' := 0) (sl' := 0) rfl ?_
            refine ik_Wc 70 3 3 [.long a2.toInt64, .long 0, .long (-1)] [] rfl rfl rfl (by decide) rfl rfl rfl ?_
            refine ik_Wif 4 (c := (lg_cmp a2.toInt64 (0 : Int64)) < 0) 17 6 (loc' := [some (.long a2.toInt64), none, some (.long 0), none, some (.long (-1)), none]) (st' := []) (h' := p1_h) (cl' := 0) (sl' := 0) rfl (fun hc9 => ?_) (fun hc9 => ?_)
            · refine ik_Wk 1 (pc' := 18) (loc' := [some (.long a2.toInt64), none, some (.long 0), none, some (.long (-1)), none]) (st' := [.int 0]) (h' := p1_h) (cl' := 0) (sl' := 0) rfl ?_
              refine ik_Wret rfl rfl ⟨_, _, rfl, rfl, ?_⟩
              refine ik_Wret rfl rfl ⟨_, _, rfl, rfl, ?_⟩
              refine ik_Wk 2 (pc' := 26) (loc' := [some (.ref 66), some (.int a1), some (.int a2), some (.int a3), some (.int a4)]) (st' := [.int (-1000000001)]) (h' := p1_h) (cl' := 0) (sl' := 0) rfl ?_
              refine ik_Wret rfl rfl ⟨_, _, rfl, rfl, ?_⟩
              refine ik_Wk 10 (pc' := 1138) (loc' := [some (.retAddr 0), some (.ref 0), some (.ref 66), some (.int 5)]) (st' := [.int 1]) (h' := p1_h) (cl' := 94) (sl' := 4156) rfl ?_
              exact ik_Wret rfl rfl ⟨rfl, rfl, Nat.le_of_ble_eq_true rfl, Nat.le_of_ble_eq_true rfl⟩
            · exfalso
              (try simp only [lg_lt0, lg_gt0] at hc6 hc9) <;> simp only [cv_eq, cv_lt, cv_le, cv_64, (show (0 : Int32).toInt = 0 from by decide), (show (0 : Int64).toInt = 0 from by decide), (show (2 : Int32).toInt = 2 from by decide), (show (2 : Int64).toInt = 2 from by decide)] at hc6 hc9 <;> omega
      · refine ik_Wif 4 (c := (0 : Int32) ≤ a2) 16 12 (loc' := [some (.ref 7), some (.int a2)]) (st' := []) (h' := p1_h) (cl' := 0) (sl' := 0) rfl (fun hc10 => ?_) (fun hc10 => ?_)
        · refine ik_Wk 1 (pc' := 17) (loc' := [some (.ref 7), some (.int a2)]) (st' := [.int 0]) (h' := p1_h) (cl' := 0) (sl' := 0) rfl ?_
          refine ik_Wret rfl rfl ⟨_, _, rfl, rfl, ?_⟩
          refine ik_Wk 2 (pc' := 32) (loc' := [some (.ref 0), some (.int a1), some (.int a2), some (.int a3), some (.int a4)]) (st' := [.int (-1000000001)]) (h' := p1_h) (cl' := 0) (sl' := 0) rfl ?_
          refine ik_Wret rfl rfl ⟨_, _, rfl, rfl, ?_⟩
          refine ik_Wk 21 (pc' := 458) (loc' := [some (.retAddr 0), some (.ref 0), some (.ref 66), some (.int 0)]) (st' := [.int a4, .int a3, .int a2, .int a1, .ref 66, .int (-1000000001)]) (h' := p1_h) (cl' := 94) (sl' := 4156) rfl ?_
          refine ik_Wc 90 5 0 [.ref 66, .int a1, .int a2, .int a3, .int a4] [.int (-1000000001)] rfl rfl rfl (by decide) rfl rfl rfl ?_
          refine ik_Wk 1 (pc' := 1) (loc' := [some (.ref 66), some (.int a1), some (.int a2), some (.int a3), some (.int a4)]) (st' := [.int a1]) (h' := p1_h) (cl' := 0) (sl' := 0) rfl ?_
          refine ik_Wc 76 1 3 [.int a1] [] rfl rfl rfl (by decide) rfl rfl rfl ?_
          refine ik_Wk 4 (pc' := 6) (loc' := [some (.int a1)]) (st' := [.long 2, .long 0, .long a1.toInt64]) (h' := p1_h) (cl' := 0) (sl' := 0) rfl ?_
          refine ik_Wc 70 3 3 [.long a1.toInt64, .long 0, .long 2] [] rfl rfl rfl (by decide) rfl rfl rfl ?_
          refine ik_Wif 4 (c := (lg_cmp a1.toInt64 (0 : Int64)) < 0) 17 6 (loc' := [some (.long a1.toInt64), none, some (.long 0), none, some (.long 2), none]) (st' := []) (h' := p1_h) (cl' := 0) (sl' := 0) rfl (fun hc11 => ?_) (fun hc11 => ?_)
          · exfalso
            (try simp only [lg_lt0, lg_gt0] at hc1 hc3 hc11) <;> simp only [cv_eq, cv_lt, cv_le, cv_64, (show (0 : Int32).toInt = 0 from by decide), (show (0 : Int64).toInt = 0 from by decide), (show (2 : Int32).toInt = 2 from by decide), (show (2 : Int64).toInt = 2 from by decide)] at hc1 hc3 hc11 <;> omega
          · refine ik_Wif 4 (c := 0 < (lg_cmp a1.toInt64 (2 : Int64))) 17 13 (loc' := [some (.long a1.toInt64), none, some (.long 0), none, some (.long 2), none]) (st' := []) (h' := p1_h) (cl' := 0) (sl' := 0) rfl (fun hc12 => ?_) (fun hc12 => ?_)
            · exfalso
              (try simp only [lg_lt0, lg_gt0] at hc1 hc3 hc11 hc12) <;> simp only [cv_eq, cv_lt, cv_le, cv_64, (show (0 : Int32).toInt = 0 from by decide), (show (0 : Int64).toInt = 0 from by decide), (show (2 : Int32).toInt = 2 from by decide), (show (2 : Int64).toInt = 2 from by decide)] at hc1 hc3 hc11 hc12 <;> omega
            · refine ik_Wk 2 (pc' := 18) (loc' := [some (.long a1.toInt64), none, some (.long 0), none, some (.long 2), none]) (st' := [.int 1]) (h' := p1_h) (cl' := 0) (sl' := 0) rfl ?_
              refine ik_Wret rfl rfl ⟨_, _, rfl, rfl, ?_⟩
              refine ik_Wret rfl rfl ⟨_, _, rfl, rfl, ?_⟩
              refine ik_Wk 3 (pc' := 9) (loc' := [some (.ref 66), some (.int a1), some (.int a2), some (.int a3), some (.int a4)]) (st' := [.int a2, .ref 66]) (h' := p1_h) (cl' := 0) (sl' := 0) rfl ?_
              refine ik_Wc 72 2 0 [.ref 66, .int a2] [] rfl rfl rfl (by decide) rfl rfl rfl ?_
              refine ik_Wk 8 (pc' := 10) (loc' := [some (.ref 66), some (.int a2)]) (st' := [.long (-1), .long 0, .long a2.toInt64]) (h' := p1_h) (cl' := 0) (sl' := 0) rfl ?_
              refine ik_Wc 70 3 3 [.long a2.toInt64, .long 0, .long (-1)] [] rfl rfl rfl (by decide) rfl rfl rfl ?_
              refine ik_Wif 4 (c := (lg_cmp a2.toInt64 (0 : Int64)) < 0) 17 6 (loc' := [some (.long a2.toInt64), none, some (.long 0), none, some (.long (-1)), none]) (st' := []) (h' := p1_h) (cl' := 0) (sl' := 0) rfl (fun hc13 => ?_) (fun hc13 => ?_)
              · exfalso
                (try simp only [lg_lt0, lg_gt0] at hc6 hc10 hc13) <;> simp only [cv_eq, cv_lt, cv_le, cv_64, (show (0 : Int32).toInt = 0 from by decide), (show (0 : Int64).toInt = 0 from by decide), (show (2 : Int32).toInt = 2 from by decide), (show (2 : Int64).toInt = 2 from by decide)] at hc6 hc10 hc13 <;> omega
              · refine ik_Wif 4 (c := 0 < (lg_cmp a2.toInt64 (-1 : Int64))) 17 13 (loc' := [some (.long a2.toInt64), none, some (.long 0), none, some (.long (-1)), none]) (st' := []) (h' := p1_h) (cl' := 0) (sl' := 0) rfl (fun hc14 => ?_) (fun hc14 => ?_)
                · refine ik_Wk 1 (pc' := 18) (loc' := [some (.long a2.toInt64), none, some (.long 0), none, some (.long (-1)), none]) (st' := [.int 0]) (h' := p1_h) (cl' := 0) (sl' := 0) rfl ?_
                  refine ik_Wret rfl rfl ⟨_, _, rfl, rfl, ?_⟩
                  refine ik_Wret rfl rfl ⟨_, _, rfl, rfl, ?_⟩
                  refine ik_Wk 2 (pc' := 26) (loc' := [some (.ref 66), some (.int a1), some (.int a2), some (.int a3), some (.int a4)]) (st' := [.int (-1000000001)]) (h' := p1_h) (cl' := 0) (sl' := 0) rfl ?_
                  refine ik_Wret rfl rfl ⟨_, _, rfl, rfl, ?_⟩
                  refine ik_Wk 10 (pc' := 1138) (loc' := [some (.retAddr 0), some (.ref 0), some (.ref 66), some (.int 5)]) (st' := [.int 1]) (h' := p1_h) (cl' := 94) (sl' := 4156) rfl ?_
                  exact ik_Wret rfl rfl ⟨rfl, rfl, Nat.le_of_ble_eq_true rfl, Nat.le_of_ble_eq_true rfl⟩
                · exfalso
                  (try simp only [lg_lt0, lg_gt0] at hc6 hc10 hc13 hc14) <;> simp only [cv_eq, cv_lt, cv_le, cv_64, (show (-1 : Int32).toInt = -1 from by decide), (show (-1 : Int64).toInt = -1 from by decide), (show (0 : Int32).toInt = 0 from by decide), (show (0 : Int64).toInt = 0 from by decide), (show (2 : Int32).toInt = 2 from by decide), (show (2 : Int64).toInt = 2 from by decide)] at hc6 hc10 hc13 hc14 <;> omega
        · exfalso
          (try simp only [lg_lt0, lg_gt0] at hc6 hc10) <;> simp only [cv_eq, cv_lt, cv_le, cv_64, (show (0 : Int32).toInt = 0 from by decide), (show (0 : Int64).toInt = 0 from by decide), (show (2 : Int32).toInt = 2 from by decide), (show (2 : Int64).toInt = 2 from by decide)] at hc6 hc10 <;> omega

set_option maxHeartbeats 16000000 in
set_option maxRecDepth 100000 in
/-- kept on the new objects -/
theorem p1_k8 (a0 a1 a2 a3 a4 : Int32) : ik_W (some (5, p1_f a0 a1 a2 a3 a4)) 0 466 [some (.retAddr 0), some (.ref 0), some (.ref 66), some (.int 0)] [] p1_h 94 4156 p1_post := by
  refine ik_Wk 16 (pc' := 482) (loc' := [some (.retAddr 0), some (.ref 0), some (.ref 66), some (.int 0)]) (st' := [.int a3, .int a2, .int a1, .ref 0]) (h' := p1_h) (cl' := 94) (sl' := 4156) rfl ?_
  refine ik_Wc 42 4 0 [.ref 0, .int a1, .int a2, .int a3] [] rfl rfl rfl (by decide) rfl rfl rfl ?_
  refine ik_Wk 1 (pc' := 1) (loc' := [some (.ref 0), some (.int a1), some (.int a2), some (.int a3)]) (st' := [.int a1]) (h' := p1_h) (cl' := 0) (sl' := 0) rfl ?_
  refine ik_Wc 66 1 3 [.int a1] [] rfl rfl rfl (by decide) rfl rfl rfl ?_
  refine ik_Wif 2 (c := a1 < 0) 13 4 (loc' := [some (.int a1)]) (st' := []) (h' := p1_h) (cl' := 0) (sl' := 0) rfl (fun hc1 => ?_) (fun hc1 => ?_)
  · refine ik_Wk 1 (pc' := 14) (loc' := [some (.int a1)]) (st' := [.int 0]) (h' := p1_h) (cl' := 0) (sl' := 0) rfl ?_
    refine ik_Wret rfl rfl ⟨_, _, rfl, rfl, ?_⟩
    refine ik_Wk 2 (pc' := 20) (loc' := [some (.ref 0), some (.int a1), some (.int a2), some (.int a3)]) (st' := [.int (-1000000001)]) (h' := p1_h) (cl' := 0) (sl' := 0) rfl ?_
    refine ik_Wret rfl rfl ⟨_, _, rfl, rfl, ?_⟩
    refine ik_Wk 16 (pc' := 501) (loc' := [some (.retAddr 0), some (.ref 0), some (.ref 66), some (.int 0)]) (st' := [.int a3, .int a2, .int a1, .ref 66, .int (-1000000001)]) (h' := p1_h) (cl' := 94) (sl' := 4156) rfl ?_
    refine ik_Wc 91 4 0 [.ref 66, .int a1, .int a2, .int a3] [.int (-1000000001)] rfl rfl rfl (by decide) rfl rfl rfl ?_
    refine ik_Wk 1 (pc' := 1) (loc' := [some (.ref 66), some (.int a1), some (.int a2), some (.int a3), none, none, none, none]) (st' := [.int a1]) (h' := p1_h) (cl' := 0) (sl' := 0) rfl ?_
    refine ik_Wc 76 1 3 [.int a1] [] rfl rfl rfl (by decide) rfl rfl rfl ?_
    refine ik_Wk 4 (pc' := 6) (loc' := [some (.int a1)]) (st' := [.long 2, .long 0, .long a1.toInt64]) (h' := p1_h) (cl' := 0) (sl' := 0) rfl ?_
    refine ik_Wc 70 3 3 [.long a1.toInt64, .long 0, .long 2] [] rfl rfl rfl (by decide) rfl rfl rfl ?_
    refine ik_Wif 4 (c := (lg_cmp a1.toInt64 (0 : Int64)) < 0) 17 6 (loc' := [some (.long a1.toInt64), none, some (.long 0), none, some (.long 2), none]) (st' := []) (h' := p1_h) (cl' := 0) (sl' := 0) rfl (fun hc2 => ?_) (fun hc2 => ?_)
    · refine ik_Wk 1 (pc' := 18) (loc' := [some (.long a1.toInt64), none, some (.long 0), none, some (.long 2), none]) (st' := [.int 0]) (h' := p1_h) (cl' := 0) (sl' := 0) rfl ?_
      refine ik_Wret rfl rfl ⟨_, _, rfl, rfl, ?_⟩
      refine ik_Wret rfl rfl ⟨_, _, rfl, rfl, ?_⟩
      refine ik_Wk 2 (pc' := 17) (loc' := [some (.ref 66), some (.int a1), some (.int a2), some (.int a3), none, none, none, none]) (st' := [.int (-1000000001)]) (h' := p1_h) (cl' := 0) (sl' := 0) rfl ?_
      refine ik_Wret rfl rfl ⟨_, _, rfl, rfl, ?_⟩
      refine ik_Wk 10 (pc' := 1138) (loc' := [some (.retAddr 0), some (.ref 0), some (.ref 66), some (.int 5)]) (st' := [.int 1]) (h' := p1_h) (cl' := 94) (sl' := 4156) rfl ?_
      exact ik_Wret rfl rfl ⟨rfl, rfl, Nat.le_of_ble_eq_true rfl, Nat.le_of_ble_eq_true rfl⟩
    · exfalso
      (try simp only [lg_lt0, lg_gt0] at hc1 hc2) <;> simp only [cv_eq, cv_lt, cv_le, cv_64, (show (0 : Int32).toInt = 0 from by decide), (show (0 : Int64).toInt = 0 from by decide)] at hc1 hc2 <;> omega
  · refine ik_Wif 3 (c := (2 : Int32) < a1) 13 9 (loc' := [some (.int a1)]) (st' := []) (h' := p1_h) (cl' := 0) (sl' := 0) rfl (fun hc3 => ?_) (fun hc3 => ?_)
    · refine ik_Wk 1 (pc' := 14) (loc' := [some (.int a1)]) (st' := [.int 0]) (h' := p1_h) (cl' := 0) (sl' := 0) rfl ?_
      refine ik_Wret rfl rfl ⟨_, _, rfl, rfl, ?_⟩
      refine ik_Wk 2 (pc' := 20) (loc' := [some (.ref 0), some (.int a1), some (.int a2), some (.int a3)]) (st' := [.int (-1000000001)]) (h' := p1_h) (cl' := 0) (sl' := 0) rfl ?_
      refine ik_Wret rfl rfl ⟨_, _, rfl, rfl, ?_⟩
      refine ik_Wk 16 (pc' := 501) (loc' := [some (.retAddr 0), some (.ref 0), some (.ref 66), some (.int 0)]) (st' := [.int a3, .int a2, .int a1, .ref 66, .int (-1000000001)]) (h' := p1_h) (cl' := 94) (sl' := 4156) rfl ?_
      refine ik_Wc 91 4 0 [.ref 66, .int a1, .int a2, .int a3] [.int (-1000000001)] rfl rfl rfl (by decide) rfl rfl rfl ?_
      refine ik_Wk 1 (pc' := 1) (loc' := [some (.ref 66), some (.int a1), some (.int a2), some (.int a3), none, none, none, none]) (st' := [.int a1]) (h' := p1_h) (cl' := 0) (sl' := 0) rfl ?_
      refine ik_Wc 76 1 3 [.int a1] [] rfl rfl rfl (by decide) rfl rfl rfl ?_
      refine ik_Wk 4 (pc' := 6) (loc' := [some (.int a1)]) (st' := [.long 2, .long 0, .long a1.toInt64]) (h' := p1_h) (cl' := 0) (sl' := 0) rfl ?_
      refine ik_Wc 70 3 3 [.long a1.toInt64, .long 0, .long 2] [] rfl rfl rfl (by decide) rfl rfl rfl ?_
      refine ik_Wif 4 (c := (lg_cmp a1.toInt64 (0 : Int64)) < 0) 17 6 (loc' := [some (.long a1.toInt64), none, some (.long 0), none, some (.long 2), none]) (st' := []) (h' := p1_h) (cl' := 0) (sl' := 0) rfl (fun hc4 => ?_) (fun hc4 => ?_)
      · exfalso
        (try simp only [lg_lt0, lg_gt0] at hc1 hc3 hc4) <;> simp only [cv_eq, cv_lt, cv_le, cv_64, (show (0 : Int32).toInt = 0 from by decide), (show (0 : Int64).toInt = 0 from by decide), (show (2 : Int32).toInt = 2 from by decide), (show (2 : Int64).toInt = 2 from by decide)] at hc1 hc3 hc4 <;> omega
      · refine ik_Wif 4 (c := 0 < (lg_cmp a1.toInt64 (2 : Int64))) 17 13 (loc' := [some (.long a1.toInt64), none, some (.long 0), none, some (.long 2), none]) (st' := []) (h' := p1_h) (cl' := 0) (sl' := 0) rfl (fun hc5 => ?_) (fun hc5 => ?_)
        · refine ik_Wk 1 (pc' := 18) (loc' := [some (.long a1.toInt64), none, some (.long 0), none, some (.long 2), none]) (st' := [.int 0]) (h' := p1_h) (cl' := 0) (sl' := 0) rfl ?_
          refine ik_Wret rfl rfl ⟨_, _, rfl, rfl, ?_⟩
          refine ik_Wret rfl rfl ⟨_, _, rfl, rfl, ?_⟩
          refine ik_Wk 2 (pc' := 17) (loc' := [some (.ref 66), some (.int a1), some (.int a2), some (.int a3), none, none, none, none]) (st' := [.int (-1000000001)]) (h' := p1_h) (cl' := 0) (sl' := 0) rfl ?_
          refine ik_Wret rfl rfl ⟨_, _, rfl, rfl, ?_⟩
          refine ik_Wk 10 (pc' := 1138) (loc' := [some (.retAddr 0), some (.ref 0), some (.ref 66), some (.int 5)]) (st' := [.int 1]) (h' := p1_h) (cl' := 94) (sl' := 4156) rfl ?_
          exact ik_Wret rfl rfl ⟨rfl, rfl, Nat.le_of_ble_eq_true rfl, Nat.le_of_ble_eq_true rfl⟩
        · exfalso
          (try simp only [lg_lt0, lg_gt0] at hc1 hc3 hc4 hc5) <;> simp only [cv_eq, cv_lt, cv_le, cv_64, (show (0 : Int32).toInt = 0 from by decide), (show (0 : Int64).toInt = 0 from by decide), (show (2 : Int32).toInt = 2 from by decide), (show (2 : Int64).toInt = 2 from by decide)] at hc1 hc3 hc4 hc5 <;> omega
    · refine ik_Wk 2 (pc' := 14) (loc' := [some (.int a1)]) (st' := [.int 1]) (h' := p1_h) (cl' := 0) (sl' := 0) rfl ?_
      refine ik_Wret rfl rfl ⟨_, _, rfl, rfl, ?_⟩
      refine ik_Wk 4 (pc' := 12) (loc' := [some (.ref 0), some (.int a1), some (.int a2), some (.int a3)]) (st' := [.int a2, .ref 7]) (h' := p1_h) (cl' := 0) (sl' := 0) rfl ?_
      refine ik_Wc 3 2 0 [.ref 7, .int a2] [] rfl rfl rfl (by decide) rfl rfl rfl ?_
      refine ik_Wif 2 (c := a2 < 0) 16 4 (loc' := [some (.ref 7), some (.int a2)]) (st' := []) (h' := p1_h) (cl' := 0) (sl' := 0) rfl (fun hc6 => ?_) (fun hc6 => ?_)
      · refine ik_Wk 1 (pc' := 17) (loc' := [some (.ref 7), some (.int a2)]) (st' := [.int 0]) (h' := p1_h) (cl' := 0) (sl' := 0) rfl ?_
        refine ik_Wret rfl rfl ⟨_, _, rfl, rfl, ?_⟩
        refine ik_Wk 2 (pc' := 20) (loc' := [some (.ref 0), some (.int a1), some (.int a2), some (.int a3)]) (st' := [.int (-1000000001)]) (h' := p1_h) (cl' := 0) (sl' := 0) rfl ?_
        refine ik_Wret rfl rfl ⟨_, _, rfl, rfl, ?_⟩
        refine ik_Wk 16 (pc' := 501) (loc' := [some (.retAddr 0), some (.ref 0), some (.ref 66), some (.int 0)]) (st' := [.int a3, .int a2, .int a1, .ref 66, .int (-1000000001)]) (h' := p1_h) (cl' := 94) (sl' := 4156) rfl ?_
        refine ik_Wc 91 4 0 [.ref 66, .int a1, .int a2, .int a3] [.int (-1000000001)] rfl rfl rfl (by decide) rfl rfl rfl ?_
        refine ik_Wk 1 (pc' := 1) (loc' := [some (.ref 66), some (.int a1), some (.int a2), some (.int a3), none, none, none, none]) (st' := [.int a1]) (h' := p1_h) (cl' := 0) (sl' := 0) rfl ?_
        refine ik_Wc 76 1 3 [.int a1] [] rfl rfl rfl (by decide) rfl rfl rfl ?_
        refine ik_Wk 4 (pc' := 6) (loc' := [some (.int a1)]) (st' := [.long 2, .long 0, .long a1.toInt64]) (h' := p1_h) (cl' := 0) (sl' := 0) rfl ?_
        refine ik_Wc 70 3 3 [.long a1.toInt64, .long 0, .long 2] [] rfl rfl rfl (by decide) rfl rfl rfl ?_
        refine ik_Wif 4 (c := (lg_cmp a1.toInt64 (0 : Int64)) < 0) 17 6 (loc' := [some (.long a1.toInt64), none, some (.long 0), none, some (.long 2), none]) (st' := []) (h' := p1_h) (cl' := 0) (sl' := 0) rfl (fun hc7 => ?_) (fun hc7 => ?_)
        · exfalso
          (try simp only [lg_lt0, lg_gt0] at hc1 hc3 hc7) <;> simp only [cv_eq, cv_lt, cv_le, cv_64, (show (0 : Int32).toInt = 0 from by decide), (show (0 : Int64).toInt = 0 from by decide), (show (2 : Int32).toInt = 2 from by decide), (show (2 : Int64).toInt = 2 from by decide)] at hc1 hc3 hc7 <;> omega
        · refine ik_Wif 4 (c := 0 < (lg_cmp a1.toInt64 (2 : Int64))) 17 13 (loc' := [some (.long a1.toInt64), none, some (.long 0), none, some (.long 2), none]) (st' := []) (h' := p1_h) (cl' := 0) (sl' := 0) rfl (fun hc8 => ?_) (fun hc8 => ?_)
          · exfalso
            (try simp only [lg_lt0, lg_gt0] at hc1 hc3 hc7 hc8) <;> simp only [cv_eq, cv_lt, cv_le, cv_64, (show (0 : Int32).toInt = 0 from by decide), (show (0 : Int64).toInt = 0 from by decide), (show (2 : Int32).toInt = 2 from by decide), (show (2 : Int64).toInt = 2 from by decide)] at hc1 hc3 hc7 hc8 <;> omega
          · refine ik_Wk 2 (pc' := 18) (loc' := [some (.long a1.toInt64), none, some (.long 0), none, some (.long 2), none]) (st' := [.int 1]) (h' := p1_h) (cl' := 0) (sl' := 0) rfl ?_
            refine ik_Wret rfl rfl ⟨_, _, rfl, rfl, ?_⟩
            refine ik_Wret rfl rfl ⟨_, _, rfl, rfl, ?_⟩
            refine ik_Wk 3 (pc' := 9) (loc' := [some (.ref 66), some (.int a1), some (.int a2), some (.int a3), none, none, none, none]) (st' := [.int a2, .ref 66]) (h' := p1_h) (cl' := 0) (sl' := 0) rfl ?_
            refine ik_Wc 72 2 0 [.ref 66, .int a2] [] rfl rfl rfl (by decide) rfl rfl rfl ?_
            refine ik_Wk 8 (pc' := 10) (loc' := [some (.ref 66), some (.int a2)]) (st' := [.long (-1), .long 0, .long a2.toInt64]) (h' := p1_h) (cl' := 0) (sl' := 0) rfl ?_
            refine ik_Wc 70 3 3 [.long a2.toInt64, .long 0, .long (-1)] [] rfl rfl rfl (by decide) rfl rfl rfl ?_
            refine ik_Wif 4 (c := (lg_cmp a2.toInt64 (0 : Int64)) < 0) 17 6 (loc' := [some (.long a2.toInt64), none, some (.long 0), none, some (.long (-1)), none]) (st' := []) (h' := p1_h) (cl' := 0) (sl' := 0) rfl (fun hc9 => ?_) (fun hc9 => ?_)
            · refine ik_Wk 1 (pc' := 18) (loc' := [some (.long a2.toInt64), none, some (.long 0), none, some (.long (-1)), none]) (st' := [.int 0]) (h' := p1_h) (cl' := 0) (sl' := 0) rfl ?_
              refine ik_Wret rfl rfl ⟨_, _, rfl, rfl, ?_⟩
              refine ik_Wret rfl rfl ⟨_, _, rfl, rfl, ?_⟩
              refine ik_Wk 2 (pc' := 17) (loc' := [some (.ref 66), some (.int a1), some (.int a2), some (.int a3), none, none, none, none]) (st' := [.int (-1000000001)]) (h' := p1_h) (cl' := 0) (sl' := 0) rfl ?_
              refine ik_Wret rfl rfl ⟨_, _, rfl, rfl, ?_⟩
              refine ik_Wk 10 (pc' := 1138) (loc' := [some (.retAddr 0), some (.ref 0), some (.ref 66), some (.int 5)]) (st' := [.int 1]) (h' := p1_h) (cl' := 94) (sl' := 4156) rfl ?_
              exact ik_Wret rfl rfl ⟨rfl, rfl, Nat.le_of_ble_eq_true rfl, Nat.le_of_ble_eq_true rfl⟩
            · exfalso
              (try simp only [lg_lt0, lg_gt0] at hc6 hc9) <;> simp only [cv_eq, cv_lt, cv_le, cv_64, (show (0 : Int32).toInt = 0 from by decide), (show (0 : Int64).toInt = 0 from by decide), (show (2 : Int32).toInt = 2 from by decide), (show (2 : Int64).toInt = 2 from by decide)] at hc6 hc9 <;> omega
      · refine ik_Wif 4 (c := (0 : Int32) ≤ a2) 16 12 (loc' := [some (.ref 7), some (.int a2)]) (st' := []) (h' := p1_h) (cl' := 0) (sl' := 0) rfl (fun hc10 => ?_) (fun hc10 => ?_)
        · refine ik_Wk 1 (pc' := 17) (loc' := [some (.ref 7), some (.int a2)]) (st' := [.int 0]) (h' := p1_h) (cl' := 0) (sl' := 0) rfl ?_
          refine ik_Wret rfl rfl ⟨_, _, rfl, rfl, ?_⟩
          refine ik_Wk 2 (pc' := 20) (loc' := [some (.ref 0), some (.int a1), some (.int a2), some (.int a3)]) (st' := [.int (-1000000001)]) (h' := p1_h) (cl' := 0) (sl' := 0) rfl ?_
          refine ik_Wret rfl rfl ⟨_, _, rfl, rfl, ?_⟩
          refine ik_Wk 16 (pc' := 501) (loc' := [some (.retAddr 0), some (.ref 0), some (.ref 66), some (.int 0)]) (st' := [.int a3, .int a2, .int a1, .ref 66, .int (-1000000001)]) (h' := p1_h) (cl' := 94) (sl' := 4156) rfl ?_
          refine ik_Wc 91 4 0 [.ref 66, .int a1, .int a2, .int a3] [.int (-1000000001)] rfl rfl rfl (by decide) rfl rfl rfl ?_
          refine ik_Wk 1 (pc' := 1) (loc' := [some (.ref 66), some (.int a1), some (.int a2), some (.int a3), none, none, none, none]) (st' := [.int a1]) (h' := p1_h) (cl' := 0) (sl' := 0) rfl ?_
          refine ik_Wc 76 1 3 [.int a1] [] rfl rfl rfl (by decide) rfl rfl rfl ?_
          refine ik_Wk 4 (pc' := 6) (loc' := [some (.int a1)]) (st' := [.long 2, .long 0, .long a1.toInt64]) (h' := p1_h) (cl' := 0) (sl' := 0) rfl ?_
          refine ik_Wc 70 3 3 [.long a1.toInt64, .long 0, .long 2] [] rfl rfl rfl (by decide) rfl rfl rfl ?_
          refine ik_Wif 4 (c := (lg_cmp a1.toInt64 (0 : Int64)) < 0) 17 6 (loc' := [some (.long a1.toInt64), none, some (.long 0), none, some (.long 2), none]) (st' := []) (h' := p1_h) (cl' := 0) (sl' := 0) rfl (fun hc11 => ?_) (fun hc11 => ?_)
          · exfalso
            (try simp only [lg_lt0, lg_gt0] at hc1 hc3 hc11) <;> simp only [cv_eq, cv_lt, cv_le, cv_64, (show (0 : Int32).toInt = 0 from by decide), (show (0 : Int64).toInt = 0 from by decide), (show (2 : Int32).toInt = 2 from by decide), (show (2 : Int64).toInt = 2 from by decide)] at hc1 hc3 hc11 <;> omega
          · refine ik_Wif 4 (c := 0 < (lg_cmp a1.toInt64 (2 : Int64))) 17 13 (loc' := [some (.long a1.toInt64), none, some (.long 0), none, some (.long 2), none]) (st' := []) (h' := p1_h) (cl' := 0) (sl' := 0) rfl (fun hc12 => ?_) (fun hc12 => ?_)
            · exfalso
              (try simp only [lg_lt0, lg_gt0] at hc1 hc3 hc11 hc12) <;> simp only [cv_eq, cv_lt, cv_le, cv_64, (show (0 : Int32).toInt = 0 from by decide), (show (0 : Int64).toInt = 0 from by decide), (show (2 : Int32).toInt = 2 from by decide), (show (2 : Int64).toInt = 2 from by decide)] at hc1 hc3 hc11 hc12 <;> omega
            · refine ik_Wk 2 (pc' := 18) (loc' := [some (.long a1.toInt64), none, some (.long 0), none, some (.long 2), none]) (st' := [.int 1]) (h' := p1_h) (cl' := 0) (sl' := 0) rfl ?_
              refine ik_Wret rfl rfl ⟨_, _, rfl, rfl, ?_⟩
              refine ik_Wret rfl rfl ⟨_, _, rfl, rfl, ?_⟩
              refine ik_Wk 3 (pc' := 9) (loc' := [some (.ref 66), some (.int a1), some (.int a2), some (.int a3), none, none, none, none]) (st' := [.int a2, .ref 66]) (h' := p1_h) (cl' := 0) (sl' := 0) rfl ?_
              refine ik_Wc 72 2 0 [.ref 66, .int a2] [] rfl rfl rfl (by decide) rfl rfl rfl ?_
              refine ik_Wk 8 (pc' := 10) (loc' := [some (.ref 66), some (.int a2)]) (st' := [.long (-1), .long 0, .long a2.toInt64]) (h' := p1_h) (cl' := 0) (sl' := 0) rfl ?_
              refine ik_Wc 70 3 3 [.long a2.toInt64, .long 0, .long (-1)] [] rfl rfl rfl (by decide) rfl rfl rfl ?_
              refine ik_Wif 4 (c := (lg_cmp a2.toInt64 (0 : Int64)) < 0) 17 6 (loc' := [some (.long a2.toInt64), none, some (.long 0), none, some (.long (-1)), none]) (st' := []) (h' := p1_h) (cl' := 0) (sl' := 0) rfl (fun hc13 => ?_) (fun hc13 => ?_)
              · exfalso
                (try simp only [lg_lt0, lg_gt0] at hc6 hc10 hc13) <;> simp only [cv_eq, cv_lt, cv_le, cv_64, (show (0 : Int32).toInt = 0 from by decide), (show (0 : Int64).toInt = 0 from by decide), (show (2 : Int32).toInt = 2 from by decide), (show (2 : Int64).toInt = 2 from by decide)] at hc6 hc10 hc13 <;> omega
              · refine ik_Wif 4 (c := 0 < (lg_cmp a2.toInt64 (-1 : Int64))) 17 13 (loc' := [some (.long a2.toInt64), none, some (.long 0), none, some (.long (-1)), none]) (st' := []) (h' := p1_h) (cl' := 0) (sl' := 0) rfl (fun hc14 => ?_) (fun hc14 => ?_)
                · refine ik_Wk 1 (pc' := 18) (loc' := [some (.long a2.toInt64), none, some (.long 0), none, some (.long (-1)), none]) (st' := [.int 0]) (h' := p1_h) (cl' := 0) (sl' := 0) rfl ?_
                  refine ik_Wret rfl rfl ⟨_, _, rfl, rfl, ?_⟩
                  refine ik_Wret rfl rfl ⟨_, _, rfl, rfl, ?_⟩
                  refine ik_Wk 2 (pc' := 17) (loc' := [some (.ref 66), some (.int a1), some (.int a2), some (.int a3), none, none, none, none]) (st' := [.int (-1000000001)]) (h' := p1_h) (cl' := 0) (sl' := 0) rfl ?_
                  refine ik_Wret rfl rfl ⟨_, _, rfl, rfl, ?_⟩
                  refine ik_Wk 10 (pc' := 1138) (loc' := [some (.retAddr 0), some (.ref 0), some (.ref 66), some (.int 5)]) (st' := [.int 1]) (h' := p1_h) (cl' := 94) (sl' := 4156) rfl ?_
                  exact ik_Wret rfl rfl ⟨rfl, rfl, Nat.le_of_ble_eq_true rfl, Nat.le_of_ble_eq_true rfl⟩
                · exfalso
                  (try simp only [lg_lt0, lg_gt0] at hc6 hc10 hc13 hc14) <;> simp only [cv_eq, cv_lt, cv_le, cv_64, (show (-1 : Int32).toInt = -1 from by decide), (show (-1 : Int64).toInt = -1 from by decide), (show (0 : Int32).toInt = 0 from by decide), (show (0 : Int64).toInt = 0 from by decide), (show (2 : Int32).toInt = 2 from by decide), (show (2 : Int64).toInt = 2 from by decide)] at hc6 hc10 hc13 hc14 <;> omega
        · exfalso
          (try simp only [lg_lt0, lg_gt0] at hc6 hc10) <;> simp only [cv_eq, cv_lt, cv_le, cv_64, (show (0 : Int32).toInt = 0 from by decide), (show (0 : Int64).toInt = 0 from by decide), (show (2 : Int32).toInt = 2 from by decide), (show (2 : Int64).toInt = 2 from by decide)] at hc6 hc10 <;> omega

set_option maxHeartbeats 16000000 in
set_option maxRecDepth 100000 in
/-- known on the new objects -/
theorem p1_k9 (a0 a1 a2 a3 a4 : Int32) : ik_W (some (5, p1_f a0 a1 a2 a3 a4)) 0 509 [some (.retAddr 0), some (.ref 0), some (.ref 66), some (.int 0)] [] p1_h 94 4156 p1_post := by
  refine ik_Wk 16 (pc' := 525) (loc' := [some (.retAddr 0), some (.ref 0), some (.ref 66), some (.int 0)]) (st' := [.int a3, .int a2, .int a1, .ref 0]) (h' := p1_h) (cl' := 94) (sl' := 4156) rfl ?_
  refine ik_Wc 43 4 0 [.ref 0, .int a1, .int a2, .int a3] [] rfl rfl rfl (by decide) rfl rfl rfl ?_
  refine ik_Wk 1 (pc' := 1) (loc' := [some (.ref 0), some (.int a1), some (.int a2), some (.int a3)]) (st' := [.int a1]) (h' := p1_h) (cl' := 0) (sl' := 0) rfl ?_
  refine ik_Wc 66 1 3 [.int a1] [] rfl rfl rfl (by decide) rfl rfl rfl ?_
  refine ik_Wif 2 (c := a1 < 0) 13 4 (loc' := [some (.int a1)]) (st' := []) (h' := p1_h) (cl' := 0) (sl' := 0) rfl (fun hc1 => ?_) (fun hc1 => ?_)
  · refine ik_Wk 1 (pc' := 14) (loc' := [some (.int a1)]) (st' := [.int 0]) (h' := p1_h) (cl' := 0) (sl' := 0) rfl ?_
    refine ik_Wret rfl rfl ⟨_, _, rfl, rfl, ?_⟩
    refine ik_Wk 2 (pc' := 20) (loc' := [some (.ref 0), some (.int a1), some (.int a2), some (.int a3)]) (st' := [.int (-1000000001)]) (h' := p1_h) (cl' := 0) (sl' := 0) rfl ?_
    refine ik_Wret rfl rfl ⟨_, _, rfl, rfl, ?_⟩
    refine ik_Wk 16 (pc' := 544) (loc' := [some (.retAddr 0), some (.ref 0), some (.ref 66), some (.int 0)]) (st' := [.int a3, .int a2, .int a1, .ref 66, .int (-1000000001)]) (h' := p1_h) (cl' := 94) (sl' := 4156) rfl ?_
    refine ik_Wc 92 4 0 [.ref 66, .int a1, .int a2, .int a3] [.int (-1000000001)] rfl rfl rfl (by decide) rfl rfl rfl ?_
    refine ik_Wk 1 (pc' := 1) (loc' := [some (.ref 66), some (.int a1), some (.int a2), some (.int a3), none]) (st' := [.int a1]) (h' := p1_h) (cl' := 0) (sl' := 0) rfl ?_
    refine ik_Wc 76 1 3 [.int a1] [] rfl rfl rfl (by decide) rfl rfl rfl ?_
    refine ik_Wk 4 (pc' := 6) (loc' := [some (.int a1)]) (st' := [.long 2, .long 0, .long a1.toInt64]) (h' := p1_h) (cl' := 0) (sl' := 0) rfl ?_
    refine ik_Wc 70 3 3 [.long a1.toInt64, .long 0, .long 2] [] rfl rfl rfl (by decide) rfl rfl rfl ?_
    refine ik_Wif 4 (c := (lg_cmp a1.toInt64 (0 : Int64)) < 0) 17 6 (loc' := [some (.long a1.toInt64), none, some (.long 0), none, some (.long 2), none]) (st' := []) (h' := p1_h) (cl' := 0) (sl' := 0) rfl (fun hc2 => ?_) (fun hc2 => ?_)
    · refine ik_Wk 1 (pc' := 18) (loc' := [some (.long a1.toInt64), none, some (.long 0), none, some (.long 2), none]) (st' := [.int 0]) (h' := p1_h) (cl' := 0) (sl' := 0) rfl ?_
      refine ik_Wret rfl rfl ⟨_, _, rfl, rfl, ?_⟩
      refine ik_Wret rfl rfl ⟨_, _, rfl, rfl, ?_⟩
      refine ik_Wk 2 (pc' := 17) (loc' := [some (.ref 66), some (.int a1), some (.int a2), some (.int a3), none]) (st' := [.int (-1000000001)]) (h' := p1_h) (cl' := 0) (sl' := 0) rfl ?_
      refine ik_Wret rfl rfl ⟨_, _, rfl, rfl, ?_⟩
      refine ik_Wk 10 (pc' := 1138) (loc' := [some (.retAddr 0), some (.ref 0), some (.ref 66), some (.int 5)]) (st' := [.int 1]) (h' := p1_h) (cl' := 94) (sl' := 4156) rfl ?_
      exact ik_Wret rfl rfl ⟨rfl, rfl, Nat.le_of_ble_eq_true rfl, Nat.le_of_ble_eq_true rfl⟩
    · exfalso
      (try simp only [lg_lt0, lg_gt0] at hc1 hc2) <;> simp only [cv_eq, cv_lt, cv_le, cv_64, (show (0 : Int32).toInt = 0 from by decide), (show (0 : Int64).toInt = 0 from by decide)] at hc1 hc2 <;> omega
  · refine ik_Wif 3 (c := (2 : Int32) < a1) 13 9 (loc' := [some (.int a1)]) (st' := []) (h' := p1_h) (cl' := 0) (sl' := 0) rfl (fun hc3 => ?_) (fun hc3 => ?_)
    · refine ik_Wk 1 (pc' := 14) (loc' := [some (.int a1)]) (st' := [.int 0]) (h' := p1_h) (cl' := 0) (sl' := 0) rfl ?_
      refine ik_Wret rfl rfl ⟨_, _, rfl, rfl, ?_⟩
      refine ik_Wk 2 (pc' := 20) (loc' := [some (.ref 0), some (.int a1), some (.int a2), some (.int a3)]) (st' := [.int (-1000000001)]) (h' := p1_h) (cl' := 0) (sl' := 0) rfl ?_
      refine ik_Wret rfl rfl ⟨_, _, rfl, rfl, ?_⟩
      refine ik_Wk 16 (pc' := 544) (loc' := [some (.retAddr 0), some (.ref 0), some (.ref 66), some (.int 0)]) (st' := [.int a3, .int a2, .int a1, .ref 66, .int (-1000000001)]) (h' := p1_h) (cl' := 94) (sl' := 4156) rfl ?_
      refine ik_Wc 92 4 0 [.ref 66, .int a1, .int a2, .int a3] [.int (-1000000001)] rfl rfl rfl (by decide) rfl rfl rfl ?_
      refine ik_Wk 1 (pc' := 1) (loc' := [some (.ref 66), some (.int a1), some (.int a2), some (.int a3), none]) (st' := [.int a1]) (h' := p1_h) (cl' := 0) (sl' := 0) rfl ?_
      refine ik_Wc 76 1 3 [.int a1] [] rfl rfl rfl (by decide) rfl rfl rfl ?_
      refine ik_Wk 4 (pc' := 6) (loc' := [some (.int a1)]) (st' := [.long 2, .long 0, .long a1.toInt64]) (h' := p1_h) (cl' := 0) (sl' := 0) rfl ?_
      refine ik_Wc 70 3 3 [.long a1.toInt64, .long 0, .long 2] [] rfl rfl rfl (by decide) rfl rfl rfl ?_
      refine ik_Wif 4 (c := (lg_cmp a1.toInt64 (0 : Int64)) < 0) 17 6 (loc' := [some (.long a1.toInt64), none, some (.long 0), none, some (.long 2), none]) (st' := []) (h' := p1_h) (cl' := 0) (sl' := 0) rfl (fun hc4 => ?_) (fun hc4 => ?_)
      · exfalso
        (try simp only [lg_lt0, lg_gt0] at hc1 hc3 hc4) <;> simp only [cv_eq, cv_lt, cv_le, cv_64, (show (0 : Int32).toInt = 0 from by decide), (show (0 : Int64).toInt = 0 from by decide), (show (2 : Int32).toInt = 2 from by decide), (show (2 : Int64).toInt = 2 from by decide)] at hc1 hc3 hc4 <;> omega
      · refine ik_Wif 4 (c := 0 < (lg_cmp a1.toInt64 (2 : Int64))) 17 13 (loc' := [some (.long a1.toInt64), none, some (.long 0), none, some (.long 2), none]) (st' := []) (h' := p1_h) (cl' := 0) (sl' := 0) rfl (fun hc5 => ?_) (fun hc5 => ?_)
        · refine ik_Wk 1 (pc' := 18) (loc' := [some (.long a1.toInt64), none, some (.long 0), none, some (.long 2), none]) (st' := [.int 0]) (h' := p1_h) (cl' := 0) (sl' := 0) rfl ?_
          refine ik_Wret rfl rfl ⟨_, _, rfl, rfl, ?_⟩
          refine ik_Wret rfl rfl ⟨_, _, rfl, rfl, ?_⟩
          refine ik_Wk 2 (pc' := 17) (loc' := [some (.ref 66), some (.int a1), some (.int a2), some (.int a3), none]) (st' := [.int (-1000000001)]) (h' := p1_h) (cl' := 0) (sl' := 0) rfl ?_
          refine ik_Wret rfl rfl ⟨_, _, rfl, rfl, ?_⟩
          refine ik_Wk 10 (pc' := 1138) (loc' := [some (.retAddr 0), some (.ref 0), some (.ref 66), some (.int 5)]) (st' := [.int 1]) (h' := p1_h) (cl' := 94) (sl' := 4156) rfl ?_
          exact ik_Wret rfl rfl ⟨rfl, rfl, Nat.le_of_ble_eq_true rfl, Nat.le_of_ble_eq_true rfl⟩
        · exfalso
          (try simp only [lg_lt0, lg_gt0] at hc1 hc3 hc4 hc5) <;> simp only [cv_eq, cv_lt, cv_le, cv_64, (show (0 : Int32).toInt = 0 from by decide), (show (0 : Int64).toInt = 0 from by decide), (show (2 : Int32).toInt = 2 from by decide), (show (2 : Int64).toInt = 2 from by decide)] at hc1 hc3 hc4 hc5 <;> omega
    · refine ik_Wk 2 (pc' := 14) (loc' := [some (.int a1)]) (st' := [.int 1]) (h' := p1_h) (cl' := 0) (sl' := 0) rfl ?_
      refine ik_Wret rfl rfl ⟨_, _, rfl, rfl, ?_⟩
      refine ik_Wk 4 (pc' := 12) (loc' := [some (.ref 0), some (.int a1), some (.int a2), some (.int a3)]) (st' := [.int a2, .ref 7]) (h' := p1_h) (cl' := 0) (sl' := 0) rfl ?_
      refine ik_Wc 3 2 0 [.ref 7, .int a2] [] rfl rfl rfl (by decide) rfl rfl rfl ?_
      refine ik_Wif 2 (c := a2 < 0) 16 4 (loc' := [some (.ref 7), some (.int a2)]) (st' := []) (h' := p1_h) (cl' := 0) (sl' := 0) rfl (fun hc6 => ?_) (fun hc6 => ?_)
      · refine ik_Wk 1 (pc' := 17) (loc' := [some (.ref 7), some (.int a2)]) (st' := [.int 0]) (h' := p1_h) (cl' := 0) (sl' := 0) rfl ?_
        refine ik_Wret rfl rfl ⟨_, _, rfl, rfl, ?_⟩
        refine ik_Wk 2 (pc' := 20) (loc' := [some (.ref 0), some (.int a1), some (.int a2), some (.int a3)]) (st' := [.int (-1000000001)]) (h' := p1_h) (cl' := 0) (sl' := 0) rfl ?_
        refine ik_Wret rfl rfl ⟨_, _, rfl, rfl, ?_⟩
        refine ik_Wk 16 (pc' := 544) (loc' := [some (.retAddr 0), some (.ref 0), some (.ref 66), some (.int 0)]) (st' := [.int a3, .int a2, .int a1, .ref 66, .int (-1000000001)]) (h' := p1_h) (cl' := 94) (sl' := 4156) rfl ?_
        refine ik_Wc 92 4 0 [.ref 66, .int a1, .int a2, .int a3] [.int (-1000000001)] rfl rfl rfl (by decide) rfl rfl rfl ?_
        refine ik_Wk 1 (pc' := 1) (loc' := [some (.ref 66), some (.int a1), some (.int a2), some (.int a3), none]) (st' := [.int a1]) (h' := p1_h) (cl' := 0) (sl' := 0) rfl ?_
        refine ik_Wc 76 1 3 [.int a1] [] rfl rfl rfl (by decide) rfl rfl rfl ?_
        refine ik_Wk 4 (pc' := 6) (loc' := [some (.int a1)]) (st' := [.long 2, .long 0, .long a1.toInt64]) (h' := p1_h) (cl' := 0) (sl' := 0) rfl ?_
        refine ik_Wc 70 3 3 [.long a1.toInt64, .long 0, .long 2] [] rfl rfl rfl (by decide) rfl rfl rfl ?_
        refine ik_Wif 4 (c := (lg_cmp a1.toInt64 (0 : Int64)) < 0) 17 6 (loc' := [some (.long a1.toInt64), none, some (.long 0), none, some (.long 2), none]) (st' := []) (h' := p1_h) (cl' := 0) (sl' := 0) rfl (fun hc7 => ?_) (fun hc7 => ?_)
        · exfalso
          (try simp only [lg_lt0, lg_gt0] at hc1 hc3 hc7) <;> simp only [cv_eq, cv_lt, cv_le, cv_64, (show (0 : Int32).toInt = 0 from by decide), (show (0 : Int64).toInt = 0 from by decide), (show (2 : Int32).toInt = 2 from by decide), (show (2 : Int64).toInt = 2 from by decide)] at hc1 hc3 hc7 <;> omega
        · refine ik_Wif 4 (c := 0 < (lg_cmp a1.toInt64 (2 : Int64))) 17 13 (loc' := [some (.long a1.toInt64), none, some (.long 0), none, some (.long 2), none]) (st' := []) (h' := p1_h) (cl' := 0) (sl' := 0) rfl (fun hc8 => ?_) (fun hc8 => ?_)
          · exfalso
            (try simp only [lg_lt0, lg_gt0] at hc1 hc3 hc7 hc8) <;> simp only [cv_eq, cv_lt, cv_le, cv_64, (show (0 : Int32).toInt = 0 from by decide), (show (0 : Int64).toInt = 0 from by decide), (show (2 : Int32).toInt = 2 from by decide), (show (2 : Int64).toInt = 2 from by decide)] at hc1 hc3 hc7 hc8 <;> omega
          · refine ik_Wk 2 (pc' := 18) (loc' := [some (.long a1.toInt64), none, some (.long 0), none, some (.long 2), none]) (st' := [.int 1]) (h' := p1_h) (cl' := 0) (sl' := 0) rfl ?_
            refine ik_Wret rfl rfl ⟨_, _, rfl, rfl, ?_⟩
            refine ik_Wret rfl rfl ⟨_, _, rfl, rfl, ?_⟩
            refine ik_Wk 3 (pc' := 9) (loc' := [some (.ref 66), some (.int a1), some (.int a2), some (.int a3), none]) (st' := [.int a2, .ref 66]) (h' := p1_h) (cl' := 0) (sl' := 0) rfl ?_
            refine ik_Wc 72 2 0 [.ref 66, .int a2] [] rfl rfl rfl (by decide) rfl rfl rfl ?_
            refine ik_Wk 8 (pc' := 10) (loc' := [some (.ref 66), some (.int a2)]) (st' := [.long (-1), .long 0, .long a2.toInt64]) (h' := p1_h) (cl' := 0) (sl' := 0) rfl ?_
            refine ik_Wc 70 3 3 [.long a2.toInt64, .long 0, .long (-1)] [] rfl rfl rfl (by decide) rfl rfl rfl ?_
            refine ik_Wif 4 (c := (lg_cmp a2.toInt64 (0 : Int64)) < 0) 17 6 (loc' := [some (.long a2.toInt64), none, some (.long 0), none, some (.long (-1)), none]) (st' := []) (h' := p1_h) (cl' := 0) (sl' := 0) rfl (fun hc9 => ?_) (fun hc9 => ?_)
            · refine ik_Wk 1 (pc' := 18) (loc' := [some (.long a2.toInt64), none, some (.long 0), none, some (.long (-1)), none]) (st' := [.int 0]) (h' := p1_h) (cl' := 0) (sl' := 0) rfl ?_
              refine ik_Wret rfl rfl ⟨_, _, rfl, rfl, ?_⟩
              refine ik_Wret rfl rfl ⟨_, _, rfl, rfl, ?_⟩
              refine ik_Wk 2 (pc' := 17) (loc' := [some (.ref 66), some (.int a1), some (.int a2), some (.int a3), none]) (st' := [.int (-1000000001)]) (h' := p1_h) (cl' := 0) (sl' := 0) rfl ?_
              refine ik_Wret rfl rfl ⟨_, _, rfl, rfl, ?_⟩
              refine ik_Wk 10 (pc' := 1138) (loc' := [some (.retAddr 0), some (.ref 0), some (.ref 66), some (.int 5)]) (st' := [.int 1]) (h' := p1_h) (cl' := 94) (sl' := 4156) rfl ?_
              exact ik_Wret rfl rfl ⟨rfl, rfl, Nat.le_of_ble_eq_true rfl, Nat.le_of_ble_eq_true rfl⟩
            · exfalso
              (try simp only [lg_lt0, lg_gt0] at hc6 hc9) <;> simp only [cv_eq, cv_lt, cv_le, cv_64, (show (0 : Int32).toInt = 0 from by decide), (show (0 : Int64).toInt = 0 from by decide), (show (2 : Int32).toInt = 2 from by decide), (show (2 : Int64).toInt = 2 from by decide)] at hc6 hc9 <;> omega
      · refine ik_Wif 4 (c := (0 : Int32) ≤ a2) 16 12 (loc' := [some (.ref 7), some (.int a2)]) (st' := []) (h' := p1_h) (cl' := 0) (sl' := 0) rfl (fun hc10 => ?_) (fun hc10 => ?_)
        · refine ik_Wk 1 (pc' := 17) (loc' := [some (.ref 7), some (.int a2)]) (st' := [.int 0]) (h' := p1_h) (cl' := 0) (sl' := 0) rfl ?_
          refine ik_Wret rfl rfl ⟨_, _, rfl, rfl, ?_⟩
          refine ik_Wk 2 (pc' := 20) (loc' := [some (.ref 0), some (.int a1), some (.int a2), some (.int a3)]) (st' := [.int (-1000000001)]) (h' := p1_h) (cl' := 0) (sl' := 0) rfl ?_
          refine ik_Wret rfl rfl ⟨_, _, rfl, rfl, ?_⟩
          refine ik_Wk 16 (pc' := 544) (loc' := [some (.retAddr 0), some (.ref 0), some (.ref 66), some (.int 0)]) (st' := [.int a3, .int a2, .int a1, .ref 66, .int (-1000000001)]) (h' := p1_h) (cl' := 94) (sl' := 4156) rfl ?_
          refine ik_Wc 92 4 0 [.ref 66, .int a1, .int a2, .int a3] [.int (-1000000001)] rfl rfl rfl (by decide) rfl rfl rfl ?_
          refine ik_Wk 1 (pc' := 1) (loc' := [some (.ref 66), some (.int a1), some (.int a2), some (.int a3), none]) (st' := [.int a1]) (h' := p1_h) (cl' := 0) (sl' := 0) rfl ?_
          refine ik_Wc 76 1 3 [.int a1] [] rfl rfl rfl (by decide) rfl rfl rfl ?_
          refine ik_Wk 4 (pc' := 6) (loc' := [some (.int a1)]) (st' := [.long 2, .long 0, .long a1.toInt64]) (h' := p1_h) (cl' := 0) (sl' := 0) rfl ?_
          refine ik_Wc 70 3 3 [.long a1.toInt64, .long 0, .long 2] [] rfl rfl rfl (by decide) rfl rfl rfl ?_
          refine ik_Wif 4 (c := (lg_cmp a1.toInt64 (0 : Int64)) < 0) 17 6 (loc' := [some (.long a1.toInt64), none, some (.long 0), none, some (.long 2), none]) (st' := []) (h' := p1_h) (cl' := 0) (sl' := 0) rfl (fun hc11 => ?_) (fun hc11 => ?_)
          · exfalso
            (try simp only [lg_lt0, lg_gt0] at hc1 hc3 hc11) <;> simp only [cv_eq, cv_lt, cv_le, cv_64, (show (0 : Int32).toInt = 0 from by decide), (show (0 : Int64).toInt = 0 from by decide), (show (2 : Int32).toInt = 2 from by decide), (show (2 : Int64).toInt = 2 from by decide)] at hc1 hc3 hc11 <;> omega
          · refine ik_Wif 4 (c := 0 < (lg_cmp a1.toInt64 (2 : Int64))) 17 13 (loc' := [some (.long a1.toInt64), none, some (.long 0), none, some (.long 2), none]) (st' := []) (h' := p1_h) (cl' := 0) (sl' := 0) rfl (fun hc12 => ?_) (fun hc12 => ?_)
            · exfalso
              (try simp only [lg_lt0, lg_gt0] at hc1 hc3 hc11 hc12) <;> simp only [cv_eq, cv_lt, cv_le, cv_64, (show (0 : Int32).toInt = 0 from by decide), (show (0 : Int64).toInt = 0 from by decide), (show (2 : Int32).toInt = 2 from by decide), (show (2 : Int64).toInt = 2 from by decide)] at hc1 hc3 hc11 hc12 <;> omega
            · refine ik_Wk 2 (pc' := 18) (loc' := [some (.long a1.toInt64), none, some (.long 0), none, some (.long 2), none]) (st' := [.int 1]) (h' := p1_h) (cl' := 0) (sl' := 0) rfl ?_
              refine ik_Wret rfl rfl ⟨_, _, rfl, rfl, ?_⟩
              refine ik_Wret rfl rfl ⟨_, _, rfl, rfl, ?_⟩
              refine ik_Wk 3 (pc' := 9) (loc' := [some (.ref 66), some (.int a1), some (.int a2), some (.int a3), none]) (st' := [.int a2, .ref 66]) (h' := p1_h) (cl' := 0) (sl' := 0) rfl ?_
              refine ik_Wc 72 2 0 [.ref 66, .int a2] [] rfl rfl rfl (by decide) rfl rfl rfl ?_
              refine ik_Wk 8 (pc' := 10) (loc' := [some (.ref 66), some (.int a2)]) (st' := [.long (-1), .long 0, .long a2.toInt64]) (h' := p1_h) (cl' := 0) (sl' := 0) rfl ?_
              refine ik_Wc 70 3 3 [.long a2.toInt64, .long 0, .long (-1)] [] rfl rfl rfl (by decide) rfl rfl rfl ?_
              refine ik_Wif 4 (c := (lg_cmp a2.toInt64 (0 : Int64)) < 0) 17 6 (loc' := [some (.long a2.toInt64), none, some (.long 0), none, some (.long (-1)), none]) (st' := []) (h' := p1_h) (cl' := 0) (sl' := 0) rfl (fun hc13 => ?_) (fun hc13 => ?_)
              · exfalso
                (try simp only [lg_lt0, lg_gt0] at hc6 hc10 hc13) <;> simp only [cv_eq, cv_lt, cv_le, cv_64, (show (0 : Int32).toInt = 0 from by decide), (show (0 : Int64).toInt = 0 from by decide), (show (2 : Int32).toInt = 2 from by decide), (show (2 : Int64).toInt = 2 from by decide)] at hc6 hc10 hc13 <;> omega
              · refine ik_Wif 4 (c := 0 < (lg_cmp a2.toInt64 (-1 : Int64))) 17 13 (loc' := [some (.long a2.toInt64), none, some (.long 0), none, some (.long (-1)), none]) (st' := []) (h' := p1_h) (cl' := 0) (sl' := 0) rfl (fun hc14 => ?_) (fun hc14 => ?_)
                · refine ik_Wk 1 (pc' := 18) (loc' := [some (.long a2.toInt64), none, some (.long 0), none, some (.long (-1)), none]) (st' := [.int 0]) (h' := p1_h) (cl' := 0) (sl' := 0) rfl ?_
                  refine ik_Wret rfl rfl ⟨_, _, rfl, rfl, ?_⟩
                  refine ik_Wret rfl rfl ⟨_, _, rfl, rfl, ?_⟩
                  refine ik_Wk 2 (pc' := 17) (loc' := [some (.ref 66), some (.int a1), some (.int a2), some (.int a3), none]) (st' := [.int (-1000000001)]) (h' := p1_h) (cl' := 0) (sl' := 0) rfl ?_
                  refine ik_Wret rfl rfl ⟨_, _, rfl, rfl, ?_⟩
                  refine ik_Wk 10 (pc' := 1138) (loc' := [some (.retAddr 0), some (.ref 0), some (.ref 66), some (.int 5)]) (st' := [.int 1]) (h' := p1_h) (cl' := 94) (sl' := 4156) rfl ?_
                  exact ik_Wret rfl rfl ⟨rfl, rfl, Nat.le_of_ble_eq_true rfl, Nat.le_of_ble_eq_true rfl⟩
                · exfalso
                  (try simp only [lg_lt0, lg_gt0] at hc6 hc10 hc13 hc14) <;> simp only [cv_eq, cv_lt, cv_le, cv_64, (show (-1 : Int32).toInt = -1 from by decide), (show (-1 : Int64).toInt = -1 from by decide), (show (0 : Int32).toInt = 0 from by decide), (show (0 : Int64).toInt = 0 from by decide), (show (2 : Int32).toInt = 2 from by decide), (show (2 : Int64).toInt = 2 from by decide)] at hc6 hc10 hc13 hc14 <;> omega
        · exfalso
          (try simp only [lg_lt0, lg_gt0] at hc6 hc10) <;> simp only [cv_eq, cv_lt, cv_le, cv_64, (show (0 : Int32).toInt = 0 from by decide), (show (0 : Int64).toInt = 0 from by decide), (show (2 : Int32).toInt = 2 from by decide), (show (2 : Int64).toInt = 2 from by decide)] at hc6 hc10 <;> omega
