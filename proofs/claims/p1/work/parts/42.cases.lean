set_option maxHeartbeats 16000000 in
set_option maxRecDepth 100000 in
/-- told on the new objects -/
theorem p1_k3 (a0 a1 a2 a3 a4 : Int32) : ik_W (some (5, p1_f a0 a1 a2 a3 a4)) 0 261 [some (.retAddr 0), some (.ref 0), some (.ref 66), some (.int 0)] [] p1_h 94 4156 p1_post := by
  rcases p1_sp8 a1 (0) (1) (2) (3) (4) (5) (6) (7) with rfl | rfl | rfl | rfl | rfl | rfl | rfl | rfl | hs1
  · refine ik_Wk 6 (pc' := 267) (loc' := [some (.retAddr 0), some (.ref 0), some (.ref 66), some (.int 0)]) (st' := [.int 0, .ref 0]) (h' := p1_h) (cl' := 94) (sl' := 4156) rfl ?_
    refine ik_Wce 37 2 0 [.ref 0, .int 0] [] _ [.int 0] p1_r5 rfl rfl rfl (by decide) rfl rfl rfl rfl rfl ?_
    refine ik_Wk 6 (pc' := 276) (loc' := [some (.retAddr 0), some (.ref 0), some (.ref 66), some (.int 0)]) (st' := [.int 0, .ref 66, .int 0]) (h' := p1_h) (cl' := 94) (sl' := 4156) rfl ?_
    refine ik_Wce 85 2 0 [.ref 66, .int 0] [.int 0] _ [.int 0] p1_r6 rfl rfl rfl (by decide) rfl rfl rfl rfl rfl ?_
    refine ik_Wk 10 (pc' := 1138) (loc' := [some (.retAddr 0), some (.ref 0), some (.ref 66), some (.int 5)]) (st' := [.int 1]) (h' := p1_h) (cl' := 94) (sl' := 4156) rfl ?_
    exact ik_Wret rfl rfl ⟨rfl, rfl, Nat.le_of_ble_eq_true rfl, Nat.le_of_ble_eq_true rfl⟩
  · refine ik_Wk 6 (pc' := 267) (loc' := [some (.retAddr 0), some (.ref 0), some (.ref 66), some (.int 0)]) (st' := [.int 1, .ref 0]) (h' := p1_h) (cl' := 94) (sl' := 4156) rfl ?_
    refine ik_Wce 37 2 0 [.ref 0, .int 1] [] _ [.int 0] p1_r7 rfl rfl rfl (by decide) rfl rfl rfl rfl rfl ?_
    refine ik_Wk 6 (pc' := 276) (loc' := [some (.retAddr 0), some (.ref 0), some (.ref 66), some (.int 0)]) (st' := [.int 1, .ref 66, .int 0]) (h' := p1_h) (cl' := 94) (sl' := 4156) rfl ?_
    refine ik_Wce 85 2 0 [.ref 66, .int 1] [.int 0] _ [.int 0] p1_r8 rfl rfl rfl (by decide) rfl rfl rfl rfl rfl ?_
    refine ik_Wk 10 (pc' := 1138) (loc' := [some (.retAddr 0), some (.ref 0), some (.ref 66), some (.int 5)]) (st' := [.int 1]) (h' := p1_h) (cl' := 94) (sl' := 4156) rfl ?_
    exact ik_Wret rfl rfl ⟨rfl, rfl, Nat.le_of_ble_eq_true rfl, Nat.le_of_ble_eq_true rfl⟩
  · refine ik_Wk 6 (pc' := 267) (loc' := [some (.retAddr 0), some (.ref 0), some (.ref 66), some (.int 0)]) (st' := [.int 2, .ref 0]) (h' := p1_h) (cl' := 94) (sl' := 4156) rfl ?_
    refine ik_Wce 37 2 0 [.ref 0, .int 2] [] _ [.int 0] p1_r9 rfl rfl rfl (by decide) rfl rfl rfl rfl rfl ?_
    refine ik_Wk 6 (pc' := 276) (loc' := [some (.retAddr 0), some (.ref 0), some (.ref 66), some (.int 0)]) (st' := [.int 2, .ref 66, .int 0]) (h' := p1_h) (cl' := 94) (sl' := 4156) rfl ?_
    refine ik_Wce 85 2 0 [.ref 66, .int 2] [.int 0] _ [.int 0] p1_r10 rfl rfl rfl (by decide) rfl rfl rfl rfl rfl ?_
    refine ik_Wk 10 (pc' := 1138) (loc' := [some (.retAddr 0), some (.ref 0), some (.ref 66), some (.int 5)]) (st' := [.int 1]) (h' := p1_h) (cl' := 94) (sl' := 4156) rfl ?_
    exact ik_Wret rfl rfl ⟨rfl, rfl, Nat.le_of_ble_eq_true rfl, Nat.le_of_ble_eq_true rfl⟩
  · refine ik_Wk 6 (pc' := 267) (loc' := [some (.retAddr 0), some (.ref 0), some (.ref 66), some (.int 0)]) (st' := [.int 3, .ref 0]) (h' := p1_h) (cl' := 94) (sl' := 4156) rfl ?_
    refine ik_Wce 37 2 0 [.ref 0, .int 3] [] _ [.int 0] p1_r11 rfl rfl rfl (by decide) rfl rfl rfl rfl rfl ?_
    refine ik_Wk 6 (pc' := 276) (loc' := [some (.retAddr 0), some (.ref 0), some (.ref 66), some (.int 0)]) (st' := [.int 3, .ref 66, .int 0]) (h' := p1_h) (cl' := 94) (sl' := 4156) rfl ?_
    refine ik_Wce 85 2 0 [.ref 66, .int 3] [.int 0] _ [.int 0] p1_r12 rfl rfl rfl (by decide) rfl rfl rfl rfl rfl ?_
    refine ik_Wk 10 (pc' := 1138) (loc' := [some (.retAddr 0), some (.ref 0), some (.ref 66), some (.int 5)]) (st' := [.int 1]) (h' := p1_h) (cl' := 94) (sl' := 4156) rfl ?_
    exact ik_Wret rfl rfl ⟨rfl, rfl, Nat.le_of_ble_eq_true rfl, Nat.le_of_ble_eq_true rfl⟩
  · refine ik_Wk 6 (pc' := 267) (loc' := [some (.retAddr 0), some (.ref 0), some (.ref 66), some (.int 0)]) (st' := [.int 4, .ref 0]) (h' := p1_h) (cl' := 94) (sl' := 4156) rfl ?_
    refine ik_Wce 37 2 0 [.ref 0, .int 4] [] _ [.int 0] p1_r13 rfl rfl rfl (by decide) rfl rfl rfl rfl rfl ?_
    refine ik_Wk 6 (pc' := 276) (loc' := [some (.retAddr 0), some (.ref 0), some (.ref 66), some (.int 0)]) (st' := [.int 4, .ref 66, .int 0]) (h' := p1_h) (cl' := 94) (sl' := 4156) rfl ?_
    refine ik_Wce 85 2 0 [.ref 66, .int 4] [.int 0] _ [.int 0] p1_r14 rfl rfl rfl (by decide) rfl rfl rfl rfl rfl ?_
    refine ik_Wk 10 (pc' := 1138) (loc' := [some (.retAddr 0), some (.ref 0), some (.ref 66), some (.int 5)]) (st' := [.int 1]) (h' := p1_h) (cl' := 94) (sl' := 4156) rfl ?_
    exact ik_Wret rfl rfl ⟨rfl, rfl, Nat.le_of_ble_eq_true rfl, Nat.le_of_ble_eq_true rfl⟩
  · refine ik_Wk 6 (pc' := 267) (loc' := [some (.retAddr 0), some (.ref 0), some (.ref 66), some (.int 0)]) (st' := [.int 5, .ref 0]) (h' := p1_h) (cl' := 94) (sl' := 4156) rfl ?_
    refine ik_Wce 37 2 0 [.ref 0, .int 5] [] _ [.int 0] p1_r15 rfl rfl rfl (by decide) rfl rfl rfl rfl rfl ?_
    refine ik_Wk 6 (pc' := 276) (loc' := [some (.retAddr 0), some (.ref 0), some (.ref 66), some (.int 0)]) (st' := [.int 5, .ref 66, .int 0]) (h' := p1_h) (cl' := 94) (sl' := 4156) rfl ?_
    refine ik_Wce 85 2 0 [.ref 66, .int 5] [.int 0] _ [.int 0] p1_r16 rfl rfl rfl (by decide) rfl rfl rfl rfl rfl ?_
    refine ik_Wk 10 (pc' := 1138) (loc' := [some (.retAddr 0), some (.ref 0), some (.ref 66), some (.int 5)]) (st' := [.int 1]) (h' := p1_h) (cl' := 94) (sl' := 4156) rfl ?_
    exact ik_Wret rfl rfl ⟨rfl, rfl, Nat.le_of_ble_eq_true rfl, Nat.le_of_ble_eq_true rfl⟩
  · refine ik_Wk 6 (pc' := 267) (loc' := [some (.retAddr 0), some (.ref 0), some (.ref 66), some (.int 0)]) (st' := [.int 6, .ref 0]) (h' := p1_h) (cl' := 94) (sl' := 4156) rfl ?_
    refine ik_Wce 37 2 0 [.ref 0, .int 6] [] _ [.int 0] p1_r17 rfl rfl rfl (by decide) rfl rfl rfl rfl rfl ?_
    refine ik_Wk 6 (pc' := 276) (loc' := [some (.retAddr 0), some (.ref 0), some (.ref 66), some (.int 0)]) (st' := [.int 6, .ref 66, .int 0]) (h' := p1_h) (cl' := 94) (sl' := 4156) rfl ?_
    refine ik_Wce 85 2 0 [.ref 66, .int 6] [.int 0] _ [.int 0] p1_r18 rfl rfl rfl (by decide) rfl rfl rfl rfl rfl ?_
    refine ik_Wk 10 (pc' := 1138) (loc' := [some (.retAddr 0), some (.ref 0), some (.ref 66), some (.int 5)]) (st' := [.int 1]) (h' := p1_h) (cl' := 94) (sl' := 4156) rfl ?_
    exact ik_Wret rfl rfl ⟨rfl, rfl, Nat.le_of_ble_eq_true rfl, Nat.le_of_ble_eq_true rfl⟩
  · refine ik_Wk 6 (pc' := 267) (loc' := [some (.retAddr 0), some (.ref 0), some (.ref 66), some (.int 0)]) (st' := [.int 7, .ref 0]) (h' := p1_h) (cl' := 94) (sl' := 4156) rfl ?_
    refine ik_Wce 37 2 0 [.ref 0, .int 7] [] _ [.int 0] p1_r19 rfl rfl rfl (by decide) rfl rfl rfl rfl rfl ?_
    refine ik_Wk 6 (pc' := 276) (loc' := [some (.retAddr 0), some (.ref 0), some (.ref 66), some (.int 0)]) (st' := [.int 7, .ref 66, .int 0]) (h' := p1_h) (cl' := 94) (sl' := 4156) rfl ?_
    refine ik_Wce 85 2 0 [.ref 66, .int 7] [.int 0] _ [.int 0] p1_r20 rfl rfl rfl (by decide) rfl rfl rfl rfl rfl ?_
    refine ik_Wk 10 (pc' := 1138) (loc' := [some (.retAddr 0), some (.ref 0), some (.ref 66), some (.int 5)]) (st' := [.int 1]) (h' := p1_h) (cl' := 94) (sl' := 4156) rfl ?_
    exact ik_Wret rfl rfl ⟨rfl, rfl, Nat.le_of_ble_eq_true rfl, Nat.le_of_ble_eq_true rfl⟩
  · obtain ⟨hs1_0, hs1_1, hs1_2, hs1_3, hs1_4, hs1_5, hs1_6, hs1_7⟩ := hs1
    refine ik_Wk 6 (pc' := 267) (loc' := [some (.retAddr 0), some (.ref 0), some (.ref 66), some (.int 0)]) (st' := [.int a1, .ref 0]) (h' := p1_h) (cl' := 94) (sl' := 4156) rfl ?_
    refine ik_Wc 37 2 0 [.ref 0, .int a1] [] rfl rfl rfl (by decide) rfl rfl rfl ?_
    refine ik_Wk 1 (pc' := 1) (loc' := [some (.ref 0), some (.int a1)]) (st' := [.int a1]) (h' := p1_h) (cl' := 0) (sl' := 0) rfl ?_
    refine ik_Wsw (115) (0) (7) #[47, 55, 63, 71, 81, 91, 99, 107] 116 rfl rfl (by simp only [cv_eq, (show (0 : Int32).toInt = 0 from by decide), (show (1 : Int32).toInt = 1 from by decide), (show (2 : Int32).toInt = 2 from by decide), (show (3 : Int32).toInt = 3 from by decide), (show (4 : Int32).toInt = 4 from by decide), (show (5 : Int32).toInt = 5 from by decide), (show (6 : Int32).toInt = 6 from by decide), (show (7 : Int32).toInt = 7 from by decide)] at hs1_0 hs1_1 hs1_2 hs1_3 hs1_4 hs1_5 hs1_6 hs1_7; omega) ?_
    refine ik_Wk 1 (pc' := 118) (loc' := [some (.ref 0), some (.int a1)]) (st' := [.int (-1000000002)]) (h' := p1_h) (cl' := 0) (sl' := 0) rfl ?_
    refine ik_Wret rfl rfl ⟨_, _, rfl, rfl, ?_⟩
    refine ik_Wk 6 (pc' := 276) (loc' := [some (.retAddr 0), some (.ref 0), some (.ref 66), some (.int 0)]) (st' := [.int a1, .ref 66, .int (-1000000002)]) (h' := p1_h) (cl' := 94) (sl' := 4156) rfl ?_
    refine ik_Wc 85 2 0 [.ref 66, .int a1] [.int (-1000000002)] rfl rfl rfl (by decide) rfl rfl rfl ?_
    refine ik_Wk 1 (pc' := 1) (loc' := [some (.ref 66), some (.int a1)]) (st' := [.int a1]) (h' := p1_h) (cl' := 0) (sl' := 0) rfl ?_
    refine ik_Wsw (91) (0) (7) #[47, 52, 57, 62, 69, 76, 81, 86] 92 rfl rfl (by simp only [cv_eq, (show (0 : Int32).toInt = 0 from by decide), (show (1 : Int32).toInt = 1 from by decide), (show (2 : Int32).toInt = 2 from by decide), (show (3 : Int32).toInt = 3 from by decide), (show (4 : Int32).toInt = 4 from by decide), (show (5 : Int32).toInt = 5 from by decide), (show (6 : Int32).toInt = 6 from by decide), (show (7 : Int32).toInt = 7 from by decide)] at hs1_0 hs1_1 hs1_2 hs1_3 hs1_4 hs1_5 hs1_6 hs1_7; omega) ?_
    refine ik_Wk 1 (pc' := 94) (loc' := [some (.ref 66), some (.int a1)]) (st' := [.int (-1000000002)]) (h' := p1_h) (cl' := 0) (sl' := 0) rfl ?_
    refine ik_Wret rfl rfl ⟨_, _, rfl, rfl, ?_⟩
    refine ik_Wk 10 (pc' := 1138) (loc' := [some (.retAddr 0), some (.ref 0), some (.ref 66), some (.int 5)]) (st' := [.int 1]) (h' := p1_h) (cl' := 94) (sl' := 4156) rfl ?_
    exact ik_Wret rfl rfl ⟨rfl, rfl, Nat.le_of_ble_eq_true rfl, Nat.le_of_ble_eq_true rfl⟩

set_option maxHeartbeats 16000000 in
set_option maxRecDepth 100000 in
/-- move on the new objects -/
theorem p1_k4 (a0 a1 a2 a3 a4 : Int32) : ik_W (some (5, p1_f a0 a1 a2 a3 a4)) 0 284 [some (.retAddr 0), some (.ref 0), some (.ref 66), some (.int 0)] [] p1_h 94 4156 p1_post := by
  refine ik_Wk 16 (pc' := 300) (loc' := [some (.retAddr 0), some (.ref 0), some (.ref 66), some (.int 0)]) (st' := [.int a3, .int a2, .int a1, .ref 0]) (h' := p1_h) (cl' := 94) (sl' := 4156) rfl ?_
  refine ik_Wc 38 4 0 [.ref 0, .int a1, .int a2, .int a3] [] rfl rfl rfl (by decide) rfl rfl rfl ?_
  refine ik_Wk 3 (pc' := 5) (loc' := [some (.ref 0), some (.int a1), some (.int a2), some (.int a3)]) (st' := [.int a1, .ref 7]) (h' := p1_h) (cl' := 0) (sl' := 0) rfl ?_
  refine ik_Wc 3 2 0 [.ref 7, .int a1] [] rfl rfl rfl (by decide) rfl rfl rfl ?_
  refine ik_Wif 2 (c := a1 < 0) 16 4 (loc' := [some (.ref 7), some (.int a1)]) (st' := []) (h' := p1_h) (cl' := 0) (sl' := 0) rfl (fun hc1 => ?_) (fun hc1 => ?_)
  · refine ik_Wk 1 (pc' := 17) (loc' := [some (.ref 7), some (.int a1)]) (st' := [.int 0]) (h' := p1_h) (cl' := 0) (sl' := 0) rfl ?_
    refine ik_Wret rfl rfl ⟨_, _, rfl, rfl, ?_⟩
    refine ik_Wk 2 (pc' := 30) (loc' := [some (.ref 0), some (.int a1), some (.int a2), some (.int a3)]) (st' := [.int (-1000000001)]) (h' := p1_h) (cl' := 0) (sl' := 0) rfl ?_
    refine ik_Wret rfl rfl ⟨_, _, rfl, rfl, ?_⟩
    refine ik_Wk 16 (pc' := 319) (loc' := [some (.retAddr 0), some (.ref 0), some (.ref 66), some (.int 0)]) (st' := [.int a3, .int a2, .int a1, .ref 66, .int (-1000000001)]) (h' := p1_h) (cl' := 94) (sl' := 4156) rfl ?_
    refine ik_Wc 86 4 0 [.ref 66, .int a1, .int a2, .int a3] [.int (-1000000001)] rfl rfl rfl (by decide) rfl rfl rfl ?_
    refine ik_Wk 2 (pc' := 2) (loc' := [some (.ref 66), some (.int a1), some (.int a2), some (.int a3)]) (st' := [.int a1, .ref 66]) (h' := p1_h) (cl' := 0) (sl' := 0) rfl ?_
    refine ik_Wc 72 2 0 [.ref 66, .int a1] [] rfl rfl rfl (by decide) rfl rfl rfl ?_
    refine ik_Wk 8 (pc' := 10) (loc' := [some (.ref 66), some (.int a1)]) (st' := [.long (-1), .long 0, .long a1.toInt64]) (h' := p1_h) (cl' := 0) (sl' := 0) rfl ?_
    refine ik_Wc 70 3 3 [.long a1.toInt64, .long 0, .long (-1)] [] rfl rfl rfl (by decide) rfl rfl rfl ?_
    refine ik_Wif 4 (c := (lg_cmp a1.toInt64 (0 : Int64)) < 0) 17 6 (loc' := [some (.long a1.toInt64), none, some (.long 0), none, some (.long (-1)), none]) (st' := []) (h' := p1_h) (cl' := 0) (sl' := 0) rfl (fun hc2 => ?_) (fun hc2 => ?_)
    · refine ik_Wk 1 (pc' := 18) (loc' := [some (.long a1.toInt64), none, some (.long 0), none, some (.long (-1)), none]) (st' := [.int 0]) (h' := p1_h) (cl' := 0) (sl' := 0) rfl ?_
      refine ik_Wret rfl rfl ⟨_, _, rfl, rfl, ?_⟩
      refine ik_Wret rfl rfl ⟨_, _, rfl, rfl, ?_⟩
      refine ik_Wk 2 (pc' := 33) (loc' := [some (.ref 66), some (.int a1), some (.int a2), some (.int a3)]) (st' := [.int (-1000000001)]) (h' := p1_h) (cl' := 0) (sl' := 0) rfl ?_
      refine ik_Wret rfl rfl ⟨_, _, rfl, rfl, ?_⟩
      refine ik_Wk 10 (pc' := 1138) (loc' := [some (.retAddr 0), some (.ref 0), some (.ref 66), some (.int 5)]) (st' := [.int 1]) (h' := p1_h) (cl' := 94) (sl' := 4156) rfl ?_
      exact ik_Wret rfl rfl ⟨rfl, rfl, Nat.le_of_ble_eq_true rfl, Nat.le_of_ble_eq_true rfl⟩
    · exfalso
      (try simp only [lg_lt0, lg_gt0] at hc1 hc2) <;> simp only [cv_eq, cv_lt, cv_le, cv_64, (show (0 : Int32).toInt = 0 from by decide), (show (0 : Int64).toInt = 0 from by decide)] at hc1 hc2 <;> omega
  · refine ik_Wif 4 (c := (0 : Int32) ≤ a1) 16 12 (loc' := [some (.ref 7), some (.int a1)]) (st' := []) (h' := p1_h) (cl' := 0) (sl' := 0) rfl (fun hc3 => ?_) (fun hc3 => ?_)
    · refine ik_Wk 1 (pc' := 17) (loc' := [some (.ref 7), some (.int a1)]) (st' := [.int 0]) (h' := p1_h) (cl' := 0) (sl' := 0) rfl ?_
      refine ik_Wret rfl rfl ⟨_, _, rfl, rfl, ?_⟩
      refine ik_Wk 2 (pc' := 30) (loc' := [some (.ref 0), some (.int a1), some (.int a2), some (.int a3)]) (st' := [.int (-1000000001)]) (h' := p1_h) (cl' := 0) (sl' := 0) rfl ?_
      refine ik_Wret rfl rfl ⟨_, _, rfl, rfl, ?_⟩
      refine ik_Wk 16 (pc' := 319) (loc' := [some (.retAddr 0), some (.ref 0), some (.ref 66), some (.int 0)]) (st' := [.int a3, .int a2, .int a1, .ref 66, .int (-1000000001)]) (h' := p1_h) (cl' := 94) (sl' := 4156) rfl ?_
      refine ik_Wc 86 4 0 [.ref 66, .int a1, .int a2, .int a3] [.int (-1000000001)] rfl rfl rfl (by decide) rfl rfl rfl ?_
      refine ik_Wk 2 (pc' := 2) (loc' := [some (.ref 66), some (.int a1), some (.int a2), some (.int a3)]) (st' := [.int a1, .ref 66]) (h' := p1_h) (cl' := 0) (sl' := 0) rfl ?_
      refine ik_Wc 72 2 0 [.ref 66, .int a1] [] rfl rfl rfl (by decide) rfl rfl rfl ?_
      refine ik_Wk 8 (pc' := 10) (loc' := [some (.ref 66), some (.int a1)]) (st' := [.long (-1), .long 0, .long a1.toInt64]) (h' := p1_h) (cl' := 0) (sl' := 0) rfl ?_
      refine ik_Wc 70 3 3 [.long a1.toInt64, .long 0, .long (-1)] [] rfl rfl rfl (by decide) rfl rfl rfl ?_
      refine ik_Wif 4 (c := (lg_cmp a1.toInt64 (0 : Int64)) < 0) 17 6 (loc' := [some (.long a1.toInt64), none, some (.long 0), none, some (.long (-1)), none]) (st' := []) (h' := p1_h) (cl' := 0) (sl' := 0) rfl (fun hc4 => ?_) (fun hc4 => ?_)
      · exfalso
        (try simp only [lg_lt0, lg_gt0] at hc1 hc3 hc4) <;> simp only [cv_eq, cv_lt, cv_le, cv_64, (show (0 : Int32).toInt = 0 from by decide), (show (0 : Int64).toInt = 0 from by decide)] at hc1 hc3 hc4 <;> omega
      · refine ik_Wif 4 (c := 0 < (lg_cmp a1.toInt64 (-1 : Int64))) 17 13 (loc' := [some (.long a1.toInt64), none, some (.long 0), none, some (.long (-1)), none]) (st' := []) (h' := p1_h) (cl' := 0) (sl' := 0) rfl (fun hc5 => ?_) (fun hc5 => ?_)
        · refine ik_Wk 1 (pc' := 18) (loc' := [some (.long a1.toInt64), none, some (.long 0), none, some (.long (-1)), none]) (st' := [.int 0]) (h' := p1_h) (cl' := 0) (sl' := 0) rfl ?_
          refine ik_Wret rfl rfl ⟨_, _, rfl, rfl, ?_⟩
          refine ik_Wret rfl rfl ⟨_, _, rfl, rfl, ?_⟩
          refine ik_Wk 2 (pc' := 33) (loc' := [some (.ref 66), some (.int a1), some (.int a2), some (.int a3)]) (st' := [.int (-1000000001)]) (h' := p1_h) (cl' := 0) (sl' := 0) rfl ?_
          refine ik_Wret rfl rfl ⟨_, _, rfl, rfl, ?_⟩
          refine ik_Wk 10 (pc' := 1138) (loc' := [some (.retAddr 0), some (.ref 0), some (.ref 66), some (.int 5)]) (st' := [.int 1]) (h' := p1_h) (cl' := 94) (sl' := 4156) rfl ?_
          exact ik_Wret rfl rfl ⟨rfl, rfl, Nat.le_of_ble_eq_true rfl, Nat.le_of_ble_eq_true rfl⟩
        · exfalso
          (try simp only [lg_lt0, lg_gt0] at hc1 hc3 hc4 hc5) <;> simp only [cv_eq, cv_lt, cv_le, cv_64, (show (-1 : Int32).toInt = -1 from by decide), (show (-1 : Int64).toInt = -1 from by decide), (show (0 : Int32).toInt = 0 from by decide), (show (0 : Int64).toInt = 0 from by decide)] at hc1 hc3 hc4 hc5 <;> omega
    · exfalso
      (try simp only [lg_lt0, lg_gt0] at hc1 hc3) <;> simp only [cv_eq, cv_lt, cv_le, cv_64, (show (0 : Int32).toInt = 0 from by decide), (show (0 : Int64).toInt = 0 from by decide)] at hc1 hc3 <;> omega

set_option maxHeartbeats 16000000 in
set_option maxRecDepth 100000 in
/-- later on the new objects -/
theorem p1_k10 (a0 a1 a2 a3 a4 : Int32) : ik_W (some (5, p1_f a0 a1 a2 a3 a4)) 0 552 [some (.retAddr 0), some (.ref 0), some (.ref 66), some (.int 0)] [] p1_h 94 4156 p1_post := by
  refine ik_Wk 6 (pc' := 558) (loc' := [some (.retAddr 0), some (.ref 0), some (.ref 66), some (.int 0)]) (st' := [.int a1, .ref 0]) (h' := p1_h) (cl' := 94) (sl' := 4156) rfl ?_
  refine ik_Wc 44 2 0 [.ref 0, .int a1] [] rfl rfl rfl (by decide) rfl rfl rfl ?_
  refine ik_Wif 2 (c := a1 < 0) 9 4 (loc' := [some (.ref 0), some (.int a1)]) (st' := []) (h' := p1_h) (cl' := 0) (sl' := 0) rfl (fun hc1 => ?_) (fun hc1 => ?_)
  · refine ik_Wk 1 (pc' := 11) (loc' := [some (.ref 0), some (.int a1)]) (st' := [.int (-1000000002)]) (h' := p1_h) (cl' := 0) (sl' := 0) rfl ?_
    refine ik_Wret rfl rfl ⟨_, _, rfl, rfl, ?_⟩
    refine ik_Wk 6 (pc' := 567) (loc' := [some (.retAddr 0), some (.ref 0), some (.ref 66), some (.int 0)]) (st' := [.int a1, .ref 66, .int (-1000000002)]) (h' := p1_h) (cl' := 94) (sl' := 4156) rfl ?_
    refine ik_Wc 93 2 0 [.ref 66, .int a1] [.int (-1000000002)] rfl rfl rfl (by decide) rfl rfl rfl ?_
    refine ik_Wk 4 (pc' := 6) (loc' := [some (.ref 66), some (.int a1)]) (st' := [.long 2, .long 0, .long a1.toInt64]) (h' := p1_h) (cl' := 0) (sl' := 0) rfl ?_
    refine ik_Wc 70 3 3 [.long a1.toInt64, .long 0, .long 2] [] rfl rfl rfl (by decide) rfl rfl rfl ?_
    refine ik_Wif 4 (c := (lg_cmp a1.toInt64 (0 : Int64)) < 0) 17 6 (loc' := [some (.long a1.toInt64), none, some (.long 0), none, some (.long 2), none]) (st' := []) (h' := p1_h) (cl' := 0) (sl' := 0) rfl (fun hc2 => ?_) (fun hc2 => ?_)
    · refine ik_Wk 1 (pc' := 18) (loc' := [some (.long a1.toInt64), none, some (.long 0), none, some (.long 2), none]) (st' := [.int 0]) (h' := p1_h) (cl' := 0) (sl' := 0) rfl ?_
      refine ik_Wret rfl rfl ⟨_, _, rfl, rfl, ?_⟩
      refine ik_Wk 2 (pc' := 14) (loc' := [some (.ref 66), some (.int a1)]) (st' := [.int (-1000000002)]) (h' := p1_h) (cl' := 0) (sl' := 0) rfl ?_
      refine ik_Wret rfl rfl ⟨_, _, rfl, rfl, ?_⟩
      refine ik_Wk 10 (pc' := 1138) (loc' := [some (.retAddr 0), some (.ref 0), some (.ref 66), some (.int 5)]) (st' := [.int 1]) (h' := p1_h) (cl' := 94) (sl' := 4156) rfl ?_
      exact ik_Wret rfl rfl ⟨rfl, rfl, Nat.le_of_ble_eq_true rfl, Nat.le_of_ble_eq_true rfl⟩
    · exfalso
      (try simp only [lg_lt0, lg_gt0] at hc1 hc2) <;> simp only [cv_eq, cv_lt, cv_le, cv_64, (show (0 : Int32).toInt = 0 from by decide), (show (0 : Int64).toInt = 0 from by decide)] at hc1 hc2 <;> omega
  · refine ik_Wif 3 (c := a1 ≤ (2 : Int32)) 12 9 (loc' := [some (.ref 0), some (.int a1)]) (st' := []) (h' := p1_h) (cl' := 0) (sl' := 0) rfl (fun hc3 => ?_) (fun hc3 => ?_)
    · refine ik_Wk 2 (pc' := 16) (loc' := [some (.ref 0), some (.int a1)]) (st' := [.ref 7]) (h' := p1_h) (cl' := 0) (sl' := 0) rfl ?_
      refine ik_Wc 7 1 0 [.ref 7] [] rfl rfl rfl (by decide) rfl rfl rfl ?_
      refine ik_Wk 5 (pc' := 13) (loc' := [some (.ref 7)]) (st' := [.int 0]) (h' := p1_h) (cl' := 0) (sl' := 0) rfl ?_
      refine ik_Wret rfl rfl ⟨_, _, rfl, rfl, ?_⟩
      refine ik_Wk 2 (pc' := 24) (loc' := [some (.ref 0), some (.int a1)]) (st' := [.int (-1000000003)]) (h' := p1_h) (cl' := 0) (sl' := 0) rfl ?_
      refine ik_Wret rfl rfl ⟨_, _, rfl, rfl, ?_⟩
      refine ik_Wk 6 (pc' := 567) (loc' := [some (.retAddr 0), some (.ref 0), some (.ref 66), some (.int 0)]) (st' := [.int a1, .ref 66, .int (-1000000003)]) (h' := p1_h) (cl' := 94) (sl' := 4156) rfl ?_
      refine ik_Wc 93 2 0 [.ref 66, .int a1] [.int (-1000000003)] rfl rfl rfl (by decide) rfl rfl rfl ?_
      refine ik_Wk 4 (pc' := 6) (loc' := [some (.ref 66), some (.int a1)]) (st' := [.long 2, .long 0, .long a1.toInt64]) (h' := p1_h) (cl' := 0) (sl' := 0) rfl ?_
      refine ik_Wc 70 3 3 [.long a1.toInt64, .long 0, .long 2] [] rfl rfl rfl (by decide) rfl rfl rfl ?_
      refine ik_Wif 4 (c := (lg_cmp a1.toInt64 (0 : Int64)) < 0) 17 6 (loc' := [some (.long a1.toInt64), none, some (.long 0), none, some (.long 2), none]) (st' := []) (h' := p1_h) (cl' := 0) (sl' := 0) rfl (fun hc4 => ?_) (fun hc4 => ?_)
      · exfalso
        (try simp only [lg_lt0, lg_gt0] at hc1 hc3 hc4) <;> simp only [cv_eq, cv_lt, cv_le, cv_64, (show (0 : Int32).toInt = 0 from by decide), (show (0 : Int64).toInt = 0 from by decide), (show (2 : Int32).toInt = 2 from by decide), (show (2 : Int64).toInt = 2 from by decide)] at hc1 hc3 hc4 <;> omega
      · refine ik_Wif 4 (c := 0 < (lg_cmp a1.toInt64 (2 : Int64))) 17 13 (loc' := [some (.long a1.toInt64), none, some (.long 0), none, some (.long 2), none]) (st' := []) (h' := p1_h) (cl' := 0) (sl' := 0) rfl (fun hc5 => ?_) (fun hc5 => ?_)
        · exfalso
          (try simp only [lg_lt0, lg_gt0] at hc1 hc3 hc4 hc5) <;> simp only [cv_eq, cv_lt, cv_le, cv_64, (show (0 : Int32).toInt = 0 from by decide), (show (0 : Int64).toInt = 0 from by decide), (show (2 : Int32).toInt = 2 from by decide), (show (2 : Int64).toInt = 2 from by decide)] at hc1 hc3 hc4 hc5 <;> omega
        · refine ik_Wk 2 (pc' := 18) (loc' := [some (.long a1.toInt64), none, some (.long 0), none, some (.long 2), none]) (st' := [.int 1]) (h' := p1_h) (cl' := 0) (sl' := 0) rfl ?_
          refine ik_Wret rfl rfl ⟨_, _, rfl, rfl, ?_⟩
          refine ik_Wk 2 (pc' := 16) (loc' := [some (.ref 66), some (.int a1)]) (st' := [.ref 66]) (h' := p1_h) (cl' := 0) (sl' := 0) rfl ?_
          refine ik_Wc 77 1 0 [.ref 66] [] rfl rfl rfl (by decide) rfl rfl rfl ?_
          refine ik_Wk 5 (pc' := 13) (loc' := [some (.ref 66)]) (st' := [.int 0]) (h' := p1_h) (cl' := 0) (sl' := 0) rfl ?_
          refine ik_Wret rfl rfl ⟨_, _, rfl, rfl, ?_⟩
          refine ik_Wk 2 (pc' := 32) (loc' := [some (.ref 66), some (.int a1)]) (st' := [.int (-1000000003)]) (h' := p1_h) (cl' := 0) (sl' := 0) rfl ?_
          refine ik_Wret rfl rfl ⟨_, _, rfl, rfl, ?_⟩
          refine ik_Wk 10 (pc' := 1138) (loc' := [some (.retAddr 0), some (.ref 0), some (.ref 66), some (.int 5)]) (st' := [.int 1]) (h' := p1_h) (cl' := 94) (sl' := 4156) rfl ?_
          exact ik_Wret rfl rfl ⟨rfl, rfl, Nat.le_of_ble_eq_true rfl, Nat.le_of_ble_eq_true rfl⟩
    · refine ik_Wk 1 (pc' := 11) (loc' := [some (.ref 0), some (.int a1)]) (st' := [.int (-1000000002)]) (h' := p1_h) (cl' := 0) (sl' := 0) rfl ?_
      refine ik_Wret rfl rfl ⟨_, _, rfl, rfl, ?_⟩
      refine ik_Wk 6 (pc' := 567) (loc' := [some (.retAddr 0), some (.ref 0), some (.ref 66), some (.int 0)]) (st' := [.int a1, .ref 66, .int (-1000000002)]) (h' := p1_h) (cl' := 94) (sl' := 4156) rfl ?_
      refine ik_Wc 93 2 0 [.ref 66, .int a1] [.int (-1000000002)] rfl rfl rfl (by decide) rfl rfl rfl ?_
      refine ik_Wk 4 (pc' := 6) (loc' := [some (.ref 66), some (.int a1)]) (st' := [.long 2, .long 0, .long a1.toInt64]) (h' := p1_h) (cl' := 0) (sl' := 0) rfl ?_
      refine ik_Wc 70 3 3 [.long a1.toInt64, .long 0, .long 2] [] rfl rfl rfl (by decide) rfl rfl rfl ?_
      refine ik_Wif 4 (c := (lg_cmp a1.toInt64 (0 : Int64)) < 0) 17 6 (loc' := [some (.long a1.toInt64), none, some (.long 0), none, some (.long 2), none]) (st' := []) (h' := p1_h) (cl' := 0) (sl' := 0) rfl (fun hc6 => ?_) (fun hc6 => ?_)
      · exfalso
        (try simp only [lg_lt0, lg_gt0] at hc1 hc3 hc6) <;> simp only [cv_eq, cv_lt, cv_le, cv_64, (show (0 : Int32).toInt = 0 from by decide), (show (0 : Int64).toInt = 0 from by decide), (show (2 : Int32).toInt = 2 from by decide), (show (2 : Int64).toInt = 2 from by decide)] at hc1 hc3 hc6 <;> omega
      · refine ik_Wif 4 (c := 0 < (lg_cmp a1.toInt64 (2 : Int64))) 17 13 (loc' := [some (.long a1.toInt64), none, some (.long 0), none, some (.long 2), none]) (st' := []) (h' := p1_h) (cl' := 0) (sl' := 0) rfl (fun hc7 => ?_) (fun hc7 => ?_)
        · refine ik_Wk 1 (pc' := 18) (loc' := [some (.long a1.toInt64), none, some (.long 0), none, some (.long 2), none]) (st' := [.int 0]) (h' := p1_h) (cl' := 0) (sl' := 0) rfl ?_
          refine ik_Wret rfl rfl ⟨_, _, rfl, rfl, ?_⟩
          refine ik_Wk 2 (pc' := 14) (loc' := [some (.ref 66), some (.int a1)]) (st' := [.int (-1000000002)]) (h' := p1_h) (cl' := 0) (sl' := 0) rfl ?_
          refine ik_Wret rfl rfl ⟨_, _, rfl, rfl, ?_⟩
          refine ik_Wk 10 (pc' := 1138) (loc' := [some (.retAddr 0), some (.ref 0), some (.ref 66), some (.int 5)]) (st' := [.int 1]) (h' := p1_h) (cl' := 94) (sl' := 4156) rfl ?_
          exact ik_Wret rfl rfl ⟨rfl, rfl, Nat.le_of_ble_eq_true rfl, Nat.le_of_ble_eq_true rfl⟩
        · exfalso
          (try simp only [lg_lt0, lg_gt0] at hc1 hc3 hc6 hc7) <;> simp only [cv_eq, cv_lt, cv_le, cv_64, (show (0 : Int32).toInt = 0 from by decide), (show (0 : Int64).toInt = 0 from by decide), (show (2 : Int32).toInt = 2 from by decide), (show (2 : Int64).toInt = 2 from by decide)] at hc1 hc3 hc6 hc7 <;> omega

set_option maxHeartbeats 16000000 in
set_option maxRecDepth 100000 in
/-- mixed on the new objects -/
theorem p1_k12 (a0 a1 a2 a3 a4 : Int32) : ik_W (some (5, p1_f a0 a1 a2 a3 a4)) 0 618 [some (.retAddr 0), some (.ref 0), some (.ref 66), some (.int 0)] [] p1_h 94 4156 p1_post := by
  refine ik_Wk 16 (pc' := 634) (loc' := [some (.retAddr 0), some (.ref 0), some (.ref 66), some (.int 0)]) (st' := [.int a3, .int a2, .int a1, .ref 0]) (h' := p1_h) (cl' := 94) (sl' := 4156) rfl ?_
  refine ik_Wc 46 4 0 [.ref 0, .int a1, .int a2, .int a3] [] rfl rfl rfl (by decide) rfl rfl rfl ?_
  refine ik_Wk 3 (pc' := 5) (loc' := [some (.ref 0), some (.int a1), some (.int a2), some (.int a3)]) (st' := [.int a1, .ref 7]) (h' := p1_h) (cl' := 0) (sl' := 0) rfl ?_
  refine ik_Wc 4 2 0 [.ref 7, .int a1] [] rfl rfl rfl (by decide) rfl rfl rfl ?_
  refine ik_Wif 2 (c := a1 < 0) 18 4 (loc' := [some (.ref 7), some (.int a1)]) (st' := []) (h' := p1_h) (cl' := 0) (sl' := 0) rfl (fun hc1 => ?_) (fun hc1 => ?_)
  · refine ik_Wk 1 (pc' := 19) (loc' := [some (.ref 7), some (.int a1)]) (st' := [.int 0]) (h' := p1_h) (cl' := 0) (sl' := 0) rfl ?_
    refine ik_Wret rfl rfl ⟨_, _, rfl, rfl, ?_⟩
    refine ik_Wk 2 (pc' := 26) (loc' := [some (.ref 0), some (.int a1), some (.int a2), some (.int a3)]) (st' := [.int (-1000000001)]) (h' := p1_h) (cl' := 0) (sl' := 0) rfl ?_
    refine ik_Wret rfl rfl ⟨_, _, rfl, rfl, ?_⟩
    refine ik_Wk 16 (pc' := 653) (loc' := [some (.retAddr 0), some (.ref 0), some (.ref 66), some (.int 0)]) (st' := [.int a3, .int a2, .int a1, .ref 66, .int (-1000000001)]) (h' := p1_h) (cl' := 94) (sl' := 4156) rfl ?_
    refine ik_Wc 95 4 0 [.ref 66, .int a1, .int a2, .int a3] [.int (-1000000001)] rfl rfl rfl (by decide) rfl rfl rfl ?_
    refine ik_Wk 2 (pc' := 2) (loc' := [some (.ref 66), some (.int a1), some (.int a2), some (.int a3)]) (st' := [.int a1, .ref 66]) (h' := p1_h) (cl' := 0) (sl' := 0) rfl ?_
    refine ik_Wc 74 2 0 [.ref 66, .int a1] [] rfl rfl rfl (by decide) rfl rfl rfl ?_
    refine ik_Wk 8 (pc' := 10) (loc' := [some (.ref 66), some (.int a1)]) (st' := [.long (-2), .long 0, .long a1.toInt64]) (h' := p1_h) (cl' := 0) (sl' := 0) rfl ?_
    refine ik_Wc 70 3 3 [.long a1.toInt64, .long 0, .long (-2)] [] rfl rfl rfl (by decide) rfl rfl rfl ?_
    refine ik_Wif 4 (c := (lg_cmp a1.toInt64 (0 : Int64)) < 0) 17 6 (loc' := [some (.long a1.toInt64), none, some (.long 0), none, some (.long (-2)), none]) (st' := []) (h' := p1_h) (cl' := 0) (sl' := 0) rfl (fun hc2 => ?_) (fun hc2 => ?_)
    · refine ik_Wk 1 (pc' := 18) (loc' := [some (.long a1.toInt64), none, some (.long 0), none, some (.long (-2)), none]) (st' := [.int 0]) (h' := p1_h) (cl' := 0) (sl' := 0) rfl ?_
      refine ik_Wret rfl rfl ⟨_, _, rfl, rfl, ?_⟩
      refine ik_Wret rfl rfl ⟨_, _, rfl, rfl, ?_⟩
      refine ik_Wk 2 (pc' := 34) (loc' := [some (.ref 66), some (.int a1), some (.int a2), some (.int a3)]) (st' := [.int (-1000000001)]) (h' := p1_h) (cl' := 0) (sl' := 0) rfl ?_
      refine ik_Wret rfl rfl ⟨_, _, rfl, rfl, ?_⟩
      refine ik_Wk 10 (pc' := 1138) (loc' := [some (.retAddr 0), some (.ref 0), some (.ref 66), some (.int 5)]) (st' := [.int 1]) (h' := p1_h) (cl' := 94) (sl' := 4156) rfl ?_
      exact ik_Wret rfl rfl ⟨rfl, rfl, Nat.le_of_ble_eq_true rfl, Nat.le_of_ble_eq_true rfl⟩
    · exfalso
      (try simp only [lg_lt0, lg_gt0] at hc1 hc2) <;> simp only [cv_eq, cv_lt, cv_le, cv_64, (show (0 : Int32).toInt = 0 from by decide), (show (0 : Int64).toInt = 0 from by decide)] at hc1 hc2 <;> omega
  · refine ik_Wif 6 (c := (-1 : Int32) ≤ a1) 18 14 (loc' := [some (.ref 7), some (.int a1)]) (st' := []) (h' := p1_h) (cl' := 0) (sl' := 0) rfl (fun hc3 => ?_) (fun hc3 => ?_)
    · refine ik_Wk 1 (pc' := 19) (loc' := [some (.ref 7), some (.int a1)]) (st' := [.int 0]) (h' := p1_h) (cl' := 0) (sl' := 0) rfl ?_
      refine ik_Wret rfl rfl ⟨_, _, rfl, rfl, ?_⟩
      refine ik_Wk 2 (pc' := 26) (loc' := [some (.ref 0), some (.int a1), some (.int a2), some (.int a3)]) (st' := [.int (-1000000001)]) (h' := p1_h) (cl' := 0) (sl' := 0) rfl ?_
      refine ik_Wret rfl rfl ⟨_, _, rfl, rfl, ?_⟩
      refine ik_Wk 16 (pc' := 653) (loc' := [some (.retAddr 0), some (.ref 0), some (.ref 66), some (.int 0)]) (st' := [.int a3, .int a2, .int a1, .ref 66, .int (-1000000001)]) (h' := p1_h) (cl' := 94) (sl' := 4156) rfl ?_
      refine ik_Wc 95 4 0 [.ref 66, .int a1, .int a2, .int a3] [.int (-1000000001)] rfl rfl rfl (by decide) rfl rfl rfl ?_
      refine ik_Wk 2 (pc' := 2) (loc' := [some (.ref 66), some (.int a1), some (.int a2), some (.int a3)]) (st' := [.int a1, .ref 66]) (h' := p1_h) (cl' := 0) (sl' := 0) rfl ?_
      refine ik_Wc 74 2 0 [.ref 66, .int a1] [] rfl rfl rfl (by decide) rfl rfl rfl ?_
      refine ik_Wk 8 (pc' := 10) (loc' := [some (.ref 66), some (.int a1)]) (st' := [.long (-2), .long 0, .long a1.toInt64]) (h' := p1_h) (cl' := 0) (sl' := 0) rfl ?_
      refine ik_Wc 70 3 3 [.long a1.toInt64, .long 0, .long (-2)] [] rfl rfl rfl (by decide) rfl rfl rfl ?_
      refine ik_Wif 4 (c := (lg_cmp a1.toInt64 (0 : Int64)) < 0) 17 6 (loc' := [some (.long a1.toInt64), none, some (.long 0), none, some (.long (-2)), none]) (st' := []) (h' := p1_h) (cl' := 0) (sl' := 0) rfl (fun hc4 => ?_) (fun hc4 => ?_)
      · exfalso
        (try simp only [lg_lt0, lg_gt0] at hc1 hc3 hc4) <;> simp only [cv_eq, cv_lt, cv_le, cv_64, (show (-1 : Int32).toInt = -1 from by decide), (show (-1 : Int64).toInt = -1 from by decide), (show (0 : Int32).toInt = 0 from by decide), (show (0 : Int64).toInt = 0 from by decide)] at hc1 hc3 hc4 <;> omega
      · refine ik_Wif 4 (c := 0 < (lg_cmp a1.toInt64 (-2 : Int64))) 17 13 (loc' := [some (.long a1.toInt64), none, some (.long 0), none, some (.long (-2)), none]) (st' := []) (h' := p1_h) (cl' := 0) (sl' := 0) rfl (fun hc5 => ?_) (fun hc5 => ?_)
        · refine ik_Wk 1 (pc' := 18) (loc' := [some (.long a1.toInt64), none, some (.long 0), none, some (.long (-2)), none]) (st' := [.int 0]) (h' := p1_h) (cl' := 0) (sl' := 0) rfl ?_
          refine ik_Wret rfl rfl ⟨_, _, rfl, rfl, ?_⟩
          refine ik_Wret rfl rfl ⟨_, _, rfl, rfl, ?_⟩
          refine ik_Wk 2 (pc' := 34) (loc' := [some (.ref 66), some (.int a1), some (.int a2), some (.int a3)]) (st' := [.int (-1000000001)]) (h' := p1_h) (cl' := 0) (sl' := 0) rfl ?_
          refine ik_Wret rfl rfl ⟨_, _, rfl, rfl, ?_⟩
          refine ik_Wk 10 (pc' := 1138) (loc' := [some (.retAddr 0), some (.ref 0), some (.ref 66), some (.int 5)]) (st' := [.int 1]) (h' := p1_h) (cl' := 94) (sl' := 4156) rfl ?_
          exact ik_Wret rfl rfl ⟨rfl, rfl, Nat.le_of_ble_eq_true rfl, Nat.le_of_ble_eq_true rfl⟩
        · exfalso
          (try simp only [lg_lt0, lg_gt0] at hc1 hc3 hc4 hc5) <;> simp only [cv_eq, cv_lt, cv_le, cv_64, (show (-2 : Int32).toInt = -2 from by decide), (show (-2 : Int64).toInt = -2 from by decide), (show (-1 : Int32).toInt = -1 from by decide), (show (-1 : Int64).toInt = -1 from by decide), (show (0 : Int32).toInt = 0 from by decide), (show (0 : Int64).toInt = 0 from by decide)] at hc1 hc3 hc4 hc5 <;> omega
    · exfalso
      (try simp only [lg_lt0, lg_gt0] at hc1 hc3) <;> simp only [cv_eq, cv_lt, cv_le, cv_64, (show (-1 : Int32).toInt = -1 from by decide), (show (-1 : Int64).toInt = -1 from by decide), (show (0 : Int32).toInt = 0 from by decide), (show (0 : Int64).toInt = 0 from by decide)] at hc1 hc3 <;> omega

set_option maxHeartbeats 16000000 in
set_option maxRecDepth 100000 in
/-- stone on the new objects -/
theorem p1_k13 (a0 a1 a2 a3 a4 : Int32) : ik_W (some (5, p1_f a0 a1 a2 a3 a4)) 0 661 [some (.retAddr 0), some (.ref 0), some (.ref 66), some (.int 0)] [] p1_h 94 4156 p1_post := by
  refine ik_Wif 12 (c := a2 = 0) 679 675 (loc' := [some (.retAddr 0), some (.ref 0), some (.ref 66), some (.int 0)]) (st' := [.int a1, .ref 0]) (h' := p1_h) (cl' := 94) (sl' := 4156) rfl (fun hc1 => ?_) (fun hc1 => ?_)
  · refine ik_Wk 1 (pc' := 680) (loc' := [some (.retAddr 0), some (.ref 0), some (.ref 66), some (.int 0)]) (st' := [.int 0, .int a1, .ref 0]) (h' := p1_h) (cl' := 94) (sl' := 4156) rfl ?_
    refine ik_Wc 47 3 0 [.ref 0, .int a1, .int 0] [] rfl rfl rfl (by decide) rfl rfl rfl ?_
    refine ik_Wk 3 (pc' := 5) (loc' := [some (.ref 0), some (.int a1), some (.int 0), none]) (st' := [.int a1, .ref 7]) (h' := p1_h) (cl' := 0) (sl' := 0) rfl ?_
    refine ik_Wc 4 2 0 [.ref 7, .int a1] [] rfl rfl rfl (by decide) rfl rfl rfl ?_
    refine ik_Wif 2 (c := a1 < 0) 18 4 (loc' := [some (.ref 7), some (.int a1)]) (st' := []) (h' := p1_h) (cl' := 0) (sl' := 0) rfl (fun hc2 => ?_) (fun hc2 => ?_)
    · refine ik_Wk 1 (pc' := 19) (loc' := [some (.ref 7), some (.int a1)]) (st' := [.int 0]) (h' := p1_h) (cl' := 0) (sl' := 0) rfl ?_
      refine ik_Wret rfl rfl ⟨_, _, rfl, rfl, ?_⟩
      refine ik_Wk 2 (pc' := 13) (loc' := [some (.ref 0), some (.int a1), some (.int 0), none]) (st' := [.int (-1000000001)]) (h' := p1_h) (cl' := 0) (sl' := 0) rfl ?_
      refine ik_Wret rfl rfl ⟨_, _, rfl, rfl, ?_⟩
      refine ik_Wif 12 (c := a2 = 0) 701 697 (loc' := [some (.retAddr 0), some (.ref 0), some (.ref 66), some (.int 0)]) (st' := [.int a1, .ref 66, .int (-1000000001)]) (h' := p1_h) (cl' := 94) (sl' := 4156) rfl (fun hc3 => ?_) (fun hc3 => ?_)
      · refine ik_Wk 1 (pc' := 702) (loc' := [some (.retAddr 0), some (.ref 0), some (.ref 66), some (.int 0)]) (st' := [.int 0, .int a1, .ref 66, .int (-1000000001)]) (h' := p1_h) (cl' := 94) (sl' := 4156) rfl ?_
        refine ik_Wc 96 3 0 [.ref 66, .int a1, .int 0] [.int (-1000000001)] rfl rfl rfl (by decide) rfl rfl rfl ?_
        refine ik_Wk 2 (pc' := 2) (loc' := [some (.ref 66), some (.int a1), some (.int 0), none]) (st' := [.int a1, .ref 66]) (h' := p1_h) (cl' := 0) (sl' := 0) rfl ?_
        refine ik_Wc 74 2 0 [.ref 66, .int a1] [] rfl rfl rfl (by decide) rfl rfl rfl ?_
        refine ik_Wk 8 (pc' := 10) (loc' := [some (.ref 66), some (.int a1)]) (st' := [.long (-2), .long 0, .long a1.toInt64]) (h' := p1_h) (cl' := 0) (sl' := 0) rfl ?_
        refine ik_Wc 70 3 3 [.long a1.toInt64, .long 0, .long (-2)] [] rfl rfl rfl (by decide) rfl rfl rfl ?_
        refine ik_Wif 4 (c := (lg_cmp a1.toInt64 (0 : Int64)) < 0) 17 6 (loc' := [some (.long a1.toInt64), none, some (.long 0), none, some (.long (-2)), none]) (st' := []) (h' := p1_h) (cl' := 0) (sl' := 0) rfl (fun hc4 => ?_) (fun hc4 => ?_)
        · refine ik_Wk 1 (pc' := 18) (loc' := [some (.long a1.toInt64), none, some (.long 0), none, some (.long (-2)), none]) (st' := [.int 0]) (h' := p1_h) (cl' := 0) (sl' := 0) rfl ?_
          refine ik_Wret rfl rfl ⟨_, _, rfl, rfl, ?_⟩
          refine ik_Wret rfl rfl ⟨_, _, rfl, rfl, ?_⟩
          refine ik_Wk 2 (pc' := 10) (loc' := [some (.ref 66), some (.int a1), some (.int 0), none]) (st' := [.int (-1000000001)]) (h' := p1_h) (cl' := 0) (sl' := 0) rfl ?_
          refine ik_Wret rfl rfl ⟨_, _, rfl, rfl, ?_⟩
          refine ik_Wk 10 (pc' := 1138) (loc' := [some (.retAddr 0), some (.ref 0), some (.ref 66), some (.int 5)]) (st' := [.int 1]) (h' := p1_h) (cl' := 94) (sl' := 4156) rfl ?_
          exact ik_Wret rfl rfl ⟨rfl, rfl, Nat.le_of_ble_eq_true rfl, Nat.le_of_ble_eq_true rfl⟩
        · exfalso
          (try simp only [lg_lt0, lg_gt0] at hc2 hc4) <;> simp only [cv_eq, cv_lt, cv_le, cv_64, (show (0 : Int32).toInt = 0 from by decide), (show (0 : Int64).toInt = 0 from by decide)] at hc2 hc4 <;> omega
      · exfalso
        (try simp only [lg_lt0, lg_gt0] at hc1 hc3) <;> simp only [cv_eq, cv_lt, cv_le, cv_64, (show (0 : Int32).toInt = 0 from by decide), (show (0 : Int64).toInt = 0 from by decide)] at hc1 hc3 <;> omega
    · refine ik_Wif 6 (c := (-1 : Int32) ≤ a1) 18 14 (loc' := [some (.ref 7), some (.int a1)]) (st' := []) (h' := p1_h) (cl' := 0) (sl' := 0) rfl (fun hc5 => ?_) (fun hc5 => ?_)
      · refine ik_Wk 1 (pc' := 19) (loc' := [some (.ref 7), some (.int a1)]) (st' := [.int 0]) (h' := p1_h) (cl' := 0) (sl' := 0) rfl ?_
        refine ik_Wret rfl rfl ⟨_, _, rfl, rfl, ?_⟩
        refine ik_Wk 2 (pc' := 13) (loc' := [some (.ref 0), some (.int a1), some (.int 0), none]) (st' := [.int (-1000000001)]) (h' := p1_h) (cl' := 0) (sl' := 0) rfl ?_
        refine ik_Wret rfl rfl ⟨_, _, rfl, rfl, ?_⟩
        refine ik_Wif 12 (c := a2 = 0) 701 697 (loc' := [some (.retAddr 0), some (.ref 0), some (.ref 66), some (.int 0)]) (st' := [.int a1, .ref 66, .int (-1000000001)]) (h' := p1_h) (cl' := 94) (sl' := 4156) rfl (fun hc6 => ?_) (fun hc6 => ?_)
        · refine ik_Wk 1 (pc' := 702) (loc' := [some (.retAddr 0), some (.ref 0), some (.ref 66), some (.int 0)]) (st' := [.int 0, .int a1, .ref 66, .int (-1000000001)]) (h' := p1_h) (cl' := 94) (sl' := 4156) rfl ?_
          refine ik_Wc 96 3 0 [.ref 66, .int a1, .int 0] [.int (-1000000001)] rfl rfl rfl (by decide) rfl rfl rfl ?_
          refine ik_Wk 2 (pc' := 2) (loc' := [some (.ref 66), some (.int a1), some (.int 0), none]) (st' := [.int a1, .ref 66]) (h' := p1_h) (cl' := 0) (sl' := 0) rfl ?_
          refine ik_Wc 74 2 0 [.ref 66, .int a1] [] rfl rfl rfl (by decide) rfl rfl rfl ?_
          refine ik_Wk 8 (pc' := 10) (loc' := [some (.ref 66), some (.int a1)]) (st' := [.long (-2), .long 0, .long a1.toInt64]) (h' := p1_h) (cl' := 0) (sl' := 0) rfl ?_
          refine ik_Wc 70 3 3 [.long a1.toInt64, .long 0, .long (-2)] [] rfl rfl rfl (by decide) rfl rfl rfl ?_
          refine ik_Wif 4 (c := (lg_cmp a1.toInt64 (0 : Int64)) < 0) 17 6 (loc' := [some (.long a1.toInt64), none, some (.long 0), none, some (.long (-2)), none]) (st' := []) (h' := p1_h) (cl' := 0) (sl' := 0) rfl (fun hc7 => ?_) (fun hc7 => ?_)
          · exfalso
            (try simp only [lg_lt0, lg_gt0] at hc2 hc5 hc7) <;> simp only [cv_eq, cv_lt, cv_le, cv_64, (show (-1 : Int32).toInt = -1 from by decide), (show (-1 : Int64).toInt = -1 from by decide), (show (0 : Int32).toInt = 0 from by decide), (show (0 : Int64).toInt = 0 from by decide)] at hc2 hc5 hc7 <;> omega
          · refine ik_Wif 4 (c := 0 < (lg_cmp a1.toInt64 (-2 : Int64))) 17 13 (loc' := [some (.long a1.toInt64), none, some (.long 0), none, some (.long (-2)), none]) (st' := []) (h' := p1_h) (cl' := 0) (sl' := 0) rfl (fun hc8 => ?_) (fun hc8 => ?_)
            · refine ik_Wk 1 (pc' := 18) (loc' := [some (.long a1.toInt64), none, some (.long 0), none, some (.long (-2)), none]) (st' := [.int 0]) (h' := p1_h) (cl' := 0) (sl' := 0) rfl ?_
              refine ik_Wret rfl rfl ⟨_, _, rfl, rfl, ?_⟩
              refine ik_Wret rfl rfl ⟨_, _, rfl, rfl, ?_⟩
              refine ik_Wk 2 (pc' := 10) (loc' := [some (.ref 66), some (.int a1), some (.int 0), none]) (st' := [.int (-1000000001)]) (h' := p1_h) (cl' := 0) (sl' := 0) rfl ?_
              refine ik_Wret rfl rfl ⟨_, _, rfl, rfl, ?_⟩
              refine ik_Wk 10 (pc' := 1138) (loc' := [some (.retAddr 0), some (.ref 0), some (.ref 66), some (.int 5)]) (st' := [.int 1]) (h' := p1_h) (cl' := 94) (sl' := 4156) rfl ?_
              exact ik_Wret rfl rfl ⟨rfl, rfl, Nat.le_of_ble_eq_true rfl, Nat.le_of_ble_eq_true rfl⟩
            · exfalso
              (try simp only [lg_lt0, lg_gt0] at hc2 hc5 hc7 hc8) <;> simp only [cv_eq, cv_lt, cv_le, cv_64, (show (-2 : Int32).toInt = -2 from by decide), (show (-2 : Int64).toInt = -2 from by decide), (show (-1 : Int32).toInt = -1 from by decide), (show (-1 : Int64).toInt = -1 from by decide), (show (0 : Int32).toInt = 0 from by decide), (show (0 : Int64).toInt = 0 from by decide)] at hc2 hc5 hc7 hc8 <;> omega
        · exfalso
          (try simp only [lg_lt0, lg_gt0] at hc1 hc6) <;> simp only [cv_eq, cv_lt, cv_le, cv_64, (show (-1 : Int32).toInt = -1 from by decide), (show (-1 : Int64).toInt = -1 from by decide), (show (0 : Int32).toInt = 0 from by decide), (show (0 : Int64).toInt = 0 from by decide)] at hc1 hc6 <;> omega
      · exfalso
        (try simp only [lg_lt0, lg_gt0] at hc2 hc5) <;> simp only [cv_eq, cv_lt, cv_le, cv_64, (show (-1 : Int32).toInt = -1 from by decide), (show (-1 : Int64).toInt = -1 from by decide), (show (0 : Int32).toInt = 0 from by decide), (show (0 : Int64).toInt = 0 from by decide)] at hc2 hc5 <;> omega
  · refine ik_Wk 2 (pc' := 680) (loc' := [some (.retAddr 0), some (.ref 0), some (.ref 66), some (.int 0)]) (st' := [.int 1, .int a1, .ref 0]) (h' := p1_h) (cl' := 94) (sl' := 4156) rfl ?_
    refine ik_Wc 47 3 0 [.ref 0, .int a1, .int 1] [] rfl rfl rfl (by decide) rfl rfl rfl ?_
    refine ik_Wk 3 (pc' := 5) (loc' := [some (.ref 0), some (.int a1), some (.int 1), none]) (st' := [.int a1, .ref 7]) (h' := p1_h) (cl' := 0) (sl' := 0) rfl ?_
    refine ik_Wc 4 2 0 [.ref 7, .int a1] [] rfl rfl rfl (by decide) rfl rfl rfl ?_
    refine ik_Wif 2 (c := a1 < 0) 18 4 (loc' := [some (.ref 7), some (.int a1)]) (st' := []) (h' := p1_h) (cl' := 0) (sl' := 0) rfl (fun hc9 => ?_) (fun hc9 => ?_)
    · refine ik_Wk 1 (pc' := 19) (loc' := [some (.ref 7), some (.int a1)]) (st' := [.int 0]) (h' := p1_h) (cl' := 0) (sl' := 0) rfl ?_
      refine ik_Wret rfl rfl ⟨_, _, rfl, rfl, ?_⟩
      refine ik_Wk 2 (pc' := 13) (loc' := [some (.ref 0), some (.int a1), some (.int 1), none]) (st' := [.int (-1000000001)]) (h' := p1_h) (cl' := 0) (sl' := 0) rfl ?_
      refine ik_Wret rfl rfl ⟨_, _, rfl, rfl, ?_⟩
      refine ik_Wif 12 (c := a2 = 0) 701 697 (loc' := [some (.retAddr 0), some (.ref 0), some (.ref 66), some (.int 0)]) (st' := [.int a1, .ref 66, .int (-1000000001)]) (h' := p1_h) (cl' := 94) (sl' := 4156) rfl (fun hc10 => ?_) (fun hc10 => ?_)
      · exfalso
        (try simp only [lg_lt0, lg_gt0] at hc1 hc10) <;> simp only [cv_eq, cv_lt, cv_le, cv_64, (show (0 : Int32).toInt = 0 from by decide), (show (0 : Int64).toInt = 0 from by decide)] at hc1 hc10 <;> omega
      · refine ik_Wk 2 (pc' := 702) (loc' := [some (.retAddr 0), some (.ref 0), some (.ref 66), some (.int 0)]) (st' := [.int 1, .int a1, .ref 66, .int (-1000000001)]) (h' := p1_h) (cl' := 94) (sl' := 4156) rfl ?_
        refine ik_Wc 96 3 0 [.ref 66, .int a1, .int 1] [.int (-1000000001)] rfl rfl rfl (by decide) rfl rfl rfl ?_
        refine ik_Wk 2 (pc' := 2) (loc' := [some (.ref 66), some (.int a1), some (.int 1), none]) (st' := [.int a1, .ref 66]) (h' := p1_h) (cl' := 0) (sl' := 0) rfl ?_
        refine ik_Wc 74 2 0 [.ref 66, .int a1] [] rfl rfl rfl (by decide) rfl rfl rfl ?_
        refine ik_Wk 8 (pc' := 10) (loc' := [some (.ref 66), some (.int a1)]) (st' := [.long (-2), .long 0, .long a1.toInt64]) (h' := p1_h) (cl' := 0) (sl' := 0) rfl ?_
        refine ik_Wc 70 3 3 [.long a1.toInt64, .long 0, .long (-2)] [] rfl rfl rfl (by decide) rfl rfl rfl ?_
        refine ik_Wif 4 (c := (lg_cmp a1.toInt64 (0 : Int64)) < 0) 17 6 (loc' := [some (.long a1.toInt64), none, some (.long 0), none, some (.long (-2)), none]) (st' := []) (h' := p1_h) (cl' := 0) (sl' := 0) rfl (fun hc11 => ?_) (fun hc11 => ?_)
        · refine ik_Wk 1 (pc' := 18) (loc' := [some (.long a1.toInt64), none, some (.long 0), none, some (.long (-2)), none]) (st' := [.int 0]) (h' := p1_h) (cl' := 0) (sl' := 0) rfl ?_
          refine ik_Wret rfl rfl ⟨_, _, rfl, rfl, ?_⟩
          refine ik_Wret rfl rfl ⟨_, _, rfl, rfl, ?_⟩
          refine ik_Wk 2 (pc' := 10) (loc' := [some (.ref 66), some (.int a1), some (.int 1), none]) (st' := [.int (-1000000001)]) (h' := p1_h) (cl' := 0) (sl' := 0) rfl ?_
          refine ik_Wret rfl rfl ⟨_, _, rfl, rfl, ?_⟩
          refine ik_Wk 10 (pc' := 1138) (loc' := [some (.retAddr 0), some (.ref 0), some (.ref 66), some (.int 5)]) (st' := [.int 1]) (h' := p1_h) (cl' := 94) (sl' := 4156) rfl ?_
          exact ik_Wret rfl rfl ⟨rfl, rfl, Nat.le_of_ble_eq_true rfl, Nat.le_of_ble_eq_true rfl⟩
        · exfalso
          (try simp only [lg_lt0, lg_gt0] at hc9 hc11) <;> simp only [cv_eq, cv_lt, cv_le, cv_64, (show (0 : Int32).toInt = 0 from by decide), (show (0 : Int64).toInt = 0 from by decide)] at hc9 hc11 <;> omega
    · refine ik_Wif 6 (c := (-1 : Int32) ≤ a1) 18 14 (loc' := [some (.ref 7), some (.int a1)]) (st' := []) (h' := p1_h) (cl' := 0) (sl' := 0) rfl (fun hc12 => ?_) (fun hc12 => ?_)
      · refine ik_Wk 1 (pc' := 19) (loc' := [some (.ref 7), some (.int a1)]) (st' := [.int 0]) (h' := p1_h) (cl' := 0) (sl' := 0) rfl ?_
        refine ik_Wret rfl rfl ⟨_, _, rfl, rfl, ?_⟩
        refine ik_Wk 2 (pc' := 13) (loc' := [some (.ref 0), some (.int a1), some (.int 1), none]) (st' := [.int (-1000000001)]) (h' := p1_h) (cl' := 0) (sl' := 0) rfl ?_
        refine ik_Wret rfl rfl ⟨_, _, rfl, rfl, ?_⟩
        refine ik_Wif 12 (c := a2 = 0) 701 697 (loc' := [some (.retAddr 0), some (.ref 0), some (.ref 66), some (.int 0)]) (st' := [.int a1, .ref 66, .int (-1000000001)]) (h' := p1_h) (cl' := 94) (sl' := 4156) rfl (fun hc13 => ?_) (fun hc13 => ?_)
        · exfalso
          (try simp only [lg_lt0, lg_gt0] at hc1 hc13) <;> simp only [cv_eq, cv_lt, cv_le, cv_64, (show (-1 : Int32).toInt = -1 from by decide), (show (-1 : Int64).toInt = -1 from by decide), (show (0 : Int32).toInt = 0 from by decide), (show (0 : Int64).toInt = 0 from by decide)] at hc1 hc13 <;> omega
        · refine ik_Wk 2 (pc' := 702) (loc' := [some (.retAddr 0), some (.ref 0), some (.ref 66), some (.int 0)]) (st' := [.int 1, .int a1, .ref 66, .int (-1000000001)]) (h' := p1_h) (cl' := 94) (sl' := 4156) rfl ?_
          refine ik_Wc 96 3 0 [.ref 66, .int a1, .int 1] [.int (-1000000001)] rfl rfl rfl (by decide) rfl rfl rfl ?_
          refine ik_Wk 2 (pc' := 2) (loc' := [some (.ref 66), some (.int a1), some (.int 1), none]) (st' := [.int a1, .ref 66]) (h' := p1_h) (cl' := 0) (sl' := 0) rfl ?_
          refine ik_Wc 74 2 0 [.ref 66, .int a1] [] rfl rfl rfl (by decide) rfl rfl rfl ?_
          refine ik_Wk 8 (pc' := 10) (loc' := [some (.ref 66), some (.int a1)]) (st' := [.long (-2), .long 0, .long a1.toInt64]) (h' := p1_h) (cl' := 0) (sl' := 0) rfl ?_
          refine ik_Wc 70 3 3 [.long a1.toInt64, .long 0, .long (-2)] [] rfl rfl rfl (by decide) rfl rfl rfl ?_
          refine ik_Wif 4 (c := (lg_cmp a1.toInt64 (0 : Int64)) < 0) 17 6 (loc' := [some (.long a1.toInt64), none, some (.long 0), none, some (.long (-2)), none]) (st' := []) (h' := p1_h) (cl' := 0) (sl' := 0) rfl (fun hc14 => ?_) (fun hc14 => ?_)
          · exfalso
            (try simp only [lg_lt0, lg_gt0] at hc9 hc12 hc14) <;> simp only [cv_eq, cv_lt, cv_le, cv_64, (show (-1 : Int32).toInt = -1 from by decide), (show (-1 : Int64).toInt = -1 from by decide), (show (0 : Int32).toInt = 0 from by decide), (show (0 : Int64).toInt = 0 from by decide)] at hc9 hc12 hc14 <;> omega
          · refine ik_Wif 4 (c := 0 < (lg_cmp a1.toInt64 (-2 : Int64))) 17 13 (loc' := [some (.long a1.toInt64), none, some (.long 0), none, some (.long (-2)), none]) (st' := []) (h' := p1_h) (cl' := 0) (sl' := 0) rfl (fun hc15 => ?_) (fun hc15 => ?_)
            · refine ik_Wk 1 (pc' := 18) (loc' := [some (.long a1.toInt64), none, some (.long 0), none, some (.long (-2)), none]) (st' := [.int 0]) (h' := p1_h) (cl' := 0) (sl' := 0) rfl ?_
              refine ik_Wret rfl rfl ⟨_, _, rfl, rfl, ?_⟩
              refine ik_Wret rfl rfl ⟨_, _, rfl, rfl, ?_⟩
              refine ik_Wk 2 (pc' := 10) (loc' := [some (.ref 66), some (.int a1), some (.int 1), none]) (st' := [.int (-1000000001)]) (h' := p1_h) (cl' := 0) (sl' := 0) rfl ?_
              refine ik_Wret rfl rfl ⟨_, _, rfl, rfl, ?_⟩
              refine ik_Wk 10 (pc' := 1138) (loc' := [some (.retAddr 0), some (.ref 0), some (.ref 66), some (.int 5)]) (st' := [.int 1]) (h' := p1_h) (cl' := 94) (sl' := 4156) rfl ?_
              exact ik_Wret rfl rfl ⟨rfl, rfl, Nat.le_of_ble_eq_true rfl, Nat.le_of_ble_eq_true rfl⟩
            · exfalso
              (try simp only [lg_lt0, lg_gt0] at hc9 hc12 hc14 hc15) <;> simp only [cv_eq, cv_lt, cv_le, cv_64, (show (-2 : Int32).toInt = -2 from by decide), (show (-2 : Int64).toInt = -2 from by decide), (show (-1 : Int32).toInt = -1 from by decide), (show (-1 : Int64).toInt = -1 from by decide), (show (0 : Int32).toInt = 0 from by decide), (show (0 : Int64).toInt = 0 from by decide)] at hc9 hc12 hc14 hc15 <;> omega
      · exfalso
        (try simp only [lg_lt0, lg_gt0] at hc9 hc12) <;> simp only [cv_eq, cv_lt, cv_le, cv_64, (show (-1 : Int32).toInt = -1 from by decide), (show (-1 : Int64).toInt = -1 from by decide), (show (0 : Int32).toInt = 0 from by decide), (show (0 : Int64).toInt = 0 from by decide)] at hc9 hc12 <;> omega

set_option maxHeartbeats 16000000 in
set_option maxRecDepth 100000 in
/-- run on the new objects -/
theorem p1_k15 (a0 a1 a2 a3 a4 : Int32) : ik_W (some (5, p1_f a0 a1 a2 a3 a4)) 0 743 [some (.retAddr 0), some (.ref 0), some (.ref 66), some (.int 0)] [] p1_h 94 4156 p1_post := by
  refine ik_Wk 11 (pc' := 754) (loc' := [some (.retAddr 0), some (.ref 0), some (.ref 66), some (.int 0)]) (st' := [.int a2, .int a1, .ref 0]) (h' := p1_h) (cl' := 94) (sl' := 4156) rfl ?_
  refine ik_Wc 49 3 0 [.ref 0, .int a1, .int a2] [] rfl rfl rfl (by decide) rfl rfl rfl ?_
  refine ik_Wk 3 (pc' := 5) (loc' := [some (.ref 0), some (.int a1), some (.int a2)]) (st' := [.int a1, .ref 7]) (h' := p1_h) (cl' := 0) (sl' := 0) rfl ?_
  refine ik_Wc 4 2 0 [.ref 7, .int a1] [] rfl rfl rfl (by decide) rfl rfl rfl ?_
  refine ik_Wif 2 (c := a1 < 0) 18 4 (loc' := [some (.ref 7), some (.int a1)]) (st' := []) (h' := p1_h) (cl' := 0) (sl' := 0) rfl (fun hc1 => ?_) (fun hc1 => ?_)
  · refine ik_Wk 1 (pc' := 19) (loc' := [some (.ref 7), some (.int a1)]) (st' := [.int 0]) (h' := p1_h) (cl' := 0) (sl' := 0) rfl ?_
    refine ik_Wret rfl rfl ⟨_, _, rfl, rfl, ?_⟩
    refine ik_Wk 2 (pc' := 13) (loc' := [some (.ref 0), some (.int a1), some (.int a2)]) (st' := [.int (-1000000001)]) (h' := p1_h) (cl' := 0) (sl' := 0) rfl ?_
    refine ik_Wret rfl rfl ⟨_, _, rfl, rfl, ?_⟩
    refine ik_Wk 11 (pc' := 768) (loc' := [some (.retAddr 0), some (.ref 0), some (.ref 66), some (.int 0)]) (st' := [.int a2, .int a1, .ref 66, .int (-1000000001)]) (h' := p1_h) (cl' := 94) (sl' := 4156) rfl ?_
    refine ik_Wc 98 3 0 [.ref 66, .int a1, .int a2] [.int (-1000000001)] rfl rfl rfl (by decide) rfl rfl rfl ?_
    refine ik_Wk 2 (pc' := 2) (loc' := [some (.ref 66), some (.int a1), some (.int a2)]) (st' := [.int a1, .ref 66]) (h' := p1_h) (cl' := 0) (sl' := 0) rfl ?_
    refine ik_Wc 74 2 0 [.ref 66, .int a1] [] rfl rfl rfl (by decide) rfl rfl rfl ?_
    refine ik_Wk 8 (pc' := 10) (loc' := [some (.ref 66), some (.int a1)]) (st' := [.long (-2), .long 0, .long a1.toInt64]) (h' := p1_h) (cl' := 0) (sl' := 0) rfl ?_
    refine ik_Wc 70 3 3 [.long a1.toInt64, .long 0, .long (-2)] [] rfl rfl rfl (by decide) rfl rfl rfl ?_
    refine ik_Wif 4 (c := (lg_cmp a1.toInt64 (0 : Int64)) < 0) 17 6 (loc' := [some (.long a1.toInt64), none, some (.long 0), none, some (.long (-2)), none]) (st' := []) (h' := p1_h) (cl' := 0) (sl' := 0) rfl (fun hc2 => ?_) (fun hc2 => ?_)
    · refine ik_Wk 1 (pc' := 18) (loc' := [some (.long a1.toInt64), none, some (.long 0), none, some (.long (-2)), none]) (st' := [.int 0]) (h' := p1_h) (cl' := 0) (sl' := 0) rfl ?_
      refine ik_Wret rfl rfl ⟨_, _, rfl, rfl, ?_⟩
      refine ik_Wret rfl rfl ⟨_, _, rfl, rfl, ?_⟩
      refine ik_Wk 2 (pc' := 10) (loc' := [some (.ref 66), some (.int a1), some (.int a2)]) (st' := [.int (-1000000001)]) (h' := p1_h) (cl' := 0) (sl' := 0) rfl ?_
      refine ik_Wret rfl rfl ⟨_, _, rfl, rfl, ?_⟩
      refine ik_Wk 10 (pc' := 1138) (loc' := [some (.retAddr 0), some (.ref 0), some (.ref 66), some (.int 5)]) (st' := [.int 1]) (h' := p1_h) (cl' := 94) (sl' := 4156) rfl ?_
      exact ik_Wret rfl rfl ⟨rfl, rfl, Nat.le_of_ble_eq_true rfl, Nat.le_of_ble_eq_true rfl⟩
    · exfalso
      (try simp only [lg_lt0, lg_gt0] at hc1 hc2) <;> simp only [cv_eq, cv_lt, cv_le, cv_64, (show (0 : Int32).toInt = 0 from by decide), (show (0 : Int64).toInt = 0 from by decide)] at hc1 hc2 <;> omega
  · refine ik_Wif 6 (c := (-1 : Int32) ≤ a1) 18 14 (loc' := [some (.ref 7), some (.int a1)]) (st' := []) (h' := p1_h) (cl' := 0) (sl' := 0) rfl (fun hc3 => ?_) (fun hc3 => ?_)
    · refine ik_Wk 1 (pc' := 19) (loc' := [some (.ref 7), some (.int a1)]) (st' := [.int 0]) (h' := p1_h) (cl' := 0) (sl' := 0) rfl ?_
      refine ik_Wret rfl rfl ⟨_, _, rfl, rfl, ?_⟩
      refine ik_Wk 2 (pc' := 13) (loc' := [some (.ref 0), some (.int a1), some (.int a2)]) (st' := [.int (-1000000001)]) (h' := p1_h) (cl' := 0) (sl' := 0) rfl ?_
      refine ik_Wret rfl rfl ⟨_, _, rfl, rfl, ?_⟩
      refine ik_Wk 11 (pc' := 768) (loc' := [some (.retAddr 0), some (.ref 0), some (.ref 66), some (.int 0)]) (st' := [.int a2, .int a1, .ref 66, .int (-1000000001)]) (h' := p1_h) (cl' := 94) (sl' := 4156) rfl ?_
      refine ik_Wc 98 3 0 [.ref 66, .int a1, .int a2] [.int (-1000000001)] rfl rfl rfl (by decide) rfl rfl rfl ?_
      refine ik_Wk 2 (pc' := 2) (loc' := [some (.ref 66), some (.int a1), some (.int a2)]) (st' := [.int a1, .ref 66]) (h' := p1_h) (cl' := 0) (sl' := 0) rfl ?_
      refine ik_Wc 74 2 0 [.ref 66, .int a1] [] rfl rfl rfl (by decide) rfl rfl rfl ?_
      refine ik_Wk 8 (pc' := 10) (loc' := [some (.ref 66), some (.int a1)]) (st' := [.long (-2), .long 0, .long a1.toInt64]) (h' := p1_h) (cl' := 0) (sl' := 0) rfl ?_
      refine ik_Wc 70 3 3 [.long a1.toInt64, .long 0, .long (-2)] [] rfl rfl rfl (by decide) rfl rfl rfl ?_
      refine ik_Wif 4 (c := (lg_cmp a1.toInt64 (0 : Int64)) < 0) 17 6 (loc' := [some (.long a1.toInt64), none, some (.long 0), none, some (.long (-2)), none]) (st' := []) (h' := p1_h) (cl' := 0) (sl' := 0) rfl (fun hc4 => ?_) (fun hc4 => ?_)
      · exfalso
        (try simp only [lg_lt0, lg_gt0] at hc1 hc3 hc4) <;> simp only [cv_eq, cv_lt, cv_le, cv_64, (show (-1 : Int32).toInt = -1 from by decide), (show (-1 : Int64).toInt = -1 from by decide), (show (0 : Int32).toInt = 0 from by decide), (show (0 : Int64).toInt = 0 from by decide)] at hc1 hc3 hc4 <;> omega
      · refine ik_Wif 4 (c := 0 < (lg_cmp a1.toInt64 (-2 : Int64))) 17 13 (loc' := [some (.long a1.toInt64), none, some (.long 0), none, some (.long (-2)), none]) (st' := []) (h' := p1_h) (cl' := 0) (sl' := 0) rfl (fun hc5 => ?_) (fun hc5 => ?_)
        · refine ik_Wk 1 (pc' := 18) (loc' := [some (.long a1.toInt64), none, some (.long 0), none, some (.long (-2)), none]) (st' := [.int 0]) (h' := p1_h) (cl' := 0) (sl' := 0) rfl ?_
          refine ik_Wret rfl rfl ⟨_, _, rfl, rfl, ?_⟩
          refine ik_Wret rfl rfl ⟨_, _, rfl, rfl, ?_⟩
          refine ik_Wk 2 (pc' := 10) (loc' := [some (.ref 66), some (.int a1), some (.int a2)]) (st' := [.int (-1000000001)]) (h' := p1_h) (cl' := 0) (sl' := 0) rfl ?_
          refine ik_Wret rfl rfl ⟨_, _, rfl, rfl, ?_⟩
          refine ik_Wk 10 (pc' := 1138) (loc' := [some (.retAddr 0), some (.ref 0), some (.ref 66), some (.int 5)]) (st' := [.int 1]) (h' := p1_h) (cl' := 94) (sl' := 4156) rfl ?_
          exact ik_Wret rfl rfl ⟨rfl, rfl, Nat.le_of_ble_eq_true rfl, Nat.le_of_ble_eq_true rfl⟩
        · exfalso
          (try simp only [lg_lt0, lg_gt0] at hc1 hc3 hc4 hc5) <;> simp only [cv_eq, cv_lt, cv_le, cv_64, (show (-2 : Int32).toInt = -2 from by decide), (show (-2 : Int64).toInt = -2 from by decide), (show (-1 : Int32).toInt = -1 from by decide), (show (-1 : Int64).toInt = -1 from by decide), (show (0 : Int32).toInt = 0 from by decide), (show (0 : Int64).toInt = 0 from by decide)] at hc1 hc3 hc4 hc5 <;> omega
    · exfalso
      (try simp only [lg_lt0, lg_gt0] at hc1 hc3) <;> simp only [cv_eq, cv_lt, cv_le, cv_64, (show (-1 : Int32).toInt = -1 from by decide), (show (-1 : Int64).toInt = -1 from by decide), (show (0 : Int32).toInt = 0 from by decide), (show (0 : Int64).toInt = 0 from by decide)] at hc1 hc3 <;> omega

set_option maxHeartbeats 16000000 in
set_option maxRecDepth 100000 in
/-- fit on the new objects -/
theorem p1_k17 (a0 a1 a2 a3 a4 : Int32) : ik_W (some (5, p1_f a0 a1 a2 a3 a4)) 0 789 [some (.retAddr 0), some (.ref 0), some (.ref 66), some (.int 0)] [] p1_h 94 4156 p1_post := by
  rcases p1_sp1 a1 (-1) with rfl | hs1
  · refine ik_Wk 6 (pc' := 795) (loc' := [some (.retAddr 0), some (.ref 0), some (.ref 66), some (.int 0)]) (st' := [.int (-1), .ref 0]) (h' := p1_h) (cl' := 94) (sl' := 4156) rfl ?_
    refine ik_Wce 51 2 0 [.ref 0, .int (-1)] [] _ [.int 1000000000] p1_r23 rfl rfl rfl (by decide) rfl rfl rfl rfl rfl ?_
    refine ik_Wk 6 (pc' := 804) (loc' := [some (.retAddr 0), some (.ref 0), some (.ref 66), some (.int 0)]) (st' := [.int (-1), .ref 66, .int 1000000000]) (h' := p1_h) (cl' := 94) (sl' := 4156) rfl ?_
    refine ik_Wce 102 2 0 [.ref 66, .int (-1)] [.int 1000000000] _ [.int 1000000000] p1_r24 rfl rfl rfl (by decide) rfl rfl rfl rfl rfl ?_
    refine ik_Wk 10 (pc' := 1138) (loc' := [some (.retAddr 0), some (.ref 0), some (.ref 66), some (.int 5)]) (st' := [.int 1]) (h' := p1_h) (cl' := 94) (sl' := 4156) rfl ?_
    exact ik_Wret rfl rfl ⟨rfl, rfl, Nat.le_of_ble_eq_true rfl, Nat.le_of_ble_eq_true rfl⟩
  · have hs1_0 := hs1
    refine ik_Wk 6 (pc' := 795) (loc' := [some (.retAddr 0), some (.ref 0), some (.ref 66), some (.int 0)]) (st' := [.int a1, .ref 0]) (h' := p1_h) (cl' := 94) (sl' := 4156) rfl ?_
    refine ik_Wc 51 2 0 [.ref 0, .int a1] [] rfl rfl rfl (by decide) rfl rfl rfl ?_
    refine ik_Wif 3 (c := a1 = (-1 : Int32)) 5 22 (loc' := [some (.ref 0), some (.int a1)]) (st' := []) (h' := p1_h) (cl' := 0) (sl' := 0) rfl (fun hc2 => ?_) (fun hc2 => ?_)
    · exfalso
      (try simp only [lg_lt0, lg_gt0] at hs1_0 hc2) <;> simp only [cv_eq, cv_lt, cv_le, cv_64, (show (-1 : Int32).toInt = -1 from by decide), (show (-1 : Int64).toInt = -1 from by decide), (show (0 : Int32).toInt = 0 from by decide), (show (0 : Int64).toInt = 0 from by decide)] at hs1_0 hc2 <;> omega
    · refine ik_Wk 3 (pc' := 27) (loc' := [some (.ref 0), some (.int a1)]) (st' := [.int a1, .ref 7]) (h' := p1_h) (cl' := 0) (sl' := 0) rfl ?_
      refine ik_Wc 4 2 0 [.ref 7, .int a1] [] rfl rfl rfl (by decide) rfl rfl rfl ?_
      refine ik_Wif 2 (c := a1 < 0) 18 4 (loc' := [some (.ref 7), some (.int a1)]) (st' := []) (h' := p1_h) (cl' := 0) (sl' := 0) rfl (fun hc3 => ?_) (fun hc3 => ?_)
      · refine ik_Wk 1 (pc' := 19) (loc' := [some (.ref 7), some (.int a1)]) (st' := [.int 0]) (h' := p1_h) (cl' := 0) (sl' := 0) rfl ?_
        refine ik_Wret rfl rfl ⟨_, _, rfl, rfl, ?_⟩
        refine ik_Wk 2 (pc' := 35) (loc' := [some (.ref 0), some (.int a1)]) (st' := [.int (-1000000001)]) (h' := p1_h) (cl' := 0) (sl' := 0) rfl ?_
        refine ik_Wret rfl rfl ⟨_, _, rfl, rfl, ?_⟩
        refine ik_Wk 6 (pc' := 804) (loc' := [some (.retAddr 0), some (.ref 0), some (.ref 66), some (.int 0)]) (st' := [.int a1, .ref 66, .int (-1000000001)]) (h' := p1_h) (cl' := 94) (sl' := 4156) rfl ?_
        refine ik_Wc 102 2 0 [.ref 66, .int a1] [.int (-1000000001)] rfl rfl rfl (by decide) rfl rfl rfl ?_
        refine ik_Wif 3 (c := a1 = (-1 : Int32)) 13 5 (loc' := [some (.ref 66), some (.int a1)]) (st' := []) (h' := p1_h) (cl' := 0) (sl' := 0) rfl (fun hc4 => ?_) (fun hc4 => ?_)
        · exfalso
          (try simp only [lg_lt0, lg_gt0] at hs1_0 hc2 hc3 hc4) <;> simp only [cv_eq, cv_lt, cv_le, cv_64, (show (-1 : Int32).toInt = -1 from by decide), (show (-1 : Int64).toInt = -1 from by decide), (show (0 : Int32).toInt = 0 from by decide), (show (0 : Int64).toInt = 0 from by decide)] at hs1_0 hc2 hc3 hc4 <;> omega
        · refine ik_Wk 2 (pc' := 7) (loc' := [some (.ref 66), some (.int a1)]) (st' := [.int a1, .ref 66]) (h' := p1_h) (cl' := 0) (sl' := 0) rfl ?_
          refine ik_Wc 74 2 0 [.ref 66, .int a1] [] rfl rfl rfl (by decide) rfl rfl rfl ?_
          refine ik_Wk 8 (pc' := 10) (loc' := [some (.ref 66), some (.int a1)]) (st' := [.long (-2), .long 0, .long a1.toInt64]) (h' := p1_h) (cl' := 0) (sl' := 0) rfl ?_
          refine ik_Wc 70 3 3 [.long a1.toInt64, .long 0, .long (-2)] [] rfl rfl rfl (by decide) rfl rfl rfl ?_
          refine ik_Wif 4 (c := (lg_cmp a1.toInt64 (0 : Int64)) < 0) 17 6 (loc' := [some (.long a1.toInt64), none, some (.long 0), none, some (.long (-2)), none]) (st' := []) (h' := p1_h) (cl' := 0) (sl' := 0) rfl (fun hc5 => ?_) (fun hc5 => ?_)
          · refine ik_Wk 1 (pc' := 18) (loc' := [some (.long a1.toInt64), none, some (.long 0), none, some (.long (-2)), none]) (st' := [.int 0]) (h' := p1_h) (cl' := 0) (sl' := 0) rfl ?_
            refine ik_Wret rfl rfl ⟨_, _, rfl, rfl, ?_⟩
            refine ik_Wret rfl rfl ⟨_, _, rfl, rfl, ?_⟩
            refine ik_Wk 2 (pc' := 23) (loc' := [some (.ref 66), some (.int a1)]) (st' := [.int (-1000000001)]) (h' := p1_h) (cl' := 0) (sl' := 0) rfl ?_
            refine ik_Wret rfl rfl ⟨_, _, rfl, rfl, ?_⟩
            refine ik_Wk 10 (pc' := 1138) (loc' := [some (.retAddr 0), some (.ref 0), some (.ref 66), some (.int 5)]) (st' := [.int 1]) (h' := p1_h) (cl' := 94) (sl' := 4156) rfl ?_
            exact ik_Wret rfl rfl ⟨rfl, rfl, Nat.le_of_ble_eq_true rfl, Nat.le_of_ble_eq_true rfl⟩
          · exfalso
            (try simp only [lg_lt0, lg_gt0] at hs1_0 hc2 hc3 hc4 hc5) <;> simp only [cv_eq, cv_lt, cv_le, cv_64, (show (-1 : Int32).toInt = -1 from by decide), (show (-1 : Int64).toInt = -1 from by decide), (show (0 : Int32).toInt = 0 from by decide), (show (0 : Int64).toInt = 0 from by decide)] at hs1_0 hc2 hc3 hc4 hc5 <;> omega
      · refine ik_Wif 6 (c := (-1 : Int32) ≤ a1) 18 14 (loc' := [some (.ref 7), some (.int a1)]) (st' := []) (h' := p1_h) (cl' := 0) (sl' := 0) rfl (fun hc6 => ?_) (fun hc6 => ?_)
        · refine ik_Wk 1 (pc' := 19) (loc' := [some (.ref 7), some (.int a1)]) (st' := [.int 0]) (h' := p1_h) (cl' := 0) (sl' := 0) rfl ?_
          refine ik_Wret rfl rfl ⟨_, _, rfl, rfl, ?_⟩
          refine ik_Wk 2 (pc' := 35) (loc' := [some (.ref 0), some (.int a1)]) (st' := [.int (-1000000001)]) (h' := p1_h) (cl' := 0) (sl' := 0) rfl ?_
          refine ik_Wret rfl rfl ⟨_, _, rfl, rfl, ?_⟩
          refine ik_Wk 6 (pc' := 804) (loc' := [some (.retAddr 0), some (.ref 0), some (.ref 66), some (.int 0)]) (st' := [.int a1, .ref 66, .int (-1000000001)]) (h' := p1_h) (cl' := 94) (sl' := 4156) rfl ?_
          refine ik_Wc 102 2 0 [.ref 66, .int a1] [.int (-1000000001)] rfl rfl rfl (by decide) rfl rfl rfl ?_
          refine ik_Wif 3 (c := a1 = (-1 : Int32)) 13 5 (loc' := [some (.ref 66), some (.int a1)]) (st' := []) (h' := p1_h) (cl' := 0) (sl' := 0) rfl (fun hc7 => ?_) (fun hc7 => ?_)
          · exfalso
            (try simp only [lg_lt0, lg_gt0] at hs1_0 hc2 hc3 hc6 hc7) <;> simp only [cv_eq, cv_lt, cv_le, cv_64, (show (-1 : Int32).toInt = -1 from by decide), (show (-1 : Int64).toInt = -1 from by decide), (show (0 : Int32).toInt = 0 from by decide), (show (0 : Int64).toInt = 0 from by decide)] at hs1_0 hc2 hc3 hc6 hc7 <;> omega
          · refine ik_Wk 2 (pc' := 7) (loc' := [some (.ref 66), some (.int a1)]) (st' := [.int a1, .ref 66]) (h' := p1_h) (cl' := 0) (sl' := 0) rfl ?_
            refine ik_Wc 74 2 0 [.ref 66, .int a1] [] rfl rfl rfl (by decide) rfl rfl rfl ?_
            refine ik_Wk 8 (pc' := 10) (loc' := [some (.ref 66), some (.int a1)]) (st' := [.long (-2), .long 0, .long a1.toInt64]) (h' := p1_h) (cl' := 0) (sl' := 0) rfl ?_
            refine ik_Wc 70 3 3 [.long a1.toInt64, .long 0, .long (-2)] [] rfl rfl rfl (by decide) rfl rfl rfl ?_
            refine ik_Wif 4 (c := (lg_cmp a1.toInt64 (0 : Int64)) < 0) 17 6 (loc' := [some (.long a1.toInt64), none, some (.long 0), none, some (.long (-2)), none]) (st' := []) (h' := p1_h) (cl' := 0) (sl' := 0) rfl (fun hc8 => ?_) (fun hc8 => ?_)
            · exfalso
              (try simp only [lg_lt0, lg_gt0] at hs1_0 hc2 hc3 hc6 hc7 hc8) <;> simp only [cv_eq, cv_lt, cv_le, cv_64, (show (-1 : Int32).toInt = -1 from by decide), (show (-1 : Int64).toInt = -1 from by decide), (show (0 : Int32).toInt = 0 from by decide), (show (0 : Int64).toInt = 0 from by decide)] at hs1_0 hc2 hc3 hc6 hc7 hc8 <;> omega
            · refine ik_Wif 4 (c := 0 < (lg_cmp a1.toInt64 (-2 : Int64))) 17 13 (loc' := [some (.long a1.toInt64), none, some (.long 0), none, some (.long (-2)), none]) (st' := []) (h' := p1_h) (cl' := 0) (sl' := 0) rfl (fun hc9 => ?_) (fun hc9 => ?_)
              · refine ik_Wk 1 (pc' := 18) (loc' := [some (.long a1.toInt64), none, some (.long 0), none, some (.long (-2)), none]) (st' := [.int 0]) (h' := p1_h) (cl' := 0) (sl' := 0) rfl ?_
                refine ik_Wret rfl rfl ⟨_, _, rfl, rfl, ?_⟩
                refine ik_Wret rfl rfl ⟨_, _, rfl, rfl, ?_⟩
                refine ik_Wk 2 (pc' := 23) (loc' := [some (.ref 66), some (.int a1)]) (st' := [.int (-1000000001)]) (h' := p1_h) (cl' := 0) (sl' := 0) rfl ?_
                refine ik_Wret rfl rfl ⟨_, _, rfl, rfl, ?_⟩
                refine ik_Wk 10 (pc' := 1138) (loc' := [some (.retAddr 0), some (.ref 0), some (.ref 66), some (.int 5)]) (st' := [.int 1]) (h' := p1_h) (cl' := 94) (sl' := 4156) rfl ?_
                exact ik_Wret rfl rfl ⟨rfl, rfl, Nat.le_of_ble_eq_true rfl, Nat.le_of_ble_eq_true rfl⟩
              · exfalso
                (try simp only [lg_lt0, lg_gt0] at hs1_0 hc2 hc3 hc6 hc7 hc8 hc9) <;> simp only [cv_eq, cv_lt, cv_le, cv_64, (show (-2 : Int32).toInt = -2 from by decide), (show (-2 : Int64).toInt = -2 from by decide), (show (-1 : Int32).toInt = -1 from by decide), (show (-1 : Int64).toInt = -1 from by decide), (show (0 : Int32).toInt = 0 from by decide), (show (0 : Int64).toInt = 0 from by decide)] at hs1_0 hc2 hc3 hc6 hc7 hc8 hc9 <;> omega
        · exfalso
          (try simp only [lg_lt0, lg_gt0] at hs1_0 hc2 hc3 hc6) <;> simp only [cv_eq, cv_lt, cv_le, cv_64, (show (-1 : Int32).toInt = -1 from by decide), (show (-1 : Int64).toInt = -1 from by decide), (show (0 : Int32).toInt = 0 from by decide), (show (0 : Int64).toInt = 0 from by decide)] at hs1_0 hc2 hc3 hc6 <;> omega

set_option maxHeartbeats 16000000 in
set_option maxRecDepth 100000 in
/-- dig on the new objects -/
theorem p1_k19 (a0 a1 a2 a3 a4 : Int32) : ik_W (some (5, p1_f a0 a1 a2 a3 a4)) 0 825 [some (.retAddr 0), some (.ref 0), some (.ref 66), some (.int 0)] [] p1_h 94 4156 p1_post := by
  refine ik_Wk 21 (pc' := 846) (loc' := [some (.retAddr 0), some (.ref 0), some (.ref 66), some (.int 0)]) (st' := [.int a4, .int a3, .int a2, .int a1, .ref 0]) (h' := p1_h) (cl' := 94) (sl' := 4156) rfl ?_
  refine ik_Wc 53 5 0 [.ref 0, .int a1, .int a2, .int a3, .int a4] [] rfl rfl rfl (by decide) rfl rfl rfl ?_
  refine ik_Wk 3 (pc' := 5) (loc' := [some (.ref 0), some (.int a1), some (.int a2), some (.int a3), some (.int a4)]) (st' := [.int a1, .ref 7]) (h' := p1_h) (cl' := 0) (sl' := 0) rfl ?_
  refine ik_Wc 3 2 0 [.ref 7, .int a1] [] rfl rfl rfl (by decide) rfl rfl rfl ?_
  refine ik_Wif 2 (c := a1 < 0) 16 4 (loc' := [some (.ref 7), some (.int a1)]) (st' := []) (h' := p1_h) (cl' := 0) (sl' := 0) rfl (fun hc1 => ?_) (fun hc1 => ?_)
  · refine ik_Wk 1 (pc' := 17) (loc' := [some (.ref 7), some (.int a1)]) (st' := [.int 0]) (h' := p1_h) (cl' := 0) (sl' := 0) rfl ?_
    refine ik_Wret rfl rfl ⟨_, _, rfl, rfl, ?_⟩
    refine ik_Wk 2 (pc' := 26) (loc' := [some (.ref 0), some (.int a1), some (.int a2), some (.int a3), some (.int a4)]) (st' := [.int (-1000000001)]) (h' := p1_h) (cl' := 0) (sl' := 0) rfl ?_
    refine ik_Wret rfl rfl ⟨_, _, rfl, rfl, ?_⟩
    refine ik_Wk 21 (pc' := 870) (loc' := [some (.retAddr 0), some (.ref 0), some (.ref 66), some (.int 0)]) (st' := [.int a4, .int a3, .int a2, .int a1, .ref 66, .int (-1000000001)]) (h' := p1_h) (cl' := 94) (sl' := 4156) rfl ?_
    refine ik_Wc 104 5 0 [.ref 66, .int a1, .int a2, .int a3, .int a4] [.int (-1000000001)] rfl rfl rfl (by decide) rfl rfl rfl ?_
    refine ik_Wk 2 (pc' := 2) (loc' := [some (.ref 66), some (.int a1), some (.int a2), some (.int a3), some (.int a4)]) (st' := [.int a1, .ref 66]) (h' := p1_h) (cl' := 0) (sl' := 0) rfl ?_
    refine ik_Wc 74 2 0 [.ref 66, .int a1] [] rfl rfl rfl (by decide) rfl rfl rfl ?_
    refine ik_Wk 8 (pc' := 10) (loc' := [some (.ref 66), some (.int a1)]) (st' := [.long (-2), .long 0, .long a1.toInt64]) (h' := p1_h) (cl' := 0) (sl' := 0) rfl ?_
    refine ik_Wc 70 3 3 [.long a1.toInt64, .long 0, .long (-2)] [] rfl rfl rfl (by decide) rfl rfl rfl ?_
    refine ik_Wif 4 (c := (lg_cmp a1.toInt64 (0 : Int64)) < 0) 17 6 (loc' := [some (.long a1.toInt64), none, some (.long 0), none, some (.long (-2)), none]) (st' := []) (h' := p1_h) (cl' := 0) (sl' := 0) rfl (fun hc2 => ?_) (fun hc2 => ?_)
    · refine ik_Wk 1 (pc' := 18) (loc' := [some (.long a1.toInt64), none, some (.long 0), none, some (.long (-2)), none]) (st' := [.int 0]) (h' := p1_h) (cl' := 0) (sl' := 0) rfl ?_
      refine ik_Wret rfl rfl ⟨_, _, rfl, rfl, ?_⟩
      refine ik_Wret rfl rfl ⟨_, _, rfl, rfl, ?_⟩
      refine ik_Wk 2 (pc' := 51) (loc' := [some (.ref 66), some (.int a1), some (.int a2), some (.int a3), some (.int a4)]) (st' := [.int (-1000000001)]) (h' := p1_h) (cl' := 0) (sl' := 0) rfl ?_
      refine ik_Wret rfl rfl ⟨_, _, rfl, rfl, ?_⟩
      refine ik_Wk 10 (pc' := 1138) (loc' := [some (.retAddr 0), some (.ref 0), some (.ref 66), some (.int 5)]) (st' := [.int 1]) (h' := p1_h) (cl' := 94) (sl' := 4156) rfl ?_
      exact ik_Wret rfl rfl ⟨rfl, rfl, Nat.le_of_ble_eq_true rfl, Nat.le_of_ble_eq_true rfl⟩
    · exfalso
      (try simp only [lg_lt0, lg_gt0] at hc1 hc2) <;> simp only [cv_eq, cv_lt, cv_le, cv_64, (show (0 : Int32).toInt = 0 from by decide), (show (0 : Int64).toInt = 0 from by decide)] at hc1 hc2 <;> omega
  · refine ik_Wif 4 (c := (0 : Int32) ≤ a1) 16 12 (loc' := [some (.ref 7), some (.int a1)]) (st' := []) (h' := p1_h) (cl' := 0) (sl' := 0) rfl (fun hc3 => ?_) (fun hc3 => ?_)
    · refine ik_Wk 1 (pc' := 17) (loc' := [some (.ref 7), some (.int a1)]) (st' := [.int 0]) (h' := p1_h) (cl' := 0) (sl' := 0) rfl ?_
      refine ik_Wret rfl rfl ⟨_, _, rfl, rfl, ?_⟩
      refine ik_Wk 2 (pc' := 26) (loc' := [some (.ref 0), some (.int a1), some (.int a2), some (.int a3), some (.int a4)]) (st' := [.int (-1000000001)]) (h' := p1_h) (cl' := 0) (sl' := 0) rfl ?_
      refine ik_Wret rfl rfl ⟨_, _, rfl, rfl, ?_⟩
      refine ik_Wk 21 (pc' := 870) (loc' := [some (.retAddr 0), some (.ref 0), some (.ref 66), some (.int 0)]) (st' := [.int a4, .int a3, .int a2, .int a1, .ref 66, .int (-1000000001)]) (h' := p1_h) (cl' := 94) (sl' := 4156) rfl ?_
      refine ik_Wc 104 5 0 [.ref 66, .int a1, .int a2, .int a3, .int a4] [.int (-1000000001)] rfl rfl rfl (by decide) rfl rfl rfl ?_
      refine ik_Wk 2 (pc' := 2) (loc' := [some (.ref 66), some (.int a1), some (.int a2), some (.int a3), some (.int a4)]) (st' := [.int a1, .ref 66]) (h' := p1_h) (cl' := 0) (sl' := 0) rfl ?_
      refine ik_Wc 74 2 0 [.ref 66, .int a1] [] rfl rfl rfl (by decide) rfl rfl rfl ?_
      refine ik_Wk 8 (pc' := 10) (loc' := [some (.ref 66), some (.int a1)]) (st' := [.long (-2), .long 0, .long a1.toInt64]) (h' := p1_h) (cl' := 0) (sl' := 0) rfl ?_
      refine ik_Wc 70 3 3 [.long a1.toInt64, .long 0, .long (-2)] [] rfl rfl rfl (by decide) rfl rfl rfl ?_
      refine ik_Wif 4 (c := (lg_cmp a1.toInt64 (0 : Int64)) < 0) 17 6 (loc' := [some (.long a1.toInt64), none, some (.long 0), none, some (.long (-2)), none]) (st' := []) (h' := p1_h) (cl' := 0) (sl' := 0) rfl (fun hc4 => ?_) (fun hc4 => ?_)
      · exfalso
        (try simp only [lg_lt0, lg_gt0] at hc1 hc3 hc4) <;> simp only [cv_eq, cv_lt, cv_le, cv_64, (show (0 : Int32).toInt = 0 from by decide), (show (0 : Int64).toInt = 0 from by decide)] at hc1 hc3 hc4 <;> omega
      · refine ik_Wif 4 (c := 0 < (lg_cmp a1.toInt64 (-2 : Int64))) 17 13 (loc' := [some (.long a1.toInt64), none, some (.long 0), none, some (.long (-2)), none]) (st' := []) (h' := p1_h) (cl' := 0) (sl' := 0) rfl (fun hc5 => ?_) (fun hc5 => ?_)
        · refine ik_Wk 1 (pc' := 18) (loc' := [some (.long a1.toInt64), none, some (.long 0), none, some (.long (-2)), none]) (st' := [.int 0]) (h' := p1_h) (cl' := 0) (sl' := 0) rfl ?_
          refine ik_Wret rfl rfl ⟨_, _, rfl, rfl, ?_⟩
          refine ik_Wret rfl rfl ⟨_, _, rfl, rfl, ?_⟩
          refine ik_Wk 2 (pc' := 51) (loc' := [some (.ref 66), some (.int a1), some (.int a2), some (.int a3), some (.int a4)]) (st' := [.int (-1000000001)]) (h' := p1_h) (cl' := 0) (sl' := 0) rfl ?_
          refine ik_Wret rfl rfl ⟨_, _, rfl, rfl, ?_⟩
          refine ik_Wk 10 (pc' := 1138) (loc' := [some (.retAddr 0), some (.ref 0), some (.ref 66), some (.int 5)]) (st' := [.int 1]) (h' := p1_h) (cl' := 94) (sl' := 4156) rfl ?_
          exact ik_Wret rfl rfl ⟨rfl, rfl, Nat.le_of_ble_eq_true rfl, Nat.le_of_ble_eq_true rfl⟩
        · exfalso
          (try simp only [lg_lt0, lg_gt0] at hc1 hc3 hc4 hc5) <;> simp only [cv_eq, cv_lt, cv_le, cv_64, (show (-2 : Int32).toInt = -2 from by decide), (show (-2 : Int64).toInt = -2 from by decide), (show (0 : Int32).toInt = 0 from by decide), (show (0 : Int64).toInt = 0 from by decide)] at hc1 hc3 hc4 hc5 <;> omega
    · exfalso
      (try simp only [lg_lt0, lg_gt0] at hc1 hc3) <;> simp only [cv_eq, cv_lt, cv_le, cv_64, (show (0 : Int32).toInt = 0 from by decide), (show (0 : Int64).toInt = 0 from by decide)] at hc1 hc3 <;> omega
