set_option maxHeartbeats 16000000 in
set_option maxRecDepth 100000 in
/-- log on the new objects -/
theorem p1_k25 (a0 a1 a2 a3 a4 : Int32) : ik_W (some (5, p1_f a0 a1 a2 a3 a4)) 0 993 [some (.retAddr 0), some (.ref 0), some (.ref 66), some (.int 0)] [] p1_h 94 4156 p1_post := by
  rcases p1_sp2 a1 (0) (1) with rfl | rfl | hs1
  · rcases p1_sp1 a2 (12) with rfl | hs2
    · refine ik_Wk 11 (pc' := 1004) (loc' := [some (.retAddr 0), some (.ref 0), some (.ref 66), some (.int 0)]) (st' := [.int 12, .int 0, .ref 0]) (h' := p1_h) (cl' := 94) (sl' := 4156) rfl ?_
      refine ik_Wce 59 3 0 [.ref 0, .int 0, .int 12] [] _ [.int 1] p1_r33 rfl rfl rfl (by decide) rfl rfl rfl rfl rfl ?_
      refine ik_Wk 11 (pc' := 1018) (loc' := [some (.retAddr 0), some (.ref 0), some (.ref 66), some (.int 0)]) (st' := [.int 12, .int 0, .ref 66, .int 1]) (h' := p1_h1) (cl' := 94) (sl' := 4156) rfl ?_
      refine ik_Wce 111 3 0 [.ref 66, .int 0, .int 12] [.int 1] _ [.int 1] p1_r34 rfl rfl rfl (by decide) rfl rfl rfl rfl rfl ?_
      refine ik_Wk 10 (pc' := 1138) (loc' := [some (.retAddr 0), some (.ref 0), some (.ref 66), some (.int 5)]) (st' := [.int 1]) (h' := p1_h2) (cl' := 94) (sl' := 4156) rfl ?_
      exact ik_Wret rfl rfl ⟨rfl, rfl, Nat.le_of_ble_eq_true rfl, Nat.le_of_ble_eq_true rfl⟩
    · have hs2_0 := hs2
      refine ik_Wk 11 (pc' := 1004) (loc' := [some (.retAddr 0), some (.ref 0), some (.ref 66), some (.int 0)]) (st' := [.int a2, .int 0, .ref 0]) (h' := p1_h) (cl' := 94) (sl' := 4156) rfl ?_
      refine ik_Wc 59 3 0 [.ref 0, .int 0, .int a2] [] rfl rfl rfl (by decide) rfl rfl rfl ?_
      refine ik_Wk 1 (pc' := 1) (loc' := [some (.ref 0), some (.int 0), some (.int a2)]) (st' := [.int 0]) (h' := p1_h) (cl' := 0) (sl' := 0) rfl ?_
      refine ik_Wc 65 1 3 [.int 0] [] rfl rfl rfl (by decide) rfl rfl rfl ?_
      refine ik_Wk 4 (pc' := 14) (loc' := [some (.int 0)]) (st' := [.int 1]) (h' := p1_h) (cl' := 0) (sl' := 0) rfl ?_
      refine ik_Wret rfl rfl ⟨_, _, rfl, rfl, ?_⟩
      refine ik_Wif 4 (c := a2 = (12 : Int32)) 27 13 (loc' := [some (.ref 0), some (.int 0), some (.int a2)]) (st' := []) (h' := p1_h) (cl' := 0) (sl' := 0) rfl (fun hc3 => ?_) (fun hc3 => ?_)
      · exfalso
        (try simp only [lg_lt0, lg_gt0] at hs2_0 hc3) <;> simp only [cv_eq, cv_lt, cv_le, cv_64, (show (0 : Int32).toInt = 0 from by decide), (show (0 : Int64).toInt = 0 from by decide), (show (12 : Int32).toInt = 12 from by decide), (show (12 : Int64).toInt = 12 from by decide)] at hs2_0 hc3 <;> omega
      · refine ik_Wk 3 (pc' := 18) (loc' := [some (.ref 0), some (.int 0), some (.int a2)]) (st' := [.int a2, .ref 7]) (h' := p1_h) (cl' := 0) (sl' := 0) rfl ?_
        refine ik_Wc 3 2 0 [.ref 7, .int a2] [] rfl rfl rfl (by decide) rfl rfl rfl ?_
        refine ik_Wif 2 (c := a2 < 0) 16 4 (loc' := [some (.ref 7), some (.int a2)]) (st' := []) (h' := p1_h) (cl' := 0) (sl' := 0) rfl (fun hc4 => ?_) (fun hc4 => ?_)
        · refine ik_Wk 1 (pc' := 17) (loc' := [some (.ref 7), some (.int a2)]) (st' := [.int 0]) (h' := p1_h) (cl' := 0) (sl' := 0) rfl ?_
          refine ik_Wret rfl rfl ⟨_, _, rfl, rfl, ?_⟩
          refine ik_Wk 2 (pc' := 26) (loc' := [some (.ref 0), some (.int 0), some (.int a2)]) (st' := [.int (-1000000001)]) (h' := p1_h) (cl' := 0) (sl' := 0) rfl ?_
          refine ik_Wret rfl rfl ⟨_, _, rfl, rfl, ?_⟩
          refine ik_Wk 11 (pc' := 1018) (loc' := [some (.retAddr 0), some (.ref 0), some (.ref 66), some (.int 0)]) (st' := [.int a2, .int 0, .ref 66, .int (-1000000001)]) (h' := p1_h) (cl' := 94) (sl' := 4156) rfl ?_
          refine ik_Wc 111 3 0 [.ref 66, .int 0, .int a2] [.int (-1000000001)] rfl rfl rfl (by decide) rfl rfl rfl ?_
          refine ik_Wk 1 (pc' := 1) (loc' := [some (.ref 66), some (.int 0), some (.int a2)]) (st' := [.int 0]) (h' := p1_h) (cl' := 0) (sl' := 0) rfl ?_
          refine ik_Wc 75 1 3 [.int 0] [] rfl rfl rfl (by decide) rfl rfl rfl ?_
          refine ik_Wk 4 (pc' := 4) (loc' := [some (.int 0)]) (st' := [.long 1, .long 0, .long 0]) (h' := p1_h) (cl' := 0) (sl' := 0) rfl ?_
          refine ik_Wc 70 3 3 [.long 0, .long 0, .long 1] [] rfl rfl rfl (by decide) rfl rfl rfl ?_
          refine ik_Wk 10 (pc' := 18) (loc' := [some (.long 0), none, some (.long 0), none, some (.long 1), none]) (st' := [.int 1]) (h' := p1_h) (cl' := 0) (sl' := 0) rfl ?_
          refine ik_Wret rfl rfl ⟨_, _, rfl, rfl, ?_⟩
          refine ik_Wret rfl rfl ⟨_, _, rfl, rfl, ?_⟩
          refine ik_Wif 4 (c := a2 = (12 : Int32)) 24 13 (loc' := [some (.ref 66), some (.int 0), some (.int a2)]) (st' := []) (h' := p1_h) (cl' := 0) (sl' := 0) rfl (fun hc5 => ?_) (fun hc5 => ?_)
          · exfalso
            (try simp only [lg_lt0, lg_gt0] at hs2_0 hc3 hc4 hc5) <;> simp only [cv_eq, cv_lt, cv_le, cv_64, (show (0 : Int32).toInt = 0 from by decide), (show (0 : Int64).toInt = 0 from by decide), (show (12 : Int32).toInt = 12 from by decide), (show (12 : Int64).toInt = 12 from by decide)] at hs2_0 hc3 hc4 hc5 <;> omega
          · refine ik_Wk 2 (pc' := 15) (loc' := [some (.ref 66), some (.int 0), some (.int a2)]) (st' := [.int a2, .ref 66]) (h' := p1_h) (cl' := 0) (sl' := 0) rfl ?_
            refine ik_Wc 72 2 0 [.ref 66, .int a2] [] rfl rfl rfl (by decide) rfl rfl rfl ?_
            refine ik_Wk 8 (pc' := 10) (loc' := [some (.ref 66), some (.int a2)]) (st' := [.long (-1), .long 0, .long a2.toInt64]) (h' := p1_h) (cl' := 0) (sl' := 0) rfl ?_
            refine ik_Wc 70 3 3 [.long a2.toInt64, .long 0, .long (-1)] [] rfl rfl rfl (by decide) rfl rfl rfl ?_
            refine ik_Wif 4 (c := (lg_cmp a2.toInt64 (0 : Int64)) < 0) 17 6 (loc' := [some (.long a2.toInt64), none, some (.long 0), none, some (.long (-1)), none]) (st' := []) (h' := p1_h) (cl' := 0) (sl' := 0) rfl (fun hc6 => ?_) (fun hc6 => ?_)
            · refine ik_Wk 1 (pc' := 18) (loc' := [some (.long a2.toInt64), none, some (.long 0), none, some (.long (-1)), none]) (st' := [.int 0]) (h' := p1_h) (cl' := 0) (sl' := 0) rfl ?_
              refine ik_Wret rfl rfl ⟨_, _, rfl, rfl, ?_⟩
              refine ik_Wret rfl rfl ⟨_, _, rfl, rfl, ?_⟩
              refine ik_Wk 2 (pc' := 23) (loc' := [some (.ref 66), some (.int 0), some (.int a2)]) (st' := [.int (-1000000001)]) (h' := p1_h) (cl' := 0) (sl' := 0) rfl ?_
              refine ik_Wret rfl rfl ⟨_, _, rfl, rfl, ?_⟩
              refine ik_Wk 10 (pc' := 1138) (loc' := [some (.retAddr 0), some (.ref 0), some (.ref 66), some (.int 5)]) (st' := [.int 1]) (h' := p1_h) (cl' := 94) (sl' := 4156) rfl ?_
              exact ik_Wret rfl rfl ⟨rfl, rfl, Nat.le_of_ble_eq_true rfl, Nat.le_of_ble_eq_true rfl⟩
            · exfalso
              (try simp only [lg_lt0, lg_gt0] at hs2_0 hc3 hc4 hc5 hc6) <;> simp only [cv_eq, cv_lt, cv_le, cv_64, (show (0 : Int32).toInt = 0 from by decide), (show (0 : Int64).toInt = 0 from by decide), (show (12 : Int32).toInt = 12 from by decide), (show (12 : Int64).toInt = 12 from by decide)] at hs2_0 hc3 hc4 hc5 hc6 <;> omega
        · refine ik_Wif 4 (c := (0 : Int32) ≤ a2) 16 12 (loc' := [some (.ref 7), some (.int a2)]) (st' := []) (h' := p1_h) (cl' := 0) (sl' := 0) rfl (fun hc7 => ?_) (fun hc7 => ?_)
          · refine ik_Wk 1 (pc' := 17) (loc' := [some (.ref 7), some (.int a2)]) (st' := [.int 0]) (h' := p1_h) (cl' := 0) (sl' := 0) rfl ?_
            refine ik_Wret rfl rfl ⟨_, _, rfl, rfl, ?_⟩
            refine ik_Wk 2 (pc' := 26) (loc' := [some (.ref 0), some (.int 0), some (.int a2)]) (st' := [.int (-1000000001)]) (h' := p1_h) (cl' := 0) (sl' := 0) rfl ?_
            refine ik_Wret rfl rfl ⟨_, _, rfl, rfl, ?_⟩
            refine ik_Wk 11 (pc' := 1018) (loc' := [some (.retAddr 0), some (.ref 0), some (.ref 66), some (.int 0)]) (st' := [.int a2, .int 0, .ref 66, .int (-1000000001)]) (h' := p1_h) (cl' := 94) (sl' := 4156) rfl ?_
            refine ik_Wc 111 3 0 [.ref 66, .int 0, .int a2] [.int (-1000000001)] rfl rfl rfl (by decide) rfl rfl rfl ?_
            refine ik_Wk 1 (pc' := 1) (loc' := [some (.ref 66), some (.int 0), some (.int a2)]) (st' := [.int 0]) (h' := p1_h) (cl' := 0) (sl' := 0) rfl ?_
            refine ik_Wc 75 1 3 [.int 0] [] rfl rfl rfl (by decide) rfl rfl rfl ?_
            refine ik_Wk 4 (pc' := 4) (loc' := [some (.int 0)]) (st' := [.long 1, .long 0, .long 0]) (h' := p1_h) (cl' := 0) (sl' := 0) rfl ?_
            refine ik_Wc 70 3 3 [.long 0, .long 0, .long 1] [] rfl rfl rfl (by decide) rfl rfl rfl ?_
            refine ik_Wk 10 (pc' := 18) (loc' := [some (.long 0), none, some (.long 0), none, some (.long 1), none]) (st' := [.int 1]) (h' := p1_h) (cl' := 0) (sl' := 0) rfl ?_
            refine ik_Wret rfl rfl ⟨_, _, rfl, rfl, ?_⟩
            refine ik_Wret rfl rfl ⟨_, _, rfl, rfl, ?_⟩
            refine ik_Wif 4 (c := a2 = (12 : Int32)) 24 13 (loc' := [some (.ref 66), some (.int 0), some (.int a2)]) (st' := []) (h' := p1_h) (cl' := 0) (sl' := 0) rfl (fun hc8 => ?_) (fun hc8 => ?_)
            · exfalso
              (try simp only [lg_lt0, lg_gt0] at hs2_0 hc3 hc4 hc7 hc8) <;> simp only [cv_eq, cv_lt, cv_le, cv_64, (show (0 : Int32).toInt = 0 from by decide), (show (0 : Int64).toInt = 0 from by decide), (show (12 : Int32).toInt = 12 from by decide), (show (12 : Int64).toInt = 12 from by decide)] at hs2_0 hc3 hc4 hc7 hc8 <;> omega
            · refine ik_Wk 2 (pc' := 15) (loc' := [some (.ref 66), some (.int 0), some (.int a2)]) (st' := [.int a2, .ref 66]) (h' := p1_h) (cl' := 0) (sl' := 0) rfl ?_
              refine ik_Wc 72 2 0 [.ref 66, .int a2] [] rfl rfl rfl (by decide) rfl rfl rfl ?_
              refine ik_Wk 8 (pc' := 10) (loc' := [some (.ref 66), some (.int a2)]) (st' := [.long (-1), .long 0, .long a2.toInt64]) (h' := p1_h) (cl' := 0) (sl' := 0) rfl ?_
              refine ik_Wc 70 3 3 [.long a2.toInt64, .long 0, .long (-1)] [] rfl rfl rfl (by decide) rfl rfl rfl ?_
              refine ik_Wif 4 (c := (lg_cmp a2.toInt64 (0 : Int64)) < 0) 17 6 (loc' := [some (.long a2.toInt64), none, some (.long 0), none, some (.long (-1)), none]) (st' := []) (h' := p1_h) (cl' := 0) (sl' := 0) rfl (fun hc9 => ?_) (fun hc9 => ?_)
              · exfalso
                (try simp only [lg_lt0, lg_gt0] at hs2_0 hc3 hc4 hc7 hc8 hc9) <;> simp only [cv_eq, cv_lt, cv_le, cv_64, (show (0 : Int32).toInt = 0 from by decide), (show (0 : Int64).toInt = 0 from by decide), (show (12 : Int32).toInt = 12 from by decide), (show (12 : Int64).toInt = 12 from by decide)] at hs2_0 hc3 hc4 hc7 hc8 hc9 <;> omega
              · refine ik_Wif 4 (c := 0 < (lg_cmp a2.toInt64 (-1 : Int64))) 17 13 (loc' := [some (.long a2.toInt64), none, some (.long 0), none, some (.long (-1)), none]) (st' := []) (h' := p1_h) (cl' := 0) (sl' := 0) rfl (fun hc10 => ?_) (fun hc10 => ?_)
                · refine ik_Wk 1 (pc' := 18) (loc' := [some (.long a2.toInt64), none, some (.long 0), none, some (.long (-1)), none]) (st' := [.int 0]) (h' := p1_h) (cl' := 0) (sl' := 0) rfl ?_
                  refine ik_Wret rfl rfl ⟨_, _, rfl, rfl, ?_⟩
                  refine ik_Wret rfl rfl ⟨_, _, rfl, rfl, ?_⟩
                  refine ik_Wk 2 (pc' := 23) (loc' := [some (.ref 66), some (.int 0), some (.int a2)]) (st' := [.int (-1000000001)]) (h' := p1_h) (cl' := 0) (sl' := 0) rfl ?_
                  refine ik_Wret rfl rfl ⟨_, _, rfl, rfl, ?_⟩
                  refine ik_Wk 10 (pc' := 1138) (loc' := [some (.retAddr 0), some (.ref 0), some (.ref 66), some (.int 5)]) (st' := [.int 1]) (h' := p1_h) (cl' := 94) (sl' := 4156) rfl ?_
                  exact ik_Wret rfl rfl ⟨rfl, rfl, Nat.le_of_ble_eq_true rfl, Nat.le_of_ble_eq_true rfl⟩
                · exfalso
                  (try simp only [lg_lt0, lg_gt0] at hs2_0 hc3 hc4 hc7 hc8 hc9 hc10) <;> simp only [cv_eq, cv_lt, cv_le, cv_64, (show (-1 : Int32).toInt = -1 from by decide), (show (-1 : Int64).toInt = -1 from by decide), (show (0 : Int32).toInt = 0 from by decide), (show (0 : Int64).toInt = 0 from by decide), (show (12 : Int32).toInt = 12 from by decide), (show (12 : Int64).toInt = 12 from by decide)] at hs2_0 hc3 hc4 hc7 hc8 hc9 hc10 <;> omega
          · exfalso
            (try simp only [lg_lt0, lg_gt0] at hs2_0 hc3 hc4 hc7) <;> simp only [cv_eq, cv_lt, cv_le, cv_64, (show (0 : Int32).toInt = 0 from by decide), (show (0 : Int64).toInt = 0 from by decide), (show (12 : Int32).toInt = 12 from by decide), (show (12 : Int64).toInt = 12 from by decide)] at hs2_0 hc3 hc4 hc7 <;> omega
  · rcases p1_sp1 a2 (12) with rfl | hs11
    · refine ik_Wk 11 (pc' := 1004) (loc' := [some (.retAddr 0), some (.ref 0), some (.ref 66), some (.int 0)]) (st' := [.int 12, .int 1, .ref 0]) (h' := p1_h) (cl' := 94) (sl' := 4156) rfl ?_
      refine ik_Wce 59 3 0 [.ref 0, .int 1, .int 12] [] _ [.int 1] p1_r35 rfl rfl rfl (by decide) rfl rfl rfl rfl rfl ?_
      refine ik_Wk 11 (pc' := 1018) (loc' := [some (.retAddr 0), some (.ref 0), some (.ref 66), some (.int 0)]) (st' := [.int 12, .int 1, .ref 66, .int 1]) (h' := p1_h3) (cl' := 94) (sl' := 4156) rfl ?_
      refine ik_Wce 111 3 0 [.ref 66, .int 1, .int 12] [.int 1] _ [.int 1] p1_r36 rfl rfl rfl (by decide) rfl rfl rfl rfl rfl ?_
      refine ik_Wk 10 (pc' := 1138) (loc' := [some (.retAddr 0), some (.ref 0), some (.ref 66), some (.int 5)]) (st' := [.int 1]) (h' := p1_h4) (cl' := 94) (sl' := 4156) rfl ?_
      exact ik_Wret rfl rfl ⟨rfl, rfl, Nat.le_of_ble_eq_true rfl, Nat.le_of_ble_eq_true rfl⟩
    · have hs11_0 := hs11
      refine ik_Wk 11 (pc' := 1004) (loc' := [some (.retAddr 0), some (.ref 0), some (.ref 66), some (.int 0)]) (st' := [.int a2, .int 1, .ref 0]) (h' := p1_h) (cl' := 94) (sl' := 4156) rfl ?_
      refine ik_Wc 59 3 0 [.ref 0, .int 1, .int a2] [] rfl rfl rfl (by decide) rfl rfl rfl ?_
      refine ik_Wk 1 (pc' := 1) (loc' := [some (.ref 0), some (.int 1), some (.int a2)]) (st' := [.int 1]) (h' := p1_h) (cl' := 0) (sl' := 0) rfl ?_
      refine ik_Wc 65 1 3 [.int 1] [] rfl rfl rfl (by decide) rfl rfl rfl ?_
      refine ik_Wk 7 (pc' := 14) (loc' := [some (.int 1)]) (st' := [.int 1]) (h' := p1_h) (cl' := 0) (sl' := 0) rfl ?_
      refine ik_Wret rfl rfl ⟨_, _, rfl, rfl, ?_⟩
      refine ik_Wif 4 (c := a2 = (12 : Int32)) 27 13 (loc' := [some (.ref 0), some (.int 1), some (.int a2)]) (st' := []) (h' := p1_h) (cl' := 0) (sl' := 0) rfl (fun hc12 => ?_) (fun hc12 => ?_)
      · exfalso
        (try simp only [lg_lt0, lg_gt0] at hs11_0 hc12) <;> simp only [cv_eq, cv_lt, cv_le, cv_64, (show (0 : Int32).toInt = 0 from by decide), (show (0 : Int64).toInt = 0 from by decide), (show (12 : Int32).toInt = 12 from by decide), (show (12 : Int64).toInt = 12 from by decide)] at hs11_0 hc12 <;> omega
      · refine ik_Wk 3 (pc' := 18) (loc' := [some (.ref 0), some (.int 1), some (.int a2)]) (st' := [.int a2, .ref 7]) (h' := p1_h) (cl' := 0) (sl' := 0) rfl ?_
        refine ik_Wc 3 2 0 [.ref 7, .int a2] [] rfl rfl rfl (by decide) rfl rfl rfl ?_
        refine ik_Wif 2 (c := a2 < 0) 16 4 (loc' := [some (.ref 7), some (.int a2)]) (st' := []) (h' := p1_h) (cl' := 0) (sl' := 0) rfl (fun hc13 => ?_) (fun hc13 => ?_)
        · refine ik_Wk 1 (pc' := 17) (loc' := [some (.ref 7), some (.int a2)]) (st' := [.int 0]) (h' := p1_h) (cl' := 0) (sl' := 0) rfl ?_
          refine ik_Wret rfl rfl ⟨_, _, rfl, rfl, ?_⟩
          refine ik_Wk 2 (pc' := 26) (loc' := [some (.ref 0), some (.int 1), some (.int a2)]) (st' := [.int (-1000000001)]) (h' := p1_h) (cl' := 0) (sl' := 0) rfl ?_
          refine ik_Wret rfl rfl ⟨_, _, rfl, rfl, ?_⟩
          refine ik_Wk 11 (pc' := 1018) (loc' := [some (.retAddr 0), some (.ref 0), some (.ref 66), some (.int 0)]) (st' := [.int a2, .int 1, .ref 66, .int (-1000000001)]) (h' := p1_h) (cl' := 94) (sl' := 4156) rfl ?_
          refine ik_Wc 111 3 0 [.ref 66, .int 1, .int a2] [.int (-1000000001)] rfl rfl rfl (by decide) rfl rfl rfl ?_
          refine ik_Wk 1 (pc' := 1) (loc' := [some (.ref 66), some (.int 1), some (.int a2)]) (st' := [.int 1]) (h' := p1_h) (cl' := 0) (sl' := 0) rfl ?_
          refine ik_Wc 75 1 3 [.int 1] [] rfl rfl rfl (by decide) rfl rfl rfl ?_
          refine ik_Wk 4 (pc' := 4) (loc' := [some (.int 1)]) (st' := [.long 1, .long 0, .long 1]) (h' := p1_h) (cl' := 0) (sl' := 0) rfl ?_
          refine ik_Wc 70 3 3 [.long 1, .long 0, .long 1] [] rfl rfl rfl (by decide) rfl rfl rfl ?_
          refine ik_Wk 10 (pc' := 18) (loc' := [some (.long 1), none, some (.long 0), none, some (.long 1), none]) (st' := [.int 1]) (h' := p1_h) (cl' := 0) (sl' := 0) rfl ?_
          refine ik_Wret rfl rfl ⟨_, _, rfl, rfl, ?_⟩
          refine ik_Wret rfl rfl ⟨_, _, rfl, rfl, ?_⟩
          refine ik_Wif 4 (c := a2 = (12 : Int32)) 24 13 (loc' := [some (.ref 66), some (.int 1), some (.int a2)]) (st' := []) (h' := p1_h) (cl' := 0) (sl' := 0) rfl (fun hc14 => ?_) (fun hc14 => ?_)
          · exfalso
            (try simp only [lg_lt0, lg_gt0] at hs11_0 hc12 hc13 hc14) <;> simp only [cv_eq, cv_lt, cv_le, cv_64, (show (0 : Int32).toInt = 0 from by decide), (show (0 : Int64).toInt = 0 from by decide), (show (12 : Int32).toInt = 12 from by decide), (show (12 : Int64).toInt = 12 from by decide)] at hs11_0 hc12 hc13 hc14 <;> omega
          · refine ik_Wk 2 (pc' := 15) (loc' := [some (.ref 66), some (.int 1), some (.int a2)]) (st' := [.int a2, .ref 66]) (h' := p1_h) (cl' := 0) (sl' := 0) rfl ?_
            refine ik_Wc 72 2 0 [.ref 66, .int a2] [] rfl rfl rfl (by decide) rfl rfl rfl ?_
            refine ik_Wk 8 (pc' := 10) (loc' := [some (.ref 66), some (.int a2)]) (st' := [.long (-1), .long 0, .long a2.toInt64]) (h' := p1_h) (cl' := 0) (sl' := 0) rfl ?_
            refine ik_Wc 70 3 3 [.long a2.toInt64, .long 0, .long (-1)] [] rfl rfl rfl (by decide) rfl rfl rfl ?_
            refine ik_Wif 4 (c := (lg_cmp a2.toInt64 (0 : Int64)) < 0) 17 6 (loc' := [some (.long a2.toInt64), none, some (.long 0), none, some (.long (-1)), none]) (st' := []) (h' := p1_h) (cl' := 0) (sl' := 0) rfl (fun hc15 => ?_) (fun hc15 => ?_)
            · refine ik_Wk 1 (pc' := 18) (loc' := [some (.long a2.toInt64), none, some (.long 0), none, some (.long (-1)), none]) (st' := [.int 0]) (h' := p1_h) (cl' := 0) (sl' := 0) rfl ?_
              refine ik_Wret rfl rfl ⟨_, _, rfl, rfl, ?_⟩
              refine ik_Wret rfl rfl ⟨_, _, rfl, rfl, ?_⟩
              refine ik_Wk 2 (pc' := 23) (loc' := [some (.ref 66), some (.int 1), some (.int a2)]) (st' := [.int (-1000000001)]) (h' := p1_h) (cl' := 0) (sl' := 0) rfl ?_
              refine ik_Wret rfl rfl ⟨_, _, rfl, rfl, ?_⟩
              refine ik_Wk 10 (pc' := 1138) (loc' := [some (.retAddr 0), some (.ref 0), some (.ref 66), some (.int 5)]) (st' := [.int 1]) (h' := p1_h) (cl' := 94) (sl' := 4156) rfl ?_
              exact ik_Wret rfl rfl ⟨rfl, rfl, Nat.le_of_ble_eq_true rfl, Nat.le_of_ble_eq_true rfl⟩
            · exfalso
              (try simp only [lg_lt0, lg_gt0] at hs11_0 hc12 hc13 hc14 hc15) <;> simp only [cv_eq, cv_lt, cv_le, cv_64, (show (0 : Int32).toInt = 0 from by decide), (show (0 : Int64).toInt = 0 from by decide), (show (12 : Int32).toInt = 12 from by decide), (show (12 : Int64).toInt = 12 from by decide)] at hs11_0 hc12 hc13 hc14 hc15 <;> omega
        · refine ik_Wif 4 (c := (0 : Int32) ≤ a2) 16 12 (loc' := [some (.ref 7), some (.int a2)]) (st' := []) (h' := p1_h) (cl' := 0) (sl' := 0) rfl (fun hc16 => ?_) (fun hc16 => ?_)
          · refine ik_Wk 1 (pc' := 17) (loc' := [some (.ref 7), some (.int a2)]) (st' := [.int 0]) (h' := p1_h) (cl' := 0) (sl' := 0) rfl ?_
            refine ik_Wret rfl rfl ⟨_, _, rfl, rfl, ?_⟩
            refine ik_Wk 2 (pc' := 26) (loc' := [some (.ref 0), some (.int 1), some (.int a2)]) (st' := [.int (-1000000001)]) (h' := p1_h) (cl' := 0) (sl' := 0) rfl ?_
            refine ik_Wret rfl rfl ⟨_, _, rfl, rfl, ?_⟩
            refine ik_Wk 11 (pc' := 1018) (loc' := [some (.retAddr 0), some (.ref 0), some (.ref 66), some (.int 0)]) (st' := [.int a2, .int 1, .ref 66, .int (-1000000001)]) (h' := p1_h) (cl' := 94) (sl' := 4156) rfl ?_
            refine ik_Wc 111 3 0 [.ref 66, .int 1, .int a2] [.int (-1000000001)] rfl rfl rfl (by decide) rfl rfl rfl ?_
            refine ik_Wk 1 (pc' := 1) (loc' := [some (.ref 66), some (.int 1), some (.int a2)]) (st' := [.int 1]) (h' := p1_h) (cl' := 0) (sl' := 0) rfl ?_
            refine ik_Wc 75 1 3 [.int 1] [] rfl rfl rfl (by decide) rfl rfl rfl ?_
            refine ik_Wk 4 (pc' := 4) (loc' := [some (.int 1)]) (st' := [.long 1, .long 0, .long 1]) (h' := p1_h) (cl' := 0) (sl' := 0) rfl ?_
            refine ik_Wc 70 3 3 [.long 1, .long 0, .long 1] [] rfl rfl rfl (by decide) rfl rfl rfl ?_
            refine ik_Wk 10 (pc' := 18) (loc' := [some (.long 1), none, some (.long 0), none, some (.long 1), none]) (st' := [.int 1]) (h' := p1_h) (cl' := 0) (sl' := 0) rfl ?_
            refine ik_Wret rfl rfl ⟨_, _, rfl, rfl, ?_⟩
            refine ik_Wret rfl rfl ⟨_, _, rfl, rfl, ?_⟩
            refine ik_Wif 4 (c := a2 = (12 : Int32)) 24 13 (loc' := [some (.ref 66), some (.int 1), some (.int a2)]) (st' := []) (h' := p1_h) (cl' := 0) (sl' := 0) rfl (fun hc17 => ?_) (fun hc17 => ?_)
            · exfalso
              (try simp only [lg_lt0, lg_gt0] at hs11_0 hc12 hc13 hc16 hc17) <;> simp only [cv_eq, cv_lt, cv_le, cv_64, (show (0 : Int32).toInt = 0 from by decide), (show (0 : Int64).toInt = 0 from by decide), (show (12 : Int32).toInt = 12 from by decide), (show (12 : Int64).toInt = 12 from by decide)] at hs11_0 hc12 hc13 hc16 hc17 <;> omega
            · refine ik_Wk 2 (pc' := 15) (loc' := [some (.ref 66), some (.int 1), some (.int a2)]) (st' := [.int a2, .ref 66]) (h' := p1_h) (cl' := 0) (sl' := 0) rfl ?_
              refine ik_Wc 72 2 0 [.ref 66, .int a2] [] rfl rfl rfl (by decide) rfl rfl rfl ?_
              refine ik_Wk 8 (pc' := 10) (loc' := [some (.ref 66), some (.int a2)]) (st' := [.long (-1), .long 0, .long a2.toInt64]) (h' := p1_h) (cl' := 0) (sl' := 0) rfl ?_
              refine ik_Wc 70 3 3 [.long a2.toInt64, .long 0, .long (-1)] [] rfl rfl rfl (by decide) rfl rfl rfl ?_
              refine ik_Wif 4 (c := (lg_cmp a2.toInt64 (0 : Int64)) < 0) 17 6 (loc' := [some (.long a2.toInt64), none, some (.long 0), none, some (.long (-1)), none]) (st' := []) (h' := p1_h) (cl' := 0) (sl' := 0) rfl (fun hc18 => ?_) (fun hc18 => ?_)
              · exfalso
                (try simp only [lg_lt0, lg_gt0] at hs11_0 hc12 hc13 hc16 hc17 hc18) <;> simp only [cv_eq, cv_lt, cv_le, cv_64, (show (0 : Int32).toInt = 0 from by decide), (show (0 : Int64).toInt = 0 from by decide), (show (12 : Int32).toInt = 12 from by decide), (show (12 : Int64).toInt = 12 from by decide)] at hs11_0 hc12 hc13 hc16 hc17 hc18 <;> omega
              · refine ik_Wif 4 (c := 0 < (lg_cmp a2.toInt64 (-1 : Int64))) 17 13 (loc' := [some (.long a2.toInt64), none, some (.long 0), none, some (.long (-1)), none]) (st' := []) (h' := p1_h) (cl' := 0) (sl' := 0) rfl (fun hc19 => ?_) (fun hc19 => ?_)
                · refine ik_Wk 1 (pc' := 18) (loc' := [some (.long a2.toInt64), none, some (.long 0), none, some (.long (-1)), none]) (st' := [.int 0]) (h' := p1_h) (cl' := 0) (sl' := 0) rfl ?_
                  refine ik_Wret rfl rfl ⟨_, _, rfl, rfl, ?_⟩
                  refine ik_Wret rfl rfl ⟨_, _, rfl, rfl, ?_⟩
                  refine ik_Wk 2 (pc' := 23) (loc' := [some (.ref 66), some (.int 1), some (.int a2)]) (st' := [.int (-1000000001)]) (h' := p1_h) (cl' := 0) (sl' := 0) rfl ?_
                  refine ik_Wret rfl rfl ⟨_, _, rfl, rfl, ?_⟩
                  refine ik_Wk 10 (pc' := 1138) (loc' := [some (.retAddr 0), some (.ref 0), some (.ref 66), some (.int 5)]) (st' := [.int 1]) (h' := p1_h) (cl' := 94) (sl' := 4156) rfl ?_
                  exact ik_Wret rfl rfl ⟨rfl, rfl, Nat.le_of_ble_eq_true rfl, Nat.le_of_ble_eq_true rfl⟩
                · exfalso
                  (try simp only [lg_lt0, lg_gt0] at hs11_0 hc12 hc13 hc16 hc17 hc18 hc19) <;> simp only [cv_eq, cv_lt, cv_le, cv_64, (show (-1 : Int32).toInt = -1 from by decide), (show (-1 : Int64).toInt = -1 from by decide), (show (0 : Int32).toInt = 0 from by decide), (show (0 : Int64).toInt = 0 from by decide), (show (12 : Int32).toInt = 12 from by decide), (show (12 : Int64).toInt = 12 from by decide)] at hs11_0 hc12 hc13 hc16 hc17 hc18 hc19 <;> omega
          · exfalso
            (try simp only [lg_lt0, lg_gt0] at hs11_0 hc12 hc13 hc16) <;> simp only [cv_eq, cv_lt, cv_le, cv_64, (show (0 : Int32).toInt = 0 from by decide), (show (0 : Int64).toInt = 0 from by decide), (show (12 : Int32).toInt = 12 from by decide), (show (12 : Int64).toInt = 12 from by decide)] at hs11_0 hc12 hc13 hc16 <;> omega
  · obtain ⟨hs1_0, hs1_1⟩ := hs1
    rcases p1_sp1 a2 (12) with rfl | hs20
    · refine ik_Wk 11 (pc' := 1004) (loc' := [some (.retAddr 0), some (.ref 0), some (.ref 66), some (.int 0)]) (st' := [.int 12, .int a1, .ref 0]) (h' := p1_h) (cl' := 94) (sl' := 4156) rfl ?_
      refine ik_Wc 59 3 0 [.ref 0, .int a1, .int 12] [] rfl rfl rfl (by decide) rfl rfl rfl ?_
      refine ik_Wk 1 (pc' := 1) (loc' := [some (.ref 0), some (.int a1), some (.int 12)]) (st' := [.int a1]) (h' := p1_h) (cl' := 0) (sl' := 0) rfl ?_
      refine ik_Wc 65 1 3 [.int a1] [] rfl rfl rfl (by decide) rfl rfl rfl ?_
      refine ik_Wif 2 (c := a1 = 0) 9 4 (loc' := [some (.int a1)]) (st' := []) (h' := p1_h) (cl' := 0) (sl' := 0) rfl (fun hc21 => ?_) (fun hc21 => ?_)
      · exfalso
        (try simp only [lg_lt0, lg_gt0] at hs1_0 hs1_1 hc21) <;> simp only [cv_eq, cv_lt, cv_le, cv_64, (show (0 : Int32).toInt = 0 from by decide), (show (0 : Int64).toInt = 0 from by decide), (show (1 : Int32).toInt = 1 from by decide), (show (1 : Int64).toInt = 1 from by decide)] at hs1_0 hs1_1 hc21 <;> omega
      · refine ik_Wif 3 (c := a1 = (1 : Int32)) 9 13 (loc' := [some (.int a1)]) (st' := []) (h' := p1_h) (cl' := 0) (sl' := 0) rfl (fun hc22 => ?_) (fun hc22 => ?_)
        · exfalso
          (try simp only [lg_lt0, lg_gt0] at hs1_0 hs1_1 hc21 hc22) <;> simp only [cv_eq, cv_lt, cv_le, cv_64, (show (0 : Int32).toInt = 0 from by decide), (show (0 : Int64).toInt = 0 from by decide), (show (1 : Int32).toInt = 1 from by decide), (show (1 : Int64).toInt = 1 from by decide)] at hs1_0 hs1_1 hc21 hc22 <;> omega
        · refine ik_Wk 1 (pc' := 14) (loc' := [some (.int a1)]) (st' := [.int 0]) (h' := p1_h) (cl' := 0) (sl' := 0) rfl ?_
          refine ik_Wret rfl rfl ⟨_, _, rfl, rfl, ?_⟩
          refine ik_Wk 2 (pc' := 26) (loc' := [some (.ref 0), some (.int a1), some (.int 12)]) (st' := [.int (-1000000001)]) (h' := p1_h) (cl' := 0) (sl' := 0) rfl ?_
          refine ik_Wret rfl rfl ⟨_, _, rfl, rfl, ?_⟩
          refine ik_Wk 11 (pc' := 1018) (loc' := [some (.retAddr 0), some (.ref 0), some (.ref 66), some (.int 0)]) (st' := [.int 12, .int a1, .ref 66, .int (-1000000001)]) (h' := p1_h) (cl' := 94) (sl' := 4156) rfl ?_
          refine ik_Wc 111 3 0 [.ref 66, .int a1, .int 12] [.int (-1000000001)] rfl rfl rfl (by decide) rfl rfl rfl ?_
          refine ik_Wk 1 (pc' := 1) (loc' := [some (.ref 66), some (.int a1), some (.int 12)]) (st' := [.int a1]) (h' := p1_h) (cl' := 0) (sl' := 0) rfl ?_
          refine ik_Wc 75 1 3 [.int a1] [] rfl rfl rfl (by decide) rfl rfl rfl ?_
          refine ik_Wk 4 (pc' := 4) (loc' := [some (.int a1)]) (st' := [.long 1, .long 0, .long a1.toInt64]) (h' := p1_h) (cl' := 0) (sl' := 0) rfl ?_
          refine ik_Wc 70 3 3 [.long a1.toInt64, .long 0, .long 1] [] rfl rfl rfl (by decide) rfl rfl rfl ?_
          refine ik_Wif 4 (c := (lg_cmp a1.toInt64 (0 : Int64)) < 0) 17 6 (loc' := [some (.long a1.toInt64), none, some (.long 0), none, some (.long 1), none]) (st' := []) (h' := p1_h) (cl' := 0) (sl' := 0) rfl (fun hc23 => ?_) (fun hc23 => ?_)
          · refine ik_Wk 1 (pc' := 18) (loc' := [some (.long a1.toInt64), none, some (.long 0), none, some (.long 1), none]) (st' := [.int 0]) (h' := p1_h) (cl' := 0) (sl' := 0) rfl ?_
            refine ik_Wret rfl rfl ⟨_, _, rfl, rfl, ?_⟩
            refine ik_Wret rfl rfl ⟨_, _, rfl, rfl, ?_⟩
            refine ik_Wk 2 (pc' := 23) (loc' := [some (.ref 66), some (.int a1), some (.int 12)]) (st' := [.int (-1000000001)]) (h' := p1_h) (cl' := 0) (sl' := 0) rfl ?_
            refine ik_Wret rfl rfl ⟨_, _, rfl, rfl, ?_⟩
            refine ik_Wk 10 (pc' := 1138) (loc' := [some (.retAddr 0), some (.ref 0), some (.ref 66), some (.int 5)]) (st' := [.int 1]) (h' := p1_h) (cl' := 94) (sl' := 4156) rfl ?_
            exact ik_Wret rfl rfl ⟨rfl, rfl, Nat.le_of_ble_eq_true rfl, Nat.le_of_ble_eq_true rfl⟩
          · refine ik_Wif 4 (c := 0 < (lg_cmp a1.toInt64 (1 : Int64))) 17 13 (loc' := [some (.long a1.toInt64), none, some (.long 0), none, some (.long 1), none]) (st' := []) (h' := p1_h) (cl' := 0) (sl' := 0) rfl (fun hc24 => ?_) (fun hc24 => ?_)
            · refine ik_Wk 1 (pc' := 18) (loc' := [some (.long a1.toInt64), none, some (.long 0), none, some (.long 1), none]) (st' := [.int 0]) (h' := p1_h) (cl' := 0) (sl' := 0) rfl ?_
              refine ik_Wret rfl rfl ⟨_, _, rfl, rfl, ?_⟩
              refine ik_Wret rfl rfl ⟨_, _, rfl, rfl, ?_⟩
              refine ik_Wk 2 (pc' := 23) (loc' := [some (.ref 66), some (.int a1), some (.int 12)]) (st' := [.int (-1000000001)]) (h' := p1_h) (cl' := 0) (sl' := 0) rfl ?_
              refine ik_Wret rfl rfl ⟨_, _, rfl, rfl, ?_⟩
              refine ik_Wk 10 (pc' := 1138) (loc' := [some (.retAddr 0), some (.ref 0), some (.ref 66), some (.int 5)]) (st' := [.int 1]) (h' := p1_h) (cl' := 94) (sl' := 4156) rfl ?_
              exact ik_Wret rfl rfl ⟨rfl, rfl, Nat.le_of_ble_eq_true rfl, Nat.le_of_ble_eq_true rfl⟩
            · exfalso
              (try simp only [lg_lt0, lg_gt0] at hs1_0 hs1_1 hc21 hc22 hc23 hc24) <;> simp only [cv_eq, cv_lt, cv_le, cv_64, (show (0 : Int32).toInt = 0 from by decide), (show (0 : Int64).toInt = 0 from by decide), (show (1 : Int32).toInt = 1 from by decide), (show (1 : Int64).toInt = 1 from by decide)] at hs1_0 hs1_1 hc21 hc22 hc23 hc24 <;> omega
    · have hs20_0 := hs20
      refine ik_Wk 11 (pc' := 1004) (loc' := [some (.retAddr 0), some (.ref 0), some (.ref 66), some (.int 0)]) (st' := [.int a2, .int a1, .ref 0]) (h' := p1_h) (cl' := 94) (sl' := 4156) rfl ?_
      refine ik_Wc 59 3 0 [.ref 0, .int a1, .int a2] [] rfl rfl rfl (by decide) rfl rfl rfl ?_
      refine ik_Wk 1 (pc' := 1) (loc' := [some (.ref 0), some (.int a1), some (.int a2)]) (st' := [.int a1]) (h' := p1_h) (cl' := 0) (sl' := 0) rfl ?_
      refine ik_Wc 65 1 3 [.int a1] [] rfl rfl rfl (by decide) rfl rfl rfl ?_
      refine ik_Wif 2 (c := a1 = 0) 9 4 (loc' := [some (.int a1)]) (st' := []) (h' := p1_h) (cl' := 0) (sl' := 0) rfl (fun hc25 => ?_) (fun hc25 => ?_)
      · exfalso
        (try simp only [lg_lt0, lg_gt0] at hs1_0 hs1_1 hc25) <;> simp only [cv_eq, cv_lt, cv_le, cv_64, (show (0 : Int32).toInt = 0 from by decide), (show (0 : Int64).toInt = 0 from by decide), (show (1 : Int32).toInt = 1 from by decide), (show (1 : Int64).toInt = 1 from by decide), (show (12 : Int32).toInt = 12 from by decide), (show (12 : Int64).toInt = 12 from by decide)] at hs1_0 hs1_1 hc25 <;> omega
      · refine ik_Wif 3 (c := a1 = (1 : Int32)) 9 13 (loc' := [some (.int a1)]) (st' := []) (h' := p1_h) (cl' := 0) (sl' := 0) rfl (fun hc26 => ?_) (fun hc26 => ?_)
        · exfalso
          (try simp only [lg_lt0, lg_gt0] at hs1_0 hs1_1 hc25 hc26) <;> simp only [cv_eq, cv_lt, cv_le, cv_64, (show (0 : Int32).toInt = 0 from by decide), (show (0 : Int64).toInt = 0 from by decide), (show (1 : Int32).toInt = 1 from by decide), (show (1 : Int64).toInt = 1 from by decide), (show (12 : Int32).toInt = 12 from by decide), (show (12 : Int64).toInt = 12 from by decide)] at hs1_0 hs1_1 hc25 hc26 <;> omega
        · refine ik_Wk 1 (pc' := 14) (loc' := [some (.int a1)]) (st' := [.int 0]) (h' := p1_h) (cl' := 0) (sl' := 0) rfl ?_
          refine ik_Wret rfl rfl ⟨_, _, rfl, rfl, ?_⟩
          refine ik_Wk 2 (pc' := 26) (loc' := [some (.ref 0), some (.int a1), some (.int a2)]) (st' := [.int (-1000000001)]) (h' := p1_h) (cl' := 0) (sl' := 0) rfl ?_
          refine ik_Wret rfl rfl ⟨_, _, rfl, rfl, ?_⟩
          refine ik_Wk 11 (pc' := 1018) (loc' := [some (.retAddr 0), some (.ref 0), some (.ref 66), some (.int 0)]) (st' := [.int a2, .int a1, .ref 66, .int (-1000000001)]) (h' := p1_h) (cl' := 94) (sl' := 4156) rfl ?_
          refine ik_Wc 111 3 0 [.ref 66, .int a1, .int a2] [.int (-1000000001)] rfl rfl rfl (by decide) rfl rfl rfl ?_
          refine ik_Wk 1 (pc' := 1) (loc' := [some (.ref 66), some (.int a1), some (.int a2)]) (st' := [.int a1]) (h' := p1_h) (cl' := 0) (sl' := 0) rfl ?_
          refine ik_Wc 75 1 3 [.int a1] [] rfl rfl rfl (by decide) rfl rfl rfl ?_
          refine ik_Wk 4 (pc' := 4) (loc' := [some (.int a1)]) (st' := [.long 1, .long 0, .long a1.toInt64]) (h' := p1_h) (cl' := 0) (sl' := 0) rfl ?_
          refine ik_Wc 70 3 3 [.long a1.toInt64, .long 0, .long 1] [] rfl rfl rfl (by decide) rfl rfl rfl ?_
          refine ik_Wif 4 (c := (lg_cmp a1.toInt64 (0 : Int64)) < 0) 17 6 (loc' := [some (.long a1.toInt64), none, some (.long 0), none, some (.long 1), none]) (st' := []) (h' := p1_h) (cl' := 0) (sl' := 0) rfl (fun hc27 => ?_) (fun hc27 => ?_)
          · refine ik_Wk 1 (pc' := 18) (loc' := [some (.long a1.toInt64), none, some (.long 0), none, some (.long 1), none]) (st' := [.int 0]) (h' := p1_h) (cl' := 0) (sl' := 0) rfl ?_
            refine ik_Wret rfl rfl ⟨_, _, rfl, rfl, ?_⟩
            refine ik_Wret rfl rfl ⟨_, _, rfl, rfl, ?_⟩
            refine ik_Wk 2 (pc' := 23) (loc' := [some (.ref 66), some (.int a1), some (.int a2)]) (st' := [.int (-1000000001)]) (h' := p1_h) (cl' := 0) (sl' := 0) rfl ?_
            refine ik_Wret rfl rfl ⟨_, _, rfl, rfl, ?_⟩
            refine ik_Wk 10 (pc' := 1138) (loc' := [some (.retAddr 0), some (.ref 0), some (.ref 66), some (.int 5)]) (st' := [.int 1]) (h' := p1_h) (cl' := 94) (sl' := 4156) rfl ?_
            exact ik_Wret rfl rfl ⟨rfl, rfl, Nat.le_of_ble_eq_true rfl, Nat.le_of_ble_eq_true rfl⟩
          · refine ik_Wif 4 (c := 0 < (lg_cmp a1.toInt64 (1 : Int64))) 17 13 (loc' := [some (.long a1.toInt64), none, some (.long 0), none, some (.long 1), none]) (st' := []) (h' := p1_h) (cl' := 0) (sl' := 0) rfl (fun hc28 => ?_) (fun hc28 => ?_)
            · refine ik_Wk 1 (pc' := 18) (loc' := [some (.long a1.toInt64), none, some (.long 0), none, some (.long 1), none]) (st' := [.int 0]) (h' := p1_h) (cl' := 0) (sl' := 0) rfl ?_
              refine ik_Wret rfl rfl ⟨_, _, rfl, rfl, ?_⟩
              refine ik_Wret rfl rfl ⟨_, _, rfl, rfl, ?_⟩
              refine ik_Wk 2 (pc' := 23) (loc' := [some (.ref 66), some (.int a1), some (.int a2)]) (st' := [.int (-1000000001)]) (h' := p1_h) (cl' := 0) (sl' := 0) rfl ?_
              refine ik_Wret rfl rfl ⟨_, _, rfl, rfl, ?_⟩
              refine ik_Wk 10 (pc' := 1138) (loc' := [some (.retAddr 0), some (.ref 0), some (.ref 66), some (.int 5)]) (st' := [.int 1]) (h' := p1_h) (cl' := 94) (sl' := 4156) rfl ?_
              exact ik_Wret rfl rfl ⟨rfl, rfl, Nat.le_of_ble_eq_true rfl, Nat.le_of_ble_eq_true rfl⟩
            · exfalso
              (try simp only [lg_lt0, lg_gt0] at hs1_0 hs1_1 hc25 hc26 hc27 hc28) <;> simp only [cv_eq, cv_lt, cv_le, cv_64, (show (0 : Int32).toInt = 0 from by decide), (show (0 : Int64).toInt = 0 from by decide), (show (1 : Int32).toInt = 1 from by decide), (show (1 : Int64).toInt = 1 from by decide), (show (12 : Int32).toInt = 12 from by decide), (show (12 : Int64).toInt = 12 from by decide)] at hs1_0 hs1_1 hc25 hc26 hc27 hc28 <;> omega

set_option maxHeartbeats 16000000 in
set_option maxRecDepth 100000 in
/-- judge on the new objects -/
theorem p1_k27 (a0 a1 a2 a3 a4 : Int32) : ik_W (some (5, p1_f a0 a1 a2 a3 a4)) 0 1039 [some (.retAddr 0), some (.ref 0), some (.ref 66), some (.int 0)] [] p1_h 94 4156 p1_post := by
  rcases p1_sp2 a1 (0) (1) with rfl | rfl | hs1
  · refine ik_Wk 6 (pc' := 1045) (loc' := [some (.retAddr 0), some (.ref 0), some (.ref 66), some (.int 0)]) (st' := [.int 0, .ref 0]) (h' := p1_h) (cl' := 94) (sl' := 4156) rfl ?_
    refine ik_Wce 61 2 0 [.ref 0, .int 0] [] _ [.int (-1)] p1_r39 rfl rfl rfl (by decide) rfl rfl rfl rfl rfl ?_
    refine ik_Wk 6 (pc' := 1054) (loc' := [some (.retAddr 0), some (.ref 0), some (.ref 66), some (.int 0)]) (st' := [.int 0, .ref 66, .int (-1)]) (h' := p1_h) (cl' := 94) (sl' := 4156) rfl ?_
    refine ik_Wce 113 2 0 [.ref 66, .int 0] [.int (-1)] _ [.int (-1)] p1_r40 rfl rfl rfl (by decide) rfl rfl rfl rfl rfl ?_
    refine ik_Wk 10 (pc' := 1138) (loc' := [some (.retAddr 0), some (.ref 0), some (.ref 66), some (.int 5)]) (st' := [.int 1]) (h' := p1_h) (cl' := 94) (sl' := 4156) rfl ?_
    exact ik_Wret rfl rfl ⟨rfl, rfl, Nat.le_of_ble_eq_true rfl, Nat.le_of_ble_eq_true rfl⟩
  · refine ik_Wk 6 (pc' := 1045) (loc' := [some (.retAddr 0), some (.ref 0), some (.ref 66), some (.int 0)]) (st' := [.int 1, .ref 0]) (h' := p1_h) (cl' := 94) (sl' := 4156) rfl ?_
    refine ik_Wce 61 2 0 [.ref 0, .int 1] [] _ [.int (-1)] p1_r41 rfl rfl rfl (by decide) rfl rfl rfl rfl rfl ?_
    refine ik_Wk 6 (pc' := 1054) (loc' := [some (.retAddr 0), some (.ref 0), some (.ref 66), some (.int 0)]) (st' := [.int 1, .ref 66, .int (-1)]) (h' := p1_h) (cl' := 94) (sl' := 4156) rfl ?_
    refine ik_Wce 113 2 0 [.ref 66, .int 1] [.int (-1)] _ [.int (-1)] p1_r42 rfl rfl rfl (by decide) rfl rfl rfl rfl rfl ?_
    refine ik_Wk 10 (pc' := 1138) (loc' := [some (.retAddr 0), some (.ref 0), some (.ref 66), some (.int 5)]) (st' := [.int 1]) (h' := p1_h) (cl' := 94) (sl' := 4156) rfl ?_
    exact ik_Wret rfl rfl ⟨rfl, rfl, Nat.le_of_ble_eq_true rfl, Nat.le_of_ble_eq_true rfl⟩
  · obtain ⟨hs1_0, hs1_1⟩ := hs1
    refine ik_Wk 6 (pc' := 1045) (loc' := [some (.retAddr 0), some (.ref 0), some (.ref 66), some (.int 0)]) (st' := [.int a1, .ref 0]) (h' := p1_h) (cl' := 94) (sl' := 4156) rfl ?_
    refine ik_Wc 61 2 0 [.ref 0, .int a1] [] rfl rfl rfl (by decide) rfl rfl rfl ?_
    refine ik_Wk 1 (pc' := 1) (loc' := [some (.ref 0), some (.int a1)]) (st' := [.int a1]) (h' := p1_h) (cl' := 0) (sl' := 0) rfl ?_
    refine ik_Wc 65 1 3 [.int a1] [] rfl rfl rfl (by decide) rfl rfl rfl ?_
    refine ik_Wif 2 (c := a1 = 0) 9 4 (loc' := [some (.int a1)]) (st' := []) (h' := p1_h) (cl' := 0) (sl' := 0) rfl (fun hc2 => ?_) (fun hc2 => ?_)
    · exfalso
      (try simp only [lg_lt0, lg_gt0] at hs1_0 hs1_1 hc2) <;> simp only [cv_eq, cv_lt, cv_le, cv_64, (show (0 : Int32).toInt = 0 from by decide), (show (0 : Int64).toInt = 0 from by decide), (show (1 : Int32).toInt = 1 from by decide), (show (1 : Int64).toInt = 1 from by decide)] at hs1_0 hs1_1 hc2 <;> omega
    · refine ik_Wif 3 (c := a1 = (1 : Int32)) 9 13 (loc' := [some (.int a1)]) (st' := []) (h' := p1_h) (cl' := 0) (sl' := 0) rfl (fun hc3 => ?_) (fun hc3 => ?_)
      · exfalso
        (try simp only [lg_lt0, lg_gt0] at hs1_0 hs1_1 hc2 hc3) <;> simp only [cv_eq, cv_lt, cv_le, cv_64, (show (0 : Int32).toInt = 0 from by decide), (show (0 : Int64).toInt = 0 from by decide), (show (1 : Int32).toInt = 1 from by decide), (show (1 : Int64).toInt = 1 from by decide)] at hs1_0 hs1_1 hc2 hc3 <;> omega
      · refine ik_Wk 1 (pc' := 14) (loc' := [some (.int a1)]) (st' := [.int 0]) (h' := p1_h) (cl' := 0) (sl' := 0) rfl ?_
        refine ik_Wret rfl rfl ⟨_, _, rfl, rfl, ?_⟩
        refine ik_Wk 2 (pc' := 9) (loc' := [some (.ref 0), some (.int a1)]) (st' := [.int (-1000000001)]) (h' := p1_h) (cl' := 0) (sl' := 0) rfl ?_
        refine ik_Wret rfl rfl ⟨_, _, rfl, rfl, ?_⟩
        refine ik_Wk 6 (pc' := 1054) (loc' := [some (.retAddr 0), some (.ref 0), some (.ref 66), some (.int 0)]) (st' := [.int a1, .ref 66, .int (-1000000001)]) (h' := p1_h) (cl' := 94) (sl' := 4156) rfl ?_
        refine ik_Wc 113 2 0 [.ref 66, .int a1] [.int (-1000000001)] rfl rfl rfl (by decide) rfl rfl rfl ?_
        refine ik_Wk 1 (pc' := 1) (loc' := [some (.ref 66), some (.int a1), none]) (st' := [.int a1]) (h' := p1_h) (cl' := 0) (sl' := 0) rfl ?_
        refine ik_Wc 75 1 3 [.int a1] [] rfl rfl rfl (by decide) rfl rfl rfl ?_
        refine ik_Wk 4 (pc' := 4) (loc' := [some (.int a1)]) (st' := [.long 1, .long 0, .long a1.toInt64]) (h' := p1_h) (cl' := 0) (sl' := 0) rfl ?_
        refine ik_Wc 70 3 3 [.long a1.toInt64, .long 0, .long 1] [] rfl rfl rfl (by decide) rfl rfl rfl ?_
        refine ik_Wif 4 (c := (lg_cmp a1.toInt64 (0 : Int64)) < 0) 17 6 (loc' := [some (.long a1.toInt64), none, some (.long 0), none, some (.long 1), none]) (st' := []) (h' := p1_h) (cl' := 0) (sl' := 0) rfl (fun hc4 => ?_) (fun hc4 => ?_)
        · refine ik_Wk 1 (pc' := 18) (loc' := [some (.long a1.toInt64), none, some (.long 0), none, some (.long 1), none]) (st' := [.int 0]) (h' := p1_h) (cl' := 0) (sl' := 0) rfl ?_
          refine ik_Wret rfl rfl ⟨_, _, rfl, rfl, ?_⟩
          refine ik_Wret rfl rfl ⟨_, _, rfl, rfl, ?_⟩
          refine ik_Wk 2 (pc' := 9) (loc' := [some (.ref 66), some (.int a1), none]) (st' := [.int (-1000000001)]) (h' := p1_h) (cl' := 0) (sl' := 0) rfl ?_
          refine ik_Wret rfl rfl ⟨_, _, rfl, rfl, ?_⟩
          refine ik_Wk 10 (pc' := 1138) (loc' := [some (.retAddr 0), some (.ref 0), some (.ref 66), some (.int 5)]) (st' := [.int 1]) (h' := p1_h) (cl' := 94) (sl' := 4156) rfl ?_
          exact ik_Wret rfl rfl ⟨rfl, rfl, Nat.le_of_ble_eq_true rfl, Nat.le_of_ble_eq_true rfl⟩
        · refine ik_Wif 4 (c := 0 < (lg_cmp a1.toInt64 (1 : Int64))) 17 13 (loc' := [some (.long a1.toInt64), none, some (.long 0), none, some (.long 1), none]) (st' := []) (h' := p1_h) (cl' := 0) (sl' := 0) rfl (fun hc5 => ?_) (fun hc5 => ?_)
          · refine ik_Wk 1 (pc' := 18) (loc' := [some (.long a1.toInt64), none, some (.long 0), none, some (.long 1), none]) (st' := [.int 0]) (h' := p1_h) (cl' := 0) (sl' := 0) rfl ?_
            refine ik_Wret rfl rfl ⟨_, _, rfl, rfl, ?_⟩
            refine ik_Wret rfl rfl ⟨_, _, rfl, rfl, ?_⟩
            refine ik_Wk 2 (pc' := 9) (loc' := [some (.ref 66), some (.int a1), none]) (st' := [.int (-1000000001)]) (h' := p1_h) (cl' := 0) (sl' := 0) rfl ?_
            refine ik_Wret rfl rfl ⟨_, _, rfl, rfl, ?_⟩
            refine ik_Wk 10 (pc' := 1138) (loc' := [some (.retAddr 0), some (.ref 0), some (.ref 66), some (.int 5)]) (st' := [.int 1]) (h' := p1_h) (cl' := 94) (sl' := 4156) rfl ?_
            exact ik_Wret rfl rfl ⟨rfl, rfl, Nat.le_of_ble_eq_true rfl, Nat.le_of_ble_eq_true rfl⟩
          · exfalso
            (try simp only [lg_lt0, lg_gt0] at hs1_0 hs1_1 hc2 hc3 hc4 hc5) <;> simp only [cv_eq, cv_lt, cv_le, cv_64, (show (0 : Int32).toInt = 0 from by decide), (show (0 : Int64).toInt = 0 from by decide), (show (1 : Int32).toInt = 1 from by decide), (show (1 : Int64).toInt = 1 from by decide)] at hs1_0 hs1_1 hc2 hc3 hc4 hc5 <;> omega

set_option maxHeartbeats 16000000 in
set_option maxRecDepth 100000 in
/-- keep on the new objects -/
theorem p1_k29 (a0 a1 a2 a3 a4 : Int32) : ik_W (some (5, p1_f a0 a1 a2 a3 a4)) 0 1085 [some (.retAddr 0), some (.ref 0), some (.ref 66), some (.int 0)] [] p1_h 94 4156 p1_post := by
  rcases p1_sp2 a1 (0) (1) with rfl | rfl | hs1
  · refine ik_Wk 6 (pc' := 1091) (loc' := [some (.retAddr 0), some (.ref 0), some (.ref 66), some (.int 0)]) (st' := [.int 0, .ref 0]) (h' := p1_h) (cl' := 94) (sl' := 4156) rfl ?_
    refine ik_Wce 63 2 0 [.ref 0, .int 0] [] _ [.int 1] p1_r43 rfl rfl rfl (by decide) rfl rfl rfl rfl rfl ?_
    refine ik_Wk 6 (pc' := 1100) (loc' := [some (.retAddr 0), some (.ref 0), some (.ref 66), some (.int 0)]) (st' := [.int 0, .ref 66, .int 1]) (h' := p1_h5) (cl' := 94) (sl' := 4156) rfl ?_
    refine ik_Wce 115 2 0 [.ref 66, .int 0] [.int 1] _ [.int 1] p1_r44 rfl rfl rfl (by decide) rfl rfl rfl rfl rfl ?_
    refine ik_Wk 10 (pc' := 1138) (loc' := [some (.retAddr 0), some (.ref 0), some (.ref 66), some (.int 5)]) (st' := [.int 1]) (h' := p1_h6) (cl' := 94) (sl' := 4156) rfl ?_
    exact ik_Wret rfl rfl ⟨rfl, rfl, Nat.le_of_ble_eq_true rfl, Nat.le_of_ble_eq_true rfl⟩
  · refine ik_Wk 6 (pc' := 1091) (loc' := [some (.retAddr 0), some (.ref 0), some (.ref 66), some (.int 0)]) (st' := [.int 1, .ref 0]) (h' := p1_h) (cl' := 94) (sl' := 4156) rfl ?_
    refine ik_Wce 63 2 0 [.ref 0, .int 1] [] _ [.int 1] p1_r45 rfl rfl rfl (by decide) rfl rfl rfl rfl rfl ?_
    refine ik_Wk 6 (pc' := 1100) (loc' := [some (.retAddr 0), some (.ref 0), some (.ref 66), some (.int 0)]) (st' := [.int 1, .ref 66, .int 1]) (h' := p1_h7) (cl' := 94) (sl' := 4156) rfl ?_
    refine ik_Wce 115 2 0 [.ref 66, .int 1] [.int 1] _ [.int 1] p1_r46 rfl rfl rfl (by decide) rfl rfl rfl rfl rfl ?_
    refine ik_Wk 10 (pc' := 1138) (loc' := [some (.retAddr 0), some (.ref 0), some (.ref 66), some (.int 5)]) (st' := [.int 1]) (h' := p1_h8) (cl' := 94) (sl' := 4156) rfl ?_
    exact ik_Wret rfl rfl ⟨rfl, rfl, Nat.le_of_ble_eq_true rfl, Nat.le_of_ble_eq_true rfl⟩
  · obtain ⟨hs1_0, hs1_1⟩ := hs1
    refine ik_Wk 6 (pc' := 1091) (loc' := [some (.retAddr 0), some (.ref 0), some (.ref 66), some (.int 0)]) (st' := [.int a1, .ref 0]) (h' := p1_h) (cl' := 94) (sl' := 4156) rfl ?_
    refine ik_Wc 63 2 0 [.ref 0, .int a1] [] rfl rfl rfl (by decide) rfl rfl rfl ?_
    refine ik_Wk 2 (pc' := 2) (loc' := [some (.ref 0), some (.int a1)]) (st' := [.int a1, .ref 0]) (h' := p1_h) (cl' := 0) (sl' := 0) rfl ?_
    refine ik_Wc 68 2 0 [.ref 0, .int a1] [] rfl rfl rfl (by decide) rfl rfl rfl ?_
    refine ik_Wif 2 (c := a1 < 0) 17 4 (loc' := [some (.ref 0), some (.int a1)]) (st' := []) (h' := p1_h) (cl' := 0) (sl' := 0) rfl (fun hc2 => ?_) (fun hc2 => ?_)
    · refine ik_Wk 1 (pc' := 18) (loc' := [some (.ref 0), some (.int a1)]) (st' := [.int 0]) (h' := p1_h) (cl' := 0) (sl' := 0) rfl ?_
      refine ik_Wret rfl rfl ⟨_, _, rfl, rfl, ?_⟩
      refine ik_Wk 2 (pc' := 10) (loc' := [some (.ref 0), some (.int a1)]) (st' := [.int (-1000000001)]) (h' := p1_h) (cl' := 0) (sl' := 0) rfl ?_
      refine ik_Wret rfl rfl ⟨_, _, rfl, rfl, ?_⟩
      refine ik_Wk 6 (pc' := 1100) (loc' := [some (.retAddr 0), some (.ref 0), some (.ref 66), some (.int 0)]) (st' := [.int a1, .ref 66, .int (-1000000001)]) (h' := p1_h) (cl' := 94) (sl' := 4156) rfl ?_
      refine ik_Wc 115 2 0 [.ref 66, .int a1] [.int (-1000000001)] rfl rfl rfl (by decide) rfl rfl rfl ?_
      refine ik_Wk 4 (pc' := 4) (loc' := [some (.ref 66), some (.int a1), none, none]) (st' := [.long 1, .long 0, .long a1.toInt64]) (h' := p1_h) (cl' := 0) (sl' := 0) rfl ?_
      refine ik_Wc 70 3 3 [.long a1.toInt64, .long 0, .long 1] [] rfl rfl rfl (by decide) rfl rfl rfl ?_
      refine ik_Wif 4 (c := (lg_cmp a1.toInt64 (0 : Int64)) < 0) 17 6 (loc' := [some (.long a1.toInt64), none, some (.long 0), none, some (.long 1), none]) (st' := []) (h' := p1_h) (cl' := 0) (sl' := 0) rfl (fun hc3 => ?_) (fun hc3 => ?_)
      · refine ik_Wk 1 (pc' := 18) (loc' := [some (.long a1.toInt64), none, some (.long 0), none, some (.long 1), none]) (st' := [.int 0]) (h' := p1_h) (cl' := 0) (sl' := 0) rfl ?_
        refine ik_Wret rfl rfl ⟨_, _, rfl, rfl, ?_⟩
        refine ik_Wk 2 (pc' := 12) (loc' := [some (.ref 66), some (.int a1), none, none]) (st' := [.int (-1000000001)]) (h' := p1_h) (cl' := 0) (sl' := 0) rfl ?_
        refine ik_Wret rfl rfl ⟨_, _, rfl, rfl, ?_⟩
        refine ik_Wk 10 (pc' := 1138) (loc' := [some (.retAddr 0), some (.ref 0), some (.ref 66), some (.int 5)]) (st' := [.int 1]) (h' := p1_h) (cl' := 94) (sl' := 4156) rfl ?_
        exact ik_Wret rfl rfl ⟨rfl, rfl, Nat.le_of_ble_eq_true rfl, Nat.le_of_ble_eq_true rfl⟩
      · exfalso
        (try simp only [lg_lt0, lg_gt0] at hs1_0 hs1_1 hc2 hc3) <;> simp only [cv_eq, cv_lt, cv_le, cv_64, (show (0 : Int32).toInt = 0 from by decide), (show (0 : Int64).toInt = 0 from by decide), (show (1 : Int32).toInt = 1 from by decide), (show (1 : Int64).toInt = 1 from by decide)] at hs1_0 hs1_1 hc2 hc3 <;> omega
    · refine ik_Wif 5 (c := (2 : Int32) ≤ a1) 17 13 (loc' := [some (.ref 0), some (.int a1)]) (st' := []) (h' := p1_h) (cl' := 0) (sl' := 0) rfl (fun hc4 => ?_) (fun hc4 => ?_)
      · refine ik_Wk 1 (pc' := 18) (loc' := [some (.ref 0), some (.int a1)]) (st' := [.int 0]) (h' := p1_h) (cl' := 0) (sl' := 0) rfl ?_
        refine ik_Wret rfl rfl ⟨_, _, rfl, rfl, ?_⟩
        refine ik_Wk 2 (pc' := 10) (loc' := [some (.ref 0), some (.int a1)]) (st' := [.int (-1000000001)]) (h' := p1_h) (cl' := 0) (sl' := 0) rfl ?_
        refine ik_Wret rfl rfl ⟨_, _, rfl, rfl, ?_⟩
        refine ik_Wk 6 (pc' := 1100) (loc' := [some (.retAddr 0), some (.ref 0), some (.ref 66), some (.int 0)]) (st' := [.int a1, .ref 66, .int (-1000000001)]) (h' := p1_h) (cl' := 94) (sl' := 4156) rfl ?_
        refine ik_Wc 115 2 0 [.ref 66, .int a1] [.int (-1000000001)] rfl rfl rfl (by decide) rfl rfl rfl ?_
        refine ik_Wk 4 (pc' := 4) (loc' := [some (.ref 66), some (.int a1), none, none]) (st' := [.long 1, .long 0, .long a1.toInt64]) (h' := p1_h) (cl' := 0) (sl' := 0) rfl ?_
        refine ik_Wc 70 3 3 [.long a1.toInt64, .long 0, .long 1] [] rfl rfl rfl (by decide) rfl rfl rfl ?_
        refine ik_Wif 4 (c := (lg_cmp a1.toInt64 (0 : Int64)) < 0) 17 6 (loc' := [some (.long a1.toInt64), none, some (.long 0), none, some (.long 1), none]) (st' := []) (h' := p1_h) (cl' := 0) (sl' := 0) rfl (fun hc5 => ?_) (fun hc5 => ?_)
        · exfalso
          (try simp only [lg_lt0, lg_gt0] at hs1_0 hs1_1 hc2 hc4 hc5) <;> simp only [cv_eq, cv_lt, cv_le, cv_64, (show (0 : Int32).toInt = 0 from by decide), (show (0 : Int64).toInt = 0 from by decide), (show (1 : Int32).toInt = 1 from by decide), (show (1 : Int64).toInt = 1 from by decide), (show (2 : Int32).toInt = 2 from by decide), (show (2 : Int64).toInt = 2 from by decide)] at hs1_0 hs1_1 hc2 hc4 hc5 <;> omega
        · refine ik_Wif 4 (c := 0 < (lg_cmp a1.toInt64 (1 : Int64))) 17 13 (loc' := [some (.long a1.toInt64), none, some (.long 0), none, some (.long 1), none]) (st' := []) (h' := p1_h) (cl' := 0) (sl' := 0) rfl (fun hc6 => ?_) (fun hc6 => ?_)
          · refine ik_Wk 1 (pc' := 18) (loc' := [some (.long a1.toInt64), none, some (.long 0), none, some (.long 1), none]) (st' := [.int 0]) (h' := p1_h) (cl' := 0) (sl' := 0) rfl ?_
            refine ik_Wret rfl rfl ⟨_, _, rfl, rfl, ?_⟩
            refine ik_Wk 2 (pc' := 12) (loc' := [some (.ref 66), some (.int a1), none, none]) (st' := [.int (-1000000001)]) (h' := p1_h) (cl' := 0) (sl' := 0) rfl ?_
            refine ik_Wret rfl rfl ⟨_, _, rfl, rfl, ?_⟩
            refine ik_Wk 10 (pc' := 1138) (loc' := [some (.retAddr 0), some (.ref 0), some (.ref 66), some (.int 5)]) (st' := [.int 1]) (h' := p1_h) (cl' := 94) (sl' := 4156) rfl ?_
            exact ik_Wret rfl rfl ⟨rfl, rfl, Nat.le_of_ble_eq_true rfl, Nat.le_of_ble_eq_true rfl⟩
          · exfalso
            (try simp only [lg_lt0, lg_gt0] at hs1_0 hs1_1 hc2 hc4 hc5 hc6) <;> simp only [cv_eq, cv_lt, cv_le, cv_64, (show (0 : Int32).toInt = 0 from by decide), (show (0 : Int64).toInt = 0 from by decide), (show (1 : Int32).toInt = 1 from by decide), (show (1 : Int64).toInt = 1 from by decide), (show (2 : Int32).toInt = 2 from by decide), (show (2 : Int64).toInt = 2 from by decide)] at hs1_0 hs1_1 hc2 hc4 hc5 hc6 <;> omega
      · exfalso
        (try simp only [lg_lt0, lg_gt0] at hs1_0 hs1_1 hc2 hc4) <;> simp only [cv_eq, cv_lt, cv_le, cv_64, (show (0 : Int32).toInt = 0 from by decide), (show (0 : Int64).toInt = 0 from by decide), (show (1 : Int32).toInt = 1 from by decide), (show (1 : Int64).toInt = 1 from by decide), (show (2 : Int32).toInt = 2 from by decide), (show (2 : Int64).toInt = 2 from by decide)] at hs1_0 hs1_1 hc2 hc4 <;> omega

set_option maxHeartbeats 16000000 in
set_option maxRecDepth 100000 in
/-- goBack on the new objects -/
theorem p1_k30 (a0 a1 a2 a3 a4 : Int32) : ik_W (some (5, p1_f a0 a1 a2 a3 a4)) 0 1108 [some (.retAddr 0), some (.ref 0), some (.ref 66), some (.int 0)] [] p1_h 94 4156 p1_post := by
  rcases p1_sp2 a1 (0) (1) with rfl | rfl | hs1
  · refine ik_Wk 6 (pc' := 1114) (loc' := [some (.retAddr 0), some (.ref 0), some (.ref 66), some (.int 0)]) (st' := [.int 0, .ref 0]) (h' := p1_h) (cl' := 94) (sl' := 4156) rfl ?_
    refine ik_Wce 64 2 0 [.ref 0, .int 0] [] _ [.int (-1000000003)] p1_r47 rfl rfl rfl (by decide) rfl rfl rfl rfl rfl ?_
    refine ik_Wk 6 (pc' := 1123) (loc' := [some (.retAddr 0), some (.ref 0), some (.ref 66), some (.int 0)]) (st' := [.int 0, .ref 66, .int (-1000000003)]) (h' := p1_h) (cl' := 94) (sl' := 4156) rfl ?_
    refine ik_Wce 116 2 0 [.ref 66, .int 0] [.int (-1000000003)] _ [.int (-1000000003)] p1_r48 rfl rfl rfl (by decide) rfl rfl rfl rfl rfl ?_
    refine ik_Wk 10 (pc' := 1138) (loc' := [some (.retAddr 0), some (.ref 0), some (.ref 66), some (.int 5)]) (st' := [.int 1]) (h' := p1_h) (cl' := 94) (sl' := 4156) rfl ?_
    exact ik_Wret rfl rfl ⟨rfl, rfl, Nat.le_of_ble_eq_true rfl, Nat.le_of_ble_eq_true rfl⟩
  · refine ik_Wk 6 (pc' := 1114) (loc' := [some (.retAddr 0), some (.ref 0), some (.ref 66), some (.int 0)]) (st' := [.int 1, .ref 0]) (h' := p1_h) (cl' := 94) (sl' := 4156) rfl ?_
    refine ik_Wce 64 2 0 [.ref 0, .int 1] [] _ [.int (-1000000003)] p1_r49 rfl rfl rfl (by decide) rfl rfl rfl rfl rfl ?_
    refine ik_Wk 6 (pc' := 1123) (loc' := [some (.retAddr 0), some (.ref 0), some (.ref 66), some (.int 0)]) (st' := [.int 1, .ref 66, .int (-1000000003)]) (h' := p1_h) (cl' := 94) (sl' := 4156) rfl ?_
    refine ik_Wce 116 2 0 [.ref 66, .int 1] [.int (-1000000003)] _ [.int (-1000000003)] p1_r50 rfl rfl rfl (by decide) rfl rfl rfl rfl rfl ?_
    refine ik_Wk 10 (pc' := 1138) (loc' := [some (.retAddr 0), some (.ref 0), some (.ref 66), some (.int 5)]) (st' := [.int 1]) (h' := p1_h) (cl' := 94) (sl' := 4156) rfl ?_
    exact ik_Wret rfl rfl ⟨rfl, rfl, Nat.le_of_ble_eq_true rfl, Nat.le_of_ble_eq_true rfl⟩
  · obtain ⟨hs1_0, hs1_1⟩ := hs1
    refine ik_Wk 6 (pc' := 1114) (loc' := [some (.retAddr 0), some (.ref 0), some (.ref 66), some (.int 0)]) (st' := [.int a1, .ref 0]) (h' := p1_h) (cl' := 94) (sl' := 4156) rfl ?_
    refine ik_Wc 64 2 0 [.ref 0, .int a1] [] rfl rfl rfl (by decide) rfl rfl rfl ?_
    refine ik_Wk 2 (pc' := 2) (loc' := [some (.ref 0), some (.int a1)]) (st' := [.int a1, .ref 0]) (h' := p1_h) (cl' := 0) (sl' := 0) rfl ?_
    refine ik_Wc 68 2 0 [.ref 0, .int a1] [] rfl rfl rfl (by decide) rfl rfl rfl ?_
    refine ik_Wif 2 (c := a1 < 0) 17 4 (loc' := [some (.ref 0), some (.int a1)]) (st' := []) (h' := p1_h) (cl' := 0) (sl' := 0) rfl (fun hc2 => ?_) (fun hc2 => ?_)
    · refine ik_Wk 1 (pc' := 18) (loc' := [some (.ref 0), some (.int a1)]) (st' := [.int 0]) (h' := p1_h) (cl' := 0) (sl' := 0) rfl ?_
      refine ik_Wret rfl rfl ⟨_, _, rfl, rfl, ?_⟩
      refine ik_Wk 2 (pc' := 10) (loc' := [some (.ref 0), some (.int a1)]) (st' := [.int (-1000000001)]) (h' := p1_h) (cl' := 0) (sl' := 0) rfl ?_
      refine ik_Wret rfl rfl ⟨_, _, rfl, rfl, ?_⟩
      refine ik_Wk 6 (pc' := 1123) (loc' := [some (.retAddr 0), some (.ref 0), some (.ref 66), some (.int 0)]) (st' := [.int a1, .ref 66, .int (-1000000001)]) (h' := p1_h) (cl' := 94) (sl' := 4156) rfl ?_
      refine ik_Wc 116 2 0 [.ref 66, .int a1] [.int (-1000000001)] rfl rfl rfl (by decide) rfl rfl rfl ?_
      refine ik_Wk 4 (pc' := 4) (loc' := [some (.ref 66), some (.int a1), none, none]) (st' := [.long 1, .long 0, .long a1.toInt64]) (h' := p1_h) (cl' := 0) (sl' := 0) rfl ?_
      refine ik_Wc 70 3 3 [.long a1.toInt64, .long 0, .long 1] [] rfl rfl rfl (by decide) rfl rfl rfl ?_
      refine ik_Wif 4 (c := (lg_cmp a1.toInt64 (0 : Int64)) < 0) 17 6 (loc' := [some (.long a1.toInt64), none, some (.long 0), none, some (.long 1), none]) (st' := []) (h' := p1_h) (cl' := 0) (sl' := 0) rfl (fun hc3 => ?_) (fun hc3 => ?_)
      · refine ik_Wk 1 (pc' := 18) (loc' := [some (.long a1.toInt64), none, some (.long 0), none, some (.long 1), none]) (st' := [.int 0]) (h' := p1_h) (cl' := 0) (sl' := 0) rfl ?_
        refine ik_Wret rfl rfl ⟨_, _, rfl, rfl, ?_⟩
        refine ik_Wk 2 (pc' := 12) (loc' := [some (.ref 66), some (.int a1), none, none]) (st' := [.int (-1000000001)]) (h' := p1_h) (cl' := 0) (sl' := 0) rfl ?_
        refine ik_Wret rfl rfl ⟨_, _, rfl, rfl, ?_⟩
        refine ik_Wk 10 (pc' := 1138) (loc' := [some (.retAddr 0), some (.ref 0), some (.ref 66), some (.int 5)]) (st' := [.int 1]) (h' := p1_h) (cl' := 94) (sl' := 4156) rfl ?_
        exact ik_Wret rfl rfl ⟨rfl, rfl, Nat.le_of_ble_eq_true rfl, Nat.le_of_ble_eq_true rfl⟩
      · exfalso
        (try simp only [lg_lt0, lg_gt0] at hs1_0 hs1_1 hc2 hc3) <;> simp only [cv_eq, cv_lt, cv_le, cv_64, (show (0 : Int32).toInt = 0 from by decide), (show (0 : Int64).toInt = 0 from by decide), (show (1 : Int32).toInt = 1 from by decide), (show (1 : Int64).toInt = 1 from by decide)] at hs1_0 hs1_1 hc2 hc3 <;> omega
    · refine ik_Wif 5 (c := (2 : Int32) ≤ a1) 17 13 (loc' := [some (.ref 0), some (.int a1)]) (st' := []) (h' := p1_h) (cl' := 0) (sl' := 0) rfl (fun hc4 => ?_) (fun hc4 => ?_)
      · refine ik_Wk 1 (pc' := 18) (loc' := [some (.ref 0), some (.int a1)]) (st' := [.int 0]) (h' := p1_h) (cl' := 0) (sl' := 0) rfl ?_
        refine ik_Wret rfl rfl ⟨_, _, rfl, rfl, ?_⟩
        refine ik_Wk 2 (pc' := 10) (loc' := [some (.ref 0), some (.int a1)]) (st' := [.int (-1000000001)]) (h' := p1_h) (cl' := 0) (sl' := 0) rfl ?_
        refine ik_Wret rfl rfl ⟨_, _, rfl, rfl, ?_⟩
        refine ik_Wk 6 (pc' := 1123) (loc' := [some (.retAddr 0), some (.ref 0), some (.ref 66), some (.int 0)]) (st' := [.int a1, .ref 66, .int (-1000000001)]) (h' := p1_h) (cl' := 94) (sl' := 4156) rfl ?_
        refine ik_Wc 116 2 0 [.ref 66, .int a1] [.int (-1000000001)] rfl rfl rfl (by decide) rfl rfl rfl ?_
        refine ik_Wk 4 (pc' := 4) (loc' := [some (.ref 66), some (.int a1), none, none]) (st' := [.long 1, .long 0, .long a1.toInt64]) (h' := p1_h) (cl' := 0) (sl' := 0) rfl ?_
        refine ik_Wc 70 3 3 [.long a1.toInt64, .long 0, .long 1] [] rfl rfl rfl (by decide) rfl rfl rfl ?_
        refine ik_Wif 4 (c := (lg_cmp a1.toInt64 (0 : Int64)) < 0) 17 6 (loc' := [some (.long a1.toInt64), none, some (.long 0), none, some (.long 1), none]) (st' := []) (h' := p1_h) (cl' := 0) (sl' := 0) rfl (fun hc5 => ?_) (fun hc5 => ?_)
        · exfalso
          (try simp only [lg_lt0, lg_gt0] at hs1_0 hs1_1 hc2 hc4 hc5) <;> simp only [cv_eq, cv_lt, cv_le, cv_64, (show (0 : Int32).toInt = 0 from by decide), (show (0 : Int64).toInt = 0 from by decide), (show (1 : Int32).toInt = 1 from by decide), (show (1 : Int64).toInt = 1 from by decide), (show (2 : Int32).toInt = 2 from by decide), (show (2 : Int64).toInt = 2 from by decide)] at hs1_0 hs1_1 hc2 hc4 hc5 <;> omega
        · refine ik_Wif 4 (c := 0 < (lg_cmp a1.toInt64 (1 : Int64))) 17 13 (loc' := [some (.long a1.toInt64), none, some (.long 0), none, some (.long 1), none]) (st' := []) (h' := p1_h) (cl' := 0) (sl' := 0) rfl (fun hc6 => ?_) (fun hc6 => ?_)
          · refine ik_Wk 1 (pc' := 18) (loc' := [some (.long a1.toInt64), none, some (.long 0), none, some (.long 1), none]) (st' := [.int 0]) (h' := p1_h) (cl' := 0) (sl' := 0) rfl ?_
            refine ik_Wret rfl rfl ⟨_, _, rfl, rfl, ?_⟩
            refine ik_Wk 2 (pc' := 12) (loc' := [some (.ref 66), some (.int a1), none, none]) (st' := [.int (-1000000001)]) (h' := p1_h) (cl' := 0) (sl' := 0) rfl ?_
            refine ik_Wret rfl rfl ⟨_, _, rfl, rfl, ?_⟩
            refine ik_Wk 10 (pc' := 1138) (loc' := [some (.retAddr 0), some (.ref 0), some (.ref 66), some (.int 5)]) (st' := [.int 1]) (h' := p1_h) (cl' := 94) (sl' := 4156) rfl ?_
            exact ik_Wret rfl rfl ⟨rfl, rfl, Nat.le_of_ble_eq_true rfl, Nat.le_of_ble_eq_true rfl⟩
          · exfalso
            (try simp only [lg_lt0, lg_gt0] at hs1_0 hs1_1 hc2 hc4 hc5 hc6) <;> simp only [cv_eq, cv_lt, cv_le, cv_64, (show (0 : Int32).toInt = 0 from by decide), (show (0 : Int64).toInt = 0 from by decide), (show (1 : Int32).toInt = 1 from by decide), (show (1 : Int64).toInt = 1 from by decide), (show (2 : Int32).toInt = 2 from by decide), (show (2 : Int64).toInt = 2 from by decide)] at hs1_0 hs1_1 hc2 hc4 hc5 hc6 <;> omega
      · exfalso
        (try simp only [lg_lt0, lg_gt0] at hs1_0 hs1_1 hc2 hc4) <;> simp only [cv_eq, cv_lt, cv_le, cv_64, (show (0 : Int32).toInt = 0 from by decide), (show (0 : Int64).toInt = 0 from by decide), (show (1 : Int32).toInt = 1 from by decide), (show (1 : Int64).toInt = 1 from by decide), (show (2 : Int32).toInt = 2 from by decide), (show (2 : Int64).toInt = 2 from by decide)] at hs1_0 hs1_1 hc2 hc4 <;> omega
