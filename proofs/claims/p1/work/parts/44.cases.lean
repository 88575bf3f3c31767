set_option maxHeartbeats 16000000 in
set_option maxRecDepth 100000 in
/-- best on the new objects -/
theorem p1_k11 (a0 a1 a2 a3 a4 : Int32) : ik_W (some (5, p1_f a0 a1 a2 a3 a4)) 0 575 [some (.retAddr 0), some (.ref 0), some (.ref 66), some (.int 0)] [] p1_h 94 4156 p1_post := by
  refine ik_Wk 16 (pc' := 591) (loc' := [some (.retAddr 0), some (.ref 0), some (.ref 66), some (.int 0)]) (st' := [.int a3, .int a2, .int a1, .ref 0]) (h' := p1_h) (cl' := 94) (sl' := 4156) rfl ?_
  refine ik_Wc 45 4 0 [.ref 0, .int a1, .int a2, .int a3] [] rfl rfl rfl (by decide) rfl rfl rfl ?_
  refine ik_Wk 1 (pc' := 1) (loc' := [some (.ref 0), some (.int a1), some (.int a2), some (.int a3)]) (st' := [.int a1]) (h' := p1_h) (cl' := 0) (sl' := 0) rfl ?_
  refine ik_Wc 65 1 3 [.int a1] [] rfl rfl rfl (by decide) rfl rfl rfl ?_
  refine ik_Wif 2 (c := a1 = 0) 9 4 (loc' := [some (.int a1)]) (st' := []) (h' := p1_h) (cl' := 0) (sl' := 0) rfl (fun hc1 => ?_) (fun hc1 => ?_)
  · refine ik_Wk 2 (pc' := 14) (loc' := [some (.int a1)]) (st' := [.int 1]) (h' := p1_h) (cl' := 0) (sl' := 0) rfl ?_
    refine ik_Wret rfl rfl ⟨_, _, rfl, rfl, ?_⟩
    refine ik_Wif 3 (c := a2 < 0) 29 14 (loc' := [some (.ref 0), some (.int a1), some (.int a2), some (.int a3)]) (st' := []) (h' := p1_h) (cl' := 0) (sl' := 0) rfl (fun hc2 => ?_) (fun hc2 => ?_)
    · refine ik_Wk 1 (pc' := 31) (loc' := [some (.ref 0), some (.int a1), some (.int a2), some (.int a3)]) (st' := [.int (-1000000002)]) (h' := p1_h) (cl' := 0) (sl' := 0) rfl ?_
      refine ik_Wret rfl rfl ⟨_, _, rfl, rfl, ?_⟩
      refine ik_Wk 16 (pc' := 610) (loc' := [some (.retAddr 0), some (.ref 0), some (.ref 66), some (.int 0)]) (st' := [.int a3, .int a2, .int a1, .ref 66, .int (-1000000002)]) (h' := p1_h) (cl' := 94) (sl' := 4156) rfl ?_
      refine ik_Wc 94 4 0 [.ref 66, .int a1, .int a2, .int a3] [.int (-1000000002)] rfl rfl rfl (by decide) rfl rfl rfl ?_
      refine ik_Wk 1 (pc' := 1) (loc' := [some (.ref 66), some (.int a1), some (.int a2), some (.int a3), none, none, none, none, none, none, none, none]) (st' := [.int a1]) (h' := p1_h) (cl' := 0) (sl' := 0) rfl ?_
      refine ik_Wc 75 1 3 [.int a1] [] rfl rfl rfl (by decide) rfl rfl rfl ?_
      refine ik_Wk 4 (pc' := 4) (loc' := [some (.int a1)]) (st' := [.long 1, .long 0, .long a1.toInt64]) (h' := p1_h) (cl' := 0) (sl' := 0) rfl ?_
      refine ik_Wc 70 3 3 [.long a1.toInt64, .long 0, .long 1] [] rfl rfl rfl (by decide) rfl rfl rfl ?_
      refine ik_Wif 4 (c := (lg_cmp a1.toInt64 (0 : Int64)) < 0) 17 6 (loc' := [some (.long a1.toInt64), none, some (.long 0), none, some (.long 1), none]) (st' := []) (h' := p1_h) (cl' := 0) (sl' := 0) rfl (fun hc3 => ?_) (fun hc3 => ?_)
      · exfalso
        (try simp only [lg_lt0, lg_gt0] at hc1 hc3) <;> simp only [cv_eq, cv_lt, cv_le, cv_64, (show (0 : Int32).toInt = 0 from by decide), (show (0 : Int64).toInt = 0 from by decide)] at hc1 hc3 <;> omega
      · refine ik_Wif 4 (c := 0 < (lg_cmp a1.toInt64 (1 : Int64))) 17 13 (loc' := [some (.long a1.toInt64), none, some (.long 0), none, some (.long 1), none]) (st' := []) (h' := p1_h) (cl' := 0) (sl' := 0) rfl (fun hc4 => ?_) (fun hc4 => ?_)
        · exfalso
          (try simp only [lg_lt0, lg_gt0] at hc1 hc3 hc4) <;> simp only [cv_eq, cv_lt, cv_le, cv_64, (show (0 : Int32).toInt = 0 from by decide), (show (0 : Int64).toInt = 0 from by decide), (show (1 : Int32).toInt = 1 from by decide), (show (1 : Int64).toInt = 1 from by decide)] at hc1 hc3 hc4 <;> omega
        · refine ik_Wk 2 (pc' := 18) (loc' := [some (.long a1.toInt64), none, some (.long 0), none, some (.long 1), none]) (st' := [.int 1]) (h' := p1_h) (cl' := 0) (sl' := 0) rfl ?_
          refine ik_Wret rfl rfl ⟨_, _, rfl, rfl, ?_⟩
          refine ik_Wret rfl rfl ⟨_, _, rfl, rfl, ?_⟩
          refine ik_Wk 5 (pc' := 16) (loc' := [some (.ref 66), some (.int a1), some (.int a2), some (.int a3), none, none, none, none, none, none, none, none]) (st' := [.long 10, .long 0, .long a2.toInt64]) (h' := p1_h) (cl' := 0) (sl' := 0) rfl ?_
          refine ik_Wc 70 3 3 [.long a2.toInt64, .long 0, .long 10] [] rfl rfl rfl (by decide) rfl rfl rfl ?_
          refine ik_Wif 4 (c := (lg_cmp a2.toInt64 (0 : Int64)) < 0) 17 6 (loc' := [some (.long a2.toInt64), none, some (.long 0), none, some (.long 10), none]) (st' := []) (h' := p1_h) (cl' := 0) (sl' := 0) rfl (fun hc5 => ?_) (fun hc5 => ?_)
          · refine ik_Wk 1 (pc' := 18) (loc' := [some (.long a2.toInt64), none, some (.long 0), none, some (.long 10), none]) (st' := [.int 0]) (h' := p1_h) (cl' := 0) (sl' := 0) rfl ?_
            refine ik_Wret rfl rfl ⟨_, _, rfl, rfl, ?_⟩
            refine ik_Wk 2 (pc' := 36) (loc' := [some (.ref 66), some (.int a1), some (.int a2), some (.int a3), none, none, none, none, none, none, none, none]) (st' := [.int (-1000000002)]) (h' := p1_h) (cl' := 0) (sl' := 0) rfl ?_
            refine ik_Wret rfl rfl ⟨_, _, rfl, rfl, ?_⟩
            refine ik_Wk 10 (pc' := 1138) (loc' := [some (.retAddr 0), some (.ref 0), some (.ref 66), some (.int 5)]) (st' := [.int 1]) (h' := p1_h) (cl' := 94) (sl' := 4156) rfl ?_
            exact ik_Wret rfl rfl ⟨rfl, rfl, Nat.le_of_ble_eq_true rfl, Nat.le_of_ble_eq_true rfl⟩
          · exfalso
            (try simp only [lg_lt0, lg_gt0] at hc2 hc5) <;> simp only [cv_eq, cv_lt, cv_le, cv_64, (show (0 : Int32).toInt = 0 from by decide), (show (0 : Int64).toInt = 0 from by decide), (show (1 : Int32).toInt = 1 from by decide), (show (1 : Int64).toInt = 1 from by decide)] at hc2 hc5 <;> omega
    · refine ik_Wif 3 (c := (10 : Int32) < a2) 29 20 (loc' := [some (.ref 0), some (.int a1), some (.int a2), some (.int a3)]) (st' := []) (h' := p1_h) (cl' := 0) (sl' := 0) rfl (fun hc6 => ?_) (fun hc6 => ?_)
      · refine ik_Wk 1 (pc' := 31) (loc' := [some (.ref 0), some (.int a1), some (.int a2), some (.int a3)]) (st' := [.int (-1000000002)]) (h' := p1_h) (cl' := 0) (sl' := 0) rfl ?_
        refine ik_Wret rfl rfl ⟨_, _, rfl, rfl, ?_⟩
        refine ik_Wk 16 (pc' := 610) (loc' := [some (.retAddr 0), some (.ref 0), some (.ref 66), some (.int 0)]) (st' := [.int a3, .int a2, .int a1, .ref 66, .int (-1000000002)]) (h' := p1_h) (cl' := 94) (sl' := 4156) rfl ?_
        refine ik_Wc 94 4 0 [.ref 66, .int a1, .int a2, .int a3] [.int (-1000000002)] rfl rfl rfl (by decide) rfl rfl rfl ?_
        refine ik_Wk 1 (pc' := 1) (loc' := [some (.ref 66), some (.int a1), some (.int a2), some (.int a3), none, none, none, none, none, none, none, none]) (st' := [.int a1]) (h' := p1_h) (cl' := 0) (sl' := 0) rfl ?_
        refine ik_Wc 75 1 3 [.int a1] [] rfl rfl rfl (by decide) rfl rfl rfl ?_
        refine ik_Wk 4 (pc' := 4) (loc' := [some (.int a1)]) (st' := [.long 1, .long 0, .long a1.toInt64]) (h' := p1_h) (cl' := 0) (sl' := 0) rfl ?_
        refine ik_Wc 70 3 3 [.long a1.toInt64, .long 0, .long 1] [] rfl rfl rfl (by decide) rfl rfl rfl ?_
        refine ik_Wif 4 (c := (lg_cmp a1.toInt64 (0 : Int64)) < 0) 17 6 (loc' := [some (.long a1.toInt64), none, some (.long 0), none, some (.long 1), none]) (st' := []) (h' := p1_h) (cl' := 0) (sl' := 0) rfl (fun hc7 => ?_) (fun hc7 => ?_)
        · exfalso
          (try simp only [lg_lt0, lg_gt0] at hc1 hc7) <;> simp only [cv_eq, cv_lt, cv_le, cv_64, (show (0 : Int32).toInt = 0 from by decide), (show (0 : Int64).toInt = 0 from by decide), (show (10 : Int32).toInt = 10 from by decide), (show (10 : Int64).toInt = 10 from by decide)] at hc1 hc7 <;> omega
        · refine ik_Wif 4 (c := 0 < (lg_cmp a1.toInt64 (1 : Int64))) 17 13 (loc' := [some (.long a1.toInt64), none, some (.long 0), none, some (.long 1), none]) (st' := []) (h' := p1_h) (cl' := 0) (sl' := 0) rfl (fun hc8 => ?_) (fun hc8 => ?_)
          · exfalso
            (try simp only [lg_lt0, lg_gt0] at hc1 hc7 hc8) <;> simp only [cv_eq, cv_lt, cv_le, cv_64, (show (0 : Int32).toInt = 0 from by decide), (show (0 : Int64).toInt = 0 from by decide), (show (1 : Int32).toInt = 1 from by decide), (show (1 : Int64).toInt = 1 from by decide), (show (10 : Int32).toInt = 10 from by decide), (show (10 : Int64).toInt = 10 from by decide)] at hc1 hc7 hc8 <;> omega
          · refine ik_Wk 2 (pc' := 18) (loc' := [some (.long a1.toInt64), none, some (.long 0), none, some (.long 1), none]) (st' := [.int 1]) (h' := p1_h) (cl' := 0) (sl' := 0) rfl ?_
            refine ik_Wret rfl rfl ⟨_, _, rfl, rfl, ?_⟩
            refine ik_Wret rfl rfl ⟨_, _, rfl, rfl, ?_⟩
            refine ik_Wk 5 (pc' := 16) (loc' := [some (.ref 66), some (.int a1), some (.int a2), some (.int a3), none, none, none, none, none, none, none, none]) (st' := [.long 10, .long 0, .long a2.toInt64]) (h' := p1_h) (cl' := 0) (sl' := 0) rfl ?_
            refine ik_Wc 70 3 3 [.long a2.toInt64, .long 0, .long 10] [] rfl rfl rfl (by decide) rfl rfl rfl ?_
            refine ik_Wif 4 (c := (lg_cmp a2.toInt64 (0 : Int64)) < 0) 17 6 (loc' := [some (.long a2.toInt64), none, some (.long 0), none, some (.long 10), none]) (st' := []) (h' := p1_h) (cl' := 0) (sl' := 0) rfl (fun hc9 => ?_) (fun hc9 => ?_)
            · exfalso
              (try simp only [lg_lt0, lg_gt0] at hc2 hc6 hc9) <;> simp only [cv_eq, cv_lt, cv_le, cv_64, (show (0 : Int32).toInt = 0 from by decide), (show (0 : Int64).toInt = 0 from by decide), (show (1 : Int32).toInt = 1 from by decide), (show (1 : Int64).toInt = 1 from by decide), (show (10 : Int32).toInt = 10 from by decide), (show (10 : Int64).toInt = 10 from by decide)] at hc2 hc6 hc9 <;> omega
            · refine ik_Wif 4 (c := 0 < (lg_cmp a2.toInt64 (10 : Int64))) 17 13 (loc' := [some (.long a2.toInt64), none, some (.long 0), none, some (.long 10), none]) (st' := []) (h' := p1_h) (cl' := 0) (sl' := 0) rfl (fun hc10 => ?_) (fun hc10 => ?_)
              · refine ik_Wk 1 (pc' := 18) (loc' := [some (.long a2.toInt64), none, some (.long 0), none, some (.long 10), none]) (st' := [.int 0]) (h' := p1_h) (cl' := 0) (sl' := 0) rfl ?_
                refine ik_Wret rfl rfl ⟨_, _, rfl, rfl, ?_⟩
                refine ik_Wk 2 (pc' := 36) (loc' := [some (.ref 66), some (.int a1), some (.int a2), some (.int a3), none, none, none, none, none, none, none, none]) (st' := [.int (-1000000002)]) (h' := p1_h) (cl' := 0) (sl' := 0) rfl ?_
                refine ik_Wret rfl rfl ⟨_, _, rfl, rfl, ?_⟩
                refine ik_Wk 10 (pc' := 1138) (loc' := [some (.retAddr 0), some (.ref 0), some (.ref 66), some (.int 5)]) (st' := [.int 1]) (h' := p1_h) (cl' := 94) (sl' := 4156) rfl ?_
                exact ik_Wret rfl rfl ⟨rfl, rfl, Nat.le_of_ble_eq_true rfl, Nat.le_of_ble_eq_true rfl⟩
              · exfalso
                (try simp only [lg_lt0, lg_gt0] at hc2 hc6 hc9 hc10) <;> simp only [cv_eq, cv_lt, cv_le, cv_64, (show (0 : Int32).toInt = 0 from by decide), (show (0 : Int64).toInt = 0 from by decide), (show (1 : Int32).toInt = 1 from by decide), (show (1 : Int64).toInt = 1 from by decide), (show (10 : Int32).toInt = 10 from by decide), (show (10 : Int64).toInt = 10 from by decide)] at hc2 hc6 hc9 hc10 <;> omega
      · refine ik_Wif 2 (c := a3 < 0) 29 24 (loc' := [some (.ref 0), some (.int a1), some (.int a2), some (.int a3)]) (st' := []) (h' := p1_h) (cl' := 0) (sl' := 0) rfl (fun hc11 => ?_) (fun hc11 => ?_)
        · refine ik_Wk 1 (pc' := 31) (loc' := [some (.ref 0), some (.int a1), some (.int a2), some (.int a3)]) (st' := [.int (-1000000002)]) (h' := p1_h) (cl' := 0) (sl' := 0) rfl ?_
          refine ik_Wret rfl rfl ⟨_, _, rfl, rfl, ?_⟩
          refine ik_Wk 16 (pc' := 610) (loc' := [some (.retAddr 0), some (.ref 0), some (.ref 66), some (.int 0)]) (st' := [.int a3, .int a2, .int a1, .ref 66, .int (-1000000002)]) (h' := p1_h) (cl' := 94) (sl' := 4156) rfl ?_
          refine ik_Wc 94 4 0 [.ref 66, .int a1, .int a2, .int a3] [.int (-1000000002)] rfl rfl rfl (by decide) rfl rfl rfl ?_
          refine ik_Wk 1 (pc' := 1) (loc' := [some (.ref 66), some (.int a1), some (.int a2), some (.int a3), none, none, none, none, none, none, none, none]) (st' := [.int a1]) (h' := p1_h) (cl' := 0) (sl' := 0) rfl ?_
          refine ik_Wc 75 1 3 [.int a1] [] rfl rfl rfl (by decide) rfl rfl rfl ?_
          refine ik_Wk 4 (pc' := 4) (loc' := [some (.int a1)]) (st' := [.long 1, .long 0, .long a1.toInt64]) (h' := p1_h) (cl' := 0) (sl' := 0) rfl ?_
          refine ik_Wc 70 3 3 [.long a1.toInt64, .long 0, .long 1] [] rfl rfl rfl (by decide) rfl rfl rfl ?_
          refine ik_Wif 4 (c := (lg_cmp a1.toInt64 (0 : Int64)) < 0) 17 6 (loc' := [some (.long a1.toInt64), none, some (.long 0), none, some (.long 1), none]) (st' := []) (h' := p1_h) (cl' := 0) (sl' := 0) rfl (fun hc12 => ?_) (fun hc12 => ?_)
          · exfalso
            (try simp only [lg_lt0, lg_gt0] at hc1 hc12) <;> simp only [cv_eq, cv_lt, cv_le, cv_64, (show (0 : Int32).toInt = 0 from by decide), (show (0 : Int64).toInt = 0 from by decide), (show (10 : Int32).toInt = 10 from by decide), (show (10 : Int64).toInt = 10 from by decide)] at hc1 hc12 <;> omega
          · refine ik_Wif 4 (c := 0 < (lg_cmp a1.toInt64 (1 : Int64))) 17 13 (loc' := [some (.long a1.toInt64), none, some (.long 0), none, some (.long 1), none]) (st' := []) (h' := p1_h) (cl' := 0) (sl' := 0) rfl (fun hc13 => ?_) (fun hc13 => ?_)
            · exfalso
              (try simp only [lg_lt0, lg_gt0] at hc1 hc12 hc13) <;> simp only [cv_eq, cv_lt, cv_le, cv_64, (show (0 : Int32).toInt = 0 from by decide), (show (0 : Int64).toInt = 0 from by decide), (show (1 : Int32).toInt = 1 from by decide), (show (1 : Int64).toInt = 1 from by decide), (show (10 : Int32).toInt = 10 from by decide), (show (10 : Int64).toInt = 10 from by decide)] at hc1 hc12 hc13 <;> omega
            · refine ik_Wk 2 (pc' := 18) (loc' := [some (.long a1.toInt64), none, some (.long 0), none, some (.long 1), none]) (st' := [.int 1]) (h' := p1_h) (cl' := 0) (sl' := 0) rfl ?_
              refine ik_Wret rfl rfl ⟨_, _, rfl, rfl, ?_⟩
              refine ik_Wret rfl rfl ⟨_, _, rfl, rfl, ?_⟩
              refine ik_Wk 5 (pc' := 16) (loc' := [some (.ref 66), some (.int a1), some (.int a2), some (.int a3), none, none, none, none, none, none, none, none]) (st' := [.long 10, .long 0, .long a2.toInt64]) (h' := p1_h) (cl' := 0) (sl' := 0) rfl ?_
              refine ik_Wc 70 3 3 [.long a2.toInt64, .long 0, .long 10] [] rfl rfl rfl (by decide) rfl rfl rfl ?_
              refine ik_Wif 4 (c := (lg_cmp a2.toInt64 (0 : Int64)) < 0) 17 6 (loc' := [some (.long a2.toInt64), none, some (.long 0), none, some (.long 10), none]) (st' := []) (h' := p1_h) (cl' := 0) (sl' := 0) rfl (fun hc14 => ?_) (fun hc14 => ?_)
              · exfalso
                (try simp only [lg_lt0, lg_gt0] at hc2 hc6 hc14) <;> simp only [cv_eq, cv_lt, cv_le, cv_64, (show (0 : Int32).toInt = 0 from by decide), (show (0 : Int64).toInt = 0 from by decide), (show (1 : Int32).toInt = 1 from by decide), (show (1 : Int64).toInt = 1 from by decide), (show (10 : Int32).toInt = 10 from by decide), (show (10 : Int64).toInt = 10 from by decide)] at hc2 hc6 hc14 <;> omega
              · refine ik_Wif 4 (c := 0 < (lg_cmp a2.toInt64 (10 : Int64))) 17 13 (loc' := [some (.long a2.toInt64), none, some (.long 0), none, some (.long 10), none]) (st' := []) (h' := p1_h) (cl' := 0) (sl' := 0) rfl (fun hc15 => ?_) (fun hc15 => ?_)
                · exfalso
                  (try simp only [lg_lt0, lg_gt0] at hc2 hc6 hc14 hc15) <;> simp only [cv_eq, cv_lt, cv_le, cv_64, (show (0 : Int32).toInt = 0 from by decide), (show (0 : Int64).toInt = 0 from by decide), (show (1 : Int32).toInt = 1 from by decide), (show (1 : Int64).toInt = 1 from by decide), (show (10 : Int32).toInt = 10 from by decide), (show (10 : Int64).toInt = 10 from by decide)] at hc2 hc6 hc14 hc15 <;> omega
                · refine ik_Wk 2 (pc' := 18) (loc' := [some (.long a2.toInt64), none, some (.long 0), none, some (.long 10), none]) (st' := [.int 1]) (h' := p1_h) (cl' := 0) (sl' := 0) rfl ?_
                  refine ik_Wret rfl rfl ⟨_, _, rfl, rfl, ?_⟩
                  refine ik_Wk 5 (pc' := 28) (loc' := [some (.ref 66), some (.int a1), some (.int a2), some (.int a3), none, none, none, none, none, none, none, none]) (st' := [.long 2, .long 0, .long a3.toInt64]) (h' := p1_h) (cl' := 0) (sl' := 0) rfl ?_
                  refine ik_Wc 70 3 3 [.long a3.toInt64, .long 0, .long 2] [] rfl rfl rfl (by decide) rfl rfl rfl ?_
                  refine ik_Wif 4 (c := (lg_cmp a3.toInt64 (0 : Int64)) < 0) 17 6 (loc' := [some (.long a3.toInt64), none, some (.long 0), none, some (.long 2), none]) (st' := []) (h' := p1_h) (cl' := 0) (sl' := 0) rfl (fun hc16 => ?_) (fun hc16 => ?_)
                  · refine ik_Wk 1 (pc' := 18) (loc' := [some (.long a3.toInt64), none, some (.long 0), none, some (.long 2), none]) (st' := [.int 0]) (h' := p1_h) (cl' := 0) (sl' := 0) rfl ?_
                    refine ik_Wret rfl rfl ⟨_, _, rfl, rfl, ?_⟩
                    refine ik_Wk 2 (pc' := 36) (loc' := [some (.ref 66), some (.int a1), some (.int a2), some (.int a3), none, none, none, none, none, none, none, none]) (st' := [.int (-1000000002)]) (h' := p1_h) (cl' := 0) (sl' := 0) rfl ?_
                    refine ik_Wret rfl rfl ⟨_, _, rfl, rfl, ?_⟩
                    refine ik_Wk 10 (pc' := 1138) (loc' := [some (.retAddr 0), some (.ref 0), some (.ref 66), some (.int 5)]) (st' := [.int 1]) (h' := p1_h) (cl' := 94) (sl' := 4156) rfl ?_
                    exact ik_Wret rfl rfl ⟨rfl, rfl, Nat.le_of_ble_eq_true rfl, Nat.le_of_ble_eq_true rfl⟩
                  · exfalso
                    (try simp only [lg_lt0, lg_gt0] at hc11 hc16) <;> simp only [cv_eq, cv_lt, cv_le, cv_64, (show (0 : Int32).toInt = 0 from by decide), (show (0 : Int64).toInt = 0 from by decide), (show (1 : Int32).toInt = 1 from by decide), (show (1 : Int64).toInt = 1 from by decide), (show (10 : Int32).toInt = 10 from by decide), (show (10 : Int64).toInt = 10 from by decide)] at hc11 hc16 <;> omega
        · refine ik_Wif 3 (c := a3 ≤ (2 : Int32)) 32 29 (loc' := [some (.ref 0), some (.int a1), some (.int a2), some (.int a3)]) (st' := []) (h' := p1_h) (cl' := 0) (sl' := 0) rfl (fun hc17 => ?_) (fun hc17 => ?_)
          · refine ik_Wk 2 (pc' := 36) (loc' := [some (.ref 0), some (.int a1), some (.int a2), some (.int a3)]) (st' := [.ref 7]) (h' := p1_h) (cl' := 0) (sl' := 0) rfl ?_
            refine ik_Wc 7 1 0 [.ref 7] [] rfl rfl rfl (by decide) rfl rfl rfl ?_
            refine ik_Wk 5 (pc' := 13) (loc' := [some (.ref 7)]) (st' := [.int 0]) (h' := p1_h) (cl' := 0) (sl' := 0) rfl ?_
            refine ik_Wret rfl rfl ⟨_, _, rfl, rfl, ?_⟩
            refine ik_Wk 2 (pc' := 44) (loc' := [some (.ref 0), some (.int a1), some (.int a2), some (.int a3)]) (st' := [.int (-1000000003)]) (h' := p1_h) (cl' := 0) (sl' := 0) rfl ?_
            refine ik_Wret rfl rfl ⟨_, _, rfl, rfl, ?_⟩
            refine ik_Wk 16 (pc' := 610) (loc' := [some (.retAddr 0), some (.ref 0), some (.ref 66), some (.int 0)]) (st' := [.int a3, .int a2, .int a1, .ref 66, .int (-1000000003)]) (h' := p1_h) (cl' := 94) (sl' := 4156) rfl ?_
            refine ik_Wc 94 4 0 [.ref 66, .int a1, .int a2, .int a3] [.int (-1000000003)] rfl rfl rfl (by decide) rfl rfl rfl ?_
            refine ik_Wk 1 (pc' := 1) (loc' := [some (.ref 66), some (.int a1), some (.int a2), some (.int a3), none, none, none, none, none, none, none, none]) (st' := [.int a1]) (h' := p1_h) (cl' := 0) (sl' := 0) rfl ?_
            refine ik_Wc 75 1 3 [.int a1] [] rfl rfl rfl (by decide) rfl rfl rfl ?_
            refine ik_Wk 4 (pc' := 4) (loc' := [some (.int a1)]) (st' := [.long 1, .long 0, .long a1.toInt64]) (h' := p1_h) (cl' := 0) (sl' := 0) rfl ?_
            refine ik_Wc 70 3 3 [.long a1.toInt64, .long 0, .long 1] [] rfl rfl rfl (by decide) rfl rfl rfl ?_
            refine ik_Wif 4 (c := (lg_cmp a1.toInt64 (0 : Int64)) < 0) 17 6 (loc' := [some (.long a1.toInt64), none, some (.long 0), none, some (.long 1), none]) (st' := []) (h' := p1_h) (cl' := 0) (sl' := 0) rfl (fun hc18 => ?_) (fun hc18 => ?_)
            · exfalso
              (try simp only [lg_lt0, lg_gt0] at hc1 hc18) <;> simp only [cv_eq, cv_lt, cv_le, cv_64, (show (0 : Int32).toInt = 0 from by decide), (show (0 : Int64).toInt = 0 from by decide), (show (2 : Int32).toInt = 2 from by decide), (show (2 : Int64).toInt = 2 from by decide), (show (10 : Int32).toInt = 10 from by decide), (show (10 : Int64).toInt = 10 from by decide)] at hc1 hc18 <;> omega
            · refine ik_Wif 4 (c := 0 < (lg_cmp a1.toInt64 (1 : Int64))) 17 13 (loc' := [some (.long a1.toInt64), none, some (.long 0), none, some (.long 1), none]) (st' := []) (h' := p1_h) (cl' := 0) (sl' := 0) rfl (fun hc19 => ?_) (fun hc19 => ?_)
              · exfalso
                (try simp only [lg_lt0, lg_gt0] at hc1 hc18 hc19) <;> simp only [cv_eq, cv_lt, cv_le, cv_64, (show (0 : Int32).toInt = 0 from by decide), (show (0 : Int64).toInt = 0 from by decide), (show (1 : Int32).toInt = 1 from by decide), (show (1 : Int64).toInt = 1 from by decide), (show (2 : Int32).toInt = 2 from by decide), (show (2 : Int64).toInt = 2 from by decide), (show (10 : Int32).toInt = 10 from by decide), (show (10 : Int64).toInt = 10 from by decide)] at hc1 hc18 hc19 <;> omega
              · refine ik_Wk 2 (pc' := 18) (loc' := [some (.long a1.toInt64), none, some (.long 0), none, some (.long 1), none]) (st' := [.int 1]) (h' := p1_h) (cl' := 0) (sl' := 0) rfl ?_
                refine ik_Wret rfl rfl ⟨_, _, rfl, rfl, ?_⟩
                refine ik_Wret rfl rfl ⟨_, _, rfl, rfl, ?_⟩
                refine ik_Wk 5 (pc' := 16) (loc' := [some (.ref 66), some (.int a1), some (.int a2), some (.int a3), none, none, none, none, none, none, none, none]) (st' := [.long 10, .long 0, .long a2.toInt64]) (h' := p1_h) (cl' := 0) (sl' := 0) rfl ?_
                refine ik_Wc 70 3 3 [.long a2.toInt64, .long 0, .long 10] [] rfl rfl rfl (by decide) rfl rfl rfl ?_
                refine ik_Wif 4 (c := (lg_cmp a2.toInt64 (0 : Int64)) < 0) 17 6 (loc' := [some (.long a2.toInt64), none, some (.long 0), none, some (.long 10), none]) (st' := []) (h' := p1_h) (cl' := 0) (sl' := 0) rfl (fun hc20 => ?_) (fun hc20 => ?_)
                · exfalso
                  (try simp only [lg_lt0, lg_gt0] at hc2 hc6 hc20) <;> simp only [cv_eq, cv_lt, cv_le, cv_64, (show (0 : Int32).toInt = 0 from by decide), (show (0 : Int64).toInt = 0 from by decide), (show (1 : Int32).toInt = 1 from by decide), (show (1 : Int64).toInt = 1 from by decide), (show (2 : Int32).toInt = 2 from by decide), (show (2 : Int64).toInt = 2 from by decide), (show (10 : Int32).toInt = 10 from by decide), (show (10 : Int64).toInt = 10 from by decide)] at hc2 hc6 hc20 <;> omega
                · refine ik_Wif 4 (c := 0 < (lg_cmp a2.toInt64 (10 : Int64))) 17 13 (loc' := [some (.long a2.toInt64), none, some (.long 0), none, some (.long 10), none]) (st' := []) (h' := p1_h) (cl' := 0) (sl' := 0) rfl (fun hc21 => ?_) (fun hc21 => ?_)
                  · exfalso
                    (try simp only [lg_lt0, lg_gt0] at hc2 hc6 hc20 hc21) <;> simp only [cv_eq, cv_lt, cv_le, cv_64, (show (0 : Int32).toInt = 0 from by decide), (show (0 : Int64).toInt = 0 from by decide), (show (1 : Int32).toInt = 1 from by decide), (show (1 : Int64).toInt = 1 from by decide), (show (2 : Int32).toInt = 2 from by decide), (show (2 : Int64).toInt = 2 from by decide), (show (10 : Int32).toInt = 10 from by decide), (show (10 : Int64).toInt = 10 from by decide)] at hc2 hc6 hc20 hc21 <;> omega
                  · refine ik_Wk 2 (pc' := 18) (loc' := [some (.long a2.toInt64), none, some (.long 0), none, some (.long 10), none]) (st' := [.int 1]) (h' := p1_h) (cl' := 0) (sl' := 0) rfl ?_
                    refine ik_Wret rfl rfl ⟨_, _, rfl, rfl, ?_⟩
                    refine ik_Wk 5 (pc' := 28) (loc' := [some (.ref 66), some (.int a1), some (.int a2), some (.int a3), none, none, none, none, none, none, none, none]) (st' := [.long 2, .long 0, .long a3.toInt64]) (h' := p1_h) (cl' := 0) (sl' := 0) rfl ?_
                    refine ik_Wc 70 3 3 [.long a3.toInt64, .long 0, .long 2] [] rfl rfl rfl (by decide) rfl rfl rfl ?_
                    refine ik_Wif 4 (c := (lg_cmp a3.toInt64 (0 : Int64)) < 0) 17 6 (loc' := [some (.long a3.toInt64), none, some (.long 0), none, some (.long 2), none]) (st' := []) (h' := p1_h) (cl' := 0) (sl' := 0) rfl (fun hc22 => ?_) (fun hc22 => ?_)
                    · exfalso
                      (try simp only [lg_lt0, lg_gt0] at hc11 hc17 hc22) <;> simp only [cv_eq, cv_lt, cv_le, cv_64, (show (0 : Int32).toInt = 0 from by decide), (show (0 : Int64).toInt = 0 from by decide), (show (1 : Int32).toInt = 1 from by decide), (show (1 : Int64).toInt = 1 from by decide), (show (2 : Int32).toInt = 2 from by decide), (show (2 : Int64).toInt = 2 from by decide), (show (10 : Int32).toInt = 10 from by decide), (show (10 : Int64).toInt = 10 from by decide)] at hc11 hc17 hc22 <;> omega
                    · refine ik_Wif 4 (c := 0 < (lg_cmp a3.toInt64 (2 : Int64))) 17 13 (loc' := [some (.long a3.toInt64), none, some (.long 0), none, some (.long 2), none]) (st' := []) (h' := p1_h) (cl' := 0) (sl' := 0) rfl (fun hc23 => ?_) (fun hc23 => ?_)
                      · exfalso
                        (try simp only [lg_lt0, lg_gt0] at hc11 hc17 hc22 hc23) <;> simp only [cv_eq, cv_lt, cv_le, cv_64, (show (0 : Int32).toInt = 0 from by decide), (show (0 : Int64).toInt = 0 from by decide), (show (1 : Int32).toInt = 1 from by decide), (show (1 : Int64).toInt = 1 from by decide), (show (2 : Int32).toInt = 2 from by decide), (show (2 : Int64).toInt = 2 from by decide), (show (10 : Int32).toInt = 10 from by decide), (show (10 : Int64).toInt = 10 from by decide)] at hc11 hc17 hc22 hc23 <;> omega
                      · refine ik_Wk 2 (pc' := 18) (loc' := [some (.long a3.toInt64), none, some (.long 0), none, some (.long 2), none]) (st' := [.int 1]) (h' := p1_h) (cl' := 0) (sl' := 0) rfl ?_
                        refine ik_Wret rfl rfl ⟨_, _, rfl, rfl, ?_⟩
                        refine ik_Wk 2 (pc' := 38) (loc' := [some (.ref 66), some (.int a1), some (.int a2), some (.int a3), none, none, none, none, none, none, none, none]) (st' := [.ref 66]) (h' := p1_h) (cl' := 0) (sl' := 0) rfl ?_
                        refine ik_Wc 77 1 0 [.ref 66] [] rfl rfl rfl (by decide) rfl rfl rfl ?_
                        refine ik_Wk 5 (pc' := 13) (loc' := [some (.ref 66)]) (st' := [.int 0]) (h' := p1_h) (cl' := 0) (sl' := 0) rfl ?_
                        refine ik_Wret rfl rfl ⟨_, _, rfl, rfl, ?_⟩
                        refine ik_Wk 2 (pc' := 46) (loc' := [some (.ref 66), some (.int a1), some (.int a2), some (.int a3), none, none, none, none, none, none, none, none]) (st' := [.int (-1000000003)]) (h' := p1_h) (cl' := 0) (sl' := 0) rfl ?_
                        refine ik_Wret rfl rfl ⟨_, _, rfl, rfl, ?_⟩
                        refine ik_Wk 10 (pc' := 1138) (loc' := [some (.retAddr 0), some (.ref 0), some (.ref 66), some (.int 5)]) (st' := [.int 1]) (h' := p1_h) (cl' := 94) (sl' := 4156) rfl ?_
                        exact ik_Wret rfl rfl ⟨rfl, rfl, Nat.le_of_ble_eq_true rfl, Nat.le_of_ble_eq_true rfl⟩
          · refine ik_Wk 1 (pc' := 31) (loc' := [some (.ref 0), some (.int a1), some (.int a2), some (.int a3)]) (st' := [.int (-1000000002)]) (h' := p1_h) (cl' := 0) (sl' := 0) rfl ?_
            refine ik_Wret rfl rfl ⟨_, _, rfl, rfl, ?_⟩
            refine ik_Wk 16 (pc' := 610) (loc' := [some (.retAddr 0), some (.ref 0), some (.ref 66), some (.int 0)]) (st' := [.int a3, .int a2, .int a1, .ref 66, .int (-1000000002)]) (h' := p1_h) (cl' := 94) (sl' := 4156) rfl ?_
            refine ik_Wc 94 4 0 [.ref 66, .int a1, .int a2, .int a3] [.int (-1000000002)] rfl rfl rfl (by decide) rfl rfl rfl ?_
            refine ik_Wk 1 (pc' := 1) (loc' := [some (.ref 66), some (.int a1), some (.int a2), some (.int a3), none, none, none, none, none, none, none, none]) (st' := [.int a1]) (h' := p1_h) (cl' := 0) (sl' := 0) rfl ?_
            refine ik_Wc 75 1 3 [.int a1] [] rfl rfl rfl (by decide) rfl rfl rfl ?_
            refine ik_Wk 4 (pc' := 4) (loc' := [some (.int a1)]) (st' := [.long 1, .long 0, .long a1.toInt64]) (h' := p1_h) (cl' := 0) (sl' := 0) rfl ?_
            refine ik_Wc 70 3 3 [.long a1.toInt64, .long 0, .long 1] [] rfl rfl rfl (by decide) rfl rfl rfl ?_
            refine ik_Wif 4 (c := (lg_cmp a1.toInt64 (0 : Int64)) < 0) 17 6 (loc' := [some (.long a1.toInt64), none, some (.long 0), none, some (.long 1), none]) (st' := []) (h' := p1_h) (cl' := 0) (sl' := 0) rfl (fun hc24 => ?_) (fun hc24 => ?_)
            · exfalso
              (try simp only [lg_lt0, lg_gt0] at hc1 hc24) <;> simp only [cv_eq, cv_lt, cv_le, cv_64, (show (0 : Int32).toInt = 0 from by decide), (show (0 : Int64).toInt = 0 from by decide), (show (2 : Int32).toInt = 2 from by decide), (show (2 : Int64).toInt = 2 from by decide), (show (10 : Int32).toInt = 10 from by decide), (show (10 : Int64).toInt = 10 from by decide)] at hc1 hc24 <;> omega
            · refine ik_Wif 4 (c := 0 < (lg_cmp a1.toInt64 (1 : Int64))) 17 13 (loc' := [some (.long a1.toInt64), none, some (.long 0), none, some (.long 1), none]) (st' := []) (h' := p1_h) (cl' := 0) (sl' := 0) rfl (fun hc25 => ?_) (fun hc25 => ?_)
              · exfalso
                (try simp only [lg_lt0, lg_gt0] at hc1 hc24 hc25) <;> simp only [cv_eq, cv_lt, cv_le, cv_64, (show (0 : Int32).toInt = 0 from by decide), (show (0 : Int64).toInt = 0 from by decide), (show (1 : Int32).toInt = 1 from by decide), (show (1 : Int64).toInt = 1 from by decide), (show (2 : Int32).toInt = 2 from by decide), (show (2 : Int64).toInt = 2 from by decide), (show (10 : Int32).toInt = 10 from by decide), (show (10 : Int64).toInt = 10 from by decide)] at hc1 hc24 hc25 <;> omega
              · refine ik_Wk 2 (pc' := 18) (loc' := [some (.long a1.toInt64), none, some (.long 0), none, some (.long 1), none]) (st' := [.int 1]) (h' := p1_h) (cl' := 0) (sl' := 0) rfl ?_
                refine ik_Wret rfl rfl ⟨_, _, rfl, rfl, ?_⟩
                refine ik_Wret rfl rfl ⟨_, _, rfl, rfl, ?_⟩
                refine ik_Wk 5 (pc' := 16) (loc' := [some (.ref 66), some (.int a1), some (.int a2), some (.int a3), none, none, none, none, none, none, none, none]) (st' := [.long 10, .long 0, .long a2.toInt64]) (h' := p1_h) (cl' := 0) (sl' := 0) rfl ?_
                refine ik_Wc 70 3 3 [.long a2.toInt64, .long 0, .long 10] [] rfl rfl rfl (by decide) rfl rfl rfl ?_
                refine ik_Wif 4 (c := (lg_cmp a2.toInt64 (0 : Int64)) < 0) 17 6 (loc' := [some (.long a2.toInt64), none, some (.long 0), none, some (.long 10), none]) (st' := []) (h' := p1_h) (cl' := 0) (sl' := 0) rfl (fun hc26 => ?_) (fun hc26 => ?_)
                · exfalso
                  (try simp only [lg_lt0, lg_gt0] at hc2 hc6 hc26) <;> simp only [cv_eq, cv_lt, cv_le, cv_64, (show (0 : Int32).toInt = 0 from by decide), (show (0 : Int64).toInt = 0 from by decide), (show (1 : Int32).toInt = 1 from by decide), (show (1 : Int64).toInt = 1 from by decide), (show (2 : Int32).toInt = 2 from by decide), (show (2 : Int64).toInt = 2 from by decide), (show (10 : Int32).toInt = 10 from by decide), (show (10 : Int64).toInt = 10 from by decide)] at hc2 hc6 hc26 <;> omega
                · refine ik_Wif 4 (c := 0 < (lg_cmp a2.toInt64 (10 : Int64))) 17 13 (loc' := [some (.long a2.toInt64), none, some (.long 0), none, some (.long 10), none]) (st' := []) (h' := p1_h) (cl' := 0) (sl' := 0) rfl (fun hc27 => ?_) (fun hc27 => ?_)
                  · exfalso
                    (try simp only [lg_lt0, lg_gt0] at hc2 hc6 hc26 hc27) <;> simp only [cv_eq, cv_lt, cv_le, cv_64, (show (0 : Int32).toInt = 0 from by decide), (show (0 : Int64).toInt = 0 from by decide), (show (1 : Int32).toInt = 1 from by decide), (show (1 : Int64).toInt = 1 from by decide), (show (2 : Int32).toInt = 2 from by decide), (show (2 : Int64).toInt = 2 from by decide), (show (10 : Int32).toInt = 10 from by decide), (show (10 : Int64).toInt = 10 from by decide)] at hc2 hc6 hc26 hc27 <;> omega
                  · refine ik_Wk 2 (pc' := 18) (loc' := [some (.long a2.toInt64), none, some (.long 0), none, some (.long 10), none]) (st' := [.int 1]) (h' := p1_h) (cl' := 0) (sl' := 0) rfl ?_
                    refine ik_Wret rfl rfl ⟨_, _, rfl, rfl, ?_⟩
                    refine ik_Wk 5 (pc' := 28) (loc' := [some (.ref 66), some (.int a1), some (.int a2), some (.int a3), none, none, none, none, none, none, none, none]) (st' := [.long 2, .long 0, .long a3.toInt64]) (h' := p1_h) (cl' := 0) (sl' := 0) rfl ?_
                    refine ik_Wc 70 3 3 [.long a3.toInt64, .long 0, .long 2] [] rfl rfl rfl (by decide) rfl rfl rfl ?_
                    refine ik_Wif 4 (c := (lg_cmp a3.toInt64 (0 : Int64)) < 0) 17 6 (loc' := [some (.long a3.toInt64), none, some (.long 0), none, some (.long 2), none]) (st' := []) (h' := p1_h) (cl' := 0) (sl' := 0) rfl (fun hc28 => ?_) (fun hc28 => ?_)
                    · exfalso
                      (try simp only [lg_lt0, lg_gt0] at hc11 hc17 hc28) <;> simp only [cv_eq, cv_lt, cv_le, cv_64, (show (0 : Int32).toInt = 0 from by decide), (show (0 : Int64).toInt = 0 from by decide), (show (1 : Int32).toInt = 1 from by decide), (show (1 : Int64).toInt = 1 from by decide), (show (2 : Int32).toInt = 2 from by decide), (show (2 : Int64).toInt = 2 from by decide), (show (10 : Int32).toInt = 10 from by decide), (show (10 : Int64).toInt = 10 from by decide)] at hc11 hc17 hc28 <;> omega
                    · refine ik_Wif 4 (c := 0 < (lg_cmp a3.toInt64 (2 : Int64))) 17 13 (loc' := [some (.long a3.toInt64), none, some (.long 0), none, some (.long 2), none]) (st' := []) (h' := p1_h) (cl' := 0) (sl' := 0) rfl (fun hc29 => ?_) (fun hc29 => ?_)
                      · refine ik_Wk 1 (pc' := 18) (loc' := [some (.long a3.toInt64), none, some (.long 0), none, some (.long 2), none]) (st' := [.int 0]) (h' := p1_h) (cl' := 0) (sl' := 0) rfl ?_
                        refine ik_Wret rfl rfl ⟨_, _, rfl, rfl, ?_⟩
                        refine ik_Wk 2 (pc' := 36) (loc' := [some (.ref 66), some (.int a1), some (.int a2), some (.int a3), none, none, none, none, none, none, none, none]) (st' := [.int (-1000000002)]) (h' := p1_h) (cl' := 0) (sl' := 0) rfl ?_
                        refine ik_Wret rfl rfl ⟨_, _, rfl, rfl, ?_⟩
                        refine ik_Wk 10 (pc' := 1138) (loc' := [some (.retAddr 0), some (.ref 0), some (.ref 66), some (.int 5)]) (st' := [.int 1]) (h' := p1_h) (cl' := 94) (sl' := 4156) rfl ?_
                        exact ik_Wret rfl rfl ⟨rfl, rfl, Nat.le_of_ble_eq_true rfl, Nat.le_of_ble_eq_true rfl⟩
                      · exfalso
                        (try simp only [lg_lt0, lg_gt0] at hc11 hc17 hc28 hc29) <;> simp only [cv_eq, cv_lt, cv_le, cv_64, (show (0 : Int32).toInt = 0 from by decide), (show (0 : Int64).toInt = 0 from by decide), (show (1 : Int32).toInt = 1 from by decide), (show (1 : Int64).toInt = 1 from by decide), (show (2 : Int32).toInt = 2 from by decide), (show (2 : Int64).toInt = 2 from by decide), (show (10 : Int32).toInt = 10 from by decide), (show (10 : Int64).toInt = 10 from by decide)] at hc11 hc17 hc28 hc29 <;> omega
  · refine ik_Wif 3 (c := a1 = (1 : Int32)) 9 13 (loc' := [some (.int a1)]) (st' := []) (h' := p1_h) (cl' := 0) (sl' := 0) rfl (fun hc30 => ?_) (fun hc30 => ?_)
    · refine ik_Wk 2 (pc' := 14) (loc' := [some (.int a1)]) (st' := [.int 1]) (h' := p1_h) (cl' := 0) (sl' := 0) rfl ?_
      refine ik_Wret rfl rfl ⟨_, _, rfl, rfl, ?_⟩
      refine ik_Wif 3 (c := a2 < 0) 29 14 (loc' := [some (.ref 0), some (.int a1), some (.int a2), some (.int a3)]) (st' := []) (h' := p1_h) (cl' := 0) (sl' := 0) rfl (fun hc31 => ?_) (fun hc31 => ?_)
      · refine ik_Wk 1 (pc' := 31) (loc' := [some (.ref 0), some (.int a1), some (.int a2), some (.int a3)]) (st' := [.int (-1000000002)]) (h' := p1_h) (cl' := 0) (sl' := 0) rfl ?_
        refine ik_Wret rfl rfl ⟨_, _, rfl, rfl, ?_⟩
        refine ik_Wk 16 (pc' := 610) (loc' := [some (.retAddr 0), some (.ref 0), some (.ref 66), some (.int 0)]) (st' := [.int a3, .int a2, .int a1, .ref 66, .int (-1000000002)]) (h' := p1_h) (cl' := 94) (sl' := 4156) rfl ?_
        refine ik_Wc 94 4 0 [.ref 66, .int a1, .int a2, .int a3] [.int (-1000000002)] rfl rfl rfl (by decide) rfl rfl rfl ?_
        refine ik_Wk 1 (pc' := 1) (loc' := [some (.ref 66), some (.int a1), some (.int a2), some (.int a3), none, none, none, none, none, none, none, none]) (st' := [.int a1]) (h' := p1_h) (cl' := 0) (sl' := 0) rfl ?_
        refine ik_Wc 75 1 3 [.int a1] [] rfl rfl rfl (by decide) rfl rfl rfl ?_
        refine ik_Wk 4 (pc' := 4) (loc' := [some (.int a1)]) (st' := [.long 1, .long 0, .long a1.toInt64]) (h' := p1_h) (cl' := 0) (sl' := 0) rfl ?_
        refine ik_Wc 70 3 3 [.long a1.toInt64, .long 0, .long 1] [] rfl rfl rfl (by decide) rfl rfl rfl ?_
        refine ik_Wif 4 (c := (lg_cmp a1.toInt64 (0 : Int64)) < 0) 17 6 (loc' := [some (.long a1.toInt64), none, some (.long 0), none, some (.long 1), none]) (st' := []) (h' := p1_h) (cl' := 0) (sl' := 0) rfl (fun hc32 => ?_) (fun hc32 => ?_)
        · exfalso
          (try simp only [lg_lt0, lg_gt0] at hc1 hc30 hc32) <;> simp only [cv_eq, cv_lt, cv_le, cv_64, (show (0 : Int32).toInt = 0 from by decide), (show (0 : Int64).toInt = 0 from by decide), (show (1 : Int32).toInt = 1 from by decide), (show (1 : Int64).toInt = 1 from by decide)] at hc1 hc30 hc32 <;> omega
        · refine ik_Wif 4 (c := 0 < (lg_cmp a1.toInt64 (1 : Int64))) 17 13 (loc' := [some (.long a1.toInt64), none, some (.long 0), none, some (.long 1), none]) (st' := []) (h' := p1_h) (cl' := 0) (sl' := 0) rfl (fun hc33 => ?_) (fun hc33 => ?_)
          · exfalso
            (try simp only [lg_lt0, lg_gt0] at hc1 hc30 hc32 hc33) <;> simp only [cv_eq, cv_lt, cv_le, cv_64, (show (0 : Int32).toInt = 0 from by decide), (show (0 : Int64).toInt = 0 from by decide), (show (1 : Int32).toInt = 1 from by decide), (show (1 : Int64).toInt = 1 from by decide)] at hc1 hc30 hc32 hc33 <;> omega
          · refine ik_Wk 2 (pc' := 18) (loc' := [some (.long a1.toInt64), none, some (.long 0), none, some (.long 1), none]) (st' := [.int 1]) (h' := p1_h) (cl' := 0) (sl' := 0) rfl ?_
            refine ik_Wret rfl rfl ⟨_, _, rfl, rfl, ?_⟩
            refine ik_Wret rfl rfl ⟨_, _, rfl, rfl, ?_⟩
            refine ik_Wk 5 (pc' := 16) (loc' := [some (.ref 66), some (.int a1), some (.int a2), some (.int a3), none, none, none, none, none, none, none, none]) (st' := [.long 10, .long 0, .long a2.toInt64]) (h' := p1_h) (cl' := 0) (sl' := 0) rfl ?_
            refine ik_Wc 70 3 3 [.long a2.toInt64, .long 0, .long 10] [] rfl rfl rfl (by decide) rfl rfl rfl ?_
            refine ik_Wif 4 (c := (lg_cmp a2.toInt64 (0 : Int64)) < 0) 17 6 (loc' := [some (.long a2.toInt64), none, some (.long 0), none, some (.long 10), none]) (st' := []) (h' := p1_h) (cl' := 0) (sl' := 0) rfl (fun hc34 => ?_) (fun hc34 => ?_)
            · refine ik_Wk 1 (pc' := 18) (loc' := [some (.long a2.toInt64), none, some (.long 0), none, some (.long 10), none]) (st' := [.int 0]) (h' := p1_h) (cl' := 0) (sl' := 0) rfl ?_
              refine ik_Wret rfl rfl ⟨_, _, rfl, rfl, ?_⟩
              refine ik_Wk 2 (pc' := 36) (loc' := [some (.ref 66), some (.int a1), some (.int a2), some (.int a3), none, none, none, none, none, none, none, none]) (st' := [.int (-1000000002)]) (h' := p1_h) (cl' := 0) (sl' := 0) rfl ?_
              refine ik_Wret rfl rfl ⟨_, _, rfl, rfl, ?_⟩
              refine ik_Wk 10 (pc' := 1138) (loc' := [some (.retAddr 0), some (.ref 0), some (.ref 66), some (.int 5)]) (st' := [.int 1]) (h' := p1_h) (cl' := 94) (sl' := 4156) rfl ?_
              exact ik_Wret rfl rfl ⟨rfl, rfl, Nat.le_of_ble_eq_true rfl, Nat.le_of_ble_eq_true rfl⟩
            · exfalso
              (try simp only [lg_lt0, lg_gt0] at hc31 hc34) <;> simp only [cv_eq, cv_lt, cv_le, cv_64, (show (0 : Int32).toInt = 0 from by decide), (show (0 : Int64).toInt = 0 from by decide), (show (1 : Int32).toInt = 1 from by decide), (show (1 : Int64).toInt = 1 from by decide)] at hc31 hc34 <;> omega
      · refine ik_Wif 3 (c := (10 : Int32) < a2) 29 20 (loc' := [some (.ref 0), some (.int a1), some (.int a2), some (.int a3)]) (st' := []) (h' := p1_h) (cl' := 0) (sl' := 0) rfl (fun hc35 => ?_) (fun hc35 => ?_)
        · refine ik_Wk 1 (pc' := 31) (loc' := [some (.ref 0), some (.int a1), some (.int a2), some (.int a3)]) (st' := [.int (-1000000002)]) (h' := p1_h) (cl' := 0) (sl' := 0) rfl ?_
          refine ik_Wret rfl rfl ⟨_, _, rfl, rfl, ?_⟩
          refine ik_Wk 16 (pc' := 610) (loc' := [some (.retAddr 0), some (.ref 0), some (.ref 66), some (.int 0)]) (st' := [.int a3, .int a2, .int a1, .ref 66, .int (-1000000002)]) (h' := p1_h) (cl' := 94) (sl' := 4156) rfl ?_
          refine ik_Wc 94 4 0 [.ref 66, .int a1, .int a2, .int a3] [.int (-1000000002)] rfl rfl rfl (by decide) rfl rfl rfl ?_
          refine ik_Wk 1 (pc' := 1) (loc' := [some (.ref 66), some (.int a1), some (.int a2), some (.int a3), none, none, none, none, none, none, none, none]) (st' := [.int a1]) (h' := p1_h) (cl' := 0) (sl' := 0) rfl ?_
          refine ik_Wc 75 1 3 [.int a1] [] rfl rfl rfl (by decide) rfl rfl rfl ?_
          refine ik_Wk 4 (pc' := 4) (loc' := [some (.int a1)]) (st' := [.long 1, .long 0, .long a1.toInt64]) (h' := p1_h) (cl' := 0) (sl' := 0) rfl ?_
          refine ik_Wc 70 3 3 [.long a1.toInt64, .long 0, .long 1] [] rfl rfl rfl (by decide) rfl rfl rfl ?_
          refine ik_Wif 4 (c := (lg_cmp a1.toInt64 (0 : Int64)) < 0) 17 6 (loc' := [some (.long a1.toInt64), none, some (.long 0), none, some (.long 1), none]) (st' := []) (h' := p1_h) (cl' := 0) (sl' := 0) rfl (fun hc36 => ?_) (fun hc36 => ?_)
          · exfalso
            (try simp only [lg_lt0, lg_gt0] at hc1 hc30 hc36) <;> simp only [cv_eq, cv_lt, cv_le, cv_64, (show (0 : Int32).toInt = 0 from by decide), (show (0 : Int64).toInt = 0 from by decide), (show (1 : Int32).toInt = 1 from by decide), (show (1 : Int64).toInt = 1 from by decide), (show (10 : Int32).toInt = 10 from by decide), (show (10 : Int64).toInt = 10 from by decide)] at hc1 hc30 hc36 <;> omega
          · refine ik_Wif 4 (c := 0 < (lg_cmp a1.toInt64 (1 : Int64))) 17 13 (loc' := [some (.long a1.toInt64), none, some (.long 0), none, some (.long 1), none]) (st' := []) (h' := p1_h) (cl' := 0) (sl' := 0) rfl (fun hc37 => ?_) (fun hc37 => ?_)
            · exfalso
              (try simp only [lg_lt0, lg_gt0] at hc1 hc30 hc36 hc37) <;> simp only [cv_eq, cv_lt, cv_le, cv_64, (show (0 : Int32).toInt = 0 from by decide), (show (0 : Int64).toInt = 0 from by decide), (show (1 : Int32).toInt = 1 from by decide), (show (1 : Int64).toInt = 1 from by decide), (show (10 : Int32).toInt = 10 from by decide), (show (10 : Int64).toInt = 10 from by decide)] at hc1 hc30 hc36 hc37 <;> omega
            · refine ik_Wk 2 (pc' := 18) (loc' := [some (.long a1.toInt64), none, some (.long 0), none, some (.long 1), none]) (st' := [.int 1]) (h' := p1_h) (cl' := 0) (sl' := 0) rfl ?_
              refine ik_Wret rfl rfl ⟨_, _, rfl, rfl, ?_⟩
              refine ik_Wret rfl rfl ⟨_, _, rfl, rfl, ?_⟩
              refine ik_Wk 5 (pc' := 16) (loc' := [some (.ref 66), some (.int a1), some (.int a2), some (.int a3), none, none, none, none, none, none, none, none]) (st' := [.long 10, .long 0, .long a2.toInt64]) (h' := p1_h) (cl' := 0) (sl' := 0) rfl ?_
              refine ik_Wc 70 3 3 [.long a2.toInt64, .long 0, .long 10] [] rfl rfl rfl (by decide) rfl rfl rfl ?_
              refine ik_Wif 4 (c := (lg_cmp a2.toInt64 (0 : Int64)) < 0) 17 6 (loc' := [some (.long a2.toInt64), none, some (.long 0), none, some (.long 10), none]) (st' := []) (h' := p1_h) (cl' := 0) (sl' := 0) rfl (fun hc38 => ?_) (fun hc38 => ?_)
              · exfalso
                (try simp only [lg_lt0, lg_gt0] at hc31 hc35 hc38) <;> simp only [cv_eq, cv_lt, cv_le, cv_64, (show (0 : Int32).toInt = 0 from by decide), (show (0 : Int64).toInt = 0 from by decide), (show (1 : Int32).toInt = 1 from by decide), (show (1 : Int64).toInt = 1 from by decide), (show (10 : Int32).toInt = 10 from by decide), (show (10 : Int64).toInt = 10 from by decide)] at hc31 hc35 hc38 <;> omega
              · refine ik_Wif 4 (c := 0 < (lg_cmp a2.toInt64 (10 : Int64))) 17 13 (loc' := [some (.long a2.toInt64), none, some (.long 0), none, some (.long 10), none]) (st' := []) (h' := p1_h) (cl' := 0) (sl' := 0) rfl (fun hc39 => ?_) (fun hc39 => ?_)
                · refine ik_Wk 1 (pc' := 18) (loc' := [some (.long a2.toInt64), none, some (.long 0), none, some (.long 10), none]) (st' := [.int 0]) (h' := p1_h) (cl' := 0) (sl' := 0) rfl ?_
                  refine ik_Wret rfl rfl ⟨_, _, rfl, rfl, ?_⟩
                  refine ik_Wk 2 (pc' := 36) (loc' := [some (.ref 66), some (.int a1), some (.int a2), some (.int a3), none, none, none, none, none, none, none, none]) (st' := [.int (-1000000002)]) (h' := p1_h) (cl' := 0) (sl' := 0) rfl ?_
                  refine ik_Wret rfl rfl ⟨_, _, rfl, rfl, ?_⟩
                  refine ik_Wk 10 (pc' := 1138) (loc' := [some (.retAddr 0), some (.ref 0), some (.ref 66), some (.int 5)]) (st' := [.int 1]) (h' := p1_h) (cl' := 94) (sl' := 4156) rfl ?_
                  exact ik_Wret rfl rfl ⟨rfl, rfl, Nat.le_of_ble_eq_true rfl, Nat.le_of_ble_eq_true rfl⟩
                · exfalso
                  (try simp only [lg_lt0, lg_gt0] at hc31 hc35 hc38 hc39) <;> simp only [cv_eq, cv_lt, cv_le, cv_64, (show (0 : Int32).toInt = 0 from by decide), (show (0 : Int64).toInt = 0 from by decide), (show (1 : Int32).toInt = 1 from by decide), (show (1 : Int64).toInt = 1 from by decide), (show (10 : Int32).toInt = 10 from by decide), (show (10 : Int64).toInt = 10 from by decide)] at hc31 hc35 hc38 hc39 <;> omega
        · refine ik_Wif 2 (c := a3 < 0) 29 24 (loc' := [some (.ref 0), some (.int a1), some (.int a2), some (.int a3)]) (st' := []) (h' := p1_h) (cl' := 0) (sl' := 0) rfl (fun hc40 => ?_) (fun hc40 => ?_)
          · refine ik_Wk 1 (pc' := 31) (loc' := [some (.ref 0), some (.int a1), some (.int a2), some (.int a3)]) (st' := [.int (-1000000002)]) (h' := p1_h) (cl' := 0) (sl' := 0) rfl ?_
            refine ik_Wret rfl rfl ⟨_, _, rfl, rfl, ?_⟩
            refine ik_Wk 16 (pc' := 610) (loc' := [some (.retAddr 0), some (.ref 0), some (.ref 66), some (.int 0)]) (st' := [.int a3, .int a2, .int a1, .ref 66, .int (-1000000002)]) (h' := p1_h) (cl' := 94) (sl' := 4156) rfl ?_
            refine ik_Wc 94 4 0 [.ref 66, .int a1, .int a2, .int a3] [.int (-1000000002)] rfl rfl rfl (by decide) rfl rfl rfl ?_
            refine ik_Wk 1 (pc' := 1) (loc' := [some (.ref 66), some (.int a1), some (.int a2), some (.int a3), none, none, none, none, none, none, none, none]) (st' := [.int a1]) (h' := p1_h) (cl' := 0) (sl' := 0) rfl ?_
            refine ik_Wc 75 1 3 [.int a1] [] rfl rfl rfl (by decide) rfl rfl rfl ?_
            refine ik_Wk 4 (pc' := 4) (loc' := [some (.int a1)]) (st' := [.long 1, .long 0, .long a1.toInt64]) (h' := p1_h) (cl' := 0) (sl' := 0) rfl ?_
            refine ik_Wc 70 3 3 [.long a1.toInt64, .long 0, .long 1] [] rfl rfl rfl (by decide) rfl rfl rfl ?_
            refine ik_Wif 4 (c := (lg_cmp a1.toInt64 (0 : Int64)) < 0) 17 6 (loc' := [some (.long a1.toInt64), none, some (.long 0), none, some (.long 1), none]) (st' := []) (h' := p1_h) (cl' := 0) (sl' := 0) rfl (fun hc41 => ?_) (fun hc41 => ?_)
            · exfalso
              (try simp only [lg_lt0, lg_gt0] at hc1 hc30 hc41) <;> simp only [cv_eq, cv_lt, cv_le, cv_64, (show (0 : Int32).toInt = 0 from by decide), (show (0 : Int64).toInt = 0 from by decide), (show (1 : Int32).toInt = 1 from by decide), (show (1 : Int64).toInt = 1 from by decide), (show (10 : Int32).toInt = 10 from by decide), (show (10 : Int64).toInt = 10 from by decide)] at hc1 hc30 hc41 <;> omega
            · refine ik_Wif 4 (c := 0 < (lg_cmp a1.toInt64 (1 : Int64))) 17 13 (loc' := [some (.long a1.toInt64), none, some (.long 0), none, some (.long 1), none]) (st' := []) (h' := p1_h) (cl' := 0) (sl' := 0) rfl (fun hc42 => ?_) (fun hc42 => ?_)
              · exfalso
                (try simp only [lg_lt0, lg_gt0] at hc1 hc30 hc41 hc42) <;> simp only [cv_eq, cv_lt, cv_le, cv_64, (show (0 : Int32).toInt = 0 from by decide), (show (0 : Int64).toInt = 0 from by decide), (show (1 : Int32).toInt = 1 from by decide), (show (1 : Int64).toInt = 1 from by decide), (show (10 : Int32).toInt = 10 from by decide), (show (10 : Int64).toInt = 10 from by decide)] at hc1 hc30 hc41 hc42 <;> omega
              · refine ik_Wk 2 (pc' := 18) (loc' := [some (.long a1.toInt64), none, some (.long 0), none, some (.long 1), none]) (st' := [.int 1]) (h' := p1_h) (cl' := 0) (sl' := 0) rfl ?_
                refine ik_Wret rfl rfl ⟨_, _, rfl, rfl, ?_⟩
                refine ik_Wret rfl rfl ⟨_, _, rfl, rfl, ?_⟩
                refine ik_Wk 5 (pc' := 16) (loc' := [some (.ref 66), some (.int a1), some (.int a2), some (.int a3), none, none, none, none, none, none, none, none]) (st' := [.long 10, .long 0, .long a2.toInt64]) (h' := p1_h) (cl' := 0) (sl' := 0) rfl ?_
                refine ik_Wc 70 3 3 [.long a2.toInt64, .long 0, .long 10] [] rfl rfl rfl (by decide) rfl rfl rfl ?_
                refine ik_Wif 4 (c := (lg_cmp a2.toInt64 (0 : Int64)) < 0) 17 6 (loc' := [some (.long a2.toInt64), none, some (.long 0), none, some (.long 10), none]) (st' := []) (h' := p1_h) (cl' := 0) (sl' := 0) rfl (fun hc43 => ?_) (fun hc43 => ?_)
                · exfalso
                  (try simp only [lg_lt0, lg_gt0] at hc31 hc35 hc43) <;> simp only [cv_eq, cv_lt, cv_le, cv_64, (show (0 : Int32).toInt = 0 from by decide), (show (0 : Int64).toInt = 0 from by decide), (show (1 : Int32).toInt = 1 from by decide), (show (1 : Int64).toInt = 1 from by decide), (show (10 : Int32).toInt = 10 from by decide), (show (10 : Int64).toInt = 10 from by decide)] at hc31 hc35 hc43 <;> omega
                · refine ik_Wif 4 (c := 0 < (lg_cmp a2.toInt64 (10 : Int64))) 17 13 (loc' := [some (.long a2.toInt64), none, some (.long 0), none, some (.long 10), none]) (st' := []) (h' := p1_h) (cl' := 0) (sl' := 0) rfl (fun hc44 => ?_) (fun hc44 => ?_)
                  · exfalso
                    (try simp only [lg_lt0, lg_gt0] at hc31 hc35 hc43 hc44) <;> simp only [cv_eq, cv_lt, cv_le, cv_64, (show (0 : Int32).toInt = 0 from by decide), (show (0 : Int64).toInt = 0 from by decide), (show (1 : Int32).toInt = 1 from by decide), (show (1 : Int64).toInt = 1 from by decide), (show (10 : Int32).toInt = 10 from by decide), (show (10 : Int64).toInt = 10 from by decide)] at hc31 hc35 hc43 hc44 <;> omega
                  · refine ik_Wk 2 (pc' := 18) (loc' := [some (.long a2.toInt64), none, some (.long 0), none, some (.long 10), none]) (st' := [.int 1]) (h' := p1_h) (cl' := 0) (sl' := 0) rfl ?_
                    refine ik_Wret rfl rfl ⟨_, _, rfl, rfl, ?_⟩
                    refine ik_Wk 5 (pc' := 28) (loc' := [some (.ref 66), some (.int a1), some (.int a2), some (.int a3), none, none, none, none, none, none, none, none]) (st' := [.long 2, .long 0, .long a3.toInt64]) (h' := p1_h) (cl' := 0) (sl' := 0) rfl ?_
                    refine ik_Wc 70 3 3 [.long a3.toInt64, .long 0, .long 2] [] rfl rfl rfl (by decide) rfl rfl rfl ?_
                    refine ik_Wif 4 (c := (lg_cmp a3.toInt64 (0 : Int64)) < 0) 17 6 (loc' := [some (.long a3.toInt64), none, some (.long 0), none, some (.long 2), none]) (st' := []) (h' := p1_h) (cl' := 0) (sl' := 0) rfl (fun hc45 => ?_) (fun hc45 => ?_)
                    · refine ik_Wk 1 (pc' := 18) (loc' := [some (.long a3.toInt64), none, some (.long 0), none, some (.long 2), none]) (st' := [.int 0]) (h' := p1_h) (cl' := 0) (sl' := 0) rfl ?_
                      refine ik_Wret rfl rfl ⟨_, _, rfl, rfl, ?_⟩
                      refine ik_Wk 2 (pc' := 36) (loc' := [some (.ref 66), some (.int a1), some (.int a2), some (.int a3), none, none, none, none, none, none, none, none]) (st' := [.int (-1000000002)]) (h' := p1_h) (cl' := 0) (sl' := 0) rfl ?_
                      refine ik_Wret rfl rfl ⟨_, _, rfl, rfl, ?_⟩
                      refine ik_Wk 10 (pc' := 1138) (loc' := [some (.retAddr 0), some (.ref 0), some (.ref 66), some (.int 5)]) (st' := [.int 1]) (h' := p1_h) (cl' := 94) (sl' := 4156) rfl ?_
                      exact ik_Wret rfl rfl ⟨rfl, rfl, Nat.le_of_ble_eq_true rfl, Nat.le_of_ble_eq_true rfl⟩
                    · exfalso
                      (try simp only [lg_lt0, lg_gt0] at hc40 hc45) <;> simp only [cv_eq, cv_lt, cv_le, cv_64, (show (0 : Int32).toInt = 0 from by decide), (show (0 : Int64).toInt = 0 from by decide), (show (1 : Int32).toInt = 1 from by decide), (show (1 : Int64).toInt = 1 from by decide), (show (10 : Int32).toInt = 10 from by decide), (show (10 : Int64).toInt = 10 from by decide)] at hc40 hc45 <;> omega
          · refine ik_Wif 3 (c := a3 ≤ (2 : Int32)) 32 29 (loc' := [some (.ref 0), some (.int a1), some (.int a2), some (.int a3)]) (st' := []) (h' := p1_h) (cl' := 0) (sl' := 0) rfl (fun hc46 => ?_) (fun hc46 => ?_)
            · refine ik_Wk 2 (pc' := 36) (loc' := [some (.ref 0), some (.int a1), some (.int a2), some (.int a3)]) (st' := [.ref 7]) (h' := p1_h) (cl' := 0) (sl' := 0) rfl ?_
              refine ik_Wc 7 1 0 [.ref 7] [] rfl rfl rfl (by decide) rfl rfl rfl ?_
              refine ik_Wk 5 (pc' := 13) (loc' := [some (.ref 7)]) (st' := [.int 0]) (h' := p1_h) (cl' := 0) (sl' := 0) rfl ?_
              refine ik_Wret rfl rfl ⟨_, _, rfl, rfl, ?_⟩
              refine ik_Wk 2 (pc' := 44) (loc' := [some (.ref 0), some (.int a1), some (.int a2), some (.int a3)]) (st' := [.int (-1000000003)]) (h' := p1_h) (cl' := 0) (sl' := 0) rfl ?_
              refine ik_Wret rfl rfl ⟨_, _, rfl, rfl, ?_⟩
              refine ik_Wk 16 (pc' := 610) (loc' := [some (.retAddr 0), some (.ref 0), some (.ref 66), some (.int 0)]) (st' := [.int a3, .int a2, .int a1, .ref 66, .int (-1000000003)]) (h' := p1_h) (cl' := 94) (sl' := 4156) rfl ?_
              refine ik_Wc 94 4 0 [.ref 66, .int a1, .int a2, .int a3] [.int (-1000000003)] rfl rfl rfl (by decide) rfl rfl rfl ?_
              refine ik_Wk 1 (pc' := 1) (loc' := [some (.ref 66), some (.int a1), some (.int a2), some (.int a3), none, none, none, none, none, none, none, none]) (st' := [.int a1]) (h' := p1_h) (cl' := 0) (sl' := 0) rfl ?_
              refine ik_Wc 75 1 3 [.int a1] [] rfl rfl rfl (by decide) rfl rfl rfl ?_
              refine ik_Wk 4 (pc' := 4) (loc' := [some (.int a1)]) (st' := [.long 1, .long 0, .long a1.toInt64]) (h' := p1_h) (cl' := 0) (sl' := 0) rfl ?_
              refine ik_Wc 70 3 3 [.long a1.toInt64, .long 0, .long 1] [] rfl rfl rfl (by decide) rfl rfl rfl ?_
              refine ik_Wif 4 (c := (lg_cmp a1.toInt64 (0 : Int64)) < 0) 17 6 (loc' := [some (.long a1.toInt64), none, some (.long 0), none, some (.long 1), none]) (st' := []) (h' := p1_h) (cl' := 0) (sl' := 0) rfl (fun hc47 => ?_) (fun hc47 => ?_)
              · exfalso
                (try simp only [lg_lt0, lg_gt0] at hc1 hc30 hc47) <;> simp only [cv_eq, cv_lt, cv_le, cv_64, (show (0 : Int32).toInt = 0 from by decide), (show (0 : Int64).toInt = 0 from by decide), (show (1 : Int32).toInt = 1 from by decide), (show (1 : Int64).toInt = 1 from by decide), (show (2 : Int32).toInt = 2 from by decide), (show (2 : Int64).toInt = 2 from by decide), (show (10 : Int32).toInt = 10 from by decide), (show (10 : Int64).toInt = 10 from by decide)] at hc1 hc30 hc47 <;> omega
              · refine ik_Wif 4 (c := 0 < (lg_cmp a1.toInt64 (1 : Int64))) 17 13 (loc' := [some (.long a1.toInt64), none, some (.long 0), none, some (.long 1), none]) (st' := []) (h' := p1_h) (cl' := 0) (sl' := 0) rfl (fun hc48 => ?_) (fun hc48 => ?_)
                · exfalso
                  (try simp only [lg_lt0, lg_gt0] at hc1 hc30 hc47 hc48) <;> simp only [cv_eq, cv_lt, cv_le, cv_64, (show (0 : Int32).toInt = 0 from by decide), (show (0 : Int64).toInt = 0 from by decide), (show (1 : Int32).toInt = 1 from by decide), (show (1 : Int64).toInt = 1 from by decide), (show (2 : Int32).toInt = 2 from by decide), (show (2 : Int64).toInt = 2 from by decide), (show (10 : Int32).toInt = 10 from by decide), (show (10 : Int64).toInt = 10 from by decide)] at hc1 hc30 hc47 hc48 <;> omega
                · refine ik_Wk 2 (pc' := 18) (loc' := [some (.long a1.toInt64), none, some (.long 0), none, some (.long 1), none]) (st' := [.int 1]) (h' := p1_h) (cl' := 0) (sl' := 0) rfl ?_
                  refine ik_Wret rfl rfl ⟨_, _, rfl, rfl, ?_⟩
                  refine ik_Wret rfl rfl ⟨_, _, rfl, rfl, ?_⟩
                  refine ik_Wk 5 (pc' := 16) (loc' := [some (.ref 66), some (.int a1), some (.int a2), some (.int a3), none, none, none, none, none, none, none, none]) (st' := [.long 10, .long 0, .long a2.toInt64]) (h' := p1_h) (cl' := 0) (sl' := 0) rfl ?_
                  refine ik_Wc 70 3 3 [.long a2.toInt64, .long 0, .long 10] [] rfl rfl rfl (by decide) rfl rfl rfl ?_
                  refine ik_Wif 4 (c := (lg_cmp a2.toInt64 (0 : Int64)) < 0) 17 6 (loc' := [some (.long a2.toInt64), none, some (.long 0), none, some (.long 10), none]) (st' := []) (h' := p1_h) (cl' := 0) (sl' := 0) rfl (fun hc49 => ?_) (fun hc49 => ?_)
                  · exfalso
                    (try simp only [lg_lt0, lg_gt0] at hc31 hc35 hc49) <;> simp only [cv_eq, cv_lt, cv_le, cv_64, (show (0 : Int32).toInt = 0 from by decide), (show (0 : Int64).toInt = 0 from by decide), (show (1 : Int32).toInt = 1 from by decide), (show (1 : Int64).toInt = 1 from by decide), (show (2 : Int32).toInt = 2 from by decide), (show (2 : Int64).toInt = 2 from by decide), (show (10 : Int32).toInt = 10 from by decide), (show (10 : Int64).toInt = 10 from by decide)] at hc31 hc35 hc49 <;> omega
                  · refine ik_Wif 4 (c := 0 < (lg_cmp a2.toInt64 (10 : Int64))) 17 13 (loc' := [some (.long a2.toInt64), none, some (.long 0), none, some (.long 10), none]) (st' := []) (h' := p1_h) (cl' := 0) (sl' := 0) rfl (fun hc50 => ?_) (fun hc50 => ?_)
                    · exfalso
                      (try simp only [lg_lt0, lg_gt0] at hc31 hc35 hc49 hc50) <;> simp only [cv_eq, cv_lt, cv_le, cv_64, (show (0 : Int32).toInt = 0 from by decide), (show (0 : Int64).toInt = 0 from by decide), (show (1 : Int32).toInt = 1 from by decide), (show (1 : Int64).toInt = 1 from by decide), (show (2 : Int32).toInt = 2 from by decide), (show (2 : Int64).toInt = 2 from by decide), (show (10 : Int32).toInt = 10 from by decide), (show (10 : Int64).toInt = 10 from by decide)] at hc31 hc35 hc49 hc50 <;> omega
                    · refine ik_Wk 2 (pc' := 18) (loc' := [some (.long a2.toInt64), none, some (.long 0), none, some (.long 10), none]) (st' := [.int 1]) (h' := p1_h) (cl' := 0) (sl' := 0) rfl ?_
                      refine ik_Wret rfl rfl ⟨_, _, rfl, rfl, ?_⟩
                      refine ik_Wk 5 (pc' := 28) (loc' := [some (.ref 66), some (.int a1), some (.int a2), some (.int a3), none, none, none, none, none, none, none, none]) (st' := [.long 2, .long 0, .long a3.toInt64]) (h' := p1_h) (cl' := 0) (sl' := 0) rfl ?_
                      refine ik_Wc 70 3 3 [.long a3.toInt64, .long 0, .long 2] [] rfl rfl rfl (by decide) rfl rfl rfl ?_
                      refine ik_Wif 4 (c := (lg_cmp a3.toInt64 (0 : Int64)) < 0) 17 6 (loc' := [some (.long a3.toInt64), none, some (.long 0), none, some (.long 2), none]) (st' := []) (h' := p1_h) (cl' := 0) (sl' := 0) rfl (fun hc51 => ?_) (fun hc51 => ?_)
                      · exfalso
                        (try simp only [lg_lt0, lg_gt0] at hc40 hc46 hc51) <;> simp only [cv_eq, cv_lt, cv_le, cv_64, (show (0 : Int32).toInt = 0 from by decide), (show (0 : Int64).toInt = 0 from by decide), (show (1 : Int32).toInt = 1 from by decide), (show (1 : Int64).toInt = 1 from by decide), (show (2 : Int32).toInt = 2 from by decide), (show (2 : Int64).toInt = 2 from by decide), (show (10 : Int32).toInt = 10 from by decide), (show (10 : Int64).toInt = 10 from by decide)] at hc40 hc46 hc51 <;> omega
                      · refine ik_Wif 4 (c := 0 < (lg_cmp a3.toInt64 (2 : Int64))) 17 13 (loc' := [some (.long a3.toInt64), none, some (.long 0), none, some (.long 2), none]) (st' := []) (h' := p1_h) (cl' := 0) (sl' := 0) rfl (fun hc52 => ?_) (fun hc52 => ?_)
                        · exfalso
                          (try simp only [lg_lt0, lg_gt0] at hc40 hc46 hc51 hc52) <;> simp only [cv_eq, cv_lt, cv_le, cv_64, (show (0 : Int32).toInt = 0 from by decide), (show (0 : Int64).toInt = 0 from by decide), (show (1 : Int32).toInt = 1 from by decide), (show (1 : Int64).toInt = 1 from by decide), (show (2 : Int32).toInt = 2 from by decide), (show (2 : Int64).toInt = 2 from by decide), (show (10 : Int32).toInt = 10 from by decide), (show (10 : Int64).toInt = 10 from by decide)] at hc40 hc46 hc51 hc52 <;> omega
                        · refine ik_Wk 2 (pc' := 18) (loc' := [some (.long a3.toInt64), none, some (.long 0), none, some (.long 2), none]) (st' := [.int 1]) (h' := p1_h) (cl' := 0) (sl' := 0) rfl ?_
                          refine ik_Wret rfl rfl ⟨_, _, rfl, rfl, ?_⟩
                          refine ik_Wk 2 (pc' := 38) (loc' := [some (.ref 66), some (.int a1), some (.int a2), some (.int a3), none, none, none, none, none, none, none, none]) (st' := [.ref 66]) (h' := p1_h) (cl' := 0) (sl' := 0) rfl ?_
                          refine ik_Wc 77 1 0 [.ref 66] [] rfl rfl rfl (by decide) rfl rfl rfl ?_
                          refine ik_Wk 5 (pc' := 13) (loc' := [some (.ref 66)]) (st' := [.int 0]) (h' := p1_h) (cl' := 0) (sl' := 0) rfl ?_
                          refine ik_Wret rfl rfl ⟨_, _, rfl, rfl, ?_⟩
                          refine ik_Wk 2 (pc' := 46) (loc' := [some (.ref 66), some (.int a1), some (.int a2), some (.int a3), none, none, none, none, none, none, none, none]) (st' := [.int (-1000000003)]) (h' := p1_h) (cl' := 0) (sl' := 0) rfl ?_
                          refine ik_Wret rfl rfl ⟨_, _, rfl, rfl, ?_⟩
                          refine ik_Wk 10 (pc' := 1138) (loc' := [some (.retAddr 0), some (.ref 0), some (.ref 66), some (.int 5)]) (st' := [.int 1]) (h' := p1_h) (cl' := 94) (sl' := 4156) rfl ?_
                          exact ik_Wret rfl rfl ⟨rfl, rfl, Nat.le_of_ble_eq_true rfl, Nat.le_of_ble_eq_true rfl⟩
            · refine ik_Wk 1 (pc' := 31) (loc' := [some (.ref 0), some (.int a1), some (.int a2), some (.int a3)]) (st' := [.int (-1000000002)]) (h' := p1_h) (cl' := 0) (sl' := 0) rfl ?_
              refine ik_Wret rfl rfl ⟨_, _, rfl, rfl, ?_⟩
              refine ik_Wk 16 (pc' := 610) (loc' := [some (.retAddr 0), some (.ref 0), some (.ref 66), some (.int 0)]) (st' := [.int a3, .int a2, .int a1, .ref 66, .int (-1000000002)]) (h' := p1_h) (cl' := 94) (sl' := 4156) rfl ?_
              refine ik_Wc 94 4 0 [.ref 66, .int a1, .int a2, .int a3] [.int (-1000000002)] rfl rfl rfl (by decide) rfl rfl rfl ?_
              refine ik_Wk 1 (pc' := 1) (loc' := [some (.ref 66), some (.int a1), some (.int a2), some (.int a3), none, none, none, none, none, none, none, none]) (st' := [.int a1]) (h' := p1_h) (cl' := 0) (sl' := 0) rfl ?_
              refine ik_Wc 75 1 3 [.int a1] [] rfl rfl rfl (by decide) rfl rfl rfl ?_
              refine ik_Wk 4 (pc' := 4) (loc' := [some (.int a1)]) (st' := [.long 1, .long 0, .long a1.toInt64]) (h' := p1_h) (cl' := 0) (sl' := 0) rfl ?_
              refine ik_Wc 70 3 3 [.long a1.toInt64, .long 0, .long 1] [] rfl rfl rfl (by decide) rfl rfl rfl ?_
              refine ik_Wif 4 (c := (lg_cmp a1.toInt64 (0 : Int64)) < 0) 17 6 (loc' := [some (.long a1.toInt64), none, some (.long 0), none, some (.long 1), none]) (st' := []) (h' := p1_h) (cl' := 0) (sl' := 0) rfl (fun hc53 => ?_) (fun hc53 => ?_)
              · exfalso
                (try simp only [lg_lt0, lg_gt0] at hc1 hc30 hc53) <;> simp only [cv_eq, cv_lt, cv_le, cv_64, (show (0 : Int32).toInt = 0 from by decide), (show (0 : Int64).toInt = 0 from by decide), (show (1 : Int32).toInt = 1 from by decide), (show (1 : Int64).toInt = 1 from by decide), (show (2 : Int32).toInt = 2 from by decide), (show (2 : Int64).toInt = 2 from by decide), (show (10 : Int32).toInt = 10 from by decide), (show (10 : Int64).toInt = 10 from by decide)] at hc1 hc30 hc53 <;> omega
              · refine ik_Wif 4 (c := 0 < (lg_cmp a1.toInt64 (1 : Int64))) 17 13 (loc' := [some (.long a1.toInt64), none, some (.long 0), none, some (.long 1), none]) (st' := []) (h' := p1_h) (cl' := 0) (sl' := 0) rfl (fun hc54 => ?_) (fun hc54 => ?_)
                · exfalso
                  (try simp only [lg_lt0, lg_gt0] at hc1 hc30 hc53 hc54) <;> simp only [cv_eq, cv_lt, cv_le, cv_64, (show (0 : Int32).toInt = 0 from by decide), (show (0 : Int64).toInt = 0 from by decide), (show (1 : Int32).toInt = 1 from by decide), (show (1 : Int64).toInt = 1 from by decide), (show (2 : Int32).toInt = 2 from by decide), (show (2 : Int64).toInt = 2 from by decide), (show (10 : Int32).toInt = 10 from by decide), (show (10 : Int64).toInt = 10 from by decide)] at hc1 hc30 hc53 hc54 <;> omega
                · refine ik_Wk 2 (pc' := 18) (loc' := [some (.long a1.toInt64), none, some (.long 0), none, some (.long 1), none]) (st' := [.int 1]) (h' := p1_h) (cl' := 0) (sl' := 0) rfl ?_
                  refine ik_Wret rfl rfl ⟨_, _, rfl, rfl, ?_⟩
                  refine ik_Wret rfl rfl ⟨_, _, rfl, rfl, ?_⟩
                  refine ik_Wk 5 (pc' := 16) (loc' := [some (.ref 66), some (.int a1), some (.int a2), some (.int a3), none, none, none, none, none, none, none, none]) (st' := [.long 10, .long 0, .long a2.toInt64]) (h' := p1_h) (cl' := 0) (sl' := 0) rfl ?_
                  refine ik_Wc 70 3 3 [.long a2.toInt64, .long 0, .long 10] [] rfl rfl rfl (by decide) rfl rfl rfl ?_
                  refine ik_Wif 4 (c := (lg_cmp a2.toInt64 (0 : Int64)) < 0) 17 6 (loc' := [some (.long a2.toInt64), none, some (.long 0), none, some (.long 10), none]) (st' := []) (h' := p1_h) (cl' := 0) (sl' := 0) rfl (fun hc55 => ?_) (fun hc55 => ?_)
                  · exfalso
                    (try simp only [lg_lt0, lg_gt0] at hc31 hc35 hc55) <;> simp only [cv_eq, cv_lt, cv_le, cv_64, (show (0 : Int32).toInt = 0 from by decide), (show (0 : Int64).toInt = 0 from by decide), (show (1 : Int32).toInt = 1 from by decide), (show (1 : Int64).toInt = 1 from by decide), (show (2 : Int32).toInt = 2 from by decide), (show (2 : Int64).toInt = 2 from by decide), (show (10 : Int32).toInt = 10 from by decide), (show (10 : Int64).toInt = 10 from by decide)] at hc31 hc35 hc55 <;> omega
                  · refine ik_Wif 4 (c := 0 < (lg_cmp a2.toInt64 (10 : Int64))) 17 13 (loc' := [some (.long a2.toInt64), none, some (.long 0), none, some (.long 10), none]) (st' := []) (h' := p1_h) (cl' := 0) (sl' := 0) rfl (fun hc56 => ?_) (fun hc56 => ?_)
                    · exfalso
                      (try simp only [lg_lt0, lg_gt0] at hc31 hc35 hc55 hc56) <;> simp only [cv_eq, cv_lt, cv_le, cv_64, (show (0 : Int32).toInt = 0 from by decide), (show (0 : Int64).toInt = 0 from by decide), (show (1 : Int32).toInt = 1 from by decide), (show (1 : Int64).toInt = 1 from by decide), (show (2 : Int32).toInt = 2 from by decide), (show (2 : Int64).toInt = 2 from by decide), (show (10 : Int32).toInt = 10 from by decide), (show (10 : Int64).toInt = 10 from by decide)] at hc31 hc35 hc55 hc56 <;> omega
                    · refine ik_Wk 2 (pc' := 18) (loc' := [some (.long a2.toInt64), none, some (.long 0), none, some (.long 10), none]) (st' := [.int 1]) (h' := p1_h) (cl' := 0) (sl' := 0) rfl ?_
                      refine ik_Wret rfl rfl ⟨_, _, rfl, rfl, ?_⟩
                      refine ik_Wk 5 (pc' := 28) (loc' := [some (.ref 66), some (.int a1), some (.int a2), some (.int a3), none, none, none, none, none, none, none, none]) (st' := [.long 2, .long 0, .long a3.toInt64]) (h' := p1_h) (cl' := 0) (sl' := 0) rfl ?_
                      refine ik_Wc 70 3 3 [.long a3.toInt64, .long 0, .long 2] [] rfl rfl rfl (by decide) rfl rfl rfl ?_
                      refine ik_Wif 4 (c := (lg_cmp a3.toInt64 (0 : Int64)) < 0) 17 6 (loc' := [some (.long a3.toInt64), none, some (.long 0), none, some (.long 2), none]) (st' := []) (h' := p1_h) (cl' := 0) (sl' := 0) rfl (fun hc57 => ?_) (fun hc57 => ?_)
                      · exfalso
                        (try simp only [lg_lt0, lg_gt0] at hc40 hc46 hc57) <;> simp only [cv_eq, cv_lt, cv_le, cv_64, (show (0 : Int32).toInt = 0 from by decide), (show (0 : Int64).toInt = 0 from by decide), (show (1 : Int32).toInt = 1 from by decide), (show (1 : Int64).toInt = 1 from by decide), (show (2 : Int32).toInt = 2 from by decide), (show (2 : Int64).toInt = 2 from by decide), (show (10 : Int32).toInt = 10 from by decide), (show (10 : Int64).toInt = 10 from by decide)] at hc40 hc46 hc57 <;> omega
                      · refine ik_Wif 4 (c := 0 < (lg_cmp a3.toInt64 (2 : Int64))) 17 13 (loc' := [some (.long a3.toInt64), none, some (.long 0), none, some (.long 2), none]) (st' := []) (h' := p1_h) (cl' := 0) (sl' := 0) rfl (fun hc58 => ?_) (fun hc58 => ?_)
                        · refine ik_Wk 1 (pc' := 18) (loc' := [some (.long a3.toInt64), none, some (.long 0), none, some (.long 2), none]) (st' := [.int 0]) (h' := p1_h) (cl' := 0) (sl' := 0) rfl ?_
                          refine ik_Wret rfl rfl ⟨_, _, rfl, rfl, ?_⟩
                          refine ik_Wk 2 (pc' := 36) (loc' := [some (.ref 66), some (.int a1), some (.int a2), some (.int a3), none, none, none, none, none, none, none, none]) (st' := [.int (-1000000002)]) (h' := p1_h) (cl' := 0) (sl' := 0) rfl ?_
                          refine ik_Wret rfl rfl ⟨_, _, rfl, rfl, ?_⟩
                          refine ik_Wk 10 (pc' := 1138) (loc' := [some (.retAddr 0), some (.ref 0), some (.ref 66), some (.int 5)]) (st' := [.int 1]) (h' := p1_h) (cl' := 94) (sl' := 4156) rfl ?_
                          exact ik_Wret rfl rfl ⟨rfl, rfl, Nat.le_of_ble_eq_true rfl, Nat.le_of_ble_eq_true rfl⟩
                        · exfalso
                          (try simp only [lg_lt0, lg_gt0] at hc40 hc46 hc57 hc58) <;> simp only [cv_eq, cv_lt, cv_le, cv_64, (show (0 : Int32).toInt = 0 from by decide), (show (0 : Int64).toInt = 0 from by decide), (show (1 : Int32).toInt = 1 from by decide), (show (1 : Int64).toInt = 1 from by decide), (show (2 : Int32).toInt = 2 from by decide), (show (2 : Int64).toInt = 2 from by decide), (show (10 : Int32).toInt = 10 from by decide), (show (10 : Int64).toInt = 10 from by decide)] at hc40 hc46 hc57 hc58 <;> omega
    · refine ik_Wk 1 (pc' := 14) (loc' := [some (.int a1)]) (st' := [.int 0]) (h' := p1_h) (cl' := 0) (sl' := 0) rfl ?_
      refine ik_Wret rfl rfl ⟨_, _, rfl, rfl, ?_⟩
      refine ik_Wk 2 (pc' := 9) (loc' := [some (.ref 0), some (.int a1), some (.int a2), some (.int a3)]) (st' := [.int (-1000000001)]) (h' := p1_h) (cl' := 0) (sl' := 0) rfl ?_
      refine ik_Wret rfl rfl ⟨_, _, rfl, rfl, ?_⟩
      refine ik_Wk 16 (pc' := 610) (loc' := [some (.retAddr 0), some (.ref 0), some (.ref 66), some (.int 0)]) (st' := [.int a3, .int a2, .int a1, .ref 66, .int (-1000000001)]) (h' := p1_h) (cl' := 94) (sl' := 4156) rfl ?_
      refine ik_Wc 94 4 0 [.ref 66, .int a1, .int a2, .int a3] [.int (-1000000001)] rfl rfl rfl (by decide) rfl rfl rfl ?_
      refine ik_Wk 1 (pc' := 1) (loc' := [some (.ref 66), some (.int a1), some (.int a2), some (.int a3), none, none, none, none, none, none, none, none]) (st' := [.int a1]) (h' := p1_h) (cl' := 0) (sl' := 0) rfl ?_
      refine ik_Wc 75 1 3 [.int a1] [] rfl rfl rfl (by decide) rfl rfl rfl ?_
      refine ik_Wk 4 (pc' := 4) (loc' := [some (.int a1)]) (st' := [.long 1, .long 0, .long a1.toInt64]) (h' := p1_h) (cl' := 0) (sl' := 0) rfl ?_
      refine ik_Wc 70 3 3 [.long a1.toInt64, .long 0, .long 1] [] rfl rfl rfl (by decide) rfl rfl rfl ?_
      refine ik_Wif 4 (c := (lg_cmp a1.toInt64 (0 : Int64)) < 0) 17 6 (loc' := [some (.long a1.toInt64), none, some (.long 0), none, some (.long 1), none]) (st' := []) (h' := p1_h) (cl' := 0) (sl' := 0) rfl (fun hc59 => ?_) (fun hc59 => ?_)
      · refine ik_Wk 1 (pc' := 18) (loc' := [some (.long a1.toInt64), none, some (.long 0), none, some (.long 1), none]) (st' := [.int 0]) (h' := p1_h) (cl' := 0) (sl' := 0) rfl ?_
        refine ik_Wret rfl rfl ⟨_, _, rfl, rfl, ?_⟩
        refine ik_Wret rfl rfl ⟨_, _, rfl, rfl, ?_⟩
        refine ik_Wk 2 (pc' := 9) (loc' := [some (.ref 66), some (.int a1), some (.int a2), some (.int a3), none, none, none, none, none, none, none, none]) (st' := [.int (-1000000001)]) (h' := p1_h) (cl' := 0) (sl' := 0) rfl ?_
        refine ik_Wret rfl rfl ⟨_, _, rfl, rfl, ?_⟩
        refine ik_Wk 10 (pc' := 1138) (loc' := [some (.retAddr 0), some (.ref 0), some (.ref 66), some (.int 5)]) (st' := [.int 1]) (h' := p1_h) (cl' := 94) (sl' := 4156) rfl ?_
        exact ik_Wret rfl rfl ⟨rfl, rfl, Nat.le_of_ble_eq_true rfl, Nat.le_of_ble_eq_true rfl⟩
      · refine ik_Wif 4 (c := 0 < (lg_cmp a1.toInt64 (1 : Int64))) 17 13 (loc' := [some (.long a1.toInt64), none, some (.long 0), none, some (.long 1), none]) (st' := []) (h' := p1_h) (cl' := 0) (sl' := 0) rfl (fun hc60 => ?_) (fun hc60 => ?_)
        · refine ik_Wk 1 (pc' := 18) (loc' := [some (.long a1.toInt64), none, some (.long 0), none, some (.long 1), none]) (st' := [.int 0]) (h' := p1_h) (cl' := 0) (sl' := 0) rfl ?_
          refine ik_Wret rfl rfl ⟨_, _, rfl, rfl, ?_⟩
          refine ik_Wret rfl rfl ⟨_, _, rfl, rfl, ?_⟩
          refine ik_Wk 2 (pc' := 9) (loc' := [some (.ref 66), some (.int a1), some (.int a2), some (.int a3), none, none, none, none, none, none, none, none]) (st' := [.int (-1000000001)]) (h' := p1_h) (cl' := 0) (sl' := 0) rfl ?_
          refine ik_Wret rfl rfl ⟨_, _, rfl, rfl, ?_⟩
          refine ik_Wk 10 (pc' := 1138) (loc' := [some (.retAddr 0), some (.ref 0), some (.ref 66), some (.int 5)]) (st' := [.int 1]) (h' := p1_h) (cl' := 94) (sl' := 4156) rfl ?_
          exact ik_Wret rfl rfl ⟨rfl, rfl, Nat.le_of_ble_eq_true rfl, Nat.le_of_ble_eq_true rfl⟩
        · exfalso
          (try simp only [lg_lt0, lg_gt0] at hc1 hc30 hc59 hc60) <;> simp only [cv_eq, cv_lt, cv_le, cv_64, (show (0 : Int32).toInt = 0 from by decide), (show (0 : Int64).toInt = 0 from by decide), (show (1 : Int32).toInt = 1 from by decide), (show (1 : Int64).toInt = 1 from by decide)] at hc1 hc30 hc59 hc60 <;> omega

set_option maxHeartbeats 16000000 in
set_option maxRecDepth 100000 in
/-- most on the new objects -/
theorem p1_k14 (a0 a1 a2 a3 a4 : Int32) : ik_W (some (5, p1_f a0 a1 a2 a3 a4)) 0 710 [some (.retAddr 0), some (.ref 0), some (.ref 66), some (.int 0)] [] p1_h 94 4156 p1_post := by
  refine ik_Wk 11 (pc' := 721) (loc' := [some (.retAddr 0), some (.ref 0), some (.ref 66), some (.int 0)]) (st' := [.int a2, .int a1, .ref 0]) (h' := p1_h) (cl' := 94) (sl' := 4156) rfl ?_
  refine ik_Wc 48 3 0 [.ref 0, .int a1, .int a2] [] rfl rfl rfl (by decide) rfl rfl rfl ?_
  refine ik_Wk 1 (pc' := 1) (loc' := [some (.ref 0), some (.int a1), some (.int a2)]) (st' := [.int a1]) (h' := p1_h) (cl' := 0) (sl' := 0) rfl ?_
  refine ik_Wc 65 1 3 [.int a1] [] rfl rfl rfl (by decide) rfl rfl rfl ?_
  refine ik_Wif 2 (c := a1 = 0) 9 4 (loc' := [some (.int a1)]) (st' := []) (h' := p1_h) (cl' := 0) (sl' := 0) rfl (fun hc1 => ?_) (fun hc1 => ?_)
  · refine ik_Wk 2 (pc' := 14) (loc' := [some (.int a1)]) (st' := [.int 1]) (h' := p1_h) (cl' := 0) (sl' := 0) rfl ?_
    refine ik_Wret rfl rfl ⟨_, _, rfl, rfl, ?_⟩
    refine ik_Wif 3 (c := a2 < 0) 19 14 (loc' := [some (.ref 0), some (.int a1), some (.int a2)]) (st' := []) (h' := p1_h) (cl' := 0) (sl' := 0) rfl (fun hc2 => ?_) (fun hc2 => ?_)
    · refine ik_Wk 1 (pc' := 21) (loc' := [some (.ref 0), some (.int a1), some (.int a2)]) (st' := [.int (-1000000002)]) (h' := p1_h) (cl' := 0) (sl' := 0) rfl ?_
      refine ik_Wret rfl rfl ⟨_, _, rfl, rfl, ?_⟩
      refine ik_Wk 11 (pc' := 735) (loc' := [some (.retAddr 0), some (.ref 0), some (.ref 66), some (.int 0)]) (st' := [.int a2, .int a1, .ref 66, .int (-1000000002)]) (h' := p1_h) (cl' := 94) (sl' := 4156) rfl ?_
      refine ik_Wc 97 3 0 [.ref 66, .int a1, .int a2] [.int (-1000000002)] rfl rfl rfl (by decide) rfl rfl rfl ?_
      refine ik_Wk 1 (pc' := 1) (loc' := [some (.ref 66), some (.int a1), some (.int a2), none, none, none, none, none, none]) (st' := [.int a1]) (h' := p1_h) (cl' := 0) (sl' := 0) rfl ?_
      refine ik_Wc 75 1 3 [.int a1] [] rfl rfl rfl (by decide) rfl rfl rfl ?_
      refine ik_Wk 4 (pc' := 4) (loc' := [some (.int a1)]) (st' := [.long 1, .long 0, .long a1.toInt64]) (h' := p1_h) (cl' := 0) (sl' := 0) rfl ?_
      refine ik_Wc 70 3 3 [.long a1.toInt64, .long 0, .long 1] [] rfl rfl rfl (by decide) rfl rfl rfl ?_
      refine ik_Wif 4 (c := (lg_cmp a1.toInt64 (0 : Int64)) < 0) 17 6 (loc' := [some (.long a1.toInt64), none, some (.long 0), none, some (.long 1), none]) (st' := []) (h' := p1_h) (cl' := 0) (sl' := 0) rfl (fun hc3 => ?_) (fun hc3 => ?_)
      · exfalso
        (try simp only [lg_lt0, lg_gt0] at hc1 hc3) <;> simp only [cv_eq, cv_lt, cv_le, cv_64, (show (0 : Int32).toInt = 0 from by decide), (show (0 : Int64).toInt = 0 from by decide)] at hc1 hc3 <;> omega
      · refine ik_Wif 4 (c := 0 < (lg_cmp a1.toInt64 (1 : Int64))) 17 13 (loc' := [some (.long a1.toInt64), none, some (.long 0), none, some (.long 1), none]) (st' := []) (h' := p1_h) (cl' := 0) (sl' := 0) rfl (fun hc4 => ?_) (fun hc4 => ?_)
        · exfalso
          (try simp only [lg_lt0, lg_gt0] at hc1 hc3 hc4) <;> simp only [cv_eq, cv_lt, cv_le, cv_64, (show (0 : Int32).toInt = 0 from by decide), (show (0 : Int64).toInt = 0 from by decide), (show (1 : Int32).toInt = 1 from by decide), (show (1 : Int64).toInt = 1 from by decide)] at hc1 hc3 hc4 <;> omega
        · refine ik_Wk 2 (pc' := 18) (loc' := [some (.long a1.toInt64), none, some (.long 0), none, some (.long 1), none]) (st' := [.int 1]) (h' := p1_h) (cl' := 0) (sl' := 0) rfl ?_
          refine ik_Wret rfl rfl ⟨_, _, rfl, rfl, ?_⟩
          refine ik_Wret rfl rfl ⟨_, _, rfl, rfl, ?_⟩
          refine ik_Wk 5 (pc' := 14) (loc' := [some (.ref 66), some (.int a1), some (.int a2), none, none, none, none, none, none]) (st' := [.long 1, .long 0, .long a2.toInt64]) (h' := p1_h) (cl' := 0) (sl' := 0) rfl ?_
          refine ik_Wc 70 3 3 [.long a2.toInt64, .long 0, .long 1] [] rfl rfl rfl (by decide) rfl rfl rfl ?_
          refine ik_Wif 4 (c := (lg_cmp a2.toInt64 (0 : Int64)) < 0) 17 6 (loc' := [some (.long a2.toInt64), none, some (.long 0), none, some (.long 1), none]) (st' := []) (h' := p1_h) (cl' := 0) (sl' := 0) rfl (fun hc5 => ?_) (fun hc5 => ?_)
          · refine ik_Wk 1 (pc' := 18) (loc' := [some (.long a2.toInt64), none, some (.long 0), none, some (.long 1), none]) (st' := [.int 0]) (h' := p1_h) (cl' := 0) (sl' := 0) rfl ?_
            refine ik_Wret rfl rfl ⟨_, _, rfl, rfl, ?_⟩
            refine ik_Wk 2 (pc' := 22) (loc' := [some (.ref 66), some (.int a1), some (.int a2), none, none, none, none, none, none]) (st' := [.int (-1000000002)]) (h' := p1_h) (cl' := 0) (sl' := 0) rfl ?_
            refine ik_Wret rfl rfl ⟨_, _, rfl, rfl, ?_⟩
            refine ik_Wk 10 (pc' := 1138) (loc' := [some (.retAddr 0), some (.ref 0), some (.ref 66), some (.int 5)]) (st' := [.int 1]) (h' := p1_h) (cl' := 94) (sl' := 4156) rfl ?_
            exact ik_Wret rfl rfl ⟨rfl, rfl, Nat.le_of_ble_eq_true rfl, Nat.le_of_ble_eq_true rfl⟩
          · exfalso
            (try simp only [lg_lt0, lg_gt0] at hc2 hc5) <;> simp only [cv_eq, cv_lt, cv_le, cv_64, (show (0 : Int32).toInt = 0 from by decide), (show (0 : Int64).toInt = 0 from by decide), (show (1 : Int32).toInt = 1 from by decide), (show (1 : Int64).toInt = 1 from by decide)] at hc2 hc5 <;> omega
    · refine ik_Wif 3 (c := a2 ≤ (1 : Int32)) 22 19 (loc' := [some (.ref 0), some (.int a1), some (.int a2)]) (st' := []) (h' := p1_h) (cl' := 0) (sl' := 0) rfl (fun hc6 => ?_) (fun hc6 => ?_)
      · refine ik_Wk 2 (pc' := 26) (loc' := [some (.ref 0), some (.int a1), some (.int a2)]) (st' := [.ref 7]) (h' := p1_h) (cl' := 0) (sl' := 0) rfl ?_
        refine ik_Wc 7 1 0 [.ref 7] [] rfl rfl rfl (by decide) rfl rfl rfl ?_
        refine ik_Wk 5 (pc' := 13) (loc' := [some (.ref 7)]) (st' := [.int 0]) (h' := p1_h) (cl' := 0) (sl' := 0) rfl ?_
        refine ik_Wret rfl rfl ⟨_, _, rfl, rfl, ?_⟩
        refine ik_Wk 2 (pc' := 34) (loc' := [some (.ref 0), some (.int a1), some (.int a2)]) (st' := [.int (-1000000003)]) (h' := p1_h) (cl' := 0) (sl' := 0) rfl ?_
        refine ik_Wret rfl rfl ⟨_, _, rfl, rfl, ?_⟩
        refine ik_Wk 11 (pc' := 735) (loc' := [some (.retAddr 0), some (.ref 0), some (.ref 66), some (.int 0)]) (st' := [.int a2, .int a1, .ref 66, .int (-1000000003)]) (h' := p1_h) (cl' := 94) (sl' := 4156) rfl ?_
        refine ik_Wc 97 3 0 [.ref 66, .int a1, .int a2] [.int (-1000000003)] rfl rfl rfl (by decide) rfl rfl rfl ?_
        refine ik_Wk 1 (pc' := 1) (loc' := [some (.ref 66), some (.int a1), some (.int a2), none, none, none, none, none, none]) (st' := [.int a1]) (h' := p1_h) (cl' := 0) (sl' := 0) rfl ?_
        refine ik_Wc 75 1 3 [.int a1] [] rfl rfl rfl (by decide) rfl rfl rfl ?_
        refine ik_Wk 4 (pc' := 4) (loc' := [some (.int a1)]) (st' := [.long 1, .long 0, .long a1.toInt64]) (h' := p1_h) (cl' := 0) (sl' := 0) rfl ?_
        refine ik_Wc 70 3 3 [.long a1.toInt64, .long 0, .long 1] [] rfl rfl rfl (by decide) rfl rfl rfl ?_
        refine ik_Wif 4 (c := (lg_cmp a1.toInt64 (0 : Int64)) < 0) 17 6 (loc' := [some (.long a1.toInt64), none, some (.long 0), none, some (.long 1), none]) (st' := []) (h' := p1_h) (cl' := 0) (sl' := 0) rfl (fun hc7 => ?_) (fun hc7 => ?_)
        · exfalso
          (try simp only [lg_lt0, lg_gt0] at hc1 hc7) <;> simp only [cv_eq, cv_lt, cv_le, cv_64, (show (0 : Int32).toInt = 0 from by decide), (show (0 : Int64).toInt = 0 from by decide), (show (1 : Int32).toInt = 1 from by decide), (show (1 : Int64).toInt = 1 from by decide)] at hc1 hc7 <;> omega
        · refine ik_Wif 4 (c := 0 < (lg_cmp a1.toInt64 (1 : Int64))) 17 13 (loc' := [some (.long a1.toInt64), none, some (.long 0), none, some (.long 1), none]) (st' := []) (h' := p1_h) (cl' := 0) (sl' := 0) rfl (fun hc8 => ?_) (fun hc8 => ?_)
          · exfalso
            (try simp only [lg_lt0, lg_gt0] at hc1 hc7 hc8) <;> simp only [cv_eq, cv_lt, cv_le, cv_64, (show (0 : Int32).toInt = 0 from by decide), (show (0 : Int64).toInt = 0 from by decide), (show (1 : Int32).toInt = 1 from by decide), (show (1 : Int64).toInt = 1 from by decide)] at hc1 hc7 hc8 <;> omega
          · refine ik_Wk 2 (pc' := 18) (loc' := [some (.long a1.toInt64), none, some (.long 0), none, some (.long 1), none]) (st' := [.int 1]) (h' := p1_h) (cl' := 0) (sl' := 0) rfl ?_
            refine ik_Wret rfl rfl ⟨_, _, rfl, rfl, ?_⟩
            refine ik_Wret rfl rfl ⟨_, _, rfl, rfl, ?_⟩
            refine ik_Wk 5 (pc' := 14) (loc' := [some (.ref 66), some (.int a1), some (.int a2), none, none, none, none, none, none]) (st' := [.long 1, .long 0, .long a2.toInt64]) (h' := p1_h) (cl' := 0) (sl' := 0) rfl ?_
            refine ik_Wc 70 3 3 [.long a2.toInt64, .long 0, .long 1] [] rfl rfl rfl (by decide) rfl rfl rfl ?_
            refine ik_Wif 4 (c := (lg_cmp a2.toInt64 (0 : Int64)) < 0) 17 6 (loc' := [some (.long a2.toInt64), none, some (.long 0), none, some (.long 1), none]) (st' := []) (h' := p1_h) (cl' := 0) (sl' := 0) rfl (fun hc9 => ?_) (fun hc9 => ?_)
            · exfalso
              (try simp only [lg_lt0, lg_gt0] at hc2 hc6 hc9) <;> simp only [cv_eq, cv_lt, cv_le, cv_64, (show (0 : Int32).toInt = 0 from by decide), (show (0 : Int64).toInt = 0 from by decide), (show (1 : Int32).toInt = 1 from by decide), (show (1 : Int64).toInt = 1 from by decide)] at hc2 hc6 hc9 <;> omega
            · refine ik_Wif 4 (c := 0 < (lg_cmp a2.toInt64 (1 : Int64))) 17 13 (loc' := [some (.long a2.toInt64), none, some (.long 0), none, some (.long 1), none]) (st' := []) (h' := p1_h) (cl' := 0) (sl' := 0) rfl (fun hc10 => ?_) (fun hc10 => ?_)
              · exfalso
                (try simp only [lg_lt0, lg_gt0] at hc2 hc6 hc9 hc10) <;> simp only [cv_eq, cv_lt, cv_le, cv_64, (show (0 : Int32).toInt = 0 from by decide), (show (0 : Int64).toInt = 0 from by decide), (show (1 : Int32).toInt = 1 from by decide), (show (1 : Int64).toInt = 1 from by decide)] at hc2 hc6 hc9 hc10 <;> omega
              · refine ik_Wk 2 (pc' := 18) (loc' := [some (.long a2.toInt64), none, some (.long 0), none, some (.long 1), none]) (st' := [.int 1]) (h' := p1_h) (cl' := 0) (sl' := 0) rfl ?_
                refine ik_Wret rfl rfl ⟨_, _, rfl, rfl, ?_⟩
                refine ik_Wk 2 (pc' := 24) (loc' := [some (.ref 66), some (.int a1), some (.int a2), none, none, none, none, none, none]) (st' := [.ref 66]) (h' := p1_h) (cl' := 0) (sl' := 0) rfl ?_
                refine ik_Wc 77 1 0 [.ref 66] [] rfl rfl rfl (by decide) rfl rfl rfl ?_
                refine ik_Wk 5 (pc' := 13) (loc' := [some (.ref 66)]) (st' := [.int 0]) (h' := p1_h) (cl' := 0) (sl' := 0) rfl ?_
                refine ik_Wret rfl rfl ⟨_, _, rfl, rfl, ?_⟩
                refine ik_Wk 2 (pc' := 32) (loc' := [some (.ref 66), some (.int a1), some (.int a2), none, none, none, none, none, none]) (st' := [.int (-1000000003)]) (h' := p1_h) (cl' := 0) (sl' := 0) rfl ?_
                refine ik_Wret rfl rfl ⟨_, _, rfl, rfl, ?_⟩
                refine ik_Wk 10 (pc' := 1138) (loc' := [some (.retAddr 0), some (.ref 0), some (.ref 66), some (.int 5)]) (st' := [.int 1]) (h' := p1_h) (cl' := 94) (sl' := 4156) rfl ?_
                exact ik_Wret rfl rfl ⟨rfl, rfl, Nat.le_of_ble_eq_true rfl, Nat.le_of_ble_eq_true rfl⟩
      · refine ik_Wk 1 (pc' := 21) (loc' := [some (.ref 0), some (.int a1), some (.int a2)]) (st' := [.int (-1000000002)]) (h' := p1_h) (cl' := 0) (sl' := 0) rfl ?_
        refine ik_Wret rfl rfl ⟨_, _, rfl, rfl, ?_⟩
        refine ik_Wk 11 (pc' := 735) (loc' := [some (.retAddr 0), some (.ref 0), some (.ref 66), some (.int 0)]) (st' := [.int a2, .int a1, .ref 66, .int (-1000000002)]) (h' := p1_h) (cl' := 94) (sl' := 4156) rfl ?_
        refine ik_Wc 97 3 0 [.ref 66, .int a1, .int a2] [.int (-1000000002)] rfl rfl rfl (by decide) rfl rfl rfl ?_
        refine ik_Wk 1 (pc' := 1) (loc' := [some (.ref 66), some (.int a1), some (.int a2), none, none, none, none, none, none]) (st' := [.int a1]) (h' := p1_h) (cl' := 0) (sl' := 0) rfl ?_
        refine ik_Wc 75 1 3 [.int a1] [] rfl rfl rfl (by decide) rfl rfl rfl ?_
        refine ik_Wk 4 (pc' := 4) (loc' := [some (.int a1)]) (st' := [.long 1, .long 0, .long a1.toInt64]) (h' := p1_h) (cl' := 0) (sl' := 0) rfl ?_
        refine ik_Wc 70 3 3 [.long a1.toInt64, .long 0, .long 1] [] rfl rfl rfl (by decide) rfl rfl rfl ?_
        refine ik_Wif 4 (c := (lg_cmp a1.toInt64 (0 : Int64)) < 0) 17 6 (loc' := [some (.long a1.toInt64), none, some (.long 0), none, some (.long 1), none]) (st' := []) (h' := p1_h) (cl' := 0) (sl' := 0) rfl (fun hc11 => ?_) (fun hc11 => ?_)
        · exfalso
          (try simp only [lg_lt0, lg_gt0] at hc1 hc11) <;> simp only [cv_eq, cv_lt, cv_le, cv_64, (show (0 : Int32).toInt = 0 from by decide), (show (0 : Int64).toInt = 0 from by decide), (show (1 : Int32).toInt = 1 from by decide), (show (1 : Int64).toInt = 1 from by decide)] at hc1 hc11 <;> omega
        · refine ik_Wif 4 (c := 0 < (lg_cmp a1.toInt64 (1 : Int64))) 17 13 (loc' := [some (.long a1.toInt64), none, some (.long 0), none, some (.long 1), none]) (st' := []) (h' := p1_h) (cl' := 0) (sl' := 0) rfl (fun hc12 => ?_) (fun hc12 => ?_)
          · exfalso
            (try simp only [lg_lt0, lg_gt0] at hc1 hc11 hc12) <;> simp only [cv_eq, cv_lt, cv_le, cv_64, (show (0 : Int32).toInt = 0 from by decide), (show (0 : Int64).toInt = 0 from by decide), (show (1 : Int32).toInt = 1 from by decide), (show (1 : Int64).toInt = 1 from by decide)] at hc1 hc11 hc12 <;> omega
          · refine ik_Wk 2 (pc' := 18) (loc' := [some (.long a1.toInt64), none, some (.long 0), none, some (.long 1), none]) (st' := [.int 1]) (h' := p1_h) (cl' := 0) (sl' := 0) rfl ?_
            refine ik_Wret rfl rfl ⟨_, _, rfl, rfl, ?_⟩
            refine ik_Wret rfl rfl ⟨_, _, rfl, rfl, ?_⟩
            refine ik_Wk 5 (pc' := 14) (loc' := [some (.ref 66), some (.int a1), some (.int a2), none, none, none, none, none, none]) (st' := [.long 1, .long 0, .long a2.toInt64]) (h' := p1_h) (cl' := 0) (sl' := 0) rfl ?_
            refine ik_Wc 70 3 3 [.long a2.toInt64, .long 0, .long 1] [] rfl rfl rfl (by decide) rfl rfl rfl ?_
            refine ik_Wif 4 (c := (lg_cmp a2.toInt64 (0 : Int64)) < 0) 17 6 (loc' := [some (.long a2.toInt64), none, some (.long 0), none, some (.long 1), none]) (st' := []) (h' := p1_h) (cl' := 0) (sl' := 0) rfl (fun hc13 => ?_) (fun hc13 => ?_)
            · exfalso
              (try simp only [lg_lt0, lg_gt0] at hc2 hc6 hc13) <;> simp only [cv_eq, cv_lt, cv_le, cv_64, (show (0 : Int32).toInt = 0 from by decide), (show (0 : Int64).toInt = 0 from by decide), (show (1 : Int32).toInt = 1 from by decide), (show (1 : Int64).toInt = 1 from by decide)] at hc2 hc6 hc13 <;> omega
            · refine ik_Wif 4 (c := 0 < (lg_cmp a2.toInt64 (1 : Int64))) 17 13 (loc' := [some (.long a2.toInt64), none, some (.long 0), none, some (.long 1), none]) (st' := []) (h' := p1_h) (cl' := 0) (sl' := 0) rfl (fun hc14 => ?_) (fun hc14 => ?_)
              · refine ik_Wk 1 (pc' := 18) (loc' := [some (.long a2.toInt64), none, some (.long 0), none, some (.long 1), none]) (st' := [.int 0]) (h' := p1_h) (cl' := 0) (sl' := 0) rfl ?_
                refine ik_Wret rfl rfl ⟨_, _, rfl, rfl, ?_⟩
                refine ik_Wk 2 (pc' := 22) (loc' := [some (.ref 66), some (.int a1), some (.int a2), none, none, none, none, none, none]) (st' := [.int (-1000000002)]) (h' := p1_h) (cl' := 0) (sl' := 0) rfl ?_
                refine ik_Wret rfl rfl ⟨_, _, rfl, rfl, ?_⟩
                refine ik_Wk 10 (pc' := 1138) (loc' := [some (.retAddr 0), some (.ref 0), some (.ref 66), some (.int 5)]) (st' := [.int 1]) (h' := p1_h) (cl' := 94) (sl' := 4156) rfl ?_
                exact ik_Wret rfl rfl ⟨rfl, rfl, Nat.le_of_ble_eq_true rfl, Nat.le_of_ble_eq_true rfl⟩
              · exfalso
                (try simp only [lg_lt0, lg_gt0] at hc2 hc6 hc13 hc14) <;> simp only [cv_eq, cv_lt, cv_le, cv_64, (show (0 : Int32).toInt = 0 from by decide), (show (0 : Int64).toInt = 0 from by decide), (show (1 : Int32).toInt = 1 from by decide), (show (1 : Int64).toInt = 1 from by decide)] at hc2 hc6 hc13 hc14 <;> omega
  · refine ik_Wif 3 (c := a1 = (1 : Int32)) 9 13 (loc' := [some (.int a1)]) (st' := []) (h' := p1_h) (cl' := 0) (sl' := 0) rfl (fun hc15 => ?_) (fun hc15 => ?_)
    · refine ik_Wk 2 (pc' := 14) (loc' := [some (.int a1)]) (st' := [.int 1]) (h' := p1_h) (cl' := 0) (sl' := 0) rfl ?_
      refine ik_Wret rfl rfl ⟨_, _, rfl, rfl, ?_⟩
      refine ik_Wif 3 (c := a2 < 0) 19 14 (loc' := [some (.ref 0), some (.int a1), some (.int a2)]) (st' := []) (h' := p1_h) (cl' := 0) (sl' := 0) rfl (fun hc16 => ?_) (fun hc16 => ?_)
      · refine ik_Wk 1 (pc' := 21) (loc' := [some (.ref 0), some (.int a1), some (.int a2)]) (st' := [.int (-1000000002)]) (h' := p1_h) (cl' := 0) (sl' := 0) rfl ?_
        refine ik_Wret rfl rfl ⟨_, _, rfl, rfl, ?_⟩
        refine ik_Wk 11 (pc' := 735) (loc' := [some (.retAddr 0), some (.ref 0), some (.ref 66), some (.int 0)]) (st' := [.int a2, .int a1, .ref 66, .int (-1000000002)]) (h' := p1_h) (cl' := 94) (sl' := 4156) rfl ?_
        refine ik_Wc 97 3 0 [.ref 66, .int a1, .int a2] [.int (-1000000002)] rfl rfl rfl (by decide) rfl rfl rfl ?_
        refine ik_Wk 1 (pc' := 1) (loc' := [some (.ref 66), some (.int a1), some (.int a2), none, none, none, none, none, none]) (st' := [.int a1]) (h' := p1_h) (cl' := 0) (sl' := 0) rfl ?_
        refine ik_Wc 75 1 3 [.int a1] [] rfl rfl rfl (by decide) rfl rfl rfl ?_
        refine ik_Wk 4 (pc' := 4) (loc' := [some (.int a1)]) (st' := [.long 1, .long 0, .long a1.toInt64]) (h' := p1_h) (cl' := 0) (sl' := 0) rfl ?_
        refine ik_Wc 70 3 3 [.long a1.toInt64, .long 0, .long 1] [] rfl rfl rfl (by decide) rfl rfl rfl ?_
        refine ik_Wif 4 (c := (lg_cmp a1.toInt64 (0 : Int64)) < 0) 17 6 (loc' := [some (.long a1.toInt64), none, some (.long 0), none, some (.long 1), none]) (st' := []) (h' := p1_h) (cl' := 0) (sl' := 0) rfl (fun hc17 => ?_) (fun hc17 => ?_)
        · exfalso
          (try simp only [lg_lt0, lg_gt0] at hc1 hc15 hc17) <;> simp only [cv_eq, cv_lt, cv_le, cv_64, (show (0 : Int32).toInt = 0 from by decide), (show (0 : Int64).toInt = 0 from by decide), (show (1 : Int32).toInt = 1 from by decide), (show (1 : Int64).toInt = 1 from by decide)] at hc1 hc15 hc17 <;> omega
        · refine ik_Wif 4 (c := 0 < (lg_cmp a1.toInt64 (1 : Int64))) 17 13 (loc' := [some (.long a1.toInt64), none, some (.long 0), none, some (.long 1), none]) (st' := []) (h' := p1_h) (cl' := 0) (sl' := 0) rfl (fun hc18 => ?_) (fun hc18 => ?_)
          · exfalso
            (try simp only [lg_lt0, lg_gt0] at hc1 hc15 hc17 hc18) <;> simp only [cv_eq, cv_lt, cv_le, cv_64, (show (0 : Int32).toInt = 0 from by decide), (show (0 : Int64).toInt = 0 from by decide), (show (1 : Int32).toInt = 1 from by decide), (show (1 : Int64).toInt = 1 from by decide)] at hc1 hc15 hc17 hc18 <;> omega
          · refine ik_Wk 2 (pc' := 18) (loc' := [some (.long a1.toInt64), none, some (.long 0), none, some (.long 1), none]) (st' := [.int 1]) (h' := p1_h) (cl' := 0) (sl' := 0) rfl ?_
            refine ik_Wret rfl rfl ⟨_, _, rfl, rfl, ?_⟩
            refine ik_Wret rfl rfl ⟨_, _, rfl, rfl, ?_⟩
            refine ik_Wk 5 (pc' := 14) (loc' := [some (.ref 66), some (.int a1), some (.int a2), none, none, none, none, none, none]) (st' := [.long 1, .long 0, .long a2.toInt64]) (h' := p1_h) (cl' := 0) (sl' := 0) rfl ?_
            refine ik_Wc 70 3 3 [.long a2.toInt64, .long 0, .long 1] [] rfl rfl rfl (by decide) rfl rfl rfl ?_
            refine ik_Wif 4 (c := (lg_cmp a2.toInt64 (0 : Int64)) < 0) 17 6 (loc' := [some (.long a2.toInt64), none, some (.long 0), none, some (.long 1), none]) (st' := []) (h' := p1_h) (cl' := 0) (sl' := 0) rfl (fun hc19 => ?_) (fun hc19 => ?_)
            · refine ik_Wk 1 (pc' := 18) (loc' := [some (.long a2.toInt64), none, some (.long 0), none, some (.long 1), none]) (st' := [.int 0]) (h' := p1_h) (cl' := 0) (sl' := 0) rfl ?_
              refine ik_Wret rfl rfl ⟨_, _, rfl, rfl, ?_⟩
              refine ik_Wk 2 (pc' := 22) (loc' := [some (.ref 66), some (.int a1), some (.int a2), none, none, none, none, none, none]) (st' := [.int (-1000000002)]) (h' := p1_h) (cl' := 0) (sl' := 0) rfl ?_
              refine ik_Wret rfl rfl ⟨_, _, rfl, rfl, ?_⟩
              refine ik_Wk 10 (pc' := 1138) (loc' := [some (.retAddr 0), some (.ref 0), some (.ref 66), some (.int 5)]) (st' := [.int 1]) (h' := p1_h) (cl' := 94) (sl' := 4156) rfl ?_
              exact ik_Wret rfl rfl ⟨rfl, rfl, Nat.le_of_ble_eq_true rfl, Nat.le_of_ble_eq_true rfl⟩
            · exfalso
              (try simp only [lg_lt0, lg_gt0] at hc16 hc19) <;> simp only [cv_eq, cv_lt, cv_le, cv_64, (show (0 : Int32).toInt = 0 from by decide), (show (0 : Int64).toInt = 0 from by decide), (show (1 : Int32).toInt = 1 from by decide), (show (1 : Int64).toInt = 1 from by decide)] at hc16 hc19 <;> omega
      · refine ik_Wif 3 (c := a2 ≤ (1 : Int32)) 22 19 (loc' := [some (.ref 0), some (.int a1), some (.int a2)]) (st' := []) (h' := p1_h) (cl' := 0) (sl' := 0) rfl (fun hc20 => ?_) (fun hc20 => ?_)
        · refine ik_Wk 2 (pc' := 26) (loc' := [some (.ref 0), some (.int a1), some (.int a2)]) (st' := [.ref 7]) (h' := p1_h) (cl' := 0) (sl' := 0) rfl ?_
          refine ik_Wc 7 1 0 [.ref 7] [] rfl rfl rfl (by decide) rfl rfl rfl ?_
          refine ik_Wk 5 (pc' := 13) (loc' := [some (.ref 7)]) (st' := [.int 0]) (h' := p1_h) (cl' := 0) (sl' := 0) rfl ?_
          refine ik_Wret rfl rfl ⟨_, _, rfl, rfl, ?_⟩
          refine ik_Wk 2 (pc' := 34) (loc' := [some (.ref 0), some (.int a1), some (.int a2)]) (st' := [.int (-1000000003)]) (h' := p1_h) (cl' := 0) (sl' := 0) rfl ?_
          refine ik_Wret rfl rfl ⟨_, _, rfl, rfl, ?_⟩
          refine ik_Wk 11 (pc' := 735) (loc' := [some (.retAddr 0), some (.ref 0), some (.ref 66), some (.int 0)]) (st' := [.int a2, .int a1, .ref 66, .int (-1000000003)]) (h' := p1_h) (cl' := 94) (sl' := 4156) rfl ?_
          refine ik_Wc 97 3 0 [.ref 66, .int a1, .int a2] [.int (-1000000003)] rfl rfl rfl (by decide) rfl rfl rfl ?_
          refine ik_Wk 1 (pc' := 1) (loc' := [some (.ref 66), some (.int a1), some (.int a2), none, none, none, none, none, none]) (st' := [.int a1]) (h' := p1_h) (cl' := 0) (sl' := 0) rfl ?_
          refine ik_Wc 75 1 3 [.int a1] [] rfl rfl rfl (by decide) rfl rfl rfl ?_
          refine ik_Wk 4 (pc' := 4) (loc' := [some (.int a1)]) (st' := [.long 1, .long 0, .long a1.toInt64]) (h' := p1_h) (cl' := 0) (sl' := 0) rfl ?_
          refine ik_Wc 70 3 3 [.long a1.toInt64, .long 0, .long 1] [] rfl rfl rfl (by decide) rfl rfl rfl ?_
          refine ik_Wif 4 (c := (lg_cmp a1.toInt64 (0 : Int64)) < 0) 17 6 (loc' := [some (.long a1.toInt64), none, some (.long 0), none, some (.long 1), none]) (st' := []) (h' := p1_h) (cl' := 0) (sl' := 0) rfl (fun hc21 => ?_) (fun hc21 => ?_)
          · exfalso
            (try simp only [lg_lt0, lg_gt0] at hc1 hc15 hc21) <;> simp only [cv_eq, cv_lt, cv_le, cv_64, (show (0 : Int32).toInt = 0 from by decide), (show (0 : Int64).toInt = 0 from by decide), (show (1 : Int32).toInt = 1 from by decide), (show (1 : Int64).toInt = 1 from by decide)] at hc1 hc15 hc21 <;> omega
          · refine ik_Wif 4 (c := 0 < (lg_cmp a1.toInt64 (1 : Int64))) 17 13 (loc' := [some (.long a1.toInt64), none, some (.long 0), none, some (.long 1), none]) (st' := []) (h' := p1_h) (cl' := 0) (sl' := 0) rfl (fun hc22 => ?_) (fun hc22 => ?_)
            · exfalso
              (try simp only [lg_lt0, lg_gt0] at hc1 hc15 hc21 hc22) <;> simp only [cv_eq, cv_lt, cv_le, cv_64, (show (0 : Int32).toInt = 0 from by decide), (show (0 : Int64).toInt = 0 from by decide), (show (1 : Int32).toInt = 1 from by decide), (show (1 : Int64).toInt = 1 from by decide)] at hc1 hc15 hc21 hc22 <;> omega
            · refine ik_Wk 2 (pc' := 18) (loc' := [some (.long a1.toInt64), none, some (.long 0), none, some (.long 1), none]) (st' := [.int 1]) (h' := p1_h) (cl' := 0) (sl' := 0) rfl ?_
              refine ik_Wret rfl rfl ⟨_, _, rfl, rfl, ?_⟩
              refine ik_Wret rfl rfl ⟨_, _, rfl, rfl, ?_⟩
              refine ik_Wk 5 (pc' := 14) (loc' := [some (.ref 66), some (.int a1), some (.int a2), none, none, none, none, none, none]) (st' := [.long 1, .long 0, .long a2.toInt64]) (h' := p1_h) (cl' := 0) (sl' := 0) rfl ?_
              refine ik_Wc 70 3 3 [.long a2.toInt64, .long 0, .long 1] [] rfl rfl rfl (by decide) rfl rfl rfl ?_
              refine ik_Wif 4 (c := (lg_cmp a2.toInt64 (0 : Int64)) < 0) 17 6 (loc' := [some (.long a2.toInt64), none, some (.long 0), none, some (.long 1), none]) (st' := []) (h' := p1_h) (cl' := 0) (sl' := 0) rfl (fun hc23 => ?_) (fun hc23 => ?_)
              · exfalso
                (try simp only [lg_lt0, lg_gt0] at hc16 hc20 hc23) <;> simp only [cv_eq, cv_lt, cv_le, cv_64, (show (0 : Int32).toInt = 0 from by decide), (show (0 : Int64).toInt = 0 from by decide), (show (1 : Int32).toInt = 1 from by decide), (show (1 : Int64).toInt = 1 from by decide)] at hc16 hc20 hc23 <;> omega
              · refine ik_Wif 4 (c := 0 < (lg_cmp a2.toInt64 (1 : Int64))) 17 13 (loc' := [some (.long a2.toInt64), none, some (.long 0), none, some (.long 1), none]) (st' := []) (h' := p1_h) (cl' := 0) (sl' := 0) rfl (fun hc24 => ?_) (fun hc24 => ?_)
                · exfalso
                  (try simp only [lg_lt0, lg_gt0] at hc16 hc20 hc23 hc24) <;> simp only [cv_eq, cv_lt, cv_le, cv_64, (show (0 : Int32).toInt = 0 from by decide), (show (0 : Int64).toInt = 0 from by decide), (show (1 : Int32).toInt = 1 from by decide), (show (1 : Int64).toInt = 1 from by decide)] at hc16 hc20 hc23 hc24 <;> omega
                · refine ik_Wk 2 (pc' := 18) (loc' := [some (.long a2.toInt64), none, some (.long 0), none, some (.long 1), none]) (st' := [.int 1]) (h' := p1_h) (cl' := 0) (sl' := 0) rfl ?_
                  refine ik_Wret rfl rfl ⟨_, _, rfl, rfl, ?_⟩
                  refine ik_Wk 2 (pc' := 24) (loc' := [some (.ref 66), some (.int a1), some (.int a2), none, none, none, none, none, none]) (st' := [.ref 66]) (h' := p1_h) (cl' := 0) (sl' := 0) rfl ?_
                  refine ik_Wc 77 1 0 [.ref 66] [] rfl rfl rfl (by decide) rfl rfl rfl ?_
                  refine ik_Wk 5 (pc' := 13) (loc' := [some (.ref 66)]) (st' := [.int 0]) (h' := p1_h) (cl' := 0) (sl' := 0) rfl ?_
                  refine ik_Wret rfl rfl ⟨_, _, rfl, rfl, ?_⟩
                  refine ik_Wk 2 (pc' := 32) (loc' := [some (.ref 66), some (.int a1), some (.int a2), none, none, none, none, none, none]) (st' := [.int (-1000000003)]) (h' := p1_h) (cl' := 0) (sl' := 0) rfl ?_
                  refine ik_Wret rfl rfl ⟨_, _, rfl, rfl, ?_⟩
                  refine ik_Wk 10 (pc' := 1138) (loc' := [some (.retAddr 0), some (.ref 0), some (.ref 66), some (.int 5)]) (st' := [.int 1]) (h' := p1_h) (cl' := 94) (sl' := 4156) rfl ?_
                  exact ik_Wret rfl rfl ⟨rfl, rfl, Nat.le_of_ble_eq_true rfl, Nat.le_of_ble_eq_true rfl⟩
        · refine ik_Wk 1 (pc' := 21) (loc' := [some (.ref 0), some (.int a1), some (.int a2)]) (st' := [.int (-1000000002)]) (h' := p1_h) (cl' := 0) (sl' := 0) rfl ?_
          refine ik_Wret rfl rfl ⟨_, _, rfl, rfl, ?_⟩
          refine ik_Wk 11 (pc' := 735) (loc' := [some (.retAddr 0), some (.ref 0), some (.ref 66), some (.int 0)]) (st' := [.int a2, .int a1, .ref 66, .int (-1000000002)]) (h' := p1_h) (cl' := 94) (sl' := 4156) rfl ?_
          refine ik_Wc 97 3 0 [.ref 66, .int a1, .int a2] [.int (-1000000002)] rfl rfl rfl (by decide) rfl rfl rfl ?_
          refine ik_Wk 1 (pc' := 1) (loc' := [some (.ref 66), some (.int a1), some (.int a2), none, none, none, none, none, none]) (st' := [.int a1]) (h' := p1_h) (cl' := 0) (sl' := 0) rfl ?_
          refine ik_Wc 75 1 3 [.int a1] [] rfl rfl rfl (by decide) rfl rfl rfl ?_
          refine ik_Wk 4 (pc' := 4) (loc' := [some (.int a1)]) (st' := [.long 1, .long 0, .long a1.toInt64]) (h' := p1_h) (cl' := 0) (sl' := 0) rfl ?_
          refine ik_Wc 70 3 3 [.long a1.toInt64, .long 0, .long 1] [] rfl rfl rfl (by decide) rfl rfl rfl ?_
          refine ik_Wif 4 (c := (lg_cmp a1.toInt64 (0 : Int64)) < 0) 17 6 (loc' := [some (.long a1.toInt64), none, some (.long 0), none, some (.long 1), none]) (st' := []) (h' := p1_h) (cl' := 0) (sl' := 0) rfl (fun hc25 => ?_) (fun hc25 => ?_)
          · exfalso
            (try simp only [lg_lt0, lg_gt0] at hc1 hc15 hc25) <;> simp only [cv_eq, cv_lt, cv_le, cv_64, (show (0 : Int32).toInt = 0 from by decide), (show (0 : Int64).toInt = 0 from by decide), (show (1 : Int32).toInt = 1 from by decide), (show (1 : Int64).toInt = 1 from by decide)] at hc1 hc15 hc25 <;> omega
          · refine ik_Wif 4 (c := 0 < (lg_cmp a1.toInt64 (1 : Int64))) 17 13 (loc' := [some (.long a1.toInt64), none, some (.long 0), none, some (.long 1), none]) (st' := []) (h' := p1_h) (cl' := 0) (sl' := 0) rfl (fun hc26 => ?_) (fun hc26 => ?_)
            · exfalso
              (try simp only [lg_lt0, lg_gt0] at hc1 hc15 hc25 hc26) <;> simp only [cv_eq, cv_lt, cv_le, cv_64, (show (0 : Int32).toInt = 0 from by decide), (show (0 : Int64).toInt = 0 from by decide), (show (1 : Int32).toInt = 1 from by decide), (show (1 : Int64).toInt = 1 from by decide)] at hc1 hc15 hc25 hc26 <;> omega
            · refine ik_Wk 2 (pc' := 18) (loc' := [some (.long a1.toInt64), none, some (.long 0), none, some (.long 1), none]) (st' := [.int 1]) (h' := p1_h) (cl' := 0) (sl' := 0) rfl ?_
              refine ik_Wret rfl rfl ⟨_, _, rfl, rfl, ?_⟩
              refine ik_Wret rfl rfl ⟨_, _, rfl, rfl, ?_⟩
              refine ik_Wk 5 (pc' := 14) (loc' := [some (.ref 66), some (.int a1), some (.int a2), none, none, none, none, none, none]) (st' := [.long 1, .long 0, .long a2.toInt64]) (h' := p1_h) (cl' := 0) (sl' := 0) rfl ?_
              refine ik_Wc 70 3 3 [.long a2.toInt64, .long 0, .long 1] [] rfl rfl rfl (by decide) rfl rfl rfl ?_
              refine ik_Wif 4 (c := (lg_cmp a2.toInt64 (0 : Int64)) < 0) 17 6 (loc' := [some (.long a2.toInt64), none, some (.long 0), none, some (.long 1), none]) (st' := []) (h' := p1_h) (cl' := 0) (sl' := 0) rfl (fun hc27 => ?_) (fun hc27 => ?_)
              · exfalso
                (try simp only [lg_lt0, lg_gt0] at hc16 hc20 hc27) <;> simp only [cv_eq, cv_lt, cv_le, cv_64, (show (0 : Int32).toInt = 0 from by decide), (show (0 : Int64).toInt = 0 from by decide), (show (1 : Int32).toInt = 1 from by decide), (show (1 : Int64).toInt = 1 from by decide)] at hc16 hc20 hc27 <;> omega
              · refine ik_Wif 4 (c := 0 < (lg_cmp a2.toInt64 (1 : Int64))) 17 13 (loc' := [some (.long a2.toInt64), none, some (.long 0), none, some (.long 1), none]) (st' := []) (h' := p1_h) (cl' := 0) (sl' := 0) rfl (fun hc28 => ?_) (fun hc28 => ?_)
                · refine ik_Wk 1 (pc' := 18) (loc' := [some (.long a2.toInt64), none, some (.long 0), none, some (.long 1), none]) (st' := [.int 0]) (h' := p1_h) (cl' := 0) (sl' := 0) rfl ?_
                  refine ik_Wret rfl rfl ⟨_, _, rfl, rfl, ?_⟩
                  refine ik_Wk 2 (pc' := 22) (loc' := [some (.ref 66), some (.int a1), some (.int a2), none, none, none, none, none, none]) (st' := [.int (-1000000002)]) (h' := p1_h) (cl' := 0) (sl' := 0) rfl ?_
                  refine ik_Wret rfl rfl ⟨_, _, rfl, rfl, ?_⟩
                  refine ik_Wk 10 (pc' := 1138) (loc' := [some (.retAddr 0), some (.ref 0), some (.ref 66), some (.int 5)]) (st' := [.int 1]) (h' := p1_h) (cl' := 94) (sl' := 4156) rfl ?_
                  exact ik_Wret rfl rfl ⟨rfl, rfl, Nat.le_of_ble_eq_true rfl, Nat.le_of_ble_eq_true rfl⟩
                · exfalso
                  (try simp only [lg_lt0, lg_gt0] at hc16 hc20 hc27 hc28) <;> simp only [cv_eq, cv_lt, cv_le, cv_64, (show (0 : Int32).toInt = 0 from by decide), (show (0 : Int64).toInt = 0 from by decide), (show (1 : Int32).toInt = 1 from by decide), (show (1 : Int64).toInt = 1 from by decide)] at hc16 hc20 hc27 hc28 <;> omega
    · refine ik_Wk 1 (pc' := 14) (loc' := [some (.int a1)]) (st' := [.int 0]) (h' := p1_h) (cl' := 0) (sl' := 0) rfl ?_
      refine ik_Wret rfl rfl ⟨_, _, rfl, rfl, ?_⟩
      refine ik_Wk 2 (pc' := 9) (loc' := [some (.ref 0), some (.int a1), some (.int a2)]) (st' := [.int (-1000000001)]) (h' := p1_h) (cl' := 0) (sl' := 0) rfl ?_
      refine ik_Wret rfl rfl ⟨_, _, rfl, rfl, ?_⟩
      refine ik_Wk 11 (pc' := 735) (loc' := [some (.retAddr 0), some (.ref 0), some (.ref 66), some (.int 0)]) (st' := [.int a2, .int a1, .ref 66, .int (-1000000001)]) (h' := p1_h) (cl' := 94) (sl' := 4156) rfl ?_
      refine ik_Wc 97 3 0 [.ref 66, .int a1, .int a2] [.int (-1000000001)] rfl rfl rfl (by decide) rfl rfl rfl ?_
      refine ik_Wk 1 (pc' := 1) (loc' := [some (.ref 66), some (.int a1), some (.int a2), none, none, none, none, none, none]) (st' := [.int a1]) (h' := p1_h) (cl' := 0) (sl' := 0) rfl ?_
      refine ik_Wc 75 1 3 [.int a1] [] rfl rfl rfl (by decide) rfl rfl rfl ?_
      refine ik_Wk 4 (pc' := 4) (loc' := [some (.int a1)]) (st' := [.long 1, .long 0, .long a1.toInt64]) (h' := p1_h) (cl' := 0) (sl' := 0) rfl ?_
      refine ik_Wc 70 3 3 [.long a1.toInt64, .long 0, .long 1] [] rfl rfl rfl (by decide) rfl rfl rfl ?_
      refine ik_Wif 4 (c := (lg_cmp a1.toInt64 (0 : Int64)) < 0) 17 6 (loc' := [some (.long a1.toInt64), none, some (.long 0), none, some (.long 1), none]) (st' := []) (h' := p1_h) (cl' := 0) (sl' := 0) rfl (fun hc29 => ?_) (fun hc29 => ?_)
      · refine ik_Wk 1 (pc' := 18) (loc' := [some (.long a1.toInt64), none, some (.long 0), none, some (.long 1), none]) (st' := [.int 0]) (h' := p1_h) (cl' := 0) (sl' := 0) rfl ?_
        refine ik_Wret rfl rfl ⟨_, _, rfl, rfl, ?_⟩
        refine ik_Wret rfl rfl ⟨_, _, rfl, rfl, ?_⟩
        refine ik_Wk 2 (pc' := 9) (loc' := [some (.ref 66), some (.int a1), some (.int a2), none, none, none, none, none, none]) (st' := [.int (-1000000001)]) (h' := p1_h) (cl' := 0) (sl' := 0) rfl ?_
        refine ik_Wret rfl rfl ⟨_, _, rfl, rfl, ?_⟩
        refine ik_Wk 10 (pc' := 1138) (loc' := [some (.retAddr 0), some (.ref 0), some (.ref 66), some (.int 5)]) (st' := [.int 1]) (h' := p1_h) (cl' := 94) (sl' := 4156) rfl ?_
        exact ik_Wret rfl rfl ⟨rfl, rfl, Nat.le_of_ble_eq_true rfl, Nat.le_of_ble_eq_true rfl⟩
      · refine ik_Wif 4 (c := 0 < (lg_cmp a1.toInt64 (1 : Int64))) 17 13 (loc' := [some (.long a1.toInt64), none, some (.long 0), none, some (.long 1), none]) (st' := []) (h' := p1_h) (cl' := 0) (sl' := 0) rfl (fun hc30 => ?_) (fun hc30 => ?_)
        · refine ik_Wk 1 (pc' := 18) (loc' := [some (.long a1.toInt64), none, some (.long 0), none, some (.long 1), none]) (st' := [.int 0]) (h' := p1_h) (cl' := 0) (sl' := 0) rfl ?_
          refine ik_Wret rfl rfl ⟨_, _, rfl, rfl, ?_⟩
          refine ik_Wret rfl rfl ⟨_, _, rfl, rfl, ?_⟩
          refine ik_Wk 2 (pc' := 9) (loc' := [some (.ref 66), some (.int a1), some (.int a2), none, none, none, none, none, none]) (st' := [.int (-1000000001)]) (h' := p1_h) (cl' := 0) (sl' := 0) rfl ?_
          refine ik_Wret rfl rfl ⟨_, _, rfl, rfl, ?_⟩
          refine ik_Wk 10 (pc' := 1138) (loc' := [some (.retAddr 0), some (.ref 0), some (.ref 66), some (.int 5)]) (st' := [.int 1]) (h' := p1_h) (cl' := 94) (sl' := 4156) rfl ?_
          exact ik_Wret rfl rfl ⟨rfl, rfl, Nat.le_of_ble_eq_true rfl, Nat.le_of_ble_eq_true rfl⟩
        · exfalso
          (try simp only [lg_lt0, lg_gt0] at hc1 hc15 hc29 hc30) <;> simp only [cv_eq, cv_lt, cv_le, cv_64, (show (0 : Int32).toInt = 0 from by decide), (show (0 : Int64).toInt = 0 from by decide), (show (1 : Int32).toInt = 1 from by decide), (show (1 : Int64).toInt = 1 from by decide)] at hc1 hc15 hc29 hc30 <;> omega

set_option maxHeartbeats 16000000 in
set_option maxRecDepth 100000 in
/-- fair on the new objects -/
theorem p1_k20 (a0 a1 a2 a3 a4 : Int32) : ik_W (some (5, p1_f a0 a1 a2 a3 a4)) 0 878 [some (.retAddr 0), some (.ref 0), some (.ref 66), some (.int 0)] [] p1_h 94 4156 p1_post := by
  refine ik_Wk 11 (pc' := 889) (loc' := [some (.retAddr 0), some (.ref 0), some (.ref 66), some (.int 0)]) (st' := [.int a2, .int a1, .ref 0]) (h' := p1_h) (cl' := 94) (sl' := 4156) rfl ?_
  refine ik_Wc 54 3 0 [.ref 0, .int a1, .int a2] [] rfl rfl rfl (by decide) rfl rfl rfl ?_
  refine ik_Wif 2 (c := a1 < 0) 19 4 (loc' := [some (.ref 0), some (.int a1), some (.int a2)]) (st' := []) (h' := p1_h) (cl' := 0) (sl' := 0) rfl (fun hc1 => ?_) (fun hc1 => ?_)
  · refine ik_Wk 1 (pc' := 21) (loc' := [some (.ref 0), some (.int a1), some (.int a2)]) (st' := [.int (-1000000002)]) (h' := p1_h) (cl' := 0) (sl' := 0) rfl ?_
    refine ik_Wret rfl rfl ⟨_, _, rfl, rfl, ?_⟩
    refine ik_Wk 11 (pc' := 903) (loc' := [some (.retAddr 0), some (.ref 0), some (.ref 66), some (.int 0)]) (st' := [.int a2, .int a1, .ref 66, .int (-1000000002)]) (h' := p1_h) (cl' := 94) (sl' := 4156) rfl ?_
    refine ik_Wc 105 3 0 [.ref 66, .int a1, .int a2] [.int (-1000000002)] rfl rfl rfl (by decide) rfl rfl rfl ?_
    refine ik_Wk 4 (pc' := 6) (loc' := [some (.ref 66), some (.int a1), some (.int a2), none]) (st' := [.long 1000000, .long 0, .long a1.toInt64]) (h' := p1_h) (cl' := 0) (sl' := 0) rfl ?_
    refine ik_Wc 70 3 3 [.long a1.toInt64, .long 0, .long 1000000] [] rfl rfl rfl (by decide) rfl rfl rfl ?_
    refine ik_Wif 4 (c := (lg_cmp a1.toInt64 (0 : Int64)) < 0) 17 6 (loc' := [some (.long a1.toInt64), none, some (.long 0), none, some (.long 1000000), none]) (st' := []) (h' := p1_h) (cl' := 0) (sl' := 0) rfl (fun hc2 => ?_) (fun hc2 => ?_)
    · refine ik_Wk 1 (pc' := 18) (loc' := [some (.long a1.toInt64), none, some (.long 0), none, some (.long 1000000), none]) (st' := [.int 0]) (h' := p1_h) (cl' := 0) (sl' := 0) rfl ?_
      refine ik_Wret rfl rfl ⟨_, _, rfl, rfl, ?_⟩
      refine ik_Wk 2 (pc' := 26) (loc' := [some (.ref 66), some (.int a1), some (.int a2), none]) (st' := [.int (-1000000002)]) (h' := p1_h) (cl' := 0) (sl' := 0) rfl ?_
      refine ik_Wret rfl rfl ⟨_, _, rfl, rfl, ?_⟩
      refine ik_Wk 10 (pc' := 1138) (loc' := [some (.retAddr 0), some (.ref 0), some (.ref 66), some (.int 5)]) (st' := [.int 1]) (h' := p1_h) (cl' := 94) (sl' := 4156) rfl ?_
      exact ik_Wret rfl rfl ⟨rfl, rfl, Nat.le_of_ble_eq_true rfl, Nat.le_of_ble_eq_true rfl⟩
    · exfalso
      (try simp only [lg_lt0, lg_gt0] at hc1 hc2) <;> simp only [cv_eq, cv_lt, cv_le, cv_64, (show (0 : Int32).toInt = 0 from by decide), (show (0 : Int64).toInt = 0 from by decide)] at hc1 hc2 <;> omega
  · refine ik_Wif 3 (c := (1000000 : Int32) < a1) 19 10 (loc' := [some (.ref 0), some (.int a1), some (.int a2)]) (st' := []) (h' := p1_h) (cl' := 0) (sl' := 0) rfl (fun hc3 => ?_) (fun hc3 => ?_)
    · refine ik_Wk 1 (pc' := 21) (loc' := [some (.ref 0), some (.int a1), some (.int a2)]) (st' := [.int (-1000000002)]) (h' := p1_h) (cl' := 0) (sl' := 0) rfl ?_
      refine ik_Wret rfl rfl ⟨_, _, rfl, rfl, ?_⟩
      refine ik_Wk 11 (pc' := 903) (loc' := [some (.retAddr 0), some (.ref 0), some (.ref 66), some (.int 0)]) (st' := [.int a2, .int a1, .ref 66, .int (-1000000002)]) (h' := p1_h) (cl' := 94) (sl' := 4156) rfl ?_
      refine ik_Wc 105 3 0 [.ref 66, .int a1, .int a2] [.int (-1000000002)] rfl rfl rfl (by decide) rfl rfl rfl ?_
      refine ik_Wk 4 (pc' := 6) (loc' := [some (.ref 66), some (.int a1), some (.int a2), none]) (st' := [.long 1000000, .long 0, .long a1.toInt64]) (h' := p1_h) (cl' := 0) (sl' := 0) rfl ?_
      refine ik_Wc 70 3 3 [.long a1.toInt64, .long 0, .long 1000000] [] rfl rfl rfl (by decide) rfl rfl rfl ?_
      refine ik_Wif 4 (c := (lg_cmp a1.toInt64 (0 : Int64)) < 0) 17 6 (loc' := [some (.long a1.toInt64), none, some (.long 0), none, some (.long 1000000), none]) (st' := []) (h' := p1_h) (cl' := 0) (sl' := 0) rfl (fun hc4 => ?_) (fun hc4 => ?_)
      · exfalso
        (try simp only [lg_lt0, lg_gt0] at hc1 hc3 hc4) <;> simp only [cv_eq, cv_lt, cv_le, cv_64, (show (0 : Int32).toInt = 0 from by decide), (show (0 : Int64).toInt = 0 from by decide), (show (1000000 : Int32).toInt = 1000000 from by decide), (show (1000000 : Int64).toInt = 1000000 from by decide)] at hc1 hc3 hc4 <;> omega
      · refine ik_Wif 4 (c := 0 < (lg_cmp a1.toInt64 (1000000 : Int64))) 17 13 (loc' := [some (.long a1.toInt64), none, some (.long 0), none, some (.long 1000000), none]) (st' := []) (h' := p1_h) (cl' := 0) (sl' := 0) rfl (fun hc5 => ?_) (fun hc5 => ?_)
        · refine ik_Wk 1 (pc' := 18) (loc' := [some (.long a1.toInt64), none, some (.long 0), none, some (.long 1000000), none]) (st' := [.int 0]) (h' := p1_h) (cl' := 0) (sl' := 0) rfl ?_
          refine ik_Wret rfl rfl ⟨_, _, rfl, rfl, ?_⟩
          refine ik_Wk 2 (pc' := 26) (loc' := [some (.ref 66), some (.int a1), some (.int a2), none]) (st' := [.int (-1000000002)]) (h' := p1_h) (cl' := 0) (sl' := 0) rfl ?_
          refine ik_Wret rfl rfl ⟨_, _, rfl, rfl, ?_⟩
          refine ik_Wk 10 (pc' := 1138) (loc' := [some (.retAddr 0), some (.ref 0), some (.ref 66), some (.int 5)]) (st' := [.int 1]) (h' := p1_h) (cl' := 94) (sl' := 4156) rfl ?_
          exact ik_Wret rfl rfl ⟨rfl, rfl, Nat.le_of_ble_eq_true rfl, Nat.le_of_ble_eq_true rfl⟩
        · exfalso
          (try simp only [lg_lt0, lg_gt0] at hc1 hc3 hc4 hc5) <;> simp only [cv_eq, cv_lt, cv_le, cv_64, (show (0 : Int32).toInt = 0 from by decide), (show (0 : Int64).toInt = 0 from by decide), (show (1000000 : Int32).toInt = 1000000 from by decide), (show (1000000 : Int64).toInt = 1000000 from by decide)] at hc1 hc3 hc4 hc5 <;> omega
    · refine ik_Wif 2 (c := a2 < 0) 19 14 (loc' := [some (.ref 0), some (.int a1), some (.int a2)]) (st' := []) (h' := p1_h) (cl' := 0) (sl' := 0) rfl (fun hc6 => ?_) (fun hc6 => ?_)
      · refine ik_Wk 1 (pc' := 21) (loc' := [some (.ref 0), some (.int a1), some (.int a2)]) (st' := [.int (-1000000002)]) (h' := p1_h) (cl' := 0) (sl' := 0) rfl ?_
        refine ik_Wret rfl rfl ⟨_, _, rfl, rfl, ?_⟩
        refine ik_Wk 11 (pc' := 903) (loc' := [some (.retAddr 0), some (.ref 0), some (.ref 66), some (.int 0)]) (st' := [.int a2, .int a1, .ref 66, .int (-1000000002)]) (h' := p1_h) (cl' := 94) (sl' := 4156) rfl ?_
        refine ik_Wc 105 3 0 [.ref 66, .int a1, .int a2] [.int (-1000000002)] rfl rfl rfl (by decide) rfl rfl rfl ?_
        refine ik_Wk 4 (pc' := 6) (loc' := [some (.ref 66), some (.int a1), some (.int a2), none]) (st' := [.long 1000000, .long 0, .long a1.toInt64]) (h' := p1_h) (cl' := 0) (sl' := 0) rfl ?_
        refine ik_Wc 70 3 3 [.long a1.toInt64, .long 0, .long 1000000] [] rfl rfl rfl (by decide) rfl rfl rfl ?_
        refine ik_Wif 4 (c := (lg_cmp a1.toInt64 (0 : Int64)) < 0) 17 6 (loc' := [some (.long a1.toInt64), none, some (.long 0), none, some (.long 1000000), none]) (st' := []) (h' := p1_h) (cl' := 0) (sl' := 0) rfl (fun hc7 => ?_) (fun hc7 => ?_)
        · exfalso
          (try simp only [lg_lt0, lg_gt0] at hc1 hc3 hc7) <;> simp only [cv_eq, cv_lt, cv_le, cv_64, (show (0 : Int32).toInt = 0 from by decide), (show (0 : Int64).toInt = 0 from by decide), (show (1000000 : Int32).toInt = 1000000 from by decide), (show (1000000 : Int64).toInt = 1000000 from by decide)] at hc1 hc3 hc7 <;> omega
        · refine ik_Wif 4 (c := 0 < (lg_cmp a1.toInt64 (1000000 : Int64))) 17 13 (loc' := [some (.long a1.toInt64), none, some (.long 0), none, some (.long 1000000), none]) (st' := []) (h' := p1_h) (cl' := 0) (sl' := 0) rfl (fun hc8 => ?_) (fun hc8 => ?_)
          · exfalso
            (try simp only [lg_lt0, lg_gt0] at hc1 hc3 hc7 hc8) <;> simp only [cv_eq, cv_lt, cv_le, cv_64, (show (0 : Int32).toInt = 0 from by decide), (show (0 : Int64).toInt = 0 from by decide), (show (1000000 : Int32).toInt = 1000000 from by decide), (show (1000000 : Int64).toInt = 1000000 from by decide)] at hc1 hc3 hc7 hc8 <;> omega
          · refine ik_Wk 2 (pc' := 18) (loc' := [some (.long a1.toInt64), none, some (.long 0), none, some (.long 1000000), none]) (st' := [.int 1]) (h' := p1_h) (cl' := 0) (sl' := 0) rfl ?_
            refine ik_Wret rfl rfl ⟨_, _, rfl, rfl, ?_⟩
            refine ik_Wk 5 (pc' := 18) (loc' := [some (.ref 66), some (.int a1), some (.int a2), none]) (st' := [.long 3, .long 0, .long a2.toInt64]) (h' := p1_h) (cl' := 0) (sl' := 0) rfl ?_
            refine ik_Wc 70 3 3 [.long a2.toInt64, .long 0, .long 3] [] rfl rfl rfl (by decide) rfl rfl rfl ?_
            refine ik_Wif 4 (c := (lg_cmp a2.toInt64 (0 : Int64)) < 0) 17 6 (loc' := [some (.long a2.toInt64), none, some (.long 0), none, some (.long 3), none]) (st' := []) (h' := p1_h) (cl' := 0) (sl' := 0) rfl (fun hc9 => ?_) (fun hc9 => ?_)
            · refine ik_Wk 1 (pc' := 18) (loc' := [some (.long a2.toInt64), none, some (.long 0), none, some (.long 3), none]) (st' := [.int 0]) (h' := p1_h) (cl' := 0) (sl' := 0) rfl ?_
              refine ik_Wret rfl rfl ⟨_, _, rfl, rfl, ?_⟩
              refine ik_Wk 2 (pc' := 26) (loc' := [some (.ref 66), some (.int a1), some (.int a2), none]) (st' := [.int (-1000000002)]) (h' := p1_h) (cl' := 0) (sl' := 0) rfl ?_
              refine ik_Wret rfl rfl ⟨_, _, rfl, rfl, ?_⟩
              refine ik_Wk 10 (pc' := 1138) (loc' := [some (.retAddr 0), some (.ref 0), some (.ref 66), some (.int 5)]) (st' := [.int 1]) (h' := p1_h) (cl' := 94) (sl' := 4156) rfl ?_
              exact ik_Wret rfl rfl ⟨rfl, rfl, Nat.le_of_ble_eq_true rfl, Nat.le_of_ble_eq_true rfl⟩
            · exfalso
              (try simp only [lg_lt0, lg_gt0] at hc6 hc9) <;> simp only [cv_eq, cv_lt, cv_le, cv_64, (show (0 : Int32).toInt = 0 from by decide), (show (0 : Int64).toInt = 0 from by decide), (show (1000000 : Int32).toInt = 1000000 from by decide), (show (1000000 : Int64).toInt = 1000000 from by decide)] at hc6 hc9 <;> omega
      · refine ik_Wif 3 (c := a2 ≤ (3 : Int32)) 22 19 (loc' := [some (.ref 0), some (.int a1), some (.int a2)]) (st' := []) (h' := p1_h) (cl' := 0) (sl' := 0) rfl (fun hc10 => ?_) (fun hc10 => ?_)
        · refine ik_Wk 2 (pc' := 26) (loc' := [some (.ref 0), some (.int a1), some (.int a2)]) (st' := [.ref 7]) (h' := p1_h) (cl' := 0) (sl' := 0) rfl ?_
          refine ik_Wc 7 1 0 [.ref 7] [] rfl rfl rfl (by decide) rfl rfl rfl ?_
          refine ik_Wk 5 (pc' := 13) (loc' := [some (.ref 7)]) (st' := [.int 0]) (h' := p1_h) (cl' := 0) (sl' := 0) rfl ?_
          refine ik_Wret rfl rfl ⟨_, _, rfl, rfl, ?_⟩
          refine ik_Wk 2 (pc' := 34) (loc' := [some (.ref 0), some (.int a1), some (.int a2)]) (st' := [.int (-1000000003)]) (h' := p1_h) (cl' := 0) (sl' := 0) rfl ?_
          refine ik_Wret rfl rfl ⟨_, _, rfl, rfl, ?_⟩
          refine ik_Wk 11 (pc' := 903) (loc' := [some (.retAddr 0), some (.ref 0), some (.ref 66), some (.int 0)]) (st' := [.int a2, .int a1, .ref 66, .int (-1000000003)]) (h' := p1_h) (cl' := 94) (sl' := 4156) rfl ?_
          refine ik_Wc 105 3 0 [.ref 66, .int a1, .int a2] [.int (-1000000003)] rfl rfl rfl (by decide) rfl rfl rfl ?_
          refine ik_Wk 4 (pc' := 6) (loc' := [some (.ref 66), some (.int a1), some (.int a2), none]) (st' := [.long 1000000, .long 0, .long a1.toInt64]) (h' := p1_h) (cl' := 0) (sl' := 0) rfl ?_
          refine ik_Wc 70 3 3 [.long a1.toInt64, .long 0, .long 1000000] [] rfl rfl rfl (by decide) rfl rfl rfl ?_
          refine ik_Wif 4 (c := (lg_cmp a1.toInt64 (0 : Int64)) < 0) 17 6 (loc' := [some (.long a1.toInt64), none, some (.long 0), none, some (.long 1000000), none]) (st' := []) (h' := p1_h) (cl' := 0) (sl' := 0) rfl (fun hc11 => ?_) (fun hc11 => ?_)
          · exfalso
            (try simp only [lg_lt0, lg_gt0] at hc1 hc3 hc11) <;> simp only [cv_eq, cv_lt, cv_le, cv_64, (show (0 : Int32).toInt = 0 from by decide), (show (0 : Int64).toInt = 0 from by decide), (show (3 : Int32).toInt = 3 from by decide), (show (3 : Int64).toInt = 3 from by decide), (show (1000000 : Int32).toInt = 1000000 from by decide), (show (1000000 : Int64).toInt = 1000000 from by decide)] at hc1 hc3 hc11 <;> omega
          · refine ik_Wif 4 (c := 0 < (lg_cmp a1.toInt64 (1000000 : Int64))) 17 13 (loc' := [some (.long a1.toInt64), none, some (.long 0), none, some (.long 1000000), none]) (st' := []) (h' := p1_h) (cl' := 0) (sl' := 0) rfl (fun hc12 => ?_) (fun hc12 => ?_)
            · exfalso
              (try simp only [lg_lt0, lg_gt0] at hc1 hc3 hc11 hc12) <;> simp only [cv_eq, cv_lt, cv_le, cv_64, (show (0 : Int32).toInt = 0 from by decide), (show (0 : Int64).toInt = 0 from by decide), (show (3 : Int32).toInt = 3 from by decide), (show (3 : Int64).toInt = 3 from by decide), (show (1000000 : Int32).toInt = 1000000 from by decide), (show (1000000 : Int64).toInt = 1000000 from by decide)] at hc1 hc3 hc11 hc12 <;> omega
            · refine ik_Wk 2 (pc' := 18) (loc' := [some (.long a1.toInt64), none, some (.long 0), none, some (.long 1000000), none]) (st' := [.int 1]) (h' := p1_h) (cl' := 0) (sl' := 0) rfl ?_
              refine ik_Wret rfl rfl ⟨_, _, rfl, rfl, ?_⟩
              refine ik_Wk 5 (pc' := 18) (loc' := [some (.ref 66), some (.int a1), some (.int a2), none]) (st' := [.long 3, .long 0, .long a2.toInt64]) (h' := p1_h) (cl' := 0) (sl' := 0) rfl ?_
              refine ik_Wc 70 3 3 [.long a2.toInt64, .long 0, .long 3] [] rfl rfl rfl (by decide) rfl rfl rfl ?_
              refine ik_Wif 4 (c := (lg_cmp a2.toInt64 (0 : Int64)) < 0) 17 6 (loc' := [some (.long a2.toInt64), none, some (.long 0), none, some (.long 3), none]) (st' := []) (h' := p1_h) (cl' := 0) (sl' := 0) rfl (fun hc13 => ?_) (fun hc13 => ?_)
              · exfalso
                (try simp only [lg_lt0, lg_gt0] at hc6 hc10 hc13) <;> simp only [cv_eq, cv_lt, cv_le, cv_64, (show (0 : Int32).toInt = 0 from by decide), (show (0 : Int64).toInt = 0 from by decide), (show (3 : Int32).toInt = 3 from by decide), (show (3 : Int64).toInt = 3 from by decide), (show (1000000 : Int32).toInt = 1000000 from by decide), (show (1000000 : Int64).toInt = 1000000 from by decide)] at hc6 hc10 hc13 <;> omega
              · refine ik_Wif 4 (c := 0 < (lg_cmp a2.toInt64 (3 : Int64))) 17 13 (loc' := [some (.long a2.toInt64), none, some (.long 0), none, some (.long 3), none]) (st' := []) (h' := p1_h) (cl' := 0) (sl' := 0) rfl (fun hc14 => ?_) (fun hc14 => ?_)
                · exfalso
                  (try simp only [lg_lt0, lg_gt0] at hc6 hc10 hc13 hc14) <;> simp only [cv_eq, cv_lt, cv_le, cv_64, (show (0 : Int32).toInt = 0 from by decide), (show (0 : Int64).toInt = 0 from by decide), (show (3 : Int32).toInt = 3 from by decide), (show (3 : Int64).toInt = 3 from by decide), (show (1000000 : Int32).toInt = 1000000 from by decide), (show (1000000 : Int64).toInt = 1000000 from by decide)] at hc6 hc10 hc13 hc14 <;> omega
                · refine ik_Wk 2 (pc' := 18) (loc' := [some (.long a2.toInt64), none, some (.long 0), none, some (.long 3), none]) (st' := [.int 1]) (h' := p1_h) (cl' := 0) (sl' := 0) rfl ?_
                  refine ik_Wret rfl rfl ⟨_, _, rfl, rfl, ?_⟩
                  refine ik_Wk 2 (pc' := 28) (loc' := [some (.ref 66), some (.int a1), some (.int a2), none]) (st' := [.ref 66]) (h' := p1_h) (cl' := 0) (sl' := 0) rfl ?_
                  refine ik_Wc 77 1 0 [.ref 66] [] rfl rfl rfl (by decide) rfl rfl rfl ?_
                  refine ik_Wk 5 (pc' := 13) (loc' := [some (.ref 66)]) (st' := [.int 0]) (h' := p1_h) (cl' := 0) (sl' := 0) rfl ?_
                  refine ik_Wret rfl rfl ⟨_, _, rfl, rfl, ?_⟩
                  refine ik_Wk 2 (pc' := 36) (loc' := [some (.ref 66), some (.int a1), some (.int a2), none]) (st' := [.int (-1000000003)]) (h' := p1_h) (cl' := 0) (sl' := 0) rfl ?_
                  refine ik_Wret rfl rfl ⟨_, _, rfl, rfl, ?_⟩
                  refine ik_Wk 10 (pc' := 1138) (loc' := [some (.retAddr 0), some (.ref 0), some (.ref 66), some (.int 5)]) (st' := [.int 1]) (h' := p1_h) (cl' := 94) (sl' := 4156) rfl ?_
                  exact ik_Wret rfl rfl ⟨rfl, rfl, Nat.le_of_ble_eq_true rfl, Nat.le_of_ble_eq_true rfl⟩
        · refine ik_Wk 1 (pc' := 21) (loc' := [some (.ref 0), some (.int a1), some (.int a2)]) (st' := [.int (-1000000002)]) (h' := p1_h) (cl' := 0) (sl' := 0) rfl ?_
          refine ik_Wret rfl rfl ⟨_, _, rfl, rfl, ?_⟩
          refine ik_Wk 11 (pc' := 903) (loc' := [some (.retAddr 0), some (.ref 0), some (.ref 66), some (.int 0)]) (st' := [.int a2, .int a1, .ref 66, .int (-1000000002)]) (h' := p1_h) (cl' := 94) (sl' := 4156) rfl ?_
          refine ik_Wc 105 3 0 [.ref 66, .int a1, .int a2] [.int (-1000000002)] rfl rfl rfl (by decide) rfl rfl rfl ?_
          refine ik_Wk 4 (pc' := 6) (loc' := [some (.ref 66), some (.int a1), some (.int a2), none]) (st' := [.long 1000000, .long 0, .long a1.toInt64]) (h' := p1_h) (cl' := 0) (sl' := 0) rfl ?_
          refine ik_Wc 70 3 3 [.long a1.toInt64, .long 0, .long 1000000] [] rfl rfl rfl (by decide) rfl rfl rfl ?_
          refine ik_Wif 4 (c := (lg_cmp a1.toInt64 (0 : Int64)) < 0) 17 6 (loc' := [some (.long a1.toInt64), none, some (.long 0), none, some (.long 1000000), none]) (st' := []) (h' := p1_h) (cl' := 0) (sl' := 0) rfl (fun hc15 => ?_) (fun hc15 => ?_)
          · exfalso
            (try simp only [lg_lt0, lg_gt0] at hc1 hc3 hc15) <;> simp only [cv_eq, cv_lt, cv_le, cv_64, (show (0 : Int32).toInt = 0 from by decide), (show (0 : Int64).toInt = 0 from by decide), (show (3 : Int32).toInt = 3 from by decide), (show (3 : Int64).toInt = 3 from by decide), (show (1000000 : Int32).toInt = 1000000 from by decide), (show (1000000 : Int64).toInt = 1000000 from by decide)] at hc1 hc3 hc15 <;> omega
          · refine ik_Wif 4 (c := 0 < (lg_cmp a1.toInt64 (1000000 : Int64))) 17 13 (loc' := [some (.long a1.toInt64), none, some (.long 0), none, some (.long 1000000), none]) (st' := []) (h' := p1_h) (cl' := 0) (sl' := 0) rfl (fun hc16 => ?_) (fun hc16 => ?_)
            · exfalso
              (try simp only [lg_lt0, lg_gt0] at hc1 hc3 hc15 hc16) <;> simp only [cv_eq, cv_lt, cv_le, cv_64, (show (0 : Int32).toInt = 0 from by decide), (show (0 : Int64).toInt = 0 from by decide), (show (3 : Int32).toInt = 3 from by decide), (show (3 : Int64).toInt = 3 from by decide), (show (1000000 : Int32).toInt = 1000000 from by decide), (show (1000000 : Int64).toInt = 1000000 from by decide)] at hc1 hc3 hc15 hc16 <;> omega
            · refine ik_Wk 2 (pc' := 18) (loc' := [some (.long a1.toInt64), none, some (.long 0), none, some (.long 1000000), none]) (st' := [.int 1]) (h' := p1_h) (cl' := 0) (sl' := 0) rfl ?_
              refine ik_Wret rfl rfl ⟨_, _, rfl, rfl, ?_⟩
              refine ik_Wk 5 (pc' := 18) (loc' := [some (.ref 66), some (.int a1), some (.int a2), none]) (st' := [.long 3, .long 0, .long a2.toInt64]) (h' := p1_h) (cl' := 0) (sl' := 0) rfl ?_
              refine ik_Wc 70 3 3 [.long a2.toInt64, .long 0, .long 3] [] rfl rfl rfl (by decide) rfl rfl rfl ?_
              refine ik_Wif 4 (c := (lg_cmp a2.toInt64 (0 : Int64)) < 0) 17 6 (loc' := [some (.long a2.toInt64), none, some (.long 0), none, some (.long 3), none]) (st' := []) (h' := p1_h) (cl' := 0) (sl' := 0) rfl (fun hc17 => ?_) (fun hc17 => ?_)
              · exfalso
                (try simp only [lg_lt0, lg_gt0] at hc6 hc10 hc17) <;> simp only [cv_eq, cv_lt, cv_le, cv_64, (show (0 : Int32).toInt = 0 from by decide), (show (0 : Int64).toInt = 0 from by decide), (show (3 : Int32).toInt = 3 from by decide), (show (3 : Int64).toInt = 3 from by decide), (show (1000000 : Int32).toInt = 1000000 from by decide), (show (1000000 : Int64).toInt = 1000000 from by decide)] at hc6 hc10 hc17 <;> omega
              · refine ik_Wif 4 (c := 0 < (lg_cmp a2.toInt64 (3 : Int64))) 17 13 (loc' := [some (.long a2.toInt64), none, some (.long 0), none, some (.long 3), none]) (st' := []) (h' := p1_h) (cl' := 0) (sl' := 0) rfl (fun hc18 => ?_) (fun hc18 => ?_)
                · refine ik_Wk 1 (pc' := 18) (loc' := [some (.long a2.toInt64), none, some (.long 0), none, some (.long 3), none]) (st' := [.int 0]) (h' := p1_h) (cl' := 0) (sl' := 0) rfl ?_
                  refine ik_Wret rfl rfl ⟨_, _, rfl, rfl, ?_⟩
                  refine ik_Wk 2 (pc' := 26) (loc' := [some (.ref 66), some (.int a1), some (.int a2), none]) (st' := [.int (-1000000002)]) (h' := p1_h) (cl' := 0) (sl' := 0) rfl ?_
                  refine ik_Wret rfl rfl ⟨_, _, rfl, rfl, ?_⟩
                  refine ik_Wk 10 (pc' := 1138) (loc' := [some (.retAddr 0), some (.ref 0), some (.ref 66), some (.int 5)]) (st' := [.int 1]) (h' := p1_h) (cl' := 94) (sl' := 4156) rfl ?_
                  exact ik_Wret rfl rfl ⟨rfl, rfl, Nat.le_of_ble_eq_true rfl, Nat.le_of_ble_eq_true rfl⟩
                · exfalso
                  (try simp only [lg_lt0, lg_gt0] at hc6 hc10 hc17 hc18) <;> simp only [cv_eq, cv_lt, cv_le, cv_64, (show (0 : Int32).toInt = 0 from by decide), (show (0 : Int64).toInt = 0 from by decide), (show (3 : Int32).toInt = 3 from by decide), (show (3 : Int64).toInt = 3 from by decide), (show (1000000 : Int32).toInt = 1000000 from by decide), (show (1000000 : Int64).toInt = 1000000 from by decide)] at hc6 hc10 hc17 hc18 <;> omega

set_option maxHeartbeats 16000000 in
set_option maxRecDepth 100000 in
/-- drift on the new objects -/
theorem p1_k21 (a0 a1 a2 a3 a4 : Int32) : ik_W (some (5, p1_f a0 a1 a2 a3 a4)) 0 911 [some (.retAddr 0), some (.ref 0), some (.ref 66), some (.int 0)] [] p1_h 94 4156 p1_post := by
  refine ik_Wk 6 (pc' := 917) (loc' := [some (.retAddr 0), some (.ref 0), some (.ref 66), some (.int 0)]) (st' := [.int a1, .ref 0]) (h' := p1_h) (cl' := 94) (sl' := 4156) rfl ?_
  refine ik_Wc 55 2 0 [.ref 0, .int a1] [] rfl rfl rfl (by decide) rfl rfl rfl ?_
  refine ik_Wif 3 (c := a1 < (1 : Int32)) 12 5 (loc' := [some (.ref 0), some (.int a1)]) (st' := []) (h' := p1_h) (cl' := 0) (sl' := 0) rfl (fun hc1 => ?_) (fun hc1 => ?_)
  · refine ik_Wk 1 (pc' := 14) (loc' := [some (.ref 0), some (.int a1)]) (st' := [.int (-1000000002)]) (h' := p1_h) (cl' := 0) (sl' := 0) rfl ?_
    refine ik_Wret rfl rfl ⟨_, _, rfl, rfl, ?_⟩
    refine ik_Wk 6 (pc' := 926) (loc' := [some (.retAddr 0), some (.ref 0), some (.ref 66), some (.int 0)]) (st' := [.int a1, .ref 66, .int (-1000000002)]) (h' := p1_h) (cl' := 94) (sl' := 4156) rfl ?_
    refine ik_Wc 107 2 0 [.ref 66, .int a1] [.int (-1000000002)] rfl rfl rfl (by decide) rfl rfl rfl ?_
    refine ik_Wk 4 (pc' := 6) (loc' := [some (.ref 66), some (.int a1)]) (st' := [.long 200, .long 1, .long a1.toInt64]) (h' := p1_h) (cl' := 0) (sl' := 0) rfl ?_
    refine ik_Wc 70 3 3 [.long a1.toInt64, .long 1, .long 200] [] rfl rfl rfl (by decide) rfl rfl rfl ?_
    refine ik_Wif 4 (c := (lg_cmp a1.toInt64 (1 : Int64)) < 0) 17 6 (loc' := [some (.long a1.toInt64), none, some (.long 1), none, some (.long 200), none]) (st' := []) (h' := p1_h) (cl' := 0) (sl' := 0) rfl (fun hc2 => ?_) (fun hc2 => ?_)
    · refine ik_Wk 1 (pc' := 18) (loc' := [some (.long a1.toInt64), none, some (.long 1), none, some (.long 200), none]) (st' := [.int 0]) (h' := p1_h) (cl' := 0) (sl' := 0) rfl ?_
      refine ik_Wret rfl rfl ⟨_, _, rfl, rfl, ?_⟩
      refine ik_Wk 2 (pc' := 14) (loc' := [some (.ref 66), some (.int a1)]) (st' := [.int (-1000000002)]) (h' := p1_h) (cl' := 0) (sl' := 0) rfl ?_
      refine ik_Wret rfl rfl ⟨_, _, rfl, rfl, ?_⟩
      refine ik_Wk 10 (pc' := 1138) (loc' := [some (.retAddr 0), some (.ref 0), some (.ref 66), some (.int 5)]) (st' := [.int 1]) (h' := p1_h) (cl' := 94) (sl' := 4156) rfl ?_
      exact ik_Wret rfl rfl ⟨rfl, rfl, Nat.le_of_ble_eq_true rfl, Nat.le_of_ble_eq_true rfl⟩
    · exfalso
      (try simp only [lg_lt0, lg_gt0] at hc1 hc2) <;> simp only [cv_eq, cv_lt, cv_le, cv_64, (show (0 : Int32).toInt = 0 from by decide), (show (0 : Int64).toInt = 0 from by decide), (show (1 : Int32).toInt = 1 from by decide), (show (1 : Int64).toInt = 1 from by decide)] at hc1 hc2 <;> omega
  · refine ik_Wif 3 (c := a1 ≤ (200 : Int32)) 15 12 (loc' := [some (.ref 0), some (.int a1)]) (st' := []) (h' := p1_h) (cl' := 0) (sl' := 0) rfl (fun hc3 => ?_) (fun hc3 => ?_)
    · refine ik_Wk 2 (pc' := 19) (loc' := [some (.ref 0), some (.int a1)]) (st' := [.ref 7]) (h' := p1_h) (cl' := 0) (sl' := 0) rfl ?_
      refine ik_Wc 7 1 0 [.ref 7] [] rfl rfl rfl (by decide) rfl rfl rfl ?_
      refine ik_Wk 5 (pc' := 13) (loc' := [some (.ref 7)]) (st' := [.int 0]) (h' := p1_h) (cl' := 0) (sl' := 0) rfl ?_
      refine ik_Wret rfl rfl ⟨_, _, rfl, rfl, ?_⟩
      refine ik_Wk 2 (pc' := 27) (loc' := [some (.ref 0), some (.int a1)]) (st' := [.int (-1000000003)]) (h' := p1_h) (cl' := 0) (sl' := 0) rfl ?_
      refine ik_Wret rfl rfl ⟨_, _, rfl, rfl, ?_⟩
      refine ik_Wk 6 (pc' := 926) (loc' := [some (.retAddr 0), some (.ref 0), some (.ref 66), some (.int 0)]) (st' := [.int a1, .ref 66, .int (-1000000003)]) (h' := p1_h) (cl' := 94) (sl' := 4156) rfl ?_
      refine ik_Wc 107 2 0 [.ref 66, .int a1] [.int (-1000000003)] rfl rfl rfl (by decide) rfl rfl rfl ?_
      refine ik_Wk 4 (pc' := 6) (loc' := [some (.ref 66), some (.int a1)]) (st' := [.long 200, .long 1, .long a1.toInt64]) (h' := p1_h) (cl' := 0) (sl' := 0) rfl ?_
      refine ik_Wc 70 3 3 [.long a1.toInt64, .long 1, .long 200] [] rfl rfl rfl (by decide) rfl rfl rfl ?_
      refine ik_Wif 4 (c := (lg_cmp a1.toInt64 (1 : Int64)) < 0) 17 6 (loc' := [some (.long a1.toInt64), none, some (.long 1), none, some (.long 200), none]) (st' := []) (h' := p1_h) (cl' := 0) (sl' := 0) rfl (fun hc4 => ?_) (fun hc4 => ?_)
      · exfalso
        (try simp only [lg_lt0, lg_gt0] at hc1 hc3 hc4) <;> simp only [cv_eq, cv_lt, cv_le, cv_64, (show (0 : Int32).toInt = 0 from by decide), (show (0 : Int64).toInt = 0 from by decide), (show (1 : Int32).toInt = 1 from by decide), (show (1 : Int64).toInt = 1 from by decide), (show (200 : Int32).toInt = 200 from by decide), (show (200 : Int64).toInt = 200 from by decide)] at hc1 hc3 hc4 <;> omega
      · refine ik_Wif 4 (c := 0 < (lg_cmp a1.toInt64 (200 : Int64))) 17 13 (loc' := [some (.long a1.toInt64), none, some (.long 1), none, some (.long 200), none]) (st' := []) (h' := p1_h) (cl' := 0) (sl' := 0) rfl (fun hc5 => ?_) (fun hc5 => ?_)
        · exfalso
          (try simp only [lg_lt0, lg_gt0] at hc1 hc3 hc4 hc5) <;> simp only [cv_eq, cv_lt, cv_le, cv_64, (show (0 : Int32).toInt = 0 from by decide), (show (0 : Int64).toInt = 0 from by decide), (show (1 : Int32).toInt = 1 from by decide), (show (1 : Int64).toInt = 1 from by decide), (show (200 : Int32).toInt = 200 from by decide), (show (200 : Int64).toInt = 200 from by decide)] at hc1 hc3 hc4 hc5 <;> omega
        · refine ik_Wk 2 (pc' := 18) (loc' := [some (.long a1.toInt64), none, some (.long 1), none, some (.long 200), none]) (st' := [.int 1]) (h' := p1_h) (cl' := 0) (sl' := 0) rfl ?_
          refine ik_Wret rfl rfl ⟨_, _, rfl, rfl, ?_⟩
          refine ik_Wk 2 (pc' := 16) (loc' := [some (.ref 66), some (.int a1)]) (st' := [.ref 66]) (h' := p1_h) (cl' := 0) (sl' := 0) rfl ?_
          refine ik_Wc 77 1 0 [.ref 66] [] rfl rfl rfl (by decide) rfl rfl rfl ?_
          refine ik_Wk 5 (pc' := 13) (loc' := [some (.ref 66)]) (st' := [.int 0]) (h' := p1_h) (cl' := 0) (sl' := 0) rfl ?_
          refine ik_Wret rfl rfl ⟨_, _, rfl, rfl, ?_⟩
          refine ik_Wk 2 (pc' := 32) (loc' := [some (.ref 66), some (.int a1)]) (st' := [.int (-1000000003)]) (h' := p1_h) (cl' := 0) (sl' := 0) rfl ?_
          refine ik_Wret rfl rfl ⟨_, _, rfl, rfl, ?_⟩
          refine ik_Wk 10 (pc' := 1138) (loc' := [some (.retAddr 0), some (.ref 0), some (.ref 66), some (.int 5)]) (st' := [.int 1]) (h' := p1_h) (cl' := 94) (sl' := 4156) rfl ?_
          exact ik_Wret rfl rfl ⟨rfl, rfl, Nat.le_of_ble_eq_true rfl, Nat.le_of_ble_eq_true rfl⟩
    · refine ik_Wk 1 (pc' := 14) (loc' := [some (.ref 0), some (.int a1)]) (st' := [.int (-1000000002)]) (h' := p1_h) (cl' := 0) (sl' := 0) rfl ?_
      refine ik_Wret rfl rfl ⟨_, _, rfl, rfl, ?_⟩
      refine ik_Wk 6 (pc' := 926) (loc' := [some (.retAddr 0), some (.ref 0), some (.ref 66), some (.int 0)]) (st' := [.int a1, .ref 66, .int (-1000000002)]) (h' := p1_h) (cl' := 94) (sl' := 4156) rfl ?_
      refine ik_Wc 107 2 0 [.ref 66, .int a1] [.int (-1000000002)] rfl rfl rfl (by decide) rfl rfl rfl ?_
      refine ik_Wk 4 (pc' := 6) (loc' := [some (.ref 66), some (.int a1)]) (st' := [.long 200, .long 1, .long a1.toInt64]) (h' := p1_h) (cl' := 0) (sl' := 0) rfl ?_
      refine ik_Wc 70 3 3 [.long a1.toInt64, .long 1, .long 200] [] rfl rfl rfl (by decide) rfl rfl rfl ?_
      refine ik_Wif 4 (c := (lg_cmp a1.toInt64 (1 : Int64)) < 0) 17 6 (loc' := [some (.long a1.toInt64), none, some (.long 1), none, some (.long 200), none]) (st' := []) (h' := p1_h) (cl' := 0) (sl' := 0) rfl (fun hc6 => ?_) (fun hc6 => ?_)
      · exfalso
        (try simp only [lg_lt0, lg_gt0] at hc1 hc3 hc6) <;> simp only [cv_eq, cv_lt, cv_le, cv_64, (show (0 : Int32).toInt = 0 from by decide), (show (0 : Int64).toInt = 0 from by decide), (show (1 : Int32).toInt = 1 from by decide), (show (1 : Int64).toInt = 1 from by decide), (show (200 : Int32).toInt = 200 from by decide), (show (200 : Int64).toInt = 200 from by decide)] at hc1 hc3 hc6 <;> omega
      · refine ik_Wif 4 (c := 0 < (lg_cmp a1.toInt64 (200 : Int64))) 17 13 (loc' := [some (.long a1.toInt64), none, some (.long 1), none, some (.long 200), none]) (st' := []) (h' := p1_h) (cl' := 0) (sl' := 0) rfl (fun hc7 => ?_) (fun hc7 => ?_)
        · refine ik_Wk 1 (pc' := 18) (loc' := [some (.long a1.toInt64), none, some (.long 1), none, some (.long 200), none]) (st' := [.int 0]) (h' := p1_h) (cl' := 0) (sl' := 0) rfl ?_
          refine ik_Wret rfl rfl ⟨_, _, rfl, rfl, ?_⟩
          refine ik_Wk 2 (pc' := 14) (loc' := [some (.ref 66), some (.int a1)]) (st' := [.int (-1000000002)]) (h' := p1_h) (cl' := 0) (sl' := 0) rfl ?_
          refine ik_Wret rfl rfl ⟨_, _, rfl, rfl, ?_⟩
          refine ik_Wk 10 (pc' := 1138) (loc' := [some (.retAddr 0), some (.ref 0), some (.ref 66), some (.int 5)]) (st' := [.int 1]) (h' := p1_h) (cl' := 94) (sl' := 4156) rfl ?_
          exact ik_Wret rfl rfl ⟨rfl, rfl, Nat.le_of_ble_eq_true rfl, Nat.le_of_ble_eq_true rfl⟩
        · exfalso
          (try simp only [lg_lt0, lg_gt0] at hc1 hc3 hc6 hc7) <;> simp only [cv_eq, cv_lt, cv_le, cv_64, (show (0 : Int32).toInt = 0 from by decide), (show (0 : Int64).toInt = 0 from by decide), (show (1 : Int32).toInt = 1 from by decide), (show (1 : Int64).toInt = 1 from by decide), (show (200 : Int32).toInt = 200 from by decide), (show (200 : Int64).toInt = 200 from by decide)] at hc1 hc3 hc6 hc7 <;> omega

set_option maxHeartbeats 16000000 in
set_option maxRecDepth 100000 in
/-- where on the new objects -/
theorem p1_k22 (a0 a1 a2 a3 a4 : Int32) : ik_W (some (5, p1_f a0 a1 a2 a3 a4)) 0 934 [some (.retAddr 0), some (.ref 0), some (.ref 66), some (.int 0)] [] p1_h 94 4156 p1_post := by
  rcases p1_sp2 a1 (0) (1) with rfl | rfl | hs1
  · refine ik_Wk 6 (pc' := 940) (loc' := [some (.retAddr 0), some (.ref 0), some (.ref 66), some (.int 0)]) (st' := [.int 0, .ref 0]) (h' := p1_h) (cl' := 94) (sl' := 4156) rfl ?_
    refine ik_Wce 56 2 0 [.ref 0, .int 0] [] _ [.int (-1000000003)] p1_r27 rfl rfl rfl (by decide) rfl rfl rfl rfl rfl ?_
    refine ik_Wk 6 (pc' := 949) (loc' := [some (.retAddr 0), some (.ref 0), some (.ref 66), some (.int 0)]) (st' := [.int 0, .ref 66, .int (-1000000003)]) (h' := p1_h) (cl' := 94) (sl' := 4156) rfl ?_
    refine ik_Wce 108 2 0 [.ref 66, .int 0] [.int (-1000000003)] _ [.int (-1000000003)] p1_r28 rfl rfl rfl (by decide) rfl rfl rfl rfl rfl ?_
    refine ik_Wk 10 (pc' := 1138) (loc' := [some (.retAddr 0), some (.ref 0), some (.ref 66), some (.int 5)]) (st' := [.int 1]) (h' := p1_h) (cl' := 94) (sl' := 4156) rfl ?_
    exact ik_Wret rfl rfl ⟨rfl, rfl, Nat.le_of_ble_eq_true rfl, Nat.le_of_ble_eq_true rfl⟩
  · refine ik_Wk 6 (pc' := 940) (loc' := [some (.retAddr 0), some (.ref 0), some (.ref 66), some (.int 0)]) (st' := [.int 1, .ref 0]) (h' := p1_h) (cl' := 94) (sl' := 4156) rfl ?_
    refine ik_Wce 56 2 0 [.ref 0, .int 1] [] _ [.int (-1000000003)] p1_r29 rfl rfl rfl (by decide) rfl rfl rfl rfl rfl ?_
    refine ik_Wk 6 (pc' := 949) (loc' := [some (.retAddr 0), some (.ref 0), some (.ref 66), some (.int 0)]) (st' := [.int 1, .ref 66, .int (-1000000003)]) (h' := p1_h) (cl' := 94) (sl' := 4156) rfl ?_
    refine ik_Wce 108 2 0 [.ref 66, .int 1] [.int (-1000000003)] _ [.int (-1000000003)] p1_r30 rfl rfl rfl (by decide) rfl rfl rfl rfl rfl ?_
    refine ik_Wk 10 (pc' := 1138) (loc' := [some (.retAddr 0), some (.ref 0), some (.ref 66), some (.int 5)]) (st' := [.int 1]) (h' := p1_h) (cl' := 94) (sl' := 4156) rfl ?_
    exact ik_Wret rfl rfl ⟨rfl, rfl, Nat.le_of_ble_eq_true rfl, Nat.le_of_ble_eq_true rfl⟩
  · obtain ⟨hs1_0, hs1_1⟩ := hs1
    refine ik_Wk 6 (pc' := 940) (loc' := [some (.retAddr 0), some (.ref 0), some (.ref 66), some (.int 0)]) (st' := [.int a1, .ref 0]) (h' := p1_h) (cl' := 94) (sl' := 4156) rfl ?_
    refine ik_Wc 56 2 0 [.ref 0, .int a1] [] rfl rfl rfl (by decide) rfl rfl rfl ?_
    refine ik_Wk 1 (pc' := 1) (loc' := [some (.ref 0), some (.int a1)]) (st' := [.int a1]) (h' := p1_h) (cl' := 0) (sl' := 0) rfl ?_
    refine ik_Wc 65 1 3 [.int a1] [] rfl rfl rfl (by decide) rfl rfl rfl ?_
    refine ik_Wif 2 (c := a1 = 0) 9 4 (loc' := [some (.int a1)]) (st' := []) (h' := p1_h) (cl' := 0) (sl' := 0) rfl (fun hc2 => ?_) (fun hc2 => ?_)
    · exfalso
      (try simp only [lg_lt0, lg_gt0] at hs1_0 hs1_1 hc2) <;> simp only [cv_eq, cv_lt, cv_le, cv_64, (show (0 : Int32).toInt = 0 from by decide), (show (0 : Int64).toInt = 0 from by decide), (show (1 : Int32).toInt = 1 from by decide), (show (1 : Int64).toInt = 1 from by decide)] at hs1_0 hs1_1 hc2 <;> omega
    · refine ik_Wif 3 (c := a1 = (1 : Int32)) 9 13 (loc' := [some (.int a1)]) (st' := []) (h' := p1_h) (cl' := 0) (sl' := 0) rfl (fun hc3 => ?_) (fun hc3 => ?_)
      · exfalso
        (try simp only [lg_lt0, lg_gt0] at hs1_0 hs1_1 hc2 hc3) <;> simp only [cv_eq, cv_lt, cv_le, cv_64, (show (0 : Int32).toInt = 0 from by decide), (show (0 : Int64).toInt = 0 from by decide), (show (1 : Int32).toInt = 1 from by decide), (show (1 : Int64).toInt = 1 from by decide)] at hs1_0 hs1_1 hc2 hc3 <;> omega
      · refine ik_Wk 1 (pc' := 14) (loc' := [some (.int a1)]) (st' := [.int 0]) (h' := p1_h) (cl' := 0) (sl' := 0) rfl ?_
        refine ik_Wret rfl rfl ⟨_, _, rfl, rfl, ?_⟩
        refine ik_Wk 2 (pc' := 9) (loc' := [some (.ref 0), some (.int a1)]) (st' := [.int (-1000000001)]) (h' := p1_h) (cl' := 0) (sl' := 0) rfl ?_
        refine ik_Wret rfl rfl ⟨_, _, rfl, rfl, ?_⟩
        refine ik_Wk 6 (pc' := 949) (loc' := [some (.retAddr 0), some (.ref 0), some (.ref 66), some (.int 0)]) (st' := [.int a1, .ref 66, .int (-1000000001)]) (h' := p1_h) (cl' := 94) (sl' := 4156) rfl ?_
        refine ik_Wc 108 2 0 [.ref 66, .int a1] [.int (-1000000001)] rfl rfl rfl (by decide) rfl rfl rfl ?_
        refine ik_Wk 1 (pc' := 1) (loc' := [some (.ref 66), some (.int a1)]) (st' := [.int a1]) (h' := p1_h) (cl' := 0) (sl' := 0) rfl ?_
        refine ik_Wc 75 1 3 [.int a1] [] rfl rfl rfl (by decide) rfl rfl rfl ?_
        refine ik_Wk 4 (pc' := 4) (loc' := [some (.int a1)]) (st' := [.long 1, .long 0, .long a1.toInt64]) (h' := p1_h) (cl' := 0) (sl' := 0) rfl ?_
        refine ik_Wc 70 3 3 [.long a1.toInt64, .long 0, .long 1] [] rfl rfl rfl (by decide) rfl rfl rfl ?_
        refine ik_Wif 4 (c := (lg_cmp a1.toInt64 (0 : Int64)) < 0) 17 6 (loc' := [some (.long a1.toInt64), none, some (.long 0), none, some (.long 1), none]) (st' := []) (h' := p1_h) (cl' := 0) (sl' := 0) rfl (fun hc4 => ?_) (fun hc4 => ?_)
        · refine ik_Wk 1 (pc' := 18) (loc' := [some (.long a1.toInt64), none, some (.long 0), none, some (.long 1), none]) (st' := [.int 0]) (h' := p1_h) (cl' := 0) (sl' := 0) rfl ?_
          refine ik_Wret rfl rfl ⟨_, _, rfl, rfl, ?_⟩
          refine ik_Wret rfl rfl ⟨_, _, rfl, rfl, ?_⟩
          refine ik_Wk 2 (pc' := 9) (loc' := [some (.ref 66), some (.int a1)]) (st' := [.int (-1000000001)]) (h' := p1_h) (cl' := 0) (sl' := 0) rfl ?_
          refine ik_Wret rfl rfl ⟨_, _, rfl, rfl, ?_⟩
          refine ik_Wk 10 (pc' := 1138) (loc' := [some (.retAddr 0), some (.ref 0), some (.ref 66), some (.int 5)]) (st' := [.int 1]) (h' := p1_h) (cl' := 94) (sl' := 4156) rfl ?_
          exact ik_Wret rfl rfl ⟨rfl, rfl, Nat.le_of_ble_eq_true rfl, Nat.le_of_ble_eq_true rfl⟩
        · refine ik_Wif 4 (c := 0 < (lg_cmp a1.toInt64 (1 : Int64))) 17 13 (loc' := [some (.long a1.toInt64), none, some (.long 0), none, some (.long 1), none]) (st' := []) (h' := p1_h) (cl' := 0) (sl' := 0) rfl (fun hc5 => ?_) (fun hc5 => ?_)
          · refine ik_Wk 1 (pc' := 18) (loc' := [some (.long a1.toInt64), none, some (.long 0), none, some (.long 1), none]) (st' := [.int 0]) (h' := p1_h) (cl' := 0) (sl' := 0) rfl ?_
            refine ik_Wret rfl rfl ⟨_, _, rfl, rfl, ?_⟩
            refine ik_Wret rfl rfl ⟨_, _, rfl, rfl, ?_⟩
            refine ik_Wk 2 (pc' := 9) (loc' := [some (.ref 66), some (.int a1)]) (st' := [.int (-1000000001)]) (h' := p1_h) (cl' := 0) (sl' := 0) rfl ?_
            refine ik_Wret rfl rfl ⟨_, _, rfl, rfl, ?_⟩
            refine ik_Wk 10 (pc' := 1138) (loc' := [some (.retAddr 0), some (.ref 0), some (.ref 66), some (.int 5)]) (st' := [.int 1]) (h' := p1_h) (cl' := 94) (sl' := 4156) rfl ?_
            exact ik_Wret rfl rfl ⟨rfl, rfl, Nat.le_of_ble_eq_true rfl, Nat.le_of_ble_eq_true rfl⟩
          · exfalso
            (try simp only [lg_lt0, lg_gt0] at hs1_0 hs1_1 hc2 hc3 hc4 hc5) <;> simp only [cv_eq, cv_lt, cv_le, cv_64, (show (0 : Int32).toInt = 0 from by decide), (show (0 : Int64).toInt = 0 from by decide), (show (1 : Int32).toInt = 1 from by decide), (show (1 : Int64).toInt = 1 from by decide)] at hs1_0 hs1_1 hc2 hc3 hc4 hc5 <;> omega

set_option maxHeartbeats 16000000 in
set_option maxRecDepth 100000 in
/-- morning on the new objects -/
theorem p1_k24 (a0 a1 a2 a3 a4 : Int32) : ik_W (some (5, p1_f a0 a1 a2 a3 a4)) 0 970 [some (.retAddr 0), some (.ref 0), some (.ref 66), some (.int 0)] [] p1_h 94 4156 p1_post := by
  refine ik_Wk 6 (pc' := 976) (loc' := [some (.retAddr 0), some (.ref 0), some (.ref 66), some (.int 0)]) (st' := [.int a1, .ref 0]) (h' := p1_h) (cl' := 94) (sl' := 4156) rfl ?_
  refine ik_Wc 58 2 0 [.ref 0, .int a1] [] rfl rfl rfl (by decide) rfl rfl rfl ?_
  refine ik_Wif 3 (c := a1 < (1 : Int32)) 11 5 (loc' := [some (.ref 0), some (.int a1)]) (st' := []) (h' := p1_h) (cl' := 0) (sl' := 0) rfl (fun hc1 => ?_) (fun hc1 => ?_)
  · refine ik_Wk 1 (pc' := 13) (loc' := [some (.ref 0), some (.int a1)]) (st' := [.int (-1000000002)]) (h' := p1_h) (cl' := 0) (sl' := 0) rfl ?_
    refine ik_Wret rfl rfl ⟨_, _, rfl, rfl, ?_⟩
    refine ik_Wk 6 (pc' := 985) (loc' := [some (.retAddr 0), some (.ref 0), some (.ref 66), some (.int 0)]) (st' := [.int a1, .ref 66, .int (-1000000002)]) (h' := p1_h) (cl' := 94) (sl' := 4156) rfl ?_
    refine ik_Wc 110 2 0 [.ref 66, .int a1] [.int (-1000000002)] rfl rfl rfl (by decide) rfl rfl rfl ?_
    refine ik_Wk 4 (pc' := 6) (loc' := [some (.ref 66), some (.int a1), none, none, none, none, none]) (st' := [.long 40, .long 1, .long a1.toInt64]) (h' := p1_h) (cl' := 0) (sl' := 0) rfl ?_
    refine ik_Wc 70 3 3 [.long a1.toInt64, .long 1, .long 40] [] rfl rfl rfl (by decide) rfl rfl rfl ?_
    refine ik_Wif 4 (c := (lg_cmp a1.toInt64 (1 : Int64)) < 0) 17 6 (loc' := [some (.long a1.toInt64), none, some (.long 1), none, some (.long 40), none]) (st' := []) (h' := p1_h) (cl' := 0) (sl' := 0) rfl (fun hc2 => ?_) (fun hc2 => ?_)
    · refine ik_Wk 1 (pc' := 18) (loc' := [some (.long a1.toInt64), none, some (.long 1), none, some (.long 40), none]) (st' := [.int 0]) (h' := p1_h) (cl' := 0) (sl' := 0) rfl ?_
      refine ik_Wret rfl rfl ⟨_, _, rfl, rfl, ?_⟩
      refine ik_Wk 2 (pc' := 14) (loc' := [some (.ref 66), some (.int a1), none, none, none, none, none]) (st' := [.int (-1000000002)]) (h' := p1_h) (cl' := 0) (sl' := 0) rfl ?_
      refine ik_Wret rfl rfl ⟨_, _, rfl, rfl, ?_⟩
      refine ik_Wk 10 (pc' := 1138) (loc' := [some (.retAddr 0), some (.ref 0), some (.ref 66), some (.int 5)]) (st' := [.int 1]) (h' := p1_h) (cl' := 94) (sl' := 4156) rfl ?_
      exact ik_Wret rfl rfl ⟨rfl, rfl, Nat.le_of_ble_eq_true rfl, Nat.le_of_ble_eq_true rfl⟩
    · exfalso
      (try simp only [lg_lt0, lg_gt0] at hc1 hc2) <;> simp only [cv_eq, cv_lt, cv_le, cv_64, (show (0 : Int32).toInt = 0 from by decide), (show (0 : Int64).toInt = 0 from by decide), (show (1 : Int32).toInt = 1 from by decide), (show (1 : Int64).toInt = 1 from by decide)] at hc1 hc2 <;> omega
  · refine ik_Wif 3 (c := a1 ≤ (40 : Int32)) 14 11 (loc' := [some (.ref 0), some (.int a1)]) (st' := []) (h' := p1_h) (cl' := 0) (sl' := 0) rfl (fun hc3 => ?_) (fun hc3 => ?_)
    · refine ik_Wk 2 (pc' := 18) (loc' := [some (.ref 0), some (.int a1)]) (st' := [.ref 7]) (h' := p1_h) (cl' := 0) (sl' := 0) rfl ?_
      refine ik_Wc 7 1 0 [.ref 7] [] rfl rfl rfl (by decide) rfl rfl rfl ?_
      refine ik_Wk 5 (pc' := 13) (loc' := [some (.ref 7)]) (st' := [.int 0]) (h' := p1_h) (cl' := 0) (sl' := 0) rfl ?_
      refine ik_Wret rfl rfl ⟨_, _, rfl, rfl, ?_⟩
      refine ik_Wk 2 (pc' := 26) (loc' := [some (.ref 0), some (.int a1)]) (st' := [.int (-1000000003)]) (h' := p1_h) (cl' := 0) (sl' := 0) rfl ?_
      refine ik_Wret rfl rfl ⟨_, _, rfl, rfl, ?_⟩
      refine ik_Wk 6 (pc' := 985) (loc' := [some (.retAddr 0), some (.ref 0), some (.ref 66), some (.int 0)]) (st' := [.int a1, .ref 66, .int (-1000000003)]) (h' := p1_h) (cl' := 94) (sl' := 4156) rfl ?_
      refine ik_Wc 110 2 0 [.ref 66, .int a1] [.int (-1000000003)] rfl rfl rfl (by decide) rfl rfl rfl ?_
      refine ik_Wk 4 (pc' := 6) (loc' := [some (.ref 66), some (.int a1), none, none, none, none, none]) (st' := [.long 40, .long 1, .long a1.toInt64]) (h' := p1_h) (cl' := 0) (sl' := 0) rfl ?_
      refine ik_Wc 70 3 3 [.long a1.toInt64, .long 1, .long 40] [] rfl rfl rfl (by decide) rfl rfl rfl ?_
      refine ik_Wif 4 (c := (lg_cmp a1.toInt64 (1 : Int64)) < 0) 17 6 (loc' := [some (.long a1.toInt64), none, some (.long 1), none, some (.long 40), none]) (st' := []) (h' := p1_h) (cl' := 0) (sl' := 0) rfl (fun hc4 => ?_) (fun hc4 => ?_)
      · exfalso
        (try simp only [lg_lt0, lg_gt0] at hc1 hc3 hc4) <;> simp only [cv_eq, cv_lt, cv_le, cv_64, (show (0 : Int32).toInt = 0 from by decide), (show (0 : Int64).toInt = 0 from by decide), (show (1 : Int32).toInt = 1 from by decide), (show (1 : Int64).toInt = 1 from by decide), (show (40 : Int32).toInt = 40 from by decide), (show (40 : Int64).toInt = 40 from by decide)] at hc1 hc3 hc4 <;> omega
      · refine ik_Wif 4 (c := 0 < (lg_cmp a1.toInt64 (40 : Int64))) 17 13 (loc' := [some (.long a1.toInt64), none, some (.long 1), none, some (.long 40), none]) (st' := []) (h' := p1_h) (cl' := 0) (sl' := 0) rfl (fun hc5 => ?_) (fun hc5 => ?_)
        · exfalso
          (try simp only [lg_lt0, lg_gt0] at hc1 hc3 hc4 hc5) <;> simp only [cv_eq, cv_lt, cv_le, cv_64, (show (0 : Int32).toInt = 0 from by decide), (show (0 : Int64).toInt = 0 from by decide), (show (1 : Int32).toInt = 1 from by decide), (show (1 : Int64).toInt = 1 from by decide), (show (40 : Int32).toInt = 40 from by decide), (show (40 : Int64).toInt = 40 from by decide)] at hc1 hc3 hc4 hc5 <;> omega
        · refine ik_Wk 2 (pc' := 18) (loc' := [some (.long a1.toInt64), none, some (.long 1), none, some (.long 40), none]) (st' := [.int 1]) (h' := p1_h) (cl' := 0) (sl' := 0) rfl ?_
          refine ik_Wret rfl rfl ⟨_, _, rfl, rfl, ?_⟩
          refine ik_Wk 2 (pc' := 16) (loc' := [some (.ref 66), some (.int a1), none, none, none, none, none]) (st' := [.ref 66]) (h' := p1_h) (cl' := 0) (sl' := 0) rfl ?_
          refine ik_Wc 77 1 0 [.ref 66] [] rfl rfl rfl (by decide) rfl rfl rfl ?_
          refine ik_Wk 5 (pc' := 13) (loc' := [some (.ref 66)]) (st' := [.int 0]) (h' := p1_h) (cl' := 0) (sl' := 0) rfl ?_
          refine ik_Wret rfl rfl ⟨_, _, rfl, rfl, ?_⟩
          refine ik_Wk 2 (pc' := 24) (loc' := [some (.ref 66), some (.int a1), none, none, none, none, none]) (st' := [.int (-1000000003)]) (h' := p1_h) (cl' := 0) (sl' := 0) rfl ?_
          refine ik_Wret rfl rfl ⟨_, _, rfl, rfl, ?_⟩
          refine ik_Wk 10 (pc' := 1138) (loc' := [some (.retAddr 0), some (.ref 0), some (.ref 66), some (.int 5)]) (st' := [.int 1]) (h' := p1_h) (cl' := 94) (sl' := 4156) rfl ?_
          exact ik_Wret rfl rfl ⟨rfl, rfl, Nat.le_of_ble_eq_true rfl, Nat.le_of_ble_eq_true rfl⟩
    · refine ik_Wk 1 (pc' := 13) (loc' := [some (.ref 0), some (.int a1)]) (st' := [.int (-1000000002)]) (h' := p1_h) (cl' := 0) (sl' := 0) rfl ?_
      refine ik_Wret rfl rfl ⟨_, _, rfl, rfl, ?_⟩
      refine ik_Wk 6 (pc' := 985) (loc' := [some (.retAddr 0), some (.ref 0), some (.ref 66), some (.int 0)]) (st' := [.int a1, .ref 66, .int (-1000000002)]) (h' := p1_h) (cl' := 94) (sl' := 4156) rfl ?_
      refine ik_Wc 110 2 0 [.ref 66, .int a1] [.int (-1000000002)] rfl rfl rfl (by decide) rfl rfl rfl ?_
      refine ik_Wk 4 (pc' := 6) (loc' := [some (.ref 66), some (.int a1), none, none, none, none, none]) (st' := [.long 40, .long 1, .long a1.toInt64]) (h' := p1_h) (cl' := 0) (sl' := 0) rfl ?_
      refine ik_Wc 70 3 3 [.long a1.toInt64, .long 1, .long 40] [] rfl rfl rfl (by decide) rfl rfl rfl ?_
      refine ik_Wif 4 (c := (lg_cmp a1.toInt64 (1 : Int64)) < 0) 17 6 (loc' := [some (.long a1.toInt64), none, some (.long 1), none, some (.long 40), none]) (st' := []) (h' := p1_h) (cl' := 0) (sl' := 0) rfl (fun hc6 => ?_) (fun hc6 => ?_)
      · exfalso
        (try simp only [lg_lt0, lg_gt0] at hc1 hc3 hc6) <;> simp only [cv_eq, cv_lt, cv_le, cv_64, (show (0 : Int32).toInt = 0 from by decide), (show (0 : Int64).toInt = 0 from by decide), (show (1 : Int32).toInt = 1 from by decide), (show (1 : Int64).toInt = 1 from by decide), (show (40 : Int32).toInt = 40 from by decide), (show (40 : Int64).toInt = 40 from by decide)] at hc1 hc3 hc6 <;> omega
      · refine ik_Wif 4 (c := 0 < (lg_cmp a1.toInt64 (40 : Int64))) 17 13 (loc' := [some (.long a1.toInt64), none, some (.long 1), none, some (.long 40), none]) (st' := []) (h' := p1_h) (cl' := 0) (sl' := 0) rfl (fun hc7 => ?_) (fun hc7 => ?_)
        · refine ik_Wk 1 (pc' := 18) (loc' := [some (.long a1.toInt64), none, some (.long 1), none, some (.long 40), none]) (st' := [.int 0]) (h' := p1_h) (cl' := 0) (sl' := 0) rfl ?_
          refine ik_Wret rfl rfl ⟨_, _, rfl, rfl, ?_⟩
          refine ik_Wk 2 (pc' := 14) (loc' := [some (.ref 66), some (.int a1), none, none, none, none, none]) (st' := [.int (-1000000002)]) (h' := p1_h) (cl' := 0) (sl' := 0) rfl ?_
          refine ik_Wret rfl rfl ⟨_, _, rfl, rfl, ?_⟩
          refine ik_Wk 10 (pc' := 1138) (loc' := [some (.retAddr 0), some (.ref 0), some (.ref 66), some (.int 5)]) (st' := [.int 1]) (h' := p1_h) (cl' := 94) (sl' := 4156) rfl ?_
          exact ik_Wret rfl rfl ⟨rfl, rfl, Nat.le_of_ble_eq_true rfl, Nat.le_of_ble_eq_true rfl⟩
        · exfalso
          (try simp only [lg_lt0, lg_gt0] at hc1 hc3 hc6 hc7) <;> simp only [cv_eq, cv_lt, cv_le, cv_64, (show (0 : Int32).toInt = 0 from by decide), (show (0 : Int64).toInt = 0 from by decide), (show (1 : Int32).toInt = 1 from by decide), (show (1 : Int64).toInt = 1 from by decide), (show (40 : Int32).toInt = 40 from by decide), (show (40 : Int64).toInt = 40 from by decide)] at hc1 hc3 hc6 hc7 <;> omega
