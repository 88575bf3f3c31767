set_option maxHeartbeats 16000000 in
set_option maxRecDepth 100000 in
/-- cork on the new objects -/
theorem p1_k5 (a0 a1 a2 a3 a4 : Int32) : ik_W (some (5, p1_f a0 a1 a2 a3 a4)) 0 327 [some (.retAddr 0), some (.ref 0), some (.ref 66), some (.int 0)] [] p1_h 94 4156 p1_post := by
  rcases p1_sp3 a2 (0) (1) (2) with rfl | rfl | rfl | hs1
  · refine ik_Wk 16 (pc' := 343) (loc' := [some (.retAddr 0), some (.ref 0), some (.ref 66), some (.int 0)]) (st' := [.int a3, .int 0, .int a1, .ref 0]) (h' := p1_h) (cl' := 94) (sl' := 4156) rfl ?_
    refine ik_Wc 39 4 0 [.ref 0, .int a1, .int 0, .int a3] [] rfl rfl rfl (by decide) rfl rfl rfl ?_
    refine ik_Wk 1 (pc' := 1) (loc' := [some (.ref 0), some (.int a1), some (.int 0), some (.int a3), none]) (st' := [.int a1]) (h' := p1_h) (cl' := 0) (sl' := 0) rfl ?_
    refine ik_Wc 65 1 3 [.int a1] [] rfl rfl rfl (by decide) rfl rfl rfl ?_
    refine ik_Wif 2 (c := a1 = 0) 9 4 (loc' := [some (.int a1)]) (st' := []) (h' := p1_h) (cl' := 0) (sl' := 0) rfl (fun hc2 => ?_) (fun hc2 => ?_)
    · refine ik_Wk 2 (pc' := 14) (loc' := [some (.int a1)]) (st' := [.int 1]) (h' := p1_h) (cl' := 0) (sl' := 0) rfl ?_
      refine ik_Wret rfl rfl ⟨_, _, rfl, rfl, ?_⟩
      refine ik_Wk 4 (pc' := 12) (loc' := [some (.ref 0), some (.int a1), some (.int 0), some (.int a3), none]) (st' := [.int a3]) (h' := p1_h) (cl' := 0) (sl' := 0) rfl ?_
      refine ik_Wc 66 1 3 [.int a3] [] rfl rfl rfl (by decide) rfl rfl rfl ?_
      refine ik_Wif 2 (c := a3 < 0) 13 4 (loc' := [some (.int a3)]) (st' := []) (h' := p1_h) (cl' := 0) (sl' := 0) rfl (fun hc3 => ?_) (fun hc3 => ?_)
      · refine ik_Wk 1 (pc' := 14) (loc' := [some (.int a3)]) (st' := [.int 0]) (h' := p1_h) (cl' := 0) (sl' := 0) rfl ?_
        refine ik_Wret rfl rfl ⟨_, _, rfl, rfl, ?_⟩
        refine ik_Wk 2 (pc' := 36) (loc' := [some (.ref 0), some (.int a1), some (.int 0), some (.int a3), none]) (st' := [.int (-1000000001)]) (h' := p1_h) (cl' := 0) (sl' := 0) rfl ?_
        refine ik_Wret rfl rfl ⟨_, _, rfl, rfl, ?_⟩
        refine ik_Wk 16 (pc' := 362) (loc' := [some (.retAddr 0), some (.ref 0), some (.ref 66), some (.int 0)]) (st' := [.int a3, .int 0, .int a1, .ref 66, .int (-1000000001)]) (h' := p1_h) (cl' := 94) (sl' := 4156) rfl ?_
        refine ik_Wc 87 4 0 [.ref 66, .int a1, .int 0, .int a3] [.int (-1000000001)] rfl rfl rfl (by decide) rfl rfl rfl ?_
        refine ik_Wk 1 (pc' := 1) (loc' := [some (.ref 66), some (.int a1), some (.int 0), some (.int a3), none]) (st' := [.int a1]) (h' := p1_h) (cl' := 0) (sl' := 0) rfl ?_
        refine ik_Wc 75 1 3 [.int a1] [] rfl rfl rfl (by decide) rfl rfl rfl ?_
        refine ik_Wk 4 (pc' := 4) (loc' := [some (.int a1)]) (st' := [.long 1, .long 0, .long a1.toInt64]) (h' := p1_h) (cl' := 0) (sl' := 0) rfl ?_
        refine ik_Wc 70 3 3 [.long a1.toInt64, .long 0, .long 1] [] rfl rfl rfl (by decide) rfl rfl rfl ?_
        refine ik_Wif 4 (c := (lg_cmp a1.toInt64 (0 : Int64)) < 0) 17 6 (loc' := [some (.long a1.toInt64), none, some (.long 0), none, some (.long 1), none]) (st' := []) (h' := p1_h) (cl' := 0) (sl' := 0) rfl (fun hc4 => ?_) (fun hc4 => ?_)
        · exfalso
          (try simp only [lg_lt0, lg_gt0] at hc2 hc4) <;> simp only [cv_eq, cv_lt, cv_le, cv_64, (show (0 : Int32).toInt = 0 from by decide), (show (0 : Int64).toInt = 0 from by decide)] at hc2 hc4 <;> omega
        · refine ik_Wif 4 (c := 0 < (lg_cmp a1.toInt64 (1 : Int64))) 17 13 (loc' := [some (.long a1.toInt64), none, some (.long 0), none, some (.long 1), none]) (st' := []) (h' := p1_h) (cl' := 0) (sl' := 0) rfl (fun hc5 => ?_) (fun hc5 => ?_)
          · exfalso
            (try simp only [lg_lt0, lg_gt0] at hc2 hc4 hc5) <;> simp only [cv_eq, cv_lt, cv_le, cv_64, (show (0 : Int32).toInt = 0 from by decide), (show (0 : Int64).toInt = 0 from by decide), (show (1 : Int32).toInt = 1 from by decide), (show (1 : Int64).toInt = 1 from by decide)] at hc2 hc4 hc5 <;> omega
          · refine ik_Wk 2 (pc' := 18) (loc' := [some (.long a1.toInt64), none, some (.long 0), none, some (.long 1), none]) (st' := [.int 1]) (h' := p1_h) (cl' := 0) (sl' := 0) rfl ?_
            refine ik_Wret rfl rfl ⟨_, _, rfl, rfl, ?_⟩
            refine ik_Wret rfl rfl ⟨_, _, rfl, rfl, ?_⟩
            refine ik_Wk 4 (pc' := 15) (loc' := [some (.ref 66), some (.int a1), some (.int 0), some (.int a3), none]) (st' := [.int a3]) (h' := p1_h) (cl' := 0) (sl' := 0) rfl ?_
            refine ik_Wc 76 1 3 [.int a3] [] rfl rfl rfl (by decide) rfl rfl rfl ?_
            refine ik_Wk 4 (pc' := 6) (loc' := [some (.int a3)]) (st' := [.long 2, .long 0, .long a3.toInt64]) (h' := p1_h) (cl' := 0) (sl' := 0) rfl ?_
            refine ik_Wc 70 3 3 [.long a3.toInt64, .long 0, .long 2] [] rfl rfl rfl (by decide) rfl rfl rfl ?_
            refine ik_Wif 4 (c := (lg_cmp a3.toInt64 (0 : Int64)) < 0) 17 6 (loc' := [some (.long a3.toInt64), none, some (.long 0), none, some (.long 2), none]) (st' := []) (h' := p1_h) (cl' := 0) (sl' := 0) rfl (fun hc6 => ?_) (fun hc6 => ?_)
            · refine ik_Wk 1 (pc' := 18) (loc' := [some (.long a3.toInt64), none, some (.long 0), none, some (.long 2), none]) (st' := [.int 0]) (h' := p1_h) (cl' := 0) (sl' := 0) rfl ?_
              refine ik_Wret rfl rfl ⟨_, _, rfl, rfl, ?_⟩
              refine ik_Wret rfl rfl ⟨_, _, rfl, rfl, ?_⟩
              refine ik_Wk 2 (pc' := 36) (loc' := [some (.ref 66), some (.int a1), some (.int 0), some (.int a3), none]) (st' := [.int (-1000000001)]) (h' := p1_h) (cl' := 0) (sl' := 0) rfl ?_
              refine ik_Wret rfl rfl ⟨_, _, rfl, rfl, ?_⟩
              refine ik_Wk 10 (pc' := 1138) (loc' := [some (.retAddr 0), some (.ref 0), some (.ref 66), some (.int 5)]) (st' := [.int 1]) (h' := p1_h) (cl' := 94) (sl' := 4156) rfl ?_
              exact ik_Wret rfl rfl ⟨rfl, rfl, Nat.le_of_ble_eq_true rfl, Nat.le_of_ble_eq_true rfl⟩
            · exfalso
              (try simp only [lg_lt0, lg_gt0] at hc3 hc6) <;> simp only [cv_eq, cv_lt, cv_le, cv_64, (show (0 : Int32).toInt = 0 from by decide), (show (0 : Int64).toInt = 0 from by decide), (show (1 : Int32).toInt = 1 from by decide), (show (1 : Int64).toInt = 1 from by decide)] at hc3 hc6 <;> omega
      · refine ik_Wif 3 (c := (2 : Int32) < a3) 13 9 (loc' := [some (.int a3)]) (st' := []) (h' := p1_h) (cl' := 0) (sl' := 0) rfl (fun hc7 => ?_) (fun hc7 => ?_)
        · refine ik_Wk 1 (pc' := 14) (loc' := [some (.int a3)]) (st' := [.int 0]) (h' := p1_h) (cl' := 0) (sl' := 0) rfl ?_
          refine ik_Wret rfl rfl ⟨_, _, rfl, rfl, ?_⟩
          refine ik_Wk 2 (pc' := 36) (loc' := [some (.ref 0), some (.int a1), some (.int 0), some (.int a3), none]) (st' := [.int (-1000000001)]) (h' := p1_h) (cl' := 0) (sl' := 0) rfl ?_
          refine ik_Wret rfl rfl ⟨_, _, rfl, rfl, ?_⟩
          refine ik_Wk 16 (pc' := 362) (loc' := [some (.retAddr 0), some (.ref 0), some (.ref 66), some (.int 0)]) (st' := [.int a3, .int 0, .int a1, .ref 66, .int (-1000000001)]) (h' := p1_h) (cl' := 94) (sl' := 4156) rfl ?_
          refine ik_Wc 87 4 0 [.ref 66, .int a1, .int 0, .int a3] [.int (-1000000001)] rfl rfl rfl (by decide) rfl rfl rfl ?_
          refine ik_Wk 1 (pc' := 1) (loc' := [some (.ref 66), some (.int a1), some (.int 0), some (.int a3), none]) (st' := [.int a1]) (h' := p1_h) (cl' := 0) (sl' := 0) rfl ?_
          refine ik_Wc 75 1 3 [.int a1] [] rfl rfl rfl (by decide) rfl rfl rfl ?_
          refine ik_Wk 4 (pc' := 4) (loc' := [some (.int a1)]) (st' := [.long 1, .long 0, .long a1.toInt64]) (h' := p1_h) (cl' := 0) (sl' := 0) rfl ?_
          refine ik_Wc 70 3 3 [.long a1.toInt64, .long 0, .long 1] [] rfl rfl rfl (by decide) rfl rfl rfl ?_
          refine ik_Wif 4 (c := (lg_cmp a1.toInt64 (0 : Int64)) < 0) 17 6 (loc' := [some (.long a1.toInt64), none, some (.long 0), none, some (.long 1), none]) (st' := []) (h' := p1_h) (cl' := 0) (sl' := 0) rfl (fun hc8 => ?_) (fun hc8 => ?_)
          · exfalso
            (try simp only [lg_lt0, lg_gt0] at hc2 hc8) <;> simp only [cv_eq, cv_lt, cv_le, cv_64, (show (0 : Int32).toInt = 0 from by decide), (show (0 : Int64).toInt = 0 from by decide), (show (2 : Int32).toInt = 2 from by decide), (show (2 : Int64).toInt = 2 from by decide)] at hc2 hc8 <;> omega
          · refine ik_Wif 4 (c := 0 < (lg_cmp a1.toInt64 (1 : Int64))) 17 13 (loc' := [some (.long a1.toInt64), none, some (.long 0), none, some (.long 1), none]) (st' := []) (h' := p1_h) (cl' := 0) (sl' := 0) rfl (fun hc9 => ?_) (fun hc9 => ?_)
            · exfalso
              (try simp only [lg_lt0, lg_gt0] at hc2 hc8 hc9) <;> simp only [cv_eq, cv_lt, cv_le, cv_64, (show (0 : Int32).toInt = 0 from by decide), (show (0 : Int64).toInt = 0 from by decide), (show (1 : Int32).toInt = 1 from by decide), (show (1 : Int64).toInt = 1 from by decide), (show (2 : Int32).toInt = 2 from by decide), (show (2 : Int64).toInt = 2 from by decide)] at hc2 hc8 hc9 <;> omega
            · refine ik_Wk 2 (pc' := 18) (loc' := [some (.long a1.toInt64), none, some (.long 0), none, some (.long 1), none]) (st' := [.int 1]) (h' := p1_h) (cl' := 0) (sl' := 0) rfl ?_
              refine ik_Wret rfl rfl ⟨_, _, rfl, rfl, ?_⟩
              refine ik_Wret rfl rfl ⟨_, _, rfl, rfl, ?_⟩
              refine ik_Wk 4 (pc' := 15) (loc' := [some (.ref 66), some (.int a1), some (.int 0), some (.int a3), none]) (st' := [.int a3]) (h' := p1_h) (cl' := 0) (sl' := 0) rfl ?_
              refine ik_Wc 76 1 3 [.int a3] [] rfl rfl rfl (by decide) rfl rfl rfl ?_
              refine ik_Wk 4 (pc' := 6) (loc' := [some (.int a3)]) (st' := [.long 2, .long 0, .long a3.toInt64]) (h' := p1_h) (cl' := 0) (sl' := 0) rfl ?_
              refine ik_Wc 70 3 3 [.long a3.toInt64, .long 0, .long 2] [] rfl rfl rfl (by decide) rfl rfl rfl ?_
              refine ik_Wif 4 (c := (lg_cmp a3.toInt64 (0 : Int64)) < 0) 17 6 (loc' := [some (.long a3.toInt64), none, some (.long 0), none, some (.long 2), none]) (st' := []) (h' := p1_h) (cl' := 0) (sl' := 0) rfl (fun hc10 => ?_) (fun hc10 => ?_)
              · exfalso
                (try simp only [lg_lt0, lg_gt0] at hc3 hc7 hc10) <;> simp only [cv_eq, cv_lt, cv_le, cv_64, (show (0 : Int32).toInt = 0 from by decide), (show (0 : Int64).toInt = 0 from by decide), (show (1 : Int32).toInt = 1 from by decide), (show (1 : Int64).toInt = 1 from by decide), (show (2 : Int32).toInt = 2 from by decide), (show (2 : Int64).toInt = 2 from by decide)] at hc3 hc7 hc10 <;> omega
              · refine ik_Wif 4 (c := 0 < (lg_cmp a3.toInt64 (2 : Int64))) 17 13 (loc' := [some (.long a3.toInt64), none, some (.long 0), none, some (.long 2), none]) (st' := []) (h' := p1_h) (cl' := 0) (sl' := 0) rfl (fun hc11 => ?_) (fun hc11 => ?_)
                · refine ik_Wk 1 (pc' := 18) (loc' := [some (.long a3.toInt64), none, some (.long 0), none, some (.long 2), none]) (st' := [.int 0]) (h' := p1_h) (cl' := 0) (sl' := 0) rfl ?_
                  refine ik_Wret rfl rfl ⟨_, _, rfl, rfl, ?_⟩
                  refine ik_Wret rfl rfl ⟨_, _, rfl, rfl, ?_⟩
                  refine ik_Wk 2 (pc' := 36) (loc' := [some (.ref 66), some (.int a1), some (.int 0), some (.int a3), none]) (st' := [.int (-1000000001)]) (h' := p1_h) (cl' := 0) (sl' := 0) rfl ?_
                  refine ik_Wret rfl rfl ⟨_, _, rfl, rfl, ?_⟩
                  refine ik_Wk 10 (pc' := 1138) (loc' := [some (.retAddr 0), some (.ref 0), some (.ref 66), some (.int 5)]) (st' := [.int 1]) (h' := p1_h) (cl' := 94) (sl' := 4156) rfl ?_
                  exact ik_Wret rfl rfl ⟨rfl, rfl, Nat.le_of_ble_eq_true rfl, Nat.le_of_ble_eq_true rfl⟩
                · exfalso
                  (try simp only [lg_lt0, lg_gt0] at hc3 hc7 hc10 hc11) <;> simp only [cv_eq, cv_lt, cv_le, cv_64, (show (0 : Int32).toInt = 0 from by decide), (show (0 : Int64).toInt = 0 from by decide), (show (1 : Int32).toInt = 1 from by decide), (show (1 : Int64).toInt = 1 from by decide), (show (2 : Int32).toInt = 2 from by decide), (show (2 : Int64).toInt = 2 from by decide)] at hc3 hc7 hc10 hc11 <;> omega
        · refine ik_Wk 2 (pc' := 14) (loc' := [some (.int a3)]) (st' := [.int 1]) (h' := p1_h) (cl' := 0) (sl' := 0) rfl ?_
          refine ik_Wret rfl rfl ⟨_, _, rfl, rfl, ?_⟩
          refine ik_Wk 14 (pc' := 68) (loc' := [some (.ref 0), some (.int a1), some (.int 0), some (.int a3), none]) (st' := [.ref 7]) (h' := p1_h) (cl' := 0) (sl' := 0) rfl ?_
          refine ik_Wc 7 1 0 [.ref 7] [] rfl rfl rfl (by decide) rfl rfl rfl ?_
          refine ik_Wk 5 (pc' := 13) (loc' := [some (.ref 7)]) (st' := [.int 0]) (h' := p1_h) (cl' := 0) (sl' := 0) rfl ?_
          refine ik_Wret rfl rfl ⟨_, _, rfl, rfl, ?_⟩
          refine ik_Wk 2 (pc' := 76) (loc' := [some (.ref 0), some (.int a1), some (.int 0), some (.int a3), none]) (st' := [.int (-1000000003)]) (h' := p1_h) (cl' := 0) (sl' := 0) rfl ?_
          refine ik_Wret rfl rfl ⟨_, _, rfl, rfl, ?_⟩
          refine ik_Wk 16 (pc' := 362) (loc' := [some (.retAddr 0), some (.ref 0), some (.ref 66), some (.int 0)]) (st' := [.int a3, .int 0, .int a1, .ref 66, .int (-1000000003)]) (h' := p1_h) (cl' := 94) (sl' := 4156) rfl ?_
          refine ik_Wc 87 4 0 [.ref 66, .int a1, .int 0, .int a3] [.int (-1000000003)] rfl rfl rfl (by decide) rfl rfl rfl ?_
          refine ik_Wk 1 (pc' := 1) (loc' := [some (.ref 66), some (.int a1), some (.int 0), some (.int a3), none]) (st' := [.int a1]) (h' := p1_h) (cl' := 0) (sl' := 0) rfl ?_
          refine ik_Wc 75 1 3 [.int a1] [] rfl rfl rfl (by decide) rfl rfl rfl ?_
          refine ik_Wk 4 (pc' := 4) (loc' := [some (.int a1)]) (st' := [.long 1, .long 0, .long a1.toInt64]) (h' := p1_h) (cl' := 0) (sl' := 0) rfl ?_
          refine ik_Wc 70 3 3 [.long a1.toInt64, .long 0, .long 1] [] rfl rfl rfl (by decide) rfl rfl rfl ?_
          refine ik_Wif 4 (c := (lg_cmp a1.toInt64 (0 : Int64)) < 0) 17 6 (loc' := [some (.long a1.toInt64), none, some (.long 0), none, some (.long 1), none]) (st' := []) (h' := p1_h) (cl' := 0) (sl' := 0) rfl (fun hc12 => ?_) (fun hc12 => ?_)
          · exfalso
            (try simp only [lg_lt0, lg_gt0] at hc2 hc12) <;> simp only [cv_eq, cv_lt, cv_le, cv_64, (show (0 : Int32).toInt = 0 from by decide), (show (0 : Int64).toInt = 0 from by decide), (show (2 : Int32).toInt = 2 from by decide), (show (2 : Int64).toInt = 2 from by decide)] at hc2 hc12 <;> omega
          · refine ik_Wif 4 (c := 0 < (lg_cmp a1.toInt64 (1 : Int64))) 17 13 (loc' := [some (.long a1.toInt64), none, some (.long 0), none, some (.long 1), none]) (st' := []) (h' := p1_h) (cl' := 0) (sl' := 0) rfl (fun hc13 => ?_) (fun hc13 => ?_)
            · exfalso
              (try simp only [lg_lt0, lg_gt0] at hc2 hc12 hc13) <;> simp only [cv_eq, cv_lt, cv_le, cv_64, (show (0 : Int32).toInt = 0 from by decide), (show (0 : Int64).toInt = 0 from by decide), (show (1 : Int32).toInt = 1 from by decide), (show (1 : Int64).toInt = 1 from by decide), (show (2 : Int32).toInt = 2 from by decide), (show (2 : Int64).toInt = 2 from by decide)] at hc2 hc12 hc13 <;> omega
            · refine ik_Wk 2 (pc' := 18) (loc' := [some (.long a1.toInt64), none, some (.long 0), none, some (.long 1), none]) (st' := [.int 1]) (h' := p1_h) (cl' := 0) (sl' := 0) rfl ?_
              refine ik_Wret rfl rfl ⟨_, _, rfl, rfl, ?_⟩
              refine ik_Wret rfl rfl ⟨_, _, rfl, rfl, ?_⟩
              refine ik_Wk 4 (pc' := 15) (loc' := [some (.ref 66), some (.int a1), some (.int 0), some (.int a3), none]) (st' := [.int a3]) (h' := p1_h) (cl' := 0) (sl' := 0) rfl ?_
              refine ik_Wc 76 1 3 [.int a3] [] rfl rfl rfl (by decide) rfl rfl rfl ?_
              refine ik_Wk 4 (pc' := 6) (loc' := [some (.int a3)]) (st' := [.long 2, .long 0, .long a3.toInt64]) (h' := p1_h) (cl' := 0) (sl' := 0) rfl ?_
              refine ik_Wc 70 3 3 [.long a3.toInt64, .long 0, .long 2] [] rfl rfl rfl (by decide) rfl rfl rfl ?_
              refine ik_Wif 4 (c := (lg_cmp a3.toInt64 (0 : Int64)) < 0) 17 6 (loc' := [some (.long a3.toInt64), none, some (.long 0), none, some (.long 2), none]) (st' := []) (h' := p1_h) (cl' := 0) (sl' := 0) rfl (fun hc14 => ?_) (fun hc14 => ?_)
              · exfalso
                (try simp only [lg_lt0, lg_gt0] at hc3 hc7 hc14) <;> simp only [cv_eq, cv_lt, cv_le, cv_64, (show (0 : Int32).toInt = 0 from by decide), (show (0 : Int64).toInt = 0 from by decide), (show (1 : Int32).toInt = 1 from by decide), (show (1 : Int64).toInt = 1 from by decide), (show (2 : Int32).toInt = 2 from by decide), (show (2 : Int64).toInt = 2 from by decide)] at hc3 hc7 hc14 <;> omega
              · refine ik_Wif 4 (c := 0 < (lg_cmp a3.toInt64 (2 : Int64))) 17 13 (loc' := [some (.long a3.toInt64), none, some (.long 0), none, some (.long 2), none]) (st' := []) (h' := p1_h) (cl' := 0) (sl' := 0) rfl (fun hc15 => ?_) (fun hc15 => ?_)
                · exfalso
                  (try simp only [lg_lt0, lg_gt0] at hc3 hc7 hc14 hc15) <;> simp only [cv_eq, cv_lt, cv_le, cv_64, (show (0 : Int32).toInt = 0 from by decide), (show (0 : Int64).toInt = 0 from by decide), (show (1 : Int32).toInt = 1 from by decide), (show (1 : Int64).toInt = 1 from by decide), (show (2 : Int32).toInt = 2 from by decide), (show (2 : Int64).toInt = 2 from by decide)] at hc3 hc7 hc14 hc15 <;> omega
                · refine ik_Wk 2 (pc' := 18) (loc' := [some (.long a3.toInt64), none, some (.long 0), none, some (.long 2), none]) (st' := [.int 1]) (h' := p1_h) (cl' := 0) (sl' := 0) rfl ?_
                  refine ik_Wret rfl rfl ⟨_, _, rfl, rfl, ?_⟩
                  refine ik_Wret rfl rfl ⟨_, _, rfl, rfl, ?_⟩
                  refine ik_Wk 8 (pc' := 43) (loc' := [some (.ref 66), some (.int a1), some (.int 0), some (.int a3), none]) (st' := [.long 2, .long 0, .long 0]) (h' := p1_h) (cl' := 0) (sl' := 0) rfl ?_
                  refine ik_Wc 70 3 3 [.long 0, .long 0, .long 2] [] rfl rfl rfl (by decide) rfl rfl rfl ?_
                  refine ik_Wk 10 (pc' := 18) (loc' := [some (.long 0), none, some (.long 0), none, some (.long 2), none]) (st' := [.int 1]) (h' := p1_h) (cl' := 0) (sl' := 0) rfl ?_
                  refine ik_Wret rfl rfl ⟨_, _, rfl, rfl, ?_⟩
                  refine ik_Wk 5 (pc' := 70) (loc' := [some (.ref 66), some (.int a1), some (.int 0), some (.int a3), none]) (st' := [.ref 66]) (h' := p1_h) (cl' := 0) (sl' := 0) rfl ?_
                  refine ik_Wc 77 1 0 [.ref 66] [] rfl rfl rfl (by decide) rfl rfl rfl ?_
                  refine ik_Wk 5 (pc' := 13) (loc' := [some (.ref 66)]) (st' := [.int 0]) (h' := p1_h) (cl' := 0) (sl' := 0) rfl ?_
                  refine ik_Wret rfl rfl ⟨_, _, rfl, rfl, ?_⟩
                  refine ik_Wk 2 (pc' := 78) (loc' := [some (.ref 66), some (.int a1), some (.int 0), some (.int a3), none]) (st' := [.int (-1000000003)]) (h' := p1_h) (cl' := 0) (sl' := 0) rfl ?_
                  refine ik_Wret rfl rfl ⟨_, _, rfl, rfl, ?_⟩
                  refine ik_Wk 10 (pc' := 1138) (loc' := [some (.retAddr 0), some (.ref 0), some (.ref 66), some (.int 5)]) (st' := [.int 1]) (h' := p1_h) (cl' := 94) (sl' := 4156) rfl ?_
                  exact ik_Wret rfl rfl ⟨rfl, rfl, Nat.le_of_ble_eq_true rfl, Nat.le_of_ble_eq_true rfl⟩
    · refine ik_Wif 3 (c := a1 = (1 : Int32)) 9 13 (loc' := [some (.int a1)]) (st' := []) (h' := p1_h) (cl' := 0) (sl' := 0) rfl (fun hc16 => ?_) (fun hc16 => ?_)
      · refine ik_Wk 2 (pc' := 14) (loc' := [some (.int a1)]) (st' := [.int 1]) (h' := p1_h) (cl' := 0) (sl' := 0) rfl ?_
        refine ik_Wret rfl rfl ⟨_, _, rfl, rfl, ?_⟩
        refine ik_Wk 4 (pc' := 12) (loc' := [some (.ref 0), some (.int a1), some (.int 0), some (.int a3), none]) (st' := [.int a3]) (h' := p1_h) (cl' := 0) (sl' := 0) rfl ?_
        refine ik_Wc 66 1 3 [.int a3] [] rfl rfl rfl (by decide) rfl rfl rfl ?_
        refine ik_Wif 2 (c := a3 < 0) 13 4 (loc' := [some (.int a3)]) (st' := []) (h' := p1_h) (cl' := 0) (sl' := 0) rfl (fun hc17 => ?_) (fun hc17 => ?_)
        · refine ik_Wk 1 (pc' := 14) (loc' := [some (.int a3)]) (st' := [.int 0]) (h' := p1_h) (cl' := 0) (sl' := 0) rfl ?_
          refine ik_Wret rfl rfl ⟨_, _, rfl, rfl, ?_⟩
          refine ik_Wk 2 (pc' := 36) (loc' := [some (.ref 0), some (.int a1), some (.int 0), some (.int a3), none]) (st' := [.int (-1000000001)]) (h' := p1_h) (cl' := 0) (sl' := 0) rfl ?_
          refine ik_Wret rfl rfl ⟨_, _, rfl, rfl, ?_⟩
          refine ik_Wk 16 (pc' := 362) (loc' := [some (.retAddr 0), some (.ref 0), some (.ref 66), some (.int 0)]) (st' := [.int a3, .int 0, .int a1, .ref 66, .int (-1000000001)]) (h' := p1_h) (cl' := 94) (sl' := 4156) rfl ?_
          refine ik_Wc 87 4 0 [.ref 66, .int a1, .int 0, .int a3] [.int (-1000000001)] rfl rfl rfl (by decide) rfl rfl rfl ?_
          refine ik_Wk 1 (pc' := 1) (loc' := [some (.ref 66), some (.int a1), some (.int 0), some (.int a3), none]) (st' := [.int a1]) (h' := p1_h) (cl' := 0) (sl' := 0) rfl ?_
          refine ik_Wc 75 1 3 [.int a1] [] rfl rfl rfl (by decide) rfl rfl rfl ?_
          refine ik_Wk 4 (pc' := 4) (loc' := [some (.int a1)]) (st' := [.long 1, .long 0, .long a1.toInt64]) (h' := p1_h) (cl' := 0) (sl' := 0) rfl ?_
          refine ik_Wc 70 3 3 [.long a1.toInt64, .long 0, .long 1] [] rfl rfl rfl (by decide) rfl rfl rfl ?_
          refine ik_Wif 4 (c := (lg_cmp a1.toInt64 (0 : Int64)) < 0) 17 6 (loc' := [some (.long a1.toInt64), none, some (.long 0), none, some (.long 1), none]) (st' := []) (h' := p1_h) (cl' := 0) (sl' := 0) rfl (fun hc18 => ?_) (fun hc18 => ?_)
          · exfalso
            (try simp only [lg_lt0, lg_gt0] at hc2 hc16 hc18) <;> simp only [cv_eq, cv_lt, cv_le, cv_64, (show (0 : Int32).toInt = 0 from by decide), (show (0 : Int64).toInt = 0 from by decide), (show (1 : Int32).toInt = 1 from by decide), (show (1 : Int64).toInt = 1 from by decide)] at hc2 hc16 hc18 <;> omega
          · refine ik_Wif 4 (c := 0 < (lg_cmp a1.toInt64 (1 : Int64))) 17 13 (loc' := [some (.long a1.toInt64), none, some (.long 0), none, some (.long 1), none]) (st' := []) (h' := p1_h) (cl' := 0) (sl' := 0) rfl (fun hc19 => ?_) (fun hc19 => ?_)
            · exfalso
              (try simp only [lg_lt0, lg_gt0] at hc2 hc16 hc18 hc19) <;> simp only [cv_eq, cv_lt, cv_le, cv_64, (show (0 : Int32).toInt = 0 from by decide), (show (0 : Int64).toInt = 0 from by decide), (show (1 : Int32).toInt = 1 from by decide), (show (1 : Int64).toInt = 1 from by decide)] at hc2 hc16 hc18 hc19 <;> omega
            · refine ik_Wk 2 (pc' := 18) (loc' := [some (.long a1.toInt64), none, some (.long 0), none, some (.long 1), none]) (st' := [.int 1]) (h' := p1_h) (cl' := 0) (sl' := 0) rfl ?_
              refine ik_Wret rfl rfl ⟨_, _, rfl, rfl, ?_⟩
              refine ik_Wret rfl rfl ⟨_, _, rfl, rfl, ?_⟩
              refine ik_Wk 4 (pc' := 15) (loc' := [some (.ref 66), some (.int a1), some (.int 0), some (.int a3), none]) (st' := [.int a3]) (h' := p1_h) (cl' := 0) (sl' := 0) rfl ?_
              refine ik_Wc 76 1 3 [.int a3] [] rfl rfl rfl (by decide) rfl rfl rfl ?_
              refine ik_Wk 4 (pc' := 6) (loc' := [some (.int a3)]) (st' := [.long 2, .long 0, .long a3.toInt64]) (h' := p1_h) (cl' := 0) (sl' := 0) rfl ?_
              refine ik_Wc 70 3 3 [.long a3.toInt64, .long 0, .long 2] [] rfl rfl rfl (by decide) rfl rfl rfl ?_
              refine ik_Wif 4 (c := (lg_cmp a3.toInt64 (0 : Int64)) < 0) 17 6 (loc' := [some (.long a3.toInt64), none, some (.long 0), none, some (.long 2), none]) (st' := []) (h' := p1_h) (cl' := 0) (sl' := 0) rfl (fun hc20 => ?_) (fun hc20 => ?_)
              · refine ik_Wk 1 (pc' := 18) (loc' := [some (.long a3.toInt64), none, some (.long 0), none, some (.long 2), none]) (st' := [.int 0]) (h' := p1_h) (cl' := 0) (sl' := 0) rfl ?_
                refine ik_Wret rfl rfl ⟨_, _, rfl, rfl, ?_⟩
                refine ik_Wret rfl rfl ⟨_, _, rfl, rfl, ?_⟩
                refine ik_Wk 2 (pc' := 36) (loc' := [some (.ref 66), some (.int a1), some (.int 0), some (.int a3), none]) (st' := [.int (-1000000001)]) (h' := p1_h) (cl' := 0) (sl' := 0) rfl ?_
                refine ik_Wret rfl rfl ⟨_, _, rfl, rfl, ?_⟩
                refine ik_Wk 10 (pc' := 1138) (loc' := [some (.retAddr 0), some (.ref 0), some (.ref 66), some (.int 5)]) (st' := [.int 1]) (h' := p1_h) (cl' := 94) (sl' := 4156) rfl ?_
                exact ik_Wret rfl rfl ⟨rfl, rfl, Nat.le_of_ble_eq_true rfl, Nat.le_of_ble_eq_true rfl⟩
              · exfalso
                (try simp only [lg_lt0, lg_gt0] at hc17 hc20) <;> simp only [cv_eq, cv_lt, cv_le, cv_64, (show (0 : Int32).toInt = 0 from by decide), (show (0 : Int64).toInt = 0 from by decide), (show (1 : Int32).toInt = 1 from by decide), (show (1 : Int64).toInt = 1 from by decide)] at hc17 hc20 <;> omega
        · refine ik_Wif 3 (c := (2 : Int32) < a3) 13 9 (loc' := [some (.int a3)]) (st' := []) (h' := p1_h) (cl' := 0) (sl' := 0) rfl (fun hc21 => ?_) (fun hc21 => ?_)
          · refine ik_Wk 1 (pc' := 14) (loc' := [some (.int a3)]) (st' := [.int 0]) (h' := p1_h) (cl' := 0) (sl' := 0) rfl ?_
            refine ik_Wret rfl rfl ⟨_, _, rfl, rfl, ?_⟩
            refine ik_Wk 2 (pc' := 36) (loc' := [some (.ref 0), some (.int a1), some (.int 0), some (.int a3), none]) (st' := [.int (-1000000001)]) (h' := p1_h) (cl' := 0) (sl' := 0) rfl ?_
            refine ik_Wret rfl rfl ⟨_, _, rfl, rfl, ?_⟩
            refine ik_Wk 16 (pc' := 362) (loc' := [some (.retAddr 0), some (.ref 0), some (.ref 66), some (.int 0)]) (st' := [.int a3, .int 0, .int a1, .ref 66, .int (-1000000001)]) (h' := p1_h) (cl' := 94) (sl' := 4156) rfl ?_
            refine ik_Wc 87 4 0 [.ref 66, .int a1, .int 0, .int a3] [.int (-1000000001)] rfl rfl rfl (by decide) rfl rfl rfl ?_
            refine ik_Wk 1 (pc' := 1) (loc' := [some (.ref 66), some (.int a1), some (.int 0), some (.int a3), none]) (st' := [.int a1]) (h' := p1_h) (cl' := 0) (sl' := 0) rfl ?_
            refine ik_Wc 75 1 3 [.int a1] [] rfl rfl rfl (by decide) rfl rfl rfl ?_
            refine ik_Wk 4 (pc' := 4) (loc' := [some (.int a1)]) (st' := [.long 1, .long 0, .long a1.toInt64]) (h' := p1_h) (cl' := 0) (sl' := 0) rfl ?_
            refine ik_Wc 70 3 3 [.long a1.toInt64, .long 0, .long 1] [] rfl rfl rfl (by decide) rfl rfl rfl ?_
            refine ik_Wif 4 (c := (lg_cmp a1.toInt64 (0 : Int64)) < 0) 17 6 (loc' := [some (.long a1.toInt64), none, some (.long 0), none, some (.long 1), none]) (st' := []) (h' := p1_h) (cl' := 0) (sl' := 0) rfl (fun hc22 => ?_) (fun hc22 => ?_)
            · exfalso
              (try simp only [lg_lt0, lg_gt0] at hc2 hc16 hc22) <;> simp only [cv_eq, cv_lt, cv_le, cv_64, (show (0 : Int32).toInt = 0 from by decide), (show (0 : Int64).toInt = 0 from by decide), (show (1 : Int32).toInt = 1 from by decide), (show (1 : Int64).toInt = 1 from by decide), (show (2 : Int32).toInt = 2 from by decide), (show (2 : Int64).toInt = 2 from by decide)] at hc2 hc16 hc22 <;> omega
            · refine ik_Wif 4 (c := 0 < (lg_cmp a1.toInt64 (1 : Int64))) 17 13 (loc' := [some (.long a1.toInt64), none, some (.long 0), none, some (.long 1), none]) (st' := []) (h' := p1_h) (cl' := 0) (sl' := 0) rfl (fun hc23 => ?_) (fun hc23 => ?_)
              · exfalso
                (try simp only [lg_lt0, lg_gt0] at hc2 hc16 hc22 hc23) <;> simp only [cv_eq, cv_lt, cv_le, cv_64, (show (0 : Int32).toInt = 0 from by decide), (show (0 : Int64).toInt = 0 from by decide), (show (1 : Int32).toInt = 1 from by decide), (show (1 : Int64).toInt = 1 from by decide), (show (2 : Int32).toInt = 2 from by decide), (show (2 : Int64).toInt = 2 from by decide)] at hc2 hc16 hc22 hc23 <;> omega
              · refine ik_Wk 2 (pc' := 18) (loc' := [some (.long a1.toInt64), none, some (.long 0), none, some (.long 1), none]) (st' := [.int 1]) (h' := p1_h) (cl' := 0) (sl' := 0) rfl ?_
                refine ik_Wret rfl rfl ⟨_, _, rfl, rfl, ?_⟩
                refine ik_Wret rfl rfl ⟨_, _, rfl, rfl, ?_⟩
                refine ik_Wk 4 (pc' := 15) (loc' := [some (.ref 66), some (.int a1), some (.int 0), some (.int a3), none]) (st' := [.int a3]) (h' := p1_h) (cl' := 0) (sl' := 0) rfl ?_
                refine ik_Wc 76 1 3 [.int a3] [] rfl rfl rfl (by decide) rfl rfl rfl ?_
                refine ik_Wk 4 (pc' := 6) (loc' := [some (.int a3)]) (st' := [.long 2, .long 0, .long a3.toInt64]) (h' := p1_h) (cl' := 0) (sl' := 0) rfl ?_
                refine ik_Wc 70 3 3 [.long a3.toInt64, .long 0, .long 2] [] rfl rfl rfl (by decide) rfl rfl rfl ?_
                refine ik_Wif 4 (c := (lg_cmp a3.toInt64 (0 : Int64)) < 0) 17 6 (loc' := [some (.long a3.toInt64), none, some (.long 0), none, some (.long 2), none]) (st' := []) (h' := p1_h) (cl' := 0) (sl' := 0) rfl (fun hc24 => ?_) (fun hc24 => ?_)
                · exfalso
                  (try simp only [lg_lt0, lg_gt0] at hc17 hc21 hc24) <;> simp only [cv_eq, cv_lt, cv_le, cv_64, (show (0 : Int32).toInt = 0 from by decide), (show (0 : Int64).toInt = 0 from by decide), (show (1 : Int32).toInt = 1 from by decide), (show (1 : Int64).toInt = 1 from by decide), (show (2 : Int32).toInt = 2 from by decide), (show (2 : Int64).toInt = 2 from by decide)] at hc17 hc21 hc24 <;> omega
                · refine ik_Wif 4 (c := 0 < (lg_cmp a3.toInt64 (2 : Int64))) 17 13 (loc' := [some (.long a3.toInt64), none, some (.long 0), none, some (.long 2), none]) (st' := []) (h' := p1_h) (cl' := 0) (sl' := 0) rfl (fun hc25 => ?_) (fun hc25 => ?_)
                  · refine ik_Wk 1 (pc' := 18) (loc' := [some (.long a3.toInt64), none, some (.long 0), none, some (.long 2), none]) (st' := [.int 0]) (h' := p1_h) (cl' := 0) (sl' := 0) rfl ?_
                    refine ik_Wret rfl rfl ⟨_, _, rfl, rfl, ?_⟩
                    refine ik_Wret rfl rfl ⟨_, _, rfl, rfl, ?_⟩
                    refine ik_Wk 2 (pc' := 36) (loc' := [some (.ref 66), some (.int a1), some (.int 0), some (.int a3), none]) (st' := [.int (-1000000001)]) (h' := p1_h) (cl' := 0) (sl' := 0) rfl ?_
                    refine ik_Wret rfl rfl ⟨_, _, rfl, rfl, ?_⟩
                    refine ik_Wk 10 (pc' := 1138) (loc' := [some (.retAddr 0), some (.ref 0), some (.ref 66), some (.int 5)]) (st' := [.int 1]) (h' := p1_h) (cl' := 94) (sl' := 4156) rfl ?_
                    exact ik_Wret rfl rfl ⟨rfl, rfl, Nat.le_of_ble_eq_true rfl, Nat.le_of_ble_eq_true rfl⟩
                  · exfalso
                    (try simp only [lg_lt0, lg_gt0] at hc17 hc21 hc24 hc25) <;> simp only [cv_eq, cv_lt, cv_le, cv_64, (show (0 : Int32).toInt = 0 from by decide), (show (0 : Int64).toInt = 0 from by decide), (show (1 : Int32).toInt = 1 from by decide), (show (1 : Int64).toInt = 1 from by decide), (show (2 : Int32).toInt = 2 from by decide), (show (2 : Int64).toInt = 2 from by decide)] at hc17 hc21 hc24 hc25 <;> omega
          · refine ik_Wk 2 (pc' := 14) (loc' := [some (.int a3)]) (st' := [.int 1]) (h' := p1_h) (cl' := 0) (sl' := 0) rfl ?_
            refine ik_Wret rfl rfl ⟨_, _, rfl, rfl, ?_⟩
            refine ik_Wk 14 (pc' := 68) (loc' := [some (.ref 0), some (.int a1), some (.int 0), some (.int a3), none]) (st' := [.ref 7]) (h' := p1_h) (cl' := 0) (sl' := 0) rfl ?_
            refine ik_Wc 7 1 0 [.ref 7] [] rfl rfl rfl (by decide) rfl rfl rfl ?_
            refine ik_Wk 5 (pc' := 13) (loc' := [some (.ref 7)]) (st' := [.int 0]) (h' := p1_h) (cl' := 0) (sl' := 0) rfl ?_
            refine ik_Wret rfl rfl ⟨_, _, rfl, rfl, ?_⟩
            refine ik_Wk 2 (pc' := 76) (loc' := [some (.ref 0), some (.int a1), some (.int 0), some (.int a3), none]) (st' := [.int (-1000000003)]) (h' := p1_h) (cl' := 0) (sl' := 0) rfl ?_
            refine ik_Wret rfl rfl ⟨_, _, rfl, rfl, ?_⟩
            refine ik_Wk 16 (pc' := 362) (loc' := [some (.retAddr 0), some (.ref 0), some (.ref 66), some (.int 0)]) (st' := [.int a3, .int 0, .int a1, .ref 66, .int (-1000000003)]) (h' := p1_h) (cl' := 94) (sl' := 4156) rfl ?_
            refine ik_Wc 87 4 0 [.ref 66, .int a1, .int 0, .int a3] [.int (-1000000003)] rfl rfl rfl (by decide) rfl rfl rfl ?_
            refine ik_Wk 1 (pc' := 1) (loc' := [some (.ref 66), some (.int a1), some (.int 0), some (.int a3), none]) (st' := [.int a1]) (h' := p1_h) (cl' := 0) (sl' := 0) rfl ?_
            refine ik_Wc 75 1 3 [.int a1] [] rfl rfl rfl (by decide) rfl rfl rfl ?_
            refine ik_Wk 4 (pc' := 4) (loc' := [some (.int a1)]) (st' := [.long 1, .long 0, .long a1.toInt64]) (h' := p1_h) (cl' := 0) (sl' := 0) rfl ?_
            refine ik_Wc 70 3 3 [.long a1.toInt64, .long 0, .long 1] [] rfl rfl rfl (by decide) rfl rfl rfl ?_
            refine ik_Wif 4 (c := (lg_cmp a1.toInt64 (0 : Int64)) < 0) 17 6 (loc' := [some (.long a1.toInt64), none, some (.long 0), none, some (.long 1), none]) (st' := []) (h' := p1_h) (cl' := 0) (sl' := 0) rfl (fun hc26 => ?_) (fun hc26 => ?_)
            · exfalso
              (try simp only [lg_lt0, lg_gt0] at hc2 hc16 hc26) <;> simp only [cv_eq, cv_lt, cv_le, cv_64, (show (0 : Int32).toInt = 0 from by decide), (show (0 : Int64).toInt = 0 from by decide), (show (1 : Int32).toInt = 1 from by decide), (show (1 : Int64).toInt = 1 from by decide), (show (2 : Int32).toInt = 2 from by decide), (show (2 : Int64).toInt = 2 from by decide)] at hc2 hc16 hc26 <;> omega
            · refine ik_Wif 4 (c := 0 < (lg_cmp a1.toInt64 (1 : Int64))) 17 13 (loc' := [some (.long a1.toInt64), none, some (.long 0), none, some (.long 1), none]) (st' := []) (h' := p1_h) (cl' := 0) (sl' := 0) rfl (fun hc27 => ?_) (fun hc27 => ?_)
              · exfalso
                (try simp only [lg_lt0, lg_gt0] at hc2 hc16 hc26 hc27) <;> simp only [cv_eq, cv_lt, cv_le, cv_64, (show (0 : Int32).toInt = 0 from by decide), (show (0 : Int64).toInt = 0 from by decide), (show (1 : Int32).toInt = 1 from by decide), (show (1 : Int64).toInt = 1 from by decide), (show (2 : Int32).toInt = 2 from by decide), (show (2 : Int64).toInt = 2 from by decide)] at hc2 hc16 hc26 hc27 <;> omega
              · refine ik_Wk 2 (pc' := 18) (loc' := [some (.long a1.toInt64), none, some (.long 0), none, some (.long 1), none]) (st' := [.int 1]) (h' := p1_h) (cl' := 0) (sl' := 0) rfl ?_
                refine ik_Wret rfl rfl ⟨_, _, rfl, rfl, ?_⟩
                refine ik_Wret rfl rfl ⟨_, _, rfl, rfl, ?_⟩
                refine ik_Wk 4 (pc' := 15) (loc' := [some (.ref 66), some (.int a1), some (.int 0), some (.int a3), none]) (st' := [.int a3]) (h' := p1_h) (cl' := 0) (sl' := 0) rfl ?_
                refine ik_Wc 76 1 3 [.int a3] [] rfl rfl rfl (by decide) rfl rfl rfl ?_
                refine ik_Wk 4 (pc' := 6) (loc' := [some (.int a3)]) (st' := [.long 2, .long 0, .long a3.toInt64]) (h' := p1_h) (cl' := 0) (sl' := 0) rfl ?_
                refine ik_Wc 70 3 3 [.long a3.toInt64, .long 0, .long 2] [] rfl rfl rfl (by decide) rfl rfl rfl ?_
                refine ik_Wif 4 (c := (lg_cmp a3.toInt64 (0 : Int64)) < 0) 17 6 (loc' := [some (.long a3.toInt64), none, some (.long 0), none, some (.long 2), none]) (st' := []) (h' := p1_h) (cl' := 0) (sl' := 0) rfl (fun hc28 => ?_) (fun hc28 => ?_)
                · exfalso
                  (try simp only [lg_lt0, lg_gt0] at hc17 hc21 hc28) <;> simp only [cv_eq, cv_lt, cv_le, cv_64, (show (0 : Int32).toInt = 0 from by decide), (show (0 : Int64).toInt = 0 from by decide), (show (1 : Int32).toInt = 1 from by decide), (show (1 : Int64).toInt = 1 from by decide), (show (2 : Int32).toInt = 2 from by decide), (show (2 : Int64).toInt = 2 from by decide)] at hc17 hc21 hc28 <;> omega
                · refine ik_Wif 4 (c := 0 < (lg_cmp a3.toInt64 (2 : Int64))) 17 13 (loc' := [some (.long a3.toInt64), none, some (.long 0), none, some (.long 2), none]) (st' := []) (h' := p1_h) (cl' := 0) (sl' := 0) rfl (fun hc29 => ?_) (fun hc29 => ?_)
                  · exfalso
                    (try simp only [lg_lt0, lg_gt0] at hc17 hc21 hc28 hc29) <;> simp only [cv_eq, cv_lt, cv_le, cv_64, (show (0 : Int32).toInt = 0 from by decide), (show (0 : Int64).toInt = 0 from by decide), (show (1 : Int32).toInt = 1 from by decide), (show (1 : Int64).toInt = 1 from by decide), (show (2 : Int32).toInt = 2 from by decide), (show (2 : Int64).toInt = 2 from by decide)] at hc17 hc21 hc28 hc29 <;> omega
                  · refine ik_Wk 2 (pc' := 18) (loc' := [some (.long a3.toInt64), none, some (.long 0), none, some (.long 2), none]) (st' := [.int 1]) (h' := p1_h) (cl' := 0) (sl' := 0) rfl ?_
                    refine ik_Wret rfl rfl ⟨_, _, rfl, rfl, ?_⟩
                    refine ik_Wret rfl rfl ⟨_, _, rfl, rfl, ?_⟩
                    refine ik_Wk 8 (pc' := 43) (loc' := [some (.ref 66), some (.int a1), some (.int 0), some (.int a3), none]) (st' := [.long 2, .long 0, .long 0]) (h' := p1_h) (cl' := 0) (sl' := 0) rfl ?_
                    refine ik_Wc 70 3 3 [.long 0, .long 0, .long 2] [] rfl rfl rfl (by decide) rfl rfl rfl ?_
                    refine ik_Wk 10 (pc' := 18) (loc' := [some (.long 0), none, some (.long 0), none, some (.long 2), none]) (st' := [.int 1]) (h' := p1_h) (cl' := 0) (sl' := 0) rfl ?_
                    refine ik_Wret rfl rfl ⟨_, _, rfl, rfl, ?_⟩
                    refine ik_Wk 5 (pc' := 70) (loc' := [some (.ref 66), some (.int a1), some (.int 0), some (.int a3), none]) (st' := [.ref 66]) (h' := p1_h) (cl' := 0) (sl' := 0) rfl ?_
                    refine ik_Wc 77 1 0 [.ref 66] [] rfl rfl rfl (by decide) rfl rfl rfl ?_
                    refine ik_Wk 5 (pc' := 13) (loc' := [some (.ref 66)]) (st' := [.int 0]) (h' := p1_h) (cl' := 0) (sl' := 0) rfl ?_
                    refine ik_Wret rfl rfl ⟨_, _, rfl, rfl, ?_⟩
                    refine ik_Wk 2 (pc' := 78) (loc' := [some (.ref 66), some (.int a1), some (.int 0), some (.int a3), none]) (st' := [.int (-1000000003)]) (h' := p1_h) (cl' := 0) (sl' := 0) rfl ?_
                    refine ik_Wret rfl rfl ⟨_, _, rfl, rfl, ?_⟩
                    refine ik_Wk 10 (pc' := 1138) (loc' := [some (.retAddr 0), some (.ref 0), some (.ref 66), some (.int 5)]) (st' := [.int 1]) (h' := p1_h) (cl' := 94) (sl' := 4156) rfl ?_
                    exact ik_Wret rfl rfl ⟨rfl, rfl, Nat.le_of_ble_eq_true rfl, Nat.le_of_ble_eq_true rfl⟩
      · refine ik_Wk 1 (pc' := 14) (loc' := [some (.int a1)]) (st' := [.int 0]) (h' := p1_h) (cl' := 0) (sl' := 0) rfl ?_
        refine ik_Wret rfl rfl ⟨_, _, rfl, rfl, ?_⟩
        refine ik_Wk 2 (pc' := 36) (loc' := [some (.ref 0), some (.int a1), some (.int 0), some (.int a3), none]) (st' := [.int (-1000000001)]) (h' := p1_h) (cl' := 0) (sl' := 0) rfl ?_
        refine ik_Wret rfl rfl ⟨_, _, rfl, rfl, ?_⟩
        refine ik_Wk 16 (pc' := 362) (loc' := [some (.retAddr 0), some (.ref 0), some (.ref 66), some (.int 0)]) (st' := [.int a3, .int 0, .int a1, .ref 66, .int (-1000000001)]) (h' := p1_h) (cl' := 94) (sl' := 4156) rfl ?_
        refine ik_Wc 87 4 0 [.ref 66, .int a1, .int 0, .int a3] [.int (-1000000001)] rfl rfl rfl (by decide) rfl rfl rfl ?_
        refine ik_Wk 1 (pc' := 1) (loc' := [some (.ref 66), some (.int a1), some (.int 0), some (.int a3), none]) (st' := [.int a1]) (h' := p1_h) (cl' := 0) (sl' := 0) rfl ?_
        refine ik_Wc 75 1 3 [.int a1] [] rfl rfl rfl (by decide) rfl rfl rfl ?_
        refine ik_Wk 4 (pc' := 4) (loc' := [some (.int a1)]) (st' := [.long 1, .long 0, .long a1.toInt64]) (h' := p1_h) (cl' := 0) (sl' := 0) rfl ?_
        refine ik_Wc 70 3 3 [.long a1.toInt64, .long 0, .long 1] [] rfl rfl rfl (by decide) rfl rfl rfl ?_
        refine ik_Wif 4 (c := (lg_cmp a1.toInt64 (0 : Int64)) < 0) 17 6 (loc' := [some (.long a1.toInt64), none, some (.long 0), none, some (.long 1), none]) (st' := []) (h' := p1_h) (cl' := 0) (sl' := 0) rfl (fun hc30 => ?_) (fun hc30 => ?_)
        · refine ik_Wk 1 (pc' := 18) (loc' := [some (.long a1.toInt64), none, some (.long 0), none, some (.long 1), none]) (st' := [.int 0]) (h' := p1_h) (cl' := 0) (sl' := 0) rfl ?_
          refine ik_Wret rfl rfl ⟨_, _, rfl, rfl, ?_⟩
          refine ik_Wret rfl rfl ⟨_, _, rfl, rfl, ?_⟩
          refine ik_Wk 2 (pc' := 9) (loc' := [some (.ref 66), some (.int a1), some (.int 0), some (.int a3), none]) (st' := [.int (-1000000001)]) (h' := p1_h) (cl' := 0) (sl' := 0) rfl ?_
          refine ik_Wret rfl rfl ⟨_, _, rfl, rfl, ?_⟩
          refine ik_Wk 10 (pc' := 1138) (loc' := [some (.retAddr 0), some (.ref 0), some (.ref 66), some (.int 5)]) (st' := [.int 1]) (h' := p1_h) (cl' := 94) (sl' := 4156) rfl ?_
          exact ik_Wret rfl rfl ⟨rfl, rfl, Nat.le_of_ble_eq_true rfl, Nat.le_of_ble_eq_true rfl⟩
        · refine ik_Wif 4 (c := 0 < (lg_cmp a1.toInt64 (1 : Int64))) 17 13 (loc' := [some (.long a1.toInt64), none, some (.long 0), none, some (.long 1), none]) (st' := []) (h' := p1_h) (cl' := 0) (sl' := 0) rfl (fun hc31 => ?_) (fun hc31 => ?_)
          · refine ik_Wk 1 (pc' := 18) (loc' := [some (.long a1.toInt64), none, some (.long 0), none, some (.long 1), none]) (st' := [.int 0]) (h' := p1_h) (cl' := 0) (sl' := 0) rfl ?_
            refine ik_Wret rfl rfl ⟨_, _, rfl, rfl, ?_⟩
            refine ik_Wret rfl rfl ⟨_, _, rfl, rfl, ?_⟩
            refine ik_Wk 2 (pc' := 9) (loc' := [some (.ref 66), some (.int a1), some (.int 0), some (.int a3), none]) (st' := [.int (-1000000001)]) (h' := p1_h) (cl' := 0) (sl' := 0) rfl ?_
            refine ik_Wret rfl rfl ⟨_, _, rfl, rfl, ?_⟩
            refine ik_Wk 10 (pc' := 1138) (loc' := [some (.retAddr 0), some (.ref 0), some (.ref 66), some (.int 5)]) (st' := [.int 1]) (h' := p1_h) (cl' := 94) (sl' := 4156) rfl ?_
            exact ik_Wret rfl rfl ⟨rfl, rfl, Nat.le_of_ble_eq_true rfl, Nat.le_of_ble_eq_true rfl⟩
          · exfalso
            (try simp only [lg_lt0, lg_gt0] at hc2 hc16 hc30 hc31) <;> simp only [cv_eq, cv_lt, cv_le, cv_64, (show (0 : Int32).toInt = 0 from by decide), (show (0 : Int64).toInt = 0 from by decide), (show (1 : Int32).toInt = 1 from by decide), (show (1 : Int64).toInt = 1 from by decide)] at hc2 hc16 hc30 hc31 <;> omega
  · refine ik_Wk 16 (pc' := 343) (loc' := [some (.retAddr 0), some (.ref 0), some (.ref 66), some (.int 0)]) (st' := [.int a3, .int 1, .int a1, .ref 0]) (h' := p1_h) (cl' := 94) (sl' := 4156) rfl ?_
    refine ik_Wc 39 4 0 [.ref 0, .int a1, .int 1, .int a3] [] rfl rfl rfl (by decide) rfl rfl rfl ?_
    refine ik_Wk 1 (pc' := 1) (loc' := [some (.ref 0), some (.int a1), some (.int 1), some (.int a3), none]) (st' := [.int a1]) (h' := p1_h) (cl' := 0) (sl' := 0) rfl ?_
    refine ik_Wc 65 1 3 [.int a1] [] rfl rfl rfl (by decide) rfl rfl rfl ?_
    refine ik_Wif 2 (c := a1 = 0) 9 4 (loc' := [some (.int a1)]) (st' := []) (h' := p1_h) (cl' := 0) (sl' := 0) rfl (fun hc32 => ?_) (fun hc32 => ?_)
    · refine ik_Wk 2 (pc' := 14) (loc' := [some (.int a1)]) (st' := [.int 1]) (h' := p1_h) (cl' := 0) (sl' := 0) rfl ?_
      refine ik_Wret rfl rfl ⟨_, _, rfl, rfl, ?_⟩
      refine ik_Wk 9 (pc' := 28) (loc' := [some (.ref 0), some (.int a1), some (.int 1), some (.int a3), none]) (st' := [.int a3, .ref 7]) (h' := p1_h) (cl' := 0) (sl' := 0) rfl ?_
      refine ik_Wc 4 2 0 [.ref 7, .int a3] [] rfl rfl rfl (by decide) rfl rfl rfl ?_
      refine ik_Wif 2 (c := a3 < 0) 18 4 (loc' := [some (.ref 7), some (.int a3)]) (st' := []) (h' := p1_h) (cl' := 0) (sl' := 0) rfl (fun hc33 => ?_) (fun hc33 => ?_)
      · refine ik_Wk 1 (pc' := 19) (loc' := [some (.ref 7), some (.int a3)]) (st' := [.int 0]) (h' := p1_h) (cl' := 0) (sl' := 0) rfl ?_
        refine ik_Wret rfl rfl ⟨_, _, rfl, rfl, ?_⟩
        refine ik_Wk 2 (pc' := 36) (loc' := [some (.ref 0), some (.int a1), some (.int 1), some (.int a3), none]) (st' := [.int (-1000000001)]) (h' := p1_h) (cl' := 0) (sl' := 0) rfl ?_
        refine ik_Wret rfl rfl ⟨_, _, rfl, rfl, ?_⟩
        refine ik_Wk 16 (pc' := 362) (loc' := [some (.retAddr 0), some (.ref 0), some (.ref 66), some (.int 0)]) (st' := [.int a3, .int 1, .int a1, .ref 66, .int (-1000000001)]) (h' := p1_h) (cl' := 94) (sl' := 4156) rfl ?_
        refine ik_Wc 87 4 0 [.ref 66, .int a1, .int 1, .int a3] [.int (-1000000001)] rfl rfl rfl (by decide) rfl rfl rfl ?_
        refine ik_Wk 1 (pc' := 1) (loc' := [some (.ref 66), some (.int a1), some (.int 1), some (.int a3), none]) (st' := [.int a1]) (h' := p1_h) (cl' := 0) (sl' := 0) rfl ?_
        refine ik_Wc 75 1 3 [.int a1] [] rfl rfl rfl (by decide) rfl rfl rfl ?_
        refine ik_Wk 4 (pc' := 4) (loc' := [some (.int a1)]) (st' := [.long 1, .long 0, .long a1.toInt64]) (h' := p1_h) (cl' := 0) (sl' := 0) rfl ?_
        refine ik_Wc 70 3 3 [.long a1.toInt64, .long 0, .long 1] [] rfl rfl rfl (by decide) rfl rfl rfl ?_
        refine ik_Wif 4 (c := (lg_cmp a1.toInt64 (0 : Int64)) < 0) 17 6 (loc' := [some (.long a1.toInt64), none, some (.long 0), none, some (.long 1), none]) (st' := []) (h' := p1_h) (cl' := 0) (sl' := 0) rfl (fun hc34 => ?_) (fun hc34 => ?_)
        · exfalso
          (try simp only [lg_lt0, lg_gt0] at hc32 hc34) <;> simp only [cv_eq, cv_lt, cv_le, cv_64, (show (0 : Int32).toInt = 0 from by decide), (show (0 : Int64).toInt = 0 from by decide)] at hc32 hc34 <;> omega
        · refine ik_Wif 4 (c := 0 < (lg_cmp a1.toInt64 (1 : Int64))) 17 13 (loc' := [some (.long a1.toInt64), none, some (.long 0), none, some (.long 1), none]) (st' := []) (h' := p1_h) (cl' := 0) (sl' := 0) rfl (fun hc35 => ?_) (fun hc35 => ?_)
          · exfalso
            (try simp only [lg_lt0, lg_gt0] at hc32 hc34 hc35) <;> simp only [cv_eq, cv_lt, cv_le, cv_64, (show (0 : Int32).toInt = 0 from by decide), (show (0 : Int64).toInt = 0 from by decide), (show (1 : Int32).toInt = 1 from by decide), (show (1 : Int64).toInt = 1 from by decide)] at hc32 hc34 hc35 <;> omega
          · refine ik_Wk 2 (pc' := 18) (loc' := [some (.long a1.toInt64), none, some (.long 0), none, some (.long 1), none]) (st' := [.int 1]) (h' := p1_h) (cl' := 0) (sl' := 0) rfl ?_
            refine ik_Wret rfl rfl ⟨_, _, rfl, rfl, ?_⟩
            refine ik_Wret rfl rfl ⟨_, _, rfl, rfl, ?_⟩
            refine ik_Wk 8 (pc' := 28) (loc' := [some (.ref 66), some (.int a1), some (.int 1), some (.int a3), none]) (st' := [.int a3, .ref 66]) (h' := p1_h) (cl' := 0) (sl' := 0) rfl ?_
            refine ik_Wc 74 2 0 [.ref 66, .int a3] [] rfl rfl rfl (by decide) rfl rfl rfl ?_
            refine ik_Wk 8 (pc' := 10) (loc' := [some (.ref 66), some (.int a3)]) (st' := [.long (-2), .long 0, .long a3.toInt64]) (h' := p1_h) (cl' := 0) (sl' := 0) rfl ?_
            refine ik_Wc 70 3 3 [.long a3.toInt64, .long 0, .long (-2)] [] rfl rfl rfl (by decide) rfl rfl rfl ?_
            refine ik_Wif 4 (c := (lg_cmp a3.toInt64 (0 : Int64)) < 0) 17 6 (loc' := [some (.long a3.toInt64), none, some (.long 0), none, some (.long (-2)), none]) (st' := []) (h' := p1_h) (cl' := 0) (sl' := 0) rfl (fun hc36 => ?_) (fun hc36 => ?_)
            · refine ik_Wk 1 (pc' := 18) (loc' := [some (.long a3.toInt64), none, some (.long 0), none, some (.long (-2)), none]) (st' := [.int 0]) (h' := p1_h) (cl' := 0) (sl' := 0) rfl ?_
              refine ik_Wret rfl rfl ⟨_, _, rfl, rfl, ?_⟩
              refine ik_Wret rfl rfl ⟨_, _, rfl, rfl, ?_⟩
              refine ik_Wk 2 (pc' := 36) (loc' := [some (.ref 66), some (.int a1), some (.int 1), some (.int a3), none]) (st' := [.int (-1000000001)]) (h' := p1_h) (cl' := 0) (sl' := 0) rfl ?_
              refine ik_Wret rfl rfl ⟨_, _, rfl, rfl, ?_⟩
              refine ik_Wk 10 (pc' := 1138) (loc' := [some (.retAddr 0), some (.ref 0), some (.ref 66), some (.int 5)]) (st' := [.int 1]) (h' := p1_h) (cl' := 94) (sl' := 4156) rfl ?_
              exact ik_Wret rfl rfl ⟨rfl, rfl, Nat.le_of_ble_eq_true rfl, Nat.le_of_ble_eq_true rfl⟩
            · exfalso
              (try simp only [lg_lt0, lg_gt0] at hc33 hc36) <;> simp only [cv_eq, cv_lt, cv_le, cv_64, (show (0 : Int32).toInt = 0 from by decide), (show (0 : Int64).toInt = 0 from by decide), (show (1 : Int32).toInt = 1 from by decide), (show (1 : Int64).toInt = 1 from by decide)] at hc33 hc36 <;> omega
      · refine ik_Wif 6 (c := (-1 : Int32) ≤ a3) 18 14 (loc' := [some (.ref 7), some (.int a3)]) (st' := []) (h' := p1_h) (cl' := 0) (sl' := 0) rfl (fun hc37 => ?_) (fun hc37 => ?_)
        · refine ik_Wk 1 (pc' := 19) (loc' := [some (.ref 7), some (.int a3)]) (st' := [.int 0]) (h' := p1_h) (cl' := 0) (sl' := 0) rfl ?_
          refine ik_Wret rfl rfl ⟨_, _, rfl, rfl, ?_⟩
          refine ik_Wk 2 (pc' := 36) (loc' := [some (.ref 0), some (.int a1), some (.int 1), some (.int a3), none]) (st' := [.int (-1000000001)]) (h' := p1_h) (cl' := 0) (sl' := 0) rfl ?_
          refine ik_Wret rfl rfl ⟨_, _, rfl, rfl, ?_⟩
          refine ik_Wk 16 (pc' := 362) (loc' := [some (.retAddr 0), some (.ref 0), some (.ref 66), some (.int 0)]) (st' := [.int a3, .int 1, .int a1, .ref 66, .int (-1000000001)]) (h' := p1_h) (cl' := 94) (sl' := 4156) rfl ?_
          refine ik_Wc 87 4 0 [.ref 66, .int a1, .int 1, .int a3] [.int (-1000000001)] rfl rfl rfl (by decide) rfl rfl rfl ?_
          refine ik_Wk 1 (pc' := 1) (loc' := [some (.ref 66), some (.int a1), some (.int 1), some (.int a3), none]) (st' := [.int a1]) (h' := p1_h) (cl' := 0) (sl' := 0) rfl ?_
          refine ik_Wc 75 1 3 [.int a1] [] rfl rfl rfl (by decide) rfl rfl rfl ?_
          refine ik_Wk 4 (pc' := 4) (loc' := [some (.int a1)]) (st' := [.long 1, .long 0, .long a1.toInt64]) (h' := p1_h) (cl' := 0) (sl' := 0) rfl ?_
          refine ik_Wc 70 3 3 [.long a1.toInt64, .long 0, .long 1] [] rfl rfl rfl (by decide) rfl rfl rfl ?_
          refine ik_Wif 4 (c := (lg_cmp a1.toInt64 (0 : Int64)) < 0) 17 6 (loc' := [some (.long a1.toInt64), none, some (.long 0), none, some (.long 1), none]) (st' := []) (h' := p1_h) (cl' := 0) (sl' := 0) rfl (fun hc38 => ?_) (fun hc38 => ?_)
          · exfalso
            (try simp only [lg_lt0, lg_gt0] at hc32 hc38) <;> simp only [cv_eq, cv_lt, cv_le, cv_64, (show (-1 : Int32).toInt = -1 from by decide), (show (-1 : Int64).toInt = -1 from by decide), (show (0 : Int32).toInt = 0 from by decide), (show (0 : Int64).toInt = 0 from by decide)] at hc32 hc38 <;> omega
          · refine ik_Wif 4 (c := 0 < (lg_cmp a1.toInt64 (1 : Int64))) 17 13 (loc' := [some (.long a1.toInt64), none, some (.long 0), none, some (.long 1), none]) (st' := []) (h' := p1_h) (cl' := 0) (sl' := 0) rfl (fun hc39 => ?_) (fun hc39 => ?_)
            · exfalso
              (try simp only [lg_lt0, lg_gt0] at hc32 hc38 hc39) <;> simp only [cv_eq, cv_lt, cv_le, cv_64, (show (-1 : Int32).toInt = -1 from by decide), (show (-1 : Int64).toInt = -1 from by decide), (show (0 : Int32).toInt = 0 from by decide), (show (0 : Int64).toInt = 0 from by decide), (show (1 : Int32).toInt = 1 from by decide), (show (1 : Int64).toInt = 1 from by decide)] at hc32 hc38 hc39 <;> omega
            · refine ik_Wk 2 (pc' := 18) (loc' := [some (.long a1.toInt64), none, some (.long 0), none, some (.long 1), none]) (st' := [.int 1]) (h' := p1_h) (cl' := 0) (sl' := 0) rfl ?_
              refine ik_Wret rfl rfl ⟨_, _, rfl, rfl, ?_⟩
              refine ik_Wret rfl rfl ⟨_, _, rfl, rfl, ?_⟩
              refine ik_Wk 8 (pc' := 28) (loc' := [some (.ref 66), some (.int a1), some (.int 1), some (.int a3), none]) (st' := [.int a3, .ref 66]) (h' := p1_h) (cl' := 0) (sl' := 0) rfl ?_
              refine ik_Wc 74 2 0 [.ref 66, .int a3] [] rfl rfl rfl (by decide) rfl rfl rfl ?_
              refine ik_Wk 8 (pc' := 10) (loc' := [some (.ref 66), some (.int a3)]) (st' := [.long (-2), .long 0, .long a3.toInt64]) (h' := p1_h) (cl' := 0) (sl' := 0) rfl ?_
              refine ik_Wc 70 3 3 [.long a3.toInt64, .long 0, .long (-2)] [] rfl rfl rfl (by decide) rfl rfl rfl ?_
              refine ik_Wif 4 (c := (lg_cmp a3.toInt64 (0 : Int64)) < 0) 17 6 (loc' := [some (.long a3.toInt64), none, some (.long 0), none, some (.long (-2)), none]) (st' := []) (h' := p1_h) (cl' := 0) (sl' := 0) rfl (fun hc40 => ?_) (fun hc40 => ?_)
              · exfalso
                (try simp only [lg_lt0, lg_gt0] at hc33 hc37 hc40) <;> simp only [cv_eq, cv_lt, cv_le, cv_64, (show (-1 : Int32).toInt = -1 from by decide), (show (-1 : Int64).toInt = -1 from by decide), (show (0 : Int32).toInt = 0 from by decide), (show (0 : Int64).toInt = 0 from by decide), (show (1 : Int32).toInt = 1 from by decide), (show (1 : Int64).toInt = 1 from by decide)] at hc33 hc37 hc40 <;> omega
              · refine ik_Wif 4 (c := 0 < (lg_cmp a3.toInt64 (-2 : Int64))) 17 13 (loc' := [some (.long a3.toInt64), none, some (.long 0), none, some (.long (-2)), none]) (st' := []) (h' := p1_h) (cl' := 0) (sl' := 0) rfl (fun hc41 => ?_) (fun hc41 => ?_)
                · refine ik_Wk 1 (pc' := 18) (loc' := [some (.long a3.toInt64), none, some (.long 0), none, some (.long (-2)), none]) (st' := [.int 0]) (h' := p1_h) (cl' := 0) (sl' := 0) rfl ?_
                  refine ik_Wret rfl rfl ⟨_, _, rfl, rfl, ?_⟩
                  refine ik_Wret rfl rfl ⟨_, _, rfl, rfl, ?_⟩
                  refine ik_Wk 2 (pc' := 36) (loc' := [some (.ref 66), some (.int a1), some (.int 1), some (.int a3), none]) (st' := [.int (-1000000001)]) (h' := p1_h) (cl' := 0) (sl' := 0) rfl ?_
                  refine ik_Wret rfl rfl ⟨_, _, rfl, rfl, ?_⟩
                  refine ik_Wk 10 (pc' := 1138) (loc' := [some (.retAddr 0), some (.ref 0), some (.ref 66), some (.int 5)]) (st' := [.int 1]) (h' := p1_h) (cl' := 94) (sl' := 4156) rfl ?_
                  exact ik_Wret rfl rfl ⟨rfl, rfl, Nat.le_of_ble_eq_true rfl, Nat.le_of_ble_eq_true rfl⟩
                · exfalso
                  (try simp only [lg_lt0, lg_gt0] at hc33 hc37 hc40 hc41) <;> simp only [cv_eq, cv_lt, cv_le, cv_64, (show (-2 : Int32).toInt = -2 from by decide), (show (-2 : Int64).toInt = -2 from by decide), (show (-1 : Int32).toInt = -1 from by decide), (show (-1 : Int64).toInt = -1 from by decide), (show (0 : Int32).toInt = 0 from by decide), (show (0 : Int64).toInt = 0 from by decide), (show (1 : Int32).toInt = 1 from by decide), (show (1 : Int64).toInt = 1 from by decide)] at hc33 hc37 hc40 hc41 <;> omega
        · exfalso
          (try simp only [lg_lt0, lg_gt0] at hc33 hc37) <;> simp only [cv_eq, cv_lt, cv_le, cv_64, (show (-1 : Int32).toInt = -1 from by decide), (show (-1 : Int64).toInt = -1 from by decide), (show (0 : Int32).toInt = 0 from by decide), (show (0 : Int64).toInt = 0 from by decide)] at hc33 hc37 <;> omega
    · refine ik_Wif 3 (c := a1 = (1 : Int32)) 9 13 (loc' := [some (.int a1)]) (st' := []) (h' := p1_h) (cl' := 0) (sl' := 0) rfl (fun hc42 => ?_) (fun hc42 => ?_)
      · refine ik_Wk 2 (pc' := 14) (loc' := [some (.int a1)]) (st' := [.int 1]) (h' := p1_h) (cl' := 0) (sl' := 0) rfl ?_
        refine ik_Wret rfl rfl ⟨_, _, rfl, rfl, ?_⟩
        refine ik_Wk 9 (pc' := 28) (loc' := [some (.ref 0), some (.int a1), some (.int 1), some (.int a3), none]) (st' := [.int a3, .ref 7]) (h' := p1_h) (cl' := 0) (sl' := 0) rfl ?_
        refine ik_Wc 4 2 0 [.ref 7, .int a3] [] rfl rfl rfl (by decide) rfl rfl rfl ?_
        refine ik_Wif 2 (c := a3 < 0) 18 4 (loc' := [some (.ref 7), some (.int a3)]) (st' := []) (h' := p1_h) (cl' := 0) (sl' := 0) rfl (fun hc43 => ?_) (fun hc43 => ?_)
        · refine ik_Wk 1 (pc' := 19) (loc' := [some (.ref 7), some (.int a3)]) (st' := [.int 0]) (h' := p1_h) (cl' := 0) (sl' := 0) rfl ?_
          refine ik_Wret rfl rfl ⟨_, _, rfl, rfl, ?_⟩
          refine ik_Wk 2 (pc' := 36) (loc' := [some (.ref 0), some (.int a1), some (.int 1), some (.int a3), none]) (st' := [.int (-1000000001)]) (h' := p1_h) (cl' := 0) (sl' := 0) rfl ?_
          refine ik_Wret rfl rfl ⟨_, _, rfl, rfl, ?_⟩
          refine ik_Wk 16 (pc' := 362) (loc' := [some (.retAddr 0), some (.ref 0), some (.ref 66), some (.int 0)]) (st' := [.int a3, .int 1, .int a1, .ref 66, .int (-1000000001)]) (h' := p1_h) (cl' := 94) (sl' := 4156) rfl ?_
          refine ik_Wc 87 4 0 [.ref 66, .int a1, .int 1, .int a3] [.int (-1000000001)] rfl rfl rfl (by decide) rfl rfl rfl ?_
          refine ik_Wk 1 (pc' := 1) (loc' := [some (.ref 66), some (.int a1), some (.int 1), some (.int a3), none]) (st' := [.int a1]) (h' := p1_h) (cl' := 0) (sl' := 0) rfl ?_
          refine ik_Wc 75 1 3 [.int a1] [] rfl rfl rfl (by decide) rfl rfl rfl ?_
          refine ik_Wk 4 (pc' := 4) (loc' := [some (.int a1)]) (st' := [.long 1, .long 0, .long a1.toInt64]) (h' := p1_h) (cl' := 0) (sl' := 0) rfl ?_
          refine ik_Wc 70 3 3 [.long a1.toInt64, .long 0, .long 1] [] rfl rfl rfl (by decide) rfl rfl rfl ?_
          refine ik_Wif 4 (c := (lg_cmp a1.toInt64 (0 : Int64)) < 0) 17 6 (loc' := [some (.long a1.toInt64), none, some (.long 0), none, some (.long 1), none]) (st' := []) (h' := p1_h) (cl' := 0) (sl' := 0) rfl (fun hc44 => ?_) (fun hc44 => ?_)
          · exfalso
            (try simp only [lg_lt0, lg_gt0] at hc32 hc42 hc44) <;> simp only [cv_eq, cv_lt, cv_le, cv_64, (show (0 : Int32).toInt = 0 from by decide), (show (0 : Int64).toInt = 0 from by decide), (show (1 : Int32).toInt = 1 from by decide), (show (1 : Int64).toInt = 1 from by decide)] at hc32 hc42 hc44 <;> omega
          · refine ik_Wif 4 (c := 0 < (lg_cmp a1.toInt64 (1 : Int64))) 17 13 (loc' := [some (.long a1.toInt64), none, some (.long 0), none, some (.long 1), none]) (st' := []) (h' := p1_h) (cl' := 0) (sl' := 0) rfl (fun hc45 => ?_) (fun hc45 => ?_)
            · exfalso
              (try simp only [lg_lt0, lg_gt0] at hc32 hc42 hc44 hc45) <;> simp only [cv_eq, cv_lt, cv_le, cv_64, (show (0 : Int32).toInt = 0 from by decide), (show (0 : Int64).toInt = 0 from by decide), (show (1 : Int32).toInt = 1 from by decide), (show (1 : Int64).toInt = 1 from by decide)] at hc32 hc42 hc44 hc45 <;> omega
            · refine ik_Wk 2 (pc' := 18) (loc' := [some (.long a1.toInt64), none, some (.long 0), none, some (.long 1), none]) (st' := [.int 1]) (h' := p1_h) (cl' := 0) (sl' := 0) rfl ?_
              refine ik_Wret rfl rfl ⟨_, _, rfl, rfl, ?_⟩
              refine ik_Wret rfl rfl ⟨_, _, rfl, rfl, ?_⟩
              refine ik_Wk 8 (pc' := 28) (loc' := [some (.ref 66), some (.int a1), some (.int 1), some (.int a3), none]) (st' := [.int a3, .ref 66]) (h' := p1_h) (cl' := 0) (sl' := 0) rfl ?_
              refine ik_Wc 74 2 0 [.ref 66, .int a3] [] rfl rfl rfl (by decide) rfl rfl rfl ?_
              refine ik_Wk 8 (pc' := 10) (loc' := [some (.ref 66), some (.int a3)]) (st' := [.long (-2), .long 0, .long a3.toInt64]) (h' := p1_h) (cl' := 0) (sl' := 0) rfl ?_
              refine ik_Wc 70 3 3 [.long a3.toInt64, .long 0, .long (-2)] [] rfl rfl rfl (by decide) rfl rfl rfl ?_
              refine ik_Wif 4 (c := (lg_cmp a3.toInt64 (0 : Int64)) < 0) 17 6 (loc' := [some (.long a3.toInt64), none, some (.long 0), none, some (.long (-2)), none]) (st' := []) (h' := p1_h) (cl' := 0) (sl' := 0) rfl (fun hc46 => ?_) (fun hc46 => ?_)
              · refine ik_Wk 1 (pc' := 18) (loc' := [some (.long a3.toInt64), none, some (.long 0), none, some (.long (-2)), none]) (st' := [.int 0]) (h' := p1_h) (cl' := 0) (sl' := 0) rfl ?_
                refine ik_Wret rfl rfl ⟨_, _, rfl, rfl, ?_⟩
                refine ik_Wret rfl rfl ⟨_, _, rfl, rfl, ?_⟩
                refine ik_Wk 2 (pc' := 36) (loc' := [some (.ref 66), some (.int a1), some (.int 1), some (.int a3), none]) (st' := [.int (-1000000001)]) (h' := p1_h) (cl' := 0) (sl' := 0) rfl ?_
                refine ik_Wret rfl rfl ⟨_, _, rfl, rfl, ?_⟩
                refine ik_Wk 10 (pc' := 1138) (loc' := [some (.retAddr 0), some (.ref 0), some (.ref 66), some (.int 5)]) (st' := [.int 1]) (h' := p1_h) (cl' := 94) (sl' := 4156) rfl ?_
                exact ik_Wret rfl rfl ⟨rfl, rfl, Nat.le_of_ble_eq_true rfl, Nat.le_of_ble_eq_true rfl⟩
              · exfalso
                (try simp only [lg_lt0, lg_gt0] at hc43 hc46) <;> simp only [cv_eq, cv_lt, cv_le, cv_64, (show (0 : Int32).toInt = 0 from by decide), (show (0 : Int64).toInt = 0 from by decide), (show (1 : Int32).toInt = 1 from by decide), (show (1 : Int64).toInt = 1 from by decide)] at hc43 hc46 <;> omega
        · refine ik_Wif 6 (c := (-1 : Int32) ≤ a3) 18 14 (loc' := [some (.ref 7), some (.int a3)]) (st' := []) (h' := p1_h) (cl' := 0) (sl' := 0) rfl (fun hc47 => ?_) (fun hc47 => ?_)
          · refine ik_Wk 1 (pc' := 19) (loc' := [some (.ref 7), some (.int a3)]) (st' := [.int 0]) (h' := p1_h) (cl' := 0) (sl' := 0) rfl ?_
            refine ik_Wret rfl rfl ⟨_, _, rfl, rfl, ?_⟩
            refine ik_Wk 2 (pc' := 36) (loc' := [some (.ref 0), some (.int a1), some (.int 1), some (.int a3), none]) (st' := [.int (-1000000001)]) (h' := p1_h) (cl' := 0) (sl' := 0) rfl ?_
            refine ik_Wret rfl rfl ⟨_, _, rfl, rfl, ?_⟩
            refine ik_Wk 16 (pc' := 362) (loc' := [some (.retAddr 0), some (.ref 0), some (.ref 66), some (.int 0)]) (st' := [.int a3, .int 1, .int a1, .ref 66, .int (-1000000001)]) (h' := p1_h) (cl' := 94) (sl' := 4156) rfl ?_
            refine ik_Wc 87 4 0 [.ref 66, .int a1, .int 1, .int a3] [.int (-1000000001)] rfl rfl rfl (by decide) rfl rfl rfl ?_
            refine ik_Wk 1 (pc' := 1) (loc' := [some (.ref 66), some (.int a1), some (.int 1), some (.int a3), none]) (st' := [.int a1]) (h' := p1_h) (cl' := 0) (sl' := 0) rfl ?_
            refine ik_Wc 75 1 3 [.int a1] [] rfl rfl rfl (by decide) rfl rfl rfl ?_
            refine ik_Wk 4 (pc' := 4) (loc' := [some (.int a1)]) (st' := [.long 1, .long 0, .long a1.toInt64]) (h' := p1_h) (cl' := 0) (sl' := 0) rfl ?_
            refine ik_Wc 70 3 3 [.long a1.toInt64, .long 0, .long 1] [] rfl rfl rfl (by decide) rfl rfl rfl ?_
            refine ik_Wif 4 (c := (lg_cmp a1.toInt64 (0 : Int64)) < 0) 17 6 (loc' := [some (.long a1.toInt64), none, some (.long 0), none, some (.long 1), none]) (st' := []) (h' := p1_h) (cl' := 0) (sl' := 0) rfl (fun hc48 => ?_) (fun hc48 => ?_)
            · exfalso
              (try simp only [lg_lt0, lg_gt0] at hc32 hc42 hc48) <;> simp only [cv_eq, cv_lt, cv_le, cv_64, (show (-1 : Int32).toInt = -1 from by decide), (show (-1 : Int64).toInt = -1 from by decide), (show (0 : Int32).toInt = 0 from by decide), (show (0 : Int64).toInt = 0 from by decide), (show (1 : Int32).toInt = 1 from by decide), (show (1 : Int64).toInt = 1 from by decide)] at hc32 hc42 hc48 <;> omega
            · refine ik_Wif 4 (c := 0 < (lg_cmp a1.toInt64 (1 : Int64))) 17 13 (loc' := [some (.long a1.toInt64), none, some (.long 0), none, some (.long 1), none]) (st' := []) (h' := p1_h) (cl' := 0) (sl' := 0) rfl (fun hc49 => ?_) (fun hc49 => ?_)
              · exfalso
                (try simp only [lg_lt0, lg_gt0] at hc32 hc42 hc48 hc49) <;> simp only [cv_eq, cv_lt, cv_le, cv_64, (show (-1 : Int32).toInt = -1 from by decide), (show (-1 : Int64).toInt = -1 from by decide), (show (0 : Int32).toInt = 0 from by decide), (show (0 : Int64).toInt = 0 from by decide), (show (1 : Int32).toInt = 1 from by decide), (show (1 : Int64).toInt = 1 from by decide)] at hc32 hc42 hc48 hc49 <;> omega
              · refine ik_Wk 2 (pc' := 18) (loc' := [some (.long a1.toInt64), none, some (.long 0), none, some (.long 1), none]) (st' := [.int 1]) (h' := p1_h) (cl' := 0) (sl' := 0) rfl ?_
                refine ik_Wret rfl rfl ⟨_, _, rfl, rfl, ?_⟩
                refine ik_Wret rfl rfl ⟨_, _, rfl, rfl, ?_⟩
                refine ik_Wk 8 (pc' := 28) (loc' := [some (.ref 66), some (.int a1), some (.int 1), some (.int a3), none]) (st' := [.int a3, .ref 66]) (h' := p1_h) (cl' := 0) (sl' := 0) rfl ?_
                refine ik_Wc 74 2 0 [.ref 66, .int a3] [] rfl rfl rfl (by decide) rfl rfl rfl ?_
                refine ik_Wk 8 (pc' := 10) (loc' := [some (.ref 66), some (.int a3)]) (st' := [.long (-2), .long 0, .long a3.toInt64]) (h' := p1_h) (cl' := 0) (sl' := 0) rfl ?_
                refine ik_Wc 70 3 3 [.long a3.toInt64, .long 0, .long (-2)] [] rfl rfl rfl (by decide) rfl rfl rfl ?_
                refine ik_Wif 4 (c := (lg_cmp a3.toInt64 (0 : Int64)) < 0) 17 6 (loc' := [some (.long a3.toInt64), none, some (.long 0), none, some (.long (-2)), none]) (st' := []) (h' := p1_h) (cl' := 0) (sl' := 0) rfl (fun hc50 => ?_) (fun hc50 => ?_)
                · exfalso
                  (try simp only [lg_lt0, lg_gt0] at hc43 hc47 hc50) <;> simp only [cv_eq, cv_lt, cv_le, cv_64, (show (-1 : Int32).toInt = -1 from by decide), (show (-1 : Int64).toInt = -1 from by decide), (show (0 : Int32).toInt = 0 from by decide), (show (0 : Int64).toInt = 0 from by decide), (show (1 : Int32).toInt = 1 from by decide), (show (1 : Int64).toInt = 1 from by decide)] at hc43 hc47 hc50 <;> omega
                · refine ik_Wif 4 (c := 0 < (lg_cmp a3.toInt64 (-2 : Int64))) 17 13 (loc' := [some (.long a3.toInt64), none, some (.long 0), none, some (.long (-2)), none]) (st' := []) (h' := p1_h) (cl' := 0) (sl' := 0) rfl (fun hc51 => ?_) (fun hc51 => ?_)
                  · refine ik_Wk 1 (pc' := 18) (loc' := [some (.long a3.toInt64), none, some (.long 0), none, some (.long (-2)), none]) (st' := [.int 0]) (h' := p1_h) (cl' := 0) (sl' := 0) rfl ?_
                    refine ik_Wret rfl rfl ⟨_, _, rfl, rfl, ?_⟩
                    refine ik_Wret rfl rfl ⟨_, _, rfl, rfl, ?_⟩
                    refine ik_Wk 2 (pc' := 36) (loc' := [some (.ref 66), some (.int a1), some (.int 1), some (.int a3), none]) (st' := [.int (-1000000001)]) (h' := p1_h) (cl' := 0) (sl' := 0) rfl ?_
                    refine ik_Wret rfl rfl ⟨_, _, rfl, rfl, ?_⟩
                    refine ik_Wk 10 (pc' := 1138) (loc' := [some (.retAddr 0), some (.ref 0), some (.ref 66), some (.int 5)]) (st' := [.int 1]) (h' := p1_h) (cl' := 94) (sl' := 4156) rfl ?_
                    exact ik_Wret rfl rfl ⟨rfl, rfl, Nat.le_of_ble_eq_true rfl, Nat.le_of_ble_eq_true rfl⟩
                  · exfalso
                    (try simp only [lg_lt0, lg_gt0] at hc43 hc47 hc50 hc51) <;> simp only [cv_eq, cv_lt, cv_le, cv_64, (show (-2 : Int32).toInt = -2 from by decide), (show (-2 : Int64).toInt = -2 from by decide), (show (-1 : Int32).toInt = -1 from by decide), (show (-1 : Int64).toInt = -1 from by decide), (show (0 : Int32).toInt = 0 from by decide), (show (0 : Int64).toInt = 0 from by decide), (show (1 : Int32).toInt = 1 from by decide), (show (1 : Int64).toInt = 1 from by decide)] at hc43 hc47 hc50 hc51 <;> omega
          · exfalso
            (try simp only [lg_lt0, lg_gt0] at hc43 hc47) <;> simp only [cv_eq, cv_lt, cv_le, cv_64, (show (-1 : Int32).toInt = -1 from by decide), (show (-1 : Int64).toInt = -1 from by decide), (show (0 : Int32).toInt = 0 from by decide), (show (0 : Int64).toInt = 0 from by decide), (show (1 : Int32).toInt = 1 from by decide), (show (1 : Int64).toInt = 1 from by decide)] at hc43 hc47 <;> omega
      · refine ik_Wk 1 (pc' := 14) (loc' := [some (.int a1)]) (st' := [.int 0]) (h' := p1_h) (cl' := 0) (sl' := 0) rfl ?_
        refine ik_Wret rfl rfl ⟨_, _, rfl, rfl, ?_⟩
        refine ik_Wk 2 (pc' := 36) (loc' := [some (.ref 0), some (.int a1), some (.int 1), some (.int a3), none]) (st' := [.int (-1000000001)]) (h' := p1_h) (cl' := 0) (sl' := 0) rfl ?_
        refine ik_Wret rfl rfl ⟨_, _, rfl, rfl, ?_⟩
        refine ik_Wk 16 (pc' := 362) (loc' := [some (.retAddr 0), some (.ref 0), some (.ref 66), some (.int 0)]) (st' := [.int a3, .int 1, .int a1, .ref 66, .int (-1000000001)]) (h' := p1_h) (cl' := 94) (sl' := 4156) rfl ?_
        refine ik_Wc 87 4 0 [.ref 66, .int a1, .int 1, .int a3] [.int (-1000000001)] rfl rfl rfl (by decide) rfl rfl rfl ?_
        refine ik_Wk 1 (pc' := 1) (loc' := [some (.ref 66), some (.int a1), some (.int 1), some (.int a3), none]) (st' := [.int a1]) (h' := p1_h) (cl' := 0) (sl' := 0) rfl ?_
        refine ik_Wc 75 1 3 [.int a1] [] rfl rfl rfl (by decide) rfl rfl rfl ?_
        refine ik_Wk 4 (pc' := 4) (loc' := [some (.int a1)]) (st' := [.long 1, .long 0, .long a1.toInt64]) (h' := p1_h) (cl' := 0) (sl' := 0) rfl ?_
        refine ik_Wc 70 3 3 [.long a1.toInt64, .long 0, .long 1] [] rfl rfl rfl (by decide) rfl rfl rfl ?_
        refine ik_Wif 4 (c := (lg_cmp a1.toInt64 (0 : Int64)) < 0) 17 6 (loc' := [some (.long a1.toInt64), none, some (.long 0), none, some (.long 1), none]) (st' := []) (h' := p1_h) (cl' := 0) (sl' := 0) rfl (fun hc52 => ?_) (fun hc52 => ?_)
        · refine ik_Wk 1 (pc' := 18) (loc' := [some (.long a1.toInt64), none, some (.long 0), none, some (.long 1), none]) (st' := [.int 0]) (h' := p1_h) (cl' := 0) (sl' := 0) rfl ?_
          refine ik_Wret rfl rfl ⟨_, _, rfl, rfl, ?_⟩
          refine ik_Wret rfl rfl ⟨_, _, rfl, rfl, ?_⟩
          refine ik_Wk 2 (pc' := 9) (loc' := [some (.ref 66), some (.int a1), some (.int 1), some (.int a3), none]) (st' := [.int (-1000000001)]) (h' := p1_h) (cl' := 0) (sl' := 0) rfl ?_
          refine ik_Wret rfl rfl ⟨_, _, rfl, rfl, ?_⟩
          refine ik_Wk 10 (pc' := 1138) (loc' := [some (.retAddr 0), some (.ref 0), some (.ref 66), some (.int 5)]) (st' := [.int 1]) (h' := p1_h) (cl' := 94) (sl' := 4156) rfl ?_
          exact ik_Wret rfl rfl ⟨rfl, rfl, Nat.le_of_ble_eq_true rfl, Nat.le_of_ble_eq_true rfl⟩
        · refine ik_Wif 4 (c := 0 < (lg_cmp a1.toInt64 (1 : Int64))) 17 13 (loc' := [some (.long a1.toInt64), none, some (.long 0), none, some (.long 1), none]) (st' := []) (h' := p1_h) (cl' := 0) (sl' := 0) rfl (fun hc53 => ?_) (fun hc53 => ?_)
          · refine ik_Wk 1 (pc' := 18) (loc' := [some (.long a1.toInt64), none, some (.long 0), none, some (.long 1), none]) (st' := [.int 0]) (h' := p1_h) (cl' := 0) (sl' := 0) rfl ?_
            refine ik_Wret rfl rfl ⟨_, _, rfl, rfl, ?_⟩
            refine ik_Wret rfl rfl ⟨_, _, rfl, rfl, ?_⟩
            refine ik_Wk 2 (pc' := 9) (loc' := [some (.ref 66), some (.int a1), some (.int 1), some (.int a3), none]) (st' := [.int (-1000000001)]) (h' := p1_h) (cl' := 0) (sl' := 0) rfl ?_
            refine ik_Wret rfl rfl ⟨_, _, rfl, rfl, ?_⟩
            refine ik_Wk 10 (pc' := 1138) (loc' := [some (.retAddr 0), some (.ref 0), some (.ref 66), some (.int 5)]) (st' := [.int 1]) (h' := p1_h) (cl' := 94) (sl' := 4156) rfl ?_
            exact ik_Wret rfl rfl ⟨rfl, rfl, Nat.le_of_ble_eq_true rfl, Nat.le_of_ble_eq_true rfl⟩
          · exfalso
            (try simp only [lg_lt0, lg_gt0] at hc32 hc42 hc52 hc53) <;> simp only [cv_eq, cv_lt, cv_le, cv_64, (show (0 : Int32).toInt = 0 from by decide), (show (0 : Int64).toInt = 0 from by decide), (show (1 : Int32).toInt = 1 from by decide), (show (1 : Int64).toInt = 1 from by decide)] at hc32 hc42 hc52 hc53 <;> omega
  · refine ik_Wk 16 (pc' := 343) (loc' := [some (.retAddr 0), some (.ref 0), some (.ref 66), some (.int 0)]) (st' := [.int a3, .int 2, .int a1, .ref 0]) (h' := p1_h) (cl' := 94) (sl' := 4156) rfl ?_
    refine ik_Wc 39 4 0 [.ref 0, .int a1, .int 2, .int a3] [] rfl rfl rfl (by decide) rfl rfl rfl ?_
    refine ik_Wk 1 (pc' := 1) (loc' := [some (.ref 0), some (.int a1), some (.int 2), some (.int a3), none]) (st' := [.int a1]) (h' := p1_h) (cl' := 0) (sl' := 0) rfl ?_
    refine ik_Wc 65 1 3 [.int a1] [] rfl rfl rfl (by decide) rfl rfl rfl ?_
    refine ik_Wif 2 (c := a1 = 0) 9 4 (loc' := [some (.int a1)]) (st' := []) (h' := p1_h) (cl' := 0) (sl' := 0) rfl (fun hc54 => ?_) (fun hc54 => ?_)
    · refine ik_Wk 2 (pc' := 14) (loc' := [some (.int a1)]) (st' := [.int 1]) (h' := p1_h) (cl' := 0) (sl' := 0) rfl ?_
      refine ik_Wret rfl rfl ⟨_, _, rfl, rfl, ?_⟩
      refine ik_Wif 16 (c := a3 < 0) 61 55 (loc' := [some (.ref 0), some (.int a1), some (.int 2), some (.int a3), none]) (st' := []) (h' := p1_h) (cl' := 0) (sl' := 0) rfl (fun hc55 => ?_) (fun hc55 => ?_)
      · refine ik_Wk 1 (pc' := 63) (loc' := [some (.ref 0), some (.int a1), some (.int 2), some (.int a3), none]) (st' := [.int (-1000000002)]) (h' := p1_h) (cl' := 0) (sl' := 0) rfl ?_
        refine ik_Wret rfl rfl ⟨_, _, rfl, rfl, ?_⟩
        refine ik_Wk 16 (pc' := 362) (loc' := [some (.retAddr 0), some (.ref 0), some (.ref 66), some (.int 0)]) (st' := [.int a3, .int 2, .int a1, .ref 66, .int (-1000000002)]) (h' := p1_h) (cl' := 94) (sl' := 4156) rfl ?_
        refine ik_Wc 87 4 0 [.ref 66, .int a1, .int 2, .int a3] [.int (-1000000002)] rfl rfl rfl (by decide) rfl rfl rfl ?_
        refine ik_Wk 1 (pc' := 1) (loc' := [some (.ref 66), some (.int a1), some (.int 2), some (.int a3), none]) (st' := [.int a1]) (h' := p1_h) (cl' := 0) (sl' := 0) rfl ?_
        refine ik_Wc 75 1 3 [.int a1] [] rfl rfl rfl (by decide) rfl rfl rfl ?_
        refine ik_Wk 4 (pc' := 4) (loc' := [some (.int a1)]) (st' := [.long 1, .long 0, .long a1.toInt64]) (h' := p1_h) (cl' := 0) (sl' := 0) rfl ?_
        refine ik_Wc 70 3 3 [.long a1.toInt64, .long 0, .long 1] [] rfl rfl rfl (by decide) rfl rfl rfl ?_
        refine ik_Wif 4 (c := (lg_cmp a1.toInt64 (0 : Int64)) < 0) 17 6 (loc' := [some (.long a1.toInt64), none, some (.long 0), none, some (.long 1), none]) (st' := []) (h' := p1_h) (cl' := 0) (sl' := 0) rfl (fun hc56 => ?_) (fun hc56 => ?_)
        · exfalso
          (try simp only [lg_lt0, lg_gt0] at hc54 hc56) <;> simp only [cv_eq, cv_lt, cv_le, cv_64, (show (0 : Int32).toInt = 0 from by decide), (show (0 : Int64).toInt = 0 from by decide)] at hc54 hc56 <;> omega
        · refine ik_Wif 4 (c := 0 < (lg_cmp a1.toInt64 (1 : Int64))) 17 13 (loc' := [some (.long a1.toInt64), none, some (.long 0), none, some (.long 1), none]) (st' := []) (h' := p1_h) (cl' := 0) (sl' := 0) rfl (fun hc57 => ?_) (fun hc57 => ?_)
          · exfalso
            (try simp only [lg_lt0, lg_gt0] at hc54 hc56 hc57) <;> simp only [cv_eq, cv_lt, cv_le, cv_64, (show (0 : Int32).toInt = 0 from by decide), (show (0 : Int64).toInt = 0 from by decide), (show (1 : Int32).toInt = 1 from by decide), (show (1 : Int64).toInt = 1 from by decide)] at hc54 hc56 hc57 <;> omega
          · refine ik_Wk 2 (pc' := 18) (loc' := [some (.long a1.toInt64), none, some (.long 0), none, some (.long 1), none]) (st' := [.int 1]) (h' := p1_h) (cl' := 0) (sl' := 0) rfl ?_
            refine ik_Wret rfl rfl ⟨_, _, rfl, rfl, ?_⟩
            refine ik_Wret rfl rfl ⟨_, _, rfl, rfl, ?_⟩
            refine ik_Wk 10 (pc' := 43) (loc' := [some (.ref 66), some (.int a1), some (.int 2), some (.int a3), none]) (st' := [.long 2, .long 0, .long 2]) (h' := p1_h) (cl' := 0) (sl' := 0) rfl ?_
            refine ik_Wc 70 3 3 [.long 2, .long 0, .long 2] [] rfl rfl rfl (by decide) rfl rfl rfl ?_
            refine ik_Wk 10 (pc' := 18) (loc' := [some (.long 2), none, some (.long 0), none, some (.long 2), none]) (st' := [.int 1]) (h' := p1_h) (cl' := 0) (sl' := 0) rfl ?_
            refine ik_Wret rfl rfl ⟨_, _, rfl, rfl, ?_⟩
            refine ik_Wk 8 (pc' := 60) (loc' := [some (.ref 66), some (.int a1), some (.int 2), some (.int a3), none]) (st' := [.long 30, .long 0, .long a3.toInt64]) (h' := p1_h) (cl' := 0) (sl' := 0) rfl ?_
            refine ik_Wc 70 3 3 [.long a3.toInt64, .long 0, .long 30] [] rfl rfl rfl (by decide) rfl rfl rfl ?_
            refine ik_Wif 4 (c := (lg_cmp a3.toInt64 (0 : Int64)) < 0) 17 6 (loc' := [some (.long a3.toInt64), none, some (.long 0), none, some (.long 30), none]) (st' := []) (h' := p1_h) (cl' := 0) (sl' := 0) rfl (fun hc58 => ?_) (fun hc58 => ?_)
            · refine ik_Wk 1 (pc' := 18) (loc' := [some (.long a3.toInt64), none, some (.long 0), none, some (.long 30), none]) (st' := [.int 0]) (h' := p1_h) (cl' := 0) (sl' := 0) rfl ?_
              refine ik_Wret rfl rfl ⟨_, _, rfl, rfl, ?_⟩
              refine ik_Wk 2 (pc' := 68) (loc' := [some (.ref 66), some (.int a1), some (.int 2), some (.int a3), none]) (st' := [.int (-1000000002)]) (h' := p1_h) (cl' := 0) (sl' := 0) rfl ?_
              refine ik_Wret rfl rfl ⟨_, _, rfl, rfl, ?_⟩
              refine ik_Wk 10 (pc' := 1138) (loc' := [some (.retAddr 0), some (.ref 0), some (.ref 66), some (.int 5)]) (st' := [.int 1]) (h' := p1_h) (cl' := 94) (sl' := 4156) rfl ?_
              exact ik_Wret rfl rfl ⟨rfl, rfl, Nat.le_of_ble_eq_true rfl, Nat.le_of_ble_eq_true rfl⟩
            · exfalso
              (try simp only [lg_lt0, lg_gt0] at hc55 hc58) <;> simp only [cv_eq, cv_lt, cv_le, cv_64, (show (0 : Int32).toInt = 0 from by decide), (show (0 : Int64).toInt = 0 from by decide), (show (1 : Int32).toInt = 1 from by decide), (show (1 : Int64).toInt = 1 from by decide)] at hc55 hc58 <;> omega
      · refine ik_Wif 3 (c := a3 ≤ (30 : Int32)) 64 61 (loc' := [some (.ref 0), some (.int a1), some (.int 2), some (.int a3), none]) (st' := []) (h' := p1_h) (cl' := 0) (sl' := 0) rfl (fun hc59 => ?_) (fun hc59 => ?_)
        · refine ik_Wk 2 (pc' := 68) (loc' := [some (.ref 0), some (.int a1), some (.int 2), some (.int a3), none]) (st' := [.ref 7]) (h' := p1_h) (cl' := 0) (sl' := 0) rfl ?_
          refine ik_Wc 7 1 0 [.ref 7] [] rfl rfl rfl (by decide) rfl rfl rfl ?_
          refine ik_Wk 5 (pc' := 13) (loc' := [some (.ref 7)]) (st' := [.int 0]) (h' := p1_h) (cl' := 0) (sl' := 0) rfl ?_
          refine ik_Wret rfl rfl ⟨_, _, rfl, rfl, ?_⟩
          refine ik_Wk 2 (pc' := 76) (loc' := [some (.ref 0), some (.int a1), some (.int 2), some (.int a3), none]) (st' := [.int (-1000000003)]) (h' := p1_h) (cl' := 0) (sl' := 0) rfl ?_
          refine ik_Wret rfl rfl ⟨_, _, rfl, rfl, ?_⟩
          refine ik_Wk 16 (pc' := 362) (loc' := [some (.retAddr 0), some (.ref 0), some (.ref 66), some (.int 0)]) (st' := [.int a3, .int 2, .int a1, .ref 66, .int (-1000000003)]) (h' := p1_h) (cl' := 94) (sl' := 4156) rfl ?_
          refine ik_Wc 87 4 0 [.ref 66, .int a1, .int 2, .int a3] [.int (-1000000003)] rfl rfl rfl (by decide) rfl rfl rfl ?_
          refine ik_Wk 1 (pc' := 1) (loc' := [some (.ref 66), some (.int a1), some (.int 2), some (.int a3), none]) (st' := [.int a1]) (h' := p1_h) (cl' := 0) (sl' := 0) rfl ?_
          refine ik_Wc 75 1 3 [.int a1] [] rfl rfl rfl (by decide) rfl rfl rfl ?_
          refine ik_Wk 4 (pc' := 4) (loc' := [some (.int a1)]) (st' := [.long 1, .long 0, .long a1.toInt64]) (h' := p1_h) (cl' := 0) (sl' := 0) rfl ?_
          refine ik_Wc 70 3 3 [.long a1.toInt64, .long 0, .long 1] [] rfl rfl rfl (by decide) rfl rfl rfl ?_
          refine ik_Wif 4 (c := (lg_cmp a1.toInt64 (0 : Int64)) < 0) 17 6 (loc' := [some (.long a1.toInt64), none, some (.long 0), none, some (.long 1), none]) (st' := []) (h' := p1_h) (cl' := 0) (sl' := 0) rfl (fun hc60 => ?_) (fun hc60 => ?_)
          · exfalso
            (try simp only [lg_lt0, lg_gt0] at hc54 hc60) <;> simp only [cv_eq, cv_lt, cv_le, cv_64, (show (0 : Int32).toInt = 0 from by decide), (show (0 : Int64).toInt = 0 from by decide), (show (30 : Int32).toInt = 30 from by decide), (show (30 : Int64).toInt = 30 from by decide)] at hc54 hc60 <;> omega
          · refine ik_Wif 4 (c := 0 < (lg_cmp a1.toInt64 (1 : Int64))) 17 13 (loc' := [some (.long a1.toInt64), none, some (.long 0), none, some (.long 1), none]) (st' := []) (h' := p1_h) (cl' := 0) (sl' := 0) rfl (fun hc61 => ?_) (fun hc61 => ?_)
            · exfalso
              (try simp only [lg_lt0, lg_gt0] at hc54 hc60 hc61) <;> simp only [cv_eq, cv_lt, cv_le, cv_64, (show (0 : Int32).toInt = 0 from by decide), (show (0 : Int64).toInt = 0 from by decide), (show (1 : Int32).toInt = 1 from by decide), (show (1 : Int64).toInt = 1 from by decide), (show (30 : Int32).toInt = 30 from by decide), (show (30 : Int64).toInt = 30 from by decide)] at hc54 hc60 hc61 <;> omega
            · refine ik_Wk 2 (pc' := 18) (loc' := [some (.long a1.toInt64), none, some (.long 0), none, some (.long 1), none]) (st' := [.int 1]) (h' := p1_h) (cl' := 0) (sl' := 0) rfl ?_
              refine ik_Wret rfl rfl ⟨_, _, rfl, rfl, ?_⟩
              refine ik_Wret rfl rfl ⟨_, _, rfl, rfl, ?_⟩
              refine ik_Wk 10 (pc' := 43) (loc' := [some (.ref 66), some (.int a1), some (.int 2), some (.int a3), none]) (st' := [.long 2, .long 0, .long 2]) (h' := p1_h) (cl' := 0) (sl' := 0) rfl ?_
              refine ik_Wc 70 3 3 [.long 2, .long 0, .long 2] [] rfl rfl rfl (by decide) rfl rfl rfl ?_
              refine ik_Wk 10 (pc' := 18) (loc' := [some (.long 2), none, some (.long 0), none, some (.long 2), none]) (st' := [.int 1]) (h' := p1_h) (cl' := 0) (sl' := 0) rfl ?_
              refine ik_Wret rfl rfl ⟨_, _, rfl, rfl, ?_⟩
              refine ik_Wk 8 (pc' := 60) (loc' := [some (.ref 66), some (.int a1), some (.int 2), some (.int a3), none]) (st' := [.long 30, .long 0, .long a3.toInt64]) (h' := p1_h) (cl' := 0) (sl' := 0) rfl ?_
              refine ik_Wc 70 3 3 [.long a3.toInt64, .long 0, .long 30] [] rfl rfl rfl (by decide) rfl rfl rfl ?_
              refine ik_Wif 4 (c := (lg_cmp a3.toInt64 (0 : Int64)) < 0) 17 6 (loc' := [some (.long a3.toInt64), none, some (.long 0), none, some (.long 30), none]) (st' := []) (h' := p1_h) (cl' := 0) (sl' := 0) rfl (fun hc62 => ?_) (fun hc62 => ?_)
              · exfalso
                (try simp only [lg_lt0, lg_gt0] at hc55 hc59 hc62) <;> simp only [cv_eq, cv_lt, cv_le, cv_64, (show (0 : Int32).toInt = 0 from by decide), (show (0 : Int64).toInt = 0 from by decide), (show (1 : Int32).toInt = 1 from by decide), (show (1 : Int64).toInt = 1 from by decide), (show (30 : Int32).toInt = 30 from by decide), (show (30 : Int64).toInt = 30 from by decide)] at hc55 hc59 hc62 <;> omega
              · refine ik_Wif 4 (c := 0 < (lg_cmp a3.toInt64 (30 : Int64))) 17 13 (loc' := [some (.long a3.toInt64), none, some (.long 0), none, some (.long 30), none]) (st' := []) (h' := p1_h) (cl' := 0) (sl' := 0) rfl (fun hc63 => ?_) (fun hc63 => ?_)
                · exfalso
                  (try simp only [lg_lt0, lg_gt0] at hc55 hc59 hc62 hc63) <;> simp only [cv_eq, cv_lt, cv_le, cv_64, (show (0 : Int32).toInt = 0 from by decide), (show (0 : Int64).toInt = 0 from by decide), (show (1 : Int32).toInt = 1 from by decide), (show (1 : Int64).toInt = 1 from by decide), (show (30 : Int32).toInt = 30 from by decide), (show (30 : Int64).toInt = 30 from by decide)] at hc55 hc59 hc62 hc63 <;> omega
                · refine ik_Wk 2 (pc' := 18) (loc' := [some (.long a3.toInt64), none, some (.long 0), none, some (.long 30), none]) (st' := [.int 1]) (h' := p1_h) (cl' := 0) (sl' := 0) rfl ?_
                  refine ik_Wret rfl rfl ⟨_, _, rfl, rfl, ?_⟩
                  refine ik_Wk 2 (pc' := 70) (loc' := [some (.ref 66), some (.int a1), some (.int 2), some (.int a3), none]) (st' := [.ref 66]) (h' := p1_h) (cl' := 0) (sl' := 0) rfl ?_
                  refine ik_Wc 77 1 0 [.ref 66] [] rfl rfl rfl (by decide) rfl rfl rfl ?_
                  refine ik_Wk 5 (pc' := 13) (loc' := [some (.ref 66)]) (st' := [.int 0]) (h' := p1_h) (cl' := 0) (sl' := 0) rfl ?_
                  refine ik_Wret rfl rfl ⟨_, _, rfl, rfl, ?_⟩
                  refine ik_Wk 2 (pc' := 78) (loc' := [some (.ref 66), some (.int a1), some (.int 2), some (.int a3), none]) (st' := [.int (-1000000003)]) (h' := p1_h) (cl' := 0) (sl' := 0) rfl ?_
                  refine ik_Wret rfl rfl ⟨_, _, rfl, rfl, ?_⟩
                  refine ik_Wk 10 (pc' := 1138) (loc' := [some (.retAddr 0), some (.ref 0), some (.ref 66), some (.int 5)]) (st' := [.int 1]) (h' := p1_h) (cl' := 94) (sl' := 4156) rfl ?_
                  exact ik_Wret rfl rfl ⟨rfl, rfl, Nat.le_of_ble_eq_true rfl, Nat.le_of_ble_eq_true rfl⟩
        · refine ik_Wk 1 (pc' := 63) (loc' := [some (.ref 0), some (.int a1), some (.int 2), some (.int a3), none]) (st' := [.int (-1000000002)]) (h' := p1_h) (cl' := 0) (sl' := 0) rfl ?_
          refine ik_Wret rfl rfl ⟨_, _, rfl, rfl, ?_⟩
          refine ik_Wk 16 (pc' := 362) (loc' := [some (.retAddr 0), some (.ref 0), some (.ref 66), some (.int 0)]) (st' := [.int a3, .int 2, .int a1, .ref 66, .int (-1000000002)]) (h' := p1_h) (cl' := 94) (sl' := 4156) rfl ?_
          refine ik_Wc 87 4 0 [.ref 66, .int a1, .int 2, .int a3] [.int (-1000000002)] rfl rfl rfl (by decide) rfl rfl rfl ?_
          refine ik_Wk 1 (pc' := 1) (loc' := [some (.ref 66), some (.int a1), some (.int 2), some (.int a3), none]) (st' := [.int a1]) (h' := p1_h) (cl' := 0) (sl' := 0) rfl ?_
          refine ik_Wc 75 1 3 [.int a1] [] rfl rfl rfl (by decide) rfl rfl rfl ?_
          refine ik_Wk 4 (pc' := 4) (loc' := [some (.int a1)]) (st' := [.long 1, .long 0, .long a1.toInt64]) (h' := p1_h) (cl' := 0) (sl' := 0) rfl ?_
          refine ik_Wc 70 3 3 [.long a1.toInt64, .long 0, .long 1] [] rfl rfl rfl (by decide) rfl rfl rfl ?_
          refine ik_Wif 4 (c := (lg_cmp a1.toInt64 (0 : Int64)) < 0) 17 6 (loc' := [some (.long a1.toInt64), none, some (.long 0), none, some (.long 1), none]) (st' := []) (h' := p1_h) (cl' := 0) (sl' := 0) rfl (fun hc64 => ?_) (fun hc64 => ?_)
          · exfalso
            (try simp only [lg_lt0, lg_gt0] at hc54 hc64) <;> simp only [cv_eq, cv_lt, cv_le, cv_64, (show (0 : Int32).toInt = 0 from by decide), (show (0 : Int64).toInt = 0 from by decide), (show (30 : Int32).toInt = 30 from by decide), (show (30 : Int64).toInt = 30 from by decide)] at hc54 hc64 <;> omega
          · refine ik_Wif 4 (c := 0 < (lg_cmp a1.toInt64 (1 : Int64))) 17 13 (loc' := [some (.long a1.toInt64), none, some (.long 0), none, some (.long 1), none]) (st' := []) (h' := p1_h) (cl' := 0) (sl' := 0) rfl (fun hc65 => ?_) (fun hc65 => ?_)
            · exfalso
              (try simp only [lg_lt0, lg_gt0] at hc54 hc64 hc65) <;> simp only [cv_eq, cv_lt, cv_le, cv_64, (show (0 : Int32).toInt = 0 from by decide), (show (0 : Int64).toInt = 0 from by decide), (show (1 : Int32).toInt = 1 from by decide), (show (1 : Int64).toInt = 1 from by decide), (show (30 : Int32).toInt = 30 from by decide), (show (30 : Int64).toInt = 30 from by decide)] at hc54 hc64 hc65 <;> omega
            · refine ik_Wk 2 (pc' := 18) (loc' := [some (.long a1.toInt64), none, some (.long 0), none, some (.long 1), none]) (st' := [.int 1]) (h' := p1_h) (cl' := 0) (sl' := 0) rfl ?_
              refine ik_Wret rfl rfl ⟨_, _, rfl, rfl, ?_⟩
              refine ik_Wret rfl rfl ⟨_, _, rfl, rfl, ?_⟩
              refine ik_Wk 10 (pc' := 43) (loc' := [some (.ref 66), some (.int a1), some (.int 2), some (.int a3), none]) (st' := [.long 2, .long 0, .long 2]) (h' := p1_h) (cl' := 0) (sl' := 0) rfl ?_
              refine ik_Wc 70 3 3 [.long 2, .long 0, .long 2] [] rfl rfl rfl (by decide) rfl rfl rfl ?_
              refine ik_Wk 10 (pc' := 18) (loc' := [some (.long 2), none, some (.long 0), none, some (.long 2), none]) (st' := [.int 1]) (h' := p1_h) (cl' := 0) (sl' := 0) rfl ?_
              refine ik_Wret rfl rfl ⟨_, _, rfl, rfl, ?_⟩
              refine ik_Wk 8 (pc' := 60) (loc' := [some (.ref 66), some (.int a1), some (.int 2), some (.int a3), none]) (st' := [.long 30, .long 0, .long a3.toInt64]) (h' := p1_h) (cl' := 0) (sl' := 0) rfl ?_
              refine ik_Wc 70 3 3 [.long a3.toInt64, .long 0, .long 30] [] rfl rfl rfl (by decide) rfl rfl rfl ?_
              refine ik_Wif 4 (c := (lg_cmp a3.toInt64 (0 : Int64)) < 0) 17 6 (loc' := [some (.long a3.toInt64), none, some (.long 0), none, some (.long 30), none]) (st' := []) (h' := p1_h) (cl' := 0) (sl' := 0) rfl (fun hc66 => ?_) (fun hc66 => ?_)
              · exfalso
                (try simp only [lg_lt0, lg_gt0] at hc55 hc59 hc66) <;> simp only [cv_eq, cv_lt, cv_le, cv_64, (show (0 : Int32).toInt = 0 from by decide), (show (0 : Int64).toInt = 0 from by decide), (show (1 : Int32).toInt = 1 from by decide), (show (1 : Int64).toInt = 1 from by decide), (show (30 : Int32).toInt = 30 from by decide), (show (30 : Int64).toInt = 30 from by decide)] at hc55 hc59 hc66 <;> omega
              · refine ik_Wif 4 (c := 0 < (lg_cmp a3.toInt64 (30 : Int64))) 17 13 (loc' := [some (.long a3.toInt64), none, some (.long 0), none, some (.long 30), none]) (st' := []) (h' := p1_h) (cl' := 0) (sl' := 0) rfl (fun hc67 => ?_) (fun hc67 => ?_)
                · refine ik_Wk 1 (pc' := 18) (loc' := [some (.long a3.toInt64), none, some (.long 0), none, some (.long 30), none]) (st' := [.int 0]) (h' := p1_h) (cl' := 0) (sl' := 0) rfl ?_
                  refine ik_Wret rfl rfl ⟨_, _, rfl, rfl, ?_⟩
                  refine ik_Wk 2 (pc' := 68) (loc' := [some (.ref 66), some (.int a1), some (.int 2), some (.int a3), none]) (st' := [.int (-1000000002)]) (h' := p1_h) (cl' := 0) (sl' := 0) rfl ?_
                  refine ik_Wret rfl rfl ⟨_, _, rfl, rfl, ?_⟩
                  refine ik_Wk 10 (pc' := 1138) (loc' := [some (.retAddr 0), some (.ref 0), some (.ref 66), some (.int 5)]) (st' := [.int 1]) (h' := p1_h) (cl' := 94) (sl' := 4156) rfl ?_
                  exact ik_Wret rfl rfl ⟨rfl, rfl, Nat.le_of_ble_eq_true rfl, Nat.le_of_ble_eq_true rfl⟩
                · exfalso
                  (try simp only [lg_lt0, lg_gt0] at hc55 hc59 hc66 hc67) <;> simp only [cv_eq, cv_lt, cv_le, cv_64, (show (0 : Int32).toInt = 0 from by decide), (show (0 : Int64).toInt = 0 from by decide), (show (1 : Int32).toInt = 1 from by decide), (show (1 : Int64).toInt = 1 from by decide), (show (30 : Int32).toInt = 30 from by decide), (show (30 : Int64).toInt = 30 from by decide)] at hc55 hc59 hc66 hc67 <;> omega
    · refine ik_Wif 3 (c := a1 = (1 : Int32)) 9 13 (loc' := [some (.int a1)]) (st' := []) (h' := p1_h) (cl' := 0) (sl' := 0) rfl (fun hc68 => ?_) (fun hc68 => ?_)
      · refine ik_Wk 2 (pc' := 14) (loc' := [some (.int a1)]) (st' := [.int 1]) (h' := p1_h) (cl' := 0) (sl' := 0) rfl ?_
        refine ik_Wret rfl rfl ⟨_, _, rfl, rfl, ?_⟩
        refine ik_Wif 16 (c := a3 < 0) 61 55 (loc' := [some (.ref 0), some (.int a1), some (.int 2), some (.int a3), none]) (st' := []) (h' := p1_h) (cl' := 0) (sl' := 0) rfl (fun hc69 => ?_) (fun hc69 => ?_)
        · refine ik_Wk 1 (pc' := 63) (loc' := [some (.ref 0), some (.int a1), some (.int 2), some (.int a3), none]) (st' := [.int (-1000000002)]) (h' := p1_h) (cl' := 0) (sl' := 0) rfl ?_
          refine ik_Wret rfl rfl ⟨_, _, rfl, rfl, ?_⟩
          refine ik_Wk 16 (pc' := 362) (loc' := [some (.retAddr 0), some (.ref 0), some (.ref 66), some (.int 0)]) (st' := [.int a3, .int 2, .int a1, .ref 66, .int (-1000000002)]) (h' := p1_h) (cl' := 94) (sl' := 4156) rfl ?_
          refine ik_Wc 87 4 0 [.ref 66, .int a1, .int 2, .int a3] [.int (-1000000002)] rfl rfl rfl (by decide) rfl rfl rfl ?_
          refine ik_Wk 1 (pc' := 1) (loc' := [some (.ref 66), some (.int a1), some (.int 2), some (.int a3), none]) (st' := [.int a1]) (h' := p1_h) (cl' := 0) (sl' := 0) rfl ?_
          refine ik_Wc 75 1 3 [.int a1] [] rfl rfl rfl (by decide) rfl rfl rfl ?_
          refine ik_Wk 4 (pc' := 4) (loc' := [some (.int a1)]) (st' := [.long 1, .long 0, .long a1.toInt64]) (h' := p1_h) (cl' := 0) (sl' := 0) rfl ?_
          refine ik_Wc 70 3 3 [.long a1.toInt64, .long 0, .long 1] [] rfl rfl rfl (by decide) rfl rfl rfl ?_
          refine ik_Wif 4 (c := (lg_cmp a1.toInt64 (0 : Int64)) < 0) 17 6 (loc' := [some (.long a1.toInt64), none, some (.long 0), none, some (.long 1), none]) (st' := []) (h' := p1_h) (cl' := 0) (sl' := 0) rfl (fun hc70 => ?_) (fun hc70 => ?_)
          · exfalso
            (try simp only [lg_lt0, lg_gt0] at hc54 hc68 hc70) <;> simp only [cv_eq, cv_lt, cv_le, cv_64, (show (0 : Int32).toInt = 0 from by decide), (show (0 : Int64).toInt = 0 from by decide), (show (1 : Int32).toInt = 1 from by decide), (show (1 : Int64).toInt = 1 from by decide)] at hc54 hc68 hc70 <;> omega
          · refine ik_Wif 4 (c := 0 < (lg_cmp a1.toInt64 (1 : Int64))) 17 13 (loc' := [some (.long a1.toInt64), none, some (.long 0), none, some (.long 1), none]) (st' := []) (h' := p1_h) (cl' := 0) (sl' := 0) rfl (fun hc71 => ?_) (fun hc71 => ?_)
            · exfalso
              (try simp only [lg_lt0, lg_gt0] at hc54 hc68 hc70 hc71) <;> simp only [cv_eq, cv_lt, cv_le, cv_64, (show (0 : Int32).toInt = 0 from by decide), (show (0 : Int64).toInt = 0 from by decide), (show (1 : Int32).toInt = 1 from by decide), (show (1 : Int64).toInt = 1 from by decide)] at hc54 hc68 hc70 hc71 <;> omega
            · refine ik_Wk 2 (pc' := 18) (loc' := [some (.long a1.toInt64), none, some (.long 0), none, some (.long 1), none]) (st' := [.int 1]) (h' := p1_h) (cl' := 0) (sl' := 0) rfl ?_
              refine ik_Wret rfl rfl ⟨_, _, rfl, rfl, ?_⟩
              refine ik_Wret rfl rfl ⟨_, _, rfl, rfl, ?_⟩
              refine ik_Wk 10 (pc' := 43) (loc' := [some (.ref 66), some (.int a1), some (.int 2), some (.int a3), none]) (st' := [.long 2, .long 0, .long 2]) (h' := p1_h) (cl' := 0) (sl' := 0) rfl ?_
              refine ik_Wc 70 3 3 [.long 2, .long 0, .long 2] [] rfl rfl rfl (by decide) rfl rfl rfl ?_
              refine ik_Wk 10 (pc' := 18) (loc' := [some (.long 2), none, some (.long 0), none, some (.long 2), none]) (st' := [.int 1]) (h' := p1_h) (cl' := 0) (sl' := 0) rfl ?_
              refine ik_Wret rfl rfl ⟨_, _, rfl, rfl, ?_⟩
              refine ik_Wk 8 (pc' := 60) (loc' := [some (.ref 66), some (.int a1), some (.int 2), some (.int a3), none]) (st' := [.long 30, .long 0, .long a3.toInt64]) (h' := p1_h) (cl' := 0) (sl' := 0) rfl ?_
              refine ik_Wc 70 3 3 [.long a3.toInt64, .long 0, .long 30] [] rfl rfl rfl (by decide) rfl rfl rfl ?_
              refine ik_Wif 4 (c := (lg_cmp a3.toInt64 (0 : Int64)) < 0) 17 6 (loc' := [some (.long a3.toInt64), none, some (.long 0), none, some (.long 30), none]) (st' := []) (h' := p1_h) (cl' := 0) (sl' := 0) rfl (fun hc72 => ?_) (fun hc72 => ?_)
              · refine ik_Wk 1 (pc' := 18) (loc' := [some (.long a3.toInt64), none, some (.long 0), none, some (.long 30), none]) (st' := [.int 0]) (h' := p1_h) (cl' := 0) (sl' := 0) rfl ?_
                refine ik_Wret rfl rfl ⟨_, _, rfl, rfl, ?_⟩
                refine ik_Wk 2 (pc' := 68) (loc' := [some (.ref 66), some (.int a1), some (.int 2), some (.int a3), none]) (st' := [.int (-1000000002)]) (h' := p1_h) (cl' := 0) (sl' := 0) rfl ?_
                refine ik_Wret rfl rfl ⟨_, _, rfl, rfl, ?_⟩
                refine ik_Wk 10 (pc' := 1138) (loc' := [some (.retAddr 0), some (.ref 0), some (.ref 66), some (.int 5)]) (st' := [.int 1]) (h' := p1_h) (cl' := 94) (sl' := 4156) rfl ?_
                exact ik_Wret rfl rfl ⟨rfl, rfl, Nat.le_of_ble_eq_true rfl, Nat.le_of_ble_eq_true rfl⟩
              · exfalso
                (try simp only [lg_lt0, lg_gt0] at hc69 hc72) <;> simp only [cv_eq, cv_lt, cv_le, cv_64, (show (0 : Int32).toInt = 0 from by decide), (show (0 : Int64).toInt = 0 from by decide), (show (1 : Int32).toInt = 1 from by decide), (show (1 : Int64).toInt = 1 from by decide)] at hc69 hc72 <;> omega
        · refine ik_Wif 3 (c := a3 ≤ (30 : Int32)) 64 61 (loc' := [some (.ref 0), some (.int a1), some (.int 2), some (.int a3), none]) (st' := []) (h' := p1_h) (cl' := 0) (sl' := 0) rfl (fun hc73 => ?_) (fun hc73 => ?_)
          · refine ik_Wk 2 (pc' := 68) (loc' := [some (.ref 0), some (.int a1), some (.int 2), some (.int a3), none]) (st' := [.ref 7]) (h' := p1_h) (cl' := 0) (sl' := 0) rfl ?_
            refine ik_Wc 7 1 0 [.ref 7] [] rfl rfl rfl (by decide) rfl rfl rfl ?_
            refine ik_Wk 5 (pc' := 13) (loc' := [some (.ref 7)]) (st' := [.int 0]) (h' := p1_h) (cl' := 0) (sl' := 0) rfl ?_
            refine ik_Wret rfl rfl ⟨_, _, rfl, rfl, ?_⟩
            refine ik_Wk 2 (pc' := 76) (loc' := [some (.ref 0), some (.int a1), some (.int 2), some (.int a3), none]) (st' := [.int (-1000000003)]) (h' := p1_h) (cl' := 0) (sl' := 0) rfl ?_
            refine ik_Wret rfl rfl ⟨_, _, rfl, rfl, ?_⟩
            refine ik_Wk 16 (pc' := 362) (loc' := [some (.retAddr 0), some (.ref 0), some (.ref 66), some (.int 0)]) (st' := [.int a3, .int 2, .int a1, .ref 66, .int (-1000000003)]) (h' := p1_h) (cl' := 94) (sl' := 4156) rfl ?_
            refine ik_Wc 87 4 0 [.ref 66, .int a1, .int 2, .int a3] [.int (-1000000003)] rfl rfl rfl (by decide) rfl rfl rfl ?_
            refine ik_Wk 1 (pc' := 1) (loc' := [some (.ref 66), some (.int a1), some (.int 2), some (.int a3), none]) (st' := [.int a1]) (h' := p1_h) (cl' := 0) (sl' := 0) rfl ?_
            refine ik_Wc 75 1 3 [.int a1] [] rfl rfl rfl (by decide) rfl rfl rfl ?_
            refine ik_Wk 4 (pc' := 4) (loc' := [some (.int a1)]) (st' := [.long 1, .long 0, .long a1.toInt64]) (h' := p1_h) (cl' := 0) (sl' := 0) rfl ?_
            refine ik_Wc 70 3 3 [.long a1.toInt64, .long 0, .long 1] [] rfl rfl rfl (by decide) rfl rfl rfl ?_
            refine ik_Wif 4 (c := (lg_cmp a1.toInt64 (0 : Int64)) < 0) 17 6 (loc' := [some (.long a1.toInt64), none, some (.long 0), none, some (.long 1), none]) (st' := []) (h' := p1_h) (cl' := 0) (sl' := 0) rfl (fun hc74 => ?_) (fun hc74 => ?_)
            · exfalso
              (try simp only [lg_lt0, lg_gt0] at hc54 hc68 hc74) <;> simp only [cv_eq, cv_lt, cv_le, cv_64, (show (0 : Int32).toInt = 0 from by decide), (show (0 : Int64).toInt = 0 from by decide), (show (1 : Int32).toInt = 1 from by decide), (show (1 : Int64).toInt = 1 from by decide), (show (30 : Int32).toInt = 30 from by decide), (show (30 : Int64).toInt = 30 from by decide)] at hc54 hc68 hc74 <;> omega
            · refine ik_Wif 4 (c := 0 < (lg_cmp a1.toInt64 (1 : Int64))) 17 13 (loc' := [some (.long a1.toInt64), none, some (.long 0), none, some (.long 1), none]) (st' := []) (h' := p1_h) (cl' := 0) (sl' := 0) rfl (fun hc75 => ?_) (fun hc75 => ?_)
              · exfalso
                (try simp only [lg_lt0, lg_gt0] at hc54 hc68 hc74 hc75) <;> simp only [cv_eq, cv_lt, cv_le, cv_64, (show (0 : Int32).toInt = 0 from by decide), (show (0 : Int64).toInt = 0 from by decide), (show (1 : Int32).toInt = 1 from by decide), (show (1 : Int64).toInt = 1 from by decide), (show (30 : Int32).toInt = 30 from by decide), (show (30 : Int64).toInt = 30 from by decide)] at hc54 hc68 hc74 hc75 <;> omega
              · refine ik_Wk 2 (pc' := 18) (loc' := [some (.long a1.toInt64), none, some (.long 0), none, some (.long 1), none]) (st' := [.int 1]) (h' := p1_h) (cl' := 0) (sl' := 0) rfl ?_
                refine ik_Wret rfl rfl ⟨_, _, rfl, rfl, ?_⟩
                refine ik_Wret rfl rfl ⟨_, _, rfl, rfl, ?_⟩
                refine ik_Wk 10 (pc' := 43) (loc' := [some (.ref 66), some (.int a1), some (.int 2), some (.int a3), none]) (st' := [.long 2, .long 0, .long 2]) (h' := p1_h) (cl' := 0) (sl' := 0) rfl ?_
                refine ik_Wc 70 3 3 [.long 2, .long 0, .long 2] [] rfl rfl rfl (by decide) rfl rfl rfl ?_
                refine ik_Wk 10 (pc' := 18) (loc' := [some (.long 2), none, some (.long 0), none, some (.long 2), none]) (st' := [.int 1]) (h' := p1_h) (cl' := 0) (sl' := 0) rfl ?_
                refine ik_Wret rfl rfl ⟨_, _, rfl, rfl, ?_⟩
                refine ik_Wk 8 (pc' := 60) (loc' := [some (.ref 66), some (.int a1), some (.int 2), some (.int a3), none]) (st' := [.long 30, .long 0, .long a3.toInt64]) (h' := p1_h) (cl' := 0) (sl' := 0) rfl ?_
                refine ik_Wc 70 3 3 [.long a3.toInt64, .long 0, .long 30] [] rfl rfl rfl (by decide) rfl rfl rfl ?_
                refine ik_Wif 4 (c := (lg_cmp a3.toInt64 (0 : Int64)) < 0) 17 6 (loc' := [some (.long a3.toInt64), none, some (.long 0), none, some (.long 30), none]) (st' := []) (h' := p1_h) (cl' := 0) (sl' := 0) rfl (fun hc76 => ?_) (fun hc76 => ?_)
                · exfalso
                  (try simp only [lg_lt0, lg_gt0] at hc69 hc73 hc76) <;> simp only [cv_eq, cv_lt, cv_le, cv_64, (show (0 : Int32).toInt = 0 from by decide), (show (0 : Int64).toInt = 0 from by decide), (show (1 : Int32).toInt = 1 from by decide), (show (1 : Int64).toInt = 1 from by decide), (show (30 : Int32).toInt = 30 from by decide), (show (30 : Int64).toInt = 30 from by decide)] at hc69 hc73 hc76 <;> omega
                · refine ik_Wif 4 (c := 0 < (lg_cmp a3.toInt64 (30 : Int64))) 17 13 (loc' := [some (.long a3.toInt64), none, some (.long 0), none, some (.long 30), none]) (st' := []) (h' := p1_h) (cl' := 0) (sl' := 0) rfl (fun hc77 => ?_) (fun hc77 => ?_)
                  · exfalso
                    (try simp only [lg_lt0, lg_gt0] at hc69 hc73 hc76 hc77) <;> simp only [cv_eq, cv_lt, cv_le, cv_64, (show (0 : Int32).toInt = 0 from by decide), (show (0 : Int64).toInt = 0 from by decide), (show (1 : Int32).toInt = 1 from by decide), (show (1 : Int64).toInt = 1 from by decide), (show (30 : Int32).toInt = 30 from by decide), (show (30 : Int64).toInt = 30 from by decide)] at hc69 hc73 hc76 hc77 <;> omega
                  · refine ik_Wk 2 (pc' := 18) (loc' := [some (.long a3.toInt64), none, some (.long 0), none, some (.long 30), none]) (st' := [.int 1]) (h' := p1_h) (cl' := 0) (sl' := 0) rfl ?_
                    refine ik_Wret rfl rfl ⟨_, _, rfl, rfl, ?_⟩
                    refine ik_Wk 2 (pc' := 70) (loc' := [some (.ref 66), some (.int a1), some (.int 2), some (.int a3), none]) (st' := [.ref 66]) (h' := p1_h) (cl' := 0) (sl' := 0) rfl ?_
                    refine ik_Wc 77 1 0 [.ref 66] [] rfl rfl rfl (by decide) rfl rfl rfl ?_
                    refine ik_Wk 5 (pc' := 13) (loc' := [some (.ref 66)]) (st' := [.int 0]) (h' := p1_h) (cl' := 0) (sl' := 0) rfl ?_
                    refine ik_Wret rfl rfl ⟨_, _, rfl, rfl, ?_⟩
                    refine ik_Wk 2 (pc' := 78) (loc' := [some (.ref 66), some (.int a1), some (.int 2), some (.int a3), none]) (st' := [.int (-1000000003)]) (h' := p1_h) (cl' := 0) (sl' := 0) rfl ?_
                    refine ik_Wret rfl rfl ⟨_, _, rfl, rfl, ?_⟩
                    refine ik_Wk 10 (pc' := 1138) (loc' := [some (.retAddr 0), some (.ref 0), some (.ref 66), some (.int 5)]) (st' := [.int 1]) (h' := p1_h) (cl' := 94) (sl' := 4156) rfl ?_
                    exact ik_Wret rfl rfl ⟨rfl, rfl, Nat.le_of_ble_eq_true rfl, Nat.le_of_ble_eq_true rfl⟩
          · refine ik_Wk 1 (pc' := 63) (loc' := [some (.ref 0), some (.int a1), some (.int 2), some (.int a3), none]) (st' := [.int (-1000000002)]) (h' := p1_h) (cl' := 0) (sl' := 0) rfl ?_
            refine ik_Wret rfl rfl ⟨_, _, rfl, rfl, ?_⟩
            refine ik_Wk 16 (pc' := 362) (loc' := [some (.retAddr 0), some (.ref 0), some (.ref 66), some (.int 0)]) (st' := [.int a3, .int 2, .int a1, .ref 66, .int (-1000000002)]) (h' := p1_h) (cl' := 94) (sl' := 4156) rfl ?_
            refine ik_Wc 87 4 0 [.ref 66, .int a1, .int 2, .int a3] [.int (-1000000002)] rfl rfl rfl (by decide) rfl rfl rfl ?_
            refine ik_Wk 1 (pc' := 1) (loc' := [some (.ref 66), some (.int a1), some (.int 2), some (.int a3), none]) (st' := [.int a1]) (h' := p1_h) (cl' := 0) (sl' := 0) rfl ?_
            refine ik_Wc 75 1 3 [.int a1] [] rfl rfl rfl (by decide) rfl rfl rfl ?_
            refine ik_Wk 4 (pc' := 4) (loc' := [some (.int a1)]) (st' := [.long 1, .long 0, .long a1.toInt64]) (h' := p1_h) (cl' := 0) (sl' := 0) rfl ?_
            refine ik_Wc 70 3 3 [.long a1.toInt64, .long 0, .long 1] [] rfl rfl rfl (by decide) rfl rfl rfl ?_
            refine ik_Wif 4 (c := (lg_cmp a1.toInt64 (0 : Int64)) < 0) 17 6 (loc' := [some (.long a1.toInt64), none, some (.long 0), none, some (.long 1), none]) (st' := []) (h' := p1_h) (cl' := 0) (sl' := 0) rfl (fun hc78 => ?_) (fun hc78 => ?_)
            · exfalso
              (try simp only [lg_lt0, lg_gt0] at hc54 hc68 hc78) <;> simp only [cv_eq, cv_lt, cv_le, cv_64, (show (0 : Int32).toInt = 0 from by decide), (show (0 : Int64).toInt = 0 from by decide), (show (1 : Int32).toInt = 1 from by decide), (show (1 : Int64).toInt = 1 from by decide), (show (30 : Int32).toInt = 30 from by decide), (show (30 : Int64).toInt = 30 from by decide)] at hc54 hc68 hc78 <;> omega
            · refine ik_Wif 4 (c := 0 < (lg_cmp a1.toInt64 (1 : Int64))) 17 13 (loc' := [some (.long a1.toInt64), none, some (.long 0), none, some (.long 1), none]) (st' := []) (h' := p1_h) (cl' := 0) (sl' := 0) rfl (fun hc79 => ?_) (fun hc79 => ?_)
              · exfalso
                (try simp only [lg_lt0, lg_gt0] at hc54 hc68 hc78 hc79) <;> simp only [cv_eq, cv_lt, cv_le, cv_64, (show (0 : Int32).toInt = 0 from by decide), (show (0 : Int64).toInt = 0 from by decide), (show (1 : Int32).toInt = 1 from by decide), (show (1 : Int64).toInt = 1 from by decide), (show (30 : Int32).toInt = 30 from by decide), (show (30 : Int64).toInt = 30 from by decide)] at hc54 hc68 hc78 hc79 <;> omega
              · refine ik_Wk 2 (pc' := 18) (loc' := [some (.long a1.toInt64), none, some (.long 0), none, some (.long 1), none]) (st' := [.int 1]) (h' := p1_h) (cl' := 0) (sl' := 0) rfl ?_
                refine ik_Wret rfl rfl ⟨_, _, rfl, rfl, ?_⟩
                refine ik_Wret rfl rfl ⟨_, _, rfl, rfl, ?_⟩
                refine ik_Wk 10 (pc' := 43) (loc' := [some (.ref 66), some (.int a1), some (.int 2), some (.int a3), none]) (st' := [.long 2, .long 0, .long 2]) (h' := p1_h) (cl' := 0) (sl' := 0) rfl ?_
                refine ik_Wc 70 3 3 [.long 2, .long 0, .long 2] [] rfl rfl rfl (by decide) rfl rfl rfl ?_
                refine ik_Wk 10 (pc' := 18) (loc' := [some (.long 2), none, some (.long 0), none, some (.long 2), none]) (st' := [.int 1]) (h' := p1_h) (cl' := 0) (sl' := 0) rfl ?_
                refine ik_Wret rfl rfl ⟨_, _, rfl, rfl, ?_⟩
                refine ik_Wk 8 (pc' := 60) (loc' := [some (.ref 66), some (.int a1), some (.int 2), some (.int a3), none]) (st' := [.long 30, .long 0, .long a3.toInt64]) (h' := p1_h) (cl' := 0) (sl' := 0) rfl ?_
                refine ik_Wc 70 3 3 [.long a3.toInt64, .long 0, .long 30] [] rfl rfl rfl (by decide) rfl rfl rfl ?_
                refine ik_Wif 4 (c := (lg_cmp a3.toInt64 (0 : Int64)) < 0) 17 6 (loc' := [some (.long a3.toInt64), none, some (.long 0), none, some (.long 30), none]) (st' := []) (h' := p1_h) (cl' := 0) (sl' := 0) rfl (fun hc80 => ?_) (fun hc80 => ?_)
                · exfalso
                  (try simp only [lg_lt0, lg_gt0] at hc69 hc73 hc80) <;> simp only [cv_eq, cv_lt, cv_le, cv_64, (show (0 : Int32).toInt = 0 from by decide), (show (0 : Int64).toInt = 0 from by decide), (show (1 : Int32).toInt = 1 from by decide), (show (1 : Int64).toInt = 1 from by decide), (show (30 : Int32).toInt = 30 from by decide), (show (30 : Int64).toInt = 30 from by decide)] at hc69 hc73 hc80 <;> omega
                · refine ik_Wif 4 (c := 0 < (lg_cmp a3.toInt64 (30 : Int64))) 17 13 (loc' := [some (.long a3.toInt64), none, some (.long 0), none, some (.long 30), none]) (st' := []) (h' := p1_h) (cl' := 0) (sl' := 0) rfl (fun hc81 => ?_) (fun hc81 => ?_)
                  · refine ik_Wk 1 (pc' := 18) (loc' := [some (.long a3.toInt64), none, some (.long 0), none, some (.long 30), none]) (st' := [.int 0]) (h' := p1_h) (cl' := 0) (sl' := 0) rfl ?_
                    refine ik_Wret rfl rfl ⟨_, _, rfl, rfl, ?_⟩
                    refine ik_Wk 2 (pc' := 68) (loc' := [some (.ref 66), some (.int a1), some (.int 2), some (.int a3), none]) (st' := [.int (-1000000002)]) (h' := p1_h) (cl' := 0) (sl' := 0) rfl ?_
                    refine ik_Wret rfl rfl ⟨_, _, rfl, rfl, ?_⟩
                    refine ik_Wk 10 (pc' := 1138) (loc' := [some (.retAddr 0), some (.ref 0), some (.ref 66), some (.int 5)]) (st' := [.int 1]) (h' := p1_h) (cl' := 94) (sl' := 4156) rfl ?_
                    exact ik_Wret rfl rfl ⟨rfl, rfl, Nat.le_of_ble_eq_true rfl, Nat.le_of_ble_eq_true rfl⟩
                  · exfalso
                    (try simp only [lg_lt0, lg_gt0] at hc69 hc73 hc80 hc81) <;> simp only [cv_eq, cv_lt, cv_le, cv_64, (show (0 : Int32).toInt = 0 from by decide), (show (0 : Int64).toInt = 0 from by decide), (show (1 : Int32).toInt = 1 from by decide), (show (1 : Int64).toInt = 1 from by decide), (show (30 : Int32).toInt = 30 from by decide), (show (30 : Int64).toInt = 30 from by decide)] at hc69 hc73 hc80 hc81 <;> omega
      · refine ik_Wk 1 (pc' := 14) (loc' := [some (.int a1)]) (st' := [.int 0]) (h' := p1_h) (cl' := 0) (sl' := 0) rfl ?_
        refine ik_Wret rfl rfl ⟨_, _, rfl, rfl, ?_⟩
        refine ik_Wk 2 (pc' := 36) (loc' := [some (.ref 0), some (.int a1), some (.int 2), some (.int a3), none]) (st' := [.int (-1000000001)]) (h' := p1_h) (cl' := 0) (sl' := 0) rfl ?_
        refine ik_Wret rfl rfl ⟨_, _, rfl, rfl, ?_⟩
        refine ik_Wk 16 (pc' := 362) (loc' := [some (.retAddr 0), some (.ref 0), some (.ref 66), some (.int 0)]) (st' := [.int a3, .int 2, .int a1, .ref 66, .int (-1000000001)]) (h' := p1_h) (cl' := 94) (sl' := 4156) rfl ?_
        refine ik_Wc 87 4 0 [.ref 66, .int a1, .int 2, .int a3] [.int (-1000000001)] rfl rfl rfl (by decide) rfl rfl rfl ?_
        refine ik_Wk 1 (pc' := 1) (loc' := [some (.ref 66), some (.int a1), some (.int 2), some (.int a3), none]) (st' := [.int a1]) (h' := p1_h) (cl' := 0) (sl' := 0) rfl ?_
        refine ik_Wc 75 1 3 [.int a1] [] rfl rfl rfl (by decide) rfl rfl rfl ?_
        refine ik_Wk 4 (pc' := 4) (loc' := [some (.int a1)]) (st' := [.long 1, .long 0, .long a1.toInt64]) (h' := p1_h) (cl' := 0) (sl' := 0) rfl ?_
        refine ik_Wc 70 3 3 [.long a1.toInt64, .long 0, .long 1] [] rfl rfl rfl (by decide) rfl rfl rfl ?_
        refine ik_Wif 4 (c := (lg_cmp a1.toInt64 (0 : Int64)) < 0) 17 6 (loc' := [some (.long a1.toInt64), none, some (.long 0), none, some (.long 1), none]) (st' := []) (h' := p1_h) (cl' := 0) (sl' := 0) rfl (fun hc82 => ?_) (fun hc82 => ?_)
        · refine ik_Wk 1 (pc' := 18) (loc' := [some (.long a1.toInt64), none, some (.long 0), none, some (.long 1), none]) (st' := [.int 0]) (h' := p1_h) (cl' := 0) (sl' := 0) rfl ?_
          refine ik_Wret rfl rfl ⟨_, _, rfl, rfl, ?_⟩
          refine ik_Wret rfl rfl ⟨_, _, rfl, rfl, ?_⟩
          refine ik_Wk 2 (pc' := 9) (loc' := [some (.ref 66), some (.int a1), some (.int 2), some (.int a3), none]) (st' := [.int (-1000000001)]) (h' := p1_h) (cl' := 0) (sl' := 0) rfl ?_
          refine ik_Wret rfl rfl ⟨_, _, rfl, rfl, ?_⟩
          refine ik_Wk 10 (pc' := 1138) (loc' := [some (.retAddr 0), some (.ref 0), some (.ref 66), some (.int 5)]) (st' := [.int 1]) (h' := p1_h) (cl' := 94) (sl' := 4156) rfl ?_
          exact ik_Wret rfl rfl ⟨rfl, rfl, Nat.le_of_ble_eq_true rfl, Nat.le_of_ble_eq_true rfl⟩
        · refine ik_Wif 4 (c := 0 < (lg_cmp a1.toInt64 (1 : Int64))) 17 13 (loc' := [some (.long a1.toInt64), none, some (.long 0), none, some (.long 1), none]) (st' := []) (h' := p1_h) (cl' := 0) (sl' := 0) rfl (fun hc83 => ?_) (fun hc83 => ?_)
          · refine ik_Wk 1 (pc' := 18) (loc' := [some (.long a1.toInt64), none, some (.long 0), none, some (.long 1), none]) (st' := [.int 0]) (h' := p1_h) (cl' := 0) (sl' := 0) rfl ?_
            refine ik_Wret rfl rfl ⟨_, _, rfl, rfl, ?_⟩
            refine ik_Wret rfl rfl ⟨_, _, rfl, rfl, ?_⟩
            refine ik_Wk 2 (pc' := 9) (loc' := [some (.ref 66), some (.int a1), some (.int 2), some (.int a3), none]) (st' := [.int (-1000000001)]) (h' := p1_h) (cl' := 0) (sl' := 0) rfl ?_
            refine ik_Wret rfl rfl ⟨_, _, rfl, rfl, ?_⟩
            refine ik_Wk 10 (pc' := 1138) (loc' := [some (.retAddr 0), some (.ref 0), some (.ref 66), some (.int 5)]) (st' := [.int 1]) (h' := p1_h) (cl' := 94) (sl' := 4156) rfl ?_
            exact ik_Wret rfl rfl ⟨rfl, rfl, Nat.le_of_ble_eq_true rfl, Nat.le_of_ble_eq_true rfl⟩
          · exfalso
            (try simp only [lg_lt0, lg_gt0] at hc54 hc68 hc82 hc83) <;> simp only [cv_eq, cv_lt, cv_le, cv_64, (show (0 : Int32).toInt = 0 from by decide), (show (0 : Int64).toInt = 0 from by decide), (show (1 : Int32).toInt = 1 from by decide), (show (1 : Int64).toInt = 1 from by decide)] at hc54 hc68 hc82 hc83 <;> omega
  · obtain ⟨hs1_0, hs1_1, hs1_2⟩ := hs1
    refine ik_Wk 16 (pc' := 343) (loc' := [some (.retAddr 0), some (.ref 0), some (.ref 66), some (.int 0)]) (st' := [.int a3, .int a2, .int a1, .ref 0]) (h' := p1_h) (cl' := 94) (sl' := 4156) rfl ?_
    refine ik_Wc 39 4 0 [.ref 0, .int a1, .int a2, .int a3] [] rfl rfl rfl (by decide) rfl rfl rfl ?_
    refine ik_Wk 1 (pc' := 1) (loc' := [some (.ref 0), some (.int a1), some (.int a2), some (.int a3), none]) (st' := [.int a1]) (h' := p1_h) (cl' := 0) (sl' := 0) rfl ?_
    refine ik_Wc 65 1 3 [.int a1] [] rfl rfl rfl (by decide) rfl rfl rfl ?_
    refine ik_Wif 2 (c := a1 = 0) 9 4 (loc' := [some (.int a1)]) (st' := []) (h' := p1_h) (cl' := 0) (sl' := 0) rfl (fun hc84 => ?_) (fun hc84 => ?_)
    · refine ik_Wk 2 (pc' := 14) (loc' := [some (.int a1)]) (st' := [.int 1]) (h' := p1_h) (cl' := 0) (sl' := 0) rfl ?_
      refine ik_Wret rfl rfl ⟨_, _, rfl, rfl, ?_⟩
      refine ik_Wif 3 (c := a2 = 0) 11 18 (loc' := [some (.ref 0), some (.int a1), some (.int a2), some (.int a3), none]) (st' := []) (h' := p1_h) (cl' := 0) (sl' := 0) rfl (fun hc85 => ?_) (fun hc85 => ?_)
      · exfalso
        (try simp only [lg_lt0, lg_gt0] at hs1_0 hs1_1 hs1_2 hc85) <;> simp only [cv_eq, cv_lt, cv_le, cv_64, (show (0 : Int32).toInt = 0 from by decide), (show (0 : Int64).toInt = 0 from by decide), (show (1 : Int32).toInt = 1 from by decide), (show (1 : Int64).toInt = 1 from by decide), (show (2 : Int32).toInt = 2 from by decide), (show (2 : Int64).toInt = 2 from by decide)] at hs1_0 hs1_1 hs1_2 hc85 <;> omega
      · refine ik_Wif 3 (c := a2 = (1 : Int32)) 23 37 (loc' := [some (.ref 0), some (.int a1), some (.int a2), some (.int a3), none]) (st' := []) (h' := p1_h) (cl' := 0) (sl' := 0) rfl (fun hc86 => ?_) (fun hc86 => ?_)
        · exfalso
          (try simp only [lg_lt0, lg_gt0] at hs1_0 hs1_1 hs1_2 hc85 hc86) <;> simp only [cv_eq, cv_lt, cv_le, cv_64, (show (0 : Int32).toInt = 0 from by decide), (show (0 : Int64).toInt = 0 from by decide), (show (1 : Int32).toInt = 1 from by decide), (show (1 : Int64).toInt = 1 from by decide), (show (2 : Int32).toInt = 2 from by decide), (show (2 : Int64).toInt = 2 from by decide)] at hs1_0 hs1_1 hs1_2 hc85 hc86 <;> omega
        · refine ik_Wif 2 (c := a2 < 0) 61 41 (loc' := [some (.ref 0), some (.int a1), some (.int a2), some (.int a3), none]) (st' := []) (h' := p1_h) (cl' := 0) (sl' := 0) rfl (fun hc87 => ?_) (fun hc87 => ?_)
          · refine ik_Wk 1 (pc' := 63) (loc' := [some (.ref 0), some (.int a1), some (.int a2), some (.int a3), none]) (st' := [.int (-1000000002)]) (h' := p1_h) (cl' := 0) (sl' := 0) rfl ?_
            refine ik_Wret rfl rfl ⟨_, _, rfl, rfl, ?_⟩
            refine ik_Wk 16 (pc' := 362) (loc' := [some (.retAddr 0), some (.ref 0), some (.ref 66), some (.int 0)]) (st' := [.int a3, .int a2, .int a1, .ref 66, .int (-1000000002)]) (h' := p1_h) (cl' := 94) (sl' := 4156) rfl ?_
            refine ik_Wc 87 4 0 [.ref 66, .int a1, .int a2, .int a3] [.int (-1000000002)] rfl rfl rfl (by decide) rfl rfl rfl ?_
            refine ik_Wk 1 (pc' := 1) (loc' := [some (.ref 66), some (.int a1), some (.int a2), some (.int a3), none]) (st' := [.int a1]) (h' := p1_h) (cl' := 0) (sl' := 0) rfl ?_
            refine ik_Wc 75 1 3 [.int a1] [] rfl rfl rfl (by decide) rfl rfl rfl ?_
            refine ik_Wk 4 (pc' := 4) (loc' := [some (.int a1)]) (st' := [.long 1, .long 0, .long a1.toInt64]) (h' := p1_h) (cl' := 0) (sl' := 0) rfl ?_
            refine ik_Wc 70 3 3 [.long a1.toInt64, .long 0, .long 1] [] rfl rfl rfl (by decide) rfl rfl rfl ?_
            refine ik_Wif 4 (c := (lg_cmp a1.toInt64 (0 : Int64)) < 0) 17 6 (loc' := [some (.long a1.toInt64), none, some (.long 0), none, some (.long 1), none]) (st' := []) (h' := p1_h) (cl' := 0) (sl' := 0) rfl (fun hc88 => ?_) (fun hc88 => ?_)
            · exfalso
              (try simp only [lg_lt0, lg_gt0] at hc84 hc88) <;> simp only [cv_eq, cv_lt, cv_le, cv_64, (show (0 : Int32).toInt = 0 from by decide), (show (0 : Int64).toInt = 0 from by decide), (show (1 : Int32).toInt = 1 from by decide), (show (1 : Int64).toInt = 1 from by decide), (show (2 : Int32).toInt = 2 from by decide), (show (2 : Int64).toInt = 2 from by decide)] at hc84 hc88 <;> omega
            · refine ik_Wif 4 (c := 0 < (lg_cmp a1.toInt64 (1 : Int64))) 17 13 (loc' := [some (.long a1.toInt64), none, some (.long 0), none, some (.long 1), none]) (st' := []) (h' := p1_h) (cl' := 0) (sl' := 0) rfl (fun hc89 => ?_) (fun hc89 => ?_)
              · exfalso
                (try simp only [lg_lt0, lg_gt0] at hc84 hc88 hc89) <;> simp only [cv_eq, cv_lt, cv_le, cv_64, (show (0 : Int32).toInt = 0 from by decide), (show (0 : Int64).toInt = 0 from by decide), (show (1 : Int32).toInt = 1 from by decide), (show (1 : Int64).toInt = 1 from by decide), (show (2 : Int32).toInt = 2 from by decide), (show (2 : Int64).toInt = 2 from by decide)] at hc84 hc88 hc89 <;> omega
              · refine ik_Wk 2 (pc' := 18) (loc' := [some (.long a1.toInt64), none, some (.long 0), none, some (.long 1), none]) (st' := [.int 1]) (h' := p1_h) (cl' := 0) (sl' := 0) rfl ?_
                refine ik_Wret rfl rfl ⟨_, _, rfl, rfl, ?_⟩
                refine ik_Wret rfl rfl ⟨_, _, rfl, rfl, ?_⟩
                refine ik_Wif 3 (c := a2 = 0) 14 21 (loc' := [some (.ref 66), some (.int a1), some (.int a2), some (.int a3), none]) (st' := []) (h' := p1_h) (cl' := 0) (sl' := 0) rfl (fun hc90 => ?_) (fun hc90 => ?_)
                · exfalso
                  (try simp only [lg_lt0, lg_gt0] at hs1_0 hs1_1 hs1_2 hc85 hc86 hc87 hc90) <;> simp only [cv_eq, cv_lt, cv_le, cv_64, (show (0 : Int32).toInt = 0 from by decide), (show (0 : Int64).toInt = 0 from by decide), (show (1 : Int32).toInt = 1 from by decide), (show (1 : Int64).toInt = 1 from by decide), (show (2 : Int32).toInt = 2 from by decide), (show (2 : Int64).toInt = 2 from by decide)] at hs1_0 hs1_1 hs1_2 hc85 hc86 hc87 hc90 <;> omega
                · refine ik_Wif 3 (c := a2 = (1 : Int32)) 26 37 (loc' := [some (.ref 66), some (.int a1), some (.int a2), some (.int a3), none]) (st' := []) (h' := p1_h) (cl' := 0) (sl' := 0) rfl (fun hc91 => ?_) (fun hc91 => ?_)
                  · exfalso
                    (try simp only [lg_lt0, lg_gt0] at hs1_0 hs1_1 hs1_2 hc85 hc86 hc87 hc90 hc91) <;> simp only [cv_eq, cv_lt, cv_le, cv_64, (show (0 : Int32).toInt = 0 from by decide), (show (0 : Int64).toInt = 0 from by decide), (show (1 : Int32).toInt = 1 from by decide), (show (1 : Int64).toInt = 1 from by decide), (show (2 : Int32).toInt = 2 from by decide), (show (2 : Int64).toInt = 2 from by decide)] at hs1_0 hs1_1 hs1_2 hc85 hc86 hc87 hc90 hc91 <;> omega
                  · refine ik_Wk 4 (pc' := 43) (loc' := [some (.ref 66), some (.int a1), some (.int a2), some (.int a3), none]) (st' := [.long 2, .long 0, .long a2.toInt64]) (h' := p1_h) (cl' := 0) (sl' := 0) rfl ?_
                    refine ik_Wc 70 3 3 [.long a2.toInt64, .long 0, .long 2] [] rfl rfl rfl (by decide) rfl rfl rfl ?_
                    refine ik_Wif 4 (c := (lg_cmp a2.toInt64 (0 : Int64)) < 0) 17 6 (loc' := [some (.long a2.toInt64), none, some (.long 0), none, some (.long 2), none]) (st' := []) (h' := p1_h) (cl' := 0) (sl' := 0) rfl (fun hc92 => ?_) (fun hc92 => ?_)
                    · refine ik_Wk 1 (pc' := 18) (loc' := [some (.long a2.toInt64), none, some (.long 0), none, some (.long 2), none]) (st' := [.int 0]) (h' := p1_h) (cl' := 0) (sl' := 0) rfl ?_
                      refine ik_Wret rfl rfl ⟨_, _, rfl, rfl, ?_⟩
                      refine ik_Wk 2 (pc' := 68) (loc' := [some (.ref 66), some (.int a1), some (.int a2), some (.int a3), none]) (st' := [.int (-1000000002)]) (h' := p1_h) (cl' := 0) (sl' := 0) rfl ?_
                      refine ik_Wret rfl rfl ⟨_, _, rfl, rfl, ?_⟩
                      refine ik_Wk 10 (pc' := 1138) (loc' := [some (.retAddr 0), some (.ref 0), some (.ref 66), some (.int 5)]) (st' := [.int 1]) (h' := p1_h) (cl' := 94) (sl' := 4156) rfl ?_
                      exact ik_Wret rfl rfl ⟨rfl, rfl, Nat.le_of_ble_eq_true rfl, Nat.le_of_ble_eq_true rfl⟩
                    · exfalso
                      (try simp only [lg_lt0, lg_gt0] at hs1_0 hs1_1 hs1_2 hc85 hc86 hc87 hc90 hc91 hc92) <;> simp only [cv_eq, cv_lt, cv_le, cv_64, (show (0 : Int32).toInt = 0 from by decide), (show (0 : Int64).toInt = 0 from by decide), (show (1 : Int32).toInt = 1 from by decide), (show (1 : Int64).toInt = 1 from by decide), (show (2 : Int32).toInt = 2 from by decide), (show (2 : Int64).toInt = 2 from by decide)] at hs1_0 hs1_1 hs1_2 hc85 hc86 hc87 hc90 hc91 hc92 <;> omega
          · refine ik_Wif 3 (c := (2 : Int32) < a2) 61 46 (loc' := [some (.ref 0), some (.int a1), some (.int a2), some (.int a3), none]) (st' := []) (h' := p1_h) (cl' := 0) (sl' := 0) rfl (fun hc93 => ?_) (fun hc93 => ?_)
            · refine ik_Wk 1 (pc' := 63) (loc' := [some (.ref 0), some (.int a1), some (.int a2), some (.int a3), none]) (st' := [.int (-1000000002)]) (h' := p1_h) (cl' := 0) (sl' := 0) rfl ?_
              refine ik_Wret rfl rfl ⟨_, _, rfl, rfl, ?_⟩
              refine ik_Wk 16 (pc' := 362) (loc' := [some (.retAddr 0), some (.ref 0), some (.ref 66), some (.int 0)]) (st' := [.int a3, .int a2, .int a1, .ref 66, .int (-1000000002)]) (h' := p1_h) (cl' := 94) (sl' := 4156) rfl ?_
              refine ik_Wc 87 4 0 [.ref 66, .int a1, .int a2, .int a3] [.int (-1000000002)] rfl rfl rfl (by decide) rfl rfl rfl ?_
              refine ik_Wk 1 (pc' := 1) (loc' := [some (.ref 66), some (.int a1), some (.int a2), some (.int a3), none]) (st' := [.int a1]) (h' := p1_h) (cl' := 0) (sl' := 0) rfl ?_
              refine ik_Wc 75 1 3 [.int a1] [] rfl rfl rfl (by decide) rfl rfl rfl ?_
              refine ik_Wk 4 (pc' := 4) (loc' := [some (.int a1)]) (st' := [.long 1, .long 0, .long a1.toInt64]) (h' := p1_h) (cl' := 0) (sl' := 0) rfl ?_
              refine ik_Wc 70 3 3 [.long a1.toInt64, .long 0, .long 1] [] rfl rfl rfl (by decide) rfl rfl rfl ?_
              refine ik_Wif 4 (c := (lg_cmp a1.toInt64 (0 : Int64)) < 0) 17 6 (loc' := [some (.long a1.toInt64), none, some (.long 0), none, some (.long 1), none]) (st' := []) (h' := p1_h) (cl' := 0) (sl' := 0) rfl (fun hc94 => ?_) (fun hc94 => ?_)
              · exfalso
                (try simp only [lg_lt0, lg_gt0] at hc84 hc94) <;> simp only [cv_eq, cv_lt, cv_le, cv_64, (show (0 : Int32).toInt = 0 from by decide), (show (0 : Int64).toInt = 0 from by decide), (show (1 : Int32).toInt = 1 from by decide), (show (1 : Int64).toInt = 1 from by decide), (show (2 : Int32).toInt = 2 from by decide), (show (2 : Int64).toInt = 2 from by decide)] at hc84 hc94 <;> omega
              · refine ik_Wif 4 (c := 0 < (lg_cmp a1.toInt64 (1 : Int64))) 17 13 (loc' := [some (.long a1.toInt64), none, some (.long 0), none, some (.long 1), none]) (st' := []) (h' := p1_h) (cl' := 0) (sl' := 0) rfl (fun hc95 => ?_) (fun hc95 => ?_)
                · exfalso
                  (try simp only [lg_lt0, lg_gt0] at hc84 hc94 hc95) <;> simp only [cv_eq, cv_lt, cv_le, cv_64, (show (0 : Int32).toInt = 0 from by decide), (show (0 : Int64).toInt = 0 from by decide), (show (1 : Int32).toInt = 1 from by decide), (show (1 : Int64).toInt = 1 from by decide), (show (2 : Int32).toInt = 2 from by decide), (show (2 : Int64).toInt = 2 from by decide)] at hc84 hc94 hc95 <;> omega
                · refine ik_Wk 2 (pc' := 18) (loc' := [some (.long a1.toInt64), none, some (.long 0), none, some (.long 1), none]) (st' := [.int 1]) (h' := p1_h) (cl' := 0) (sl' := 0) rfl ?_
                  refine ik_Wret rfl rfl ⟨_, _, rfl, rfl, ?_⟩
                  refine ik_Wret rfl rfl ⟨_, _, rfl, rfl, ?_⟩
                  refine ik_Wif 3 (c := a2 = 0) 14 21 (loc' := [some (.ref 66), some (.int a1), some (.int a2), some (.int a3), none]) (st' := []) (h' := p1_h) (cl' := 0) (sl' := 0) rfl (fun hc96 => ?_) (fun hc96 => ?_)
                  · exfalso
                    (try simp only [lg_lt0, lg_gt0] at hs1_0 hs1_1 hs1_2 hc85 hc86 hc87 hc93 hc96) <;> simp only [cv_eq, cv_lt, cv_le, cv_64, (show (0 : Int32).toInt = 0 from by decide), (show (0 : Int64).toInt = 0 from by decide), (show (1 : Int32).toInt = 1 from by decide), (show (1 : Int64).toInt = 1 from by decide), (show (2 : Int32).toInt = 2 from by decide), (show (2 : Int64).toInt = 2 from by decide)] at hs1_0 hs1_1 hs1_2 hc85 hc86 hc87 hc93 hc96 <;> omega
                  · refine ik_Wif 3 (c := a2 = (1 : Int32)) 26 37 (loc' := [some (.ref 66), some (.int a1), some (.int a2), some (.int a3), none]) (st' := []) (h' := p1_h) (cl' := 0) (sl' := 0) rfl (fun hc97 => ?_) (fun hc97 => ?_)
                    · exfalso
                      (try simp only [lg_lt0, lg_gt0] at hs1_0 hs1_1 hs1_2 hc85 hc86 hc87 hc93 hc96 hc97) <;> simp only [cv_eq, cv_lt, cv_le, cv_64, (show (0 : Int32).toInt = 0 from by decide), (show (0 : Int64).toInt = 0 from by decide), (show (1 : Int32).toInt = 1 from by decide), (show (1 : Int64).toInt = 1 from by decide), (show (2 : Int32).toInt = 2 from by decide), (show (2 : Int64).toInt = 2 from by decide)] at hs1_0 hs1_1 hs1_2 hc85 hc86 hc87 hc93 hc96 hc97 <;> omega
                    · refine ik_Wk 4 (pc' := 43) (loc' := [some (.ref 66), some (.int a1), some (.int a2), some (.int a3), none]) (st' := [.long 2, .long 0, .long a2.toInt64]) (h' := p1_h) (cl' := 0) (sl' := 0) rfl ?_
                      refine ik_Wc 70 3 3 [.long a2.toInt64, .long 0, .long 2] [] rfl rfl rfl (by decide) rfl rfl rfl ?_
                      refine ik_Wif 4 (c := (lg_cmp a2.toInt64 (0 : Int64)) < 0) 17 6 (loc' := [some (.long a2.toInt64), none, some (.long 0), none, some (.long 2), none]) (st' := []) (h' := p1_h) (cl' := 0) (sl' := 0) rfl (fun hc98 => ?_) (fun hc98 => ?_)
                      · exfalso
                        (try simp only [lg_lt0, lg_gt0] at hs1_0 hs1_1 hs1_2 hc85 hc86 hc87 hc93 hc96 hc97 hc98) <;> simp only [cv_eq, cv_lt, cv_le, cv_64, (show (0 : Int32).toInt = 0 from by decide), (show (0 : Int64).toInt = 0 from by decide), (show (1 : Int32).toInt = 1 from by decide), (show (1 : Int64).toInt = 1 from by decide), (show (2 : Int32).toInt = 2 from by decide), (show (2 : Int64).toInt = 2 from by decide)] at hs1_0 hs1_1 hs1_2 hc85 hc86 hc87 hc93 hc96 hc97 hc98 <;> omega
                      · refine ik_Wif 4 (c := 0 < (lg_cmp a2.toInt64 (2 : Int64))) 17 13 (loc' := [some (.long a2.toInt64), none, some (.long 0), none, some (.long 2), none]) (st' := []) (h' := p1_h) (cl' := 0) (sl' := 0) rfl (fun hc99 => ?_) (fun hc99 => ?_)
                        · refine ik_Wk 1 (pc' := 18) (loc' := [some (.long a2.toInt64), none, some (.long 0), none, some (.long 2), none]) (st' := [.int 0]) (h' := p1_h) (cl' := 0) (sl' := 0) rfl ?_
                          refine ik_Wret rfl rfl ⟨_, _, rfl, rfl, ?_⟩
                          refine ik_Wk 2 (pc' := 68) (loc' := [some (.ref 66), some (.int a1), some (.int a2), some (.int a3), none]) (st' := [.int (-1000000002)]) (h' := p1_h) (cl' := 0) (sl' := 0) rfl ?_
                          refine ik_Wret rfl rfl ⟨_, _, rfl, rfl, ?_⟩
                          refine ik_Wk 10 (pc' := 1138) (loc' := [some (.retAddr 0), some (.ref 0), some (.ref 66), some (.int 5)]) (st' := [.int 1]) (h' := p1_h) (cl' := 94) (sl' := 4156) rfl ?_
                          exact ik_Wret rfl rfl ⟨rfl, rfl, Nat.le_of_ble_eq_true rfl, Nat.le_of_ble_eq_true rfl⟩
                        · exfalso
                          (try simp only [lg_lt0, lg_gt0] at hs1_0 hs1_1 hs1_2 hc85 hc86 hc87 hc93 hc96 hc97 hc98 hc99) <;> simp only [cv_eq, cv_lt, cv_le, cv_64, (show (0 : Int32).toInt = 0 from by decide), (show (0 : Int64).toInt = 0 from by decide), (show (1 : Int32).toInt = 1 from by decide), (show (1 : Int64).toInt = 1 from by decide), (show (2 : Int32).toInt = 2 from by decide), (show (2 : Int64).toInt = 2 from by decide)] at hs1_0 hs1_1 hs1_2 hc85 hc86 hc87 hc93 hc96 hc97 hc98 hc99 <;> omega
            · exfalso
              (try simp only [lg_lt0, lg_gt0] at hs1_0 hs1_1 hs1_2 hc85 hc86 hc87 hc93) <;> simp only [cv_eq, cv_lt, cv_le, cv_64, (show (0 : Int32).toInt = 0 from by decide), (show (0 : Int64).toInt = 0 from by decide), (show (1 : Int32).toInt = 1 from by decide), (show (1 : Int64).toInt = 1 from by decide), (show (2 : Int32).toInt = 2 from by decide), (show (2 : Int64).toInt = 2 from by decide)] at hs1_0 hs1_1 hs1_2 hc85 hc86 hc87 hc93 <;> omega
    · refine ik_Wif 3 (c := a1 = (1 : Int32)) 9 13 (loc' := [some (.int a1)]) (st' := []) (h' := p1_h) (cl' := 0) (sl' := 0) rfl (fun hc100 => ?_) (fun hc100 => ?_)
      · refine ik_Wk 2 (pc' := 14) (loc' := [some (.int a1)]) (st' := [.int 1]) (h' := p1_h) (cl' := 0) (sl' := 0) rfl ?_
        refine ik_Wret rfl rfl ⟨_, _, rfl, rfl, ?_⟩
        refine ik_Wif 3 (c := a2 = 0) 11 18 (loc' := [some (.ref 0), some (.int a1), some (.int a2), some (.int a3), none]) (st' := []) (h' := p1_h) (cl' := 0) (sl' := 0) rfl (fun hc101 => ?_) (fun hc101 => ?_)
        · exfalso
          (try simp only [lg_lt0, lg_gt0] at hs1_0 hs1_1 hs1_2 hc101) <;> simp only [cv_eq, cv_lt, cv_le, cv_64, (show (0 : Int32).toInt = 0 from by decide), (show (0 : Int64).toInt = 0 from by decide), (show (1 : Int32).toInt = 1 from by decide), (show (1 : Int64).toInt = 1 from by decide), (show (2 : Int32).toInt = 2 from by decide), (show (2 : Int64).toInt = 2 from by decide)] at hs1_0 hs1_1 hs1_2 hc101 <;> omega
        · refine ik_Wif 3 (c := a2 = (1 : Int32)) 23 37 (loc' := [some (.ref 0), some (.int a1), some (.int a2), some (.int a3), none]) (st' := []) (h' := p1_h) (cl' := 0) (sl' := 0) rfl (fun hc102 => ?_) (fun hc102 => ?_)
          · exfalso
            (try simp only [lg_lt0, lg_gt0] at hs1_0 hs1_1 hs1_2 hc101 hc102) <;> simp only [cv_eq, cv_lt, cv_le, cv_64, (show (0 : Int32).toInt = 0 from by decide), (show (0 : Int64).toInt = 0 from by decide), (show (1 : Int32).toInt = 1 from by decide), (show (1 : Int64).toInt = 1 from by decide), (show (2 : Int32).toInt = 2 from by decide), (show (2 : Int64).toInt = 2 from by decide)] at hs1_0 hs1_1 hs1_2 hc101 hc102 <;> omega
          · refine ik_Wif 2 (c := a2 < 0) 61 41 (loc' := [some (.ref 0), some (.int a1), some (.int a2), some (.int a3), none]) (st' := []) (h' := p1_h) (cl' := 0) (sl' := 0) rfl (fun hc103 => ?_) (fun hc103 => ?_)
            · refine ik_Wk 1 (pc' := 63) (loc' := [some (.ref 0), some (.int a1), some (.int a2), some (.int a3), none]) (st' := [.int (-1000000002)]) (h' := p1_h) (cl' := 0) (sl' := 0) rfl ?_
              refine ik_Wret rfl rfl ⟨_, _, rfl, rfl, ?_⟩
              refine ik_Wk 16 (pc' := 362) (loc' := [some (.retAddr 0), some (.ref 0), some (.ref 66), some (.int 0)]) (st' := [.int a3, .int a2, .int a1, .ref 66, .int (-1000000002)]) (h' := p1_h) (cl' := 94) (sl' := 4156) rfl ?_
              refine ik_Wc 87 4 0 [.ref 66, .int a1, .int a2, .int a3] [.int (-1000000002)] rfl rfl rfl (by decide) rfl rfl rfl ?_
              refine ik_Wk 1 (pc' := 1) (loc' := [some (.ref 66), some (.int a1), some (.int a2), some (.int a3), none]) (st' := [.int a1]) (h' := p1_h) (cl' := 0) (sl' := 0) rfl ?_
              refine ik_Wc 75 1 3 [.int a1] [] rfl rfl rfl (by decide) rfl rfl rfl ?_
              refine ik_Wk 4 (pc' := 4) (loc' := [some (.int a1)]) (st' := [.long 1, .long 0, .long a1.toInt64]) (h' := p1_h) (cl' := 0) (sl' := 0) rfl ?_
              refine ik_Wc 70 3 3 [.long a1.toInt64, .long 0, .long 1] [] rfl rfl rfl (by decide) rfl rfl rfl ?_
              refine ik_Wif 4 (c := (lg_cmp a1.toInt64 (0 : Int64)) < 0) 17 6 (loc' := [some (.long a1.toInt64), none, some (.long 0), none, some (.long 1), none]) (st' := []) (h' := p1_h) (cl' := 0) (sl' := 0) rfl (fun hc104 => ?_) (fun hc104 => ?_)
              · exfalso
                (try simp only [lg_lt0, lg_gt0] at hc84 hc100 hc104) <;> simp only [cv_eq, cv_lt, cv_le, cv_64, (show (0 : Int32).toInt = 0 from by decide), (show (0 : Int64).toInt = 0 from by decide), (show (1 : Int32).toInt = 1 from by decide), (show (1 : Int64).toInt = 1 from by decide), (show (2 : Int32).toInt = 2 from by decide), (show (2 : Int64).toInt = 2 from by decide)] at hc84 hc100 hc104 <;> omega
              · refine ik_Wif 4 (c := 0 < (lg_cmp a1.toInt64 (1 : Int64))) 17 13 (loc' := [some (.long a1.toInt64), none, some (.long 0), none, some (.long 1), none]) (st' := []) (h' := p1_h) (cl' := 0) (sl' := 0) rfl (fun hc105 => ?_) (fun hc105 => ?_)
                · exfalso
                  (try simp only [lg_lt0, lg_gt0] at hc84 hc100 hc104 hc105) <;> simp only [cv_eq, cv_lt, cv_le, cv_64, (show (0 : Int32).toInt = 0 from by decide), (show (0 : Int64).toInt = 0 from by decide), (show (1 : Int32).toInt = 1 from by decide), (show (1 : Int64).toInt = 1 from by decide), (show (2 : Int32).toInt = 2 from by decide), (show (2 : Int64).toInt = 2 from by decide)] at hc84 hc100 hc104 hc105 <;> omega
                · refine ik_Wk 2 (pc' := 18) (loc' := [some (.long a1.toInt64), none, some (.long 0), none, some (.long 1), none]) (st' := [.int 1]) (h' := p1_h) (cl' := 0) (sl' := 0) rfl ?_
                  refine ik_Wret rfl rfl ⟨_, _, rfl, rfl, ?_⟩
                  refine ik_Wret rfl rfl ⟨_, _, rfl, rfl, ?_⟩
                  refine ik_Wif 3 (c := a2 = 0) 14 21 (loc' := [some (.ref 66), some (.int a1), some (.int a2), some (.int a3), none]) (st' := []) (h' := p1_h) (cl' := 0) (sl' := 0) rfl (fun hc106 => ?_) (fun hc106 => ?_)
                  · exfalso
                    (try simp only [lg_lt0, lg_gt0] at hs1_0 hs1_1 hs1_2 hc101 hc102 hc103 hc106) <;> simp only [cv_eq, cv_lt, cv_le, cv_64, (show (0 : Int32).toInt = 0 from by decide), (show (0 : Int64).toInt = 0 from by decide), (show (1 : Int32).toInt = 1 from by decide), (show (1 : Int64).toInt = 1 from by decide), (show (2 : Int32).toInt = 2 from by decide), (show (2 : Int64).toInt = 2 from by decide)] at hs1_0 hs1_1 hs1_2 hc101 hc102 hc103 hc106 <;> omega
                  · refine ik_Wif 3 (c := a2 = (1 : Int32)) 26 37 (loc' := [some (.ref 66), some (.int a1), some (.int a2), some (.int a3), none]) (st' := []) (h' := p1_h) (cl' := 0) (sl' := 0) rfl (fun hc107 => ?_) (fun hc107 => ?_)
                    · exfalso
                      (try simp only [lg_lt0, lg_gt0] at hs1_0 hs1_1 hs1_2 hc101 hc102 hc103 hc106 hc107) <;> simp only [cv_eq, cv_lt, cv_le, cv_64, (show (0 : Int32).toInt = 0 from by decide), (show (0 : Int64).toInt = 0 from by decide), (show (1 : Int32).toInt = 1 from by decide), (show (1 : Int64).toInt = 1 from by decide), (show (2 : Int32).toInt = 2 from by decide), (show (2 : Int64).toInt = 2 from by decide)] at hs1_0 hs1_1 hs1_2 hc101 hc102 hc103 hc106 hc107 <;> omega
                    · refine ik_Wk 4 (pc' := 43) (loc' := [some (.ref 66), some (.int a1), some (.int a2), some (.int a3), none]) (st' := [.long 2, .long 0, .long a2.toInt64]) (h' := p1_h) (cl' := 0) (sl' := 0) rfl ?_
                      refine ik_Wc 70 3 3 [.long a2.toInt64, .long 0, .long 2] [] rfl rfl rfl (by decide) rfl rfl rfl ?_
                      refine ik_Wif 4 (c := (lg_cmp a2.toInt64 (0 : Int64)) < 0) 17 6 (loc' := [some (.long a2.toInt64), none, some (.long 0), none, some (.long 2), none]) (st' := []) (h' := p1_h) (cl' := 0) (sl' := 0) rfl (fun hc108 => ?_) (fun hc108 => ?_)
                      · refine ik_Wk 1 (pc' := 18) (loc' := [some (.long a2.toInt64), none, some (.long 0), none, some (.long 2), none]) (st' := [.int 0]) (h' := p1_h) (cl' := 0) (sl' := 0) rfl ?_
                        refine ik_Wret rfl rfl ⟨_, _, rfl, rfl, ?_⟩
                        refine ik_Wk 2 (pc' := 68) (loc' := [some (.ref 66), some (.int a1), some (.int a2), some (.int a3), none]) (st' := [.int (-1000000002)]) (h' := p1_h) (cl' := 0) (sl' := 0) rfl ?_
                        refine ik_Wret rfl rfl ⟨_, _, rfl, rfl, ?_⟩
                        refine ik_Wk 10 (pc' := 1138) (loc' := [some (.retAddr 0), some (.ref 0), some (.ref 66), some (.int 5)]) (st' := [.int 1]) (h' := p1_h) (cl' := 94) (sl' := 4156) rfl ?_
                        exact ik_Wret rfl rfl ⟨rfl, rfl, Nat.le_of_ble_eq_true rfl, Nat.le_of_ble_eq_true rfl⟩
                      · exfalso
                        (try simp only [lg_lt0, lg_gt0] at hs1_0 hs1_1 hs1_2 hc101 hc102 hc103 hc106 hc107 hc108) <;> simp only [cv_eq, cv_lt, cv_le, cv_64, (show (0 : Int32).toInt = 0 from by decide), (show (0 : Int64).toInt = 0 from by decide), (show (1 : Int32).toInt = 1 from by decide), (show (1 : Int64).toInt = 1 from by decide), (show (2 : Int32).toInt = 2 from by decide), (show (2 : Int64).toInt = 2 from by decide)] at hs1_0 hs1_1 hs1_2 hc101 hc102 hc103 hc106 hc107 hc108 <;> omega
            · refine ik_Wif 3 (c := (2 : Int32) < a2) 61 46 (loc' := [some (.ref 0), some (.int a1), some (.int a2), some (.int a3), none]) (st' := []) (h' := p1_h) (cl' := 0) (sl' := 0) rfl (fun hc109 => ?_) (fun hc109 => ?_)
              · refine ik_Wk 1 (pc' := 63) (loc' := [some (.ref 0), some (.int a1), some (.int a2), some (.int a3), none]) (st' := [.int (-1000000002)]) (h' := p1_h) (cl' := 0) (sl' := 0) rfl ?_
                refine ik_Wret rfl rfl ⟨_, _, rfl, rfl, ?_⟩
                refine ik_Wk 16 (pc' := 362) (loc' := [some (.retAddr 0), some (.ref 0), some (.ref 66), some (.int 0)]) (st' := [.int a3, .int a2, .int a1, .ref 66, .int (-1000000002)]) (h' := p1_h) (cl' := 94) (sl' := 4156) rfl ?_
                refine ik_Wc 87 4 0 [.ref 66, .int a1, .int a2, .int a3] [.int (-1000000002)] rfl rfl rfl (by decide) rfl rfl rfl ?_
                refine ik_Wk 1 (pc' := 1) (loc' := [some (.ref 66), some (.int a1), some (.int a2), some (.int a3), none]) (st' := [.int a1]) (h' := p1_h) (cl' := 0) (sl' := 0) rfl ?_
                refine ik_Wc 75 1 3 [.int a1] [] rfl rfl rfl (by decide) rfl rfl rfl ?_
                refine ik_Wk 4 (pc' := 4) (loc' := [some (.int a1)]) (st' := [.long 1, .long 0, .long a1.toInt64]) (h' := p1_h) (cl' := 0) (sl' := 0) rfl ?_
                refine ik_Wc 70 3 3 [.long a1.toInt64, .long 0, .long 1] [] rfl rfl rfl (by decide) rfl rfl rfl ?_
                refine ik_Wif 4 (c := (lg_cmp a1.toInt64 (0 : Int64)) < 0) 17 6 (loc' := [some (.long a1.toInt64), none, some (.long 0), none, some (.long 1), none]) (st' := []) (h' := p1_h) (cl' := 0) (sl' := 0) rfl (fun hc110 => ?_) (fun hc110 => ?_)
                · exfalso
                  (try simp only [lg_lt0, lg_gt0] at hc84 hc100 hc110) <;> simp only [cv_eq, cv_lt, cv_le, cv_64, (show (0 : Int32).toInt = 0 from by decide), (show (0 : Int64).toInt = 0 from by decide), (show (1 : Int32).toInt = 1 from by decide), (show (1 : Int64).toInt = 1 from by decide), (show (2 : Int32).toInt = 2 from by decide), (show (2 : Int64).toInt = 2 from by decide)] at hc84 hc100 hc110 <;> omega
                · refine ik_Wif 4 (c := 0 < (lg_cmp a1.toInt64 (1 : Int64))) 17 13 (loc' := [some (.long a1.toInt64), none, some (.long 0), none, some (.long 1), none]) (st' := []) (h' := p1_h) (cl' := 0) (sl' := 0) rfl (fun hc111 => ?_) (fun hc111 => ?_)
                  · exfalso
                    (try simp only [lg_lt0, lg_gt0] at hc84 hc100 hc110 hc111) <;> simp only [cv_eq, cv_lt, cv_le, cv_64, (show (0 : Int32).toInt = 0 from by decide), (show (0 : Int64).toInt = 0 from by decide), (show (1 : Int32).toInt = 1 from by decide), (show (1 : Int64).toInt = 1 from by decide), (show (2 : Int32).toInt = 2 from by decide), (show (2 : Int64).toInt = 2 from by decide)] at hc84 hc100 hc110 hc111 <;> omega
                  · refine ik_Wk 2 (pc' := 18) (loc' := [some (.long a1.toInt64), none, some (.long 0), none, some (.long 1), none]) (st' := [.int 1]) (h' := p1_h) (cl' := 0) (sl' := 0) rfl ?_
                    refine ik_Wret rfl rfl ⟨_, _, rfl, rfl, ?_⟩
                    refine ik_Wret rfl rfl ⟨_, _, rfl, rfl, ?_⟩
                    refine ik_Wif 3 (c := a2 = 0) 14 21 (loc' := [some (.ref 66), some (.int a1), some (.int a2), some (.int a3), none]) (st' := []) (h' := p1_h) (cl' := 0) (sl' := 0) rfl (fun hc112 => ?_) (fun hc112 => ?_)
                    · exfalso
                      (try simp only [lg_lt0, lg_gt0] at hs1_0 hs1_1 hs1_2 hc101 hc102 hc103 hc109 hc112) <;> simp only [cv_eq, cv_lt, cv_le, cv_64, (show (0 : Int32).toInt = 0 from by decide), (show (0 : Int64).toInt = 0 from by decide), (show (1 : Int32).toInt = 1 from by decide), (show (1 : Int64).toInt = 1 from by decide), (show (2 : Int32).toInt = 2 from by decide), (show (2 : Int64).toInt = 2 from by decide)] at hs1_0 hs1_1 hs1_2 hc101 hc102 hc103 hc109 hc112 <;> omega
                    · refine ik_Wif 3 (c := a2 = (1 : Int32)) 26 37 (loc' := [some (.ref 66), some (.int a1), some (.int a2), some (.int a3), none]) (st' := []) (h' := p1_h) (cl' := 0) (sl' := 0) rfl (fun hc113 => ?_) (fun hc113 => ?_)
                      · exfalso
                        (try simp only [lg_lt0, lg_gt0] at hs1_0 hs1_1 hs1_2 hc101 hc102 hc103 hc109 hc112 hc113) <;> simp only [cv_eq, cv_lt, cv_le, cv_64, (show (0 : Int32).toInt = 0 from by decide), (show (0 : Int64).toInt = 0 from by decide), (show (1 : Int32).toInt = 1 from by decide), (show (1 : Int64).toInt = 1 from by decide), (show (2 : Int32).toInt = 2 from by decide), (show (2 : Int64).toInt = 2 from by decide)] at hs1_0 hs1_1 hs1_2 hc101 hc102 hc103 hc109 hc112 hc113 <;> omega
                      · refine ik_Wk 4 (pc' := 43) (loc' := [some (.ref 66), some (.int a1), some (.int a2), some (.int a3), none]) (st' := [.long 2, .long 0, .long a2.toInt64]) (h' := p1_h) (cl' := 0) (sl' := 0) rfl ?_
                        refine ik_Wc 70 3 3 [.long a2.toInt64, .long 0, .long 2] [] rfl rfl rfl (by decide) rfl rfl rfl ?_
                        refine ik_Wif 4 (c := (lg_cmp a2.toInt64 (0 : Int64)) < 0) 17 6 (loc' := [some (.long a2.toInt64), none, some (.long 0), none, some (.long 2), none]) (st' := []) (h' := p1_h) (cl' := 0) (sl' := 0) rfl (fun hc114 => ?_) (fun hc114 => ?_)
                        · exfalso
                          (try simp only [lg_lt0, lg_gt0] at hs1_0 hs1_1 hs1_2 hc101 hc102 hc103 hc109 hc112 hc113 hc114) <;> simp only [cv_eq, cv_lt, cv_le, cv_64, (show (0 : Int32).toInt = 0 from by decide), (show (0 : Int64).toInt = 0 from by decide), (show (1 : Int32).toInt = 1 from by decide), (show (1 : Int64).toInt = 1 from by decide), (show (2 : Int32).toInt = 2 from by decide), (show (2 : Int64).toInt = 2 from by decide)] at hs1_0 hs1_1 hs1_2 hc101 hc102 hc103 hc109 hc112 hc113 hc114 <;> omega
                        · refine ik_Wif 4 (c := 0 < (lg_cmp a2.toInt64 (2 : Int64))) 17 13 (loc' := [some (.long a2.toInt64), none, some (.long 0), none, some (.long 2), none]) (st' := []) (h' := p1_h) (cl' := 0) (sl' := 0) rfl (fun hc115 => ?_) (fun hc115 => ?_)
                          · refine ik_Wk 1 (pc' := 18) (loc' := [some (.long a2.toInt64), none, some (.long 0), none, some (.long 2), none]) (st' := [.int 0]) (h' := p1_h) (cl' := 0) (sl' := 0) rfl ?_
                            refine ik_Wret rfl rfl ⟨_, _, rfl, rfl, ?_⟩
                            refine ik_Wk 2 (pc' := 68) (loc' := [some (.ref 66), some (.int a1), some (.int a2), some (.int a3), none]) (st' := [.int (-1000000002)]) (h' := p1_h) (cl' := 0) (sl' := 0) rfl ?_
                            refine ik_Wret rfl rfl ⟨_, _, rfl, rfl, ?_⟩
                            refine ik_Wk 10 (pc' := 1138) (loc' := [some (.retAddr 0), some (.ref 0), some (.ref 66), some (.int 5)]) (st' := [.int 1]) (h' := p1_h) (cl' := 94) (sl' := 4156) rfl ?_
                            exact ik_Wret rfl rfl ⟨rfl, rfl, Nat.le_of_ble_eq_true rfl, Nat.le_of_ble_eq_true rfl⟩
                          · exfalso
                            (try simp only [lg_lt0, lg_gt0] at hs1_0 hs1_1 hs1_2 hc101 hc102 hc103 hc109 hc112 hc113 hc114 hc115) <;> simp only [cv_eq, cv_lt, cv_le, cv_64, (show (0 : Int32).toInt = 0 from by decide), (show (0 : Int64).toInt = 0 from by decide), (show (1 : Int32).toInt = 1 from by decide), (show (1 : Int64).toInt = 1 from by decide), (show (2 : Int32).toInt = 2 from by decide), (show (2 : Int64).toInt = 2 from by decide)] at hs1_0 hs1_1 hs1_2 hc101 hc102 hc103 hc109 hc112 hc113 hc114 hc115 <;> omega
              · exfalso
                (try simp only [lg_lt0, lg_gt0] at hs1_0 hs1_1 hs1_2 hc101 hc102 hc103 hc109) <;> simp only [cv_eq, cv_lt, cv_le, cv_64, (show (0 : Int32).toInt = 0 from by decide), (show (0 : Int64).toInt = 0 from by decide), (show (1 : Int32).toInt = 1 from by decide), (show (1 : Int64).toInt = 1 from by decide), (show (2 : Int32).toInt = 2 from by decide), (show (2 : Int64).toInt = 2 from by decide)] at hs1_0 hs1_1 hs1_2 hc101 hc102 hc103 hc109 <;> omega
      · refine ik_Wk 1 (pc' := 14) (loc' := [some (.int a1)]) (st' := [.int 0]) (h' := p1_h) (cl' := 0) (sl' := 0) rfl ?_
        refine ik_Wret rfl rfl ⟨_, _, rfl, rfl, ?_⟩
        refine ik_Wk 2 (pc' := 36) (loc' := [some (.ref 0), some (.int a1), some (.int a2), some (.int a3), none]) (st' := [.int (-1000000001)]) (h' := p1_h) (cl' := 0) (sl' := 0) rfl ?_
        refine ik_Wret rfl rfl ⟨_, _, rfl, rfl, ?_⟩
        refine ik_Wk 16 (pc' := 362) (loc' := [some (.retAddr 0), some (.ref 0), some (.ref 66), some (.int 0)]) (st' := [.int a3, .int a2, .int a1, .ref 66, .int (-1000000001)]) (h' := p1_h) (cl' := 94) (sl' := 4156) rfl ?_
        refine ik_Wc 87 4 0 [.ref 66, .int a1, .int a2, .int a3] [.int (-1000000001)] rfl rfl rfl (by decide) rfl rfl rfl ?_
        refine ik_Wk 1 (pc' := 1) (loc' := [some (.ref 66), some (.int a1), some (.int a2), some (.int a3), none]) (st' := [.int a1]) (h' := p1_h) (cl' := 0) (sl' := 0) rfl ?_
        refine ik_Wc 75 1 3 [.int a1] [] rfl rfl rfl (by decide) rfl rfl rfl ?_
        refine ik_Wk 4 (pc' := 4) (loc' := [some (.int a1)]) (st' := [.long 1, .long 0, .long a1.toInt64]) (h' := p1_h) (cl' := 0) (sl' := 0) rfl ?_
        refine ik_Wc 70 3 3 [.long a1.toInt64, .long 0, .long 1] [] rfl rfl rfl (by decide) rfl rfl rfl ?_
        refine ik_Wif 4 (c := (lg_cmp a1.toInt64 (0 : Int64)) < 0) 17 6 (loc' := [some (.long a1.toInt64), none, some (.long 0), none, some (.long 1), none]) (st' := []) (h' := p1_h) (cl' := 0) (sl' := 0) rfl (fun hc116 => ?_) (fun hc116 => ?_)
        · refine ik_Wk 1 (pc' := 18) (loc' := [some (.long a1.toInt64), none, some (.long 0), none, some (.long 1), none]) (st' := [.int 0]) (h' := p1_h) (cl' := 0) (sl' := 0) rfl ?_
          refine ik_Wret rfl rfl ⟨_, _, rfl, rfl, ?_⟩
          refine ik_Wret rfl rfl ⟨_, _, rfl, rfl, ?_⟩
          refine ik_Wk 2 (pc' := 9) (loc' := [some (.ref 66), some (.int a1), some (.int a2), some (.int a3), none]) (st' := [.int (-1000000001)]) (h' := p1_h) (cl' := 0) (sl' := 0) rfl ?_
          refine ik_Wret rfl rfl ⟨_, _, rfl, rfl, ?_⟩
          refine ik_Wk 10 (pc' := 1138) (loc' := [some (.retAddr 0), some (.ref 0), some (.ref 66), some (.int 5)]) (st' := [.int 1]) (h' := p1_h) (cl' := 94) (sl' := 4156) rfl ?_
          exact ik_Wret rfl rfl ⟨rfl, rfl, Nat.le_of_ble_eq_true rfl, Nat.le_of_ble_eq_true rfl⟩
        · refine ik_Wif 4 (c := 0 < (lg_cmp a1.toInt64 (1 : Int64))) 17 13 (loc' := [some (.long a1.toInt64), none, some (.long 0), none, some (.long 1), none]) (st' := []) (h' := p1_h) (cl' := 0) (sl' := 0) rfl (fun hc117 => ?_) (fun hc117 => ?_)
          · refine ik_Wk 1 (pc' := 18) (loc' := [some (.long a1.toInt64), none, some (.long 0), none, some (.long 1), none]) (st' := [.int 0]) (h' := p1_h) (cl' := 0) (sl' := 0) rfl ?_
            refine ik_Wret rfl rfl ⟨_, _, rfl, rfl, ?_⟩
            refine ik_Wret rfl rfl ⟨_, _, rfl, rfl, ?_⟩
            refine ik_Wk 2 (pc' := 9) (loc' := [some (.ref 66), some (.int a1), some (.int a2), some (.int a3), none]) (st' := [.int (-1000000001)]) (h' := p1_h) (cl' := 0) (sl' := 0) rfl ?_
            refine ik_Wret rfl rfl ⟨_, _, rfl, rfl, ?_⟩
            refine ik_Wk 10 (pc' := 1138) (loc' := [some (.retAddr 0), some (.ref 0), some (.ref 66), some (.int 5)]) (st' := [.int 1]) (h' := p1_h) (cl' := 94) (sl' := 4156) rfl ?_
            exact ik_Wret rfl rfl ⟨rfl, rfl, Nat.le_of_ble_eq_true rfl, Nat.le_of_ble_eq_true rfl⟩
          · exfalso
            (try simp only [lg_lt0, lg_gt0] at hc84 hc100 hc116 hc117) <;> simp only [cv_eq, cv_lt, cv_le, cv_64, (show (0 : Int32).toInt = 0 from by decide), (show (0 : Int64).toInt = 0 from by decide), (show (1 : Int32).toInt = 1 from by decide), (show (1 : Int64).toInt = 1 from by decide), (show (2 : Int32).toInt = 2 from by decide), (show (2 : Int64).toInt = 2 from by decide)] at hc84 hc100 hc116 hc117 <;> omega
