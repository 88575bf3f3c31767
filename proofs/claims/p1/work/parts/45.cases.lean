set_option maxHeartbeats 16000000 in
set_option maxRecDepth 100000 in
/-- feed on the new objects -/
theorem p1_k0 (a0 a1 a2 a3 a4 : Int32) : ik_W (some (5, p1_f a0 a1 a2 a3 a4)) 0 172 [some (.retAddr 0), some (.ref 0), some (.ref 66), some (.int 0)] [] p1_h 94 4156 p1_post := by
  rcases p1_sp8 a1 (1) (2) (3) (4) (5) (6) (7) (8) with rfl | rfl | rfl | rfl | rfl | rfl | rfl | rfl | hs1
  · refine ik_Wk 23 (pc' := 198) (loc' := [some (.retAddr 0), some (.ref 0), some (.ref 66), some (.int 0)]) (st' := [.long ((a2.toInt64 <<< ((32 : Int32).toInt64 &&& 63)) ||| (a3.toInt64 &&& (4294967295 : Int64))), .int 1, .ref 0]) (h' := p1_h) (cl' := 94) (sl' := 4156) rfl ?_
    refine ik_Wc 34 3 0 [.ref 0, .int 1, .long ((a2.toInt64 <<< ((32 : Int32).toInt64 &&& 63)) ||| (a3.toInt64 &&& (4294967295 : Int64)))] [] rfl rfl rfl (by decide) rfl rfl rfl ?_
    refine ik_Wk 9 (pc' := 19) (loc' := [some (.ref 0), some (.int 1), some (.long ((a2.toInt64 <<< ((32 : Int32).toInt64 &&& 63)) ||| (a3.toInt64 &&& (4294967295 : Int64)))), none]) (st' := [.int 1, .ref 1]) (h' := p1_h) (cl' := 0) (sl' := 0) rfl ?_
    refine ik_Wc 23 2 0 [.ref 1, .int 1] [] rfl rfl rfl (by decide) rfl rfl rfl ?_
    refine ik_Wk 8 (pc' := 17) (loc' := [some (.ref 1), some (.int 1)]) (st' := [.int 1]) (h' := p1_h) (cl' := 0) (sl' := 0) rfl ?_
    refine ik_Wret rfl rfl ⟨_, _, rfl, rfl, ?_⟩
    refine ik_Wk 5 (pc' := 34) (loc' := [some (.ref 0), some (.int 1), some (.long ((a2.toInt64 <<< ((32 : Int32).toInt64 &&& 63)) ||| (a3.toInt64 &&& (4294967295 : Int64)))), none]) (st' := [.long ((a2.toInt64 <<< ((32 : Int32).toInt64 &&& 63)) ||| (a3.toInt64 &&& (4294967295 : Int64))), .int 1, .ref 1]) (h' := p1_h) (cl' := 0) (sl' := 0) rfl ?_
    refine ik_Wc 24 3 0 [.ref 1, .int 1, .long ((a2.toInt64 <<< ((32 : Int32).toInt64 &&& 63)) ||| (a3.toInt64 &&& (4294967295 : Int64)))] [] rfl rfl rfl (by decide) rfl rfl rfl ?_
    refine ik_Wk 4 (pc' := 5) (loc' := [some (.ref 1), some (.int 1), some (.long ((a2.toInt64 <<< ((32 : Int32).toInt64 &&& 63)) ||| (a3.toInt64 &&& (4294967295 : Int64)))), none, some (.int 0)]) (st' := []) (h' := p1_h) (cl' := 0) (sl' := 0) rfl ?_
    refine ik_Wh p1_hA0 ?_
    refine p1_apl 1 ((a2.toInt64 <<< ((32 : Int32).toInt64 &&& 63)) ||| (a3.toInt64 &&& (4294967295 : Int64))) _ 1 0 (List.replicate 500 (.int 0)) List.length_replicate (by decide) (fun vs2 hv2 => ?_)
    refine ik_Wk 2 (pc' := 48) (loc' := [some (.ref 1), some (.int 1), some (.long ((a2.toInt64 <<< ((32 : Int32).toInt64 &&& 63)) ||| (a3.toInt64 &&& (4294967295 : Int64)))), none, some (.int (-1))]) (st' := [.int 1]) (h' := (p1_hA vs2 1)) (cl' := 0) (sl' := 0) rfl ?_
    refine ik_Wret rfl rfl ⟨_, _, rfl, rfl, ?_⟩
    refine ik_Wret rfl rfl ⟨_, _, rfl, rfl, ?_⟩
    refine ik_Wk 23 (pc' := 227) (loc' := [some (.retAddr 0), some (.ref 0), some (.ref 66), some (.int 0)]) (st' := [.long ((a2.toInt64 <<< ((32 : Int32).toInt64 &&& 63)) ||| (a3.toInt64 &&& (4294967295 : Int64))), .int 1, .ref 66, .int 1]) (h' := (p1_hA vs2 1)) (cl' := 94) (sl' := 4156) rfl ?_
    refine ik_Wc 78 3 0 [.ref 66, .int 1, .long ((a2.toInt64 <<< ((32 : Int32).toInt64 &&& 63)) ||| (a3.toInt64 &&& (4294967295 : Int64)))] [.int 1] rfl rfl rfl (by decide) rfl rfl rfl ?_
    refine ik_Wk 4 (pc' := 6) (loc' := [some (.ref 66), some (.int 1), some (.long ((a2.toInt64 <<< ((32 : Int32).toInt64 &&& 63)) ||| (a3.toInt64 &&& (4294967295 : Int64)))), none, none]) (st' := [.long 8, .long 1, .long 1]) (h' := (p1_hA vs2 1)) (cl' := 0) (sl' := 0) rfl ?_
    refine ik_Wc 70 3 3 [.long 1, .long 1, .long 8] [] rfl rfl rfl (by decide) rfl rfl rfl ?_
    refine ik_Wk 10 (pc' := 18) (loc' := [some (.long 1), none, some (.long 1), none, some (.long 8), none]) (st' := [.int 1]) (h' := (p1_hA vs2 1)) (cl' := 0) (sl' := 0) rfl ?_
    refine ik_Wret rfl rfl ⟨_, _, rfl, rfl, ?_⟩
    refine ik_Wk 11 (pc' := 35) (loc' := [some (.ref 66), some (.int 1), some (.long ((a2.toInt64 <<< ((32 : Int32).toInt64 &&& 63)) ||| (a3.toInt64 &&& (4294967295 : Int64)))), none, some (.int 0)]) (st' := []) (h' := (p1_hA vs2 1)) (cl' := 0) (sl' := 0) rfl ?_
    refine ik_Wh (p1_hM0 vs2 1) ?_
    refine p1_fdl vs2 1 1 ((a2.toInt64 <<< ((32 : Int32).toInt64 &&& 63)) ||| (a3.toInt64 &&& (4294967295 : Int64))) _ 1 0 (List.replicate 500 (.int 0)) List.length_replicate (by decide) (fun vs3 hv3 => ?_)
    refine ik_Wk 2 (pc' := 81) (loc' := [some (.ref 66), some (.int 1), some (.long ((a2.toInt64 <<< ((32 : Int32).toInt64 &&& 63)) ||| (a3.toInt64 &&& (4294967295 : Int64)))), none, some (.int (-1))]) (st' := [.int 1]) (h' := (p1_hM vs2 1 vs3 1)) (cl' := 0) (sl' := 0) rfl ?_
    refine ik_Wret rfl rfl ⟨_, _, rfl, rfl, ?_⟩
    refine ik_Wk 10 (pc' := 1138) (loc' := [some (.retAddr 0), some (.ref 0), some (.ref 66), some (.int 5)]) (st' := [.int 1]) (h' := (p1_hM vs2 1 vs3 1)) (cl' := 94) (sl' := 4156) rfl ?_
    exact ik_Wret rfl rfl ⟨rfl, rfl, Nat.le_of_ble_eq_true rfl, Nat.le_of_ble_eq_true rfl⟩
  · refine ik_Wk 23 (pc' := 198) (loc' := [some (.retAddr 0), some (.ref 0), some (.ref 66), some (.int 0)]) (st' := [.long ((a2.toInt64 <<< ((32 : Int32).toInt64 &&& 63)) ||| (a3.toInt64 &&& (4294967295 : Int64))), .int 2, .ref 0]) (h' := p1_h) (cl' := 94) (sl' := 4156) rfl ?_
    refine ik_Wc 34 3 0 [.ref 0, .int 2, .long ((a2.toInt64 <<< ((32 : Int32).toInt64 &&& 63)) ||| (a3.toInt64 &&& (4294967295 : Int64)))] [] rfl rfl rfl (by decide) rfl rfl rfl ?_
    refine ik_Wk 9 (pc' := 19) (loc' := [some (.ref 0), some (.int 2), some (.long ((a2.toInt64 <<< ((32 : Int32).toInt64 &&& 63)) ||| (a3.toInt64 &&& (4294967295 : Int64)))), none]) (st' := [.int 2, .ref 1]) (h' := p1_h) (cl' := 0) (sl' := 0) rfl ?_
    refine ik_Wc 23 2 0 [.ref 1, .int 2] [] rfl rfl rfl (by decide) rfl rfl rfl ?_
    refine ik_Wk 8 (pc' := 17) (loc' := [some (.ref 1), some (.int 2)]) (st' := [.int 1]) (h' := p1_h) (cl' := 0) (sl' := 0) rfl ?_
    refine ik_Wret rfl rfl ⟨_, _, rfl, rfl, ?_⟩
    refine ik_Wk 5 (pc' := 34) (loc' := [some (.ref 0), some (.int 2), some (.long ((a2.toInt64 <<< ((32 : Int32).toInt64 &&& 63)) ||| (a3.toInt64 &&& (4294967295 : Int64)))), none]) (st' := [.long ((a2.toInt64 <<< ((32 : Int32).toInt64 &&& 63)) ||| (a3.toInt64 &&& (4294967295 : Int64))), .int 2, .ref 1]) (h' := p1_h) (cl' := 0) (sl' := 0) rfl ?_
    refine ik_Wc 24 3 0 [.ref 1, .int 2, .long ((a2.toInt64 <<< ((32 : Int32).toInt64 &&& 63)) ||| (a3.toInt64 &&& (4294967295 : Int64)))] [] rfl rfl rfl (by decide) rfl rfl rfl ?_
    refine ik_Wk 4 (pc' := 5) (loc' := [some (.ref 1), some (.int 2), some (.long ((a2.toInt64 <<< ((32 : Int32).toInt64 &&& 63)) ||| (a3.toInt64 &&& (4294967295 : Int64)))), none, some (.int 1)]) (st' := []) (h' := p1_h) (cl' := 0) (sl' := 0) rfl ?_
    refine ik_Wh p1_hA0 ?_
    refine p1_apl 2 ((a2.toInt64 <<< ((32 : Int32).toInt64 &&& 63)) ||| (a3.toInt64 &&& (4294967295 : Int64))) _ 2 0 (List.replicate 500 (.int 0)) List.length_replicate (by decide) (fun vs4 hv4 => ?_)
    refine ik_Wk 2 (pc' := 48) (loc' := [some (.ref 1), some (.int 2), some (.long ((a2.toInt64 <<< ((32 : Int32).toInt64 &&& 63)) ||| (a3.toInt64 &&& (4294967295 : Int64)))), none, some (.int (-1))]) (st' := [.int 2]) (h' := (p1_hA vs4 2)) (cl' := 0) (sl' := 0) rfl ?_
    refine ik_Wret rfl rfl ⟨_, _, rfl, rfl, ?_⟩
    refine ik_Wret rfl rfl ⟨_, _, rfl, rfl, ?_⟩
    refine ik_Wk 23 (pc' := 227) (loc' := [some (.retAddr 0), some (.ref 0), some (.ref 66), some (.int 0)]) (st' := [.long ((a2.toInt64 <<< ((32 : Int32).toInt64 &&& 63)) ||| (a3.toInt64 &&& (4294967295 : Int64))), .int 2, .ref 66, .int 2]) (h' := (p1_hA vs4 2)) (cl' := 94) (sl' := 4156) rfl ?_
    refine ik_Wc 78 3 0 [.ref 66, .int 2, .long ((a2.toInt64 <<< ((32 : Int32).toInt64 &&& 63)) ||| (a3.toInt64 &&& (4294967295 : Int64)))] [.int 2] rfl rfl rfl (by decide) rfl rfl rfl ?_
    refine ik_Wk 4 (pc' := 6) (loc' := [some (.ref 66), some (.int 2), some (.long ((a2.toInt64 <<< ((32 : Int32).toInt64 &&& 63)) ||| (a3.toInt64 &&& (4294967295 : Int64)))), none, none]) (st' := [.long 8, .long 1, .long 2]) (h' := (p1_hA vs4 2)) (cl' := 0) (sl' := 0) rfl ?_
    refine ik_Wc 70 3 3 [.long 2, .long 1, .long 8] [] rfl rfl rfl (by decide) rfl rfl rfl ?_
    refine ik_Wk 10 (pc' := 18) (loc' := [some (.long 2), none, some (.long 1), none, some (.long 8), none]) (st' := [.int 1]) (h' := (p1_hA vs4 2)) (cl' := 0) (sl' := 0) rfl ?_
    refine ik_Wret rfl rfl ⟨_, _, rfl, rfl, ?_⟩
    refine ik_Wk 11 (pc' := 35) (loc' := [some (.ref 66), some (.int 2), some (.long ((a2.toInt64 <<< ((32 : Int32).toInt64 &&& 63)) ||| (a3.toInt64 &&& (4294967295 : Int64)))), none, some (.int 1)]) (st' := []) (h' := (p1_hA vs4 2)) (cl' := 0) (sl' := 0) rfl ?_
    refine ik_Wh (p1_hM0 vs4 2) ?_
    refine p1_fdl vs4 2 2 ((a2.toInt64 <<< ((32 : Int32).toInt64 &&& 63)) ||| (a3.toInt64 &&& (4294967295 : Int64))) _ 2 0 (List.replicate 500 (.int 0)) List.length_replicate (by decide) (fun vs5 hv5 => ?_)
    refine ik_Wk 2 (pc' := 81) (loc' := [some (.ref 66), some (.int 2), some (.long ((a2.toInt64 <<< ((32 : Int32).toInt64 &&& 63)) ||| (a3.toInt64 &&& (4294967295 : Int64)))), none, some (.int (-1))]) (st' := [.int 2]) (h' := (p1_hM vs4 2 vs5 2)) (cl' := 0) (sl' := 0) rfl ?_
    refine ik_Wret rfl rfl ⟨_, _, rfl, rfl, ?_⟩
    refine ik_Wk 10 (pc' := 1138) (loc' := [some (.retAddr 0), some (.ref 0), some (.ref 66), some (.int 5)]) (st' := [.int 1]) (h' := (p1_hM vs4 2 vs5 2)) (cl' := 94) (sl' := 4156) rfl ?_
    exact ik_Wret rfl rfl ⟨rfl, rfl, Nat.le_of_ble_eq_true rfl, Nat.le_of_ble_eq_true rfl⟩
  · refine ik_Wk 23 (pc' := 198) (loc' := [some (.retAddr 0), some (.ref 0), some (.ref 66), some (.int 0)]) (st' := [.long ((a2.toInt64 <<< ((32 : Int32).toInt64 &&& 63)) ||| (a3.toInt64 &&& (4294967295 : Int64))), .int 3, .ref 0]) (h' := p1_h) (cl' := 94) (sl' := 4156) rfl ?_
    refine ik_Wc 34 3 0 [.ref 0, .int 3, .long ((a2.toInt64 <<< ((32 : Int32).toInt64 &&& 63)) ||| (a3.toInt64 &&& (4294967295 : Int64)))] [] rfl rfl rfl (by decide) rfl rfl rfl ?_
    refine ik_Wk 9 (pc' := 19) (loc' := [some (.ref 0), some (.int 3), some (.long ((a2.toInt64 <<< ((32 : Int32).toInt64 &&& 63)) ||| (a3.toInt64 &&& (4294967295 : Int64)))), none]) (st' := [.int 3, .ref 1]) (h' := p1_h) (cl' := 0) (sl' := 0) rfl ?_
    refine ik_Wc 23 2 0 [.ref 1, .int 3] [] rfl rfl rfl (by decide) rfl rfl rfl ?_
    refine ik_Wk 8 (pc' := 17) (loc' := [some (.ref 1), some (.int 3)]) (st' := [.int 1]) (h' := p1_h) (cl' := 0) (sl' := 0) rfl ?_
    refine ik_Wret rfl rfl ⟨_, _, rfl, rfl, ?_⟩
    refine ik_Wk 5 (pc' := 34) (loc' := [some (.ref 0), some (.int 3), some (.long ((a2.toInt64 <<< ((32 : Int32).toInt64 &&& 63)) ||| (a3.toInt64 &&& (4294967295 : Int64)))), none]) (st' := [.long ((a2.toInt64 <<< ((32 : Int32).toInt64 &&& 63)) ||| (a3.toInt64 &&& (4294967295 : Int64))), .int 3, .ref 1]) (h' := p1_h) (cl' := 0) (sl' := 0) rfl ?_
    refine ik_Wc 24 3 0 [.ref 1, .int 3, .long ((a2.toInt64 <<< ((32 : Int32).toInt64 &&& 63)) ||| (a3.toInt64 &&& (4294967295 : Int64)))] [] rfl rfl rfl (by decide) rfl rfl rfl ?_
    refine ik_Wk 4 (pc' := 5) (loc' := [some (.ref 1), some (.int 3), some (.long ((a2.toInt64 <<< ((32 : Int32).toInt64 &&& 63)) ||| (a3.toInt64 &&& (4294967295 : Int64)))), none, some (.int 2)]) (st' := []) (h' := p1_h) (cl' := 0) (sl' := 0) rfl ?_
    refine ik_Wh p1_hA0 ?_
    refine p1_apl 3 ((a2.toInt64 <<< ((32 : Int32).toInt64 &&& 63)) ||| (a3.toInt64 &&& (4294967295 : Int64))) _ 3 0 (List.replicate 500 (.int 0)) List.length_replicate (by decide) (fun vs6 hv6 => ?_)
    refine ik_Wk 2 (pc' := 48) (loc' := [some (.ref 1), some (.int 3), some (.long ((a2.toInt64 <<< ((32 : Int32).toInt64 &&& 63)) ||| (a3.toInt64 &&& (4294967295 : Int64)))), none, some (.int (-1))]) (st' := [.int 3]) (h' := (p1_hA vs6 3)) (cl' := 0) (sl' := 0) rfl ?_
    refine ik_Wret rfl rfl ⟨_, _, rfl, rfl, ?_⟩
    refine ik_Wret rfl rfl ⟨_, _, rfl, rfl, ?_⟩
    refine ik_Wk 23 (pc' := 227) (loc' := [some (.retAddr 0), some (.ref 0), some (.ref 66), some (.int 0)]) (st' := [.long ((a2.toInt64 <<< ((32 : Int32).toInt64 &&& 63)) ||| (a3.toInt64 &&& (4294967295 : Int64))), .int 3, .ref 66, .int 3]) (h' := (p1_hA vs6 3)) (cl' := 94) (sl' := 4156) rfl ?_
    refine ik_Wc 78 3 0 [.ref 66, .int 3, .long ((a2.toInt64 <<< ((32 : Int32).toInt64 &&& 63)) ||| (a3.toInt64 &&& (4294967295 : Int64)))] [.int 3] rfl rfl rfl (by decide) rfl rfl rfl ?_
    refine ik_Wk 4 (pc' := 6) (loc' := [some (.ref 66), some (.int 3), some (.long ((a2.toInt64 <<< ((32 : Int32).toInt64 &&& 63)) ||| (a3.toInt64 &&& (4294967295 : Int64)))), none, none]) (st' := [.long 8, .long 1, .long 3]) (h' := (p1_hA vs6 3)) (cl' := 0) (sl' := 0) rfl ?_
    refine ik_Wc 70 3 3 [.long 3, .long 1, .long 8] [] rfl rfl rfl (by decide) rfl rfl rfl ?_
    refine ik_Wk 10 (pc' := 18) (loc' := [some (.long 3), none, some (.long 1), none, some (.long 8), none]) (st' := [.int 1]) (h' := (p1_hA vs6 3)) (cl' := 0) (sl' := 0) rfl ?_
    refine ik_Wret rfl rfl ⟨_, _, rfl, rfl, ?_⟩
    refine ik_Wk 11 (pc' := 35) (loc' := [some (.ref 66), some (.int 3), some (.long ((a2.toInt64 <<< ((32 : Int32).toInt64 &&& 63)) ||| (a3.toInt64 &&& (4294967295 : Int64)))), none, some (.int 2)]) (st' := []) (h' := (p1_hA vs6 3)) (cl' := 0) (sl' := 0) rfl ?_
    refine ik_Wh (p1_hM0 vs6 3) ?_
    refine p1_fdl vs6 3 3 ((a2.toInt64 <<< ((32 : Int32).toInt64 &&& 63)) ||| (a3.toInt64 &&& (4294967295 : Int64))) _ 3 0 (List.replicate 500 (.int 0)) List.length_replicate (by decide) (fun vs7 hv7 => ?_)
    refine ik_Wk 2 (pc' := 81) (loc' := [some (.ref 66), some (.int 3), some (.long ((a2.toInt64 <<< ((32 : Int32).toInt64 &&& 63)) ||| (a3.toInt64 &&& (4294967295 : Int64)))), none, some (.int (-1))]) (st' := [.int 3]) (h' := (p1_hM vs6 3 vs7 3)) (cl' := 0) (sl' := 0) rfl ?_
    refine ik_Wret rfl rfl ⟨_, _, rfl, rfl, ?_⟩
    refine ik_Wk 10 (pc' := 1138) (loc' := [some (.retAddr 0), some (.ref 0), some (.ref 66), some (.int 5)]) (st' := [.int 1]) (h' := (p1_hM vs6 3 vs7 3)) (cl' := 94) (sl' := 4156) rfl ?_
    exact ik_Wret rfl rfl ⟨rfl, rfl, Nat.le_of_ble_eq_true rfl, Nat.le_of_ble_eq_true rfl⟩
  · refine ik_Wk 23 (pc' := 198) (loc' := [some (.retAddr 0), some (.ref 0), some (.ref 66), some (.int 0)]) (st' := [.long ((a2.toInt64 <<< ((32 : Int32).toInt64 &&& 63)) ||| (a3.toInt64 &&& (4294967295 : Int64))), .int 4, .ref 0]) (h' := p1_h) (cl' := 94) (sl' := 4156) rfl ?_
    refine ik_Wc 34 3 0 [.ref 0, .int 4, .long ((a2.toInt64 <<< ((32 : Int32).toInt64 &&& 63)) ||| (a3.toInt64 &&& (4294967295 : Int64)))] [] rfl rfl rfl (by decide) rfl rfl rfl ?_
    refine ik_Wk 9 (pc' := 19) (loc' := [some (.ref 0), some (.int 4), some (.long ((a2.toInt64 <<< ((32 : Int32).toInt64 &&& 63)) ||| (a3.toInt64 &&& (4294967295 : Int64)))), none]) (st' := [.int 4, .ref 1]) (h' := p1_h) (cl' := 0) (sl' := 0) rfl ?_
    refine ik_Wc 23 2 0 [.ref 1, .int 4] [] rfl rfl rfl (by decide) rfl rfl rfl ?_
    refine ik_Wk 8 (pc' := 17) (loc' := [some (.ref 1), some (.int 4)]) (st' := [.int 1]) (h' := p1_h) (cl' := 0) (sl' := 0) rfl ?_
    refine ik_Wret rfl rfl ⟨_, _, rfl, rfl, ?_⟩
    refine ik_Wk 5 (pc' := 34) (loc' := [some (.ref 0), some (.int 4), some (.long ((a2.toInt64 <<< ((32 : Int32).toInt64 &&& 63)) ||| (a3.toInt64 &&& (4294967295 : Int64)))), none]) (st' := [.long ((a2.toInt64 <<< ((32 : Int32).toInt64 &&& 63)) ||| (a3.toInt64 &&& (4294967295 : Int64))), .int 4, .ref 1]) (h' := p1_h) (cl' := 0) (sl' := 0) rfl ?_
    refine ik_Wc 24 3 0 [.ref 1, .int 4, .long ((a2.toInt64 <<< ((32 : Int32).toInt64 &&& 63)) ||| (a3.toInt64 &&& (4294967295 : Int64)))] [] rfl rfl rfl (by decide) rfl rfl rfl ?_
    refine ik_Wk 4 (pc' := 5) (loc' := [some (.ref 1), some (.int 4), some (.long ((a2.toInt64 <<< ((32 : Int32).toInt64 &&& 63)) ||| (a3.toInt64 &&& (4294967295 : Int64)))), none, some (.int 3)]) (st' := []) (h' := p1_h) (cl' := 0) (sl' := 0) rfl ?_
    refine ik_Wh p1_hA0 ?_
    refine p1_apl 4 ((a2.toInt64 <<< ((32 : Int32).toInt64 &&& 63)) ||| (a3.toInt64 &&& (4294967295 : Int64))) _ 4 0 (List.replicate 500 (.int 0)) List.length_replicate (by decide) (fun vs8 hv8 => ?_)
    refine ik_Wk 2 (pc' := 48) (loc' := [some (.ref 1), some (.int 4), some (.long ((a2.toInt64 <<< ((32 : Int32).toInt64 &&& 63)) ||| (a3.toInt64 &&& (4294967295 : Int64)))), none, some (.int (-1))]) (st' := [.int 4]) (h' := (p1_hA vs8 4)) (cl' := 0) (sl' := 0) rfl ?_
    refine ik_Wret rfl rfl ⟨_, _, rfl, rfl, ?_⟩
    refine ik_Wret rfl rfl ⟨_, _, rfl, rfl, ?_⟩
    refine ik_Wk 23 (pc' := 227) (loc' := [some (.retAddr 0), some (.ref 0), some (.ref 66), some (.int 0)]) (st' := [.long ((a2.toInt64 <<< ((32 : Int32).toInt64 &&& 63)) ||| (a3.toInt64 &&& (4294967295 : Int64))), .int 4, .ref 66, .int 4]) (h' := (p1_hA vs8 4)) (cl' := 94) (sl' := 4156) rfl ?_
    refine ik_Wc 78 3 0 [.ref 66, .int 4, .long ((a2.toInt64 <<< ((32 : Int32).toInt64 &&& 63)) ||| (a3.toInt64 &&& (4294967295 : Int64)))] [.int 4] rfl rfl rfl (by decide) rfl rfl rfl ?_
    refine ik_Wk 4 (pc' := 6) (loc' := [some (.ref 66), some (.int 4), some (.long ((a2.toInt64 <<< ((32 : Int32).toInt64 &&& 63)) ||| (a3.toInt64 &&& (4294967295 : Int64)))), none, none]) (st' := [.long 8, .long 1, .long 4]) (h' := (p1_hA vs8 4)) (cl' := 0) (sl' := 0) rfl ?_
    refine ik_Wc 70 3 3 [.long 4, .long 1, .long 8] [] rfl rfl rfl (by decide) rfl rfl rfl ?_
    refine ik_Wk 10 (pc' := 18) (loc' := [some (.long 4), none, some (.long 1), none, some (.long 8), none]) (st' := [.int 1]) (h' := (p1_hA vs8 4)) (cl' := 0) (sl' := 0) rfl ?_
    refine ik_Wret rfl rfl ⟨_, _, rfl, rfl, ?_⟩
    refine ik_Wk 11 (pc' := 35) (loc' := [some (.ref 66), some (.int 4), some (.long ((a2.toInt64 <<< ((32 : Int32).toInt64 &&& 63)) ||| (a3.toInt64 &&& (4294967295 : Int64)))), none, some (.int 3)]) (st' := []) (h' := (p1_hA vs8 4)) (cl' := 0) (sl' := 0) rfl ?_
    refine ik_Wh (p1_hM0 vs8 4) ?_
    refine p1_fdl vs8 4 4 ((a2.toInt64 <<< ((32 : Int32).toInt64 &&& 63)) ||| (a3.toInt64 &&& (4294967295 : Int64))) _ 4 0 (List.replicate 500 (.int 0)) List.length_replicate (by decide) (fun vs9 hv9 => ?_)
    refine ik_Wk 2 (pc' := 81) (loc' := [some (.ref 66), some (.int 4), some (.long ((a2.toInt64 <<< ((32 : Int32).toInt64 &&& 63)) ||| (a3.toInt64 &&& (4294967295 : Int64)))), none, some (.int (-1))]) (st' := [.int 4]) (h' := (p1_hM vs8 4 vs9 4)) (cl' := 0) (sl' := 0) rfl ?_
    refine ik_Wret rfl rfl ⟨_, _, rfl, rfl, ?_⟩
    refine ik_Wk 10 (pc' := 1138) (loc' := [some (.retAddr 0), some (.ref 0), some (.ref 66), some (.int 5)]) (st' := [.int 1]) (h' := (p1_hM vs8 4 vs9 4)) (cl' := 94) (sl' := 4156) rfl ?_
    exact ik_Wret rfl rfl ⟨rfl, rfl, Nat.le_of_ble_eq_true rfl, Nat.le_of_ble_eq_true rfl⟩
  · refine ik_Wk 23 (pc' := 198) (loc' := [some (.retAddr 0), some (.ref 0), some (.ref 66), some (.int 0)]) (st' := [.long ((a2.toInt64 <<< ((32 : Int32).toInt64 &&& 63)) ||| (a3.toInt64 &&& (4294967295 : Int64))), .int 5, .ref 0]) (h' := p1_h) (cl' := 94) (sl' := 4156) rfl ?_
    refine ik_Wc 34 3 0 [.ref 0, .int 5, .long ((a2.toInt64 <<< ((32 : Int32).toInt64 &&& 63)) ||| (a3.toInt64 &&& (4294967295 : Int64)))] [] rfl rfl rfl (by decide) rfl rfl rfl ?_
    refine ik_Wk 9 (pc' := 19) (loc' := [some (.ref 0), some (.int 5), some (.long ((a2.toInt64 <<< ((32 : Int32).toInt64 &&& 63)) ||| (a3.toInt64 &&& (4294967295 : Int64)))), none]) (st' := [.int 5, .ref 1]) (h' := p1_h) (cl' := 0) (sl' := 0) rfl ?_
    refine ik_Wc 23 2 0 [.ref 1, .int 5] [] rfl rfl rfl (by decide) rfl rfl rfl ?_
    refine ik_Wk 8 (pc' := 17) (loc' := [some (.ref 1), some (.int 5)]) (st' := [.int 1]) (h' := p1_h) (cl' := 0) (sl' := 0) rfl ?_
    refine ik_Wret rfl rfl ⟨_, _, rfl, rfl, ?_⟩
    refine ik_Wk 5 (pc' := 34) (loc' := [some (.ref 0), some (.int 5), some (.long ((a2.toInt64 <<< ((32 : Int32).toInt64 &&& 63)) ||| (a3.toInt64 &&& (4294967295 : Int64)))), none]) (st' := [.long ((a2.toInt64 <<< ((32 : Int32).toInt64 &&& 63)) ||| (a3.toInt64 &&& (4294967295 : Int64))), .int 5, .ref 1]) (h' := p1_h) (cl' := 0) (sl' := 0) rfl ?_
    refine ik_Wc 24 3 0 [.ref 1, .int 5, .long ((a2.toInt64 <<< ((32 : Int32).toInt64 &&& 63)) ||| (a3.toInt64 &&& (4294967295 : Int64)))] [] rfl rfl rfl (by decide) rfl rfl rfl ?_
    refine ik_Wk 4 (pc' := 5) (loc' := [some (.ref 1), some (.int 5), some (.long ((a2.toInt64 <<< ((32 : Int32).toInt64 &&& 63)) ||| (a3.toInt64 &&& (4294967295 : Int64)))), none, some (.int 4)]) (st' := []) (h' := p1_h) (cl' := 0) (sl' := 0) rfl ?_
    refine ik_Wh p1_hA0 ?_
    refine p1_apl 5 ((a2.toInt64 <<< ((32 : Int32).toInt64 &&& 63)) ||| (a3.toInt64 &&& (4294967295 : Int64))) _ 5 0 (List.replicate 500 (.int 0)) List.length_replicate (by decide) (fun vs10 hv10 => ?_)
    refine ik_Wk 2 (pc' := 48) (loc' := [some (.ref 1), some (.int 5), some (.long ((a2.toInt64 <<< ((32 : Int32).toInt64 &&& 63)) ||| (a3.toInt64 &&& (4294967295 : Int64)))), none, some (.int (-1))]) (st' := [.int 5]) (h' := (p1_hA vs10 5)) (cl' := 0) (sl' := 0) rfl ?_
    refine ik_Wret rfl rfl ⟨_, _, rfl, rfl, ?_⟩
    refine ik_Wret rfl rfl ⟨_, _, rfl, rfl, ?_⟩
    refine ik_Wk 23 (pc' := 227) (loc' := [some (.retAddr 0), some (.ref 0), some (.ref 66), some (.int 0)]) (st' := [.long ((a2.toInt64 <<< ((32 : Int32).toInt64 &&& 63)) ||| (a3.toInt64 &&& (4294967295 : Int64))), .int 5, .ref 66, .int 5]) (h' := (p1_hA vs10 5)) (cl' := 94) (sl' := 4156) rfl ?_
    refine ik_Wc 78 3 0 [.ref 66, .int 5, .long ((a2.toInt64 <<< ((32 : Int32).toInt64 &&& 63)) ||| (a3.toInt64 &&& (4294967295 : Int64)))] [.int 5] rfl rfl rfl (by decide) rfl rfl rfl ?_
    refine ik_Wk 4 (pc' := 6) (loc' := [some (.ref 66), some (.int 5), some (.long ((a2.toInt64 <<< ((32 : Int32).toInt64 &&& 63)) ||| (a3.toInt64 &&& (4294967295 : Int64)))), none, none]) (st' := [.long 8, .long 1, .long 5]) (h' := (p1_hA vs10 5)) (cl' := 0) (sl' := 0) rfl ?_
    refine ik_Wc 70 3 3 [.long 5, .long 1, .long 8] [] rfl rfl rfl (by decide) rfl rfl rfl ?_
    refine ik_Wk 10 (pc' := 18) (loc' := [some (.long 5), none, some (.long 1), none, some (.long 8), none]) (st' := [.int 1]) (h' := (p1_hA vs10 5)) (cl' := 0) (sl' := 0) rfl ?_
    refine ik_Wret rfl rfl ⟨_, _, rfl, rfl, ?_⟩
    refine ik_Wk 11 (pc' := 35) (loc' := [some (.ref 66), some (.int 5), some (.long ((a2.toInt64 <<< ((32 : Int32).toInt64 &&& 63)) ||| (a3.toInt64 &&& (4294967295 : Int64)))), none, some (.int 4)]) (st' := []) (h' := (p1_hA vs10 5)) (cl' := 0) (sl' := 0) rfl ?_
    refine ik_Wh (p1_hM0 vs10 5) ?_
    refine p1_fdl vs10 5 5 ((a2.toInt64 <<< ((32 : Int32).toInt64 &&& 63)) ||| (a3.toInt64 &&& (4294967295 : Int64))) _ 5 0 (List.replicate 500 (.int 0)) List.length_replicate (by decide) (fun vs11 hv11 => ?_)
    refine ik_Wk 2 (pc' := 81) (loc' := [some (.ref 66), some (.int 5), some (.long ((a2.toInt64 <<< ((32 : Int32).toInt64 &&& 63)) ||| (a3.toInt64 &&& (4294967295 : Int64)))), none, some (.int (-1))]) (st' := [.int 5]) (h' := (p1_hM vs10 5 vs11 5)) (cl' := 0) (sl' := 0) rfl ?_
    refine ik_Wret rfl rfl ⟨_, _, rfl, rfl, ?_⟩
    refine ik_Wk 10 (pc' := 1138) (loc' := [some (.retAddr 0), some (.ref 0), some (.ref 66), some (.int 5)]) (st' := [.int 1]) (h' := (p1_hM vs10 5 vs11 5)) (cl' := 94) (sl' := 4156) rfl ?_
    exact ik_Wret rfl rfl ⟨rfl, rfl, Nat.le_of_ble_eq_true rfl, Nat.le_of_ble_eq_true rfl⟩
  · refine ik_Wk 23 (pc' := 198) (loc' := [some (.retAddr 0), some (.ref 0), some (.ref 66), some (.int 0)]) (st' := [.long ((a2.toInt64 <<< ((32 : Int32).toInt64 &&& 63)) ||| (a3.toInt64 &&& (4294967295 : Int64))), .int 6, .ref 0]) (h' := p1_h) (cl' := 94) (sl' := 4156) rfl ?_
    refine ik_Wc 34 3 0 [.ref 0, .int 6, .long ((a2.toInt64 <<< ((32 : Int32).toInt64 &&& 63)) ||| (a3.toInt64 &&& (4294967295 : Int64)))] [] rfl rfl rfl (by decide) rfl rfl rfl ?_
    refine ik_Wk 9 (pc' := 19) (loc' := [some (.ref 0), some (.int 6), some (.long ((a2.toInt64 <<< ((32 : Int32).toInt64 &&& 63)) ||| (a3.toInt64 &&& (4294967295 : Int64)))), none]) (st' := [.int 6, .ref 1]) (h' := p1_h) (cl' := 0) (sl' := 0) rfl ?_
    refine ik_Wc 23 2 0 [.ref 1, .int 6] [] rfl rfl rfl (by decide) rfl rfl rfl ?_
    refine ik_Wk 8 (pc' := 17) (loc' := [some (.ref 1), some (.int 6)]) (st' := [.int 1]) (h' := p1_h) (cl' := 0) (sl' := 0) rfl ?_
    refine ik_Wret rfl rfl ⟨_, _, rfl, rfl, ?_⟩
    refine ik_Wk 5 (pc' := 34) (loc' := [some (.ref 0), some (.int 6), some (.long ((a2.toInt64 <<< ((32 : Int32).toInt64 &&& 63)) ||| (a3.toInt64 &&& (4294967295 : Int64)))), none]) (st' := [.long ((a2.toInt64 <<< ((32 : Int32).toInt64 &&& 63)) ||| (a3.toInt64 &&& (4294967295 : Int64))), .int 6, .ref 1]) (h' := p1_h) (cl' := 0) (sl' := 0) rfl ?_
    refine ik_Wc 24 3 0 [.ref 1, .int 6, .long ((a2.toInt64 <<< ((32 : Int32).toInt64 &&& 63)) ||| (a3.toInt64 &&& (4294967295 : Int64)))] [] rfl rfl rfl (by decide) rfl rfl rfl ?_
    refine ik_Wk 4 (pc' := 5) (loc' := [some (.ref 1), some (.int 6), some (.long ((a2.toInt64 <<< ((32 : Int32).toInt64 &&& 63)) ||| (a3.toInt64 &&& (4294967295 : Int64)))), none, some (.int 5)]) (st' := []) (h' := p1_h) (cl' := 0) (sl' := 0) rfl ?_
    refine ik_Wh p1_hA0 ?_
    refine p1_apl 6 ((a2.toInt64 <<< ((32 : Int32).toInt64 &&& 63)) ||| (a3.toInt64 &&& (4294967295 : Int64))) _ 6 0 (List.replicate 500 (.int 0)) List.length_replicate (by decide) (fun vs12 hv12 => ?_)
    refine ik_Wk 2 (pc' := 48) (loc' := [some (.ref 1), some (.int 6), some (.long ((a2.toInt64 <<< ((32 : Int32).toInt64 &&& 63)) ||| (a3.toInt64 &&& (4294967295 : Int64)))), none, some (.int (-1))]) (st' := [.int 6]) (h' := (p1_hA vs12 6)) (cl' := 0) (sl' := 0) rfl ?_
    refine ik_Wret rfl rfl ⟨_, _, rfl, rfl, ?_⟩
    refine ik_Wret rfl rfl ⟨_, _, rfl, rfl, ?_⟩
    refine ik_Wk 23 (pc' := 227) (loc' := [some (.retAddr 0), some (.ref 0), some (.ref 66), some (.int 0)]) (st' := [.long ((a2.toInt64 <<< ((32 : Int32).toInt64 &&& 63)) ||| (a3.toInt64 &&& (4294967295 : Int64))), .int 6, .ref 66, .int 6]) (h' := (p1_hA vs12 6)) (cl' := 94) (sl' := 4156) rfl ?_
    refine ik_Wc 78 3 0 [.ref 66, .int 6, .long ((a2.toInt64 <<< ((32 : Int32).toInt64 &&& 63)) ||| (a3.toInt64 &&& (4294967295 : Int64)))] [.int 6] rfl rfl rfl (by decide) rfl rfl rfl ?_
    refine ik_Wk 4 (pc' := 6) (loc' := [some (.ref 66), some (.int 6), some (.long ((a2.toInt64 <<< ((32 : Int32).toInt64 &&& 63)) ||| (a3.toInt64 &&& (4294967295 : Int64)))), none, none]) (st' := [.long 8, .long 1, .long 6]) (h' := (p1_hA vs12 6)) (cl' := 0) (sl' := 0) rfl ?_
    refine ik_Wc 70 3 3 [.long 6, .long 1, .long 8] [] rfl rfl rfl (by decide) rfl rfl rfl ?_
    refine ik_Wk 10 (pc' := 18) (loc' := [some (.long 6), none, some (.long 1), none, some (.long 8), none]) (st' := [.int 1]) (h' := (p1_hA vs12 6)) (cl' := 0) (sl' := 0) rfl ?_
    refine ik_Wret rfl rfl ⟨_, _, rfl, rfl, ?_⟩
    refine ik_Wk 11 (pc' := 35) (loc' := [some (.ref 66), some (.int 6), some (.long ((a2.toInt64 <<< ((32 : Int32).toInt64 &&& 63)) ||| (a3.toInt64 &&& (4294967295 : Int64)))), none, some (.int 5)]) (st' := []) (h' := (p1_hA vs12 6)) (cl' := 0) (sl' := 0) rfl ?_
    refine ik_Wh (p1_hM0 vs12 6) ?_
    refine p1_fdl vs12 6 6 ((a2.toInt64 <<< ((32 : Int32).toInt64 &&& 63)) ||| (a3.toInt64 &&& (4294967295 : Int64))) _ 6 0 (List.replicate 500 (.int 0)) List.length_replicate (by decide) (fun vs13 hv13 => ?_)
    refine ik_Wk 2 (pc' := 81) (loc' := [some (.ref 66), some (.int 6), some (.long ((a2.toInt64 <<< ((32 : Int32).toInt64 &&& 63)) ||| (a3.toInt64 &&& (4294967295 : Int64)))), none, some (.int (-1))]) (st' := [.int 6]) (h' := (p1_hM vs12 6 vs13 6)) (cl' := 0) (sl' := 0) rfl ?_
    refine ik_Wret rfl rfl ⟨_, _, rfl, rfl, ?_⟩
    refine ik_Wk 10 (pc' := 1138) (loc' := [some (.retAddr 0), some (.ref 0), some (.ref 66), some (.int 5)]) (st' := [.int 1]) (h' := (p1_hM vs12 6 vs13 6)) (cl' := 94) (sl' := 4156) rfl ?_
    exact ik_Wret rfl rfl ⟨rfl, rfl, Nat.le_of_ble_eq_true rfl, Nat.le_of_ble_eq_true rfl⟩
  · refine ik_Wk 23 (pc' := 198) (loc' := [some (.retAddr 0), some (.ref 0), some (.ref 66), some (.int 0)]) (st' := [.long ((a2.toInt64 <<< ((32 : Int32).toInt64 &&& 63)) ||| (a3.toInt64 &&& (4294967295 : Int64))), .int 7, .ref 0]) (h' := p1_h) (cl' := 94) (sl' := 4156) rfl ?_
    refine ik_Wc 34 3 0 [.ref 0, .int 7, .long ((a2.toInt64 <<< ((32 : Int32).toInt64 &&& 63)) ||| (a3.toInt64 &&& (4294967295 : Int64)))] [] rfl rfl rfl (by decide) rfl rfl rfl ?_
    refine ik_Wk 9 (pc' := 19) (loc' := [some (.ref 0), some (.int 7), some (.long ((a2.toInt64 <<< ((32 : Int32).toInt64 &&& 63)) ||| (a3.toInt64 &&& (4294967295 : Int64)))), none]) (st' := [.int 7, .ref 1]) (h' := p1_h) (cl' := 0) (sl' := 0) rfl ?_
    refine ik_Wc 23 2 0 [.ref 1, .int 7] [] rfl rfl rfl (by decide) rfl rfl rfl ?_
    refine ik_Wk 8 (pc' := 17) (loc' := [some (.ref 1), some (.int 7)]) (st' := [.int 1]) (h' := p1_h) (cl' := 0) (sl' := 0) rfl ?_
    refine ik_Wret rfl rfl ⟨_, _, rfl, rfl, ?_⟩
    refine ik_Wk 5 (pc' := 34) (loc' := [some (.ref 0), some (.int 7), some (.long ((a2.toInt64 <<< ((32 : Int32).toInt64 &&& 63)) ||| (a3.toInt64 &&& (4294967295 : Int64)))), none]) (st' := [.long ((a2.toInt64 <<< ((32 : Int32).toInt64 &&& 63)) ||| (a3.toInt64 &&& (4294967295 : Int64))), .int 7, .ref 1]) (h' := p1_h) (cl' := 0) (sl' := 0) rfl ?_
    refine ik_Wc 24 3 0 [.ref 1, .int 7, .long ((a2.toInt64 <<< ((32 : Int32).toInt64 &&& 63)) ||| (a3.toInt64 &&& (4294967295 : Int64)))] [] rfl rfl rfl (by decide) rfl rfl rfl ?_
    refine ik_Wk 4 (pc' := 5) (loc' := [some (.ref 1), some (.int 7), some (.long ((a2.toInt64 <<< ((32 : Int32).toInt64 &&& 63)) ||| (a3.toInt64 &&& (4294967295 : Int64)))), none, some (.int 6)]) (st' := []) (h' := p1_h) (cl' := 0) (sl' := 0) rfl ?_
    refine ik_Wh p1_hA0 ?_
    refine p1_apl 7 ((a2.toInt64 <<< ((32 : Int32).toInt64 &&& 63)) ||| (a3.toInt64 &&& (4294967295 : Int64))) _ 7 0 (List.replicate 500 (.int 0)) List.length_replicate (by decide) (fun vs14 hv14 => ?_)
    refine ik_Wk 2 (pc' := 48) (loc' := [some (.ref 1), some (.int 7), some (.long ((a2.toInt64 <<< ((32 : Int32).toInt64 &&& 63)) ||| (a3.toInt64 &&& (4294967295 : Int64)))), none, some (.int (-1))]) (st' := [.int 7]) (h' := (p1_hA vs14 7)) (cl' := 0) (sl' := 0) rfl ?_
    refine ik_Wret rfl rfl ⟨_, _, rfl, rfl, ?_⟩
    refine ik_Wret rfl rfl ⟨_, _, rfl, rfl, ?_⟩
    refine ik_Wk 23 (pc' := 227) (loc' := [some (.retAddr 0), some (.ref 0), some (.ref 66), some (.int 0)]) (st' := [.long ((a2.toInt64 <<< ((32 : Int32).toInt64 &&& 63)) ||| (a3.toInt64 &&& (4294967295 : Int64))), .int 7, .ref 66, .int 7]) (h' := (p1_hA vs14 7)) (cl' := 94) (sl' := 4156) rfl ?_
    refine ik_Wc 78 3 0 [.ref 66, .int 7, .long ((a2.toInt64 <<< ((32 : Int32).toInt64 &&& 63)) ||| (a3.toInt64 &&& (4294967295 : Int64)))] [.int 7] rfl rfl rfl (by decide) rfl rfl rfl ?_
    refine ik_Wk 4 (pc' := 6) (loc' := [some (.ref 66), some (.int 7), some (.long ((a2.toInt64 <<< ((32 : Int32).toInt64 &&& 63)) ||| (a3.toInt64 &&& (4294967295 : Int64)))), none, none]) (st' := [.long 8, .long 1, .long 7]) (h' := (p1_hA vs14 7)) (cl' := 0) (sl' := 0) rfl ?_
    refine ik_Wc 70 3 3 [.long 7, .long 1, .long 8] [] rfl rfl rfl (by decide) rfl rfl rfl ?_
    refine ik_Wk 10 (pc' := 18) (loc' := [some (.long 7), none, some (.long 1), none, some (.long 8), none]) (st' := [.int 1]) (h' := (p1_hA vs14 7)) (cl' := 0) (sl' := 0) rfl ?_
    refine ik_Wret rfl rfl ⟨_, _, rfl, rfl, ?_⟩
    refine ik_Wk 11 (pc' := 35) (loc' := [some (.ref 66), some (.int 7), some (.long ((a2.toInt64 <<< ((32 : Int32).toInt64 &&& 63)) ||| (a3.toInt64 &&& (4294967295 : Int64)))), none, some (.int 6)]) (st' := []) (h' := (p1_hA vs14 7)) (cl' := 0) (sl' := 0) rfl ?_
    refine ik_Wh (p1_hM0 vs14 7) ?_
    refine p1_fdl vs14 7 7 ((a2.toInt64 <<< ((32 : Int32).toInt64 &&& 63)) ||| (a3.toInt64 &&& (4294967295 : Int64))) _ 7 0 (List.replicate 500 (.int 0)) List.length_replicate (by decide) (fun vs15 hv15 => ?_)
    refine ik_Wk 2 (pc' := 81) (loc' := [some (.ref 66), some (.int 7), some (.long ((a2.toInt64 <<< ((32 : Int32).toInt64 &&& 63)) ||| (a3.toInt64 &&& (4294967295 : Int64)))), none, some (.int (-1))]) (st' := [.int 7]) (h' := (p1_hM vs14 7 vs15 7)) (cl' := 0) (sl' := 0) rfl ?_
    refine ik_Wret rfl rfl ⟨_, _, rfl, rfl, ?_⟩
    refine ik_Wk 10 (pc' := 1138) (loc' := [some (.retAddr 0), some (.ref 0), some (.ref 66), some (.int 5)]) (st' := [.int 1]) (h' := (p1_hM vs14 7 vs15 7)) (cl' := 94) (sl' := 4156) rfl ?_
    exact ik_Wret rfl rfl ⟨rfl, rfl, Nat.le_of_ble_eq_true rfl, Nat.le_of_ble_eq_true rfl⟩
  · refine ik_Wk 23 (pc' := 198) (loc' := [some (.retAddr 0), some (.ref 0), some (.ref 66), some (.int 0)]) (st' := [.long ((a2.toInt64 <<< ((32 : Int32).toInt64 &&& 63)) ||| (a3.toInt64 &&& (4294967295 : Int64))), .int 8, .ref 0]) (h' := p1_h) (cl' := 94) (sl' := 4156) rfl ?_
    refine ik_Wc 34 3 0 [.ref 0, .int 8, .long ((a2.toInt64 <<< ((32 : Int32).toInt64 &&& 63)) ||| (a3.toInt64 &&& (4294967295 : Int64)))] [] rfl rfl rfl (by decide) rfl rfl rfl ?_
    refine ik_Wk 9 (pc' := 19) (loc' := [some (.ref 0), some (.int 8), some (.long ((a2.toInt64 <<< ((32 : Int32).toInt64 &&& 63)) ||| (a3.toInt64 &&& (4294967295 : Int64)))), none]) (st' := [.int 8, .ref 1]) (h' := p1_h) (cl' := 0) (sl' := 0) rfl ?_
    refine ik_Wc 23 2 0 [.ref 1, .int 8] [] rfl rfl rfl (by decide) rfl rfl rfl ?_
    refine ik_Wk 8 (pc' := 17) (loc' := [some (.ref 1), some (.int 8)]) (st' := [.int 1]) (h' := p1_h) (cl' := 0) (sl' := 0) rfl ?_
    refine ik_Wret rfl rfl ⟨_, _, rfl, rfl, ?_⟩
    refine ik_Wk 5 (pc' := 34) (loc' := [some (.ref 0), some (.int 8), some (.long ((a2.toInt64 <<< ((32 : Int32).toInt64 &&& 63)) ||| (a3.toInt64 &&& (4294967295 : Int64)))), none]) (st' := [.long ((a2.toInt64 <<< ((32 : Int32).toInt64 &&& 63)) ||| (a3.toInt64 &&& (4294967295 : Int64))), .int 8, .ref 1]) (h' := p1_h) (cl' := 0) (sl' := 0) rfl ?_
    refine ik_Wc 24 3 0 [.ref 1, .int 8, .long ((a2.toInt64 <<< ((32 : Int32).toInt64 &&& 63)) ||| (a3.toInt64 &&& (4294967295 : Int64)))] [] rfl rfl rfl (by decide) rfl rfl rfl ?_
    refine ik_Wk 4 (pc' := 5) (loc' := [some (.ref 1), some (.int 8), some (.long ((a2.toInt64 <<< ((32 : Int32).toInt64 &&& 63)) ||| (a3.toInt64 &&& (4294967295 : Int64)))), none, some (.int 7)]) (st' := []) (h' := p1_h) (cl' := 0) (sl' := 0) rfl ?_
    refine ik_Wh p1_hA0 ?_
    refine p1_apl 8 ((a2.toInt64 <<< ((32 : Int32).toInt64 &&& 63)) ||| (a3.toInt64 &&& (4294967295 : Int64))) _ 8 0 (List.replicate 500 (.int 0)) List.length_replicate (by decide) (fun vs16 hv16 => ?_)
    refine ik_Wk 2 (pc' := 48) (loc' := [some (.ref 1), some (.int 8), some (.long ((a2.toInt64 <<< ((32 : Int32).toInt64 &&& 63)) ||| (a3.toInt64 &&& (4294967295 : Int64)))), none, some (.int (-1))]) (st' := [.int 8]) (h' := (p1_hA vs16 8)) (cl' := 0) (sl' := 0) rfl ?_
    refine ik_Wret rfl rfl ⟨_, _, rfl, rfl, ?_⟩
    refine ik_Wret rfl rfl ⟨_, _, rfl, rfl, ?_⟩
    refine ik_Wk 23 (pc' := 227) (loc' := [some (.retAddr 0), some (.ref 0), some (.ref 66), some (.int 0)]) (st' := [.long ((a2.toInt64 <<< ((32 : Int32).toInt64 &&& 63)) ||| (a3.toInt64 &&& (4294967295 : Int64))), .int 8, .ref 66, .int 8]) (h' := (p1_hA vs16 8)) (cl' := 94) (sl' := 4156) rfl ?_
    refine ik_Wc 78 3 0 [.ref 66, .int 8, .long ((a2.toInt64 <<< ((32 : Int32).toInt64 &&& 63)) ||| (a3.toInt64 &&& (4294967295 : Int64)))] [.int 8] rfl rfl rfl (by decide) rfl rfl rfl ?_
    refine ik_Wk 4 (pc' := 6) (loc' := [some (.ref 66), some (.int 8), some (.long ((a2.toInt64 <<< ((32 : Int32).toInt64 &&& 63)) ||| (a3.toInt64 &&& (4294967295 : Int64)))), none, none]) (st' := [.long 8, .long 1, .long 8]) (h' := (p1_hA vs16 8)) (cl' := 0) (sl' := 0) rfl ?_
    refine ik_Wc 70 3 3 [.long 8, .long 1, .long 8] [] rfl rfl rfl (by decide) rfl rfl rfl ?_
    refine ik_Wk 10 (pc' := 18) (loc' := [some (.long 8), none, some (.long 1), none, some (.long 8), none]) (st' := [.int 1]) (h' := (p1_hA vs16 8)) (cl' := 0) (sl' := 0) rfl ?_
    refine ik_Wret rfl rfl ⟨_, _, rfl, rfl, ?_⟩
    refine ik_Wk 11 (pc' := 35) (loc' := [some (.ref 66), some (.int 8), some (.long ((a2.toInt64 <<< ((32 : Int32).toInt64 &&& 63)) ||| (a3.toInt64 &&& (4294967295 : Int64)))), none, some (.int 7)]) (st' := []) (h' := (p1_hA vs16 8)) (cl' := 0) (sl' := 0) rfl ?_
    refine ik_Wh (p1_hM0 vs16 8) ?_
    refine p1_fdl vs16 8 8 ((a2.toInt64 <<< ((32 : Int32).toInt64 &&& 63)) ||| (a3.toInt64 &&& (4294967295 : Int64))) _ 8 0 (List.replicate 500 (.int 0)) List.length_replicate (by decide) (fun vs17 hv17 => ?_)
    refine ik_Wk 2 (pc' := 81) (loc' := [some (.ref 66), some (.int 8), some (.long ((a2.toInt64 <<< ((32 : Int32).toInt64 &&& 63)) ||| (a3.toInt64 &&& (4294967295 : Int64)))), none, some (.int (-1))]) (st' := [.int 8]) (h' := (p1_hM vs16 8 vs17 8)) (cl' := 0) (sl' := 0) rfl ?_
    refine ik_Wret rfl rfl ⟨_, _, rfl, rfl, ?_⟩
    refine ik_Wk 10 (pc' := 1138) (loc' := [some (.retAddr 0), some (.ref 0), some (.ref 66), some (.int 5)]) (st' := [.int 1]) (h' := (p1_hM vs16 8 vs17 8)) (cl' := 94) (sl' := 4156) rfl ?_
    exact ik_Wret rfl rfl ⟨rfl, rfl, Nat.le_of_ble_eq_true rfl, Nat.le_of_ble_eq_true rfl⟩
  · obtain ⟨hs1_0, hs1_1, hs1_2, hs1_3, hs1_4, hs1_5, hs1_6, hs1_7⟩ := hs1
    refine ik_Wk 23 (pc' := 198) (loc' := [some (.retAddr 0), some (.ref 0), some (.ref 66), some (.int 0)]) (st' := [.long ((a2.toInt64 <<< ((32 : Int32).toInt64 &&& 63)) ||| (a3.toInt64 &&& (4294967295 : Int64))), .int a1, .ref 0]) (h' := p1_h) (cl' := 94) (sl' := 4156) rfl ?_
    refine ik_Wc 34 3 0 [.ref 0, .int a1, .long ((a2.toInt64 <<< ((32 : Int32).toInt64 &&& 63)) ||| (a3.toInt64 &&& (4294967295 : Int64)))] [] rfl rfl rfl (by decide) rfl rfl rfl ?_
    refine ik_Wif 3 (c := a1 < (1 : Int32)) 11 5 (loc' := [some (.ref 0), some (.int a1), some (.long ((a2.toInt64 <<< ((32 : Int32).toInt64 &&& 63)) ||| (a3.toInt64 &&& (4294967295 : Int64)))), none]) (st' := []) (h' := p1_h) (cl' := 0) (sl' := 0) rfl (fun hc18 => ?_) (fun hc18 => ?_)
    · refine ik_Wk 1 (pc' := 13) (loc' := [some (.ref 0), some (.int a1), some (.long ((a2.toInt64 <<< ((32 : Int32).toInt64 &&& 63)) ||| (a3.toInt64 &&& (4294967295 : Int64)))), none]) (st' := [.int (-1000000002)]) (h' := p1_h) (cl' := 0) (sl' := 0) rfl ?_
      refine ik_Wret rfl rfl ⟨_, _, rfl, rfl, ?_⟩
      refine ik_Wk 23 (pc' := 227) (loc' := [some (.retAddr 0), some (.ref 0), some (.ref 66), some (.int 0)]) (st' := [.long ((a2.toInt64 <<< ((32 : Int32).toInt64 &&& 63)) ||| (a3.toInt64 &&& (4294967295 : Int64))), .int a1, .ref 66, .int (-1000000002)]) (h' := p1_h) (cl' := 94) (sl' := 4156) rfl ?_
      refine ik_Wc 78 3 0 [.ref 66, .int a1, .long ((a2.toInt64 <<< ((32 : Int32).toInt64 &&& 63)) ||| (a3.toInt64 &&& (4294967295 : Int64)))] [.int (-1000000002)] rfl rfl rfl (by decide) rfl rfl rfl ?_
      refine ik_Wk 4 (pc' := 6) (loc' := [some (.ref 66), some (.int a1), some (.long ((a2.toInt64 <<< ((32 : Int32).toInt64 &&& 63)) ||| (a3.toInt64 &&& (4294967295 : Int64)))), none, none]) (st' := [.long 8, .long 1, .long a1.toInt64]) (h' := p1_h) (cl' := 0) (sl' := 0) rfl ?_
      refine ik_Wc 70 3 3 [.long a1.toInt64, .long 1, .long 8] [] rfl rfl rfl (by decide) rfl rfl rfl ?_
      refine ik_Wif 4 (c := (lg_cmp a1.toInt64 (1 : Int64)) < 0) 17 6 (loc' := [some (.long a1.toInt64), none, some (.long 1), none, some (.long 8), none]) (st' := []) (h' := p1_h) (cl' := 0) (sl' := 0) rfl (fun hc19 => ?_) (fun hc19 => ?_)
      · refine ik_Wk 1 (pc' := 18) (loc' := [some (.long a1.toInt64), none, some (.long 1), none, some (.long 8), none]) (st' := [.int 0]) (h' := p1_h) (cl' := 0) (sl' := 0) rfl ?_
        refine ik_Wret rfl rfl ⟨_, _, rfl, rfl, ?_⟩
        refine ik_Wk 2 (pc' := 14) (loc' := [some (.ref 66), some (.int a1), some (.long ((a2.toInt64 <<< ((32 : Int32).toInt64 &&& 63)) ||| (a3.toInt64 &&& (4294967295 : Int64)))), none, none]) (st' := [.int (-1000000002)]) (h' := p1_h) (cl' := 0) (sl' := 0) rfl ?_
        refine ik_Wret rfl rfl ⟨_, _, rfl, rfl, ?_⟩
        refine ik_Wk 10 (pc' := 1138) (loc' := [some (.retAddr 0), some (.ref 0), some (.ref 66), some (.int 5)]) (st' := [.int 1]) (h' := p1_h) (cl' := 94) (sl' := 4156) rfl ?_
        exact ik_Wret rfl rfl ⟨rfl, rfl, Nat.le_of_ble_eq_true rfl, Nat.le_of_ble_eq_true rfl⟩
      · exfalso
        (try simp only [lg_lt0, lg_gt0] at hs1_0 hs1_1 hs1_2 hs1_3 hs1_4 hs1_5 hs1_6 hs1_7 hc18 hc19) <;> simp only [cv_eq, cv_lt, cv_le, cv_64, (show (0 : Int32).toInt = 0 from by decide), (show (0 : Int64).toInt = 0 from by decide), (show (1 : Int32).toInt = 1 from by decide), (show (1 : Int64).toInt = 1 from by decide), (show (2 : Int32).toInt = 2 from by decide), (show (2 : Int64).toInt = 2 from by decide), (show (3 : Int32).toInt = 3 from by decide), (show (3 : Int64).toInt = 3 from by decide), (show (4 : Int32).toInt = 4 from by decide), (show (4 : Int64).toInt = 4 from by decide), (show (5 : Int32).toInt = 5 from by decide), (show (5 : Int64).toInt = 5 from by decide), (show (6 : Int32).toInt = 6 from by decide), (show (6 : Int64).toInt = 6 from by decide), (show (7 : Int32).toInt = 7 from by decide), (show (7 : Int64).toInt = 7 from by decide), (show (8 : Int32).toInt = 8 from by decide), (show (8 : Int64).toInt = 8 from by decide)] at hs1_0 hs1_1 hs1_2 hs1_3 hs1_4 hs1_5 hs1_6 hs1_7 hc18 hc19 <;> omega
    · refine ik_Wif 3 (c := a1 ≤ (8 : Int32)) 14 11 (loc' := [some (.ref 0), some (.int a1), some (.long ((a2.toInt64 <<< ((32 : Int32).toInt64 &&& 63)) ||| (a3.toInt64 &&& (4294967295 : Int64)))), none]) (st' := []) (h' := p1_h) (cl' := 0) (sl' := 0) rfl (fun hc20 => ?_) (fun hc20 => ?_)
      · exfalso
        (try simp only [lg_lt0, lg_gt0] at hs1_0 hs1_1 hs1_2 hs1_3 hs1_4 hs1_5 hs1_6 hs1_7 hc18 hc20) <;> simp only [cv_eq, cv_lt, cv_le, cv_64, (show (0 : Int32).toInt = 0 from by decide), (show (0 : Int64).toInt = 0 from by decide), (show (1 : Int32).toInt = 1 from by decide), (show (1 : Int64).toInt = 1 from by decide), (show (2 : Int32).toInt = 2 from by decide), (show (2 : Int64).toInt = 2 from by decide), (show (3 : Int32).toInt = 3 from by decide), (show (3 : Int64).toInt = 3 from by decide), (show (4 : Int32).toInt = 4 from by decide), (show (4 : Int64).toInt = 4 from by decide), (show (5 : Int32).toInt = 5 from by decide), (show (5 : Int64).toInt = 5 from by decide), (show (6 : Int32).toInt = 6 from by decide), (show (6 : Int64).toInt = 6 from by decide), (show (7 : Int32).toInt = 7 from by decide), (show (7 : Int64).toInt = 7 from by decide), (show (8 : Int32).toInt = 8 from by decide), (show (8 : Int64).toInt = 8 from by decide)] at hs1_0 hs1_1 hs1_2 hs1_3 hs1_4 hs1_5 hs1_6 hs1_7 hc18 hc20 <;> omega
      · refine ik_Wk 1 (pc' := 13) (loc' := [some (.ref 0), some (.int a1), some (.long ((a2.toInt64 <<< ((32 : Int32).toInt64 &&& 63)) ||| (a3.toInt64 &&& (4294967295 : Int64)))), none]) (st' := [.int (-1000000002)]) (h' := p1_h) (cl' := 0) (sl' := 0) rfl ?_
        refine ik_Wret rfl rfl ⟨_, _, rfl, rfl, ?_⟩
        refine ik_Wk 23 (pc' := 227) (loc' := [some (.retAddr 0), some (.ref 0), some (.ref 66), some (.int 0)]) (st' := [.long ((a2.toInt64 <<< ((32 : Int32).toInt64 &&& 63)) ||| (a3.toInt64 &&& (4294967295 : Int64))), .int a1, .ref 66, .int (-1000000002)]) (h' := p1_h) (cl' := 94) (sl' := 4156) rfl ?_
        refine ik_Wc 78 3 0 [.ref 66, .int a1, .long ((a2.toInt64 <<< ((32 : Int32).toInt64 &&& 63)) ||| (a3.toInt64 &&& (4294967295 : Int64)))] [.int (-1000000002)] rfl rfl rfl (by decide) rfl rfl rfl ?_
        refine ik_Wk 4 (pc' := 6) (loc' := [some (.ref 66), some (.int a1), some (.long ((a2.toInt64 <<< ((32 : Int32).toInt64 &&& 63)) ||| (a3.toInt64 &&& (4294967295 : Int64)))), none, none]) (st' := [.long 8, .long 1, .long a1.toInt64]) (h' := p1_h) (cl' := 0) (sl' := 0) rfl ?_
        refine ik_Wc 70 3 3 [.long a1.toInt64, .long 1, .long 8] [] rfl rfl rfl (by decide) rfl rfl rfl ?_
        refine ik_Wif 4 (c := (lg_cmp a1.toInt64 (1 : Int64)) < 0) 17 6 (loc' := [some (.long a1.toInt64), none, some (.long 1), none, some (.long 8), none]) (st' := []) (h' := p1_h) (cl' := 0) (sl' := 0) rfl (fun hc21 => ?_) (fun hc21 => ?_)
        · exfalso
          (try simp only [lg_lt0, lg_gt0] at hs1_0 hs1_1 hs1_2 hs1_3 hs1_4 hs1_5 hs1_6 hs1_7 hc18 hc20 hc21) <;> simp only [cv_eq, cv_lt, cv_le, cv_64, (show (0 : Int32).toInt = 0 from by decide), (show (0 : Int64).toInt = 0 from by decide), (show (1 : Int32).toInt = 1 from by decide), (show (1 : Int64).toInt = 1 from by decide), (show (2 : Int32).toInt = 2 from by decide), (show (2 : Int64).toInt = 2 from by decide), (show (3 : Int32).toInt = 3 from by decide), (show (3 : Int64).toInt = 3 from by decide), (show (4 : Int32).toInt = 4 from by decide), (show (4 : Int64).toInt = 4 from by decide), (show (5 : Int32).toInt = 5 from by decide), (show (5 : Int64).toInt = 5 from by decide), (show (6 : Int32).toInt = 6 from by decide), (show (6 : Int64).toInt = 6 from by decide), (show (7 : Int32).toInt = 7 from by decide), (show (7 : Int64).toInt = 7 from by decide), (show (8 : Int32).toInt = 8 from by decide), (show (8 : Int64).toInt = 8 from by decide)] at hs1_0 hs1_1 hs1_2 hs1_3 hs1_4 hs1_5 hs1_6 hs1_7 hc18 hc20 hc21 <;> omega
        · refine ik_Wif 4 (c := 0 < (lg_cmp a1.toInt64 (8 : Int64))) 17 13 (loc' := [some (.long a1.toInt64), none, some (.long 1), none, some (.long 8), none]) (st' := []) (h' := p1_h) (cl' := 0) (sl' := 0) rfl (fun hc22 => ?_) (fun hc22 => ?_)
          · refine ik_Wk 1 (pc' := 18) (loc' := [some (.long a1.toInt64), none, some (.long 1), none, some (.long 8), none]) (st' := [.int 0]) (h' := p1_h) (cl' := 0) (sl' := 0) rfl ?_
            refine ik_Wret rfl rfl ⟨_, _, rfl, rfl, ?_⟩
            refine ik_Wk 2 (pc' := 14) (loc' := [some (.ref 66), some (.int a1), some (.long ((a2.toInt64 <<< ((32 : Int32).toInt64 &&& 63)) ||| (a3.toInt64 &&& (4294967295 : Int64)))), none, none]) (st' := [.int (-1000000002)]) (h' := p1_h) (cl' := 0) (sl' := 0) rfl ?_
            refine ik_Wret rfl rfl ⟨_, _, rfl, rfl, ?_⟩
            refine ik_Wk 10 (pc' := 1138) (loc' := [some (.retAddr 0), some (.ref 0), some (.ref 66), some (.int 5)]) (st' := [.int 1]) (h' := p1_h) (cl' := 94) (sl' := 4156) rfl ?_
            exact ik_Wret rfl rfl ⟨rfl, rfl, Nat.le_of_ble_eq_true rfl, Nat.le_of_ble_eq_true rfl⟩
          · exfalso
            (try simp only [lg_lt0, lg_gt0] at hs1_0 hs1_1 hs1_2 hs1_3 hs1_4 hs1_5 hs1_6 hs1_7 hc18 hc20 hc21 hc22) <;> simp only [cv_eq, cv_lt, cv_le, cv_64, (show (0 : Int32).toInt = 0 from by decide), (show (0 : Int64).toInt = 0 from by decide), (show (1 : Int32).toInt = 1 from by decide), (show (1 : Int64).toInt = 1 from by decide), (show (2 : Int32).toInt = 2 from by decide), (show (2 : Int64).toInt = 2 from by decide), (show (3 : Int32).toInt = 3 from by decide), (show (3 : Int64).toInt = 3 from by decide), (show (4 : Int32).toInt = 4 from by decide), (show (4 : Int64).toInt = 4 from by decide), (show (5 : Int32).toInt = 5 from by decide), (show (5 : Int64).toInt = 5 from by decide), (show (6 : Int32).toInt = 6 from by decide), (show (6 : Int64).toInt = 6 from by decide), (show (7 : Int32).toInt = 7 from by decide), (show (7 : Int64).toInt = 7 from by decide), (show (8 : Int32).toInt = 8 from by decide), (show (8 : Int64).toInt = 8 from by decide)] at hs1_0 hs1_1 hs1_2 hs1_3 hs1_4 hs1_5 hs1_6 hs1_7 hc18 hc20 hc21 hc22 <;> omega
