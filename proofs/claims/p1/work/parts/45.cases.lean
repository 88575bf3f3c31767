theorem p1_k0 (a0 a1 a2 a3 a4 : Int32) : ik_W (some (5, p1_f a0 a1 a2 a3 a4)) 0 172 [some (.retAddr 0), some (.ref 0), some (.ref 66), some (.int 0)] [] p1_h 94 4156 p1_post := sorry
