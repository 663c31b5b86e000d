theorem IM_plays {C : Cst} (h : IM C) : IM (sX5_plays C).2 := sorry
theorem IM_back {C B S : Cst} {r : Int32} (er : sX5_plays B = (r, S)) (eB : B = sX5_copies_0_12 C) (hC : IM C) (hS : IM S) : IM (sX5_copies_12_0 S) := sorry
