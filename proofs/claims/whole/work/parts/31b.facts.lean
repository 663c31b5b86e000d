theorem IM_calls {C : Cst} {b : Int32} (h : IM C) : IM (sX5_calls C b).2 := sorry
theorem calls_8 {C S : Cst} {b r : Int32} (he : sX5_calls C b = (r, S)) : S 8 = C 8 := sorry
