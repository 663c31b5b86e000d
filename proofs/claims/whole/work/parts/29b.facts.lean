theorem number_b {C S : Cst} {k : Nat} {b r : Int32} (he : sX5_number C k b = (r, S)) : narrow .boolean (.int r) = .int r := sorry
theorem number_sp {C S : Cst} {k : Nat} {b r : Int32} (he : sX5_number C k b = (r, S)) (h0 : 0 ≤ (C 8 0).toInt) (hB : (C 8 0).toInt ≤ 110) : (C 8 0).toInt + 1 ≤ (S 8 0).toInt ∧ (S 8 0).toInt ≤ (C 8 0).toInt + 4 := sorry
theorem IM_number {C : Cst} {k : Nat} {b : Int32} (h : IM C) : IM (sX5_number C k b).2 := sorry
