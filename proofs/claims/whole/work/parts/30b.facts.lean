theorem isForm_sp {C S : Cst} {b r : Int32} (he : sX5_isForm C b = (r, S)) (h0 : 0 ≤ (C 8 0).toInt) (hB : (C 8 0).toInt ≤ 100) : (C 8 0).toInt + 1 ≤ (S 8 0).toInt ∧ (S 8 0).toInt ≤ (C 8 0).toInt + 9 := sorry
theorem IM_isForm {C : Cst} {b : Int32} (h : IM C) : IM (sX5_isForm C b).2 := sorry
theorem IM_member {C : Cst} {a : Int32} (h : IM C) : IM (sX5_member C a).2 := sorry
theorem IM_use {C : Cst} {a b : Int32} (h : IM C) : IM (sX5_use C a b).2 := sorry
theorem IM_close {C : Cst} (h : IM C) : IM (sX5_close C).2 := sorry
theorem IM_pay {C : Cst} {a b : Int32} (h : IM C) : IM (sX5_pay C a b).2 := sorry
theorem IM_repair {C : Cst} {a : Int32} (h : IM C) : IM (sX5_repair C a).2 := sorry
