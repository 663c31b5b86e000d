theorem IM_ends {C : Cst} (h : IM C) : IM (sX5_ends C).2 := sorry
