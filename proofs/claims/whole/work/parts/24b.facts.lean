theorem IM_excludes {C : Cst} {x : Int32} (h : IM C) : IM (sX5_excludes C x) := sorry
