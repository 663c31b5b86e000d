theorem readCommand_1 {S B : Xst} {r : Int32} (e : sX3_readCommand S = (r, B)) : B 1 = S 1 := sorry
theorem isStopped_1 {S B : Xst} {x r : Int32} (e : sX2_isStoppedBy S x = (r, B)) : B 1 = S 1 := sorry
theorem IC_cmd {S B : Xst} {r : Int32} (e : sX4_commandOnTrial S = (r, B)) (h : IC (S 1)) : IC (B 1) := sorry
