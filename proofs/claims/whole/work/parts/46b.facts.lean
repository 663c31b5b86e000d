theorem IC_cmd {S B : Xst} {r : Int32} (e : sX4_commandOnTrial S = (r, B)) (h : IC (S 1)) : IC (B 1) := by
  have h1 := ic_cmd h
  rw [e] at h1; exact h1.1
theorem passes_k {S : Xst} {x : Int32} {j : Nat} (hj : ¬ j = 7) : (sX3_passes S x).2 j = S j := by
  unfold sX3_passes
  simp only [ltv]
  split
  · simp [upx, hj]
  · rfl
theorem readNumber_k {S : Xst} {j : Nat} (hj : ¬ j = 7) : (sX3_readNumber S).2 j = S j := by
  unfold sX3_readNumber
  simp only [ltl3, ltv]
  exact zp3_ind (Q9 := fun (S1 : Xst) (_ : Int32) (_ : Nat) (r : Int32 × Xst) => r.2 j = S1 j) (fun _ _ _ => rfl) (fun rec ih S1 x1 i2 => by
    repeat' split
    all_goals first | rfl | (rw [ih]; simp [upx, hj])) 4 _ _ _
theorem readCommand_k {S : Xst} {j : Nat} (hj : ¬ j = 7) : (sX3_readCommand S).2 j = S j := fj_cmd hj
theorem isStopped_k {S : Xst} {x : Int32} {j : Nat} (hj : ¬ j = 8) : (sX2_isStoppedBy S x).2 j = S j := by
  unfold sX2_isStoppedBy
  simp only [ltv]
  split
  · simp [upx, hj]
  · simp [upx, hj]
theorem readCommand_1 {S B : Xst} {r : Int32} (e : sX3_readCommand S = (r, B)) : B 1 = S 1 := by
  have h := readCommand_k (S := S) (j := 1) (by decide)
  rw [e] at h; exact h
theorem isStopped_1 {S B : Xst} {x r : Int32} (e : sX2_isStoppedBy S x = (r, B)) : B 1 = S 1 := by
  have h := isStopped_k (S := S) (x := x) (j := 1) (by decide)
  rw [e] at h; exact h
