theorem oweCharges_fr {C : Cst} {k : Nat} (hk : ¬ k = 3) : sX0_oweCharges C k = C k := by
  unfold sX0_oweCharges
  simp only [ltl5, ltv]
  split <;>
  · refine zp5_ind (Q9 := fun (C1 : Cst) _ _ _ _ (r : Cst) => r k = C1 k) (fun _ _ _ _ _ => rfl) (fun rec ih C1 x1 x2 x3 i4 => ?_) 9 C 0 0 _ 0
    repeat' split
    all_goals first | rfl | (simp only [ih, up_k hk])
