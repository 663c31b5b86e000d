theorem isAt_01 {C : Cst} {a b : Int32} : sX5_isAt C a b = 0 ∨ sX5_isAt C a b = 1 := by
  unfold sX5_isAt
  simp only [ltv]
  repeat' split
  all_goals first | exact Or.inl rfl | exact Or.inr rfl
theorem isAt_b {C : Cst} {a b r : Int32} (he : r = sX5_isAt C a b) : narrow .boolean (.int r) = .int r := by
  subst he
  rcases @isAt_01 C a b with h | h <;> (rw [h]; rfl)
theorem isAt_in {C : Cst} {a b r : Int32} (he : r = sX5_isAt C a b) (hc : ¬ r = 0) (h0 : 0 ≤ (C 8 0).toInt) (hI : IM C) : vp_in (C 8 0) 60 := by
  subst he
  unfold sX5_isAt at hc
  split at hc
  · exact absurd rfl hc
  · rename_i h
    exact at_in h0 hI.2.2.2.2.2.2.2.2.2 h
