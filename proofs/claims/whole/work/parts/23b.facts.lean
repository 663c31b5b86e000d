theorem IM_keeps {C : Cst} {a b c d : Int32} (h : IM C) : IM (sX5_keeps C a b c d) := sorry
theorem in_m {x r : Int32} (he : r = sX5_in x (-2) (-1)) (hc : ¬ r = 0) : x = -1 ∨ x = -2 := by
  subst he
  unfold sX5_in at hc
  split at hc
  · exact absurd rfl hc
  · rename_i h1
    split at hc
    · exact absurd rfl hc
    · rename_i h2
      have g1 := Int32.not_lt.mp h1
      have g2 := Int32.not_lt.mp h2
      rw [Int32.le_iff_toInt_le] at g1 g2
      have e1 : (-2 : Int32).toInt = -2 := by decide
      have e2 : (-1 : Int32).toInt = -1 := by decide
      rw [e1] at g1
      rw [e2] at g2
      rcases (show x.toInt = -1 ∨ x.toInt = -2 by omega) with q | q
      · exact Or.inl (Int32.toInt_inj.mp (by rw [q, e2]))
      · exact Or.inr (Int32.toInt_inj.mp (by rw [q, e1]))
theorem IM_turns {C : Cst} (h : IM C) : IM (sX5_turns C).2 := sorry
theorem IM_copies_0_2 {C : Cst} (h : IM C) : IM (sX5_copies_0_2 C) := sorry
theorem IM_copies_0_12 {C : Cst} (h : IM C) : IM (sX5_copies_0_12 C) := sorry
theorem decp {x : Int32} (h0 : 0 ≤ x.toInt) (h4 : x.toInt ≤ 4) (hn : ¬ x = 0) : 0 ≤ (x - 1).toInt ∧ (x - 1).toInt ≤ 3 := by
  obtain ⟨j, hj, rfl⟩ := nI_nneg h0
  have h1 : 1 ≤ j := Nat.pos_of_ne_zero (fun q => hn (by rw [q]; rfl))
  rw [nI_toInt hj] at h4
  rw [show (1 : Int32) = nI 1 from rfl, nI_sub h1, nI_toInt (by omega)]
  omega
theorem ty_in {x : Int32} (h0 : 0 ≤ x.toInt) (h6 : x.toInt ≤ 60) (hn : ¬ x = 60) : vp_in x 60 := by
  have h1 : ¬ x.toInt = 60 := fun q => hn (Int32.toInt_inj.mp (by rw [q]; decide))
  exact vp_in_iff.mpr ⟨h0, by omega⟩
theorem IM_inc6 {C B : Cst} (hn : ¬ B 6 0 = 60) (e : C 6 0 = B 6 0) (h : IM C) : IM (up C 6 0 ((C 6 0) + 1)) := by
  obtain ⟨a1, a2, a3, a4, a5, a6, a7, a8, a9, a10⟩ := h
  have h1 : ¬ (C 6 0).toInt = 60 := fun q => hn (by rw [← e]; exact Int32.toInt_inj.mp (by rw [q]; decide))
  have e := i32_inc a9 a10
  refine ⟨a1, a2, a3, a4, a5, a6, a7, a8, ?_, ?_⟩ <;> (rw [up_s, e]; omega)
theorem IM_zero6 {C : Cst} (h : IM C) : IM (up C 6 0 0) := by
  obtain ⟨a1, a2, a3, a4, a5, a6, a7, a8, a9, a10⟩ := h
  refine ⟨a1, a2, a3, a4, a5, a6, a7, a8, ?_, ?_⟩ <;> (rw [up_s]; decide)
