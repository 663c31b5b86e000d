theorem puts_05 {C : Cst} {i w : Nat} {x : Int32} : sX5_puts C i w x 0 5 = C 0 5 := by
  unfold sX5_puts; simp only [ltv]; exact up_n (by omega)
theorem IM_puts {C : Cst} {i w : Nat} {x : Int32} (h : IM C) : IM (sX5_puts C i w x) := by
  unfold sX5_puts; simp only [ltv]; exact IM_0 (by omega) (by omega) (by omega) (by omega) h
theorem changes_0 {C : Cst} : sX5_changes C 0 = C 0 := sorry
theorem IM_changes {C : Cst} (h : IM C) : IM (sX5_changes C) := sorry
theorem mb_in {x v : Int32} (h0 : 0 ≤ x.toInt) (h8 : x.toInt ≤ 8) (e : v = x) (hn : ¬ v = 8) : ∃ j : Nat, j < 8 ∧ v = nI j := by
  subst e
  obtain ⟨j, hj, rfl⟩ := nI_nneg h0
  rw [nI_toInt hj] at h8
  exact ⟨j, Nat.lt_of_le_of_ne (by omega) (fun q => hn (by rw [q]; rfl)), rfl⟩
theorem IM_inc5 {C : Cst} {i : Nat} (h7 : C 0 5 = nI i) (hi : i < 8) (h : IM C) : IM (up C 0 5 ((C 0 5) + 1)) := by
  obtain ⟨a1, a2, a3, a4, a5, a6, a7, a8, a9, a10⟩ := h
  refine ⟨?_, ?_, ?_, ?_, ?_, ?_, a7, a8, a9, a10⟩
  · rw [up_s, h7, nI_1, nI_toInt (by omega)]; omega
  · rw [up_s, h7, nI_1, nI_toInt (by omega)]; omega
  · rw [up_n (by decide)]; exact a3
  · rw [up_n (by decide)]; exact a4
  · rw [up_n (by decide)]; exact a5
  · rw [up_n (by decide)]; exact a6
