theorem mem_in {C : Cst} {x r : Int32} (he : r = sX5_isMember C x) (hc : ¬ r = 0) (h8 : (C 0 5).toInt ≤ 8) : vp_in x 8 := by
  subst he
  unfold sX5_isMember at hc
  split at hc
  · exact absurd rfl hc
  · rename_i h1
    split at hc
    · exact absurd rfl hc
    · rename_i h2
      have h3 := Int32.not_le.mp h2
      rw [Int32.lt_iff_toInt_lt] at h3
      exact vp_in_iff.mpr ⟨i32_nn h1, by omega⟩
theorem mem_nz {C : Cst} {x r : Int32} (he : r = sX5_isMember C x) (hc : ¬ r = 0) : ¬ C 0 5 = 0 := by
  subst he
  unfold sX5_isMember at hc
  split at hc
  · exact absurd rfl hc
  · rename_i h1
    split at hc
    · exact absurd rfl hc
    · rename_i h2
      intro h0
      rw [h0] at h2
      exact h2 (Int32.not_lt.mp h1)
theorem in_of2 {x r : Int32} {a b : Nat} (he : r = sX5_in x (nI a) (nI b)) (hc : ¬ r = 0) (ha : a < 2 ^ 31) (hb : b < 2 ^ 31) : ∃ j : Nat, a ≤ j ∧ j ≤ b ∧ x = nI j := by
  subst he
  unfold sX5_in at hc
  split at hc
  · exact absurd rfl hc
  · rename_i h1
    split at hc
    · exact absurd rfl hc
    · rename_i h2
      have g1 := Int32.not_lt.mp h1
      have g2 := Int32.not_lt.mp h2
      rw [Int32.le_iff_toInt_le, nI_toInt ha] at g1
      obtain ⟨j, hj, rfl⟩ := nI_nneg (show 0 ≤ x.toInt by omega)
      rw [Int32.le_iff_toInt_le, nI_toInt hb, nI_toInt hj] at g2
      rw [nI_toInt hj] at g1
      exact ⟨j, by omega, by omega, rfl⟩
theorem in_of {x r : Int32} {N : Nat} (he : r = sX5_in x 0 (nI N)) (hc : ¬ r = 0) (hN : N + 1 < 2 ^ 31) : ∃ j : Nat, j < N + 1 ∧ x = nI j := by
  obtain ⟨j, -, h2, h3⟩ := in_of2 (a := 0) he hc (by decide) (by omega)
  exact ⟨j, by omega, h3⟩
theorem so_in {x y : Int32} (h1 : ¬ x < 0) (h2 : x < y) (h6 : y.toInt ≤ 6) : ∃ j : Nat, j < 6 ∧ x = nI j := by
  obtain ⟨j, hj, rfl⟩ := nI_of h1
  rw [Int32.lt_iff_toInt_lt, nI_toInt hj] at h2
  exact ⟨j, by omega, rfl⟩
