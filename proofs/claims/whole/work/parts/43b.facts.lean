theorem mod4 {x : Int32} (h : 0 ≤ x.toInt) : ∃ j : Nat, j < 4 ∧ x % 4 = nI j := by
  obtain ⟨a, ha, rfl⟩ := nI_nneg h
  exact ⟨a % 4, Nat.mod_lt _ (by decide), nI_mod (b := 4) ha (by decide)⟩
theorem q3_of {a b : Int32} (h0 : 0 ≤ a.toInt ∧ a.toInt ≤ 3) (h1 : 0 ≤ b.toInt ∧ b.toInt ≤ 3) (n0 : ¬ (a + b) % 4 = 0) (n1 : ¬ (a + b) % 4 = 1) (n2 : ¬ (a + b) % 4 = 2) : (a + b) % 4 = nI 3 := by
  have e : (a + b).toInt = a.toInt + b.toInt := by rw [Int32.toInt_add]; exact zbmod (by omega) (by omega)
  obtain ⟨j, hj, h⟩ := mod4 (x := a + b) (by omega)
  rw [h] at n0 n1 n2 ⊢
  rcases (show j = 0 ∨ j = 1 ∨ j = 2 ∨ j = 3 by omega) with rfl | rfl | rfl | rfl
  · exact absurd rfl n0
  · exact absurd rfl n1
  · exact absurd rfl n2
  · rfl
theorem rem4 {x : Int32} (h : 0 ≤ x.toInt ∧ x.toInt ≤ 3) : 0 ≤ ((x + 1) % 4).toInt ∧ ((x + 1) % 4).toInt ≤ 3 := by
  have e := i32_inc h.1 h.2
  obtain ⟨j, hj, h2⟩ := mod4 (x := x + 1) (by omega)
  rw [h2, nI_toInt (by omega)]
  omega
theorem dec4 {x : Int32} (h : x = 4) : 0 ≤ (x - 1).toInt ∧ (x - 1).toInt ≤ 3 := by
  subst h; decide
theorem decg {x : Int32} (h : 0 ≤ x.toInt ∧ x.toInt ≤ 4) (c : 1 ≤ x) : 0 ≤ (x - 1).toInt ∧ (x - 1).toInt ≤ 3 := decp h.1 h.2 (by rintro rfl; exact absurd c (by decide))
