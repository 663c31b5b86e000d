theorem reh_h {S B : Xst} (h0 : 0 ≤ (S 2 1 0).toInt ∧ (S 2 1 0).toInt ≤ 3) (h1 : 0 ≤ (S 2 2 0).toInt ∧ (S 2 2 0).toInt ≤ 4) (e : B = sX4_rehearse S) : (0 ≤ (B 2 1 0).toInt ∧ (B 2 1 0).toInt ≤ 3) ∧ (0 ≤ (B 2 2 0).toInt ∧ (B 2 2 0).toInt ≤ 4) := by
  have h2 : B 2 = S 2 := by rw [e]; exact f2_reh S
  rw [h2]; exact ⟨h0, h1⟩
