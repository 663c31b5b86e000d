theorem i32_ltP {x : Int32} {N : Nat} (hN : N < 2 ^ 31) (h : x < nI N) : x.toInt < N := by
  rw [Int32.lt_iff_toInt_lt, nI_toInt hN] at h; exact h
theorem i32_ltN {x : Int32} {N : Nat} (hN : N < 2 ^ 31) (h : ¬ nI N ≤ x) : x.toInt < N := i32_ltP hN (Int32.not_le.mp h)
theorem i32_nn {x : Int32} (h : ¬ x < 0) : 0 ≤ x.toInt := by
  have := Int32.not_lt.mp h; rw [Int32.le_iff_toInt_le] at this; exact this
theorem i32_lt8 {x : Int32} {i : Nat} (h : ¬ x ≤ nI i) (hx : x.toInt ≤ 8) (hi : i < 2 ^ 31) : i < 8 := by
  have h1 := Int32.not_le.mp h; rw [Int32.lt_iff_toInt_lt, nI_toInt hi] at h1; omega
theorem i32_ltT {x : Int32} {i : Nat} (hi : i ≤ x.toNatClampNeg) (h : ¬ x ≤ nI i) : i < x.toNatClampNeg := by
  have hb : x.toInt < 2 ^ 31 := Int32.toInt_lt x
  have hc : x.toNatClampNeg = x.toInt.toNat := rfl
  rw [hc] at hi ⊢
  have h1 := Int32.not_le.mp h; rw [Int32.lt_iff_toInt_lt, nI_toInt (by omega)] at h1; omega
theorem nI_bet {x : Int32} {N : Nat} (h1 : ¬ x < 0) (h2 : x < nI N) (hN : N < 2 ^ 31 := by decide) : ∃ j : Nat, j < N ∧ x = nI j := by
  obtain ⟨j, hj, rfl⟩ := nI_of h1
  exact ⟨j, (nI_ltI hj hN).mp h2, rfl⟩
theorem nI_nneg {x : Int32} (h : 0 ≤ x.toInt) : ∃ j : Nat, j < 2 ^ 31 ∧ x = nI j := nI_of (fun q => by rw [Int32.lt_iff_toInt_lt] at q; exact absurd q (by simpa using h))
theorem nI_mod {a b : Nat} (ha : a < 2 ^ 31) (hb : b < 2 ^ 31) : nI a % nI b = nI (a % b) := by
  apply Int32.toInt_inj.mp
  have h1 : a % b < 2 ^ 31 := Nat.lt_of_le_of_lt (Nat.mod_le a b) ha
  rw [Int32.toInt_mod, nI_toInt ha, nI_toInt hb, nI_toInt h1, Int.tmod_eq_emod_of_nonneg (by omega)]
  rfl
theorem has_in {C : Cst} {x : Int32} (h : ¬ sX0_has C x = 0) : vp_in x 8 := by
  unfold sX0_has at h
  split at h
  · exact absurd rfl h
  · rename_i h1
    split at h
    · exact absurd rfl h
    · split at h
      · exact absurd rfl h
      · rename_i h3
        exact vp_in_iff.mpr ⟨i32_nn h1, i32_ltN (N := 8) (by decide) h3⟩
theorem kS_in {C : Cst} {v : Int32} (hS0 : 0 ≤ (C 10 0).toInt) (hv : v = ((C 10 0) % 6) * 5) (w : Nat) (hw : w < 5) : vp_in (v + nI w) 30 := by
  obtain ⟨t, ht, e⟩ := nI_nneg hS0
  rw [hv, e, show (6 : Int32) = nI 6 from rfl, show (5 : Int32) = nI 5 from rfl, nI_mod ht (by decide), nI_mul, nI_add]
  exact vp_in_nI (by omega) (by decide)
theorem kS_in0 {C : Cst} {v : Int32} (hS0 : 0 ≤ (C 10 0).toInt) (hv : v = ((C 10 0) % 6) * 5) : vp_in v 30 := by
  obtain ⟨t, ht, e⟩ := nI_nneg hS0
  rw [hv, e, show (6 : Int32) = nI 6 from rfl, show (5 : Int32) = nI 5 from rfl, nI_mod ht (by decide), nI_mul]
  exact vp_in_nI (by omega) (by decide)
theorem nS_in {C : Cst} {i1 i2 : Nat} (hS0 : 0 ≤ (C 10 0).toInt) (hi1 : i1 < 6) (hi2 : i2 < 5) (hlt : ¬ (C 10 0) ≤ nI i1) : vp_in ((((((C 10 0) - 1) - (nI i1)) % 6) * 5) + (nI i2)) 30 := by
  obtain ⟨t, ht, e⟩ := nI_nneg hS0
  rw [e] at hlt ⊢
  have h1 : i1 < t := Nat.not_le.mp (fun q => hlt ((nI_leI ht (by omega)).mpr q))
  rw [show (6 : Int32) = nI 6 from rfl, show (5 : Int32) = nI 5 from rfl, show (1 : Int32) = nI 1 from rfl, nI_sub (by omega), nI_sub (by omega), nI_mod (by omega) (by decide), nI_mul, nI_add]
  exact vp_in_nI (by omega) (by decide)
theorem nA_in {x : Int32} (h1 : ¬ x < 20) (h2 : ¬ 25 ≤ x) : vp_in (x - 20) 5 := by
  have h0 : ¬ x < 0 := fun q => h1 (by rw [Int32.lt_iff_toInt_lt] at q ⊢; exact Int.lt_trans q (by decide))
  obtain ⟨j, hj, rfl⟩ := nI_of h0
  have g1 : 20 ≤ j := Nat.not_lt.mp (fun q => h1 ((nI_ltI (b := 20) hj (by decide)).mpr q))
  have g2 : j < 25 := Nat.not_le.mp (fun q => h2 ((nI_leI (a := 25) (by decide) hj).mpr q))
  rw [show (20 : Int32) = nI 20 from rfl, nI_sub g1]
  exact vp_in_nI (by omega) (by decide)
