/-- the reference's own bounds -/
theorem IM_eq {C B : Cst} (h0 : B 0 5 = C 0 5) (h1 : B 0 0 = C 0 0) (h2 : B 0 4 = C 0 4) (h3 : B 0 12 = C 0 12) (h4 : B 3 0 = C 3 0) (h5 : B 6 0 = C 6 0) (h : IM C) : IM B := by
  unfold IM at h ⊢; rw [h0, h1, h2, h3, h4, h5]; exact h
theorem IM_k {C : Cst} {k i : Nat} {x : Int32} (h0 : ¬ 0 = k) (h3 : ¬ 3 = k) (h6 : ¬ 6 = k) (h : IM C) : IM (up C k i x) := IM_eq (by rw [up_k h0]) (by rw [up_k h0]) (by rw [up_k h0]) (by rw [up_k h0]) (by rw [up_k h3]) (by rw [up_k h6]) h
theorem IM_0 {C : Cst} {i : Nat} {x : Int32} (h0 : ¬ 0 = i) (h4 : ¬ 4 = i) (h5 : ¬ 5 = i) (h12 : ¬ 12 = i) (h : IM C) : IM (up C 0 i x) := IM_eq (up_n h5) (up_n h0) (up_n h4) (up_n h12) rfl rfl h
theorem i32_ne4 {x : Int32} (h : x.toInt ≤ 4) (hn : ¬ x = 4) : x.toInt ≤ 3 := by
  have h1 : ¬ x.toInt = 4 := fun q => hn (Int32.toInt_inj.mp (by rw [q]; decide))
  omega
theorem dec3_le {C : Cst} (h : C 3 0 = 4) : (up C 3 0 ((C 3 0) - 1) 3 0).toInt ≤ 3 := by
  rw [up_s, h]; decide
theorem IM_dec3 {C : Cst} (h4 : C 3 0 = 4) (h : IM C) : IM (up C 3 0 ((C 3 0) - 1)) := by
  obtain ⟨a1, a2, a3, a4, a5, a6, a7, a8, a9, a10⟩ := h
  refine ⟨a1, a2, a3, a4, a5, a6, ?_, ?_, a9, a10⟩ <;> (rw [up_s, h4]; decide)
theorem i32_inc {x : Int32} {a b : Int} (h0 : a ≤ x.toInt) (h1 : x.toInt ≤ b) (ha : -2 ^ 31 ≤ a := by decide) (hb : b < 2 ^ 31 - 1 := by decide) : (x + 1).toInt = x.toInt + 1 := by
  rw [Int32.toInt_add, show (1 : Int32).toInt = 1 from by decide]
  exact zbmod (by omega) (by omega)
theorem IM_inc3 {C : Cst} (h4 : (C 3 0).toInt ≤ 3) (h : IM C) : IM (up C 3 0 ((C 3 0) + 1)) := by
  obtain ⟨a1, a2, a3, a4, a5, a6, a7, a8, a9, a10⟩ := h
  have e := i32_inc a7 h4
  refine ⟨a1, a2, a3, a4, a5, a6, ?_, ?_, a9, a10⟩ <;> (rw [up_s, e]; omega)
theorem ch_in {x : Int32} {i : Nat} (h4 : x.toInt ≤ 3) (h0 : 0 ≤ x.toInt) (hi : ¬ 107 ≤ i) : vp_in ((107 * x) + nI i) 428 := by
  obtain ⟨j, hj, rfl⟩ := nI_nneg h0
  rw [nI_toInt hj] at h4
  rw [show (107 : Int32) = nI 107 from rfl, nI_mul, nI_add]
  exact vp_in_nI (by omega) (by decide)
def IM2 (t : Int32 × Cst) : Prop := IM t.2
theorem nz_of {x : Int32} {i : Nat} (h : ¬ x ≤ nI i) (hi : i < 2 ^ 31 := by omega) : ¬ x = 0 := by
  rintro rfl; exact h (nI_pos' hi)
