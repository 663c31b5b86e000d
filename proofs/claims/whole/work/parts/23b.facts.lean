theorem in_m {x r : Int32} (he : r = sX5_in x (-2) (-1)) (hc : ¬ r = 0) : x = -1 ∨ x = -2 := by
  subst he
  unfold sX5_in at hc
  split at hc
  · exact absurd rfl hc
  · rename_i h1
    split at hc
    · exact absurd rfl hc
    · rename_i h2
      have g1 := Int32.not_lt.mp h1
      have g2 := Int32.not_lt.mp h2
      rw [Int32.le_iff_toInt_le] at g1 g2
      have e1 : (-2 : Int32).toInt = -2 := by decide
      have e2 : (-1 : Int32).toInt = -1 := by decide
      rw [e1] at g1
      rw [e2] at g2
      rcases (show x.toInt = -1 ∨ x.toInt = -2 by omega) with q | q
      · exact Or.inl (Int32.toInt_inj.mp (by rw [q, e2]))
      · exact Or.inr (Int32.toInt_inj.mp (by rw [q, e1]))
theorem decp {x : Int32} (h0 : 0 ≤ x.toInt) (h4 : x.toInt ≤ 4) (hn : ¬ x = 0) : 0 ≤ (x - 1).toInt ∧ (x - 1).toInt ≤ 3 := by
  obtain ⟨j, hj, rfl⟩ := nI_nneg h0
  have h1 : 1 ≤ j := Nat.pos_of_ne_zero (fun q => hn (by rw [q]; rfl))
  rw [nI_toInt hj] at h4
  rw [show (1 : Int32) = nI 1 from rfl, nI_sub h1, nI_toInt (by omega)]
  omega
theorem ty_in {x : Int32} (h0 : 0 ≤ x.toInt) (h6 : x.toInt ≤ 60) (hn : ¬ x = 60) : vp_in x 60 := by
  have h1 : ¬ x.toInt = 60 := fun q => hn (Int32.toInt_inj.mp (by rw [q]; decide))
  exact vp_in_iff.mpr ⟨h0, by omega⟩
theorem IM_inc6 {C B : Cst} (hn : ¬ B 6 0 = 60) (e : C 6 0 = B 6 0) (h : IM C) : IM (up C 6 0 ((C 6 0) + 1)) := by
  obtain ⟨a1, a2, a3, a4, a5, a6, a7, a8, a9, a10⟩ := h
  have h1 : ¬ (C 6 0).toInt = 60 := fun q => hn (by rw [← e]; exact Int32.toInt_inj.mp (by rw [q]; decide))
  have e := i32_inc a9 a10
  refine ⟨a1, a2, a3, a4, a5, a6, a7, a8, ?_, ?_⟩ <;> (rw [up_s, e]; omega)
theorem IM_zero6 {C : Cst} (h : IM C) : IM (up C 6 0 0) := by
  obtain ⟨a1, a2, a3, a4, a5, a6, a7, a8, a9, a10⟩ := h
  refine ⟨a1, a2, a3, a4, a5, a6, a7, a8, ?_, ?_⟩ <;> (rw [up_s]; decide)
theorem k12 {C : Cst} (h : IM C) (hn : ¬ C 0 12 = 6) : 0 ≤ ((C 0 12) + 1).toInt ∧ ((C 0 12) + 1).toInt ≤ 6 := by
  obtain ⟨a1, a2, a3, a4, a5, a6, a7, a8, a9, a10⟩ := h
  have h1 : ¬ (C 0 12).toInt = 6 := fun q => hn (Int32.toInt_inj.mp (by rw [q]; decide))
  have e := i32_inc a5 a6
  omega
theorem IM_12 {C : Cst} {x : Int32} (hx : 0 ≤ x.toInt ∧ x.toInt ≤ 6) (h : IM C) : IM (up C 0 12 x) := by
  obtain ⟨a1, a2, a3, a4, a5, a6, a7, a8, a9, a10⟩ := h
  refine ⟨?_, ?_, ?_, ?_, ?_, ?_, a7, a8, a9, a10⟩
  · rw [up_n (by decide)]; exact a1
  · rw [up_n (by decide)]; exact a2
  · rw [up_n (by decide)]; exact a3
  · rw [up_n (by decide)]; exact a4
  · rw [up_s]; exact hx.1
  · rw [up_s]; exact hx.2
set_option maxHeartbeats 4000000 in
set_option maxRecDepth 100000 in
theorem IM_keeps {C : Cst} {x1 : Int32} {x2 : Int32} {x3 : Int32} {x4 : Int32} (hIC : IM C) : IM (sX5_keeps C x1 x2 x3 x4) := by
  unfold sX5_keeps
  refine p_ltv (fun K117 eK117 => ?_)
  have hK117 : ∀ (C : Cst) (t0 : Int32) (hIC : IM C) (ht : 0 ≤ t0.toInt ∧ t0.toInt ≤ 6), IM (K117 C t0) := by
    intro C t0 hIC ht
    rw [eK117]
    refine p_ltv (fun S_117 eS_117 => ?_)
    have hIS_117 : IM S_117 := by rw [eS_117]; exact IM_12 ht hIC
    exact hIS_117
  refine p_ltv (fun K38 eK38 => ?_)
  have hK38 : ∀ (C : Cst) (x1 : Int32) (x2 : Int32) (x3 : Int32) (x4 : Int32) (hIC : IM C), IM (K38 C x1 x2 x3 x4) := by
    intro C x1 x2 x3 x4 hIC
    rw [eK38]
    refine p_ltv (fun S_45 eS_45 => ?_)
    have hIS_45 : IM S_45 := by rw [eS_45]; exact IM_0 (by omega) (by omega) (by omega) (by omega) hIC
    refine p_ltv (fun S_53 eS_53 => ?_)
    have hIS_53 : IM S_53 := by rw [eS_53]; exact IM_0 (by omega) (by omega) (by omega) (by omega) hIS_45
    refine p_ltv (fun S_61 eS_61 => ?_)
    have hIS_61 : IM S_61 := by rw [eS_61]; exact IM_0 (by omega) (by omega) (by omega) (by omega) hIS_53
    refine p_ltv (fun S_75 eS_75 => ?_)
    have hIS_75 : IM S_75 := by rw [eS_75]; exact IM_0 (by omega) (by omega) (by omega) (by omega) hIS_61
    refine p_ltv (fun S_84 eS_84 => ?_)
    have hIS_84 : IM S_84 := by rw [eS_84]; exact IM_0 (by omega) (by omega) (by omega) (by omega) hIS_75
    refine p_ite (fun c_100 => ?_) (fun c_100 => ?_)
    · exact hK117 _ _ hIS_84 (k12 hIS_84 (by first | exact c_100 | exact Decidable.not_not.mp c_100))
    · exact hK117 _ _ hIS_84 (by decide)
  refine p_ltl6 (fun L4 eL4 => ?_)
  have hL4 : ∀ (n4 : Nat) (C : Cst) (x1 : Int32) (x2 : Int32) (x3 : Int32) (x4 : Int32) (i5 : Nat) (hIC : IM C) (hi : i5 ≤ 29) (hge : 4 ≤ i5) (hfu : i5 < 4 + n4), IM (L4 n4 C x1 x2 x3 x4 i5) := by
    intro n4
    induction n4 with
    | zero =>
      intro C x1 x2 x3 x4 i5 hIC hi hge hfu
      exact absurd hfu (by omega)
    | succ n4 ih4 =>
      intro C x1 x2 x3 x4 i5 hIC hi hge hfu
      rw [eL4]
      refine p_ite (fun c_7 => ?_) (fun c_7 => ?_)
      · have f_7 : i5 ≤ 4 := (nI_leI (a := i5) (b := 4) (by omega) (by omega)).mp c_7
        exact hK38 _ _ _ _ _ hIC
      · have f_7 : ¬ (i5 ≤ 4) := fun h => c_7 ((nI_leI (a := i5) (b := 4) (by omega) (by omega)).mpr h)
        refine p_ltv (fun S_31 eS_31 => ?_)
        have hIS_31 : IM S_31 := by rw [eS_31]; exact IM_0 (by omega) (by omega) (by omega) (by omega) hIC
        exact ih4 _ _ _ _ _ _ hIS_31 (by first | omega | assumption | decide | (subst_vars; first | assumption | omega)) (by first | omega | assumption | decide | (subst_vars; first | assumption | omega)) (by first | omega | assumption | decide | (subst_vars; first | assumption | omega))
  exact hL4 _ _ _ _ _ _ _ hIC (by first | omega | assumption | decide | (subst_vars; first | assumption | omega)) (by first | omega | assumption | decide | (subst_vars; first | assumption | omega)) (by first | omega | assumption | decide | (subst_vars; first | assumption | omega))
set_option maxHeartbeats 4000000 in
set_option maxRecDepth 100000 in
theorem IM2_turns {C : Cst} (hIC : IM C) : IM2 (sX5_turns C) := by
  unfold sX5_turns
  refine p_ltl3 (fun L4 eL4 => ?_)
  have hL4 : ∀ (n4 : Nat) (C : Cst) (x1 : Int32) (i2 : Nat) (hIC : IM C) (hi : i2 ≤ 8) (hfu : 9 ≤ i2 + n4) (hb : x1 = 0 ∨ x1 = 1), IM2 (L4 n4 C x1 i2) := by
    intro n4
    induction n4 with
    | zero =>
      intro C x1 i2 hIC hi hfu hb
      exact absurd hfu (by omega)
    | succ n4 ih4 =>
      intro C x1 i2 hIC hi hfu hb
      rw [eL4]
      refine p_ltv (fun K39 eK39 => ?_)
      have hK39 : ∀ (C : Cst) (i2 : Nat) (x3 : Int32) (t0 : Int32) (hIC : IM C) (hi : i2 < 8) (hfu : 9 ≤ i2 + (n4 + 1)) (hb0 : t0 = 0 ∨ t0 = 1), IM2 (K39 C i2 x3 t0) := by
        intro C i2 x3 t0 hIC hi hfu hb0
        rw [eK39]
        refine p_ltv (fun S_44 eS_44 => ?_)
        have hIS_44 : IM S_44 := by rw [eS_44]; exact IM_puts hIC
        exact ih4 _ _ _ hIS_44 (by first | omega | assumption | decide | (subst_vars; first | assumption | omega)) (by first | omega | assumption | decide | (subst_vars; first | assumption | omega)) (by first | omega | assumption | decide | (subst_vars; first | assumption | omega))
      refine p_ltv (fun K34 eK34 => ?_)
      have hK34 : ∀ (C : Cst) (i2 : Nat) (x3 : Int32) (hIC : IM C) (hi : i2 < 8) (hfu : 9 ≤ i2 + (n4 + 1)), IM2 (K34 C i2 x3) := by
        intro C i2 x3 hIC hi hfu
        rw [eK34]
        exact hK39 _ _ _ _ hIC (by first | omega | assumption | decide | (subst_vars; first | assumption | omega)) (by first | omega | assumption | decide | (subst_vars; first | assumption | omega)) (by first | omega | assumption | decide | (subst_vars; first | assumption | omega))
      refine p_ite (fun c_11 => ?_) (fun c_11 => ?_)
      · exact hIC
      · have hb_11 : i2 < 8 := i32_lt8 c_11 hIC.2.1 (by omega)
        refine p_ltv (fun r_16 er_16 => ?_)
        refine p_ite (fun c_21 => ?_) (fun c_21 => ?_)
        · exact hK34 _ _ _ hIC (by first | omega | assumption | decide | (subst_vars; first | assumption | omega)) (by first | omega | assumption | decide | (subst_vars; first | assumption | omega))
        · refine p_ltv (fun r_28 er_28 => ?_)
          refine p_ite (fun c_31 => ?_) (fun c_31 => ?_)
          · exact hK39 _ _ _ _ hIC (by first | omega | assumption | decide | (subst_vars; first | assumption | omega)) (by first | omega | assumption | decide | (subst_vars; first | assumption | omega)) (by first | omega | assumption | decide | (subst_vars; first | assumption | omega))
          · exact hK34 _ _ _ hIC (by first | omega | assumption | decide | (subst_vars; first | assumption | omega)) (by first | omega | assumption | decide | (subst_vars; first | assumption | omega))
  exact hL4 _ _ _ _ hIC (by first | omega | assumption | decide | (subst_vars; first | assumption | omega)) (by first | omega | assumption | decide | (subst_vars; first | assumption | omega)) (by first | omega | assumption | decide | (subst_vars; first | assumption | omega))
theorem IM_turns {C : Cst}  (hIC : IM C)  : IM (sX5_turns C ).2 := IM2_turns hIC 
set_option maxHeartbeats 4000000 in
set_option maxRecDepth 100000 in
theorem IM_copies_0_2 {C : Cst} (hIC : IM C) : IM (sX5_copies_0_2 C) := by
  unfold sX5_copies_0_2
  refine p_ltl2 (fun L2 eL2 => ?_)
  have hL2 : ∀ (n2 : Nat) (C : Cst) (i2 : Nat) (hIC : IM C) (hi : i2 ≤ 107) (hfu : 108 ≤ i2 + n2), IM (L2 n2 C i2) := by
    intro n2
    induction n2 with
    | zero =>
      intro C i2 hIC hi hfu
      exact absurd hfu (by omega)
    | succ n2 ih2 =>
      intro C i2 hIC hi hfu
      rw [eL2]
      refine p_ite (fun c_5 => ?_) (fun c_5 => ?_)
      · have f_5 : 107 ≤ i2 := (nI_leI (a := 107) (b := i2) (by omega) (by omega)).mp c_5
        exact hIC
      · have f_5 : ¬ (107 ≤ i2) := fun h => c_5 ((nI_leI (a := 107) (b := i2) (by omega) (by omega)).mpr h)
        refine p_ltv (fun S_13 eS_13 => ?_)
        have hIS_13 : IM S_13 := by rw [eS_13]; exact IM_k (by decide) (by decide) (by decide) hIC
        exact ih2 _ _ hIS_13 (by first | omega | assumption | decide | (subst_vars; first | assumption | omega)) (by first | omega | assumption | decide | (subst_vars; first | assumption | omega))
  exact hL2 _ _ _ hIC (by first | omega | assumption | decide | (subst_vars; first | assumption | omega)) (by first | omega | assumption | decide | (subst_vars; first | assumption | omega))
set_option maxHeartbeats 4000000 in
set_option maxRecDepth 100000 in
theorem IM_copies_0_12 {C : Cst} (hIC : IM C) : IM (sX5_copies_0_12 C) := by
  unfold sX5_copies_0_12
  refine p_ltl2 (fun L2 eL2 => ?_)
  have hL2 : ∀ (n2 : Nat) (C : Cst) (i2 : Nat) (hIC : IM C) (hi : i2 ≤ 107) (hfu : 108 ≤ i2 + n2), IM (L2 n2 C i2) := by
    intro n2
    induction n2 with
    | zero =>
      intro C i2 hIC hi hfu
      exact absurd hfu (by omega)
    | succ n2 ih2 =>
      intro C i2 hIC hi hfu
      rw [eL2]
      refine p_ite (fun c_5 => ?_) (fun c_5 => ?_)
      · have f_5 : 107 ≤ i2 := (nI_leI (a := 107) (b := i2) (by omega) (by omega)).mp c_5
        exact hIC
      · have f_5 : ¬ (107 ≤ i2) := fun h => c_5 ((nI_leI (a := 107) (b := i2) (by omega) (by omega)).mpr h)
        refine p_ltv (fun S_13 eS_13 => ?_)
        have hIS_13 : IM S_13 := by rw [eS_13]; exact IM_k (by decide) (by decide) (by decide) hIC
        exact ih2 _ _ hIS_13 (by first | omega | assumption | decide | (subst_vars; first | assumption | omega)) (by first | omega | assumption | decide | (subst_vars; first | assumption | omega))
  exact hL2 _ _ _ hIC (by first | omega | assumption | decide | (subst_vars; first | assumption | omega)) (by first | omega | assumption | decide | (subst_vars; first | assumption | omega))
