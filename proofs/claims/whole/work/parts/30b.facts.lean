set_option maxHeartbeats 4000000 in
set_option maxRecDepth 100000 in
theorem IM2_member {C : Cst} {x1 : Int32} (hIC : IM C) : IM2 (sX5_member C x1) := by
  unfold sX5_member
  refine p_ltv (fun K56 eK56 => ?_)
  have hK56 : ∀ (C : Cst) (x1 : Int32) (i2 : Nat) (hIC : IM C) (hi2 : i2 < 8) (h7 : C 0 5 = nI i2), IM2 (K56 C x1 i2) := by
    intro C x1 i2 hIC hi2 h7
    rw [eK56]
    refine p_ltv (fun S_60 eS_60 => ?_)
    have hIS_60 : IM S_60 := by rw [eS_60]; exact IM_puts hIC
    refine p_ltv (fun S_72 eS_72 => ?_)
    have hIS_72 : IM S_72 := by rw [eS_72]; exact IM_inc5 (show S_60 0 5 = nI i2 by rw [eS_60, puts_05]; exact h7) hi2 hIS_60
    exact hIS_72
  refine p_ltl4 (fun L37 eL37 => ?_)
  have hL37 : ∀ (n37 : Nat) (C : Cst) (x1 : Int32) (i2 : Nat) (i3 : Nat) (hIC : IM C) (hi : i3 ≤ 8) (hfu : 9 ≤ i3 + n37) (hi2 : i2 < 8) (h7 : C 0 5 = nI i2), IM2 (L37 n37 C x1 i2 i3) := by
    intro n37
    induction n37 with
    | zero =>
      intro C x1 i2 i3 hIC hi hfu hi2 h7
      exact absurd hfu (by omega)
    | succ n37 ih37 =>
      intro C x1 i2 i3 hIC hi hfu hi2 h7
      rw [eL37]
      refine p_ite (fun c_40 => ?_) (fun c_40 => ?_)
      · have f_40 : 8 ≤ i3 := (nI_leI (a := 8) (b := i3) (by omega) (by omega)).mp c_40
        exact hK56 _ _ _ hIC (by first | omega | assumption | decide | (subst_vars; first | assumption | omega)) (by first | omega | assumption | decide | (subst_vars; first | assumption | omega))
      · have f_40 : ¬ (8 ≤ i3) := fun h => c_40 ((nI_leI (a := 8) (b := i3) (by omega) (by omega)).mpr h)
        refine p_ltv (fun S_47 eS_47 => ?_)
        have hIS_47 : IM S_47 := by rw [eS_47]; exact IM_puts hIC
        exact ih37 _ _ _ _ hIS_47 (by first | omega | assumption | decide | (subst_vars; first | assumption | omega)) (by first | omega | assumption | decide | (subst_vars; first | assumption | omega)) (by first | omega | assumption | decide | (subst_vars; first | assumption | omega)) (by rw [eS_47, puts_05]; exact h7)
  refine p_ltv (fun K31 eK31 => ?_)
  have hK31 : ∀ (C : Cst) (x1 : Int32) (i2 : Nat) (hIC : IM C) (hi2 : i2 < 8) (h7 : C 0 5 = nI i2), IM2 (K31 C x1 i2) := by
    intro C x1 i2 hIC hi2 h7
    rw [eK31]
    refine p_ltv (fun S_32 eS_32 => ?_)
    have hIS_32 : IM S_32 := by rw [eS_32]; exact IM_changes hIC
    exact hL37 _ _ _ _ _ hIS_32 (by first | omega | assumption | decide | (subst_vars; first | assumption | omega)) (by first | omega | assumption | decide | (subst_vars; first | assumption | omega)) (by first | omega | assumption | decide | (subst_vars; first | assumption | omega)) (by rw [eS_32, changes_0]; exact h7)
  refine p_ltv (fun r_4 er_4 => ?_)
  refine p_ite (fun c_7 => ?_) (fun c_7 => ?_)
  · refine p_ltv (fun v2_20 ev2_20 => ?_)
    refine p_ite (fun c_24 => ?_) (fun c_24 => ?_)
    · obtain ⟨j_24, hj_24, ej_24⟩ : ∃ j : Nat, j < 8 ∧ v2_20 = nI j := mb_in hIC.1 hIC.2.1 ev2_20 c_24
      subst ej_24
      rw [nI_clamp (show j_24 < 2 ^ 31 by omega)]
      exact hK31 _ _ _ hIC (by first | omega | assumption | decide | (subst_vars; first | assumption | omega)) (by rw [ev2_20])
    · exact hIC
  · exact hIC
theorem IM_member {C : Cst} {x1 : Int32} (hIC : IM C)  : IM (sX5_member C x1).2 := IM2_member hIC 
set_option maxHeartbeats 4000000 in
set_option maxRecDepth 100000 in
theorem IM2_use {C : Cst} {x1 : Int32} {x2 : Int32} (hIC : IM C) : IM2 (sX5_use C x1 x2) := by
  unfold sX5_use
  refine p_ltv (fun K22 eK22 => ?_)
  have hK22 : ∀ (C : Cst) (i1 : Nat) (x2 : Int32) (hIC : IM C) (hi1 : i1 < 8), IM2 (K22 C i1 x2) := by
    intro C i1 x2 hIC hi1
    rw [eK22]
    refine p_ltv (fun r_26 er_26 => ?_)
    refine p_ite (fun c_30 => ?_) (fun c_30 => ?_)
    · refine p_ltv (fun S_38 eS_38 => ?_)
      have hIS_38 : IM S_38 := by rw [eS_38]; exact IM_changes hIC
      refine p_ltv (fun S_45 eS_45 => ?_)
      have hIS_45 : IM S_45 := by rw [eS_45]; exact IM_puts hIS_38
      refine p_ltv (fun r_51 er_51 => ?_)
      exact hIS_45
    · exact hIC
  refine p_ltv (fun r_2 er_2 => ?_)
  refine p_ite (fun c_5 => ?_) (fun c_5 => ?_)
  · exact hIC
  · refine p_ltv (fun r_12 er_12 => ?_)
    refine p_ite (fun c_15 => ?_) (fun c_15 => ?_)
    · obtain ⟨j_15, hj_15, ej_15⟩ : ∃ j : Nat, j < 8 ∧ x1 = nI j := vp_in_of (mem_in er_2 c_5 hIC.2.1) (by decide)
      subst ej_15
      rw [nI_clamp (show j_15 < 2 ^ 31 by omega)]
      exact hK22 _ _ _ hIC (by first | omega | assumption | decide | (subst_vars; first | assumption | omega))
    · exact hIC
theorem IM_use {C : Cst} {x1 : Int32} {x2 : Int32} (hIC : IM C)  : IM (sX5_use C x1 x2).2 := IM2_use hIC 
set_option maxHeartbeats 4000000 in
set_option maxRecDepth 100000 in
theorem IM2_close {C : Cst} (hIC : IM C) : IM2 (sX5_close C) := by
  unfold sX5_close
  refine p_ite (fun c_6 => ?_) (fun c_6 => ?_)
  · refine p_ite (fun c_23 => ?_) (fun c_23 => ?_)
    · refine p_ltv (fun S_31 eS_31 => ?_)
      have hIS_31 : IM S_31 := by rw [eS_31]; exact IM_changes hIC
      refine p_bnd (fun r_35 S_35 er_35 => ?_)
      have hIS_35 : IM S_35 := by have h9 : IM (sX5_ends S_31).2 := IM_ends hIS_31; rw [er_35] at h9; exact h9
      exact hIS_35
    · exact hIC
  · exact hIC
theorem IM_close {C : Cst}  (hIC : IM C)  : IM (sX5_close C ).2 := IM2_close hIC 
set_option maxHeartbeats 4000000 in
set_option maxRecDepth 100000 in
theorem IM2_pay {C : Cst} {x1 : Int32} {x2 : Int32} (hIC : IM C) : IM2 (sX5_pay C x1 x2) := by
  unfold sX5_pay
  refine p_ltv (fun K23 eK23 => ?_)
  have hK23 : ∀ (C : Cst) (i1 : Nat) (x2 : Int32) (hIC : IM C) (hi1 : i1 < 8), IM2 (K23 C i1 x2) := by
    intro C i1 x2 hIC hi1
    rw [eK23]
    refine p_ltv (fun r_26 er_26 => ?_)
    refine p_ite (fun c_30 => ?_) (fun c_30 => ?_)
    · refine p_ltv (fun S_38 eS_38 => ?_)
      have hIS_38 : IM S_38 := by rw [eS_38]; exact IM_changes hIC
      refine p_ltv (fun r_47 er_47 => ?_)
      refine p_ltv (fun S_52 eS_52 => ?_)
      have hIS_52 : IM S_52 := by rw [eS_52]; exact IM_puts hIS_38
      refine p_ltv (fun r_61 er_61 => ?_)
      refine p_ltv (fun S_66 eS_66 => ?_)
      have hIS_66 : IM S_66 := by rw [eS_66]; exact IM_puts hIS_52
      refine p_ltv (fun S_79 eS_79 => ?_)
      have hIS_79 : IM S_79 := by rw [eS_79]; exact IM_0 (by omega) (by omega) (by omega) (by omega) hIS_66
      refine p_ltv (fun r_83 er_83 => ?_)
      exact hIS_79
    · exact hIC
  refine p_ltv (fun r_2 er_2 => ?_)
  refine p_ite (fun c_5 => ?_) (fun c_5 => ?_)
  · exact hIC
  · refine p_ltv (fun r_13 er_13 => ?_)
    refine p_ite (fun c_16 => ?_) (fun c_16 => ?_)
    · obtain ⟨j_16, hj_16, ej_16⟩ : ∃ j : Nat, j < 8 ∧ x1 = nI j := vp_in_of (mem_in er_2 c_5 hIC.2.1) (by decide)
      subst ej_16
      rw [nI_clamp (show j_16 < 2 ^ 31 by omega)]
      exact hK23 _ _ _ hIC (by first | omega | assumption | decide | (subst_vars; first | assumption | omega))
    · exact hIC
theorem IM_pay {C : Cst} {x1 : Int32} {x2 : Int32} (hIC : IM C)  : IM (sX5_pay C x1 x2).2 := IM2_pay hIC 
set_option maxHeartbeats 4000000 in
set_option maxRecDepth 100000 in
theorem IM2_repair {C : Cst} {x1 : Int32} (hIC : IM C) : IM2 (sX5_repair C x1) := by
  unfold sX5_repair
  refine p_ltl5 (fun L168 eL168 => ?_)
  have hL168 : ∀ (n168 : Nat) (C : Cst) (x3 : Int32) (x4 : Int32) (x5 : Int32) (i6 : Nat) (hIC : IM C) (hi : i6 ≤ 8) (hfu : 9 ≤ i6 + n168) (hal : 0 < x3 → ¬ x4 = 0), IM2 (L168 n168 C x3 x4 x5 i6) := by
    intro n168
    induction n168 with
    | zero =>
      intro C x3 x4 x5 i6 hIC hi hfu hal
      exact absurd hfu (by omega)
    | succ n168 ih168 =>
      intro C x3 x4 x5 i6 hIC hi hfu hal
      rw [eL168]
      refine p_ltv (fun K254 eK254 => ?_)
      have hK254 : ∀ (C : Cst) (x3 : Int32) (x4 : Int32) (x5 : Int32) (i6 : Nat) (t0 : Int32) (t1 : Int32) (t3 : Nat) (hIC : IM C) (hi : i6 < 8) (hfu : 9 ≤ i6 + (n168 + 1)) (hal : 0 < x3 → ¬ x4 = 0) (ht3 : t3 < 8), IM2 (K254 C x3 x4 x5 i6 t0 t1 t3) := by
        intro C x3 x4 x5 i6 t0 t1 t3 hIC hi hfu hal ht3
        rw [eK254]
        refine p_ltv (fun S_255 eS_255 => ?_)
        have hIS_255 : IM S_255 := by rw [eS_255]; exact IM_puts hIC
        exact ih168 _ _ _ _ _ hIS_255 (by first | omega | assumption | decide | exact Int32.not_le.mp c_180 | (subst_vars; first | assumption | omega)) (by first | omega | assumption | decide | exact Int32.not_le.mp c_180 | (subst_vars; first | assumption | omega)) (by first | omega | assumption | decide | exact Int32.not_le.mp c_180 | (subst_vars; first | assumption | omega))
      refine p_ltv (fun K217 eK217 => ?_)
      have hK217 : ∀ (C : Cst) (x3 : Int32) (x4 : Int32) (i6 : Nat) (x7 : Int32) (t0 : Int32) (t1 : Int32) (hIC : IM C) (hi : i6 < 8) (hfu : 9 ≤ i6 + (n168 + 1)) (hal : 0 < x3 → ¬ x4 = 0) (hr3 : 0 < x3), IM2 (K217 C x3 x4 i6 x7 t0 t1) := by
        intro C x3 x4 i6 x7 t0 t1 hIC hi hfu hal hr3
        rw [eK217]
        refine p_ltv (fun v5_218 ev5_218 => ?_)
        refine p_ltv (fun r_228 er_228 => ?_)
        refine p_ltv (fun r_236 er_236 => ?_)
        refine p_ite (fun c_246 => ?_) (fun c_246 => ?_)
        · exact hK254 _ _ _ _ _ _ _ _ hIC (by first | omega | assumption | decide | exact Int32.not_le.mp c_180 | (subst_vars; first | assumption | omega)) (by first | omega | assumption | decide | exact Int32.not_le.mp c_180 | (subst_vars; first | assumption | omega)) (by first | omega | assumption | decide | exact Int32.not_le.mp c_180 | (subst_vars; first | assumption | omega)) (by first | omega | assumption | decide | exact Int32.not_le.mp c_180 | (subst_vars; first | assumption | omega))
        · exact hK254 _ _ _ _ _ _ _ _ hIC (by first | omega | assumption | decide | exact Int32.not_le.mp c_180 | (subst_vars; first | assumption | omega)) (by first | omega | assumption | decide | exact Int32.not_le.mp c_180 | (subst_vars; first | assumption | omega)) (by first | omega | assumption | decide | exact Int32.not_le.mp c_180 | (subst_vars; first | assumption | omega)) (by first | omega | assumption | decide | exact Int32.not_le.mp c_180 | (subst_vars; first | assumption | omega))
      refine p_ltv (fun K203 eK203 => ?_)
      have hK203 : ∀ (C : Cst) (x3 : Int32) (x4 : Int32) (x5 : Int32) (i6 : Nat) (t0 : Int32) (hIC : IM C) (hi : i6 < 8) (hfu : 9 ≤ i6 + (n168 + 1)) (hal : 0 < x3 → ¬ x4 = 0) (hr3 : 0 < x3), IM2 (K203 C x3 x4 x5 i6 t0) := by
        intro C x3 x4 x5 i6 t0 hIC hi hfu hal hr3
        rw [eK203]
        refine p_ite (fun c_209 => ?_) (fun c_209 => ?_)
        · exact hK217 _ _ _ _ _ _ _ hIC (by first | omega | assumption | decide | exact Int32.not_le.mp c_180 | (subst_vars; first | assumption | omega)) (by first | omega | assumption | decide | exact Int32.not_le.mp c_180 | (subst_vars; first | assumption | omega)) (by first | omega | assumption | decide | exact Int32.not_le.mp c_180 | (subst_vars; first | assumption | omega)) (by first | omega | assumption | decide | exact Int32.not_le.mp c_180 | (subst_vars; first | assumption | omega))
        · exact hK217 _ _ _ _ _ _ _ hIC (by first | omega | assumption | decide | exact Int32.not_le.mp c_180 | (subst_vars; first | assumption | omega)) (by first | omega | assumption | decide | exact Int32.not_le.mp c_180 | (subst_vars; first | assumption | omega)) (by first | omega | assumption | decide | exact Int32.not_le.mp c_180 | (subst_vars; first | assumption | omega)) (by first | omega | assumption | decide | exact Int32.not_le.mp c_180 | (subst_vars; first | assumption | omega))
      refine p_ltv (fun K202 eK202 => ?_)
      have hK202 : ∀ (C : Cst) (x3 : Int32) (x4 : Int32) (x5 : Int32) (i6 : Nat) (hIC : IM C) (hi : i6 < 8) (hfu : 9 ≤ i6 + (n168 + 1)) (hal : 0 < x3 → ¬ x4 = 0) (hr3 : 0 < x3), IM2 (K202 C x3 x4 x5 i6) := by
        intro C x3 x4 x5 i6 hIC hi hfu hal hr3
        rw [eK202]
        exact hK203 _ _ _ _ _ _ hIC (by first | omega | assumption | decide | exact Int32.not_le.mp c_180 | (subst_vars; first | assumption | omega)) (by first | omega | assumption | decide | exact Int32.not_le.mp c_180 | (subst_vars; first | assumption | omega)) (by first | omega | assumption | decide | exact Int32.not_le.mp c_180 | (subst_vars; first | assumption | omega)) (by first | omega | assumption | decide | exact Int32.not_le.mp c_180 | (subst_vars; first | assumption | omega))
      refine p_ite (fun c_176 => ?_) (fun c_176 => ?_)
      · exact hIC
      · have hb_176 : i6 < 8 := i32_lt8 c_176 hIC.2.1 (by omega)
        refine p_ite (fun c_180 => ?_) (fun c_180 => ?_)
        · exact hIC
        · refine p_ite (fun c_185 => ?_) (fun c_185 => ?_)
          · exact hK202 _ _ _ _ _ hIC (by first | omega | assumption | decide | exact Int32.not_le.mp c_180 | (subst_vars; first | assumption | omega)) (by first | omega | assumption | decide | exact Int32.not_le.mp c_180 | (subst_vars; first | assumption | omega)) (by first | omega | assumption | decide | exact Int32.not_le.mp c_180 | (subst_vars; first | assumption | omega)) (by first | omega | assumption | decide | exact Int32.not_le.mp c_180 | (subst_vars; first | assumption | omega))
          · refine p_ltv (fun r_192 er_192 => ?_)
            refine p_ite (fun c_195 => ?_) (fun c_195 => ?_)
            · exact hK202 _ _ _ _ _ hIC (by first | omega | assumption | decide | exact Int32.not_le.mp c_180 | (subst_vars; first | assumption | omega)) (by first | omega | assumption | decide | exact Int32.not_le.mp c_180 | (subst_vars; first | assumption | omega)) (by first | omega | assumption | decide | exact Int32.not_le.mp c_180 | (subst_vars; first | assumption | omega)) (by first | omega | assumption | decide | exact Int32.not_le.mp c_180 | (subst_vars; first | assumption | omega))
            · exact hK203 _ _ _ _ _ _ hIC (by first | omega | assumption | decide | exact Int32.not_le.mp c_180 | (subst_vars; first | assumption | omega)) (by first | omega | assumption | decide | exact Int32.not_le.mp c_180 | (subst_vars; first | assumption | omega)) (by first | omega | assumption | decide | exact Int32.not_le.mp c_180 | (subst_vars; first | assumption | omega)) (by first | omega | assumption | decide | exact Int32.not_le.mp c_180 | (subst_vars; first | assumption | omega))
  refine p_ltv (fun K165 eK165 => ?_)
  have hK165 : ∀ (C : Cst) (x3 : Int32) (x4 : Int32) (x5 : Int32) (hIC : IM C) (hal : 0 < x3 → ¬ x4 = 0), IM2 (K165 C x3 x4 x5) := by
    intro C x3 x4 x5 hIC hal
    rw [eK165]
    exact hL168 _ _ _ _ _ _ hIC (by first | omega | assumption | decide | exact Int32.not_le.mp c_180 | (subst_vars; first | assumption | omega)) (by first | omega | assumption | decide | exact Int32.not_le.mp c_180 | (subst_vars; first | assumption | omega)) (by first | omega | assumption | decide | exact Int32.not_le.mp c_180 | (subst_vars; first | assumption | omega))
  refine p_ltl5 (fun L127 eL127 => ?_)
  have hL127 : ∀ (n127 : Nat) (C : Cst) (x3 : Int32) (x4 : Int32) (x5 : Int32) (i6 : Nat) (hIC : IM C) (hi : i6 ≤ 8) (hfu : 9 ≤ i6 + n127) (hal : 0 < x3 → ¬ x4 = 0), IM2 (L127 n127 C x3 x4 x5 i6) := by
    intro n127
    induction n127 with
    | zero =>
      intro C x3 x4 x5 i6 hIC hi hfu hal
      exact absurd hfu (by omega)
    | succ n127 ih127 =>
      intro C x3 x4 x5 i6 hIC hi hfu hal
      rw [eL127]
      refine p_ite (fun c_135 => ?_) (fun c_135 => ?_)
      · exact hK165 _ _ _ _ hIC (by first | omega | assumption | decide | exact Int32.not_le.mp c_180 | (subst_vars; first | assumption | omega))
      · have hb_135 : i6 < 8 := i32_lt8 c_135 hIC.2.1 (by omega)
        refine p_ite (fun c_139 => ?_) (fun c_139 => ?_)
        · exact hK165 _ _ _ _ hIC (by first | omega | assumption | decide | exact Int32.not_le.mp c_180 | (subst_vars; first | assumption | omega))
        · refine p_ltv (fun r_149 er_149 => ?_)
          refine p_ltv (fun v5_157 ev5_157 => ?_)
          exact ih127 _ _ _ _ _ hIC (by first | omega | assumption | decide | exact Int32.not_le.mp c_180 | (subst_vars; first | assumption | omega)) (by first | omega | assumption | decide | exact Int32.not_le.mp c_180 | (subst_vars; first | assumption | omega)) (by first | omega | assumption | decide | exact Int32.not_le.mp c_180 | (subst_vars; first | assumption | omega))
  refine p_ltv (fun K82 eK82 => ?_)
  have hK82 : ∀ (C : Cst) (x1 : Int32) (x2 : Int32) (x3 : Int32) (x4 : Int32) (hIC : IM C) (hal : 0 < x3 → ¬ x4 = 0), IM2 (K82 C x1 x2 x3 x4) := by
    intro C x1 x2 x3 x4 hIC hal
    rw [eK82]
    refine p_ltv (fun S_83 eS_83 => ?_)
    have hIS_83 : IM S_83 := by rw [eS_83]; exact IM_changes hIC
    refine p_ltv (fun S_98 eS_98 => ?_)
    have hIS_98 : IM S_98 := by rw [eS_98]; exact IM_0 (by omega) (by omega) (by omega) (by omega) hIS_83
    refine p_ltv (fun S_109 eS_109 => ?_)
    have hIS_109 : IM S_109 := by rw [eS_109]; exact IM_0 (by omega) (by omega) (by omega) (by omega) hIS_98
    refine p_ltv (fun S_120 eS_120 => ?_)
    have hIS_120 : IM S_120 := by rw [eS_120]; exact IM_0 (by omega) (by omega) (by omega) (by omega) hIS_109
    exact hL127 _ _ _ _ _ _ hIS_120 (by first | omega | assumption | decide | exact Int32.not_le.mp c_180 | (subst_vars; first | assumption | omega)) (by first | omega | assumption | decide | exact Int32.not_le.mp c_180 | (subst_vars; first | assumption | omega)) (by first | omega | assumption | decide | exact Int32.not_le.mp c_180 | (subst_vars; first | assumption | omega))
  refine p_ltv (fun K47 eK47 => ?_)
  have hK47 : ∀ (C : Cst) (x1 : Int32) (x2 : Int32) (t0 : Int32) (hIC : IM C), IM2 (K47 C x1 x2 t0) := by
    intro C x1 x2 t0 hIC
    rw [eK47]
    refine p_ltv (fun r_50 er_50 => ?_)
    refine p_ite (fun c_66 => ?_) (fun c_66 => ?_)
    · exact hIC
    · refine p_ite (fun c_70 => ?_) (fun c_70 => ?_)
      · exact hK82 _ _ _ _ _ hIC (fun h => absurd h (Int32.not_lt.mpr c_70))
      · refine p_ite (fun c_75 => ?_) (fun c_75 => ?_)
        · exact hK82 _ _ _ _ _ hIC (fun _ => c_75)
        · exact hIC
  refine p_ltv (fun r_4 er_4 => ?_)
  refine p_ite (fun c_7 => ?_) (fun c_7 => ?_)
  · refine p_ltv (fun v2_22 ev2_22 => ?_)
    refine p_ite (fun c_31 => ?_) (fun c_31 => ?_)
    · exact hK47 _ _ _ _ hIC
    · exact hK47 _ _ _ _ hIC
  · exact hIC
theorem IM_repair {C : Cst} {x1 : Int32} (hIC : IM C)  : IM (sX5_repair C x1).2 := IM2_repair hIC
set_option maxHeartbeats 4000000 in
set_option maxRecDepth 100000 in
theorem IM2_isForm {C : Cst} {x1 : Int32} (hIC : IM C) : IM2 (sX5_isForm C x1) := by
  unfold sX5_isForm
  refine p_ltv (fun K69 eK69 => ?_)
  have hK69 : ∀ (C : Cst) (hIC : IM C), IM2 (K69 C) := by
    intro C hIC
    rw [eK69]
    refine p_bnd (fun r_73 S_73 er_73 => ?_)
    have hIS_73 : IM S_73 := by have h9 : IM (sX5_number C 0 44).2 := IM_number hIC; rw [er_73] at h9; exact h9
    refine p_ite (fun c_76 => ?_) (fun c_76 => ?_)
    · exact hIS_73
    · refine p_bnd (fun r_83 S_83 er_83 => ?_)
      have hIS_83 : IM S_83 := by have h9 : IM (sX5_number S_73 1 59).2 := IM_number hIS_73; rw [er_83] at h9; exact h9
      refine p_ite (fun c_86 => ?_) (fun c_86 => ?_)
      · exact hIS_83
      · exact hIS_83
  refine p_ltv (fun K49 eK49 => ?_)
  have hK49 : ∀ (C : Cst) (hIC : IM C), IM2 (K49 C) := by
    intro C hIC
    rw [eK49]
    refine p_bnd (fun r_53 S_53 er_53 => ?_)
    have hIS_53 : IM S_53 := by have h9 : IM (sX5_number C 0 59).2 := IM_number hIC; rw [er_53] at h9; exact h9
    exact hIS_53
  refine p_ltv (fun S_7 eS_7 => ?_)
  have hIS_7 : IM S_7 := by rw [eS_7]; exact IM_k (by decide) (by decide) (by decide) hIC
  refine p_ite (fun c_13 => ?_) (fun c_13 => ?_)
  · refine p_ite (fun c_40 => ?_) (fun c_40 => ?_)
    · exact hK49 _ hIS_7
    · refine p_ite (fun c_46 => ?_) (fun c_46 => ?_)
      · refine p_ite (fun c_60 => ?_) (fun c_60 => ?_)
        · exact hK69 _ hIS_7
        · refine p_ite (fun c_66 => ?_) (fun c_66 => ?_)
          · exact hIS_7
          · exact hK69 _ hIS_7
      · exact hK49 _ hIS_7
  · refine p_ltv (fun r_21 er_21 => ?_)
    refine p_ltv (fun S_32 eS_32 => ?_)
    have hIS_32 : IM S_32 := by rw [eS_32]; exact IM_k (by decide) (by decide) (by decide) hIS_7
    exact hIS_32
theorem IM_isForm {C : Cst} {x1 : Int32} (hIC : IM C) : IM (sX5_isForm C x1).2 := IM2_isForm hIC
def SPF (a : Int) (t : Int32 × Cst) : Prop := a + 1 ≤ (t.2 8 0).toInt ∧ (t.2 8 0).toInt ≤ a + 9
theorem sf_leaf {S : Cst} {a : Int} {t : Int32} (h1 : a + 1 ≤ (S 8 0).toInt) (h2 : (S 8 0).toInt ≤ a + 9) : SPF a (t, S) := ⟨h1, h2⟩
set_option maxHeartbeats 4000000 in
set_option maxRecDepth 100000 in
theorem SP_isForm {a : Int} {C : Cst} {x1 : Int32} (h0 : 0 ≤ a) (hB : a ≤ 100) (e0 : (C 8 0).toInt = a) : SPF a (sX5_isForm C x1) := by
  unfold sX5_isForm
  refine p_ltv (fun K69 eK69 => ?_)
  have hK69 : ∀ (C : Cst) (hs : (C 8 0).toInt = a + 1), SPF a (K69 C) := by
    intro C hs
    rw [eK69]
    refine p_bnd (fun r_73 S_73 er_73 => ?_)
    have hs73 := number_sp er_73 (by omega) (by omega)
    refine p_ite (fun c_76 => ?_) (fun c_76 => ?_)
    · exact (sf_leaf (by omega) (by omega))
    · refine p_bnd (fun r_83 S_83 er_83 => ?_)
      have hs83 := number_sp er_83 (by omega) (by omega)
      refine p_ite (fun c_86 => ?_) (fun c_86 => ?_)
      · exact (sf_leaf (by omega) (by omega))
      · exact (sf_leaf (by omega) (by omega))
  refine p_ltv (fun K49 eK49 => ?_)
  have hK49 : ∀ (C : Cst) (hs : (C 8 0).toInt = a + 1), SPF a (K49 C) := by
    intro C hs
    rw [eK49]
    refine p_bnd (fun r_53 S_53 er_53 => ?_)
    have hs53 := number_sp er_53 (by omega) (by omega)
    exact (sf_leaf (by omega) (by omega))
  refine p_ltv (fun S_7 eS_7 => ?_)
  have hs7 : (S_7 8 0).toInt = a + 1 := by rw [eS_7, up_s, i32_inc (x := C 8 0) (a := 0) (b := 100) (by omega) (by omega)]; omega
  refine p_ite (fun c_13 => ?_) (fun c_13 => ?_)
  · refine p_ite (fun c_40 => ?_) (fun c_40 => ?_)
    · exact hK49 _ (by first | assumption | omega)
    · refine p_ite (fun c_46 => ?_) (fun c_46 => ?_)
      · refine p_ite (fun c_60 => ?_) (fun c_60 => ?_)
        · exact hK69 _ (by first | assumption | omega)
        · refine p_ite (fun c_66 => ?_) (fun c_66 => ?_)
          · exact (sf_leaf (by omega) (by omega))
          · exact hK69 _ (by first | assumption | omega)
      · exact hK49 _ (by first | assumption | omega)
  · refine p_ltv (fun r_21 er_21 => ?_)
    refine p_ltv (fun S_32 eS_32 => ?_)
    have hs32 : (S_32 8 0).toInt = (S_7 8 0).toInt + 1 := by rw [eS_32, up_s]; exact i32_inc (a := 0) (b := 120) (by omega) (by omega)
    exact (sf_leaf (by omega) (by omega))
theorem isForm_sp {C S : Cst} {b r : Int32} (he : sX5_isForm C b = (r, S)) (h0 : 0 ≤ (C 8 0).toInt) (hB : (C 8 0).toInt ≤ 100) : (C 8 0).toInt + 1 ≤ (S 8 0).toInt ∧ (S 8 0).toInt ≤ (C 8 0).toInt + 9 := by
  have h := SP_isForm (C := C) (x1 := b) h0 hB rfl
  rw [he] at h
  exact h
