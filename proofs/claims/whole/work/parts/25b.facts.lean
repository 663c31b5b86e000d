
set_option maxHeartbeats 4000000 in
set_option maxRecDepth 100000 in
theorem IM2_ends {C : Cst} (hIC : IM C) : IM2 (sX5_ends C) := by
  unfold sX5_ends
  refine p_ltv (fun K271 eK271 => ?_)
  have hK271 : ∀ (C : Cst) (x1 : Int32) (x2 : Int32) (x3 : Int32) (t0 : Int32) (hIC : IM C), IM2 (K271 C x1 x2 x3 t0) := by
    intro C x1 x2 x3 t0 hIC
    rw [eK271]
    refine p_ltv (fun S_271 eS_271 => ?_)
    have hIS_271 : IM S_271 := by rw [eS_271]; exact IM_0 (by omega) (by omega) (by omega) (by omega) hIC
    refine p_ltv (fun S_283 eS_283 => ?_)
    have hIS_283 : IM S_283 := by rw [eS_283]; exact IM_keeps hIS_271
    refine p_ltv (fun S_296 eS_296 => ?_)
    have hIS_296 : IM S_296 := by rw [eS_296]; exact IM_0 (by omega) (by omega) (by omega) (by omega) hIS_283
    refine p_ltv (fun S_299 eS_299 => ?_)
    have hIS_299 : IM S_299 := by rw [eS_299]; exact IM_excludes hIS_296
    exact hIS_299
  refine p_ltv (fun K226 eK226 => ?_)
  have hK226 : ∀ (C : Cst) (x1 : Int32) (x2 : Int32) (x3 : Int32) (t0 : Int32) (hIC : IM C), IM2 (K226 C x1 x2 x3 t0) := by
    intro C x1 x2 x3 t0 hIC
    rw [eK226]
    refine p_ltv (fun S_226 eS_226 => ?_)
    have hIS_226 : IM S_226 := by rw [eS_226]; exact IM_0 (by omega) (by omega) (by omega) (by omega) hIC
    refine p_ite (fun c_249 => ?_) (fun c_249 => ?_)
    · exact hK271 _ _ _ _ _ hIS_226
    · exact hK271 _ _ _ _ _ hIS_226
  refine p_ltv (fun K194 eK194 => ?_)
  have hK194 : ∀ (C : Cst) (x1 : Int32) (x2 : Int32) (x3 : Int32) (t0 : Int32) (t1 : Int32) (hIC : IM C), IM2 (K194 C x1 x2 x3 t0 t1) := by
    intro C x1 x2 x3 t0 t1 hIC
    rw [eK194]
    refine p_ltv (fun S_195 eS_195 => ?_)
    have hIS_195 : IM S_195 := by rw [eS_195]; exact IM_0 (by omega) (by omega) (by omega) (by omega) hIC
    refine p_ite (fun c_210 => ?_) (fun c_210 => ?_)
    · exact hK226 _ _ _ _ _ hIS_195
    · exact hK226 _ _ _ _ _ hIS_195
  refine p_ltv (fun K151 eK151 => ?_)
  have hK151 : ∀ (C : Cst) (x1 : Int32) (x2 : Int32) (x3 : Int32) (hIC : IM C), IM2 (K151 C x1 x2 x3) := by
    intro C x1 x2 x3 hIC
    rw [eK151]
    refine p_ltv (fun S_161 eS_161 => ?_)
    have hIS_161 : IM S_161 := by rw [eS_161]; exact IM_0 (by omega) (by omega) (by omega) (by omega) hIC
    refine p_ite (fun c_178 => ?_) (fun c_178 => ?_)
    · exact hK194 _ _ _ _ _ _ hIS_161
    · exact hK194 _ _ _ _ _ _ hIS_161
  refine p_ltl5 (fun L60 eL60 => ?_)
  have hL60 : ∀ (n60 : Nat) (C : Cst) (x1 : Int32) (x2 : Int32) (x3 : Int32) (i4 : Nat) (hIC : IM C) (hi : i4 ≤ 8) (hfu : 9 ≤ i4 + n60), IM2 (L60 n60 C x1 x2 x3 i4) := by
    intro n60
    induction n60 with
    | zero =>
      intro C x1 x2 x3 i4 hIC hi hfu
      exact absurd hfu (by omega)
    | succ n60 ih60 =>
      intro C x1 x2 x3 i4 hIC hi hfu
      rw [eL60]
      refine p_ite (fun c_68 => ?_) (fun c_68 => ?_)
      · exact hK151 _ _ _ _ hIC
      · have hb_68 : i4 < 8 := i32_lt8 c_68 hIC.2.1 (by omega)
        refine p_ltv (fun r_79 er_79 => ?_)
        refine p_ltv (fun S_90 eS_90 => ?_)
        have hIS_90 : IM S_90 := by rw [eS_90]; exact IM_puts hIC
        refine p_ltv (fun r_101 er_101 => ?_)
        refine p_ltv (fun r_108 er_108 => ?_)
        refine p_ltv (fun S_112 eS_112 => ?_)
        have hIS_112 : IM S_112 := by rw [eS_112]; exact IM_puts hIS_90
        refine p_ltv (fun r_123 er_123 => ?_)
        refine p_ltv (fun r_130 er_130 => ?_)
        refine p_ltv (fun S_134 eS_134 => ?_)
        have hIS_134 : IM S_134 := by rw [eS_134]; exact IM_puts hIS_112
        refine p_ltv (fun S_142 eS_142 => ?_)
        have hIS_142 : IM S_142 := by rw [eS_142]; exact IM_puts hIS_134
        exact ih60 _ _ _ _ _ hIS_142 (by first | omega | assumption | decide | (subst_vars; first | assumption | omega)) (by first | omega | assumption | decide | (subst_vars; first | assumption | omega))
  refine p_ltv (fun K57 eK57 => ?_)
  have hK57 : ∀ (C : Cst) (x1 : Int32) (x2 : Int32) (x3 : Int32) (hIC : IM C), IM2 (K57 C x1 x2 x3) := by
    intro C x1 x2 x3 hIC
    rw [eK57]
    exact hL60 _ _ _ _ _ _ hIC (by first | omega | assumption | decide | (subst_vars; first | assumption | omega)) (by first | omega | assumption | decide | (subst_vars; first | assumption | omega))
  refine p_ltl5 (fun L20 eL20 => ?_)
  have hL20 : ∀ (n20 : Nat) (C : Cst) (x1 : Int32) (x2 : Int32) (x3 : Int32) (i4 : Nat) (hIC : IM C) (hi : i4 ≤ 8) (hfu : 9 ≤ i4 + n20), IM2 (L20 n20 C x1 x2 x3 i4) := by
    intro n20
    induction n20 with
    | zero =>
      intro C x1 x2 x3 i4 hIC hi hfu
      exact absurd hfu (by omega)
    | succ n20 ih20 =>
      intro C x1 x2 x3 i4 hIC hi hfu
      rw [eL20]
      refine p_ite (fun c_28 => ?_) (fun c_28 => ?_)
      · exact hK57 _ _ _ _ hIC
      · have hb_28 : i4 < 8 := i32_lt8 c_28 hIC.2.1 (by omega)
        refine p_ltv (fun r_44 er_44 => ?_)
        refine p_ltv (fun r_47 er_47 => ?_)
        refine p_ltv (fun S_50 eS_50 => ?_)
        have hIS_50 : IM S_50 := by rw [eS_50]; exact IM_k (by decide) (by decide) (by decide) hIC
        exact ih20 _ _ _ _ _ hIS_50 (by first | omega | assumption | decide | (subst_vars; first | assumption | omega)) (by first | omega | assumption | decide | (subst_vars; first | assumption | omega))
  refine p_ltv (fun r_2 er_2 => ?_)
  refine p_ltv (fun r_8 er_8 => ?_)
  refine p_ltv (fun r_13 er_13 => ?_)
  exact hL20 _ _ _ _ _ _ hIC (by first | omega | assumption | decide | (subst_vars; first | assumption | omega)) (by first | omega | assumption | decide | (subst_vars; first | assumption | omega))
theorem IM_ends {C : Cst}  (hIC : IM C)  : IM (sX5_ends C ).2 := IM2_ends hIC 
