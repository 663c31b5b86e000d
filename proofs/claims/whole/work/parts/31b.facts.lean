theorem calls_8 {C S : Cst} {b r : Int32} (he : sX5_calls C b = (r, S)) : S 8 = C 8 := sorry
set_option maxHeartbeats 4000000 in
set_option maxRecDepth 100000 in
theorem IM2_calls {C : Cst} {x1 : Int32} (hIC : IM C) : IM2 (sX5_calls C x1) := by
  unfold sX5_calls
  refine p_ite (fun c_1_99 => ?_) (fun c_1_99 => ?_)
  · refine p_bnd (fun r_73 S_73 er_73 => ?_)
    have hIS_73 : IM S_73 := by have h9 : IM (sX5_close C).2 := IM_close hIC; rw [er_73] at h9; exact h9
    exact hIS_73
  refine p_ite (fun c_1_109 => ?_) (fun c_1_109 => ?_)
  · refine p_bnd (fun r_51 S_51 er_51 => ?_)
    have hIS_51 : IM S_51 := by have h9 : IM (sX5_member C (C 11 0)).2 := IM_member hIC; rw [er_51] at h9; exact h9
    exact hIS_51
  refine p_ite (fun c_1_112 => ?_) (fun c_1_112 => ?_)
  · refine p_bnd (fun r_90 S_90 er_90 => ?_)
    have hIS_90 : IM S_90 := by have h9 : IM (sX5_pay C (C 11 0) (C 11 1)).2 := IM_pay hIC; rw [er_90] at h9; exact h9
    exact hIS_90
  refine p_ite (fun c_1_117 => ?_) (fun c_1_117 => ?_)
  · refine p_bnd (fun r_68 S_68 er_68 => ?_)
    have hIS_68 : IM S_68 := by have h9 : IM (sX5_use C (C 11 0) (C 11 1)).2 := IM_use hIC; rw [er_68] at h9; exact h9
    exact hIS_68
  refine p_bnd (fun r_101 S_101 er_101 => ?_)
  have hIS_101 : IM S_101 := by have h9 : IM (sX5_repair C (C 11 0)).2 := IM_repair hIC; rw [er_101] at h9; exact h9
  exact hIS_101
theorem IM_calls {C : Cst} {x1 : Int32} (hIC : IM C)  : IM (sX5_calls C x1).2 := IM2_calls hIC 
