set_option maxHeartbeats 4000000 in
set_option maxRecDepth 100000 in
theorem c_X2_init (l : Launch) (D : va_G) (cI cH cO : ClassId) (h : Nat) : MC l yX2_init cX2_init 1 1 0 0 D (tyl cI cH cO) XT [.ref h] [(h, .inr (2, [.int 0, .int 0, .int 0, .int 0]))] (fun _ : Unit => wR h iT) := fun sz => j_startC (by decide +kernel) rfl (Nat.le_of_ble_eq_true rfl) (fun p e s m below meth c _ hi X => by
  refine j_lv [0] (lv' := [(0, .ref h)]) rfl ?_
  refine j_aload_n X (pc' := 1) 0 dX2_init_0 rfl rfl rfl ?_
  refine j_objInit X (pc' := 4) q_ml_X2_3 ⟨by decide, Nat.le_of_ble_eq_true rfl⟩ dX2_init_1 rfl ?_
  refine j_kk (kc2 := 0) (ks2 := 0) rfl rfl ?_
  exact j_cret X (W1 := (fun _ : Unit => wR h iT)) () rfl dX2_init_4)
set_option maxHeartbeats 4000000 in
set_option maxRecDepth 100000 in
theorem c_X3_init (l : Launch) (D : va_G) (cI cH cO : ClassId) (h : Nat) : MC l yX3_init cX3_init 1 1 1 60 D (tyl cI cH cO) XT [.ref h] [(h, .inr (3, [.null, .int 0, .int 0, .int 0, .int 0, .int 0]))] (fun ar : Nat → Nat => wT cH h ar iT) := fun sz => j_startC (by decide +kernel) rfl (Nat.le_of_ble_eq_true rfl) (fun p e s m below meth c _ hi X => by
  refine j_lv [0] (lv' := [(0, .ref h)]) rfl ?_
  refine j_aload_n X (pc' := 1) 0 dX3_init_0 rfl rfl rfl ?_
  refine j_objInit X (pc' := 4) q_ml_X3_3 ⟨by decide, Nat.le_of_ble_eq_true rfl⟩ dX3_init_1 rfl ?_
  refine j_aload_n X (pc' := 5) 0 dX3_init_4 rfl rfl rfl ?_
  refine j_bipush X (v := 60) (pc' := 7) dX3_init_5 (by decide) rfl ?_
  refine j_newc X (pc' := 9) 60 rfl (by decide) ⟨by decide, by decide⟩ dX3_init_7 rfl (fun q1 => ?_)
  refine j_ws (ws' := [(h, .inr (3, [.null, .int 0, .int 0, .int 0, .int 0, .int 0])), (q1, .inl (cH, 60, .inl (fun _ => 0)))]) rfl ?_
  refine j_putF X inX3 rfl tyX3_ok nmX3 (ws' := [(h, .inr (3, [.ref q1, .int 0, .int 0, .int 0, .int 0, .int 0])), (q1, .inl (cH, 60, .inl (fun _ => 0)))]) (pc' := 12) 0 0 q_fl_X3_9 (by decide) rfl hi rfl rfl rfl rfl (Nat.le_of_ble_eq_true rfl) rfl dX3_init_9 rfl ?_
  refine j_kk (kc2 := 1) (ks2 := 60) rfl rfl ?_
  exact j_cret X (W1 := (fun ar : Nat → Nat => wT cH h ar iT)) (fun _ => q1) rfl dX3_init_12)
set_option maxHeartbeats 4000000 in
set_option maxRecDepth 100000 in
theorem c_X0_init (l : Launch) (D : va_G) (cI cH cO : ClassId) (h : Nat) : MC l yX0_init cX0_init 1 1 9 91 D (tyl cI cH cO) XT [.ref h] [(h, .inr (0, [.null, .null, .null, .null, .null, .null, .null, .null, .null, .int 0, .int 0, .int 0, .int 0, .int 0, .int 0, .int 0, .int 0]))] (fun ar : Nat → Nat => wC cI h ar iC) := fun sz => j_startC (by decide +kernel) rfl (Nat.le_of_ble_eq_true rfl) (fun p e s m below meth c _ hi X => by
  refine j_lv [0] (lv' := [(0, .ref h)]) rfl ?_
  refine j_aload_n X (pc' := 1) 0 dX0_init_0 rfl rfl rfl ?_
  refine j_objInit X (pc' := 4) q_ml_X0_3 ⟨by decide, Nat.le_of_ble_eq_true rfl⟩ dX0_init_1 rfl ?_
  refine j_aload_n X (pc' := 5) 0 dX0_init_4 rfl rfl rfl ?_
  refine j_iconst X (v := 5) (pc' := 6) dX0_init_5 (by decide) rfl ?_
  refine j_newi X (pc' := 8) 5 rfl (by decide) ⟨by decide, by decide⟩ dX0_init_6 rfl (fun q1 => ?_)
  refine j_ws (ws' := [(h, .inr (0, [.null, .null, .null, .null, .null, .null, .null, .null, .null, .int 0, .int 0, .int 0, .int 0, .int 0, .int 0, .int 0, .int 0])), (q1, .inl (cI, 5, .inl (fun _ => 0)))]) rfl ?_
  refine j_dup X (pc' := 9) dX0_init_8 rfl rfl ?_
  refine j_iconst X (v := 0) (pc' := 10) dX0_init_9 (by decide) rfl ?_
  refine j_bipush X (v := 40) (pc' := 12) dX0_init_10 (by decide) rfl ?_
  refine j_iast0 X (i := 0) (pc' := 13) (ws' := [(h, .inr (0, [.null, .null, .null, .null, .null, .null, .null, .null, .null, .int 0, .int 0, .int 0, .int 0, .int 0, .int 0, .int 0, .int 0])), (q1, .inl (cI, 5, .inl (upd (fun _ => 0) 0 40)))]) 1 rfl rfl (by decide) (by decide) dX0_init_12 rfl ?_
  refine j_dup X (pc' := 14) dX0_init_13 rfl rfl ?_
  refine j_iconst X (v := 1) (pc' := 15) dX0_init_14 (by decide) rfl ?_
  refine j_bipush X (v := 40) (pc' := 17) dX0_init_15 (by decide) rfl ?_
  refine j_iast0 X (i := 1) (pc' := 18) (ws' := [(h, .inr (0, [.null, .null, .null, .null, .null, .null, .null, .null, .null, .int 0, .int 0, .int 0, .int 0, .int 0, .int 0, .int 0, .int 0])), (q1, .inl (cI, 5, .inl (upd (upd (fun _ => 0) 0 40) 1 40)))]) 1 rfl rfl (by decide) (by decide) dX0_init_17 rfl ?_
  refine j_dup X (pc' := 19) dX0_init_18 rfl rfl ?_
  refine j_iconst X (v := 2) (pc' := 20) dX0_init_19 (by decide) rfl ?_
  refine j_iconst X (v := 5) (pc' := 21) dX0_init_20 (by decide) rfl ?_
  refine j_iast0 X (i := 2) (pc' := 22) (ws' := [(h, .inr (0, [.null, .null, .null, .null, .null, .null, .null, .null, .null, .int 0, .int 0, .int 0, .int 0, .int 0, .int 0, .int 0, .int 0])), (q1, .inl (cI, 5, .inl (upd (upd (upd (fun _ => 0) 0 40) 1 40) 2 5)))]) 1 rfl rfl (by decide) (by decide) dX0_init_21 rfl ?_
  refine j_dup X (pc' := 23) dX0_init_22 rfl rfl ?_
  refine j_iconst X (v := 3) (pc' := 24) dX0_init_23 (by decide) rfl ?_
  refine j_bipush X (v := 50) (pc' := 26) dX0_init_24 (by decide) rfl ?_
  refine j_iast0 X (i := 3) (pc' := 27) (ws' := [(h, .inr (0, [.null, .null, .null, .null, .null, .null, .null, .null, .null, .int 0, .int 0, .int 0, .int 0, .int 0, .int 0, .int 0, .int 0])), (q1, .inl (cI, 5, .inl (upd (upd (upd (upd (fun _ => 0) 0 40) 1 40) 2 5) 3 50)))]) 1 rfl rfl (by decide) (by decide) dX0_init_26 rfl ?_
  refine j_dup X (pc' := 28) dX0_init_27 rfl rfl ?_
  refine j_iconst X (v := 4) (pc' := 29) dX0_init_28 (by decide) rfl ?_
  refine j_iconst X (v := 3) (pc' := 30) dX0_init_29 (by decide) rfl ?_
  refine j_iast0 X (i := 4) (pc' := 31) (ws' := [(h, .inr (0, [.null, .null, .null, .null, .null, .null, .null, .null, .null, .int 0, .int 0, .int 0, .int 0, .int 0, .int 0, .int 0, .int 0])), (q1, .inl (cI, 5, .inl (upd (upd (upd (upd (upd (fun _ => 0) 0 40) 1 40) 2 5) 3 50) 4 3)))]) 1 rfl rfl (by decide) (by decide) dX0_init_30 rfl ?_
  refine j_putF X inX0 rfl tyX0_ok nmX0 (ws' := [(h, .inr (0, [.ref q1, .null, .null, .null, .null, .null, .null, .null, .null, .int 0, .int 0, .int 0, .int 0, .int 0, .int 0, .int 0, .int 0])), (q1, .inl (cI, 5, .inl (upd (upd (upd (upd (upd (fun _ => 0) 0 40) 1 40) 2 5) 3 50) 4 3)))]) (pc' := 34) 0 0 q_fl_X0_9 (by decide) rfl hi rfl rfl rfl rfl (Nat.le_of_ble_eq_true rfl) rfl dX0_init_31 rfl ?_
  refine j_aload_n X (pc' := 35) 0 dX0_init_34 rfl rfl rfl ?_
  refine j_bipush X (v := 8) (pc' := 37) dX0_init_35 (by decide) rfl ?_
  refine j_newi X (pc' := 39) 8 rfl (by decide) ⟨by decide, by decide⟩ dX0_init_37 rfl (fun q2 => ?_)
  refine j_ws (ws' := [(h, .inr (0, [.ref q1, .null, .null, .null, .null, .null, .null, .null, .null, .int 0, .int 0, .int 0, .int 0, .int 0, .int 0, .int 0, .int 0])), (q1, .inl (cI, 5, .inl (upd (upd (upd (upd (upd (fun _ => 0) 0 40) 1 40) 2 5) 3 50) 4 3))), (q2, .inl (cI, 8, .inl (fun _ => 0)))]) rfl ?_
  refine j_putF X inX0 rfl tyX0_ok nmX0 (ws' := [(h, .inr (0, [.ref q1, .ref q2, .null, .null, .null, .null, .null, .null, .null, .int 0, .int 0, .int 0, .int 0, .int 0, .int 0, .int 0, .int 0])), (q1, .inl (cI, 5, .inl (upd (upd (upd (upd (upd (fun _ => 0) 0 40) 1 40) 2 5) 3 50) 4 3))), (q2, .inl (cI, 8, .inl (fun _ => 0)))]) (pc' := 42) 0 1 q_fl_X0_15 (by decide) rfl hi rfl rfl rfl rfl (Nat.le_of_ble_eq_true rfl) rfl dX0_init_39 rfl ?_
  refine j_aload_n X (pc' := 43) 0 dX0_init_42 rfl rfl rfl ?_
  refine j_bipush X (v := 8) (pc' := 45) dX0_init_43 (by decide) rfl ?_
  refine j_newi X (pc' := 47) 8 rfl (by decide) ⟨by decide, by decide⟩ dX0_init_45 rfl (fun q3 => ?_)
  refine j_ws (ws' := [(h, .inr (0, [.ref q1, .ref q2, .null, .null, .null, .null, .null, .null, .null, .int 0, .int 0, .int 0, .int 0, .int 0, .int 0, .int 0, .int 0])), (q1, .inl (cI, 5, .inl (upd (upd (upd (upd (upd (fun _ => 0) 0 40) 1 40) 2 5) 3 50) 4 3))), (q2, .inl (cI, 8, .inl (fun _ => 0))), (q3, .inl (cI, 8, .inl (fun _ => 0)))]) rfl ?_
  refine j_putF X inX0 rfl tyX0_ok nmX0 (ws' := [(h, .inr (0, [.ref q1, .ref q2, .ref q3, .null, .null, .null, .null, .null, .null, .int 0, .int 0, .int 0, .int 0, .int 0, .int 0, .int 0, .int 0])), (q1, .inl (cI, 5, .inl (upd (upd (upd (upd (upd (fun _ => 0) 0 40) 1 40) 2 5) 3 50) 4 3))), (q2, .inl (cI, 8, .inl (fun _ => 0))), (q3, .inl (cI, 8, .inl (fun _ => 0)))]) (pc' := 50) 0 2 q_fl_X0_18 (by decide) rfl hi rfl rfl rfl rfl (Nat.le_of_ble_eq_true rfl) rfl dX0_init_47 rfl ?_
  refine j_aload_n X (pc' := 51) 0 dX0_init_50 rfl rfl rfl ?_
  refine j_bipush X (v := 8) (pc' := 53) dX0_init_51 (by decide) rfl ?_
  refine j_newi X (pc' := 55) 8 rfl (by decide) ⟨by decide, by decide⟩ dX0_init_53 rfl (fun q4 => ?_)
  refine j_ws (ws' := [(h, .inr (0, [.ref q1, .ref q2, .ref q3, .null, .null, .null, .null, .null, .null, .int 0, .int 0, .int 0, .int 0, .int 0, .int 0, .int 0, .int 0])), (q1, .inl (cI, 5, .inl (upd (upd (upd (upd (upd (fun _ => 0) 0 40) 1 40) 2 5) 3 50) 4 3))), (q2, .inl (cI, 8, .inl (fun _ => 0))), (q3, .inl (cI, 8, .inl (fun _ => 0))), (q4, .inl (cI, 8, .inl (fun _ => 0)))]) rfl ?_
  refine j_putF X inX0 rfl tyX0_ok nmX0 (ws' := [(h, .inr (0, [.ref q1, .ref q2, .ref q3, .ref q4, .null, .null, .null, .null, .null, .int 0, .int 0, .int 0, .int 0, .int 0, .int 0, .int 0, .int 0])), (q1, .inl (cI, 5, .inl (upd (upd (upd (upd (upd (fun _ => 0) 0 40) 1 40) 2 5) 3 50) 4 3))), (q2, .inl (cI, 8, .inl (fun _ => 0))), (q3, .inl (cI, 8, .inl (fun _ => 0))), (q4, .inl (cI, 8, .inl (fun _ => 0)))]) (pc' := 58) 0 3 q_fl_X0_21 (by decide) rfl hi rfl rfl rfl rfl (Nat.le_of_ble_eq_true rfl) rfl dX0_init_55 rfl ?_
  refine j_aload_n X (pc' := 59) 0 dX0_init_58 rfl rfl rfl ?_
  refine j_bipush X (v := 8) (pc' := 61) dX0_init_59 (by decide) rfl ?_
  refine j_newi X (pc' := 63) 8 rfl (by decide) ⟨by decide, by decide⟩ dX0_init_61 rfl (fun q5 => ?_)
  refine j_ws (ws' := [(h, .inr (0, [.ref q1, .ref q2, .ref q3, .ref q4, .null, .null, .null, .null, .null, .int 0, .int 0, .int 0, .int 0, .int 0, .int 0, .int 0, .int 0])), (q1, .inl (cI, 5, .inl (upd (upd (upd (upd (upd (fun _ => 0) 0 40) 1 40) 2 5) 3 50) 4 3))), (q2, .inl (cI, 8, .inl (fun _ => 0))), (q3, .inl (cI, 8, .inl (fun _ => 0))), (q4, .inl (cI, 8, .inl (fun _ => 0))), (q5, .inl (cI, 8, .inl (fun _ => 0)))]) rfl ?_
  refine j_putF X inX0 rfl tyX0_ok nmX0 (ws' := [(h, .inr (0, [.ref q1, .ref q2, .ref q3, .ref q4, .ref q5, .null, .null, .null, .null, .int 0, .int 0, .int 0, .int 0, .int 0, .int 0, .int 0, .int 0])), (q1, .inl (cI, 5, .inl (upd (upd (upd (upd (upd (fun _ => 0) 0 40) 1 40) 2 5) 3 50) 4 3))), (q2, .inl (cI, 8, .inl (fun _ => 0))), (q3, .inl (cI, 8, .inl (fun _ => 0))), (q4, .inl (cI, 8, .inl (fun _ => 0))), (q5, .inl (cI, 8, .inl (fun _ => 0)))]) (pc' := 66) 0 4 q_fl_X0_24 (by decide) rfl hi rfl rfl rfl rfl (Nat.le_of_ble_eq_true rfl) rfl dX0_init_63 rfl ?_
  refine j_aload_n X (pc' := 67) 0 dX0_init_66 rfl rfl rfl ?_
  refine j_bipush X (v := 8) (pc' := 69) dX0_init_67 (by decide) rfl ?_
  refine j_newi X (pc' := 71) 8 rfl (by decide) ⟨by decide, by decide⟩ dX0_init_69 rfl (fun q6 => ?_)
  refine j_ws (ws' := [(h, .inr (0, [.ref q1, .ref q2, .ref q3, .ref q4, .ref q5, .null, .null, .null, .null, .int 0, .int 0, .int 0, .int 0, .int 0, .int 0, .int 0, .int 0])), (q1, .inl (cI, 5, .inl (upd (upd (upd (upd (upd (fun _ => 0) 0 40) 1 40) 2 5) 3 50) 4 3))), (q2, .inl (cI, 8, .inl (fun _ => 0))), (q3, .inl (cI, 8, .inl (fun _ => 0))), (q4, .inl (cI, 8, .inl (fun _ => 0))), (q5, .inl (cI, 8, .inl (fun _ => 0))), (q6, .inl (cI, 8, .inl (fun _ => 0)))]) rfl ?_
  refine j_putF X inX0 rfl tyX0_ok nmX0 (ws' := [(h, .inr (0, [.ref q1, .ref q2, .ref q3, .ref q4, .ref q5, .ref q6, .null, .null, .null, .int 0, .int 0, .int 0, .int 0, .int 0, .int 0, .int 0, .int 0])), (q1, .inl (cI, 5, .inl (upd (upd (upd (upd (upd (fun _ => 0) 0 40) 1 40) 2 5) 3 50) 4 3))), (q2, .inl (cI, 8, .inl (fun _ => 0))), (q3, .inl (cI, 8, .inl (fun _ => 0))), (q4, .inl (cI, 8, .inl (fun _ => 0))), (q5, .inl (cI, 8, .inl (fun _ => 0))), (q6, .inl (cI, 8, .inl (fun _ => 0)))]) (pc' := 74) 0 5 q_fl_X0_27 (by decide) rfl hi rfl rfl rfl rfl (Nat.le_of_ble_eq_true rfl) rfl dX0_init_71 rfl ?_
  refine j_aload_n X (pc' := 75) 0 dX0_init_74 rfl rfl rfl ?_
  refine j_bipush X (v := 8) (pc' := 77) dX0_init_75 (by decide) rfl ?_
  refine j_newi X (pc' := 79) 8 rfl (by decide) ⟨by decide, by decide⟩ dX0_init_77 rfl (fun q7 => ?_)
  refine j_ws (ws' := [(h, .inr (0, [.ref q1, .ref q2, .ref q3, .ref q4, .ref q5, .ref q6, .null, .null, .null, .int 0, .int 0, .int 0, .int 0, .int 0, .int 0, .int 0, .int 0])), (q1, .inl (cI, 5, .inl (upd (upd (upd (upd (upd (fun _ => 0) 0 40) 1 40) 2 5) 3 50) 4 3))), (q2, .inl (cI, 8, .inl (fun _ => 0))), (q3, .inl (cI, 8, .inl (fun _ => 0))), (q4, .inl (cI, 8, .inl (fun _ => 0))), (q5, .inl (cI, 8, .inl (fun _ => 0))), (q6, .inl (cI, 8, .inl (fun _ => 0))), (q7, .inl (cI, 8, .inl (fun _ => 0)))]) rfl ?_
  refine j_putF X inX0 rfl tyX0_ok nmX0 (ws' := [(h, .inr (0, [.ref q1, .ref q2, .ref q3, .ref q4, .ref q5, .ref q6, .ref q7, .null, .null, .int 0, .int 0, .int 0, .int 0, .int 0, .int 0, .int 0, .int 0])), (q1, .inl (cI, 5, .inl (upd (upd (upd (upd (upd (fun _ => 0) 0 40) 1 40) 2 5) 3 50) 4 3))), (q2, .inl (cI, 8, .inl (fun _ => 0))), (q3, .inl (cI, 8, .inl (fun _ => 0))), (q4, .inl (cI, 8, .inl (fun _ => 0))), (q5, .inl (cI, 8, .inl (fun _ => 0))), (q6, .inl (cI, 8, .inl (fun _ => 0))), (q7, .inl (cI, 8, .inl (fun _ => 0)))]) (pc' := 82) 0 6 q_fl_X0_30 (by decide) rfl hi rfl rfl rfl rfl (Nat.le_of_ble_eq_true rfl) rfl dX0_init_79 rfl ?_
  refine j_aload_n X (pc' := 83) 0 dX0_init_82 rfl rfl rfl ?_
  refine j_bipush X (v := 8) (pc' := 85) dX0_init_83 (by decide) rfl ?_
  refine j_newi X (pc' := 87) 8 rfl (by decide) ⟨by decide, by decide⟩ dX0_init_85 rfl (fun q8 => ?_)
  refine j_ws (ws' := [(h, .inr (0, [.ref q1, .ref q2, .ref q3, .ref q4, .ref q5, .ref q6, .ref q7, .null, .null, .int 0, .int 0, .int 0, .int 0, .int 0, .int 0, .int 0, .int 0])), (q1, .inl (cI, 5, .inl (upd (upd (upd (upd (upd (fun _ => 0) 0 40) 1 40) 2 5) 3 50) 4 3))), (q2, .inl (cI, 8, .inl (fun _ => 0))), (q3, .inl (cI, 8, .inl (fun _ => 0))), (q4, .inl (cI, 8, .inl (fun _ => 0))), (q5, .inl (cI, 8, .inl (fun _ => 0))), (q6, .inl (cI, 8, .inl (fun _ => 0))), (q7, .inl (cI, 8, .inl (fun _ => 0))), (q8, .inl (cI, 8, .inl (fun _ => 0)))]) rfl ?_
  refine j_putF X inX0 rfl tyX0_ok nmX0 (ws' := [(h, .inr (0, [.ref q1, .ref q2, .ref q3, .ref q4, .ref q5, .ref q6, .ref q7, .ref q8, .null, .int 0, .int 0, .int 0, .int 0, .int 0, .int 0, .int 0, .int 0])), (q1, .inl (cI, 5, .inl (upd (upd (upd (upd (upd (fun _ => 0) 0 40) 1 40) 2 5) 3 50) 4 3))), (q2, .inl (cI, 8, .inl (fun _ => 0))), (q3, .inl (cI, 8, .inl (fun _ => 0))), (q4, .inl (cI, 8, .inl (fun _ => 0))), (q5, .inl (cI, 8, .inl (fun _ => 0))), (q6, .inl (cI, 8, .inl (fun _ => 0))), (q7, .inl (cI, 8, .inl (fun _ => 0))), (q8, .inl (cI, 8, .inl (fun _ => 0)))]) (pc' := 90) 0 7 q_fl_X0_33 (by decide) rfl hi rfl rfl rfl rfl (Nat.le_of_ble_eq_true rfl) rfl dX0_init_87 rfl ?_
  refine j_aload_n X (pc' := 91) 0 dX0_init_90 rfl rfl rfl ?_
  refine j_bipush X (v := 30) (pc' := 93) dX0_init_91 (by decide) rfl ?_
  refine j_newi X (pc' := 95) 30 rfl (by decide) ⟨by decide, by decide⟩ dX0_init_93 rfl (fun q9 => ?_)
  refine j_ws (ws' := [(h, .inr (0, [.ref q1, .ref q2, .ref q3, .ref q4, .ref q5, .ref q6, .ref q7, .ref q8, .null, .int 0, .int 0, .int 0, .int 0, .int 0, .int 0, .int 0, .int 0])), (q1, .inl (cI, 5, .inl (upd (upd (upd (upd (upd (fun _ => 0) 0 40) 1 40) 2 5) 3 50) 4 3))), (q2, .inl (cI, 8, .inl (fun _ => 0))), (q3, .inl (cI, 8, .inl (fun _ => 0))), (q4, .inl (cI, 8, .inl (fun _ => 0))), (q5, .inl (cI, 8, .inl (fun _ => 0))), (q6, .inl (cI, 8, .inl (fun _ => 0))), (q7, .inl (cI, 8, .inl (fun _ => 0))), (q8, .inl (cI, 8, .inl (fun _ => 0))), (q9, .inl (cI, 30, .inl (fun _ => 0)))]) rfl ?_
  refine j_putF X inX0 rfl tyX0_ok nmX0 (ws' := [(h, .inr (0, [.ref q1, .ref q2, .ref q3, .ref q4, .ref q5, .ref q6, .ref q7, .ref q8, .ref q9, .int 0, .int 0, .int 0, .int 0, .int 0, .int 0, .int 0, .int 0])), (q1, .inl (cI, 5, .inl (upd (upd (upd (upd (upd (fun _ => 0) 0 40) 1 40) 2 5) 3 50) 4 3))), (q2, .inl (cI, 8, .inl (fun _ => 0))), (q3, .inl (cI, 8, .inl (fun _ => 0))), (q4, .inl (cI, 8, .inl (fun _ => 0))), (q5, .inl (cI, 8, .inl (fun _ => 0))), (q6, .inl (cI, 8, .inl (fun _ => 0))), (q7, .inl (cI, 8, .inl (fun _ => 0))), (q8, .inl (cI, 8, .inl (fun _ => 0))), (q9, .inl (cI, 30, .inl (fun _ => 0)))]) (pc' := 98) 0 8 q_fl_X0_36 (by decide) rfl hi rfl rfl rfl rfl (Nat.le_of_ble_eq_true rfl) rfl dX0_init_95 rfl ?_
  refine j_aload_n X (pc' := 99) 0 dX0_init_98 rfl rfl rfl ?_
  refine j_bipush X (v := 100) (pc' := 101) dX0_init_99 (by decide) rfl ?_
  refine j_put0 X inX0 rfl tyX0_ok nmX0 (ws' := [(h, .inr (0, [.ref q1, .ref q2, .ref q3, .ref q4, .ref q5, .ref q6, .ref q7, .ref q8, .ref q9, .int 0, .int 0, .int 100, .int 0, .int 0, .int 0, .int 0, .int 0])), (q1, .inl (cI, 5, .inl (upd (upd (upd (upd (upd (fun _ => 0) 0 40) 1 40) 2 5) 3 50) 4 3))), (q2, .inl (cI, 8, .inl (fun _ => 0))), (q3, .inl (cI, 8, .inl (fun _ => 0))), (q4, .inl (cI, 8, .inl (fun _ => 0))), (q5, .inl (cI, 8, .inl (fun _ => 0))), (q6, .inl (cI, 8, .inl (fun _ => 0))), (q7, .inl (cI, 8, .inl (fun _ => 0))), (q8, .inl (cI, 8, .inl (fun _ => 0))), (q9, .inl (cI, 30, .inl (fun _ => 0)))]) (pc' := 104) 0 11 q_fl_X0_39 (by decide) rfl rfl rfl rfl (Nat.le_of_ble_eq_true rfl) rfl dX0_init_101 rfl ?_
  refine j_kk (kc2 := 9) (ks2 := 91) rfl rfl ?_
  exact j_cret X (W1 := (fun ar : Nat → Nat => wC cI h ar iC)) (fun k => match k with | 0 => q1 | 1 => q2 | 2 => q3 | 3 => q4 | 4 => q5 | 5 => q6 | 6 => q7 | 7 => q8 | 8 => q9 | _ => 0) rfl dX0_init_104)
set_option maxHeartbeats 4000000 in
set_option maxRecDepth 100000 in
theorem c_X5_init (l : Launch) (D : va_G) (cI cH cO : ClassId) (h : Nat) : MC l yX5_init cX5_init 1 1 7 819 D (tyl cI cH cO) XT [.ref h] [(h, .inr (5, [.null, .null, .null, .int 0, .int 0, .null, .int 0, .null, .int 0, .int 0, .int 0, .null, .null]))] (fun ar : Nat → Nat => wM cI h ar iM) := fun sz => j_startC (by decide +kernel) rfl (Nat.le_of_ble_eq_true rfl) (fun p e s m below meth c _ hi X => by
  refine j_lv [0] (lv' := [(0, .ref h)]) rfl ?_
  refine j_aload_n X (pc' := 1) 0 dX5_init_0 rfl rfl rfl ?_
  refine j_objInit X (pc' := 4) q_ml_X5_1 ⟨by decide, Nat.le_of_ble_eq_true rfl⟩ dX5_init_1 rfl ?_
  refine j_aload_n X (pc' := 5) 0 dX5_init_4 rfl rfl rfl ?_
  refine j_bipush X (v := 107) (pc' := 7) dX5_init_5 (by decide) rfl ?_
  refine j_newi X (pc' := 9) 107 rfl (by decide) ⟨by decide, by decide⟩ dX5_init_7 rfl (fun q1 => ?_)
  refine j_ws (ws' := [(h, .inr (5, [.null, .null, .null, .int 0, .int 0, .null, .int 0, .null, .int 0, .int 0, .int 0, .null, .null])), (q1, .inl (cI, 107, .inl (fun _ => 0)))]) rfl ?_
  refine j_putF X inX5 rfl tyX5_ok nmX5 (ws' := [(h, .inr (5, [.ref q1, .null, .null, .int 0, .int 0, .null, .int 0, .null, .int 0, .int 0, .int 0, .null, .null])), (q1, .inl (cI, 107, .inl (fun _ => 0)))]) (pc' := 12) 0 0 q_fl_X5_7 (by decide) rfl hi rfl rfl rfl rfl (Nat.le_of_ble_eq_true rfl) rfl dX5_init_9 rfl ?_
  refine j_aload_n X (pc' := 13) 0 dX5_init_12 rfl rfl rfl ?_
  refine j_sipush X (v := 428) (pc' := 16) dX5_init_13 (by decide) rfl ?_
  refine j_newi X (pc' := 18) 428 rfl (by decide) ⟨by decide, by decide⟩ dX5_init_16 rfl (fun q2 => ?_)
  refine j_ws (ws' := [(h, .inr (5, [.ref q1, .null, .null, .int 0, .int 0, .null, .int 0, .null, .int 0, .int 0, .int 0, .null, .null])), (q1, .inl (cI, 107, .inl (fun _ => 0))), (q2, .inl (cI, 428, .inl (fun _ => 0)))]) rfl ?_
  refine j_putF X inX5 rfl tyX5_ok nmX5 (ws' := [(h, .inr (5, [.ref q1, .ref q2, .null, .int 0, .int 0, .null, .int 0, .null, .int 0, .int 0, .int 0, .null, .null])), (q1, .inl (cI, 107, .inl (fun _ => 0))), (q2, .inl (cI, 428, .inl (fun _ => 0)))]) (pc' := 21) 0 1 q_fl_X5_13 (by decide) rfl hi rfl rfl rfl rfl (Nat.le_of_ble_eq_true rfl) rfl dX5_init_18 rfl ?_
  refine j_aload_n X (pc' := 22) 0 dX5_init_21 rfl rfl rfl ?_
  refine j_bipush X (v := 107) (pc' := 24) dX5_init_22 (by decide) rfl ?_
  refine j_newi X (pc' := 26) 107 rfl (by decide) ⟨by decide, by decide⟩ dX5_init_24 rfl (fun q3 => ?_)
  refine j_ws (ws' := [(h, .inr (5, [.ref q1, .ref q2, .null, .int 0, .int 0, .null, .int 0, .null, .int 0, .int 0, .int 0, .null, .null])), (q1, .inl (cI, 107, .inl (fun _ => 0))), (q2, .inl (cI, 428, .inl (fun _ => 0))), (q3, .inl (cI, 107, .inl (fun _ => 0)))]) rfl ?_
  refine j_putF X inX5 rfl tyX5_ok nmX5 (ws' := [(h, .inr (5, [.ref q1, .ref q2, .ref q3, .int 0, .int 0, .null, .int 0, .null, .int 0, .int 0, .int 0, .null, .null])), (q1, .inl (cI, 107, .inl (fun _ => 0))), (q2, .inl (cI, 428, .inl (fun _ => 0))), (q3, .inl (cI, 107, .inl (fun _ => 0)))]) (pc' := 29) 0 2 q_fl_X5_16 (by decide) rfl hi rfl rfl rfl rfl (Nat.le_of_ble_eq_true rfl) rfl dX5_init_26 rfl ?_
  refine j_aload_n X (pc' := 30) 0 dX5_init_29 rfl rfl rfl ?_
  refine j_bipush X (v := 60) (pc' := 32) dX5_init_30 (by decide) rfl ?_
  refine j_newi X (pc' := 34) 60 rfl (by decide) ⟨by decide, by decide⟩ dX5_init_32 rfl (fun q4 => ?_)
  refine j_ws (ws' := [(h, .inr (5, [.ref q1, .ref q2, .ref q3, .int 0, .int 0, .null, .int 0, .null, .int 0, .int 0, .int 0, .null, .null])), (q1, .inl (cI, 107, .inl (fun _ => 0))), (q2, .inl (cI, 428, .inl (fun _ => 0))), (q3, .inl (cI, 107, .inl (fun _ => 0))), (q4, .inl (cI, 60, .inl (fun _ => 0)))]) rfl ?_
  refine j_putF X inX5 rfl tyX5_ok nmX5 (ws' := [(h, .inr (5, [.ref q1, .ref q2, .ref q3, .int 0, .int 0, .ref q4, .int 0, .null, .int 0, .int 0, .int 0, .null, .null])), (q1, .inl (cI, 107, .inl (fun _ => 0))), (q2, .inl (cI, 428, .inl (fun _ => 0))), (q3, .inl (cI, 107, .inl (fun _ => 0))), (q4, .inl (cI, 60, .inl (fun _ => 0)))]) (pc' := 37) 0 5 q_fl_X5_19 (by decide) rfl hi rfl rfl rfl rfl (Nat.le_of_ble_eq_true rfl) rfl dX5_init_34 rfl ?_
  refine j_aload_n X (pc' := 38) 0 dX5_init_37 rfl rfl rfl ?_
  refine j_bipush X (v := 8) (pc' := 40) dX5_init_38 (by decide) rfl ?_
  refine j_newi X (pc' := 42) 8 rfl (by decide) ⟨by decide, by decide⟩ dX5_init_40 rfl (fun q5 => ?_)
  refine j_ws (ws' := [(h, .inr (5, [.ref q1, .ref q2, .ref q3, .int 0, .int 0, .ref q4, .int 0, .null, .int 0, .int 0, .int 0, .null, .null])), (q1, .inl (cI, 107, .inl (fun _ => 0))), (q2, .inl (cI, 428, .inl (fun _ => 0))), (q3, .inl (cI, 107, .inl (fun _ => 0))), (q4, .inl (cI, 60, .inl (fun _ => 0))), (q5, .inl (cI, 8, .inl (fun _ => 0)))]) rfl ?_
  refine j_putF X inX5 rfl tyX5_ok nmX5 (ws' := [(h, .inr (5, [.ref q1, .ref q2, .ref q3, .int 0, .int 0, .ref q4, .int 0, .ref q5, .int 0, .int 0, .int 0, .null, .null])), (q1, .inl (cI, 107, .inl (fun _ => 0))), (q2, .inl (cI, 428, .inl (fun _ => 0))), (q3, .inl (cI, 107, .inl (fun _ => 0))), (q4, .inl (cI, 60, .inl (fun _ => 0))), (q5, .inl (cI, 8, .inl (fun _ => 0)))]) (pc' := 45) 0 7 q_fl_X5_22 (by decide) rfl hi rfl rfl rfl rfl (Nat.le_of_ble_eq_true rfl) rfl dX5_init_42 rfl ?_
  refine j_aload_n X (pc' := 46) 0 dX5_init_45 rfl rfl rfl ?_
  refine j_iconst X (v := 2) (pc' := 47) dX5_init_46 (by decide) rfl ?_
  refine j_newi X (pc' := 49) 2 rfl (by decide) ⟨by decide, by decide⟩ dX5_init_47 rfl (fun q6 => ?_)
  refine j_ws (ws' := [(h, .inr (5, [.ref q1, .ref q2, .ref q3, .int 0, .int 0, .ref q4, .int 0, .ref q5, .int 0, .int 0, .int 0, .null, .null])), (q1, .inl (cI, 107, .inl (fun _ => 0))), (q2, .inl (cI, 428, .inl (fun _ => 0))), (q3, .inl (cI, 107, .inl (fun _ => 0))), (q4, .inl (cI, 60, .inl (fun _ => 0))), (q5, .inl (cI, 8, .inl (fun _ => 0))), (q6, .inl (cI, 2, .inl (fun _ => 0)))]) rfl ?_
  refine j_putF X inX5 rfl tyX5_ok nmX5 (ws' := [(h, .inr (5, [.ref q1, .ref q2, .ref q3, .int 0, .int 0, .ref q4, .int 0, .ref q5, .int 0, .int 0, .int 0, .ref q6, .null])), (q1, .inl (cI, 107, .inl (fun _ => 0))), (q2, .inl (cI, 428, .inl (fun _ => 0))), (q3, .inl (cI, 107, .inl (fun _ => 0))), (q4, .inl (cI, 60, .inl (fun _ => 0))), (q5, .inl (cI, 8, .inl (fun _ => 0))), (q6, .inl (cI, 2, .inl (fun _ => 0)))]) (pc' := 52) 0 11 q_fl_X5_25 (by decide) rfl hi rfl rfl rfl rfl (Nat.le_of_ble_eq_true rfl) rfl dX5_init_49 rfl ?_
  refine j_aload_n X (pc' := 53) 0 dX5_init_52 rfl rfl rfl ?_
  refine j_bipush X (v := 107) (pc' := 55) dX5_init_53 (by decide) rfl ?_
  refine j_newi X (pc' := 57) 107 rfl (by decide) ⟨by decide, by decide⟩ dX5_init_55 rfl (fun q7 => ?_)
  refine j_ws (ws' := [(h, .inr (5, [.ref q1, .ref q2, .ref q3, .int 0, .int 0, .ref q4, .int 0, .ref q5, .int 0, .int 0, .int 0, .ref q6, .null])), (q1, .inl (cI, 107, .inl (fun _ => 0))), (q2, .inl (cI, 428, .inl (fun _ => 0))), (q3, .inl (cI, 107, .inl (fun _ => 0))), (q4, .inl (cI, 60, .inl (fun _ => 0))), (q5, .inl (cI, 8, .inl (fun _ => 0))), (q6, .inl (cI, 2, .inl (fun _ => 0))), (q7, .inl (cI, 107, .inl (fun _ => 0)))]) rfl ?_
  refine j_putF X inX5 rfl tyX5_ok nmX5 (ws' := [(h, .inr (5, [.ref q1, .ref q2, .ref q3, .int 0, .int 0, .ref q4, .int 0, .ref q5, .int 0, .int 0, .int 0, .ref q6, .ref q7])), (q1, .inl (cI, 107, .inl (fun _ => 0))), (q2, .inl (cI, 428, .inl (fun _ => 0))), (q3, .inl (cI, 107, .inl (fun _ => 0))), (q4, .inl (cI, 60, .inl (fun _ => 0))), (q5, .inl (cI, 8, .inl (fun _ => 0))), (q6, .inl (cI, 2, .inl (fun _ => 0))), (q7, .inl (cI, 107, .inl (fun _ => 0)))]) (pc' := 60) 0 12 q_fl_X5_28 (by decide) rfl hi rfl rfl rfl rfl (Nat.le_of_ble_eq_true rfl) rfl dX5_init_57 rfl ?_
  refine j_aload_n X (pc' := 61) 0 dX5_init_60 rfl rfl rfl ?_
  refine j_get X inX5 rfl (pc' := 64) 0 0 q_fl_X5_7 (by decide) rfl rfl dX5_init_61 rfl ?_
  refine j_iconst X (v := 0) (pc' := 65) dX5_init_64 (by decide) rfl ?_
  refine j_bipush X (v := 40) (pc' := 67) dX5_init_65 (by decide) rfl ?_
  refine j_iast0 X (i := 0) (pc' := 68) (ws' := [(h, .inr (5, [.ref q1, .ref q2, .ref q3, .int 0, .int 0, .ref q4, .int 0, .ref q5, .int 0, .int 0, .int 0, .ref q6, .ref q7])), (q1, .inl (cI, 107, .inl (upd (fun _ => 0) 0 40))), (q2, .inl (cI, 428, .inl (fun _ => 0))), (q3, .inl (cI, 107, .inl (fun _ => 0))), (q4, .inl (cI, 60, .inl (fun _ => 0))), (q5, .inl (cI, 8, .inl (fun _ => 0))), (q6, .inl (cI, 2, .inl (fun _ => 0))), (q7, .inl (cI, 107, .inl (fun _ => 0)))]) 1 rfl rfl (by decide) (by decide) dX5_init_67 rfl ?_
  refine j_aload_n X (pc' := 69) 0 dX5_init_68 rfl rfl rfl ?_
  refine j_get X inX5 rfl (pc' := 72) 0 0 q_fl_X5_7 (by decide) rfl rfl dX5_init_69 rfl ?_
  refine j_iconst X (v := 1) (pc' := 73) dX5_init_72 (by decide) rfl ?_
  refine j_bipush X (v := 40) (pc' := 75) dX5_init_73 (by decide) rfl ?_
  refine j_iast0 X (i := 1) (pc' := 76) (ws' := [(h, .inr (5, [.ref q1, .ref q2, .ref q3, .int 0, .int 0, .ref q4, .int 0, .ref q5, .int 0, .int 0, .int 0, .ref q6, .ref q7])), (q1, .inl (cI, 107, .inl (upd (upd (fun _ => 0) 0 40) 1 40))), (q2, .inl (cI, 428, .inl (fun _ => 0))), (q3, .inl (cI, 107, .inl (fun _ => 0))), (q4, .inl (cI, 60, .inl (fun _ => 0))), (q5, .inl (cI, 8, .inl (fun _ => 0))), (q6, .inl (cI, 2, .inl (fun _ => 0))), (q7, .inl (cI, 107, .inl (fun _ => 0)))]) 1 rfl rfl (by decide) (by decide) dX5_init_75 rfl ?_
  refine j_aload_n X (pc' := 77) 0 dX5_init_76 rfl rfl rfl ?_
  refine j_get X inX5 rfl (pc' := 80) 0 0 q_fl_X5_7 (by decide) rfl rfl dX5_init_77 rfl ?_
  refine j_iconst X (v := 2) (pc' := 81) dX5_init_80 (by decide) rfl ?_
  refine j_iconst X (v := 5) (pc' := 82) dX5_init_81 (by decide) rfl ?_
  refine j_iast0 X (i := 2) (pc' := 83) (ws' := [(h, .inr (5, [.ref q1, .ref q2, .ref q3, .int 0, .int 0, .ref q4, .int 0, .ref q5, .int 0, .int 0, .int 0, .ref q6, .ref q7])), (q1, .inl (cI, 107, .inl (upd (upd (upd (fun _ => 0) 0 40) 1 40) 2 5))), (q2, .inl (cI, 428, .inl (fun _ => 0))), (q3, .inl (cI, 107, .inl (fun _ => 0))), (q4, .inl (cI, 60, .inl (fun _ => 0))), (q5, .inl (cI, 8, .inl (fun _ => 0))), (q6, .inl (cI, 2, .inl (fun _ => 0))), (q7, .inl (cI, 107, .inl (fun _ => 0)))]) 1 rfl rfl (by decide) (by decide) dX5_init_82 rfl ?_
  refine j_aload_n X (pc' := 84) 0 dX5_init_83 rfl rfl rfl ?_
  refine j_get X inX5 rfl (pc' := 87) 0 0 q_fl_X5_7 (by decide) rfl rfl dX5_init_84 rfl ?_
  refine j_iconst X (v := 3) (pc' := 88) dX5_init_87 (by decide) rfl ?_
  refine j_bipush X (v := 50) (pc' := 90) dX5_init_88 (by decide) rfl ?_
  refine j_iast0 X (i := 3) (pc' := 91) (ws' := [(h, .inr (5, [.ref q1, .ref q2, .ref q3, .int 0, .int 0, .ref q4, .int 0, .ref q5, .int 0, .int 0, .int 0, .ref q6, .ref q7])), (q1, .inl (cI, 107, .inl (upd (upd (upd (upd (fun _ => 0) 0 40) 1 40) 2 5) 3 50))), (q2, .inl (cI, 428, .inl (fun _ => 0))), (q3, .inl (cI, 107, .inl (fun _ => 0))), (q4, .inl (cI, 60, .inl (fun _ => 0))), (q5, .inl (cI, 8, .inl (fun _ => 0))), (q6, .inl (cI, 2, .inl (fun _ => 0))), (q7, .inl (cI, 107, .inl (fun _ => 0)))]) 1 rfl rfl (by decide) (by decide) dX5_init_90 rfl ?_
  refine j_aload_n X (pc' := 92) 0 dX5_init_91 rfl rfl rfl ?_
  refine j_get X inX5 rfl (pc' := 95) 0 0 q_fl_X5_7 (by decide) rfl rfl dX5_init_92 rfl ?_
  refine j_iconst X (v := 4) (pc' := 96) dX5_init_95 (by decide) rfl ?_
  refine j_iconst X (v := 3) (pc' := 97) dX5_init_96 (by decide) rfl ?_
  refine j_iast0 X (i := 4) (pc' := 98) (ws' := [(h, .inr (5, [.ref q1, .ref q2, .ref q3, .int 0, .int 0, .ref q4, .int 0, .ref q5, .int 0, .int 0, .int 0, .ref q6, .ref q7])), (q1, .inl (cI, 107, .inl (upd (upd (upd (upd (upd (fun _ => 0) 0 40) 1 40) 2 5) 3 50) 4 3))), (q2, .inl (cI, 428, .inl (fun _ => 0))), (q3, .inl (cI, 107, .inl (fun _ => 0))), (q4, .inl (cI, 60, .inl (fun _ => 0))), (q5, .inl (cI, 8, .inl (fun _ => 0))), (q6, .inl (cI, 2, .inl (fun _ => 0))), (q7, .inl (cI, 107, .inl (fun _ => 0)))]) 1 rfl rfl (by decide) (by decide) dX5_init_97 rfl ?_
  refine j_aload_n X (pc' := 99) 0 dX5_init_98 rfl rfl rfl ?_
  refine j_get X inX5 rfl (pc' := 102) 0 0 q_fl_X5_7 (by decide) rfl rfl dX5_init_99 rfl ?_
  refine j_bipush X (v := 7) (pc' := 104) dX5_init_102 (by decide) rfl ?_
  refine j_bipush X (v := 100) (pc' := 106) dX5_init_104 (by decide) rfl ?_
  refine j_iast0 X (i := 7) (pc' := 107) (ws' := [(h, .inr (5, [.ref q1, .ref q2, .ref q3, .int 0, .int 0, .ref q4, .int 0, .ref q5, .int 0, .int 0, .int 0, .ref q6, .ref q7])), (q1, .inl (cI, 107, .inl (upd (upd (upd (upd (upd (upd (fun _ => 0) 0 40) 1 40) 2 5) 3 50) 4 3) 7 100))), (q2, .inl (cI, 428, .inl (fun _ => 0))), (q3, .inl (cI, 107, .inl (fun _ => 0))), (q4, .inl (cI, 60, .inl (fun _ => 0))), (q5, .inl (cI, 8, .inl (fun _ => 0))), (q6, .inl (cI, 2, .inl (fun _ => 0))), (q7, .inl (cI, 107, .inl (fun _ => 0)))]) 1 rfl rfl (by decide) (by decide) dX5_init_106 rfl ?_
  refine j_kk (kc2 := 7) (ks2 := 819) rfl rfl ?_
  exact j_cret X (W1 := (fun ar : Nat → Nat => wM cI h ar iM)) (fun k => match k with | 0 => q1 | 1 => q2 | 2 => q3 | 5 => q4 | 7 => q5 | 11 => q6 | 12 => q7 | _ => 0) rfl dX5_init_107)
