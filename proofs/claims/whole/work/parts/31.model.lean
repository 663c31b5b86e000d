set_option maxHeartbeats 4000000 in
set_option maxRecDepth 100000 in
theorem b_X5_calls {p : Program} {l : Launch} {e : Env} {s : State} {m : MethodId} {args : Array Value} {below : List Frame} {meth : Method} {c : Code} {D : va_G} {cI cH cO : ClassId} {ws0 : va_W} (h : Nat) (ar : Nat → Nat) (C : Cst) (x1 : Int32) (hIC : IM C) (X : CX p s m args meth c cX5_calls 2 RX5 (some .int) D (tyl cI cH cO) (va_A ws0 s.heap.size)) : J p l e (rml 5) s m args below meth c 2 D (va_A ws0 s.heap.size) 0 0 (KI below args s D (tyl cI cH cO) ws0 (fun C9 => (wM cI h ar C9))) (sX5_calls C x1) ((wM cI h ar C)) 0 [(0, .ref h), (1, .int x1)] [] := by
  unfold sX5_calls
  refine j_iload_n X (pc' := 1) 1 dX5_calls_0 rfl rfl rfl ?_
  refine j_ite (P9 := x1 = 99) (fun c_1_99 => ?_) (fun c_1_99 => ?_)
  · refine j_lsw X (tgt := 72) dX5_calls_1 (by decide) (off := 71) (by rw [c_1_99]; decide) (by decide) ?_
    refine j_aload_n X (pc' := 73) 0 dX5_calls_72 rfl rfl rfl ?_
    refine j_callVi X (pc' := 76) (As := []) (rest := []) (c_X5_close l D cI cH cO h ar C hIC) wv_X5_122 ⟨0, 5, _, _, rfl, rfl, rfl⟩ ⟨by decide, by decide, by decide, by decide⟩ rfl rfl (Nat.le_of_ble_eq_true rfl) dX5_calls_73 rfl ?_
    refine j_rsL (q := (sX5_close C)) (fun S_73 => (wM cI h ar S_73)) (fun r_73 S_73 er_73 => ?_)
    have hIS_73 : IM S_73 := by have h9 : IM (sX5_close C).2 := IM_close hIC; rw [er_73] at h9; exact h9
    exact j_iretI X rfl rfl dX5_calls_76
  refine j_ite (P9 := x1 = 109) (fun c_1_109 => ?_) (fun c_1_109 => ?_)
  · refine j_lsw X (tgt := 44) dX5_calls_1 (by decide) (off := 43) (by rw [c_1_109]; decide) (by decide) ?_
    refine j_aload_n X (pc' := 45) 0 dX5_calls_44 rfl rfl rfl ?_
    refine j_aload_n X (pc' := 46) 0 dX5_calls_45 rfl rfl rfl ?_
    refine j_get X inX5 rfl (pc' := 49) 0 11 q_fl_X5_25 (by decide) rfl rfl dX5_calls_46 rfl ?_
    refine j_iconst X (v := 0) (pc' := 50) dX5_calls_49 (by decide) rfl ?_
    refine j_ialdN X (i := 0) (pc' := 51) 6 rfl (by omega) (by decide) dX5_calls_50 rfl ?_
    refine j_callVi X (pc' := 54) (As := [.int (C 11 0)]) (rest := []) (c_X5_member l D cI cH cO h ar C (C 11 0) hIC) wv_X5_116 ⟨0, 5, _, _, rfl, rfl, rfl⟩ ⟨by decide, by decide, by decide, by decide⟩ rfl rfl (Nat.le_of_ble_eq_true rfl) dX5_calls_51 rfl ?_
    refine j_rsL (q := (sX5_member C (C 11 0))) (fun S_51 => (wM cI h ar S_51)) (fun r_51 S_51 er_51 => ?_)
    have hIS_51 : IM S_51 := by have h9 : IM (sX5_member C (C 11 0)).2 := IM_member hIC; rw [er_51] at h9; exact h9
    exact j_iretI X rfl rfl dX5_calls_54
  refine j_ite (P9 := x1 = 112) (fun c_1_112 => ?_) (fun c_1_112 => ?_)
  · refine j_lsw X (tgt := 77) dX5_calls_1 (by decide) (off := 76) (by rw [c_1_112]; decide) (by decide) ?_
    refine j_aload_n X (pc' := 78) 0 dX5_calls_77 rfl rfl rfl ?_
    refine j_aload_n X (pc' := 79) 0 dX5_calls_78 rfl rfl rfl ?_
    refine j_get X inX5 rfl (pc' := 82) 0 11 q_fl_X5_25 (by decide) rfl rfl dX5_calls_79 rfl ?_
    refine j_iconst X (v := 0) (pc' := 83) dX5_calls_82 (by decide) rfl ?_
    refine j_ialdN X (i := 0) (pc' := 84) 6 rfl (by omega) (by decide) dX5_calls_83 rfl ?_
    refine j_aload_n X (pc' := 85) 0 dX5_calls_84 rfl rfl rfl ?_
    refine j_get X inX5 rfl (pc' := 88) 0 11 q_fl_X5_25 (by decide) rfl rfl dX5_calls_85 rfl ?_
    refine j_iconst X (v := 1) (pc' := 89) dX5_calls_88 (by decide) rfl ?_
    refine j_ialdN X (i := 1) (pc' := 90) 6 rfl (by omega) (by decide) dX5_calls_89 rfl ?_
    refine j_callVi X (pc' := 93) (As := [.int (C 11 0), .int (C 11 1)]) (rest := []) (c_X5_pay l D cI cH cO h ar C (C 11 0) (C 11 1) hIC) wv_X5_125 ⟨0, 5, _, _, rfl, rfl, rfl⟩ ⟨by decide, by decide, by decide, by decide⟩ rfl rfl (Nat.le_of_ble_eq_true rfl) dX5_calls_90 rfl ?_
    refine j_rsL (q := (sX5_pay C (C 11 0) (C 11 1))) (fun S_90 => (wM cI h ar S_90)) (fun r_90 S_90 er_90 => ?_)
    have hIS_90 : IM S_90 := by have h9 : IM (sX5_pay C (C 11 0) (C 11 1)).2 := IM_pay hIC; rw [er_90] at h9; exact h9
    exact j_iretI X rfl rfl dX5_calls_93
  refine j_ite (P9 := x1 = 117) (fun c_1_117 => ?_) (fun c_1_117 => ?_)
  · refine j_lsw X (tgt := 55) dX5_calls_1 (by decide) (off := 54) (by rw [c_1_117]; decide) (by decide) ?_
    refine j_aload_n X (pc' := 56) 0 dX5_calls_55 rfl rfl rfl ?_
    refine j_aload_n X (pc' := 57) 0 dX5_calls_56 rfl rfl rfl ?_
    refine j_get X inX5 rfl (pc' := 60) 0 11 q_fl_X5_25 (by decide) rfl rfl dX5_calls_57 rfl ?_
    refine j_iconst X (v := 0) (pc' := 61) dX5_calls_60 (by decide) rfl ?_
    refine j_ialdN X (i := 0) (pc' := 62) 6 rfl (by omega) (by decide) dX5_calls_61 rfl ?_
    refine j_aload_n X (pc' := 63) 0 dX5_calls_62 rfl rfl rfl ?_
    refine j_get X inX5 rfl (pc' := 66) 0 11 q_fl_X5_25 (by decide) rfl rfl dX5_calls_63 rfl ?_
    refine j_iconst X (v := 1) (pc' := 67) dX5_calls_66 (by decide) rfl ?_
    refine j_ialdN X (i := 1) (pc' := 68) 6 rfl (by omega) (by decide) dX5_calls_67 rfl ?_
    refine j_callVi X (pc' := 71) (As := [.int (C 11 0), .int (C 11 1)]) (rest := []) (c_X5_use l D cI cH cO h ar C (C 11 0) (C 11 1) hIC) wv_X5_119 ⟨0, 5, _, _, rfl, rfl, rfl⟩ ⟨by decide, by decide, by decide, by decide⟩ rfl rfl (Nat.le_of_ble_eq_true rfl) dX5_calls_68 rfl ?_
    refine j_rsL (q := (sX5_use C (C 11 0) (C 11 1))) (fun S_68 => (wM cI h ar S_68)) (fun r_68 S_68 er_68 => ?_)
    have hIS_68 : IM S_68 := by have h9 : IM (sX5_use C (C 11 0) (C 11 1)).2 := IM_use hIC; rw [er_68] at h9; exact h9
    exact j_iretI X rfl rfl dX5_calls_71
  refine j_lsw X (tgt := 94) dX5_calls_1 (by decide) (off := 93) (by rw [lv_osw c_1_99 (by decide)]; rw [lv_osw c_1_109 (by decide)]; rw [lv_osw c_1_112 (by decide)]; rw [lv_osw c_1_117 (by decide)]; rfl) (by decide) ?_
  refine j_aload_n X (pc' := 95) 0 dX5_calls_94 rfl rfl rfl ?_
  refine j_aload_n X (pc' := 96) 0 dX5_calls_95 rfl rfl rfl ?_
  refine j_get X inX5 rfl (pc' := 99) 0 11 q_fl_X5_25 (by decide) rfl rfl dX5_calls_96 rfl ?_
  refine j_iconst X (v := 0) (pc' := 100) dX5_calls_99 (by decide) rfl ?_
  refine j_ialdN X (i := 0) (pc' := 101) 6 rfl (by omega) (by decide) dX5_calls_100 rfl ?_
  refine j_callVi X (pc' := 104) (As := [.int (C 11 0)]) (rest := []) (c_X5_repair l D cI cH cO h ar C (C 11 0) hIC) wv_X5_128 ⟨0, 5, _, _, rfl, rfl, rfl⟩ ⟨by decide, by decide, by decide, by decide⟩ rfl rfl (Nat.le_of_ble_eq_true rfl) dX5_calls_101 rfl ?_
  refine j_rsL (q := (sX5_repair C (C 11 0))) (fun S_101 => (wM cI h ar S_101)) (fun r_101 S_101 er_101 => ?_)
  have hIS_101 : IM S_101 := by have h9 : IM (sX5_repair C (C 11 0)).2 := IM_repair hIC; rw [er_101] at h9; exact h9
  exact j_iretI X rfl rfl dX5_calls_104
theorem c_X5_calls (l : Launch) (D : va_G) (cI cH cO : ClassId) (h : Nat) (ar : Nat → Nat) (C : Cst) (x1 : Int32) (hIC : IM C) : MI l yX5_calls cX5_calls 2 (some .int) 5 D (tyl cI cH cO) [.ref h, .int x1] ((wM cI h ar C)) (sX5_calls C x1).1 ((wM cI h ar ((sX5_calls C x1).2))) := fun sz => j_start (fun below s => (KI below [.ref h, .int x1].toArray s D (tyl cI cH cO) ((wM cI h ar C)) (fun C9 => (wM cI h ar C9)))) (sX5_calls C x1) (by decide +kernel) rfl (Nat.le_of_ble_eq_true rfl) (fun below s hs _ => by subst hs; rfl) (fun p e s m below meth c hX9 X => b_X5_calls h ar C x1 hIC X)
