set_option maxHeartbeats 4000000 in
set_option maxRecDepth 100000 in
theorem b_X0_endSeason {p : Program} {l : Launch} {e : Env} {s : State} {m : MethodId} {args : Array Value} {below : List Frame} {meth : Method} {c : Code} {D : va_G} {cI cH cO : ClassId} {ws0 : va_W} (h : Nat) (ar : Nat → Nat) (C : Cst) (hM : (C 9 0).toInt ≤ 8) (hS0 : 0 ≤ (C 10 0).toInt) (X : CX p s m args meth c cX0_endSeason 4 RX0 (some .int) D (tyl cI cH cO) (va_A ws0 s.heap.size)) : J p l e (rml 3) s m args below meth c 4 D (va_A ws0 s.heap.size) 0 0 (KI below args s D (tyl cI cH cO) ws0 (fun C9 => (wC cI h ar C9))) (sX0_endSeason C) ((wC cI h ar C)) 0 [(0, .ref h)] [] := by
  unfold sX0_endSeason
  refine j_aload_n X (pc' := 1) 0 dX0_endSeason_0 rfl rfl rfl ?_
  refine j_callVi X (pc' := 4) (As := []) (rest := []) (c_X0_allUnits l D cI cH cO h ar C ) wv_X0_121 ⟨0, 0, _, _, rfl, rfl, rfl⟩ ⟨by decide, by decide, by decide, by decide⟩ rfl rfl (Nat.le_of_ble_eq_true rfl) dX0_endSeason_1 rfl ?_
  refine j_topL (fun r_1 er_1 => ?_)
  refine j_istore_n X (lv' := [(0, .ref h), (1, .int r_1)]) (pc' := 5) [1, 0] dX0_endSeason_4 rfl (by decide) rfl rfl ?_
  refine j_aload_n X (pc' := 6) 0 dX0_endSeason_5 rfl rfl rfl ?_
  refine j_iload_n X (pc' := 7) 1 dX0_endSeason_6 rfl rfl rfl ?_
  refine j_callVi X (pc' := 10) (As := [.int r_1]) (rest := []) (c_X0_damageOf l D cI cH cO h ar C r_1 ) wv_X0_83 ⟨0, 0, _, _, rfl, rfl, rfl⟩ ⟨by decide, by decide, by decide, by decide⟩ rfl rfl (Nat.le_of_ble_eq_true rfl) dX0_endSeason_7 rfl ?_
  refine j_topL (fun r_7 er_7 => ?_)
  refine j_istore_n X (lv' := [(0, .ref h), (1, .int r_1), (2, .int r_7)]) (pc' := 11) [1, 2, 0] dX0_endSeason_10 rfl (by decide) rfl rfl ?_
  refine j_aload_n X (pc' := 12) 0 dX0_endSeason_11 rfl rfl rfl ?_
  refine j_get X inX0 rfl (pc' := 15) 0 13 q_fl_X0_56 (by decide) rfl rfl dX0_endSeason_12 rfl ?_
  refine j_istore_nL X (fun v3_15 => [(0, .ref h), (1, .int r_1), (2, .int r_7), (3, .int v3_15)]) [1, 2, 3, 0] (pc' := 16) dX0_endSeason_15 rfl (by decide) (fun _ => rfl) rfl (fun v3_15 ev3_15 => ?_)
  refine j_aload_n X (pc' := 17) 0 dX0_endSeason_16 rfl rfl rfl ?_
  refine j_callVv X (pc' := 20) (As := []) (rest := []) (c_X0_oweCharges l D cI cH cO h ar C (by first | omega | assumption | decide | (subst_vars; first | assumption | omega))) wv_X0_124 ⟨0, 0, _, _, rfl, rfl, rfl⟩ ⟨by decide, by decide, by decide, by decide⟩ rfl rfl (Nat.le_of_ble_eq_true rfl) dX0_endSeason_17 rfl ?_
  refine j_stL (S := (sX0_oweCharges C)) (fun S_17 => (wC cI h ar S_17)) (fun S_17 eS_17 => ?_)
  refine j_aload_n X (pc' := 21) 0 dX0_endSeason_20 rfl rfl rfl ?_
  refine j_dup X (pc' := 22) dX0_endSeason_21 rfl rfl ?_
  refine j_get X inX0 rfl (pc' := 25) 0 14 q_fl_X0_59 (by decide) rfl rfl dX0_endSeason_22 rfl ?_
  refine j_iload_n X (pc' := 26) 2 dX0_endSeason_25 rfl rfl rfl ?_
  refine j_iadd X (pc' := 27) dX0_endSeason_26 rfl ?_
  refine j_put X inX0 rfl (pc' := 30) tyX0_ok nmX0 (S := up S_17 14 0 ((S_17 14 0) + r_7)) (fun S_27 => (wC cI h ar S_27)) 0 14 q_fl_X0_59 (by decide) rfl rfl rfl rfl (Nat.le_of_ble_eq_true rfl) rfl dX0_endSeason_27 rfl (fun S_27 eS_27 => ?_)
  refine j_aload_n X (pc' := 31) 0 dX0_endSeason_30 rfl rfl rfl ?_
  refine j_dup X (pc' := 32) dX0_endSeason_31 rfl rfl ?_
  refine j_get X inX0 rfl (pc' := 35) 0 15 q_fl_X0_62 (by decide) rfl rfl dX0_endSeason_32 rfl ?_
  refine j_iconst X (v := 0) (pc' := 36) dX0_endSeason_35 (by decide) rfl ?_
  refine j_iload_n X (pc' := 37) 2 dX0_endSeason_36 rfl rfl rfl ?_
  refine j_aload_n X (pc' := 38) 0 dX0_endSeason_37 rfl rfl rfl ?_
  refine j_get X inX0 rfl (pc' := 41) 0 11 q_fl_X0_39 (by decide) rfl rfl dX0_endSeason_38 rfl ?_
  refine j_isub X (pc' := 42) dX0_endSeason_41 rfl ?_
  refine j_mmax X (pc' := 45) ⟨q_ml_X0_127, q_sta_J9_max, q_ini_J9, q_code_J9_max⟩ ⟨by decide, Nat.le_of_ble_eq_true rfl, by decide, by decide⟩ dX0_endSeason_42 rfl ?_
  refine j_iadd X (pc' := 46) dX0_endSeason_45 rfl ?_
  refine j_put X inX0 rfl (pc' := 49) tyX0_ok nmX0 (S := up S_27 15 0 ((S_27 15 0) + (if 0 < (r_7 - (S_27 11 0)) then (r_7 - (S_27 11 0)) else 0))) (fun S_46 => (wC cI h ar S_46)) 0 15 q_fl_X0_62 (by decide) rfl rfl rfl rfl (Nat.le_of_ble_eq_true rfl) rfl dX0_endSeason_46 rfl (fun S_46 eS_46 => ?_)
  refine j_aload_n X (pc' := 50) 0 dX0_endSeason_49 rfl rfl rfl ?_
  refine j_iconst X (v := 0) (pc' := 51) dX0_endSeason_50 (by decide) rfl ?_
  refine j_aload_n X (pc' := 52) 0 dX0_endSeason_51 rfl rfl rfl ?_
  refine j_get X inX0 rfl (pc' := 55) 0 11 q_fl_X0_39 (by decide) rfl rfl dX0_endSeason_52 rfl ?_
  refine j_iload_n X (pc' := 56) 2 dX0_endSeason_55 rfl rfl rfl ?_
  refine j_isub X (pc' := 57) dX0_endSeason_56 rfl ?_
  refine j_mmax X (pc' := 60) ⟨q_ml_X0_127, q_sta_J9_max, q_ini_J9, q_code_J9_max⟩ ⟨by decide, Nat.le_of_ble_eq_true rfl, by decide, by decide⟩ dX0_endSeason_57 rfl ?_
  refine j_put X inX0 rfl (pc' := 63) tyX0_ok nmX0 (S := up S_46 11 0 (if 0 < ((S_46 11 0) - r_7) then ((S_46 11 0) - r_7) else 0)) (fun S_60 => (wC cI h ar S_60)) 0 11 q_fl_X0_39 (by decide) rfl rfl rfl rfl (Nat.le_of_ble_eq_true rfl) rfl dX0_endSeason_60 rfl (fun S_60 eS_60 => ?_)
  refine j_aload_n X (pc' := 64) 0 dX0_endSeason_63 rfl rfl rfl ?_
  refine j_bipush X (v := 100) (pc' := 66) dX0_endSeason_64 (by decide) rfl ?_
  refine j_aload_n X (pc' := 67) 0 dX0_endSeason_66 rfl rfl rfl ?_
  refine j_get X inX0 rfl (pc' := 70) 0 11 q_fl_X0_39 (by decide) rfl rfl dX0_endSeason_67 rfl ?_
  refine j_aload_n X (pc' := 71) 0 dX0_endSeason_70 rfl rfl rfl ?_
  refine j_get X inX0 rfl (pc' := 74) 0 0 q_fl_X0_9 (by decide) rfl rfl dX0_endSeason_71 rfl ?_
  refine j_iconst X (v := 2) (pc' := 75) dX0_endSeason_74 (by decide) rfl ?_
  refine j_ialdN X (i := 2) (pc' := 76) 1 rfl (by omega) (by decide) dX0_endSeason_75 rfl ?_
  refine j_iadd X (pc' := 77) dX0_endSeason_76 rfl ?_
  refine j_mmin X (pc' := 80) ⟨q_ml_X0_105, q_sta_J9_min, q_ini_J9, q_code_J9_min⟩ ⟨by decide, Nat.le_of_ble_eq_true rfl, by decide, by decide⟩ dX0_endSeason_77 rfl ?_
  refine j_put X inX0 rfl (pc' := 83) tyX0_ok nmX0 (S := up S_60 11 0 (if ((S_60 11 0) + (S_60 0 2)) < 100 then ((S_60 11 0) + (S_60 0 2)) else 100)) (fun S_80 => (wC cI h ar S_80)) 0 11 q_fl_X0_39 (by decide) rfl rfl rfl rfl (Nat.le_of_ble_eq_true rfl) rfl dX0_endSeason_80 rfl (fun S_80 eS_80 => ?_)
  refine j_aload_n X (pc' := 84) 0 dX0_endSeason_83 rfl rfl rfl ?_
  refine j_iload_n X (pc' := 85) 1 dX0_endSeason_84 rfl rfl rfl ?_
  refine j_iload_n X (pc' := 86) 2 dX0_endSeason_85 rfl rfl rfl ?_
  refine j_callVv X (pc' := 89) (As := [.int r_1, .int r_7]) (rest := []) (c_X0_keepSeason l D cI cH cO h ar S_80 r_1 r_7 (by subst_vars; show 0 ≤ (sX0_oweCharges C 10 0).toInt; rw [oweCharges_fr (by decide)]; exact hS0)) wv_X0_130 ⟨0, 0, _, _, rfl, rfl, rfl⟩ ⟨by decide, by decide, by decide, by decide⟩ rfl rfl (Nat.le_of_ble_eq_true rfl) dX0_endSeason_86 rfl ?_
  refine j_stL (S := (sX0_keepSeason S_80 r_1 r_7)) (fun S_86 => (wC cI h ar S_86)) (fun S_86 eS_86 => ?_)
  refine j_aload_n X (pc' := 90) 0 dX0_endSeason_89 rfl rfl rfl ?_
  refine j_callVv X (pc' := 93) (As := []) (rest := []) (c_X0_bookUses l D cI cH cO h ar S_86 ) wv_X0_134 ⟨0, 0, _, _, rfl, rfl, rfl⟩ ⟨by decide, by decide, by decide, by decide⟩ rfl rfl (Nat.le_of_ble_eq_true rfl) dX0_endSeason_90 rfl ?_
  refine j_stL (S := (sX0_bookUses S_86)) (fun S_90 => (wC cI h ar S_90)) (fun S_90 eS_90 => ?_)
  refine j_aload_n X (pc' := 94) 0 dX0_endSeason_93 rfl rfl rfl ?_
  refine j_dup X (pc' := 95) dX0_endSeason_94 rfl rfl ?_
  refine j_get X inX0 rfl (pc' := 98) 0 10 q_fl_X0_50 (by decide) rfl rfl dX0_endSeason_95 rfl ?_
  refine j_iconst X (v := 1) (pc' := 99) dX0_endSeason_98 (by decide) rfl ?_
  refine j_iadd X (pc' := 100) dX0_endSeason_99 rfl ?_
  refine j_put X inX0 rfl (pc' := 103) tyX0_ok nmX0 (S := up S_90 10 0 ((S_90 10 0) + 1)) (fun S_100 => (wC cI h ar S_100)) 0 10 q_fl_X0_50 (by decide) rfl rfl rfl rfl (Nat.le_of_ble_eq_true rfl) rfl dX0_endSeason_100 rfl (fun S_100 eS_100 => ?_)
  refine j_aload_n X (pc' := 104) 0 dX0_endSeason_103 rfl rfl rfl ?_
  refine j_iconst X (v := 0) (pc' := 105) dX0_endSeason_104 (by decide) rfl ?_
  refine j_put X inX0 rfl (pc' := 108) tyX0_ok nmX0 (S := up S_100 13 0 0) (fun S_105 => (wC cI h ar S_105)) 0 13 q_fl_X0_56 (by decide) rfl rfl rfl rfl (Nat.le_of_ble_eq_true rfl) rfl dX0_endSeason_105 rfl (fun S_105 eS_105 => ?_)
  refine j_aload_n X (pc' := 109) 0 dX0_endSeason_108 rfl rfl rfl ?_
  refine j_iload_n X (pc' := 110) 3 dX0_endSeason_109 rfl rfl rfl ?_
  refine j_callVv X (pc' := 113) (As := [.int v3_15]) (rest := []) (c_X0_excludeInTurn l D cI cH cO h ar S_105 v3_15 ) wv_X0_137 ⟨0, 0, _, _, rfl, rfl, rfl⟩ ⟨by decide, by decide, by decide, by decide⟩ rfl rfl (Nat.le_of_ble_eq_true rfl) dX0_endSeason_110 rfl ?_
  refine j_stL (S := (sX0_excludeInTurn S_105 v3_15)) (fun S_110 => (wC cI h ar S_110)) (fun S_110 eS_110 => ?_)
  refine j_aload_n X (pc' := 114) 0 dX0_endSeason_113 rfl rfl rfl ?_
  refine j_callVv X (pc' := 117) (As := []) (rest := []) (c_X0_excludeDebtors l D cI cH cO h ar S_110 ) wv_X0_140 ⟨0, 0, _, _, rfl, rfl, rfl⟩ ⟨by decide, by decide, by decide, by decide⟩ rfl rfl (Nat.le_of_ble_eq_true rfl) dX0_endSeason_114 rfl ?_
  refine j_stL (S := (sX0_excludeDebtors S_110)) (fun S_114 => (wC cI h ar S_114)) (fun S_114 eS_114 => ?_)
  refine j_aload_n X (pc' := 118) 0 dX0_endSeason_117 rfl rfl rfl ?_
  refine j_callVv X (pc' := 121) (As := []) (rest := []) (c_X0_noteSeasonsOut l D cI cH cO h ar S_114 ) wv_X0_143 ⟨0, 0, _, _, rfl, rfl, rfl⟩ ⟨by decide, by decide, by decide, by decide⟩ rfl rfl (Nat.le_of_ble_eq_true rfl) dX0_endSeason_118 rfl ?_
  refine j_stL (S := (sX0_noteSeasonsOut S_114)) (fun S_118 => (wC cI h ar S_118)) (fun S_118 eS_118 => ?_)
  refine j_iload_n X (pc' := 122) 2 dX0_endSeason_121 rfl rfl rfl ?_
  exact j_iretI X rfl rfl dX0_endSeason_122
theorem c_X0_endSeason (l : Launch) (D : va_G) (cI cH cO : ClassId) (h : Nat) (ar : Nat → Nat) (C : Cst) (hM : (C 9 0).toInt ≤ 8) (hS0 : 0 ≤ (C 10 0).toInt) : MI l yX0_endSeason cX0_endSeason 4 (some .int) 3 D (tyl cI cH cO) [.ref h] ((wC cI h ar C)) (sX0_endSeason C).1 ((wC cI h ar ((sX0_endSeason C).2))) := fun sz => j_start (fun below s => (KI below [.ref h].toArray s D (tyl cI cH cO) ((wC cI h ar C)) (fun C9 => (wC cI h ar C9)))) (sX0_endSeason C) (by decide +kernel) rfl (Nat.le_of_ble_eq_true rfl) (fun below s hs _ => by subst hs; rfl) (fun p e s m below meth c hX9 X => b_X0_endSeason h ar C hM hS0 X)
set_option maxHeartbeats 4000000 in
set_option maxRecDepth 100000 in
theorem b_X0_closeSeason {p : Program} {l : Launch} {e : Env} {s : State} {m : MethodId} {args : Array Value} {below : List Frame} {meth : Method} {c : Code} {D : va_G} {cI cH cO : ClassId} {ws0 : va_W} (h : Nat) (ar : Nat → Nat) (C : Cst) (hM : (C 9 0).toInt ≤ 8) (hS0 : 0 ≤ (C 10 0).toInt) (X : CX p s m args meth c cX0_closeSeason 1 RX0 (some .int) D (tyl cI cH cO) (va_A ws0 s.heap.size)) : J p l e (rml 4) s m args below meth c 1 D (va_A ws0 s.heap.size) 0 0 (KI below args s D (tyl cI cH cO) ws0 (fun C9 => (wC cI h ar C9))) (sX0_closeSeason C) ((wC cI h ar C)) 0 [(0, .ref h)] [] := by
  unfold sX0_closeSeason
  refine j_aload_n X (pc' := 1) 0 dX0_closeSeason_0 rfl rfl rfl ?_
  refine j_get X inX0 rfl (pc' := 4) 0 9 q_fl_X0_47 (by decide) rfl rfl dX0_closeSeason_1 rfl ?_
  refine j_if_ne X (tgt := 11) (pc' := 7) dX0_closeSeason_4 (by decide) rfl (fun c_4 => ?_) (fun c_4 => ?_)
  · refine j_aload_n X (pc' := 12) 0 dX0_closeSeason_11 rfl rfl rfl ?_
    refine j_get X inX0 rfl (pc' := 15) 0 10 q_fl_X0_50 (by decide) rfl rfl dX0_closeSeason_12 rfl ?_
    refine j_sipush X (v := 999) (pc' := 18) dX0_closeSeason_15 (by decide) rfl ?_
    refine j_icmp_lt X (tgt := 25) (pc' := 21) dX0_closeSeason_18 (by decide) rfl (fun c_18 => ?_) (fun c_18 => ?_)
    · refine j_aload_n X (pc' := 26) 0 dX0_closeSeason_25 rfl rfl rfl ?_
      refine j_callVi X (pc' := 29) (As := []) (rest := []) (c_X0_endSeason l D cI cH cO h ar C (by first | omega | assumption | decide | (subst_vars; first | assumption | omega)) (by first | omega | assumption | decide | (subst_vars; first | assumption | omega))) wv_X0_117 ⟨0, 0, _, _, rfl, rfl, rfl⟩ ⟨by decide, by decide, by decide, by decide⟩ rfl rfl (Nat.le_of_ble_eq_true rfl) dX0_closeSeason_26 rfl ?_
      refine j_rsL (q := (sX0_endSeason C)) (fun S_26 => (wC cI h ar S_26)) (fun r_26 S_26 er_26 => ?_)
      exact j_iretI X rfl rfl dX0_closeSeason_29
    · refine j_sipush X (v := (-10003)) (pc' := 24) dX0_closeSeason_21 (by decide) rfl ?_
      exact j_iretI X rfl rfl dX0_closeSeason_24
  · refine j_sipush X (v := (-10002)) (pc' := 10) dX0_closeSeason_7 (by decide) rfl ?_
    exact j_iretI X rfl rfl dX0_closeSeason_10
theorem c_X0_closeSeason (l : Launch) (D : va_G) (cI cH cO : ClassId) (h : Nat) (ar : Nat → Nat) (C : Cst) (hM : (C 9 0).toInt ≤ 8) (hS0 : 0 ≤ (C 10 0).toInt) : MI l yX0_closeSeason cX0_closeSeason 1 (some .int) 4 D (tyl cI cH cO) [.ref h] ((wC cI h ar C)) (sX0_closeSeason C).1 ((wC cI h ar ((sX0_closeSeason C).2))) := fun sz => j_start (fun below s => (KI below [.ref h].toArray s D (tyl cI cH cO) ((wC cI h ar C)) (fun C9 => (wC cI h ar C9)))) (sX0_closeSeason C) (by decide +kernel) rfl (Nat.le_of_ble_eq_true rfl) (fun below s hs _ => by subst hs; rfl) (fun p e s m below meth c hX9 X => b_X0_closeSeason h ar C hM hS0 X)
set_option maxHeartbeats 4000000 in
set_option maxRecDepth 100000 in
theorem b_X0_liftedGain {p : Program} {l : Launch} {e : Env} {s : State} {m : MethodId} {args : Array Value} {below : List Frame} {meth : Method} {c : Code} {D : va_G} {cI cH cO : ClassId} (h : Nat) (ar : Nat → Nat) (C : Cst) (x1 : Int32) (x2 : Int32)  (X : CX p s m args meth c cX0_liftedGain 3 RX0 (some .int) D (tyl cI cH cO) (va_A ((wC cI h ar C)) s.heap.size)) : J p l e (rml 3) s m args below meth c 3 D (va_A ((wC cI h ar C)) s.heap.size) 0 0 (KP below args s D (tyl cI cH cO) ((wC cI h ar C))) (sX0_liftedGain C x1 x2) ((wC cI h ar C)) 0 [(0, .ref h), (1, .int x1), (2, .int x2)] [] := by
  unfold sX0_liftedGain
  refine j_ltv (fun K35 eK35 => ?_)
  have hK35 : ∀ (i1 : Nat) (x2 : Int32) (hi1 : i1 < 8), J p l e (rml 3) s m args below meth c 3 D (va_A ((wC cI h ar C)) s.heap.size) 0 0 (KP below args s D (tyl cI cH cO) ((wC cI h ar C))) (K35 i1 x2) ((wC cI h ar C)) 35 [(0, .ref h), (1, .int (nI i1)), (2, .int x2)] [] := by
    intro i1 x2 hi1
    rw [eK35]
    refine j_aload_n X (pc' := 36) 0 dX0_liftedGain_35 rfl rfl rfl ?_
    refine j_aload_n X (pc' := 37) 0 dX0_liftedGain_36 rfl rfl rfl ?_
    refine j_iload_n X (pc' := 38) 1 dX0_liftedGain_37 rfl rfl rfl ?_
    refine j_callVi X (pc' := 41) (As := [.int (nI i1)]) (rest := [.ref h]) (c_X0_unitsAhead l D cI cH cO h ar C (nI i1) ) wv_X0_76 ⟨0, 0, _, _, rfl, rfl, rfl⟩ ⟨by decide, by decide, by decide, by decide⟩ rfl rfl (Nat.le_of_ble_eq_true rfl) dX0_liftedGain_38 rfl ?_
    refine j_topL (fun r_38 er_38 => ?_)
    refine j_aload_n X (pc' := 42) 0 dX0_liftedGain_41 rfl rfl rfl ?_
    refine j_get X inX0 rfl (pc' := 45) 0 1 q_fl_X0_15 (by decide) rfl rfl dX0_liftedGain_42 rfl ?_
    refine j_iload_n X (pc' := 46) 1 dX0_liftedGain_45 rfl rfl rfl ?_
    refine j_ialdN X (i := i1) (pc' := 47) 2 rfl (by omega) (by decide) dX0_liftedGain_46 rfl ?_
    refine j_iload_n X (pc' := 48) 2 dX0_liftedGain_47 rfl rfl rfl ?_
    refine j_callVi X (pc' := 51) (As := [.int r_38, .int (C 1 i1), .int x2]) (rest := []) (c_X0_gainBehind l D cI cH cO h ar C r_38 (C 1 i1) x2 ) wv_X0_152 ⟨0, 0, _, _, rfl, rfl, rfl⟩ ⟨by decide, by decide, by decide, by decide⟩ rfl rfl (Nat.le_of_ble_eq_true rfl) dX0_liftedGain_48 rfl ?_
    refine j_topL (fun r_48 er_48 => ?_)
    refine j_sipush X (v := 10000) (pc' := 54) dX0_liftedGain_51 (by decide) rfl ?_
    refine j_iadd X (pc' := 55) dX0_liftedGain_54 rfl ?_
    exact j_iretP X rfl rfl dX0_liftedGain_55
  refine j_ltv (fun K19 eK19 => ?_)
  have hK19 : ∀ (i1 : Nat) (x2 : Int32) (hi1 : i1 < 8), J p l e (rml 3) s m args below meth c 3 D (va_A ((wC cI h ar C)) s.heap.size) 0 0 (KP below args s D (tyl cI cH cO) ((wC cI h ar C))) (K19 i1 x2) ((wC cI h ar C)) 19 [(0, .ref h), (1, .int (nI i1)), (2, .int x2)] [] := by
    intro i1 x2 hi1
    rw [eK19]
    refine j_aload_n X (pc' := 20) 0 dX0_liftedGain_19 rfl rfl rfl ?_
    refine j_iload_n X (pc' := 21) 1 dX0_liftedGain_20 rfl rfl rfl ?_
    refine j_callVi X (pc' := 24) (As := [.int (nI i1)]) (rest := []) (c_X0_isOut l D cI cH cO h ar C (nI i1) ) wv_X0_93 ⟨0, 0, _, _, rfl, rfl, rfl⟩ ⟨by decide, by decide, by decide, by decide⟩ rfl rfl (Nat.le_of_ble_eq_true rfl) dX0_liftedGain_21 rfl ?_
    refine j_topL (fun r_21 er_21 => ?_)
    refine j_if_eq X (tgt := 35) (pc' := 27) dX0_liftedGain_24 (by decide) rfl (fun c_24 => ?_) (fun c_24 => ?_)
    · refine j_lv [0, 1, 2] (lv' := [(0, .ref h), (1, .int (nI i1)), (2, .int x2)]) rfl ?_
      exact hK35 _ _ (by first | omega | assumption | decide | (subst_vars; first | assumption | omega))
    · refine j_iload_n X (pc' := 28) 2 dX0_liftedGain_27 rfl rfl rfl ?_
      refine j_if_eq X (tgt := 35) (pc' := 31) dX0_liftedGain_28 (by decide) rfl (fun c_28 => ?_) (fun c_28 => ?_)
      · refine j_lv [0, 1, 2] (lv' := [(0, .ref h), (1, .int (nI i1)), (2, .int x2)]) rfl ?_
        exact hK35 _ _ (by first | omega | assumption | decide | (subst_vars; first | assumption | omega))
      · refine j_sipush X (v := (-10002)) (pc' := 34) dX0_liftedGain_31 (by decide) rfl ?_
        exact j_iretP X rfl rfl dX0_liftedGain_34
  refine j_aload_n X (pc' := 1) 0 dX0_liftedGain_0 rfl rfl rfl ?_
  refine j_iload_n X (pc' := 2) 1 dX0_liftedGain_1 rfl rfl rfl ?_
  refine j_callVi X (pc' := 5) (As := [.int x1]) (rest := []) (c_X0_has l D cI cH cO h ar C x1 ) wv_X0_86 ⟨0, 0, _, _, rfl, rfl, rfl⟩ ⟨by decide, by decide, by decide, by decide⟩ rfl rfl (Nat.le_of_ble_eq_true rfl) dX0_liftedGain_2 rfl ?_
  refine j_topL (fun r_2 er_2 => ?_)
  refine j_if_eq X (tgt := 15) (pc' := 8) dX0_liftedGain_5 (by decide) rfl (fun c_5 => ?_) (fun c_5 => ?_)
  · refine j_sipush X (v := (-10001)) (pc' := 18) dX0_liftedGain_15 (by decide) rfl ?_
    exact j_iretP X rfl rfl dX0_liftedGain_18
  · refine j_iload_n X (pc' := 9) 2 dX0_liftedGain_8 rfl rfl rfl ?_
    refine j_callNiF X (pc' := 12) (As := [.int x2]) (rest := []) (ws' := (wC cI h ar C)) (wr := (wC cI h ar C)) [] [0, 1, 2, 3, 4, 5, 6, 7, 8, 9] [0, 1, 2, 3, 4, 5, 6, 7, 8, 9] rfl rfl ⟨by decide, by decide, by decide, by decide⟩ rfl (c_X4_isUnits l D cI cH cO x2 ) X.2.2.1.2.2.2.2.2.1 wn_X0_90 ⟨by decide, by decide, by decide, by decide⟩ rfl rfl (Nat.le_of_ble_eq_true rfl) dX0_liftedGain_9 rfl ?_
    refine j_topL (fun r_9 er_9 => ?_)
    refine j_if_ne X (tgt := 19) (pc' := 15) dX0_liftedGain_12 (by decide) rfl (fun c_12 => ?_) (fun c_12 => ?_)
    · obtain ⟨j_12, hj_12, ej_12⟩ : ∃ j : Nat, j < 8 ∧ x1 = nI j := vp_in_of (has_in (by rw [← er_2]; exact c_5)) (by decide)
      subst ej_12
      rw [nI_clamp (show j_12 < 2 ^ 31 by omega)]
      refine j_lv [0, 1, 2] (lv' := _) rfl ?_
      exact hK19 _ _ (by first | omega | assumption | decide | (subst_vars; first | assumption | omega))
    · refine j_sipush X (v := (-10001)) (pc' := 18) dX0_liftedGain_15 (by decide) rfl ?_
      exact j_iretP X rfl rfl dX0_liftedGain_18
theorem c_X0_liftedGain (l : Launch) (D : va_G) (cI cH cO : ClassId) (h : Nat) (ar : Nat → Nat) (C : Cst) (x1 : Int32) (x2 : Int32)  : MI l yX0_liftedGain cX0_liftedGain 3 (some .int) 3 D (tyl cI cH cO) [.ref h, .int x1, .int x2] ((wC cI h ar C)) (sX0_liftedGain C x1 x2) ((wC cI h ar C)) := fun sz => j_start (fun below s => (KP below [.ref h, .int x1, .int x2].toArray s D (tyl cI cH cO) ((wC cI h ar C)))) (sX0_liftedGain C x1 x2) (by decide +kernel) rfl (Nat.le_of_ble_eq_true rfl) (fun below s hs _ => by subst hs; rfl) (fun p e s m below meth c hX9 X => b_X0_liftedGain h ar C x1 x2  X)
set_option maxHeartbeats 4000000 in
set_option maxRecDepth 100000 in
theorem b_X0_bestUnits {p : Program} {l : Launch} {e : Env} {s : State} {m : MethodId} {args : Array Value} {below : List Frame} {meth : Method} {c : Code} {D : va_G} {cI cH cO : ClassId} (h : Nat) (ar : Nat → Nat) (C : Cst) (i1 : Nat) (hi1 : i1 < 8) (X : CX p s m args meth c cX0_bestUnits 7 RX0 (some .int) D (tyl cI cH cO) (va_A ((wC cI h ar C)) s.heap.size)) : J p l e (rml 3) s m args below meth c 7 D (va_A ((wC cI h ar C)) s.heap.size) 0 0 (KP below args s D (tyl cI cH cO) ((wC cI h ar C))) (sX0_bestUnits C i1) ((wC cI h ar C)) 0 [(0, .ref h), (1, .int (nI i1))] [] := by
  unfold sX0_bestUnits
  refine j_ltl5 (fun L32 eL32 => ?_)
  have hL32 : ∀ (n32 : Nat) (i1 : Nat) (x2 : Int32) (x3 : Int32) (x4 : Int32) (i5 : Nat) (hi : i5 ≤ 21) (hfu : 22 ≤ i5 + n32) (hi1 : i1 < 8), J p l e (rml 3) s m args below meth c 7 D (va_A ((wC cI h ar C)) s.heap.size) 0 0 (KP below args s D (tyl cI cH cO) ((wC cI h ar C))) (L32 n32 i1 x2 x3 x4 i5) ((wC cI h ar C)) 32 [(0, .ref h), (1, .int (nI i1)), (2, .int x2), (3, .int x3), (4, .int x4), (5, .int (nI i5))] [] := by
    intro n32
    induction n32 with
    | zero =>
      intro i1 x2 x3 x4 i5 hi hfu hi1
      exact absurd hfu (by omega)
    | succ n32 ih32 =>
      intro i1 x2 x3 x4 i5 hi hfu hi1
      rw [eL32]
      refine j_ltv (fun K68 eK68 => ?_)
      have hK68 : ∀ (i1 : Nat) (x2 : Int32) (x3 : Int32) (x4 : Int32) (i5 : Nat) (hi : i5 < 21) (hfu : 22 ≤ i5 + (n32 + 1)) (hi1 : i1 < 8), J p l e (rml 3) s m args below meth c 7 D (va_A ((wC cI h ar C)) s.heap.size) 0 0 (KP below args s D (tyl cI cH cO) ((wC cI h ar C))) (K68 i1 x2 x3 x4 i5) ((wC cI h ar C)) 68 [(0, .ref h), (1, .int (nI i1)), (2, .int x2), (3, .int x3), (4, .int x4), (5, .int (nI i5))] [] := by
        intro i1 x2 x3 x4 i5 hi hfu hi1
        rw [eK68]
        refine j_iinc X (v := (nI (i5 + 1))) (lv' := [(0, .ref h), (1, .int (nI i1)), (2, .int x2), (3, .int x3), (4, .int x4), (5, .int (nI (i5 + 1)))]) (q := 5) (pc' := 71) [1, 2, 3, 4, 5, 0] dX0_bestUnits_68 rfl (nI_1 i5) (by decide) rfl rfl ?_
        refine j_goto X (pc' := 32) dX0_bestUnits_71 (by decide) ?_
        refine j_lv [0, 1, 2, 3, 4, 5] (lv' := [(0, .ref h), (1, .int (nI i1)), (2, .int x2), (3, .int x3), (4, .int x4), (5, .int (nI (i5 + 1)))]) rfl ?_
        exact ih32 _ _ _ _ _ (by first | omega | assumption | decide | (subst_vars; first | assumption | omega)) (by first | omega | assumption | decide | (subst_vars; first | assumption | omega)) (by first | omega | assumption | decide | (subst_vars; first | assumption | omega))
      refine j_iload X (pc' := 34) 5 dX0_bestUnits_32 rfl rfl ?_
      refine j_bipush X (v := 20) (pc' := 36) dX0_bestUnits_34 (by decide) rfl ?_
      refine j_icmp_gt X (tgt := 74) (pc' := 39) dX0_bestUnits_36 (by decide) rfl (fun c_36 => ?_) (fun c_36 => ?_)
      · have f_36 : 20 < i5 := (nI_ltI (a := 20) (b := i5) (by omega) (by omega)).mp c_36
        refine j_iload_n X (pc' := 75) 3 dX0_bestUnits_74 rfl rfl rfl ?_
        exact j_iretP X rfl rfl dX0_bestUnits_75
      · have f_36 : ¬ (20 < i5) := fun h => c_36 ((nI_ltI (a := 20) (b := i5) (by omega) (by omega)).mpr h)
        refine j_aload_n X (pc' := 40) 0 dX0_bestUnits_39 rfl rfl rfl ?_
        refine j_iload_n X (pc' := 41) 2 dX0_bestUnits_40 rfl rfl rfl ?_
        refine j_aload_n X (pc' := 42) 0 dX0_bestUnits_41 rfl rfl rfl ?_
        refine j_get X inX0 rfl (pc' := 45) 0 1 q_fl_X0_15 (by decide) rfl rfl dX0_bestUnits_42 rfl ?_
        refine j_iload_n X (pc' := 46) 1 dX0_bestUnits_45 rfl rfl rfl ?_
        refine j_ialdN X (i := i1) (pc' := 47) 2 rfl (by omega) (by decide) dX0_bestUnits_46 rfl ?_
        refine j_iload X (pc' := 49) 5 dX0_bestUnits_47 rfl rfl ?_
        refine j_callVi X (pc' := 52) (As := [.int x2, .int (C 1 i1), .int (nI i5)]) (rest := []) (c_X0_gainBehind l D cI cH cO h ar C x2 (C 1 i1) (nI i5) ) wv_X0_152 ⟨0, 0, _, _, rfl, rfl, rfl⟩ ⟨by decide, by decide, by decide, by decide⟩ rfl rfl (Nat.le_of_ble_eq_true rfl) dX0_bestUnits_49 rfl ?_
        refine j_topL (fun r_49 er_49 => ?_)
        refine j_istore X (lv' := [(0, .ref h), (1, .int (nI i1)), (2, .int x2), (3, .int x3), (4, .int x4), (5, .int (nI i5)), (6, .int r_49)]) (pc' := 54) [1, 2, 3, 4, 5, 6, 0] dX0_bestUnits_52 (by decide) rfl rfl ?_
        refine j_iload X (pc' := 56) 6 dX0_bestUnits_54 rfl rfl ?_
        refine j_iload X (pc' := 58) 4 dX0_bestUnits_56 rfl rfl ?_
        refine j_icmp_le X (tgt := 68) (pc' := 61) dX0_bestUnits_58 (by decide) rfl (fun c_58 => ?_) (fun c_58 => ?_)
        · refine j_lv [0, 1, 2, 3, 4, 5] (lv' := [(0, .ref h), (1, .int (nI i1)), (2, .int x2), (3, .int x3), (4, .int x4), (5, .int (nI i5))]) rfl ?_
          exact hK68 _ _ _ _ _ (by first | omega | assumption | decide | (subst_vars; first | assumption | omega)) (by first | omega | assumption | decide | (subst_vars; first | assumption | omega)) (by first | omega | assumption | decide | (subst_vars; first | assumption | omega))
        · refine j_iload X (pc' := 63) 6 dX0_bestUnits_61 rfl rfl ?_
          refine j_istore X (lv' := [(0, .ref h), (1, .int (nI i1)), (2, .int x2), (3, .int x3), (4, .int r_49), (5, .int (nI i5)), (6, .int r_49)]) (pc' := 65) [1, 2, 3, 4, 0, 5, 6] dX0_bestUnits_63 (by decide) rfl rfl ?_
          refine j_iload X (pc' := 67) 5 dX0_bestUnits_65 rfl rfl ?_
          refine j_istore_n X (lv' := [(0, .ref h), (1, .int (nI i1)), (2, .int x2), (3, .int (nI i5)), (4, .int r_49), (5, .int (nI i5)), (6, .int r_49)]) (pc' := 68) [1, 2, 3, 0, 4, 5, 6] dX0_bestUnits_67 rfl (by decide) rfl rfl ?_
          refine j_lv [0, 1, 2, 3, 4, 5] (lv' := [(0, .ref h), (1, .int (nI i1)), (2, .int x2), (3, .int (nI i5)), (4, .int r_49), (5, .int (nI i5))]) rfl ?_
          exact hK68 _ _ _ _ _ (by first | omega | assumption | decide | (subst_vars; first | assumption | omega)) (by first | omega | assumption | decide | (subst_vars; first | assumption | omega)) (by first | omega | assumption | decide | (subst_vars; first | assumption | omega))
  refine j_aload_n X (pc' := 1) 0 dX0_bestUnits_0 rfl rfl rfl ?_
  refine j_iload_n X (pc' := 2) 1 dX0_bestUnits_1 rfl rfl rfl ?_
  refine j_callVi X (pc' := 5) (As := [.int (nI i1)]) (rest := []) (c_X0_has l D cI cH cO h ar C (nI i1) ) wv_X0_86 ⟨0, 0, _, _, rfl, rfl, rfl⟩ ⟨by decide, by decide, by decide, by decide⟩ rfl rfl (Nat.le_of_ble_eq_true rfl) dX0_bestUnits_2 rfl ?_
  refine j_topL (fun r_2 er_2 => ?_)
  refine j_if_eq X (tgt := 16) (pc' := 8) dX0_bestUnits_5 (by decide) rfl (fun c_5 => ?_) (fun c_5 => ?_)
  · refine j_iconst X (v := 0) (pc' := 17) dX0_bestUnits_16 (by decide) rfl ?_
    exact j_iretP X rfl rfl dX0_bestUnits_17
  · refine j_aload_n X (pc' := 9) 0 dX0_bestUnits_8 rfl rfl rfl ?_
    refine j_iload_n X (pc' := 10) 1 dX0_bestUnits_9 rfl rfl rfl ?_
    refine j_callVi X (pc' := 13) (As := [.int (nI i1)]) (rest := []) (c_X0_isOut l D cI cH cO h ar C (nI i1) ) wv_X0_93 ⟨0, 0, _, _, rfl, rfl, rfl⟩ ⟨by decide, by decide, by decide, by decide⟩ rfl rfl (Nat.le_of_ble_eq_true rfl) dX0_bestUnits_10 rfl ?_
    refine j_topL (fun r_10 er_10 => ?_)
    refine j_if_eq X (tgt := 18) (pc' := 16) dX0_bestUnits_13 (by decide) rfl (fun c_13 => ?_) (fun c_13 => ?_)
    · refine j_aload_n X (pc' := 19) 0 dX0_bestUnits_18 rfl rfl rfl ?_
      refine j_iload_n X (pc' := 20) 1 dX0_bestUnits_19 rfl rfl rfl ?_
      refine j_callVi X (pc' := 23) (As := [.int (nI i1)]) (rest := []) (c_X0_unitsAhead l D cI cH cO h ar C (nI i1) ) wv_X0_76 ⟨0, 0, _, _, rfl, rfl, rfl⟩ ⟨by decide, by decide, by decide, by decide⟩ rfl rfl (Nat.le_of_ble_eq_true rfl) dX0_bestUnits_20 rfl ?_
      refine j_topL (fun r_20 er_20 => ?_)
      refine j_istore_n X (lv' := [(0, .ref h), (1, .int (nI i1)), (2, .int r_20)]) (pc' := 24) [1, 2, 0] dX0_bestUnits_23 rfl (by decide) rfl rfl ?_
      refine j_iconst X (v := 0) (pc' := 25) dX0_bestUnits_24 (by decide) rfl ?_
      refine j_istore_n X (lv' := [(0, .ref h), (1, .int (nI i1)), (2, .int r_20), (3, .int 0)]) (pc' := 26) [1, 2, 3, 0] dX0_bestUnits_25 rfl (by decide) rfl rfl ?_
      refine j_iconst X (v := 0) (pc' := 27) dX0_bestUnits_26 (by decide) rfl ?_
      refine j_istore X (lv' := [(0, .ref h), (1, .int (nI i1)), (2, .int r_20), (3, .int 0), (4, .int 0)]) (pc' := 29) [1, 2, 3, 4, 0] dX0_bestUnits_27 (by decide) rfl rfl ?_
      refine j_iconst X (v := 1) (pc' := 30) dX0_bestUnits_29 (by decide) rfl ?_
      refine j_istore X (lv' := [(0, .ref h), (1, .int (nI i1)), (2, .int r_20), (3, .int 0), (4, .int 0), (5, .int 1)]) (pc' := 32) [1, 2, 3, 4, 5, 0] dX0_bestUnits_30 (by decide) rfl rfl ?_
      refine j_lv [0, 1, 2, 3, 4, 5] (lv' := [(0, .ref h), (1, .int (nI i1)), (2, .int r_20), (3, .int 0), (4, .int 0), (5, .int 1)]) rfl ?_
      exact hL32 _ _ _ _ _ _ (by first | omega | assumption | decide | (subst_vars; first | assumption | omega)) (by first | omega | assumption | decide | (subst_vars; first | assumption | omega)) (by first | omega | assumption | decide | (subst_vars; first | assumption | omega))
    · refine j_iconst X (v := 0) (pc' := 17) dX0_bestUnits_16 (by decide) rfl ?_
      exact j_iretP X rfl rfl dX0_bestUnits_17
theorem c_X0_bestUnits (l : Launch) (D : va_G) (cI cH cO : ClassId) (h : Nat) (ar : Nat → Nat) (C : Cst) (i1 : Nat) (hi1 : i1 < 8) : MI l yX0_bestUnits cX0_bestUnits 7 (some .int) 3 D (tyl cI cH cO) [.ref h, .int (nI i1)] ((wC cI h ar C)) (sX0_bestUnits C i1) ((wC cI h ar C)) := fun sz => j_start (fun below s => (KP below [.ref h, .int (nI i1)].toArray s D (tyl cI cH cO) ((wC cI h ar C)))) (sX0_bestUnits C i1) (by decide +kernel) rfl (Nat.le_of_ble_eq_true rfl) (fun below s hs _ => by subst hs; rfl) (fun p e s m below meth c hX9 X => b_X0_bestUnits h ar C i1 hi1 X)
set_option maxHeartbeats 4000000 in
set_option maxRecDepth 100000 in
theorem b_X0_roundChanges {p : Program} {l : Launch} {e : Env} {s : State} {m : MethodId} {args : Array Value} {below : List Frame} {meth : Method} {c : Code} {D : va_G} {cI cH cO : ClassId} {ws0 : va_W} (h : Nat) (ar : Nat → Nat) (C : Cst)  (X : CX p s m args meth c cX0_roundChanges 4 RX0 (some .boolean) D (tyl cI cH cO) (va_A ws0 s.heap.size)) : J p l e (rml 4) s m args below meth c 4 D (va_A ws0 s.heap.size) 0 0 (KI below args s D (tyl cI cH cO) ws0 (fun C9 => (wC cI h ar C9))) (sX0_roundChanges C) ((wC cI h ar C)) 0 [(0, .ref h)] [] := by
  unfold sX0_roundChanges
  refine j_ltl3 (fun L4 eL4 => ?_)
  have hL4 : ∀ (n4 : Nat) (C : Cst) (x1 : Int32) (i2 : Nat) (hi : i2 ≤ 8) (hfu : 9 ≤ i2 + n4) (hb : x1 = 0 ∨ x1 = 1), J p l e (rml 4) s m args below meth c 4 D (va_A ws0 s.heap.size) 0 0 (KI below args s D (tyl cI cH cO) ws0 (fun C9 => (wC cI h ar C9))) (L4 n4 C x1 i2) ((wC cI h ar C)) 4 [(0, .ref h), (1, .int x1), (2, .int (nI i2))] [] := by
    intro n4
    induction n4 with
    | zero =>
      intro C x1 i2 hi hfu hb
      exact absurd hfu (by omega)
    | succ n4 ih4 =>
      intro C x1 i2 hi hfu hb
      rw [eL4]
      refine j_ltv (fun K35 eK35 => ?_)
      have hK35 : ∀ (C : Cst) (i2 : Nat) (x3 : Int32) (t0 : Int32) (hi : i2 < 8) (hfu : 9 ≤ i2 + (n4 + 1)) (hb0 : t0 = 0 ∨ t0 = 1), J p l e (rml 4) s m args below meth c 4 D (va_A ws0 s.heap.size) 0 0 (KI below args s D (tyl cI cH cO) ws0 (fun C9 => (wC cI h ar C9))) (K35 C i2 x3 t0) ((wC cI h ar C)) 35 [(0, .ref h), (2, .int (nI i2)), (3, .int x3)] [.int t0] := by
        intro C i2 x3 t0 hi hfu hb0
        rw [eK35]
        refine j_istore_n X (lv' := [(0, .ref h), (1, .int t0), (2, .int (nI i2)), (3, .int x3)]) (pc' := 36) [1, 0, 2, 3] dX0_roundChanges_35 rfl (by decide) rfl rfl ?_
        refine j_aload_n X (pc' := 37) 0 dX0_roundChanges_36 rfl rfl rfl ?_
        refine j_get X inX0 rfl (pc' := 40) 0 2 q_fl_X0_18 (by decide) rfl rfl dX0_roundChanges_37 rfl ?_
        refine j_iload_n X (pc' := 41) 2 dX0_roundChanges_40 rfl rfl rfl ?_
        refine j_iload_n X (pc' := 42) 3 dX0_roundChanges_41 rfl rfl rfl ?_
        refine j_iastN X (i := i2) (pc' := 43) (S := up C 2 i2 x3) (fun S_42 => (wC cI h ar S_42)) 3 rfl rfl (by omega) (by decide) dX0_roundChanges_42 rfl (fun S_42 eS_42 => ?_)
        refine j_iinc X (v := (nI (i2 + 1))) (lv' := [(0, .ref h), (1, .int t0), (2, .int (nI (i2 + 1))), (3, .int x3)]) (q := 2) (pc' := 46) [1, 2, 0, 3] dX0_roundChanges_43 rfl (nI_1 i2) (by decide) rfl rfl ?_
        refine j_goto X (pc' := 4) dX0_roundChanges_46 (by decide) ?_
        refine j_lv [0, 1, 2] (lv' := [(0, .ref h), (1, .int t0), (2, .int (nI (i2 + 1)))]) rfl ?_
        exact ih4 _ _ _ (by first | omega | assumption | decide | (subst_vars; first | assumption | omega)) (by first | omega | assumption | decide | (subst_vars; first | assumption | omega)) (by first | omega | assumption | decide | (subst_vars; first | assumption | omega))
      refine j_ltv (fun K30 eK30 => ?_)
      have hK30 : ∀ (C : Cst) (i2 : Nat) (x3 : Int32) (hi : i2 < 8) (hfu : 9 ≤ i2 + (n4 + 1)), J p l e (rml 4) s m args below meth c 4 D (va_A ws0 s.heap.size) 0 0 (KI below args s D (tyl cI cH cO) ws0 (fun C9 => (wC cI h ar C9))) (K30 C i2 x3) ((wC cI h ar C)) 30 [(0, .ref h), (2, .int (nI i2)), (3, .int x3)] [] := by
        intro C i2 x3 hi hfu
        rw [eK30]
        refine j_iconst X (v := 1) (pc' := 31) dX0_roundChanges_30 (by decide) rfl ?_
        refine j_goto X (pc' := 35) dX0_roundChanges_31 (by decide) ?_
        refine j_lv [0, 1, 2] (lv' := [(0, .ref h), (2, .int (nI i2)), (3, .int x3)]) rfl ?_
        exact hK35 _ _ _ _ (by first | omega | assumption | decide | (subst_vars; first | assumption | omega)) (by first | omega | assumption | decide | (subst_vars; first | assumption | omega)) (by first | omega | assumption | decide | (subst_vars; first | assumption | omega))
      refine j_iload_n X (pc' := 5) 2 dX0_roundChanges_4 rfl rfl rfl ?_
      refine j_bipush X (v := 8) (pc' := 7) dX0_roundChanges_5 (by decide) rfl ?_
      refine j_icmp_ge X (tgt := 49) (pc' := 10) dX0_roundChanges_7 (by decide) rfl (fun c_7 => ?_) (fun c_7 => ?_)
      · have f_7 : 8 ≤ i2 := (nI_leI (a := 8) (b := i2) (by omega) (by omega)).mp c_7
        refine j_iload_n X (pc' := 50) 1 dX0_roundChanges_49 rfl rfl rfl ?_
        exact j_zretI X (by rcases hb with rfl | rfl <;> rfl) rfl rfl dX0_roundChanges_50
      · have f_7 : ¬ (8 ≤ i2) := fun h => c_7 ((nI_leI (a := 8) (b := i2) (by omega) (by omega)).mpr h)
        refine j_aload_n X (pc' := 11) 0 dX0_roundChanges_10 rfl rfl rfl ?_
        refine j_iload_n X (pc' := 12) 2 dX0_roundChanges_11 rfl rfl rfl ?_
        refine j_callVi X (pc' := 15) (As := [.int (nI i2)]) (rest := []) (c_X0_bestUnits l D cI cH cO h ar C i2 (by first | omega | assumption | decide | (subst_vars; first | assumption | omega))) wv_X0_160 ⟨0, 0, _, _, rfl, rfl, rfl⟩ ⟨by decide, by decide, by decide, by decide⟩ rfl rfl (Nat.le_of_ble_eq_true rfl) dX0_roundChanges_12 rfl ?_
        refine j_topL (fun r_12 er_12 => ?_)
        refine j_istore_n X (lv' := [(0, .ref h), (1, .int x1), (2, .int (nI i2)), (3, .int r_12)]) (pc' := 16) [1, 2, 3, 0] dX0_roundChanges_15 rfl (by decide) rfl rfl ?_
        refine j_iload_n X (pc' := 17) 1 dX0_roundChanges_16 rfl rfl rfl ?_
        refine j_if_ne X (tgt := 30) (pc' := 20) dX0_roundChanges_17 (by decide) rfl (fun c_17 => ?_) (fun c_17 => ?_)
        · refine j_lv [0, 2, 3] (lv' := [(0, .ref h), (2, .int (nI i2)), (3, .int r_12)]) rfl ?_
          exact hK30 _ _ _ (by first | omega | assumption | decide | (subst_vars; first | assumption | omega)) (by first | omega | assumption | decide | (subst_vars; first | assumption | omega))
        · refine j_iload_n X (pc' := 21) 3 dX0_roundChanges_20 rfl rfl rfl ?_
          refine j_aload_n X (pc' := 22) 0 dX0_roundChanges_21 rfl rfl rfl ?_
          refine j_get X inX0 rfl (pc' := 25) 0 2 q_fl_X0_18 (by decide) rfl rfl dX0_roundChanges_22 rfl ?_
          refine j_iload_n X (pc' := 26) 2 dX0_roundChanges_25 rfl rfl rfl ?_
          refine j_ialdN X (i := i2) (pc' := 27) 3 rfl (by omega) (by decide) dX0_roundChanges_26 rfl ?_
          refine j_icmp_eq X (tgt := 34) (pc' := 30) dX0_roundChanges_27 (by decide) rfl (fun c_27 => ?_) (fun c_27 => ?_)
          · refine j_iconst X (v := 0) (pc' := 35) dX0_roundChanges_34 (by decide) rfl ?_
            refine j_lv [0, 2, 3] (lv' := [(0, .ref h), (2, .int (nI i2)), (3, .int r_12)]) rfl ?_
            exact hK35 _ _ _ _ (by first | omega | assumption | decide | (subst_vars; first | assumption | omega)) (by first | omega | assumption | decide | (subst_vars; first | assumption | omega)) (by first | omega | assumption | decide | (subst_vars; first | assumption | omega))
          · refine j_lv [0, 2, 3] (lv' := [(0, .ref h), (2, .int (nI i2)), (3, .int r_12)]) rfl ?_
            exact hK30 _ _ _ (by first | omega | assumption | decide | (subst_vars; first | assumption | omega)) (by first | omega | assumption | decide | (subst_vars; first | assumption | omega))
  refine j_iconst X (v := 0) (pc' := 1) dX0_roundChanges_0 (by decide) rfl ?_
  refine j_istore_n X (lv' := [(0, .ref h), (1, .int 0)]) (pc' := 2) [1, 0] dX0_roundChanges_1 rfl (by decide) rfl rfl ?_
  refine j_iconst X (v := 0) (pc' := 3) dX0_roundChanges_2 (by decide) rfl ?_
  refine j_istore_n X (lv' := [(0, .ref h), (1, .int 0), (2, .int 0)]) (pc' := 4) [1, 2, 0] dX0_roundChanges_3 rfl (by decide) rfl rfl ?_
  refine j_lv [0, 1, 2] (lv' := [(0, .ref h), (1, .int 0), (2, .int 0)]) rfl ?_
  exact hL4 _ _ _ _ (by first | omega | assumption | decide | (subst_vars; first | assumption | omega)) (by first | omega | assumption | decide | (subst_vars; first | assumption | omega)) (by first | omega | assumption | decide | (subst_vars; first | assumption | omega))
theorem c_X0_roundChanges (l : Launch) (D : va_G) (cI cH cO : ClassId) (h : Nat) (ar : Nat → Nat) (C : Cst)  : MI l yX0_roundChanges cX0_roundChanges 4 (some .boolean) 4 D (tyl cI cH cO) [.ref h] ((wC cI h ar C)) (sX0_roundChanges C).1 ((wC cI h ar ((sX0_roundChanges C).2))) := fun sz => j_start (fun below s => (KI below [.ref h].toArray s D (tyl cI cH cO) ((wC cI h ar C)) (fun C9 => (wC cI h ar C9)))) (sX0_roundChanges C) (by decide +kernel) rfl (Nat.le_of_ble_eq_true rfl) (fun below s hs _ => by subst hs; rfl) (fun p e s m below meth c hX9 X => b_X0_roundChanges h ar C  X)
set_option maxHeartbeats 4000000 in
set_option maxRecDepth 100000 in
theorem b_X0_calmDown {p : Program} {l : Launch} {e : Env} {s : State} {m : MethodId} {args : Array Value} {below : List Frame} {meth : Method} {c : Code} {D : va_G} {cI cH cO : ClassId} {ws0 : va_W} (h : Nat) (ar : Nat → Nat) (C : Cst)  (X : CX p s m args meth c cX0_calmDown 2 RX0 (some .int) D (tyl cI cH cO) (va_A ws0 s.heap.size)) : J p l e (rml 5) s m args below meth c 2 D (va_A ws0 s.heap.size) 0 0 (KI below args s D (tyl cI cH cO) ws0 (fun C9 => (wC cI h ar C9))) (sX0_calmDown C) ((wC cI h ar C)) 0 [(0, .ref h)] [] := by
  unfold sX0_calmDown
  refine j_ltl2 (fun L2 eL2 => ?_)
  have hL2 : ∀ (n2 : Nat) (C : Cst) (i1 : Nat) (hi : i1 ≤ 41) (hfu : 42 ≤ i1 + n2), J p l e (rml 5) s m args below meth c 2 D (va_A ws0 s.heap.size) 0 0 (KI below args s D (tyl cI cH cO) ws0 (fun C9 => (wC cI h ar C9))) (L2 n2 C i1) ((wC cI h ar C)) 2 [(0, .ref h), (1, .int (nI i1))] [] := by
    intro n2
    induction n2 with
    | zero =>
      intro C i1 hi hfu
      exact absurd hfu (by omega)
    | succ n2 ih2 =>
      intro C i1 hi hfu
      rw [eL2]
      refine j_iload_n X (pc' := 3) 1 dX0_calmDown_2 rfl rfl rfl ?_
      refine j_bipush X (v := 40) (pc' := 5) dX0_calmDown_3 (by decide) rfl ?_
      refine j_icmp_gt X (tgt := 23) (pc' := 8) dX0_calmDown_5 (by decide) rfl (fun c_5 => ?_) (fun c_5 => ?_)
      · have f_5 : 40 < i1 := (nI_ltI (a := 40) (b := i1) (by omega) (by omega)).mp c_5
        refine j_sipush X (v := (-10004)) (pc' := 26) dX0_calmDown_23 (by decide) rfl ?_
        exact j_iretI X rfl rfl dX0_calmDown_26
      · have f_5 : ¬ (40 < i1) := fun h => c_5 ((nI_ltI (a := 40) (b := i1) (by omega) (by omega)).mpr h)
        refine j_aload_n X (pc' := 9) 0 dX0_calmDown_8 rfl rfl rfl ?_
        refine j_callVi X (pc' := 12) (As := []) (rest := []) (c_X0_roundChanges l D cI cH cO h ar C ) wv_X0_156 ⟨0, 0, _, _, rfl, rfl, rfl⟩ ⟨by decide, by decide, by decide, by decide⟩ rfl rfl (Nat.le_of_ble_eq_true rfl) dX0_calmDown_9 rfl ?_
        refine j_rsL (q := (sX0_roundChanges C)) (fun S_9 => (wC cI h ar S_9)) (fun r_9 S_9 er_9 => ?_)
        refine j_if_ne X (tgt := 17) (pc' := 15) dX0_calmDown_12 (by decide) rfl (fun c_12 => ?_) (fun c_12 => ?_)
        · refine j_iinc X (v := (nI (i1 + 1))) (lv' := [(0, .ref h), (1, .int (nI (i1 + 1)))]) (q := 1) (pc' := 20) [1, 0] dX0_calmDown_17 rfl (nI_1 i1) (by decide) rfl rfl ?_
          refine j_goto X (pc' := 2) dX0_calmDown_20 (by decide) ?_
          refine j_lv [0, 1] (lv' := [(0, .ref h), (1, .int (nI (i1 + 1)))]) rfl ?_
          exact ih2 _ _ (by first | omega | assumption | decide | (subst_vars; first | assumption | omega)) (by first | omega | assumption | decide | (subst_vars; first | assumption | omega))
        · refine j_iload_n X (pc' := 16) 1 dX0_calmDown_15 rfl rfl rfl ?_
          exact j_iretI X rfl rfl dX0_calmDown_16
  refine j_iconst X (v := 1) (pc' := 1) dX0_calmDown_0 (by decide) rfl ?_
  refine j_istore_n X (lv' := [(0, .ref h), (1, .int 1)]) (pc' := 2) [1, 0] dX0_calmDown_1 rfl (by decide) rfl rfl ?_
  refine j_lv [0, 1] (lv' := [(0, .ref h), (1, .int 1)]) rfl ?_
  exact hL2 _ _ _ (by first | omega | assumption | decide | (subst_vars; first | assumption | omega)) (by first | omega | assumption | decide | (subst_vars; first | assumption | omega))
theorem c_X0_calmDown (l : Launch) (D : va_G) (cI cH cO : ClassId) (h : Nat) (ar : Nat → Nat) (C : Cst)  : MI l yX0_calmDown cX0_calmDown 2 (some .int) 5 D (tyl cI cH cO) [.ref h] ((wC cI h ar C)) (sX0_calmDown C).1 ((wC cI h ar ((sX0_calmDown C).2))) := fun sz => j_start (fun below s => (KI below [.ref h].toArray s D (tyl cI cH cO) ((wC cI h ar C)) (fun C9 => (wC cI h ar C9)))) (sX0_calmDown C) (by decide +kernel) rfl (Nat.le_of_ble_eq_true rfl) (fun below s hs _ => by subst hs; rfl) (fun p e s m below meth c hX9 X => b_X0_calmDown h ar C  X)
set_option maxHeartbeats 4000000 in
set_option maxRecDepth 100000 in
theorem b_X0_worthiestWithRoom {p : Program} {l : Launch} {e : Env} {s : State} {m : MethodId} {args : Array Value} {below : List Frame} {meth : Method} {c : Code} {D : va_G} {cI cH cO : ClassId} (h : Nat) (ar : Nat → Nat) (C : Cst)  (X : CX p s m args meth c cX0_worthiestWithRoom 4 RX0 (some .int) D (tyl cI cH cO) (va_A ((wC cI h ar C)) s.heap.size)) : J p l e (rml 1) s m args below meth c 4 D (va_A ((wC cI h ar C)) s.heap.size) 0 0 (KP below args s D (tyl cI cH cO) ((wC cI h ar C))) (sX0_worthiestWithRoom C) ((wC cI h ar C)) 0 [(0, .ref h)] [] := by
  unfold sX0_worthiestWithRoom
  refine j_ltl3 (fun L6 eL6 => ?_)
  have hL6 : ∀ (n6 : Nat) (x1 : Int32) (x2 : Int32) (i3 : Nat) (hi : i3 ≤ 8) (hfu : 9 ≤ i3 + n6), J p l e (rml 1) s m args below meth c 4 D (va_A ((wC cI h ar C)) s.heap.size) 0 0 (KP below args s D (tyl cI cH cO) ((wC cI h ar C))) (L6 n6 x1 x2 i3) ((wC cI h ar C)) 6 [(0, .ref h), (1, .int x1), (2, .int x2), (3, .int (nI i3))] [] := by
    intro n6
    induction n6 with
    | zero =>
      intro x1 x2 i3 hi hfu
      exact absurd hfu (by omega)
    | succ n6 ih6 =>
      intro x1 x2 i3 hi hfu
      rw [eL6]
      refine j_ltv (fun K58 eK58 => ?_)
      have hK58 : ∀ (x1 : Int32) (x2 : Int32) (i3 : Nat) (hi : i3 < 8) (hfu : 9 ≤ i3 + (n6 + 1)), J p l e (rml 1) s m args below meth c 4 D (va_A ((wC cI h ar C)) s.heap.size) 0 0 (KP below args s D (tyl cI cH cO) ((wC cI h ar C))) (K58 x1 x2 i3) ((wC cI h ar C)) 58 [(0, .ref h), (1, .int x1), (2, .int x2), (3, .int (nI i3))] [] := by
        intro x1 x2 i3 hi hfu
        rw [eK58]
        refine j_iinc X (v := (nI (i3 + 1))) (lv' := [(0, .ref h), (1, .int x1), (2, .int x2), (3, .int (nI (i3 + 1)))]) (q := 3) (pc' := 61) [1, 2, 3, 0] dX0_worthiestWithRoom_58 rfl (nI_1 i3) (by decide) rfl rfl ?_
        refine j_goto X (pc' := 6) dX0_worthiestWithRoom_61 (by decide) ?_
        refine j_lv [0, 1, 2, 3] (lv' := [(0, .ref h), (1, .int x1), (2, .int x2), (3, .int (nI (i3 + 1)))]) rfl ?_
        exact ih6 _ _ _ (by first | omega | assumption | decide | (subst_vars; first | assumption | omega)) (by first | omega | assumption | decide | (subst_vars; first | assumption | omega))
      refine j_iload_n X (pc' := 7) 3 dX0_worthiestWithRoom_6 rfl rfl rfl ?_
      refine j_bipush X (v := 8) (pc' := 9) dX0_worthiestWithRoom_7 (by decide) rfl ?_
      refine j_icmp_ge X (tgt := 64) (pc' := 12) dX0_worthiestWithRoom_9 (by decide) rfl (fun c_9 => ?_) (fun c_9 => ?_)
      · have f_9 : 8 ≤ i3 := (nI_leI (a := 8) (b := i3) (by omega) (by omega)).mp c_9
        refine j_iload_n X (pc' := 65) 1 dX0_worthiestWithRoom_64 rfl rfl rfl ?_
        exact j_iretP X rfl rfl dX0_worthiestWithRoom_65
      · have f_9 : ¬ (8 ≤ i3) := fun h => c_9 ((nI_leI (a := 8) (b := i3) (by omega) (by omega)).mpr h)
        refine j_iload_n X (pc' := 13) 3 dX0_worthiestWithRoom_12 rfl rfl rfl ?_
        refine j_aload_n X (pc' := 14) 0 dX0_worthiestWithRoom_13 rfl rfl rfl ?_
        refine j_get X inX0 rfl (pc' := 17) 0 9 q_fl_X0_47 (by decide) rfl rfl dX0_worthiestWithRoom_14 rfl ?_
        refine j_icmp_ge X (tgt := 64) (pc' := 20) dX0_worthiestWithRoom_17 (by decide) rfl (fun c_17 => ?_) (fun c_17 => ?_)
        · refine j_iload_n X (pc' := 65) 1 dX0_worthiestWithRoom_64 rfl rfl rfl ?_
          exact j_iretP X rfl rfl dX0_worthiestWithRoom_65
        · refine j_aload_n X (pc' := 21) 0 dX0_worthiestWithRoom_20 rfl rfl rfl ?_
          refine j_get X inX0 rfl (pc' := 24) 0 2 q_fl_X0_18 (by decide) rfl rfl dX0_worthiestWithRoom_21 rfl ?_
          refine j_iload_n X (pc' := 25) 3 dX0_worthiestWithRoom_24 rfl rfl rfl ?_
          refine j_ialdN X (i := i3) (pc' := 26) 3 rfl (by omega) (by decide) dX0_worthiestWithRoom_25 rfl ?_
          refine j_bipush X (v := 20) (pc' := 28) dX0_worthiestWithRoom_26 (by decide) rfl ?_
          refine j_icmp_ge X (tgt := 58) (pc' := 31) dX0_worthiestWithRoom_28 (by decide) rfl (fun c_28 => ?_) (fun c_28 => ?_)
          · refine j_lv [0, 1, 2, 3] (lv' := [(0, .ref h), (1, .int x1), (2, .int x2), (3, .int (nI i3))]) rfl ?_
            exact hK58 _ _ _ (by first | omega | assumption | decide | (subst_vars; first | assumption | omega)) (by first | omega | assumption | decide | (subst_vars; first | assumption | omega))
          · refine j_aload_n X (pc' := 32) 0 dX0_worthiestWithRoom_31 rfl rfl rfl ?_
            refine j_iload_n X (pc' := 33) 3 dX0_worthiestWithRoom_32 rfl rfl rfl ?_
            refine j_callVi X (pc' := 36) (As := [.int (nI i3)]) (rest := []) (c_X0_isOut l D cI cH cO h ar C (nI i3) ) wv_X0_93 ⟨0, 0, _, _, rfl, rfl, rfl⟩ ⟨by decide, by decide, by decide, by decide⟩ rfl rfl (Nat.le_of_ble_eq_true rfl) dX0_worthiestWithRoom_33 rfl ?_
            refine j_topL (fun r_33 er_33 => ?_)
            refine j_if_ne X (tgt := 58) (pc' := 39) dX0_worthiestWithRoom_36 (by decide) rfl (fun c_36 => ?_) (fun c_36 => ?_)
            · refine j_lv [0, 1, 2, 3] (lv' := [(0, .ref h), (1, .int x1), (2, .int x2), (3, .int (nI i3))]) rfl ?_
              exact hK58 _ _ _ (by first | omega | assumption | decide | (subst_vars; first | assumption | omega)) (by first | omega | assumption | decide | (subst_vars; first | assumption | omega))
            · refine j_aload_n X (pc' := 40) 0 dX0_worthiestWithRoom_39 rfl rfl rfl ?_
              refine j_get X inX0 rfl (pc' := 43) 0 1 q_fl_X0_15 (by decide) rfl rfl dX0_worthiestWithRoom_40 rfl ?_
              refine j_iload_n X (pc' := 44) 3 dX0_worthiestWithRoom_43 rfl rfl rfl ?_
              refine j_ialdN X (i := i3) (pc' := 45) 2 rfl (by omega) (by decide) dX0_worthiestWithRoom_44 rfl ?_
              refine j_iload_n X (pc' := 46) 2 dX0_worthiestWithRoom_45 rfl rfl rfl ?_
              refine j_icmp_le X (tgt := 58) (pc' := 49) dX0_worthiestWithRoom_46 (by decide) rfl (fun c_46 => ?_) (fun c_46 => ?_)
              · refine j_lv [0, 1, 2, 3] (lv' := [(0, .ref h), (1, .int x1), (2, .int x2), (3, .int (nI i3))]) rfl ?_
                exact hK58 _ _ _ (by first | omega | assumption | decide | (subst_vars; first | assumption | omega)) (by first | omega | assumption | decide | (subst_vars; first | assumption | omega))
              · refine j_aload_n X (pc' := 50) 0 dX0_worthiestWithRoom_49 rfl rfl rfl ?_
                refine j_get X inX0 rfl (pc' := 53) 0 1 q_fl_X0_15 (by decide) rfl rfl dX0_worthiestWithRoom_50 rfl ?_
                refine j_iload_n X (pc' := 54) 3 dX0_worthiestWithRoom_53 rfl rfl rfl ?_
                refine j_ialdN X (i := i3) (pc' := 55) 2 rfl (by omega) (by decide) dX0_worthiestWithRoom_54 rfl ?_
                refine j_istore_nL X (fun v2_55 => [(0, .ref h), (1, .int x1), (2, .int v2_55), (3, .int (nI i3))]) [1, 2, 0, 3] (pc' := 56) dX0_worthiestWithRoom_55 rfl (by decide) (fun _ => rfl) rfl (fun v2_55 ev2_55 => ?_)
                refine j_iload_n X (pc' := 57) 3 dX0_worthiestWithRoom_56 rfl rfl rfl ?_
                refine j_istore_n X (lv' := [(0, .ref h), (1, .int (nI i3)), (2, .int v2_55), (3, .int (nI i3))]) (pc' := 58) [1, 0, 2, 3] dX0_worthiestWithRoom_57 rfl (by decide) rfl rfl ?_
                refine j_lv [0, 1, 2, 3] (lv' := [(0, .ref h), (1, .int (nI i3)), (2, .int v2_55), (3, .int (nI i3))]) rfl ?_
                exact hK58 _ _ _ (by first | omega | assumption | decide | (subst_vars; first | assumption | omega)) (by first | omega | assumption | decide | (subst_vars; first | assumption | omega))
  refine j_iconst X (v := (-1)) (pc' := 1) dX0_worthiestWithRoom_0 (by decide) rfl ?_
  refine j_istore_n X (lv' := [(0, .ref h), (1, .int (-1))]) (pc' := 2) [1, 0] dX0_worthiestWithRoom_1 rfl (by decide) rfl rfl ?_
  refine j_iconst X (v := (-1)) (pc' := 3) dX0_worthiestWithRoom_2 (by decide) rfl ?_
  refine j_istore_n X (lv' := [(0, .ref h), (1, .int (-1)), (2, .int (-1))]) (pc' := 4) [1, 2, 0] dX0_worthiestWithRoom_3 rfl (by decide) rfl rfl ?_
  refine j_iconst X (v := 0) (pc' := 5) dX0_worthiestWithRoom_4 (by decide) rfl ?_
  refine j_istore_n X (lv' := [(0, .ref h), (1, .int (-1)), (2, .int (-1)), (3, .int 0)]) (pc' := 6) [1, 2, 3, 0] dX0_worthiestWithRoom_5 rfl (by decide) rfl rfl ?_
  refine j_lv [0, 1, 2, 3] (lv' := [(0, .ref h), (1, .int (-1)), (2, .int (-1)), (3, .int 0)]) rfl ?_
  exact hL6 _ _ _ _ (by first | omega | assumption | decide | (subst_vars; first | assumption | omega)) (by first | omega | assumption | decide | (subst_vars; first | assumption | omega))
theorem c_X0_worthiestWithRoom (l : Launch) (D : va_G) (cI cH cO : ClassId) (h : Nat) (ar : Nat → Nat) (C : Cst)  : MI l yX0_worthiestWithRoom cX0_worthiestWithRoom 4 (some .int) 1 D (tyl cI cH cO) [.ref h] ((wC cI h ar C)) (sX0_worthiestWithRoom C) ((wC cI h ar C)) := fun sz => j_start (fun below s => (KP below [.ref h].toArray s D (tyl cI cH cO) ((wC cI h ar C)))) (sX0_worthiestWithRoom C) (by decide +kernel) rfl (Nat.le_of_ble_eq_true rfl) (fun below s hs _ => by subst hs; rfl) (fun p e s m below meth c hX9 X => b_X0_worthiestWithRoom h ar C  X)
set_option maxHeartbeats 4000000 in
set_option maxRecDepth 100000 in
theorem b_X0_useBestForAll {p : Program} {l : Launch} {e : Env} {s : State} {m : MethodId} {args : Array Value} {below : List Frame} {meth : Method} {c : Code} {D : va_G} {cI cH cO : ClassId} {ws0 : va_W} (h : Nat) (ar : Nat → Nat) (C : Cst)  (X : CX p s m args meth c cX0_useBestForAll 4 RX0 (some .int) D (tyl cI cH cO) (va_A ws0 s.heap.size)) : J p l e (rml 2) s m args below meth c 4 D (va_A ws0 s.heap.size) 0 0 (KI below args s D (tyl cI cH cO) ws0 (fun C9 => (wC cI h ar C9))) (sX0_useBestForAll C) ((wC cI h ar C)) 0 [(0, .ref h)] [] := by
  unfold sX0_useBestForAll
  refine j_ltv (fun K93 eK93 => ?_)
  have hK93 : ∀ (C : Cst) (x1 : Int32) , J p l e (rml 2) s m args below meth c 4 D (va_A ws0 s.heap.size) 0 0 (KI below args s D (tyl cI cH cO) ws0 (fun C9 => (wC cI h ar C9))) (K93 C x1) ((wC cI h ar C)) 93 [(0, .ref h), (1, .int x1)] [] := by
    intro C x1 
    rw [eK93]
    refine j_iload_n X (pc' := 94) 1 dX0_useBestForAll_93 rfl rfl rfl ?_
    refine j_aload_n X (pc' := 95) 0 dX0_useBestForAll_94 rfl rfl rfl ?_
    refine j_sipush X (v := 160) (pc' := 98) dX0_useBestForAll_95 (by decide) rfl ?_
    refine j_callVi X (pc' := 101) (As := [.int 160]) (rest := [.int x1]) (c_X0_damageOf l D cI cH cO h ar C 160 ) wv_X0_83 ⟨0, 0, _, _, rfl, rfl, rfl⟩ ⟨by decide, by decide, by decide, by decide⟩ rfl rfl (Nat.le_of_ble_eq_true rfl) dX0_useBestForAll_98 rfl ?_
    refine j_topL (fun r_98 er_98 => ?_)
    refine j_isub X (pc' := 102) dX0_useBestForAll_101 rfl ?_
    exact j_iretI X rfl rfl dX0_useBestForAll_102
  refine j_ltv (fun K60 eK60 => ?_)
  have hK60 : ∀ (C : Cst) (x1 : Int32) (x2 : Int32) , J p l e (rml 2) s m args below meth c 4 D (va_A ws0 s.heap.size) 0 0 (KI below args s D (tyl cI cH cO) ws0 (fun C9 => (wC cI h ar C9))) (K60 C x1 x2) ((wC cI h ar C)) 60 [(0, .ref h), (1, .int x1), (2, .int x2)] [] := by
    intro C x1 x2 
    rw [eK60]
    refine j_iload_n X (pc' := 61) 1 dX0_useBestForAll_60 rfl rfl rfl ?_
    refine j_aload_n X (pc' := 62) 0 dX0_useBestForAll_61 rfl rfl rfl ?_
    refine j_iload_n X (pc' := 63) 2 dX0_useBestForAll_62 rfl rfl rfl ?_
    refine j_callVi X (pc' := 66) (As := [.int x2]) (rest := [.int x1]) (c_X0_damageOf l D cI cH cO h ar C x2 ) wv_X0_83 ⟨0, 0, _, _, rfl, rfl, rfl⟩ ⟨by decide, by decide, by decide, by decide⟩ rfl rfl (Nat.le_of_ble_eq_true rfl) dX0_useBestForAll_63 rfl ?_
    refine j_topL (fun r_63 er_63 => ?_)
    refine j_isub X (pc' := 67) dX0_useBestForAll_66 rfl ?_
    exact j_iretI X rfl rfl dX0_useBestForAll_67
  refine j_ltl3 (fun L25 eL25 => ?_)
  have hL25 : ∀ (n25 : Nat) (C : Cst) (x1 : Int32) (i2 : Nat) (hi : i2 ≤ 160) (hfu : 161 ≤ i2 + n25), J p l e (rml 2) s m args below meth c 4 D (va_A ws0 s.heap.size) 0 0 (KI below args s D (tyl cI cH cO) ws0 (fun C9 => (wC cI h ar C9))) (L25 n25 C x1 i2) ((wC cI h ar C)) 25 [(0, .ref h), (1, .int x1), (2, .int (nI i2))] [] := by
    intro n25
    induction n25 with
    | zero =>
      intro C x1 i2 hi hfu
      exact absurd hfu (by omega)
    | succ n25 ih25 =>
      intro C x1 i2 hi hfu
      rw [eL25]
      refine j_iload_n X (pc' := 26) 2 dX0_useBestForAll_25 rfl rfl rfl ?_
      refine j_sipush X (v := 160) (pc' := 29) dX0_useBestForAll_26 (by decide) rfl ?_
      refine j_icmp_ge X (tgt := 93) (pc' := 32) dX0_useBestForAll_29 (by decide) rfl (fun c_29 => ?_) (fun c_29 => ?_)
      · have f_29 : 160 ≤ i2 := (nI_leI (a := 160) (b := i2) (by omega) (by omega)).mp c_29
        refine j_lv [0, 1] (lv' := [(0, .ref h), (1, .int x1)]) rfl ?_
        exact hK93 _ _ 
      · have f_29 : ¬ (160 ≤ i2) := fun h => c_29 ((nI_leI (a := 160) (b := i2) (by omega) (by omega)).mpr h)
        refine j_aload_n X (pc' := 33) 0 dX0_useBestForAll_32 rfl rfl rfl ?_
        refine j_callVi X (pc' := 36) (As := []) (rest := []) (c_X0_worthiestWithRoom l D cI cH cO h ar C ) wv_X0_163 ⟨0, 0, _, _, rfl, rfl, rfl⟩ ⟨by decide, by decide, by decide, by decide⟩ rfl rfl (Nat.le_of_ble_eq_true rfl) dX0_useBestForAll_33 rfl ?_
        refine j_topL (fun r_33 er_33 => ?_)
        refine j_istore_n X (lv' := [(0, .ref h), (1, .int x1), (2, .int (nI i2)), (3, .int r_33)]) (pc' := 37) [1, 2, 3, 0] dX0_useBestForAll_36 rfl (by decide) rfl rfl ?_
        refine j_aload_n X (pc' := 38) 0 dX0_useBestForAll_37 rfl rfl rfl ?_
        refine j_iload_n X (pc' := 39) 3 dX0_useBestForAll_38 rfl rfl rfl ?_
        refine j_callVi X (pc' := 42) (As := [.int r_33]) (rest := []) (c_X0_has l D cI cH cO h ar C r_33 ) wv_X0_86 ⟨0, 0, _, _, rfl, rfl, rfl⟩ ⟨by decide, by decide, by decide, by decide⟩ rfl rfl (Nat.le_of_ble_eq_true rfl) dX0_useBestForAll_39 rfl ?_
        refine j_topL (fun r_39 er_39 => ?_)
        refine j_if_eq X (tgt := 60) (pc' := 45) dX0_useBestForAll_42 (by decide) rfl (fun c_42 => ?_) (fun c_42 => ?_)
        · refine j_lv [0, 1, 2] (lv' := [(0, .ref h), (1, .int x1), (2, .int (nI i2))]) rfl ?_
          exact hK60 _ _ _ 
        · have hv3 := has_in (by rw [← er_39]; exact c_42)
          refine j_aload_n X (pc' := 46) 0 dX0_useBestForAll_45 rfl rfl rfl ?_
          refine j_get X inX0 rfl (pc' := 49) 0 1 q_fl_X0_15 (by decide) rfl rfl dX0_useBestForAll_46 rfl ?_
          refine j_iload_n X (pc' := 50) 3 dX0_useBestForAll_49 rfl rfl rfl ?_
          refine j_iald X (pc' := 51) 2 rfl hv3 dX0_useBestForAll_50 rfl ?_
          refine j_aload_n X (pc' := 52) 0 dX0_useBestForAll_51 rfl rfl rfl ?_
          refine j_iload_n X (pc' := 53) 2 dX0_useBestForAll_52 rfl rfl rfl ?_
          refine j_iconst X (v := 1) (pc' := 54) dX0_useBestForAll_53 (by decide) rfl ?_
          refine j_callVi X (pc' := 57) (As := [.int (nI i2), .int 1]) (rest := [.int (C 1 r_33.toNatClampNeg)]) (c_X0_damageAdded l D cI cH cO h ar C (nI i2) 1 ) wv_X0_79 ⟨0, 0, _, _, rfl, rfl, rfl⟩ ⟨by decide, by decide, by decide, by decide⟩ rfl rfl (Nat.le_of_ble_eq_true rfl) dX0_useBestForAll_54 rfl ?_
          refine j_topL (fun r_54 er_54 => ?_)
          refine j_icmp_gt X (tgt := 68) (pc' := 60) dX0_useBestForAll_57 (by decide) rfl (fun c_57 => ?_) (fun c_57 => ?_)
          · refine j_aload_n X (pc' := 69) 0 dX0_useBestForAll_68 rfl rfl rfl ?_
            refine j_get X inX0 rfl (pc' := 72) 0 2 q_fl_X0_18 (by decide) rfl rfl dX0_useBestForAll_69 rfl ?_
            refine j_iload_n X (pc' := 73) 3 dX0_useBestForAll_72 rfl rfl rfl ?_
            refine j_dup2 X (pc' := 74) dX0_useBestForAll_73 rfl rfl rfl ?_
            refine j_iald X (pc' := 75) 3 rfl hv3 dX0_useBestForAll_74 rfl ?_
            refine j_iconst X (v := 1) (pc' := 76) dX0_useBestForAll_75 (by decide) rfl ?_
            refine j_iadd X (pc' := 77) dX0_useBestForAll_76 rfl ?_
            refine j_iast X (pc' := 78) (S := up C 2 r_33.toNatClampNeg ((C 2 r_33.toNatClampNeg) + 1)) (fun S_77 => (wC cI h ar S_77)) 3 rfl rfl hv3 dX0_useBestForAll_77 rfl (fun S_77 eS_77 => ?_)
            refine j_iload_n X (pc' := 79) 1 dX0_useBestForAll_78 rfl rfl rfl ?_
            refine j_aload_n X (pc' := 80) 0 dX0_useBestForAll_79 rfl rfl rfl ?_
            refine j_get X inX0 rfl (pc' := 83) 0 1 q_fl_X0_15 (by decide) rfl rfl dX0_useBestForAll_80 rfl ?_
            refine j_iload_n X (pc' := 84) 3 dX0_useBestForAll_83 rfl rfl rfl ?_
            refine j_iald X (pc' := 85) 2 rfl hv3 dX0_useBestForAll_84 rfl ?_
            refine j_iadd X (pc' := 86) dX0_useBestForAll_85 rfl ?_
            refine j_istore_nL X (fun v1_86 => [(0, .ref h), (1, .int v1_86), (2, .int (nI i2)), (3, .int r_33)]) [1, 0, 2, 3] (pc' := 87) dX0_useBestForAll_86 rfl (by decide) (fun _ => rfl) rfl (fun v1_86 ev1_86 => ?_)
            refine j_iinc X (v := (nI (i2 + 1))) (lv' := [(0, .ref h), (1, .int v1_86), (2, .int (nI (i2 + 1))), (3, .int r_33)]) (q := 2) (pc' := 90) [1, 2, 0, 3] dX0_useBestForAll_87 rfl (nI_1 i2) (by decide) rfl rfl ?_
            refine j_goto X (pc' := 25) dX0_useBestForAll_90 (by decide) ?_
            refine j_lv [0, 1, 2] (lv' := [(0, .ref h), (1, .int v1_86), (2, .int (nI (i2 + 1)))]) rfl ?_
            exact ih25 _ _ _ (by first | omega | assumption | decide | (subst_vars; first | assumption | omega)) (by first | omega | assumption | decide | (subst_vars; first | assumption | omega))
          · refine j_lv [0, 1, 2] (lv' := [(0, .ref h), (1, .int x1), (2, .int (nI i2))]) rfl ?_
            exact hK60 _ _ _ 
  refine j_ltv (fun K21 eK21 => ?_)
  have hK21 : ∀ (C : Cst) , J p l e (rml 2) s m args below meth c 4 D (va_A ws0 s.heap.size) 0 0 (KI below args s D (tyl cI cH cO) ws0 (fun C9 => (wC cI h ar C9))) (K21 C) ((wC cI h ar C)) 21 [(0, .ref h)] [] := by
    intro C 
    rw [eK21]
    refine j_iconst X (v := 0) (pc' := 22) dX0_useBestForAll_21 (by decide) rfl ?_
    refine j_istore_n X (lv' := [(0, .ref h), (1, .int 0)]) (pc' := 23) [1, 0] dX0_useBestForAll_22 rfl (by decide) rfl rfl ?_
    refine j_iconst X (v := 0) (pc' := 24) dX0_useBestForAll_23 (by decide) rfl ?_
    refine j_istore_n X (lv' := [(0, .ref h), (1, .int 0), (2, .int 0)]) (pc' := 25) [1, 2, 0] dX0_useBestForAll_24 rfl (by decide) rfl rfl ?_
    refine j_lv [0, 1, 2] (lv' := [(0, .ref h), (1, .int 0), (2, .int 0)]) rfl ?_
    exact hL25 _ _ _ _ (by first | omega | assumption | decide | (subst_vars; first | assumption | omega)) (by first | omega | assumption | decide | (subst_vars; first | assumption | omega))
  refine j_ltl2 (fun L2 eL2 => ?_)
  have hL2 : ∀ (n2 : Nat) (C : Cst) (i1 : Nat) (hi : i1 ≤ 8) (hfu : 9 ≤ i1 + n2), J p l e (rml 2) s m args below meth c 4 D (va_A ws0 s.heap.size) 0 0 (KI below args s D (tyl cI cH cO) ws0 (fun C9 => (wC cI h ar C9))) (L2 n2 C i1) ((wC cI h ar C)) 2 [(0, .ref h), (1, .int (nI i1))] [] := by
    intro n2
    induction n2 with
    | zero =>
      intro C i1 hi hfu
      exact absurd hfu (by omega)
    | succ n2 ih2 =>
      intro C i1 hi hfu
      rw [eL2]
      refine j_iload_n X (pc' := 3) 1 dX0_useBestForAll_2 rfl rfl rfl ?_
      refine j_bipush X (v := 8) (pc' := 5) dX0_useBestForAll_3 (by decide) rfl ?_
      refine j_icmp_ge X (tgt := 21) (pc' := 8) dX0_useBestForAll_5 (by decide) rfl (fun c_5 => ?_) (fun c_5 => ?_)
      · have f_5 : 8 ≤ i1 := (nI_leI (a := 8) (b := i1) (by omega) (by omega)).mp c_5
        refine j_lv [0] (lv' := [(0, .ref h)]) rfl ?_
        exact hK21 _ 
      · have f_5 : ¬ (8 ≤ i1) := fun h => c_5 ((nI_leI (a := 8) (b := i1) (by omega) (by omega)).mpr h)
        refine j_aload_n X (pc' := 9) 0 dX0_useBestForAll_8 rfl rfl rfl ?_
        refine j_get X inX0 rfl (pc' := 12) 0 2 q_fl_X0_18 (by decide) rfl rfl dX0_useBestForAll_9 rfl ?_
        refine j_iload_n X (pc' := 13) 1 dX0_useBestForAll_12 rfl rfl rfl ?_
        refine j_iconst X (v := 0) (pc' := 14) dX0_useBestForAll_13 (by decide) rfl ?_
        refine j_iastN X (i := i1) (pc' := 15) (S := up C 2 i1 0) (fun S_14 => (wC cI h ar S_14)) 3 rfl rfl (by omega) (by decide) dX0_useBestForAll_14 rfl (fun S_14 eS_14 => ?_)
        refine j_iinc X (v := (nI (i1 + 1))) (lv' := [(0, .ref h), (1, .int (nI (i1 + 1)))]) (q := 1) (pc' := 18) [1, 0] dX0_useBestForAll_15 rfl (nI_1 i1) (by decide) rfl rfl ?_
        refine j_goto X (pc' := 2) dX0_useBestForAll_18 (by decide) ?_
        refine j_lv [0, 1] (lv' := [(0, .ref h), (1, .int (nI (i1 + 1)))]) rfl ?_
        exact ih2 _ _ (by first | omega | assumption | decide | (subst_vars; first | assumption | omega)) (by first | omega | assumption | decide | (subst_vars; first | assumption | omega))
  refine j_iconst X (v := 0) (pc' := 1) dX0_useBestForAll_0 (by decide) rfl ?_
  refine j_istore_n X (lv' := [(0, .ref h), (1, .int 0)]) (pc' := 2) [1, 0] dX0_useBestForAll_1 rfl (by decide) rfl rfl ?_
  refine j_lv [0, 1] (lv' := [(0, .ref h), (1, .int 0)]) rfl ?_
  exact hL2 _ _ _ (by first | omega | assumption | decide | (subst_vars; first | assumption | omega)) (by first | omega | assumption | decide | (subst_vars; first | assumption | omega))
theorem c_X0_useBestForAll (l : Launch) (D : va_G) (cI cH cO : ClassId) (h : Nat) (ar : Nat → Nat) (C : Cst)  : MI l yX0_useBestForAll cX0_useBestForAll 4 (some .int) 2 D (tyl cI cH cO) [.ref h] ((wC cI h ar C)) (sX0_useBestForAll C).1 ((wC cI h ar ((sX0_useBestForAll C).2))) := fun sz => j_start (fun below s => (KI below [.ref h].toArray s D (tyl cI cH cO) ((wC cI h ar C)) (fun C9 => (wC cI h ar C9)))) (sX0_useBestForAll C) (by decide +kernel) rfl (Nat.le_of_ble_eq_true rfl) (fun below s hs _ => by subst hs; rfl) (fun p e s m below meth c hX9 X => b_X0_useBestForAll h ar C  X)
set_option maxHeartbeats 4000000 in
set_option maxRecDepth 100000 in
theorem b_X0_numberOfMember {p : Program} {l : Launch} {e : Env} {s : State} {m : MethodId} {args : Array Value} {below : List Frame} {meth : Method} {c : Code} {D : va_G} {cI cH cO : ClassId} (h : Nat) (ar : Nat → Nat) (C : Cst) (x1 : Int32) (x2 : Int32)  (X : CX p s m args meth c cX0_numberOfMember 3 RX0 (some .int) D (tyl cI cH cO) (va_A ((wC cI h ar C)) s.heap.size)) : J p l e (rml 3) s m args below meth c 3 D (va_A ((wC cI h ar C)) s.heap.size) 0 0 (KP below args s D (tyl cI cH cO) ((wC cI h ar C))) (sX0_numberOfMember C x1 x2) ((wC cI h ar C)) 0 [(0, .ref h), (1, .int x1), (2, .int x2)] [] := by
  unfold sX0_numberOfMember
  refine j_ltv (fun K12 eK12 => ?_)
  have hK12 : ∀ (i1 : Nat) (x2 : Int32) (hi1 : i1 < 8), J p l e (rml 3) s m args below meth c 3 D (va_A ((wC cI h ar C)) s.heap.size) 0 0 (KP below args s D (tyl cI cH cO) ((wC cI h ar C))) (K12 i1 x2) ((wC cI h ar C)) 12 [(0, .ref h), (1, .int (nI i1)), (2, .int x2)] [] := by
    intro i1 x2 hi1
    rw [eK12]
    refine j_iload_n X (pc' := 13) 2 dX0_numberOfMember_12 rfl rfl rfl ?_
    refine j_ite (P9 := x2 = 0) (fun c_13_0 => ?_) (fun c_13_0 => ?_)
    · refine j_tsw X (tgt := 68) dX0_numberOfMember_13 (by rw [c_13_0]; decide) (by rw [c_13_0]; decide) (off := 55) (by rw [c_13_0]; decide) (by decide) ?_
      refine j_aload_n X (pc' := 69) 0 dX0_numberOfMember_68 rfl rfl rfl ?_
      refine j_get X inX0 rfl (pc' := 72) 0 1 q_fl_X0_15 (by decide) rfl rfl dX0_numberOfMember_69 rfl ?_
      refine j_iload_n X (pc' := 73) 1 dX0_numberOfMember_72 rfl rfl rfl ?_
      refine j_ialdN X (i := i1) (pc' := 74) 2 rfl (by omega) (by decide) dX0_numberOfMember_73 rfl ?_
      exact j_iretP X rfl rfl dX0_numberOfMember_74
    refine j_ite (P9 := x2 = 1) (fun c_13_1 => ?_) (fun c_13_1 => ?_)
    · refine j_tsw X (tgt := 75) dX0_numberOfMember_13 (by rw [c_13_1]; decide) (by rw [c_13_1]; decide) (off := 62) (by rw [c_13_1]; decide) (by decide) ?_
      refine j_aload_n X (pc' := 76) 0 dX0_numberOfMember_75 rfl rfl rfl ?_
      refine j_get X inX0 rfl (pc' := 79) 0 2 q_fl_X0_18 (by decide) rfl rfl dX0_numberOfMember_76 rfl ?_
      refine j_iload_n X (pc' := 80) 1 dX0_numberOfMember_79 rfl rfl rfl ?_
      refine j_ialdN X (i := i1) (pc' := 81) 3 rfl (by omega) (by decide) dX0_numberOfMember_80 rfl ?_
      exact j_iretP X rfl rfl dX0_numberOfMember_81
    refine j_ite (P9 := x2 = 2) (fun c_13_2 => ?_) (fun c_13_2 => ?_)
    · refine j_tsw X (tgt := 82) dX0_numberOfMember_13 (by rw [c_13_2]; decide) (by rw [c_13_2]; decide) (off := 69) (by rw [c_13_2]; decide) (by decide) ?_
      refine j_aload_n X (pc' := 83) 0 dX0_numberOfMember_82 rfl rfl rfl ?_
      refine j_iload_n X (pc' := 84) 1 dX0_numberOfMember_83 rfl rfl rfl ?_
      refine j_callVi X (pc' := 87) (As := [.int (nI i1)]) (rest := []) (c_X0_chargeOf l D cI cH cO h ar C i1 (by first | omega | assumption | decide | (subst_vars; first | assumption | omega))) wv_X0_96 ⟨0, 0, _, _, rfl, rfl, rfl⟩ ⟨by decide, by decide, by decide, by decide⟩ rfl rfl (Nat.le_of_ble_eq_true rfl) dX0_numberOfMember_84 rfl ?_
      refine j_topL (fun r_84 er_84 => ?_)
      exact j_iretP X rfl rfl dX0_numberOfMember_87
    refine j_ite (P9 := x2 = 3) (fun c_13_3 => ?_) (fun c_13_3 => ?_)
    · refine j_tsw X (tgt := 88) dX0_numberOfMember_13 (by rw [c_13_3]; decide) (by rw [c_13_3]; decide) (off := 75) (by rw [c_13_3]; decide) (by decide) ?_
      refine j_aload_n X (pc' := 89) 0 dX0_numberOfMember_88 rfl rfl rfl ?_
      refine j_get X inX0 rfl (pc' := 92) 0 3 q_fl_X0_21 (by decide) rfl rfl dX0_numberOfMember_89 rfl ?_
      refine j_iload_n X (pc' := 93) 1 dX0_numberOfMember_92 rfl rfl rfl ?_
      refine j_ialdN X (i := i1) (pc' := 94) 4 rfl (by omega) (by decide) dX0_numberOfMember_93 rfl ?_
      exact j_iretP X rfl rfl dX0_numberOfMember_94
    refine j_ite (P9 := x2 = 4) (fun c_13_4 => ?_) (fun c_13_4 => ?_)
    · refine j_tsw X (tgt := 95) dX0_numberOfMember_13 (by rw [c_13_4]; decide) (by rw [c_13_4]; decide) (off := 82) (by rw [c_13_4]; decide) (by decide) ?_
      refine j_aload_n X (pc' := 96) 0 dX0_numberOfMember_95 rfl rfl rfl ?_
      refine j_get X inX0 rfl (pc' := 99) 0 4 q_fl_X0_24 (by decide) rfl rfl dX0_numberOfMember_96 rfl ?_
      refine j_iload_n X (pc' := 100) 1 dX0_numberOfMember_99 rfl rfl rfl ?_
      refine j_ialdN X (i := i1) (pc' := 101) 5 rfl (by omega) (by decide) dX0_numberOfMember_100 rfl ?_
      exact j_iretP X rfl rfl dX0_numberOfMember_101
    refine j_ite (P9 := x2 = 5) (fun c_13_5 => ?_) (fun c_13_5 => ?_)
    · refine j_tsw X (tgt := 102) dX0_numberOfMember_13 (by rw [c_13_5]; decide) (by rw [c_13_5]; decide) (off := 89) (by rw [c_13_5]; decide) (by decide) ?_
      refine j_aload_n X (pc' := 103) 0 dX0_numberOfMember_102 rfl rfl rfl ?_
      refine j_get X inX0 rfl (pc' := 106) 0 5 q_fl_X0_27 (by decide) rfl rfl dX0_numberOfMember_103 rfl ?_
      refine j_iload_n X (pc' := 107) 1 dX0_numberOfMember_106 rfl rfl rfl ?_
      refine j_ialdN X (i := i1) (pc' := 108) 6 rfl (by omega) (by decide) dX0_numberOfMember_107 rfl ?_
      exact j_iretP X rfl rfl dX0_numberOfMember_108
    refine j_ite (P9 := x2 = 6) (fun c_13_6 => ?_) (fun c_13_6 => ?_)
    · refine j_tsw X (tgt := 109) dX0_numberOfMember_13 (by rw [c_13_6]; decide) (by rw [c_13_6]; decide) (off := 96) (by rw [c_13_6]; decide) (by decide) ?_
      refine j_aload_n X (pc' := 110) 0 dX0_numberOfMember_109 rfl rfl rfl ?_
      refine j_get X inX0 rfl (pc' := 113) 0 6 q_fl_X0_30 (by decide) rfl rfl dX0_numberOfMember_110 rfl ?_
      refine j_iload_n X (pc' := 114) 1 dX0_numberOfMember_113 rfl rfl rfl ?_
      refine j_ialdN X (i := i1) (pc' := 115) 7 rfl (by omega) (by decide) dX0_numberOfMember_114 rfl ?_
      exact j_iretP X rfl rfl dX0_numberOfMember_115
    refine j_ite (P9 := x2 = 7) (fun c_13_7 => ?_) (fun c_13_7 => ?_)
    · refine j_tsw X (tgt := 116) dX0_numberOfMember_13 (by rw [c_13_7]; decide) (by rw [c_13_7]; decide) (off := 103) (by rw [c_13_7]; decide) (by decide) ?_
      refine j_aload_n X (pc' := 117) 0 dX0_numberOfMember_116 rfl rfl rfl ?_
      refine j_iload_n X (pc' := 118) 1 dX0_numberOfMember_117 rfl rfl rfl ?_
      refine j_callVi X (pc' := 121) (As := [.int (nI i1)]) (rest := []) (c_X0_isOut l D cI cH cO h ar C (nI i1) ) wv_X0_93 ⟨0, 0, _, _, rfl, rfl, rfl⟩ ⟨by decide, by decide, by decide, by decide⟩ rfl rfl (Nat.le_of_ble_eq_true rfl) dX0_numberOfMember_118 rfl ?_
      refine j_topL (fun r_118 er_118 => ?_)
      refine j_if_eq X (tgt := 128) (pc' := 124) dX0_numberOfMember_121 (by decide) rfl (fun c_121 => ?_) (fun c_121 => ?_)
      · refine j_iconst X (v := 0) (pc' := 129) dX0_numberOfMember_128 (by decide) rfl ?_
        exact j_iretP X rfl rfl dX0_numberOfMember_129
      · refine j_iconst X (v := 1) (pc' := 125) dX0_numberOfMember_124 (by decide) rfl ?_
        refine j_goto X (pc' := 129) dX0_numberOfMember_125 (by decide) ?_
        exact j_iretP X rfl rfl dX0_numberOfMember_129
    refine j_ite (P9 := x2 = 8) (fun c_13_8 => ?_) (fun c_13_8 => ?_)
    · refine j_tsw X (tgt := 130) dX0_numberOfMember_13 (by rw [c_13_8]; decide) (by rw [c_13_8]; decide) (off := 117) (by rw [c_13_8]; decide) (by decide) ?_
      refine j_aload_n X (pc' := 131) 0 dX0_numberOfMember_130 rfl rfl rfl ?_
      refine j_get X inX0 rfl (pc' := 134) 0 7 q_fl_X0_33 (by decide) rfl rfl dX0_numberOfMember_131 rfl ?_
      refine j_iload_n X (pc' := 135) 1 dX0_numberOfMember_134 rfl rfl rfl ?_
      refine j_ialdN X (i := i1) (pc' := 136) 8 rfl (by omega) (by decide) dX0_numberOfMember_135 rfl ?_
      exact j_iretP X rfl rfl dX0_numberOfMember_136
    refine j_ite (P9 := x2 = 9) (fun c_13_9 => ?_) (fun c_13_9 => ?_)
    · refine j_tsw X (tgt := 137) dX0_numberOfMember_13 (by rw [c_13_9]; decide) (by rw [c_13_9]; decide) (off := 124) (by rw [c_13_9]; decide) (by decide) ?_
      refine j_aload_n X (pc' := 138) 0 dX0_numberOfMember_137 rfl rfl rfl ?_
      refine j_iload_n X (pc' := 139) 1 dX0_numberOfMember_138 rfl rfl rfl ?_
      refine j_callVi X (pc' := 142) (As := [.int (nI i1)]) (rest := []) (c_X0_placeOf l D cI cH cO h ar C (nI i1) ) wv_X0_72 ⟨0, 0, _, _, rfl, rfl, rfl⟩ ⟨by decide, by decide, by decide, by decide⟩ rfl rfl (Nat.le_of_ble_eq_true rfl) dX0_numberOfMember_139 rfl ?_
      refine j_topL (fun r_139 er_139 => ?_)
      exact j_iretP X rfl rfl dX0_numberOfMember_142
    refine j_tswD X (tgt := 143) dX0_numberOfMember_13 (tsw_out10 c_13_0 c_13_1 c_13_2 c_13_3 c_13_4 c_13_5 c_13_6 c_13_7 c_13_8 c_13_9) (by decide) ?_
    refine j_sipush X (v := (-10001)) (pc' := 146) dX0_numberOfMember_143 (by decide) rfl ?_
    exact j_iretP X rfl rfl dX0_numberOfMember_146
  refine j_aload_n X (pc' := 1) 0 dX0_numberOfMember_0 rfl rfl rfl ?_
  refine j_iload_n X (pc' := 2) 1 dX0_numberOfMember_1 rfl rfl rfl ?_
  refine j_callVi X (pc' := 5) (As := [.int x1]) (rest := []) (c_X0_has l D cI cH cO h ar C x1 ) wv_X0_86 ⟨0, 0, _, _, rfl, rfl, rfl⟩ ⟨by decide, by decide, by decide, by decide⟩ rfl rfl (Nat.le_of_ble_eq_true rfl) dX0_numberOfMember_2 rfl ?_
  refine j_topL (fun r_2 er_2 => ?_)
  refine j_if_ne X (tgt := 12) (pc' := 8) dX0_numberOfMember_5 (by decide) rfl (fun c_5 => ?_) (fun c_5 => ?_)
  · obtain ⟨j_5, hj_5, ej_5⟩ : ∃ j : Nat, j < 8 ∧ x1 = nI j := vp_in_of (has_in (by rw [← er_2]; exact c_5)) (by decide)
    subst ej_5
    rw [nI_clamp (show j_5 < 2 ^ 31 by omega)]
    refine j_lv [0, 1, 2] (lv' := _) rfl ?_
    exact hK12 _ _ (by first | omega | assumption | decide | (subst_vars; first | assumption | omega))
  · refine j_sipush X (v := (-10001)) (pc' := 11) dX0_numberOfMember_8 (by decide) rfl ?_
    exact j_iretP X rfl rfl dX0_numberOfMember_11
theorem c_X0_numberOfMember (l : Launch) (D : va_G) (cI cH cO : ClassId) (h : Nat) (ar : Nat → Nat) (C : Cst) (x1 : Int32) (x2 : Int32)  : MI l yX0_numberOfMember cX0_numberOfMember 3 (some .int) 3 D (tyl cI cH cO) [.ref h, .int x1, .int x2] ((wC cI h ar C)) (sX0_numberOfMember C x1 x2) ((wC cI h ar C)) := fun sz => j_start (fun below s => (KP below [.ref h, .int x1, .int x2].toArray s D (tyl cI cH cO) ((wC cI h ar C)))) (sX0_numberOfMember C x1 x2) (by decide +kernel) rfl (Nat.le_of_ble_eq_true rfl) (fun below s hs _ => by subst hs; rfl) (fun p e s m below meth c hX9 X => b_X0_numberOfMember h ar C x1 x2  X)
set_option maxHeartbeats 4000000 in
set_option maxRecDepth 100000 in
theorem b_X0_numberOfAll {p : Program} {l : Launch} {e : Env} {s : State} {m : MethodId} {args : Array Value} {below : List Frame} {meth : Method} {c : Code} {D : va_G} {cI cH cO : ClassId} (h : Nat) (ar : Nat → Nat) (C : Cst) (x1 : Int32)  (X : CX p s m args meth c cX0_numberOfAll 2 RX0 (some .int) D (tyl cI cH cO) (va_A ((wC cI h ar C)) s.heap.size)) : J p l e (rml 2) s m args below meth c 2 D (va_A ((wC cI h ar C)) s.heap.size) 0 0 (KP below args s D (tyl cI cH cO) ((wC cI h ar C))) (sX0_numberOfAll C x1) ((wC cI h ar C)) 0 [(0, .ref h), (1, .int x1)] [] := by
  unfold sX0_numberOfAll
  refine j_iload_n X (pc' := 1) 1 dX0_numberOfAll_0 rfl rfl rfl ?_
  refine j_ite (P9 := x1 = 0) (fun c_1_0 => ?_) (fun c_1_0 => ?_)
  · refine j_tsw X (tgt := 60) dX0_numberOfAll_1 (by rw [c_1_0]; decide) (by rw [c_1_0]; decide) (off := 59) (by rw [c_1_0]; decide) (by decide) ?_
    refine j_aload_n X (pc' := 61) 0 dX0_numberOfAll_60 rfl rfl rfl ?_
    refine j_get X inX0 rfl (pc' := 64) 0 9 q_fl_X0_47 (by decide) rfl rfl dX0_numberOfAll_61 rfl ?_
    exact j_iretP X rfl rfl dX0_numberOfAll_64
  refine j_ite (P9 := x1 = 1) (fun c_1_1 => ?_) (fun c_1_1 => ?_)
  · refine j_tsw X (tgt := 65) dX0_numberOfAll_1 (by rw [c_1_1]; decide) (by rw [c_1_1]; decide) (off := 64) (by rw [c_1_1]; decide) (by decide) ?_
    refine j_aload_n X (pc' := 66) 0 dX0_numberOfAll_65 rfl rfl rfl ?_
    refine j_get X inX0 rfl (pc' := 69) 0 10 q_fl_X0_50 (by decide) rfl rfl dX0_numberOfAll_66 rfl ?_
    exact j_iretP X rfl rfl dX0_numberOfAll_69
  refine j_ite (P9 := x1 = 2) (fun c_1_2 => ?_) (fun c_1_2 => ?_)
  · refine j_tsw X (tgt := 70) dX0_numberOfAll_1 (by rw [c_1_2]; decide) (by rw [c_1_2]; decide) (off := 69) (by rw [c_1_2]; decide) (by decide) ?_
    refine j_aload_n X (pc' := 71) 0 dX0_numberOfAll_70 rfl rfl rfl ?_
    refine j_get X inX0 rfl (pc' := 74) 0 11 q_fl_X0_39 (by decide) rfl rfl dX0_numberOfAll_71 rfl ?_
    exact j_iretP X rfl rfl dX0_numberOfAll_74
  refine j_ite (P9 := x1 = 3) (fun c_1_3 => ?_) (fun c_1_3 => ?_)
  · refine j_tsw X (tgt := 75) dX0_numberOfAll_1 (by rw [c_1_3]; decide) (by rw [c_1_3]; decide) (off := 74) (by rw [c_1_3]; decide) (by decide) ?_
    refine j_aload_n X (pc' := 76) 0 dX0_numberOfAll_75 rfl rfl rfl ?_
    refine j_callVi X (pc' := 79) (As := []) (rest := []) (c_X0_allUnits l D cI cH cO h ar C ) wv_X0_121 ⟨0, 0, _, _, rfl, rfl, rfl⟩ ⟨by decide, by decide, by decide, by decide⟩ rfl rfl (Nat.le_of_ble_eq_true rfl) dX0_numberOfAll_76 rfl ?_
    refine j_topL (fun r_76 er_76 => ?_)
    exact j_iretP X rfl rfl dX0_numberOfAll_79
  refine j_ite (P9 := x1 = 4) (fun c_1_4 => ?_) (fun c_1_4 => ?_)
  · refine j_tsw X (tgt := 80) dX0_numberOfAll_1 (by rw [c_1_4]; decide) (by rw [c_1_4]; decide) (off := 79) (by rw [c_1_4]; decide) (by decide) ?_
    refine j_aload_n X (pc' := 81) 0 dX0_numberOfAll_80 rfl rfl rfl ?_
    refine j_aload_n X (pc' := 82) 0 dX0_numberOfAll_81 rfl rfl rfl ?_
    refine j_callVi X (pc' := 85) (As := []) (rest := [.ref h]) (c_X0_allUnits l D cI cH cO h ar C ) wv_X0_121 ⟨0, 0, _, _, rfl, rfl, rfl⟩ ⟨by decide, by decide, by decide, by decide⟩ rfl rfl (Nat.le_of_ble_eq_true rfl) dX0_numberOfAll_82 rfl ?_
    refine j_topL (fun r_82 er_82 => ?_)
    refine j_callVi X (pc' := 88) (As := [.int r_82]) (rest := []) (c_X0_damageOf l D cI cH cO h ar C r_82 ) wv_X0_83 ⟨0, 0, _, _, rfl, rfl, rfl⟩ ⟨by decide, by decide, by decide, by decide⟩ rfl rfl (Nat.le_of_ble_eq_true rfl) dX0_numberOfAll_85 rfl ?_
    refine j_topL (fun r_85 er_85 => ?_)
    exact j_iretP X rfl rfl dX0_numberOfAll_88
  refine j_ite (P9 := x1 = 5) (fun c_1_5 => ?_) (fun c_1_5 => ?_)
  · refine j_tsw X (tgt := 89) dX0_numberOfAll_1 (by rw [c_1_5]; decide) (by rw [c_1_5]; decide) (off := 88) (by rw [c_1_5]; decide) (by decide) ?_
    refine j_aload_n X (pc' := 90) 0 dX0_numberOfAll_89 rfl rfl rfl ?_
    refine j_get X inX0 rfl (pc' := 93) 0 12 q_fl_X0_53 (by decide) rfl rfl dX0_numberOfAll_90 rfl ?_
    exact j_iretP X rfl rfl dX0_numberOfAll_93
  refine j_ite (P9 := x1 = 6) (fun c_1_6 => ?_) (fun c_1_6 => ?_)
  · refine j_tsw X (tgt := 94) dX0_numberOfAll_1 (by rw [c_1_6]; decide) (by rw [c_1_6]; decide) (off := 93) (by rw [c_1_6]; decide) (by decide) ?_
    refine j_aload_n X (pc' := 95) 0 dX0_numberOfAll_94 rfl rfl rfl ?_
    refine j_get X inX0 rfl (pc' := 98) 0 3 q_fl_X0_21 (by decide) rfl rfl dX0_numberOfAll_95 rfl ?_
    refine j_callNi X (pc' := 101) (As := [.ref (ar 3)]) (rest := []) (c_X4_sumOf_3 l D cI cH cO h ar C ) X.2.2.1.2.2.2.2.2.2.1 wn_X0_68 ⟨by decide, by decide, by decide, by decide⟩ rfl rfl (Nat.le_of_ble_eq_true rfl) dX0_numberOfAll_98 rfl ?_
    refine j_topL (fun r_98 er_98 => ?_)
    exact j_iretP X rfl rfl dX0_numberOfAll_101
  refine j_ite (P9 := x1 = 7) (fun c_1_7 => ?_) (fun c_1_7 => ?_)
  · refine j_tsw X (tgt := 102) dX0_numberOfAll_1 (by rw [c_1_7]; decide) (by rw [c_1_7]; decide) (off := 101) (by rw [c_1_7]; decide) (by decide) ?_
    refine j_aload_n X (pc' := 103) 0 dX0_numberOfAll_102 rfl rfl rfl ?_
    refine j_get X inX0 rfl (pc' := 106) 0 13 q_fl_X0_56 (by decide) rfl rfl dX0_numberOfAll_103 rfl ?_
    exact j_iretP X rfl rfl dX0_numberOfAll_106
  refine j_ite (P9 := x1 = 8) (fun c_1_8 => ?_) (fun c_1_8 => ?_)
  · refine j_tsw X (tgt := 107) dX0_numberOfAll_1 (by rw [c_1_8]; decide) (by rw [c_1_8]; decide) (off := 106) (by rw [c_1_8]; decide) (by decide) ?_
    refine j_aload_n X (pc' := 108) 0 dX0_numberOfAll_107 rfl rfl rfl ?_
    refine j_get X inX0 rfl (pc' := 111) 0 14 q_fl_X0_59 (by decide) rfl rfl dX0_numberOfAll_108 rfl ?_
    exact j_iretP X rfl rfl dX0_numberOfAll_111
  refine j_ite (P9 := x1 = 9) (fun c_1_9 => ?_) (fun c_1_9 => ?_)
  · refine j_tsw X (tgt := 112) dX0_numberOfAll_1 (by rw [c_1_9]; decide) (by rw [c_1_9]; decide) (off := 111) (by rw [c_1_9]; decide) (by decide) ?_
    refine j_aload_n X (pc' := 113) 0 dX0_numberOfAll_112 rfl rfl rfl ?_
    refine j_get X inX0 rfl (pc' := 116) 0 15 q_fl_X0_62 (by decide) rfl rfl dX0_numberOfAll_113 rfl ?_
    exact j_iretP X rfl rfl dX0_numberOfAll_116
  refine j_ite (P9 := x1 = 10) (fun c_1_10 => ?_) (fun c_1_10 => ?_)
  · refine j_tsw X (tgt := 117) dX0_numberOfAll_1 (by rw [c_1_10]; decide) (by rw [c_1_10]; decide) (off := 116) (by rw [c_1_10]; decide) (by decide) ?_
    refine j_aload_n X (pc' := 118) 0 dX0_numberOfAll_117 rfl rfl rfl ?_
    refine j_get X inX0 rfl (pc' := 121) 0 16 q_fl_X0_65 (by decide) rfl rfl dX0_numberOfAll_118 rfl ?_
    exact j_iretP X rfl rfl dX0_numberOfAll_121
  refine j_tswD X (tgt := 122) dX0_numberOfAll_1 (tsw_out11 c_1_0 c_1_1 c_1_2 c_1_3 c_1_4 c_1_5 c_1_6 c_1_7 c_1_8 c_1_9 c_1_10) (by decide) ?_
  refine j_iload_n X (pc' := 123) 1 dX0_numberOfAll_122 rfl rfl rfl ?_
  refine j_bipush X (v := 20) (pc' := 125) dX0_numberOfAll_123 (by decide) rfl ?_
  refine j_icmp_lt X (tgt := 146) (pc' := 128) dX0_numberOfAll_125 (by decide) rfl (fun c_125 => ?_) (fun c_125 => ?_)
  · refine j_sipush X (v := (-10001)) (pc' := 149) dX0_numberOfAll_146 (by decide) rfl ?_
    exact j_iretP X rfl rfl dX0_numberOfAll_149
  · refine j_iload_n X (pc' := 129) 1 dX0_numberOfAll_128 rfl rfl rfl ?_
    refine j_bipush X (v := 25) (pc' := 131) dX0_numberOfAll_129 (by decide) rfl ?_
    refine j_icmp_ge X (tgt := 146) (pc' := 134) dX0_numberOfAll_131 (by decide) rfl (fun c_131 => ?_) (fun c_131 => ?_)
    · refine j_sipush X (v := (-10001)) (pc' := 149) dX0_numberOfAll_146 (by decide) rfl ?_
      exact j_iretP X rfl rfl dX0_numberOfAll_149
    · refine j_aload_n X (pc' := 135) 0 dX0_numberOfAll_134 rfl rfl rfl ?_
      refine j_get X inX0 rfl (pc' := 138) 0 0 q_fl_X0_9 (by decide) rfl rfl dX0_numberOfAll_135 rfl ?_
      refine j_iload_n X (pc' := 139) 1 dX0_numberOfAll_138 rfl rfl rfl ?_
      refine j_bipush X (v := 20) (pc' := 141) dX0_numberOfAll_139 (by decide) rfl ?_
      refine j_isub X (pc' := 142) dX0_numberOfAll_141 rfl ?_
      refine j_iald X (pc' := 143) 1 rfl (nA_in c_125 c_131) dX0_numberOfAll_142 rfl ?_
      refine j_goto X (pc' := 149) dX0_numberOfAll_143 (by decide) ?_
      exact j_iretP X rfl rfl dX0_numberOfAll_149
theorem c_X0_numberOfAll (l : Launch) (D : va_G) (cI cH cO : ClassId) (h : Nat) (ar : Nat → Nat) (C : Cst) (x1 : Int32)  : MI l yX0_numberOfAll cX0_numberOfAll 2 (some .int) 2 D (tyl cI cH cO) [.ref h, .int x1] ((wC cI h ar C)) (sX0_numberOfAll C x1) ((wC cI h ar C)) := fun sz => j_start (fun below s => (KP below [.ref h, .int x1].toArray s D (tyl cI cH cO) ((wC cI h ar C)))) (sX0_numberOfAll C x1) (by decide +kernel) rfl (Nat.le_of_ble_eq_true rfl) (fun below s hs _ => by subst hs; rfl) (fun p e s m below meth c hX9 X => b_X0_numberOfAll h ar C x1  X)
set_option maxHeartbeats 4000000 in
set_option maxRecDepth 100000 in
theorem b_X0_numberOfSeason {p : Program} {l : Launch} {e : Env} {s : State} {m : MethodId} {args : Array Value} {below : List Frame} {meth : Method} {c : Code} {D : va_G} {cI cH cO : ClassId} (h : Nat) (ar : Nat → Nat) (C : Cst) (x1 : Int32) (x2 : Int32) (hS0 : 0 ≤ (C 10 0).toInt) (X : CX p s m args meth c cX0_numberOfSeason 3 RX0 (some .int) D (tyl cI cH cO) (va_A ((wC cI h ar C)) s.heap.size)) : J p l e (rml 0) s m args below meth c 3 D (va_A ((wC cI h ar C)) s.heap.size) 0 0 (KP below args s D (tyl cI cH cO) ((wC cI h ar C))) (sX0_numberOfSeason C x1 x2) ((wC cI h ar C)) 0 [(0, .ref h), (1, .int x1), (2, .int x2)] [] := by
  unfold sX0_numberOfSeason
  refine j_ltv (fun K35 eK35 => ?_)
  have hK35 : ∀ (i1 : Nat) (i2 : Nat) (hi1 : i1 < 6) (hi2 : i2 < 5) (hlt : ¬ (C 10 0) ≤ nI i1), J p l e (rml 0) s m args below meth c 3 D (va_A ((wC cI h ar C)) s.heap.size) 0 0 (KP below args s D (tyl cI cH cO) ((wC cI h ar C))) (K35 i1 i2) ((wC cI h ar C)) 35 [(0, .ref h), (1, .int (nI i1)), (2, .int (nI i2))] [] := by
    intro i1 i2 hi1 hi2 hlt
    rw [eK35]
    refine j_aload_n X (pc' := 36) 0 dX0_numberOfSeason_35 rfl rfl rfl ?_
    refine j_get X inX0 rfl (pc' := 39) 0 8 q_fl_X0_36 (by decide) rfl rfl dX0_numberOfSeason_36 rfl ?_
    refine j_aload_n X (pc' := 40) 0 dX0_numberOfSeason_39 rfl rfl rfl ?_
    refine j_get X inX0 rfl (pc' := 43) 0 10 q_fl_X0_50 (by decide) rfl rfl dX0_numberOfSeason_40 rfl ?_
    refine j_iconst X (v := 1) (pc' := 44) dX0_numberOfSeason_43 (by decide) rfl ?_
    refine j_isub X (pc' := 45) dX0_numberOfSeason_44 rfl ?_
    refine j_iload_n X (pc' := 46) 1 dX0_numberOfSeason_45 rfl rfl rfl ?_
    refine j_isub X (pc' := 47) dX0_numberOfSeason_46 rfl ?_
    refine j_bipush X (v := 6) (pc' := 49) dX0_numberOfSeason_47 (by decide) rfl ?_
    refine j_irem X (pc' := 50) dX0_numberOfSeason_49 (by decide) rfl ?_
    refine j_iconst X (v := 5) (pc' := 51) dX0_numberOfSeason_50 (by decide) rfl ?_
    refine j_imul X (pc' := 52) dX0_numberOfSeason_51 rfl ?_
    refine j_iload_n X (pc' := 53) 2 dX0_numberOfSeason_52 rfl rfl rfl ?_
    refine j_iadd X (pc' := 54) dX0_numberOfSeason_53 rfl ?_
    refine j_iald X (pc' := 55) 9 rfl (nS_in hS0 hi1 hi2 hlt) dX0_numberOfSeason_54 rfl ?_
    exact j_iretP X rfl rfl dX0_numberOfSeason_55
  refine j_iload_n X (pc' := 1) 1 dX0_numberOfSeason_0 rfl rfl rfl ?_
  refine j_if_lt X (tgt := 13) (pc' := 4) dX0_numberOfSeason_1 (by decide) rfl (fun c_1 => ?_) (fun c_1 => ?_)
  · refine j_sipush X (v := (-10001)) (pc' := 16) dX0_numberOfSeason_13 (by decide) rfl ?_
    exact j_iretP X rfl rfl dX0_numberOfSeason_16
  · refine j_iload_n X (pc' := 5) 2 dX0_numberOfSeason_4 rfl rfl rfl ?_
    refine j_if_lt X (tgt := 13) (pc' := 8) dX0_numberOfSeason_5 (by decide) rfl (fun c_5 => ?_) (fun c_5 => ?_)
    · refine j_sipush X (v := (-10001)) (pc' := 16) dX0_numberOfSeason_13 (by decide) rfl ?_
      exact j_iretP X rfl rfl dX0_numberOfSeason_16
    · refine j_iload_n X (pc' := 9) 2 dX0_numberOfSeason_8 rfl rfl rfl ?_
      refine j_iconst X (v := 5) (pc' := 10) dX0_numberOfSeason_9 (by decide) rfl ?_
      refine j_icmp_lt X (tgt := 17) (pc' := 13) dX0_numberOfSeason_10 (by decide) rfl (fun c_10 => ?_) (fun c_10 => ?_)
      · refine j_iload_n X (pc' := 18) 1 dX0_numberOfSeason_17 rfl rfl rfl ?_
        refine j_aload_n X (pc' := 19) 0 dX0_numberOfSeason_18 rfl rfl rfl ?_
        refine j_get X inX0 rfl (pc' := 22) 0 10 q_fl_X0_50 (by decide) rfl rfl dX0_numberOfSeason_19 rfl ?_
        refine j_icmp_ge X (tgt := 31) (pc' := 25) dX0_numberOfSeason_22 (by decide) rfl (fun c_22 => ?_) (fun c_22 => ?_)
        · refine j_sipush X (v := (-10004)) (pc' := 34) dX0_numberOfSeason_31 (by decide) rfl ?_
          exact j_iretP X rfl rfl dX0_numberOfSeason_34
        · refine j_iload_n X (pc' := 26) 1 dX0_numberOfSeason_25 rfl rfl rfl ?_
          refine j_bipush X (v := 6) (pc' := 28) dX0_numberOfSeason_26 (by decide) rfl ?_
          refine j_icmp_lt X (tgt := 35) (pc' := 31) dX0_numberOfSeason_28 (by decide) rfl (fun c_28 => ?_) (fun c_28 => ?_)
          · obtain ⟨j_28, hj_28, ej_28⟩ : ∃ j : Nat, j < 6 ∧ x1 = nI j := nI_bet c_1 c_28
            subst ej_28
            rw [nI_clamp (show j_28 < 2 ^ 31 by omega)]
            obtain ⟨j_28, hj_28, ej_28⟩ : ∃ j : Nat, j < 5 ∧ x2 = nI j := nI_bet c_5 c_10
            subst ej_28
            rw [nI_clamp (show j_28 < 2 ^ 31 by omega)]
            refine j_lv [0, 1, 2] (lv' := _) rfl ?_
            exact hK35 _ _ (by first | omega | assumption | decide | (subst_vars; first | assumption | omega)) (by first | omega | assumption | decide | (subst_vars; first | assumption | omega)) (by first | omega | assumption | decide | (subst_vars; first | assumption | omega))
          · refine j_sipush X (v := (-10004)) (pc' := 34) dX0_numberOfSeason_31 (by decide) rfl ?_
            exact j_iretP X rfl rfl dX0_numberOfSeason_34
      · refine j_sipush X (v := (-10001)) (pc' := 16) dX0_numberOfSeason_13 (by decide) rfl ?_
        exact j_iretP X rfl rfl dX0_numberOfSeason_16
theorem c_X0_numberOfSeason (l : Launch) (D : va_G) (cI cH cO : ClassId) (h : Nat) (ar : Nat → Nat) (C : Cst) (x1 : Int32) (x2 : Int32) (hS0 : 0 ≤ (C 10 0).toInt) : MI l yX0_numberOfSeason cX0_numberOfSeason 3 (some .int) 0 D (tyl cI cH cO) [.ref h, .int x1, .int x2] ((wC cI h ar C)) (sX0_numberOfSeason C x1 x2) ((wC cI h ar C)) := fun sz => j_start (fun below s => (KP below [.ref h, .int x1, .int x2].toArray s D (tyl cI cH cO) ((wC cI h ar C)))) (sX0_numberOfSeason C x1 x2) (by decide +kernel) rfl (Nat.le_of_ble_eq_true rfl) (fun below s hs _ => by subst hs; rfl) (fun p e s m below meth c hX9 X => b_X0_numberOfSeason h ar C x1 x2 hS0 X)
