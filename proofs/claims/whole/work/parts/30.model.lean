set_option maxHeartbeats 4000000 in
set_option maxRecDepth 100000 in
theorem b_X5_isForm {p : Program} {l : Launch} {e : Env} {s : State} {m : MethodId} {args : Array Value} {below : List Frame} {meth : Method} {c : Code} {D : va_G} {cI cH cO : ClassId} {ws0 : va_W} (h : Nat) (ar : Nat → Nat) (C : Cst) (x1 : Int32) (hIC : IM C) (hsp : 0 ≤ (C 8 0).toInt) (hB : (C 8 0).toInt ≤ 100) (X : CX p s m args meth c cX5_isForm 3 RX5 (some .boolean) D (tyl cI cH cO) (va_A ws0 s.heap.size)) : J p l e (rml 3) s m args below meth c 3 D (va_A ws0 s.heap.size) 0 0 (KI below args s D (tyl cI cH cO) ws0 (fun C9 => (wM cI h ar C9))) (sX5_isForm C x1) ((wM cI h ar C)) 0 [(0, .ref h), (1, .int x1)] [] := by
  unfold sX5_isForm
  refine j_ltv (fun K69 eK69 => ?_)
  have hK69 : ∀ (C : Cst) (hIC : IM C) (hsp : 0 ≤ (C 8 0).toInt) (hB : (C 8 0).toInt ≤ 101), J p l e (rml 3) s m args below meth c 3 D (va_A ws0 s.heap.size) 0 0 (KI below args s D (tyl cI cH cO) ws0 (fun C9 => (wM cI h ar C9))) (K69 C) ((wM cI h ar C)) 69 [(0, .ref h)] [] := by
    intro C hIC hsp hB
    rw [eK69]
    refine j_aload_n X (pc' := 70) 0 dX5_isForm_69 rfl rfl rfl ?_
    refine j_iconst X (v := 0) (pc' := 71) dX5_isForm_70 (by decide) rfl ?_
    refine j_bipush X (v := 44) (pc' := 73) dX5_isForm_71 (by decide) rfl ?_
    refine j_callVi X (pc' := 76) (As := [.int 0, .int 44]) (rest := []) (c_X5_number l D cI cH cO h ar C 0 44 hIC (by first | assumption | omega | decide) (by first | assumption | omega | decide) (by first | assumption | omega | decide)) wv_X5_113 ⟨0, 5, _, _, rfl, rfl, rfl⟩ ⟨by decide, by decide, by decide, by decide⟩ rfl rfl (Nat.le_of_ble_eq_true rfl) dX5_isForm_73 rfl ?_
    refine j_rsL (q := (sX5_number C 0 44)) (fun S_73 => (wM cI h ar S_73)) (fun r_73 S_73 er_73 => ?_)
    have hIS_73 : IM S_73 := by have h9 : IM (sX5_number C 0 44).2 := IM_number hIC; rw [er_73] at h9; exact h9
    have hs73 := number_sp er_73 (by omega) (by omega)
    refine j_if_eq X (tgt := 93) (pc' := 79) dX5_isForm_76 (by decide) rfl (fun c_76 => ?_) (fun c_76 => ?_)
    · refine j_iconst X (v := 0) (pc' := 94) dX5_isForm_93 (by decide) rfl ?_
      exact j_zretI X rfl rfl rfl dX5_isForm_94
    · refine j_aload_n X (pc' := 80) 0 dX5_isForm_79 rfl rfl rfl ?_
      refine j_iconst X (v := 1) (pc' := 81) dX5_isForm_80 (by decide) rfl ?_
      refine j_bipush X (v := 59) (pc' := 83) dX5_isForm_81 (by decide) rfl ?_
      refine j_callVi X (pc' := 86) (As := [.int 1, .int 59]) (rest := []) (c_X5_number l D cI cH cO h ar S_73 1 59 hIS_73 (by first | assumption | omega | decide) (by first | assumption | omega | decide) (by first | assumption | omega | decide)) wv_X5_113 ⟨0, 5, _, _, rfl, rfl, rfl⟩ ⟨by decide, by decide, by decide, by decide⟩ rfl rfl (Nat.le_of_ble_eq_true rfl) dX5_isForm_83 rfl ?_
      refine j_rsL (q := (sX5_number S_73 1 59)) (fun S_83 => (wM cI h ar S_83)) (fun r_83 S_83 er_83 => ?_)
      have hIS_83 : IM S_83 := by have h9 : IM (sX5_number S_73 1 59).2 := IM_number hIS_73; rw [er_83] at h9; exact h9
      refine j_if_eq X (tgt := 93) (pc' := 89) dX5_isForm_86 (by decide) rfl (fun c_86 => ?_) (fun c_86 => ?_)
      · refine j_iconst X (v := 0) (pc' := 94) dX5_isForm_93 (by decide) rfl ?_
        exact j_zretI X rfl rfl rfl dX5_isForm_94
      · refine j_iconst X (v := 1) (pc' := 90) dX5_isForm_89 (by decide) rfl ?_
        refine j_goto X (pc' := 94) dX5_isForm_90 (by decide) ?_
        exact j_zretI X rfl rfl rfl dX5_isForm_94
  refine j_ltv (fun K49 eK49 => ?_)
  have hK49 : ∀ (C : Cst) (hIC : IM C) (hsp : 0 ≤ (C 8 0).toInt) (hB : (C 8 0).toInt ≤ 101), J p l e (rml 3) s m args below meth c 3 D (va_A ws0 s.heap.size) 0 0 (KI below args s D (tyl cI cH cO) ws0 (fun C9 => (wM cI h ar C9))) (K49 C) ((wM cI h ar C)) 49 [(0, .ref h)] [] := by
    intro C hIC hsp hB
    rw [eK49]
    refine j_aload_n X (pc' := 50) 0 dX5_isForm_49 rfl rfl rfl ?_
    refine j_iconst X (v := 0) (pc' := 51) dX5_isForm_50 (by decide) rfl ?_
    refine j_bipush X (v := 59) (pc' := 53) dX5_isForm_51 (by decide) rfl ?_
    refine j_callVi X (pc' := 56) (As := [.int 0, .int 59]) (rest := []) (c_X5_number l D cI cH cO h ar C 0 59 hIC (by first | assumption | omega | decide) (by first | assumption | omega | decide) (by first | assumption | omega | decide)) wv_X5_113 ⟨0, 5, _, _, rfl, rfl, rfl⟩ ⟨by decide, by decide, by decide, by decide⟩ rfl rfl (Nat.le_of_ble_eq_true rfl) dX5_isForm_53 rfl ?_
    refine j_rsL (q := (sX5_number C 0 59)) (fun S_53 => (wM cI h ar S_53)) (fun r_53 S_53 er_53 => ?_)
    have hIS_53 : IM S_53 := by have h9 : IM (sX5_number C 0 59).2 := IM_number hIC; rw [er_53] at h9; exact h9
    exact j_zretI X (number_b er_53) rfl rfl dX5_isForm_56
  refine j_aload_n X (pc' := 1) 0 dX5_isForm_0 rfl rfl rfl ?_
  refine j_dup X (pc' := 2) dX5_isForm_1 rfl rfl ?_
  refine j_get X inX5 rfl (pc' := 5) 0 8 q_fl_X5_106 (by decide) rfl rfl dX5_isForm_2 rfl ?_
  refine j_iconst X (v := 1) (pc' := 6) dX5_isForm_5 (by decide) rfl ?_
  refine j_iadd X (pc' := 7) dX5_isForm_6 rfl ?_
  refine j_put X inX5 rfl (pc' := 10) tyX5_ok nmX5 (S := up C 8 0 ((C 8 0) + 1)) (fun S_7 => (wM cI h ar S_7)) 0 8 q_fl_X5_106 (by decide) rfl rfl rfl rfl (Nat.le_of_ble_eq_true rfl) rfl dX5_isForm_7 rfl (fun S_7 eS_7 => ?_)
  have hIS_7 : IM S_7 := by rw [eS_7]; exact IM_k (by decide) (by decide) (by decide) hIC
  have hs7 : (S_7 8 0).toInt = (C 8 0).toInt + 1 := by rw [eS_7, up_s]; exact i32_inc (a := 0) (b := 100) hsp hB
  refine j_iload_n X (pc' := 11) 1 dX5_isForm_10 rfl rfl rfl ?_
  refine j_bipush X (v := 99) (pc' := 13) dX5_isForm_11 (by decide) rfl ?_
  refine j_icmp_ne X (tgt := 37) (pc' := 16) dX5_isForm_13 (by decide) rfl (fun c_13 => ?_) (fun c_13 => ?_)
  · refine j_iload_n X (pc' := 38) 1 dX5_isForm_37 rfl rfl rfl ?_
    refine j_bipush X (v := 109) (pc' := 40) dX5_isForm_38 (by decide) rfl ?_
    refine j_icmp_eq X (tgt := 49) (pc' := 43) dX5_isForm_40 (by decide) rfl (fun c_40 => ?_) (fun c_40 => ?_)
    · refine j_lv [0] (lv' := [(0, .ref h)]) rfl ?_
      exact hK49 _ hIS_7 (by first | assumption | omega | decide) (by first | assumption | omega | decide)
    · refine j_iload_n X (pc' := 44) 1 dX5_isForm_43 rfl rfl rfl ?_
      refine j_bipush X (v := 114) (pc' := 46) dX5_isForm_44 (by decide) rfl ?_
      refine j_icmp_ne X (tgt := 57) (pc' := 49) dX5_isForm_46 (by decide) rfl (fun c_46 => ?_) (fun c_46 => ?_)
      · refine j_iload_n X (pc' := 58) 1 dX5_isForm_57 rfl rfl rfl ?_
        refine j_bipush X (v := 117) (pc' := 60) dX5_isForm_58 (by decide) rfl ?_
        refine j_icmp_eq X (tgt := 69) (pc' := 63) dX5_isForm_60 (by decide) rfl (fun c_60 => ?_) (fun c_60 => ?_)
        · refine j_lv [0] (lv' := [(0, .ref h)]) rfl ?_
          exact hK69 _ hIS_7 (by first | assumption | omega | decide) (by first | assumption | omega | decide)
        · refine j_iload_n X (pc' := 64) 1 dX5_isForm_63 rfl rfl rfl ?_
          refine j_bipush X (v := 112) (pc' := 66) dX5_isForm_64 (by decide) rfl ?_
          refine j_icmp_ne X (tgt := 93) (pc' := 69) dX5_isForm_66 (by decide) rfl (fun c_66 => ?_) (fun c_66 => ?_)
          · refine j_iconst X (v := 0) (pc' := 94) dX5_isForm_93 (by decide) rfl ?_
            exact j_zretI X rfl rfl rfl dX5_isForm_94
          · refine j_lv [0] (lv' := [(0, .ref h)]) rfl ?_
            exact hK69 _ hIS_7 (by first | assumption | omega | decide) (by first | assumption | omega | decide)
      · refine j_lv [0] (lv' := [(0, .ref h)]) rfl ?_
        exact hK49 _ hIS_7 (by first | assumption | omega | decide) (by first | assumption | omega | decide)
  · refine j_aload_n X (pc' := 17) 0 dX5_isForm_16 rfl rfl rfl ?_
    refine j_bipush X (v := 59) (pc' := 19) dX5_isForm_17 (by decide) rfl ?_
    refine j_bipush X (v := 59) (pc' := 21) dX5_isForm_19 (by decide) rfl ?_
    refine j_callVi X (pc' := 24) (As := [.int 59, .int 59]) (rest := []) (c_X5_isAt l D cI cH cO h ar S_7 59 59 hIS_7 (by first | assumption | omega | decide)) wv_X5_109 ⟨0, 5, _, _, rfl, rfl, rfl⟩ ⟨by decide, by decide, by decide, by decide⟩ rfl rfl (Nat.le_of_ble_eq_true rfl) dX5_isForm_21 rfl ?_
    refine j_topL (fun r_21 er_21 => ?_)
    refine j_istore_n X (lv' := [(0, .ref h), (1, .int x1), (2, .int r_21)]) (pc' := 25) [1, 2, 0] dX5_isForm_24 rfl (by decide) rfl rfl ?_
    refine j_aload_n X (pc' := 26) 0 dX5_isForm_25 rfl rfl rfl ?_
    refine j_dup X (pc' := 27) dX5_isForm_26 rfl rfl ?_
    refine j_get X inX5 rfl (pc' := 30) 0 8 q_fl_X5_106 (by decide) rfl rfl dX5_isForm_27 rfl ?_
    refine j_iconst X (v := 1) (pc' := 31) dX5_isForm_30 (by decide) rfl ?_
    refine j_iadd X (pc' := 32) dX5_isForm_31 rfl ?_
    refine j_put X inX5 rfl (pc' := 35) tyX5_ok nmX5 (S := up S_7 8 0 ((S_7 8 0) + 1)) (fun S_32 => (wM cI h ar S_32)) 0 8 q_fl_X5_106 (by decide) rfl rfl rfl rfl (Nat.le_of_ble_eq_true rfl) rfl dX5_isForm_32 rfl (fun S_32 eS_32 => ?_)
    have hIS_32 : IM S_32 := by rw [eS_32]; exact IM_k (by decide) (by decide) (by decide) hIS_7
    refine j_iload_n X (pc' := 36) 2 dX5_isForm_35 rfl rfl rfl ?_
    exact j_zretI X (isAt_b er_21) rfl rfl dX5_isForm_36
theorem c_X5_isForm (l : Launch) (D : va_G) (cI cH cO : ClassId) (h : Nat) (ar : Nat → Nat) (C : Cst) (x1 : Int32) (hIC : IM C) (hsp : 0 ≤ (C 8 0).toInt) (hB : (C 8 0).toInt ≤ 100) : MI l yX5_isForm cX5_isForm 3 (some .boolean) 3 D (tyl cI cH cO) [.ref h, .int x1] ((wM cI h ar C)) (sX5_isForm C x1).1 ((wM cI h ar ((sX5_isForm C x1).2))) := fun sz => j_start (fun below s => (KI below [.ref h, .int x1].toArray s D (tyl cI cH cO) ((wM cI h ar C)) (fun C9 => (wM cI h ar C9)))) (sX5_isForm C x1) (by decide +kernel) rfl (Nat.le_of_ble_eq_true rfl) (fun below s hs _ => by subst hs; rfl) (fun p e s m below meth c hX9 X => b_X5_isForm h ar C x1 hIC hsp hB X)
