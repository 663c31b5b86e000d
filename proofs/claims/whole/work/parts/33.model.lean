set_option maxHeartbeats 4000000 in
set_option maxRecDepth 100000 in
theorem b_X5_fault {p : Program} {l : Launch} {e : Env} {s : State} {m : MethodId} {args : Array Value} {below : List Frame} {meth : Method} {c : Code} {D : va_G} {cI cH cO : ClassId} {ws0 : va_W} (h : Nat) (ar : Nat → Nat) (C : Cst) (x1 : Int32) (hIC : IM C) (X : CX p s m args meth c cX5_fault 3 RX5 (some .int) D (tyl cI cH cO) (va_A ws0 s.heap.size)) : J p l e (rml 7) s m args below meth c 3 D (va_A ws0 s.heap.size) 0 0 (KI below args s D (tyl cI cH cO) ws0 (fun C9 => (wM cI h ar C9))) (sX5_fault C x1) ((wM cI h ar C)) 0 [(0, .ref h), (1, .int x1)] [] := by
  unfold sX5_fault
  refine j_iload_n X (pc' := 1) 1 dX5_fault_0 rfl rfl rfl ?_
  refine j_iconst X (v := 0) (pc' := 2) dX5_fault_1 (by decide) rfl ?_
  refine j_iconst X (v := 2) (pc' := 3) dX5_fault_2 (by decide) rfl ?_
  refine j_callSiF X (pc' := 6) (As := [.int x1, .int 0, .int 2]) (rest := []) (ws' := (wM cI h ar C)) (wr := (wM cI h ar C)) [] [0, 1, 2, 3, 4, 5, 6, 7] [0, 1, 2, 3, 4, 5, 6, 7] rfl rfl ⟨by decide, by decide, by decide, by decide⟩ rfl (c_X5_in l D cI cH cO x1 0 2 ) ws_X5_53 ⟨by decide, by decide, by decide, by decide⟩ rfl rfl (Nat.le_of_ble_eq_true rfl) dX5_fault_3 rfl ?_
  refine j_topL (fun r_3 er_3 => ?_)
  refine j_if_ne X (tgt := 13) (pc' := 9) dX5_fault_6 (by decide) rfl (fun c_6 => ?_) (fun c_6 => ?_)
  · refine j_aload_n X (pc' := 14) 0 dX5_fault_13 rfl rfl rfl ?_
    refine j_get X inX5 rfl (pc' := 17) 0 0 q_fl_X5_7 (by decide) rfl rfl dX5_fault_14 rfl ?_
    refine j_aload_n X (pc' := 18) 0 dX5_fault_17 rfl rfl rfl ?_
    refine j_get X inX5 rfl (pc' := 21) 0 12 q_fl_X5_28 (by decide) rfl rfl dX5_fault_18 rfl ?_
    refine j_callSv X (pc' := 24) (As := [.ref (ar 0), .ref (ar 12)]) (rest := []) (c_X5_copies_0_12 l D cI cH cO h ar C ) ws_X5_98 ⟨by decide, by decide, by decide, by decide⟩ rfl rfl (Nat.le_of_ble_eq_true rfl) dX5_fault_21 rfl ?_
    refine j_stL (S := (sX5_copies_0_12 C)) (fun S_21 => (wM cI h ar S_21)) (fun S_21 eS_21 => ?_)
    have hIS_21 : IM S_21 := by rw [eS_21]; exact IM_copies_0_12 hIC
    refine j_aload_n X (pc' := 25) 0 dX5_fault_24 rfl rfl rfl ?_
    refine j_callVi X (pc' := 28) (As := []) (rest := []) (c_X5_plays l D cI cH cO h ar S_21 hIS_21) wv_X5_143 ⟨0, 5, _, _, rfl, rfl, rfl⟩ ⟨by decide, by decide, by decide, by decide⟩ rfl rfl (Nat.le_of_ble_eq_true rfl) dX5_fault_25 rfl ?_
    refine j_rsL (q := (sX5_plays S_21)) (fun S_25 => (wM cI h ar S_25)) (fun r_25 S_25 er_25 => ?_)
    have hIS_25 : IM S_25 := by have h9 : IM (sX5_plays S_21).2 := IM_plays hIS_21; rw [er_25] at h9; exact h9
    refine j_istore_n X (lv' := [(0, .ref h), (1, .int x1), (2, .int r_25)]) (pc' := 29) [1, 2, 0] dX5_fault_28 rfl (by decide) rfl rfl ?_
    refine j_aload_n X (pc' := 30) 0 dX5_fault_29 rfl rfl rfl ?_
    refine j_get X inX5 rfl (pc' := 33) 0 12 q_fl_X5_28 (by decide) rfl rfl dX5_fault_30 rfl ?_
    refine j_aload_n X (pc' := 34) 0 dX5_fault_33 rfl rfl rfl ?_
    refine j_get X inX5 rfl (pc' := 37) 0 0 q_fl_X5_7 (by decide) rfl rfl dX5_fault_34 rfl ?_
    refine j_callSv X (pc' := 40) (As := [.ref (ar 12), .ref (ar 0)]) (rest := []) (c_X5_copies_12_0 l D cI cH cO h ar S_25 ) ws_X5_98 ⟨by decide, by decide, by decide, by decide⟩ rfl rfl (Nat.le_of_ble_eq_true rfl) dX5_fault_37 rfl ?_
    refine j_stL (S := (sX5_copies_12_0 S_25)) (fun S_37 => (wM cI h ar S_37)) (fun S_37 eS_37 => ?_)
    refine j_iload_n X (pc' := 41) 2 dX5_fault_40 rfl rfl rfl ?_
    refine j_sipush X (v := (-10004)) (pc' := 44) dX5_fault_41 (by decide) rfl ?_
    refine j_icmp_eq X (tgt := 51) (pc' := 47) dX5_fault_44 (by decide) rfl (fun c_44 => ?_) (fun c_44 => ?_)
    · refine j_iload_n X (pc' := 52) 2 dX5_fault_51 rfl rfl rfl ?_
      refine j_goto X (pc' := 92) dX5_fault_52 (by decide) ?_
      exact j_iretI X rfl rfl dX5_fault_92
    · refine j_iload_n X (pc' := 48) 1 dX5_fault_47 rfl rfl rfl ?_
      refine j_if_ne X (tgt := 55) (pc' := 51) dX5_fault_48 (by decide) rfl (fun c_48 => ?_) (fun c_48 => ?_)
      · refine j_iload_n X (pc' := 56) 1 dX5_fault_55 rfl rfl rfl ?_
        refine j_iconst X (v := 1) (pc' := 57) dX5_fault_56 (by decide) rfl ?_
        refine j_icmp_ne X (tgt := 75) (pc' := 60) dX5_fault_57 (by decide) rfl (fun c_57 => ?_) (fun c_57 => ?_)
        · refine j_aload_n X (pc' := 76) 0 dX5_fault_75 rfl rfl rfl ?_
          refine j_get X inX5 rfl (pc' := 79) 0 9 q_fl_X5_140 (by decide) rfl rfl dX5_fault_76 rfl ?_
          refine j_if_ne X (tgt := 88) (pc' := 82) dX5_fault_79 (by decide) rfl (fun c_79 => ?_) (fun c_79 => ?_)
          · refine j_aload_n X (pc' := 89) 0 dX5_fault_88 rfl rfl rfl ?_
            refine j_get X inX5 rfl (pc' := 92) 0 9 q_fl_X5_140 (by decide) rfl rfl dX5_fault_89 rfl ?_
            exact j_iretI X rfl rfl dX5_fault_92
          · refine j_sipush X (v := (-10004)) (pc' := 85) dX5_fault_82 (by decide) rfl ?_
            refine j_goto X (pc' := 92) dX5_fault_85 (by decide) ?_
            exact j_iretI X rfl rfl dX5_fault_92
        · refine j_aload_n X (pc' := 61) 0 dX5_fault_60 rfl rfl rfl ?_
          refine j_get X inX5 rfl (pc' := 64) 0 9 q_fl_X5_140 (by decide) rfl rfl dX5_fault_61 rfl ?_
          refine j_if_ne X (tgt := 71) (pc' := 67) dX5_fault_64 (by decide) rfl (fun c_64 => ?_) (fun c_64 => ?_)
          · refine j_iconst X (v := 2) (pc' := 72) dX5_fault_71 (by decide) rfl ?_
            refine j_goto X (pc' := 92) dX5_fault_72 (by decide) ?_
            exact j_iretI X rfl rfl dX5_fault_92
          · refine j_iconst X (v := 1) (pc' := 68) dX5_fault_67 (by decide) rfl ?_
            refine j_goto X (pc' := 92) dX5_fault_68 (by decide) ?_
            exact j_iretI X rfl rfl dX5_fault_92
      · refine j_iload_n X (pc' := 52) 2 dX5_fault_51 rfl rfl rfl ?_
        refine j_goto X (pc' := 92) dX5_fault_52 (by decide) ?_
        exact j_iretI X rfl rfl dX5_fault_92
  · refine j_sipush X (v := (-10001)) (pc' := 12) dX5_fault_9 (by decide) rfl ?_
    exact j_iretI X rfl rfl dX5_fault_12
theorem c_X5_fault (l : Launch) (D : va_G) (cI cH cO : ClassId) (h : Nat) (ar : Nat → Nat) (C : Cst) (x1 : Int32) (hIC : IM C) : MI l yX5_fault cX5_fault 3 (some .int) 7 D (tyl cI cH cO) [.ref h, .int x1] ((wM cI h ar C)) (sX5_fault C x1).1 ((wM cI h ar ((sX5_fault C x1).2))) := fun sz => j_start (fun below s => (KI below [.ref h, .int x1].toArray s D (tyl cI cH cO) ((wM cI h ar C)) (fun C9 => (wM cI h ar C9)))) (sX5_fault C x1) (by decide +kernel) rfl (Nat.le_of_ble_eq_true rfl) (fun below s hs _ => by subst hs; rfl) (fun p e s m below meth c hX9 X => b_X5_fault h ar C x1 hIC X)
set_option maxHeartbeats 4000000 in
set_option maxRecDepth 100000 in
theorem b_X5_play {p : Program} {l : Launch} {e : Env} {s : State} {m : MethodId} {args : Array Value} {below : List Frame} {meth : Method} {c : Code} {D : va_G} {cI cH cO : ClassId} {ws0 : va_W} (h : Nat) (ar : Nat → Nat) (C : Cst) (hIC : IM C) (X : CX p s m args meth c cX5_play 2 RX5 (some .int) D (tyl cI cH cO) (va_A ws0 s.heap.size)) : J p l e (rml 7) s m args below meth c 2 D (va_A ws0 s.heap.size) 0 0 (KI below args s D (tyl cI cH cO) ws0 (fun C9 => (wM cI h ar C9))) (sX5_play C) ((wM cI h ar C)) 0 [(0, .ref h)] [] := by
  unfold sX5_play
  refine j_aload_n X (pc' := 1) 0 dX5_play_0 rfl rfl rfl ?_
  refine j_get X inX5 rfl (pc' := 4) 0 0 q_fl_X5_7 (by decide) rfl rfl dX5_play_1 rfl ?_
  refine j_aload_n X (pc' := 5) 0 dX5_play_4 rfl rfl rfl ?_
  refine j_get X inX5 rfl (pc' := 8) 0 12 q_fl_X5_28 (by decide) rfl rfl dX5_play_5 rfl ?_
  refine j_callSv X (pc' := 11) (As := [.ref (ar 0), .ref (ar 12)]) (rest := []) (c_X5_copies_0_12 l D cI cH cO h ar C ) ws_X5_98 ⟨by decide, by decide, by decide, by decide⟩ rfl rfl (Nat.le_of_ble_eq_true rfl) dX5_play_8 rfl ?_
  refine j_stL (S := (sX5_copies_0_12 C)) (fun S_8 => (wM cI h ar S_8)) (fun S_8 eS_8 => ?_)
  have hIS_8 : IM S_8 := by rw [eS_8]; exact IM_copies_0_12 hIC
  refine j_aload_n X (pc' := 12) 0 dX5_play_11 rfl rfl rfl ?_
  refine j_callVi X (pc' := 15) (As := []) (rest := []) (c_X5_plays l D cI cH cO h ar S_8 hIS_8) wv_X5_143 ⟨0, 5, _, _, rfl, rfl, rfl⟩ ⟨by decide, by decide, by decide, by decide⟩ rfl rfl (Nat.le_of_ble_eq_true rfl) dX5_play_12 rfl ?_
  refine j_rsL (q := (sX5_plays S_8)) (fun S_12 => (wM cI h ar S_12)) (fun r_12 S_12 er_12 => ?_)
  have hIS_12 : IM S_12 := by have h9 : IM (sX5_plays S_8).2 := IM_plays hIS_8; rw [er_12] at h9; exact h9
  refine j_istore_n X (lv' := [(0, .ref h), (1, .int r_12)]) (pc' := 16) [1, 0] dX5_play_15 rfl (by decide) rfl rfl ?_
  refine j_aload_n X (pc' := 17) 0 dX5_play_16 rfl rfl rfl ?_
  refine j_get X inX5 rfl (pc' := 20) 0 12 q_fl_X5_28 (by decide) rfl rfl dX5_play_17 rfl ?_
  refine j_aload_n X (pc' := 21) 0 dX5_play_20 rfl rfl rfl ?_
  refine j_get X inX5 rfl (pc' := 24) 0 0 q_fl_X5_7 (by decide) rfl rfl dX5_play_21 rfl ?_
  refine j_callSv X (pc' := 27) (As := [.ref (ar 12), .ref (ar 0)]) (rest := []) (c_X5_copies_12_0 l D cI cH cO h ar S_12 ) ws_X5_98 ⟨by decide, by decide, by decide, by decide⟩ rfl rfl (Nat.le_of_ble_eq_true rfl) dX5_play_24 rfl ?_
  refine j_stL (S := (sX5_copies_12_0 S_12)) (fun S_24 => (wM cI h ar S_24)) (fun S_24 eS_24 => ?_)
  have hIS_24 : IM S_24 := by rw [eS_24]; exact IM_back er_12 eS_8 hIC hIS_12
  refine j_iload_n X (pc' := 28) 1 dX5_play_27 rfl rfl rfl ?_
  refine j_sipush X (v := (-10004)) (pc' := 31) dX5_play_28 (by decide) rfl ?_
  refine j_icmp_eq X (tgt := 38) (pc' := 34) dX5_play_31 (by decide) rfl (fun c_31 => ?_) (fun c_31 => ?_)
  · refine j_aload_n X (pc' := 39) 0 dX5_play_38 rfl rfl rfl ?_
    refine j_callVv X (pc' := 42) (As := []) (rest := []) (c_X5_changes l D cI cH cO h ar S_24 hIS_24) wv_X5_57 ⟨0, 5, _, _, rfl, rfl, rfl⟩ ⟨by decide, by decide, by decide, by decide⟩ rfl rfl (Nat.le_of_ble_eq_true rfl) dX5_play_39 rfl ?_
    refine j_stL (S := (sX5_changes S_24)) (fun S_39 => (wM cI h ar S_39)) (fun S_39 eS_39 => ?_)
    have hIS_39 : IM S_39 := by rw [eS_39]; exact IM_changes hIS_24
    refine j_aload_n X (pc' := 43) 0 dX5_play_42 rfl rfl rfl ?_
    refine j_callVi X (pc' := 46) (As := []) (rest := []) (c_X5_plays l D cI cH cO h ar S_39 hIS_39) wv_X5_143 ⟨0, 5, _, _, rfl, rfl, rfl⟩ ⟨by decide, by decide, by decide, by decide⟩ rfl rfl (Nat.le_of_ble_eq_true rfl) dX5_play_43 rfl ?_
    refine j_rsL (q := (sX5_plays S_39)) (fun S_43 => (wM cI h ar S_43)) (fun r_43 S_43 er_43 => ?_)
    have hIS_43 : IM S_43 := by have h9 : IM (sX5_plays S_39).2 := IM_plays hIS_39; rw [er_43] at h9; exact h9
    refine j_sipush X (v := (-10004)) (pc' := 49) dX5_play_46 (by decide) rfl ?_
    refine j_icmp_ne X (tgt := 59) (pc' := 52) dX5_play_49 (by decide) rfl (fun c_49 => ?_) (fun c_49 => ?_)
    · refine j_sipush X (v := (-10004)) (pc' := 62) dX5_play_59 (by decide) rfl ?_
      exact j_iretI X rfl rfl dX5_play_62
    · refine j_aload_n X (pc' := 53) 0 dX5_play_52 rfl rfl rfl ?_
      refine j_get X inX5 rfl (pc' := 56) 0 10 q_fl_X5_131 (by decide) rfl rfl dX5_play_53 rfl ?_
      refine j_goto X (pc' := 62) dX5_play_56 (by decide) ?_
      exact j_iretI X rfl rfl dX5_play_62
  · refine j_sipush X (v := (-10002)) (pc' := 37) dX5_play_34 (by decide) rfl ?_
    exact j_iretI X rfl rfl dX5_play_37
theorem c_X5_play (l : Launch) (D : va_G) (cI cH cO : ClassId) (h : Nat) (ar : Nat → Nat) (C : Cst) (hIC : IM C) : MI l yX5_play cX5_play 2 (some .int) 7 D (tyl cI cH cO) [.ref h] ((wM cI h ar C)) (sX5_play C).1 ((wM cI h ar ((sX5_play C).2))) := fun sz => j_start (fun below s => (KI below [.ref h].toArray s D (tyl cI cH cO) ((wM cI h ar C)) (fun C9 => (wM cI h ar C9)))) (sX5_play C) (by decide +kernel) rfl (Nat.le_of_ble_eq_true rfl) (fun below s hs _ => by subst hs; rfl) (fun p e s m below meth c hX9 X => b_X5_play h ar C hIC X)
