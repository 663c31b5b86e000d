set_option maxHeartbeats 4000000 in
set_option maxRecDepth 100000 in
theorem b_X4_fault {p : Program} {l : Launch} {e : Env} {s : State} {m : MethodId} {args : Array Value} {below : List Frame} {meth : Method} {c : Code} {D : va_G} {cI cH cO : ClassId} {ws0 : va_W} (ad : Nat → Nat) (ar : Nat → Nat → Nat) (S : Xst) (x1 : Int32) (hI : IC (S 0)) (X : CX p s m args meth c cX4_fault 2 RX4 (some .int) D (tyl cI cH cO) (va_A ws0 s.heap.size)) : J p l e (rml 7) s m args below meth c 2 D (va_A ws0 s.heap.size) 0 0 (KI below args s D (tyl cI cH cO) ws0 (fun C9 => wX cI cH cO ad ar C9)) (sX4_fault S x1) (wX cI cH cO ad ar S) 0 [(0, .ref (ad 0)), (1, .int x1)] [] := by
  unfold sX4_fault
  refine j_iload_n X (pc' := 1) 1 dX4_fault_0 rfl rfl rfl ?_
  refine j_if_lt X (tgt := 9) (pc' := 4) dX4_fault_1 (by decide) rfl (fun c_1 => ?_) (fun c_1 => ?_)
  · refine j_sipush X (v := (-10001)) (pc' := 12) dX4_fault_9 (by decide) rfl ?_
    exact j_iretI X rfl rfl dX4_fault_12
  · refine j_iload_n X (pc' := 5) 1 dX4_fault_4 rfl rfl rfl ?_
    refine j_iconst X (v := 2) (pc' := 6) dX4_fault_5 (by decide) rfl ?_
    refine j_icmp_le X (tgt := 13) (pc' := 9) dX4_fault_6 (by decide) rfl (fun c_6 => ?_) (fun c_6 => ?_)
    · refine j_aload_n X (pc' := 14) 0 dX4_fault_13 rfl rfl rfl ?_
      refine j_callVv X (pc' := 17) (As := []) (rest := []) (c_X4_rehearse l D cI cH cO ad ar S (by first | omega | assumption | decide | (subst_vars; first | assumption | omega))) wv_X4_120 ⟨0, 4, _, _, rfl, rfl, rfl⟩ ⟨by decide, by decide, by decide, by decide⟩ rfl rfl (Nat.le_of_ble_eq_true rfl) dX4_fault_14 rfl ?_
      refine j_stL (S := (sX4_rehearse S)) (fun S_14 => wX cI cH cO ad ar S_14) (fun S_14 eS_14 => ?_)
      refine j_aload_n X (pc' := 18) 0 dX4_fault_17 rfl rfl rfl ?_
      refine j_get X inX4 rfl (pc' := 21) 0 4 q_fl_X4_36 (by decide) rfl rfl dX4_fault_18 rfl ?_
      refine j_get X inX2 rfl (pc' := 24) 65 1 q_fl_X4_123 (by decide) rfl rfl dX4_fault_21 rfl ?_
      refine j_if_ne X (tgt := 31) (pc' := 27) dX4_fault_24 (by decide) rfl (fun c_24 => ?_) (fun c_24 => ?_)
      · refine j_iload_n X (pc' := 32) 1 dX4_fault_31 rfl rfl rfl ?_
        refine j_if_ne X (tgt := 43) (pc' := 35) dX4_fault_32 (by decide) rfl (fun c_32 => ?_) (fun c_32 => ?_)
        · refine j_iload_n X (pc' := 44) 1 dX4_fault_43 rfl rfl rfl ?_
          refine j_iconst X (v := 1) (pc' := 45) dX4_fault_44 (by decide) rfl ?_
          refine j_icmp_ne X (tgt := 56) (pc' := 48) dX4_fault_45 (by decide) rfl (fun c_45 => ?_) (fun c_45 => ?_)
          · refine j_aload_n X (pc' := 57) 0 dX4_fault_56 rfl rfl rfl ?_
            refine j_get X inX4 rfl (pc' := 60) 0 4 q_fl_X4_36 (by decide) rfl rfl dX4_fault_57 rfl ?_
            refine j_get X inX2 rfl (pc' := 63) 65 1 q_fl_X4_123 (by decide) rfl rfl dX4_fault_60 rfl ?_
            refine j_iconst X (v := 1) (pc' := 64) dX4_fault_63 (by decide) rfl ?_
            refine j_icmp_ne X (tgt := 73) (pc' := 67) dX4_fault_64 (by decide) rfl (fun c_64 => ?_) (fun c_64 => ?_)
            · refine j_aload_n X (pc' := 74) 0 dX4_fault_73 rfl rfl rfl ?_
              refine j_get X inX4 rfl (pc' := 77) 0 4 q_fl_X4_36 (by decide) rfl rfl dX4_fault_74 rfl ?_
              refine j_get X inX2 rfl (pc' := 80) 65 2 q_fl_X4_129 (by decide) rfl rfl dX4_fault_77 rfl ?_
              exact j_iretI X rfl rfl dX4_fault_80
            · refine j_sipush X (v := (-10004)) (pc' := 70) dX4_fault_67 (by decide) rfl ?_
              refine j_goto X (pc' := 80) dX4_fault_70 (by decide) ?_
              exact j_iretI X rfl rfl dX4_fault_80
          · refine j_aload_n X (pc' := 49) 0 dX4_fault_48 rfl rfl rfl ?_
            refine j_get X inX4 rfl (pc' := 52) 0 4 q_fl_X4_36 (by decide) rfl rfl dX4_fault_49 rfl ?_
            refine j_get X inX2 rfl (pc' := 55) 65 1 q_fl_X4_123 (by decide) rfl rfl dX4_fault_52 rfl ?_
            exact j_iretI X rfl rfl dX4_fault_55
        · refine j_aload_n X (pc' := 36) 0 dX4_fault_35 rfl rfl rfl ?_
          refine j_get X inX4 rfl (pc' := 39) 0 4 q_fl_X4_36 (by decide) rfl rfl dX4_fault_36 rfl ?_
          refine j_get X inX2 rfl (pc' := 42) 65 0 q_fl_X4_126 (by decide) rfl rfl dX4_fault_39 rfl ?_
          exact j_iretI X rfl rfl dX4_fault_42
      · refine j_sipush X (v := (-10004)) (pc' := 30) dX4_fault_27 (by decide) rfl ?_
        exact j_iretI X rfl rfl dX4_fault_30
    · refine j_sipush X (v := (-10001)) (pc' := 12) dX4_fault_9 (by decide) rfl ?_
      exact j_iretI X rfl rfl dX4_fault_12
theorem c_X4_fault (l : Launch) (D : va_G) (cI cH cO : ClassId) (ad : Nat → Nat) (ar : Nat → Nat → Nat) (S : Xst) (x1 : Int32) (hI : IC (S 0)) : MI l yX4_fault cX4_fault 2 (some .int) 7 D (tyl cI cH cO) [.ref (ad 0), .int x1] (wX cI cH cO ad ar S) (sX4_fault S x1).1 (wX cI cH cO ad ar (sX4_fault S x1).2) := fun sz => j_start (fun below s => (KI below [.ref (ad 0), .int x1].toArray s D (tyl cI cH cO) (wX cI cH cO ad ar S) (fun C9 => wX cI cH cO ad ar C9))) (sX4_fault S x1) (by decide +kernel) rfl (Nat.le_of_ble_eq_true rfl) (fun below s hs _ => by subst hs; rfl) (fun p e s m below meth c hX9 X => b_X4_fault ad ar S x1 hI X)
set_option maxHeartbeats 4000000 in
set_option maxRecDepth 100000 in
theorem b_X4_play {p : Program} {l : Launch} {e : Env} {s : State} {m : MethodId} {args : Array Value} {below : List Frame} {meth : Method} {c : Code} {D : va_G} {cI cH cO : ClassId} {ws0 : va_W} (ad : Nat → Nat) (ar : Nat → Nat → Nat) (S : Xst) (hg0 : 0 ≤ (S 2 1 0).toInt ∧ (S 2 1 0).toInt ≤ 3) (hg1 : 0 ≤ (S 2 2 0).toInt ∧ (S 2 2 0).toInt ≤ 4) (hI : IC (S 0)) (X : CX p s m args meth c cX4_play 1 RX4 (some .int) D (tyl cI cH cO) (va_A ws0 s.heap.size)) : J p l e (rml 7) s m args below meth c 1 D (va_A ws0 s.heap.size) 0 0 (KI below args s D (tyl cI cH cO) ws0 (fun C9 => wX cI cH cO ad ar C9)) (sX4_play S) (wX cI cH cO ad ar S) 0 [(0, .ref (ad 0))] [] := by
  unfold sX4_play
  refine j_ltv (fun K28 eK28 => ?_)
  have hK28 : ∀ (S : Xst) (t0 : Int32) (hg0 : 0 ≤ (S 2 1 0).toInt ∧ (S 2 1 0).toInt ≤ 3) (hg1 : 0 ≤ (S 2 2 0).toInt ∧ (S 2 2 0).toInt ≤ 4), J p l e (rml 7) s m args below meth c 1 D (va_A ws0 s.heap.size) 0 0 (KI below args s D (tyl cI cH cO) ws0 (fun C9 => wX cI cH cO ad ar C9)) (K28 S t0) (wX cI cH cO ad ar S) 28 [] [.int t0, .ref (ad 0)] := by
    intro S t0 hg0 hg1
    rw [eK28]
    refine j_callVi X (pc' := 31) (As := [.int t0]) (rest := []) (c_X4_keptIfDone l D cI cH cO ad ar S t0 (by first | exact hk.1 | assumption) (by first | exact hk.2 | assumption)) wv_X4_48 ⟨0, 4, _, _, rfl, rfl, rfl⟩ ⟨by decide, by decide, by decide, by decide⟩ rfl rfl (Nat.le_of_ble_eq_true rfl) dX4_play_28 rfl ?_
    refine j_rsL (q := (sX4_keptIfDone S t0)) (fun S_28 => wX cI cH cO ad ar S_28) (fun r_28 S_28 er_28 => ?_)
    exact j_iretI X rfl rfl dX4_play_31
  refine j_aload_n X (pc' := 1) 0 dX4_play_0 rfl rfl rfl ?_
  refine j_callVv X (pc' := 4) (As := []) (rest := []) (c_X4_rehearse l D cI cH cO ad ar S (by first | assumption | exact hk.1 | exact hk.2)) wv_X4_120 ⟨0, 4, _, _, rfl, rfl, rfl⟩ ⟨by decide, by decide, by decide, by decide⟩ rfl rfl (Nat.le_of_ble_eq_true rfl) dX4_play_1 rfl ?_
  refine j_stL (S := (sX4_rehearse S)) (fun S_1 => wX cI cH cO ad ar S_1) (fun S_1 eS_1 => ?_)
  have hk := reh_h hg0 hg1 eS_1
  refine j_aload_n X (pc' := 5) 0 dX4_play_4 rfl rfl rfl ?_
  refine j_aload_n X (pc' := 6) 0 dX4_play_5 rfl rfl rfl ?_
  refine j_get X inX4 rfl (pc' := 9) 0 4 q_fl_X4_36 (by decide) rfl rfl dX4_play_6 rfl ?_
  refine j_get X inX2 rfl (pc' := 12) 65 1 q_fl_X4_123 (by decide) rfl rfl dX4_play_9 rfl ?_
  refine j_if_ne X (tgt := 25) (pc' := 15) dX4_play_12 (by decide) rfl (fun c_12 => ?_) (fun c_12 => ?_)
  · refine j_sipush X (v := (-10002)) (pc' := 28) dX4_play_25 (by decide) rfl ?_
    refine j_lv [] (lv' := []) rfl ?_
    exact hK28 _ _ (by first | assumption | exact hk.1 | exact hk.2) (by first | assumption | exact hk.1 | exact hk.2)
  · refine j_aload_n X (pc' := 16) 0 dX4_play_15 rfl rfl rfl ?_
    refine j_get X inX4 rfl (pc' := 19) 0 4 q_fl_X4_36 (by decide) rfl rfl dX4_play_16 rfl ?_
    refine j_get X inX2 rfl (pc' := 22) 65 3 q_fl_X4_132 (by decide) rfl rfl dX4_play_19 rfl ?_
    refine j_goto X (pc' := 28) dX4_play_22 (by decide) ?_
    refine j_lv [] (lv' := []) rfl ?_
    exact hK28 _ _ (by first | assumption | exact hk.1 | exact hk.2) (by first | assumption | exact hk.1 | exact hk.2)
theorem c_X4_play (l : Launch) (D : va_G) (cI cH cO : ClassId) (ad : Nat → Nat) (ar : Nat → Nat → Nat) (S : Xst) (hg0 : 0 ≤ (S 2 1 0).toInt ∧ (S 2 1 0).toInt ≤ 3) (hg1 : 0 ≤ (S 2 2 0).toInt ∧ (S 2 2 0).toInt ≤ 4) (hI : IC (S 0)) : MI l yX4_play cX4_play 1 (some .int) 7 D (tyl cI cH cO) [.ref (ad 0)] (wX cI cH cO ad ar S) (sX4_play S).1 (wX cI cH cO ad ar (sX4_play S).2) := fun sz => j_start (fun below s => (KI below [.ref (ad 0)].toArray s D (tyl cI cH cO) (wX cI cH cO ad ar S) (fun C9 => wX cI cH cO ad ar C9))) (sX4_play S) (by decide +kernel) rfl (Nat.le_of_ble_eq_true rfl) (fun below s hs _ => by subst hs; rfl) (fun p e s m below meth c hX9 X => b_X4_play ad ar S hg0 hg1 hI X)
