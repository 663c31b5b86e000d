set_option maxHeartbeats 4000000 in
set_option maxRecDepth 100000 in
theorem b_X3_append {p : Program} {l : Launch} {e : Env} {s : State} {m : MethodId} {args : Array Value} {below : List Frame} {meth : Method} {c : Code} {D : va_G} {cI cH cO : ClassId} {ws0 : va_W} (ad : Nat → Nat) (ar : Nat → Nat → Nat) (S : Xst) (x1 : Int32) (hl9 : 0 ≤ (S 7 1 0).toInt) (X : CX p s m args meth c cX3_append 2 RX3 (some .int) D (tyl cI cH cO) (va_A ws0 s.heap.size)) : J p l e (rml 0) s m args below meth c 2 D (va_A ws0 s.heap.size) 0 0 (KI below args s D (tyl cI cH cO) ws0 (fun C9 => wX cI cH cO ad ar C9)) (sX3_append S x1) (wX cI cH cO ad ar S) 0 [(0, .ref (ad 8)), (1, .int x1)] [] := by
  unfold sX3_append
  refine j_iload_n X (pc' := 1) 1 dX3_append_0 rfl rfl rfl ?_
  refine j_bipush X (v := 32) (pc' := 3) dX3_append_1 (by decide) rfl ?_
  refine j_icmp_lt X (tgt := 12) (pc' := 6) dX3_append_3 (by decide) rfl (fun c_3 => ?_) (fun c_3 => ?_)
  · refine j_sipush X (v := (-10001)) (pc' := 15) dX3_append_12 (by decide) rfl ?_
    exact j_iretI X rfl rfl dX3_append_15
  · refine j_iload_n X (pc' := 7) 1 dX3_append_6 rfl rfl rfl ?_
    refine j_bipush X (v := 126) (pc' := 9) dX3_append_7 (by decide) rfl ?_
    refine j_icmp_le X (tgt := 16) (pc' := 12) dX3_append_9 (by decide) rfl (fun c_9 => ?_) (fun c_9 => ?_)
    · refine j_aload_n X (pc' := 17) 0 dX3_append_16 rfl rfl rfl ?_
      refine j_get X inX3 rfl (pc' := 20) 63 1 q_fl_X3_15 (by decide) rfl rfl dX3_append_17 rfl ?_
      refine j_bipush X (v := 60) (pc' := 22) dX3_append_20 (by decide) rfl ?_
      refine j_icmp_lt X (tgt := 29) (pc' := 25) dX3_append_22 (by decide) rfl (fun c_22 => ?_) (fun c_22 => ?_)
      · refine j_aload_n X (pc' := 30) 0 dX3_append_29 rfl rfl rfl ?_
        refine j_get X inX3 rfl (pc' := 33) 63 0 q_fl_X3_9 (by decide) rfl rfl dX3_append_30 rfl ?_
        refine j_aload_n X (pc' := 34) 0 dX3_append_33 rfl rfl rfl ?_
        refine j_get X inX3 rfl (pc' := 37) 63 1 q_fl_X3_15 (by decide) rfl rfl dX3_append_34 rfl ?_
        refine j_iload_n X (pc' := 38) 1 dX3_append_37 rfl rfl rfl ?_
        refine j_i2c X (pc' := 39) dX3_append_38 rfl rfl ?_
        refine j_cast X (pc' := 40) (S := upx S 7 (up (S 7) 0 ((S 7) 1 0).toNatClampNeg (vp_nar .char (((x1).toUInt32 % 65536).toInt32)))) (fun S_39 => wX cI cH cO ad ar S_39) 64 rfl rfl (vp_in_iff.mpr ⟨hl9, i32_ltP (N := 60) (by decide) c_22⟩) dX3_append_39 rfl (fun S_39 eS_39 => ?_)
        refine j_aload_n X (pc' := 41) 0 dX3_append_40 rfl rfl rfl ?_
        refine j_dup X (pc' := 42) dX3_append_41 rfl rfl ?_
        refine j_get X inX3 rfl (pc' := 45) 63 1 q_fl_X3_15 (by decide) rfl rfl dX3_append_42 rfl ?_
        refine j_iconst X (v := 1) (pc' := 46) dX3_append_45 (by decide) rfl ?_
        refine j_iadd X (pc' := 47) dX3_append_46 rfl ?_
        refine j_put X inX3 rfl (pc' := 50) tyX3_ok nmX3 (S := upx S_39 7 (up (S_39 7) 1 0 (((S_39 7) 1 0) + 1))) (fun S_47 => wX cI cH cO ad ar S_47) 63 1 q_fl_X3_15 (by decide) rfl rfl rfl rfl (Nat.le_of_ble_eq_true rfl) rfl dX3_append_47 rfl (fun S_47 eS_47 => ?_)
        refine j_aload_n X (pc' := 51) 0 dX3_append_50 rfl rfl rfl ?_
        refine j_get X inX3 rfl (pc' := 54) 63 1 q_fl_X3_15 (by decide) rfl rfl dX3_append_51 rfl ?_
        exact j_iretI X rfl rfl dX3_append_54
      · refine j_sipush X (v := (-10003)) (pc' := 28) dX3_append_25 (by decide) rfl ?_
        exact j_iretI X rfl rfl dX3_append_28
    · refine j_sipush X (v := (-10001)) (pc' := 15) dX3_append_12 (by decide) rfl ?_
      exact j_iretI X rfl rfl dX3_append_15
theorem c_X3_append (l : Launch) (D : va_G) (cI cH cO : ClassId) (ad : Nat → Nat) (ar : Nat → Nat → Nat) (S : Xst) (x1 : Int32) (hl9 : 0 ≤ (S 7 1 0).toInt) : MI l yX3_append cX3_append 2 (some .int) 0 D (tyl cI cH cO) [.ref (ad 8), .int x1] (wX cI cH cO ad ar S) (sX3_append S x1).1 (wX cI cH cO ad ar (sX3_append S x1).2) := fun sz => j_start (fun below s => (KI below [.ref (ad 8), .int x1].toArray s D (tyl cI cH cO) (wX cI cH cO ad ar S) (fun C9 => wX cI cH cO ad ar C9))) (sX3_append S x1) (by decide +kernel) rfl (Nat.le_of_ble_eq_true rfl) (fun below s hs _ => by subst hs; rfl) (fun p e s m below meth c hX9 X => b_X3_append ad ar S x1 hl9 X)
set_option maxHeartbeats 4000000 in
set_option maxRecDepth 100000 in
theorem b_X3_signAhead {p : Program} {l : Launch} {e : Env} {s : State} {m : MethodId} {args : Array Value} {below : List Frame} {meth : Method} {c : Code} {D : va_G} {cI cH cO : ClassId} (ad : Nat → Nat) (ar : Nat → Nat → Nat) (S : Xst)  (X : CX p s m args meth c cX3_signAhead 1 RX3 (some .int) D (tyl cI cH cO) (va_A (wX cI cH cO ad ar S) s.heap.size)) : J p l e (rml 0) s m args below meth c 1 D (va_A (wX cI cH cO ad ar S) s.heap.size) 0 0 (KP below args s D (tyl cI cH cO) (wX cI cH cO ad ar S)) (sX3_signAhead S) (wX cI cH cO ad ar S) 0 [(0, .ref (ad 8))] [] := by
  unfold sX3_signAhead
  refine j_aload_n X (pc' := 1) 0 dX3_signAhead_0 rfl rfl rfl ?_
  refine j_get X inX3 rfl (pc' := 4) 63 2 q_fl_X3_26 (by decide) rfl rfl dX3_signAhead_1 rfl ?_
  refine j_if_lt X (tgt := 39) (pc' := 7) dX3_signAhead_4 (by decide) rfl (fun c_4 => ?_) (fun c_4 => ?_)
  · refine j_iconst X (v := (-1)) (pc' := 40) dX3_signAhead_39 (by decide) rfl ?_
    exact j_iretP X rfl rfl dX3_signAhead_40
  · refine j_aload_n X (pc' := 8) 0 dX3_signAhead_7 rfl rfl rfl ?_
    refine j_get X inX3 rfl (pc' := 11) 63 2 q_fl_X3_26 (by decide) rfl rfl dX3_signAhead_8 rfl ?_
    refine j_aload_n X (pc' := 12) 0 dX3_signAhead_11 rfl rfl rfl ?_
    refine j_get X inX3 rfl (pc' := 15) 63 1 q_fl_X3_15 (by decide) rfl rfl dX3_signAhead_12 rfl ?_
    refine j_icmp_ge X (tgt := 39) (pc' := 18) dX3_signAhead_15 (by decide) rfl (fun c_15 => ?_) (fun c_15 => ?_)
    · refine j_iconst X (v := (-1)) (pc' := 40) dX3_signAhead_39 (by decide) rfl ?_
      exact j_iretP X rfl rfl dX3_signAhead_40
    · refine j_aload_n X (pc' := 19) 0 dX3_signAhead_18 rfl rfl rfl ?_
      refine j_get X inX3 rfl (pc' := 22) 63 2 q_fl_X3_26 (by decide) rfl rfl dX3_signAhead_19 rfl ?_
      refine j_bipush X (v := 60) (pc' := 24) dX3_signAhead_22 (by decide) rfl ?_
      refine j_icmp_ge X (tgt := 39) (pc' := 27) dX3_signAhead_24 (by decide) rfl (fun c_24 => ?_) (fun c_24 => ?_)
      · refine j_iconst X (v := (-1)) (pc' := 40) dX3_signAhead_39 (by decide) rfl ?_
        exact j_iretP X rfl rfl dX3_signAhead_40
      · refine j_aload_n X (pc' := 28) 0 dX3_signAhead_27 rfl rfl rfl ?_
        refine j_get X inX3 rfl (pc' := 31) 63 0 q_fl_X3_9 (by decide) rfl rfl dX3_signAhead_28 rfl ?_
        refine j_aload_n X (pc' := 32) 0 dX3_signAhead_31 rfl rfl rfl ?_
        refine j_get X inX3 rfl (pc' := 35) 63 2 q_fl_X3_26 (by decide) rfl rfl dX3_signAhead_32 rfl ?_
        refine j_cald X (pc' := 36) 64 rfl (vp_in_iff.mpr ⟨i32_nn c_4, i32_ltN (N := 60) (by decide) c_24⟩) dX3_signAhead_35 rfl ?_
        refine j_goto X (pc' := 40) dX3_signAhead_36 (by decide) ?_
        exact j_iretP X rfl rfl dX3_signAhead_40
theorem c_X3_signAhead (l : Launch) (D : va_G) (cI cH cO : ClassId) (ad : Nat → Nat) (ar : Nat → Nat → Nat) (S : Xst)  : MI l yX3_signAhead cX3_signAhead 1 (some .int) 0 D (tyl cI cH cO) [.ref (ad 8)] (wX cI cH cO ad ar S) (sX3_signAhead S) (wX cI cH cO ad ar S) := fun sz => j_start (fun below s => (KP below [.ref (ad 8)].toArray s D (tyl cI cH cO) (wX cI cH cO ad ar S))) (sX3_signAhead S) (by decide +kernel) rfl (Nat.le_of_ble_eq_true rfl) (fun below s hs _ => by subst hs; rfl) (fun p e s m below meth c hX9 X => b_X3_signAhead ad ar S  X)
set_option maxHeartbeats 4000000 in
set_option maxRecDepth 100000 in
theorem b_X3_passes {p : Program} {l : Launch} {e : Env} {s : State} {m : MethodId} {args : Array Value} {below : List Frame} {meth : Method} {c : Code} {D : va_G} {cI cH cO : ClassId} {ws0 : va_W} (ad : Nat → Nat) (ar : Nat → Nat → Nat) (S : Xst) (x1 : Int32)  (X : CX p s m args meth c cX3_passes 2 RX3 (some .boolean) D (tyl cI cH cO) (va_A ws0 s.heap.size)) : J p l e (rml 1) s m args below meth c 2 D (va_A ws0 s.heap.size) 0 0 (KI below args s D (tyl cI cH cO) ws0 (fun C9 => wX cI cH cO ad ar C9)) (sX3_passes S x1) (wX cI cH cO ad ar S) 0 [(0, .ref (ad 8)), (1, .int x1)] [] := by
  unfold sX3_passes
  refine j_aload_n X (pc' := 1) 0 dX3_passes_0 rfl rfl rfl ?_
  refine j_callVi X (pc' := 4) (As := []) (rest := []) (c_X3_signAhead l D cI cH cO ad ar S ) wv_X3_19 ⟨63, 3, _, _, rfl, rfl, rfl⟩ ⟨by decide, by decide, by decide, by decide⟩ rfl rfl (Nat.le_of_ble_eq_true rfl) dX3_passes_1 rfl ?_
  refine j_topL (fun r_1 er_1 => ?_)
  refine j_iload_n X (pc' := 5) 1 dX3_passes_4 rfl rfl rfl ?_
  refine j_icmp_eq X (tgt := 10) (pc' := 8) dX3_passes_5 (by decide) rfl (fun c_5 => ?_) (fun c_5 => ?_)
  · refine j_aload_n X (pc' := 11) 0 dX3_passes_10 rfl rfl rfl ?_
    refine j_dup X (pc' := 12) dX3_passes_11 rfl rfl ?_
    refine j_get X inX3 rfl (pc' := 15) 63 2 q_fl_X3_26 (by decide) rfl rfl dX3_passes_12 rfl ?_
    refine j_iconst X (v := 1) (pc' := 16) dX3_passes_15 (by decide) rfl ?_
    refine j_iadd X (pc' := 17) dX3_passes_16 rfl ?_
    refine j_put X inX3 rfl (pc' := 20) tyX3_ok nmX3 (S := upx S 7 (up (S 7) 2 0 (((S 7) 2 0) + 1))) (fun S_17 => wX cI cH cO ad ar S_17) 63 2 q_fl_X3_26 (by decide) rfl rfl rfl rfl (Nat.le_of_ble_eq_true rfl) rfl dX3_passes_17 rfl (fun S_17 eS_17 => ?_)
    refine j_iconst X (v := 1) (pc' := 21) dX3_passes_20 (by decide) rfl ?_
    exact j_zretI X rfl rfl rfl dX3_passes_21
  · refine j_iconst X (v := 0) (pc' := 9) dX3_passes_8 (by decide) rfl ?_
    exact j_zretI X rfl rfl rfl dX3_passes_9
theorem c_X3_passes (l : Launch) (D : va_G) (cI cH cO : ClassId) (ad : Nat → Nat) (ar : Nat → Nat → Nat) (S : Xst) (x1 : Int32)  : MI l yX3_passes cX3_passes 2 (some .boolean) 1 D (tyl cI cH cO) [.ref (ad 8), .int x1] (wX cI cH cO ad ar S) (sX3_passes S x1).1 (wX cI cH cO ad ar (sX3_passes S x1).2) := fun sz => j_start (fun below s => (KI below [.ref (ad 8), .int x1].toArray s D (tyl cI cH cO) (wX cI cH cO ad ar S) (fun C9 => wX cI cH cO ad ar C9))) (sX3_passes S x1) (by decide +kernel) rfl (Nat.le_of_ble_eq_true rfl) (fun below s hs _ => by subst hs; rfl) (fun p e s m below meth c hX9 X => b_X3_passes ad ar S x1  X)
set_option maxHeartbeats 4000000 in
set_option maxRecDepth 100000 in
theorem b_X3_readNumber {p : Program} {l : Launch} {e : Env} {s : State} {m : MethodId} {args : Array Value} {below : List Frame} {meth : Method} {c : Code} {D : va_G} {cI cH cO : ClassId} {ws0 : va_W} (ad : Nat → Nat) (ar : Nat → Nat → Nat) (S : Xst)  (X : CX p s m args meth c cX3_readNumber 4 RX3 (some .int) D (tyl cI cH cO) (va_A ws0 s.heap.size)) : J p l e (rml 1) s m args below meth c 4 D (va_A ws0 s.heap.size) 0 0 (KI below args s D (tyl cI cH cO) ws0 (fun C9 => wX cI cH cO ad ar C9)) (sX3_readNumber S) (wX cI cH cO ad ar S) 0 [(0, .ref (ad 8))] [] := by
  unfold sX3_readNumber
  refine j_ltl3 (fun L4 eL4 => ?_)
  have hL4 : ∀ (n4 : Nat) (S : Xst) (x1 : Int32) (i2 : Nat) (hi : i2 ≤ 3) (hfu : 4 ≤ i2 + n4), J p l e (rml 1) s m args below meth c 4 D (va_A ws0 s.heap.size) 0 0 (KI below args s D (tyl cI cH cO) ws0 (fun C9 => wX cI cH cO ad ar C9)) (L4 n4 S x1 i2) (wX cI cH cO ad ar S) 4 [(0, .ref (ad 8)), (1, .int x1), (2, .int (nI i2))] [] := by
    intro n4
    induction n4 with
    | zero =>
      intro S x1 i2 hi hfu
      exact absurd hfu (by omega)
    | succ n4 ih4 =>
      intro S x1 i2 hi hfu
      rw [eL4]
      refine j_iload_n X (pc' := 5) 2 dX3_readNumber_4 rfl rfl rfl ?_
      refine j_iconst X (v := 3) (pc' := 6) dX3_readNumber_5 (by decide) rfl ?_
      refine j_icmp_ge X (tgt := 58) (pc' := 9) dX3_readNumber_6 (by decide) rfl (fun c_6 => ?_) (fun c_6 => ?_)
      · have f_6 : 3 ≤ i2 := (nI_leI (a := 3) (b := i2) (by omega) (by omega)).mp c_6
        refine j_iload_n X (pc' := 59) 1 dX3_readNumber_58 rfl rfl rfl ?_
        exact j_iretI X rfl rfl dX3_readNumber_59
      · have f_6 : ¬ (3 ≤ i2) := fun h => c_6 ((nI_leI (a := 3) (b := i2) (by omega) (by omega)).mpr h)
        refine j_aload_n X (pc' := 10) 0 dX3_readNumber_9 rfl rfl rfl ?_
        refine j_callVi X (pc' := 13) (As := []) (rest := []) (c_X3_signAhead l D cI cH cO ad ar S ) wv_X3_19 ⟨63, 3, _, _, rfl, rfl, rfl⟩ ⟨by decide, by decide, by decide, by decide⟩ rfl rfl (Nat.le_of_ble_eq_true rfl) dX3_readNumber_10 rfl ?_
        refine j_topL (fun r_10 er_10 => ?_)
        refine j_istore_n X (lv' := [(0, .ref (ad 8)), (1, .int x1), (2, .int (nI i2)), (3, .int r_10)]) (pc' := 14) [1, 2, 3, 0] dX3_readNumber_13 rfl (by decide) rfl rfl ?_
        refine j_iload_n X (pc' := 15) 3 dX3_readNumber_14 rfl rfl rfl ?_
        refine j_bipush X (v := 48) (pc' := 17) dX3_readNumber_15 (by decide) rfl ?_
        refine j_icmp_lt X (tgt := 26) (pc' := 20) dX3_readNumber_17 (by decide) rfl (fun c_17 => ?_) (fun c_17 => ?_)
        · refine j_iload_n X (pc' := 27) 1 dX3_readNumber_26 rfl rfl rfl ?_
          exact j_iretI X rfl rfl dX3_readNumber_27
        · refine j_iload_n X (pc' := 21) 3 dX3_readNumber_20 rfl rfl rfl ?_
          refine j_bipush X (v := 57) (pc' := 23) dX3_readNumber_21 (by decide) rfl ?_
          refine j_icmp_le X (tgt := 28) (pc' := 26) dX3_readNumber_23 (by decide) rfl (fun c_23 => ?_) (fun c_23 => ?_)
          · refine j_iload_n X (pc' := 29) 1 dX3_readNumber_28 rfl rfl rfl ?_
            refine j_iconst X (v := 0) (pc' := 30) dX3_readNumber_29 (by decide) rfl ?_
            refine j_mmax X (pc' := 33) ⟨q_ml_X3_42, q_sta_J9_max, q_ini_J9, q_code_J9_max⟩ ⟨by decide, Nat.le_of_ble_eq_true rfl, by decide, by decide⟩ dX3_readNumber_30 rfl ?_
            refine j_bipush X (v := 10) (pc' := 35) dX3_readNumber_33 (by decide) rfl ?_
            refine j_imul X (pc' := 36) dX3_readNumber_35 rfl ?_
            refine j_iload_n X (pc' := 37) 3 dX3_readNumber_36 rfl rfl rfl ?_
            refine j_bipush X (v := 48) (pc' := 39) dX3_readNumber_37 (by decide) rfl ?_
            refine j_isub X (pc' := 40) dX3_readNumber_39 rfl ?_
            refine j_iadd X (pc' := 41) dX3_readNumber_40 rfl ?_
            refine j_istore_nL X (fun v1_41 => [(0, .ref (ad 8)), (1, .int v1_41), (2, .int (nI i2)), (3, .int r_10)]) [1, 0, 2, 3] (pc' := 42) dX3_readNumber_41 rfl (by decide) (fun _ => rfl) rfl (fun v1_41 ev1_41 => ?_)
            refine j_aload_n X (pc' := 43) 0 dX3_readNumber_42 rfl rfl rfl ?_
            refine j_dup X (pc' := 44) dX3_readNumber_43 rfl rfl ?_
            refine j_get X inX3 rfl (pc' := 47) 63 2 q_fl_X3_26 (by decide) rfl rfl dX3_readNumber_44 rfl ?_
            refine j_iconst X (v := 1) (pc' := 48) dX3_readNumber_47 (by decide) rfl ?_
            refine j_iadd X (pc' := 49) dX3_readNumber_48 rfl ?_
            refine j_put X inX3 rfl (pc' := 52) tyX3_ok nmX3 (S := upx S 7 (up (S 7) 2 0 (((S 7) 2 0) + 1))) (fun S_49 => wX cI cH cO ad ar S_49) 63 2 q_fl_X3_26 (by decide) rfl rfl rfl rfl (Nat.le_of_ble_eq_true rfl) rfl dX3_readNumber_49 rfl (fun S_49 eS_49 => ?_)
            refine j_iinc X (v := (nI (i2 + 1))) (lv' := [(0, .ref (ad 8)), (1, .int v1_41), (2, .int (nI (i2 + 1))), (3, .int r_10)]) (q := 2) (pc' := 55) [1, 2, 0, 3] dX3_readNumber_52 rfl (nI_1 i2) (by decide) rfl rfl ?_
            refine j_goto X (pc' := 4) dX3_readNumber_55 (by decide) ?_
            refine j_lv [0, 1, 2] (lv' := [(0, .ref (ad 8)), (1, .int v1_41), (2, .int (nI (i2 + 1)))]) rfl ?_
            exact ih4 _ _ _ (by first | omega | assumption | decide | (subst_vars; first | assumption | omega)) (by first | omega | assumption | decide | (subst_vars; first | assumption | omega))
          · refine j_iload_n X (pc' := 27) 1 dX3_readNumber_26 rfl rfl rfl ?_
            exact j_iretI X rfl rfl dX3_readNumber_27
  refine j_iconst X (v := (-1)) (pc' := 1) dX3_readNumber_0 (by decide) rfl ?_
  refine j_istore_n X (lv' := [(0, .ref (ad 8)), (1, .int (-1))]) (pc' := 2) [1, 0] dX3_readNumber_1 rfl (by decide) rfl rfl ?_
  refine j_iconst X (v := 0) (pc' := 3) dX3_readNumber_2 (by decide) rfl ?_
  refine j_istore_n X (lv' := [(0, .ref (ad 8)), (1, .int (-1)), (2, .int 0)]) (pc' := 4) [1, 2, 0] dX3_readNumber_3 rfl (by decide) rfl rfl ?_
  refine j_lv [0, 1, 2] (lv' := [(0, .ref (ad 8)), (1, .int (-1)), (2, .int 0)]) rfl ?_
  exact hL4 _ _ _ _ (by first | omega | assumption | decide | (subst_vars; first | assumption | omega)) (by first | omega | assumption | decide | (subst_vars; first | assumption | omega))
theorem c_X3_readNumber (l : Launch) (D : va_G) (cI cH cO : ClassId) (ad : Nat → Nat) (ar : Nat → Nat → Nat) (S : Xst)  : MI l yX3_readNumber cX3_readNumber 4 (some .int) 1 D (tyl cI cH cO) [.ref (ad 8)] (wX cI cH cO ad ar S) (sX3_readNumber S).1 (wX cI cH cO ad ar (sX3_readNumber S).2) := fun sz => j_start (fun below s => (KI below [.ref (ad 8)].toArray s D (tyl cI cH cO) (wX cI cH cO ad ar S) (fun C9 => wX cI cH cO ad ar C9))) (sX3_readNumber S) (by decide +kernel) rfl (Nat.le_of_ble_eq_true rfl) (fun below s hs _ => by subst hs; rfl) (fun p e s m below meth c hX9 X => b_X3_readNumber ad ar S  X)
set_option maxHeartbeats 4000000 in
set_option maxRecDepth 100000 in
theorem b_X3_readCommand {p : Program} {l : Launch} {e : Env} {s : State} {m : MethodId} {args : Array Value} {below : List Frame} {meth : Method} {c : Code} {D : va_G} {cI cH cO : ClassId} {ws0 : va_W} (ad : Nat → Nat) (ar : Nat → Nat → Nat) (S : Xst)  (X : CX p s m args meth c cX3_readCommand 1 RX3 (some .boolean) D (tyl cI cH cO) (va_A ws0 s.heap.size)) : J p l e (rml 2) s m args below meth c 1 D (va_A ws0 s.heap.size) 0 0 (KI below args s D (tyl cI cH cO) ws0 (fun C9 => wX cI cH cO ad ar C9)) (sX3_readCommand S) (wX cI cH cO ad ar S) 0 [(0, .ref (ad 8))] [] := by
  unfold sX3_readCommand
  refine j_ltv (fun K130 eK130 => ?_)
  have hK130 : ∀ (S : Xst) , J p l e (rml 2) s m args below meth c 1 D (va_A ws0 s.heap.size) 0 0 (KI below args s D (tyl cI cH cO) ws0 (fun C9 => wX cI cH cO ad ar C9)) (K130 S) (wX cI cH cO ad ar S) 130 [(0, .ref (ad 8))] [] := by
    intro S 
    rw [eK130]
    refine j_aload_n X (pc' := 131) 0 dX3_readCommand_130 rfl rfl rfl ?_
    refine j_get X inX3 rfl (pc' := 134) 63 4 q_fl_X3_29 (by decide) rfl rfl dX3_readCommand_131 rfl ?_
    refine j_if_lt X (tgt := 157) (pc' := 137) dX3_readCommand_134 (by decide) rfl (fun c_134 => ?_) (fun c_134 => ?_)
    · refine j_iconst X (v := 0) (pc' := 158) dX3_readCommand_157 (by decide) rfl ?_
      exact j_zretI X rfl rfl rfl dX3_readCommand_158
    · refine j_aload_n X (pc' := 138) 0 dX3_readCommand_137 rfl rfl rfl ?_
      refine j_get X inX3 rfl (pc' := 141) 63 5 q_fl_X3_32 (by decide) rfl rfl dX3_readCommand_138 rfl ?_
      refine j_if_lt X (tgt := 157) (pc' := 144) dX3_readCommand_141 (by decide) rfl (fun c_141 => ?_) (fun c_141 => ?_)
      · refine j_iconst X (v := 0) (pc' := 158) dX3_readCommand_157 (by decide) rfl ?_
        exact j_zretI X rfl rfl rfl dX3_readCommand_158
      · refine j_aload_n X (pc' := 145) 0 dX3_readCommand_144 rfl rfl rfl ?_
        refine j_bipush X (v := 59) (pc' := 147) dX3_readCommand_145 (by decide) rfl ?_
        refine j_callVi X (pc' := 150) (As := [.int 59]) (rest := []) (c_X3_passes l D cI cH cO ad ar S 59 ) wv_X3_38 ⟨63, 3, _, _, rfl, rfl, rfl⟩ ⟨by decide, by decide, by decide, by decide⟩ rfl rfl (Nat.le_of_ble_eq_true rfl) dX3_readCommand_147 rfl ?_
        refine j_rsL (q := (sX3_passes S 59)) (fun S_147 => wX cI cH cO ad ar S_147) (fun r_147 S_147 er_147 => ?_)
        refine j_if_eq X (tgt := 157) (pc' := 153) dX3_readCommand_150 (by decide) rfl (fun c_150 => ?_) (fun c_150 => ?_)
        · refine j_iconst X (v := 0) (pc' := 158) dX3_readCommand_157 (by decide) rfl ?_
          exact j_zretI X rfl rfl rfl dX3_readCommand_158
        · refine j_iconst X (v := 1) (pc' := 154) dX3_readCommand_153 (by decide) rfl ?_
          refine j_goto X (pc' := 158) dX3_readCommand_154 (by decide) ?_
          exact j_zretI X rfl rfl rfl dX3_readCommand_158
  refine j_aload_n X (pc' := 1) 0 dX3_readCommand_0 rfl rfl rfl ?_
  refine j_aload_n X (pc' := 2) 0 dX3_readCommand_1 rfl rfl rfl ?_
  refine j_callVi X (pc' := 5) (As := []) (rest := [.ref (ad 8)]) (c_X3_signAhead l D cI cH cO ad ar S ) wv_X3_19 ⟨63, 3, _, _, rfl, rfl, rfl⟩ ⟨by decide, by decide, by decide, by decide⟩ rfl rfl (Nat.le_of_ble_eq_true rfl) dX3_readCommand_2 rfl ?_
  refine j_topL (fun r_2 er_2 => ?_)
  refine j_put X inX3 rfl (pc' := 8) tyX3_ok nmX3 (S := upx S 7 (up (S 7) 3 0 r_2)) (fun S_5 => wX cI cH cO ad ar S_5) 63 3 q_fl_X3_23 (by decide) rfl rfl rfl rfl (Nat.le_of_ble_eq_true rfl) rfl dX3_readCommand_5 rfl (fun S_5 eS_5 => ?_)
  refine j_aload_n X (pc' := 9) 0 dX3_readCommand_8 rfl rfl rfl ?_
  refine j_dup X (pc' := 10) dX3_readCommand_9 rfl rfl ?_
  refine j_get X inX3 rfl (pc' := 13) 63 2 q_fl_X3_26 (by decide) rfl rfl dX3_readCommand_10 rfl ?_
  refine j_iconst X (v := 1) (pc' := 14) dX3_readCommand_13 (by decide) rfl ?_
  refine j_iadd X (pc' := 15) dX3_readCommand_14 rfl ?_
  refine j_put X inX3 rfl (pc' := 18) tyX3_ok nmX3 (S := upx S_5 7 (up (S_5 7) 2 0 (((S_5 7) 2 0) + 1))) (fun S_15 => wX cI cH cO ad ar S_15) 63 2 q_fl_X3_26 (by decide) rfl rfl rfl rfl (Nat.le_of_ble_eq_true rfl) rfl dX3_readCommand_15 rfl (fun S_15 eS_15 => ?_)
  refine j_aload_n X (pc' := 19) 0 dX3_readCommand_18 rfl rfl rfl ?_
  refine j_iconst X (v := 0) (pc' := 20) dX3_readCommand_19 (by decide) rfl ?_
  refine j_put X inX3 rfl (pc' := 23) tyX3_ok nmX3 (S := upx S_15 7 (up (S_15 7) 4 0 0)) (fun S_20 => wX cI cH cO ad ar S_20) 63 4 q_fl_X3_29 (by decide) rfl rfl rfl rfl (Nat.le_of_ble_eq_true rfl) rfl dX3_readCommand_20 rfl (fun S_20 eS_20 => ?_)
  refine j_aload_n X (pc' := 24) 0 dX3_readCommand_23 rfl rfl rfl ?_
  refine j_iconst X (v := 0) (pc' := 25) dX3_readCommand_24 (by decide) rfl ?_
  refine j_put X inX3 rfl (pc' := 28) tyX3_ok nmX3 (S := upx S_20 7 (up (S_20 7) 5 0 0)) (fun S_25 => wX cI cH cO ad ar S_25) 63 5 q_fl_X3_32 (by decide) rfl rfl rfl rfl (Nat.le_of_ble_eq_true rfl) rfl dX3_readCommand_25 rfl (fun S_25 eS_25 => ?_)
  refine j_aload_n X (pc' := 29) 0 dX3_readCommand_28 rfl rfl rfl ?_
  refine j_get X inX3 rfl (pc' := 32) 63 3 q_fl_X3_23 (by decide) rfl rfl dX3_readCommand_29 rfl ?_
  refine j_ite (P9 := ((S_25 7) 3 0) = 99) (fun c_32_99 => ?_) (fun c_32_99 => ?_)
  · refine j_lsw X (tgt := 84) dX3_readCommand_32 (by decide) (off := 52) (by rw [c_32_99]; decide) (by decide) ?_
    refine j_goto X (pc' := 130) dX3_readCommand_84 (by decide) ?_
    refine j_lv [0] (lv' := [(0, .ref (ad 8))]) rfl ?_
    exact hK130 _ 
  refine j_ite (P9 := ((S_25 7) 3 0) = 109) (fun c_32_109 => ?_) (fun c_32_109 => ?_)
  · refine j_lsw X (tgt := 87) dX3_readCommand_32 (by decide) (off := 55) (by rw [c_32_109]; decide) (by decide) ?_
    refine j_aload_n X (pc' := 88) 0 dX3_readCommand_87 rfl rfl rfl ?_
    refine j_aload_n X (pc' := 89) 0 dX3_readCommand_88 rfl rfl rfl ?_
    refine j_callVi X (pc' := 92) (As := []) (rest := [.ref (ad 8)]) (c_X3_readNumber l D cI cH cO ad ar S_25 ) wv_X3_35 ⟨63, 3, _, _, rfl, rfl, rfl⟩ ⟨by decide, by decide, by decide, by decide⟩ rfl rfl (Nat.le_of_ble_eq_true rfl) dX3_readCommand_89 rfl ?_
    refine j_rsL (q := (sX3_readNumber S_25)) (fun S_89 => wX cI cH cO ad ar S_89) (fun r_89 S_89 er_89 => ?_)
    refine j_put X inX3 rfl (pc' := 95) tyX3_ok nmX3 (S := upx S_89 7 (up (S_89 7) 4 0 r_89)) (fun S_92 => wX cI cH cO ad ar S_92) 63 4 q_fl_X3_29 (by decide) rfl rfl rfl rfl (Nat.le_of_ble_eq_true rfl) rfl dX3_readCommand_92 rfl (fun S_92 eS_92 => ?_)
    refine j_goto X (pc' := 130) dX3_readCommand_95 (by decide) ?_
    refine j_lv [0] (lv' := [(0, .ref (ad 8))]) rfl ?_
    exact hK130 _ 
  refine j_ite (P9 := ((S_25 7) 3 0) = 112) (fun c_32_112 => ?_) (fun c_32_112 => ?_)
  · refine j_lsw X (tgt := 98) dX3_readCommand_32 (by decide) (off := 66) (by rw [c_32_112]; decide) (by decide) ?_
    refine j_aload_n X (pc' := 99) 0 dX3_readCommand_98 rfl rfl rfl ?_
    refine j_aload_n X (pc' := 100) 0 dX3_readCommand_99 rfl rfl rfl ?_
    refine j_callVi X (pc' := 103) (As := []) (rest := [.ref (ad 8)]) (c_X3_readNumber l D cI cH cO ad ar S_25 ) wv_X3_35 ⟨63, 3, _, _, rfl, rfl, rfl⟩ ⟨by decide, by decide, by decide, by decide⟩ rfl rfl (Nat.le_of_ble_eq_true rfl) dX3_readCommand_100 rfl ?_
    refine j_rsL (q := (sX3_readNumber S_25)) (fun S_100 => wX cI cH cO ad ar S_100) (fun r_100 S_100 er_100 => ?_)
    refine j_put X inX3 rfl (pc' := 106) tyX3_ok nmX3 (S := upx S_100 7 (up (S_100 7) 4 0 r_100)) (fun S_103 => wX cI cH cO ad ar S_103) 63 4 q_fl_X3_29 (by decide) rfl rfl rfl rfl (Nat.le_of_ble_eq_true rfl) rfl dX3_readCommand_103 rfl (fun S_103 eS_103 => ?_)
    refine j_aload_n X (pc' := 107) 0 dX3_readCommand_106 rfl rfl rfl ?_
    refine j_bipush X (v := 44) (pc' := 109) dX3_readCommand_107 (by decide) rfl ?_
    refine j_callVi X (pc' := 112) (As := [.int 44]) (rest := []) (c_X3_passes l D cI cH cO ad ar S_103 44 ) wv_X3_38 ⟨63, 3, _, _, rfl, rfl, rfl⟩ ⟨by decide, by decide, by decide, by decide⟩ rfl rfl (Nat.le_of_ble_eq_true rfl) dX3_readCommand_109 rfl ?_
    refine j_rsL (q := (sX3_passes S_103 44)) (fun S_109 => wX cI cH cO ad ar S_109) (fun r_109 S_109 er_109 => ?_)
    refine j_if_ne X (tgt := 117) (pc' := 115) dX3_readCommand_112 (by decide) rfl (fun c_112 => ?_) (fun c_112 => ?_)
    · refine j_aload_n X (pc' := 118) 0 dX3_readCommand_117 rfl rfl rfl ?_
      refine j_aload_n X (pc' := 119) 0 dX3_readCommand_118 rfl rfl rfl ?_
      refine j_callVi X (pc' := 122) (As := []) (rest := [.ref (ad 8)]) (c_X3_readNumber l D cI cH cO ad ar S_109 ) wv_X3_35 ⟨63, 3, _, _, rfl, rfl, rfl⟩ ⟨by decide, by decide, by decide, by decide⟩ rfl rfl (Nat.le_of_ble_eq_true rfl) dX3_readCommand_119 rfl ?_
      refine j_rsL (q := (sX3_readNumber S_109)) (fun S_119 => wX cI cH cO ad ar S_119) (fun r_119 S_119 er_119 => ?_)
      refine j_put X inX3 rfl (pc' := 125) tyX3_ok nmX3 (S := upx S_119 7 (up (S_119 7) 5 0 r_119)) (fun S_122 => wX cI cH cO ad ar S_122) 63 5 q_fl_X3_32 (by decide) rfl rfl rfl rfl (Nat.le_of_ble_eq_true rfl) rfl dX3_readCommand_122 rfl (fun S_122 eS_122 => ?_)
      refine j_goto X (pc' := 130) dX3_readCommand_125 (by decide) ?_
      refine j_lv [0] (lv' := [(0, .ref (ad 8))]) rfl ?_
      exact hK130 _ 
    · refine j_iconst X (v := 0) (pc' := 116) dX3_readCommand_115 (by decide) rfl ?_
      exact j_zretI X rfl rfl rfl dX3_readCommand_116
  refine j_ite (P9 := ((S_25 7) 3 0) = 114) (fun c_32_114 => ?_) (fun c_32_114 => ?_)
  · refine j_lsw X (tgt := 87) dX3_readCommand_32 (by decide) (off := 55) (by rw [c_32_114]; decide) (by decide) ?_
    refine j_aload_n X (pc' := 88) 0 dX3_readCommand_87 rfl rfl rfl ?_
    refine j_aload_n X (pc' := 89) 0 dX3_readCommand_88 rfl rfl rfl ?_
    refine j_callVi X (pc' := 92) (As := []) (rest := [.ref (ad 8)]) (c_X3_readNumber l D cI cH cO ad ar S_25 ) wv_X3_35 ⟨63, 3, _, _, rfl, rfl, rfl⟩ ⟨by decide, by decide, by decide, by decide⟩ rfl rfl (Nat.le_of_ble_eq_true rfl) dX3_readCommand_89 rfl ?_
    refine j_rsL (q := (sX3_readNumber S_25)) (fun S_89 => wX cI cH cO ad ar S_89) (fun r_89 S_89 er_89 => ?_)
    refine j_put X inX3 rfl (pc' := 95) tyX3_ok nmX3 (S := upx S_89 7 (up (S_89 7) 4 0 r_89)) (fun S_92 => wX cI cH cO ad ar S_92) 63 4 q_fl_X3_29 (by decide) rfl rfl rfl rfl (Nat.le_of_ble_eq_true rfl) rfl dX3_readCommand_92 rfl (fun S_92 eS_92 => ?_)
    refine j_goto X (pc' := 130) dX3_readCommand_95 (by decide) ?_
    refine j_lv [0] (lv' := [(0, .ref (ad 8))]) rfl ?_
    exact hK130 _ 
  refine j_ite (P9 := ((S_25 7) 3 0) = 117) (fun c_32_117 => ?_) (fun c_32_117 => ?_)
  · refine j_lsw X (tgt := 98) dX3_readCommand_32 (by decide) (off := 66) (by rw [c_32_117]; decide) (by decide) ?_
    refine j_aload_n X (pc' := 99) 0 dX3_readCommand_98 rfl rfl rfl ?_
    refine j_aload_n X (pc' := 100) 0 dX3_readCommand_99 rfl rfl rfl ?_
    refine j_callVi X (pc' := 103) (As := []) (rest := [.ref (ad 8)]) (c_X3_readNumber l D cI cH cO ad ar S_25 ) wv_X3_35 ⟨63, 3, _, _, rfl, rfl, rfl⟩ ⟨by decide, by decide, by decide, by decide⟩ rfl rfl (Nat.le_of_ble_eq_true rfl) dX3_readCommand_100 rfl ?_
    refine j_rsL (q := (sX3_readNumber S_25)) (fun S_100 => wX cI cH cO ad ar S_100) (fun r_100 S_100 er_100 => ?_)
    refine j_put X inX3 rfl (pc' := 106) tyX3_ok nmX3 (S := upx S_100 7 (up (S_100 7) 4 0 r_100)) (fun S_103 => wX cI cH cO ad ar S_103) 63 4 q_fl_X3_29 (by decide) rfl rfl rfl rfl (Nat.le_of_ble_eq_true rfl) rfl dX3_readCommand_103 rfl (fun S_103 eS_103 => ?_)
    refine j_aload_n X (pc' := 107) 0 dX3_readCommand_106 rfl rfl rfl ?_
    refine j_bipush X (v := 44) (pc' := 109) dX3_readCommand_107 (by decide) rfl ?_
    refine j_callVi X (pc' := 112) (As := [.int 44]) (rest := []) (c_X3_passes l D cI cH cO ad ar S_103 44 ) wv_X3_38 ⟨63, 3, _, _, rfl, rfl, rfl⟩ ⟨by decide, by decide, by decide, by decide⟩ rfl rfl (Nat.le_of_ble_eq_true rfl) dX3_readCommand_109 rfl ?_
    refine j_rsL (q := (sX3_passes S_103 44)) (fun S_109 => wX cI cH cO ad ar S_109) (fun r_109 S_109 er_109 => ?_)
    refine j_if_ne X (tgt := 117) (pc' := 115) dX3_readCommand_112 (by decide) rfl (fun c_112 => ?_) (fun c_112 => ?_)
    · refine j_aload_n X (pc' := 118) 0 dX3_readCommand_117 rfl rfl rfl ?_
      refine j_aload_n X (pc' := 119) 0 dX3_readCommand_118 rfl rfl rfl ?_
      refine j_callVi X (pc' := 122) (As := []) (rest := [.ref (ad 8)]) (c_X3_readNumber l D cI cH cO ad ar S_109 ) wv_X3_35 ⟨63, 3, _, _, rfl, rfl, rfl⟩ ⟨by decide, by decide, by decide, by decide⟩ rfl rfl (Nat.le_of_ble_eq_true rfl) dX3_readCommand_119 rfl ?_
      refine j_rsL (q := (sX3_readNumber S_109)) (fun S_119 => wX cI cH cO ad ar S_119) (fun r_119 S_119 er_119 => ?_)
      refine j_put X inX3 rfl (pc' := 125) tyX3_ok nmX3 (S := upx S_119 7 (up (S_119 7) 5 0 r_119)) (fun S_122 => wX cI cH cO ad ar S_122) 63 5 q_fl_X3_32 (by decide) rfl rfl rfl rfl (Nat.le_of_ble_eq_true rfl) rfl dX3_readCommand_122 rfl (fun S_122 eS_122 => ?_)
      refine j_goto X (pc' := 130) dX3_readCommand_125 (by decide) ?_
      refine j_lv [0] (lv' := [(0, .ref (ad 8))]) rfl ?_
      exact hK130 _ 
    · refine j_iconst X (v := 0) (pc' := 116) dX3_readCommand_115 (by decide) rfl ?_
      exact j_zretI X rfl rfl rfl dX3_readCommand_116
  refine j_lsw X (tgt := 128) dX3_readCommand_32 (by decide) (off := 96) (by rw [lv_osw c_32_99 (by decide)]; rw [lv_osw c_32_109 (by decide)]; rw [lv_osw c_32_112 (by decide)]; rw [lv_osw c_32_114 (by decide)]; rw [lv_osw c_32_117 (by decide)]; rfl) (by decide) ?_
  refine j_iconst X (v := 0) (pc' := 129) dX3_readCommand_128 (by decide) rfl ?_
  exact j_zretI X rfl rfl rfl dX3_readCommand_129
theorem c_X3_readCommand (l : Launch) (D : va_G) (cI cH cO : ClassId) (ad : Nat → Nat) (ar : Nat → Nat → Nat) (S : Xst)  : MI l yX3_readCommand cX3_readCommand 1 (some .boolean) 2 D (tyl cI cH cO) [.ref (ad 8)] (wX cI cH cO ad ar S) (sX3_readCommand S).1 (wX cI cH cO ad ar (sX3_readCommand S).2) := fun sz => j_start (fun below s => (KI below [.ref (ad 8)].toArray s D (tyl cI cH cO) (wX cI cH cO ad ar S) (fun C9 => wX cI cH cO ad ar C9))) (sX3_readCommand S) (by decide +kernel) rfl (Nat.le_of_ble_eq_true rfl) (fun below s hs _ => by subst hs; rfl) (fun p e s m below meth c hX9 X => b_X3_readCommand ad ar S  X)
set_option maxHeartbeats 4000000 in
set_option maxRecDepth 100000 in
theorem b_X2_begin {p : Program} {l : Launch} {e : Env} {s : State} {m : MethodId} {args : Array Value} {below : List Frame} {meth : Method} {c : Code} {D : va_G} {cI cH cO : ClassId} {ws0 : va_W} (ad : Nat → Nat) (ar : Nat → Nat → Nat) (S : Xst)  (X : CX p s m args meth c cX2_begin 1 RX2 none D (tyl cI cH cO) (va_A ws0 s.heap.size)) : J p l e (rml 0) s m args below meth c 1 D (va_A ws0 s.heap.size) 0 0 (KV below args s D (tyl cI cH cO) ws0 (fun C9 => wX cI cH cO ad ar C9)) (sX2_begin S) (wX cI cH cO ad ar S) 0 [(0, .ref (ad 9))] [] := by
  unfold sX2_begin
  refine j_aload_n X (pc' := 1) 0 dX2_begin_0 rfl rfl rfl ?_
  refine j_iconst X (v := 0) (pc' := 2) dX2_begin_1 (by decide) rfl ?_
  refine j_put X inX2 rfl (pc' := 5) tyX2_ok nmX2 (S := upx S 8 (up (S 8) 0 0 0)) (fun S_2 => wX cI cH cO ad ar S_2) 65 0 q_fl_X2_9 (by decide) rfl rfl rfl rfl (Nat.le_of_ble_eq_true rfl) rfl dX2_begin_2 rfl (fun S_2 eS_2 => ?_)
  refine j_aload_n X (pc' := 6) 0 dX2_begin_5 rfl rfl rfl ?_
  refine j_iconst X (v := 0) (pc' := 7) dX2_begin_6 (by decide) rfl ?_
  refine j_put X inX2 rfl (pc' := 10) tyX2_ok nmX2 (S := upx S_2 8 (up (S_2 8) 1 0 0)) (fun S_7 => wX cI cH cO ad ar S_7) 65 1 q_fl_X2_15 (by decide) rfl rfl rfl rfl (Nat.le_of_ble_eq_true rfl) rfl dX2_begin_7 rfl (fun S_7 eS_7 => ?_)
  refine j_aload_n X (pc' := 11) 0 dX2_begin_10 rfl rfl rfl ?_
  refine j_iconst X (v := 0) (pc' := 12) dX2_begin_11 (by decide) rfl ?_
  refine j_put X inX2 rfl (pc' := 15) tyX2_ok nmX2 (S := upx S_7 8 (up (S_7 8) 2 0 0)) (fun S_12 => wX cI cH cO ad ar S_12) 65 2 q_fl_X2_18 (by decide) rfl rfl rfl rfl (Nat.le_of_ble_eq_true rfl) rfl dX2_begin_12 rfl (fun S_12 eS_12 => ?_)
  refine j_aload_n X (pc' := 16) 0 dX2_begin_15 rfl rfl rfl ?_
  refine j_iconst X (v := 0) (pc' := 17) dX2_begin_16 (by decide) rfl ?_
  refine j_put X inX2 rfl (pc' := 20) tyX2_ok nmX2 (S := upx S_12 8 (up (S_12 8) 3 0 0)) (fun S_17 => wX cI cH cO ad ar S_17) 65 3 q_fl_X2_21 (by decide) rfl rfl rfl rfl (Nat.le_of_ble_eq_true rfl) rfl dX2_begin_17 rfl (fun S_17 eS_17 => ?_)
  exact j_vret X rfl dX2_begin_20
theorem c_X2_begin (l : Launch) (D : va_G) (cI cH cO : ClassId) (ad : Nat → Nat) (ar : Nat → Nat → Nat) (S : Xst)  : MV l yX2_begin cX2_begin 1 0 D (tyl cI cH cO) [.ref (ad 9)] (wX cI cH cO ad ar S) (wX cI cH cO ad ar (sX2_begin S)) := fun sz => j_start (fun below s => (KV below [.ref (ad 9)].toArray s D (tyl cI cH cO) (wX cI cH cO ad ar S) (fun C9 => wX cI cH cO ad ar C9))) (sX2_begin S) (by decide +kernel) rfl (Nat.le_of_ble_eq_true rfl) (fun below s hs _ => by subst hs; rfl) (fun p e s m below meth c hX9 X => b_X2_begin ad ar S  X)
set_option maxHeartbeats 4000000 in
set_option maxRecDepth 100000 in
theorem b_X2_isStoppedBy {p : Program} {l : Launch} {e : Env} {s : State} {m : MethodId} {args : Array Value} {below : List Frame} {meth : Method} {c : Code} {D : va_G} {cI cH cO : ClassId} {ws0 : va_W} (ad : Nat → Nat) (ar : Nat → Nat → Nat) (S : Xst) (x1 : Int32)  (X : CX p s m args meth c cX2_isStoppedBy 2 RX2 (some .boolean) D (tyl cI cH cO) (va_A ws0 s.heap.size)) : J p l e (rml 0) s m args below meth c 2 D (va_A ws0 s.heap.size) 0 0 (KI below args s D (tyl cI cH cO) ws0 (fun C9 => wX cI cH cO ad ar C9)) (sX2_isStoppedBy S x1) (wX cI cH cO ad ar S) 0 [(0, .ref (ad 9)), (1, .int x1)] [] := by
  unfold sX2_isStoppedBy
  refine j_iload_n X (pc' := 1) 1 dX2_isStoppedBy_0 rfl rfl rfl ?_
  refine j_if_lt X (tgt := 16) (pc' := 4) dX2_isStoppedBy_1 (by decide) rfl (fun c_1 => ?_) (fun c_1 => ?_)
  · refine j_aload_n X (pc' := 17) 0 dX2_isStoppedBy_16 rfl rfl rfl ?_
    refine j_iconst X (v := 2) (pc' := 18) dX2_isStoppedBy_17 (by decide) rfl ?_
    refine j_put X inX2 rfl (pc' := 21) tyX2_ok nmX2 (S := upx S 8 (up (S 8) 1 0 2)) (fun S_18 => wX cI cH cO ad ar S_18) 65 1 q_fl_X2_15 (by decide) rfl rfl rfl rfl (Nat.le_of_ble_eq_true rfl) rfl dX2_isStoppedBy_18 rfl (fun S_18 eS_18 => ?_)
    refine j_aload_n X (pc' := 22) 0 dX2_isStoppedBy_21 rfl rfl rfl ?_
    refine j_iload_n X (pc' := 23) 1 dX2_isStoppedBy_22 rfl rfl rfl ?_
    refine j_put X inX2 rfl (pc' := 26) tyX2_ok nmX2 (S := upx S_18 8 (up (S_18 8) 2 0 x1)) (fun S_23 => wX cI cH cO ad ar S_23) 65 2 q_fl_X2_18 (by decide) rfl rfl rfl rfl (Nat.le_of_ble_eq_true rfl) rfl dX2_isStoppedBy_23 rfl (fun S_23 eS_23 => ?_)
    refine j_iconst X (v := 1) (pc' := 27) dX2_isStoppedBy_26 (by decide) rfl ?_
    exact j_zretI X rfl rfl rfl dX2_isStoppedBy_27
  · refine j_aload_n X (pc' := 5) 0 dX2_isStoppedBy_4 rfl rfl rfl ?_
    refine j_dup X (pc' := 6) dX2_isStoppedBy_5 rfl rfl ?_
    refine j_get X inX2 rfl (pc' := 9) 65 3 q_fl_X2_21 (by decide) rfl rfl dX2_isStoppedBy_6 rfl ?_
    refine j_iconst X (v := 1) (pc' := 10) dX2_isStoppedBy_9 (by decide) rfl ?_
    refine j_iadd X (pc' := 11) dX2_isStoppedBy_10 rfl ?_
    refine j_put X inX2 rfl (pc' := 14) tyX2_ok nmX2 (S := upx S 8 (up (S 8) 3 0 (((S 8) 3 0) + 1))) (fun S_11 => wX cI cH cO ad ar S_11) 65 3 q_fl_X2_21 (by decide) rfl rfl rfl rfl (Nat.le_of_ble_eq_true rfl) rfl dX2_isStoppedBy_11 rfl (fun S_11 eS_11 => ?_)
    refine j_iconst X (v := 0) (pc' := 15) dX2_isStoppedBy_14 (by decide) rfl ?_
    exact j_zretI X rfl rfl rfl dX2_isStoppedBy_15
theorem c_X2_isStoppedBy (l : Launch) (D : va_G) (cI cH cO : ClassId) (ad : Nat → Nat) (ar : Nat → Nat → Nat) (S : Xst) (x1 : Int32)  : MI l yX2_isStoppedBy cX2_isStoppedBy 2 (some .boolean) 0 D (tyl cI cH cO) [.ref (ad 9), .int x1] (wX cI cH cO ad ar S) (sX2_isStoppedBy S x1).1 (wX cI cH cO ad ar (sX2_isStoppedBy S x1).2) := fun sz => j_start (fun below s => (KI below [.ref (ad 9), .int x1].toArray s D (tyl cI cH cO) (wX cI cH cO ad ar S) (fun C9 => wX cI cH cO ad ar C9))) (sX2_isStoppedBy S x1) (by decide +kernel) rfl (Nat.le_of_ble_eq_true rfl) (fun below s hs _ => by subst hs; rfl) (fun p e s m below meth c hX9 X => b_X2_isStoppedBy ad ar S x1  X)
