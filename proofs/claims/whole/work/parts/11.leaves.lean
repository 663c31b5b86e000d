set_option maxHeartbeats 4000000 in
set_option maxRecDepth 100000 in
theorem b_X4_isUnits {p : Program} {l : Launch} {e : Env} {s : State} {m : MethodId} {args : Array Value} {below : List Frame} {meth : Method} {c : Code} {D : va_G} {cI cH cO : ClassId} (x0 : Int32)  (X : CX p s m args meth c cX4_isUnits 1 RX4 (some .boolean) D (tyl cI cH cO) (va_A ([]) s.heap.size)) : J p l e (rml 0) s m args below meth c 1 D (va_A ([]) s.heap.size) 0 0 (KP below args s D (tyl cI cH cO) ([])) (sX4_isUnits x0) ([]) 0 [(0, .int x0)] [] := by
  unfold sX4_isUnits
  refine j_iload_n X (pc' := 1) 0 dX4_isUnits_0 rfl rfl rfl ?_
  refine j_if_lt X (tgt := 14) (pc' := 4) dX4_isUnits_1 (by decide) rfl (fun c_1 => ?_) (fun c_1 => ?_)
  · refine j_iconst X (v := 0) (pc' := 15) dX4_isUnits_14 (by decide) rfl ?_
    exact j_zretP X rfl rfl rfl dX4_isUnits_15
  · refine j_iload_n X (pc' := 5) 0 dX4_isUnits_4 rfl rfl rfl ?_
    refine j_bipush X (v := 20) (pc' := 7) dX4_isUnits_5 (by decide) rfl ?_
    refine j_icmp_gt X (tgt := 14) (pc' := 10) dX4_isUnits_7 (by decide) rfl (fun c_7 => ?_) (fun c_7 => ?_)
    · refine j_iconst X (v := 0) (pc' := 15) dX4_isUnits_14 (by decide) rfl ?_
      exact j_zretP X rfl rfl rfl dX4_isUnits_15
    · refine j_iconst X (v := 1) (pc' := 11) dX4_isUnits_10 (by decide) rfl ?_
      refine j_goto X (pc' := 15) dX4_isUnits_11 (by decide) ?_
      exact j_zretP X rfl rfl rfl dX4_isUnits_15
theorem c_X4_isUnits (l : Launch) (D : va_G) (cI cH cO : ClassId) (x0 : Int32)  : MI l yX4_isUnits cX4_isUnits 1 (some .boolean) 0 D (tyl cI cH cO) [.int x0] ([]) (sX4_isUnits x0) ([]) := fun sz => j_start (fun below s => (KP below [.int x0].toArray s D (tyl cI cH cO) ([]))) (sX4_isUnits x0) (by decide +kernel) rfl (Nat.le_of_ble_eq_true rfl) (fun below s hs _ => by subst hs; rfl) (fun p e s m below meth c hX9 X => b_X4_isUnits x0  X)
set_option maxHeartbeats 4000000 in
set_option maxRecDepth 100000 in
theorem b_X4_quotient {p : Program} {l : Launch} {e : Env} {s : State} {m : MethodId} {args : Array Value} {below : List Frame} {meth : Method} {c : Code} {D : va_G} {cI cH cO : ClassId} (x0 : Int32) (x1 : Int32)  (X : CX p s m args meth c cX4_quotient 2 RX4 (some .int) D (tyl cI cH cO) (va_A ([]) s.heap.size)) : J p l e (rml 0) s m args below meth c 2 D (va_A ([]) s.heap.size) 0 0 (KP below args s D (tyl cI cH cO) ([])) (sX4_quotient x0 x1) ([]) 0 [(0, .int x0), (1, .int x1)] [] := by
  unfold sX4_quotient
  refine j_iload_n X (pc' := 1) 1 dX4_quotient_0 rfl rfl rfl ?_
  refine j_iconst X (v := 1) (pc' := 2) dX4_quotient_1 (by decide) rfl ?_
  refine j_icmp_ge X (tgt := 9) (pc' := 5) dX4_quotient_2 (by decide) rfl (fun c_2 => ?_) (fun c_2 => ?_)
  · refine j_iload_n X (pc' := 10) 0 dX4_quotient_9 rfl rfl rfl ?_
    refine j_iload_n X (pc' := 11) 1 dX4_quotient_10 rfl rfl rfl ?_
    refine j_idiv X (pc' := 12) dX4_quotient_11 (by rintro rfl; exact absurd c_2 (by decide)) rfl ?_
    exact j_iretP X rfl rfl dX4_quotient_12
  · refine j_iconst X (v := 0) (pc' := 6) dX4_quotient_5 (by decide) rfl ?_
    refine j_goto X (pc' := 12) dX4_quotient_6 (by decide) ?_
    exact j_iretP X rfl rfl dX4_quotient_12
theorem c_X4_quotient (l : Launch) (D : va_G) (cI cH cO : ClassId) (x0 : Int32) (x1 : Int32)  : MI l yX4_quotient cX4_quotient 2 (some .int) 0 D (tyl cI cH cO) [.int x0, .int x1] ([]) (sX4_quotient x0 x1) ([]) := fun sz => j_start (fun below s => (KP below [.int x0, .int x1].toArray s D (tyl cI cH cO) ([]))) (sX4_quotient x0 x1) (by decide +kernel) rfl (Nat.le_of_ble_eq_true rfl) (fun below s hs _ => by subst hs; rfl) (fun p e s m below meth c hX9 X => b_X4_quotient x0 x1  X)
set_option maxHeartbeats 4000000 in
set_option maxRecDepth 100000 in
theorem b_X4_sumOf_2 {p : Program} {l : Launch} {e : Env} {s : State} {m : MethodId} {args : Array Value} {below : List Frame} {meth : Method} {c : Code} {D : va_G} {cI cH cO : ClassId} (h : Nat) (ar : Nat → Nat) (C : Cst)  (X : CX p s m args meth c cX4_sumOf 3 RX4 (some .int) D (tyl cI cH cO) (va_A ((wC cI h ar C)) s.heap.size)) : J p l e (rml 0) s m args below meth c 3 D (va_A ((wC cI h ar C)) s.heap.size) 0 0 (KP below args s D (tyl cI cH cO) ((wC cI h ar C))) (sX4_sumOf_2 C) ((wC cI h ar C)) 0 [(0, .ref (ar 2))] [] := by
  unfold sX4_sumOf_2
  refine j_ltl2 (fun L4 eL4 => ?_)
  have hL4 : ∀ (n4 : Nat) (x1 : Int32) (i2 : Nat) (hi : i2 ≤ 8) (hfu : 9 ≤ i2 + n4), J p l e (rml 0) s m args below meth c 3 D (va_A ((wC cI h ar C)) s.heap.size) 0 0 (KP below args s D (tyl cI cH cO) ((wC cI h ar C))) (L4 n4 x1 i2) ((wC cI h ar C)) 4 [(0, .ref (ar 2)), (1, .int x1), (2, .int (nI i2))] [] := by
    intro n4
    induction n4 with
    | zero =>
      intro x1 i2 hi hfu
      exact absurd hfu (by omega)
    | succ n4 ih4 =>
      intro x1 i2 hi hfu
      rw [eL4]
      refine j_iload_n X (pc' := 5) 2 dX4_sumOf_4 rfl rfl rfl ?_
      refine j_aload_n X (pc' := 6) 0 dX4_sumOf_5 rfl rfl rfl ?_
      refine j_alen X (v := 8) (pc' := 7) 3 0 rfl rfl rfl dX4_sumOf_6 rfl ?_
      refine j_icmp_ge X (tgt := 22) (pc' := 10) dX4_sumOf_7 (by decide) rfl (fun c_7 => ?_) (fun c_7 => ?_)
      · have f_7 : 8 ≤ i2 := (nI_leI (a := 8) (b := i2) (by omega) (by omega)).mp c_7
        refine j_iload_n X (pc' := 23) 1 dX4_sumOf_22 rfl rfl rfl ?_
        exact j_iretP X rfl rfl dX4_sumOf_23
      · have f_7 : ¬ (8 ≤ i2) := fun h => c_7 ((nI_leI (a := 8) (b := i2) (by omega) (by omega)).mpr h)
        refine j_iload_n X (pc' := 11) 1 dX4_sumOf_10 rfl rfl rfl ?_
        refine j_aload_n X (pc' := 12) 0 dX4_sumOf_11 rfl rfl rfl ?_
        refine j_iload_n X (pc' := 13) 2 dX4_sumOf_12 rfl rfl rfl ?_
        refine j_ialdN X (i := i2) (pc' := 14) 3 rfl (by omega) (by decide) dX4_sumOf_13 rfl ?_
        refine j_iadd X (pc' := 15) dX4_sumOf_14 rfl ?_
        refine j_istore_nL X (fun v1_15 => [(0, .ref (ar 2)), (1, .int v1_15), (2, .int (nI i2))]) [1, 0, 2] (pc' := 16) dX4_sumOf_15 rfl (by decide) (fun _ => rfl) rfl (fun v1_15 ev1_15 => ?_)
        refine j_iinc X (v := (nI (i2 + 1))) (lv' := [(0, .ref (ar 2)), (1, .int v1_15), (2, .int (nI (i2 + 1)))]) (q := 2) (pc' := 19) [1, 2, 0] dX4_sumOf_16 rfl (nI_1 i2) (by decide) rfl rfl ?_
        refine j_goto X (pc' := 4) dX4_sumOf_19 (by decide) ?_
        refine j_lv [0, 1, 2] (lv' := [(0, .ref (ar 2)), (1, .int v1_15), (2, .int (nI (i2 + 1)))]) rfl ?_
        exact ih4 _ _ (by first | omega | assumption | decide | (subst_vars; first | assumption | omega)) (by first | omega | assumption | decide | (subst_vars; first | assumption | omega))
  refine j_iconst X (v := 0) (pc' := 1) dX4_sumOf_0 (by decide) rfl ?_
  refine j_istore_n X (lv' := [(0, .ref (ar 2)), (1, .int 0)]) (pc' := 2) [1, 0] dX4_sumOf_1 rfl (by decide) rfl rfl ?_
  refine j_iconst X (v := 0) (pc' := 3) dX4_sumOf_2 (by decide) rfl ?_
  refine j_istore_n X (lv' := [(0, .ref (ar 2)), (1, .int 0), (2, .int 0)]) (pc' := 4) [1, 2, 0] dX4_sumOf_3 rfl (by decide) rfl rfl ?_
  refine j_lv [0, 1, 2] (lv' := [(0, .ref (ar 2)), (1, .int 0), (2, .int 0)]) rfl ?_
  exact hL4 _ _ _ (by first | omega | assumption | decide | (subst_vars; first | assumption | omega)) (by first | omega | assumption | decide | (subst_vars; first | assumption | omega))
theorem c_X4_sumOf_2 (l : Launch) (D : va_G) (cI cH cO : ClassId) (h : Nat) (ar : Nat → Nat) (C : Cst)  : MI l yX4_sumOf cX4_sumOf 3 (some .int) 0 D (tyl cI cH cO) [.ref (ar 2)] ((wC cI h ar C)) (sX4_sumOf_2 C) ((wC cI h ar C)) := fun sz => j_start (fun below s => (KP below [.ref (ar 2)].toArray s D (tyl cI cH cO) ((wC cI h ar C)))) (sX4_sumOf_2 C) (by decide +kernel) rfl (Nat.le_of_ble_eq_true rfl) (fun below s hs _ => by subst hs; rfl) (fun p e s m below meth c hX9 X => b_X4_sumOf_2 h ar C  X)
set_option maxHeartbeats 4000000 in
set_option maxRecDepth 100000 in
theorem b_X4_sumOf_3 {p : Program} {l : Launch} {e : Env} {s : State} {m : MethodId} {args : Array Value} {below : List Frame} {meth : Method} {c : Code} {D : va_G} {cI cH cO : ClassId} (h : Nat) (ar : Nat → Nat) (C : Cst)  (X : CX p s m args meth c cX4_sumOf 3 RX4 (some .int) D (tyl cI cH cO) (va_A ((wC cI h ar C)) s.heap.size)) : J p l e (rml 0) s m args below meth c 3 D (va_A ((wC cI h ar C)) s.heap.size) 0 0 (KP below args s D (tyl cI cH cO) ((wC cI h ar C))) (sX4_sumOf_3 C) ((wC cI h ar C)) 0 [(0, .ref (ar 3))] [] := by
  unfold sX4_sumOf_3
  refine j_ltl2 (fun L4 eL4 => ?_)
  have hL4 : ∀ (n4 : Nat) (x1 : Int32) (i2 : Nat) (hi : i2 ≤ 8) (hfu : 9 ≤ i2 + n4), J p l e (rml 0) s m args below meth c 3 D (va_A ((wC cI h ar C)) s.heap.size) 0 0 (KP below args s D (tyl cI cH cO) ((wC cI h ar C))) (L4 n4 x1 i2) ((wC cI h ar C)) 4 [(0, .ref (ar 3)), (1, .int x1), (2, .int (nI i2))] [] := by
    intro n4
    induction n4 with
    | zero =>
      intro x1 i2 hi hfu
      exact absurd hfu (by omega)
    | succ n4 ih4 =>
      intro x1 i2 hi hfu
      rw [eL4]
      refine j_iload_n X (pc' := 5) 2 dX4_sumOf_4 rfl rfl rfl ?_
      refine j_aload_n X (pc' := 6) 0 dX4_sumOf_5 rfl rfl rfl ?_
      refine j_alen X (v := 8) (pc' := 7) 4 0 rfl rfl rfl dX4_sumOf_6 rfl ?_
      refine j_icmp_ge X (tgt := 22) (pc' := 10) dX4_sumOf_7 (by decide) rfl (fun c_7 => ?_) (fun c_7 => ?_)
      · have f_7 : 8 ≤ i2 := (nI_leI (a := 8) (b := i2) (by omega) (by omega)).mp c_7
        refine j_iload_n X (pc' := 23) 1 dX4_sumOf_22 rfl rfl rfl ?_
        exact j_iretP X rfl rfl dX4_sumOf_23
      · have f_7 : ¬ (8 ≤ i2) := fun h => c_7 ((nI_leI (a := 8) (b := i2) (by omega) (by omega)).mpr h)
        refine j_iload_n X (pc' := 11) 1 dX4_sumOf_10 rfl rfl rfl ?_
        refine j_aload_n X (pc' := 12) 0 dX4_sumOf_11 rfl rfl rfl ?_
        refine j_iload_n X (pc' := 13) 2 dX4_sumOf_12 rfl rfl rfl ?_
        refine j_ialdN X (i := i2) (pc' := 14) 4 rfl (by omega) (by decide) dX4_sumOf_13 rfl ?_
        refine j_iadd X (pc' := 15) dX4_sumOf_14 rfl ?_
        refine j_istore_nL X (fun v1_15 => [(0, .ref (ar 3)), (1, .int v1_15), (2, .int (nI i2))]) [1, 0, 2] (pc' := 16) dX4_sumOf_15 rfl (by decide) (fun _ => rfl) rfl (fun v1_15 ev1_15 => ?_)
        refine j_iinc X (v := (nI (i2 + 1))) (lv' := [(0, .ref (ar 3)), (1, .int v1_15), (2, .int (nI (i2 + 1)))]) (q := 2) (pc' := 19) [1, 2, 0] dX4_sumOf_16 rfl (nI_1 i2) (by decide) rfl rfl ?_
        refine j_goto X (pc' := 4) dX4_sumOf_19 (by decide) ?_
        refine j_lv [0, 1, 2] (lv' := [(0, .ref (ar 3)), (1, .int v1_15), (2, .int (nI (i2 + 1)))]) rfl ?_
        exact ih4 _ _ (by first | omega | assumption | decide | (subst_vars; first | assumption | omega)) (by first | omega | assumption | decide | (subst_vars; first | assumption | omega))
  refine j_iconst X (v := 0) (pc' := 1) dX4_sumOf_0 (by decide) rfl ?_
  refine j_istore_n X (lv' := [(0, .ref (ar 3)), (1, .int 0)]) (pc' := 2) [1, 0] dX4_sumOf_1 rfl (by decide) rfl rfl ?_
  refine j_iconst X (v := 0) (pc' := 3) dX4_sumOf_2 (by decide) rfl ?_
  refine j_istore_n X (lv' := [(0, .ref (ar 3)), (1, .int 0), (2, .int 0)]) (pc' := 4) [1, 2, 0] dX4_sumOf_3 rfl (by decide) rfl rfl ?_
  refine j_lv [0, 1, 2] (lv' := [(0, .ref (ar 3)), (1, .int 0), (2, .int 0)]) rfl ?_
  exact hL4 _ _ _ (by first | omega | assumption | decide | (subst_vars; first | assumption | omega)) (by first | omega | assumption | decide | (subst_vars; first | assumption | omega))
theorem c_X4_sumOf_3 (l : Launch) (D : va_G) (cI cH cO : ClassId) (h : Nat) (ar : Nat → Nat) (C : Cst)  : MI l yX4_sumOf cX4_sumOf 3 (some .int) 0 D (tyl cI cH cO) [.ref (ar 3)] ((wC cI h ar C)) (sX4_sumOf_3 C) ((wC cI h ar C)) := fun sz => j_start (fun below s => (KP below [.ref (ar 3)].toArray s D (tyl cI cH cO) ((wC cI h ar C)))) (sX4_sumOf_3 C) (by decide +kernel) rfl (Nat.le_of_ble_eq_true rfl) (fun below s hs _ => by subst hs; rfl) (fun p e s m below meth c hX9 X => b_X4_sumOf_3 h ar C  X)
set_option maxHeartbeats 4000000 in
set_option maxRecDepth 100000 in
theorem b_X4_sumOf_5 {p : Program} {l : Launch} {e : Env} {s : State} {m : MethodId} {args : Array Value} {below : List Frame} {meth : Method} {c : Code} {D : va_G} {cI cH cO : ClassId} (h : Nat) (ar : Nat → Nat) (C : Cst)  (X : CX p s m args meth c cX4_sumOf 3 RX4 (some .int) D (tyl cI cH cO) (va_A ((wC cI h ar C)) s.heap.size)) : J p l e (rml 0) s m args below meth c 3 D (va_A ((wC cI h ar C)) s.heap.size) 0 0 (KP below args s D (tyl cI cH cO) ((wC cI h ar C))) (sX4_sumOf_5 C) ((wC cI h ar C)) 0 [(0, .ref (ar 5))] [] := by
  unfold sX4_sumOf_5
  refine j_ltl2 (fun L4 eL4 => ?_)
  have hL4 : ∀ (n4 : Nat) (x1 : Int32) (i2 : Nat) (hi : i2 ≤ 8) (hfu : 9 ≤ i2 + n4), J p l e (rml 0) s m args below meth c 3 D (va_A ((wC cI h ar C)) s.heap.size) 0 0 (KP below args s D (tyl cI cH cO) ((wC cI h ar C))) (L4 n4 x1 i2) ((wC cI h ar C)) 4 [(0, .ref (ar 5)), (1, .int x1), (2, .int (nI i2))] [] := by
    intro n4
    induction n4 with
    | zero =>
      intro x1 i2 hi hfu
      exact absurd hfu (by omega)
    | succ n4 ih4 =>
      intro x1 i2 hi hfu
      rw [eL4]
      refine j_iload_n X (pc' := 5) 2 dX4_sumOf_4 rfl rfl rfl ?_
      refine j_aload_n X (pc' := 6) 0 dX4_sumOf_5 rfl rfl rfl ?_
      refine j_alen X (v := 8) (pc' := 7) 6 0 rfl rfl rfl dX4_sumOf_6 rfl ?_
      refine j_icmp_ge X (tgt := 22) (pc' := 10) dX4_sumOf_7 (by decide) rfl (fun c_7 => ?_) (fun c_7 => ?_)
      · have f_7 : 8 ≤ i2 := (nI_leI (a := 8) (b := i2) (by omega) (by omega)).mp c_7
        refine j_iload_n X (pc' := 23) 1 dX4_sumOf_22 rfl rfl rfl ?_
        exact j_iretP X rfl rfl dX4_sumOf_23
      · have f_7 : ¬ (8 ≤ i2) := fun h => c_7 ((nI_leI (a := 8) (b := i2) (by omega) (by omega)).mpr h)
        refine j_iload_n X (pc' := 11) 1 dX4_sumOf_10 rfl rfl rfl ?_
        refine j_aload_n X (pc' := 12) 0 dX4_sumOf_11 rfl rfl rfl ?_
        refine j_iload_n X (pc' := 13) 2 dX4_sumOf_12 rfl rfl rfl ?_
        refine j_ialdN X (i := i2) (pc' := 14) 6 rfl (by omega) (by decide) dX4_sumOf_13 rfl ?_
        refine j_iadd X (pc' := 15) dX4_sumOf_14 rfl ?_
        refine j_istore_nL X (fun v1_15 => [(0, .ref (ar 5)), (1, .int v1_15), (2, .int (nI i2))]) [1, 0, 2] (pc' := 16) dX4_sumOf_15 rfl (by decide) (fun _ => rfl) rfl (fun v1_15 ev1_15 => ?_)
        refine j_iinc X (v := (nI (i2 + 1))) (lv' := [(0, .ref (ar 5)), (1, .int v1_15), (2, .int (nI (i2 + 1)))]) (q := 2) (pc' := 19) [1, 2, 0] dX4_sumOf_16 rfl (nI_1 i2) (by decide) rfl rfl ?_
        refine j_goto X (pc' := 4) dX4_sumOf_19 (by decide) ?_
        refine j_lv [0, 1, 2] (lv' := [(0, .ref (ar 5)), (1, .int v1_15), (2, .int (nI (i2 + 1)))]) rfl ?_
        exact ih4 _ _ (by first | omega | assumption | decide | (subst_vars; first | assumption | omega)) (by first | omega | assumption | decide | (subst_vars; first | assumption | omega))
  refine j_iconst X (v := 0) (pc' := 1) dX4_sumOf_0 (by decide) rfl ?_
  refine j_istore_n X (lv' := [(0, .ref (ar 5)), (1, .int 0)]) (pc' := 2) [1, 0] dX4_sumOf_1 rfl (by decide) rfl rfl ?_
  refine j_iconst X (v := 0) (pc' := 3) dX4_sumOf_2 (by decide) rfl ?_
  refine j_istore_n X (lv' := [(0, .ref (ar 5)), (1, .int 0), (2, .int 0)]) (pc' := 4) [1, 2, 0] dX4_sumOf_3 rfl (by decide) rfl rfl ?_
  refine j_lv [0, 1, 2] (lv' := [(0, .ref (ar 5)), (1, .int 0), (2, .int 0)]) rfl ?_
  exact hL4 _ _ _ (by first | omega | assumption | decide | (subst_vars; first | assumption | omega)) (by first | omega | assumption | decide | (subst_vars; first | assumption | omega))
theorem c_X4_sumOf_5 (l : Launch) (D : va_G) (cI cH cO : ClassId) (h : Nat) (ar : Nat → Nat) (C : Cst)  : MI l yX4_sumOf cX4_sumOf 3 (some .int) 0 D (tyl cI cH cO) [.ref (ar 5)] ((wC cI h ar C)) (sX4_sumOf_5 C) ((wC cI h ar C)) := fun sz => j_start (fun below s => (KP below [.ref (ar 5)].toArray s D (tyl cI cH cO) ((wC cI h ar C)))) (sX4_sumOf_5 C) (by decide +kernel) rfl (Nat.le_of_ble_eq_true rfl) (fun below s hs _ => by subst hs; rfl) (fun p e s m below meth c hX9 X => b_X4_sumOf_5 h ar C  X)
set_option maxHeartbeats 4000000 in
set_option maxRecDepth 100000 in
theorem b_X0_has {p : Program} {l : Launch} {e : Env} {s : State} {m : MethodId} {args : Array Value} {below : List Frame} {meth : Method} {c : Code} {D : va_G} {cI cH cO : ClassId} (h : Nat) (ar : Nat → Nat) (C : Cst) (x1 : Int32)  (X : CX p s m args meth c cX0_has 2 RX0 (some .boolean) D (tyl cI cH cO) (va_A ((wC cI h ar C)) s.heap.size)) : J p l e (rml 0) s m args below meth c 2 D (va_A ((wC cI h ar C)) s.heap.size) 0 0 (KP below args s D (tyl cI cH cO) ((wC cI h ar C))) (sX0_has C x1) ((wC cI h ar C)) 0 [(0, .ref h), (1, .int x1)] [] := by
  unfold sX0_has
  refine j_iload_n X (pc' := 1) 1 dX0_has_0 rfl rfl rfl ?_
  refine j_if_lt X (tgt := 22) (pc' := 4) dX0_has_1 (by decide) rfl (fun c_1 => ?_) (fun c_1 => ?_)
  · refine j_iconst X (v := 0) (pc' := 23) dX0_has_22 (by decide) rfl ?_
    exact j_zretP X rfl rfl rfl dX0_has_23
  · refine j_iload_n X (pc' := 5) 1 dX0_has_4 rfl rfl rfl ?_
    refine j_aload_n X (pc' := 6) 0 dX0_has_5 rfl rfl rfl ?_
    refine j_get X inX0 rfl (pc' := 9) 0 9 q_fl_X0_47 (by decide) rfl rfl dX0_has_6 rfl ?_
    refine j_icmp_ge X (tgt := 22) (pc' := 12) dX0_has_9 (by decide) rfl (fun c_9 => ?_) (fun c_9 => ?_)
    · refine j_iconst X (v := 0) (pc' := 23) dX0_has_22 (by decide) rfl ?_
      exact j_zretP X rfl rfl rfl dX0_has_23
    · refine j_iload_n X (pc' := 13) 1 dX0_has_12 rfl rfl rfl ?_
      refine j_bipush X (v := 8) (pc' := 15) dX0_has_13 (by decide) rfl ?_
      refine j_icmp_ge X (tgt := 22) (pc' := 18) dX0_has_15 (by decide) rfl (fun c_15 => ?_) (fun c_15 => ?_)
      · refine j_iconst X (v := 0) (pc' := 23) dX0_has_22 (by decide) rfl ?_
        exact j_zretP X rfl rfl rfl dX0_has_23
      · refine j_iconst X (v := 1) (pc' := 19) dX0_has_18 (by decide) rfl ?_
        refine j_goto X (pc' := 23) dX0_has_19 (by decide) ?_
        exact j_zretP X rfl rfl rfl dX0_has_23
theorem c_X0_has (l : Launch) (D : va_G) (cI cH cO : ClassId) (h : Nat) (ar : Nat → Nat) (C : Cst) (x1 : Int32)  : MI l yX0_has cX0_has 2 (some .boolean) 0 D (tyl cI cH cO) [.ref h, .int x1] ((wC cI h ar C)) (sX0_has C x1) ((wC cI h ar C)) := fun sz => j_start (fun below s => (KP below [.ref h, .int x1].toArray s D (tyl cI cH cO) ((wC cI h ar C)))) (sX0_has C x1) (by decide +kernel) rfl (Nat.le_of_ble_eq_true rfl) (fun below s hs _ => by subst hs; rfl) (fun p e s m below meth c hX9 X => b_X0_has h ar C x1  X)
set_option maxHeartbeats 4000000 in
set_option maxRecDepth 100000 in
theorem b_X0_isOut {p : Program} {l : Launch} {e : Env} {s : State} {m : MethodId} {args : Array Value} {below : List Frame} {meth : Method} {c : Code} {D : va_G} {cI cH cO : ClassId} (h : Nat) (ar : Nat → Nat) (C : Cst) (x1 : Int32)  (X : CX p s m args meth c cX0_isOut 2 RX0 (some .boolean) D (tyl cI cH cO) (va_A ((wC cI h ar C)) s.heap.size)) : J p l e (rml 0) s m args below meth c 2 D (va_A ((wC cI h ar C)) s.heap.size) 0 0 (KP below args s D (tyl cI cH cO) ((wC cI h ar C))) (sX0_isOut C x1) ((wC cI h ar C)) 0 [(0, .ref h), (1, .int x1)] [] := by
  unfold sX0_isOut
  refine j_aload_n X (pc' := 1) 0 dX0_isOut_0 rfl rfl rfl ?_
  refine j_get X inX0 rfl (pc' := 4) 0 13 q_fl_X0_56 (by decide) rfl rfl dX0_isOut_1 rfl ?_
  refine j_iload_n X (pc' := 5) 1 dX0_isOut_4 rfl rfl rfl ?_
  refine j_ishr X (pc' := 6) dX0_isOut_5 rfl ?_
  refine j_iconst X (v := 1) (pc' := 7) dX0_isOut_6 (by decide) rfl ?_
  refine j_iand X (pc' := 8) dX0_isOut_7 rfl ?_
  refine j_iconst X (v := 1) (pc' := 9) dX0_isOut_8 (by decide) rfl ?_
  refine j_icmp_ne X (tgt := 16) (pc' := 12) dX0_isOut_9 (by decide) rfl (fun c_9 => ?_) (fun c_9 => ?_)
  · refine j_iconst X (v := 0) (pc' := 17) dX0_isOut_16 (by decide) rfl ?_
    exact j_zretP X rfl rfl rfl dX0_isOut_17
  · refine j_iconst X (v := 1) (pc' := 13) dX0_isOut_12 (by decide) rfl ?_
    refine j_goto X (pc' := 17) dX0_isOut_13 (by decide) ?_
    exact j_zretP X rfl rfl rfl dX0_isOut_17
theorem c_X0_isOut (l : Launch) (D : va_G) (cI cH cO : ClassId) (h : Nat) (ar : Nat → Nat) (C : Cst) (x1 : Int32)  : MI l yX0_isOut cX0_isOut 2 (some .boolean) 0 D (tyl cI cH cO) [.ref h, .int x1] ((wC cI h ar C)) (sX0_isOut C x1) ((wC cI h ar C)) := fun sz => j_start (fun below s => (KP below [.ref h, .int x1].toArray s D (tyl cI cH cO) ((wC cI h ar C)))) (sX0_isOut C x1) (by decide +kernel) rfl (Nat.le_of_ble_eq_true rfl) (fun below s hs _ => by subst hs; rfl) (fun p e s m below meth c hX9 X => b_X0_isOut h ar C x1  X)
set_option maxHeartbeats 4000000 in
set_option maxRecDepth 100000 in
theorem b_X0_damageOf {p : Program} {l : Launch} {e : Env} {s : State} {m : MethodId} {args : Array Value} {below : List Frame} {meth : Method} {c : Code} {D : va_G} {cI cH cO : ClassId} (h : Nat) (ar : Nat → Nat) (C : Cst) (x1 : Int32)  (X : CX p s m args meth c cX0_damageOf 3 RX0 (some .int) D (tyl cI cH cO) (va_A ((wC cI h ar C)) s.heap.size)) : J p l e (rml 0) s m args below meth c 3 D (va_A ((wC cI h ar C)) s.heap.size) 0 0 (KP below args s D (tyl cI cH cO) ((wC cI h ar C))) (sX0_damageOf C x1) ((wC cI h ar C)) 0 [(0, .ref h), (1, .int x1)] [] := by
  unfold sX0_damageOf
  refine j_aload_n X (pc' := 1) 0 dX0_damageOf_0 rfl rfl rfl ?_
  refine j_get X inX0 rfl (pc' := 4) 0 0 q_fl_X0_9 (by decide) rfl rfl dX0_damageOf_1 rfl ?_
  refine j_iconst X (v := 0) (pc' := 5) dX0_damageOf_4 (by decide) rfl ?_
  refine j_ialdN X (i := 0) (pc' := 6) 1 rfl (by omega) (by decide) dX0_damageOf_5 rfl ?_
  refine j_istore_nL X (fun v2_6 => [(0, .ref h), (1, .int x1), (2, .int v2_6)]) [1, 2, 0] (pc' := 7) dX0_damageOf_6 rfl (by decide) (fun _ => rfl) rfl (fun v2_6 ev2_6 => ?_)
  refine j_iload_n X (pc' := 8) 2 dX0_damageOf_7 rfl rfl rfl ?_
  refine j_iconst X (v := 1) (pc' := 9) dX0_damageOf_8 (by decide) rfl ?_
  refine j_icmp_ge X (tgt := 16) (pc' := 12) dX0_damageOf_9 (by decide) rfl (fun c_9 => ?_) (fun c_9 => ?_)
  · refine j_iload_n X (pc' := 17) 1 dX0_damageOf_16 rfl rfl rfl ?_
    refine j_iload_n X (pc' := 18) 1 dX0_damageOf_17 rfl rfl rfl ?_
    refine j_imul X (pc' := 19) dX0_damageOf_18 rfl ?_
    refine j_iload_n X (pc' := 20) 2 dX0_damageOf_19 rfl rfl rfl ?_
    refine j_idiv X (pc' := 21) dX0_damageOf_20 (by rintro rfl; exact absurd c_9 (by decide)) rfl ?_
    exact j_iretP X rfl rfl dX0_damageOf_21
  · refine j_iconst X (v := 0) (pc' := 13) dX0_damageOf_12 (by decide) rfl ?_
    refine j_goto X (pc' := 21) dX0_damageOf_13 (by decide) ?_
    exact j_iretP X rfl rfl dX0_damageOf_21
theorem c_X0_damageOf (l : Launch) (D : va_G) (cI cH cO : ClassId) (h : Nat) (ar : Nat → Nat) (C : Cst) (x1 : Int32)  : MI l yX0_damageOf cX0_damageOf 3 (some .int) 0 D (tyl cI cH cO) [.ref h, .int x1] ((wC cI h ar C)) (sX0_damageOf C x1) ((wC cI h ar C)) := fun sz => j_start (fun below s => (KP below [.ref h, .int x1].toArray s D (tyl cI cH cO) ((wC cI h ar C)))) (sX0_damageOf C x1) (by decide +kernel) rfl (Nat.le_of_ble_eq_true rfl) (fun below s hs _ => by subst hs; rfl) (fun p e s m below meth c hX9 X => b_X0_damageOf h ar C x1  X)
set_option maxHeartbeats 4000000 in
set_option maxRecDepth 100000 in
theorem b_X0_placeOf {p : Program} {l : Launch} {e : Env} {s : State} {m : MethodId} {args : Array Value} {below : List Frame} {meth : Method} {c : Code} {D : va_G} {cI cH cO : ClassId} (h : Nat) (ar : Nat → Nat) (C : Cst) (x1 : Int32)  (X : CX p s m args meth c cX0_placeOf 3 RX0 (some .int) D (tyl cI cH cO) (va_A ((wC cI h ar C)) s.heap.size)) : J p l e (rml 0) s m args below meth c 3 D (va_A ((wC cI h ar C)) s.heap.size) 0 0 (KP below args s D (tyl cI cH cO) ((wC cI h ar C))) (sX0_placeOf C x1) ((wC cI h ar C)) 0 [(0, .ref h), (1, .int x1)] [] := by
  unfold sX0_placeOf
  refine j_aload_n X (pc' := 1) 0 dX0_placeOf_0 rfl rfl rfl ?_
  refine j_get X inX0 rfl (pc' := 4) 0 9 q_fl_X0_47 (by decide) rfl rfl dX0_placeOf_1 rfl ?_
  refine j_iconst X (v := 1) (pc' := 5) dX0_placeOf_4 (by decide) rfl ?_
  refine j_icmp_ge X (tgt := 10) (pc' := 8) dX0_placeOf_5 (by decide) rfl (fun c_5 => ?_) (fun c_5 => ?_)
  · refine j_aload_n X (pc' := 11) 0 dX0_placeOf_10 rfl rfl rfl ?_
    refine j_get X inX0 rfl (pc' := 14) 0 10 q_fl_X0_50 (by decide) rfl rfl dX0_placeOf_11 rfl ?_
    refine j_aload_n X (pc' := 15) 0 dX0_placeOf_14 rfl rfl rfl ?_
    refine j_get X inX0 rfl (pc' := 18) 0 9 q_fl_X0_47 (by decide) rfl rfl dX0_placeOf_15 rfl ?_
    refine j_irem X (pc' := 19) dX0_placeOf_18 (by intro h; rw [h] at c_5; exact absurd c_5 (by decide)) rfl ?_
    refine j_istore_nL X (fun v2_19 => [(0, .ref h), (1, .int x1), (2, .int v2_19)]) [1, 2, 0] (pc' := 20) dX0_placeOf_19 rfl (by decide) (fun _ => rfl) rfl (fun v2_19 ev2_19 => ?_)
    refine j_iload_n X (pc' := 21) 1 dX0_placeOf_20 rfl rfl rfl ?_
    refine j_iload_n X (pc' := 22) 2 dX0_placeOf_21 rfl rfl rfl ?_
    refine j_icmp_lt X (tgt := 31) (pc' := 25) dX0_placeOf_22 (by decide) rfl (fun c_22 => ?_) (fun c_22 => ?_)
    · refine j_iload_n X (pc' := 32) 1 dX0_placeOf_31 rfl rfl rfl ?_
      refine j_iload_n X (pc' := 33) 2 dX0_placeOf_32 rfl rfl rfl ?_
      refine j_isub X (pc' := 34) dX0_placeOf_33 rfl ?_
      refine j_aload_n X (pc' := 35) 0 dX0_placeOf_34 rfl rfl rfl ?_
      refine j_get X inX0 rfl (pc' := 38) 0 9 q_fl_X0_47 (by decide) rfl rfl dX0_placeOf_35 rfl ?_
      refine j_iadd X (pc' := 39) dX0_placeOf_38 rfl ?_
      exact j_iretP X rfl rfl dX0_placeOf_39
    · refine j_iload_n X (pc' := 26) 1 dX0_placeOf_25 rfl rfl rfl ?_
      refine j_iload_n X (pc' := 27) 2 dX0_placeOf_26 rfl rfl rfl ?_
      refine j_isub X (pc' := 28) dX0_placeOf_27 rfl ?_
      refine j_goto X (pc' := 39) dX0_placeOf_28 (by decide) ?_
      exact j_iretP X rfl rfl dX0_placeOf_39
  · refine j_iconst X (v := 0) (pc' := 9) dX0_placeOf_8 (by decide) rfl ?_
    exact j_iretP X rfl rfl dX0_placeOf_9
theorem c_X0_placeOf (l : Launch) (D : va_G) (cI cH cO : ClassId) (h : Nat) (ar : Nat → Nat) (C : Cst) (x1 : Int32)  : MI l yX0_placeOf cX0_placeOf 3 (some .int) 0 D (tyl cI cH cO) [.ref h, .int x1] ((wC cI h ar C)) (sX0_placeOf C x1) ((wC cI h ar C)) := fun sz => j_start (fun below s => (KP below [.ref h, .int x1].toArray s D (tyl cI cH cO) ((wC cI h ar C)))) (sX0_placeOf C x1) (by decide +kernel) rfl (Nat.le_of_ble_eq_true rfl) (fun below s hs _ => by subst hs; rfl) (fun p e s m below meth c hX9 X => b_X0_placeOf h ar C x1  X)
