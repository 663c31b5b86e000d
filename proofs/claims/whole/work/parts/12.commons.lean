set_option maxHeartbeats 4000000 in
set_option maxRecDepth 100000 in
theorem b_X0_allUnits {p : Program} {l : Launch} {e : Env} {s : State} {m : MethodId} {args : Array Value} {below : List Frame} {meth : Method} {c : Code} {D : va_G} {cI cH cO : ClassId} (h : Nat) (ar : Nat → Nat) (C : Cst)  (X : CX p s m args meth c cX0_allUnits 1 RX0 (some .int) D (tyl cI cH cO) (va_A ((wC cI h ar C)) s.heap.size)) : J p l e (rml 1) s m args below meth c 1 D (va_A ((wC cI h ar C)) s.heap.size) 0 0 (KP below args s D (tyl cI cH cO) ((wC cI h ar C))) (sX0_allUnits C) ((wC cI h ar C)) 0 [(0, .ref h)] [] := by
  unfold sX0_allUnits
  refine j_aload_n X (pc' := 1) 0 dX0_allUnits_0 rfl rfl rfl ?_
  refine j_get X inX0 rfl (pc' := 4) 0 2 q_fl_X0_18 (by decide) rfl rfl dX0_allUnits_1 rfl ?_
  refine j_callNi X (pc' := 7) (As := [.ref (ar 2)]) (rest := []) (c_X4_sumOf_2 l D cI cH cO h ar C ) X.2.2.1.2.2.2.2.2.2.1 wn_X0_68 ⟨by decide, by decide, by decide, by decide⟩ rfl rfl (Nat.le_of_ble_eq_true rfl) dX0_allUnits_4 rfl ?_
  refine j_topL (fun r_4 er_4 => ?_)
  exact j_iretP X rfl rfl dX0_allUnits_7
theorem c_X0_allUnits (l : Launch) (D : va_G) (cI cH cO : ClassId) (h : Nat) (ar : Nat → Nat) (C : Cst)  : MI l yX0_allUnits cX0_allUnits 1 (some .int) 1 D (tyl cI cH cO) [.ref h] ((wC cI h ar C)) (sX0_allUnits C) ((wC cI h ar C)) := fun sz => j_start (fun below s => (KP below [.ref h].toArray s D (tyl cI cH cO) ((wC cI h ar C)))) (sX0_allUnits C) (by decide +kernel) rfl (Nat.le_of_ble_eq_true rfl) (fun below s hs _ => by subst hs; rfl) (fun p e s m below meth c hX9 X => b_X0_allUnits h ar C  X)
set_option maxHeartbeats 4000000 in
set_option maxRecDepth 100000 in
theorem b_X0_unitsAhead {p : Program} {l : Launch} {e : Env} {s : State} {m : MethodId} {args : Array Value} {below : List Frame} {meth : Method} {c : Code} {D : va_G} {cI cH cO : ClassId} (h : Nat) (ar : Nat → Nat) (C : Cst) (x1 : Int32)  (X : CX p s m args meth c cX0_unitsAhead 5 RX0 (some .int) D (tyl cI cH cO) (va_A ((wC cI h ar C)) s.heap.size)) : J p l e (rml 1) s m args below meth c 5 D (va_A ((wC cI h ar C)) s.heap.size) 0 0 (KP below args s D (tyl cI cH cO) ((wC cI h ar C))) (sX0_unitsAhead C x1) ((wC cI h ar C)) 0 [(0, .ref h), (1, .int x1)] [] := by
  unfold sX0_unitsAhead
  refine j_ltl3 (fun L11 eL11 => ?_)
  have hL11 : ∀ (n11 : Nat) (x2 : Int32) (x3 : Int32) (i4 : Nat) (hi : i4 ≤ 8) (hfu : 9 ≤ i4 + n11), J p l e (rml 1) s m args below meth c 5 D (va_A ((wC cI h ar C)) s.heap.size) 0 0 (KP below args s D (tyl cI cH cO) ((wC cI h ar C))) (L11 n11 x2 x3 i4) ((wC cI h ar C)) 11 [(0, .ref h), (2, .int x2), (3, .int x3), (4, .int (nI i4))] [] := by
    intro n11
    induction n11 with
    | zero =>
      intro x2 x3 i4 hi hfu
      exact absurd hfu (by omega)
    | succ n11 ih11 =>
      intro x2 x3 i4 hi hfu
      rw [eL11]
      refine j_ltv (fun K38 eK38 => ?_)
      have hK38 : ∀ (x2 : Int32) (x3 : Int32) (i4 : Nat) (hi : i4 < 8) (hfu : 9 ≤ i4 + (n11 + 1)), J p l e (rml 1) s m args below meth c 5 D (va_A ((wC cI h ar C)) s.heap.size) 0 0 (KP below args s D (tyl cI cH cO) ((wC cI h ar C))) (K38 x2 x3 i4) ((wC cI h ar C)) 38 [(0, .ref h), (2, .int x2), (3, .int x3), (4, .int (nI i4))] [] := by
        intro x2 x3 i4 hi hfu
        rw [eK38]
        refine j_iinc X (v := (nI (i4 + 1))) (lv' := [(0, .ref h), (2, .int x2), (3, .int x3), (4, .int (nI (i4 + 1)))]) (q := 3) (pc' := 41) [1, 2, 3, 0] dX0_unitsAhead_38 rfl (nI_1 i4) (by decide) rfl rfl ?_
        refine j_goto X (pc' := 11) dX0_unitsAhead_41 (by decide) ?_
        refine j_lv [0, 1, 2, 3] (lv' := [(0, .ref h), (2, .int x2), (3, .int x3), (4, .int (nI (i4 + 1)))]) rfl ?_
        exact ih11 _ _ _ (by first | omega | assumption | decide | (subst_vars; first | assumption | omega)) (by first | omega | assumption | decide | (subst_vars; first | assumption | omega))
      refine j_iload X (pc' := 13) 3 dX0_unitsAhead_11 rfl rfl ?_
      refine j_bipush X (v := 8) (pc' := 15) dX0_unitsAhead_13 (by decide) rfl ?_
      refine j_icmp_ge X (tgt := 44) (pc' := 18) dX0_unitsAhead_15 (by decide) rfl (fun c_15 => ?_) (fun c_15 => ?_)
      · have f_15 : 8 ≤ i4 := (nI_leI (a := 8) (b := i4) (by omega) (by omega)).mp c_15
        refine j_iload_n X (pc' := 45) 2 dX0_unitsAhead_44 rfl rfl rfl ?_
        exact j_iretP X rfl rfl dX0_unitsAhead_45
      · have f_15 : ¬ (8 ≤ i4) := fun h => c_15 ((nI_leI (a := 8) (b := i4) (by omega) (by omega)).mpr h)
        refine j_aload_n X (pc' := 19) 0 dX0_unitsAhead_18 rfl rfl rfl ?_
        refine j_iload X (pc' := 21) 3 dX0_unitsAhead_19 rfl rfl ?_
        refine j_callVi X (pc' := 24) (As := [.int (nI i4)]) (rest := []) (c_X0_placeOf l D cI cH cO h ar C (nI i4) ) wv_X0_72 ⟨0, 0, _, _, rfl, rfl, rfl⟩ ⟨by decide, by decide, by decide, by decide⟩ rfl rfl (Nat.le_of_ble_eq_true rfl) dX0_unitsAhead_21 rfl ?_
        refine j_topL (fun r_21 er_21 => ?_)
        refine j_iload_n X (pc' := 25) 1 dX0_unitsAhead_24 rfl rfl rfl ?_
        refine j_icmp_ge X (tgt := 38) (pc' := 28) dX0_unitsAhead_25 (by decide) rfl (fun c_25 => ?_) (fun c_25 => ?_)
        · refine j_lv [0, 1, 2, 3] (lv' := [(0, .ref h), (2, .int x2), (3, .int x3), (4, .int (nI i4))]) rfl ?_
          exact hK38 _ _ _ (by first | omega | assumption | decide | (subst_vars; first | assumption | omega)) (by first | omega | assumption | decide | (subst_vars; first | assumption | omega))
        · refine j_iload_n X (pc' := 29) 2 dX0_unitsAhead_28 rfl rfl rfl ?_
          refine j_aload_n X (pc' := 30) 0 dX0_unitsAhead_29 rfl rfl rfl ?_
          refine j_get X inX0 rfl (pc' := 33) 0 2 q_fl_X0_18 (by decide) rfl rfl dX0_unitsAhead_30 rfl ?_
          refine j_iload X (pc' := 35) 3 dX0_unitsAhead_33 rfl rfl ?_
          refine j_ialdN X (i := i4) (pc' := 36) 3 rfl (by omega) (by decide) dX0_unitsAhead_35 rfl ?_
          refine j_iadd X (pc' := 37) dX0_unitsAhead_36 rfl ?_
          refine j_istore_nL X (fun v3_37 => [(0, .ref h), (2, .int x2), (3, .int v3_37), (4, .int (nI i4))]) [1, 2, 0, 3] (pc' := 38) dX0_unitsAhead_37 rfl (by decide) (fun _ => rfl) rfl (fun v3_37 ev3_37 => ?_)
          refine j_lv [0, 1, 2, 3] (lv' := [(0, .ref h), (2, .int x2), (3, .int v3_37), (4, .int (nI i4))]) rfl ?_
          exact hK38 _ _ _ (by first | omega | assumption | decide | (subst_vars; first | assumption | omega)) (by first | omega | assumption | decide | (subst_vars; first | assumption | omega))
  refine j_aload_n X (pc' := 1) 0 dX0_unitsAhead_0 rfl rfl rfl ?_
  refine j_iload_n X (pc' := 2) 1 dX0_unitsAhead_1 rfl rfl rfl ?_
  refine j_callVi X (pc' := 5) (As := [.int x1]) (rest := []) (c_X0_placeOf l D cI cH cO h ar C x1 ) wv_X0_72 ⟨0, 0, _, _, rfl, rfl, rfl⟩ ⟨by decide, by decide, by decide, by decide⟩ rfl rfl (Nat.le_of_ble_eq_true rfl) dX0_unitsAhead_2 rfl ?_
  refine j_topL (fun r_2 er_2 => ?_)
  refine j_istore_n X (lv' := [(0, .ref h), (1, .int x1), (2, .int r_2)]) (pc' := 6) [1, 2, 0] dX0_unitsAhead_5 rfl (by decide) rfl rfl ?_
  refine j_iconst X (v := 0) (pc' := 7) dX0_unitsAhead_6 (by decide) rfl ?_
  refine j_istore_n X (lv' := [(0, .ref h), (1, .int x1), (2, .int r_2), (3, .int 0)]) (pc' := 8) [1, 2, 3, 0] dX0_unitsAhead_7 rfl (by decide) rfl rfl ?_
  refine j_iconst X (v := 0) (pc' := 9) dX0_unitsAhead_8 (by decide) rfl ?_
  refine j_istore X (lv' := [(0, .ref h), (1, .int x1), (2, .int r_2), (3, .int 0), (4, .int 0)]) (pc' := 11) [1, 2, 3, 4, 0] dX0_unitsAhead_9 (by decide) rfl rfl ?_
  refine j_lv [0, 2, 3, 4] (lv' := [(0, .ref h), (2, .int r_2), (3, .int 0), (4, .int 0)]) rfl ?_
  exact hL11 _ _ _ _ (by first | omega | assumption | decide | (subst_vars; first | assumption | omega)) (by first | omega | assumption | decide | (subst_vars; first | assumption | omega))
theorem c_X0_unitsAhead (l : Launch) (D : va_G) (cI cH cO : ClassId) (h : Nat) (ar : Nat → Nat) (C : Cst) (x1 : Int32)  : MI l yX0_unitsAhead cX0_unitsAhead 5 (some .int) 1 D (tyl cI cH cO) [.ref h, .int x1] ((wC cI h ar C)) (sX0_unitsAhead C x1) ((wC cI h ar C)) := fun sz => j_start (fun below s => (KP below [.ref h, .int x1].toArray s D (tyl cI cH cO) ((wC cI h ar C)))) (sX0_unitsAhead C x1) (by decide +kernel) rfl (Nat.le_of_ble_eq_true rfl) (fun below s hs _ => by subst hs; rfl) (fun p e s m below meth c hX9 X => b_X0_unitsAhead h ar C x1  X)
set_option maxHeartbeats 4000000 in
set_option maxRecDepth 100000 in
theorem b_X0_damageAdded {p : Program} {l : Launch} {e : Env} {s : State} {m : MethodId} {args : Array Value} {below : List Frame} {meth : Method} {c : Code} {D : va_G} {cI cH cO : ClassId} (h : Nat) (ar : Nat → Nat) (C : Cst) (x1 : Int32) (x2 : Int32)  (X : CX p s m args meth c cX0_damageAdded 3 RX0 (some .int) D (tyl cI cH cO) (va_A ((wC cI h ar C)) s.heap.size)) : J p l e (rml 1) s m args below meth c 3 D (va_A ((wC cI h ar C)) s.heap.size) 0 0 (KP below args s D (tyl cI cH cO) ((wC cI h ar C))) (sX0_damageAdded C x1 x2) ((wC cI h ar C)) 0 [(0, .ref h), (1, .int x1), (2, .int x2)] [] := by
  unfold sX0_damageAdded
  refine j_aload_n X (pc' := 1) 0 dX0_damageAdded_0 rfl rfl rfl ?_
  refine j_iload_n X (pc' := 2) 1 dX0_damageAdded_1 rfl rfl rfl ?_
  refine j_iload_n X (pc' := 3) 2 dX0_damageAdded_2 rfl rfl rfl ?_
  refine j_iadd X (pc' := 4) dX0_damageAdded_3 rfl ?_
  refine j_callVi X (pc' := 7) (As := [.int (x1 + x2)]) (rest := []) (c_X0_damageOf l D cI cH cO h ar C (x1 + x2) ) wv_X0_83 ⟨0, 0, _, _, rfl, rfl, rfl⟩ ⟨by decide, by decide, by decide, by decide⟩ rfl rfl (Nat.le_of_ble_eq_true rfl) dX0_damageAdded_4 rfl ?_
  refine j_topL (fun r_4 er_4 => ?_)
  refine j_aload_n X (pc' := 8) 0 dX0_damageAdded_7 rfl rfl rfl ?_
  refine j_iload_n X (pc' := 9) 1 dX0_damageAdded_8 rfl rfl rfl ?_
  refine j_callVi X (pc' := 12) (As := [.int x1]) (rest := [.int r_4]) (c_X0_damageOf l D cI cH cO h ar C x1 ) wv_X0_83 ⟨0, 0, _, _, rfl, rfl, rfl⟩ ⟨by decide, by decide, by decide, by decide⟩ rfl rfl (Nat.le_of_ble_eq_true rfl) dX0_damageAdded_9 rfl ?_
  refine j_topL (fun r_9 er_9 => ?_)
  refine j_isub X (pc' := 13) dX0_damageAdded_12 rfl ?_
  exact j_iretP X rfl rfl dX0_damageAdded_13
theorem c_X0_damageAdded (l : Launch) (D : va_G) (cI cH cO : ClassId) (h : Nat) (ar : Nat → Nat) (C : Cst) (x1 : Int32) (x2 : Int32)  : MI l yX0_damageAdded cX0_damageAdded 3 (some .int) 1 D (tyl cI cH cO) [.ref h, .int x1, .int x2] ((wC cI h ar C)) (sX0_damageAdded C x1 x2) ((wC cI h ar C)) := fun sz => j_start (fun below s => (KP below [.ref h, .int x1, .int x2].toArray s D (tyl cI cH cO) ((wC cI h ar C)))) (sX0_damageAdded C x1 x2) (by decide +kernel) rfl (Nat.le_of_ble_eq_true rfl) (fun below s hs _ => by subst hs; rfl) (fun p e s m below meth c hX9 X => b_X0_damageAdded h ar C x1 x2  X)
set_option maxHeartbeats 4000000 in
set_option maxRecDepth 100000 in
theorem b_X0_chargeOf {p : Program} {l : Launch} {e : Env} {s : State} {m : MethodId} {args : Array Value} {below : List Frame} {meth : Method} {c : Code} {D : va_G} {cI cH cO : ClassId} (h : Nat) (ar : Nat → Nat) (C : Cst) (i1 : Nat) (hi1 : i1 < 8) (X : CX p s m args meth c cX0_chargeOf 2 RX0 (some .int) D (tyl cI cH cO) (va_A ((wC cI h ar C)) s.heap.size)) : J p l e (rml 2) s m args below meth c 2 D (va_A ((wC cI h ar C)) s.heap.size) 0 0 (KP below args s D (tyl cI cH cO) ((wC cI h ar C))) (sX0_chargeOf C i1) ((wC cI h ar C)) 0 [(0, .ref h), (1, .int (nI i1))] [] := by
  unfold sX0_chargeOf
  refine j_aload_n X (pc' := 1) 0 dX0_chargeOf_0 rfl rfl rfl ?_
  refine j_aload_n X (pc' := 2) 0 dX0_chargeOf_1 rfl rfl rfl ?_
  refine j_iload_n X (pc' := 3) 1 dX0_chargeOf_2 rfl rfl rfl ?_
  refine j_callVi X (pc' := 6) (As := [.int (nI i1)]) (rest := [.ref h]) (c_X0_unitsAhead l D cI cH cO h ar C (nI i1) ) wv_X0_76 ⟨0, 0, _, _, rfl, rfl, rfl⟩ ⟨by decide, by decide, by decide, by decide⟩ rfl rfl (Nat.le_of_ble_eq_true rfl) dX0_chargeOf_3 rfl ?_
  refine j_topL (fun r_3 er_3 => ?_)
  refine j_aload_n X (pc' := 7) 0 dX0_chargeOf_6 rfl rfl rfl ?_
  refine j_get X inX0 rfl (pc' := 10) 0 2 q_fl_X0_18 (by decide) rfl rfl dX0_chargeOf_7 rfl ?_
  refine j_iload_n X (pc' := 11) 1 dX0_chargeOf_10 rfl rfl rfl ?_
  refine j_ialdN X (i := i1) (pc' := 12) 3 rfl (by omega) (by decide) dX0_chargeOf_11 rfl ?_
  refine j_callVi X (pc' := 15) (As := [.int r_3, .int (C 2 i1)]) (rest := []) (c_X0_damageAdded l D cI cH cO h ar C r_3 (C 2 i1) ) wv_X0_79 ⟨0, 0, _, _, rfl, rfl, rfl⟩ ⟨by decide, by decide, by decide, by decide⟩ rfl rfl (Nat.le_of_ble_eq_true rfl) dX0_chargeOf_12 rfl ?_
  refine j_topL (fun r_12 er_12 => ?_)
  exact j_iretP X rfl rfl dX0_chargeOf_15
theorem c_X0_chargeOf (l : Launch) (D : va_G) (cI cH cO : ClassId) (h : Nat) (ar : Nat → Nat) (C : Cst) (i1 : Nat) (hi1 : i1 < 8) : MI l yX0_chargeOf cX0_chargeOf 2 (some .int) 2 D (tyl cI cH cO) [.ref h, .int (nI i1)] ((wC cI h ar C)) (sX0_chargeOf C i1) ((wC cI h ar C)) := fun sz => j_start (fun below s => (KP below [.ref h, .int (nI i1)].toArray s D (tyl cI cH cO) ((wC cI h ar C)))) (sX0_chargeOf C i1) (by decide +kernel) rfl (Nat.le_of_ble_eq_true rfl) (fun below s hs _ => by subst hs; rfl) (fun p e s m below meth c hX9 X => b_X0_chargeOf h ar C i1 hi1 X)
set_option maxHeartbeats 4000000 in
set_option maxRecDepth 100000 in
theorem b_X0_gainBehind {p : Program} {l : Launch} {e : Env} {s : State} {m : MethodId} {args : Array Value} {below : List Frame} {meth : Method} {c : Code} {D : va_G} {cI cH cO : ClassId} (h : Nat) (ar : Nat → Nat) (C : Cst) (x1 : Int32) (x2 : Int32) (x3 : Int32)  (X : CX p s m args meth c cX0_gainBehind 4 RX0 (some .int) D (tyl cI cH cO) (va_A ((wC cI h ar C)) s.heap.size)) : J p l e (rml 2) s m args below meth c 4 D (va_A ((wC cI h ar C)) s.heap.size) 0 0 (KP below args s D (tyl cI cH cO) ((wC cI h ar C))) (sX0_gainBehind C x1 x2 x3) ((wC cI h ar C)) 0 [(0, .ref h), (1, .int x1), (2, .int x2), (3, .int x3)] [] := by
  unfold sX0_gainBehind
  refine j_iload_n X (pc' := 1) 2 dX0_gainBehind_0 rfl rfl rfl ?_
  refine j_iload_n X (pc' := 2) 3 dX0_gainBehind_1 rfl rfl rfl ?_
  refine j_imul X (pc' := 3) dX0_gainBehind_2 rfl ?_
  refine j_aload_n X (pc' := 4) 0 dX0_gainBehind_3 rfl rfl rfl ?_
  refine j_iload_n X (pc' := 5) 1 dX0_gainBehind_4 rfl rfl rfl ?_
  refine j_iload_n X (pc' := 6) 3 dX0_gainBehind_5 rfl rfl rfl ?_
  refine j_callVi X (pc' := 9) (As := [.int x1, .int x3]) (rest := [.int (x2 * x3)]) (c_X0_damageAdded l D cI cH cO h ar C x1 x3 ) wv_X0_79 ⟨0, 0, _, _, rfl, rfl, rfl⟩ ⟨by decide, by decide, by decide, by decide⟩ rfl rfl (Nat.le_of_ble_eq_true rfl) dX0_gainBehind_6 rfl ?_
  refine j_topL (fun r_6 er_6 => ?_)
  refine j_isub X (pc' := 10) dX0_gainBehind_9 rfl ?_
  exact j_iretP X rfl rfl dX0_gainBehind_10
theorem c_X0_gainBehind (l : Launch) (D : va_G) (cI cH cO : ClassId) (h : Nat) (ar : Nat → Nat) (C : Cst) (x1 : Int32) (x2 : Int32) (x3 : Int32)  : MI l yX0_gainBehind cX0_gainBehind 4 (some .int) 2 D (tyl cI cH cO) [.ref h, .int x1, .int x2, .int x3] ((wC cI h ar C)) (sX0_gainBehind C x1 x2 x3) ((wC cI h ar C)) := fun sz => j_start (fun below s => (KP below [.ref h, .int x1, .int x2, .int x3].toArray s D (tyl cI cH cO) ((wC cI h ar C)))) (sX0_gainBehind C x1 x2 x3) (by decide +kernel) rfl (Nat.le_of_ble_eq_true rfl) (fun below s hs _ => by subst hs; rfl) (fun p e s m below meth c hX9 X => b_X0_gainBehind h ar C x1 x2 x3  X)
set_option maxHeartbeats 4000000 in
set_option maxRecDepth 100000 in
theorem b_X0_addMember {p : Program} {l : Launch} {e : Env} {s : State} {m : MethodId} {args : Array Value} {below : List Frame} {meth : Method} {c : Code} {D : va_G} {cI cH cO : ClassId} {ws0 : va_W} (h : Nat) (ar : Nat → Nat) (C : Cst) (x1 : Int32) (hM0 : 0 ≤ (C 9 0).toInt) (X : CX p s m args meth c cX0_addMember 2 RX0 (some .int) D (tyl cI cH cO) (va_A ws0 s.heap.size)) : J p l e (rml 0) s m args below meth c 2 D (va_A ws0 s.heap.size) 0 0 (KI below args s D (tyl cI cH cO) ws0 (fun C9 => (wC cI h ar C9))) (sX0_addMember C x1) ((wC cI h ar C)) 0 [(0, .ref h), (1, .int x1)] [] := by
  unfold sX0_addMember
  refine j_iload_n X (pc' := 1) 1 dX0_addMember_0 rfl rfl rfl ?_
  refine j_if_lt X (tgt := 10) (pc' := 4) dX0_addMember_1 (by decide) rfl (fun c_1 => ?_) (fun c_1 => ?_)
  · refine j_sipush X (v := (-10001)) (pc' := 13) dX0_addMember_10 (by decide) rfl ?_
    exact j_iretI X rfl rfl dX0_addMember_13
  · refine j_iload_n X (pc' := 5) 1 dX0_addMember_4 rfl rfl rfl ?_
    refine j_bipush X (v := 30) (pc' := 7) dX0_addMember_5 (by decide) rfl ?_
    refine j_icmp_le X (tgt := 14) (pc' := 10) dX0_addMember_7 (by decide) rfl (fun c_7 => ?_) (fun c_7 => ?_)
    · refine j_aload_n X (pc' := 15) 0 dX0_addMember_14 rfl rfl rfl ?_
      refine j_get X inX0 rfl (pc' := 18) 0 9 q_fl_X0_47 (by decide) rfl rfl dX0_addMember_15 rfl ?_
      refine j_bipush X (v := 8) (pc' := 20) dX0_addMember_18 (by decide) rfl ?_
      refine j_icmp_lt X (tgt := 27) (pc' := 23) dX0_addMember_20 (by decide) rfl (fun c_20 => ?_) (fun c_20 => ?_)
      · refine j_aload_n X (pc' := 28) 0 dX0_addMember_27 rfl rfl rfl ?_
        refine j_get X inX0 rfl (pc' := 31) 0 1 q_fl_X0_15 (by decide) rfl rfl dX0_addMember_28 rfl ?_
        refine j_aload_n X (pc' := 32) 0 dX0_addMember_31 rfl rfl rfl ?_
        refine j_get X inX0 rfl (pc' := 35) 0 9 q_fl_X0_47 (by decide) rfl rfl dX0_addMember_32 rfl ?_
        refine j_iload_n X (pc' := 36) 1 dX0_addMember_35 rfl rfl rfl ?_
        refine j_iast X (pc' := 37) (S := up C 1 (C 9 0).toNatClampNeg x1) (fun S_36 => (wC cI h ar S_36)) 2 rfl rfl (vp_in_iff.mpr ⟨hM0, by have := i32_ltP (N := 8) (by omega) c_20; omega⟩) dX0_addMember_36 rfl (fun S_36 eS_36 => ?_)
        refine j_aload_n X (pc' := 38) 0 dX0_addMember_37 rfl rfl rfl ?_
        refine j_dup X (pc' := 39) dX0_addMember_38 rfl rfl ?_
        refine j_get X inX0 rfl (pc' := 42) 0 9 q_fl_X0_47 (by decide) rfl rfl dX0_addMember_39 rfl ?_
        refine j_iconst X (v := 1) (pc' := 43) dX0_addMember_42 (by decide) rfl ?_
        refine j_iadd X (pc' := 44) dX0_addMember_43 rfl ?_
        refine j_put X inX0 rfl (pc' := 47) tyX0_ok nmX0 (S := up S_36 9 0 ((S_36 9 0) + 1)) (fun S_44 => (wC cI h ar S_44)) 0 9 q_fl_X0_47 (by decide) rfl rfl rfl rfl (Nat.le_of_ble_eq_true rfl) rfl dX0_addMember_44 rfl (fun S_44 eS_44 => ?_)
        refine j_aload_n X (pc' := 48) 0 dX0_addMember_47 rfl rfl rfl ?_
        refine j_get X inX0 rfl (pc' := 51) 0 9 q_fl_X0_47 (by decide) rfl rfl dX0_addMember_48 rfl ?_
        refine j_iconst X (v := 1) (pc' := 52) dX0_addMember_51 (by decide) rfl ?_
        refine j_isub X (pc' := 53) dX0_addMember_52 rfl ?_
        exact j_iretI X rfl rfl dX0_addMember_53
      · refine j_sipush X (v := (-10003)) (pc' := 26) dX0_addMember_23 (by decide) rfl ?_
        exact j_iretI X rfl rfl dX0_addMember_26
    · refine j_sipush X (v := (-10001)) (pc' := 13) dX0_addMember_10 (by decide) rfl ?_
      exact j_iretI X rfl rfl dX0_addMember_13
theorem c_X0_addMember (l : Launch) (D : va_G) (cI cH cO : ClassId) (h : Nat) (ar : Nat → Nat) (C : Cst) (x1 : Int32) (hM0 : 0 ≤ (C 9 0).toInt) : MI l yX0_addMember cX0_addMember 2 (some .int) 0 D (tyl cI cH cO) [.ref h, .int x1] ((wC cI h ar C)) (sX0_addMember C x1).1 ((wC cI h ar ((sX0_addMember C x1).2))) := fun sz => j_start (fun below s => (KI below [.ref h, .int x1].toArray s D (tyl cI cH cO) ((wC cI h ar C)) (fun C9 => (wC cI h ar C9)))) (sX0_addMember C x1) (by decide +kernel) rfl (Nat.le_of_ble_eq_true rfl) (fun below s hs _ => by subst hs; rfl) (fun p e s m below meth c hX9 X => b_X0_addMember h ar C x1 hM0 X)
set_option maxHeartbeats 4000000 in
set_option maxRecDepth 100000 in
theorem b_X0_declareUse {p : Program} {l : Launch} {e : Env} {s : State} {m : MethodId} {args : Array Value} {below : List Frame} {meth : Method} {c : Code} {D : va_G} {cI cH cO : ClassId} {ws0 : va_W} (h : Nat) (ar : Nat → Nat) (C : Cst) (x1 : Int32) (x2 : Int32)  (X : CX p s m args meth c cX0_declareUse 3 RX0 (some .int) D (tyl cI cH cO) (va_A ws0 s.heap.size)) : J p l e (rml 3) s m args below meth c 3 D (va_A ws0 s.heap.size) 0 0 (KI below args s D (tyl cI cH cO) ws0 (fun C9 => (wC cI h ar C9))) (sX0_declareUse C x1 x2) ((wC cI h ar C)) 0 [(0, .ref h), (1, .int x1), (2, .int x2)] [] := by
  unfold sX0_declareUse
  refine j_ltv (fun K19 eK19 => ?_)
  have hK19 : ∀ (C : Cst) (i1 : Nat) (x2 : Int32) (hi1 : i1 < 8), J p l e (rml 3) s m args below meth c 3 D (va_A ws0 s.heap.size) 0 0 (KI below args s D (tyl cI cH cO) ws0 (fun C9 => (wC cI h ar C9))) (K19 C i1 x2) ((wC cI h ar C)) 19 [(0, .ref h), (1, .int (nI i1)), (2, .int x2)] [] := by
    intro C i1 x2 hi1
    rw [eK19]
    refine j_aload_n X (pc' := 20) 0 dX0_declareUse_19 rfl rfl rfl ?_
    refine j_iload_n X (pc' := 21) 1 dX0_declareUse_20 rfl rfl rfl ?_
    refine j_callVi X (pc' := 24) (As := [.int (nI i1)]) (rest := []) (c_X0_isOut l D cI cH cO h ar C (nI i1) ) wv_X0_93 ⟨0, 0, _, _, rfl, rfl, rfl⟩ ⟨by decide, by decide, by decide, by decide⟩ rfl rfl (Nat.le_of_ble_eq_true rfl) dX0_declareUse_21 rfl ?_
    refine j_topL (fun r_21 er_21 => ?_)
    refine j_if_eq X (tgt := 31) (pc' := 27) dX0_declareUse_24 (by decide) rfl (fun c_24 => ?_) (fun c_24 => ?_)
    · refine j_aload_n X (pc' := 32) 0 dX0_declareUse_31 rfl rfl rfl ?_
      refine j_get X inX0 rfl (pc' := 35) 0 2 q_fl_X0_18 (by decide) rfl rfl dX0_declareUse_32 rfl ?_
      refine j_iload_n X (pc' := 36) 1 dX0_declareUse_35 rfl rfl rfl ?_
      refine j_iload_n X (pc' := 37) 2 dX0_declareUse_36 rfl rfl rfl ?_
      refine j_iastN X (i := i1) (pc' := 38) (S := up C 2 i1 x2) (fun S_37 => (wC cI h ar S_37)) 3 rfl rfl (by omega) (by decide) dX0_declareUse_37 rfl (fun S_37 eS_37 => ?_)
      refine j_aload_n X (pc' := 39) 0 dX0_declareUse_38 rfl rfl rfl ?_
      refine j_iload_n X (pc' := 40) 1 dX0_declareUse_39 rfl rfl rfl ?_
      refine j_callVi X (pc' := 43) (As := [.int (nI i1)]) (rest := []) (c_X0_chargeOf l D cI cH cO h ar S_37 i1 (by first | omega | assumption | decide | (subst_vars; first | assumption | omega))) wv_X0_96 ⟨0, 0, _, _, rfl, rfl, rfl⟩ ⟨by decide, by decide, by decide, by decide⟩ rfl rfl (Nat.le_of_ble_eq_true rfl) dX0_declareUse_40 rfl ?_
      refine j_topL (fun r_40 er_40 => ?_)
      exact j_iretI X rfl rfl dX0_declareUse_43
    · refine j_sipush X (v := (-10002)) (pc' := 30) dX0_declareUse_27 (by decide) rfl ?_
      exact j_iretI X rfl rfl dX0_declareUse_30
  refine j_aload_n X (pc' := 1) 0 dX0_declareUse_0 rfl rfl rfl ?_
  refine j_iload_n X (pc' := 2) 1 dX0_declareUse_1 rfl rfl rfl ?_
  refine j_callVi X (pc' := 5) (As := [.int x1]) (rest := []) (c_X0_has l D cI cH cO h ar C x1 ) wv_X0_86 ⟨0, 0, _, _, rfl, rfl, rfl⟩ ⟨by decide, by decide, by decide, by decide⟩ rfl rfl (Nat.le_of_ble_eq_true rfl) dX0_declareUse_2 rfl ?_
  refine j_topL (fun r_2 er_2 => ?_)
  refine j_if_eq X (tgt := 15) (pc' := 8) dX0_declareUse_5 (by decide) rfl (fun c_5 => ?_) (fun c_5 => ?_)
  · refine j_sipush X (v := (-10001)) (pc' := 18) dX0_declareUse_15 (by decide) rfl ?_
    exact j_iretI X rfl rfl dX0_declareUse_18
  · refine j_iload_n X (pc' := 9) 2 dX0_declareUse_8 rfl rfl rfl ?_
    refine j_callNiF X (pc' := 12) (As := [.int x2]) (rest := []) (ws' := (wC cI h ar C)) (wr := (wC cI h ar C)) [] [0, 1, 2, 3, 4, 5, 6, 7, 8, 9] [0, 1, 2, 3, 4, 5, 6, 7, 8, 9] rfl rfl ⟨by decide, by decide, by decide, by decide⟩ rfl (c_X4_isUnits l D cI cH cO x2 ) X.2.2.1.2.2.2.2.2.1 wn_X0_90 ⟨by decide, by decide, by decide, by decide⟩ rfl rfl (Nat.le_of_ble_eq_true rfl) dX0_declareUse_9 rfl ?_
    refine j_topL (fun r_9 er_9 => ?_)
    refine j_if_ne X (tgt := 19) (pc' := 15) dX0_declareUse_12 (by decide) rfl (fun c_12 => ?_) (fun c_12 => ?_)
    · obtain ⟨j_12, hj_12, ej_12⟩ : ∃ j : Nat, j < 8 ∧ x1 = nI j := vp_in_of (has_in (by rw [← er_2]; exact c_5)) (by decide)
      subst ej_12
      rw [nI_clamp (show j_12 < 2 ^ 31 by omega)]
      refine j_lv [0, 1, 2] (lv' := _) rfl ?_
      exact hK19 _ _ _ (by first | omega | assumption | decide | (subst_vars; first | assumption | omega))
    · refine j_sipush X (v := (-10001)) (pc' := 18) dX0_declareUse_15 (by decide) rfl ?_
      exact j_iretI X rfl rfl dX0_declareUse_18
theorem c_X0_declareUse (l : Launch) (D : va_G) (cI cH cO : ClassId) (h : Nat) (ar : Nat → Nat) (C : Cst) (x1 : Int32) (x2 : Int32)  : MI l yX0_declareUse cX0_declareUse 3 (some .int) 3 D (tyl cI cH cO) [.ref h, .int x1, .int x2] ((wC cI h ar C)) (sX0_declareUse C x1 x2).1 ((wC cI h ar ((sX0_declareUse C x1 x2).2))) := fun sz => j_start (fun below s => (KI below [.ref h, .int x1, .int x2].toArray s D (tyl cI cH cO) ((wC cI h ar C)) (fun C9 => (wC cI h ar C9)))) (sX0_declareUse C x1 x2) (by decide +kernel) rfl (Nat.le_of_ble_eq_true rfl) (fun below s hs _ => by subst hs; rfl) (fun p e s m below meth c hX9 X => b_X0_declareUse h ar C x1 x2  X)
set_option maxHeartbeats 4000000 in
set_option maxRecDepth 100000 in
theorem b_X0_payCoins {p : Program} {l : Launch} {e : Env} {s : State} {m : MethodId} {args : Array Value} {below : List Frame} {meth : Method} {c : Code} {D : va_G} {cI cH cO : ClassId} {ws0 : va_W} (h : Nat) (ar : Nat → Nat) (C : Cst) (x1 : Int32) (x2 : Int32)  (X : CX p s m args meth c cX0_payCoins 3 RX0 (some .int) D (tyl cI cH cO) (va_A ws0 s.heap.size)) : J p l e (rml 1) s m args below meth c 3 D (va_A ws0 s.heap.size) 0 0 (KI below args s D (tyl cI cH cO) ws0 (fun C9 => (wC cI h ar C9))) (sX0_payCoins C x1 x2) ((wC cI h ar C)) 0 [(0, .ref h), (1, .int x1), (2, .int x2)] [] := by
  unfold sX0_payCoins
  refine j_ltv (fun K24 eK24 => ?_)
  have hK24 : ∀ (C : Cst) (i1 : Nat) (x2 : Int32) (hi1 : i1 < 8), J p l e (rml 1) s m args below meth c 3 D (va_A ws0 s.heap.size) 0 0 (KI below args s D (tyl cI cH cO) ws0 (fun C9 => (wC cI h ar C9))) (K24 C i1 x2) ((wC cI h ar C)) 24 [(0, .ref h), (1, .int (nI i1)), (2, .int x2)] [] := by
    intro C i1 x2 hi1
    rw [eK24]
    refine j_aload_n X (pc' := 25) 0 dX0_payCoins_24 rfl rfl rfl ?_
    refine j_get X inX0 rfl (pc' := 28) 0 3 q_fl_X0_21 (by decide) rfl rfl dX0_payCoins_25 rfl ?_
    refine j_iload_n X (pc' := 29) 1 dX0_payCoins_28 rfl rfl rfl ?_
    refine j_ialdN X (i := i1) (pc' := 30) 4 rfl (by omega) (by decide) dX0_payCoins_29 rfl ?_
    refine j_iload_n X (pc' := 31) 2 dX0_payCoins_30 rfl rfl rfl ?_
    refine j_icmp_ge X (tgt := 38) (pc' := 34) dX0_payCoins_31 (by decide) rfl (fun c_31 => ?_) (fun c_31 => ?_)
    · refine j_aload_n X (pc' := 39) 0 dX0_payCoins_38 rfl rfl rfl ?_
      refine j_get X inX0 rfl (pc' := 42) 0 3 q_fl_X0_21 (by decide) rfl rfl dX0_payCoins_39 rfl ?_
      refine j_iload_n X (pc' := 43) 1 dX0_payCoins_42 rfl rfl rfl ?_
      refine j_dup2 X (pc' := 44) dX0_payCoins_43 rfl rfl rfl ?_
      refine j_ialdN X (i := i1) (pc' := 45) 4 rfl (by omega) (by decide) dX0_payCoins_44 rfl ?_
      refine j_iload_n X (pc' := 46) 2 dX0_payCoins_45 rfl rfl rfl ?_
      refine j_isub X (pc' := 47) dX0_payCoins_46 rfl ?_
      refine j_iastN X (i := i1) (pc' := 48) (S := up C 3 i1 ((C 3 i1) - x2)) (fun S_47 => (wC cI h ar S_47)) 4 rfl rfl (by omega) (by decide) dX0_payCoins_47 rfl (fun S_47 eS_47 => ?_)
      refine j_aload_n X (pc' := 49) 0 dX0_payCoins_48 rfl rfl rfl ?_
      refine j_get X inX0 rfl (pc' := 52) 0 4 q_fl_X0_24 (by decide) rfl rfl dX0_payCoins_49 rfl ?_
      refine j_iload_n X (pc' := 53) 1 dX0_payCoins_52 rfl rfl rfl ?_
      refine j_dup2 X (pc' := 54) dX0_payCoins_53 rfl rfl rfl ?_
      refine j_ialdN X (i := i1) (pc' := 55) 5 rfl (by omega) (by decide) dX0_payCoins_54 rfl ?_
      refine j_iload_n X (pc' := 56) 2 dX0_payCoins_55 rfl rfl rfl ?_
      refine j_iadd X (pc' := 57) dX0_payCoins_56 rfl ?_
      refine j_iastN X (i := i1) (pc' := 58) (S := up S_47 4 i1 ((S_47 4 i1) + x2)) (fun S_57 => (wC cI h ar S_57)) 5 rfl rfl (by omega) (by decide) dX0_payCoins_57 rfl (fun S_57 eS_57 => ?_)
      refine j_aload_n X (pc' := 59) 0 dX0_payCoins_58 rfl rfl rfl ?_
      refine j_dup X (pc' := 60) dX0_payCoins_59 rfl rfl ?_
      refine j_get X inX0 rfl (pc' := 63) 0 12 q_fl_X0_53 (by decide) rfl rfl dX0_payCoins_60 rfl ?_
      refine j_iload_n X (pc' := 64) 2 dX0_payCoins_63 rfl rfl rfl ?_
      refine j_iadd X (pc' := 65) dX0_payCoins_64 rfl ?_
      refine j_put X inX0 rfl (pc' := 68) tyX0_ok nmX0 (S := up S_57 12 0 ((S_57 12 0) + x2)) (fun S_65 => (wC cI h ar S_65)) 0 12 q_fl_X0_53 (by decide) rfl rfl rfl rfl (Nat.le_of_ble_eq_true rfl) rfl dX0_payCoins_65 rfl (fun S_65 eS_65 => ?_)
      refine j_aload_n X (pc' := 69) 0 dX0_payCoins_68 rfl rfl rfl ?_
      refine j_get X inX0 rfl (pc' := 72) 0 3 q_fl_X0_21 (by decide) rfl rfl dX0_payCoins_69 rfl ?_
      refine j_iload_n X (pc' := 73) 1 dX0_payCoins_72 rfl rfl rfl ?_
      refine j_ialdN X (i := i1) (pc' := 74) 4 rfl (by omega) (by decide) dX0_payCoins_73 rfl ?_
      exact j_iretI X rfl rfl dX0_payCoins_74
    · refine j_sipush X (v := (-10002)) (pc' := 37) dX0_payCoins_34 (by decide) rfl ?_
      exact j_iretI X rfl rfl dX0_payCoins_37
  refine j_aload_n X (pc' := 1) 0 dX0_payCoins_0 rfl rfl rfl ?_
  refine j_iload_n X (pc' := 2) 1 dX0_payCoins_1 rfl rfl rfl ?_
  refine j_callVi X (pc' := 5) (As := [.int x1]) (rest := []) (c_X0_has l D cI cH cO h ar C x1 ) wv_X0_86 ⟨0, 0, _, _, rfl, rfl, rfl⟩ ⟨by decide, by decide, by decide, by decide⟩ rfl rfl (Nat.le_of_ble_eq_true rfl) dX0_payCoins_2 rfl ?_
  refine j_topL (fun r_2 er_2 => ?_)
  refine j_if_eq X (tgt := 20) (pc' := 8) dX0_payCoins_5 (by decide) rfl (fun c_5 => ?_) (fun c_5 => ?_)
  · refine j_sipush X (v := (-10001)) (pc' := 23) dX0_payCoins_20 (by decide) rfl ?_
    exact j_iretI X rfl rfl dX0_payCoins_23
  · refine j_iload_n X (pc' := 9) 2 dX0_payCoins_8 rfl rfl rfl ?_
    refine j_iconst X (v := 1) (pc' := 10) dX0_payCoins_9 (by decide) rfl ?_
    refine j_icmp_lt X (tgt := 20) (pc' := 13) dX0_payCoins_10 (by decide) rfl (fun c_10 => ?_) (fun c_10 => ?_)
    · refine j_sipush X (v := (-10001)) (pc' := 23) dX0_payCoins_20 (by decide) rfl ?_
      exact j_iretI X rfl rfl dX0_payCoins_23
    · refine j_iload_n X (pc' := 14) 2 dX0_payCoins_13 rfl rfl rfl ?_
      refine j_sipush X (v := 999) (pc' := 17) dX0_payCoins_14 (by decide) rfl ?_
      refine j_icmp_le X (tgt := 24) (pc' := 20) dX0_payCoins_17 (by decide) rfl (fun c_17 => ?_) (fun c_17 => ?_)
      · obtain ⟨j_17, hj_17, ej_17⟩ : ∃ j : Nat, j < 8 ∧ x1 = nI j := vp_in_of (has_in (by rw [← er_2]; exact c_5)) (by decide)
        subst ej_17
        rw [nI_clamp (show j_17 < 2 ^ 31 by omega)]
        refine j_lv [0, 1, 2] (lv' := _) rfl ?_
        exact hK24 _ _ _ (by first | omega | assumption | decide | (subst_vars; first | assumption | omega))
      · refine j_sipush X (v := (-10001)) (pc' := 23) dX0_payCoins_20 (by decide) rfl ?_
        exact j_iretI X rfl rfl dX0_payCoins_23
theorem c_X0_payCoins (l : Launch) (D : va_G) (cI cH cO : ClassId) (h : Nat) (ar : Nat → Nat) (C : Cst) (x1 : Int32) (x2 : Int32)  : MI l yX0_payCoins cX0_payCoins 3 (some .int) 1 D (tyl cI cH cO) [.ref h, .int x1, .int x2] ((wC cI h ar C)) (sX0_payCoins C x1 x2).1 ((wC cI h ar ((sX0_payCoins C x1 x2).2))) := fun sz => j_start (fun below s => (KI below [.ref h, .int x1, .int x2].toArray s D (tyl cI cH cO) ((wC cI h ar C)) (fun C9 => (wC cI h ar C9)))) (sX0_payCoins C x1 x2) (by decide +kernel) rfl (Nat.le_of_ble_eq_true rfl) (fun below s hs _ => by subst hs; rfl) (fun p e s m below meth c hX9 X => b_X0_payCoins h ar C x1 x2  X)
set_option maxHeartbeats 4000000 in
set_option maxRecDepth 100000 in
theorem b_X0_oweByUses {p : Program} {l : Launch} {e : Env} {s : State} {m : MethodId} {args : Array Value} {below : List Frame} {meth : Method} {c : Code} {D : va_G} {cI cH cO : ClassId} {ws0 : va_W} (h : Nat) (ar : Nat → Nat) (C : Cst) (x1 : Int32)  (X : CX p s m args meth c cX0_oweByUses 6 RX0 none D (tyl cI cH cO) (va_A ws0 s.heap.size)) : J p l e (rml 1) s m args below meth c 6 D (va_A ws0 s.heap.size) 0 0 (KV below args s D (tyl cI cH cO) ws0 (fun C9 => (wC cI h ar C9))) (sX0_oweByUses C x1) ((wC cI h ar C)) 0 [(0, .ref h), (1, .int x1)] [] := by
  unfold sX0_oweByUses
  refine j_ltl3 (fun L61 eL61 => ?_)
  have hL61 : ∀ (n61 : Nat) (C : Cst) (x3 : Int32) (i4 : Nat) (hi : i4 ≤ 8) (hfu : 9 ≤ i4 + n61), J p l e (rml 1) s m args below meth c 6 D (va_A ws0 s.heap.size) 0 0 (KV below args s D (tyl cI cH cO) ws0 (fun C9 => (wC cI h ar C9))) (L61 n61 C x3 i4) ((wC cI h ar C)) 61 [(0, .ref h), (3, .int x3), (4, .int (nI i4))] [] := by
    intro n61
    induction n61 with
    | zero =>
      intro C x3 i4 hi hfu
      exact absurd hfu (by omega)
    | succ n61 ih61 =>
      intro C x3 i4 hi hfu
      rw [eL61]
      refine j_ltv (fun K96 eK96 => ?_)
      have hK96 : ∀ (C : Cst) (x3 : Int32) (i4 : Nat) (hi : i4 < 8) (hfu : 9 ≤ i4 + (n61 + 1)), J p l e (rml 1) s m args below meth c 6 D (va_A ws0 s.heap.size) 0 0 (KV below args s D (tyl cI cH cO) ws0 (fun C9 => (wC cI h ar C9))) (K96 C x3 i4) ((wC cI h ar C)) 96 [(0, .ref h), (3, .int x3), (4, .int (nI i4))] [] := by
        intro C x3 i4 hi hfu
        rw [eK96]
        refine j_iinc X (v := (nI (i4 + 1))) (lv' := [(0, .ref h), (3, .int x3), (4, .int (nI (i4 + 1)))]) (q := 2) (pc' := 99) [1, 2, 0] dX0_oweByUses_96 rfl (nI_1 i4) (by decide) rfl rfl ?_
        refine j_goto X (pc' := 61) dX0_oweByUses_99 (by decide) ?_
        refine j_lv [0, 1, 2] (lv' := [(0, .ref h), (3, .int x3), (4, .int (nI (i4 + 1)))]) rfl ?_
        exact ih61 _ _ _ (by first | omega | assumption | decide | (subst_vars; first | assumption | omega)) (by first | omega | assumption | decide | (subst_vars; first | assumption | omega))
      refine j_iload X (pc' := 63) 2 dX0_oweByUses_61 rfl rfl ?_
      refine j_bipush X (v := 8) (pc' := 65) dX0_oweByUses_63 (by decide) rfl ?_
      refine j_icmp_ge X (tgt := 102) (pc' := 68) dX0_oweByUses_65 (by decide) rfl (fun c_65 => ?_) (fun c_65 => ?_)
      · have f_65 : 8 ≤ i4 := (nI_leI (a := 8) (b := i4) (by omega) (by omega)).mp c_65
        exact j_vret X rfl dX0_oweByUses_102
      · have f_65 : ¬ (8 ≤ i4) := fun h => c_65 ((nI_leI (a := 8) (b := i4) (by omega) (by omega)).mpr h)
        refine j_aload_n X (pc' := 69) 0 dX0_oweByUses_68 rfl rfl rfl ?_
        refine j_get X inX0 rfl (pc' := 72) 0 5 q_fl_X0_27 (by decide) rfl rfl dX0_oweByUses_69 rfl ?_
        refine j_iload X (pc' := 74) 2 dX0_oweByUses_72 rfl rfl ?_
        refine j_ialdN X (i := i4) (pc' := 75) 6 rfl (by omega) (by decide) dX0_oweByUses_74 rfl ?_
        refine j_if_le X (tgt := 96) (pc' := 78) dX0_oweByUses_75 (by decide) rfl (fun c_75 => ?_) (fun c_75 => ?_)
        · refine j_lv [0, 1, 2] (lv' := [(0, .ref h), (3, .int x3), (4, .int (nI i4))]) rfl ?_
          exact hK96 _ _ _ (by first | omega | assumption | decide | (subst_vars; first | assumption | omega)) (by first | omega | assumption | decide | (subst_vars; first | assumption | omega))
        · refine j_iload_n X (pc' := 79) 1 dX0_oweByUses_78 rfl rfl rfl ?_
          refine j_if_le X (tgt := 96) (pc' := 82) dX0_oweByUses_79 (by decide) rfl (fun c_79 => ?_) (fun c_79 => ?_)
          · refine j_lv [0, 1, 2] (lv' := [(0, .ref h), (3, .int x3), (4, .int (nI i4))]) rfl ?_
            exact hK96 _ _ _ (by first | omega | assumption | decide | (subst_vars; first | assumption | omega)) (by first | omega | assumption | decide | (subst_vars; first | assumption | omega))
          · refine j_aload_n X (pc' := 83) 0 dX0_oweByUses_82 rfl rfl rfl ?_
            refine j_get X inX0 rfl (pc' := 86) 0 3 q_fl_X0_21 (by decide) rfl rfl dX0_oweByUses_83 rfl ?_
            refine j_iload X (pc' := 88) 2 dX0_oweByUses_86 rfl rfl ?_
            refine j_dup2 X (pc' := 89) dX0_oweByUses_88 rfl rfl rfl ?_
            refine j_ialdN X (i := i4) (pc' := 90) 4 rfl (by omega) (by decide) dX0_oweByUses_89 rfl ?_
            refine j_iconst X (v := 1) (pc' := 91) dX0_oweByUses_90 (by decide) rfl ?_
            refine j_iadd X (pc' := 92) dX0_oweByUses_91 rfl ?_
            refine j_iastN X (i := i4) (pc' := 93) (S := up C 3 i4 ((C 3 i4) + 1)) (fun S_92 => (wC cI h ar S_92)) 4 rfl rfl (by omega) (by decide) dX0_oweByUses_92 rfl (fun S_92 eS_92 => ?_)
            refine j_iincL X (v := (x3 - 1)) (q := 1) (fun v3_93 => [(0, .ref h), (3, .int v3_93), (4, .int (nI i4))]) [1, 0, 2] (pc' := 96) dX0_oweByUses_93 rfl (i32_sub1 _) (by decide) (fun _ => rfl) rfl (fun v3_93 ev3_93 => ?_)
            refine j_lv [0, 1, 2] (lv' := [(0, .ref h), (3, .int v3_93), (4, .int (nI i4))]) rfl ?_
            exact hK96 _ _ _ (by first | omega | assumption | decide | (subst_vars; first | assumption | omega)) (by first | omega | assumption | decide | (subst_vars; first | assumption | omega))
  refine j_ltv (fun K58 eK58 => ?_)
  have hK58 : ∀ (C : Cst) (x3 : Int32) , J p l e (rml 1) s m args below meth c 6 D (va_A ws0 s.heap.size) 0 0 (KV below args s D (tyl cI cH cO) ws0 (fun C9 => (wC cI h ar C9))) (K58 C x3) ((wC cI h ar C)) 58 [(0, .ref h), (3, .int x3)] [] := by
    intro C x3 
    rw [eK58]
    refine j_iconst X (v := 0) (pc' := 59) dX0_oweByUses_58 (by decide) rfl ?_
    refine j_istore X (lv' := [(0, .ref h), (3, .int x3), (4, .int 0)]) (pc' := 61) [1, 2, 0] dX0_oweByUses_59 (by decide) rfl rfl ?_
    refine j_lv [0, 1, 2] (lv' := [(0, .ref h), (3, .int x3), (4, .int 0)]) rfl ?_
    exact hL61 _ _ _ _ (by first | omega | assumption | decide | (subst_vars; first | assumption | omega)) (by first | omega | assumption | decide | (subst_vars; first | assumption | omega))
  refine j_ltl5 (fun L13 eL13 => ?_)
  have hL13 : ∀ (n13 : Nat) (C : Cst) (x1 : Int32) (x2 : Int32) (x3 : Int32) (i4 : Nat) (hi : i4 ≤ 8) (hfu : 9 ≤ i4 + n13), J p l e (rml 1) s m args below meth c 6 D (va_A ws0 s.heap.size) 0 0 (KV below args s D (tyl cI cH cO) ws0 (fun C9 => (wC cI h ar C9))) (L13 n13 C x1 x2 x3 i4) ((wC cI h ar C)) 13 [(0, .ref h), (1, .int x1), (2, .int x2), (3, .int x3), (4, .int (nI i4))] [] := by
    intro n13
    induction n13 with
    | zero =>
      intro C x1 x2 x3 i4 hi hfu
      exact absurd hfu (by omega)
    | succ n13 ih13 =>
      intro C x1 x2 x3 i4 hi hfu
      rw [eL13]
      refine j_iload X (pc' := 15) 4 dX0_oweByUses_13 rfl rfl ?_
      refine j_bipush X (v := 8) (pc' := 17) dX0_oweByUses_15 (by decide) rfl ?_
      refine j_icmp_ge X (tgt := 58) (pc' := 20) dX0_oweByUses_17 (by decide) rfl (fun c_17 => ?_) (fun c_17 => ?_)
      · have f_17 : 8 ≤ i4 := (nI_leI (a := 8) (b := i4) (by omega) (by omega)).mp c_17
        refine j_lv [0, 3] (lv' := [(0, .ref h), (3, .int x3)]) rfl ?_
        exact hK58 _ _ 
      · have f_17 : ¬ (8 ≤ i4) := fun h => c_17 ((nI_leI (a := 8) (b := i4) (by omega) (by omega)).mpr h)
        refine j_iload_n X (pc' := 21) 1 dX0_oweByUses_20 rfl rfl rfl ?_
        refine j_aload_n X (pc' := 22) 0 dX0_oweByUses_21 rfl rfl rfl ?_
        refine j_get X inX0 rfl (pc' := 25) 0 5 q_fl_X0_27 (by decide) rfl rfl dX0_oweByUses_22 rfl ?_
        refine j_iload X (pc' := 27) 4 dX0_oweByUses_25 rfl rfl ?_
        refine j_ialdN X (i := i4) (pc' := 28) 6 rfl (by omega) (by decide) dX0_oweByUses_27 rfl ?_
        refine j_imul X (pc' := 29) dX0_oweByUses_28 rfl ?_
        refine j_iload_n X (pc' := 30) 2 dX0_oweByUses_29 rfl rfl rfl ?_
        refine j_callNiF X (pc' := 33) (As := [.int (x1 * (C 5 i4)), .int x2]) (rest := []) (ws' := (wC cI h ar C)) (wr := (wC cI h ar C)) [] [0, 1, 2, 3, 4, 5, 6, 7, 8, 9] [0, 1, 2, 3, 4, 5, 6, 7, 8, 9] rfl rfl ⟨by decide, by decide, by decide, by decide⟩ rfl (c_X4_quotient l D cI cH cO (x1 * (C 5 i4)) x2 ) X.2.2.1.2.2.2.2.2.2.2.1 wn_X0_114 ⟨by decide, by decide, by decide, by decide⟩ rfl rfl (Nat.le_of_ble_eq_true rfl) dX0_oweByUses_30 rfl ?_
        refine j_topL (fun r_30 er_30 => ?_)
        refine j_istore X (lv' := [(0, .ref h), (1, .int x1), (2, .int x2), (3, .int x3), (4, .int (nI i4)), (5, .int r_30)]) (pc' := 35) [1, 2, 3, 4, 5, 0] dX0_oweByUses_33 (by decide) rfl rfl ?_
        refine j_aload_n X (pc' := 36) 0 dX0_oweByUses_35 rfl rfl rfl ?_
        refine j_get X inX0 rfl (pc' := 39) 0 3 q_fl_X0_21 (by decide) rfl rfl dX0_oweByUses_36 rfl ?_
        refine j_iload X (pc' := 41) 4 dX0_oweByUses_39 rfl rfl ?_
        refine j_dup2 X (pc' := 42) dX0_oweByUses_41 rfl rfl rfl ?_
        refine j_ialdN X (i := i4) (pc' := 43) 4 rfl (by omega) (by decide) dX0_oweByUses_42 rfl ?_
        refine j_iload X (pc' := 45) 5 dX0_oweByUses_43 rfl rfl ?_
        refine j_iadd X (pc' := 46) dX0_oweByUses_45 rfl ?_
        refine j_iastN X (i := i4) (pc' := 47) (S := up C 3 i4 ((C 3 i4) + r_30)) (fun S_46 => (wC cI h ar S_46)) 4 rfl rfl (by omega) (by decide) dX0_oweByUses_46 rfl (fun S_46 eS_46 => ?_)
        refine j_iload_n X (pc' := 48) 3 dX0_oweByUses_47 rfl rfl rfl ?_
        refine j_iload X (pc' := 50) 5 dX0_oweByUses_48 rfl rfl ?_
        refine j_isub X (pc' := 51) dX0_oweByUses_50 rfl ?_
        refine j_istore_nL X (fun v3_51 => [(0, .ref h), (1, .int x1), (2, .int x2), (3, .int v3_51), (4, .int (nI i4)), (5, .int r_30)]) [1, 2, 3, 0, 4, 5] (pc' := 52) dX0_oweByUses_51 rfl (by decide) (fun _ => rfl) rfl (fun v3_51 ev3_51 => ?_)
        refine j_iinc X (v := (nI (i4 + 1))) (lv' := [(0, .ref h), (1, .int x1), (2, .int x2), (3, .int v3_51), (4, .int (nI (i4 + 1))), (5, .int r_30)]) (q := 4) (pc' := 55) [1, 2, 3, 4, 0, 5] dX0_oweByUses_52 rfl (nI_1 i4) (by decide) rfl rfl ?_
        refine j_goto X (pc' := 13) dX0_oweByUses_55 (by decide) ?_
        refine j_lv [0, 1, 2, 3, 4] (lv' := [(0, .ref h), (1, .int x1), (2, .int x2), (3, .int v3_51), (4, .int (nI (i4 + 1)))]) rfl ?_
        exact ih13 _ _ _ _ _ (by first | omega | assumption | decide | (subst_vars; first | assumption | omega)) (by first | omega | assumption | decide | (subst_vars; first | assumption | omega))
  refine j_aload_n X (pc' := 1) 0 dX0_oweByUses_0 rfl rfl rfl ?_
  refine j_get X inX0 rfl (pc' := 4) 0 5 q_fl_X0_27 (by decide) rfl rfl dX0_oweByUses_1 rfl ?_
  refine j_callNi X (pc' := 7) (As := [.ref (ar 5)]) (rest := []) (c_X4_sumOf_5 l D cI cH cO h ar C ) X.2.2.1.2.2.2.2.2.2.1 wn_X0_68 ⟨by decide, by decide, by decide, by decide⟩ rfl rfl (Nat.le_of_ble_eq_true rfl) dX0_oweByUses_4 rfl ?_
  refine j_topL (fun r_4 er_4 => ?_)
  refine j_istore_n X (lv' := [(0, .ref h), (1, .int x1), (2, .int r_4)]) (pc' := 8) [1, 2, 0] dX0_oweByUses_7 rfl (by decide) rfl rfl ?_
  refine j_iload_n X (pc' := 9) 1 dX0_oweByUses_8 rfl rfl rfl ?_
  refine j_istore_n X (lv' := [(0, .ref h), (1, .int x1), (2, .int r_4), (3, .int x1)]) (pc' := 10) [1, 2, 3, 0] dX0_oweByUses_9 rfl (by decide) rfl rfl ?_
  refine j_iconst X (v := 0) (pc' := 11) dX0_oweByUses_10 (by decide) rfl ?_
  refine j_istore X (lv' := [(0, .ref h), (1, .int x1), (2, .int r_4), (3, .int x1), (4, .int 0)]) (pc' := 13) [1, 2, 3, 4, 0] dX0_oweByUses_11 (by decide) rfl rfl ?_
  refine j_lv [0, 1, 2, 3, 4] (lv' := [(0, .ref h), (1, .int x1), (2, .int r_4), (3, .int x1), (4, .int 0)]) rfl ?_
  exact hL13 _ _ _ _ _ _ (by first | omega | assumption | decide | (subst_vars; first | assumption | omega)) (by first | omega | assumption | decide | (subst_vars; first | assumption | omega))
theorem c_X0_oweByUses (l : Launch) (D : va_G) (cI cH cO : ClassId) (h : Nat) (ar : Nat → Nat) (C : Cst) (x1 : Int32)  : MV l yX0_oweByUses cX0_oweByUses 6 1 D (tyl cI cH cO) [.ref h, .int x1] ((wC cI h ar C)) ((wC cI h ar (sX0_oweByUses C x1))) := fun sz => j_start (fun below s => (KV below [.ref h, .int x1].toArray s D (tyl cI cH cO) ((wC cI h ar C)) (fun C9 => (wC cI h ar C9)))) (sX0_oweByUses C x1) (by decide +kernel) rfl (Nat.le_of_ble_eq_true rfl) (fun below s hs _ => by subst hs; rfl) (fun p e s m below meth c hX9 X => b_X0_oweByUses h ar C x1  X)
set_option maxHeartbeats 4000000 in
set_option maxRecDepth 100000 in
theorem b_X0_repairPoints {p : Program} {l : Launch} {e : Env} {s : State} {m : MethodId} {args : Array Value} {below : List Frame} {meth : Method} {c : Code} {D : va_G} {cI cH cO : ClassId} {ws0 : va_W} (h : Nat) (ar : Nat → Nat) (C : Cst) (x1 : Int32)  (X : CX p s m args meth c cX0_repairPoints 5 RX0 (some .int) D (tyl cI cH cO) (va_A ws0 s.heap.size)) : J p l e (rml 2) s m args below meth c 5 D (va_A ws0 s.heap.size) 0 0 (KI below args s D (tyl cI cH cO) ws0 (fun C9 => (wC cI h ar C9))) (sX0_repairPoints C x1) ((wC cI h ar C)) 0 [(0, .ref h), (1, .int x1)] [] := by
  unfold sX0_repairPoints
  refine j_ltv (fun K68 eK68 => ?_)
  have hK68 : ∀ (C : Cst) (x1 : Int32) (x3 : Int32) (x4 : Int32) , J p l e (rml 2) s m args below meth c 5 D (va_A ws0 s.heap.size) 0 0 (KI below args s D (tyl cI cH cO) ws0 (fun C9 => (wC cI h ar C9))) (K68 C x1 x3 x4) ((wC cI h ar C)) 68 [(0, .ref h), (1, .int x1), (3, .int x3), (4, .int x4)] [] := by
    intro C x1 x3 x4 
    rw [eK68]
    refine j_aload_n X (pc' := 69) 0 dX0_repairPoints_68 rfl rfl rfl ?_
    refine j_dup X (pc' := 70) dX0_repairPoints_69 rfl rfl ?_
    refine j_get X inX0 rfl (pc' := 73) 0 12 q_fl_X0_53 (by decide) rfl rfl dX0_repairPoints_70 rfl ?_
    refine j_iload_n X (pc' := 74) 2 dX0_repairPoints_73 rfl rfl rfl ?_
    refine j_isub X (pc' := 75) dX0_repairPoints_74 rfl ?_
    refine j_put X inX0 rfl (pc' := 78) tyX0_ok nmX0 (S := up C 12 0 ((C 12 0) - x3)) (fun S_75 => (wC cI h ar S_75)) 0 12 q_fl_X0_53 (by decide) rfl rfl rfl rfl (Nat.le_of_ble_eq_true rfl) rfl dX0_repairPoints_75 rfl (fun S_75 eS_75 => ?_)
    refine j_aload_n X (pc' := 79) 0 dX0_repairPoints_78 rfl rfl rfl ?_
    refine j_dup X (pc' := 80) dX0_repairPoints_79 rfl rfl ?_
    refine j_get X inX0 rfl (pc' := 83) 0 11 q_fl_X0_39 (by decide) rfl rfl dX0_repairPoints_80 rfl ?_
    refine j_iload_n X (pc' := 84) 1 dX0_repairPoints_83 rfl rfl rfl ?_
    refine j_iadd X (pc' := 85) dX0_repairPoints_84 rfl ?_
    refine j_put X inX0 rfl (pc' := 88) tyX0_ok nmX0 (S := up S_75 11 0 ((S_75 11 0) + x1)) (fun S_85 => (wC cI h ar S_85)) 0 11 q_fl_X0_39 (by decide) rfl rfl rfl rfl (Nat.le_of_ble_eq_true rfl) rfl dX0_repairPoints_85 rfl (fun S_85 eS_85 => ?_)
    refine j_aload_n X (pc' := 89) 0 dX0_repairPoints_88 rfl rfl rfl ?_
    refine j_dup X (pc' := 90) dX0_repairPoints_89 rfl rfl ?_
    refine j_get X inX0 rfl (pc' := 93) 0 16 q_fl_X0_65 (by decide) rfl rfl dX0_repairPoints_90 rfl ?_
    refine j_iload_n X (pc' := 94) 1 dX0_repairPoints_93 rfl rfl rfl ?_
    refine j_iadd X (pc' := 95) dX0_repairPoints_94 rfl ?_
    refine j_put X inX0 rfl (pc' := 98) tyX0_ok nmX0 (S := up S_85 16 0 ((S_85 16 0) + x1)) (fun S_95 => (wC cI h ar S_95)) 0 16 q_fl_X0_65 (by decide) rfl rfl rfl rfl (Nat.le_of_ble_eq_true rfl) rfl dX0_repairPoints_95 rfl (fun S_95 eS_95 => ?_)
    refine j_aload_n X (pc' := 99) 0 dX0_repairPoints_98 rfl rfl rfl ?_
    refine j_iload X (pc' := 101) 3 dX0_repairPoints_99 rfl rfl ?_
    refine j_callVv X (pc' := 104) (As := [.int x4]) (rest := []) (c_X0_oweByUses l D cI cH cO h ar S_95 x4 ) wv_X0_110 ⟨0, 0, _, _, rfl, rfl, rfl⟩ ⟨by decide, by decide, by decide, by decide⟩ rfl rfl (Nat.le_of_ble_eq_true rfl) dX0_repairPoints_101 rfl ?_
    refine j_stL (S := (sX0_oweByUses S_95 x4)) (fun S_101 => (wC cI h ar S_101)) (fun S_101 eS_101 => ?_)
    refine j_iload X (pc' := 106) 3 dX0_repairPoints_104 rfl rfl ?_
    exact j_iretI X rfl rfl dX0_repairPoints_106
  refine j_iload_n X (pc' := 1) 1 dX0_repairPoints_0 rfl rfl rfl ?_
  refine j_iconst X (v := 1) (pc' := 2) dX0_repairPoints_1 (by decide) rfl ?_
  refine j_icmp_lt X (tgt := 11) (pc' := 5) dX0_repairPoints_2 (by decide) rfl (fun c_2 => ?_) (fun c_2 => ?_)
  · refine j_sipush X (v := (-10001)) (pc' := 14) dX0_repairPoints_11 (by decide) rfl ?_
    exact j_iretI X rfl rfl dX0_repairPoints_14
  · refine j_iload_n X (pc' := 6) 1 dX0_repairPoints_5 rfl rfl rfl ?_
    refine j_bipush X (v := 100) (pc' := 8) dX0_repairPoints_6 (by decide) rfl ?_
    refine j_icmp_le X (tgt := 15) (pc' := 11) dX0_repairPoints_8 (by decide) rfl (fun c_8 => ?_) (fun c_8 => ?_)
    · refine j_iload_n X (pc' := 16) 1 dX0_repairPoints_15 rfl rfl rfl ?_
      refine j_aload_n X (pc' := 17) 0 dX0_repairPoints_16 rfl rfl rfl ?_
      refine j_get X inX0 rfl (pc' := 20) 0 0 q_fl_X0_9 (by decide) rfl rfl dX0_repairPoints_17 rfl ?_
      refine j_iconst X (v := 4) (pc' := 21) dX0_repairPoints_20 (by decide) rfl ?_
      refine j_ialdN X (i := 4) (pc' := 22) 1 rfl (by omega) (by decide) dX0_repairPoints_21 rfl ?_
      refine j_imul X (pc' := 23) dX0_repairPoints_22 rfl ?_
      refine j_istore_nL X (fun v2_23 => [(0, .ref h), (1, .int x1), (2, .int v2_23)]) [1, 2, 0] (pc' := 24) dX0_repairPoints_23 rfl (by decide) (fun _ => rfl) rfl (fun v2_23 ev2_23 => ?_)
      refine j_iload_n X (pc' := 25) 2 dX0_repairPoints_24 rfl rfl rfl ?_
      refine j_aload_n X (pc' := 26) 0 dX0_repairPoints_25 rfl rfl rfl ?_
      refine j_get X inX0 rfl (pc' := 29) 0 12 q_fl_X0_53 (by decide) rfl rfl dX0_repairPoints_26 rfl ?_
      refine j_mmin X (pc' := 32) ⟨q_ml_X0_105, q_sta_J9_min, q_ini_J9, q_code_J9_min⟩ ⟨by decide, Nat.le_of_ble_eq_true rfl, by decide, by decide⟩ dX0_repairPoints_29 rfl ?_
      refine j_istore_nL X (fun v3_32 => [(0, .ref h), (1, .int x1), (2, .int v2_23), (3, .int v3_32)]) [1, 2, 3, 0] (pc' := 33) dX0_repairPoints_32 rfl (by decide) (fun _ => rfl) rfl (fun v3_32 ev3_32 => ?_)
      refine j_iload_n X (pc' := 34) 2 dX0_repairPoints_33 rfl rfl rfl ?_
      refine j_iload_n X (pc' := 35) 3 dX0_repairPoints_34 rfl rfl rfl ?_
      refine j_isub X (pc' := 36) dX0_repairPoints_35 rfl ?_
      refine j_istoreL X (fun v4_36 => [(0, .ref h), (1, .int x1), (2, .int v2_23), (3, .int v3_32), (4, .int v4_36)]) [1, 2, 3, 4, 0] (pc' := 38) dX0_repairPoints_36  (by decide) (fun _ => rfl) rfl (fun v4_36 ev4_36 => ?_)
      refine j_aload_n X (pc' := 39) 0 dX0_repairPoints_38 rfl rfl rfl ?_
      refine j_get X inX0 rfl (pc' := 42) 0 11 q_fl_X0_39 (by decide) rfl rfl dX0_repairPoints_39 rfl ?_
      refine j_iload_n X (pc' := 43) 1 dX0_repairPoints_42 rfl rfl rfl ?_
      refine j_iadd X (pc' := 44) dX0_repairPoints_43 rfl ?_
      refine j_bipush X (v := 100) (pc' := 46) dX0_repairPoints_44 (by decide) rfl ?_
      refine j_icmp_gt X (tgt := 64) (pc' := 49) dX0_repairPoints_46 (by decide) rfl (fun c_46 => ?_) (fun c_46 => ?_)
      · refine j_sipush X (v := (-10002)) (pc' := 67) dX0_repairPoints_64 (by decide) rfl ?_
        exact j_iretI X rfl rfl dX0_repairPoints_67
      · refine j_iload X (pc' := 51) 4 dX0_repairPoints_49 rfl rfl ?_
        refine j_if_le X (tgt := 68) (pc' := 54) dX0_repairPoints_51 (by decide) rfl (fun c_51 => ?_) (fun c_51 => ?_)
        · refine j_lv [0, 1, 3, 4] (lv' := [(0, .ref h), (1, .int x1), (3, .int v3_32), (4, .int v4_36)]) rfl ?_
          exact hK68 _ _ _ _ 
        · refine j_aload_n X (pc' := 55) 0 dX0_repairPoints_54 rfl rfl rfl ?_
          refine j_get X inX0 rfl (pc' := 58) 0 5 q_fl_X0_27 (by decide) rfl rfl dX0_repairPoints_55 rfl ?_
          refine j_callNi X (pc' := 61) (As := [.ref (ar 5)]) (rest := []) (c_X4_sumOf_5 l D cI cH cO h ar C ) X.2.2.1.2.2.2.2.2.2.1 wn_X0_68 ⟨by decide, by decide, by decide, by decide⟩ rfl rfl (Nat.le_of_ble_eq_true rfl) dX0_repairPoints_58 rfl ?_
          refine j_topL (fun r_58 er_58 => ?_)
          refine j_if_ne X (tgt := 68) (pc' := 64) dX0_repairPoints_61 (by decide) rfl (fun c_61 => ?_) (fun c_61 => ?_)
          · refine j_lv [0, 1, 3, 4] (lv' := [(0, .ref h), (1, .int x1), (3, .int v3_32), (4, .int v4_36)]) rfl ?_
            exact hK68 _ _ _ _ 
          · refine j_sipush X (v := (-10002)) (pc' := 67) dX0_repairPoints_64 (by decide) rfl ?_
            exact j_iretI X rfl rfl dX0_repairPoints_67
    · refine j_sipush X (v := (-10001)) (pc' := 14) dX0_repairPoints_11 (by decide) rfl ?_
      exact j_iretI X rfl rfl dX0_repairPoints_14
theorem c_X0_repairPoints (l : Launch) (D : va_G) (cI cH cO : ClassId) (h : Nat) (ar : Nat → Nat) (C : Cst) (x1 : Int32)  : MI l yX0_repairPoints cX0_repairPoints 5 (some .int) 2 D (tyl cI cH cO) [.ref h, .int x1] ((wC cI h ar C)) (sX0_repairPoints C x1).1 ((wC cI h ar ((sX0_repairPoints C x1).2))) := fun sz => j_start (fun below s => (KI below [.ref h, .int x1].toArray s D (tyl cI cH cO) ((wC cI h ar C)) (fun C9 => (wC cI h ar C9)))) (sX0_repairPoints C x1) (by decide +kernel) rfl (Nat.le_of_ble_eq_true rfl) (fun below s hs _ => by subst hs; rfl) (fun p e s m below meth c hX9 X => b_X0_repairPoints h ar C x1  X)
set_option maxHeartbeats 4000000 in
set_option maxRecDepth 100000 in
theorem b_X0_pointsFromFund {p : Program} {l : Launch} {e : Env} {s : State} {m : MethodId} {args : Array Value} {below : List Frame} {meth : Method} {c : Code} {D : va_G} {cI cH cO : ClassId} (h : Nat) (ar : Nat → Nat) (C : Cst)  (X : CX p s m args meth c cX0_pointsFromFund 1 RX0 (some .int) D (tyl cI cH cO) (va_A ((wC cI h ar C)) s.heap.size)) : J p l e (rml 1) s m args below meth c 1 D (va_A ((wC cI h ar C)) s.heap.size) 0 0 (KP below args s D (tyl cI cH cO) ((wC cI h ar C))) (sX0_pointsFromFund C) ((wC cI h ar C)) 0 [(0, .ref h)] [] := by
  unfold sX0_pointsFromFund
  refine j_bipush X (v := 100) (pc' := 2) dX0_pointsFromFund_0 (by decide) rfl ?_
  refine j_aload_n X (pc' := 3) 0 dX0_pointsFromFund_2 rfl rfl rfl ?_
  refine j_get X inX0 rfl (pc' := 6) 0 11 q_fl_X0_39 (by decide) rfl rfl dX0_pointsFromFund_3 rfl ?_
  refine j_isub X (pc' := 7) dX0_pointsFromFund_6 rfl ?_
  refine j_aload_n X (pc' := 8) 0 dX0_pointsFromFund_7 rfl rfl rfl ?_
  refine j_get X inX0 rfl (pc' := 11) 0 12 q_fl_X0_53 (by decide) rfl rfl dX0_pointsFromFund_8 rfl ?_
  refine j_aload_n X (pc' := 12) 0 dX0_pointsFromFund_11 rfl rfl rfl ?_
  refine j_get X inX0 rfl (pc' := 15) 0 0 q_fl_X0_9 (by decide) rfl rfl dX0_pointsFromFund_12 rfl ?_
  refine j_iconst X (v := 4) (pc' := 16) dX0_pointsFromFund_15 (by decide) rfl ?_
  refine j_ialdN X (i := 4) (pc' := 17) 1 rfl (by omega) (by decide) dX0_pointsFromFund_16 rfl ?_
  refine j_callNiF X (pc' := 20) (As := [.int (C 12 0), .int (C 0 4)]) (rest := [.int (100 - (C 11 0))]) (ws' := (wC cI h ar C)) (wr := (wC cI h ar C)) [] [0, 1, 2, 3, 4, 5, 6, 7, 8, 9] [0, 1, 2, 3, 4, 5, 6, 7, 8, 9] rfl rfl ⟨by decide, by decide, by decide, by decide⟩ rfl (c_X4_quotient l D cI cH cO (C 12 0) (C 0 4) ) X.2.2.1.2.2.2.2.2.2.2.1 wn_X0_114 ⟨by decide, by decide, by decide, by decide⟩ rfl rfl (Nat.le_of_ble_eq_true rfl) dX0_pointsFromFund_17 rfl ?_
  refine j_topL (fun r_17 er_17 => ?_)
  refine j_mmin X (pc' := 23) ⟨q_ml_X0_105, q_sta_J9_min, q_ini_J9, q_code_J9_min⟩ ⟨by decide, Nat.le_of_ble_eq_true rfl, by decide, by decide⟩ dX0_pointsFromFund_20 rfl ?_
  exact j_iretP X rfl rfl dX0_pointsFromFund_23
theorem c_X0_pointsFromFund (l : Launch) (D : va_G) (cI cH cO : ClassId) (h : Nat) (ar : Nat → Nat) (C : Cst)  : MI l yX0_pointsFromFund cX0_pointsFromFund 1 (some .int) 1 D (tyl cI cH cO) [.ref h] ((wC cI h ar C)) (sX0_pointsFromFund C) ((wC cI h ar C)) := fun sz => j_start (fun below s => (KP below [.ref h].toArray s D (tyl cI cH cO) ((wC cI h ar C)))) (sX0_pointsFromFund C) (by decide +kernel) rfl (Nat.le_of_ble_eq_true rfl) (fun below s hs _ => by subst hs; rfl) (fun p e s m below meth c hX9 X => b_X0_pointsFromFund h ar C  X)
set_option maxHeartbeats 4000000 in
set_option maxRecDepth 100000 in
theorem b_X0_oweCharges {p : Program} {l : Launch} {e : Env} {s : State} {m : MethodId} {args : Array Value} {below : List Frame} {meth : Method} {c : Code} {D : va_G} {cI cH cO : ClassId} {ws0 : va_W} (h : Nat) (ar : Nat → Nat) (C : Cst) (hM : (C 9 0).toInt ≤ 8) (X : CX p s m args meth c cX0_oweCharges 5 RX0 none D (tyl cI cH cO) (va_A ws0 s.heap.size)) : J p l e (rml 1) s m args below meth c 5 D (va_A ws0 s.heap.size) 0 0 (KV below args s D (tyl cI cH cO) ws0 (fun C9 => (wC cI h ar C9))) (sX0_oweCharges C) ((wC cI h ar C)) 0 [(0, .ref h)] [] := by
  unfold sX0_oweCharges
  refine j_ltl5 (fun L29 eL29 => ?_)
  have hL29 : ∀ (n29 : Nat) (C : Cst) (x1 : Int32) (x2 : Int32) (x3 : Int32) (i4 : Nat) (hi : i4 ≤ 8) (hfu : 9 ≤ i4 + n29) (hM : (C 9 0).toInt ≤ 8), J p l e (rml 1) s m args below meth c 5 D (va_A ws0 s.heap.size) 0 0 (KV below args s D (tyl cI cH cO) ws0 (fun C9 => (wC cI h ar C9))) (L29 n29 C x1 x2 x3 i4) ((wC cI h ar C)) 29 [(0, .ref h), (1, .int x1), (2, .int x2), (3, .int x3), (4, .int (nI i4))] [] := by
    intro n29
    induction n29 with
    | zero =>
      intro C x1 x2 x3 i4 hi hfu hM
      exact absurd hfu (by omega)
    | succ n29 ih29 =>
      intro C x1 x2 x3 i4 hi hfu hM
      rw [eL29]
      refine j_ltv (fun K94 eK94 => ?_)
      have hK94 : ∀ (C : Cst) (x1 : Int32) (x2 : Int32) (i4 : Nat) (t0 : Int32) (hi : i4 < 8) (hfu : 9 ≤ i4 + (n29 + 1)) (hM : (C 9 0).toInt ≤ 8), J p l e (rml 1) s m args below meth c 5 D (va_A ws0 s.heap.size) 0 0 (KV below args s D (tyl cI cH cO) ws0 (fun C9 => (wC cI h ar C9))) (K94 C x1 x2 i4 t0) ((wC cI h ar C)) 94 [(0, .ref h), (1, .int x1), (2, .int x2), (4, .int (nI i4))] [.int t0] := by
        intro C x1 x2 i4 t0 hi hfu hM
        rw [eK94]
        refine j_istore_n X (lv' := [(0, .ref h), (1, .int x1), (2, .int x2), (3, .int t0), (4, .int (nI i4))]) (pc' := 95) [1, 2, 3, 0, 4] dX0_oweCharges_94 rfl (by decide) rfl rfl ?_
        refine j_iinc X (v := (nI (i4 + 1))) (lv' := [(0, .ref h), (1, .int x1), (2, .int x2), (3, .int t0), (4, .int (nI (i4 + 1)))]) (q := 4) (pc' := 98) [1, 2, 3, 4, 0] dX0_oweCharges_95 rfl (nI_1 i4) (by decide) rfl rfl ?_
        refine j_goto X (pc' := 29) dX0_oweCharges_98 (by decide) ?_
        refine j_lv [0, 1, 2, 3, 4] (lv' := [(0, .ref h), (1, .int x1), (2, .int x2), (3, .int t0), (4, .int (nI (i4 + 1)))]) rfl ?_
        exact ih29 _ _ _ _ _ (by first | omega | assumption | decide | (subst_vars; first | assumption | omega | exact hM)) (by first | omega | assumption | decide | (subst_vars; first | assumption | omega | exact hM)) (by first | omega | assumption | decide | (subst_vars; first | assumption | omega | exact hM))
      refine j_ltv (fun K77 eK77 => ?_)
      have hK77 : ∀ (C : Cst) (x1 : Int32) (x2 : Int32) (x3 : Int32) (i4 : Nat) (hi : i4 < 8) (hfu : 9 ≤ i4 + (n29 + 1)) (hM : (C 9 0).toInt ≤ 8), J p l e (rml 1) s m args below meth c 5 D (va_A ws0 s.heap.size) 0 0 (KV below args s D (tyl cI cH cO) ws0 (fun C9 => (wC cI h ar C9))) (K77 C x1 x2 x3 i4) ((wC cI h ar C)) 77 [(0, .ref h), (1, .int x1), (2, .int x2), (3, .int x3), (4, .int (nI i4))] [] := by
        intro C x1 x2 x3 i4 hi hfu hM
        rw [eK77]
        refine j_iload_n X (pc' := 78) 3 dX0_oweCharges_77 rfl rfl rfl ?_
        refine j_iconst X (v := 1) (pc' := 79) dX0_oweCharges_78 (by decide) rfl ?_
        refine j_iadd X (pc' := 80) dX0_oweCharges_79 rfl ?_
        refine j_aload_n X (pc' := 81) 0 dX0_oweCharges_80 rfl rfl rfl ?_
        refine j_get X inX0 rfl (pc' := 84) 0 9 q_fl_X0_47 (by decide) rfl rfl dX0_oweCharges_81 rfl ?_
        refine j_icmp_ge X (tgt := 93) (pc' := 87) dX0_oweCharges_84 (by decide) rfl (fun c_84 => ?_) (fun c_84 => ?_)
        · refine j_iconst X (v := 0) (pc' := 94) dX0_oweCharges_93 (by decide) rfl ?_
          refine j_lv [0, 1, 2, 4] (lv' := [(0, .ref h), (1, .int x1), (2, .int x2), (4, .int (nI i4))]) rfl ?_
          exact hK94 _ _ _ _ _ (by first | omega | assumption | decide | (subst_vars; first | assumption | omega | exact hM)) (by first | omega | assumption | decide | (subst_vars; first | assumption | omega | exact hM)) (by first | omega | assumption | decide | (subst_vars; first | assumption | omega | exact hM))
        · refine j_iload_n X (pc' := 88) 3 dX0_oweCharges_87 rfl rfl rfl ?_
          refine j_iconst X (v := 1) (pc' := 89) dX0_oweCharges_88 (by decide) rfl ?_
          refine j_iadd X (pc' := 90) dX0_oweCharges_89 rfl ?_
          refine j_goto X (pc' := 94) dX0_oweCharges_90 (by decide) ?_
          refine j_lv [0, 1, 2, 4] (lv' := [(0, .ref h), (1, .int x1), (2, .int x2), (4, .int (nI i4))]) rfl ?_
          exact hK94 _ _ _ _ _ (by first | omega | assumption | decide | (subst_vars; first | assumption | omega | exact hM)) (by first | omega | assumption | decide | (subst_vars; first | assumption | omega | exact hM)) (by first | omega | assumption | decide | (subst_vars; first | assumption | omega | exact hM))
      refine j_iload X (pc' := 31) 4 dX0_oweCharges_29 rfl rfl ?_
      refine j_aload_n X (pc' := 32) 0 dX0_oweCharges_31 rfl rfl rfl ?_
      refine j_get X inX0 rfl (pc' := 35) 0 9 q_fl_X0_47 (by decide) rfl rfl dX0_oweCharges_32 rfl ?_
      refine j_icmp_ge X (tgt := 101) (pc' := 38) dX0_oweCharges_35 (by decide) rfl (fun c_35 => ?_) (fun c_35 => ?_)
      · exact j_vret X rfl dX0_oweCharges_101
      · have hb4 : i4 < 8 := i32_lt8 c_35 hM (by omega)
        refine j_aload_n X (pc' := 39) 0 dX0_oweCharges_38 rfl rfl rfl ?_
        refine j_iload_n X (pc' := 40) 3 dX0_oweCharges_39 rfl rfl rfl ?_
        refine j_callVi X (pc' := 43) (As := [.int x3]) (rest := []) (c_X0_has l D cI cH cO h ar C x3 ) wv_X0_86 ⟨0, 0, _, _, rfl, rfl, rfl⟩ ⟨by decide, by decide, by decide, by decide⟩ rfl rfl (Nat.le_of_ble_eq_true rfl) dX0_oweCharges_40 rfl ?_
        refine j_topL (fun r_40 er_40 => ?_)
        refine j_if_eq X (tgt := 77) (pc' := 46) dX0_oweCharges_43 (by decide) rfl (fun c_43 => ?_) (fun c_43 => ?_)
        · refine j_lv [0, 1, 2, 3, 4] (lv' := [(0, .ref h), (1, .int x1), (2, .int x2), (3, .int x3), (4, .int (nI i4))]) rfl ?_
          exact hK77 _ _ _ _ _ (by first | omega | assumption | decide | (subst_vars; first | assumption | omega | exact hM)) (by first | omega | assumption | decide | (subst_vars; first | assumption | omega | exact hM)) (by first | omega | assumption | decide | (subst_vars; first | assumption | omega | exact hM))
        · have hv3 := has_in (by rw [← er_40]; exact c_43)
          refine j_iload_n X (pc' := 47) 1 dX0_oweCharges_46 rfl rfl rfl ?_
          refine j_aload_n X (pc' := 48) 0 dX0_oweCharges_47 rfl rfl rfl ?_
          refine j_get X inX0 rfl (pc' := 51) 0 2 q_fl_X0_18 (by decide) rfl rfl dX0_oweCharges_48 rfl ?_
          refine j_iload_n X (pc' := 52) 3 dX0_oweCharges_51 rfl rfl rfl ?_
          refine j_iald X (pc' := 53) 3 rfl hv3 dX0_oweCharges_52 rfl ?_
          refine j_iadd X (pc' := 54) dX0_oweCharges_53 rfl ?_
          refine j_istore_nL X (fun v1_54 => [(0, .ref h), (1, .int v1_54), (2, .int x2), (3, .int x3), (4, .int (nI i4))]) [1, 0, 2, 3, 4] (pc' := 55) dX0_oweCharges_54 rfl (by decide) (fun _ => rfl) rfl (fun v1_54 ev1_54 => ?_)
          refine j_aload_n X (pc' := 56) 0 dX0_oweCharges_55 rfl rfl rfl ?_
          refine j_get X inX0 rfl (pc' := 59) 0 3 q_fl_X0_21 (by decide) rfl rfl dX0_oweCharges_56 rfl ?_
          refine j_iload_n X (pc' := 60) 3 dX0_oweCharges_59 rfl rfl rfl ?_
          refine j_dup2 X (pc' := 61) dX0_oweCharges_60 rfl rfl rfl ?_
          refine j_iald X (pc' := 62) 4 rfl hv3 dX0_oweCharges_61 rfl ?_
          refine j_aload_n X (pc' := 63) 0 dX0_oweCharges_62 rfl rfl rfl ?_
          refine j_iload_n X (pc' := 64) 1 dX0_oweCharges_63 rfl rfl rfl ?_
          refine j_callVi X (pc' := 67) (As := [.int v1_54]) (rest := [.int (C 3 x3.toNatClampNeg), .int x3, .ref (ar 3)]) (c_X0_damageOf l D cI cH cO h ar C v1_54 ) wv_X0_83 ⟨0, 0, _, _, rfl, rfl, rfl⟩ ⟨by decide, by decide, by decide, by decide⟩ rfl rfl (Nat.le_of_ble_eq_true rfl) dX0_oweCharges_64 rfl ?_
          refine j_topL (fun r_64 er_64 => ?_)
          refine j_iload_n X (pc' := 68) 2 dX0_oweCharges_67 rfl rfl rfl ?_
          refine j_isub X (pc' := 69) dX0_oweCharges_68 rfl ?_
          refine j_iadd X (pc' := 70) dX0_oweCharges_69 rfl ?_
          refine j_iast X (pc' := 71) (S := up C 3 x3.toNatClampNeg ((C 3 x3.toNatClampNeg) + (r_64 - x2))) (fun S_70 => (wC cI h ar S_70)) 4 rfl rfl hv3 dX0_oweCharges_70 rfl (fun S_70 eS_70 => ?_)
          refine j_aload_n X (pc' := 72) 0 dX0_oweCharges_71 rfl rfl rfl ?_
          refine j_iload_n X (pc' := 73) 1 dX0_oweCharges_72 rfl rfl rfl ?_
          refine j_callVi X (pc' := 76) (As := [.int v1_54]) (rest := []) (c_X0_damageOf l D cI cH cO h ar S_70 v1_54 ) wv_X0_83 ⟨0, 0, _, _, rfl, rfl, rfl⟩ ⟨by decide, by decide, by decide, by decide⟩ rfl rfl (Nat.le_of_ble_eq_true rfl) dX0_oweCharges_73 rfl ?_
          refine j_topL (fun r_73 er_73 => ?_)
          refine j_istore_n X (lv' := [(0, .ref h), (1, .int v1_54), (2, .int r_73), (3, .int x3), (4, .int (nI i4))]) (pc' := 77) [1, 2, 0, 3, 4] dX0_oweCharges_76 rfl (by decide) rfl rfl ?_
          refine j_lv [0, 1, 2, 3, 4] (lv' := [(0, .ref h), (1, .int v1_54), (2, .int r_73), (3, .int x3), (4, .int (nI i4))]) rfl ?_
          exact hK77 _ _ _ _ _ (by first | omega | assumption | decide | (subst_vars; first | assumption | omega | exact hM)) (by first | omega | assumption | decide | (subst_vars; first | assumption | omega | exact hM)) (by first | omega | assumption | decide | (subst_vars; first | assumption | omega | exact hM))
  refine j_ltv (fun K25 eK25 => ?_)
  have hK25 : ∀ (C : Cst) (x1 : Int32) (x2 : Int32) (t0 : Int32) (hM : (C 9 0).toInt ≤ 8), J p l e (rml 1) s m args below meth c 5 D (va_A ws0 s.heap.size) 0 0 (KV below args s D (tyl cI cH cO) ws0 (fun C9 => (wC cI h ar C9))) (K25 C x1 x2 t0) ((wC cI h ar C)) 25 [(0, .ref h), (1, .int x1), (2, .int x2)] [.int t0] := by
    intro C x1 x2 t0 hM
    rw [eK25]
    refine j_istore_n X (lv' := [(0, .ref h), (1, .int x1), (2, .int x2), (3, .int t0)]) (pc' := 26) [1, 2, 3, 0] dX0_oweCharges_25 rfl (by decide) rfl rfl ?_
    refine j_iconst X (v := 0) (pc' := 27) dX0_oweCharges_26 (by decide) rfl ?_
    refine j_istore X (lv' := [(0, .ref h), (1, .int x1), (2, .int x2), (3, .int t0), (4, .int 0)]) (pc' := 29) [1, 2, 3, 4, 0] dX0_oweCharges_27 (by decide) rfl rfl ?_
    refine j_lv [0, 1, 2, 3, 4] (lv' := [(0, .ref h), (1, .int x1), (2, .int x2), (3, .int t0), (4, .int 0)]) rfl ?_
    exact hL29 _ _ _ _ _ _ (by first | omega | assumption | decide | (subst_vars; first | assumption | omega | exact hM)) (by first | omega | assumption | decide | (subst_vars; first | assumption | omega | exact hM)) (by first | omega | assumption | decide | (subst_vars; first | assumption | omega | exact hM))
  refine j_iconst X (v := 0) (pc' := 1) dX0_oweCharges_0 (by decide) rfl ?_
  refine j_istore_n X (lv' := [(0, .ref h), (1, .int 0)]) (pc' := 2) [1, 0] dX0_oweCharges_1 rfl (by decide) rfl rfl ?_
  refine j_iconst X (v := 0) (pc' := 3) dX0_oweCharges_2 (by decide) rfl ?_
  refine j_istore_n X (lv' := [(0, .ref h), (1, .int 0), (2, .int 0)]) (pc' := 4) [1, 2, 0] dX0_oweCharges_3 rfl (by decide) rfl rfl ?_
  refine j_aload_n X (pc' := 5) 0 dX0_oweCharges_4 rfl rfl rfl ?_
  refine j_get X inX0 rfl (pc' := 8) 0 9 q_fl_X0_47 (by decide) rfl rfl dX0_oweCharges_5 rfl ?_
  refine j_iconst X (v := 1) (pc' := 9) dX0_oweCharges_8 (by decide) rfl ?_
  refine j_icmp_ge X (tgt := 16) (pc' := 12) dX0_oweCharges_9 (by decide) rfl (fun c_9 => ?_) (fun c_9 => ?_)
  · refine j_aload_n X (pc' := 17) 0 dX0_oweCharges_16 rfl rfl rfl ?_
    refine j_get X inX0 rfl (pc' := 20) 0 10 q_fl_X0_50 (by decide) rfl rfl dX0_oweCharges_17 rfl ?_
    refine j_aload_n X (pc' := 21) 0 dX0_oweCharges_20 rfl rfl rfl ?_
    refine j_get X inX0 rfl (pc' := 24) 0 9 q_fl_X0_47 (by decide) rfl rfl dX0_oweCharges_21 rfl ?_
    refine j_irem X (pc' := 25) dX0_oweCharges_24 (by intro h; rw [h] at c_9; exact absurd c_9 (by decide)) rfl ?_
    refine j_lv [0, 1, 2] (lv' := [(0, .ref h), (1, .int 0), (2, .int 0)]) rfl ?_
    exact hK25 _ _ _ _ (by first | omega | assumption | decide | (subst_vars; first | assumption | omega | exact hM))
  · refine j_iconst X (v := 0) (pc' := 13) dX0_oweCharges_12 (by decide) rfl ?_
    refine j_goto X (pc' := 25) dX0_oweCharges_13 (by decide) ?_
    refine j_lv [0, 1, 2] (lv' := [(0, .ref h), (1, .int 0), (2, .int 0)]) rfl ?_
    exact hK25 _ _ _ _ (by first | omega | assumption | decide | (subst_vars; first | assumption | omega | exact hM))
theorem c_X0_oweCharges (l : Launch) (D : va_G) (cI cH cO : ClassId) (h : Nat) (ar : Nat → Nat) (C : Cst) (hM : (C 9 0).toInt ≤ 8) : MV l yX0_oweCharges cX0_oweCharges 5 1 D (tyl cI cH cO) [.ref h] ((wC cI h ar C)) ((wC cI h ar (sX0_oweCharges C))) := fun sz => j_start (fun below s => (KV below [.ref h].toArray s D (tyl cI cH cO) ((wC cI h ar C)) (fun C9 => (wC cI h ar C9)))) (sX0_oweCharges C) (by decide +kernel) rfl (Nat.le_of_ble_eq_true rfl) (fun below s hs _ => by subst hs; rfl) (fun p e s m below meth c hX9 X => b_X0_oweCharges h ar C hM X)
set_option maxHeartbeats 4000000 in
set_option maxRecDepth 100000 in
theorem b_X0_keepSeason {p : Program} {l : Launch} {e : Env} {s : State} {m : MethodId} {args : Array Value} {below : List Frame} {meth : Method} {c : Code} {D : va_G} {cI cH cO : ClassId} {ws0 : va_W} (h : Nat) (ar : Nat → Nat) (C : Cst) (x1 : Int32) (x2 : Int32) (hS0 : 0 ≤ (C 10 0).toInt) (X : CX p s m args meth c cX0_keepSeason 4 RX0 none D (tyl cI cH cO) (va_A ws0 s.heap.size)) : J p l e (rml 0) s m args below meth c 4 D (va_A ws0 s.heap.size) 0 0 (KV below args s D (tyl cI cH cO) ws0 (fun C9 => (wC cI h ar C9))) (sX0_keepSeason C x1 x2) ((wC cI h ar C)) 0 [(0, .ref h), (1, .int x1), (2, .int x2)] [] := by
  unfold sX0_keepSeason
  refine j_aload_n X (pc' := 1) 0 dX0_keepSeason_0 rfl rfl rfl ?_
  refine j_get X inX0 rfl (pc' := 4) 0 10 q_fl_X0_50 (by decide) rfl rfl dX0_keepSeason_1 rfl ?_
  refine j_bipush X (v := 6) (pc' := 6) dX0_keepSeason_4 (by decide) rfl ?_
  refine j_irem X (pc' := 7) dX0_keepSeason_6 (by decide) rfl ?_
  refine j_iconst X (v := 5) (pc' := 8) dX0_keepSeason_7 (by decide) rfl ?_
  refine j_imul X (pc' := 9) dX0_keepSeason_8 rfl ?_
  refine j_istore_nL X (fun v3_9 => [(0, .ref h), (1, .int x1), (2, .int x2), (3, .int v3_9)]) [1, 2, 3, 0] (pc' := 10) dX0_keepSeason_9 rfl (by decide) (fun _ => rfl) rfl (fun v3_9 ev3_9 => ?_)
  refine j_aload_n X (pc' := 11) 0 dX0_keepSeason_10 rfl rfl rfl ?_
  refine j_get X inX0 rfl (pc' := 14) 0 8 q_fl_X0_36 (by decide) rfl rfl dX0_keepSeason_11 rfl ?_
  refine j_iload_n X (pc' := 15) 3 dX0_keepSeason_14 rfl rfl rfl ?_
  refine j_aload_n X (pc' := 16) 0 dX0_keepSeason_15 rfl rfl rfl ?_
  refine j_get X inX0 rfl (pc' := 19) 0 10 q_fl_X0_50 (by decide) rfl rfl dX0_keepSeason_16 rfl ?_
  refine j_iast X (pc' := 20) (S := up C 8 v3_9.toNatClampNeg (C 10 0)) (fun S_19 => (wC cI h ar S_19)) 9 rfl rfl (kS_in0 hS0 ev3_9) dX0_keepSeason_19 rfl (fun S_19 eS_19 => ?_)
  refine j_aload_n X (pc' := 21) 0 dX0_keepSeason_20 rfl rfl rfl ?_
  refine j_get X inX0 rfl (pc' := 24) 0 8 q_fl_X0_36 (by decide) rfl rfl dX0_keepSeason_21 rfl ?_
  refine j_iload_n X (pc' := 25) 3 dX0_keepSeason_24 rfl rfl rfl ?_
  refine j_iconst X (v := 1) (pc' := 26) dX0_keepSeason_25 (by decide) rfl ?_
  refine j_iadd X (pc' := 27) dX0_keepSeason_26 rfl ?_
  refine j_iload_n X (pc' := 28) 1 dX0_keepSeason_27 rfl rfl rfl ?_
  refine j_iast X (pc' := 29) (S := up S_19 8 (v3_9 + 1).toNatClampNeg x1) (fun S_28 => (wC cI h ar S_28)) 9 rfl rfl (kS_in hS0 ev3_9 1 (by decide)) dX0_keepSeason_28 rfl (fun S_28 eS_28 => ?_)
  refine j_aload_n X (pc' := 30) 0 dX0_keepSeason_29 rfl rfl rfl ?_
  refine j_get X inX0 rfl (pc' := 33) 0 8 q_fl_X0_36 (by decide) rfl rfl dX0_keepSeason_30 rfl ?_
  refine j_iload_n X (pc' := 34) 3 dX0_keepSeason_33 rfl rfl rfl ?_
  refine j_iconst X (v := 2) (pc' := 35) dX0_keepSeason_34 (by decide) rfl ?_
  refine j_iadd X (pc' := 36) dX0_keepSeason_35 rfl ?_
  refine j_iload_n X (pc' := 37) 2 dX0_keepSeason_36 rfl rfl rfl ?_
  refine j_iast X (pc' := 38) (S := up S_28 8 (v3_9 + 2).toNatClampNeg x2) (fun S_37 => (wC cI h ar S_37)) 9 rfl rfl (kS_in hS0 ev3_9 2 (by decide)) dX0_keepSeason_37 rfl (fun S_37 eS_37 => ?_)
  refine j_aload_n X (pc' := 39) 0 dX0_keepSeason_38 rfl rfl rfl ?_
  refine j_get X inX0 rfl (pc' := 42) 0 8 q_fl_X0_36 (by decide) rfl rfl dX0_keepSeason_39 rfl ?_
  refine j_iload_n X (pc' := 43) 3 dX0_keepSeason_42 rfl rfl rfl ?_
  refine j_iconst X (v := 3) (pc' := 44) dX0_keepSeason_43 (by decide) rfl ?_
  refine j_iadd X (pc' := 45) dX0_keepSeason_44 rfl ?_
  refine j_aload_n X (pc' := 46) 0 dX0_keepSeason_45 rfl rfl rfl ?_
  refine j_get X inX0 rfl (pc' := 49) 0 11 q_fl_X0_39 (by decide) rfl rfl dX0_keepSeason_46 rfl ?_
  refine j_iast X (pc' := 50) (S := up S_37 8 (v3_9 + 3).toNatClampNeg (S_37 11 0)) (fun S_49 => (wC cI h ar S_49)) 9 rfl rfl (kS_in hS0 ev3_9 3 (by decide)) dX0_keepSeason_49 rfl (fun S_49 eS_49 => ?_)
  refine j_aload_n X (pc' := 51) 0 dX0_keepSeason_50 rfl rfl rfl ?_
  refine j_get X inX0 rfl (pc' := 54) 0 8 q_fl_X0_36 (by decide) rfl rfl dX0_keepSeason_51 rfl ?_
  refine j_iload_n X (pc' := 55) 3 dX0_keepSeason_54 rfl rfl rfl ?_
  refine j_iconst X (v := 4) (pc' := 56) dX0_keepSeason_55 (by decide) rfl ?_
  refine j_iadd X (pc' := 57) dX0_keepSeason_56 rfl ?_
  refine j_aload_n X (pc' := 58) 0 dX0_keepSeason_57 rfl rfl rfl ?_
  refine j_get X inX0 rfl (pc' := 61) 0 13 q_fl_X0_56 (by decide) rfl rfl dX0_keepSeason_58 rfl ?_
  refine j_iast X (pc' := 62) (S := up S_49 8 (v3_9 + 4).toNatClampNeg (S_49 13 0)) (fun S_61 => (wC cI h ar S_61)) 9 rfl rfl (kS_in hS0 ev3_9 4 (by decide)) dX0_keepSeason_61 rfl (fun S_61 eS_61 => ?_)
  exact j_vret X rfl dX0_keepSeason_62
theorem c_X0_keepSeason (l : Launch) (D : va_G) (cI cH cO : ClassId) (h : Nat) (ar : Nat → Nat) (C : Cst) (x1 : Int32) (x2 : Int32) (hS0 : 0 ≤ (C 10 0).toInt) : MV l yX0_keepSeason cX0_keepSeason 4 0 D (tyl cI cH cO) [.ref h, .int x1, .int x2] ((wC cI h ar C)) ((wC cI h ar (sX0_keepSeason C x1 x2))) := fun sz => j_start (fun below s => (KV below [.ref h, .int x1, .int x2].toArray s D (tyl cI cH cO) ((wC cI h ar C)) (fun C9 => (wC cI h ar C9)))) (sX0_keepSeason C x1 x2) (by decide +kernel) rfl (Nat.le_of_ble_eq_true rfl) (fun below s hs _ => by subst hs; rfl) (fun p e s m below meth c hX9 X => b_X0_keepSeason h ar C x1 x2 hS0 X)
set_option maxHeartbeats 4000000 in
set_option maxRecDepth 100000 in
theorem b_X0_bookUses {p : Program} {l : Launch} {e : Env} {s : State} {m : MethodId} {args : Array Value} {below : List Frame} {meth : Method} {c : Code} {D : va_G} {cI cH cO : ClassId} {ws0 : va_W} (h : Nat) (ar : Nat → Nat) (C : Cst)  (X : CX p s m args meth c cX0_bookUses 2 RX0 none D (tyl cI cH cO) (va_A ws0 s.heap.size)) : J p l e (rml 0) s m args below meth c 2 D (va_A ws0 s.heap.size) 0 0 (KV below args s D (tyl cI cH cO) ws0 (fun C9 => (wC cI h ar C9))) (sX0_bookUses C) ((wC cI h ar C)) 0 [(0, .ref h)] [] := by
  unfold sX0_bookUses
  refine j_ltl2 (fun L2 eL2 => ?_)
  have hL2 : ∀ (n2 : Nat) (C : Cst) (i1 : Nat) (hi : i1 ≤ 8) (hfu : 9 ≤ i1 + n2), J p l e (rml 0) s m args below meth c 2 D (va_A ws0 s.heap.size) 0 0 (KV below args s D (tyl cI cH cO) ws0 (fun C9 => (wC cI h ar C9))) (L2 n2 C i1) ((wC cI h ar C)) 2 [(0, .ref h), (1, .int (nI i1))] [] := by
    intro n2
    induction n2 with
    | zero =>
      intro C i1 hi hfu
      exact absurd hfu (by omega)
    | succ n2 ih2 =>
      intro C i1 hi hfu
      rw [eL2]
      refine j_iload_n X (pc' := 3) 1 dX0_bookUses_2 rfl rfl rfl ?_
      refine j_bipush X (v := 8) (pc' := 5) dX0_bookUses_3 (by decide) rfl ?_
      refine j_icmp_ge X (tgt := 51) (pc' := 8) dX0_bookUses_5 (by decide) rfl (fun c_5 => ?_) (fun c_5 => ?_)
      · have f_5 : 8 ≤ i1 := (nI_leI (a := 8) (b := i1) (by omega) (by omega)).mp c_5
        exact j_vret X rfl dX0_bookUses_51
      · have f_5 : ¬ (8 ≤ i1) := fun h => c_5 ((nI_leI (a := 8) (b := i1) (by omega) (by omega)).mpr h)
        refine j_aload_n X (pc' := 9) 0 dX0_bookUses_8 rfl rfl rfl ?_
        refine j_get X inX0 rfl (pc' := 12) 0 5 q_fl_X0_27 (by decide) rfl rfl dX0_bookUses_9 rfl ?_
        refine j_iload_n X (pc' := 13) 1 dX0_bookUses_12 rfl rfl rfl ?_
        refine j_dup2 X (pc' := 14) dX0_bookUses_13 rfl rfl rfl ?_
        refine j_ialdN X (i := i1) (pc' := 15) 6 rfl (by omega) (by decide) dX0_bookUses_14 rfl ?_
        refine j_aload_n X (pc' := 16) 0 dX0_bookUses_15 rfl rfl rfl ?_
        refine j_get X inX0 rfl (pc' := 19) 0 2 q_fl_X0_18 (by decide) rfl rfl dX0_bookUses_16 rfl ?_
        refine j_iload_n X (pc' := 20) 1 dX0_bookUses_19 rfl rfl rfl ?_
        refine j_ialdN X (i := i1) (pc' := 21) 3 rfl (by omega) (by decide) dX0_bookUses_20 rfl ?_
        refine j_iadd X (pc' := 22) dX0_bookUses_21 rfl ?_
        refine j_iastN X (i := i1) (pc' := 23) (S := up C 5 i1 ((C 5 i1) + (C 2 i1))) (fun S_22 => (wC cI h ar S_22)) 6 rfl rfl (by omega) (by decide) dX0_bookUses_22 rfl (fun S_22 eS_22 => ?_)
        refine j_aload_n X (pc' := 24) 0 dX0_bookUses_23 rfl rfl rfl ?_
        refine j_get X inX0 rfl (pc' := 27) 0 6 q_fl_X0_30 (by decide) rfl rfl dX0_bookUses_24 rfl ?_
        refine j_iload_n X (pc' := 28) 1 dX0_bookUses_27 rfl rfl rfl ?_
        refine j_dup2 X (pc' := 29) dX0_bookUses_28 rfl rfl rfl ?_
        refine j_ialdN X (i := i1) (pc' := 30) 7 rfl (by omega) (by decide) dX0_bookUses_29 rfl ?_
        refine j_aload_n X (pc' := 31) 0 dX0_bookUses_30 rfl rfl rfl ?_
        refine j_get X inX0 rfl (pc' := 34) 0 2 q_fl_X0_18 (by decide) rfl rfl dX0_bookUses_31 rfl ?_
        refine j_iload_n X (pc' := 35) 1 dX0_bookUses_34 rfl rfl rfl ?_
        refine j_ialdN X (i := i1) (pc' := 36) 3 rfl (by omega) (by decide) dX0_bookUses_35 rfl ?_
        refine j_iadd X (pc' := 37) dX0_bookUses_36 rfl ?_
        refine j_iastN X (i := i1) (pc' := 38) (S := up S_22 6 i1 ((S_22 6 i1) + (S_22 2 i1))) (fun S_37 => (wC cI h ar S_37)) 7 rfl rfl (by omega) (by decide) dX0_bookUses_37 rfl (fun S_37 eS_37 => ?_)
        refine j_aload_n X (pc' := 39) 0 dX0_bookUses_38 rfl rfl rfl ?_
        refine j_get X inX0 rfl (pc' := 42) 0 2 q_fl_X0_18 (by decide) rfl rfl dX0_bookUses_39 rfl ?_
        refine j_iload_n X (pc' := 43) 1 dX0_bookUses_42 rfl rfl rfl ?_
        refine j_iconst X (v := 0) (pc' := 44) dX0_bookUses_43 (by decide) rfl ?_
        refine j_iastN X (i := i1) (pc' := 45) (S := up S_37 2 i1 0) (fun S_44 => (wC cI h ar S_44)) 3 rfl rfl (by omega) (by decide) dX0_bookUses_44 rfl (fun S_44 eS_44 => ?_)
        refine j_iinc X (v := (nI (i1 + 1))) (lv' := [(0, .ref h), (1, .int (nI (i1 + 1)))]) (q := 1) (pc' := 48) [1, 0] dX0_bookUses_45 rfl (nI_1 i1) (by decide) rfl rfl ?_
        refine j_goto X (pc' := 2) dX0_bookUses_48 (by decide) ?_
        refine j_lv [0, 1] (lv' := [(0, .ref h), (1, .int (nI (i1 + 1)))]) rfl ?_
        exact ih2 _ _ (by first | omega | assumption | decide | (subst_vars; first | assumption | omega)) (by first | omega | assumption | decide | (subst_vars; first | assumption | omega))
  refine j_iconst X (v := 0) (pc' := 1) dX0_bookUses_0 (by decide) rfl ?_
  refine j_istore_n X (lv' := [(0, .ref h), (1, .int 0)]) (pc' := 2) [1, 0] dX0_bookUses_1 rfl (by decide) rfl rfl ?_
  refine j_lv [0, 1] (lv' := [(0, .ref h), (1, .int 0)]) rfl ?_
  exact hL2 _ _ _ (by first | omega | assumption | decide | (subst_vars; first | assumption | omega)) (by first | omega | assumption | decide | (subst_vars; first | assumption | omega))
theorem c_X0_bookUses (l : Launch) (D : va_G) (cI cH cO : ClassId) (h : Nat) (ar : Nat → Nat) (C : Cst)  : MV l yX0_bookUses cX0_bookUses 2 0 D (tyl cI cH cO) [.ref h] ((wC cI h ar C)) ((wC cI h ar (sX0_bookUses C))) := fun sz => j_start (fun below s => (KV below [.ref h].toArray s D (tyl cI cH cO) ((wC cI h ar C)) (fun C9 => (wC cI h ar C9)))) (sX0_bookUses C) (by decide +kernel) rfl (Nat.le_of_ble_eq_true rfl) (fun below s hs _ => by subst hs; rfl) (fun p e s m below meth c hX9 X => b_X0_bookUses h ar C  X)
set_option maxHeartbeats 4000000 in
set_option maxRecDepth 100000 in
theorem b_X0_noteSeasonsOut {p : Program} {l : Launch} {e : Env} {s : State} {m : MethodId} {args : Array Value} {below : List Frame} {meth : Method} {c : Code} {D : va_G} {cI cH cO : ClassId} {ws0 : va_W} (h : Nat) (ar : Nat → Nat) (C : Cst)  (X : CX p s m args meth c cX0_noteSeasonsOut 2 RX0 none D (tyl cI cH cO) (va_A ws0 s.heap.size)) : J p l e (rml 1) s m args below meth c 2 D (va_A ws0 s.heap.size) 0 0 (KV below args s D (tyl cI cH cO) ws0 (fun C9 => (wC cI h ar C9))) (sX0_noteSeasonsOut C) ((wC cI h ar C)) 0 [(0, .ref h)] [] := by
  unfold sX0_noteSeasonsOut
  refine j_ltl2 (fun L2 eL2 => ?_)
  have hL2 : ∀ (n2 : Nat) (C : Cst) (i1 : Nat) (hi : i1 ≤ 8) (hfu : 9 ≤ i1 + n2), J p l e (rml 1) s m args below meth c 2 D (va_A ws0 s.heap.size) 0 0 (KV below args s D (tyl cI cH cO) ws0 (fun C9 => (wC cI h ar C9))) (L2 n2 C i1) ((wC cI h ar C)) 2 [(0, .ref h), (1, .int (nI i1))] [] := by
    intro n2
    induction n2 with
    | zero =>
      intro C i1 hi hfu
      exact absurd hfu (by omega)
    | succ n2 ih2 =>
      intro C i1 hi hfu
      rw [eL2]
      refine j_ltv (fun K26 eK26 => ?_)
      have hK26 : ∀ (C : Cst) (i1 : Nat) (hi : i1 < 8) (hfu : 9 ≤ i1 + (n2 + 1)), J p l e (rml 1) s m args below meth c 2 D (va_A ws0 s.heap.size) 0 0 (KV below args s D (tyl cI cH cO) ws0 (fun C9 => (wC cI h ar C9))) (K26 C i1) ((wC cI h ar C)) 26 [(0, .ref h), (1, .int (nI i1))] [] := by
        intro C i1 hi hfu
        rw [eK26]
        refine j_iinc X (v := (nI (i1 + 1))) (lv' := [(0, .ref h), (1, .int (nI (i1 + 1)))]) (q := 1) (pc' := 29) [1, 0] dX0_noteSeasonsOut_26 rfl (nI_1 i1) (by decide) rfl rfl ?_
        refine j_goto X (pc' := 2) dX0_noteSeasonsOut_29 (by decide) ?_
        refine j_lv [0, 1] (lv' := [(0, .ref h), (1, .int (nI (i1 + 1)))]) rfl ?_
        exact ih2 _ _ (by first | omega | assumption | decide | (subst_vars; first | assumption | omega)) (by first | omega | assumption | decide | (subst_vars; first | assumption | omega))
      refine j_iload_n X (pc' := 3) 1 dX0_noteSeasonsOut_2 rfl rfl rfl ?_
      refine j_bipush X (v := 8) (pc' := 5) dX0_noteSeasonsOut_3 (by decide) rfl ?_
      refine j_icmp_ge X (tgt := 32) (pc' := 8) dX0_noteSeasonsOut_5 (by decide) rfl (fun c_5 => ?_) (fun c_5 => ?_)
      · have f_5 : 8 ≤ i1 := (nI_leI (a := 8) (b := i1) (by omega) (by omega)).mp c_5
        exact j_vret X rfl dX0_noteSeasonsOut_32
      · have f_5 : ¬ (8 ≤ i1) := fun h => c_5 ((nI_leI (a := 8) (b := i1) (by omega) (by omega)).mpr h)
        refine j_aload_n X (pc' := 9) 0 dX0_noteSeasonsOut_8 rfl rfl rfl ?_
        refine j_iload_n X (pc' := 10) 1 dX0_noteSeasonsOut_9 rfl rfl rfl ?_
        refine j_callVi X (pc' := 13) (As := [.int (nI i1)]) (rest := []) (c_X0_isOut l D cI cH cO h ar C (nI i1) ) wv_X0_93 ⟨0, 0, _, _, rfl, rfl, rfl⟩ ⟨by decide, by decide, by decide, by decide⟩ rfl rfl (Nat.le_of_ble_eq_true rfl) dX0_noteSeasonsOut_10 rfl ?_
        refine j_topL (fun r_10 er_10 => ?_)
        refine j_if_eq X (tgt := 26) (pc' := 16) dX0_noteSeasonsOut_13 (by decide) rfl (fun c_13 => ?_) (fun c_13 => ?_)
        · refine j_lv [0, 1] (lv' := [(0, .ref h), (1, .int (nI i1))]) rfl ?_
          exact hK26 _ _ (by first | omega | assumption | decide | (subst_vars; first | assumption | omega)) (by first | omega | assumption | decide | (subst_vars; first | assumption | omega))
        · refine j_aload_n X (pc' := 17) 0 dX0_noteSeasonsOut_16 rfl rfl rfl ?_
          refine j_get X inX0 rfl (pc' := 20) 0 7 q_fl_X0_33 (by decide) rfl rfl dX0_noteSeasonsOut_17 rfl ?_
          refine j_iload_n X (pc' := 21) 1 dX0_noteSeasonsOut_20 rfl rfl rfl ?_
          refine j_dup2 X (pc' := 22) dX0_noteSeasonsOut_21 rfl rfl rfl ?_
          refine j_ialdN X (i := i1) (pc' := 23) 8 rfl (by omega) (by decide) dX0_noteSeasonsOut_22 rfl ?_
          refine j_iconst X (v := 1) (pc' := 24) dX0_noteSeasonsOut_23 (by decide) rfl ?_
          refine j_iadd X (pc' := 25) dX0_noteSeasonsOut_24 rfl ?_
          refine j_iastN X (i := i1) (pc' := 26) (S := up C 7 i1 ((C 7 i1) + 1)) (fun S_25 => (wC cI h ar S_25)) 8 rfl rfl (by omega) (by decide) dX0_noteSeasonsOut_25 rfl (fun S_25 eS_25 => ?_)
          refine j_lv [0, 1] (lv' := [(0, .ref h), (1, .int (nI i1))]) rfl ?_
          exact hK26 _ _ (by first | omega | assumption | decide | (subst_vars; first | assumption | omega)) (by first | omega | assumption | decide | (subst_vars; first | assumption | omega))
  refine j_iconst X (v := 0) (pc' := 1) dX0_noteSeasonsOut_0 (by decide) rfl ?_
  refine j_istore_n X (lv' := [(0, .ref h), (1, .int 0)]) (pc' := 2) [1, 0] dX0_noteSeasonsOut_1 rfl (by decide) rfl rfl ?_
  refine j_lv [0, 1] (lv' := [(0, .ref h), (1, .int 0)]) rfl ?_
  exact hL2 _ _ _ (by first | omega | assumption | decide | (subst_vars; first | assumption | omega)) (by first | omega | assumption | decide | (subst_vars; first | assumption | omega))
theorem c_X0_noteSeasonsOut (l : Launch) (D : va_G) (cI cH cO : ClassId) (h : Nat) (ar : Nat → Nat) (C : Cst)  : MV l yX0_noteSeasonsOut cX0_noteSeasonsOut 2 1 D (tyl cI cH cO) [.ref h] ((wC cI h ar C)) ((wC cI h ar (sX0_noteSeasonsOut C))) := fun sz => j_start (fun below s => (KV below [.ref h].toArray s D (tyl cI cH cO) ((wC cI h ar C)) (fun C9 => (wC cI h ar C9)))) (sX0_noteSeasonsOut C) (by decide +kernel) rfl (Nat.le_of_ble_eq_true rfl) (fun below s hs _ => by subst hs; rfl) (fun p e s m below meth c hX9 X => b_X0_noteSeasonsOut h ar C  X)
set_option maxHeartbeats 4000000 in
set_option maxRecDepth 100000 in
theorem b_X0_turnsNeeded {p : Program} {l : Launch} {e : Env} {s : State} {m : MethodId} {args : Array Value} {below : List Frame} {meth : Method} {c : Code} {D : va_G} {cI cH cO : ClassId} (h : Nat) (ar : Nat → Nat) (C : Cst)  (X : CX p s m args meth c cX0_turnsNeeded 3 RX0 (some .int) D (tyl cI cH cO) (va_A ((wC cI h ar C)) s.heap.size)) : J p l e (rml 1) s m args below meth c 3 D (va_A ((wC cI h ar C)) s.heap.size) 0 0 (KP below args s D (tyl cI cH cO) ((wC cI h ar C))) (sX0_turnsNeeded C) ((wC cI h ar C)) 0 [(0, .ref h)] [] := by
  unfold sX0_turnsNeeded
  refine j_aload_n X (pc' := 1) 0 dX0_turnsNeeded_0 rfl rfl rfl ?_
  refine j_get X inX0 rfl (pc' := 4) 0 0 q_fl_X0_9 (by decide) rfl rfl dX0_turnsNeeded_1 rfl ?_
  refine j_iconst X (v := 1) (pc' := 5) dX0_turnsNeeded_4 (by decide) rfl ?_
  refine j_ialdN X (i := 1) (pc' := 6) 1 rfl (by omega) (by decide) dX0_turnsNeeded_5 rfl ?_
  refine j_aload_n X (pc' := 7) 0 dX0_turnsNeeded_6 rfl rfl rfl ?_
  refine j_get X inX0 rfl (pc' := 10) 0 11 q_fl_X0_39 (by decide) rfl rfl dX0_turnsNeeded_7 rfl ?_
  refine j_isub X (pc' := 11) dX0_turnsNeeded_10 rfl ?_
  refine j_istore_nL X (fun v1_11 => [(0, .ref h), (1, .int v1_11)]) [1, 0] (pc' := 12) dX0_turnsNeeded_11 rfl (by decide) (fun _ => rfl) rfl (fun v1_11 ev1_11 => ?_)
  refine j_iload_n X (pc' := 13) 1 dX0_turnsNeeded_12 rfl rfl rfl ?_
  refine j_if_gt X (tgt := 18) (pc' := 16) dX0_turnsNeeded_13 (by decide) rfl (fun c_13 => ?_) (fun c_13 => ?_)
  · refine j_iload_n X (pc' := 19) 1 dX0_turnsNeeded_18 rfl rfl rfl ?_
    refine j_bipush X (v := 10) (pc' := 21) dX0_turnsNeeded_19 (by decide) rfl ?_
    refine j_iadd X (pc' := 22) dX0_turnsNeeded_21 rfl ?_
    refine j_iconst X (v := 1) (pc' := 23) dX0_turnsNeeded_22 (by decide) rfl ?_
    refine j_isub X (pc' := 24) dX0_turnsNeeded_23 rfl ?_
    refine j_bipush X (v := 10) (pc' := 26) dX0_turnsNeeded_24 (by decide) rfl ?_
    refine j_idiv X (pc' := 27) dX0_turnsNeeded_26 (by decide) rfl ?_
    refine j_istore_nL X (fun v2_27 => [(0, .ref h), (1, .int v1_11), (2, .int v2_27)]) [1, 2, 0] (pc' := 28) dX0_turnsNeeded_27 rfl (by decide) (fun _ => rfl) rfl (fun v2_27 ev2_27 => ?_)
    refine j_iload_n X (pc' := 29) 2 dX0_turnsNeeded_28 rfl rfl rfl ?_
    refine j_aload_n X (pc' := 30) 0 dX0_turnsNeeded_29 rfl rfl rfl ?_
    refine j_get X inX0 rfl (pc' := 33) 0 9 q_fl_X0_47 (by decide) rfl rfl dX0_turnsNeeded_30 rfl ?_
    refine j_iconst X (v := 1) (pc' := 34) dX0_turnsNeeded_33 (by decide) rfl ?_
    refine j_isub X (pc' := 35) dX0_turnsNeeded_34 rfl ?_
    refine j_mmin X (pc' := 38) ⟨q_ml_X0_105, q_sta_J9_min, q_ini_J9, q_code_J9_min⟩ ⟨by decide, Nat.le_of_ble_eq_true rfl, by decide, by decide⟩ dX0_turnsNeeded_35 rfl ?_
    exact j_iretP X rfl rfl dX0_turnsNeeded_38
  · refine j_iconst X (v := 0) (pc' := 17) dX0_turnsNeeded_16 (by decide) rfl ?_
    exact j_iretP X rfl rfl dX0_turnsNeeded_17
theorem c_X0_turnsNeeded (l : Launch) (D : va_G) (cI cH cO : ClassId) (h : Nat) (ar : Nat → Nat) (C : Cst)  : MI l yX0_turnsNeeded cX0_turnsNeeded 3 (some .int) 1 D (tyl cI cH cO) [.ref h] ((wC cI h ar C)) (sX0_turnsNeeded C) ((wC cI h ar C)) := fun sz => j_start (fun below s => (KP below [.ref h].toArray s D (tyl cI cH cO) ((wC cI h ar C)))) (sX0_turnsNeeded C) (by decide +kernel) rfl (Nat.le_of_ble_eq_true rfl) (fun below s hs _ => by subst hs; rfl) (fun p e s m below meth c hX9 X => b_X0_turnsNeeded h ar C  X)
set_option maxHeartbeats 4000000 in
set_option maxRecDepth 100000 in
theorem b_X0_heaviestNotIn {p : Program} {l : Launch} {e : Env} {s : State} {m : MethodId} {args : Array Value} {below : List Frame} {meth : Method} {c : Code} {D : va_G} {cI cH cO : ClassId} (h : Nat) (ar : Nat → Nat) (C : Cst) (x1 : Int32)  (X : CX p s m args meth c cX0_heaviestNotIn 5 RX0 (some .int) D (tyl cI cH cO) (va_A ((wC cI h ar C)) s.heap.size)) : J p l e (rml 0) s m args below meth c 5 D (va_A ((wC cI h ar C)) s.heap.size) 0 0 (KP below args s D (tyl cI cH cO) ((wC cI h ar C))) (sX0_heaviestNotIn C x1) ((wC cI h ar C)) 0 [(0, .ref h), (1, .int x1)] [] := by
  unfold sX0_heaviestNotIn
  refine j_ltl4 (fun L7 eL7 => ?_)
  have hL7 : ∀ (n7 : Nat) (x1 : Int32) (x2 : Int32) (x3 : Int32) (i4 : Nat) (hi : i4 ≤ 8) (hfu : 9 ≤ i4 + n7), J p l e (rml 0) s m args below meth c 5 D (va_A ((wC cI h ar C)) s.heap.size) 0 0 (KP below args s D (tyl cI cH cO) ((wC cI h ar C))) (L7 n7 x1 x2 x3 i4) ((wC cI h ar C)) 7 [(0, .ref h), (1, .int x1), (2, .int x2), (3, .int x3), (4, .int (nI i4))] [] := by
    intro n7
    induction n7 with
    | zero =>
      intro x1 x2 x3 i4 hi hfu
      exact absurd hfu (by omega)
    | succ n7 ih7 =>
      intro x1 x2 x3 i4 hi hfu
      rw [eL7]
      refine j_ltv (fun K54 eK54 => ?_)
      have hK54 : ∀ (x1 : Int32) (x2 : Int32) (x3 : Int32) (i4 : Nat) (hi : i4 < 8) (hfu : 9 ≤ i4 + (n7 + 1)), J p l e (rml 0) s m args below meth c 5 D (va_A ((wC cI h ar C)) s.heap.size) 0 0 (KP below args s D (tyl cI cH cO) ((wC cI h ar C))) (K54 x1 x2 x3 i4) ((wC cI h ar C)) 54 [(0, .ref h), (1, .int x1), (2, .int x2), (3, .int x3), (4, .int (nI i4))] [] := by
        intro x1 x2 x3 i4 hi hfu
        rw [eK54]
        refine j_iinc X (v := (nI (i4 + 1))) (lv' := [(0, .ref h), (1, .int x1), (2, .int x2), (3, .int x3), (4, .int (nI (i4 + 1)))]) (q := 4) (pc' := 57) [1, 2, 3, 4, 0] dX0_heaviestNotIn_54 rfl (nI_1 i4) (by decide) rfl rfl ?_
        refine j_goto X (pc' := 7) dX0_heaviestNotIn_57 (by decide) ?_
        refine j_lv [0, 1, 2, 3, 4] (lv' := [(0, .ref h), (1, .int x1), (2, .int x2), (3, .int x3), (4, .int (nI (i4 + 1)))]) rfl ?_
        exact ih7 _ _ _ _ (by first | omega | assumption | decide | (subst_vars; first | assumption | omega)) (by first | omega | assumption | decide | (subst_vars; first | assumption | omega))
      refine j_iload X (pc' := 9) 4 dX0_heaviestNotIn_7 rfl rfl ?_
      refine j_bipush X (v := 8) (pc' := 11) dX0_heaviestNotIn_9 (by decide) rfl ?_
      refine j_icmp_ge X (tgt := 60) (pc' := 14) dX0_heaviestNotIn_11 (by decide) rfl (fun c_11 => ?_) (fun c_11 => ?_)
      · have f_11 : 8 ≤ i4 := (nI_leI (a := 8) (b := i4) (by omega) (by omega)).mp c_11
        refine j_iload_n X (pc' := 61) 2 dX0_heaviestNotIn_60 rfl rfl rfl ?_
        exact j_iretP X rfl rfl dX0_heaviestNotIn_61
      · have f_11 : ¬ (8 ≤ i4) := fun h => c_11 ((nI_leI (a := 8) (b := i4) (by omega) (by omega)).mpr h)
        refine j_iload X (pc' := 16) 4 dX0_heaviestNotIn_14 rfl rfl ?_
        refine j_aload_n X (pc' := 17) 0 dX0_heaviestNotIn_16 rfl rfl rfl ?_
        refine j_get X inX0 rfl (pc' := 20) 0 9 q_fl_X0_47 (by decide) rfl rfl dX0_heaviestNotIn_17 rfl ?_
        refine j_icmp_ge X (tgt := 60) (pc' := 23) dX0_heaviestNotIn_20 (by decide) rfl (fun c_20 => ?_) (fun c_20 => ?_)
        · refine j_iload_n X (pc' := 61) 2 dX0_heaviestNotIn_60 rfl rfl rfl ?_
          exact j_iretP X rfl rfl dX0_heaviestNotIn_61
        · refine j_iload_n X (pc' := 24) 1 dX0_heaviestNotIn_23 rfl rfl rfl ?_
          refine j_iload X (pc' := 26) 4 dX0_heaviestNotIn_24 rfl rfl ?_
          refine j_ishr X (pc' := 27) dX0_heaviestNotIn_26 rfl ?_
          refine j_iconst X (v := 1) (pc' := 28) dX0_heaviestNotIn_27 (by decide) rfl ?_
          refine j_iand X (pc' := 29) dX0_heaviestNotIn_28 rfl ?_
          refine j_if_ne X (tgt := 54) (pc' := 32) dX0_heaviestNotIn_29 (by decide) rfl (fun c_29 => ?_) (fun c_29 => ?_)
          · refine j_lv [0, 1, 2, 3, 4] (lv' := [(0, .ref h), (1, .int x1), (2, .int x2), (3, .int x3), (4, .int (nI i4))]) rfl ?_
            exact hK54 _ _ _ _ (by first | omega | assumption | decide | (subst_vars; first | assumption | omega)) (by first | omega | assumption | decide | (subst_vars; first | assumption | omega))
          · refine j_aload_n X (pc' := 33) 0 dX0_heaviestNotIn_32 rfl rfl rfl ?_
            refine j_get X inX0 rfl (pc' := 36) 0 6 q_fl_X0_30 (by decide) rfl rfl dX0_heaviestNotIn_33 rfl ?_
            refine j_iload X (pc' := 38) 4 dX0_heaviestNotIn_36 rfl rfl ?_
            refine j_ialdN X (i := i4) (pc' := 39) 7 rfl (by omega) (by decide) dX0_heaviestNotIn_38 rfl ?_
            refine j_iload_n X (pc' := 40) 3 dX0_heaviestNotIn_39 rfl rfl rfl ?_
            refine j_icmp_le X (tgt := 54) (pc' := 43) dX0_heaviestNotIn_40 (by decide) rfl (fun c_40 => ?_) (fun c_40 => ?_)
            · refine j_lv [0, 1, 2, 3, 4] (lv' := [(0, .ref h), (1, .int x1), (2, .int x2), (3, .int x3), (4, .int (nI i4))]) rfl ?_
              exact hK54 _ _ _ _ (by first | omega | assumption | decide | (subst_vars; first | assumption | omega)) (by first | omega | assumption | decide | (subst_vars; first | assumption | omega))
            · refine j_aload_n X (pc' := 44) 0 dX0_heaviestNotIn_43 rfl rfl rfl ?_
              refine j_get X inX0 rfl (pc' := 47) 0 6 q_fl_X0_30 (by decide) rfl rfl dX0_heaviestNotIn_44 rfl ?_
              refine j_iload X (pc' := 49) 4 dX0_heaviestNotIn_47 rfl rfl ?_
              refine j_ialdN X (i := i4) (pc' := 50) 7 rfl (by omega) (by decide) dX0_heaviestNotIn_49 rfl ?_
              refine j_istore_nL X (fun v3_50 => [(0, .ref h), (1, .int x1), (2, .int x2), (3, .int v3_50), (4, .int (nI i4))]) [1, 2, 3, 0, 4] (pc' := 51) dX0_heaviestNotIn_50 rfl (by decide) (fun _ => rfl) rfl (fun v3_50 ev3_50 => ?_)
              refine j_iload X (pc' := 53) 4 dX0_heaviestNotIn_51 rfl rfl ?_
              refine j_istore_n X (lv' := [(0, .ref h), (1, .int x1), (2, .int (nI i4)), (3, .int v3_50), (4, .int (nI i4))]) (pc' := 54) [1, 2, 0, 3, 4] dX0_heaviestNotIn_53 rfl (by decide) rfl rfl ?_
              refine j_lv [0, 1, 2, 3, 4] (lv' := [(0, .ref h), (1, .int x1), (2, .int (nI i4)), (3, .int v3_50), (4, .int (nI i4))]) rfl ?_
              exact hK54 _ _ _ _ (by first | omega | assumption | decide | (subst_vars; first | assumption | omega)) (by first | omega | assumption | decide | (subst_vars; first | assumption | omega))
  refine j_iconst X (v := (-1)) (pc' := 1) dX0_heaviestNotIn_0 (by decide) rfl ?_
  refine j_istore_n X (lv' := [(0, .ref h), (1, .int x1), (2, .int (-1))]) (pc' := 2) [1, 2, 0] dX0_heaviestNotIn_1 rfl (by decide) rfl rfl ?_
  refine j_iconst X (v := (-1)) (pc' := 3) dX0_heaviestNotIn_2 (by decide) rfl ?_
  refine j_istore_n X (lv' := [(0, .ref h), (1, .int x1), (2, .int (-1)), (3, .int (-1))]) (pc' := 4) [1, 2, 3, 0] dX0_heaviestNotIn_3 rfl (by decide) rfl rfl ?_
  refine j_iconst X (v := 0) (pc' := 5) dX0_heaviestNotIn_4 (by decide) rfl ?_
  refine j_istore X (lv' := [(0, .ref h), (1, .int x1), (2, .int (-1)), (3, .int (-1)), (4, .int 0)]) (pc' := 7) [1, 2, 3, 4, 0] dX0_heaviestNotIn_5 (by decide) rfl rfl ?_
  refine j_lv [0, 1, 2, 3, 4] (lv' := [(0, .ref h), (1, .int x1), (2, .int (-1)), (3, .int (-1)), (4, .int 0)]) rfl ?_
  exact hL7 _ _ _ _ _ (by first | omega | assumption | decide | (subst_vars; first | assumption | omega)) (by first | omega | assumption | decide | (subst_vars; first | assumption | omega))
theorem c_X0_heaviestNotIn (l : Launch) (D : va_G) (cI cH cO : ClassId) (h : Nat) (ar : Nat → Nat) (C : Cst) (x1 : Int32)  : MI l yX0_heaviestNotIn cX0_heaviestNotIn 5 (some .int) 0 D (tyl cI cH cO) [.ref h, .int x1] ((wC cI h ar C)) (sX0_heaviestNotIn C x1) ((wC cI h ar C)) := fun sz => j_start (fun below s => (KP below [.ref h, .int x1].toArray s D (tyl cI cH cO) ((wC cI h ar C)))) (sX0_heaviestNotIn C x1) (by decide +kernel) rfl (Nat.le_of_ble_eq_true rfl) (fun below s hs _ => by subst hs; rfl) (fun p e s m below meth c hX9 X => b_X0_heaviestNotIn h ar C x1  X)
set_option maxHeartbeats 4000000 in
set_option maxRecDepth 100000 in
theorem b_X0_excludeInTurn {p : Program} {l : Launch} {e : Env} {s : State} {m : MethodId} {args : Array Value} {below : List Frame} {meth : Method} {c : Code} {D : va_G} {cI cH cO : ClassId} {ws0 : va_W} (h : Nat) (ar : Nat → Nat) (C : Cst) (x1 : Int32)  (X : CX p s m args meth c cX0_excludeInTurn 5 RX0 none D (tyl cI cH cO) (va_A ws0 s.heap.size)) : J p l e (rml 2) s m args below meth c 5 D (va_A ws0 s.heap.size) 0 0 (KV below args s D (tyl cI cH cO) ws0 (fun C9 => (wC cI h ar C9))) (sX0_excludeInTurn C x1) ((wC cI h ar C)) 0 [(0, .ref h), (1, .int x1)] [] := by
  unfold sX0_excludeInTurn
  refine j_ltl4 (fun L7 eL7 => ?_)
  have hL7 : ∀ (n7 : Nat) (C : Cst) (x1 : Int32) (x2 : Int32) (i3 : Nat) (hi : i3 ≤ x2.toNatClampNeg) (hfu : x2.toNatClampNeg + 1 ≤ i3 + n7), J p l e (rml 2) s m args below meth c 5 D (va_A ws0 s.heap.size) 0 0 (KV below args s D (tyl cI cH cO) ws0 (fun C9 => (wC cI h ar C9))) (L7 n7 C x1 x2 i3) ((wC cI h ar C)) 7 [(0, .ref h), (1, .int x1), (2, .int x2), (3, .int (nI i3))] [] := by
    intro n7
    induction n7 with
    | zero =>
      intro C x1 x2 i3 hi hfu
      exact absurd hfu (by omega)
    | succ n7 ih7 =>
      intro C x1 x2 i3 hi hfu
      rw [eL7]
      refine j_iload_n X (pc' := 8) 3 dX0_excludeInTurn_7 rfl rfl rfl ?_
      refine j_iload_n X (pc' := 9) 2 dX0_excludeInTurn_8 rfl rfl rfl ?_
      refine j_icmp_ge X (tgt := 61) (pc' := 12) dX0_excludeInTurn_9 (by decide) rfl (fun c_9 => ?_) (fun c_9 => ?_)
      · exact j_vret X rfl dX0_excludeInTurn_61
      · have hb3 : i3 < x2.toNatClampNeg := i32_ltT hi c_9
        refine j_aload_n X (pc' := 13) 0 dX0_excludeInTurn_12 rfl rfl rfl ?_
        refine j_iload_n X (pc' := 14) 1 dX0_excludeInTurn_13 rfl rfl rfl ?_
        refine j_aload_n X (pc' := 15) 0 dX0_excludeInTurn_14 rfl rfl rfl ?_
        refine j_get X inX0 rfl (pc' := 18) 0 13 q_fl_X0_56 (by decide) rfl rfl dX0_excludeInTurn_15 rfl ?_
        refine j_ior X (pc' := 19) dX0_excludeInTurn_18 rfl ?_
        refine j_callVi X (pc' := 22) (As := [.int (x1 ||| (C 13 0))]) (rest := []) (c_X0_heaviestNotIn l D cI cH cO h ar C (x1 ||| (C 13 0)) ) wv_X0_149 ⟨0, 0, _, _, rfl, rfl, rfl⟩ ⟨by decide, by decide, by decide, by decide⟩ rfl rfl (Nat.le_of_ble_eq_true rfl) dX0_excludeInTurn_19 rfl ?_
        refine j_topL (fun r_19 er_19 => ?_)
        refine j_istore X (lv' := [(0, .ref h), (1, .int x1), (2, .int x2), (3, .int (nI i3)), (4, .int r_19)]) (pc' := 24) [1, 2, 3, 4, 0] dX0_excludeInTurn_22 (by decide) rfl rfl ?_
        refine j_aload_n X (pc' := 25) 0 dX0_excludeInTurn_24 rfl rfl rfl ?_
        refine j_iload X (pc' := 27) 4 dX0_excludeInTurn_25 rfl rfl ?_
        refine j_callVi X (pc' := 30) (As := [.int r_19]) (rest := []) (c_X0_has l D cI cH cO h ar C r_19 ) wv_X0_86 ⟨0, 0, _, _, rfl, rfl, rfl⟩ ⟨by decide, by decide, by decide, by decide⟩ rfl rfl (Nat.le_of_ble_eq_true rfl) dX0_excludeInTurn_27 rfl ?_
        refine j_topL (fun r_27 er_27 => ?_)
        refine j_if_ne X (tgt := 34) (pc' := 33) dX0_excludeInTurn_30 (by decide) rfl (fun c_30 => ?_) (fun c_30 => ?_)
        · refine j_aload_n X (pc' := 35) 0 dX0_excludeInTurn_34 rfl rfl rfl ?_
          refine j_dup X (pc' := 36) dX0_excludeInTurn_35 rfl rfl ?_
          refine j_get X inX0 rfl (pc' := 39) 0 13 q_fl_X0_56 (by decide) rfl rfl dX0_excludeInTurn_36 rfl ?_
          refine j_iconst X (v := 1) (pc' := 40) dX0_excludeInTurn_39 (by decide) rfl ?_
          refine j_iload X (pc' := 42) 4 dX0_excludeInTurn_40 rfl rfl ?_
          refine j_ishl X (pc' := 43) dX0_excludeInTurn_42 rfl ?_
          refine j_ior X (pc' := 44) dX0_excludeInTurn_43 rfl ?_
          refine j_put X inX0 rfl (pc' := 47) tyX0_ok nmX0 (S := up C 13 0 ((C 13 0) ||| (1 <<< (r_19 &&& 31)))) (fun S_44 => (wC cI h ar S_44)) 0 13 q_fl_X0_56 (by decide) rfl rfl rfl rfl (Nat.le_of_ble_eq_true rfl) rfl dX0_excludeInTurn_44 rfl (fun S_44 eS_44 => ?_)
          refine j_aload_n X (pc' := 48) 0 dX0_excludeInTurn_47 rfl rfl rfl ?_
          refine j_get X inX0 rfl (pc' := 51) 0 6 q_fl_X0_30 (by decide) rfl rfl dX0_excludeInTurn_48 rfl ?_
          refine j_iload X (pc' := 53) 4 dX0_excludeInTurn_51 rfl rfl ?_
          refine j_iconst X (v := 0) (pc' := 54) dX0_excludeInTurn_53 (by decide) rfl ?_
          refine j_iast X (pc' := 55) (S := up S_44 6 r_19.toNatClampNeg 0) (fun S_54 => (wC cI h ar S_54)) 7 rfl rfl (has_in (by rw [← er_27]; exact c_30)) dX0_excludeInTurn_54 rfl (fun S_54 eS_54 => ?_)
          refine j_iinc X (v := (nI (i3 + 1))) (lv' := [(0, .ref h), (1, .int x1), (2, .int x2), (3, .int (nI (i3 + 1))), (4, .int r_19)]) (q := 3) (pc' := 58) [1, 2, 3, 0, 4] dX0_excludeInTurn_55 rfl (nI_1 i3) (by decide) rfl rfl ?_
          refine j_goto X (pc' := 7) dX0_excludeInTurn_58 (by decide) ?_
          refine j_lv [0, 1, 2, 3] (lv' := [(0, .ref h), (1, .int x1), (2, .int x2), (3, .int (nI (i3 + 1)))]) rfl ?_
          exact ih7 _ _ _ _ (by first | omega | assumption | decide | (subst_vars; first | assumption | omega)) (by first | omega | assumption | decide | (subst_vars; first | assumption | omega))
        · exact j_vret X rfl dX0_excludeInTurn_33
  refine j_aload_n X (pc' := 1) 0 dX0_excludeInTurn_0 rfl rfl rfl ?_
  refine j_callVi X (pc' := 4) (As := []) (rest := []) (c_X0_turnsNeeded l D cI cH cO h ar C ) wv_X0_146 ⟨0, 0, _, _, rfl, rfl, rfl⟩ ⟨by decide, by decide, by decide, by decide⟩ rfl rfl (Nat.le_of_ble_eq_true rfl) dX0_excludeInTurn_1 rfl ?_
  refine j_topL (fun r_1 er_1 => ?_)
  refine j_istore_n X (lv' := [(0, .ref h), (1, .int x1), (2, .int r_1)]) (pc' := 5) [1, 2, 0] dX0_excludeInTurn_4 rfl (by decide) rfl rfl ?_
  refine j_iconst X (v := 0) (pc' := 6) dX0_excludeInTurn_5 (by decide) rfl ?_
  refine j_istore_n X (lv' := [(0, .ref h), (1, .int x1), (2, .int r_1), (3, .int 0)]) (pc' := 7) [1, 2, 3, 0] dX0_excludeInTurn_6 rfl (by decide) rfl rfl ?_
  refine j_lv [0, 1, 2, 3] (lv' := [(0, .ref h), (1, .int x1), (2, .int r_1), (3, .int 0)]) rfl ?_
  exact hL7 _ _ _ _ _ (by first | omega | assumption | decide | (subst_vars; first | assumption | omega)) (by first | omega | assumption | decide | (subst_vars; first | assumption | omega))
theorem c_X0_excludeInTurn (l : Launch) (D : va_G) (cI cH cO : ClassId) (h : Nat) (ar : Nat → Nat) (C : Cst) (x1 : Int32)  : MV l yX0_excludeInTurn cX0_excludeInTurn 5 2 D (tyl cI cH cO) [.ref h, .int x1] ((wC cI h ar C)) ((wC cI h ar (sX0_excludeInTurn C x1))) := fun sz => j_start (fun below s => (KV below [.ref h, .int x1].toArray s D (tyl cI cH cO) ((wC cI h ar C)) (fun C9 => (wC cI h ar C9)))) (sX0_excludeInTurn C x1) (by decide +kernel) rfl (Nat.le_of_ble_eq_true rfl) (fun below s hs _ => by subst hs; rfl) (fun p e s m below meth c hX9 X => b_X0_excludeInTurn h ar C x1  X)
set_option maxHeartbeats 4000000 in
set_option maxRecDepth 100000 in
theorem b_X0_excludeDebtors {p : Program} {l : Launch} {e : Env} {s : State} {m : MethodId} {args : Array Value} {below : List Frame} {meth : Method} {c : Code} {D : va_G} {cI cH cO : ClassId} {ws0 : va_W} (h : Nat) (ar : Nat → Nat) (C : Cst)  (X : CX p s m args meth c cX0_excludeDebtors 2 RX0 none D (tyl cI cH cO) (va_A ws0 s.heap.size)) : J p l e (rml 0) s m args below meth c 2 D (va_A ws0 s.heap.size) 0 0 (KV below args s D (tyl cI cH cO) ws0 (fun C9 => (wC cI h ar C9))) (sX0_excludeDebtors C) ((wC cI h ar C)) 0 [(0, .ref h)] [] := by
  unfold sX0_excludeDebtors
  refine j_ltl2 (fun L2 eL2 => ?_)
  have hL2 : ∀ (n2 : Nat) (C : Cst) (i1 : Nat) (hi : i1 ≤ 8) (hfu : 9 ≤ i1 + n2), J p l e (rml 0) s m args below meth c 2 D (va_A ws0 s.heap.size) 0 0 (KV below args s D (tyl cI cH cO) ws0 (fun C9 => (wC cI h ar C9))) (L2 n2 C i1) ((wC cI h ar C)) 2 [(0, .ref h), (1, .int (nI i1))] [] := by
    intro n2
    induction n2 with
    | zero =>
      intro C i1 hi hfu
      exact absurd hfu (by omega)
    | succ n2 ih2 =>
      intro C i1 hi hfu
      rw [eL2]
      refine j_ltv (fun K35 eK35 => ?_)
      have hK35 : ∀ (C : Cst) (i1 : Nat) (hi : i1 < 8) (hfu : 9 ≤ i1 + (n2 + 1)), J p l e (rml 0) s m args below meth c 2 D (va_A ws0 s.heap.size) 0 0 (KV below args s D (tyl cI cH cO) ws0 (fun C9 => (wC cI h ar C9))) (K35 C i1) ((wC cI h ar C)) 35 [(0, .ref h), (1, .int (nI i1))] [] := by
        intro C i1 hi hfu
        rw [eK35]
        refine j_iinc X (v := (nI (i1 + 1))) (lv' := [(0, .ref h), (1, .int (nI (i1 + 1)))]) (q := 1) (pc' := 38) [1, 0] dX0_excludeDebtors_35 rfl (nI_1 i1) (by decide) rfl rfl ?_
        refine j_goto X (pc' := 2) dX0_excludeDebtors_38 (by decide) ?_
        refine j_lv [0, 1] (lv' := [(0, .ref h), (1, .int (nI (i1 + 1)))]) rfl ?_
        exact ih2 _ _ (by first | omega | assumption | decide | (subst_vars; first | assumption | omega)) (by first | omega | assumption | decide | (subst_vars; first | assumption | omega))
      refine j_iload_n X (pc' := 3) 1 dX0_excludeDebtors_2 rfl rfl rfl ?_
      refine j_bipush X (v := 8) (pc' := 5) dX0_excludeDebtors_3 (by decide) rfl ?_
      refine j_icmp_ge X (tgt := 41) (pc' := 8) dX0_excludeDebtors_5 (by decide) rfl (fun c_5 => ?_) (fun c_5 => ?_)
      · have f_5 : 8 ≤ i1 := (nI_leI (a := 8) (b := i1) (by omega) (by omega)).mp c_5
        exact j_vret X rfl dX0_excludeDebtors_41
      · have f_5 : ¬ (8 ≤ i1) := fun h => c_5 ((nI_leI (a := 8) (b := i1) (by omega) (by omega)).mpr h)
        refine j_aload_n X (pc' := 9) 0 dX0_excludeDebtors_8 rfl rfl rfl ?_
        refine j_get X inX0 rfl (pc' := 12) 0 3 q_fl_X0_21 (by decide) rfl rfl dX0_excludeDebtors_9 rfl ?_
        refine j_iload_n X (pc' := 13) 1 dX0_excludeDebtors_12 rfl rfl rfl ?_
        refine j_ialdN X (i := i1) (pc' := 14) 4 rfl (by omega) (by decide) dX0_excludeDebtors_13 rfl ?_
        refine j_aload_n X (pc' := 15) 0 dX0_excludeDebtors_14 rfl rfl rfl ?_
        refine j_get X inX0 rfl (pc' := 18) 0 0 q_fl_X0_9 (by decide) rfl rfl dX0_excludeDebtors_15 rfl ?_
        refine j_iconst X (v := 3) (pc' := 19) dX0_excludeDebtors_18 (by decide) rfl ?_
        refine j_ialdN X (i := 3) (pc' := 20) 1 rfl (by omega) (by decide) dX0_excludeDebtors_19 rfl ?_
        refine j_icmp_le X (tgt := 35) (pc' := 23) dX0_excludeDebtors_20 (by decide) rfl (fun c_20 => ?_) (fun c_20 => ?_)
        · refine j_lv [0, 1] (lv' := [(0, .ref h), (1, .int (nI i1))]) rfl ?_
          exact hK35 _ _ (by first | omega | assumption | decide | (subst_vars; first | assumption | omega)) (by first | omega | assumption | decide | (subst_vars; first | assumption | omega))
        · refine j_aload_n X (pc' := 24) 0 dX0_excludeDebtors_23 rfl rfl rfl ?_
          refine j_dup X (pc' := 25) dX0_excludeDebtors_24 rfl rfl ?_
          refine j_get X inX0 rfl (pc' := 28) 0 13 q_fl_X0_56 (by decide) rfl rfl dX0_excludeDebtors_25 rfl ?_
          refine j_iconst X (v := 1) (pc' := 29) dX0_excludeDebtors_28 (by decide) rfl ?_
          refine j_iload_n X (pc' := 30) 1 dX0_excludeDebtors_29 rfl rfl rfl ?_
          refine j_ishl X (pc' := 31) dX0_excludeDebtors_30 rfl ?_
          refine j_ior X (pc' := 32) dX0_excludeDebtors_31 rfl ?_
          refine j_put X inX0 rfl (pc' := 35) tyX0_ok nmX0 (S := up C 13 0 ((C 13 0) ||| (1 <<< ((nI i1) &&& 31)))) (fun S_32 => (wC cI h ar S_32)) 0 13 q_fl_X0_56 (by decide) rfl rfl rfl rfl (Nat.le_of_ble_eq_true rfl) rfl dX0_excludeDebtors_32 rfl (fun S_32 eS_32 => ?_)
          refine j_lv [0, 1] (lv' := [(0, .ref h), (1, .int (nI i1))]) rfl ?_
          exact hK35 _ _ (by first | omega | assumption | decide | (subst_vars; first | assumption | omega)) (by first | omega | assumption | decide | (subst_vars; first | assumption | omega))
  refine j_iconst X (v := 0) (pc' := 1) dX0_excludeDebtors_0 (by decide) rfl ?_
  refine j_istore_n X (lv' := [(0, .ref h), (1, .int 0)]) (pc' := 2) [1, 0] dX0_excludeDebtors_1 rfl (by decide) rfl rfl ?_
  refine j_lv [0, 1] (lv' := [(0, .ref h), (1, .int 0)]) rfl ?_
  exact hL2 _ _ _ (by first | omega | assumption | decide | (subst_vars; first | assumption | omega)) (by first | omega | assumption | decide | (subst_vars; first | assumption | omega))
theorem c_X0_excludeDebtors (l : Launch) (D : va_G) (cI cH cO : ClassId) (h : Nat) (ar : Nat → Nat) (C : Cst)  : MV l yX0_excludeDebtors cX0_excludeDebtors 2 0 D (tyl cI cH cO) [.ref h] ((wC cI h ar C)) ((wC cI h ar (sX0_excludeDebtors C))) := fun sz => j_start (fun below s => (KV below [.ref h].toArray s D (tyl cI cH cO) ((wC cI h ar C)) (fun C9 => (wC cI h ar C9)))) (sX0_excludeDebtors C) (by decide +kernel) rfl (Nat.le_of_ble_eq_true rfl) (fun below s hs _ => by subst hs; rfl) (fun p e s m below meth c hX9 X => b_X0_excludeDebtors h ar C  X)
