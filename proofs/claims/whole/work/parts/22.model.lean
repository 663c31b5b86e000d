set_option maxHeartbeats 4000000 in
set_option maxRecDepth 100000 in
theorem b_X5_sum {p : Program} {l : Launch} {e : Env} {s : State} {m : MethodId} {args : Array Value} {below : List Frame} {meth : Method} {c : Code} {D : va_G} {cI cH cO : ClassId} (h : Nat) (ar : Nat → Nat) (C : Cst) (i1 : Nat) (hIC : IM C) (hi1 : i1 < 8) (X : CX p s m args meth c cX5_sum 4 RX5 (some .int) D (tyl cI cH cO) (va_A ((wM cI h ar C)) s.heap.size)) : J p l e (rml 1) s m args below meth c 4 D (va_A ((wM cI h ar C)) s.heap.size) 0 0 (KP below args s D (tyl cI cH cO) ((wM cI h ar C))) (sX5_sum C i1) ((wM cI h ar C)) 0 [(0, .ref h), (1, .int (nI i1))] [] := by
  unfold sX5_sum
  refine j_ltl3 (fun L4 eL4 => ?_)
  have hL4 : ∀ (n4 : Nat) (i1 : Nat) (x2 : Int32) (i3 : Nat) (hi : i3 ≤ 8) (hfu : 9 ≤ i3 + n4) (hi1 : i1 < 8), J p l e (rml 1) s m args below meth c 4 D (va_A ((wM cI h ar C)) s.heap.size) 0 0 (KP below args s D (tyl cI cH cO) ((wM cI h ar C))) (L4 n4 i1 x2 i3) ((wM cI h ar C)) 4 [(0, .ref h), (1, .int (nI i1)), (2, .int x2), (3, .int (nI i3))] [] := by
    intro n4
    induction n4 with
    | zero =>
      intro i1 x2 i3 hi hfu hi1
      exact absurd hfu (by omega)
    | succ n4 ih4 =>
      intro i1 x2 i3 hi hfu hi1
      rw [eL4]
      refine j_iload_n X (pc' := 5) 3 dX5_sum_4 rfl rfl rfl ?_
      refine j_aload_n X (pc' := 6) 0 dX5_sum_5 rfl rfl rfl ?_
      refine j_get X inX5 rfl (pc' := 9) 0 0 q_fl_X5_7 (by decide) rfl rfl dX5_sum_6 rfl ?_
      refine j_iconst X (v := 5) (pc' := 10) dX5_sum_9 (by decide) rfl ?_
      refine j_ialdN X (i := 5) (pc' := 11) 1 rfl (by omega) (by decide) dX5_sum_10 rfl ?_
      refine j_icmp_ge X (tgt := 29) (pc' := 14) dX5_sum_11 (by decide) rfl (fun c_11 => ?_) (fun c_11 => ?_)
      · refine j_iload_n X (pc' := 30) 2 dX5_sum_29 rfl rfl rfl ?_
        exact j_iretP X rfl rfl dX5_sum_30
      · have hb_11 : i3 < 8 := i32_lt8 c_11 hIC.2.1 (by omega)
        refine j_iload_n X (pc' := 15) 2 dX5_sum_14 rfl rfl rfl ?_
        refine j_aload_n X (pc' := 16) 0 dX5_sum_15 rfl rfl rfl ?_
        refine j_iload_n X (pc' := 17) 3 dX5_sum_16 rfl rfl rfl ?_
        refine j_iload_n X (pc' := 18) 1 dX5_sum_17 rfl rfl rfl ?_
        refine j_callVi X (pc' := 21) (As := [.int (nI i3), .int (nI i1)]) (rest := [.int x2]) (c_X5_of l D cI cH cO h ar C i3 i1 (by first | omega | assumption | decide | (subst_vars; first | assumption | omega)) (by first | omega | assumption | decide | (subst_vars; first | assumption | omega))) wv_X5_39 ⟨0, 5, _, _, rfl, rfl, rfl⟩ ⟨by decide, by decide, by decide, by decide⟩ rfl rfl (Nat.le_of_ble_eq_true rfl) dX5_sum_18 rfl ?_
        refine j_topL (fun r_18 er_18 => ?_)
        refine j_iadd X (pc' := 22) dX5_sum_21 rfl ?_
        refine j_istore_nL X (fun v2_22 => [(0, .ref h), (1, .int (nI i1)), (2, .int v2_22), (3, .int (nI i3))]) [1, 2, 0, 3] (pc' := 23) dX5_sum_22 rfl (by decide) (fun _ => rfl) rfl (fun v2_22 ev2_22 => ?_)
        refine j_iinc X (v := (nI (i3 + 1))) (lv' := [(0, .ref h), (1, .int (nI i1)), (2, .int v2_22), (3, .int (nI (i3 + 1)))]) (q := 3) (pc' := 26) [1, 2, 3, 0] dX5_sum_23 rfl (nI_1 i3) (by decide) rfl rfl ?_
        refine j_goto X (pc' := 4) dX5_sum_26 (by decide) ?_
        refine j_lv [0, 1, 2, 3] (lv' := [(0, .ref h), (1, .int (nI i1)), (2, .int v2_22), (3, .int (nI (i3 + 1)))]) rfl ?_
        exact ih4 _ _ _ (by first | omega | assumption | decide | (subst_vars; first | assumption | omega)) (by first | omega | assumption | decide | (subst_vars; first | assumption | omega)) (by first | omega | assumption | decide | (subst_vars; first | assumption | omega))
  refine j_iconst X (v := 0) (pc' := 1) dX5_sum_0 (by decide) rfl ?_
  refine j_istore_n X (lv' := [(0, .ref h), (1, .int (nI i1)), (2, .int 0)]) (pc' := 2) [1, 2, 0] dX5_sum_1 rfl (by decide) rfl rfl ?_
  refine j_iconst X (v := 0) (pc' := 3) dX5_sum_2 (by decide) rfl ?_
  refine j_istore_n X (lv' := [(0, .ref h), (1, .int (nI i1)), (2, .int 0), (3, .int 0)]) (pc' := 4) [1, 2, 3, 0] dX5_sum_3 rfl (by decide) rfl rfl ?_
  refine j_lv [0, 1, 2, 3] (lv' := [(0, .ref h), (1, .int (nI i1)), (2, .int 0), (3, .int 0)]) rfl ?_
  exact hL4 _ _ _ _ (by first | omega | assumption | decide | (subst_vars; first | assumption | omega)) (by first | omega | assumption | decide | (subst_vars; first | assumption | omega)) (by first | omega | assumption | decide | (subst_vars; first | assumption | omega))
theorem c_X5_sum (l : Launch) (D : va_G) (cI cH cO : ClassId) (h : Nat) (ar : Nat → Nat) (C : Cst) (i1 : Nat) (hIC : IM C) (hi1 : i1 < 8) : MI l yX5_sum cX5_sum 4 (some .int) 1 D (tyl cI cH cO) [.ref h, .int (nI i1)] ((wM cI h ar C)) (sX5_sum C i1) ((wM cI h ar C)) := fun sz => j_start (fun below s => (KP below [.ref h, .int (nI i1)].toArray s D (tyl cI cH cO) ((wM cI h ar C)))) (sX5_sum C i1) (by decide +kernel) rfl (Nat.le_of_ble_eq_true rfl) (fun below s hs _ => by subst hs; rfl) (fun p e s m below meth c hX9 X => b_X5_sum h ar C i1 hIC hi1 X)
set_option maxHeartbeats 4000000 in
set_option maxRecDepth 100000 in
theorem b_X5_ahead {p : Program} {l : Launch} {e : Env} {s : State} {m : MethodId} {args : Array Value} {below : List Frame} {meth : Method} {c : Code} {D : va_G} {cI cH cO : ClassId} (h : Nat) (ar : Nat → Nat) (C : Cst) (x1 : Int32) (hIC : IM C) (X : CX p s m args meth c cX5_ahead 4 RX5 (some .int) D (tyl cI cH cO) (va_A ((wM cI h ar C)) s.heap.size)) : J p l e (rml 1) s m args below meth c 4 D (va_A ((wM cI h ar C)) s.heap.size) 0 0 (KP below args s D (tyl cI cH cO) ((wM cI h ar C))) (sX5_ahead C x1) ((wM cI h ar C)) 0 [(0, .ref h), (1, .int x1)] [] := by
  unfold sX5_ahead
  refine j_ltl3 (fun L4 eL4 => ?_)
  have hL4 : ∀ (n4 : Nat) (x1 : Int32) (x2 : Int32) (i3 : Nat) (hi : i3 ≤ 8) (hfu : 9 ≤ i3 + n4), J p l e (rml 1) s m args below meth c 4 D (va_A ((wM cI h ar C)) s.heap.size) 0 0 (KP below args s D (tyl cI cH cO) ((wM cI h ar C))) (L4 n4 x1 x2 i3) ((wM cI h ar C)) 4 [(0, .ref h), (1, .int x1), (2, .int x2), (3, .int (nI i3))] [] := by
    intro n4
    induction n4 with
    | zero =>
      intro x1 x2 i3 hi hfu
      exact absurd hfu (by omega)
    | succ n4 ih4 =>
      intro x1 x2 i3 hi hfu
      rw [eL4]
      refine j_ltv (fun K38 eK38 => ?_)
      have hK38 : ∀ (x1 : Int32) (i3 : Nat) (t0 : Int32) (t1 : Int32) (hi : i3 < 8) (hfu : 9 ≤ i3 + (n4 + 1)), J p l e (rml 1) s m args below meth c 4 D (va_A ((wM cI h ar C)) s.heap.size) 0 0 (KP below args s D (tyl cI cH cO) ((wM cI h ar C))) (K38 x1 i3 t0 t1) ((wM cI h ar C)) 38 [(0, .ref h), (1, .int x1), (3, .int (nI i3))] [.int t0, .int t1] := by
        intro x1 i3 t0 t1 hi hfu
        rw [eK38]
        refine j_iadd X (pc' := 39) dX5_ahead_38 rfl ?_
        refine j_istore_nL X (fun v2_39 => [(0, .ref h), (1, .int x1), (2, .int v2_39), (3, .int (nI i3))]) [1, 2, 0, 3] (pc' := 40) dX5_ahead_39 rfl (by decide) (fun _ => rfl) rfl (fun v2_39 ev2_39 => ?_)
        refine j_iinc X (v := (nI (i3 + 1))) (lv' := [(0, .ref h), (1, .int x1), (2, .int v2_39), (3, .int (nI (i3 + 1)))]) (q := 3) (pc' := 43) [1, 2, 3, 0] dX5_ahead_40 rfl (nI_1 i3) (by decide) rfl rfl ?_
        refine j_goto X (pc' := 4) dX5_ahead_43 (by decide) ?_
        refine j_lv [0, 1, 2, 3] (lv' := [(0, .ref h), (1, .int x1), (2, .int v2_39), (3, .int (nI (i3 + 1)))]) rfl ?_
        exact ih4 _ _ _ (by first | omega | assumption | decide | (subst_vars; first | assumption | omega)) (by first | omega | assumption | decide | (subst_vars; first | assumption | omega))
      refine j_iload_n X (pc' := 5) 3 dX5_ahead_4 rfl rfl rfl ?_
      refine j_aload_n X (pc' := 6) 0 dX5_ahead_5 rfl rfl rfl ?_
      refine j_get X inX5 rfl (pc' := 9) 0 0 q_fl_X5_7 (by decide) rfl rfl dX5_ahead_6 rfl ?_
      refine j_iconst X (v := 5) (pc' := 10) dX5_ahead_9 (by decide) rfl ?_
      refine j_ialdN X (i := 5) (pc' := 11) 1 rfl (by omega) (by decide) dX5_ahead_10 rfl ?_
      refine j_icmp_ge X (tgt := 46) (pc' := 14) dX5_ahead_11 (by decide) rfl (fun c_11 => ?_) (fun c_11 => ?_)
      · refine j_iload_n X (pc' := 47) 2 dX5_ahead_46 rfl rfl rfl ?_
        exact j_iretP X rfl rfl dX5_ahead_47
      · have hb_11 : i3 < 8 := i32_lt8 c_11 hIC.2.1 (by omega)
        refine j_iload_n X (pc' := 15) 2 dX5_ahead_14 rfl rfl rfl ?_
        refine j_aload_n X (pc' := 16) 0 dX5_ahead_15 rfl rfl rfl ?_
        refine j_iload_n X (pc' := 17) 3 dX5_ahead_16 rfl rfl rfl ?_
        refine j_callVi X (pc' := 20) (As := [.int (nI i3)]) (rest := [.int x2]) (c_X5_placeOf l D cI cH cO h ar C (nI i3) (nz_of c_11)) wv_X5_43 ⟨0, 5, _, _, rfl, rfl, rfl⟩ ⟨by decide, by decide, by decide, by decide⟩ rfl rfl (Nat.le_of_ble_eq_true rfl) dX5_ahead_17 rfl ?_
        refine j_topL (fun r_17 er_17 => ?_)
        refine j_aload_n X (pc' := 21) 0 dX5_ahead_20 rfl rfl rfl ?_
        refine j_iload_n X (pc' := 22) 1 dX5_ahead_21 rfl rfl rfl ?_
        refine j_callVi X (pc' := 25) (As := [.int x1]) (rest := [.int r_17, .int x2]) (c_X5_placeOf l D cI cH cO h ar C x1 (nz_of c_11)) wv_X5_43 ⟨0, 5, _, _, rfl, rfl, rfl⟩ ⟨by decide, by decide, by decide, by decide⟩ rfl rfl (Nat.le_of_ble_eq_true rfl) dX5_ahead_22 rfl ?_
        refine j_topL (fun r_22 er_22 => ?_)
        refine j_icmp_ge X (tgt := 37) (pc' := 28) dX5_ahead_25 (by decide) rfl (fun c_25 => ?_) (fun c_25 => ?_)
        · refine j_iconst X (v := 0) (pc' := 38) dX5_ahead_37 (by decide) rfl ?_
          refine j_lv [0, 1, 3] (lv' := [(0, .ref h), (1, .int x1), (3, .int (nI i3))]) rfl ?_
          exact hK38 _ _ _ _ (by first | omega | assumption | decide | (subst_vars; first | assumption | omega)) (by first | omega | assumption | decide | (subst_vars; first | assumption | omega))
        · refine j_aload_n X (pc' := 29) 0 dX5_ahead_28 rfl rfl rfl ?_
          refine j_iload_n X (pc' := 30) 3 dX5_ahead_29 rfl rfl rfl ?_
          refine j_iconst X (v := 1) (pc' := 31) dX5_ahead_30 (by decide) rfl ?_
          refine j_callVi X (pc' := 34) (As := [.int (nI i3), .int 1]) (rest := [.int x2]) (c_X5_of l D cI cH cO h ar C i3 1 (by first | omega | assumption | decide | (subst_vars; first | assumption | omega)) (by first | omega | assumption | decide | (subst_vars; first | assumption | omega))) wv_X5_39 ⟨0, 5, _, _, rfl, rfl, rfl⟩ ⟨by decide, by decide, by decide, by decide⟩ rfl rfl (Nat.le_of_ble_eq_true rfl) dX5_ahead_31 rfl ?_
          refine j_topL (fun r_31 er_31 => ?_)
          refine j_goto X (pc' := 38) dX5_ahead_34 (by decide) ?_
          refine j_lv [0, 1, 3] (lv' := [(0, .ref h), (1, .int x1), (3, .int (nI i3))]) rfl ?_
          exact hK38 _ _ _ _ (by first | omega | assumption | decide | (subst_vars; first | assumption | omega)) (by first | omega | assumption | decide | (subst_vars; first | assumption | omega))
  refine j_iconst X (v := 0) (pc' := 1) dX5_ahead_0 (by decide) rfl ?_
  refine j_istore_n X (lv' := [(0, .ref h), (1, .int x1), (2, .int 0)]) (pc' := 2) [1, 2, 0] dX5_ahead_1 rfl (by decide) rfl rfl ?_
  refine j_iconst X (v := 0) (pc' := 3) dX5_ahead_2 (by decide) rfl ?_
  refine j_istore_n X (lv' := [(0, .ref h), (1, .int x1), (2, .int 0), (3, .int 0)]) (pc' := 4) [1, 2, 3, 0] dX5_ahead_3 rfl (by decide) rfl rfl ?_
  refine j_lv [0, 1, 2, 3] (lv' := [(0, .ref h), (1, .int x1), (2, .int 0), (3, .int 0)]) rfl ?_
  exact hL4 _ _ _ _ (by first | omega | assumption | decide | (subst_vars; first | assumption | omega)) (by first | omega | assumption | decide | (subst_vars; first | assumption | omega))
theorem c_X5_ahead (l : Launch) (D : va_G) (cI cH cO : ClassId) (h : Nat) (ar : Nat → Nat) (C : Cst) (x1 : Int32) (hIC : IM C) : MI l yX5_ahead cX5_ahead 4 (some .int) 1 D (tyl cI cH cO) [.ref h, .int x1] ((wM cI h ar C)) (sX5_ahead C x1) ((wM cI h ar C)) := fun sz => j_start (fun below s => (KP below [.ref h, .int x1].toArray s D (tyl cI cH cO) ((wM cI h ar C)))) (sX5_ahead C x1) (by decide +kernel) rfl (Nat.le_of_ble_eq_true rfl) (fun below s hs _ => by subst hs; rfl) (fun p e s m below meth c hX9 X => b_X5_ahead h ar C x1 hIC X)
set_option maxHeartbeats 4000000 in
set_option maxRecDepth 100000 in
theorem b_X5_chargeFor {p : Program} {l : Launch} {e : Env} {s : State} {m : MethodId} {args : Array Value} {below : List Frame} {meth : Method} {c : Code} {D : va_G} {cI cH cO : ClassId} (h : Nat) (ar : Nat → Nat) (C : Cst) (x1 : Int32) (x2 : Int32) (hIC : IM C) (X : CX p s m args meth c cX5_chargeFor 4 RX5 (some .int) D (tyl cI cH cO) (va_A ((wM cI h ar C)) s.heap.size)) : J p l e (rml 2) s m args below meth c 4 D (va_A ((wM cI h ar C)) s.heap.size) 0 0 (KP below args s D (tyl cI cH cO) ((wM cI h ar C))) (sX5_chargeFor C x1 x2) ((wM cI h ar C)) 0 [(0, .ref h), (1, .int x1), (2, .int x2)] [] := by
  unfold sX5_chargeFor
  refine j_aload_n X (pc' := 1) 0 dX5_chargeFor_0 rfl rfl rfl ?_
  refine j_iload_n X (pc' := 2) 1 dX5_chargeFor_1 rfl rfl rfl ?_
  refine j_callVi X (pc' := 5) (As := [.int x1]) (rest := []) (c_X5_ahead l D cI cH cO h ar C x1 hIC) wv_X5_47 ⟨0, 5, _, _, rfl, rfl, rfl⟩ ⟨by decide, by decide, by decide, by decide⟩ rfl rfl (Nat.le_of_ble_eq_true rfl) dX5_chargeFor_2 rfl ?_
  refine j_topL (fun r_2 er_2 => ?_)
  refine j_istore_n X (lv' := [(0, .ref h), (1, .int x1), (2, .int x2), (3, .int r_2)]) (pc' := 6) [1, 2, 3, 0] dX5_chargeFor_5 rfl (by decide) rfl rfl ?_
  refine j_aload_n X (pc' := 7) 0 dX5_chargeFor_6 rfl rfl rfl ?_
  refine j_iload_n X (pc' := 8) 3 dX5_chargeFor_7 rfl rfl rfl ?_
  refine j_iload_n X (pc' := 9) 2 dX5_chargeFor_8 rfl rfl rfl ?_
  refine j_iadd X (pc' := 10) dX5_chargeFor_9 rfl ?_
  refine j_callVi X (pc' := 13) (As := [.int (r_2 + x2)]) (rest := []) (c_X5_damage l D cI cH cO h ar C (r_2 + x2) hIC.2.2.1) wv_X5_50 ⟨0, 5, _, _, rfl, rfl, rfl⟩ ⟨by decide, by decide, by decide, by decide⟩ rfl rfl (Nat.le_of_ble_eq_true rfl) dX5_chargeFor_10 rfl ?_
  refine j_topL (fun r_10 er_10 => ?_)
  refine j_aload_n X (pc' := 14) 0 dX5_chargeFor_13 rfl rfl rfl ?_
  refine j_iload_n X (pc' := 15) 3 dX5_chargeFor_14 rfl rfl rfl ?_
  refine j_callVi X (pc' := 18) (As := [.int r_2]) (rest := [.int r_10]) (c_X5_damage l D cI cH cO h ar C r_2 hIC.2.2.1) wv_X5_50 ⟨0, 5, _, _, rfl, rfl, rfl⟩ ⟨by decide, by decide, by decide, by decide⟩ rfl rfl (Nat.le_of_ble_eq_true rfl) dX5_chargeFor_15 rfl ?_
  refine j_topL (fun r_15 er_15 => ?_)
  refine j_isub X (pc' := 19) dX5_chargeFor_18 rfl ?_
  exact j_iretP X rfl rfl dX5_chargeFor_19
theorem c_X5_chargeFor (l : Launch) (D : va_G) (cI cH cO : ClassId) (h : Nat) (ar : Nat → Nat) (C : Cst) (x1 : Int32) (x2 : Int32) (hIC : IM C) : MI l yX5_chargeFor cX5_chargeFor 4 (some .int) 2 D (tyl cI cH cO) [.ref h, .int x1, .int x2] ((wM cI h ar C)) (sX5_chargeFor C x1 x2) ((wM cI h ar C)) := fun sz => j_start (fun below s => (KP below [.ref h, .int x1, .int x2].toArray s D (tyl cI cH cO) ((wM cI h ar C)))) (sX5_chargeFor C x1 x2) (by decide +kernel) rfl (Nat.le_of_ble_eq_true rfl) (fun below s hs _ => by subst hs; rfl) (fun p e s m below meth c hX9 X => b_X5_chargeFor h ar C x1 x2 hIC X)
set_option maxHeartbeats 4000000 in
set_option maxRecDepth 100000 in
theorem b_X5_outSet {p : Program} {l : Launch} {e : Env} {s : State} {m : MethodId} {args : Array Value} {below : List Frame} {meth : Method} {c : Code} {D : va_G} {cI cH cO : ClassId} (h : Nat) (ar : Nat → Nat) (C : Cst) (hIC : IM C) (X : CX p s m args meth c cX5_outSet 3 RX5 (some .int) D (tyl cI cH cO) (va_A ((wM cI h ar C)) s.heap.size)) : J p l e (rml 1) s m args below meth c 3 D (va_A ((wM cI h ar C)) s.heap.size) 0 0 (KP below args s D (tyl cI cH cO) ((wM cI h ar C))) (sX5_outSet C) ((wM cI h ar C)) 0 [(0, .ref h)] [] := by
  unfold sX5_outSet
  refine j_ltl2 (fun L4 eL4 => ?_)
  have hL4 : ∀ (n4 : Nat) (x1 : Int32) (i2 : Nat) (hi : i2 ≤ 8) (hfu : 9 ≤ i2 + n4), J p l e (rml 1) s m args below meth c 3 D (va_A ((wM cI h ar C)) s.heap.size) 0 0 (KP below args s D (tyl cI cH cO) ((wM cI h ar C))) (L4 n4 x1 i2) ((wM cI h ar C)) 4 [(0, .ref h), (1, .int x1), (2, .int (nI i2))] [] := by
    intro n4
    induction n4 with
    | zero =>
      intro x1 i2 hi hfu
      exact absurd hfu (by omega)
    | succ n4 ih4 =>
      intro x1 i2 hi hfu
      rw [eL4]
      refine j_iload_n X (pc' := 5) 2 dX5_outSet_4 rfl rfl rfl ?_
      refine j_aload_n X (pc' := 6) 0 dX5_outSet_5 rfl rfl rfl ?_
      refine j_get X inX5 rfl (pc' := 9) 0 0 q_fl_X5_7 (by decide) rfl rfl dX5_outSet_6 rfl ?_
      refine j_iconst X (v := 5) (pc' := 10) dX5_outSet_9 (by decide) rfl ?_
      refine j_ialdN X (i := 5) (pc' := 11) 1 rfl (by omega) (by decide) dX5_outSet_10 rfl ?_
      refine j_icmp_ge X (tgt := 32) (pc' := 14) dX5_outSet_11 (by decide) rfl (fun c_11 => ?_) (fun c_11 => ?_)
      · refine j_iload_n X (pc' := 33) 1 dX5_outSet_32 rfl rfl rfl ?_
        exact j_iretP X rfl rfl dX5_outSet_33
      · have hb_11 : i2 < 8 := i32_lt8 c_11 hIC.2.1 (by omega)
        refine j_iload_n X (pc' := 15) 1 dX5_outSet_14 rfl rfl rfl ?_
        refine j_aload_n X (pc' := 16) 0 dX5_outSet_15 rfl rfl rfl ?_
        refine j_iload_n X (pc' := 17) 2 dX5_outSet_16 rfl rfl rfl ?_
        refine j_bipush X (v := 6) (pc' := 19) dX5_outSet_17 (by decide) rfl ?_
        refine j_callVi X (pc' := 22) (As := [.int (nI i2), .int 6]) (rest := [.int x1]) (c_X5_of l D cI cH cO h ar C i2 6 (by first | omega | assumption | decide | (subst_vars; first | assumption | omega)) (by first | omega | assumption | decide | (subst_vars; first | assumption | omega))) wv_X5_39 ⟨0, 5, _, _, rfl, rfl, rfl⟩ ⟨by decide, by decide, by decide, by decide⟩ rfl rfl (Nat.le_of_ble_eq_true rfl) dX5_outSet_19 rfl ?_
        refine j_topL (fun r_19 er_19 => ?_)
        refine j_iload_n X (pc' := 23) 2 dX5_outSet_22 rfl rfl rfl ?_
        refine j_ishl X (pc' := 24) dX5_outSet_23 rfl ?_
        refine j_ior X (pc' := 25) dX5_outSet_24 rfl ?_
        refine j_istore_nL X (fun v1_25 => [(0, .ref h), (1, .int v1_25), (2, .int (nI i2))]) [1, 0, 2] (pc' := 26) dX5_outSet_25 rfl (by decide) (fun _ => rfl) rfl (fun v1_25 ev1_25 => ?_)
        refine j_iinc X (v := (nI (i2 + 1))) (lv' := [(0, .ref h), (1, .int v1_25), (2, .int (nI (i2 + 1)))]) (q := 2) (pc' := 29) [1, 2, 0] dX5_outSet_26 rfl (nI_1 i2) (by decide) rfl rfl ?_
        refine j_goto X (pc' := 4) dX5_outSet_29 (by decide) ?_
        refine j_lv [0, 1, 2] (lv' := [(0, .ref h), (1, .int v1_25), (2, .int (nI (i2 + 1)))]) rfl ?_
        exact ih4 _ _ (by first | omega | assumption | decide | (subst_vars; first | assumption | omega)) (by first | omega | assumption | decide | (subst_vars; first | assumption | omega))
  refine j_iconst X (v := 0) (pc' := 1) dX5_outSet_0 (by decide) rfl ?_
  refine j_istore_n X (lv' := [(0, .ref h), (1, .int 0)]) (pc' := 2) [1, 0] dX5_outSet_1 rfl (by decide) rfl rfl ?_
  refine j_iconst X (v := 0) (pc' := 3) dX5_outSet_2 (by decide) rfl ?_
  refine j_istore_n X (lv' := [(0, .ref h), (1, .int 0), (2, .int 0)]) (pc' := 4) [1, 2, 0] dX5_outSet_3 rfl (by decide) rfl rfl ?_
  refine j_lv [0, 1, 2] (lv' := [(0, .ref h), (1, .int 0), (2, .int 0)]) rfl ?_
  exact hL4 _ _ _ (by first | omega | assumption | decide | (subst_vars; first | assumption | omega)) (by first | omega | assumption | decide | (subst_vars; first | assumption | omega))
theorem c_X5_outSet (l : Launch) (D : va_G) (cI cH cO : ClassId) (h : Nat) (ar : Nat → Nat) (C : Cst) (hIC : IM C) : MI l yX5_outSet cX5_outSet 3 (some .int) 1 D (tyl cI cH cO) [.ref h] ((wM cI h ar C)) (sX5_outSet C) ((wM cI h ar C)) := fun sz => j_start (fun below s => (KP below [.ref h].toArray s D (tyl cI cH cO) ((wM cI h ar C)))) (sX5_outSet C) (by decide +kernel) rfl (Nat.le_of_ble_eq_true rfl) (fun below s hs _ => by subst hs; rfl) (fun p e s m below meth c hX9 X => b_X5_outSet h ar C hIC X)
set_option maxHeartbeats 4000000 in
set_option maxRecDepth 100000 in
theorem b_X5_gainFor {p : Program} {l : Launch} {e : Env} {s : State} {m : MethodId} {args : Array Value} {below : List Frame} {meth : Method} {c : Code} {D : va_G} {cI cH cO : ClassId} (h : Nat) (ar : Nat → Nat) (C : Cst) (i1 : Nat) (x2 : Int32) (hIC : IM C) (hi1 : i1 < 8) (X : CX p s m args meth c cX5_gainFor 3 RX5 (some .int) D (tyl cI cH cO) (va_A ((wM cI h ar C)) s.heap.size)) : J p l e (rml 3) s m args below meth c 3 D (va_A ((wM cI h ar C)) s.heap.size) 0 0 (KP below args s D (tyl cI cH cO) ((wM cI h ar C))) (sX5_gainFor C i1 x2) ((wM cI h ar C)) 0 [(0, .ref h), (1, .int (nI i1)), (2, .int x2)] [] := by
  unfold sX5_gainFor
  refine j_aload_n X (pc' := 1) 0 dX5_gainFor_0 rfl rfl rfl ?_
  refine j_iload_n X (pc' := 2) 1 dX5_gainFor_1 rfl rfl rfl ?_
  refine j_iconst X (v := 0) (pc' := 3) dX5_gainFor_2 (by decide) rfl ?_
  refine j_callVi X (pc' := 6) (As := [.int (nI i1), .int 0]) (rest := []) (c_X5_of l D cI cH cO h ar C i1 0 (by first | omega | assumption | decide | (subst_vars; first | assumption | omega)) (by first | omega | assumption | decide | (subst_vars; first | assumption | omega))) wv_X5_39 ⟨0, 5, _, _, rfl, rfl, rfl⟩ ⟨by decide, by decide, by decide, by decide⟩ rfl rfl (Nat.le_of_ble_eq_true rfl) dX5_gainFor_3 rfl ?_
  refine j_topL (fun r_3 er_3 => ?_)
  refine j_iload_n X (pc' := 7) 2 dX5_gainFor_6 rfl rfl rfl ?_
  refine j_imul X (pc' := 8) dX5_gainFor_7 rfl ?_
  refine j_aload_n X (pc' := 9) 0 dX5_gainFor_8 rfl rfl rfl ?_
  refine j_iload_n X (pc' := 10) 1 dX5_gainFor_9 rfl rfl rfl ?_
  refine j_iload_n X (pc' := 11) 2 dX5_gainFor_10 rfl rfl rfl ?_
  refine j_callVi X (pc' := 14) (As := [.int (nI i1), .int x2]) (rest := [.int (r_3 * x2)]) (c_X5_chargeFor l D cI cH cO h ar C (nI i1) x2 hIC) wv_X5_68 ⟨0, 5, _, _, rfl, rfl, rfl⟩ ⟨by decide, by decide, by decide, by decide⟩ rfl rfl (Nat.le_of_ble_eq_true rfl) dX5_gainFor_11 rfl ?_
  refine j_topL (fun r_11 er_11 => ?_)
  refine j_isub X (pc' := 15) dX5_gainFor_14 rfl ?_
  exact j_iretP X rfl rfl dX5_gainFor_15
theorem c_X5_gainFor (l : Launch) (D : va_G) (cI cH cO : ClassId) (h : Nat) (ar : Nat → Nat) (C : Cst) (i1 : Nat) (x2 : Int32) (hIC : IM C) (hi1 : i1 < 8) : MI l yX5_gainFor cX5_gainFor 3 (some .int) 3 D (tyl cI cH cO) [.ref h, .int (nI i1), .int x2] ((wM cI h ar C)) (sX5_gainFor C i1 x2) ((wM cI h ar C)) := fun sz => j_start (fun below s => (KP below [.ref h, .int (nI i1), .int x2].toArray s D (tyl cI cH cO) ((wM cI h ar C)))) (sX5_gainFor C i1 x2) (by decide +kernel) rfl (Nat.le_of_ble_eq_true rfl) (fun below s hs _ => by subst hs; rfl) (fun p e s m below meth c hX9 X => b_X5_gainFor h ar C i1 x2 hIC hi1 X)
set_option maxHeartbeats 4000000 in
set_option maxRecDepth 100000 in
theorem b_X5_best {p : Program} {l : Launch} {e : Env} {s : State} {m : MethodId} {args : Array Value} {below : List Frame} {meth : Method} {c : Code} {D : va_G} {cI cH cO : ClassId} (h : Nat) (ar : Nat → Nat) (C : Cst) (i1 : Nat) (hIC : IM C) (hi1 : i1 < 8) (X : CX p s m args meth c cX5_best 4 RX5 (some .int) D (tyl cI cH cO) (va_A ((wM cI h ar C)) s.heap.size)) : J p l e (rml 4) s m args below meth c 4 D (va_A ((wM cI h ar C)) s.heap.size) 0 0 (KP below args s D (tyl cI cH cO) ((wM cI h ar C))) (sX5_best C i1) ((wM cI h ar C)) 0 [(0, .ref h), (1, .int (nI i1))] [] := by
  unfold sX5_best
  refine j_ltl3 (fun L4 eL4 => ?_)
  have hL4 : ∀ (n4 : Nat) (i1 : Nat) (x2 : Int32) (i3 : Nat) (hi : i3 ≤ 21) (hfu : 22 ≤ i3 + n4) (hi1 : i1 < 8), J p l e (rml 4) s m args below meth c 4 D (va_A ((wM cI h ar C)) s.heap.size) 0 0 (KP below args s D (tyl cI cH cO) ((wM cI h ar C))) (L4 n4 i1 x2 i3) ((wM cI h ar C)) 4 [(0, .ref h), (1, .int (nI i1)), (2, .int x2), (3, .int (nI i3))] [] := by
    intro n4
    induction n4 with
    | zero =>
      intro i1 x2 i3 hi hfu hi1
      exact absurd hfu (by omega)
    | succ n4 ih4 =>
      intro i1 x2 i3 hi hfu hi1
      rw [eL4]
      refine j_ltv (fun K40 eK40 => ?_)
      have hK40 : ∀ (i1 : Nat) (i3 : Nat) (t0 : Int32) (hi : i3 < 21) (hfu : 22 ≤ i3 + (n4 + 1)) (hi1 : i1 < 8), J p l e (rml 4) s m args below meth c 4 D (va_A ((wM cI h ar C)) s.heap.size) 0 0 (KP below args s D (tyl cI cH cO) ((wM cI h ar C))) (K40 i1 i3 t0) ((wM cI h ar C)) 40 [(0, .ref h), (1, .int (nI i1)), (3, .int (nI i3))] [.int t0] := by
        intro i1 i3 t0 hi hfu hi1
        rw [eK40]
        refine j_istore_n X (lv' := [(0, .ref h), (1, .int (nI i1)), (2, .int t0), (3, .int (nI i3))]) (pc' := 41) [1, 2, 0, 3] dX5_best_40 rfl (by decide) rfl rfl ?_
        refine j_iinc X (v := (nI (i3 + 1))) (lv' := [(0, .ref h), (1, .int (nI i1)), (2, .int t0), (3, .int (nI (i3 + 1)))]) (q := 3) (pc' := 44) [1, 2, 3, 0] dX5_best_41 rfl (nI_1 i3) (by decide) rfl rfl ?_
        refine j_goto X (pc' := 4) dX5_best_44 (by decide) ?_
        refine j_lv [0, 1, 2, 3] (lv' := [(0, .ref h), (1, .int (nI i1)), (2, .int t0), (3, .int (nI (i3 + 1)))]) rfl ?_
        exact ih4 _ _ _ (by first | omega | assumption | decide | (subst_vars; first | assumption | omega)) (by first | omega | assumption | decide | (subst_vars; first | assumption | omega)) (by first | omega | assumption | decide | (subst_vars; first | assumption | omega))
      refine j_iload_n X (pc' := 5) 3 dX5_best_4 rfl rfl rfl ?_
      refine j_bipush X (v := 20) (pc' := 7) dX5_best_5 (by decide) rfl ?_
      refine j_icmp_gt X (tgt := 47) (pc' := 10) dX5_best_7 (by decide) rfl (fun c_7 => ?_) (fun c_7 => ?_)
      · have f_7 : 20 < i3 := (nI_ltI (a := 20) (b := i3) (by omega) (by omega)).mp c_7
        refine j_iload_n X (pc' := 48) 2 dX5_best_47 rfl rfl rfl ?_
        exact j_iretP X rfl rfl dX5_best_48
      · have f_7 : ¬ (20 < i3) := fun h => c_7 ((nI_ltI (a := 20) (b := i3) (by omega) (by omega)).mpr h)
        refine j_aload_n X (pc' := 11) 0 dX5_best_10 rfl rfl rfl ?_
        refine j_iload_n X (pc' := 12) 1 dX5_best_11 rfl rfl rfl ?_
        refine j_bipush X (v := 6) (pc' := 14) dX5_best_12 (by decide) rfl ?_
        refine j_callVi X (pc' := 17) (As := [.int (nI i1), .int 6]) (rest := []) (c_X5_of l D cI cH cO h ar C i1 6 (by first | omega | assumption | decide | (subst_vars; first | assumption | omega)) (by first | omega | assumption | decide | (subst_vars; first | assumption | omega))) wv_X5_39 ⟨0, 5, _, _, rfl, rfl, rfl⟩ ⟨by decide, by decide, by decide, by decide⟩ rfl rfl (Nat.le_of_ble_eq_true rfl) dX5_best_14 rfl ?_
        refine j_topL (fun r_14 er_14 => ?_)
        refine j_if_ne X (tgt := 47) (pc' := 20) dX5_best_17 (by decide) rfl (fun c_17 => ?_) (fun c_17 => ?_)
        · refine j_iload_n X (pc' := 48) 2 dX5_best_47 rfl rfl rfl ?_
          exact j_iretP X rfl rfl dX5_best_48
        · refine j_aload_n X (pc' := 21) 0 dX5_best_20 rfl rfl rfl ?_
          refine j_iload_n X (pc' := 22) 1 dX5_best_21 rfl rfl rfl ?_
          refine j_iload_n X (pc' := 23) 3 dX5_best_22 rfl rfl rfl ?_
          refine j_callVi X (pc' := 26) (As := [.int (nI i1), .int (nI i3)]) (rest := []) (c_X5_gainFor l D cI cH cO h ar C i1 (nI i3) hIC (by first | omega | assumption | decide | (subst_vars; first | assumption | omega))) wv_X5_92 ⟨0, 5, _, _, rfl, rfl, rfl⟩ ⟨by decide, by decide, by decide, by decide⟩ rfl rfl (Nat.le_of_ble_eq_true rfl) dX5_best_23 rfl ?_
          refine j_topL (fun r_23 er_23 => ?_)
          refine j_aload_n X (pc' := 27) 0 dX5_best_26 rfl rfl rfl ?_
          refine j_iload_n X (pc' := 28) 1 dX5_best_27 rfl rfl rfl ?_
          refine j_iload_n X (pc' := 29) 2 dX5_best_28 rfl rfl rfl ?_
          refine j_callVi X (pc' := 32) (As := [.int (nI i1), .int x2]) (rest := [.int r_23]) (c_X5_gainFor l D cI cH cO h ar C i1 x2 hIC (by first | omega | assumption | decide | (subst_vars; first | assumption | omega))) wv_X5_92 ⟨0, 5, _, _, rfl, rfl, rfl⟩ ⟨by decide, by decide, by decide, by decide⟩ rfl rfl (Nat.le_of_ble_eq_true rfl) dX5_best_29 rfl ?_
          refine j_topL (fun r_29 er_29 => ?_)
          refine j_icmp_le X (tgt := 39) (pc' := 35) dX5_best_32 (by decide) rfl (fun c_32 => ?_) (fun c_32 => ?_)
          · refine j_iload_n X (pc' := 40) 2 dX5_best_39 rfl rfl rfl ?_
            refine j_lv [0, 1, 3] (lv' := [(0, .ref h), (1, .int (nI i1)), (3, .int (nI i3))]) rfl ?_
            exact hK40 _ _ _ (by first | omega | assumption | decide | (subst_vars; first | assumption | omega)) (by first | omega | assumption | decide | (subst_vars; first | assumption | omega)) (by first | omega | assumption | decide | (subst_vars; first | assumption | omega))
          · refine j_iload_n X (pc' := 36) 3 dX5_best_35 rfl rfl rfl ?_
            refine j_goto X (pc' := 40) dX5_best_36 (by decide) ?_
            refine j_lv [0, 1, 3] (lv' := [(0, .ref h), (1, .int (nI i1)), (3, .int (nI i3))]) rfl ?_
            exact hK40 _ _ _ (by first | omega | assumption | decide | (subst_vars; first | assumption | omega)) (by first | omega | assumption | decide | (subst_vars; first | assumption | omega)) (by first | omega | assumption | decide | (subst_vars; first | assumption | omega))
  refine j_iconst X (v := 0) (pc' := 1) dX5_best_0 (by decide) rfl ?_
  refine j_istore_n X (lv' := [(0, .ref h), (1, .int (nI i1)), (2, .int 0)]) (pc' := 2) [1, 2, 0] dX5_best_1 rfl (by decide) rfl rfl ?_
  refine j_iconst X (v := 1) (pc' := 3) dX5_best_2 (by decide) rfl ?_
  refine j_istore_n X (lv' := [(0, .ref h), (1, .int (nI i1)), (2, .int 0), (3, .int 1)]) (pc' := 4) [1, 2, 3, 0] dX5_best_3 rfl (by decide) rfl rfl ?_
  refine j_lv [0, 1, 2, 3] (lv' := [(0, .ref h), (1, .int (nI i1)), (2, .int 0), (3, .int 1)]) rfl ?_
  exact hL4 _ _ _ _ (by first | omega | assumption | decide | (subst_vars; first | assumption | omega)) (by first | omega | assumption | decide | (subst_vars; first | assumption | omega)) (by first | omega | assumption | decide | (subst_vars; first | assumption | omega))
theorem c_X5_best (l : Launch) (D : va_G) (cI cH cO : ClassId) (h : Nat) (ar : Nat → Nat) (C : Cst) (i1 : Nat) (hIC : IM C) (hi1 : i1 < 8) : MI l yX5_best cX5_best 4 (some .int) 4 D (tyl cI cH cO) [.ref h, .int (nI i1)] ((wM cI h ar C)) (sX5_best C i1) ((wM cI h ar C)) := fun sz => j_start (fun below s => (KP below [.ref h, .int (nI i1)].toArray s D (tyl cI cH cO) ((wM cI h ar C)))) (sX5_best C i1) (by decide +kernel) rfl (Nat.le_of_ble_eq_true rfl) (fun below s hs _ => by subst hs; rfl) (fun p e s m below meth c hX9 X => b_X5_best h ar C i1 hIC hi1 X)
set_option maxHeartbeats 4000000 in
set_option maxRecDepth 100000 in
theorem b_X5_memberOf {p : Program} {l : Launch} {e : Env} {s : State} {m : MethodId} {args : Array Value} {below : List Frame} {meth : Method} {c : Code} {D : va_G} {cI cH cO : ClassId} (h : Nat) (ar : Nat → Nat) (C : Cst) (x1 : Int32) (x2 : Int32) (hIC : IM C) (X : CX p s m args meth c cX5_memberOf 3 RX5 (some .int) D (tyl cI cH cO) (va_A ((wM cI h ar C)) s.heap.size)) : J p l e (rml 3) s m args below meth c 3 D (va_A ((wM cI h ar C)) s.heap.size) 0 0 (KP below args s D (tyl cI cH cO) ((wM cI h ar C))) (sX5_memberOf C x1 x2) ((wM cI h ar C)) 0 [(0, .ref h), (1, .int x1), (2, .int x2)] [] := by
  unfold sX5_memberOf
  refine j_ltv (fun K22 eK22 => ?_)
  have hK22 : ∀ (i1 : Nat) (i2 : Nat) (hi1 : i1 < 8) (hi2 : i2 < 10) (hn : ¬ C 0 5 = 0), J p l e (rml 3) s m args below meth c 3 D (va_A ((wM cI h ar C)) s.heap.size) 0 0 (KP below args s D (tyl cI cH cO) ((wM cI h ar C))) (K22 i1 i2) ((wM cI h ar C)) 22 [(0, .ref h), (1, .int (nI i1)), (2, .int (nI i2))] [] := by
    intro i1 i2 hi1 hi2 hn
    rw [eK22]
    refine j_iload_n X (pc' := 23) 2 dX5_memberOf_22 rfl rfl rfl ?_
    refine j_iconst X (v := 2) (pc' := 24) dX5_memberOf_23 (by decide) rfl ?_
    refine j_icmp_ge X (tgt := 36) (pc' := 27) dX5_memberOf_24 (by decide) rfl (fun c_24 => ?_) (fun c_24 => ?_)
    · have f_24 : 2 ≤ i2 := (nI_leI (a := 2) (b := i2) (by omega) (by omega)).mp c_24
      refine j_iload_n X (pc' := 37) 2 dX5_memberOf_36 rfl rfl rfl ?_
      refine j_iconst X (v := 2) (pc' := 38) dX5_memberOf_37 (by decide) rfl ?_
      refine j_icmp_ne X (tgt := 55) (pc' := 41) dX5_memberOf_38 (by decide) rfl (fun c_38 => ?_) (fun c_38 => ?_)
      · have f_38 : ¬ (i2 = 2) := fun h => c_38 ((nI_eq (a := i2) (b := 2) (by omega) (by omega)).mpr h)
        refine j_iload_n X (pc' := 56) 2 dX5_memberOf_55 rfl rfl rfl ?_
        refine j_bipush X (v := 9) (pc' := 58) dX5_memberOf_56 (by decide) rfl ?_
        refine j_icmp_ge X (tgt := 72) (pc' := 61) dX5_memberOf_58 (by decide) rfl (fun c_58 => ?_) (fun c_58 => ?_)
        · have f_58 : 9 ≤ i2 := (nI_leI (a := 9) (b := i2) (by omega) (by omega)).mp c_58
          refine j_aload_n X (pc' := 73) 0 dX5_memberOf_72 rfl rfl rfl ?_
          refine j_iload_n X (pc' := 74) 1 dX5_memberOf_73 rfl rfl rfl ?_
          refine j_callVi X (pc' := 77) (As := [.int (nI i1)]) (rest := []) (c_X5_placeOf l D cI cH cO h ar C (nI i1) (by first | omega | assumption | decide | (subst_vars; first | assumption | omega))) wv_X5_43 ⟨0, 5, _, _, rfl, rfl, rfl⟩ ⟨by decide, by decide, by decide, by decide⟩ rfl rfl (Nat.le_of_ble_eq_true rfl) dX5_memberOf_74 rfl ?_
          refine j_topL (fun r_74 er_74 => ?_)
          exact j_iretP X rfl rfl dX5_memberOf_77
        · have f_58 : ¬ (9 ≤ i2) := fun h => c_58 ((nI_leI (a := 9) (b := i2) (by omega) (by omega)).mpr h)
          refine j_aload_n X (pc' := 62) 0 dX5_memberOf_61 rfl rfl rfl ?_
          refine j_iload_n X (pc' := 63) 1 dX5_memberOf_62 rfl rfl rfl ?_
          refine j_iload_n X (pc' := 64) 2 dX5_memberOf_63 rfl rfl rfl ?_
          refine j_iconst X (v := 1) (pc' := 65) dX5_memberOf_64 (by decide) rfl ?_
          refine j_isubN X (a := i2) (b := 1) (pc' := 66) dX5_memberOf_65 (by omega) rfl ?_
          refine j_callVi X (pc' := 69) (As := [.int (nI i1), .int (nI (i2 - 1))]) (rest := []) (c_X5_of l D cI cH cO h ar C i1 (i2 - 1) (by first | omega | assumption | decide | (subst_vars; first | assumption | omega)) (by first | omega | assumption | decide | (subst_vars; first | assumption | omega))) wv_X5_39 ⟨0, 5, _, _, rfl, rfl, rfl⟩ ⟨by decide, by decide, by decide, by decide⟩ rfl rfl (Nat.le_of_ble_eq_true rfl) dX5_memberOf_66 rfl ?_
          refine j_topL (fun r_66 er_66 => ?_)
          refine j_goto X (pc' := 77) dX5_memberOf_69 (by decide) ?_
          exact j_iretP X rfl rfl dX5_memberOf_77
      · have f_38 : i2 = 2 := (nI_eq (a := i2) (b := 2) (by omega) (by omega)).mp (Decidable.byContradiction c_38)
        refine j_aload_n X (pc' := 42) 0 dX5_memberOf_41 rfl rfl rfl ?_
        refine j_iload_n X (pc' := 43) 1 dX5_memberOf_42 rfl rfl rfl ?_
        refine j_aload_n X (pc' := 44) 0 dX5_memberOf_43 rfl rfl rfl ?_
        refine j_iload_n X (pc' := 45) 1 dX5_memberOf_44 rfl rfl rfl ?_
        refine j_iconst X (v := 1) (pc' := 46) dX5_memberOf_45 (by decide) rfl ?_
        refine j_callVi X (pc' := 49) (As := [.int (nI i1), .int 1]) (rest := [.int (nI i1), .ref h]) (c_X5_of l D cI cH cO h ar C i1 1 (by first | omega | assumption | decide | (subst_vars; first | assumption | omega)) (by first | omega | assumption | decide | (subst_vars; first | assumption | omega))) wv_X5_39 ⟨0, 5, _, _, rfl, rfl, rfl⟩ ⟨by decide, by decide, by decide, by decide⟩ rfl rfl (Nat.le_of_ble_eq_true rfl) dX5_memberOf_46 rfl ?_
        refine j_topL (fun r_46 er_46 => ?_)
        refine j_callVi X (pc' := 52) (As := [.int (nI i1), .int r_46]) (rest := []) (c_X5_chargeFor l D cI cH cO h ar C (nI i1) r_46 hIC) wv_X5_68 ⟨0, 5, _, _, rfl, rfl, rfl⟩ ⟨by decide, by decide, by decide, by decide⟩ rfl rfl (Nat.le_of_ble_eq_true rfl) dX5_memberOf_49 rfl ?_
        refine j_topL (fun r_49 er_49 => ?_)
        refine j_goto X (pc' := 77) dX5_memberOf_52 (by decide) ?_
        exact j_iretP X rfl rfl dX5_memberOf_77
    · have f_24 : ¬ (2 ≤ i2) := fun h => c_24 ((nI_leI (a := 2) (b := i2) (by omega) (by omega)).mpr h)
      refine j_aload_n X (pc' := 28) 0 dX5_memberOf_27 rfl rfl rfl ?_
      refine j_iload_n X (pc' := 29) 1 dX5_memberOf_28 rfl rfl rfl ?_
      refine j_iload_n X (pc' := 30) 2 dX5_memberOf_29 rfl rfl rfl ?_
      refine j_callVi X (pc' := 33) (As := [.int (nI i1), .int (nI i2)]) (rest := []) (c_X5_of l D cI cH cO h ar C i1 i2 (by first | omega | assumption | decide | (subst_vars; first | assumption | omega)) (by first | omega | assumption | decide | (subst_vars; first | assumption | omega))) wv_X5_39 ⟨0, 5, _, _, rfl, rfl, rfl⟩ ⟨by decide, by decide, by decide, by decide⟩ rfl rfl (Nat.le_of_ble_eq_true rfl) dX5_memberOf_30 rfl ?_
      refine j_topL (fun r_30 er_30 => ?_)
      refine j_goto X (pc' := 77) dX5_memberOf_33 (by decide) ?_
      exact j_iretP X rfl rfl dX5_memberOf_77
  refine j_aload_n X (pc' := 1) 0 dX5_memberOf_0 rfl rfl rfl ?_
  refine j_iload_n X (pc' := 2) 1 dX5_memberOf_1 rfl rfl rfl ?_
  refine j_callVi X (pc' := 5) (As := [.int x1]) (rest := []) (c_X5_isMember l D cI cH cO h ar C x1 ) wv_X5_64 ⟨0, 5, _, _, rfl, rfl, rfl⟩ ⟨by decide, by decide, by decide, by decide⟩ rfl rfl (Nat.le_of_ble_eq_true rfl) dX5_memberOf_2 rfl ?_
  refine j_topL (fun r_2 er_2 => ?_)
  refine j_if_eq X (tgt := 18) (pc' := 8) dX5_memberOf_5 (by decide) rfl (fun c_5 => ?_) (fun c_5 => ?_)
  · refine j_sipush X (v := (-10001)) (pc' := 21) dX5_memberOf_18 (by decide) rfl ?_
    exact j_iretP X rfl rfl dX5_memberOf_21
  · refine j_iload_n X (pc' := 9) 2 dX5_memberOf_8 rfl rfl rfl ?_
    refine j_iconst X (v := 0) (pc' := 10) dX5_memberOf_9 (by decide) rfl ?_
    refine j_bipush X (v := 9) (pc' := 12) dX5_memberOf_10 (by decide) rfl ?_
    refine j_callSiF X (pc' := 15) (As := [.int x2, .int 0, .int 9]) (rest := []) (ws' := (wM cI h ar C)) (wr := (wM cI h ar C)) [] [0, 1, 2, 3, 4, 5, 6, 7] [0, 1, 2, 3, 4, 5, 6, 7] rfl rfl ⟨by decide, by decide, by decide, by decide⟩ rfl (c_X5_in l D cI cH cO x2 0 9 ) ws_X5_53 ⟨by decide, by decide, by decide, by decide⟩ rfl rfl (Nat.le_of_ble_eq_true rfl) dX5_memberOf_12 rfl ?_
    refine j_topL (fun r_12 er_12 => ?_)
    refine j_if_ne X (tgt := 22) (pc' := 18) dX5_memberOf_15 (by decide) rfl (fun c_15 => ?_) (fun c_15 => ?_)
    · obtain ⟨j_15, hj_15, ej_15⟩ : ∃ j : Nat, j < 8 ∧ x1 = nI j := vp_in_of (mem_in er_2 c_5 hIC.2.1) (by decide)
      subst ej_15
      rw [nI_clamp (show j_15 < 2 ^ 31 by omega)]
      obtain ⟨j_15, hj_15, ej_15⟩ : ∃ j : Nat, j < 10 ∧ x2 = nI j := in_of (N := 9) er_12 c_15 (by decide)
      subst ej_15
      rw [nI_clamp (show j_15 < 2 ^ 31 by omega)]
      refine j_lv [0, 1, 2] (lv' := _) rfl ?_
      exact hK22 _ _ (by first | omega | assumption | decide | (subst_vars; first | assumption | omega)) (by first | omega | assumption | decide | (subst_vars; first | assumption | omega)) (mem_nz er_2 c_5)
    · refine j_sipush X (v := (-10001)) (pc' := 21) dX5_memberOf_18 (by decide) rfl ?_
      exact j_iretP X rfl rfl dX5_memberOf_21
theorem c_X5_memberOf (l : Launch) (D : va_G) (cI cH cO : ClassId) (h : Nat) (ar : Nat → Nat) (C : Cst) (x1 : Int32) (x2 : Int32) (hIC : IM C) : MI l yX5_memberOf cX5_memberOf 3 (some .int) 3 D (tyl cI cH cO) [.ref h, .int x1, .int x2] ((wM cI h ar C)) (sX5_memberOf C x1 x2) ((wM cI h ar C)) := fun sz => j_start (fun below s => (KP below [.ref h, .int x1, .int x2].toArray s D (tyl cI cH cO) ((wM cI h ar C)))) (sX5_memberOf C x1 x2) (by decide +kernel) rfl (Nat.le_of_ble_eq_true rfl) (fun below s hs _ => by subst hs; rfl) (fun p e s m below meth c hX9 X => b_X5_memberOf h ar C x1 x2 hIC X)
set_option maxHeartbeats 4000000 in
set_option maxRecDepth 100000 in
theorem b_X5_gain {p : Program} {l : Launch} {e : Env} {s : State} {m : MethodId} {args : Array Value} {below : List Frame} {meth : Method} {c : Code} {D : va_G} {cI cH cO : ClassId} (h : Nat) (ar : Nat → Nat) (C : Cst) (x1 : Int32) (x2 : Int32) (hIC : IM C) (X : CX p s m args meth c cX5_gain 3 RX5 (some .int) D (tyl cI cH cO) (va_A ((wM cI h ar C)) s.heap.size)) : J p l e (rml 4) s m args below meth c 3 D (va_A ((wM cI h ar C)) s.heap.size) 0 0 (KP below args s D (tyl cI cH cO) ((wM cI h ar C))) (sX5_gain C x1 x2) ((wM cI h ar C)) 0 [(0, .ref h), (1, .int x1), (2, .int x2)] [] := by
  unfold sX5_gain
  refine j_ltv (fun K43 eK43 => ?_)
  have hK43 : ∀ (i1 : Nat) (x2 : Int32) (hi1 : i1 < 8), J p l e (rml 4) s m args below meth c 3 D (va_A ((wM cI h ar C)) s.heap.size) 0 0 (KP below args s D (tyl cI cH cO) ((wM cI h ar C))) (K43 i1 x2) ((wM cI h ar C)) 43 [(0, .ref h), (1, .int (nI i1)), (2, .int x2)] [] := by
    intro i1 x2 hi1
    rw [eK43]
    refine j_aload_n X (pc' := 44) 0 dX5_gain_43 rfl rfl rfl ?_
    refine j_iload_n X (pc' := 45) 1 dX5_gain_44 rfl rfl rfl ?_
    refine j_iload_n X (pc' := 46) 2 dX5_gain_45 rfl rfl rfl ?_
    refine j_callVi X (pc' := 49) (As := [.int (nI i1), .int x2]) (rest := []) (c_X5_gainFor l D cI cH cO h ar C i1 x2 hIC (by first | omega | assumption | decide | (subst_vars; first | assumption | omega))) wv_X5_92 ⟨0, 5, _, _, rfl, rfl, rfl⟩ ⟨by decide, by decide, by decide, by decide⟩ rfl rfl (Nat.le_of_ble_eq_true rfl) dX5_gain_46 rfl ?_
    refine j_topL (fun r_46 er_46 => ?_)
    refine j_sipush X (v := 10000) (pc' := 52) dX5_gain_49 (by decide) rfl ?_
    refine j_iadd X (pc' := 53) dX5_gain_52 rfl ?_
    exact j_iretP X rfl rfl dX5_gain_53
  refine j_ltv (fun K22 eK22 => ?_)
  have hK22 : ∀ (i1 : Nat) (x2 : Int32) (hi1 : i1 < 8), J p l e (rml 4) s m args below meth c 3 D (va_A ((wM cI h ar C)) s.heap.size) 0 0 (KP below args s D (tyl cI cH cO) ((wM cI h ar C))) (K22 i1 x2) ((wM cI h ar C)) 22 [(0, .ref h), (1, .int (nI i1)), (2, .int x2)] [] := by
    intro i1 x2 hi1
    rw [eK22]
    refine j_aload_n X (pc' := 23) 0 dX5_gain_22 rfl rfl rfl ?_
    refine j_iload_n X (pc' := 24) 1 dX5_gain_23 rfl rfl rfl ?_
    refine j_bipush X (v := 6) (pc' := 26) dX5_gain_24 (by decide) rfl ?_
    refine j_callVi X (pc' := 29) (As := [.int (nI i1), .int 6]) (rest := []) (c_X5_of l D cI cH cO h ar C i1 6 (by first | omega | assumption | decide | (subst_vars; first | assumption | omega)) (by first | omega | assumption | decide | (subst_vars; first | assumption | omega))) wv_X5_39 ⟨0, 5, _, _, rfl, rfl, rfl⟩ ⟨by decide, by decide, by decide, by decide⟩ rfl rfl (Nat.le_of_ble_eq_true rfl) dX5_gain_26 rfl ?_
    refine j_topL (fun r_26 er_26 => ?_)
    refine j_iconst X (v := 1) (pc' := 30) dX5_gain_29 (by decide) rfl ?_
    refine j_icmp_ne X (tgt := 43) (pc' := 33) dX5_gain_30 (by decide) rfl (fun c_30 => ?_) (fun c_30 => ?_)
    · refine j_lv [0, 1, 2] (lv' := [(0, .ref h), (1, .int (nI i1)), (2, .int x2)]) rfl ?_
      exact hK43 _ _ (by first | omega | assumption | decide | (subst_vars; first | assumption | omega))
    · refine j_iload_n X (pc' := 34) 2 dX5_gain_33 rfl rfl rfl ?_
      refine j_if_le X (tgt := 43) (pc' := 37) dX5_gain_34 (by decide) rfl (fun c_34 => ?_) (fun c_34 => ?_)
      · refine j_lv [0, 1, 2] (lv' := [(0, .ref h), (1, .int (nI i1)), (2, .int x2)]) rfl ?_
        exact hK43 _ _ (by first | omega | assumption | decide | (subst_vars; first | assumption | omega))
      · refine j_sipush X (v := (-10002)) (pc' := 40) dX5_gain_37 (by decide) rfl ?_
        refine j_goto X (pc' := 53) dX5_gain_40 (by decide) ?_
        exact j_iretP X rfl rfl dX5_gain_53
  refine j_aload_n X (pc' := 1) 0 dX5_gain_0 rfl rfl rfl ?_
  refine j_iload_n X (pc' := 2) 1 dX5_gain_1 rfl rfl rfl ?_
  refine j_callVi X (pc' := 5) (As := [.int x1]) (rest := []) (c_X5_isMember l D cI cH cO h ar C x1 ) wv_X5_64 ⟨0, 5, _, _, rfl, rfl, rfl⟩ ⟨by decide, by decide, by decide, by decide⟩ rfl rfl (Nat.le_of_ble_eq_true rfl) dX5_gain_2 rfl ?_
  refine j_topL (fun r_2 er_2 => ?_)
  refine j_if_eq X (tgt := 18) (pc' := 8) dX5_gain_5 (by decide) rfl (fun c_5 => ?_) (fun c_5 => ?_)
  · refine j_sipush X (v := (-10001)) (pc' := 21) dX5_gain_18 (by decide) rfl ?_
    exact j_iretP X rfl rfl dX5_gain_21
  · refine j_iload_n X (pc' := 9) 2 dX5_gain_8 rfl rfl rfl ?_
    refine j_iconst X (v := 0) (pc' := 10) dX5_gain_9 (by decide) rfl ?_
    refine j_bipush X (v := 20) (pc' := 12) dX5_gain_10 (by decide) rfl ?_
    refine j_callSiF X (pc' := 15) (As := [.int x2, .int 0, .int 20]) (rest := []) (ws' := (wM cI h ar C)) (wr := (wM cI h ar C)) [] [0, 1, 2, 3, 4, 5, 6, 7] [0, 1, 2, 3, 4, 5, 6, 7] rfl rfl ⟨by decide, by decide, by decide, by decide⟩ rfl (c_X5_in l D cI cH cO x2 0 20 ) ws_X5_53 ⟨by decide, by decide, by decide, by decide⟩ rfl rfl (Nat.le_of_ble_eq_true rfl) dX5_gain_12 rfl ?_
    refine j_topL (fun r_12 er_12 => ?_)
    refine j_if_ne X (tgt := 22) (pc' := 18) dX5_gain_15 (by decide) rfl (fun c_15 => ?_) (fun c_15 => ?_)
    · obtain ⟨j_15, hj_15, ej_15⟩ : ∃ j : Nat, j < 8 ∧ x1 = nI j := vp_in_of (mem_in er_2 c_5 hIC.2.1) (by decide)
      subst ej_15
      rw [nI_clamp (show j_15 < 2 ^ 31 by omega)]
      refine j_lv [0, 1, 2] (lv' := _) rfl ?_
      exact hK22 _ _ (by first | omega | assumption | decide | (subst_vars; first | assumption | omega))
    · refine j_sipush X (v := (-10001)) (pc' := 21) dX5_gain_18 (by decide) rfl ?_
      exact j_iretP X rfl rfl dX5_gain_21
theorem c_X5_gain (l : Launch) (D : va_G) (cI cH cO : ClassId) (h : Nat) (ar : Nat → Nat) (C : Cst) (x1 : Int32) (x2 : Int32) (hIC : IM C) : MI l yX5_gain cX5_gain 3 (some .int) 4 D (tyl cI cH cO) [.ref h, .int x1, .int x2] ((wM cI h ar C)) (sX5_gain C x1 x2) ((wM cI h ar C)) := fun sz => j_start (fun below s => (KP below [.ref h, .int x1, .int x2].toArray s D (tyl cI cH cO) ((wM cI h ar C)))) (sX5_gain C x1 x2) (by decide +kernel) rfl (Nat.le_of_ble_eq_true rfl) (fun below s hs _ => by subst hs; rfl) (fun p e s m below meth c hX9 X => b_X5_gain h ar C x1 x2 hIC X)
set_option maxHeartbeats 4000000 in
set_option maxRecDepth 100000 in
theorem b_X5_bestUse {p : Program} {l : Launch} {e : Env} {s : State} {m : MethodId} {args : Array Value} {below : List Frame} {meth : Method} {c : Code} {D : va_G} {cI cH cO : ClassId} (h : Nat) (ar : Nat → Nat) (C : Cst) (x1 : Int32) (hIC : IM C) (X : CX p s m args meth c cX5_bestUse 2 RX5 (some .int) D (tyl cI cH cO) (va_A ((wM cI h ar C)) s.heap.size)) : J p l e (rml 5) s m args below meth c 2 D (va_A ((wM cI h ar C)) s.heap.size) 0 0 (KP below args s D (tyl cI cH cO) ((wM cI h ar C))) (sX5_bestUse C x1) ((wM cI h ar C)) 0 [(0, .ref h), (1, .int x1)] [] := by
  unfold sX5_bestUse
  refine j_ltv (fun K8 eK8 => ?_)
  have hK8 : ∀ (i1 : Nat) (hi1 : i1 < 8), J p l e (rml 5) s m args below meth c 2 D (va_A ((wM cI h ar C)) s.heap.size) 0 0 (KP below args s D (tyl cI cH cO) ((wM cI h ar C))) (K8 i1) ((wM cI h ar C)) 8 [(0, .ref h), (1, .int (nI i1))] [] := by
    intro i1 hi1
    rw [eK8]
    refine j_aload_n X (pc' := 9) 0 dX5_bestUse_8 rfl rfl rfl ?_
    refine j_iload_n X (pc' := 10) 1 dX5_bestUse_9 rfl rfl rfl ?_
    refine j_callVi X (pc' := 13) (As := [.int (nI i1)]) (rest := []) (c_X5_best l D cI cH cO h ar C i1 hIC (by first | omega | assumption | decide | (subst_vars; first | assumption | omega))) wv_X5_95 ⟨0, 5, _, _, rfl, rfl, rfl⟩ ⟨by decide, by decide, by decide, by decide⟩ rfl rfl (Nat.le_of_ble_eq_true rfl) dX5_bestUse_10 rfl ?_
    refine j_topL (fun r_10 er_10 => ?_)
    refine j_goto X (pc' := 19) dX5_bestUse_13 (by decide) ?_
    exact j_iretP X rfl rfl dX5_bestUse_19
  refine j_aload_n X (pc' := 1) 0 dX5_bestUse_0 rfl rfl rfl ?_
  refine j_iload_n X (pc' := 2) 1 dX5_bestUse_1 rfl rfl rfl ?_
  refine j_callVi X (pc' := 5) (As := [.int x1]) (rest := []) (c_X5_isMember l D cI cH cO h ar C x1 ) wv_X5_64 ⟨0, 5, _, _, rfl, rfl, rfl⟩ ⟨by decide, by decide, by decide, by decide⟩ rfl rfl (Nat.le_of_ble_eq_true rfl) dX5_bestUse_2 rfl ?_
  refine j_topL (fun r_2 er_2 => ?_)
  refine j_if_eq X (tgt := 16) (pc' := 8) dX5_bestUse_5 (by decide) rfl (fun c_5 => ?_) (fun c_5 => ?_)
  · refine j_sipush X (v := (-10001)) (pc' := 19) dX5_bestUse_16 (by decide) rfl ?_
    exact j_iretP X rfl rfl dX5_bestUse_19
  · obtain ⟨j_19, hj_19, ej_19⟩ : ∃ j : Nat, j < 8 ∧ x1 = nI j := vp_in_of (mem_in er_2 c_5 hIC.2.1) (by decide)
    subst ej_19
    rw [nI_clamp (show j_19 < 2 ^ 31 by omega)]
    refine j_lv [0, 1] (lv' := _) rfl ?_
    exact hK8 _ (by first | omega | assumption | decide | (subst_vars; first | assumption | omega))
theorem c_X5_bestUse (l : Launch) (D : va_G) (cI cH cO : ClassId) (h : Nat) (ar : Nat → Nat) (C : Cst) (x1 : Int32) (hIC : IM C) : MI l yX5_bestUse cX5_bestUse 2 (some .int) 5 D (tyl cI cH cO) [.ref h, .int x1] ((wM cI h ar C)) (sX5_bestUse C x1) ((wM cI h ar C)) := fun sz => j_start (fun below s => (KP below [.ref h, .int x1].toArray s D (tyl cI cH cO) ((wM cI h ar C)))) (sX5_bestUse C x1) (by decide +kernel) rfl (Nat.le_of_ble_eq_true rfl) (fun below s hs _ => by subst hs; rfl) (fun p e s m below meth c hX9 X => b_X5_bestUse h ar C x1 hIC X)
set_option maxHeartbeats 4000000 in
set_option maxRecDepth 100000 in
theorem b_X5_count {p : Program} {l : Launch} {e : Env} {s : State} {m : MethodId} {args : Array Value} {below : List Frame} {meth : Method} {c : Code} {D : va_G} {cI cH cO : ClassId} (h : Nat) (ar : Nat → Nat) (C : Cst) (x1 : Int32) (hIC : IM C) (X : CX p s m args meth c cX5_count 2 RX5 (some .int) D (tyl cI cH cO) (va_A ((wM cI h ar C)) s.heap.size)) : J p l e (rml 2) s m args below meth c 2 D (va_A ((wM cI h ar C)) s.heap.size) 0 0 (KP below args s D (tyl cI cH cO) ((wM cI h ar C))) (sX5_count C x1) ((wM cI h ar C)) 0 [(0, .ref h), (1, .int x1)] [] := by
  unfold sX5_count
  refine j_iload_n X (pc' := 1) 1 dX5_count_0 rfl rfl rfl ?_
  refine j_ite (P9 := x1 = 0) (fun c_1_0 => ?_) (fun c_1_0 => ?_)
  · refine j_tsw X (tgt := 68) dX5_count_1 (by rw [c_1_0]; decide) (by rw [c_1_0]; decide) (off := 67) (by rw [c_1_0]; decide) (by decide) ?_
    refine j_aload_n X (pc' := 69) 0 dX5_count_68 rfl rfl rfl ?_
    refine j_get X inX5 rfl (pc' := 72) 0 0 q_fl_X5_7 (by decide) rfl rfl dX5_count_69 rfl ?_
    refine j_iconst X (v := 5) (pc' := 73) dX5_count_72 (by decide) rfl ?_
    refine j_iload_n X (pc' := 74) 1 dX5_count_73 rfl rfl rfl ?_
    refine j_iadd X (pc' := 75) dX5_count_74 rfl ?_
    refine j_iald X (pc' := 76) 1 rfl (vp_in_iff.mpr (by first | (rw [c_1_0]; decide) | (rw [c_1_1]; decide) | (rw [c_1_2]; decide))) dX5_count_75 rfl ?_
    exact j_iretP X rfl rfl dX5_count_76
  refine j_ite (P9 := x1 = 1) (fun c_1_1 => ?_) (fun c_1_1 => ?_)
  · refine j_tsw X (tgt := 68) dX5_count_1 (by rw [c_1_1]; decide) (by rw [c_1_1]; decide) (off := 67) (by rw [c_1_1]; decide) (by decide) ?_
    refine j_aload_n X (pc' := 69) 0 dX5_count_68 rfl rfl rfl ?_
    refine j_get X inX5 rfl (pc' := 72) 0 0 q_fl_X5_7 (by decide) rfl rfl dX5_count_69 rfl ?_
    refine j_iconst X (v := 5) (pc' := 73) dX5_count_72 (by decide) rfl ?_
    refine j_iload_n X (pc' := 74) 1 dX5_count_73 rfl rfl rfl ?_
    refine j_iadd X (pc' := 75) dX5_count_74 rfl ?_
    refine j_iald X (pc' := 76) 1 rfl (vp_in_iff.mpr (by first | (rw [c_1_0]; decide) | (rw [c_1_1]; decide) | (rw [c_1_2]; decide))) dX5_count_75 rfl ?_
    exact j_iretP X rfl rfl dX5_count_76
  refine j_ite (P9 := x1 = 2) (fun c_1_2 => ?_) (fun c_1_2 => ?_)
  · refine j_tsw X (tgt := 68) dX5_count_1 (by rw [c_1_2]; decide) (by rw [c_1_2]; decide) (off := 67) (by rw [c_1_2]; decide) (by decide) ?_
    refine j_aload_n X (pc' := 69) 0 dX5_count_68 rfl rfl rfl ?_
    refine j_get X inX5 rfl (pc' := 72) 0 0 q_fl_X5_7 (by decide) rfl rfl dX5_count_69 rfl ?_
    refine j_iconst X (v := 5) (pc' := 73) dX5_count_72 (by decide) rfl ?_
    refine j_iload_n X (pc' := 74) 1 dX5_count_73 rfl rfl rfl ?_
    refine j_iadd X (pc' := 75) dX5_count_74 rfl ?_
    refine j_iald X (pc' := 76) 1 rfl (vp_in_iff.mpr (by first | (rw [c_1_0]; decide) | (rw [c_1_1]; decide) | (rw [c_1_2]; decide))) dX5_count_75 rfl ?_
    exact j_iretP X rfl rfl dX5_count_76
  refine j_ite (P9 := x1 = 3) (fun c_1_3 => ?_) (fun c_1_3 => ?_)
  · refine j_tsw X (tgt := 77) dX5_count_1 (by rw [c_1_3]; decide) (by rw [c_1_3]; decide) (off := 76) (by rw [c_1_3]; decide) (by decide) ?_
    refine j_aload_n X (pc' := 78) 0 dX5_count_77 rfl rfl rfl ?_
    refine j_iconst X (v := 1) (pc' := 79) dX5_count_78 (by decide) rfl ?_
    refine j_callVi X (pc' := 82) (As := [.int 1]) (rest := []) (c_X5_sum l D cI cH cO h ar C 1 hIC (by first | omega | assumption | decide | (subst_vars; first | assumption | omega))) wv_X5_71 ⟨0, 5, _, _, rfl, rfl, rfl⟩ ⟨by decide, by decide, by decide, by decide⟩ rfl rfl (Nat.le_of_ble_eq_true rfl) dX5_count_79 rfl ?_
    refine j_topL (fun r_79 er_79 => ?_)
    exact j_iretP X rfl rfl dX5_count_82
  refine j_ite (P9 := x1 = 4) (fun c_1_4 => ?_) (fun c_1_4 => ?_)
  · refine j_tsw X (tgt := 83) dX5_count_1 (by rw [c_1_4]; decide) (by rw [c_1_4]; decide) (off := 82) (by rw [c_1_4]; decide) (by decide) ?_
    refine j_aload_n X (pc' := 84) 0 dX5_count_83 rfl rfl rfl ?_
    refine j_aload_n X (pc' := 85) 0 dX5_count_84 rfl rfl rfl ?_
    refine j_iconst X (v := 1) (pc' := 86) dX5_count_85 (by decide) rfl ?_
    refine j_callVi X (pc' := 89) (As := [.int 1]) (rest := [.ref h]) (c_X5_sum l D cI cH cO h ar C 1 hIC (by first | omega | assumption | decide | (subst_vars; first | assumption | omega))) wv_X5_71 ⟨0, 5, _, _, rfl, rfl, rfl⟩ ⟨by decide, by decide, by decide, by decide⟩ rfl rfl (Nat.le_of_ble_eq_true rfl) dX5_count_86 rfl ?_
    refine j_topL (fun r_86 er_86 => ?_)
    refine j_callVi X (pc' := 92) (As := [.int r_86]) (rest := []) (c_X5_damage l D cI cH cO h ar C r_86 hIC.2.2.1) wv_X5_50 ⟨0, 5, _, _, rfl, rfl, rfl⟩ ⟨by decide, by decide, by decide, by decide⟩ rfl rfl (Nat.le_of_ble_eq_true rfl) dX5_count_89 rfl ?_
    refine j_topL (fun r_89 er_89 => ?_)
    exact j_iretP X rfl rfl dX5_count_92
  refine j_ite (P9 := x1 = 5) (fun c_1_5 => ?_) (fun c_1_5 => ?_)
  · refine j_tsw X (tgt := 93) dX5_count_1 (by rw [c_1_5]; decide) (by rw [c_1_5]; decide) (off := 92) (by rw [c_1_5]; decide) (by decide) ?_
    refine j_aload_n X (pc' := 94) 0 dX5_count_93 rfl rfl rfl ?_
    refine j_get X inX5 rfl (pc' := 97) 0 0 q_fl_X5_7 (by decide) rfl rfl dX5_count_94 rfl ?_
    refine j_bipush X (v := 8) (pc' := 99) dX5_count_97 (by decide) rfl ?_
    refine j_ialdN X (i := 8) (pc' := 100) 1 rfl (by omega) (by decide) dX5_count_99 rfl ?_
    exact j_iretP X rfl rfl dX5_count_100
  refine j_ite (P9 := x1 = 6) (fun c_1_6 => ?_) (fun c_1_6 => ?_)
  · refine j_tsw X (tgt := 101) dX5_count_1 (by rw [c_1_6]; decide) (by rw [c_1_6]; decide) (off := 100) (by rw [c_1_6]; decide) (by decide) ?_
    refine j_aload_n X (pc' := 102) 0 dX5_count_101 rfl rfl rfl ?_
    refine j_iconst X (v := 2) (pc' := 103) dX5_count_102 (by decide) rfl ?_
    refine j_callVi X (pc' := 106) (As := [.int 2]) (rest := []) (c_X5_sum l D cI cH cO h ar C 2 hIC (by first | omega | assumption | decide | (subst_vars; first | assumption | omega))) wv_X5_71 ⟨0, 5, _, _, rfl, rfl, rfl⟩ ⟨by decide, by decide, by decide, by decide⟩ rfl rfl (Nat.le_of_ble_eq_true rfl) dX5_count_103 rfl ?_
    refine j_topL (fun r_103 er_103 => ?_)
    exact j_iretP X rfl rfl dX5_count_106
  refine j_ite (P9 := x1 = 7) (fun c_1_7 => ?_) (fun c_1_7 => ?_)
  · refine j_tsw X (tgt := 107) dX5_count_1 (by rw [c_1_7]; decide) (by rw [c_1_7]; decide) (off := 106) (by rw [c_1_7]; decide) (by decide) ?_
    refine j_aload_n X (pc' := 108) 0 dX5_count_107 rfl rfl rfl ?_
    refine j_callVi X (pc' := 111) (As := []) (rest := []) (c_X5_outSet l D cI cH cO h ar C hIC) wv_X5_74 ⟨0, 5, _, _, rfl, rfl, rfl⟩ ⟨by decide, by decide, by decide, by decide⟩ rfl rfl (Nat.le_of_ble_eq_true rfl) dX5_count_108 rfl ?_
    refine j_topL (fun r_108 er_108 => ?_)
    exact j_iretP X rfl rfl dX5_count_111
  refine j_ite (P9 := x1 = 8) (fun c_1_8 => ?_) (fun c_1_8 => ?_)
  · refine j_tsw X (tgt := 112) dX5_count_1 (by rw [c_1_8]; decide) (by rw [c_1_8]; decide) (off := 111) (by rw [c_1_8]; decide) (by decide) ?_
    refine j_aload_n X (pc' := 113) 0 dX5_count_112 rfl rfl rfl ?_
    refine j_get X inX5 rfl (pc' := 116) 0 0 q_fl_X5_7 (by decide) rfl rfl dX5_count_113 rfl ?_
    refine j_bipush X (v := 9) (pc' := 118) dX5_count_116 (by decide) rfl ?_
    refine j_iload_n X (pc' := 119) 1 dX5_count_118 rfl rfl rfl ?_
    refine j_iadd X (pc' := 120) dX5_count_119 rfl ?_
    refine j_bipush X (v := 8) (pc' := 122) dX5_count_120 (by decide) rfl ?_
    refine j_isub X (pc' := 123) dX5_count_122 rfl ?_
    refine j_iald X (pc' := 124) 1 rfl (vp_in_iff.mpr (by first | (rw [c_1_8]; decide) | (rw [c_1_9]; decide) | (rw [c_1_10]; decide))) dX5_count_123 rfl ?_
    exact j_iretP X rfl rfl dX5_count_124
  refine j_ite (P9 := x1 = 9) (fun c_1_9 => ?_) (fun c_1_9 => ?_)
  · refine j_tsw X (tgt := 112) dX5_count_1 (by rw [c_1_9]; decide) (by rw [c_1_9]; decide) (off := 111) (by rw [c_1_9]; decide) (by decide) ?_
    refine j_aload_n X (pc' := 113) 0 dX5_count_112 rfl rfl rfl ?_
    refine j_get X inX5 rfl (pc' := 116) 0 0 q_fl_X5_7 (by decide) rfl rfl dX5_count_113 rfl ?_
    refine j_bipush X (v := 9) (pc' := 118) dX5_count_116 (by decide) rfl ?_
    refine j_iload_n X (pc' := 119) 1 dX5_count_118 rfl rfl rfl ?_
    refine j_iadd X (pc' := 120) dX5_count_119 rfl ?_
    refine j_bipush X (v := 8) (pc' := 122) dX5_count_120 (by decide) rfl ?_
    refine j_isub X (pc' := 123) dX5_count_122 rfl ?_
    refine j_iald X (pc' := 124) 1 rfl (vp_in_iff.mpr (by first | (rw [c_1_8]; decide) | (rw [c_1_9]; decide) | (rw [c_1_10]; decide))) dX5_count_123 rfl ?_
    exact j_iretP X rfl rfl dX5_count_124
  refine j_ite (P9 := x1 = 10) (fun c_1_10 => ?_) (fun c_1_10 => ?_)
  · refine j_tsw X (tgt := 112) dX5_count_1 (by rw [c_1_10]; decide) (by rw [c_1_10]; decide) (off := 111) (by rw [c_1_10]; decide) (by decide) ?_
    refine j_aload_n X (pc' := 113) 0 dX5_count_112 rfl rfl rfl ?_
    refine j_get X inX5 rfl (pc' := 116) 0 0 q_fl_X5_7 (by decide) rfl rfl dX5_count_113 rfl ?_
    refine j_bipush X (v := 9) (pc' := 118) dX5_count_116 (by decide) rfl ?_
    refine j_iload_n X (pc' := 119) 1 dX5_count_118 rfl rfl rfl ?_
    refine j_iadd X (pc' := 120) dX5_count_119 rfl ?_
    refine j_bipush X (v := 8) (pc' := 122) dX5_count_120 (by decide) rfl ?_
    refine j_isub X (pc' := 123) dX5_count_122 rfl ?_
    refine j_iald X (pc' := 124) 1 rfl (vp_in_iff.mpr (by first | (rw [c_1_8]; decide) | (rw [c_1_9]; decide) | (rw [c_1_10]; decide))) dX5_count_123 rfl ?_
    exact j_iretP X rfl rfl dX5_count_124
  refine j_ite (P9 := x1 = 11) (fun c_1_11 => ?_) (fun c_1_11 => ?_)
  · refine j_tsw X (tgt := 125) dX5_count_1 (by rw [c_1_11]; decide) (by rw [c_1_11]; decide) (off := 124) (by rw [c_1_11]; decide) (by decide) ?_
    refine j_aload_n X (pc' := 126) 0 dX5_count_125 rfl rfl rfl ?_
    refine j_get X inX5 rfl (pc' := 129) 0 3 q_fl_X5_35 (by decide) rfl rfl dX5_count_126 rfl ?_
    exact j_iretP X rfl rfl dX5_count_129
  refine j_ite (P9 := x1 = 12) (fun c_1_12 => ?_) (fun c_1_12 => ?_)
  · refine j_tsw X (tgt := 130) dX5_count_1 (by rw [c_1_12]; decide) (by rw [c_1_12]; decide) (off := 129) (by rw [c_1_12]; decide) (by decide) ?_
    refine j_aload_n X (pc' := 131) 0 dX5_count_130 rfl rfl rfl ?_
    refine j_get X inX5 rfl (pc' := 134) 0 6 q_fl_X5_89 (by decide) rfl rfl dX5_count_131 rfl ?_
    exact j_iretP X rfl rfl dX5_count_134
  refine j_tswD X (tgt := 135) dX5_count_1 (tsw_out13 c_1_0 c_1_1 c_1_2 c_1_3 c_1_4 c_1_5 c_1_6 c_1_7 c_1_8 c_1_9 c_1_10 c_1_11 c_1_12) (by decide) ?_
  refine j_iload_n X (pc' := 136) 1 dX5_count_135 rfl rfl rfl ?_
  refine j_bipush X (v := 20) (pc' := 138) dX5_count_136 (by decide) rfl ?_
  refine j_bipush X (v := 24) (pc' := 140) dX5_count_138 (by decide) rfl ?_
  refine j_callSiF X (pc' := 143) (As := [.int x1, .int 20, .int 24]) (rest := []) (ws' := (wM cI h ar C)) (wr := (wM cI h ar C)) [] [0, 1, 2, 3, 4, 5, 6, 7] [0, 1, 2, 3, 4, 5, 6, 7] rfl rfl ⟨by decide, by decide, by decide, by decide⟩ rfl (c_X5_in l D cI cH cO x1 20 24 ) ws_X5_53 ⟨by decide, by decide, by decide, by decide⟩ rfl rfl (Nat.le_of_ble_eq_true rfl) dX5_count_140 rfl ?_
  refine j_topL (fun r_140 er_140 => ?_)
  refine j_if_eq X (tgt := 158) (pc' := 146) dX5_count_143 (by decide) rfl (fun c_143 => ?_) (fun c_143 => ?_)
  · refine j_sipush X (v := (-10001)) (pc' := 161) dX5_count_158 (by decide) rfl ?_
    exact j_iretP X rfl rfl dX5_count_161
  · refine j_aload_n X (pc' := 147) 0 dX5_count_146 rfl rfl rfl ?_
    refine j_get X inX5 rfl (pc' := 150) 0 0 q_fl_X5_7 (by decide) rfl rfl dX5_count_147 rfl ?_
    refine j_iload_n X (pc' := 151) 1 dX5_count_150 rfl rfl rfl ?_
    refine j_bipush X (v := 20) (pc' := 153) dX5_count_151 (by decide) rfl ?_
    refine j_isub X (pc' := 154) dX5_count_153 rfl ?_
    refine j_iald X (pc' := 155) 1 rfl (by obtain ⟨j, h1, h2, e9⟩ := in_of2 (a := 20) (b := 24) er_140 c_143 (by decide) (by decide); rw [e9, show (20 : Int32) = nI 20 from rfl, nI_sub h1]; exact vp_in_nI (by omega) (by decide)) dX5_count_154 rfl ?_
    refine j_goto X (pc' := 161) dX5_count_155 (by decide) ?_
    exact j_iretP X rfl rfl dX5_count_161
theorem c_X5_count (l : Launch) (D : va_G) (cI cH cO : ClassId) (h : Nat) (ar : Nat → Nat) (C : Cst) (x1 : Int32) (hIC : IM C) : MI l yX5_count cX5_count 2 (some .int) 2 D (tyl cI cH cO) [.ref h, .int x1] ((wM cI h ar C)) (sX5_count C x1) ((wM cI h ar C)) := fun sz => j_start (fun below s => (KP below [.ref h, .int x1].toArray s D (tyl cI cH cO) ((wM cI h ar C)))) (sX5_count C x1) (by decide +kernel) rfl (Nat.le_of_ble_eq_true rfl) (fun below s hs _ => by subst hs; rfl) (fun p e s m below meth c hX9 X => b_X5_count h ar C x1 hIC X)
set_option maxHeartbeats 4000000 in
set_option maxRecDepth 100000 in
theorem b_X5_seasonOf {p : Program} {l : Launch} {e : Env} {s : State} {m : MethodId} {args : Array Value} {below : List Frame} {meth : Method} {c : Code} {D : va_G} {cI cH cO : ClassId} (h : Nat) (ar : Nat → Nat) (C : Cst) (x1 : Int32) (x2 : Int32) (hIC : IM C) (X : CX p s m args meth c cX5_seasonOf 3 RX5 (some .int) D (tyl cI cH cO) (va_A ((wM cI h ar C)) s.heap.size)) : J p l e (rml 1) s m args below meth c 3 D (va_A ((wM cI h ar C)) s.heap.size) 0 0 (KP below args s D (tyl cI cH cO) ((wM cI h ar C))) (sX5_seasonOf C x1 x2) ((wM cI h ar C)) 0 [(0, .ref h), (1, .int x1), (2, .int x2)] [] := by
  unfold sX5_seasonOf
  refine j_ltv (fun K34 eK34 => ?_)
  have hK34 : ∀ (i1 : Nat) (i2 : Nat) (hi1 : i1 < 6) (hi2 : i2 < 5), J p l e (rml 1) s m args below meth c 3 D (va_A ((wM cI h ar C)) s.heap.size) 0 0 (KP below args s D (tyl cI cH cO) ((wM cI h ar C))) (K34 i1 i2) ((wM cI h ar C)) 34 [(0, .ref h), (1, .int (nI i1)), (2, .int (nI i2))] [] := by
    intro i1 i2 hi1 hi2
    rw [eK34]
    refine j_aload_n X (pc' := 35) 0 dX5_seasonOf_34 rfl rfl rfl ?_
    refine j_get X inX5 rfl (pc' := 38) 0 0 q_fl_X5_7 (by decide) rfl rfl dX5_seasonOf_35 rfl ?_
    refine j_bipush X (v := 77) (pc' := 40) dX5_seasonOf_38 (by decide) rfl ?_
    refine j_iconst X (v := 5) (pc' := 41) dX5_seasonOf_40 (by decide) rfl ?_
    refine j_iload_n X (pc' := 42) 1 dX5_seasonOf_41 rfl rfl rfl ?_
    refine j_imulN X (a := 5) (b := i1) (pc' := 43) dX5_seasonOf_42 rfl ?_
    refine j_iaddN X (a := 77) (b := (5 * i1)) (pc' := 44) dX5_seasonOf_43 rfl ?_
    refine j_iload_n X (pc' := 45) 2 dX5_seasonOf_44 rfl rfl rfl ?_
    refine j_iaddN X (a := (77 + (5 * i1))) (b := i2) (pc' := 46) dX5_seasonOf_45 rfl ?_
    refine j_ialdN X (i := ((77 + (5 * i1)) + i2)) (pc' := 47) 1 rfl (by omega) (by decide) dX5_seasonOf_46 rfl ?_
    exact j_iretP X rfl rfl dX5_seasonOf_47
  refine j_iload_n X (pc' := 1) 1 dX5_seasonOf_0 rfl rfl rfl ?_
  refine j_if_lt X (tgt := 13) (pc' := 4) dX5_seasonOf_1 (by decide) rfl (fun c_1 => ?_) (fun c_1 => ?_)
  · refine j_sipush X (v := (-10001)) (pc' := 16) dX5_seasonOf_13 (by decide) rfl ?_
    exact j_iretP X rfl rfl dX5_seasonOf_16
  · refine j_iload_n X (pc' := 5) 2 dX5_seasonOf_4 rfl rfl rfl ?_
    refine j_iconst X (v := 0) (pc' := 6) dX5_seasonOf_5 (by decide) rfl ?_
    refine j_iconst X (v := 4) (pc' := 7) dX5_seasonOf_6 (by decide) rfl ?_
    refine j_callSiF X (pc' := 10) (As := [.int x2, .int 0, .int 4]) (rest := []) (ws' := (wM cI h ar C)) (wr := (wM cI h ar C)) [] [0, 1, 2, 3, 4, 5, 6, 7] [0, 1, 2, 3, 4, 5, 6, 7] rfl rfl ⟨by decide, by decide, by decide, by decide⟩ rfl (c_X5_in l D cI cH cO x2 0 4 ) ws_X5_53 ⟨by decide, by decide, by decide, by decide⟩ rfl rfl (Nat.le_of_ble_eq_true rfl) dX5_seasonOf_7 rfl ?_
    refine j_topL (fun r_7 er_7 => ?_)
    refine j_if_ne X (tgt := 17) (pc' := 13) dX5_seasonOf_10 (by decide) rfl (fun c_10 => ?_) (fun c_10 => ?_)
    · refine j_iload_n X (pc' := 18) 1 dX5_seasonOf_17 rfl rfl rfl ?_
      refine j_aload_n X (pc' := 19) 0 dX5_seasonOf_18 rfl rfl rfl ?_
      refine j_get X inX5 rfl (pc' := 22) 0 0 q_fl_X5_7 (by decide) rfl rfl dX5_seasonOf_19 rfl ?_
      refine j_bipush X (v := 12) (pc' := 24) dX5_seasonOf_22 (by decide) rfl ?_
      refine j_ialdN X (i := 12) (pc' := 25) 1 rfl (by omega) (by decide) dX5_seasonOf_24 rfl ?_
      refine j_icmp_lt X (tgt := 34) (pc' := 28) dX5_seasonOf_25 (by decide) rfl (fun c_25 => ?_) (fun c_25 => ?_)
      · obtain ⟨j_25, hj_25, ej_25⟩ : ∃ j : Nat, j < 6 ∧ x1 = nI j := so_in c_1 c_25 hIC.2.2.2.2.2.1
        subst ej_25
        rw [nI_clamp (show j_25 < 2 ^ 31 by omega)]
        obtain ⟨j_25, hj_25, ej_25⟩ : ∃ j : Nat, j < 5 ∧ x2 = nI j := in_of (N := 4) er_7 c_10 (by decide)
        subst ej_25
        rw [nI_clamp (show j_25 < 2 ^ 31 by omega)]
        refine j_lv [0, 1, 2] (lv' := _) rfl ?_
        exact hK34 _ _ (by first | omega | assumption | decide | (subst_vars; first | assumption | omega)) (by first | omega | assumption | decide | (subst_vars; first | assumption | omega))
      · refine j_sipush X (v := (-10004)) (pc' := 31) dX5_seasonOf_28 (by decide) rfl ?_
        refine j_goto X (pc' := 47) dX5_seasonOf_31 (by decide) ?_
        exact j_iretP X rfl rfl dX5_seasonOf_47
    · refine j_sipush X (v := (-10001)) (pc' := 16) dX5_seasonOf_13 (by decide) rfl ?_
      exact j_iretP X rfl rfl dX5_seasonOf_16
theorem c_X5_seasonOf (l : Launch) (D : va_G) (cI cH cO : ClassId) (h : Nat) (ar : Nat → Nat) (C : Cst) (x1 : Int32) (x2 : Int32) (hIC : IM C) : MI l yX5_seasonOf cX5_seasonOf 3 (some .int) 1 D (tyl cI cH cO) [.ref h, .int x1, .int x2] ((wM cI h ar C)) (sX5_seasonOf C x1 x2) ((wM cI h ar C)) := fun sz => j_start (fun below s => (KP below [.ref h, .int x1, .int x2].toArray s D (tyl cI cH cO) ((wM cI h ar C)))) (sX5_seasonOf C x1 x2) (by decide +kernel) rfl (Nat.le_of_ble_eq_true rfl) (fun below s hs _ => by subst hs; rfl) (fun p e s m below meth c hX9 X => b_X5_seasonOf h ar C x1 x2 hIC X)
set_option maxHeartbeats 4000000 in
set_option maxRecDepth 100000 in
theorem b_X5_canRepair {p : Program} {l : Launch} {e : Env} {s : State} {m : MethodId} {args : Array Value} {below : List Frame} {meth : Method} {c : Code} {D : va_G} {cI cH cO : ClassId} (h : Nat) (ar : Nat → Nat) (C : Cst) (hIC : IM C) (X : CX p s m args meth c cX5_canRepair 2 RX5 (some .int) D (tyl cI cH cO) (va_A ((wM cI h ar C)) s.heap.size)) : J p l e (rml 0) s m args below meth c 2 D (va_A ((wM cI h ar C)) s.heap.size) 0 0 (KP below args s D (tyl cI cH cO) ((wM cI h ar C))) (sX5_canRepair C) ((wM cI h ar C)) 0 [(0, .ref h)] [] := by
  unfold sX5_canRepair
  refine j_aload_n X (pc' := 1) 0 dX5_canRepair_0 rfl rfl rfl ?_
  refine j_get X inX5 rfl (pc' := 4) 0 0 q_fl_X5_7 (by decide) rfl rfl dX5_canRepair_1 rfl ?_
  refine j_bipush X (v := 8) (pc' := 6) dX5_canRepair_4 (by decide) rfl ?_
  refine j_ialdN X (i := 8) (pc' := 7) 1 rfl (by omega) (by decide) dX5_canRepair_6 rfl ?_
  refine j_aload_n X (pc' := 8) 0 dX5_canRepair_7 rfl rfl rfl ?_
  refine j_get X inX5 rfl (pc' := 11) 0 0 q_fl_X5_7 (by decide) rfl rfl dX5_canRepair_8 rfl ?_
  refine j_iconst X (v := 4) (pc' := 12) dX5_canRepair_11 (by decide) rfl ?_
  refine j_ialdN X (i := 4) (pc' := 13) 1 rfl (by omega) (by decide) dX5_canRepair_12 rfl ?_
  refine j_idiv X (pc' := 14) dX5_canRepair_13 hIC.2.2.2.1 rfl ?_
  refine j_istore_nL X (fun v1_14 => [(0, .ref h), (1, .int v1_14)]) [1, 0] (pc' := 15) dX5_canRepair_14 rfl (by decide) (fun _ => rfl) rfl (fun v1_14 ev1_14 => ?_)
  refine j_iload_n X (pc' := 16) 1 dX5_canRepair_15 rfl rfl rfl ?_
  refine j_bipush X (v := 100) (pc' := 18) dX5_canRepair_16 (by decide) rfl ?_
  refine j_aload_n X (pc' := 19) 0 dX5_canRepair_18 rfl rfl rfl ?_
  refine j_get X inX5 rfl (pc' := 22) 0 0 q_fl_X5_7 (by decide) rfl rfl dX5_canRepair_19 rfl ?_
  refine j_bipush X (v := 7) (pc' := 24) dX5_canRepair_22 (by decide) rfl ?_
  refine j_ialdN X (i := 7) (pc' := 25) 1 rfl (by omega) (by decide) dX5_canRepair_24 rfl ?_
  refine j_isub X (pc' := 26) dX5_canRepair_25 rfl ?_
  refine j_icmp_le X (tgt := 42) (pc' := 29) dX5_canRepair_26 (by decide) rfl (fun c_26 => ?_) (fun c_26 => ?_)
  · refine j_iload_n X (pc' := 43) 1 dX5_canRepair_42 rfl rfl rfl ?_
    exact j_iretP X rfl rfl dX5_canRepair_43
  · refine j_bipush X (v := 100) (pc' := 31) dX5_canRepair_29 (by decide) rfl ?_
    refine j_aload_n X (pc' := 32) 0 dX5_canRepair_31 rfl rfl rfl ?_
    refine j_get X inX5 rfl (pc' := 35) 0 0 q_fl_X5_7 (by decide) rfl rfl dX5_canRepair_32 rfl ?_
    refine j_bipush X (v := 7) (pc' := 37) dX5_canRepair_35 (by decide) rfl ?_
    refine j_ialdN X (i := 7) (pc' := 38) 1 rfl (by omega) (by decide) dX5_canRepair_37 rfl ?_
    refine j_isub X (pc' := 39) dX5_canRepair_38 rfl ?_
    refine j_goto X (pc' := 43) dX5_canRepair_39 (by decide) ?_
    exact j_iretP X rfl rfl dX5_canRepair_43
theorem c_X5_canRepair (l : Launch) (D : va_G) (cI cH cO : ClassId) (h : Nat) (ar : Nat → Nat) (C : Cst) (hIC : IM C) : MI l yX5_canRepair cX5_canRepair 2 (some .int) 0 D (tyl cI cH cO) [.ref h] ((wM cI h ar C)) (sX5_canRepair C) ((wM cI h ar C)) := fun sz => j_start (fun below s => (KP below [.ref h].toArray s D (tyl cI cH cO) ((wM cI h ar C)))) (sX5_canRepair C) (by decide +kernel) rfl (Nat.le_of_ble_eq_true rfl) (fun below s hs _ => by subst hs; rfl) (fun p e s m below meth c hX9 X => b_X5_canRepair h ar C hIC X)
