set_option maxHeartbeats 4000000 in
set_option maxRecDepth 100000 in
theorem b_X5_isAt {p : Program} {l : Launch} {e : Env} {s : State} {m : MethodId} {args : Array Value} {below : List Frame} {meth : Method} {c : Code} {D : va_G} {cI cH cO : ClassId} (h : Nat) (ar : Nat → Nat) (C : Cst) (x1 : Int32) (x2 : Int32) (hIC : IM C) (hsp : 0 ≤ (C 8 0).toInt) (X : CX p s m args meth c cX5_isAt 3 RX5 (some .boolean) D (tyl cI cH cO) (va_A ((wM cI h ar C)) s.heap.size)) : J p l e (rml 1) s m args below meth c 3 D (va_A ((wM cI h ar C)) s.heap.size) 0 0 (KP below args s D (tyl cI cH cO) ((wM cI h ar C))) (sX5_isAt C x1 x2) ((wM cI h ar C)) 0 [(0, .ref h), (1, .int x1), (2, .int x2)] [] := by
  unfold sX5_isAt
  refine j_aload_n X (pc' := 1) 0 dX5_isAt_0 rfl rfl rfl ?_
  refine j_get X inX5 rfl (pc' := 4) 0 8 q_fl_X5_106 (by decide) rfl rfl dX5_isAt_1 rfl ?_
  refine j_aload_n X (pc' := 5) 0 dX5_isAt_4 rfl rfl rfl ?_
  refine j_get X inX5 rfl (pc' := 8) 0 6 q_fl_X5_89 (by decide) rfl rfl dX5_isAt_5 rfl ?_
  refine j_icmp_ge X (tgt := 32) (pc' := 11) dX5_isAt_8 (by decide) rfl (fun c_8 => ?_) (fun c_8 => ?_)
  · refine j_iconst X (v := 0) (pc' := 33) dX5_isAt_32 (by decide) rfl ?_
    exact j_zretP X rfl rfl rfl dX5_isAt_33
  · refine j_aload_n X (pc' := 12) 0 dX5_isAt_11 rfl rfl rfl ?_
    refine j_get X inX5 rfl (pc' := 15) 0 5 q_fl_X5_19 (by decide) rfl rfl dX5_isAt_12 rfl ?_
    refine j_aload_n X (pc' := 16) 0 dX5_isAt_15 rfl rfl rfl ?_
    refine j_get X inX5 rfl (pc' := 19) 0 8 q_fl_X5_106 (by decide) rfl rfl dX5_isAt_16 rfl ?_
    refine j_iald X (pc' := 20) 4 rfl (at_in hsp hIC.2.2.2.2.2.2.2.2.2 c_8) dX5_isAt_19 rfl ?_
    refine j_iload_n X (pc' := 21) 1 dX5_isAt_20 rfl rfl rfl ?_
    refine j_iload_n X (pc' := 22) 2 dX5_isAt_21 rfl rfl rfl ?_
    refine j_callSiF X (pc' := 25) (As := [.int (C 5 (C 8 0).toNatClampNeg), .int x1, .int x2]) (rest := []) (ws' := (wM cI h ar C)) (wr := (wM cI h ar C)) [] [0, 1, 2, 3, 4, 5, 6, 7] [0, 1, 2, 3, 4, 5, 6, 7] rfl rfl ⟨by decide, by decide, by decide, by decide⟩ rfl (c_X5_in l D cI cH cO (C 5 (C 8 0).toNatClampNeg) x1 x2 ) ws_X5_53 ⟨by decide, by decide, by decide, by decide⟩ rfl rfl (Nat.le_of_ble_eq_true rfl) dX5_isAt_22 rfl ?_
    refine j_topL (fun r_22 er_22 => ?_)
    refine j_if_eq X (tgt := 32) (pc' := 28) dX5_isAt_25 (by decide) rfl (fun c_25 => ?_) (fun c_25 => ?_)
    · refine j_iconst X (v := 0) (pc' := 33) dX5_isAt_32 (by decide) rfl ?_
      exact j_zretP X rfl rfl rfl dX5_isAt_33
    · refine j_iconst X (v := 1) (pc' := 29) dX5_isAt_28 (by decide) rfl ?_
      refine j_goto X (pc' := 33) dX5_isAt_29 (by decide) ?_
      exact j_zretP X rfl rfl rfl dX5_isAt_33
theorem c_X5_isAt (l : Launch) (D : va_G) (cI cH cO : ClassId) (h : Nat) (ar : Nat → Nat) (C : Cst) (x1 : Int32) (x2 : Int32) (hIC : IM C) (hsp : 0 ≤ (C 8 0).toInt) : MI l yX5_isAt cX5_isAt 3 (some .boolean) 1 D (tyl cI cH cO) [.ref h, .int x1, .int x2] ((wM cI h ar C)) (sX5_isAt C x1 x2) ((wM cI h ar C)) := fun sz => j_start (fun below s => (KP below [.ref h, .int x1, .int x2].toArray s D (tyl cI cH cO) ((wM cI h ar C)))) (sX5_isAt C x1 x2) (by decide +kernel) rfl (Nat.le_of_ble_eq_true rfl) (fun below s hs _ => by subst hs; rfl) (fun p e s m below meth c hX9 X => b_X5_isAt h ar C x1 x2 hIC hsp X)
