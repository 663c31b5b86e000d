set_option maxHeartbeats 4000000 in
set_option maxRecDepth 100000 in
theorem b_X5_in {p : Program} {l : Launch} {e : Env} {s : State} {m : MethodId} {args : Array Value} {below : List Frame} {meth : Method} {c : Code} {D : va_G} {cI cH cO : ClassId} (x0 : Int32) (x1 : Int32) (x2 : Int32)  (X : CX p s m args meth c cX5_in 3 RX5 (some .boolean) D (tyl cI cH cO) (va_A ([]) s.heap.size)) : J p l e (rml 0) s m args below meth c 3 D (va_A ([]) s.heap.size) 0 0 (KP below args s D (tyl cI cH cO) ([])) (sX5_in x0 x1 x2) ([]) 0 [(0, .int x0), (1, .int x1), (2, .int x2)] [] := by
  unfold sX5_in
  refine j_iload_n X (pc' := 1) 0 dX5_in_0 rfl rfl rfl ?_
  refine j_iload_n X (pc' := 2) 1 dX5_in_1 rfl rfl rfl ?_
  refine j_icmp_lt X (tgt := 14) (pc' := 5) dX5_in_2 (by decide) rfl (fun c_2 => ?_) (fun c_2 => ?_)
  · refine j_iconst X (v := 0) (pc' := 15) dX5_in_14 (by decide) rfl ?_
    exact j_zretP X rfl rfl rfl dX5_in_15
  · refine j_iload_n X (pc' := 6) 0 dX5_in_5 rfl rfl rfl ?_
    refine j_iload_n X (pc' := 7) 2 dX5_in_6 rfl rfl rfl ?_
    refine j_icmp_gt X (tgt := 14) (pc' := 10) dX5_in_7 (by decide) rfl (fun c_7 => ?_) (fun c_7 => ?_)
    · refine j_iconst X (v := 0) (pc' := 15) dX5_in_14 (by decide) rfl ?_
      exact j_zretP X rfl rfl rfl dX5_in_15
    · refine j_iconst X (v := 1) (pc' := 11) dX5_in_10 (by decide) rfl ?_
      refine j_goto X (pc' := 15) dX5_in_11 (by decide) ?_
      exact j_zretP X rfl rfl rfl dX5_in_15
theorem c_X5_in (l : Launch) (D : va_G) (cI cH cO : ClassId) (x0 : Int32) (x1 : Int32) (x2 : Int32)  : MI l yX5_in cX5_in 3 (some .boolean) 0 D (tyl cI cH cO) [.int x0, .int x1, .int x2] ([]) (sX5_in x0 x1 x2) ([]) := fun sz => j_start (fun below s => (KP below [.int x0, .int x1, .int x2].toArray s D (tyl cI cH cO) ([]))) (sX5_in x0 x1 x2) (by decide +kernel) rfl (Nat.le_of_ble_eq_true rfl) (fun below s hs _ => by subst hs; rfl) (fun p e s m below meth c hX9 X => b_X5_in x0 x1 x2  X)
set_option maxHeartbeats 4000000 in
set_option maxRecDepth 100000 in
theorem b_X5_copies_0_2 {p : Program} {l : Launch} {e : Env} {s : State} {m : MethodId} {args : Array Value} {below : List Frame} {meth : Method} {c : Code} {D : va_G} {cI cH cO : ClassId} {ws0 : va_W} (h : Nat) (ar : Nat → Nat) (C : Cst)  (X : CX p s m args meth c cX5_copies 3 RX5 none D (tyl cI cH cO) (va_A ws0 s.heap.size)) : J p l e (rml 0) s m args below meth c 3 D (va_A ws0 s.heap.size) 0 0 (KV below args s D (tyl cI cH cO) ws0 (fun C9 => (wM cI h ar C9))) (sX5_copies_0_2 C) ((wM cI h ar C)) 0 [(0, .ref (ar 0)), (1, .ref (ar 2))] [] := by
  unfold sX5_copies_0_2
  refine j_ltl2 (fun L2 eL2 => ?_)
  have hL2 : ∀ (n2 : Nat) (C : Cst) (i2 : Nat) (hi : i2 ≤ 107) (hfu : 108 ≤ i2 + n2), J p l e (rml 0) s m args below meth c 3 D (va_A ws0 s.heap.size) 0 0 (KV below args s D (tyl cI cH cO) ws0 (fun C9 => (wM cI h ar C9))) (L2 n2 C i2) ((wM cI h ar C)) 2 [(0, .ref (ar 0)), (1, .ref (ar 2)), (2, .int (nI i2))] [] := by
    intro n2
    induction n2 with
    | zero =>
      intro C i2 hi hfu
      exact absurd hfu (by omega)
    | succ n2 ih2 =>
      intro C i2 hi hfu
      rw [eL2]
      refine j_iload_n X (pc' := 3) 2 dX5_copies_2 rfl rfl rfl ?_
      refine j_bipush X (v := 107) (pc' := 5) dX5_copies_3 (by decide) rfl ?_
      refine j_icmp_ge X (tgt := 20) (pc' := 8) dX5_copies_5 (by decide) rfl (fun c_5 => ?_) (fun c_5 => ?_)
      · have f_5 : 107 ≤ i2 := (nI_leI (a := 107) (b := i2) (by omega) (by omega)).mp c_5
        exact j_vret X rfl dX5_copies_20
      · have f_5 : ¬ (107 ≤ i2) := fun h => c_5 ((nI_leI (a := 107) (b := i2) (by omega) (by omega)).mpr h)
        refine j_aload_n X (pc' := 9) 1 dX5_copies_8 rfl rfl rfl ?_
        refine j_iload_n X (pc' := 10) 2 dX5_copies_9 rfl rfl rfl ?_
        refine j_aload_n X (pc' := 11) 0 dX5_copies_10 rfl rfl rfl ?_
        refine j_iload_n X (pc' := 12) 2 dX5_copies_11 rfl rfl rfl ?_
        refine j_ialdN X (i := i2) (pc' := 13) 1 rfl (by omega) (by decide) dX5_copies_12 rfl ?_
        refine j_iastN X (i := i2) (pc' := 14) (S := up C 2 i2 (C 0 i2)) (fun S_13 => (wM cI h ar S_13)) 3 rfl rfl (by omega) (by decide) dX5_copies_13 rfl (fun S_13 eS_13 => ?_)
        refine j_iinc X (v := (nI (i2 + 1))) (lv' := [(0, .ref (ar 0)), (1, .ref (ar 2)), (2, .int (nI (i2 + 1)))]) (q := 2) (pc' := 17) [1, 2, 0] dX5_copies_14 rfl (nI_1 i2) (by decide) rfl rfl ?_
        refine j_goto X (pc' := 2) dX5_copies_17 (by decide) ?_
        refine j_lv [0, 1, 2] (lv' := [(0, .ref (ar 0)), (1, .ref (ar 2)), (2, .int (nI (i2 + 1)))]) rfl ?_
        exact ih2 _ _ (by first | omega | assumption | decide | (subst_vars; first | assumption | omega)) (by first | omega | assumption | decide | (subst_vars; first | assumption | omega))
  refine j_iconst X (v := 0) (pc' := 1) dX5_copies_0 (by decide) rfl ?_
  refine j_istore_n X (lv' := [(0, .ref (ar 0)), (1, .ref (ar 2)), (2, .int 0)]) (pc' := 2) [1, 2, 0] dX5_copies_1 rfl (by decide) rfl rfl ?_
  refine j_lv [0, 1, 2] (lv' := [(0, .ref (ar 0)), (1, .ref (ar 2)), (2, .int 0)]) rfl ?_
  exact hL2 _ _ _ (by first | omega | assumption | decide | (subst_vars; first | assumption | omega)) (by first | omega | assumption | decide | (subst_vars; first | assumption | omega))
theorem c_X5_copies_0_2 (l : Launch) (D : va_G) (cI cH cO : ClassId) (h : Nat) (ar : Nat → Nat) (C : Cst)  : MV l yX5_copies cX5_copies 3 0 D (tyl cI cH cO) [.ref (ar 0), .ref (ar 2)] ((wM cI h ar C)) ((wM cI h ar (sX5_copies_0_2 C))) := fun sz => j_start (fun below s => (KV below [.ref (ar 0), .ref (ar 2)].toArray s D (tyl cI cH cO) ((wM cI h ar C)) (fun C9 => (wM cI h ar C9)))) (sX5_copies_0_2 C) (by decide +kernel) rfl (Nat.le_of_ble_eq_true rfl) (fun below s hs _ => by subst hs; rfl) (fun p e s m below meth c hX9 X => b_X5_copies_0_2 h ar C  X)
set_option maxHeartbeats 4000000 in
set_option maxRecDepth 100000 in
theorem b_X5_copies_2_0 {p : Program} {l : Launch} {e : Env} {s : State} {m : MethodId} {args : Array Value} {below : List Frame} {meth : Method} {c : Code} {D : va_G} {cI cH cO : ClassId} {ws0 : va_W} (h : Nat) (ar : Nat → Nat) (C : Cst)  (X : CX p s m args meth c cX5_copies 3 RX5 none D (tyl cI cH cO) (va_A ws0 s.heap.size)) : J p l e (rml 0) s m args below meth c 3 D (va_A ws0 s.heap.size) 0 0 (KV below args s D (tyl cI cH cO) ws0 (fun C9 => (wM cI h ar C9))) (sX5_copies_2_0 C) ((wM cI h ar C)) 0 [(0, .ref (ar 2)), (1, .ref (ar 0))] [] := by
  unfold sX5_copies_2_0
  refine j_ltl2 (fun L2 eL2 => ?_)
  have hL2 : ∀ (n2 : Nat) (C : Cst) (i2 : Nat) (hi : i2 ≤ 107) (hfu : 108 ≤ i2 + n2), J p l e (rml 0) s m args below meth c 3 D (va_A ws0 s.heap.size) 0 0 (KV below args s D (tyl cI cH cO) ws0 (fun C9 => (wM cI h ar C9))) (L2 n2 C i2) ((wM cI h ar C)) 2 [(0, .ref (ar 2)), (1, .ref (ar 0)), (2, .int (nI i2))] [] := by
    intro n2
    induction n2 with
    | zero =>
      intro C i2 hi hfu
      exact absurd hfu (by omega)
    | succ n2 ih2 =>
      intro C i2 hi hfu
      rw [eL2]
      refine j_iload_n X (pc' := 3) 2 dX5_copies_2 rfl rfl rfl ?_
      refine j_bipush X (v := 107) (pc' := 5) dX5_copies_3 (by decide) rfl ?_
      refine j_icmp_ge X (tgt := 20) (pc' := 8) dX5_copies_5 (by decide) rfl (fun c_5 => ?_) (fun c_5 => ?_)
      · have f_5 : 107 ≤ i2 := (nI_leI (a := 107) (b := i2) (by omega) (by omega)).mp c_5
        exact j_vret X rfl dX5_copies_20
      · have f_5 : ¬ (107 ≤ i2) := fun h => c_5 ((nI_leI (a := 107) (b := i2) (by omega) (by omega)).mpr h)
        refine j_aload_n X (pc' := 9) 1 dX5_copies_8 rfl rfl rfl ?_
        refine j_iload_n X (pc' := 10) 2 dX5_copies_9 rfl rfl rfl ?_
        refine j_aload_n X (pc' := 11) 0 dX5_copies_10 rfl rfl rfl ?_
        refine j_iload_n X (pc' := 12) 2 dX5_copies_11 rfl rfl rfl ?_
        refine j_ialdN X (i := i2) (pc' := 13) 3 rfl (by omega) (by decide) dX5_copies_12 rfl ?_
        refine j_iastN X (i := i2) (pc' := 14) (S := up C 0 i2 (C 2 i2)) (fun S_13 => (wM cI h ar S_13)) 1 rfl rfl (by omega) (by decide) dX5_copies_13 rfl (fun S_13 eS_13 => ?_)
        refine j_iinc X (v := (nI (i2 + 1))) (lv' := [(0, .ref (ar 2)), (1, .ref (ar 0)), (2, .int (nI (i2 + 1)))]) (q := 2) (pc' := 17) [1, 2, 0] dX5_copies_14 rfl (nI_1 i2) (by decide) rfl rfl ?_
        refine j_goto X (pc' := 2) dX5_copies_17 (by decide) ?_
        refine j_lv [0, 1, 2] (lv' := [(0, .ref (ar 2)), (1, .ref (ar 0)), (2, .int (nI (i2 + 1)))]) rfl ?_
        exact ih2 _ _ (by first | omega | assumption | decide | (subst_vars; first | assumption | omega)) (by first | omega | assumption | decide | (subst_vars; first | assumption | omega))
  refine j_iconst X (v := 0) (pc' := 1) dX5_copies_0 (by decide) rfl ?_
  refine j_istore_n X (lv' := [(0, .ref (ar 2)), (1, .ref (ar 0)), (2, .int 0)]) (pc' := 2) [1, 2, 0] dX5_copies_1 rfl (by decide) rfl rfl ?_
  refine j_lv [0, 1, 2] (lv' := [(0, .ref (ar 2)), (1, .ref (ar 0)), (2, .int 0)]) rfl ?_
  exact hL2 _ _ _ (by first | omega | assumption | decide | (subst_vars; first | assumption | omega)) (by first | omega | assumption | decide | (subst_vars; first | assumption | omega))
theorem c_X5_copies_2_0 (l : Launch) (D : va_G) (cI cH cO : ClassId) (h : Nat) (ar : Nat → Nat) (C : Cst)  : MV l yX5_copies cX5_copies 3 0 D (tyl cI cH cO) [.ref (ar 2), .ref (ar 0)] ((wM cI h ar C)) ((wM cI h ar (sX5_copies_2_0 C))) := fun sz => j_start (fun below s => (KV below [.ref (ar 2), .ref (ar 0)].toArray s D (tyl cI cH cO) ((wM cI h ar C)) (fun C9 => (wM cI h ar C9)))) (sX5_copies_2_0 C) (by decide +kernel) rfl (Nat.le_of_ble_eq_true rfl) (fun below s hs _ => by subst hs; rfl) (fun p e s m below meth c hX9 X => b_X5_copies_2_0 h ar C  X)
set_option maxHeartbeats 4000000 in
set_option maxRecDepth 100000 in
theorem b_X5_copies_0_12 {p : Program} {l : Launch} {e : Env} {s : State} {m : MethodId} {args : Array Value} {below : List Frame} {meth : Method} {c : Code} {D : va_G} {cI cH cO : ClassId} {ws0 : va_W} (h : Nat) (ar : Nat → Nat) (C : Cst)  (X : CX p s m args meth c cX5_copies 3 RX5 none D (tyl cI cH cO) (va_A ws0 s.heap.size)) : J p l e (rml 0) s m args below meth c 3 D (va_A ws0 s.heap.size) 0 0 (KV below args s D (tyl cI cH cO) ws0 (fun C9 => (wM cI h ar C9))) (sX5_copies_0_12 C) ((wM cI h ar C)) 0 [(0, .ref (ar 0)), (1, .ref (ar 12))] [] := by
  unfold sX5_copies_0_12
  refine j_ltl2 (fun L2 eL2 => ?_)
  have hL2 : ∀ (n2 : Nat) (C : Cst) (i2 : Nat) (hi : i2 ≤ 107) (hfu : 108 ≤ i2 + n2), J p l e (rml 0) s m args below meth c 3 D (va_A ws0 s.heap.size) 0 0 (KV below args s D (tyl cI cH cO) ws0 (fun C9 => (wM cI h ar C9))) (L2 n2 C i2) ((wM cI h ar C)) 2 [(0, .ref (ar 0)), (1, .ref (ar 12)), (2, .int (nI i2))] [] := by
    intro n2
    induction n2 with
    | zero =>
      intro C i2 hi hfu
      exact absurd hfu (by omega)
    | succ n2 ih2 =>
      intro C i2 hi hfu
      rw [eL2]
      refine j_iload_n X (pc' := 3) 2 dX5_copies_2 rfl rfl rfl ?_
      refine j_bipush X (v := 107) (pc' := 5) dX5_copies_3 (by decide) rfl ?_
      refine j_icmp_ge X (tgt := 20) (pc' := 8) dX5_copies_5 (by decide) rfl (fun c_5 => ?_) (fun c_5 => ?_)
      · have f_5 : 107 ≤ i2 := (nI_leI (a := 107) (b := i2) (by omega) (by omega)).mp c_5
        exact j_vret X rfl dX5_copies_20
      · have f_5 : ¬ (107 ≤ i2) := fun h => c_5 ((nI_leI (a := 107) (b := i2) (by omega) (by omega)).mpr h)
        refine j_aload_n X (pc' := 9) 1 dX5_copies_8 rfl rfl rfl ?_
        refine j_iload_n X (pc' := 10) 2 dX5_copies_9 rfl rfl rfl ?_
        refine j_aload_n X (pc' := 11) 0 dX5_copies_10 rfl rfl rfl ?_
        refine j_iload_n X (pc' := 12) 2 dX5_copies_11 rfl rfl rfl ?_
        refine j_ialdN X (i := i2) (pc' := 13) 1 rfl (by omega) (by decide) dX5_copies_12 rfl ?_
        refine j_iastN X (i := i2) (pc' := 14) (S := up C 12 i2 (C 0 i2)) (fun S_13 => (wM cI h ar S_13)) 7 rfl rfl (by omega) (by decide) dX5_copies_13 rfl (fun S_13 eS_13 => ?_)
        refine j_iinc X (v := (nI (i2 + 1))) (lv' := [(0, .ref (ar 0)), (1, .ref (ar 12)), (2, .int (nI (i2 + 1)))]) (q := 2) (pc' := 17) [1, 2, 0] dX5_copies_14 rfl (nI_1 i2) (by decide) rfl rfl ?_
        refine j_goto X (pc' := 2) dX5_copies_17 (by decide) ?_
        refine j_lv [0, 1, 2] (lv' := [(0, .ref (ar 0)), (1, .ref (ar 12)), (2, .int (nI (i2 + 1)))]) rfl ?_
        exact ih2 _ _ (by first | omega | assumption | decide | (subst_vars; first | assumption | omega)) (by first | omega | assumption | decide | (subst_vars; first | assumption | omega))
  refine j_iconst X (v := 0) (pc' := 1) dX5_copies_0 (by decide) rfl ?_
  refine j_istore_n X (lv' := [(0, .ref (ar 0)), (1, .ref (ar 12)), (2, .int 0)]) (pc' := 2) [1, 2, 0] dX5_copies_1 rfl (by decide) rfl rfl ?_
  refine j_lv [0, 1, 2] (lv' := [(0, .ref (ar 0)), (1, .ref (ar 12)), (2, .int 0)]) rfl ?_
  exact hL2 _ _ _ (by first | omega | assumption | decide | (subst_vars; first | assumption | omega)) (by first | omega | assumption | decide | (subst_vars; first | assumption | omega))
theorem c_X5_copies_0_12 (l : Launch) (D : va_G) (cI cH cO : ClassId) (h : Nat) (ar : Nat → Nat) (C : Cst)  : MV l yX5_copies cX5_copies 3 0 D (tyl cI cH cO) [.ref (ar 0), .ref (ar 12)] ((wM cI h ar C)) ((wM cI h ar (sX5_copies_0_12 C))) := fun sz => j_start (fun below s => (KV below [.ref (ar 0), .ref (ar 12)].toArray s D (tyl cI cH cO) ((wM cI h ar C)) (fun C9 => (wM cI h ar C9)))) (sX5_copies_0_12 C) (by decide +kernel) rfl (Nat.le_of_ble_eq_true rfl) (fun below s hs _ => by subst hs; rfl) (fun p e s m below meth c hX9 X => b_X5_copies_0_12 h ar C  X)
set_option maxHeartbeats 4000000 in
set_option maxRecDepth 100000 in
theorem b_X5_copies_12_0 {p : Program} {l : Launch} {e : Env} {s : State} {m : MethodId} {args : Array Value} {below : List Frame} {meth : Method} {c : Code} {D : va_G} {cI cH cO : ClassId} {ws0 : va_W} (h : Nat) (ar : Nat → Nat) (C : Cst)  (X : CX p s m args meth c cX5_copies 3 RX5 none D (tyl cI cH cO) (va_A ws0 s.heap.size)) : J p l e (rml 0) s m args below meth c 3 D (va_A ws0 s.heap.size) 0 0 (KV below args s D (tyl cI cH cO) ws0 (fun C9 => (wM cI h ar C9))) (sX5_copies_12_0 C) ((wM cI h ar C)) 0 [(0, .ref (ar 12)), (1, .ref (ar 0))] [] := by
  unfold sX5_copies_12_0
  refine j_ltl2 (fun L2 eL2 => ?_)
  have hL2 : ∀ (n2 : Nat) (C : Cst) (i2 : Nat) (hi : i2 ≤ 107) (hfu : 108 ≤ i2 + n2), J p l e (rml 0) s m args below meth c 3 D (va_A ws0 s.heap.size) 0 0 (KV below args s D (tyl cI cH cO) ws0 (fun C9 => (wM cI h ar C9))) (L2 n2 C i2) ((wM cI h ar C)) 2 [(0, .ref (ar 12)), (1, .ref (ar 0)), (2, .int (nI i2))] [] := by
    intro n2
    induction n2 with
    | zero =>
      intro C i2 hi hfu
      exact absurd hfu (by omega)
    | succ n2 ih2 =>
      intro C i2 hi hfu
      rw [eL2]
      refine j_iload_n X (pc' := 3) 2 dX5_copies_2 rfl rfl rfl ?_
      refine j_bipush X (v := 107) (pc' := 5) dX5_copies_3 (by decide) rfl ?_
      refine j_icmp_ge X (tgt := 20) (pc' := 8) dX5_copies_5 (by decide) rfl (fun c_5 => ?_) (fun c_5 => ?_)
      · have f_5 : 107 ≤ i2 := (nI_leI (a := 107) (b := i2) (by omega) (by omega)).mp c_5
        exact j_vret X rfl dX5_copies_20
      · have f_5 : ¬ (107 ≤ i2) := fun h => c_5 ((nI_leI (a := 107) (b := i2) (by omega) (by omega)).mpr h)
        refine j_aload_n X (pc' := 9) 1 dX5_copies_8 rfl rfl rfl ?_
        refine j_iload_n X (pc' := 10) 2 dX5_copies_9 rfl rfl rfl ?_
        refine j_aload_n X (pc' := 11) 0 dX5_copies_10 rfl rfl rfl ?_
        refine j_iload_n X (pc' := 12) 2 dX5_copies_11 rfl rfl rfl ?_
        refine j_ialdN X (i := i2) (pc' := 13) 7 rfl (by omega) (by decide) dX5_copies_12 rfl ?_
        refine j_iastN X (i := i2) (pc' := 14) (S := up C 0 i2 (C 12 i2)) (fun S_13 => (wM cI h ar S_13)) 1 rfl rfl (by omega) (by decide) dX5_copies_13 rfl (fun S_13 eS_13 => ?_)
        refine j_iinc X (v := (nI (i2 + 1))) (lv' := [(0, .ref (ar 12)), (1, .ref (ar 0)), (2, .int (nI (i2 + 1)))]) (q := 2) (pc' := 17) [1, 2, 0] dX5_copies_14 rfl (nI_1 i2) (by decide) rfl rfl ?_
        refine j_goto X (pc' := 2) dX5_copies_17 (by decide) ?_
        refine j_lv [0, 1, 2] (lv' := [(0, .ref (ar 12)), (1, .ref (ar 0)), (2, .int (nI (i2 + 1)))]) rfl ?_
        exact ih2 _ _ (by first | omega | assumption | decide | (subst_vars; first | assumption | omega)) (by first | omega | assumption | decide | (subst_vars; first | assumption | omega))
  refine j_iconst X (v := 0) (pc' := 1) dX5_copies_0 (by decide) rfl ?_
  refine j_istore_n X (lv' := [(0, .ref (ar 12)), (1, .ref (ar 0)), (2, .int 0)]) (pc' := 2) [1, 2, 0] dX5_copies_1 rfl (by decide) rfl rfl ?_
  refine j_lv [0, 1, 2] (lv' := [(0, .ref (ar 12)), (1, .ref (ar 0)), (2, .int 0)]) rfl ?_
  exact hL2 _ _ _ (by first | omega | assumption | decide | (subst_vars; first | assumption | omega)) (by first | omega | assumption | decide | (subst_vars; first | assumption | omega))
theorem c_X5_copies_12_0 (l : Launch) (D : va_G) (cI cH cO : ClassId) (h : Nat) (ar : Nat → Nat) (C : Cst)  : MV l yX5_copies cX5_copies 3 0 D (tyl cI cH cO) [.ref (ar 12), .ref (ar 0)] ((wM cI h ar C)) ((wM cI h ar (sX5_copies_12_0 C))) := fun sz => j_start (fun below s => (KV below [.ref (ar 12), .ref (ar 0)].toArray s D (tyl cI cH cO) ((wM cI h ar C)) (fun C9 => (wM cI h ar C9)))) (sX5_copies_12_0 C) (by decide +kernel) rfl (Nat.le_of_ble_eq_true rfl) (fun below s hs _ => by subst hs; rfl) (fun p e s m below meth c hX9 X => b_X5_copies_12_0 h ar C  X)
set_option maxHeartbeats 4000000 in
set_option maxRecDepth 100000 in
theorem b_X5_isMember {p : Program} {l : Launch} {e : Env} {s : State} {m : MethodId} {args : Array Value} {below : List Frame} {meth : Method} {c : Code} {D : va_G} {cI cH cO : ClassId} (h : Nat) (ar : Nat → Nat) (C : Cst) (x1 : Int32)  (X : CX p s m args meth c cX5_isMember 2 RX5 (some .boolean) D (tyl cI cH cO) (va_A ((wM cI h ar C)) s.heap.size)) : J p l e (rml 0) s m args below meth c 2 D (va_A ((wM cI h ar C)) s.heap.size) 0 0 (KP below args s D (tyl cI cH cO) ((wM cI h ar C))) (sX5_isMember C x1) ((wM cI h ar C)) 0 [(0, .ref h), (1, .int x1)] [] := by
  unfold sX5_isMember
  refine j_iload_n X (pc' := 1) 1 dX5_isMember_0 rfl rfl rfl ?_
  refine j_if_lt X (tgt := 18) (pc' := 4) dX5_isMember_1 (by decide) rfl (fun c_1 => ?_) (fun c_1 => ?_)
  · refine j_iconst X (v := 0) (pc' := 19) dX5_isMember_18 (by decide) rfl ?_
    exact j_zretP X rfl rfl rfl dX5_isMember_19
  · refine j_iload_n X (pc' := 5) 1 dX5_isMember_4 rfl rfl rfl ?_
    refine j_aload_n X (pc' := 6) 0 dX5_isMember_5 rfl rfl rfl ?_
    refine j_get X inX5 rfl (pc' := 9) 0 0 q_fl_X5_7 (by decide) rfl rfl dX5_isMember_6 rfl ?_
    refine j_iconst X (v := 5) (pc' := 10) dX5_isMember_9 (by decide) rfl ?_
    refine j_ialdN X (i := 5) (pc' := 11) 1 rfl (by omega) (by decide) dX5_isMember_10 rfl ?_
    refine j_icmp_ge X (tgt := 18) (pc' := 14) dX5_isMember_11 (by decide) rfl (fun c_11 => ?_) (fun c_11 => ?_)
    · refine j_iconst X (v := 0) (pc' := 19) dX5_isMember_18 (by decide) rfl ?_
      exact j_zretP X rfl rfl rfl dX5_isMember_19
    · refine j_iconst X (v := 1) (pc' := 15) dX5_isMember_14 (by decide) rfl ?_
      refine j_goto X (pc' := 19) dX5_isMember_15 (by decide) ?_
      exact j_zretP X rfl rfl rfl dX5_isMember_19
theorem c_X5_isMember (l : Launch) (D : va_G) (cI cH cO : ClassId) (h : Nat) (ar : Nat → Nat) (C : Cst) (x1 : Int32)  : MI l yX5_isMember cX5_isMember 2 (some .boolean) 0 D (tyl cI cH cO) [.ref h, .int x1] ((wM cI h ar C)) (sX5_isMember C x1) ((wM cI h ar C)) := fun sz => j_start (fun below s => (KP below [.ref h, .int x1].toArray s D (tyl cI cH cO) ((wM cI h ar C)))) (sX5_isMember C x1) (by decide +kernel) rfl (Nat.le_of_ble_eq_true rfl) (fun below s hs _ => by subst hs; rfl) (fun p e s m below meth c hX9 X => b_X5_isMember h ar C x1  X)
set_option maxHeartbeats 4000000 in
set_option maxRecDepth 100000 in
theorem b_X5_of {p : Program} {l : Launch} {e : Env} {s : State} {m : MethodId} {args : Array Value} {below : List Frame} {meth : Method} {c : Code} {D : va_G} {cI cH cO : ClassId} (h : Nat) (ar : Nat → Nat) (C : Cst) (i1 : Nat) (i2 : Nat) (hi1 : i1 < 8) (hi2 : i2 < 8) (X : CX p s m args meth c cX5_of 3 RX5 (some .int) D (tyl cI cH cO) (va_A ((wM cI h ar C)) s.heap.size)) : J p l e (rml 0) s m args below meth c 3 D (va_A ((wM cI h ar C)) s.heap.size) 0 0 (KP below args s D (tyl cI cH cO) ((wM cI h ar C))) (sX5_of C i1 i2) ((wM cI h ar C)) 0 [(0, .ref h), (1, .int (nI i1)), (2, .int (nI i2))] [] := by
  unfold sX5_of
  refine j_aload_n X (pc' := 1) 0 dX5_of_0 rfl rfl rfl ?_
  refine j_get X inX5 rfl (pc' := 4) 0 0 q_fl_X5_7 (by decide) rfl rfl dX5_of_1 rfl ?_
  refine j_bipush X (v := 13) (pc' := 6) dX5_of_4 (by decide) rfl ?_
  refine j_bipush X (v := 8) (pc' := 8) dX5_of_6 (by decide) rfl ?_
  refine j_iload_n X (pc' := 9) 1 dX5_of_8 rfl rfl rfl ?_
  refine j_imulN X (a := 8) (b := i1) (pc' := 10) dX5_of_9 rfl ?_
  refine j_iaddN X (a := 13) (b := (8 * i1)) (pc' := 11) dX5_of_10 rfl ?_
  refine j_iload_n X (pc' := 12) 2 dX5_of_11 rfl rfl rfl ?_
  refine j_iaddN X (a := (13 + (8 * i1))) (b := i2) (pc' := 13) dX5_of_12 rfl ?_
  refine j_ialdN X (i := ((13 + (8 * i1)) + i2)) (pc' := 14) 1 rfl (by omega) (by decide) dX5_of_13 rfl ?_
  exact j_iretP X rfl rfl dX5_of_14
theorem c_X5_of (l : Launch) (D : va_G) (cI cH cO : ClassId) (h : Nat) (ar : Nat → Nat) (C : Cst) (i1 : Nat) (i2 : Nat) (hi1 : i1 < 8) (hi2 : i2 < 8) : MI l yX5_of cX5_of 3 (some .int) 0 D (tyl cI cH cO) [.ref h, .int (nI i1), .int (nI i2)] ((wM cI h ar C)) (sX5_of C i1 i2) ((wM cI h ar C)) := fun sz => j_start (fun below s => (KP below [.ref h, .int (nI i1), .int (nI i2)].toArray s D (tyl cI cH cO) ((wM cI h ar C)))) (sX5_of C i1 i2) (by decide +kernel) rfl (Nat.le_of_ble_eq_true rfl) (fun below s hs _ => by subst hs; rfl) (fun p e s m below meth c hX9 X => b_X5_of h ar C i1 i2 hi1 hi2 X)
set_option maxHeartbeats 4000000 in
set_option maxRecDepth 100000 in
theorem b_X5_puts {p : Program} {l : Launch} {e : Env} {s : State} {m : MethodId} {args : Array Value} {below : List Frame} {meth : Method} {c : Code} {D : va_G} {cI cH cO : ClassId} {ws0 : va_W} (h : Nat) (ar : Nat → Nat) (C : Cst) (i1 : Nat) (i2 : Nat) (x3 : Int32) (hi1 : i1 < 8) (hi2 : i2 < 8) (X : CX p s m args meth c cX5_puts 4 RX5 none D (tyl cI cH cO) (va_A ws0 s.heap.size)) : J p l e (rml 0) s m args below meth c 4 D (va_A ws0 s.heap.size) 0 0 (KV below args s D (tyl cI cH cO) ws0 (fun C9 => (wM cI h ar C9))) (sX5_puts C i1 i2 x3) ((wM cI h ar C)) 0 [(0, .ref h), (1, .int (nI i1)), (2, .int (nI i2)), (3, .int x3)] [] := by
  unfold sX5_puts
  refine j_aload_n X (pc' := 1) 0 dX5_puts_0 rfl rfl rfl ?_
  refine j_get X inX5 rfl (pc' := 4) 0 0 q_fl_X5_7 (by decide) rfl rfl dX5_puts_1 rfl ?_
  refine j_bipush X (v := 13) (pc' := 6) dX5_puts_4 (by decide) rfl ?_
  refine j_bipush X (v := 8) (pc' := 8) dX5_puts_6 (by decide) rfl ?_
  refine j_iload_n X (pc' := 9) 1 dX5_puts_8 rfl rfl rfl ?_
  refine j_imulN X (a := 8) (b := i1) (pc' := 10) dX5_puts_9 rfl ?_
  refine j_iaddN X (a := 13) (b := (8 * i1)) (pc' := 11) dX5_puts_10 rfl ?_
  refine j_iload_n X (pc' := 12) 2 dX5_puts_11 rfl rfl rfl ?_
  refine j_iaddN X (a := (13 + (8 * i1))) (b := i2) (pc' := 13) dX5_puts_12 rfl ?_
  refine j_iload_n X (pc' := 14) 3 dX5_puts_13 rfl rfl rfl ?_
  refine j_iastN X (i := ((13 + (8 * i1)) + i2)) (pc' := 15) (S := up C 0 ((13 + (8 * i1)) + i2) x3) (fun S_14 => (wM cI h ar S_14)) 1 rfl rfl (by omega) (by decide) dX5_puts_14 rfl (fun S_14 eS_14 => ?_)
  exact j_vret X rfl dX5_puts_15
theorem c_X5_puts (l : Launch) (D : va_G) (cI cH cO : ClassId) (h : Nat) (ar : Nat → Nat) (C : Cst) (i1 : Nat) (i2 : Nat) (x3 : Int32) (hi1 : i1 < 8) (hi2 : i2 < 8) : MV l yX5_puts cX5_puts 4 0 D (tyl cI cH cO) [.ref h, .int (nI i1), .int (nI i2), .int x3] ((wM cI h ar C)) ((wM cI h ar (sX5_puts C i1 i2 x3))) := fun sz => j_start (fun below s => (KV below [.ref h, .int (nI i1), .int (nI i2), .int x3].toArray s D (tyl cI cH cO) ((wM cI h ar C)) (fun C9 => (wM cI h ar C9)))) (sX5_puts C i1 i2 x3) (by decide +kernel) rfl (Nat.le_of_ble_eq_true rfl) (fun below s hs _ => by subst hs; rfl) (fun p e s m below meth c hX9 X => b_X5_puts h ar C i1 i2 x3 hi1 hi2 X)
set_option maxHeartbeats 4000000 in
set_option maxRecDepth 100000 in
theorem b_X5_damage {p : Program} {l : Launch} {e : Env} {s : State} {m : MethodId} {args : Array Value} {below : List Frame} {meth : Method} {c : Code} {D : va_G} {cI cH cO : ClassId} (h : Nat) (ar : Nat → Nat) (C : Cst) (x1 : Int32) (hd : ¬ C 0 0 = 0) (X : CX p s m args meth c cX5_damage 2 RX5 (some .int) D (tyl cI cH cO) (va_A ((wM cI h ar C)) s.heap.size)) : J p l e (rml 0) s m args below meth c 2 D (va_A ((wM cI h ar C)) s.heap.size) 0 0 (KP below args s D (tyl cI cH cO) ((wM cI h ar C))) (sX5_damage C x1) ((wM cI h ar C)) 0 [(0, .ref h), (1, .int x1)] [] := by
  unfold sX5_damage
  refine j_iload_n X (pc' := 1) 1 dX5_damage_0 rfl rfl rfl ?_
  refine j_iload_n X (pc' := 2) 1 dX5_damage_1 rfl rfl rfl ?_
  refine j_imul X (pc' := 3) dX5_damage_2 rfl ?_
  refine j_aload_n X (pc' := 4) 0 dX5_damage_3 rfl rfl rfl ?_
  refine j_get X inX5 rfl (pc' := 7) 0 0 q_fl_X5_7 (by decide) rfl rfl dX5_damage_4 rfl ?_
  refine j_iconst X (v := 0) (pc' := 8) dX5_damage_7 (by decide) rfl ?_
  refine j_ialdN X (i := 0) (pc' := 9) 1 rfl (by omega) (by decide) dX5_damage_8 rfl ?_
  refine j_idiv X (pc' := 10) dX5_damage_9 hd rfl ?_
  exact j_iretP X rfl rfl dX5_damage_10
theorem c_X5_damage (l : Launch) (D : va_G) (cI cH cO : ClassId) (h : Nat) (ar : Nat → Nat) (C : Cst) (x1 : Int32) (hd : ¬ C 0 0 = 0) : MI l yX5_damage cX5_damage 2 (some .int) 0 D (tyl cI cH cO) [.ref h, .int x1] ((wM cI h ar C)) (sX5_damage C x1) ((wM cI h ar C)) := fun sz => j_start (fun below s => (KP below [.ref h, .int x1].toArray s D (tyl cI cH cO) ((wM cI h ar C)))) (sX5_damage C x1) (by decide +kernel) rfl (Nat.le_of_ble_eq_true rfl) (fun below s hs _ => by subst hs; rfl) (fun p e s m below meth c hX9 X => b_X5_damage h ar C x1 hd X)
set_option maxHeartbeats 4000000 in
set_option maxRecDepth 100000 in
theorem b_X5_placeOf {p : Program} {l : Launch} {e : Env} {s : State} {m : MethodId} {args : Array Value} {below : List Frame} {meth : Method} {c : Code} {D : va_G} {cI cH cO : ClassId} (h : Nat) (ar : Nat → Nat) (C : Cst) (x1 : Int32) (hn : ¬ C 0 5 = 0) (X : CX p s m args meth c cX5_placeOf 2 RX5 (some .int) D (tyl cI cH cO) (va_A ((wM cI h ar C)) s.heap.size)) : J p l e (rml 0) s m args below meth c 2 D (va_A ((wM cI h ar C)) s.heap.size) 0 0 (KP below args s D (tyl cI cH cO) ((wM cI h ar C))) (sX5_placeOf C x1) ((wM cI h ar C)) 0 [(0, .ref h), (1, .int x1)] [] := by
  unfold sX5_placeOf
  refine j_iload_n X (pc' := 1) 1 dX5_placeOf_0 rfl rfl rfl ?_
  refine j_aload_n X (pc' := 2) 0 dX5_placeOf_1 rfl rfl rfl ?_
  refine j_get X inX5 rfl (pc' := 5) 0 0 q_fl_X5_7 (by decide) rfl rfl dX5_placeOf_2 rfl ?_
  refine j_bipush X (v := 6) (pc' := 7) dX5_placeOf_5 (by decide) rfl ?_
  refine j_ialdN X (i := 6) (pc' := 8) 1 rfl (by omega) (by decide) dX5_placeOf_7 rfl ?_
  refine j_aload_n X (pc' := 9) 0 dX5_placeOf_8 rfl rfl rfl ?_
  refine j_get X inX5 rfl (pc' := 12) 0 0 q_fl_X5_7 (by decide) rfl rfl dX5_placeOf_9 rfl ?_
  refine j_iconst X (v := 5) (pc' := 13) dX5_placeOf_12 (by decide) rfl ?_
  refine j_ialdN X (i := 5) (pc' := 14) 1 rfl (by omega) (by decide) dX5_placeOf_13 rfl ?_
  refine j_irem X (pc' := 15) dX5_placeOf_14 hn rfl ?_
  refine j_isub X (pc' := 16) dX5_placeOf_15 rfl ?_
  refine j_aload_n X (pc' := 17) 0 dX5_placeOf_16 rfl rfl rfl ?_
  refine j_get X inX5 rfl (pc' := 20) 0 0 q_fl_X5_7 (by decide) rfl rfl dX5_placeOf_17 rfl ?_
  refine j_iconst X (v := 5) (pc' := 21) dX5_placeOf_20 (by decide) rfl ?_
  refine j_ialdN X (i := 5) (pc' := 22) 1 rfl (by omega) (by decide) dX5_placeOf_21 rfl ?_
  refine j_iadd X (pc' := 23) dX5_placeOf_22 rfl ?_
  refine j_aload_n X (pc' := 24) 0 dX5_placeOf_23 rfl rfl rfl ?_
  refine j_get X inX5 rfl (pc' := 27) 0 0 q_fl_X5_7 (by decide) rfl rfl dX5_placeOf_24 rfl ?_
  refine j_iconst X (v := 5) (pc' := 28) dX5_placeOf_27 (by decide) rfl ?_
  refine j_ialdN X (i := 5) (pc' := 29) 1 rfl (by omega) (by decide) dX5_placeOf_28 rfl ?_
  refine j_irem X (pc' := 30) dX5_placeOf_29 hn rfl ?_
  exact j_iretP X rfl rfl dX5_placeOf_30
theorem c_X5_placeOf (l : Launch) (D : va_G) (cI cH cO : ClassId) (h : Nat) (ar : Nat → Nat) (C : Cst) (x1 : Int32) (hn : ¬ C 0 5 = 0) : MI l yX5_placeOf cX5_placeOf 2 (some .int) 0 D (tyl cI cH cO) [.ref h, .int x1] ((wM cI h ar C)) (sX5_placeOf C x1) ((wM cI h ar C)) := fun sz => j_start (fun below s => (KP below [.ref h, .int x1].toArray s D (tyl cI cH cO) ((wM cI h ar C)))) (sX5_placeOf C x1) (by decide +kernel) rfl (Nat.le_of_ble_eq_true rfl) (fun below s hs _ => by subst hs; rfl) (fun p e s m below meth c hX9 X => b_X5_placeOf h ar C x1 hn X)
set_option maxHeartbeats 4000000 in
set_option maxRecDepth 100000 in
theorem b_X5_keeps {p : Program} {l : Launch} {e : Env} {s : State} {m : MethodId} {args : Array Value} {below : List Frame} {meth : Method} {c : Code} {D : va_G} {cI cH cO : ClassId} {ws0 : va_W} (h : Nat) (ar : Nat → Nat) (C : Cst) (x1 : Int32) (x2 : Int32) (x3 : Int32) (x4 : Int32)  (X : CX p s m args meth c cX5_keeps 6 RX5 none D (tyl cI cH cO) (va_A ws0 s.heap.size)) : J p l e (rml 0) s m args below meth c 6 D (va_A ws0 s.heap.size) 0 0 (KV below args s D (tyl cI cH cO) ws0 (fun C9 => (wM cI h ar C9))) (sX5_keeps C x1 x2 x3 x4) ((wM cI h ar C)) 0 [(0, .ref h), (1, .int x1), (2, .int x2), (3, .int x3), (4, .int x4)] [] := by
  unfold sX5_keeps
  refine j_ltv (fun K117 eK117 => ?_)
  have hK117 : ∀ (C : Cst) (t0 : Int32) , J p l e (rml 0) s m args below meth c 6 D (va_A ws0 s.heap.size) 0 0 (KV below args s D (tyl cI cH cO) ws0 (fun C9 => (wM cI h ar C9))) (K117 C t0) ((wM cI h ar C)) 117 [] [.int t0, .int 12, .ref (ar 0)] := by
    intro C t0 
    rw [eK117]
    refine j_iastN X (i := 12) (pc' := 118) (S := up C 0 12 t0) (fun S_117 => (wM cI h ar S_117)) 1 rfl rfl (by omega) (by decide) dX5_keeps_117 rfl (fun S_117 eS_117 => ?_)
    exact j_vret X rfl dX5_keeps_118
  refine j_ltv (fun K38 eK38 => ?_)
  have hK38 : ∀ (C : Cst) (x1 : Int32) (x2 : Int32) (x3 : Int32) (x4 : Int32) , J p l e (rml 0) s m args below meth c 6 D (va_A ws0 s.heap.size) 0 0 (KV below args s D (tyl cI cH cO) ws0 (fun C9 => (wM cI h ar C9))) (K38 C x1 x2 x3 x4) ((wM cI h ar C)) 38 [(0, .ref h), (1, .int x1), (2, .int x2), (3, .int x3), (4, .int x4)] [] := by
    intro C x1 x2 x3 x4 
    rw [eK38]
    refine j_aload_n X (pc' := 39) 0 dX5_keeps_38 rfl rfl rfl ?_
    refine j_get X inX5 rfl (pc' := 42) 0 0 q_fl_X5_7 (by decide) rfl rfl dX5_keeps_39 rfl ?_
    refine j_bipush X (v := 77) (pc' := 44) dX5_keeps_42 (by decide) rfl ?_
    refine j_iload_n X (pc' := 45) 1 dX5_keeps_44 rfl rfl rfl ?_
    refine j_iastN X (i := 77) (pc' := 46) (S := up C 0 77 x1) (fun S_45 => (wM cI h ar S_45)) 1 rfl rfl (by omega) (by decide) dX5_keeps_45 rfl (fun S_45 eS_45 => ?_)
    refine j_aload_n X (pc' := 47) 0 dX5_keeps_46 rfl rfl rfl ?_
    refine j_get X inX5 rfl (pc' := 50) 0 0 q_fl_X5_7 (by decide) rfl rfl dX5_keeps_47 rfl ?_
    refine j_bipush X (v := 78) (pc' := 52) dX5_keeps_50 (by decide) rfl ?_
    refine j_iload_n X (pc' := 53) 2 dX5_keeps_52 rfl rfl rfl ?_
    refine j_iastN X (i := 78) (pc' := 54) (S := up S_45 0 78 x2) (fun S_53 => (wM cI h ar S_53)) 1 rfl rfl (by omega) (by decide) dX5_keeps_53 rfl (fun S_53 eS_53 => ?_)
    refine j_aload_n X (pc' := 55) 0 dX5_keeps_54 rfl rfl rfl ?_
    refine j_get X inX5 rfl (pc' := 58) 0 0 q_fl_X5_7 (by decide) rfl rfl dX5_keeps_55 rfl ?_
    refine j_bipush X (v := 79) (pc' := 60) dX5_keeps_58 (by decide) rfl ?_
    refine j_iload_n X (pc' := 61) 3 dX5_keeps_60 rfl rfl rfl ?_
    refine j_iastN X (i := 79) (pc' := 62) (S := up S_53 0 79 x3) (fun S_61 => (wM cI h ar S_61)) 1 rfl rfl (by omega) (by decide) dX5_keeps_61 rfl (fun S_61 eS_61 => ?_)
    refine j_aload_n X (pc' := 63) 0 dX5_keeps_62 rfl rfl rfl ?_
    refine j_get X inX5 rfl (pc' := 66) 0 0 q_fl_X5_7 (by decide) rfl rfl dX5_keeps_63 rfl ?_
    refine j_bipush X (v := 80) (pc' := 68) dX5_keeps_66 (by decide) rfl ?_
    refine j_aload_n X (pc' := 69) 0 dX5_keeps_68 rfl rfl rfl ?_
    refine j_get X inX5 rfl (pc' := 72) 0 0 q_fl_X5_7 (by decide) rfl rfl dX5_keeps_69 rfl ?_
    refine j_bipush X (v := 7) (pc' := 74) dX5_keeps_72 (by decide) rfl ?_
    refine j_ialdN X (i := 7) (pc' := 75) 1 rfl (by omega) (by decide) dX5_keeps_74 rfl ?_
    refine j_iastN X (i := 80) (pc' := 76) (S := up S_61 0 80 (S_61 0 7)) (fun S_75 => (wM cI h ar S_75)) 1 rfl rfl (by omega) (by decide) dX5_keeps_75 rfl (fun S_75 eS_75 => ?_)
    refine j_aload_n X (pc' := 77) 0 dX5_keeps_76 rfl rfl rfl ?_
    refine j_get X inX5 rfl (pc' := 80) 0 0 q_fl_X5_7 (by decide) rfl rfl dX5_keeps_77 rfl ?_
    refine j_bipush X (v := 81) (pc' := 82) dX5_keeps_80 (by decide) rfl ?_
    refine j_iload X (pc' := 84) 4 dX5_keeps_82 rfl rfl ?_
    refine j_iastN X (i := 81) (pc' := 85) (S := up S_75 0 81 x4) (fun S_84 => (wM cI h ar S_84)) 1 rfl rfl (by omega) (by decide) dX5_keeps_84 rfl (fun S_84 eS_84 => ?_)
    refine j_aload_n X (pc' := 86) 0 dX5_keeps_85 rfl rfl rfl ?_
    refine j_get X inX5 rfl (pc' := 89) 0 0 q_fl_X5_7 (by decide) rfl rfl dX5_keeps_86 rfl ?_
    refine j_bipush X (v := 12) (pc' := 91) dX5_keeps_89 (by decide) rfl ?_
    refine j_aload_n X (pc' := 92) 0 dX5_keeps_91 rfl rfl rfl ?_
    refine j_get X inX5 rfl (pc' := 95) 0 0 q_fl_X5_7 (by decide) rfl rfl dX5_keeps_92 rfl ?_
    refine j_bipush X (v := 12) (pc' := 97) dX5_keeps_95 (by decide) rfl ?_
    refine j_ialdN X (i := 12) (pc' := 98) 1 rfl (by omega) (by decide) dX5_keeps_97 rfl ?_
    refine j_bipush X (v := 6) (pc' := 100) dX5_keeps_98 (by decide) rfl ?_
    refine j_icmp_ne X (tgt := 108) (pc' := 103) dX5_keeps_100 (by decide) rfl (fun c_100 => ?_) (fun c_100 => ?_)
    · refine j_aload_n X (pc' := 109) 0 dX5_keeps_108 rfl rfl rfl ?_
      refine j_get X inX5 rfl (pc' := 112) 0 0 q_fl_X5_7 (by decide) rfl rfl dX5_keeps_109 rfl ?_
      refine j_bipush X (v := 12) (pc' := 114) dX5_keeps_112 (by decide) rfl ?_
      refine j_ialdN X (i := 12) (pc' := 115) 1 rfl (by omega) (by decide) dX5_keeps_114 rfl ?_
      refine j_iconst X (v := 1) (pc' := 116) dX5_keeps_115 (by decide) rfl ?_
      refine j_iadd X (pc' := 117) dX5_keeps_116 rfl ?_
      refine j_lv [] (lv' := []) rfl ?_
      exact hK117 _ _ 
    · refine j_bipush X (v := 6) (pc' := 105) dX5_keeps_103 (by decide) rfl ?_
      refine j_goto X (pc' := 117) dX5_keeps_105 (by decide) ?_
      refine j_lv [] (lv' := []) rfl ?_
      exact hK117 _ _ 
  refine j_ltl6 (fun L4 eL4 => ?_)
  have hL4 : ∀ (n4 : Nat) (C : Cst) (x1 : Int32) (x2 : Int32) (x3 : Int32) (x4 : Int32) (i5 : Nat) (hi : i5 ≤ 29) (hge : 4 ≤ i5) (hfu : i5 < 4 + n4), J p l e (rml 0) s m args below meth c 6 D (va_A ws0 s.heap.size) 0 0 (KV below args s D (tyl cI cH cO) ws0 (fun C9 => (wM cI h ar C9))) (L4 n4 C x1 x2 x3 x4 i5) ((wM cI h ar C)) 4 [(0, .ref h), (1, .int x1), (2, .int x2), (3, .int x3), (4, .int x4), (5, .int (nI i5))] [] := by
    intro n4
    induction n4 with
    | zero =>
      intro C x1 x2 x3 x4 i5 hi hge hfu
      exact absurd hfu (by omega)
    | succ n4 ih4 =>
      intro C x1 x2 x3 x4 i5 hi hge hfu
      rw [eL4]
      refine j_iload X (pc' := 6) 5 dX5_keeps_4 rfl rfl ?_
      refine j_iconst X (v := 4) (pc' := 7) dX5_keeps_6 (by decide) rfl ?_
      refine j_icmp_le X (tgt := 38) (pc' := 10) dX5_keeps_7 (by decide) rfl (fun c_7 => ?_) (fun c_7 => ?_)
      · have f_7 : i5 ≤ 4 := (nI_leI (a := i5) (b := 4) (by omega) (by omega)).mp c_7
        refine j_lv [0, 1, 2, 3, 4] (lv' := [(0, .ref h), (1, .int x1), (2, .int x2), (3, .int x3), (4, .int x4)]) rfl ?_
        exact hK38 _ _ _ _ _ 
      · have f_7 : ¬ (i5 ≤ 4) := fun h => c_7 ((nI_leI (a := i5) (b := 4) (by omega) (by omega)).mpr h)
        refine j_aload_n X (pc' := 11) 0 dX5_keeps_10 rfl rfl rfl ?_
        refine j_get X inX5 rfl (pc' := 14) 0 0 q_fl_X5_7 (by decide) rfl rfl dX5_keeps_11 rfl ?_
        refine j_bipush X (v := 77) (pc' := 16) dX5_keeps_14 (by decide) rfl ?_
        refine j_iload X (pc' := 18) 5 dX5_keeps_16 rfl rfl ?_
        refine j_iaddN X (a := 77) (b := i5) (pc' := 19) dX5_keeps_18 rfl ?_
        refine j_aload_n X (pc' := 20) 0 dX5_keeps_19 rfl rfl rfl ?_
        refine j_get X inX5 rfl (pc' := 23) 0 0 q_fl_X5_7 (by decide) rfl rfl dX5_keeps_20 rfl ?_
        refine j_bipush X (v := 77) (pc' := 25) dX5_keeps_23 (by decide) rfl ?_
        refine j_iload X (pc' := 27) 5 dX5_keeps_25 rfl rfl ?_
        refine j_iaddN X (a := 77) (b := i5) (pc' := 28) dX5_keeps_27 rfl ?_
        refine j_iconst X (v := 5) (pc' := 29) dX5_keeps_28 (by decide) rfl ?_
        refine j_isubN X (a := (77 + i5)) (b := 5) (pc' := 30) dX5_keeps_29 (by omega) rfl ?_
        refine j_ialdN X (i := ((77 + i5) - 5)) (pc' := 31) 1 rfl (by omega) (by decide) dX5_keeps_30 rfl ?_
        refine j_iastN X (i := (77 + i5)) (pc' := 32) (S := up C 0 (77 + i5) (C 0 ((77 + i5) - 5))) (fun S_31 => (wM cI h ar S_31)) 1 rfl rfl (by omega) (by decide) dX5_keeps_31 rfl (fun S_31 eS_31 => ?_)
        refine j_iinc X (v := (nI (i5 - 1))) (lv' := [(0, .ref h), (1, .int x1), (2, .int x2), (3, .int x3), (4, .int x4), (5, .int (nI (i5 - 1)))]) (q := 5) (pc' := 35) [1, 2, 3, 4, 5, 0] dX5_keeps_32 rfl (nI_sb (by omega)) (by decide) rfl rfl ?_
        refine j_goto X (pc' := 4) dX5_keeps_35 (by decide) ?_
        refine j_lv [0, 1, 2, 3, 4, 5] (lv' := [(0, .ref h), (1, .int x1), (2, .int x2), (3, .int x3), (4, .int x4), (5, .int (nI (i5 - 1)))]) rfl ?_
        exact ih4 _ _ _ _ _ _ (by first | omega | assumption | decide | (subst_vars; first | assumption | omega)) (by first | omega | assumption | decide | (subst_vars; first | assumption | omega)) (by first | omega | assumption | decide | (subst_vars; first | assumption | omega))
  refine j_bipush X (v := 29) (pc' := 2) dX5_keeps_0 (by decide) rfl ?_
  refine j_istore X (lv' := [(0, .ref h), (1, .int x1), (2, .int x2), (3, .int x3), (4, .int x4), (5, .int 29)]) (pc' := 4) [1, 2, 3, 4, 5, 0] dX5_keeps_2 (by decide) rfl rfl ?_
  refine j_lv [0, 1, 2, 3, 4, 5] (lv' := [(0, .ref h), (1, .int x1), (2, .int x2), (3, .int x3), (4, .int x4), (5, .int 29)]) rfl ?_
  exact hL4 _ _ _ _ _ _ _ (by first | omega | assumption | decide | (subst_vars; first | assumption | omega)) (by first | omega | assumption | decide | (subst_vars; first | assumption | omega)) (by first | omega | assumption | decide | (subst_vars; first | assumption | omega))
theorem c_X5_keeps (l : Launch) (D : va_G) (cI cH cO : ClassId) (h : Nat) (ar : Nat → Nat) (C : Cst) (x1 : Int32) (x2 : Int32) (x3 : Int32) (x4 : Int32)  : MV l yX5_keeps cX5_keeps 6 0 D (tyl cI cH cO) [.ref h, .int x1, .int x2, .int x3, .int x4] ((wM cI h ar C)) ((wM cI h ar (sX5_keeps C x1 x2 x3 x4))) := fun sz => j_start (fun below s => (KV below [.ref h, .int x1, .int x2, .int x3, .int x4].toArray s D (tyl cI cH cO) ((wM cI h ar C)) (fun C9 => (wM cI h ar C9)))) (sX5_keeps C x1 x2 x3 x4) (by decide +kernel) rfl (Nat.le_of_ble_eq_true rfl) (fun below s hs _ => by subst hs; rfl) (fun p e s m below meth c hX9 X => b_X5_keeps h ar C x1 x2 x3 x4  X)
set_option maxHeartbeats 4000000 in
set_option maxRecDepth 100000 in
theorem b_X5_changes {p : Program} {l : Launch} {e : Env} {s : State} {m : MethodId} {args : Array Value} {below : List Frame} {meth : Method} {c : Code} {D : va_G} {cI cH cO : ClassId} {ws0 : va_W} (h : Nat) (ar : Nat → Nat) (C : Cst) (hIC : IM C) (X : CX p s m args meth c cX5_changes 2 RX5 none D (tyl cI cH cO) (va_A ws0 s.heap.size)) : J p l e (rml 0) s m args below meth c 2 D (va_A ws0 s.heap.size) 0 0 (KV below args s D (tyl cI cH cO) ws0 (fun C9 => (wM cI h ar C9))) (sX5_changes C) ((wM cI h ar C)) 0 [(0, .ref h)] [] := by
  unfold sX5_changes
  refine j_ltv (fun K90 eK90 => ?_)
  have hK90 : ∀ (C : Cst) (hIC : IM C) (h4 : (C 3 0).toInt ≤ 3), J p l e (rml 0) s m args below meth c 2 D (va_A ws0 s.heap.size) 0 0 (KV below args s D (tyl cI cH cO) ws0 (fun C9 => (wM cI h ar C9))) (K90 C) ((wM cI h ar C)) 90 [(0, .ref h)] [] := by
    intro C hIC h4
    rw [eK90]
    refine j_aload_n X (pc' := 91) 0 dX5_changes_90 rfl rfl rfl ?_
    refine j_dup X (pc' := 92) dX5_changes_91 rfl rfl ?_
    refine j_get X inX5 rfl (pc' := 95) 0 3 q_fl_X5_35 (by decide) rfl rfl dX5_changes_92 rfl ?_
    refine j_iconst X (v := 1) (pc' := 96) dX5_changes_95 (by decide) rfl ?_
    refine j_iadd X (pc' := 97) dX5_changes_96 rfl ?_
    refine j_put X inX5 rfl (pc' := 100) tyX5_ok nmX5 (S := up C 3 0 ((C 3 0) + 1)) (fun S_97 => (wM cI h ar S_97)) 0 3 q_fl_X5_35 (by decide) rfl rfl rfl rfl (Nat.le_of_ble_eq_true rfl) rfl dX5_changes_97 rfl (fun S_97 eS_97 => ?_)
    have hIS_97 : IM S_97 := by rw [eS_97]; exact IM_inc3 h4 hIC
    exact j_vret X rfl dX5_changes_100
  refine j_ltl2 (fun L58 eL58 => ?_)
  have hL58 : ∀ (n58 : Nat) (C : Cst) (i1 : Nat) (hIC : IM C) (hi : i1 ≤ 107) (hfu : 108 ≤ i1 + n58) (h4 : (C 3 0).toInt ≤ 3), J p l e (rml 0) s m args below meth c 2 D (va_A ws0 s.heap.size) 0 0 (KV below args s D (tyl cI cH cO) ws0 (fun C9 => (wM cI h ar C9))) (L58 n58 C i1) ((wM cI h ar C)) 58 [(0, .ref h), (1, .int (nI i1))] [] := by
    intro n58
    induction n58 with
    | zero =>
      intro C i1 hIC hi hfu h4
      exact absurd hfu (by omega)
    | succ n58 ih58 =>
      intro C i1 hIC hi hfu h4
      rw [eL58]
      refine j_iload_n X (pc' := 59) 1 dX5_changes_58 rfl rfl rfl ?_
      refine j_bipush X (v := 107) (pc' := 61) dX5_changes_59 (by decide) rfl ?_
      refine j_icmp_ge X (tgt := 90) (pc' := 64) dX5_changes_61 (by decide) rfl (fun c_61 => ?_) (fun c_61 => ?_)
      · have f_61 : 107 ≤ i1 := (nI_leI (a := 107) (b := i1) (by omega) (by omega)).mp c_61
        refine j_lv [0] (lv' := [(0, .ref h)]) rfl ?_
        exact hK90 _ hIC (by first | omega | assumption | decide | exact Decidable.byContradiction c_13 | (subst_vars; first | assumption | omega))
      · have f_61 : ¬ (107 ≤ i1) := fun h => c_61 ((nI_leI (a := 107) (b := i1) (by omega) (by omega)).mpr h)
        refine j_aload_n X (pc' := 65) 0 dX5_changes_64 rfl rfl rfl ?_
        refine j_get X inX5 rfl (pc' := 68) 0 1 q_fl_X5_13 (by decide) rfl rfl dX5_changes_65 rfl ?_
        refine j_bipush X (v := 107) (pc' := 70) dX5_changes_68 (by decide) rfl ?_
        refine j_aload_n X (pc' := 71) 0 dX5_changes_70 rfl rfl rfl ?_
        refine j_get X inX5 rfl (pc' := 74) 0 3 q_fl_X5_35 (by decide) rfl rfl dX5_changes_71 rfl ?_
        refine j_imul X (pc' := 75) dX5_changes_74 rfl ?_
        refine j_iload_n X (pc' := 76) 1 dX5_changes_75 rfl rfl rfl ?_
        refine j_iadd X (pc' := 77) dX5_changes_76 rfl ?_
        refine j_aload_n X (pc' := 78) 0 dX5_changes_77 rfl rfl rfl ?_
        refine j_get X inX5 rfl (pc' := 81) 0 0 q_fl_X5_7 (by decide) rfl rfl dX5_changes_78 rfl ?_
        refine j_iload_n X (pc' := 82) 1 dX5_changes_81 rfl rfl rfl ?_
        refine j_ialdN X (i := i1) (pc' := 83) 1 rfl (by omega) (by decide) dX5_changes_82 rfl ?_
        refine j_iast X (pc' := 84) (S := up C 1 ((107 * (C 3 0)) + (nI i1)).toNatClampNeg (C 0 i1)) (fun S_83 => (wM cI h ar S_83)) 2 rfl rfl (ch_in h4 hIC.2.2.2.2.2.2.1 f_61) dX5_changes_83 rfl (fun S_83 eS_83 => ?_)
        have hIS_83 : IM S_83 := by rw [eS_83]; exact IM_k (by decide) (by decide) (by decide) hIC
        refine j_iinc X (v := (nI (i1 + 1))) (lv' := [(0, .ref h), (1, .int (nI (i1 + 1)))]) (q := 1) (pc' := 87) [1, 0] dX5_changes_84 rfl (nI_1 i1) (by decide) rfl rfl ?_
        refine j_goto X (pc' := 58) dX5_changes_87 (by decide) ?_
        refine j_lv [0, 1] (lv' := [(0, .ref h), (1, .int (nI (i1 + 1)))]) rfl ?_
        exact ih58 _ _ hIS_83 (by first | omega | assumption | decide | exact Decidable.byContradiction c_13 | (subst_vars; first | assumption | omega)) (by first | omega | assumption | decide | exact Decidable.byContradiction c_13 | (subst_vars; first | assumption | omega)) (by first | omega | assumption | decide | exact Decidable.byContradiction c_13 | (subst_vars; first | assumption | omega))
  refine j_ltv (fun K56 eK56 => ?_)
  have hK56 : ∀ (C : Cst) (hIC : IM C) (h4 : (C 3 0).toInt ≤ 3), J p l e (rml 0) s m args below meth c 2 D (va_A ws0 s.heap.size) 0 0 (KV below args s D (tyl cI cH cO) ws0 (fun C9 => (wM cI h ar C9))) (K56 C) ((wM cI h ar C)) 56 [(0, .ref h)] [] := by
    intro C hIC h4
    rw [eK56]
    refine j_iconst X (v := 0) (pc' := 57) dX5_changes_56 (by decide) rfl ?_
    refine j_istore_n X (lv' := [(0, .ref h), (1, .int 0)]) (pc' := 58) [1, 0] dX5_changes_57 rfl (by decide) rfl rfl ?_
    refine j_lv [0, 1] (lv' := [(0, .ref h), (1, .int 0)]) rfl ?_
    exact hL58 _ _ _ hIC (by first | omega | assumption | decide | exact Decidable.byContradiction c_13 | (subst_vars; first | assumption | omega)) (by first | omega | assumption | decide | exact Decidable.byContradiction c_13 | (subst_vars; first | assumption | omega)) (by first | omega | assumption | decide | exact Decidable.byContradiction c_13 | (subst_vars; first | assumption | omega))
  refine j_ltv (fun K46 eK46 => ?_)
  have hK46 : ∀ (C : Cst) (hIC : IM C) (h4 : C 3 0 = 4), J p l e (rml 0) s m args below meth c 2 D (va_A ws0 s.heap.size) 0 0 (KV below args s D (tyl cI cH cO) ws0 (fun C9 => (wM cI h ar C9))) (K46 C) ((wM cI h ar C)) 46 [(0, .ref h)] [] := by
    intro C hIC h4
    rw [eK46]
    refine j_aload_n X (pc' := 47) 0 dX5_changes_46 rfl rfl rfl ?_
    refine j_dup X (pc' := 48) dX5_changes_47 rfl rfl ?_
    refine j_get X inX5 rfl (pc' := 51) 0 3 q_fl_X5_35 (by decide) rfl rfl dX5_changes_48 rfl ?_
    refine j_iconst X (v := 1) (pc' := 52) dX5_changes_51 (by decide) rfl ?_
    refine j_isub X (pc' := 53) dX5_changes_52 rfl ?_
    refine j_put X inX5 rfl (pc' := 56) tyX5_ok nmX5 (S := up C 3 0 ((C 3 0) - 1)) (fun S_53 => (wM cI h ar S_53)) 0 3 q_fl_X5_35 (by decide) rfl rfl rfl rfl (Nat.le_of_ble_eq_true rfl) rfl dX5_changes_53 rfl (fun S_53 eS_53 => ?_)
    have hIS_53 : IM S_53 := by rw [eS_53]; exact IM_dec3 h4 hIC
    refine j_lv [0] (lv' := [(0, .ref h)]) rfl ?_
    exact hK56 _ hIS_53 (by rw [eS_53]; exact dec3_le h4)
  refine j_ltl2 (fun L18 eL18 => ?_)
  have hL18 : ∀ (n18 : Nat) (C : Cst) (i1 : Nat) (hIC : IM C) (hi : i1 ≤ 321) (hfu : 322 ≤ i1 + n18) (h4 : C 3 0 = 4), J p l e (rml 0) s m args below meth c 2 D (va_A ws0 s.heap.size) 0 0 (KV below args s D (tyl cI cH cO) ws0 (fun C9 => (wM cI h ar C9))) (L18 n18 C i1) ((wM cI h ar C)) 18 [(0, .ref h), (1, .int (nI i1))] [] := by
    intro n18
    induction n18 with
    | zero =>
      intro C i1 hIC hi hfu h4
      exact absurd hfu (by omega)
    | succ n18 ih18 =>
      intro C i1 hIC hi hfu h4
      rw [eL18]
      refine j_iload_n X (pc' := 19) 1 dX5_changes_18 rfl rfl rfl ?_
      refine j_sipush X (v := 321) (pc' := 22) dX5_changes_19 (by decide) rfl ?_
      refine j_icmp_ge X (tgt := 46) (pc' := 25) dX5_changes_22 (by decide) rfl (fun c_22 => ?_) (fun c_22 => ?_)
      · have f_22 : 321 ≤ i1 := (nI_leI (a := 321) (b := i1) (by omega) (by omega)).mp c_22
        refine j_lv [0] (lv' := [(0, .ref h)]) rfl ?_
        exact hK46 _ hIC (by first | omega | assumption | decide | exact Decidable.byContradiction c_13 | (subst_vars; first | assumption | omega))
      · have f_22 : ¬ (321 ≤ i1) := fun h => c_22 ((nI_leI (a := 321) (b := i1) (by omega) (by omega)).mpr h)
        refine j_aload_n X (pc' := 26) 0 dX5_changes_25 rfl rfl rfl ?_
        refine j_get X inX5 rfl (pc' := 29) 0 1 q_fl_X5_13 (by decide) rfl rfl dX5_changes_26 rfl ?_
        refine j_iload_n X (pc' := 30) 1 dX5_changes_29 rfl rfl rfl ?_
        refine j_aload_n X (pc' := 31) 0 dX5_changes_30 rfl rfl rfl ?_
        refine j_get X inX5 rfl (pc' := 34) 0 1 q_fl_X5_13 (by decide) rfl rfl dX5_changes_31 rfl ?_
        refine j_iload_n X (pc' := 35) 1 dX5_changes_34 rfl rfl rfl ?_
        refine j_bipush X (v := 107) (pc' := 37) dX5_changes_35 (by decide) rfl ?_
        refine j_iaddN X (a := i1) (b := 107) (pc' := 38) dX5_changes_37 rfl ?_
        refine j_ialdN X (i := (i1 + 107)) (pc' := 39) 2 rfl (by omega) (by decide) dX5_changes_38 rfl ?_
        refine j_iastN X (i := i1) (pc' := 40) (S := up C 1 i1 (C 1 (i1 + 107))) (fun S_39 => (wM cI h ar S_39)) 2 rfl rfl (by omega) (by decide) dX5_changes_39 rfl (fun S_39 eS_39 => ?_)
        have hIS_39 : IM S_39 := by rw [eS_39]; exact IM_k (by decide) (by decide) (by decide) hIC
        refine j_iinc X (v := (nI (i1 + 1))) (lv' := [(0, .ref h), (1, .int (nI (i1 + 1)))]) (q := 1) (pc' := 43) [1, 0] dX5_changes_40 rfl (nI_1 i1) (by decide) rfl rfl ?_
        refine j_goto X (pc' := 18) dX5_changes_43 (by decide) ?_
        refine j_lv [0, 1] (lv' := [(0, .ref h), (1, .int (nI (i1 + 1)))]) rfl ?_
        exact ih18 _ _ hIS_39 (by first | omega | assumption | decide | exact Decidable.byContradiction c_13 | (subst_vars; first | assumption | omega)) (by first | omega | assumption | decide | exact Decidable.byContradiction c_13 | (subst_vars; first | assumption | omega)) (by first | omega | assumption | decide | exact Decidable.byContradiction c_13 | (subst_vars; first | assumption | omega))
  refine j_aload_n X (pc' := 1) 0 dX5_changes_0 rfl rfl rfl ?_
  refine j_get X inX5 rfl (pc' := 4) 0 4 q_fl_X5_31 (by decide) rfl rfl dX5_changes_1 rfl ?_
  refine j_if_eq X (tgt := 8) (pc' := 7) dX5_changes_4 (by decide) rfl (fun c_4 => ?_) (fun c_4 => ?_)
  · refine j_aload_n X (pc' := 9) 0 dX5_changes_8 rfl rfl rfl ?_
    refine j_get X inX5 rfl (pc' := 12) 0 3 q_fl_X5_35 (by decide) rfl rfl dX5_changes_9 rfl ?_
    refine j_iconst X (v := 4) (pc' := 13) dX5_changes_12 (by decide) rfl ?_
    refine j_icmp_ne X (tgt := 56) (pc' := 16) dX5_changes_13 (by decide) rfl (fun c_13 => ?_) (fun c_13 => ?_)
    · refine j_lv [0] (lv' := [(0, .ref h)]) rfl ?_
      exact hK56 _ hIC (i32_ne4 hIC.2.2.2.2.2.2.2.1 c_13)
    · refine j_iconst X (v := 0) (pc' := 17) dX5_changes_16 (by decide) rfl ?_
      refine j_istore_n X (lv' := [(0, .ref h), (1, .int 0)]) (pc' := 18) [1, 0] dX5_changes_17 rfl (by decide) rfl rfl ?_
      refine j_lv [0, 1] (lv' := [(0, .ref h), (1, .int 0)]) rfl ?_
      exact hL18 _ _ _ hIC (by first | omega | assumption | decide | exact Decidable.byContradiction c_13 | (subst_vars; first | assumption | omega)) (by first | omega | assumption | decide | exact Decidable.byContradiction c_13 | (subst_vars; first | assumption | omega)) (by first | omega | assumption | decide | exact Decidable.byContradiction c_13 | (subst_vars; first | assumption | omega))
  · exact j_vret X rfl dX5_changes_7
theorem c_X5_changes (l : Launch) (D : va_G) (cI cH cO : ClassId) (h : Nat) (ar : Nat → Nat) (C : Cst) (hIC : IM C) : MV l yX5_changes cX5_changes 2 0 D (tyl cI cH cO) [.ref h] ((wM cI h ar C)) ((wM cI h ar (sX5_changes C))) := fun sz => j_start (fun below s => (KV below [.ref h].toArray s D (tyl cI cH cO) ((wM cI h ar C)) (fun C9 => (wM cI h ar C9)))) (sX5_changes C) (by decide +kernel) rfl (Nat.le_of_ble_eq_true rfl) (fun below s hs _ => by subst hs; rfl) (fun p e s m below meth c hX9 X => b_X5_changes h ar C hIC X)
