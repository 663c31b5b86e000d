set_option maxHeartbeats 4000000 in
set_option maxRecDepth 100000 in
theorem b_X5_member {p : Program} {l : Launch} {e : Env} {s : State} {m : MethodId} {args : Array Value} {below : List Frame} {meth : Method} {c : Code} {D : va_G} {cI cH cO : ClassId} {ws0 : va_W} (h : Nat) (ar : Nat → Nat) (C : Cst) (x1 : Int32) (hIC : IM C) (X : CX p s m args meth c cX5_member 4 RX5 (some .int) D (tyl cI cH cO) (va_A ws0 s.heap.size)) : J p l e (rml 1) s m args below meth c 4 D (va_A ws0 s.heap.size) 0 0 (KI below args s D (tyl cI cH cO) ws0 (fun C9 => (wM cI h ar C9))) (sX5_member C x1) ((wM cI h ar C)) 0 [(0, .ref h), (1, .int x1)] [] := by
  unfold sX5_member
  refine j_ltv (fun K56 eK56 => ?_)
  have hK56 : ∀ (C : Cst) (x1 : Int32) (i2 : Nat) (hIC : IM C) (hi2 : i2 < 8) (h7 : C 0 5 = nI i2), J p l e (rml 1) s m args below meth c 4 D (va_A ws0 s.heap.size) 0 0 (KI below args s D (tyl cI cH cO) ws0 (fun C9 => (wM cI h ar C9))) (K56 C x1 i2) ((wM cI h ar C)) 56 [(0, .ref h), (1, .int x1), (2, .int (nI i2))] [] := by
    intro C x1 i2 hIC hi2 h7
    rw [eK56]
    refine j_aload_n X (pc' := 57) 0 dX5_member_56 rfl rfl rfl ?_
    refine j_iload_n X (pc' := 58) 2 dX5_member_57 rfl rfl rfl ?_
    refine j_iconst X (v := 0) (pc' := 59) dX5_member_58 (by decide) rfl ?_
    refine j_iload_n X (pc' := 60) 1 dX5_member_59 rfl rfl rfl ?_
    refine j_callVv X (pc' := 63) (As := [.int (nI i2), .int 0, .int x1]) (rest := []) (c_X5_puts l D cI cH cO h ar C i2 0 x1 (by first | omega | assumption | decide | (subst_vars; first | assumption | omega)) (by first | omega | assumption | decide | (subst_vars; first | assumption | omega))) wv_X5_60 ⟨0, 5, _, _, rfl, rfl, rfl⟩ ⟨by decide, by decide, by decide, by decide⟩ rfl rfl (Nat.le_of_ble_eq_true rfl) dX5_member_60 rfl ?_
    refine j_stL (S := (sX5_puts C i2 0 x1)) (fun S_60 => (wM cI h ar S_60)) (fun S_60 eS_60 => ?_)
    have hIS_60 : IM S_60 := by rw [eS_60]; exact IM_puts hIC
    refine j_aload_n X (pc' := 64) 0 dX5_member_63 rfl rfl rfl ?_
    refine j_get X inX5 rfl (pc' := 67) 0 0 q_fl_X5_7 (by decide) rfl rfl dX5_member_64 rfl ?_
    refine j_iconst X (v := 5) (pc' := 68) dX5_member_67 (by decide) rfl ?_
    refine j_dup2 X (pc' := 69) dX5_member_68 rfl rfl rfl ?_
    refine j_ialdN X (i := 5) (pc' := 70) 1 rfl (by omega) (by decide) dX5_member_69 rfl ?_
    refine j_iconst X (v := 1) (pc' := 71) dX5_member_70 (by decide) rfl ?_
    refine j_iadd X (pc' := 72) dX5_member_71 rfl ?_
    refine j_iastN X (i := 5) (pc' := 73) (S := up S_60 0 5 ((S_60 0 5) + 1)) (fun S_72 => (wM cI h ar S_72)) 1 rfl rfl (by omega) (by decide) dX5_member_72 rfl (fun S_72 eS_72 => ?_)
    have hIS_72 : IM S_72 := by rw [eS_72]; exact IM_inc5 (show S_60 0 5 = nI i2 by rw [eS_60, puts_05]; exact h7) hi2 hIS_60
    refine j_iload_n X (pc' := 74) 2 dX5_member_73 rfl rfl rfl ?_
    exact j_iretI X rfl rfl dX5_member_74
  refine j_ltl4 (fun L37 eL37 => ?_)
  have hL37 : ∀ (n37 : Nat) (C : Cst) (x1 : Int32) (i2 : Nat) (i3 : Nat) (hIC : IM C) (hi : i3 ≤ 8) (hfu : 9 ≤ i3 + n37) (hi2 : i2 < 8) (h7 : C 0 5 = nI i2), J p l e (rml 1) s m args below meth c 4 D (va_A ws0 s.heap.size) 0 0 (KI below args s D (tyl cI cH cO) ws0 (fun C9 => (wM cI h ar C9))) (L37 n37 C x1 i2 i3) ((wM cI h ar C)) 37 [(0, .ref h), (1, .int x1), (2, .int (nI i2)), (3, .int (nI i3))] [] := by
    intro n37
    induction n37 with
    | zero =>
      intro C x1 i2 i3 hIC hi hfu hi2 h7
      exact absurd hfu (by omega)
    | succ n37 ih37 =>
      intro C x1 i2 i3 hIC hi hfu hi2 h7
      rw [eL37]
      refine j_iload_n X (pc' := 38) 3 dX5_member_37 rfl rfl rfl ?_
      refine j_bipush X (v := 8) (pc' := 40) dX5_member_38 (by decide) rfl ?_
      refine j_icmp_ge X (tgt := 56) (pc' := 43) dX5_member_40 (by decide) rfl (fun c_40 => ?_) (fun c_40 => ?_)
      · have f_40 : 8 ≤ i3 := (nI_leI (a := 8) (b := i3) (by omega) (by omega)).mp c_40
        refine j_lv [0, 1, 2] (lv' := [(0, .ref h), (1, .int x1), (2, .int (nI i2))]) rfl ?_
        exact hK56 _ _ _ hIC (by first | omega | assumption | decide | (subst_vars; first | assumption | omega)) (by first | omega | assumption | decide | (subst_vars; first | assumption | omega))
      · have f_40 : ¬ (8 ≤ i3) := fun h => c_40 ((nI_leI (a := 8) (b := i3) (by omega) (by omega)).mpr h)
        refine j_aload_n X (pc' := 44) 0 dX5_member_43 rfl rfl rfl ?_
        refine j_iload_n X (pc' := 45) 2 dX5_member_44 rfl rfl rfl ?_
        refine j_iload_n X (pc' := 46) 3 dX5_member_45 rfl rfl rfl ?_
        refine j_iconst X (v := 0) (pc' := 47) dX5_member_46 (by decide) rfl ?_
        refine j_callVv X (pc' := 50) (As := [.int (nI i2), .int (nI i3), .int 0]) (rest := []) (c_X5_puts l D cI cH cO h ar C i2 i3 0 (by first | omega | assumption | decide | (subst_vars; first | assumption | omega)) (by first | omega | assumption | decide | (subst_vars; first | assumption | omega))) wv_X5_60 ⟨0, 5, _, _, rfl, rfl, rfl⟩ ⟨by decide, by decide, by decide, by decide⟩ rfl rfl (Nat.le_of_ble_eq_true rfl) dX5_member_47 rfl ?_
        refine j_stL (S := (sX5_puts C i2 i3 0)) (fun S_47 => (wM cI h ar S_47)) (fun S_47 eS_47 => ?_)
        have hIS_47 : IM S_47 := by rw [eS_47]; exact IM_puts hIC
        refine j_iinc X (v := (nI (i3 + 1))) (lv' := [(0, .ref h), (1, .int x1), (2, .int (nI i2)), (3, .int (nI (i3 + 1)))]) (q := 3) (pc' := 53) [1, 2, 3, 0] dX5_member_50 rfl (nI_1 i3) (by decide) rfl rfl ?_
        refine j_goto X (pc' := 37) dX5_member_53 (by decide) ?_
        refine j_lv [0, 1, 2, 3] (lv' := [(0, .ref h), (1, .int x1), (2, .int (nI i2)), (3, .int (nI (i3 + 1)))]) rfl ?_
        exact ih37 _ _ _ _ hIS_47 (by first | omega | assumption | decide | (subst_vars; first | assumption | omega)) (by first | omega | assumption | decide | (subst_vars; first | assumption | omega)) (by first | omega | assumption | decide | (subst_vars; first | assumption | omega)) (by rw [eS_47, puts_05]; exact h7)
  refine j_ltv (fun K31 eK31 => ?_)
  have hK31 : ∀ (C : Cst) (x1 : Int32) (i2 : Nat) (hIC : IM C) (hi2 : i2 < 8) (h7 : C 0 5 = nI i2), J p l e (rml 1) s m args below meth c 4 D (va_A ws0 s.heap.size) 0 0 (KI below args s D (tyl cI cH cO) ws0 (fun C9 => (wM cI h ar C9))) (K31 C x1 i2) ((wM cI h ar C)) 31 [(0, .ref h), (1, .int x1), (2, .int (nI i2))] [] := by
    intro C x1 i2 hIC hi2 h7
    rw [eK31]
    refine j_aload_n X (pc' := 32) 0 dX5_member_31 rfl rfl rfl ?_
    refine j_callVv X (pc' := 35) (As := []) (rest := []) (c_X5_changes l D cI cH cO h ar C hIC) wv_X5_57 ⟨0, 5, _, _, rfl, rfl, rfl⟩ ⟨by decide, by decide, by decide, by decide⟩ rfl rfl (Nat.le_of_ble_eq_true rfl) dX5_member_32 rfl ?_
    refine j_stL (S := (sX5_changes C)) (fun S_32 => (wM cI h ar S_32)) (fun S_32 eS_32 => ?_)
    have hIS_32 : IM S_32 := by rw [eS_32]; exact IM_changes hIC
    refine j_iconst X (v := 0) (pc' := 36) dX5_member_35 (by decide) rfl ?_
    refine j_istore_n X (lv' := [(0, .ref h), (1, .int x1), (2, .int (nI i2)), (3, .int 0)]) (pc' := 37) [1, 2, 3, 0] dX5_member_36 rfl (by decide) rfl rfl ?_
    refine j_lv [0, 1, 2, 3] (lv' := [(0, .ref h), (1, .int x1), (2, .int (nI i2)), (3, .int 0)]) rfl ?_
    exact hL37 _ _ _ _ _ hIS_32 (by first | omega | assumption | decide | (subst_vars; first | assumption | omega)) (by first | omega | assumption | decide | (subst_vars; first | assumption | omega)) (by first | omega | assumption | decide | (subst_vars; first | assumption | omega)) (by rw [eS_32, changes_0]; exact h7)
  refine j_iload_n X (pc' := 1) 1 dX5_member_0 rfl rfl rfl ?_
  refine j_iconst X (v := 0) (pc' := 2) dX5_member_1 (by decide) rfl ?_
  refine j_bipush X (v := 30) (pc' := 4) dX5_member_2 (by decide) rfl ?_
  refine j_callSiF X (pc' := 7) (As := [.int x1, .int 0, .int 30]) (rest := []) (ws' := (wM cI h ar C)) (wr := (wM cI h ar C)) [] [0, 1, 2, 3, 4, 5, 6, 7] [0, 1, 2, 3, 4, 5, 6, 7] rfl rfl ⟨by decide, by decide, by decide, by decide⟩ rfl (c_X5_in l D cI cH cO x1 0 30 ) ws_X5_53 ⟨by decide, by decide, by decide, by decide⟩ rfl rfl (Nat.le_of_ble_eq_true rfl) dX5_member_4 rfl ?_
  refine j_topL (fun r_4 er_4 => ?_)
  refine j_if_ne X (tgt := 14) (pc' := 10) dX5_member_7 (by decide) rfl (fun c_7 => ?_) (fun c_7 => ?_)
  · refine j_aload_n X (pc' := 15) 0 dX5_member_14 rfl rfl rfl ?_
    refine j_get X inX5 rfl (pc' := 18) 0 0 q_fl_X5_7 (by decide) rfl rfl dX5_member_15 rfl ?_
    refine j_iconst X (v := 5) (pc' := 19) dX5_member_18 (by decide) rfl ?_
    refine j_ialdN X (i := 5) (pc' := 20) 1 rfl (by omega) (by decide) dX5_member_19 rfl ?_
    refine j_istore_nL X (fun v2_20 => [(0, .ref h), (1, .int x1), (2, .int v2_20)]) [1, 2, 0] (pc' := 21) dX5_member_20 rfl (by decide) (fun _ => rfl) rfl (fun v2_20 ev2_20 => ?_)
    refine j_iload_n X (pc' := 22) 2 dX5_member_21 rfl rfl rfl ?_
    refine j_bipush X (v := 8) (pc' := 24) dX5_member_22 (by decide) rfl ?_
    refine j_icmp_ne X (tgt := 31) (pc' := 27) dX5_member_24 (by decide) rfl (fun c_24 => ?_) (fun c_24 => ?_)
    · obtain ⟨j_24, hj_24, ej_24⟩ : ∃ j : Nat, j < 8 ∧ v2_20 = nI j := mb_in hIC.1 hIC.2.1 ev2_20 c_24
      subst ej_24
      rw [nI_clamp (show j_24 < 2 ^ 31 by omega)]
      refine j_lv [0, 1, 2] (lv' := _) rfl ?_
      exact hK31 _ _ _ hIC (by first | omega | assumption | decide | (subst_vars; first | assumption | omega)) (by rw [ev2_20])
    · refine j_sipush X (v := (-10003)) (pc' := 30) dX5_member_27 (by decide) rfl ?_
      exact j_iretI X rfl rfl dX5_member_30
  · refine j_sipush X (v := (-10001)) (pc' := 13) dX5_member_10 (by decide) rfl ?_
    exact j_iretI X rfl rfl dX5_member_13
theorem c_X5_member (l : Launch) (D : va_G) (cI cH cO : ClassId) (h : Nat) (ar : Nat → Nat) (C : Cst) (x1 : Int32) (hIC : IM C) : MI l yX5_member cX5_member 4 (some .int) 1 D (tyl cI cH cO) [.ref h, .int x1] ((wM cI h ar C)) (sX5_member C x1).1 ((wM cI h ar ((sX5_member C x1).2))) := fun sz => j_start (fun below s => (KI below [.ref h, .int x1].toArray s D (tyl cI cH cO) ((wM cI h ar C)) (fun C9 => (wM cI h ar C9)))) (sX5_member C x1) (by decide +kernel) rfl (Nat.le_of_ble_eq_true rfl) (fun below s hs _ => by subst hs; rfl) (fun p e s m below meth c hX9 X => b_X5_member h ar C x1 hIC X)
set_option maxHeartbeats 4000000 in
set_option maxRecDepth 100000 in
theorem b_X5_use {p : Program} {l : Launch} {e : Env} {s : State} {m : MethodId} {args : Array Value} {below : List Frame} {meth : Method} {c : Code} {D : va_G} {cI cH cO : ClassId} {ws0 : va_W} (h : Nat) (ar : Nat → Nat) (C : Cst) (x1 : Int32) (x2 : Int32) (hIC : IM C) (X : CX p s m args meth c cX5_use 3 RX5 (some .int) D (tyl cI cH cO) (va_A ws0 s.heap.size)) : J p l e (rml 3) s m args below meth c 3 D (va_A ws0 s.heap.size) 0 0 (KI below args s D (tyl cI cH cO) ws0 (fun C9 => (wM cI h ar C9))) (sX5_use C x1 x2) ((wM cI h ar C)) 0 [(0, .ref h), (1, .int x1), (2, .int x2)] [] := by
  unfold sX5_use
  refine j_ltv (fun K22 eK22 => ?_)
  have hK22 : ∀ (C : Cst) (i1 : Nat) (x2 : Int32) (hIC : IM C) (hi1 : i1 < 8), J p l e (rml 3) s m args below meth c 3 D (va_A ws0 s.heap.size) 0 0 (KI below args s D (tyl cI cH cO) ws0 (fun C9 => (wM cI h ar C9))) (K22 C i1 x2) ((wM cI h ar C)) 22 [(0, .ref h), (1, .int (nI i1)), (2, .int x2)] [] := by
    intro C i1 x2 hIC hi1
    rw [eK22]
    refine j_aload_n X (pc' := 23) 0 dX5_use_22 rfl rfl rfl ?_
    refine j_iload_n X (pc' := 24) 1 dX5_use_23 rfl rfl rfl ?_
    refine j_bipush X (v := 6) (pc' := 26) dX5_use_24 (by decide) rfl ?_
    refine j_callVi X (pc' := 29) (As := [.int (nI i1), .int 6]) (rest := []) (c_X5_of l D cI cH cO h ar C i1 6 (by first | omega | assumption | decide | (subst_vars; first | assumption | omega)) (by first | omega | assumption | decide | (subst_vars; first | assumption | omega))) wv_X5_39 ⟨0, 5, _, _, rfl, rfl, rfl⟩ ⟨by decide, by decide, by decide, by decide⟩ rfl rfl (Nat.le_of_ble_eq_true rfl) dX5_use_26 rfl ?_
    refine j_topL (fun r_26 er_26 => ?_)
    refine j_iconst X (v := 1) (pc' := 30) dX5_use_29 (by decide) rfl ?_
    refine j_icmp_ne X (tgt := 37) (pc' := 33) dX5_use_30 (by decide) rfl (fun c_30 => ?_) (fun c_30 => ?_)
    · refine j_aload_n X (pc' := 38) 0 dX5_use_37 rfl rfl rfl ?_
      refine j_callVv X (pc' := 41) (As := []) (rest := []) (c_X5_changes l D cI cH cO h ar C hIC) wv_X5_57 ⟨0, 5, _, _, rfl, rfl, rfl⟩ ⟨by decide, by decide, by decide, by decide⟩ rfl rfl (Nat.le_of_ble_eq_true rfl) dX5_use_38 rfl ?_
      refine j_stL (S := (sX5_changes C)) (fun S_38 => (wM cI h ar S_38)) (fun S_38 eS_38 => ?_)
      have hIS_38 : IM S_38 := by rw [eS_38]; exact IM_changes hIC
      refine j_aload_n X (pc' := 42) 0 dX5_use_41 rfl rfl rfl ?_
      refine j_iload_n X (pc' := 43) 1 dX5_use_42 rfl rfl rfl ?_
      refine j_iconst X (v := 1) (pc' := 44) dX5_use_43 (by decide) rfl ?_
      refine j_iload_n X (pc' := 45) 2 dX5_use_44 rfl rfl rfl ?_
      refine j_callVv X (pc' := 48) (As := [.int (nI i1), .int 1, .int x2]) (rest := []) (c_X5_puts l D cI cH cO h ar S_38 i1 1 x2 (by first | omega | assumption | decide | (subst_vars; first | assumption | omega)) (by first | omega | assumption | decide | (subst_vars; first | assumption | omega))) wv_X5_60 ⟨0, 5, _, _, rfl, rfl, rfl⟩ ⟨by decide, by decide, by decide, by decide⟩ rfl rfl (Nat.le_of_ble_eq_true rfl) dX5_use_45 rfl ?_
      refine j_stL (S := (sX5_puts S_38 i1 1 x2)) (fun S_45 => (wM cI h ar S_45)) (fun S_45 eS_45 => ?_)
      have hIS_45 : IM S_45 := by rw [eS_45]; exact IM_puts hIS_38
      refine j_aload_n X (pc' := 49) 0 dX5_use_48 rfl rfl rfl ?_
      refine j_iload_n X (pc' := 50) 1 dX5_use_49 rfl rfl rfl ?_
      refine j_iload_n X (pc' := 51) 2 dX5_use_50 rfl rfl rfl ?_
      refine j_callVi X (pc' := 54) (As := [.int (nI i1), .int x2]) (rest := []) (c_X5_chargeFor l D cI cH cO h ar S_45 (nI i1) x2 hIS_45) wv_X5_68 ⟨0, 5, _, _, rfl, rfl, rfl⟩ ⟨by decide, by decide, by decide, by decide⟩ rfl rfl (Nat.le_of_ble_eq_true rfl) dX5_use_51 rfl ?_
      refine j_topL (fun r_51 er_51 => ?_)
      exact j_iretI X rfl rfl dX5_use_54
    · refine j_sipush X (v := (-10002)) (pc' := 36) dX5_use_33 (by decide) rfl ?_
      exact j_iretI X rfl rfl dX5_use_36
  refine j_aload_n X (pc' := 1) 0 dX5_use_0 rfl rfl rfl ?_
  refine j_iload_n X (pc' := 2) 1 dX5_use_1 rfl rfl rfl ?_
  refine j_callVi X (pc' := 5) (As := [.int x1]) (rest := []) (c_X5_isMember l D cI cH cO h ar C x1 ) wv_X5_64 ⟨0, 5, _, _, rfl, rfl, rfl⟩ ⟨by decide, by decide, by decide, by decide⟩ rfl rfl (Nat.le_of_ble_eq_true rfl) dX5_use_2 rfl ?_
  refine j_topL (fun r_2 er_2 => ?_)
  refine j_if_eq X (tgt := 18) (pc' := 8) dX5_use_5 (by decide) rfl (fun c_5 => ?_) (fun c_5 => ?_)
  · refine j_sipush X (v := (-10001)) (pc' := 21) dX5_use_18 (by decide) rfl ?_
    exact j_iretI X rfl rfl dX5_use_21
  · refine j_iload_n X (pc' := 9) 2 dX5_use_8 rfl rfl rfl ?_
    refine j_iconst X (v := 0) (pc' := 10) dX5_use_9 (by decide) rfl ?_
    refine j_bipush X (v := 20) (pc' := 12) dX5_use_10 (by decide) rfl ?_
    refine j_callSiF X (pc' := 15) (As := [.int x2, .int 0, .int 20]) (rest := []) (ws' := (wM cI h ar C)) (wr := (wM cI h ar C)) [] [0, 1, 2, 3, 4, 5, 6, 7] [0, 1, 2, 3, 4, 5, 6, 7] rfl rfl ⟨by decide, by decide, by decide, by decide⟩ rfl (c_X5_in l D cI cH cO x2 0 20 ) ws_X5_53 ⟨by decide, by decide, by decide, by decide⟩ rfl rfl (Nat.le_of_ble_eq_true rfl) dX5_use_12 rfl ?_
    refine j_topL (fun r_12 er_12 => ?_)
    refine j_if_ne X (tgt := 22) (pc' := 18) dX5_use_15 (by decide) rfl (fun c_15 => ?_) (fun c_15 => ?_)
    · obtain ⟨j_15, hj_15, ej_15⟩ : ∃ j : Nat, j < 8 ∧ x1 = nI j := vp_in_of (mem_in er_2 c_5 hIC.2.1) (by decide)
      subst ej_15
      rw [nI_clamp (show j_15 < 2 ^ 31 by omega)]
      refine j_lv [0, 1, 2] (lv' := _) rfl ?_
      exact hK22 _ _ _ hIC (by first | omega | assumption | decide | (subst_vars; first | assumption | omega))
    · refine j_sipush X (v := (-10001)) (pc' := 21) dX5_use_18 (by decide) rfl ?_
      exact j_iretI X rfl rfl dX5_use_21
theorem c_X5_use (l : Launch) (D : va_G) (cI cH cO : ClassId) (h : Nat) (ar : Nat → Nat) (C : Cst) (x1 : Int32) (x2 : Int32) (hIC : IM C) : MI l yX5_use cX5_use 3 (some .int) 3 D (tyl cI cH cO) [.ref h, .int x1, .int x2] ((wM cI h ar C)) (sX5_use C x1 x2).1 ((wM cI h ar ((sX5_use C x1 x2).2))) := fun sz => j_start (fun below s => (KI below [.ref h, .int x1, .int x2].toArray s D (tyl cI cH cO) ((wM cI h ar C)) (fun C9 => (wM cI h ar C9)))) (sX5_use C x1 x2) (by decide +kernel) rfl (Nat.le_of_ble_eq_true rfl) (fun below s hs _ => by subst hs; rfl) (fun p e s m below meth c hX9 X => b_X5_use h ar C x1 x2 hIC X)
set_option maxHeartbeats 4000000 in
set_option maxRecDepth 100000 in
theorem b_X5_pay {p : Program} {l : Launch} {e : Env} {s : State} {m : MethodId} {args : Array Value} {below : List Frame} {meth : Method} {c : Code} {D : va_G} {cI cH cO : ClassId} {ws0 : va_W} (h : Nat) (ar : Nat → Nat) (C : Cst) (x1 : Int32) (x2 : Int32) (hIC : IM C) (X : CX p s m args meth c cX5_pay 3 RX5 (some .int) D (tyl cI cH cO) (va_A ws0 s.heap.size)) : J p l e (rml 1) s m args below meth c 3 D (va_A ws0 s.heap.size) 0 0 (KI below args s D (tyl cI cH cO) ws0 (fun C9 => (wM cI h ar C9))) (sX5_pay C x1 x2) ((wM cI h ar C)) 0 [(0, .ref h), (1, .int x1), (2, .int x2)] [] := by
  unfold sX5_pay
  refine j_ltv (fun K23 eK23 => ?_)
  have hK23 : ∀ (C : Cst) (i1 : Nat) (x2 : Int32) (hIC : IM C) (hi1 : i1 < 8), J p l e (rml 1) s m args below meth c 3 D (va_A ws0 s.heap.size) 0 0 (KI below args s D (tyl cI cH cO) ws0 (fun C9 => (wM cI h ar C9))) (K23 C i1 x2) ((wM cI h ar C)) 23 [(0, .ref h), (1, .int (nI i1)), (2, .int x2)] [] := by
    intro C i1 x2 hIC hi1
    rw [eK23]
    refine j_aload_n X (pc' := 24) 0 dX5_pay_23 rfl rfl rfl ?_
    refine j_iload_n X (pc' := 25) 1 dX5_pay_24 rfl rfl rfl ?_
    refine j_iconst X (v := 2) (pc' := 26) dX5_pay_25 (by decide) rfl ?_
    refine j_callVi X (pc' := 29) (As := [.int (nI i1), .int 2]) (rest := []) (c_X5_of l D cI cH cO h ar C i1 2 (by first | omega | assumption | decide | (subst_vars; first | assumption | omega)) (by first | omega | assumption | decide | (subst_vars; first | assumption | omega))) wv_X5_39 ⟨0, 5, _, _, rfl, rfl, rfl⟩ ⟨by decide, by decide, by decide, by decide⟩ rfl rfl (Nat.le_of_ble_eq_true rfl) dX5_pay_26 rfl ?_
    refine j_topL (fun r_26 er_26 => ?_)
    refine j_iload_n X (pc' := 30) 2 dX5_pay_29 rfl rfl rfl ?_
    refine j_icmp_ge X (tgt := 37) (pc' := 33) dX5_pay_30 (by decide) rfl (fun c_30 => ?_) (fun c_30 => ?_)
    · refine j_aload_n X (pc' := 38) 0 dX5_pay_37 rfl rfl rfl ?_
      refine j_callVv X (pc' := 41) (As := []) (rest := []) (c_X5_changes l D cI cH cO h ar C hIC) wv_X5_57 ⟨0, 5, _, _, rfl, rfl, rfl⟩ ⟨by decide, by decide, by decide, by decide⟩ rfl rfl (Nat.le_of_ble_eq_true rfl) dX5_pay_38 rfl ?_
      refine j_stL (S := (sX5_changes C)) (fun S_38 => (wM cI h ar S_38)) (fun S_38 eS_38 => ?_)
      have hIS_38 : IM S_38 := by rw [eS_38]; exact IM_changes hIC
      refine j_aload_n X (pc' := 42) 0 dX5_pay_41 rfl rfl rfl ?_
      refine j_iload_n X (pc' := 43) 1 dX5_pay_42 rfl rfl rfl ?_
      refine j_iconst X (v := 2) (pc' := 44) dX5_pay_43 (by decide) rfl ?_
      refine j_aload_n X (pc' := 45) 0 dX5_pay_44 rfl rfl rfl ?_
      refine j_iload_n X (pc' := 46) 1 dX5_pay_45 rfl rfl rfl ?_
      refine j_iconst X (v := 2) (pc' := 47) dX5_pay_46 (by decide) rfl ?_
      refine j_callVi X (pc' := 50) (As := [.int (nI i1), .int 2]) (rest := [.int 2, .int (nI i1), .ref h]) (c_X5_of l D cI cH cO h ar S_38 i1 2 (by first | omega | assumption | decide | (subst_vars; first | assumption | omega)) (by first | omega | assumption | decide | (subst_vars; first | assumption | omega))) wv_X5_39 ⟨0, 5, _, _, rfl, rfl, rfl⟩ ⟨by decide, by decide, by decide, by decide⟩ rfl rfl (Nat.le_of_ble_eq_true rfl) dX5_pay_47 rfl ?_
      refine j_topL (fun r_47 er_47 => ?_)
      refine j_iload_n X (pc' := 51) 2 dX5_pay_50 rfl rfl rfl ?_
      refine j_isub X (pc' := 52) dX5_pay_51 rfl ?_
      refine j_callVv X (pc' := 55) (As := [.int (nI i1), .int 2, .int (r_47 - x2)]) (rest := []) (c_X5_puts l D cI cH cO h ar S_38 i1 2 (r_47 - x2) (by first | omega | assumption | decide | (subst_vars; first | assumption | omega)) (by first | omega | assumption | decide | (subst_vars; first | assumption | omega))) wv_X5_60 ⟨0, 5, _, _, rfl, rfl, rfl⟩ ⟨by decide, by decide, by decide, by decide⟩ rfl rfl (Nat.le_of_ble_eq_true rfl) dX5_pay_52 rfl ?_
      refine j_stL (S := (sX5_puts S_38 i1 2 (r_47 - x2))) (fun S_52 => (wM cI h ar S_52)) (fun S_52 eS_52 => ?_)
      have hIS_52 : IM S_52 := by rw [eS_52]; exact IM_puts hIS_38
      refine j_aload_n X (pc' := 56) 0 dX5_pay_55 rfl rfl rfl ?_
      refine j_iload_n X (pc' := 57) 1 dX5_pay_56 rfl rfl rfl ?_
      refine j_iconst X (v := 3) (pc' := 58) dX5_pay_57 (by decide) rfl ?_
      refine j_aload_n X (pc' := 59) 0 dX5_pay_58 rfl rfl rfl ?_
      refine j_iload_n X (pc' := 60) 1 dX5_pay_59 rfl rfl rfl ?_
      refine j_iconst X (v := 3) (pc' := 61) dX5_pay_60 (by decide) rfl ?_
      refine j_callVi X (pc' := 64) (As := [.int (nI i1), .int 3]) (rest := [.int 3, .int (nI i1), .ref h]) (c_X5_of l D cI cH cO h ar S_52 i1 3 (by first | omega | assumption | decide | (subst_vars; first | assumption | omega)) (by first | omega | assumption | decide | (subst_vars; first | assumption | omega))) wv_X5_39 ⟨0, 5, _, _, rfl, rfl, rfl⟩ ⟨by decide, by decide, by decide, by decide⟩ rfl rfl (Nat.le_of_ble_eq_true rfl) dX5_pay_61 rfl ?_
      refine j_topL (fun r_61 er_61 => ?_)
      refine j_iload_n X (pc' := 65) 2 dX5_pay_64 rfl rfl rfl ?_
      refine j_iadd X (pc' := 66) dX5_pay_65 rfl ?_
      refine j_callVv X (pc' := 69) (As := [.int (nI i1), .int 3, .int (r_61 + x2)]) (rest := []) (c_X5_puts l D cI cH cO h ar S_52 i1 3 (r_61 + x2) (by first | omega | assumption | decide | (subst_vars; first | assumption | omega)) (by first | omega | assumption | decide | (subst_vars; first | assumption | omega))) wv_X5_60 ⟨0, 5, _, _, rfl, rfl, rfl⟩ ⟨by decide, by decide, by decide, by decide⟩ rfl rfl (Nat.le_of_ble_eq_true rfl) dX5_pay_66 rfl ?_
      refine j_stL (S := (sX5_puts S_52 i1 3 (r_61 + x2))) (fun S_66 => (wM cI h ar S_66)) (fun S_66 eS_66 => ?_)
      have hIS_66 : IM S_66 := by rw [eS_66]; exact IM_puts hIS_52
      refine j_aload_n X (pc' := 70) 0 dX5_pay_69 rfl rfl rfl ?_
      refine j_get X inX5 rfl (pc' := 73) 0 0 q_fl_X5_7 (by decide) rfl rfl dX5_pay_70 rfl ?_
      refine j_bipush X (v := 8) (pc' := 75) dX5_pay_73 (by decide) rfl ?_
      refine j_dup2 X (pc' := 76) dX5_pay_75 rfl rfl rfl ?_
      refine j_ialdN X (i := 8) (pc' := 77) 1 rfl (by omega) (by decide) dX5_pay_76 rfl ?_
      refine j_iload_n X (pc' := 78) 2 dX5_pay_77 rfl rfl rfl ?_
      refine j_iadd X (pc' := 79) dX5_pay_78 rfl ?_
      refine j_iastN X (i := 8) (pc' := 80) (S := up S_66 0 8 ((S_66 0 8) + x2)) (fun S_79 => (wM cI h ar S_79)) 1 rfl rfl (by omega) (by decide) dX5_pay_79 rfl (fun S_79 eS_79 => ?_)
      have hIS_79 : IM S_79 := by rw [eS_79]; exact IM_0 (by omega) (by omega) (by omega) (by omega) hIS_66
      refine j_aload_n X (pc' := 81) 0 dX5_pay_80 rfl rfl rfl ?_
      refine j_iload_n X (pc' := 82) 1 dX5_pay_81 rfl rfl rfl ?_
      refine j_iconst X (v := 2) (pc' := 83) dX5_pay_82 (by decide) rfl ?_
      refine j_callVi X (pc' := 86) (As := [.int (nI i1), .int 2]) (rest := []) (c_X5_of l D cI cH cO h ar S_79 i1 2 (by first | omega | assumption | decide | (subst_vars; first | assumption | omega)) (by first | omega | assumption | decide | (subst_vars; first | assumption | omega))) wv_X5_39 ⟨0, 5, _, _, rfl, rfl, rfl⟩ ⟨by decide, by decide, by decide, by decide⟩ rfl rfl (Nat.le_of_ble_eq_true rfl) dX5_pay_83 rfl ?_
      refine j_topL (fun r_83 er_83 => ?_)
      exact j_iretI X rfl rfl dX5_pay_86
    · refine j_sipush X (v := (-10002)) (pc' := 36) dX5_pay_33 (by decide) rfl ?_
      exact j_iretI X rfl rfl dX5_pay_36
  refine j_aload_n X (pc' := 1) 0 dX5_pay_0 rfl rfl rfl ?_
  refine j_iload_n X (pc' := 2) 1 dX5_pay_1 rfl rfl rfl ?_
  refine j_callVi X (pc' := 5) (As := [.int x1]) (rest := []) (c_X5_isMember l D cI cH cO h ar C x1 ) wv_X5_64 ⟨0, 5, _, _, rfl, rfl, rfl⟩ ⟨by decide, by decide, by decide, by decide⟩ rfl rfl (Nat.le_of_ble_eq_true rfl) dX5_pay_2 rfl ?_
  refine j_topL (fun r_2 er_2 => ?_)
  refine j_if_eq X (tgt := 19) (pc' := 8) dX5_pay_5 (by decide) rfl (fun c_5 => ?_) (fun c_5 => ?_)
  · refine j_sipush X (v := (-10001)) (pc' := 22) dX5_pay_19 (by decide) rfl ?_
    exact j_iretI X rfl rfl dX5_pay_22
  · refine j_iload_n X (pc' := 9) 2 dX5_pay_8 rfl rfl rfl ?_
    refine j_iconst X (v := 1) (pc' := 10) dX5_pay_9 (by decide) rfl ?_
    refine j_sipush X (v := 999) (pc' := 13) dX5_pay_10 (by decide) rfl ?_
    refine j_callSiF X (pc' := 16) (As := [.int x2, .int 1, .int 999]) (rest := []) (ws' := (wM cI h ar C)) (wr := (wM cI h ar C)) [] [0, 1, 2, 3, 4, 5, 6, 7] [0, 1, 2, 3, 4, 5, 6, 7] rfl rfl ⟨by decide, by decide, by decide, by decide⟩ rfl (c_X5_in l D cI cH cO x2 1 999 ) ws_X5_53 ⟨by decide, by decide, by decide, by decide⟩ rfl rfl (Nat.le_of_ble_eq_true rfl) dX5_pay_13 rfl ?_
    refine j_topL (fun r_13 er_13 => ?_)
    refine j_if_ne X (tgt := 23) (pc' := 19) dX5_pay_16 (by decide) rfl (fun c_16 => ?_) (fun c_16 => ?_)
    · obtain ⟨j_16, hj_16, ej_16⟩ : ∃ j : Nat, j < 8 ∧ x1 = nI j := vp_in_of (mem_in er_2 c_5 hIC.2.1) (by decide)
      subst ej_16
      rw [nI_clamp (show j_16 < 2 ^ 31 by omega)]
      refine j_lv [0, 1, 2] (lv' := _) rfl ?_
      exact hK23 _ _ _ hIC (by first | omega | assumption | decide | (subst_vars; first | assumption | omega))
    · refine j_sipush X (v := (-10001)) (pc' := 22) dX5_pay_19 (by decide) rfl ?_
      exact j_iretI X rfl rfl dX5_pay_22
theorem c_X5_pay (l : Launch) (D : va_G) (cI cH cO : ClassId) (h : Nat) (ar : Nat → Nat) (C : Cst) (x1 : Int32) (x2 : Int32) (hIC : IM C) : MI l yX5_pay cX5_pay 3 (some .int) 1 D (tyl cI cH cO) [.ref h, .int x1, .int x2] ((wM cI h ar C)) (sX5_pay C x1 x2).1 ((wM cI h ar ((sX5_pay C x1 x2).2))) := fun sz => j_start (fun below s => (KI below [.ref h, .int x1, .int x2].toArray s D (tyl cI cH cO) ((wM cI h ar C)) (fun C9 => (wM cI h ar C9)))) (sX5_pay C x1 x2) (by decide +kernel) rfl (Nat.le_of_ble_eq_true rfl) (fun below s hs _ => by subst hs; rfl) (fun p e s m below meth c hX9 X => b_X5_pay h ar C x1 x2 hIC X)
set_option maxHeartbeats 4000000 in
set_option maxRecDepth 100000 in
theorem b_X5_set {p : Program} {l : Launch} {e : Env} {s : State} {m : MethodId} {args : Array Value} {below : List Frame} {meth : Method} {c : Code} {D : va_G} {cI cH cO : ClassId} {ws0 : va_W} (h : Nat) (ar : Nat → Nat) (C : Cst) (x1 : Int32) (x2 : Int32) (hIC : IM C) (X : CX p s m args meth c cX5_set 6 RX5 (some .int) D (tyl cI cH cO) (va_A ws0 s.heap.size)) : J p l e (rml 1) s m args below meth c 6 D (va_A ws0 s.heap.size) 0 0 (KI below args s D (tyl cI cH cO) ws0 (fun C9 => (wM cI h ar C9))) (sX5_set C x1 x2) ((wM cI h ar C)) 0 [(0, .ref h), (1, .int x1), (2, .int x2)] [] := by
  unfold sX5_set
  refine j_ltv (fun K83 eK83 => ?_)
  have hK83 : ∀ (C : Cst) (i1 : Nat) (x2 : Int32) (hIC : IM C) (hi1 : i1 < 5), J p l e (rml 1) s m args below meth c 6 D (va_A ws0 s.heap.size) 0 0 (KI below args s D (tyl cI cH cO) ws0 (fun C9 => (wM cI h ar C9))) (K83 C i1 x2) ((wM cI h ar C)) 83 [(0, .ref h), (1, .int (nI i1)), (2, .int x2)] [] := by
    intro C i1 x2 hIC hi1
    rw [eK83]
    refine j_aload_n X (pc' := 84) 0 dX5_set_83 rfl rfl rfl ?_
    refine j_callVv X (pc' := 87) (As := []) (rest := []) (c_X5_changes l D cI cH cO h ar C hIC) wv_X5_57 ⟨0, 5, _, _, rfl, rfl, rfl⟩ ⟨by decide, by decide, by decide, by decide⟩ rfl rfl (Nat.le_of_ble_eq_true rfl) dX5_set_84 rfl ?_
    refine j_stL (S := (sX5_changes C)) (fun S_84 => (wM cI h ar S_84)) (fun S_84 eS_84 => ?_)
    have hIS_84 : IM S_84 := by rw [eS_84]; exact IM_changes hIC
    refine j_aload_n X (pc' := 88) 0 dX5_set_87 rfl rfl rfl ?_
    refine j_get X inX5 rfl (pc' := 91) 0 0 q_fl_X5_7 (by decide) rfl rfl dX5_set_88 rfl ?_
    refine j_iload_n X (pc' := 92) 1 dX5_set_91 rfl rfl rfl ?_
    refine j_ialdN X (i := i1) (pc' := 93) 1 rfl (by omega) (by decide) dX5_set_92 rfl ?_
    refine j_istoreL X (fun v5_93 => [(0, .ref h), (1, .int (nI i1)), (2, .int x2), (5, .int v5_93)]) [1, 2, 3, 0] (pc' := 95) dX5_set_93  (by decide) (fun _ => rfl) rfl (fun v5_93 ev5_93 => ?_)
    refine j_aload_n X (pc' := 96) 0 dX5_set_95 rfl rfl rfl ?_
    refine j_get X inX5 rfl (pc' := 99) 0 0 q_fl_X5_7 (by decide) rfl rfl dX5_set_96 rfl ?_
    refine j_iload_n X (pc' := 100) 1 dX5_set_99 rfl rfl rfl ?_
    refine j_iload_n X (pc' := 101) 2 dX5_set_100 rfl rfl rfl ?_
    refine j_iastN X (i := i1) (pc' := 102) (S := up S_84 0 i1 x2) (fun S_101 => (wM cI h ar S_101)) 1 rfl rfl (by omega) (by decide) dX5_set_101 rfl (fun S_101 eS_101 => ?_)
    refine j_iload X (pc' := 104) 3 dX5_set_102 rfl rfl ?_
    exact j_iretI X rfl rfl dX5_set_104
  refine j_ltv (fun K58 eK58 => ?_)
  have hK58 : ∀ (C : Cst) (x1 : Int32) (x2 : Int32) (x3 : Int32) (t0 : Int32) (hIC : IM C), J p l e (rml 1) s m args below meth c 6 D (va_A ws0 s.heap.size) 0 0 (KI below args s D (tyl cI cH cO) ws0 (fun C9 => (wM cI h ar C9))) (K58 C x1 x2 x3 t0) ((wM cI h ar C)) 58 [(0, .ref h), (1, .int x1), (2, .int x2), (3, .int x3)] [.int t0] := by
    intro C x1 x2 x3 t0 hIC
    rw [eK58]
    refine j_istore X (lv' := [(0, .ref h), (1, .int x1), (2, .int x2), (3, .int x3), (4, .int t0)]) (pc' := 60) [1, 2, 3, 4, 0] dX5_set_58 (by decide) rfl rfl ?_
    refine j_iload_n X (pc' := 61) 1 dX5_set_60 rfl rfl rfl ?_
    refine j_iconst X (v := 0) (pc' := 62) dX5_set_61 (by decide) rfl ?_
    refine j_iconst X (v := 4) (pc' := 63) dX5_set_62 (by decide) rfl ?_
    refine j_callSiF X (pc' := 66) (As := [.int x1, .int 0, .int 4]) (rest := []) (ws' := (wM cI h ar C)) (wr := (wM cI h ar C)) [] [0, 1, 2, 3, 4, 5, 6, 7] [0, 1, 2, 3, 4, 5, 6, 7] rfl rfl ⟨by decide, by decide, by decide, by decide⟩ rfl (c_X5_in l D cI cH cO x1 0 4 ) ws_X5_53 ⟨by decide, by decide, by decide, by decide⟩ rfl rfl (Nat.le_of_ble_eq_true rfl) dX5_set_63 rfl ?_
    refine j_topL (fun r_63 er_63 => ?_)
    refine j_if_eq X (tgt := 79) (pc' := 69) dX5_set_66 (by decide) rfl (fun c_66 => ?_) (fun c_66 => ?_)
    · refine j_sipush X (v := (-10001)) (pc' := 82) dX5_set_79 (by decide) rfl ?_
      exact j_iretI X rfl rfl dX5_set_82
    · refine j_iload_n X (pc' := 70) 2 dX5_set_69 rfl rfl rfl ?_
      refine j_iload_n X (pc' := 71) 3 dX5_set_70 rfl rfl rfl ?_
      refine j_iload X (pc' := 73) 4 dX5_set_71 rfl rfl ?_
      refine j_callSiF X (pc' := 76) (As := [.int x2, .int x3, .int t0]) (rest := []) (ws' := (wM cI h ar C)) (wr := (wM cI h ar C)) [] [0, 1, 2, 3, 4, 5, 6, 7] [0, 1, 2, 3, 4, 5, 6, 7] rfl rfl ⟨by decide, by decide, by decide, by decide⟩ rfl (c_X5_in l D cI cH cO x2 x3 t0 ) ws_X5_53 ⟨by decide, by decide, by decide, by decide⟩ rfl rfl (Nat.le_of_ble_eq_true rfl) dX5_set_73 rfl ?_
      refine j_topL (fun r_73 er_73 => ?_)
      refine j_if_ne X (tgt := 83) (pc' := 79) dX5_set_76 (by decide) rfl (fun c_76 => ?_) (fun c_76 => ?_)
      · obtain ⟨j_76, hj_76, ej_76⟩ : ∃ j : Nat, j < 5 ∧ x1 = nI j := in_of (N := 4) er_63 c_66 (by decide)
        subst ej_76
        rw [nI_clamp (show j_76 < 2 ^ 31 by omega)]
        refine j_lv [0, 1, 2] (lv' := _) rfl ?_
        exact hK83 _ _ _ hIC (by first | omega | assumption | decide | (subst_vars; first | assumption | omega))
      · refine j_sipush X (v := (-10001)) (pc' := 82) dX5_set_79 (by decide) rfl ?_
        exact j_iretI X rfl rfl dX5_set_82
  refine j_ltv (fun K14 eK14 => ?_)
  have hK14 : ∀ (C : Cst) (x1 : Int32) (x2 : Int32) (t0 : Int32) (hIC : IM C), J p l e (rml 1) s m args below meth c 6 D (va_A ws0 s.heap.size) 0 0 (KI below args s D (tyl cI cH cO) ws0 (fun C9 => (wM cI h ar C9))) (K14 C x1 x2 t0) ((wM cI h ar C)) 14 [(0, .ref h), (1, .int x1), (2, .int x2)] [.int t0] := by
    intro C x1 x2 t0 hIC
    rw [eK14]
    refine j_istore_n X (lv' := [(0, .ref h), (1, .int x1), (2, .int x2), (3, .int t0)]) (pc' := 15) [1, 2, 3, 0] dX5_set_14 rfl (by decide) rfl rfl ?_
    refine j_iload_n X (pc' := 16) 1 dX5_set_15 rfl rfl rfl ?_
    refine j_if_ne X (tgt := 25) (pc' := 19) dX5_set_16 (by decide) rfl (fun c_16 => ?_) (fun c_16 => ?_)
    · refine j_iload_n X (pc' := 26) 1 dX5_set_25 rfl rfl rfl ?_
      refine j_iconst X (v := 1) (pc' := 27) dX5_set_26 (by decide) rfl ?_
      refine j_icmp_ne X (tgt := 35) (pc' := 30) dX5_set_27 (by decide) rfl (fun c_27 => ?_) (fun c_27 => ?_)
      · refine j_iload_n X (pc' := 36) 1 dX5_set_35 rfl rfl rfl ?_
        refine j_iconst X (v := 2) (pc' := 37) dX5_set_36 (by decide) rfl ?_
        refine j_icmp_ne X (tgt := 45) (pc' := 40) dX5_set_37 (by decide) rfl (fun c_37 => ?_) (fun c_37 => ?_)
        · refine j_iload_n X (pc' := 46) 1 dX5_set_45 rfl rfl rfl ?_
          refine j_iconst X (v := 3) (pc' := 47) dX5_set_46 (by decide) rfl ?_
          refine j_icmp_ne X (tgt := 56) (pc' := 50) dX5_set_47 (by decide) rfl (fun c_47 => ?_) (fun c_47 => ?_)
          · refine j_bipush X (v := 20) (pc' := 58) dX5_set_56 (by decide) rfl ?_
            refine j_lv [0, 1, 2, 3] (lv' := [(0, .ref h), (1, .int x1), (2, .int x2), (3, .int t0)]) rfl ?_
            exact hK58 _ _ _ _ _ hIC
          · refine j_sipush X (v := 999) (pc' := 53) dX5_set_50 (by decide) rfl ?_
            refine j_goto X (pc' := 58) dX5_set_53 (by decide) ?_
            refine j_lv [0, 1, 2, 3] (lv' := [(0, .ref h), (1, .int x1), (2, .int x2), (3, .int t0)]) rfl ?_
            exact hK58 _ _ _ _ _ hIC
        · refine j_bipush X (v := 50) (pc' := 42) dX5_set_40 (by decide) rfl ?_
          refine j_goto X (pc' := 58) dX5_set_42 (by decide) ?_
          refine j_lv [0, 1, 2, 3] (lv' := [(0, .ref h), (1, .int x1), (2, .int x2), (3, .int t0)]) rfl ?_
          exact hK58 _ _ _ _ _ hIC
      · refine j_bipush X (v := 100) (pc' := 32) dX5_set_30 (by decide) rfl ?_
        refine j_goto X (pc' := 58) dX5_set_32 (by decide) ?_
        refine j_lv [0, 1, 2, 3] (lv' := [(0, .ref h), (1, .int x1), (2, .int x2), (3, .int t0)]) rfl ?_
        exact hK58 _ _ _ _ _ hIC
    · refine j_sipush X (v := 200) (pc' := 22) dX5_set_19 (by decide) rfl ?_
      refine j_goto X (pc' := 58) dX5_set_22 (by decide) ?_
      refine j_lv [0, 1, 2, 3] (lv' := [(0, .ref h), (1, .int x1), (2, .int x2), (3, .int t0)]) rfl ?_
      exact hK58 _ _ _ _ _ hIC
  refine j_ltv (fun K9 eK9 => ?_)
  have hK9 : ∀ (C : Cst) (x1 : Int32) (x2 : Int32) (hIC : IM C), J p l e (rml 1) s m args below meth c 6 D (va_A ws0 s.heap.size) 0 0 (KI below args s D (tyl cI cH cO) ws0 (fun C9 => (wM cI h ar C9))) (K9 C x1 x2) ((wM cI h ar C)) 9 [(0, .ref h), (1, .int x1), (2, .int x2)] [] := by
    intro C x1 x2 hIC
    rw [eK9]
    refine j_iconst X (v := 1) (pc' := 10) dX5_set_9 (by decide) rfl ?_
    refine j_goto X (pc' := 14) dX5_set_10 (by decide) ?_
    refine j_lv [0, 1, 2] (lv' := [(0, .ref h), (1, .int x1), (2, .int x2)]) rfl ?_
    exact hK14 _ _ _ _ hIC
  refine j_iload_n X (pc' := 1) 1 dX5_set_0 rfl rfl rfl ?_
  refine j_if_eq X (tgt := 9) (pc' := 4) dX5_set_1 (by decide) rfl (fun c_1 => ?_) (fun c_1 => ?_)
  · refine j_lv [0, 1, 2] (lv' := [(0, .ref h), (1, .int x1), (2, .int x2)]) rfl ?_
    exact hK9 _ _ _ hIC
  · refine j_iload_n X (pc' := 5) 1 dX5_set_4 rfl rfl rfl ?_
    refine j_iconst X (v := 4) (pc' := 6) dX5_set_5 (by decide) rfl ?_
    refine j_icmp_ne X (tgt := 13) (pc' := 9) dX5_set_6 (by decide) rfl (fun c_6 => ?_) (fun c_6 => ?_)
    · refine j_iconst X (v := 0) (pc' := 14) dX5_set_13 (by decide) rfl ?_
      refine j_lv [0, 1, 2] (lv' := [(0, .ref h), (1, .int x1), (2, .int x2)]) rfl ?_
      exact hK14 _ _ _ _ hIC
    · refine j_lv [0, 1, 2] (lv' := [(0, .ref h), (1, .int x1), (2, .int x2)]) rfl ?_
      exact hK9 _ _ _ hIC
theorem c_X5_set (l : Launch) (D : va_G) (cI cH cO : ClassId) (h : Nat) (ar : Nat → Nat) (C : Cst) (x1 : Int32) (x2 : Int32) (hIC : IM C) : MI l yX5_set cX5_set 6 (some .int) 1 D (tyl cI cH cO) [.ref h, .int x1, .int x2] ((wM cI h ar C)) (sX5_set C x1 x2).1 ((wM cI h ar ((sX5_set C x1 x2).2))) := fun sz => j_start (fun below s => (KI below [.ref h, .int x1, .int x2].toArray s D (tyl cI cH cO) ((wM cI h ar C)) (fun C9 => (wM cI h ar C9)))) (sX5_set C x1 x2) (by decide +kernel) rfl (Nat.le_of_ble_eq_true rfl) (fun below s hs _ => by subst hs; rfl) (fun p e s m below meth c hX9 X => b_X5_set h ar C x1 x2 hIC X)
set_option maxHeartbeats 4000000 in
set_option maxRecDepth 100000 in
theorem b_X5_repair {p : Program} {l : Launch} {e : Env} {s : State} {m : MethodId} {args : Array Value} {below : List Frame} {meth : Method} {c : Code} {D : va_G} {cI cH cO : ClassId} {ws0 : va_W} (h : Nat) (ar : Nat → Nat) (C : Cst) (x1 : Int32) (hIC : IM C) (X : CX p s m args meth c cX5_repair 8 RX5 (some .int) D (tyl cI cH cO) (va_A ws0 s.heap.size)) : J p l e (rml 2) s m args below meth c 8 D (va_A ws0 s.heap.size) 0 0 (KI below args s D (tyl cI cH cO) ws0 (fun C9 => (wM cI h ar C9))) (sX5_repair C x1) ((wM cI h ar C)) 0 [(0, .ref h), (1, .int x1)] [] := by
  unfold sX5_repair
  refine j_ltl5 (fun L168 eL168 => ?_)
  have hL168 : ∀ (n168 : Nat) (C : Cst) (x3 : Int32) (x4 : Int32) (x5 : Int32) (i6 : Nat) (hIC : IM C) (hi : i6 ≤ 8) (hfu : 9 ≤ i6 + n168) (hal : 0 < x3 → ¬ x4 = 0), J p l e (rml 2) s m args below meth c 8 D (va_A ws0 s.heap.size) 0 0 (KI below args s D (tyl cI cH cO) ws0 (fun C9 => (wM cI h ar C9))) (L168 n168 C x3 x4 x5 i6) ((wM cI h ar C)) 168 [(0, .ref h), (3, .int x3), (4, .int x4), (5, .int x5), (6, .int (nI i6))] [] := by
    intro n168
    induction n168 with
    | zero =>
      intro C x3 x4 x5 i6 hIC hi hfu hal
      exact absurd hfu (by omega)
    | succ n168 ih168 =>
      intro C x3 x4 x5 i6 hIC hi hfu hal
      rw [eL168]
      refine j_ltv (fun K254 eK254 => ?_)
      have hK254 : ∀ (C : Cst) (x3 : Int32) (x4 : Int32) (x5 : Int32) (i6 : Nat) (t0 : Int32) (t1 : Int32) (t3 : Nat) (hIC : IM C) (hi : i6 < 8) (hfu : 9 ≤ i6 + (n168 + 1)) (hal : 0 < x3 → ¬ x4 = 0) (ht3 : t3 < 8), J p l e (rml 2) s m args below meth c 8 D (va_A ws0 s.heap.size) 0 0 (KI below args s D (tyl cI cH cO) ws0 (fun C9 => (wM cI h ar C9))) (K254 C x3 x4 x5 i6 t0 t1 t3) ((wM cI h ar C)) 254 [(0, .ref h), (3, .int x3), (4, .int x4), (5, .int x5), (6, .int (nI i6))] [.int t0, .int t1, .int 2, .int (nI t3), .ref h] := by
        intro C x3 x4 x5 i6 t0 t1 t3 hIC hi hfu hal ht3
        rw [eK254]
        refine j_iadd X (pc' := 255) dX5_repair_254 rfl ?_
        refine j_callVv X (pc' := 258) (As := [.int (nI t3), .int 2, .int (t1 + t0)]) (rest := []) (c_X5_puts l D cI cH cO h ar C t3 2 (t1 + t0) (by first | omega | assumption | decide | exact Int32.not_le.mp c_180 | (subst_vars; first | assumption | omega)) (by first | omega | assumption | decide | exact Int32.not_le.mp c_180 | (subst_vars; first | assumption | omega))) wv_X5_60 ⟨0, 5, _, _, rfl, rfl, rfl⟩ ⟨by decide, by decide, by decide, by decide⟩ rfl rfl (Nat.le_of_ble_eq_true rfl) dX5_repair_255 rfl ?_
        refine j_stL (S := (sX5_puts C t3 2 (t1 + t0))) (fun S_255 => (wM cI h ar S_255)) (fun S_255 eS_255 => ?_)
        have hIS_255 : IM S_255 := by rw [eS_255]; exact IM_puts hIC
        refine j_iinc X (v := (nI (i6 + 1))) (lv' := [(0, .ref h), (3, .int x3), (4, .int x4), (5, .int x5), (6, .int (nI (i6 + 1)))]) (q := 4) (pc' := 261) [1, 2, 3, 4, 0] dX5_repair_258 rfl (nI_1 i6) (by decide) rfl rfl ?_
        refine j_goto X (pc' := 168) dX5_repair_261 (by decide) ?_
        refine j_lv [0, 1, 2, 3, 4] (lv' := [(0, .ref h), (3, .int x3), (4, .int x4), (5, .int x5), (6, .int (nI (i6 + 1)))]) rfl ?_
        exact ih168 _ _ _ _ _ hIS_255 (by first | omega | assumption | decide | exact Int32.not_le.mp c_180 | (subst_vars; first | assumption | omega)) (by first | omega | assumption | decide | exact Int32.not_le.mp c_180 | (subst_vars; first | assumption | omega)) (by first | omega | assumption | decide | exact Int32.not_le.mp c_180 | (subst_vars; first | assumption | omega))
      refine j_ltv (fun K217 eK217 => ?_)
      have hK217 : ∀ (C : Cst) (x3 : Int32) (x4 : Int32) (i6 : Nat) (x7 : Int32) (t0 : Int32) (t1 : Int32) (hIC : IM C) (hi : i6 < 8) (hfu : 9 ≤ i6 + (n168 + 1)) (hal : 0 < x3 → ¬ x4 = 0) (hr3 : 0 < x3), J p l e (rml 2) s m args below meth c 8 D (va_A ws0 s.heap.size) 0 0 (KI below args s D (tyl cI cH cO) ws0 (fun C9 => (wM cI h ar C9))) (K217 C x3 x4 i6 x7 t0 t1) ((wM cI h ar C)) 217 [(0, .ref h), (3, .int x3), (4, .int x4), (6, .int (nI i6)), (7, .int x7)] [.int t0, .int t1] := by
        intro C x3 x4 i6 x7 t0 t1 hIC hi hfu hal hr3
        rw [eK217]
        refine j_isub X (pc' := 218) dX5_repair_217 rfl ?_
        refine j_istoreL X (fun v5_218 => [(0, .ref h), (3, .int x3), (4, .int x4), (5, .int v5_218), (6, .int (nI i6)), (7, .int x7)]) [1, 2, 3, 0, 4, 5] (pc' := 220) dX5_repair_218  (by decide) (fun _ => rfl) rfl (fun v5_218 ev5_218 => ?_)
        refine j_aload_n X (pc' := 221) 0 dX5_repair_220 rfl rfl rfl ?_
        refine j_iload X (pc' := 223) 4 dX5_repair_221 rfl rfl ?_
        refine j_iconst X (v := 2) (pc' := 224) dX5_repair_223 (by decide) rfl ?_
        refine j_aload_n X (pc' := 225) 0 dX5_repair_224 rfl rfl rfl ?_
        refine j_iload X (pc' := 227) 4 dX5_repair_225 rfl rfl ?_
        refine j_iconst X (v := 2) (pc' := 228) dX5_repair_227 (by decide) rfl ?_
        refine j_callVi X (pc' := 231) (As := [.int (nI i6), .int 2]) (rest := [.int 2, .int (nI i6), .ref h]) (c_X5_of l D cI cH cO h ar C i6 2 (by first | omega | assumption | decide | exact Int32.not_le.mp c_180 | (subst_vars; first | assumption | omega)) (by first | omega | assumption | decide | exact Int32.not_le.mp c_180 | (subst_vars; first | assumption | omega))) wv_X5_39 ⟨0, 5, _, _, rfl, rfl, rfl⟩ ⟨by decide, by decide, by decide, by decide⟩ rfl rfl (Nat.le_of_ble_eq_true rfl) dX5_repair_228 rfl ?_
        refine j_topL (fun r_228 er_228 => ?_)
        refine j_iload_n X (pc' := 232) 1 dX5_repair_231 rfl rfl rfl ?_
        refine j_aload_n X (pc' := 233) 0 dX5_repair_232 rfl rfl rfl ?_
        refine j_iload X (pc' := 235) 4 dX5_repair_233 rfl rfl ?_
        refine j_iconst X (v := 4) (pc' := 236) dX5_repair_235 (by decide) rfl ?_
        refine j_callVi X (pc' := 239) (As := [.int (nI i6), .int 4]) (rest := [.int x3, .int r_228, .int 2, .int (nI i6), .ref h]) (c_X5_of l D cI cH cO h ar C i6 4 (by first | omega | assumption | decide | exact Int32.not_le.mp c_180 | (subst_vars; first | assumption | omega)) (by first | omega | assumption | decide | exact Int32.not_le.mp c_180 | (subst_vars; first | assumption | omega))) wv_X5_39 ⟨0, 5, _, _, rfl, rfl, rfl⟩ ⟨by decide, by decide, by decide, by decide⟩ rfl rfl (Nat.le_of_ble_eq_true rfl) dX5_repair_236 rfl ?_
        refine j_topL (fun r_236 er_236 => ?_)
        refine j_imul X (pc' := 240) dX5_repair_239 rfl ?_
        refine j_iload X (pc' := 242) 2 dX5_repair_240 rfl rfl ?_
        refine j_idiv X (pc' := 243) dX5_repair_242 (hal hr3) rfl ?_
        refine j_iadd X (pc' := 244) dX5_repair_243 rfl ?_
        refine j_iload X (pc' := 246) 5 dX5_repair_244 rfl rfl ?_
        refine j_if_eq X (tgt := 253) (pc' := 249) dX5_repair_246 (by decide) rfl (fun c_246 => ?_) (fun c_246 => ?_)
        · refine j_iconst X (v := 0) (pc' := 254) dX5_repair_253 (by decide) rfl ?_
          refine j_lv [0, 1, 2, 3, 4] (lv' := [(0, .ref h), (3, .int x3), (4, .int x4), (5, .int v5_218), (6, .int (nI i6))]) rfl ?_
          exact hK254 _ _ _ _ _ _ _ _ hIC (by first | omega | assumption | decide | exact Int32.not_le.mp c_180 | (subst_vars; first | assumption | omega)) (by first | omega | assumption | decide | exact Int32.not_le.mp c_180 | (subst_vars; first | assumption | omega)) (by first | omega | assumption | decide | exact Int32.not_le.mp c_180 | (subst_vars; first | assumption | omega)) (by first | omega | assumption | decide | exact Int32.not_le.mp c_180 | (subst_vars; first | assumption | omega))
        · refine j_iconst X (v := 1) (pc' := 250) dX5_repair_249 (by decide) rfl ?_
          refine j_goto X (pc' := 254) dX5_repair_250 (by decide) ?_
          refine j_lv [0, 1, 2, 3, 4] (lv' := [(0, .ref h), (3, .int x3), (4, .int x4), (5, .int v5_218), (6, .int (nI i6))]) rfl ?_
          exact hK254 _ _ _ _ _ _ _ _ hIC (by first | omega | assumption | decide | exact Int32.not_le.mp c_180 | (subst_vars; first | assumption | omega)) (by first | omega | assumption | decide | exact Int32.not_le.mp c_180 | (subst_vars; first | assumption | omega)) (by first | omega | assumption | decide | exact Int32.not_le.mp c_180 | (subst_vars; first | assumption | omega)) (by first | omega | assumption | decide | exact Int32.not_le.mp c_180 | (subst_vars; first | assumption | omega))
      refine j_ltv (fun K203 eK203 => ?_)
      have hK203 : ∀ (C : Cst) (x3 : Int32) (x4 : Int32) (x5 : Int32) (i6 : Nat) (t0 : Int32) (hIC : IM C) (hi : i6 < 8) (hfu : 9 ≤ i6 + (n168 + 1)) (hal : 0 < x3 → ¬ x4 = 0) (hr3 : 0 < x3), J p l e (rml 2) s m args below meth c 8 D (va_A ws0 s.heap.size) 0 0 (KI below args s D (tyl cI cH cO) ws0 (fun C9 => (wM cI h ar C9))) (K203 C x3 x4 x5 i6 t0) ((wM cI h ar C)) 203 [(0, .ref h), (3, .int x3), (4, .int x4), (5, .int x5), (6, .int (nI i6))] [.int t0] := by
        intro C x3 x4 x5 i6 t0 hIC hi hfu hal hr3
        rw [eK203]
        refine j_istore X (lv' := [(0, .ref h), (3, .int x3), (4, .int x4), (5, .int x5), (6, .int (nI i6)), (7, .int t0)]) (pc' := 205) [1, 2, 3, 4, 5, 0] dX5_repair_203 (by decide) rfl rfl ?_
        refine j_iload X (pc' := 207) 3 dX5_repair_205 rfl rfl ?_
        refine j_iload X (pc' := 209) 5 dX5_repair_207 rfl rfl ?_
        refine j_if_eq X (tgt := 216) (pc' := 212) dX5_repair_209 (by decide) rfl (fun c_209 => ?_) (fun c_209 => ?_)
        · refine j_iconst X (v := 0) (pc' := 217) dX5_repair_216 (by decide) rfl ?_
          refine j_lv [0, 1, 2, 4, 5] (lv' := [(0, .ref h), (3, .int x3), (4, .int x4), (6, .int (nI i6)), (7, .int t0)]) rfl ?_
          exact hK217 _ _ _ _ _ _ _ hIC (by first | omega | assumption | decide | exact Int32.not_le.mp c_180 | (subst_vars; first | assumption | omega)) (by first | omega | assumption | decide | exact Int32.not_le.mp c_180 | (subst_vars; first | assumption | omega)) (by first | omega | assumption | decide | exact Int32.not_le.mp c_180 | (subst_vars; first | assumption | omega)) (by first | omega | assumption | decide | exact Int32.not_le.mp c_180 | (subst_vars; first | assumption | omega))
        · refine j_iconst X (v := 1) (pc' := 213) dX5_repair_212 (by decide) rfl ?_
          refine j_goto X (pc' := 217) dX5_repair_213 (by decide) ?_
          refine j_lv [0, 1, 2, 4, 5] (lv' := [(0, .ref h), (3, .int x3), (4, .int x4), (6, .int (nI i6)), (7, .int t0)]) rfl ?_
          exact hK217 _ _ _ _ _ _ _ hIC (by first | omega | assumption | decide | exact Int32.not_le.mp c_180 | (subst_vars; first | assumption | omega)) (by first | omega | assumption | decide | exact Int32.not_le.mp c_180 | (subst_vars; first | assumption | omega)) (by first | omega | assumption | decide | exact Int32.not_le.mp c_180 | (subst_vars; first | assumption | omega)) (by first | omega | assumption | decide | exact Int32.not_le.mp c_180 | (subst_vars; first | assumption | omega))
      refine j_ltv (fun K202 eK202 => ?_)
      have hK202 : ∀ (C : Cst) (x3 : Int32) (x4 : Int32) (x5 : Int32) (i6 : Nat) (hIC : IM C) (hi : i6 < 8) (hfu : 9 ≤ i6 + (n168 + 1)) (hal : 0 < x3 → ¬ x4 = 0) (hr3 : 0 < x3), J p l e (rml 2) s m args below meth c 8 D (va_A ws0 s.heap.size) 0 0 (KI below args s D (tyl cI cH cO) ws0 (fun C9 => (wM cI h ar C9))) (K202 C x3 x4 x5 i6) ((wM cI h ar C)) 202 [(0, .ref h), (3, .int x3), (4, .int x4), (5, .int x5), (6, .int (nI i6))] [] := by
        intro C x3 x4 x5 i6 hIC hi hfu hal hr3
        rw [eK202]
        refine j_iconst X (v := 0) (pc' := 203) dX5_repair_202 (by decide) rfl ?_
        refine j_lv [0, 1, 2, 3, 4] (lv' := [(0, .ref h), (3, .int x3), (4, .int x4), (5, .int x5), (6, .int (nI i6))]) rfl ?_
        exact hK203 _ _ _ _ _ _ hIC (by first | omega | assumption | decide | exact Int32.not_le.mp c_180 | (subst_vars; first | assumption | omega)) (by first | omega | assumption | decide | exact Int32.not_le.mp c_180 | (subst_vars; first | assumption | omega)) (by first | omega | assumption | decide | exact Int32.not_le.mp c_180 | (subst_vars; first | assumption | omega)) (by first | omega | assumption | decide | exact Int32.not_le.mp c_180 | (subst_vars; first | assumption | omega))
      refine j_iload X (pc' := 170) 4 dX5_repair_168 rfl rfl ?_
      refine j_aload_n X (pc' := 171) 0 dX5_repair_170 rfl rfl rfl ?_
      refine j_get X inX5 rfl (pc' := 174) 0 0 q_fl_X5_7 (by decide) rfl rfl dX5_repair_171 rfl ?_
      refine j_iconst X (v := 5) (pc' := 175) dX5_repair_174 (by decide) rfl ?_
      refine j_ialdN X (i := 5) (pc' := 176) 1 rfl (by omega) (by decide) dX5_repair_175 rfl ?_
      refine j_icmp_ge X (tgt := 264) (pc' := 179) dX5_repair_176 (by decide) rfl (fun c_176 => ?_) (fun c_176 => ?_)
      · refine j_iload_n X (pc' := 265) 1 dX5_repair_264 rfl rfl rfl ?_
        exact j_iretI X rfl rfl dX5_repair_265
      · have hb_176 : i6 < 8 := i32_lt8 c_176 hIC.2.1 (by omega)
        refine j_iload_n X (pc' := 180) 1 dX5_repair_179 rfl rfl rfl ?_
        refine j_if_le X (tgt := 264) (pc' := 183) dX5_repair_180 (by decide) rfl (fun c_180 => ?_) (fun c_180 => ?_)
        · refine j_iload_n X (pc' := 265) 1 dX5_repair_264 rfl rfl rfl ?_
          exact j_iretI X rfl rfl dX5_repair_265
        · refine j_iload X (pc' := 185) 3 dX5_repair_183 rfl rfl ?_
          refine j_if_le X (tgt := 202) (pc' := 188) dX5_repair_185 (by decide) rfl (fun c_185 => ?_) (fun c_185 => ?_)
          · refine j_lv [0, 1, 2, 3, 4] (lv' := [(0, .ref h), (3, .int x3), (4, .int x4), (5, .int x5), (6, .int (nI i6))]) rfl ?_
            exact hK202 _ _ _ _ _ hIC (by first | omega | assumption | decide | exact Int32.not_le.mp c_180 | (subst_vars; first | assumption | omega)) (by first | omega | assumption | decide | exact Int32.not_le.mp c_180 | (subst_vars; first | assumption | omega)) (by first | omega | assumption | decide | exact Int32.not_le.mp c_180 | (subst_vars; first | assumption | omega)) (by first | omega | assumption | decide | exact Int32.not_le.mp c_180 | (subst_vars; first | assumption | omega))
          · refine j_aload_n X (pc' := 189) 0 dX5_repair_188 rfl rfl rfl ?_
            refine j_iload X (pc' := 191) 4 dX5_repair_189 rfl rfl ?_
            refine j_iconst X (v := 4) (pc' := 192) dX5_repair_191 (by decide) rfl ?_
            refine j_callVi X (pc' := 195) (As := [.int (nI i6), .int 4]) (rest := []) (c_X5_of l D cI cH cO h ar C i6 4 (by first | omega | assumption | decide | exact Int32.not_le.mp c_180 | (subst_vars; first | assumption | omega)) (by first | omega | assumption | decide | exact Int32.not_le.mp c_180 | (subst_vars; first | assumption | omega))) wv_X5_39 ⟨0, 5, _, _, rfl, rfl, rfl⟩ ⟨by decide, by decide, by decide, by decide⟩ rfl rfl (Nat.le_of_ble_eq_true rfl) dX5_repair_192 rfl ?_
            refine j_topL (fun r_192 er_192 => ?_)
            refine j_if_le X (tgt := 202) (pc' := 198) dX5_repair_195 (by decide) rfl (fun c_195 => ?_) (fun c_195 => ?_)
            · refine j_lv [0, 1, 2, 3, 4] (lv' := [(0, .ref h), (3, .int x3), (4, .int x4), (5, .int x5), (6, .int (nI i6))]) rfl ?_
              exact hK202 _ _ _ _ _ hIC (by first | omega | assumption | decide | exact Int32.not_le.mp c_180 | (subst_vars; first | assumption | omega)) (by first | omega | assumption | decide | exact Int32.not_le.mp c_180 | (subst_vars; first | assumption | omega)) (by first | omega | assumption | decide | exact Int32.not_le.mp c_180 | (subst_vars; first | assumption | omega)) (by first | omega | assumption | decide | exact Int32.not_le.mp c_180 | (subst_vars; first | assumption | omega))
            · refine j_iconst X (v := 1) (pc' := 199) dX5_repair_198 (by decide) rfl ?_
              refine j_goto X (pc' := 203) dX5_repair_199 (by decide) ?_
              refine j_lv [0, 1, 2, 3, 4] (lv' := [(0, .ref h), (3, .int x3), (4, .int x4), (5, .int x5), (6, .int (nI i6))]) rfl ?_
              exact hK203 _ _ _ _ _ _ hIC (by first | omega | assumption | decide | exact Int32.not_le.mp c_180 | (subst_vars; first | assumption | omega)) (by first | omega | assumption | decide | exact Int32.not_le.mp c_180 | (subst_vars; first | assumption | omega)) (by first | omega | assumption | decide | exact Int32.not_le.mp c_180 | (subst_vars; first | assumption | omega)) (by first | omega | assumption | decide | exact Int32.not_le.mp c_180 | (subst_vars; first | assumption | omega))
  refine j_ltv (fun K165 eK165 => ?_)
  have hK165 : ∀ (C : Cst) (x3 : Int32) (x4 : Int32) (x5 : Int32) (hIC : IM C) (hal : 0 < x3 → ¬ x4 = 0), J p l e (rml 2) s m args below meth c 8 D (va_A ws0 s.heap.size) 0 0 (KI below args s D (tyl cI cH cO) ws0 (fun C9 => (wM cI h ar C9))) (K165 C x3 x4 x5) ((wM cI h ar C)) 165 [(0, .ref h), (3, .int x3), (4, .int x4), (5, .int x5)] [] := by
    intro C x3 x4 x5 hIC hal
    rw [eK165]
    refine j_iconst X (v := 0) (pc' := 166) dX5_repair_165 (by decide) rfl ?_
    refine j_istore X (lv' := [(0, .ref h), (3, .int x3), (4, .int x4), (5, .int x5), (6, .int 0)]) (pc' := 168) [1, 2, 3, 4, 0] dX5_repair_166 (by decide) rfl rfl ?_
    refine j_lv [0, 1, 2, 3, 4] (lv' := [(0, .ref h), (3, .int x3), (4, .int x4), (5, .int x5), (6, .int 0)]) rfl ?_
    exact hL168 _ _ _ _ _ _ hIC (by first | omega | assumption | decide | exact Int32.not_le.mp c_180 | (subst_vars; first | assumption | omega)) (by first | omega | assumption | decide | exact Int32.not_le.mp c_180 | (subst_vars; first | assumption | omega)) (by first | omega | assumption | decide | exact Int32.not_le.mp c_180 | (subst_vars; first | assumption | omega))
  refine j_ltl5 (fun L127 eL127 => ?_)
  have hL127 : ∀ (n127 : Nat) (C : Cst) (x3 : Int32) (x4 : Int32) (x5 : Int32) (i6 : Nat) (hIC : IM C) (hi : i6 ≤ 8) (hfu : 9 ≤ i6 + n127) (hal : 0 < x3 → ¬ x4 = 0), J p l e (rml 2) s m args below meth c 8 D (va_A ws0 s.heap.size) 0 0 (KI below args s D (tyl cI cH cO) ws0 (fun C9 => (wM cI h ar C9))) (L127 n127 C x3 x4 x5 i6) ((wM cI h ar C)) 127 [(0, .ref h), (3, .int x3), (4, .int x4), (5, .int x5), (6, .int (nI i6))] [] := by
    intro n127
    induction n127 with
    | zero =>
      intro C x3 x4 x5 i6 hIC hi hfu hal
      exact absurd hfu (by omega)
    | succ n127 ih127 =>
      intro C x3 x4 x5 i6 hIC hi hfu hal
      rw [eL127]
      refine j_iload X (pc' := 129) 4 dX5_repair_127 rfl rfl ?_
      refine j_aload_n X (pc' := 130) 0 dX5_repair_129 rfl rfl rfl ?_
      refine j_get X inX5 rfl (pc' := 133) 0 0 q_fl_X5_7 (by decide) rfl rfl dX5_repair_130 rfl ?_
      refine j_iconst X (v := 5) (pc' := 134) dX5_repair_133 (by decide) rfl ?_
      refine j_ialdN X (i := 5) (pc' := 135) 1 rfl (by omega) (by decide) dX5_repair_134 rfl ?_
      refine j_icmp_ge X (tgt := 165) (pc' := 138) dX5_repair_135 (by decide) rfl (fun c_135 => ?_) (fun c_135 => ?_)
      · refine j_lv [0, 1, 2, 3] (lv' := [(0, .ref h), (3, .int x3), (4, .int x4), (5, .int x5)]) rfl ?_
        exact hK165 _ _ _ _ hIC (by first | omega | assumption | decide | exact Int32.not_le.mp c_180 | (subst_vars; first | assumption | omega))
      · have hb_135 : i6 < 8 := i32_lt8 c_135 hIC.2.1 (by omega)
        refine j_iload_n X (pc' := 139) 1 dX5_repair_138 rfl rfl rfl ?_
        refine j_if_le X (tgt := 165) (pc' := 142) dX5_repair_139 (by decide) rfl (fun c_139 => ?_) (fun c_139 => ?_)
        · refine j_lv [0, 1, 2, 3] (lv' := [(0, .ref h), (3, .int x3), (4, .int x4), (5, .int x5)]) rfl ?_
          exact hK165 _ _ _ _ hIC (by first | omega | assumption | decide | exact Int32.not_le.mp c_180 | (subst_vars; first | assumption | omega))
        · refine j_iload X (pc' := 144) 3 dX5_repair_142 rfl rfl ?_
          refine j_iload_n X (pc' := 145) 1 dX5_repair_144 rfl rfl rfl ?_
          refine j_aload_n X (pc' := 146) 0 dX5_repair_145 rfl rfl rfl ?_
          refine j_iload X (pc' := 148) 4 dX5_repair_146 rfl rfl ?_
          refine j_iconst X (v := 4) (pc' := 149) dX5_repair_148 (by decide) rfl ?_
          refine j_callVi X (pc' := 152) (As := [.int (nI i6), .int 4]) (rest := [.int x3, .int x5]) (c_X5_of l D cI cH cO h ar C i6 4 (by first | omega | assumption | decide | exact Int32.not_le.mp c_180 | (subst_vars; first | assumption | omega)) (by first | omega | assumption | decide | exact Int32.not_le.mp c_180 | (subst_vars; first | assumption | omega))) wv_X5_39 ⟨0, 5, _, _, rfl, rfl, rfl⟩ ⟨by decide, by decide, by decide, by decide⟩ rfl rfl (Nat.le_of_ble_eq_true rfl) dX5_repair_149 rfl ?_
          refine j_topL (fun r_149 er_149 => ?_)
          refine j_imul X (pc' := 153) dX5_repair_152 rfl ?_
          refine j_iload X (pc' := 155) 2 dX5_repair_153 rfl rfl ?_
          refine j_idiv X (pc' := 156) dX5_repair_155 (hal (Int32.not_le.mp c_139)) rfl ?_
          refine j_isub X (pc' := 157) dX5_repair_156 rfl ?_
          refine j_istoreL X (fun v5_157 => [(0, .ref h), (3, .int x3), (4, .int x4), (5, .int v5_157), (6, .int (nI i6))]) [1, 2, 3, 0, 4] (pc' := 159) dX5_repair_157  (by decide) (fun _ => rfl) rfl (fun v5_157 ev5_157 => ?_)
          refine j_iinc X (v := (nI (i6 + 1))) (lv' := [(0, .ref h), (3, .int x3), (4, .int x4), (5, .int v5_157), (6, .int (nI (i6 + 1)))]) (q := 4) (pc' := 162) [1, 2, 3, 4, 0] dX5_repair_159 rfl (nI_1 i6) (by decide) rfl rfl ?_
          refine j_goto X (pc' := 127) dX5_repair_162 (by decide) ?_
          refine j_lv [0, 1, 2, 3, 4] (lv' := [(0, .ref h), (3, .int x3), (4, .int x4), (5, .int v5_157), (6, .int (nI (i6 + 1)))]) rfl ?_
          exact ih127 _ _ _ _ _ hIC (by first | omega | assumption | decide | exact Int32.not_le.mp c_180 | (subst_vars; first | assumption | omega)) (by first | omega | assumption | decide | exact Int32.not_le.mp c_180 | (subst_vars; first | assumption | omega)) (by first | omega | assumption | decide | exact Int32.not_le.mp c_180 | (subst_vars; first | assumption | omega))
  refine j_ltv (fun K82 eK82 => ?_)
  have hK82 : ∀ (C : Cst) (x1 : Int32) (x2 : Int32) (x3 : Int32) (x4 : Int32) (hIC : IM C) (hal : 0 < x3 → ¬ x4 = 0), J p l e (rml 2) s m args below meth c 8 D (va_A ws0 s.heap.size) 0 0 (KI below args s D (tyl cI cH cO) ws0 (fun C9 => (wM cI h ar C9))) (K82 C x1 x2 x3 x4) ((wM cI h ar C)) 82 [(0, .ref h), (1, .int x1), (2, .int x2), (3, .int x3), (4, .int x4)] [] := by
    intro C x1 x2 x3 x4 hIC hal
    rw [eK82]
    refine j_aload_n X (pc' := 83) 0 dX5_repair_82 rfl rfl rfl ?_
    refine j_callVv X (pc' := 86) (As := []) (rest := []) (c_X5_changes l D cI cH cO h ar C hIC) wv_X5_57 ⟨0, 5, _, _, rfl, rfl, rfl⟩ ⟨by decide, by decide, by decide, by decide⟩ rfl rfl (Nat.le_of_ble_eq_true rfl) dX5_repair_83 rfl ?_
    refine j_stL (S := (sX5_changes C)) (fun S_83 => (wM cI h ar S_83)) (fun S_83 eS_83 => ?_)
    have hIS_83 : IM S_83 := by rw [eS_83]; exact IM_changes hIC
    refine j_aload_n X (pc' := 87) 0 dX5_repair_86 rfl rfl rfl ?_
    refine j_get X inX5 rfl (pc' := 90) 0 0 q_fl_X5_7 (by decide) rfl rfl dX5_repair_87 rfl ?_
    refine j_bipush X (v := 8) (pc' := 92) dX5_repair_90 (by decide) rfl ?_
    refine j_dup2 X (pc' := 93) dX5_repair_92 rfl rfl rfl ?_
    refine j_ialdN X (i := 8) (pc' := 94) 1 rfl (by omega) (by decide) dX5_repair_93 rfl ?_
    refine j_iload_n X (pc' := 95) 2 dX5_repair_94 rfl rfl rfl ?_
    refine j_iload_n X (pc' := 96) 3 dX5_repair_95 rfl rfl rfl ?_
    refine j_isub X (pc' := 97) dX5_repair_96 rfl ?_
    refine j_isub X (pc' := 98) dX5_repair_97 rfl ?_
    refine j_iastN X (i := 8) (pc' := 99) (S := up S_83 0 8 ((S_83 0 8) - (x2 - x3))) (fun S_98 => (wM cI h ar S_98)) 1 rfl rfl (by omega) (by decide) dX5_repair_98 rfl (fun S_98 eS_98 => ?_)
    have hIS_98 : IM S_98 := by rw [eS_98]; exact IM_0 (by omega) (by omega) (by omega) (by omega) hIS_83
    refine j_aload_n X (pc' := 100) 0 dX5_repair_99 rfl rfl rfl ?_
    refine j_get X inX5 rfl (pc' := 103) 0 0 q_fl_X5_7 (by decide) rfl rfl dX5_repair_100 rfl ?_
    refine j_bipush X (v := 7) (pc' := 105) dX5_repair_103 (by decide) rfl ?_
    refine j_dup2 X (pc' := 106) dX5_repair_105 rfl rfl rfl ?_
    refine j_ialdN X (i := 7) (pc' := 107) 1 rfl (by omega) (by decide) dX5_repair_106 rfl ?_
    refine j_iload_n X (pc' := 108) 1 dX5_repair_107 rfl rfl rfl ?_
    refine j_iadd X (pc' := 109) dX5_repair_108 rfl ?_
    refine j_iastN X (i := 7) (pc' := 110) (S := up S_98 0 7 ((S_98 0 7) + x1)) (fun S_109 => (wM cI h ar S_109)) 1 rfl rfl (by omega) (by decide) dX5_repair_109 rfl (fun S_109 eS_109 => ?_)
    have hIS_109 : IM S_109 := by rw [eS_109]; exact IM_0 (by omega) (by omega) (by omega) (by omega) hIS_98
    refine j_aload_n X (pc' := 111) 0 dX5_repair_110 rfl rfl rfl ?_
    refine j_get X inX5 rfl (pc' := 114) 0 0 q_fl_X5_7 (by decide) rfl rfl dX5_repair_111 rfl ?_
    refine j_bipush X (v := 11) (pc' := 116) dX5_repair_114 (by decide) rfl ?_
    refine j_dup2 X (pc' := 117) dX5_repair_116 rfl rfl rfl ?_
    refine j_ialdN X (i := 11) (pc' := 118) 1 rfl (by omega) (by decide) dX5_repair_117 rfl ?_
    refine j_iload_n X (pc' := 119) 1 dX5_repair_118 rfl rfl rfl ?_
    refine j_iadd X (pc' := 120) dX5_repair_119 rfl ?_
    refine j_iastN X (i := 11) (pc' := 121) (S := up S_109 0 11 ((S_109 0 11) + x1)) (fun S_120 => (wM cI h ar S_120)) 1 rfl rfl (by omega) (by decide) dX5_repair_120 rfl (fun S_120 eS_120 => ?_)
    have hIS_120 : IM S_120 := by rw [eS_120]; exact IM_0 (by omega) (by omega) (by omega) (by omega) hIS_109
    refine j_iload_n X (pc' := 122) 3 dX5_repair_121 rfl rfl rfl ?_
    refine j_istore X (lv' := [(0, .ref h), (1, .int x1), (2, .int x2), (3, .int x3), (4, .int x4), (5, .int x3)]) (pc' := 124) [1, 2, 3, 4, 5, 0] dX5_repair_122 (by decide) rfl rfl ?_
    refine j_iconst X (v := 0) (pc' := 125) dX5_repair_124 (by decide) rfl ?_
    refine j_istore X (lv' := [(0, .ref h), (1, .int x1), (2, .int x2), (3, .int x3), (4, .int x4), (5, .int x3), (6, .int 0)]) (pc' := 127) [1, 2, 3, 4, 5, 6, 0] dX5_repair_125 (by decide) rfl rfl ?_
    refine j_lv [0, 3, 4, 5, 6] (lv' := [(0, .ref h), (3, .int x3), (4, .int x4), (5, .int x3), (6, .int 0)]) rfl ?_
    exact hL127 _ _ _ _ _ _ hIS_120 (by first | omega | assumption | decide | exact Int32.not_le.mp c_180 | (subst_vars; first | assumption | omega)) (by first | omega | assumption | decide | exact Int32.not_le.mp c_180 | (subst_vars; first | assumption | omega)) (by first | omega | assumption | decide | exact Int32.not_le.mp c_180 | (subst_vars; first | assumption | omega))
  refine j_ltv (fun K47 eK47 => ?_)
  have hK47 : ∀ (C : Cst) (x1 : Int32) (x2 : Int32) (t0 : Int32) (hIC : IM C), J p l e (rml 2) s m args below meth c 8 D (va_A ws0 s.heap.size) 0 0 (KI below args s D (tyl cI cH cO) ws0 (fun C9 => (wM cI h ar C9))) (K47 C x1 x2 t0) ((wM cI h ar C)) 47 [(0, .ref h), (1, .int x1), (2, .int x2)] [.int t0] := by
    intro C x1 x2 t0 hIC
    rw [eK47]
    refine j_istore_n X (lv' := [(0, .ref h), (1, .int x1), (2, .int x2), (3, .int t0)]) (pc' := 48) [1, 2, 3, 0] dX5_repair_47 rfl (by decide) rfl rfl ?_
    refine j_aload_n X (pc' := 49) 0 dX5_repair_48 rfl rfl rfl ?_
    refine j_iconst X (v := 4) (pc' := 50) dX5_repair_49 (by decide) rfl ?_
    refine j_callVi X (pc' := 53) (As := [.int 4]) (rest := []) (c_X5_sum l D cI cH cO h ar C 4 hIC (by first | omega | assumption | decide | exact Int32.not_le.mp c_180 | (subst_vars; first | assumption | omega))) wv_X5_71 ⟨0, 5, _, _, rfl, rfl, rfl⟩ ⟨by decide, by decide, by decide, by decide⟩ rfl rfl (Nat.le_of_ble_eq_true rfl) dX5_repair_50 rfl ?_
    refine j_topL (fun r_50 er_50 => ?_)
    refine j_istore X (lv' := [(0, .ref h), (1, .int x1), (2, .int x2), (3, .int t0), (4, .int r_50)]) (pc' := 55) [1, 2, 3, 4, 0] dX5_repair_53 (by decide) rfl rfl ?_
    refine j_aload_n X (pc' := 56) 0 dX5_repair_55 rfl rfl rfl ?_
    refine j_get X inX5 rfl (pc' := 59) 0 0 q_fl_X5_7 (by decide) rfl rfl dX5_repair_56 rfl ?_
    refine j_bipush X (v := 7) (pc' := 61) dX5_repair_59 (by decide) rfl ?_
    refine j_ialdN X (i := 7) (pc' := 62) 1 rfl (by omega) (by decide) dX5_repair_61 rfl ?_
    refine j_iload_n X (pc' := 63) 1 dX5_repair_62 rfl rfl rfl ?_
    refine j_iadd X (pc' := 64) dX5_repair_63 rfl ?_
    refine j_bipush X (v := 100) (pc' := 66) dX5_repair_64 (by decide) rfl ?_
    refine j_icmp_gt X (tgt := 78) (pc' := 69) dX5_repair_66 (by decide) rfl (fun c_66 => ?_) (fun c_66 => ?_)
    · refine j_sipush X (v := (-10002)) (pc' := 81) dX5_repair_78 (by decide) rfl ?_
      exact j_iretI X rfl rfl dX5_repair_81
    · refine j_iload_n X (pc' := 70) 3 dX5_repair_69 rfl rfl rfl ?_
      refine j_if_le X (tgt := 82) (pc' := 73) dX5_repair_70 (by decide) rfl (fun c_70 => ?_) (fun c_70 => ?_)
      · refine j_lv [0, 1, 2, 3, 4] (lv' := [(0, .ref h), (1, .int x1), (2, .int x2), (3, .int t0), (4, .int r_50)]) rfl ?_
        exact hK82 _ _ _ _ _ hIC (fun h => absurd h (Int32.not_lt.mpr c_70))
      · refine j_iload X (pc' := 75) 4 dX5_repair_73 rfl rfl ?_
        refine j_if_ne X (tgt := 82) (pc' := 78) dX5_repair_75 (by decide) rfl (fun c_75 => ?_) (fun c_75 => ?_)
        · refine j_lv [0, 1, 2, 3, 4] (lv' := [(0, .ref h), (1, .int x1), (2, .int x2), (3, .int t0), (4, .int r_50)]) rfl ?_
          exact hK82 _ _ _ _ _ hIC (fun _ => c_75)
        · refine j_sipush X (v := (-10002)) (pc' := 81) dX5_repair_78 (by decide) rfl ?_
          exact j_iretI X rfl rfl dX5_repair_81
  refine j_iload_n X (pc' := 1) 1 dX5_repair_0 rfl rfl rfl ?_
  refine j_iconst X (v := 1) (pc' := 2) dX5_repair_1 (by decide) rfl ?_
  refine j_bipush X (v := 100) (pc' := 4) dX5_repair_2 (by decide) rfl ?_
  refine j_callSiF X (pc' := 7) (As := [.int x1, .int 1, .int 100]) (rest := []) (ws' := (wM cI h ar C)) (wr := (wM cI h ar C)) [] [0, 1, 2, 3, 4, 5, 6, 7] [0, 1, 2, 3, 4, 5, 6, 7] rfl rfl ⟨by decide, by decide, by decide, by decide⟩ rfl (c_X5_in l D cI cH cO x1 1 100 ) ws_X5_53 ⟨by decide, by decide, by decide, by decide⟩ rfl rfl (Nat.le_of_ble_eq_true rfl) dX5_repair_4 rfl ?_
  refine j_topL (fun r_4 er_4 => ?_)
  refine j_if_ne X (tgt := 14) (pc' := 10) dX5_repair_7 (by decide) rfl (fun c_7 => ?_) (fun c_7 => ?_)
  · refine j_iload_n X (pc' := 15) 1 dX5_repair_14 rfl rfl rfl ?_
    refine j_aload_n X (pc' := 16) 0 dX5_repair_15 rfl rfl rfl ?_
    refine j_get X inX5 rfl (pc' := 19) 0 0 q_fl_X5_7 (by decide) rfl rfl dX5_repair_16 rfl ?_
    refine j_iconst X (v := 4) (pc' := 20) dX5_repair_19 (by decide) rfl ?_
    refine j_ialdN X (i := 4) (pc' := 21) 1 rfl (by omega) (by decide) dX5_repair_20 rfl ?_
    refine j_imul X (pc' := 22) dX5_repair_21 rfl ?_
    refine j_istore_nL X (fun v2_22 => [(0, .ref h), (1, .int x1), (2, .int v2_22)]) [1, 2, 0] (pc' := 23) dX5_repair_22 rfl (by decide) (fun _ => rfl) rfl (fun v2_22 ev2_22 => ?_)
    refine j_iload_n X (pc' := 24) 2 dX5_repair_23 rfl rfl rfl ?_
    refine j_aload_n X (pc' := 25) 0 dX5_repair_24 rfl rfl rfl ?_
    refine j_get X inX5 rfl (pc' := 28) 0 0 q_fl_X5_7 (by decide) rfl rfl dX5_repair_25 rfl ?_
    refine j_bipush X (v := 8) (pc' := 30) dX5_repair_28 (by decide) rfl ?_
    refine j_ialdN X (i := 8) (pc' := 31) 1 rfl (by omega) (by decide) dX5_repair_30 rfl ?_
    refine j_icmp_le X (tgt := 46) (pc' := 34) dX5_repair_31 (by decide) rfl (fun c_31 => ?_) (fun c_31 => ?_)
    · refine j_iconst X (v := 0) (pc' := 47) dX5_repair_46 (by decide) rfl ?_
      refine j_lv [0, 1, 2] (lv' := [(0, .ref h), (1, .int x1), (2, .int v2_22)]) rfl ?_
      exact hK47 _ _ _ _ hIC
    · refine j_iload_n X (pc' := 35) 2 dX5_repair_34 rfl rfl rfl ?_
      refine j_aload_n X (pc' := 36) 0 dX5_repair_35 rfl rfl rfl ?_
      refine j_get X inX5 rfl (pc' := 39) 0 0 q_fl_X5_7 (by decide) rfl rfl dX5_repair_36 rfl ?_
      refine j_bipush X (v := 8) (pc' := 41) dX5_repair_39 (by decide) rfl ?_
      refine j_ialdN X (i := 8) (pc' := 42) 1 rfl (by omega) (by decide) dX5_repair_41 rfl ?_
      refine j_isub X (pc' := 43) dX5_repair_42 rfl ?_
      refine j_goto X (pc' := 47) dX5_repair_43 (by decide) ?_
      refine j_lv [0, 1, 2] (lv' := [(0, .ref h), (1, .int x1), (2, .int v2_22)]) rfl ?_
      exact hK47 _ _ _ _ hIC
  · refine j_sipush X (v := (-10001)) (pc' := 13) dX5_repair_10 (by decide) rfl ?_
    exact j_iretI X rfl rfl dX5_repair_13
theorem c_X5_repair (l : Launch) (D : va_G) (cI cH cO : ClassId) (h : Nat) (ar : Nat → Nat) (C : Cst) (x1 : Int32) (hIC : IM C) : MI l yX5_repair cX5_repair 8 (some .int) 2 D (tyl cI cH cO) [.ref h, .int x1] ((wM cI h ar C)) (sX5_repair C x1).1 ((wM cI h ar ((sX5_repair C x1).2))) := fun sz => j_start (fun below s => (KI below [.ref h, .int x1].toArray s D (tyl cI cH cO) ((wM cI h ar C)) (fun C9 => (wM cI h ar C9)))) (sX5_repair C x1) (by decide +kernel) rfl (Nat.le_of_ble_eq_true rfl) (fun below s hs _ => by subst hs; rfl) (fun p e s m below meth c hX9 X => b_X5_repair h ar C x1 hIC X)
set_option maxHeartbeats 4000000 in
set_option maxRecDepth 100000 in
theorem b_X5_turns {p : Program} {l : Launch} {e : Env} {s : State} {m : MethodId} {args : Array Value} {below : List Frame} {meth : Method} {c : Code} {D : va_G} {cI cH cO : ClassId} {ws0 : va_W} (h : Nat) (ar : Nat → Nat) (C : Cst) (hIC : IM C) (X : CX p s m args meth c cX5_turns 4 RX5 (some .boolean) D (tyl cI cH cO) (va_A ws0 s.heap.size)) : J p l e (rml 5) s m args below meth c 4 D (va_A ws0 s.heap.size) 0 0 (KI below args s D (tyl cI cH cO) ws0 (fun C9 => (wM cI h ar C9))) (sX5_turns C) ((wM cI h ar C)) 0 [(0, .ref h)] [] := by
  unfold sX5_turns
  refine j_ltl3 (fun L4 eL4 => ?_)
  have hL4 : ∀ (n4 : Nat) (C : Cst) (x1 : Int32) (i2 : Nat) (hIC : IM C) (hi : i2 ≤ 8) (hfu : 9 ≤ i2 + n4) (hb : x1 = 0 ∨ x1 = 1), J p l e (rml 5) s m args below meth c 4 D (va_A ws0 s.heap.size) 0 0 (KI below args s D (tyl cI cH cO) ws0 (fun C9 => (wM cI h ar C9))) (L4 n4 C x1 i2) ((wM cI h ar C)) 4 [(0, .ref h), (1, .int x1), (2, .int (nI i2))] [] := by
    intro n4
    induction n4 with
    | zero =>
      intro C x1 i2 hIC hi hfu hb
      exact absurd hfu (by omega)
    | succ n4 ih4 =>
      intro C x1 i2 hIC hi hfu hb
      rw [eL4]
      refine j_ltv (fun K39 eK39 => ?_)
      have hK39 : ∀ (C : Cst) (i2 : Nat) (x3 : Int32) (t0 : Int32) (hIC : IM C) (hi : i2 < 8) (hfu : 9 ≤ i2 + (n4 + 1)) (hb0 : t0 = 0 ∨ t0 = 1), J p l e (rml 5) s m args below meth c 4 D (va_A ws0 s.heap.size) 0 0 (KI below args s D (tyl cI cH cO) ws0 (fun C9 => (wM cI h ar C9))) (K39 C i2 x3 t0) ((wM cI h ar C)) 39 [(0, .ref h), (2, .int (nI i2)), (3, .int x3)] [.int t0] := by
        intro C i2 x3 t0 hIC hi hfu hb0
        rw [eK39]
        refine j_istore_n X (lv' := [(0, .ref h), (1, .int t0), (2, .int (nI i2)), (3, .int x3)]) (pc' := 40) [1, 0, 2, 3] dX5_turns_39 rfl (by decide) rfl rfl ?_
        refine j_aload_n X (pc' := 41) 0 dX5_turns_40 rfl rfl rfl ?_
        refine j_iload_n X (pc' := 42) 2 dX5_turns_41 rfl rfl rfl ?_
        refine j_iconst X (v := 1) (pc' := 43) dX5_turns_42 (by decide) rfl ?_
        refine j_iload_n X (pc' := 44) 3 dX5_turns_43 rfl rfl rfl ?_
        refine j_callVv X (pc' := 47) (As := [.int (nI i2), .int 1, .int x3]) (rest := []) (c_X5_puts l D cI cH cO h ar C i2 1 x3 (by first | omega | assumption | decide | (subst_vars; first | assumption | omega)) (by first | omega | assumption | decide | (subst_vars; first | assumption | omega))) wv_X5_60 ⟨0, 5, _, _, rfl, rfl, rfl⟩ ⟨by decide, by decide, by decide, by decide⟩ rfl rfl (Nat.le_of_ble_eq_true rfl) dX5_turns_44 rfl ?_
        refine j_stL (S := (sX5_puts C i2 1 x3)) (fun S_44 => (wM cI h ar S_44)) (fun S_44 eS_44 => ?_)
        have hIS_44 : IM S_44 := by rw [eS_44]; exact IM_puts hIC
        refine j_iinc X (v := (nI (i2 + 1))) (lv' := [(0, .ref h), (1, .int t0), (2, .int (nI (i2 + 1))), (3, .int x3)]) (q := 2) (pc' := 50) [1, 2, 0, 3] dX5_turns_47 rfl (nI_1 i2) (by decide) rfl rfl ?_
        refine j_goto X (pc' := 4) dX5_turns_50 (by decide) ?_
        refine j_lv [0, 1, 2] (lv' := [(0, .ref h), (1, .int t0), (2, .int (nI (i2 + 1)))]) rfl ?_
        exact ih4 _ _ _ hIS_44 (by first | omega | assumption | decide | (subst_vars; first | assumption | omega)) (by first | omega | assumption | decide | (subst_vars; first | assumption | omega)) (by first | omega | assumption | decide | (subst_vars; first | assumption | omega))
      refine j_ltv (fun K34 eK34 => ?_)
      have hK34 : ∀ (C : Cst) (i2 : Nat) (x3 : Int32) (hIC : IM C) (hi : i2 < 8) (hfu : 9 ≤ i2 + (n4 + 1)), J p l e (rml 5) s m args below meth c 4 D (va_A ws0 s.heap.size) 0 0 (KI below args s D (tyl cI cH cO) ws0 (fun C9 => (wM cI h ar C9))) (K34 C i2 x3) ((wM cI h ar C)) 34 [(0, .ref h), (2, .int (nI i2)), (3, .int x3)] [] := by
        intro C i2 x3 hIC hi hfu
        rw [eK34]
        refine j_iconst X (v := 1) (pc' := 35) dX5_turns_34 (by decide) rfl ?_
        refine j_goto X (pc' := 39) dX5_turns_35 (by decide) ?_
        refine j_lv [0, 1, 2] (lv' := [(0, .ref h), (2, .int (nI i2)), (3, .int x3)]) rfl ?_
        exact hK39 _ _ _ _ hIC (by first | omega | assumption | decide | (subst_vars; first | assumption | omega)) (by first | omega | assumption | decide | (subst_vars; first | assumption | omega)) (by first | omega | assumption | decide | (subst_vars; first | assumption | omega))
      refine j_iload_n X (pc' := 5) 2 dX5_turns_4 rfl rfl rfl ?_
      refine j_aload_n X (pc' := 6) 0 dX5_turns_5 rfl rfl rfl ?_
      refine j_get X inX5 rfl (pc' := 9) 0 0 q_fl_X5_7 (by decide) rfl rfl dX5_turns_6 rfl ?_
      refine j_iconst X (v := 5) (pc' := 10) dX5_turns_9 (by decide) rfl ?_
      refine j_ialdN X (i := 5) (pc' := 11) 1 rfl (by omega) (by decide) dX5_turns_10 rfl ?_
      refine j_icmp_ge X (tgt := 53) (pc' := 14) dX5_turns_11 (by decide) rfl (fun c_11 => ?_) (fun c_11 => ?_)
      · refine j_iload_n X (pc' := 54) 1 dX5_turns_53 rfl rfl rfl ?_
        exact j_zretI X (by rcases hb with rfl | rfl <;> rfl) rfl rfl dX5_turns_54
      · have hb_11 : i2 < 8 := i32_lt8 c_11 hIC.2.1 (by omega)
        refine j_aload_n X (pc' := 15) 0 dX5_turns_14 rfl rfl rfl ?_
        refine j_iload_n X (pc' := 16) 2 dX5_turns_15 rfl rfl rfl ?_
        refine j_callVi X (pc' := 19) (As := [.int (nI i2)]) (rest := []) (c_X5_best l D cI cH cO h ar C i2 hIC (by first | omega | assumption | decide | (subst_vars; first | assumption | omega))) wv_X5_95 ⟨0, 5, _, _, rfl, rfl, rfl⟩ ⟨by decide, by decide, by decide, by decide⟩ rfl rfl (Nat.le_of_ble_eq_true rfl) dX5_turns_16 rfl ?_
        refine j_topL (fun r_16 er_16 => ?_)
        refine j_istore_n X (lv' := [(0, .ref h), (1, .int x1), (2, .int (nI i2)), (3, .int r_16)]) (pc' := 20) [1, 2, 3, 0] dX5_turns_19 rfl (by decide) rfl rfl ?_
        refine j_iload_n X (pc' := 21) 1 dX5_turns_20 rfl rfl rfl ?_
        refine j_if_ne X (tgt := 34) (pc' := 24) dX5_turns_21 (by decide) rfl (fun c_21 => ?_) (fun c_21 => ?_)
        · refine j_lv [0, 2, 3] (lv' := [(0, .ref h), (2, .int (nI i2)), (3, .int r_16)]) rfl ?_
          exact hK34 _ _ _ hIC (by first | omega | assumption | decide | (subst_vars; first | assumption | omega)) (by first | omega | assumption | decide | (subst_vars; first | assumption | omega))
        · refine j_iload_n X (pc' := 25) 3 dX5_turns_24 rfl rfl rfl ?_
          refine j_aload_n X (pc' := 26) 0 dX5_turns_25 rfl rfl rfl ?_
          refine j_iload_n X (pc' := 27) 2 dX5_turns_26 rfl rfl rfl ?_
          refine j_iconst X (v := 1) (pc' := 28) dX5_turns_27 (by decide) rfl ?_
          refine j_callVi X (pc' := 31) (As := [.int (nI i2), .int 1]) (rest := [.int r_16]) (c_X5_of l D cI cH cO h ar C i2 1 (by first | omega | assumption | decide | (subst_vars; first | assumption | omega)) (by first | omega | assumption | decide | (subst_vars; first | assumption | omega))) wv_X5_39 ⟨0, 5, _, _, rfl, rfl, rfl⟩ ⟨by decide, by decide, by decide, by decide⟩ rfl rfl (Nat.le_of_ble_eq_true rfl) dX5_turns_28 rfl ?_
          refine j_topL (fun r_28 er_28 => ?_)
          refine j_icmp_eq X (tgt := 38) (pc' := 34) dX5_turns_31 (by decide) rfl (fun c_31 => ?_) (fun c_31 => ?_)
          · refine j_iconst X (v := 0) (pc' := 39) dX5_turns_38 (by decide) rfl ?_
            refine j_lv [0, 2, 3] (lv' := [(0, .ref h), (2, .int (nI i2)), (3, .int r_16)]) rfl ?_
            exact hK39 _ _ _ _ hIC (by first | omega | assumption | decide | (subst_vars; first | assumption | omega)) (by first | omega | assumption | decide | (subst_vars; first | assumption | omega)) (by first | omega | assumption | decide | (subst_vars; first | assumption | omega))
          · refine j_lv [0, 2, 3] (lv' := [(0, .ref h), (2, .int (nI i2)), (3, .int r_16)]) rfl ?_
            exact hK34 _ _ _ hIC (by first | omega | assumption | decide | (subst_vars; first | assumption | omega)) (by first | omega | assumption | decide | (subst_vars; first | assumption | omega))
  refine j_iconst X (v := 0) (pc' := 1) dX5_turns_0 (by decide) rfl ?_
  refine j_istore_n X (lv' := [(0, .ref h), (1, .int 0)]) (pc' := 2) [1, 0] dX5_turns_1 rfl (by decide) rfl rfl ?_
  refine j_iconst X (v := 0) (pc' := 3) dX5_turns_2 (by decide) rfl ?_
  refine j_istore_n X (lv' := [(0, .ref h), (1, .int 0), (2, .int 0)]) (pc' := 4) [1, 2, 0] dX5_turns_3 rfl (by decide) rfl rfl ?_
  refine j_lv [0, 1, 2] (lv' := [(0, .ref h), (1, .int 0), (2, .int 0)]) rfl ?_
  exact hL4 _ _ _ _ hIC (by first | omega | assumption | decide | (subst_vars; first | assumption | omega)) (by first | omega | assumption | decide | (subst_vars; first | assumption | omega)) (by first | omega | assumption | decide | (subst_vars; first | assumption | omega))
theorem c_X5_turns (l : Launch) (D : va_G) (cI cH cO : ClassId) (h : Nat) (ar : Nat → Nat) (C : Cst) (hIC : IM C) : MI l yX5_turns cX5_turns 4 (some .boolean) 5 D (tyl cI cH cO) [.ref h] ((wM cI h ar C)) (sX5_turns C).1 ((wM cI h ar ((sX5_turns C).2))) := fun sz => j_start (fun below s => (KI below [.ref h].toArray s D (tyl cI cH cO) ((wM cI h ar C)) (fun C9 => (wM cI h ar C9)))) (sX5_turns C) (by decide +kernel) rfl (Nat.le_of_ble_eq_true rfl) (fun below s hs _ => by subst hs; rfl) (fun p e s m below meth c hX9 X => b_X5_turns h ar C hIC X)
