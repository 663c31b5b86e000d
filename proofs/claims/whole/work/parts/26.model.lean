set_option maxHeartbeats 4000000 in
set_option maxRecDepth 100000 in
theorem b_X5_close {p : Program} {l : Launch} {e : Env} {s : State} {m : MethodId} {args : Array Value} {below : List Frame} {meth : Method} {c : Code} {D : va_G} {cI cH cO : ClassId} {ws0 : va_W} (h : Nat) (ar : Nat → Nat) (C : Cst) (hIC : IM C) (X : CX p s m args meth c cX5_close 1 RX5 (some .int) D (tyl cI cH cO) (va_A ws0 s.heap.size)) : J p l e (rml 4) s m args below meth c 1 D (va_A ws0 s.heap.size) 0 0 (KI below args s D (tyl cI cH cO) ws0 (fun C9 => (wM cI h ar C9))) (sX5_close C) ((wM cI h ar C)) 0 [(0, .ref h)] [] := by
  unfold sX5_close
  refine j_aload_n X (pc' := 1) 0 dX5_close_0 rfl rfl rfl ?_
  refine j_get X inX5 rfl (pc' := 4) 0 0 q_fl_X5_7 (by decide) rfl rfl dX5_close_1 rfl ?_
  refine j_iconst X (v := 5) (pc' := 5) dX5_close_4 (by decide) rfl ?_
  refine j_ialdN X (i := 5) (pc' := 6) 1 rfl (by omega) (by decide) dX5_close_5 rfl ?_
  refine j_if_ne X (tgt := 13) (pc' := 9) dX5_close_6 (by decide) rfl (fun c_6 => ?_) (fun c_6 => ?_)
  · refine j_aload_n X (pc' := 14) 0 dX5_close_13 rfl rfl rfl ?_
    refine j_get X inX5 rfl (pc' := 17) 0 0 q_fl_X5_7 (by decide) rfl rfl dX5_close_14 rfl ?_
    refine j_bipush X (v := 6) (pc' := 19) dX5_close_17 (by decide) rfl ?_
    refine j_ialdN X (i := 6) (pc' := 20) 1 rfl (by omega) (by decide) dX5_close_19 rfl ?_
    refine j_sipush X (v := 999) (pc' := 23) dX5_close_20 (by decide) rfl ?_
    refine j_icmp_ne X (tgt := 30) (pc' := 26) dX5_close_23 (by decide) rfl (fun c_23 => ?_) (fun c_23 => ?_)
    · refine j_aload_n X (pc' := 31) 0 dX5_close_30 rfl rfl rfl ?_
      refine j_callVv X (pc' := 34) (As := []) (rest := []) (c_X5_changes l D cI cH cO h ar C hIC) wv_X5_57 ⟨0, 5, _, _, rfl, rfl, rfl⟩ ⟨by decide, by decide, by decide, by decide⟩ rfl rfl (Nat.le_of_ble_eq_true rfl) dX5_close_31 rfl ?_
      refine j_stL (S := (sX5_changes C)) (fun S_31 => (wM cI h ar S_31)) (fun S_31 eS_31 => ?_)
      have hIS_31 : IM S_31 := by rw [eS_31]; exact IM_changes hIC
      refine j_aload_n X (pc' := 35) 0 dX5_close_34 rfl rfl rfl ?_
      refine j_callVi X (pc' := 38) (As := []) (rest := []) (c_X5_ends l D cI cH cO h ar S_31 hIS_31) wv_X5_86 ⟨0, 5, _, _, rfl, rfl, rfl⟩ ⟨by decide, by decide, by decide, by decide⟩ rfl rfl (Nat.le_of_ble_eq_true rfl) dX5_close_35 rfl ?_
      refine j_rsL (q := (sX5_ends S_31)) (fun S_35 => (wM cI h ar S_35)) (fun r_35 S_35 er_35 => ?_)
      have hIS_35 : IM S_35 := by have h9 : IM (sX5_ends S_31).2 := IM_ends hIS_31; rw [er_35] at h9; exact h9
      exact j_iretI X rfl rfl dX5_close_38
    · refine j_sipush X (v := (-10003)) (pc' := 29) dX5_close_26 (by decide) rfl ?_
      exact j_iretI X rfl rfl dX5_close_29
  · refine j_sipush X (v := (-10002)) (pc' := 12) dX5_close_9 (by decide) rfl ?_
    exact j_iretI X rfl rfl dX5_close_12
theorem c_X5_close (l : Launch) (D : va_G) (cI cH cO : ClassId) (h : Nat) (ar : Nat → Nat) (C : Cst) (hIC : IM C) : MI l yX5_close cX5_close 1 (some .int) 4 D (tyl cI cH cO) [.ref h] ((wM cI h ar C)) (sX5_close C).1 ((wM cI h ar ((sX5_close C).2))) := fun sz => j_start (fun below s => (KI below [.ref h].toArray s D (tyl cI cH cO) ((wM cI h ar C)) (fun C9 => (wM cI h ar C9)))) (sX5_close C) (by decide +kernel) rfl (Nat.le_of_ble_eq_true rfl) (fun below s hs _ => by subst hs; rfl) (fun p e s m below meth c hX9 X => b_X5_close h ar C hIC X)
set_option maxHeartbeats 4000000 in
set_option maxRecDepth 100000 in
theorem b_X5_calm {p : Program} {l : Launch} {e : Env} {s : State} {m : MethodId} {args : Array Value} {below : List Frame} {meth : Method} {c : Code} {D : va_G} {cI cH cO : ClassId} {ws0 : va_W} (h : Nat) (ar : Nat → Nat) (C : Cst) (x1 : Int32) (hIC : IM C) (X : CX p s m args meth c cX5_calm 5 RX5 (some .int) D (tyl cI cH cO) (va_A ws0 s.heap.size)) : J p l e (rml 6) s m args below meth c 5 D (va_A ws0 s.heap.size) 0 0 (KI below args s D (tyl cI cH cO) ws0 (fun C9 => (wM cI h ar C9))) (sX5_calm C x1) ((wM cI h ar C)) 0 [(0, .ref h), (1, .int x1)] [] := by
  unfold sX5_calm
  refine j_ltv (fun K87 eK87 => ?_)
  have hK87 : ∀ (C : Cst) (x3 : Int32) (t0 : Int32) (hIC : IM C), J p l e (rml 6) s m args below meth c 5 D (va_A ws0 s.heap.size) 0 0 (KI below args s D (tyl cI cH cO) ws0 (fun C9 => (wM cI h ar C9))) (K87 C x3 t0) ((wM cI h ar C)) 87 [(0, .ref h), (3, .int x3)] [.int t0] := by
    intro C x3 t0 hIC
    rw [eK87]
    refine j_istore X (lv' := [(0, .ref h), (3, .int x3), (4, .int t0)]) (pc' := 89) [1, 2, 0] dX5_calm_87 (by decide) rfl rfl ?_
    refine j_aload_n X (pc' := 90) 0 dX5_calm_89 rfl rfl rfl ?_
    refine j_get X inX5 rfl (pc' := 93) 0 2 q_fl_X5_16 (by decide) rfl rfl dX5_calm_90 rfl ?_
    refine j_aload_n X (pc' := 94) 0 dX5_calm_93 rfl rfl rfl ?_
    refine j_get X inX5 rfl (pc' := 97) 0 0 q_fl_X5_7 (by decide) rfl rfl dX5_calm_94 rfl ?_
    refine j_callSv X (pc' := 100) (As := [.ref (ar 2), .ref (ar 0)]) (rest := []) (c_X5_copies_2_0 l D cI cH cO h ar C ) ws_X5_98 ⟨by decide, by decide, by decide, by decide⟩ rfl rfl (Nat.le_of_ble_eq_true rfl) dX5_calm_97 rfl ?_
    refine j_stL (S := (sX5_copies_2_0 C)) (fun S_97 => (wM cI h ar S_97)) (fun S_97 eS_97 => ?_)
    refine j_iload_n X (pc' := 101) 1 dX5_calm_100 rfl rfl rfl ?_
    refine j_if_eq X (tgt := 110) (pc' := 104) dX5_calm_101 (by decide) rfl (fun c_101 => ?_) (fun c_101 => ?_)
    · refine j_iload X (pc' := 112) 2 dX5_calm_110 rfl rfl ?_
      exact j_iretI X rfl rfl dX5_calm_112
    · refine j_sipush X (v := (-10004)) (pc' := 107) dX5_calm_104 (by decide) rfl ?_
      refine j_goto X (pc' := 112) dX5_calm_107 (by decide) ?_
      exact j_iretI X rfl rfl dX5_calm_112
  refine j_ltv (fun K81 eK81 => ?_)
  have hK81 : ∀ (C : Cst) (i1 : Nat) (x3 : Int32) (hIC : IM C) (hi1 : i1 < 8), J p l e (rml 6) s m args below meth c 5 D (va_A ws0 s.heap.size) 0 0 (KI below args s D (tyl cI cH cO) ws0 (fun C9 => (wM cI h ar C9))) (K81 C i1 x3) ((wM cI h ar C)) 81 [(0, .ref h), (1, .int (nI i1)), (3, .int x3)] [] := by
    intro C i1 x3 hIC hi1
    rw [eK81]
    refine j_aload_n X (pc' := 82) 0 dX5_calm_81 rfl rfl rfl ?_
    refine j_iload_n X (pc' := 83) 1 dX5_calm_82 rfl rfl rfl ?_
    refine j_iconst X (v := 1) (pc' := 84) dX5_calm_83 (by decide) rfl ?_
    refine j_callVi X (pc' := 87) (As := [.int (nI i1), .int 1]) (rest := []) (c_X5_of l D cI cH cO h ar C i1 1 (by first | omega | assumption | decide | (subst_vars; first | assumption | omega)) (by first | omega | assumption | decide | (subst_vars; first | assumption | omega))) wv_X5_39 ⟨0, 5, _, _, rfl, rfl, rfl⟩ ⟨by decide, by decide, by decide, by decide⟩ rfl rfl (Nat.le_of_ble_eq_true rfl) dX5_calm_84 rfl ?_
    refine j_topL (fun r_84 er_84 => ?_)
    refine j_lv [0, 2] (lv' := [(0, .ref h), (3, .int x3)]) rfl ?_
    exact hK87 _ _ _ hIC
  refine j_ltv (fun K58 eK58 => ?_)
  have hK58 : ∀ (C : Cst) (x1 : Int32) (x2 : Int32) (x3 : Int32) (hIC : IM C) (hmb : vp_in x1 8 ∨ x1 = -1 ∨ x1 = -2), J p l e (rml 6) s m args below meth c 5 D (va_A ws0 s.heap.size) 0 0 (KI below args s D (tyl cI cH cO) ws0 (fun C9 => (wM cI h ar C9))) (K58 C x1 x2 x3) ((wM cI h ar C)) 58 [(0, .ref h), (1, .int x1), (2, .int x2), (3, .int x3)] [] := by
    intro C x1 x2 x3 hIC hmb
    rw [eK58]
    refine j_iload_n X (pc' := 59) 1 dX5_calm_58 rfl rfl rfl ?_
    refine j_iconst X (v := (-1)) (pc' := 60) dX5_calm_59 (by decide) rfl ?_
    refine j_icmp_ne X (tgt := 71) (pc' := 63) dX5_calm_60 (by decide) rfl (fun c_60 => ?_) (fun c_60 => ?_)
    · refine j_iload_n X (pc' := 72) 1 dX5_calm_71 rfl rfl rfl ?_
      refine j_bipush X (v := (-2)) (pc' := 74) dX5_calm_72 (by decide) rfl ?_
      refine j_icmp_ne X (tgt := 81) (pc' := 77) dX5_calm_74 (by decide) rfl (fun c_74 => ?_) (fun c_74 => ?_)
      · obtain ⟨j_74, hj_74, ej_74⟩ : ∃ j : Nat, j < 8 ∧ x1 = nI j := vp_in_of (hmb.resolve_right (fun q => q.elim (Decidable.not_not.mp (fun z => z c_60)) c_74)) (by decide)
        subst ej_74
        rw [nI_clamp (show j_74 < 2 ^ 31 by omega)]
        refine j_lv [0, 1, 3] (lv' := _) rfl ?_
        exact hK81 _ _ _ hIC (by first | omega | assumption | decide | (subst_vars; first | assumption | omega))
      · refine j_iload_n X (pc' := 78) 2 dX5_calm_77 rfl rfl rfl ?_
        refine j_goto X (pc' := 87) dX5_calm_78 (by decide) ?_
        refine j_lv [0, 3] (lv' := [(0, .ref h), (3, .int x3)]) rfl ?_
        exact hK87 _ _ _ hIC
    · refine j_aload_n X (pc' := 64) 0 dX5_calm_63 rfl rfl rfl ?_
      refine j_iconst X (v := 1) (pc' := 65) dX5_calm_64 (by decide) rfl ?_
      refine j_callVi X (pc' := 68) (As := [.int 1]) (rest := []) (c_X5_sum l D cI cH cO h ar C 1 hIC (by first | omega | assumption | decide | (subst_vars; first | assumption | omega))) wv_X5_71 ⟨0, 5, _, _, rfl, rfl, rfl⟩ ⟨by decide, by decide, by decide, by decide⟩ rfl rfl (Nat.le_of_ble_eq_true rfl) dX5_calm_65 rfl ?_
      refine j_topL (fun r_65 er_65 => ?_)
      refine j_goto X (pc' := 87) dX5_calm_68 (by decide) ?_
      refine j_lv [0, 3] (lv' := [(0, .ref h), (3, .int x3)]) rfl ?_
      exact hK87 _ _ _ hIC
  refine j_ltl4 (fun L37 eL37 => ?_)
  have hL37 : ∀ (n37 : Nat) (C : Cst) (x1 : Int32) (i2 : Nat) (x3 : Int32) (hIC : IM C) (hi : i2 ≤ 40) (hfu : 41 ≤ i2 + n37) (hmb : vp_in x1 8 ∨ x1 = -1 ∨ x1 = -2), J p l e (rml 6) s m args below meth c 5 D (va_A ws0 s.heap.size) 0 0 (KI below args s D (tyl cI cH cO) ws0 (fun C9 => (wM cI h ar C9))) (L37 n37 C x1 i2 x3) ((wM cI h ar C)) 37 [(0, .ref h), (1, .int x1), (2, .int (nI i2)), (3, .int x3)] [] := by
    intro n37
    induction n37 with
    | zero =>
      intro C x1 i2 x3 hIC hi hfu hmb
      exact absurd hfu (by omega)
    | succ n37 ih37 =>
      intro C x1 i2 x3 hIC hi hfu hmb
      rw [eL37]
      refine j_iload_n X (pc' := 38) 3 dX5_calm_37 rfl rfl rfl ?_
      refine j_if_eq X (tgt := 58) (pc' := 41) dX5_calm_38 (by decide) rfl (fun c_38 => ?_) (fun c_38 => ?_)
      · refine j_lv [0, 1, 2, 3] (lv' := [(0, .ref h), (1, .int x1), (2, .int (nI i2)), (3, .int x3)]) rfl ?_
        exact hK58 _ _ _ _ hIC (by first | omega | assumption | decide | (subst_vars; first | assumption | omega))
      · refine j_iload_n X (pc' := 42) 2 dX5_calm_41 rfl rfl rfl ?_
        refine j_bipush X (v := 40) (pc' := 44) dX5_calm_42 (by decide) rfl ?_
        refine j_icmp_ge X (tgt := 58) (pc' := 47) dX5_calm_44 (by decide) rfl (fun c_44 => ?_) (fun c_44 => ?_)
        · have f_44 : 40 ≤ i2 := (nI_leI (a := 40) (b := i2) (by omega) (by omega)).mp c_44
          refine j_lv [0, 1, 2, 3] (lv' := [(0, .ref h), (1, .int x1), (2, .int (nI i2)), (3, .int x3)]) rfl ?_
          exact hK58 _ _ _ _ hIC (by first | omega | assumption | decide | (subst_vars; first | assumption | omega))
        · have f_44 : ¬ (40 ≤ i2) := fun h => c_44 ((nI_leI (a := 40) (b := i2) (by omega) (by omega)).mpr h)
          refine j_aload_n X (pc' := 48) 0 dX5_calm_47 rfl rfl rfl ?_
          refine j_callVi X (pc' := 51) (As := []) (rest := []) (c_X5_turns l D cI cH cO h ar C hIC) wv_X5_102 ⟨0, 5, _, _, rfl, rfl, rfl⟩ ⟨by decide, by decide, by decide, by decide⟩ rfl rfl (Nat.le_of_ble_eq_true rfl) dX5_calm_48 rfl ?_
          refine j_rsL (q := (sX5_turns C)) (fun S_48 => (wM cI h ar S_48)) (fun r_48 S_48 er_48 => ?_)
          have hIS_48 : IM S_48 := by have h9 : IM (sX5_turns C).2 := IM_turns hIC; rw [er_48] at h9; exact h9
          refine j_istore_n X (lv' := [(0, .ref h), (1, .int x1), (2, .int (nI i2)), (3, .int r_48)]) (pc' := 52) [1, 2, 3, 0] dX5_calm_51 rfl (by decide) rfl rfl ?_
          refine j_iinc X (v := (nI (i2 + 1))) (lv' := [(0, .ref h), (1, .int x1), (2, .int (nI (i2 + 1))), (3, .int r_48)]) (q := 2) (pc' := 55) [1, 2, 0, 3] dX5_calm_52 rfl (nI_1 i2) (by decide) rfl rfl ?_
          refine j_goto X (pc' := 37) dX5_calm_55 (by decide) ?_
          refine j_lv [0, 1, 2, 3] (lv' := [(0, .ref h), (1, .int x1), (2, .int (nI (i2 + 1))), (3, .int r_48)]) rfl ?_
          exact ih37 _ _ _ _ hIS_48 (by first | omega | assumption | decide | (subst_vars; first | assumption | omega)) (by first | omega | assumption | decide | (subst_vars; first | assumption | omega)) (by first | omega | assumption | decide | (subst_vars; first | assumption | omega))
  refine j_ltv (fun K22 eK22 => ?_)
  have hK22 : ∀ (C : Cst) (x1 : Int32) (hIC : IM C) (hmb : vp_in x1 8 ∨ x1 = -1 ∨ x1 = -2), J p l e (rml 6) s m args below meth c 5 D (va_A ws0 s.heap.size) 0 0 (KI below args s D (tyl cI cH cO) ws0 (fun C9 => (wM cI h ar C9))) (K22 C x1) ((wM cI h ar C)) 22 [(0, .ref h), (1, .int x1)] [] := by
    intro C x1 hIC hmb
    rw [eK22]
    refine j_aload_n X (pc' := 23) 0 dX5_calm_22 rfl rfl rfl ?_
    refine j_get X inX5 rfl (pc' := 26) 0 0 q_fl_X5_7 (by decide) rfl rfl dX5_calm_23 rfl ?_
    refine j_aload_n X (pc' := 27) 0 dX5_calm_26 rfl rfl rfl ?_
    refine j_get X inX5 rfl (pc' := 30) 0 2 q_fl_X5_16 (by decide) rfl rfl dX5_calm_27 rfl ?_
    refine j_callSv X (pc' := 33) (As := [.ref (ar 0), .ref (ar 2)]) (rest := []) (c_X5_copies_0_2 l D cI cH cO h ar C ) ws_X5_98 ⟨by decide, by decide, by decide, by decide⟩ rfl rfl (Nat.le_of_ble_eq_true rfl) dX5_calm_30 rfl ?_
    refine j_stL (S := (sX5_copies_0_2 C)) (fun S_30 => (wM cI h ar S_30)) (fun S_30 eS_30 => ?_)
    have hIS_30 : IM S_30 := by rw [eS_30]; exact IM_copies_0_2 hIC
    refine j_iconst X (v := 0) (pc' := 34) dX5_calm_33 (by decide) rfl ?_
    refine j_istore_n X (lv' := [(0, .ref h), (1, .int x1), (2, .int 0)]) (pc' := 35) [1, 2, 0] dX5_calm_34 rfl (by decide) rfl rfl ?_
    refine j_iconst X (v := 1) (pc' := 36) dX5_calm_35 (by decide) rfl ?_
    refine j_istore_n X (lv' := [(0, .ref h), (1, .int x1), (2, .int 0), (3, .int 1)]) (pc' := 37) [1, 2, 3, 0] dX5_calm_36 rfl (by decide) rfl rfl ?_
    refine j_lv [0, 1, 2, 3] (lv' := [(0, .ref h), (1, .int x1), (2, .int 0), (3, .int 1)]) rfl ?_
    exact hL37 _ _ _ _ _ hIS_30 (by first | omega | assumption | decide | (subst_vars; first | assumption | omega)) (by first | omega | assumption | decide | (subst_vars; first | assumption | omega)) (by first | omega | assumption | decide | (subst_vars; first | assumption | omega))
  refine j_aload_n X (pc' := 1) 0 dX5_calm_0 rfl rfl rfl ?_
  refine j_iload_n X (pc' := 2) 1 dX5_calm_1 rfl rfl rfl ?_
  refine j_callVi X (pc' := 5) (As := [.int x1]) (rest := []) (c_X5_isMember l D cI cH cO h ar C x1 ) wv_X5_64 ⟨0, 5, _, _, rfl, rfl, rfl⟩ ⟨by decide, by decide, by decide, by decide⟩ rfl rfl (Nat.le_of_ble_eq_true rfl) dX5_calm_2 rfl ?_
  refine j_topL (fun r_2 er_2 => ?_)
  refine j_if_ne X (tgt := 22) (pc' := 8) dX5_calm_5 (by decide) rfl (fun c_5 => ?_) (fun c_5 => ?_)
  · refine j_lv [0, 1] (lv' := [(0, .ref h), (1, .int x1)]) rfl ?_
    exact hK22 _ _ hIC (Or.inl (mem_in er_2 c_5 hIC.2.1))
  · refine j_iload_n X (pc' := 9) 1 dX5_calm_8 rfl rfl rfl ?_
    refine j_bipush X (v := (-2)) (pc' := 11) dX5_calm_9 (by decide) rfl ?_
    refine j_iconst X (v := (-1)) (pc' := 12) dX5_calm_11 (by decide) rfl ?_
    refine j_callSiF X (pc' := 15) (As := [.int x1, .int (-2), .int (-1)]) (rest := []) (ws' := (wM cI h ar C)) (wr := (wM cI h ar C)) [] [0, 1, 2, 3, 4, 5, 6, 7] [0, 1, 2, 3, 4, 5, 6, 7] rfl rfl ⟨by decide, by decide, by decide, by decide⟩ rfl (c_X5_in l D cI cH cO x1 (-2) (-1) ) ws_X5_53 ⟨by decide, by decide, by decide, by decide⟩ rfl rfl (Nat.le_of_ble_eq_true rfl) dX5_calm_12 rfl ?_
    refine j_topL (fun r_12 er_12 => ?_)
    refine j_if_ne X (tgt := 22) (pc' := 18) dX5_calm_15 (by decide) rfl (fun c_15 => ?_) (fun c_15 => ?_)
    · refine j_lv [0, 1] (lv' := [(0, .ref h), (1, .int x1)]) rfl ?_
      exact hK22 _ _ hIC (Or.inr (in_m er_12 c_15))
    · refine j_sipush X (v := (-10001)) (pc' := 21) dX5_calm_18 (by decide) rfl ?_
      exact j_iretI X rfl rfl dX5_calm_21
theorem c_X5_calm (l : Launch) (D : va_G) (cI cH cO : ClassId) (h : Nat) (ar : Nat → Nat) (C : Cst) (x1 : Int32) (hIC : IM C) : MI l yX5_calm cX5_calm 5 (some .int) 6 D (tyl cI cH cO) [.ref h, .int x1] ((wM cI h ar C)) (sX5_calm C x1).1 ((wM cI h ar ((sX5_calm C x1).2))) := fun sz => j_start (fun below s => (KI below [.ref h, .int x1].toArray s D (tyl cI cH cO) ((wM cI h ar C)) (fun C9 => (wM cI h ar C9)))) (sX5_calm C x1) (by decide +kernel) rfl (Nat.le_of_ble_eq_true rfl) (fun below s hs _ => by subst hs; rfl) (fun p e s m below meth c hX9 X => b_X5_calm h ar C x1 hIC X)
set_option maxHeartbeats 4000000 in
set_option maxRecDepth 100000 in
theorem b_X5_wouldExclude {p : Program} {l : Launch} {e : Env} {s : State} {m : MethodId} {args : Array Value} {below : List Frame} {meth : Method} {c : Code} {D : va_G} {cI cH cO : ClassId} {ws0 : va_W} (h : Nat) (ar : Nat → Nat) (C : Cst) (hIC : IM C) (X : CX p s m args meth c cX5_wouldExclude 2 RX5 (some .int) D (tyl cI cH cO) (va_A ws0 s.heap.size)) : J p l e (rml 4) s m args below meth c 2 D (va_A ws0 s.heap.size) 0 0 (KI below args s D (tyl cI cH cO) ws0 (fun C9 => (wM cI h ar C9))) (sX5_wouldExclude C) ((wM cI h ar C)) 0 [(0, .ref h)] [] := by
  unfold sX5_wouldExclude
  refine j_aload_n X (pc' := 1) 0 dX5_wouldExclude_0 rfl rfl rfl ?_
  refine j_get X inX5 rfl (pc' := 4) 0 0 q_fl_X5_7 (by decide) rfl rfl dX5_wouldExclude_1 rfl ?_
  refine j_iconst X (v := 5) (pc' := 5) dX5_wouldExclude_4 (by decide) rfl ?_
  refine j_ialdN X (i := 5) (pc' := 6) 1 rfl (by omega) (by decide) dX5_wouldExclude_5 rfl ?_
  refine j_if_ne X (tgt := 11) (pc' := 9) dX5_wouldExclude_6 (by decide) rfl (fun c_6 => ?_) (fun c_6 => ?_)
  · refine j_aload_n X (pc' := 12) 0 dX5_wouldExclude_11 rfl rfl rfl ?_
    refine j_get X inX5 rfl (pc' := 15) 0 0 q_fl_X5_7 (by decide) rfl rfl dX5_wouldExclude_12 rfl ?_
    refine j_aload_n X (pc' := 16) 0 dX5_wouldExclude_15 rfl rfl rfl ?_
    refine j_get X inX5 rfl (pc' := 19) 0 2 q_fl_X5_16 (by decide) rfl rfl dX5_wouldExclude_16 rfl ?_
    refine j_callSv X (pc' := 22) (As := [.ref (ar 0), .ref (ar 2)]) (rest := []) (c_X5_copies_0_2 l D cI cH cO h ar C ) ws_X5_98 ⟨by decide, by decide, by decide, by decide⟩ rfl rfl (Nat.le_of_ble_eq_true rfl) dX5_wouldExclude_19 rfl ?_
    refine j_stL (S := (sX5_copies_0_2 C)) (fun S_19 => (wM cI h ar S_19)) (fun S_19 eS_19 => ?_)
    have hIS_19 : IM S_19 := by rw [eS_19]; exact IM_copies_0_2 hIC
    refine j_aload_n X (pc' := 23) 0 dX5_wouldExclude_22 rfl rfl rfl ?_
    refine j_callVi X (pc' := 26) (As := []) (rest := []) (c_X5_ends l D cI cH cO h ar S_19 hIS_19) wv_X5_86 ⟨0, 5, _, _, rfl, rfl, rfl⟩ ⟨by decide, by decide, by decide, by decide⟩ rfl rfl (Nat.le_of_ble_eq_true rfl) dX5_wouldExclude_23 rfl ?_
    refine j_rsL (q := (sX5_ends S_19)) (fun S_23 => (wM cI h ar S_23)) (fun r_23 S_23 er_23 => ?_)
    have hIS_23 : IM S_23 := by have h9 : IM (sX5_ends S_19).2 := IM_ends hIS_19; rw [er_23] at h9; exact h9
    refine j_pop X (pc' := 27) dX5_wouldExclude_26 rfl rfl ?_
    refine j_aload_n X (pc' := 28) 0 dX5_wouldExclude_27 rfl rfl rfl ?_
    refine j_callVi X (pc' := 31) (As := []) (rest := []) (c_X5_outSet l D cI cH cO h ar S_23 hIS_23) wv_X5_74 ⟨0, 5, _, _, rfl, rfl, rfl⟩ ⟨by decide, by decide, by decide, by decide⟩ rfl rfl (Nat.le_of_ble_eq_true rfl) dX5_wouldExclude_28 rfl ?_
    refine j_topL (fun r_28 er_28 => ?_)
    refine j_istore_n X (lv' := [(0, .ref h), (1, .int r_28)]) (pc' := 32) [1, 0] dX5_wouldExclude_31 rfl (by decide) rfl rfl ?_
    refine j_aload_n X (pc' := 33) 0 dX5_wouldExclude_32 rfl rfl rfl ?_
    refine j_get X inX5 rfl (pc' := 36) 0 2 q_fl_X5_16 (by decide) rfl rfl dX5_wouldExclude_33 rfl ?_
    refine j_aload_n X (pc' := 37) 0 dX5_wouldExclude_36 rfl rfl rfl ?_
    refine j_get X inX5 rfl (pc' := 40) 0 0 q_fl_X5_7 (by decide) rfl rfl dX5_wouldExclude_37 rfl ?_
    refine j_callSv X (pc' := 43) (As := [.ref (ar 2), .ref (ar 0)]) (rest := []) (c_X5_copies_2_0 l D cI cH cO h ar S_23 ) ws_X5_98 ⟨by decide, by decide, by decide, by decide⟩ rfl rfl (Nat.le_of_ble_eq_true rfl) dX5_wouldExclude_40 rfl ?_
    refine j_stL (S := (sX5_copies_2_0 S_23)) (fun S_40 => (wM cI h ar S_40)) (fun S_40 eS_40 => ?_)
    refine j_iload_n X (pc' := 44) 1 dX5_wouldExclude_43 rfl rfl rfl ?_
    exact j_iretI X rfl rfl dX5_wouldExclude_44
  · refine j_iconst X (v := 0) (pc' := 10) dX5_wouldExclude_9 (by decide) rfl ?_
    exact j_iretI X rfl rfl dX5_wouldExclude_10
theorem c_X5_wouldExclude (l : Launch) (D : va_G) (cI cH cO : ClassId) (h : Nat) (ar : Nat → Nat) (C : Cst) (hIC : IM C) : MI l yX5_wouldExclude cX5_wouldExclude 2 (some .int) 4 D (tyl cI cH cO) [.ref h] ((wM cI h ar C)) (sX5_wouldExclude C).1 ((wM cI h ar ((sX5_wouldExclude C).2))) := fun sz => j_start (fun below s => (KI below [.ref h].toArray s D (tyl cI cH cO) ((wM cI h ar C)) (fun C9 => (wM cI h ar C9)))) (sX5_wouldExclude C) (by decide +kernel) rfl (Nat.le_of_ble_eq_true rfl) (fun below s hs _ => by subst hs; rfl) (fun p e s m below meth c hX9 X => b_X5_wouldExclude h ar C hIC X)
set_option maxHeartbeats 4000000 in
set_option maxRecDepth 100000 in
theorem b_X5_undo {p : Program} {l : Launch} {e : Env} {s : State} {m : MethodId} {args : Array Value} {below : List Frame} {meth : Method} {c : Code} {D : va_G} {cI cH cO : ClassId} {ws0 : va_W} (h : Nat) (ar : Nat → Nat) (C : Cst) (hp0 : 0 ≤ (C 3 0).toInt) (hp4 : (C 3 0).toInt ≤ 4) (X : CX p s m args meth c cX5_undo 2 RX5 (some .int) D (tyl cI cH cO) (va_A ws0 s.heap.size)) : J p l e (rml 0) s m args below meth c 2 D (va_A ws0 s.heap.size) 0 0 (KI below args s D (tyl cI cH cO) ws0 (fun C9 => (wM cI h ar C9))) (sX5_undo C) ((wM cI h ar C)) 0 [(0, .ref h)] [] := by
  unfold sX5_undo
  refine j_ltl2 (fun L23 eL23 => ?_)
  have hL23 : ∀ (n23 : Nat) (C : Cst) (i1 : Nat) (hi : i1 ≤ 107) (hfu : 108 ≤ i1 + n23) (h0 : 0 ≤ (C 3 0).toInt) (h4 : (C 3 0).toInt ≤ 3), J p l e (rml 0) s m args below meth c 2 D (va_A ws0 s.heap.size) 0 0 (KI below args s D (tyl cI cH cO) ws0 (fun C9 => (wM cI h ar C9))) (L23 n23 C i1) ((wM cI h ar C)) 23 [(0, .ref h), (1, .int (nI i1))] [] := by
    intro n23
    induction n23 with
    | zero =>
      intro C i1 hi hfu h0 h4
      exact absurd hfu (by omega)
    | succ n23 ih23 =>
      intro C i1 hi hfu h0 h4
      rw [eL23]
      refine j_iload_n X (pc' := 24) 1 dX5_undo_23 rfl rfl rfl ?_
      refine j_bipush X (v := 107) (pc' := 26) dX5_undo_24 (by decide) rfl ?_
      refine j_icmp_ge X (tgt := 55) (pc' := 29) dX5_undo_26 (by decide) rfl (fun c_26 => ?_) (fun c_26 => ?_)
      · have f_26 : 107 ≤ i1 := (nI_leI (a := 107) (b := i1) (by omega) (by omega)).mp c_26
        refine j_aload_n X (pc' := 56) 0 dX5_undo_55 rfl rfl rfl ?_
        refine j_get X inX5 rfl (pc' := 59) 0 3 q_fl_X5_35 (by decide) rfl rfl dX5_undo_56 rfl ?_
        exact j_iretI X rfl rfl dX5_undo_59
      · have f_26 : ¬ (107 ≤ i1) := fun h => c_26 ((nI_leI (a := 107) (b := i1) (by omega) (by omega)).mpr h)
        refine j_aload_n X (pc' := 30) 0 dX5_undo_29 rfl rfl rfl ?_
        refine j_get X inX5 rfl (pc' := 33) 0 0 q_fl_X5_7 (by decide) rfl rfl dX5_undo_30 rfl ?_
        refine j_iload_n X (pc' := 34) 1 dX5_undo_33 rfl rfl rfl ?_
        refine j_aload_n X (pc' := 35) 0 dX5_undo_34 rfl rfl rfl ?_
        refine j_get X inX5 rfl (pc' := 38) 0 1 q_fl_X5_13 (by decide) rfl rfl dX5_undo_35 rfl ?_
        refine j_bipush X (v := 107) (pc' := 40) dX5_undo_38 (by decide) rfl ?_
        refine j_aload_n X (pc' := 41) 0 dX5_undo_40 rfl rfl rfl ?_
        refine j_get X inX5 rfl (pc' := 44) 0 3 q_fl_X5_35 (by decide) rfl rfl dX5_undo_41 rfl ?_
        refine j_imul X (pc' := 45) dX5_undo_44 rfl ?_
        refine j_iload_n X (pc' := 46) 1 dX5_undo_45 rfl rfl rfl ?_
        refine j_iadd X (pc' := 47) dX5_undo_46 rfl ?_
        refine j_iald X (pc' := 48) 2 rfl (ch_in h4 h0 f_26) dX5_undo_47 rfl ?_
        refine j_iastN X (i := i1) (pc' := 49) (S := up C 0 i1 (C 1 ((107 * (C 3 0)) + (nI i1)).toNatClampNeg)) (fun S_48 => (wM cI h ar S_48)) 1 rfl rfl (by omega) (by decide) dX5_undo_48 rfl (fun S_48 eS_48 => ?_)
        refine j_iinc X (v := (nI (i1 + 1))) (lv' := [(0, .ref h), (1, .int (nI (i1 + 1)))]) (q := 1) (pc' := 52) [1, 0] dX5_undo_49 rfl (nI_1 i1) (by decide) rfl rfl ?_
        refine j_goto X (pc' := 23) dX5_undo_52 (by decide) ?_
        refine j_lv [0, 1] (lv' := [(0, .ref h), (1, .int (nI (i1 + 1)))]) rfl ?_
        exact ih23 _ _ (by first | omega | assumption | decide | (subst_vars; first | assumption | omega)) (by first | omega | assumption | decide | (subst_vars; first | assumption | omega)) (by first | omega | assumption | decide | (subst_vars; first | assumption | omega)) (by first | omega | assumption | decide | (subst_vars; first | assumption | omega))
  refine j_aload_n X (pc' := 1) 0 dX5_undo_0 rfl rfl rfl ?_
  refine j_get X inX5 rfl (pc' := 4) 0 3 q_fl_X5_35 (by decide) rfl rfl dX5_undo_1 rfl ?_
  refine j_if_ne X (tgt := 11) (pc' := 7) dX5_undo_4 (by decide) rfl (fun c_4 => ?_) (fun c_4 => ?_)
  · refine j_aload_n X (pc' := 12) 0 dX5_undo_11 rfl rfl rfl ?_
    refine j_dup X (pc' := 13) dX5_undo_12 rfl rfl ?_
    refine j_get X inX5 rfl (pc' := 16) 0 3 q_fl_X5_35 (by decide) rfl rfl dX5_undo_13 rfl ?_
    refine j_iconst X (v := 1) (pc' := 17) dX5_undo_16 (by decide) rfl ?_
    refine j_isub X (pc' := 18) dX5_undo_17 rfl ?_
    refine j_put X inX5 rfl (pc' := 21) tyX5_ok nmX5 (S := up C 3 0 ((C 3 0) - 1)) (fun S_18 => (wM cI h ar S_18)) 0 3 q_fl_X5_35 (by decide) rfl rfl rfl rfl (Nat.le_of_ble_eq_true rfl) rfl dX5_undo_18 rfl (fun S_18 eS_18 => ?_)
    have hq := decp hp0 hp4 c_4
    have h0 : 0 ≤ (S_18 3 0).toInt := by rw [eS_18]; exact hq.1
    have h4 : (S_18 3 0).toInt ≤ 3 := by rw [eS_18]; exact hq.2
    refine j_iconst X (v := 0) (pc' := 22) dX5_undo_21 (by decide) rfl ?_
    refine j_istore_n X (lv' := [(0, .ref h), (1, .int 0)]) (pc' := 23) [1, 0] dX5_undo_22 rfl (by decide) rfl rfl ?_
    refine j_lv [0, 1] (lv' := [(0, .ref h), (1, .int 0)]) rfl ?_
    exact hL23 _ _ _ (by first | omega | assumption | decide | (subst_vars; first | assumption | omega)) (by first | omega | assumption | decide | (subst_vars; first | assumption | omega)) (by first | omega | assumption | decide | (subst_vars; first | assumption | omega)) (by first | omega | assumption | decide | (subst_vars; first | assumption | omega))
  · refine j_sipush X (v := (-10002)) (pc' := 10) dX5_undo_7 (by decide) rfl ?_
    exact j_iretI X rfl rfl dX5_undo_10
theorem c_X5_undo (l : Launch) (D : va_G) (cI cH cO : ClassId) (h : Nat) (ar : Nat → Nat) (C : Cst) (hp0 : 0 ≤ (C 3 0).toInt) (hp4 : (C 3 0).toInt ≤ 4) : MI l yX5_undo cX5_undo 2 (some .int) 0 D (tyl cI cH cO) [.ref h] ((wM cI h ar C)) (sX5_undo C).1 ((wM cI h ar ((sX5_undo C).2))) := fun sz => j_start (fun below s => (KI below [.ref h].toArray s D (tyl cI cH cO) ((wM cI h ar C)) (fun C9 => (wM cI h ar C9)))) (sX5_undo C) (by decide +kernel) rfl (Nat.le_of_ble_eq_true rfl) (fun below s hs _ => by subst hs; rfl) (fun p e s m below meth c hX9 X => b_X5_undo h ar C hp0 hp4 X)
set_option maxHeartbeats 4000000 in
set_option maxRecDepth 100000 in
theorem b_X5_type {p : Program} {l : Launch} {e : Env} {s : State} {m : MethodId} {args : Array Value} {below : List Frame} {meth : Method} {c : Code} {D : va_G} {cI cH cO : ClassId} {ws0 : va_W} (h : Nat) (ar : Nat → Nat) (C : Cst) (x1 : Int32) (hIC : IM C) (X : CX p s m args meth c cX5_type 2 RX5 (some .int) D (tyl cI cH cO) (va_A ws0 s.heap.size)) : J p l e (rml 1) s m args below meth c 2 D (va_A ws0 s.heap.size) 0 0 (KI below args s D (tyl cI cH cO) ws0 (fun C9 => (wM cI h ar C9))) (sX5_type C x1) ((wM cI h ar C)) 0 [(0, .ref h), (1, .int x1)] [] := by
  unfold sX5_type
  refine j_iload_n X (pc' := 1) 1 dX5_type_0 rfl rfl rfl ?_
  refine j_bipush X (v := 32) (pc' := 3) dX5_type_1 (by decide) rfl ?_
  refine j_bipush X (v := 126) (pc' := 5) dX5_type_3 (by decide) rfl ?_
  refine j_callSiF X (pc' := 8) (As := [.int x1, .int 32, .int 126]) (rest := []) (ws' := (wM cI h ar C)) (wr := (wM cI h ar C)) [] [0, 1, 2, 3, 4, 5, 6, 7] [0, 1, 2, 3, 4, 5, 6, 7] rfl rfl ⟨by decide, by decide, by decide, by decide⟩ rfl (c_X5_in l D cI cH cO x1 32 126 ) ws_X5_53 ⟨by decide, by decide, by decide, by decide⟩ rfl rfl (Nat.le_of_ble_eq_true rfl) dX5_type_5 rfl ?_
  refine j_topL (fun r_5 er_5 => ?_)
  refine j_if_ne X (tgt := 15) (pc' := 11) dX5_type_8 (by decide) rfl (fun c_8 => ?_) (fun c_8 => ?_)
  · refine j_aload_n X (pc' := 16) 0 dX5_type_15 rfl rfl rfl ?_
    refine j_get X inX5 rfl (pc' := 19) 0 6 q_fl_X5_89 (by decide) rfl rfl dX5_type_16 rfl ?_
    refine j_bipush X (v := 60) (pc' := 21) dX5_type_19 (by decide) rfl ?_
    refine j_icmp_ne X (tgt := 28) (pc' := 24) dX5_type_21 (by decide) rfl (fun c_21 => ?_) (fun c_21 => ?_)
    · refine j_aload_n X (pc' := 29) 0 dX5_type_28 rfl rfl rfl ?_
      refine j_get X inX5 rfl (pc' := 32) 0 5 q_fl_X5_19 (by decide) rfl rfl dX5_type_29 rfl ?_
      refine j_aload_n X (pc' := 33) 0 dX5_type_32 rfl rfl rfl ?_
      refine j_get X inX5 rfl (pc' := 36) 0 6 q_fl_X5_89 (by decide) rfl rfl dX5_type_33 rfl ?_
      refine j_iload_n X (pc' := 37) 1 dX5_type_36 rfl rfl rfl ?_
      refine j_iast X (pc' := 38) (S := up C 5 (C 6 0).toNatClampNeg x1) (fun S_37 => (wM cI h ar S_37)) 4 rfl rfl (ty_in hIC.2.2.2.2.2.2.2.2.1 hIC.2.2.2.2.2.2.2.2.2 c_21) dX5_type_37 rfl (fun S_37 eS_37 => ?_)
      have hIS_37 : IM S_37 := by rw [eS_37]; exact IM_k (by decide) (by decide) (by decide) hIC
      refine j_aload_n X (pc' := 39) 0 dX5_type_38 rfl rfl rfl ?_
      refine j_dup X (pc' := 40) dX5_type_39 rfl rfl ?_
      refine j_get X inX5 rfl (pc' := 43) 0 6 q_fl_X5_89 (by decide) rfl rfl dX5_type_40 rfl ?_
      refine j_iconst X (v := 1) (pc' := 44) dX5_type_43 (by decide) rfl ?_
      refine j_iadd X (pc' := 45) dX5_type_44 rfl ?_
      refine j_put X inX5 rfl (pc' := 48) tyX5_ok nmX5 (S := up S_37 6 0 ((S_37 6 0) + 1)) (fun S_45 => (wM cI h ar S_45)) 0 6 q_fl_X5_89 (by decide) rfl rfl rfl rfl (Nat.le_of_ble_eq_true rfl) rfl dX5_type_45 rfl (fun S_45 eS_45 => ?_)
      have hIS_45 : IM S_45 := by rw [eS_45]; exact IM_inc6 c_21 (by rw [eS_37]; rfl) hIS_37
      refine j_aload_n X (pc' := 49) 0 dX5_type_48 rfl rfl rfl ?_
      refine j_get X inX5 rfl (pc' := 52) 0 6 q_fl_X5_89 (by decide) rfl rfl dX5_type_49 rfl ?_
      exact j_iretI X rfl rfl dX5_type_52
    · refine j_sipush X (v := (-10003)) (pc' := 27) dX5_type_24 (by decide) rfl ?_
      exact j_iretI X rfl rfl dX5_type_27
  · refine j_sipush X (v := (-10001)) (pc' := 14) dX5_type_11 (by decide) rfl ?_
    exact j_iretI X rfl rfl dX5_type_14
theorem c_X5_type (l : Launch) (D : va_G) (cI cH cO : ClassId) (h : Nat) (ar : Nat → Nat) (C : Cst) (x1 : Int32) (hIC : IM C) : MI l yX5_type cX5_type 2 (some .int) 1 D (tyl cI cH cO) [.ref h, .int x1] ((wM cI h ar C)) (sX5_type C x1).1 ((wM cI h ar ((sX5_type C x1).2))) := fun sz => j_start (fun below s => (KI below [.ref h, .int x1].toArray s D (tyl cI cH cO) ((wM cI h ar C)) (fun C9 => (wM cI h ar C9)))) (sX5_type C x1) (by decide +kernel) rfl (Nat.le_of_ble_eq_true rfl) (fun below s hs _ => by subst hs; rfl) (fun p e s m below meth c hX9 X => b_X5_type h ar C x1 hIC X)
set_option maxHeartbeats 4000000 in
set_option maxRecDepth 100000 in
theorem b_X5_clearText {p : Program} {l : Launch} {e : Env} {s : State} {m : MethodId} {args : Array Value} {below : List Frame} {meth : Method} {c : Code} {D : va_G} {cI cH cO : ClassId} {ws0 : va_W} (h : Nat) (ar : Nat → Nat) (C : Cst) (hIC : IM C) (X : CX p s m args meth c cX5_clearText 2 RX5 (some .int) D (tyl cI cH cO) (va_A ws0 s.heap.size)) : J p l e (rml 0) s m args below meth c 2 D (va_A ws0 s.heap.size) 0 0 (KI below args s D (tyl cI cH cO) ws0 (fun C9 => (wM cI h ar C9))) (sX5_clearText C) ((wM cI h ar C)) 0 [(0, .ref h)] [] := by
  unfold sX5_clearText
  refine j_aload_n X (pc' := 1) 0 dX5_clearText_0 rfl rfl rfl ?_
  refine j_get X inX5 rfl (pc' := 4) 0 6 q_fl_X5_89 (by decide) rfl rfl dX5_clearText_1 rfl ?_
  refine j_istore_nL X (fun v1_4 => [(0, .ref h), (1, .int v1_4)]) [1, 0] (pc' := 5) dX5_clearText_4 rfl (by decide) (fun _ => rfl) rfl (fun v1_4 ev1_4 => ?_)
  refine j_aload_n X (pc' := 6) 0 dX5_clearText_5 rfl rfl rfl ?_
  refine j_iconst X (v := 0) (pc' := 7) dX5_clearText_6 (by decide) rfl ?_
  refine j_put X inX5 rfl (pc' := 10) tyX5_ok nmX5 (S := up C 6 0 0) (fun S_7 => (wM cI h ar S_7)) 0 6 q_fl_X5_89 (by decide) rfl rfl rfl rfl (Nat.le_of_ble_eq_true rfl) rfl dX5_clearText_7 rfl (fun S_7 eS_7 => ?_)
  have hIS_7 : IM S_7 := by rw [eS_7]; exact IM_zero6 hIC
  refine j_iload_n X (pc' := 11) 1 dX5_clearText_10 rfl rfl rfl ?_
  exact j_iretI X rfl rfl dX5_clearText_11
theorem c_X5_clearText (l : Launch) (D : va_G) (cI cH cO : ClassId) (h : Nat) (ar : Nat → Nat) (C : Cst) (hIC : IM C) : MI l yX5_clearText cX5_clearText 2 (some .int) 0 D (tyl cI cH cO) [.ref h] ((wM cI h ar C)) (sX5_clearText C).1 ((wM cI h ar ((sX5_clearText C).2))) := fun sz => j_start (fun below s => (KI below [.ref h].toArray s D (tyl cI cH cO) ((wM cI h ar C)) (fun C9 => (wM cI h ar C9)))) (sX5_clearText C) (by decide +kernel) rfl (Nat.le_of_ble_eq_true rfl) (fun below s hs _ => by subst hs; rfl) (fun p e s m below meth c hX9 X => b_X5_clearText h ar C hIC X)
