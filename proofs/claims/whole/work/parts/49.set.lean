set_option maxHeartbeats 4000000 in
set_option maxRecDepth 100000 in
theorem b_X0_changeSetting {p : Program} {l : Launch} {e : Env} {s : State} {m : MethodId} {args : Array Value} {below : List Frame} {meth : Method} {c : Code} {D : va_G} {cI cH cO : ClassId} {ws0 : va_W} (h : Nat) (ar : Nat → Nat) (C : Cst) (x1 : Int32) (x2 : Int32)  (X : CX p s m args meth c cX0_changeSetting 4 RX0 (some .int) D (tyl cI cH cO) (va_A ws0 s.heap.size)) (hST : ST (va_A ws0 s.heap.size) s s.heap) : J p l e (rml 0) s m args below meth c 4 D (va_A ws0 s.heap.size) 0 0 (KI below args s D (tyl cI cH cO) ws0 (fun C9 => (wC cI h ar C9))) (sX0_changeSetting C x1 x2) ((wC cI h ar C)) 0 [(0, .ref h), (1, .int x1), (2, .int x2)] [] := by
  unfold sX0_changeSetting
  obtain ⟨⟨tL, hzL, htL⟩, tM, hzM, htM⟩ := id hST
  refine j_ltv (fun K13 eK13 => ?_)
  have hK13 : ∀ (C : Cst) (i1 : Nat) (x2 : Int32) (hi1 : i1 < 5), J p l e (rml 0) s m args below meth c 4 D (va_A ws0 s.heap.size) 0 0 (KI below args s D (tyl cI cH cO) ws0 (fun C9 => (wC cI h ar C9))) (K13 C i1 x2) ((wC cI h ar C)) 13 [(0, .ref h), (1, .int (nI i1)), (2, .int x2)] [] := by
    intro C i1 x2 hi1
    rw [eK13]
    refine j_iload_n X (pc' := 14) 2 dX0_changeSetting_13 rfl rfl rfl ?_
    refine j_gets X (pc' := 17) hzL X.2.2.1.2.2.2.2.2.2.2.2.1 dX0_changeSetting_14 rfl ?_
    refine j_iload_n X (pc' := 18) 1 dX0_changeSetting_17 rfl rfl rfl ?_
    refine j_ti X (i := i1) (pc' := 19) htL (by omega) (by decide) dX0_changeSetting_18 rfl ?_
    refine j_icmp_lt X (tgt := 31) (pc' := 22) dX0_changeSetting_19 (by decide) rfl (fun c_19 => ?_) (fun c_19 => ?_)
    · refine j_sipush X (v := (-10001)) (pc' := 34) dX0_changeSetting_31 (by decide) rfl ?_
      exact j_iretI X rfl rfl dX0_changeSetting_34
    · refine j_iload_n X (pc' := 23) 2 dX0_changeSetting_22 rfl rfl rfl ?_
      refine j_gets X (pc' := 26) hzM X.2.2.1.2.2.2.2.2.2.2.2.2 dX0_changeSetting_23 rfl ?_
      refine j_iload_n X (pc' := 27) 1 dX0_changeSetting_26 rfl rfl rfl ?_
      refine j_ti X (i := i1) (pc' := 28) htM (by omega) (by decide) dX0_changeSetting_27 rfl ?_
      refine j_icmp_le X (tgt := 35) (pc' := 31) dX0_changeSetting_28 (by decide) rfl (fun c_28 => ?_) (fun c_28 => ?_)
      · refine j_aload_n X (pc' := 36) 0 dX0_changeSetting_35 rfl rfl rfl ?_
        refine j_get X inX0 rfl (pc' := 39) 0 0 q_fl_X0_9 (by decide) rfl rfl dX0_changeSetting_36 rfl ?_
        refine j_iload_n X (pc' := 40) 1 dX0_changeSetting_39 rfl rfl rfl ?_
        refine j_ialdN X (i := i1) (pc' := 41) 1 rfl (by omega) (by decide) dX0_changeSetting_40 rfl ?_
        refine j_istore_nL X (fun v3_41 => [(0, .ref h), (1, .int (nI i1)), (2, .int x2), (3, .int v3_41)]) [1, 2, 3, 0] (pc' := 42) dX0_changeSetting_41 rfl (by decide) (fun _ => rfl) rfl (fun v3_41 ev3_41 => ?_)
        refine j_aload_n X (pc' := 43) 0 dX0_changeSetting_42 rfl rfl rfl ?_
        refine j_get X inX0 rfl (pc' := 46) 0 0 q_fl_X0_9 (by decide) rfl rfl dX0_changeSetting_43 rfl ?_
        refine j_iload_n X (pc' := 47) 1 dX0_changeSetting_46 rfl rfl rfl ?_
        refine j_iload_n X (pc' := 48) 2 dX0_changeSetting_47 rfl rfl rfl ?_
        refine j_iastN X (i := i1) (pc' := 49) (S := up C 0 i1 x2) (fun S_48 => (wC cI h ar S_48)) 1 rfl rfl (by omega) (by decide) dX0_changeSetting_48 rfl (fun S_48 eS_48 => ?_)
        refine j_iload_n X (pc' := 50) 3 dX0_changeSetting_49 rfl rfl rfl ?_
        exact j_iretI X rfl rfl dX0_changeSetting_50
      · refine j_sipush X (v := (-10001)) (pc' := 34) dX0_changeSetting_31 (by decide) rfl ?_
        exact j_iretI X rfl rfl dX0_changeSetting_34
  refine j_iload_n X (pc' := 1) 1 dX0_changeSetting_0 rfl rfl rfl ?_
  refine j_if_lt X (tgt := 9) (pc' := 4) dX0_changeSetting_1 (by decide) rfl (fun c_1 => ?_) (fun c_1 => ?_)
  · refine j_sipush X (v := (-10001)) (pc' := 12) dX0_changeSetting_9 (by decide) rfl ?_
    exact j_iretI X rfl rfl dX0_changeSetting_12
  · refine j_iload_n X (pc' := 5) 1 dX0_changeSetting_4 rfl rfl rfl ?_
    refine j_iconst X (v := 5) (pc' := 6) dX0_changeSetting_5 (by decide) rfl ?_
    refine j_icmp_lt X (tgt := 13) (pc' := 9) dX0_changeSetting_6 (by decide) rfl (fun c_6 => ?_) (fun c_6 => ?_)
    · obtain ⟨j_6, hj_6, ej_6⟩ : ∃ j : Nat, j < 5 ∧ x1 = nI j := nI_bet c_1 c_6
      subst ej_6
      rw [nI_clamp (show j_6 < 2 ^ 31 by omega)]
      refine j_lv [0, 1, 2] (lv' := _) rfl ?_
      exact hK13 _ _ _ (by first | omega | assumption | decide | (subst_vars; first | assumption | omega))
    · refine j_sipush X (v := (-10001)) (pc' := 12) dX0_changeSetting_9 (by decide) rfl ?_
      exact j_iretI X rfl rfl dX0_changeSetting_12
theorem c_X0_changeSetting (l : Launch) (D : va_G) (cI cH cO : ClassId) (h : Nat) (ar : Nat → Nat) (C : Cst) (x1 : Int32) (x2 : Int32)  : MIX l yX0_changeSetting cX0_changeSetting 4 (some .int) 0 D (tyl cI cH cO) [.ref h, .int x1, .int x2] ((wC cI h ar C)) (sX0_changeSetting C x1 x2).1 ((wC cI h ar ((sX0_changeSetting C x1 x2).2))) := fun sz => j_start (fun below s => (KI below [.ref h, .int x1, .int x2].toArray s D (tyl cI cH cO) ((wC cI h ar C)) (fun C9 => (wC cI h ar C9)))) (sX0_changeSetting C x1 x2) (by decide +kernel) rfl (Nat.le_of_ble_eq_true rfl) (fun below s hs _ => by subst hs; rfl) (fun p e s m below meth c hX9 X => b_X0_changeSetting h ar C x1 x2  X hX9)
set_option maxHeartbeats 4000000 in
set_option maxRecDepth 100000 in
theorem b_X4_set {p : Program} {l : Launch} {e : Env} {s : State} {m : MethodId} {args : Array Value} {below : List Frame} {meth : Method} {c : Code} {D : va_G} {cI cH cO : ClassId} {ws0 : va_W} (ad : Nat → Nat) (ar : Nat → Nat → Nat) (S : Xst) (x1 : Int32) (x2 : Int32) (hg0 : 0 ≤ (S 2 1 0).toInt ∧ (S 2 1 0).toInt ≤ 3) (hg1 : 0 ≤ (S 2 2 0).toInt ∧ (S 2 2 0).toInt ≤ 4) (X : CX p s m args meth c cX4_set 3 RX4 (some .int) D (tyl cI cH cO) (va_A ws0 s.heap.size)) (hST : ST (va_A ws0 s.heap.size) s s.heap) : J p l e (rml 5) s m args below meth c 3 D (va_A ws0 s.heap.size) 0 0 (KI below args s D (tyl cI cH cO) ws0 (fun C9 => wX cI cH cO ad ar C9)) (sX4_set S x1 x2) (wX cI cH cO ad ar S) 0 [(0, .ref (ad 0)), (1, .int x1), (2, .int x2)] [] := by
  unfold sX4_set
  obtain ⟨⟨tL, hzL, htL⟩, tM, hzM, htM⟩ := id hST
  refine j_aload_n X (pc' := 1) 0 dX4_set_0 rfl rfl rfl ?_
  refine j_get X inX4 rfl (pc' := 4) 0 1 q_fl_X4_16 (by decide) rfl rfl dX4_set_1 rfl ?_
  refine j_aload_n X (pc' := 5) 0 dX4_set_4 rfl rfl rfl ?_
  refine j_get X inX4 rfl (pc' := 8) 0 0 q_fl_X4_10 (by decide) rfl rfl dX4_set_5 rfl ?_
  refine j_callVvF X (pc' := 11) (As := [.ref (ad 1)]) (rest := []) (ws' := wX cI cH cO ad ar (upx S 1 (sX0_takeOver (S 1) (S 0)))) (wr := (wXo ad) ++ (wH cO ad (S 2)) ++ (wC cI (ad 4) (ar 4) (S 3)) ++ (wC cI (ad 5) (ar 5) (S 4)) ++ (wC cI (ad 6) (ar 6) (S 5)) ++ (wC cI (ad 7) (ar 7) (S 6)) ++ (wT cH (ad 8) (ar 8) (S 7)) ++ (wR (ad 9) (S 8))) [11, 12, 13, 14, 15, 16, 17, 18, 19, 20, 1, 2, 3, 4, 5, 6, 7, 8, 9, 10] [0, 21, 22, 23, 24, 25, 26, 27, 28, 29, 30, 31, 32, 33, 34, 35, 36, 37, 38, 39, 40, 41, 42, 43, 44, 45, 46, 47, 48, 49, 50, 51, 52, 53, 54, 55, 56, 57, 58, 59, 60, 61, 62, 63, 64, 65] [0, 56, 57, 58, 59, 60, 61, 62, 63, 64, 65, 46, 47, 48, 49, 50, 51, 52, 53, 54, 55, 1, 2, 3, 4, 5, 6, 7, 8, 9, 10, 11, 12, 13, 14, 15, 16, 17, 18, 19, 20, 21, 22, 23, 24, 25, 26, 27, 28, 29, 30, 31, 32, 33, 34, 35, 36, 37, 38, 39, 40, 41, 42, 43, 44, 45] (fc_2_1 cI cH cO ad ar S) (fr_2_1 cI cH cO ad ar S) fn_2_1 (fm_2_1 cI cH cO ad ar S _) (c_X0_takeOver l D cI cH cO (ad 2) (ar 2) (S 1) (ad 1) (ar 1) (S 0) ) wv_X4_40 ⟨0, 0, _, _, rfl, rfl, rfl⟩ ⟨by decide, by decide, by decide, by decide⟩ rfl rfl (Nat.le_of_ble_eq_true rfl) dX4_set_8 rfl ?_
  refine j_stL (S := (upx S 1 (sX0_takeOver (S 1) (S 0)))) (fun S_8 => wX cI cH cO ad ar S_8) (fun S_8 eS_8 => ?_)
  refine j_aload_n X (pc' := 12) 0 dX4_set_11 rfl rfl rfl ?_
  refine j_aload_n X (pc' := 13) 0 dX4_set_12 rfl rfl rfl ?_
  refine j_get X inX4 rfl (pc' := 16) 0 1 q_fl_X4_16 (by decide) rfl rfl dX4_set_13 rfl ?_
  refine j_iload_n X (pc' := 17) 1 dX4_set_16 rfl rfl rfl ?_
  refine j_iload_n X (pc' := 18) 2 dX4_set_17 rfl rfl rfl ?_
  refine j_callViXF X (pc' := 21) (As := [.int x1, .int x2]) (rest := [.ref (ad 0)]) (ws' := wX cI cH cO ad ar (upx S_8 1 (sX0_changeSetting (S_8 1) x1 x2).2)) (wr := (wXo ad) ++ (wC cI (ad 1) (ar 1) (S_8 0)) ++ (wH cO ad (S_8 2)) ++ (wC cI (ad 4) (ar 4) (S_8 3)) ++ (wC cI (ad 5) (ar 5) (S_8 4)) ++ (wC cI (ad 6) (ar 6) (S_8 5)) ++ (wC cI (ad 7) (ar 7) (S_8 6)) ++ (wT cH (ad 8) (ar 8) (S_8 7)) ++ (wR (ad 9) (S_8 8))) hST [11, 12, 13, 14, 15, 16, 17, 18, 19, 20] [0, 1, 2, 3, 4, 5, 6, 7, 8, 9, 10, 21, 22, 23, 24, 25, 26, 27, 28, 29, 30, 31, 32, 33, 34, 35, 36, 37, 38, 39, 40, 41, 42, 43, 44, 45, 46, 47, 48, 49, 50, 51, 52, 53, 54, 55, 56, 57, 58, 59, 60, 61, 62, 63, 64, 65] [0, 1, 2, 3, 4, 5, 6, 7, 8, 9, 10, 56, 57, 58, 59, 60, 61, 62, 63, 64, 65, 11, 12, 13, 14, 15, 16, 17, 18, 19, 20, 21, 22, 23, 24, 25, 26, 27, 28, 29, 30, 31, 32, 33, 34, 35, 36, 37, 38, 39, 40, 41, 42, 43, 44, 45, 46, 47, 48, 49, 50, 51, 52, 53, 54, 55] (fc_2 cI cH cO ad ar S_8) (fr_2 cI cH cO ad ar S_8) fn_2 (fm_2 cI cH cO ad ar S_8 _) (c_X0_changeSetting l D cI cH cO (ad 2) (ar 2) (S_8 1) x1 x2 ) wv_X4_65 ⟨0, 0, _, _, rfl, rfl, rfl⟩ ⟨by decide, by decide, by decide, by decide⟩ rfl rfl (Nat.le_of_ble_eq_true rfl) dX4_set_18 rfl ?_
  refine j_rsL (q := (sX0_changeSetting (S_8 1) x1 x2)) (fun C9 => wX cI cH cO ad ar (upx S_8 1 C9)) (fun r_18 C_18 er_18 => ?_)
  refine j_stL (S := upx S_8 1 C_18) (fun S9 => wX cI cH cO ad ar S9) (fun S_18 eS_18 => ?_)
  refine j_callVi X (pc' := 24) (As := [.int r_18]) (rest := []) (c_X4_keptIfDone l D cI cH cO ad ar S_18 r_18 (by rw [eS_18, eS_8]; exact hg0) (by rw [eS_18, eS_8]; exact hg1)) wv_X4_48 ⟨0, 4, _, _, rfl, rfl, rfl⟩ ⟨by decide, by decide, by decide, by decide⟩ rfl rfl (Nat.le_of_ble_eq_true rfl) dX4_set_21 rfl ?_
  refine j_rsL (q := (sX4_keptIfDone S_18 r_18)) (fun S_21 => wX cI cH cO ad ar S_21) (fun r_21 S_21 er_21 => ?_)
  exact j_iretI X rfl rfl dX4_set_24
theorem c_X4_set (l : Launch) (D : va_G) (cI cH cO : ClassId) (ad : Nat → Nat) (ar : Nat → Nat → Nat) (S : Xst) (x1 : Int32) (x2 : Int32) (hg0 : 0 ≤ (S 2 1 0).toInt ∧ (S 2 1 0).toInt ≤ 3) (hg1 : 0 ≤ (S 2 2 0).toInt ∧ (S 2 2 0).toInt ≤ 4) : MIX l yX4_set cX4_set 3 (some .int) 5 D (tyl cI cH cO) [.ref (ad 0), .int x1, .int x2] (wX cI cH cO ad ar S) (sX4_set S x1 x2).1 (wX cI cH cO ad ar (sX4_set S x1 x2).2) := fun sz => j_start (fun below s => (KI below [.ref (ad 0), .int x1, .int x2].toArray s D (tyl cI cH cO) (wX cI cH cO ad ar S) (fun C9 => wX cI cH cO ad ar C9))) (sX4_set S x1 x2) (by decide +kernel) rfl (Nat.le_of_ble_eq_true rfl) (fun below s hs _ => by subst hs; rfl) (fun p e s m below meth c hX9 X => b_X4_set ad ar S x1 x2 hg0 hg1 X hX9)
