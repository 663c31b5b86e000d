set_option maxHeartbeats 4000000 in
set_option maxRecDepth 100000 in
theorem b_X4_rehearse {p : Program} {l : Launch} {e : Env} {s : State} {m : MethodId} {args : Array Value} {below : List Frame} {meth : Method} {c : Code} {D : va_G} {cI cH cO : ClassId} {ws0 : va_W} (ad : Nat → Nat) (ar : Nat → Nat → Nat) (S : Xst) (hI : IC (S 0)) (X : CX p s m args meth c cX4_rehearse 2 RX4 none D (tyl cI cH cO) (va_A ws0 s.heap.size)) : J p l e (rml 6) s m args below meth c 2 D (va_A ws0 s.heap.size) 0 0 (KV below args s D (tyl cI cH cO) ws0 (fun C9 => wX cI cH cO ad ar C9)) (sX4_rehearse S) (wX cI cH cO ad ar S) 0 [(0, .ref (ad 0))] [] := by
  unfold sX4_rehearse
  refine j_ltv (fun K75 eK75 => ?_)
  have hK75 : ∀ (S : Xst) , J p l e (rml 6) s m args below meth c 2 D (va_A ws0 s.heap.size) 0 0 (KV below args s D (tyl cI cH cO) ws0 (fun C9 => wX cI cH cO ad ar C9)) (K75 S) (wX cI cH cO ad ar S) 75 [(0, .ref (ad 0))] [] := by
    intro S 
    rw [eK75]
    refine j_aload_n X (pc' := 76) 0 dX4_rehearse_75 rfl rfl rfl ?_
    refine j_get X inX4 rfl (pc' := 79) 0 4 q_fl_X4_36 (by decide) rfl rfl dX4_rehearse_76 rfl ?_
    refine j_iconst X (v := 1) (pc' := 80) dX4_rehearse_79 (by decide) rfl ?_
    refine j_put X inX2 rfl (pc' := 83) tyX2_ok nmX2 (S := upx S 8 (up (S 8) 1 0 1)) (fun S_80 => wX cI cH cO ad ar S_80) 65 1 q_fl_X4_123 (by decide) rfl rfl rfl rfl (Nat.le_of_ble_eq_true rfl) rfl dX4_rehearse_80 rfl (fun S_80 eS_80 => ?_)
    exact j_vret X rfl dX4_rehearse_83
  refine j_ltl2 (fun L28 eL28 => ?_)
  have hL28 : ∀ (n28 : Nat) (S : Xst) (i1 : Nat) (hi : i1 ≤ 60) (hfu : 61 ≤ i1 + n28) (hT : IC (S 1)), J p l e (rml 6) s m args below meth c 2 D (va_A ws0 s.heap.size) 0 0 (KV below args s D (tyl cI cH cO) ws0 (fun C9 => wX cI cH cO ad ar C9)) (L28 n28 S i1) (wX cI cH cO ad ar S) 28 [(0, .ref (ad 0)), (1, .int (nI i1))] [] := by
    intro n28
    induction n28 with
    | zero =>
      intro S i1 hi hfu hT
      exact absurd hfu (by omega)
    | succ n28 ih28 =>
      intro S i1 hi hfu hT
      rw [eL28]
      refine j_iload_n X (pc' := 29) 1 dX4_rehearse_28 rfl rfl rfl ?_
      refine j_bipush X (v := 60) (pc' := 31) dX4_rehearse_29 (by decide) rfl ?_
      refine j_icmp_ge X (tgt := 105) (pc' := 34) dX4_rehearse_31 (by decide) rfl (fun c_31 => ?_) (fun c_31 => ?_)
      · have f_31 : 60 ≤ i1 := (nI_leI (a := 60) (b := i1) (by omega) (by omega)).mp c_31
        exact j_vret X rfl dX4_rehearse_105
      · have f_31 : ¬ (60 ≤ i1) := fun h => c_31 ((nI_leI (a := 60) (b := i1) (by omega) (by omega)).mpr h)
        refine j_aload_n X (pc' := 35) 0 dX4_rehearse_34 rfl rfl rfl ?_
        refine j_get X inX4 rfl (pc' := 38) 0 3 q_fl_X4_29 (by decide) rfl rfl dX4_rehearse_35 rfl ?_
        refine j_get X inX3 rfl (pc' := 41) 63 2 q_fl_X4_141 (by decide) rfl rfl dX4_rehearse_38 rfl ?_
        refine j_aload_n X (pc' := 42) 0 dX4_rehearse_41 rfl rfl rfl ?_
        refine j_get X inX4 rfl (pc' := 45) 0 3 q_fl_X4_29 (by decide) rfl rfl dX4_rehearse_42 rfl ?_
        refine j_get X inX3 rfl (pc' := 48) 63 1 q_fl_X4_75 (by decide) rfl rfl dX4_rehearse_45 rfl ?_
        refine j_icmp_ge X (tgt := 105) (pc' := 51) dX4_rehearse_48 (by decide) rfl (fun c_48 => ?_) (fun c_48 => ?_)
        · exact j_vret X rfl dX4_rehearse_105
        · refine j_aload_n X (pc' := 52) 0 dX4_rehearse_51 rfl rfl rfl ?_
          refine j_get X inX4 rfl (pc' := 55) 0 4 q_fl_X4_36 (by decide) rfl rfl dX4_rehearse_52 rfl ?_
          refine j_aload_n X (pc' := 56) 0 dX4_rehearse_55 rfl rfl rfl ?_
          refine j_get X inX4 rfl (pc' := 59) 0 3 q_fl_X4_29 (by decide) rfl rfl dX4_rehearse_56 rfl ?_
          refine j_get X inX3 rfl (pc' := 62) 63 2 q_fl_X4_141 (by decide) rfl rfl dX4_rehearse_59 rfl ?_
          refine j_put X inX2 rfl (pc' := 65) tyX2_ok nmX2 (S := upx S 8 (up (S 8) 0 0 ((S 7) 2 0))) (fun S_62 => wX cI cH cO ad ar S_62) 65 0 q_fl_X4_126 (by decide) rfl rfl rfl rfl (Nat.le_of_ble_eq_true rfl) rfl dX4_rehearse_62 rfl (fun S_62 eS_62 => ?_)
          have hT62 : IC (S_62 1) := by rw [eS_62]; exact hT
          refine j_aload_n X (pc' := 66) 0 dX4_rehearse_65 rfl rfl rfl ?_
          refine j_get X inX4 rfl (pc' := 69) 0 3 q_fl_X4_29 (by decide) rfl rfl dX4_rehearse_66 rfl ?_
          refine j_callVi X (pc' := 72) (As := []) (rest := []) (c_X3_readCommand l D cI cH cO ad ar S_62 ) wv_X4_144 ⟨63, 3, _, _, rfl, rfl, rfl⟩ ⟨by decide, by decide, by decide, by decide⟩ rfl rfl (Nat.le_of_ble_eq_true rfl) dX4_rehearse_69 rfl ?_
          refine j_rsL (q := (sX3_readCommand S_62)) (fun S_69 => wX cI cH cO ad ar S_69) (fun r_69 S_69 er_69 => ?_)
          have hT69 : IC (S_69 1) := by rw [readCommand_1 er_69]; exact hT62
          refine j_if_ne X (tgt := 84) (pc' := 75) dX4_rehearse_72 (by decide) rfl (fun c_72 => ?_) (fun c_72 => ?_)
          · refine j_aload_n X (pc' := 85) 0 dX4_rehearse_84 rfl rfl rfl ?_
            refine j_get X inX4 rfl (pc' := 88) 0 4 q_fl_X4_36 (by decide) rfl rfl dX4_rehearse_85 rfl ?_
            refine j_aload_n X (pc' := 89) 0 dX4_rehearse_88 rfl rfl rfl ?_
            refine j_callVi X (pc' := 92) (As := []) (rest := [.ref (ad 9)]) (c_X4_commandOnTrial l D cI cH cO ad ar S_69 hT69) wv_X4_148 ⟨0, 4, _, _, rfl, rfl, rfl⟩ ⟨by decide, by decide, by decide, by decide⟩ rfl rfl (Nat.le_of_ble_eq_true rfl) dX4_rehearse_89 rfl ?_
            refine j_rsL (q := (sX4_commandOnTrial S_69)) (fun S_89 => wX cI cH cO ad ar S_89) (fun r_89 S_89 er_89 => ?_)
            have hT89 : IC (S_89 1) := IC_cmd er_89 hT69
            refine j_callVi X (pc' := 95) (As := [.int r_89]) (rest := []) (c_X2_isStoppedBy l D cI cH cO ad ar S_89 r_89 ) wv_X4_151 ⟨65, 2, _, _, rfl, rfl, rfl⟩ ⟨by decide, by decide, by decide, by decide⟩ rfl rfl (Nat.le_of_ble_eq_true rfl) dX4_rehearse_92 rfl ?_
            refine j_rsL (q := (sX2_isStoppedBy S_89 r_89)) (fun S_92 => wX cI cH cO ad ar S_92) (fun r_92 S_92 er_92 => ?_)
            have hT92 : IC (S_92 1) := by rw [isStopped_1 er_92]; exact hT89
            refine j_if_eq X (tgt := 99) (pc' := 98) dX4_rehearse_95 (by decide) rfl (fun c_95 => ?_) (fun c_95 => ?_)
            · refine j_iinc X (v := (nI (i1 + 1))) (lv' := [(0, .ref (ad 0)), (1, .int (nI (i1 + 1)))]) (q := 1) (pc' := 102) [1, 0] dX4_rehearse_99 rfl (nI_1 i1) (by decide) rfl rfl ?_
              refine j_goto X (pc' := 28) dX4_rehearse_102 (by decide) ?_
              refine j_lv [0, 1] (lv' := [(0, .ref (ad 0)), (1, .int (nI (i1 + 1)))]) rfl ?_
              exact ih28 _ _ (by first | omega | assumption | decide | (subst_vars; first | assumption | omega)) (by first | omega | assumption | decide | (subst_vars; first | assumption | omega)) hT92
            · exact j_vret X rfl dX4_rehearse_98
          · refine j_lv [0] (lv' := [(0, .ref (ad 0))]) rfl ?_
            exact hK75 _ 
  refine j_aload_n X (pc' := 1) 0 dX4_rehearse_0 rfl rfl rfl ?_
  refine j_get X inX4 rfl (pc' := 4) 0 1 q_fl_X4_16 (by decide) rfl rfl dX4_rehearse_1 rfl ?_
  refine j_aload_n X (pc' := 5) 0 dX4_rehearse_4 rfl rfl rfl ?_
  refine j_get X inX4 rfl (pc' := 8) 0 0 q_fl_X4_10 (by decide) rfl rfl dX4_rehearse_5 rfl ?_
  refine j_callVvF X (pc' := 11) (As := [.ref (ad 1)]) (rest := []) (ws' := wX cI cH cO ad ar (upx S 1 (sX0_takeOver (S 1) (S 0)))) (wr := (wXo ad) ++ (wH cO ad (S 2)) ++ (wC cI (ad 4) (ar 4) (S 3)) ++ (wC cI (ad 5) (ar 5) (S 4)) ++ (wC cI (ad 6) (ar 6) (S 5)) ++ (wC cI (ad 7) (ar 7) (S 6)) ++ (wT cH (ad 8) (ar 8) (S 7)) ++ (wR (ad 9) (S 8))) [11, 12, 13, 14, 15, 16, 17, 18, 19, 20, 1, 2, 3, 4, 5, 6, 7, 8, 9, 10] [0, 21, 22, 23, 24, 25, 26, 27, 28, 29, 30, 31, 32, 33, 34, 35, 36, 37, 38, 39, 40, 41, 42, 43, 44, 45, 46, 47, 48, 49, 50, 51, 52, 53, 54, 55, 56, 57, 58, 59, 60, 61, 62, 63, 64, 65] [0, 56, 57, 58, 59, 60, 61, 62, 63, 64, 65, 46, 47, 48, 49, 50, 51, 52, 53, 54, 55, 1, 2, 3, 4, 5, 6, 7, 8, 9, 10, 11, 12, 13, 14, 15, 16, 17, 18, 19, 20, 21, 22, 23, 24, 25, 26, 27, 28, 29, 30, 31, 32, 33, 34, 35, 36, 37, 38, 39, 40, 41, 42, 43, 44, 45] (fc_2_1 cI cH cO ad ar S) (fr_2_1 cI cH cO ad ar S) fn_2_1 (fm_2_1 cI cH cO ad ar S _) (c_X0_takeOver l D cI cH cO (ad 2) (ar 2) (S 1) (ad 1) (ar 1) (S 0) ) wv_X4_40 ⟨0, 0, _, _, rfl, rfl, rfl⟩ ⟨by decide, by decide, by decide, by decide⟩ rfl rfl (Nat.le_of_ble_eq_true rfl) dX4_rehearse_8 rfl ?_
  refine j_stL (S := (upx S 1 (sX0_takeOver (S 1) (S 0)))) (fun S_8 => wX cI cH cO ad ar S_8) (fun S_8 eS_8 => ?_)
  refine j_aload_n X (pc' := 12) 0 dX4_rehearse_11 rfl rfl rfl ?_
  refine j_get X inX4 rfl (pc' := 15) 0 4 q_fl_X4_36 (by decide) rfl rfl dX4_rehearse_12 rfl ?_
  refine j_callVv X (pc' := 18) (As := []) (rest := []) (c_X2_begin l D cI cH cO ad ar S_8 ) wv_X4_138 ⟨65, 2, _, _, rfl, rfl, rfl⟩ ⟨by decide, by decide, by decide, by decide⟩ rfl rfl (Nat.le_of_ble_eq_true rfl) dX4_rehearse_15 rfl ?_
  refine j_stL (S := (sX2_begin S_8)) (fun S_15 => wX cI cH cO ad ar S_15) (fun S_15 eS_15 => ?_)
  refine j_aload_n X (pc' := 19) 0 dX4_rehearse_18 rfl rfl rfl ?_
  refine j_get X inX4 rfl (pc' := 22) 0 3 q_fl_X4_29 (by decide) rfl rfl dX4_rehearse_19 rfl ?_
  refine j_iconst X (v := 0) (pc' := 23) dX4_rehearse_22 (by decide) rfl ?_
  refine j_put X inX3 rfl (pc' := 26) tyX3_ok nmX3 (S := upx S_15 7 (up (S_15 7) 2 0 0)) (fun S_23 => wX cI cH cO ad ar S_23) 63 2 q_fl_X4_141 (by decide) rfl rfl rfl rfl (Nat.le_of_ble_eq_true rfl) rfl dX4_rehearse_23 rfl (fun S_23 eS_23 => ?_)
  have hT23 : IC (S_23 1) := by rw [eS_23, eS_15, eS_8]; exact hI
  refine j_iconst X (v := 0) (pc' := 27) dX4_rehearse_26 (by decide) rfl ?_
  refine j_istore_n X (lv' := [(0, .ref (ad 0)), (1, .int 0)]) (pc' := 28) [1, 0] dX4_rehearse_27 rfl (by decide) rfl rfl ?_
  refine j_lv [0, 1] (lv' := [(0, .ref (ad 0)), (1, .int 0)]) rfl ?_
  exact hL28 _ _ _ (by first | omega | assumption | decide | (subst_vars; first | assumption | omega)) (by first | omega | assumption | decide | (subst_vars; first | assumption | omega)) hT23
theorem c_X4_rehearse (l : Launch) (D : va_G) (cI cH cO : ClassId) (ad : Nat → Nat) (ar : Nat → Nat → Nat) (S : Xst) (hI : IC (S 0)) : MV l yX4_rehearse cX4_rehearse 2 6 D (tyl cI cH cO) [.ref (ad 0)] (wX cI cH cO ad ar S) (wX cI cH cO ad ar (sX4_rehearse S)) := fun sz => j_start (fun below s => (KV below [.ref (ad 0)].toArray s D (tyl cI cH cO) (wX cI cH cO ad ar S) (fun C9 => wX cI cH cO ad ar C9))) (sX4_rehearse S) (by decide +kernel) rfl (Nat.le_of_ble_eq_true rfl) (fun below s hs _ => by subst hs; rfl) (fun p e s m below meth c hX9 X => b_X4_rehearse ad ar S hI X)
