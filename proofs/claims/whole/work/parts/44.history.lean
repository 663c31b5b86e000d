set_option maxHeartbeats 4000000 in
set_option maxRecDepth 100000 in
theorem b_X1_record {p : Program} {l : Launch} {e : Env} {s : State} {m : MethodId} {args : Array Value} {below : List Frame} {meth : Method} {c : Code} {D : va_G} {cI cH cO : ClassId} {ws0 : va_W} (ad : Nat → Nat) (ar : Nat → Nat → Nat) (S : Xst) (hg0 : 0 ≤ (S 2 1 0).toInt ∧ (S 2 1 0).toInt ≤ 3) (hg1 : 0 ≤ (S 2 2 0).toInt ∧ (S 2 2 0).toInt ≤ 4) (X : CX p s m args meth c cX1_record 3 RX1 none D (tyl cI cH cO) (va_A ws0 s.heap.size)) : J p l e (rml 3) s m args below meth c 3 D (va_A ws0 s.heap.size) 0 0 (KV below args s D (tyl cI cH cO) ws0 (fun C9 => wX cI cH cO ad ar C9)) (sX1_record S) (wX cI cH cO ad ar S) 0 [(0, .ref (ad 3)), (1, .ref (ad 1))] [] := by
  unfold sX1_record
  refine j_ltv (fun K30 eK30 => ?_)
  have hK30 : ∀ (S : Xst) (hg0 : 0 ≤ (S 2 1 0).toInt ∧ (S 2 1 0).toInt ≤ 3) (hg1 : 0 ≤ (S 2 2 0).toInt ∧ (S 2 2 0).toInt ≤ 3), J p l e (rml 3) s m args below meth c 3 D (va_A ws0 s.heap.size) 0 0 (KV below args s D (tyl cI cH cO) ws0 (fun C9 => wX cI cH cO ad ar C9)) (K30 S) (wX cI cH cO ad ar S) 30 [(0, .ref (ad 3)), (1, .ref (ad 1))] [] := by
    intro S hg0 hg1
    rw [eK30]
    refine j_aload_n X (pc' := 31) 0 dX1_record_30 rfl rfl rfl ?_
    refine j_get X inX1 rfl (pc' := 34) 21 0 q_fl_X1_11 (by decide) rfl rfl dX1_record_31 rfl ?_
    refine j_aload_n X (pc' := 35) 0 dX1_record_34 rfl rfl rfl ?_
    refine j_get X inX1 rfl (pc' := 38) 21 1 q_fl_X1_22 (by decide) rfl rfl dX1_record_35 rfl ?_
    refine j_aload_n X (pc' := 39) 0 dX1_record_38 rfl rfl rfl ?_
    refine j_get X inX1 rfl (pc' := 42) 21 2 q_fl_X1_18 (by decide) rfl rfl dX1_record_39 rfl ?_
    refine j_iadd X (pc' := 43) dX1_record_42 rfl ?_
    refine j_iconst X (v := 4) (pc' := 44) dX1_record_43 (by decide) rfl ?_
    refine j_irem X (pc' := 45) dX1_record_44 (by decide) rfl ?_
    refine j_ite (P9 := ((((S 2) 1 0) + ((S 2) 2 0)) % 4) = 0) (fun c_45_0 => ?_) (fun c_45_0 => ?_)
    · refine j_aald X (v := ad 4) (i := 0) (pc' := 46) 22 rfl c_45_0 (by decide) (by decide) rfl dX1_record_45 rfl ?_
      refine j_astore_n X (lv' := [(0, .ref (ad 3)), (1, .ref (ad 1)), (2, .ref (ad 4))]) (pc' := 47) [1, 2, 0] dX1_record_46 rfl (by decide) rfl rfl ?_
      refine j_aload_n X (pc' := 48) 2 dX1_record_47 rfl rfl rfl ?_
      refine j_null X (tgt := 0) (pc' := 51) dX1_record_48 rfl ?_
      refine j_aload_n X (pc' := 52) 2 dX1_record_51 rfl rfl rfl ?_
      refine j_aload_n X (pc' := 53) 1 dX1_record_52 rfl rfl rfl ?_
      refine j_callVvF X (pc' := 56) (As := [.ref (ad 1)]) (rest := []) (ws' := wX cI cH cO ad ar (upx S 3 (sX0_takeOver (S 3) (S 0)))) (wr := (wXo ad) ++ (wC cI (ad 2) (ar 2) (S 1)) ++ (wH cO ad (S 2)) ++ (wC cI (ad 5) (ar 5) (S 4)) ++ (wC cI (ad 6) (ar 6) (S 5)) ++ (wC cI (ad 7) (ar 7) (S 6)) ++ (wT cH (ad 8) (ar 8) (S 7)) ++ (wR (ad 9) (S 8))) [23, 24, 25, 26, 27, 28, 29, 30, 31, 32, 1, 2, 3, 4, 5, 6, 7, 8, 9, 10] [0, 11, 12, 13, 14, 15, 16, 17, 18, 19, 20, 21, 22, 33, 34, 35, 36, 37, 38, 39, 40, 41, 42, 43, 44, 45, 46, 47, 48, 49, 50, 51, 52, 53, 54, 55, 56, 57, 58, 59, 60, 61, 62, 63, 64, 65] [0, 56, 57, 58, 59, 60, 61, 62, 63, 64, 65, 1, 2, 3, 4, 5, 6, 7, 8, 9, 10, 11, 12, 46, 47, 48, 49, 50, 51, 52, 53, 54, 55, 13, 14, 15, 16, 17, 18, 19, 20, 21, 22, 23, 24, 25, 26, 27, 28, 29, 30, 31, 32, 33, 34, 35, 36, 37, 38, 39, 40, 41, 42, 43, 44, 45] (fc_4_1 cI cH cO ad ar S) (fr_4_1 cI cH cO ad ar S) fn_4_1 (fm_4_1 cI cH cO ad ar S _) (c_X0_takeOver l D cI cH cO (ad 4) (ar 4) (S 3) (ad 1) (ar 1) (S 0) ) wv_X1_25 ⟨0, 0, _, _, rfl, rfl, rfl⟩ ⟨by decide, by decide, by decide, by decide⟩ rfl rfl (Nat.le_of_ble_eq_true rfl) dX1_record_53 rfl ?_
      refine j_stL (S := (upx S 3 (sX0_takeOver (S 3) (S 0)))) (fun S_53 => wX cI cH cO ad ar S_53) (fun S_53 eS_53 => ?_)
      refine j_aload_n X (pc' := 57) 0 dX1_record_56 rfl rfl rfl ?_
      refine j_dup X (pc' := 58) dX1_record_57 rfl rfl ?_
      refine j_get X inX1 rfl (pc' := 61) 21 2 q_fl_X1_18 (by decide) rfl rfl dX1_record_58 rfl ?_
      refine j_iconst X (v := 1) (pc' := 62) dX1_record_61 (by decide) rfl ?_
      refine j_iadd X (pc' := 63) dX1_record_62 rfl ?_
      refine j_put X inX1 rfl (pc' := 66) tyX1_ok nmX1 (S := upx S_53 2 (up (S_53 2) 2 0 (((S_53 2) 2 0) + 1))) (fun S_63 => wX cI cH cO ad ar S_63) 21 2 q_fl_X1_18 (by decide) rfl rfl rfl rfl (Nat.le_of_ble_eq_true rfl) rfl dX1_record_63 rfl (fun S_63 eS_63 => ?_)
      exact j_vret X rfl dX1_record_66
    refine j_ite (P9 := ((((S 2) 1 0) + ((S 2) 2 0)) % 4) = 1) (fun c_45_1 => ?_) (fun c_45_1 => ?_)
    · refine j_aald X (v := ad 5) (i := 1) (pc' := 46) 22 rfl c_45_1 (by decide) (by decide) rfl dX1_record_45 rfl ?_
      refine j_astore_n X (lv' := [(0, .ref (ad 3)), (1, .ref (ad 1)), (2, .ref (ad 5))]) (pc' := 47) [1, 2, 0] dX1_record_46 rfl (by decide) rfl rfl ?_
      refine j_aload_n X (pc' := 48) 2 dX1_record_47 rfl rfl rfl ?_
      refine j_null X (tgt := 0) (pc' := 51) dX1_record_48 rfl ?_
      refine j_aload_n X (pc' := 52) 2 dX1_record_51 rfl rfl rfl ?_
      refine j_aload_n X (pc' := 53) 1 dX1_record_52 rfl rfl rfl ?_
      refine j_callVvF X (pc' := 56) (As := [.ref (ad 1)]) (rest := []) (ws' := wX cI cH cO ad ar (upx S 4 (sX0_takeOver (S 4) (S 0)))) (wr := (wXo ad) ++ (wC cI (ad 2) (ar 2) (S 1)) ++ (wH cO ad (S 2)) ++ (wC cI (ad 4) (ar 4) (S 3)) ++ (wC cI (ad 6) (ar 6) (S 5)) ++ (wC cI (ad 7) (ar 7) (S 6)) ++ (wT cH (ad 8) (ar 8) (S 7)) ++ (wR (ad 9) (S 8))) [33, 34, 35, 36, 37, 38, 39, 40, 41, 42, 1, 2, 3, 4, 5, 6, 7, 8, 9, 10] [0, 11, 12, 13, 14, 15, 16, 17, 18, 19, 20, 21, 22, 23, 24, 25, 26, 27, 28, 29, 30, 31, 32, 43, 44, 45, 46, 47, 48, 49, 50, 51, 52, 53, 54, 55, 56, 57, 58, 59, 60, 61, 62, 63, 64, 65] [0, 56, 57, 58, 59, 60, 61, 62, 63, 64, 65, 1, 2, 3, 4, 5, 6, 7, 8, 9, 10, 11, 12, 13, 14, 15, 16, 17, 18, 19, 20, 21, 22, 46, 47, 48, 49, 50, 51, 52, 53, 54, 55, 23, 24, 25, 26, 27, 28, 29, 30, 31, 32, 33, 34, 35, 36, 37, 38, 39, 40, 41, 42, 43, 44, 45] (fc_5_1 cI cH cO ad ar S) (fr_5_1 cI cH cO ad ar S) fn_5_1 (fm_5_1 cI cH cO ad ar S _) (c_X0_takeOver l D cI cH cO (ad 5) (ar 5) (S 4) (ad 1) (ar 1) (S 0) ) wv_X1_25 ⟨0, 0, _, _, rfl, rfl, rfl⟩ ⟨by decide, by decide, by decide, by decide⟩ rfl rfl (Nat.le_of_ble_eq_true rfl) dX1_record_53 rfl ?_
      refine j_stL (S := (upx S 4 (sX0_takeOver (S 4) (S 0)))) (fun S_53 => wX cI cH cO ad ar S_53) (fun S_53 eS_53 => ?_)
      refine j_aload_n X (pc' := 57) 0 dX1_record_56 rfl rfl rfl ?_
      refine j_dup X (pc' := 58) dX1_record_57 rfl rfl ?_
      refine j_get X inX1 rfl (pc' := 61) 21 2 q_fl_X1_18 (by decide) rfl rfl dX1_record_58 rfl ?_
      refine j_iconst X (v := 1) (pc' := 62) dX1_record_61 (by decide) rfl ?_
      refine j_iadd X (pc' := 63) dX1_record_62 rfl ?_
      refine j_put X inX1 rfl (pc' := 66) tyX1_ok nmX1 (S := upx S_53 2 (up (S_53 2) 2 0 (((S_53 2) 2 0) + 1))) (fun S_63 => wX cI cH cO ad ar S_63) 21 2 q_fl_X1_18 (by decide) rfl rfl rfl rfl (Nat.le_of_ble_eq_true rfl) rfl dX1_record_63 rfl (fun S_63 eS_63 => ?_)
      exact j_vret X rfl dX1_record_66
    refine j_ite (P9 := ((((S 2) 1 0) + ((S 2) 2 0)) % 4) = 2) (fun c_45_2 => ?_) (fun c_45_2 => ?_)
    · refine j_aald X (v := ad 6) (i := 2) (pc' := 46) 22 rfl c_45_2 (by decide) (by decide) rfl dX1_record_45 rfl ?_
      refine j_astore_n X (lv' := [(0, .ref (ad 3)), (1, .ref (ad 1)), (2, .ref (ad 6))]) (pc' := 47) [1, 2, 0] dX1_record_46 rfl (by decide) rfl rfl ?_
      refine j_aload_n X (pc' := 48) 2 dX1_record_47 rfl rfl rfl ?_
      refine j_null X (tgt := 0) (pc' := 51) dX1_record_48 rfl ?_
      refine j_aload_n X (pc' := 52) 2 dX1_record_51 rfl rfl rfl ?_
      refine j_aload_n X (pc' := 53) 1 dX1_record_52 rfl rfl rfl ?_
      refine j_callVvF X (pc' := 56) (As := [.ref (ad 1)]) (rest := []) (ws' := wX cI cH cO ad ar (upx S 5 (sX0_takeOver (S 5) (S 0)))) (wr := (wXo ad) ++ (wC cI (ad 2) (ar 2) (S 1)) ++ (wH cO ad (S 2)) ++ (wC cI (ad 4) (ar 4) (S 3)) ++ (wC cI (ad 5) (ar 5) (S 4)) ++ (wC cI (ad 7) (ar 7) (S 6)) ++ (wT cH (ad 8) (ar 8) (S 7)) ++ (wR (ad 9) (S 8))) [43, 44, 45, 46, 47, 48, 49, 50, 51, 52, 1, 2, 3, 4, 5, 6, 7, 8, 9, 10] [0, 11, 12, 13, 14, 15, 16, 17, 18, 19, 20, 21, 22, 23, 24, 25, 26, 27, 28, 29, 30, 31, 32, 33, 34, 35, 36, 37, 38, 39, 40, 41, 42, 53, 54, 55, 56, 57, 58, 59, 60, 61, 62, 63, 64, 65] [0, 56, 57, 58, 59, 60, 61, 62, 63, 64, 65, 1, 2, 3, 4, 5, 6, 7, 8, 9, 10, 11, 12, 13, 14, 15, 16, 17, 18, 19, 20, 21, 22, 23, 24, 25, 26, 27, 28, 29, 30, 31, 32, 46, 47, 48, 49, 50, 51, 52, 53, 54, 55, 33, 34, 35, 36, 37, 38, 39, 40, 41, 42, 43, 44, 45] (fc_6_1 cI cH cO ad ar S) (fr_6_1 cI cH cO ad ar S) fn_6_1 (fm_6_1 cI cH cO ad ar S _) (c_X0_takeOver l D cI cH cO (ad 6) (ar 6) (S 5) (ad 1) (ar 1) (S 0) ) wv_X1_25 ⟨0, 0, _, _, rfl, rfl, rfl⟩ ⟨by decide, by decide, by decide, by decide⟩ rfl rfl (Nat.le_of_ble_eq_true rfl) dX1_record_53 rfl ?_
      refine j_stL (S := (upx S 5 (sX0_takeOver (S 5) (S 0)))) (fun S_53 => wX cI cH cO ad ar S_53) (fun S_53 eS_53 => ?_)
      refine j_aload_n X (pc' := 57) 0 dX1_record_56 rfl rfl rfl ?_
      refine j_dup X (pc' := 58) dX1_record_57 rfl rfl ?_
      refine j_get X inX1 rfl (pc' := 61) 21 2 q_fl_X1_18 (by decide) rfl rfl dX1_record_58 rfl ?_
      refine j_iconst X (v := 1) (pc' := 62) dX1_record_61 (by decide) rfl ?_
      refine j_iadd X (pc' := 63) dX1_record_62 rfl ?_
      refine j_put X inX1 rfl (pc' := 66) tyX1_ok nmX1 (S := upx S_53 2 (up (S_53 2) 2 0 (((S_53 2) 2 0) + 1))) (fun S_63 => wX cI cH cO ad ar S_63) 21 2 q_fl_X1_18 (by decide) rfl rfl rfl rfl (Nat.le_of_ble_eq_true rfl) rfl dX1_record_63 rfl (fun S_63 eS_63 => ?_)
      exact j_vret X rfl dX1_record_66
    refine j_aald X (v := ad 7) (i := 3) (pc' := 46) 22 rfl (q3_of hg0 hg1 c_45_0 c_45_1 c_45_2) (by decide) (by decide) rfl dX1_record_45 rfl ?_
    refine j_astore_n X (lv' := [(0, .ref (ad 3)), (1, .ref (ad 1)), (2, .ref (ad 7))]) (pc' := 47) [1, 2, 0] dX1_record_46 rfl (by decide) rfl rfl ?_
    refine j_aload_n X (pc' := 48) 2 dX1_record_47 rfl rfl rfl ?_
    refine j_null X (tgt := 0) (pc' := 51) dX1_record_48 rfl ?_
    refine j_aload_n X (pc' := 52) 2 dX1_record_51 rfl rfl rfl ?_
    refine j_aload_n X (pc' := 53) 1 dX1_record_52 rfl rfl rfl ?_
    refine j_callVvF X (pc' := 56) (As := [.ref (ad 1)]) (rest := []) (ws' := wX cI cH cO ad ar (upx S 6 (sX0_takeOver (S 6) (S 0)))) (wr := (wXo ad) ++ (wC cI (ad 2) (ar 2) (S 1)) ++ (wH cO ad (S 2)) ++ (wC cI (ad 4) (ar 4) (S 3)) ++ (wC cI (ad 5) (ar 5) (S 4)) ++ (wC cI (ad 6) (ar 6) (S 5)) ++ (wT cH (ad 8) (ar 8) (S 7)) ++ (wR (ad 9) (S 8))) [53, 54, 55, 56, 57, 58, 59, 60, 61, 62, 1, 2, 3, 4, 5, 6, 7, 8, 9, 10] [0, 11, 12, 13, 14, 15, 16, 17, 18, 19, 20, 21, 22, 23, 24, 25, 26, 27, 28, 29, 30, 31, 32, 33, 34, 35, 36, 37, 38, 39, 40, 41, 42, 43, 44, 45, 46, 47, 48, 49, 50, 51, 52, 63, 64, 65] [0, 56, 57, 58, 59, 60, 61, 62, 63, 64, 65, 1, 2, 3, 4, 5, 6, 7, 8, 9, 10, 11, 12, 13, 14, 15, 16, 17, 18, 19, 20, 21, 22, 23, 24, 25, 26, 27, 28, 29, 30, 31, 32, 33, 34, 35, 36, 37, 38, 39, 40, 41, 42, 46, 47, 48, 49, 50, 51, 52, 53, 54, 55, 43, 44, 45] (fc_7_1 cI cH cO ad ar S) (fr_7_1 cI cH cO ad ar S) fn_7_1 (fm_7_1 cI cH cO ad ar S _) (c_X0_takeOver l D cI cH cO (ad 7) (ar 7) (S 6) (ad 1) (ar 1) (S 0) ) wv_X1_25 ⟨0, 0, _, _, rfl, rfl, rfl⟩ ⟨by decide, by decide, by decide, by decide⟩ rfl rfl (Nat.le_of_ble_eq_true rfl) dX1_record_53 rfl ?_
    refine j_stL (S := (upx S 6 (sX0_takeOver (S 6) (S 0)))) (fun S_53 => wX cI cH cO ad ar S_53) (fun S_53 eS_53 => ?_)
    refine j_aload_n X (pc' := 57) 0 dX1_record_56 rfl rfl rfl ?_
    refine j_dup X (pc' := 58) dX1_record_57 rfl rfl ?_
    refine j_get X inX1 rfl (pc' := 61) 21 2 q_fl_X1_18 (by decide) rfl rfl dX1_record_58 rfl ?_
    refine j_iconst X (v := 1) (pc' := 62) dX1_record_61 (by decide) rfl ?_
    refine j_iadd X (pc' := 63) dX1_record_62 rfl ?_
    refine j_put X inX1 rfl (pc' := 66) tyX1_ok nmX1 (S := upx S_53 2 (up (S_53 2) 2 0 (((S_53 2) 2 0) + 1))) (fun S_63 => wX cI cH cO ad ar S_63) 21 2 q_fl_X1_18 (by decide) rfl rfl rfl rfl (Nat.le_of_ble_eq_true rfl) rfl dX1_record_63 rfl (fun S_63 eS_63 => ?_)
    exact j_vret X rfl dX1_record_66
  refine j_aload_n X (pc' := 1) 0 dX1_record_0 rfl rfl rfl ?_
  refine j_get X inX1 rfl (pc' := 4) 21 2 q_fl_X1_18 (by decide) rfl rfl dX1_record_1 rfl ?_
  refine j_iconst X (v := 4) (pc' := 5) dX1_record_4 (by decide) rfl ?_
  refine j_icmp_ne X (tgt := 30) (pc' := 8) dX1_record_5 (by decide) rfl (fun c_5 => ?_) (fun c_5 => ?_)
  · refine j_lv [0, 1] (lv' := [(0, .ref (ad 3)), (1, .ref (ad 1))]) rfl ?_
    exact hK30 _ hg0 ⟨hg1.1, i32_ne4 hg1.2 c_5⟩
  · refine j_aload_n X (pc' := 9) 0 dX1_record_8 rfl rfl rfl ?_
    refine j_aload_n X (pc' := 10) 0 dX1_record_9 rfl rfl rfl ?_
    refine j_get X inX1 rfl (pc' := 13) 21 1 q_fl_X1_22 (by decide) rfl rfl dX1_record_10 rfl ?_
    refine j_iconst X (v := 1) (pc' := 14) dX1_record_13 (by decide) rfl ?_
    refine j_iadd X (pc' := 15) dX1_record_14 rfl ?_
    refine j_iconst X (v := 4) (pc' := 16) dX1_record_15 (by decide) rfl ?_
    refine j_irem X (pc' := 17) dX1_record_16 (by decide) rfl ?_
    refine j_put X inX1 rfl (pc' := 20) tyX1_ok nmX1 (S := upx S 2 (up (S 2) 1 0 ((((S 2) 1 0) + 1) % 4))) (fun S_17 => wX cI cH cO ad ar S_17) 21 1 q_fl_X1_22 (by decide) rfl rfl rfl rfl (Nat.le_of_ble_eq_true rfl) rfl dX1_record_17 rfl (fun S_17 eS_17 => ?_)
    have g17 : 0 ≤ (S_17 2 1 0).toInt ∧ (S_17 2 1 0).toInt ≤ 3 := by rw [eS_17]; exact rem4 hg0
    refine j_aload_n X (pc' := 21) 0 dX1_record_20 rfl rfl rfl ?_
    refine j_dup X (pc' := 22) dX1_record_21 rfl rfl ?_
    refine j_get X inX1 rfl (pc' := 25) 21 2 q_fl_X1_18 (by decide) rfl rfl dX1_record_22 rfl ?_
    refine j_iconst X (v := 1) (pc' := 26) dX1_record_25 (by decide) rfl ?_
    refine j_isub X (pc' := 27) dX1_record_26 rfl ?_
    refine j_put X inX1 rfl (pc' := 30) tyX1_ok nmX1 (S := upx S_17 2 (up (S_17 2) 2 0 (((S_17 2) 2 0) - 1))) (fun S_27 => wX cI cH cO ad ar S_27) 21 2 q_fl_X1_18 (by decide) rfl rfl rfl rfl (Nat.le_of_ble_eq_true rfl) rfl dX1_record_27 rfl (fun S_27 eS_27 => ?_)
    have g27a : 0 ≤ (S_27 2 1 0).toInt ∧ (S_27 2 1 0).toInt ≤ 3 := by rw [eS_27]; exact g17
    have g27b : 0 ≤ (S_27 2 2 0).toInt ∧ (S_27 2 2 0).toInt ≤ 3 := by rw [eS_27, eS_17]; exact dec4 (Decidable.not_not.mp c_5)
    refine j_lv [0, 1] (lv' := [(0, .ref (ad 3)), (1, .ref (ad 1))]) rfl ?_
    exact hK30 _ g27a g27b
theorem c_X1_record (l : Launch) (D : va_G) (cI cH cO : ClassId) (ad : Nat → Nat) (ar : Nat → Nat → Nat) (S : Xst) (hg0 : 0 ≤ (S 2 1 0).toInt ∧ (S 2 1 0).toInt ≤ 3) (hg1 : 0 ≤ (S 2 2 0).toInt ∧ (S 2 2 0).toInt ≤ 4) : MV l yX1_record cX1_record 3 3 D (tyl cI cH cO) [.ref (ad 3), .ref (ad 1)] (wX cI cH cO ad ar S) (wX cI cH cO ad ar (sX1_record S)) := fun sz => j_start (fun below s => (KV below [.ref (ad 3), .ref (ad 1)].toArray s D (tyl cI cH cO) (wX cI cH cO ad ar S) (fun C9 => wX cI cH cO ad ar C9))) (sX1_record S) (by decide +kernel) rfl (Nat.le_of_ble_eq_true rfl) (fun below s hs _ => by subst hs; rfl) (fun p e s m below meth c hX9 X => b_X1_record ad ar S hg0 hg1 X)
set_option maxHeartbeats 4000000 in
set_option maxRecDepth 100000 in
theorem b_X1_restoreLatest {p : Program} {l : Launch} {e : Env} {s : State} {m : MethodId} {args : Array Value} {below : List Frame} {meth : Method} {c : Code} {D : va_G} {cI cH cO : ClassId} {ws0 : va_W} (ad : Nat → Nat) (ar : Nat → Nat → Nat) (S : Xst) (hg0 : 0 ≤ (S 2 1 0).toInt ∧ (S 2 1 0).toInt ≤ 3) (hg1 : 0 ≤ (S 2 2 0).toInt ∧ (S 2 2 0).toInt ≤ 4) (X : CX p s m args meth c cX1_restoreLatest 3 RX1 none D (tyl cI cH cO) (va_A ws0 s.heap.size)) : J p l e (rml 3) s m args below meth c 3 D (va_A ws0 s.heap.size) 0 0 (KV below args s D (tyl cI cH cO) ws0 (fun C9 => wX cI cH cO ad ar C9)) (sX1_restoreLatest S) (wX cI cH cO ad ar S) 0 [(0, .ref (ad 3)), (1, .ref (ad 1))] [] := by
  unfold sX1_restoreLatest
  refine j_aload_n X (pc' := 1) 0 dX1_restoreLatest_0 rfl rfl rfl ?_
  refine j_get X inX1 rfl (pc' := 4) 21 2 q_fl_X1_18 (by decide) rfl rfl dX1_restoreLatest_1 rfl ?_
  refine j_iconst X (v := 1) (pc' := 5) dX1_restoreLatest_4 (by decide) rfl ?_
  refine j_icmp_ge X (tgt := 9) (pc' := 8) dX1_restoreLatest_5 (by decide) rfl (fun c_5 => ?_) (fun c_5 => ?_)
  · refine j_aload_n X (pc' := 10) 0 dX1_restoreLatest_9 rfl rfl rfl ?_
    refine j_dup X (pc' := 11) dX1_restoreLatest_10 rfl rfl ?_
    refine j_get X inX1 rfl (pc' := 14) 21 2 q_fl_X1_18 (by decide) rfl rfl dX1_restoreLatest_11 rfl ?_
    refine j_iconst X (v := 1) (pc' := 15) dX1_restoreLatest_14 (by decide) rfl ?_
    refine j_isub X (pc' := 16) dX1_restoreLatest_15 rfl ?_
    refine j_put X inX1 rfl (pc' := 19) tyX1_ok nmX1 (S := upx S 2 (up (S 2) 2 0 (((S 2) 2 0) - 1))) (fun S_16 => wX cI cH cO ad ar S_16) 21 2 q_fl_X1_18 (by decide) rfl rfl rfl rfl (Nat.le_of_ble_eq_true rfl) rfl dX1_restoreLatest_16 rfl (fun S_16 eS_16 => ?_)
    have h16a : 0 ≤ (S_16 2 1 0).toInt ∧ (S_16 2 1 0).toInt ≤ 3 := by rw [eS_16]; exact hg0
    have h16b : 0 ≤ (S_16 2 2 0).toInt ∧ (S_16 2 2 0).toInt ≤ 3 := by rw [eS_16]; exact decg hg1 c_5
    refine j_aload_n X (pc' := 20) 0 dX1_restoreLatest_19 rfl rfl rfl ?_
    refine j_get X inX1 rfl (pc' := 23) 21 0 q_fl_X1_11 (by decide) rfl rfl dX1_restoreLatest_20 rfl ?_
    refine j_aload_n X (pc' := 24) 0 dX1_restoreLatest_23 rfl rfl rfl ?_
    refine j_get X inX1 rfl (pc' := 27) 21 1 q_fl_X1_22 (by decide) rfl rfl dX1_restoreLatest_24 rfl ?_
    refine j_aload_n X (pc' := 28) 0 dX1_restoreLatest_27 rfl rfl rfl ?_
    refine j_get X inX1 rfl (pc' := 31) 21 2 q_fl_X1_18 (by decide) rfl rfl dX1_restoreLatest_28 rfl ?_
    refine j_iadd X (pc' := 32) dX1_restoreLatest_31 rfl ?_
    refine j_iconst X (v := 4) (pc' := 33) dX1_restoreLatest_32 (by decide) rfl ?_
    refine j_irem X (pc' := 34) dX1_restoreLatest_33 (by decide) rfl ?_
    refine j_ite (P9 := ((((S_16 2) 1 0) + ((S_16 2) 2 0)) % 4) = 0) (fun c_34_0 => ?_) (fun c_34_0 => ?_)
    · refine j_aald X (v := ad 4) (i := 0) (pc' := 35) 22 rfl c_34_0 (by decide) (by decide) rfl dX1_restoreLatest_34 rfl ?_
      refine j_astore_n X (lv' := [(0, .ref (ad 3)), (1, .ref (ad 1)), (2, .ref (ad 4))]) (pc' := 36) [1, 2, 0] dX1_restoreLatest_35 rfl (by decide) rfl rfl ?_
      refine j_aload_n X (pc' := 37) 2 dX1_restoreLatest_36 rfl rfl rfl ?_
      refine j_null X (tgt := 0) (pc' := 40) dX1_restoreLatest_37 rfl ?_
      refine j_aload_n X (pc' := 41) 1 dX1_restoreLatest_40 rfl rfl rfl ?_
      refine j_aload_n X (pc' := 42) 2 dX1_restoreLatest_41 rfl rfl rfl ?_
      refine j_callVvF X (pc' := 45) (As := [.ref (ad 4)]) (rest := []) (ws' := wX cI cH cO ad ar (upx S_16 0 (sX0_takeOver (S_16 0) (S_16 3)))) (wr := (wXo ad) ++ (wC cI (ad 2) (ar 2) (S_16 1)) ++ (wH cO ad (S_16 2)) ++ (wC cI (ad 5) (ar 5) (S_16 4)) ++ (wC cI (ad 6) (ar 6) (S_16 5)) ++ (wC cI (ad 7) (ar 7) (S_16 6)) ++ (wT cH (ad 8) (ar 8) (S_16 7)) ++ (wR (ad 9) (S_16 8))) [1, 2, 3, 4, 5, 6, 7, 8, 9, 10, 23, 24, 25, 26, 27, 28, 29, 30, 31, 32] [0, 11, 12, 13, 14, 15, 16, 17, 18, 19, 20, 21, 22, 33, 34, 35, 36, 37, 38, 39, 40, 41, 42, 43, 44, 45, 46, 47, 48, 49, 50, 51, 52, 53, 54, 55, 56, 57, 58, 59, 60, 61, 62, 63, 64, 65] [0, 46, 47, 48, 49, 50, 51, 52, 53, 54, 55, 1, 2, 3, 4, 5, 6, 7, 8, 9, 10, 11, 12, 56, 57, 58, 59, 60, 61, 62, 63, 64, 65, 13, 14, 15, 16, 17, 18, 19, 20, 21, 22, 23, 24, 25, 26, 27, 28, 29, 30, 31, 32, 33, 34, 35, 36, 37, 38, 39, 40, 41, 42, 43, 44, 45] (fc_1_4 cI cH cO ad ar S_16) (fr_1_4 cI cH cO ad ar S_16) fn_1_4 (fm_1_4 cI cH cO ad ar S_16 _) (c_X0_takeOver l D cI cH cO (ad 1) (ar 1) (S_16 0) (ad 4) (ar 4) (S_16 3) ) wv_X1_25 ⟨0, 0, _, _, rfl, rfl, rfl⟩ ⟨by decide, by decide, by decide, by decide⟩ rfl rfl (Nat.le_of_ble_eq_true rfl) dX1_restoreLatest_42 rfl ?_
      refine j_stL (S := (upx S_16 0 (sX0_takeOver (S_16 0) (S_16 3)))) (fun S_42 => wX cI cH cO ad ar S_42) (fun S_42 eS_42 => ?_)
      exact j_vret X rfl dX1_restoreLatest_45
    refine j_ite (P9 := ((((S_16 2) 1 0) + ((S_16 2) 2 0)) % 4) = 1) (fun c_34_1 => ?_) (fun c_34_1 => ?_)
    · refine j_aald X (v := ad 5) (i := 1) (pc' := 35) 22 rfl c_34_1 (by decide) (by decide) rfl dX1_restoreLatest_34 rfl ?_
      refine j_astore_n X (lv' := [(0, .ref (ad 3)), (1, .ref (ad 1)), (2, .ref (ad 5))]) (pc' := 36) [1, 2, 0] dX1_restoreLatest_35 rfl (by decide) rfl rfl ?_
      refine j_aload_n X (pc' := 37) 2 dX1_restoreLatest_36 rfl rfl rfl ?_
      refine j_null X (tgt := 0) (pc' := 40) dX1_restoreLatest_37 rfl ?_
      refine j_aload_n X (pc' := 41) 1 dX1_restoreLatest_40 rfl rfl rfl ?_
      refine j_aload_n X (pc' := 42) 2 dX1_restoreLatest_41 rfl rfl rfl ?_
      refine j_callVvF X (pc' := 45) (As := [.ref (ad 5)]) (rest := []) (ws' := wX cI cH cO ad ar (upx S_16 0 (sX0_takeOver (S_16 0) (S_16 4)))) (wr := (wXo ad) ++ (wC cI (ad 2) (ar 2) (S_16 1)) ++ (wH cO ad (S_16 2)) ++ (wC cI (ad 4) (ar 4) (S_16 3)) ++ (wC cI (ad 6) (ar 6) (S_16 5)) ++ (wC cI (ad 7) (ar 7) (S_16 6)) ++ (wT cH (ad 8) (ar 8) (S_16 7)) ++ (wR (ad 9) (S_16 8))) [1, 2, 3, 4, 5, 6, 7, 8, 9, 10, 33, 34, 35, 36, 37, 38, 39, 40, 41, 42] [0, 11, 12, 13, 14, 15, 16, 17, 18, 19, 20, 21, 22, 23, 24, 25, 26, 27, 28, 29, 30, 31, 32, 43, 44, 45, 46, 47, 48, 49, 50, 51, 52, 53, 54, 55, 56, 57, 58, 59, 60, 61, 62, 63, 64, 65] [0, 46, 47, 48, 49, 50, 51, 52, 53, 54, 55, 1, 2, 3, 4, 5, 6, 7, 8, 9, 10, 11, 12, 13, 14, 15, 16, 17, 18, 19, 20, 21, 22, 56, 57, 58, 59, 60, 61, 62, 63, 64, 65, 23, 24, 25, 26, 27, 28, 29, 30, 31, 32, 33, 34, 35, 36, 37, 38, 39, 40, 41, 42, 43, 44, 45] (fc_1_5 cI cH cO ad ar S_16) (fr_1_5 cI cH cO ad ar S_16) fn_1_5 (fm_1_5 cI cH cO ad ar S_16 _) (c_X0_takeOver l D cI cH cO (ad 1) (ar 1) (S_16 0) (ad 5) (ar 5) (S_16 4) ) wv_X1_25 ⟨0, 0, _, _, rfl, rfl, rfl⟩ ⟨by decide, by decide, by decide, by decide⟩ rfl rfl (Nat.le_of_ble_eq_true rfl) dX1_restoreLatest_42 rfl ?_
      refine j_stL (S := (upx S_16 0 (sX0_takeOver (S_16 0) (S_16 4)))) (fun S_42 => wX cI cH cO ad ar S_42) (fun S_42 eS_42 => ?_)
      exact j_vret X rfl dX1_restoreLatest_45
    refine j_ite (P9 := ((((S_16 2) 1 0) + ((S_16 2) 2 0)) % 4) = 2) (fun c_34_2 => ?_) (fun c_34_2 => ?_)
    · refine j_aald X (v := ad 6) (i := 2) (pc' := 35) 22 rfl c_34_2 (by decide) (by decide) rfl dX1_restoreLatest_34 rfl ?_
      refine j_astore_n X (lv' := [(0, .ref (ad 3)), (1, .ref (ad 1)), (2, .ref (ad 6))]) (pc' := 36) [1, 2, 0] dX1_restoreLatest_35 rfl (by decide) rfl rfl ?_
      refine j_aload_n X (pc' := 37) 2 dX1_restoreLatest_36 rfl rfl rfl ?_
      refine j_null X (tgt := 0) (pc' := 40) dX1_restoreLatest_37 rfl ?_
      refine j_aload_n X (pc' := 41) 1 dX1_restoreLatest_40 rfl rfl rfl ?_
      refine j_aload_n X (pc' := 42) 2 dX1_restoreLatest_41 rfl rfl rfl ?_
      refine j_callVvF X (pc' := 45) (As := [.ref (ad 6)]) (rest := []) (ws' := wX cI cH cO ad ar (upx S_16 0 (sX0_takeOver (S_16 0) (S_16 5)))) (wr := (wXo ad) ++ (wC cI (ad 2) (ar 2) (S_16 1)) ++ (wH cO ad (S_16 2)) ++ (wC cI (ad 4) (ar 4) (S_16 3)) ++ (wC cI (ad 5) (ar 5) (S_16 4)) ++ (wC cI (ad 7) (ar 7) (S_16 6)) ++ (wT cH (ad 8) (ar 8) (S_16 7)) ++ (wR (ad 9) (S_16 8))) [1, 2, 3, 4, 5, 6, 7, 8, 9, 10, 43, 44, 45, 46, 47, 48, 49, 50, 51, 52] [0, 11, 12, 13, 14, 15, 16, 17, 18, 19, 20, 21, 22, 23, 24, 25, 26, 27, 28, 29, 30, 31, 32, 33, 34, 35, 36, 37, 38, 39, 40, 41, 42, 53, 54, 55, 56, 57, 58, 59, 60, 61, 62, 63, 64, 65] [0, 46, 47, 48, 49, 50, 51, 52, 53, 54, 55, 1, 2, 3, 4, 5, 6, 7, 8, 9, 10, 11, 12, 13, 14, 15, 16, 17, 18, 19, 20, 21, 22, 23, 24, 25, 26, 27, 28, 29, 30, 31, 32, 56, 57, 58, 59, 60, 61, 62, 63, 64, 65, 33, 34, 35, 36, 37, 38, 39, 40, 41, 42, 43, 44, 45] (fc_1_6 cI cH cO ad ar S_16) (fr_1_6 cI cH cO ad ar S_16) fn_1_6 (fm_1_6 cI cH cO ad ar S_16 _) (c_X0_takeOver l D cI cH cO (ad 1) (ar 1) (S_16 0) (ad 6) (ar 6) (S_16 5) ) wv_X1_25 ⟨0, 0, _, _, rfl, rfl, rfl⟩ ⟨by decide, by decide, by decide, by decide⟩ rfl rfl (Nat.le_of_ble_eq_true rfl) dX1_restoreLatest_42 rfl ?_
      refine j_stL (S := (upx S_16 0 (sX0_takeOver (S_16 0) (S_16 5)))) (fun S_42 => wX cI cH cO ad ar S_42) (fun S_42 eS_42 => ?_)
      exact j_vret X rfl dX1_restoreLatest_45
    refine j_aald X (v := ad 7) (i := 3) (pc' := 35) 22 rfl (q3_of h16a h16b c_34_0 c_34_1 c_34_2) (by decide) (by decide) rfl dX1_restoreLatest_34 rfl ?_
    refine j_astore_n X (lv' := [(0, .ref (ad 3)), (1, .ref (ad 1)), (2, .ref (ad 7))]) (pc' := 36) [1, 2, 0] dX1_restoreLatest_35 rfl (by decide) rfl rfl ?_
    refine j_aload_n X (pc' := 37) 2 dX1_restoreLatest_36 rfl rfl rfl ?_
    refine j_null X (tgt := 0) (pc' := 40) dX1_restoreLatest_37 rfl ?_
    refine j_aload_n X (pc' := 41) 1 dX1_restoreLatest_40 rfl rfl rfl ?_
    refine j_aload_n X (pc' := 42) 2 dX1_restoreLatest_41 rfl rfl rfl ?_
    refine j_callVvF X (pc' := 45) (As := [.ref (ad 7)]) (rest := []) (ws' := wX cI cH cO ad ar (upx S_16 0 (sX0_takeOver (S_16 0) (S_16 6)))) (wr := (wXo ad) ++ (wC cI (ad 2) (ar 2) (S_16 1)) ++ (wH cO ad (S_16 2)) ++ (wC cI (ad 4) (ar 4) (S_16 3)) ++ (wC cI (ad 5) (ar 5) (S_16 4)) ++ (wC cI (ad 6) (ar 6) (S_16 5)) ++ (wT cH (ad 8) (ar 8) (S_16 7)) ++ (wR (ad 9) (S_16 8))) [1, 2, 3, 4, 5, 6, 7, 8, 9, 10, 53, 54, 55, 56, 57, 58, 59, 60, 61, 62] [0, 11, 12, 13, 14, 15, 16, 17, 18, 19, 20, 21, 22, 23, 24, 25, 26, 27, 28, 29, 30, 31, 32, 33, 34, 35, 36, 37, 38, 39, 40, 41, 42, 43, 44, 45, 46, 47, 48, 49, 50, 51, 52, 63, 64, 65] [0, 46, 47, 48, 49, 50, 51, 52, 53, 54, 55, 1, 2, 3, 4, 5, 6, 7, 8, 9, 10, 11, 12, 13, 14, 15, 16, 17, 18, 19, 20, 21, 22, 23, 24, 25, 26, 27, 28, 29, 30, 31, 32, 33, 34, 35, 36, 37, 38, 39, 40, 41, 42, 56, 57, 58, 59, 60, 61, 62, 63, 64, 65, 43, 44, 45] (fc_1_7 cI cH cO ad ar S_16) (fr_1_7 cI cH cO ad ar S_16) fn_1_7 (fm_1_7 cI cH cO ad ar S_16 _) (c_X0_takeOver l D cI cH cO (ad 1) (ar 1) (S_16 0) (ad 7) (ar 7) (S_16 6) ) wv_X1_25 ⟨0, 0, _, _, rfl, rfl, rfl⟩ ⟨by decide, by decide, by decide, by decide⟩ rfl rfl (Nat.le_of_ble_eq_true rfl) dX1_restoreLatest_42 rfl ?_
    refine j_stL (S := (upx S_16 0 (sX0_takeOver (S_16 0) (S_16 6)))) (fun S_42 => wX cI cH cO ad ar S_42) (fun S_42 eS_42 => ?_)
    exact j_vret X rfl dX1_restoreLatest_45
  · exact j_vret X rfl dX1_restoreLatest_8
theorem c_X1_restoreLatest (l : Launch) (D : va_G) (cI cH cO : ClassId) (ad : Nat → Nat) (ar : Nat → Nat → Nat) (S : Xst) (hg0 : 0 ≤ (S 2 1 0).toInt ∧ (S 2 1 0).toInt ≤ 3) (hg1 : 0 ≤ (S 2 2 0).toInt ∧ (S 2 2 0).toInt ≤ 4) : MV l yX1_restoreLatest cX1_restoreLatest 3 3 D (tyl cI cH cO) [.ref (ad 3), .ref (ad 1)] (wX cI cH cO ad ar S) (wX cI cH cO ad ar (sX1_restoreLatest S)) := fun sz => j_start (fun below s => (KV below [.ref (ad 3), .ref (ad 1)].toArray s D (tyl cI cH cO) (wX cI cH cO ad ar S) (fun C9 => wX cI cH cO ad ar C9))) (sX1_restoreLatest S) (by decide +kernel) rfl (Nat.le_of_ble_eq_true rfl) (fun below s hs _ => by subst hs; rfl) (fun p e s m below meth c hX9 X => b_X1_restoreLatest ad ar S hg0 hg1 X)
