set_option maxHeartbeats 4000000 in
set_option maxRecDepth 100000 in
theorem b_X4_commandOnTrial {p : Program} {l : Launch} {e : Env} {s : State} {m : MethodId} {args : Array Value} {below : List Frame} {meth : Method} {c : Code} {D : va_G} {cI cH cO : ClassId} {ws0 : va_W} (ad : Nat → Nat) (ar : Nat → Nat → Nat) (S : Xst) (hT : IC (S 1)) (X : CX p s m args meth c cX4_commandOnTrial 1 RX4 (some .int) D (tyl cI cH cO) (va_A ws0 s.heap.size)) : J p l e (rml 5) s m args below meth c 1 D (va_A ws0 s.heap.size) 0 0 (KI below args s D (tyl cI cH cO) ws0 (fun C9 => wX cI cH cO ad ar C9)) (sX4_commandOnTrial S) (wX cI cH cO ad ar S) 0 [(0, .ref (ad 0))] [] := by
  unfold sX4_commandOnTrial
  refine j_aload_n X (pc' := 1) 0 dX4_commandOnTrial_0 rfl rfl rfl ?_
  refine j_get X inX4 rfl (pc' := 4) 0 3 q_fl_X4_29 (by decide) rfl rfl dX4_commandOnTrial_1 rfl ?_
  refine j_get X inX3 rfl (pc' := 7) 63 3 q_fl_X4_154 (by decide) rfl rfl dX4_commandOnTrial_4 rfl ?_
  refine j_ite (P9 := ((S 7) 3 0) = 99) (fun c_7_99 => ?_) (fun c_7_99 => ?_)
  · refine j_lsw X (tgt := 93) dX4_commandOnTrial_7 (by decide) (off := 86) (by rw [c_7_99]; decide) (by decide) ?_
    refine j_aload_n X (pc' := 94) 0 dX4_commandOnTrial_93 rfl rfl rfl ?_
    refine j_get X inX4 rfl (pc' := 97) 0 1 q_fl_X4_16 (by decide) rfl rfl dX4_commandOnTrial_94 rfl ?_
    refine j_callViF X (pc' := 100) (As := []) (rest := []) (ws' := wX cI cH cO ad ar (upx S 1 (sX0_closeSeason (S 1)).2)) (wr := (wXo ad) ++ (wC cI (ad 1) (ar 1) (S 0)) ++ (wH cO ad (S 2)) ++ (wC cI (ad 4) (ar 4) (S 3)) ++ (wC cI (ad 5) (ar 5) (S 4)) ++ (wC cI (ad 6) (ar 6) (S 5)) ++ (wC cI (ad 7) (ar 7) (S 6)) ++ (wT cH (ad 8) (ar 8) (S 7)) ++ (wR (ad 9) (S 8))) [11, 12, 13, 14, 15, 16, 17, 18, 19, 20] [0, 1, 2, 3, 4, 5, 6, 7, 8, 9, 10, 21, 22, 23, 24, 25, 26, 27, 28, 29, 30, 31, 32, 33, 34, 35, 36, 37, 38, 39, 40, 41, 42, 43, 44, 45, 46, 47, 48, 49, 50, 51, 52, 53, 54, 55, 56, 57, 58, 59, 60, 61, 62, 63, 64, 65] [0, 1, 2, 3, 4, 5, 6, 7, 8, 9, 10, 56, 57, 58, 59, 60, 61, 62, 63, 64, 65, 11, 12, 13, 14, 15, 16, 17, 18, 19, 20, 21, 22, 23, 24, 25, 26, 27, 28, 29, 30, 31, 32, 33, 34, 35, 36, 37, 38, 39, 40, 41, 42, 43, 44, 45, 46, 47, 48, 49, 50, 51, 52, 53, 54, 55] (fc_2 cI cH cO ad ar S) (fr_2 cI cH cO ad ar S) fn_2 (fm_2 cI cH cO ad ar S _) (c_X0_closeSeason l D cI cH cO (ad 2) (ar 2) (S 1) hT.2.1 hT.2.2) wv_X4_55 ⟨0, 0, _, _, rfl, rfl, rfl⟩ ⟨by decide, by decide, by decide, by decide⟩ rfl rfl (Nat.le_of_ble_eq_true rfl) dX4_commandOnTrial_97 rfl ?_
    refine j_rsL (q := (sX0_closeSeason (S 1))) (fun C9 => wX cI cH cO ad ar (upx S 1 C9)) (fun r_97 C_97 er_97 => ?_)
    refine j_stL (S := upx S 1 C_97) (fun S9 => wX cI cH cO ad ar S9) (fun S_97 eS_97 => ?_)
    exact j_iretI X rfl rfl dX4_commandOnTrial_100
  refine j_ite (P9 := ((S 7) 3 0) = 109) (fun c_7_109 => ?_) (fun c_7_109 => ?_)
  · refine j_lsw X (tgt := 56) dX4_commandOnTrial_7 (by decide) (off := 49) (by rw [c_7_109]; decide) (by decide) ?_
    refine j_aload_n X (pc' := 57) 0 dX4_commandOnTrial_56 rfl rfl rfl ?_
    refine j_get X inX4 rfl (pc' := 60) 0 1 q_fl_X4_16 (by decide) rfl rfl dX4_commandOnTrial_57 rfl ?_
    refine j_aload_n X (pc' := 61) 0 dX4_commandOnTrial_60 rfl rfl rfl ?_
    refine j_get X inX4 rfl (pc' := 64) 0 3 q_fl_X4_29 (by decide) rfl rfl dX4_commandOnTrial_61 rfl ?_
    refine j_get X inX3 rfl (pc' := 67) 63 4 q_fl_X4_157 (by decide) rfl rfl dX4_commandOnTrial_64 rfl ?_
    refine j_callViF X (pc' := 70) (As := [.int ((S 7) 4 0)]) (rest := []) (ws' := wX cI cH cO ad ar (upx S 1 (sX0_addMember (S 1) ((S 7) 4 0)).2)) (wr := (wXo ad) ++ (wC cI (ad 1) (ar 1) (S 0)) ++ (wH cO ad (S 2)) ++ (wC cI (ad 4) (ar 4) (S 3)) ++ (wC cI (ad 5) (ar 5) (S 4)) ++ (wC cI (ad 6) (ar 6) (S 5)) ++ (wC cI (ad 7) (ar 7) (S 6)) ++ (wT cH (ad 8) (ar 8) (S 7)) ++ (wR (ad 9) (S 8))) [11, 12, 13, 14, 15, 16, 17, 18, 19, 20] [0, 1, 2, 3, 4, 5, 6, 7, 8, 9, 10, 21, 22, 23, 24, 25, 26, 27, 28, 29, 30, 31, 32, 33, 34, 35, 36, 37, 38, 39, 40, 41, 42, 43, 44, 45, 46, 47, 48, 49, 50, 51, 52, 53, 54, 55, 56, 57, 58, 59, 60, 61, 62, 63, 64, 65] [0, 1, 2, 3, 4, 5, 6, 7, 8, 9, 10, 56, 57, 58, 59, 60, 61, 62, 63, 64, 65, 11, 12, 13, 14, 15, 16, 17, 18, 19, 20, 21, 22, 23, 24, 25, 26, 27, 28, 29, 30, 31, 32, 33, 34, 35, 36, 37, 38, 39, 40, 41, 42, 43, 44, 45, 46, 47, 48, 49, 50, 51, 52, 53, 54, 55] (fc_2 cI cH cO ad ar S) (fr_2 cI cH cO ad ar S) fn_2 (fm_2 cI cH cO ad ar S _) (c_X0_addMember l D cI cH cO (ad 2) (ar 2) (S 1) ((S 7) 4 0) hT.1) wv_X4_44 ⟨0, 0, _, _, rfl, rfl, rfl⟩ ⟨by decide, by decide, by decide, by decide⟩ rfl rfl (Nat.le_of_ble_eq_true rfl) dX4_commandOnTrial_67 rfl ?_
    refine j_rsL (q := (sX0_addMember (S 1) ((S 7) 4 0))) (fun C9 => wX cI cH cO ad ar (upx S 1 C9)) (fun r_67 C_67 er_67 => ?_)
    refine j_stL (S := upx S 1 C_67) (fun S9 => wX cI cH cO ad ar S9) (fun S_67 eS_67 => ?_)
    exact j_iretI X rfl rfl dX4_commandOnTrial_70
  refine j_ite (P9 := ((S 7) 3 0) = 112) (fun c_7_112 => ?_) (fun c_7_112 => ?_)
  · refine j_lsw X (tgt := 101) dX4_commandOnTrial_7 (by decide) (off := 94) (by rw [c_7_112]; decide) (by decide) ?_
    refine j_aload_n X (pc' := 102) 0 dX4_commandOnTrial_101 rfl rfl rfl ?_
    refine j_get X inX4 rfl (pc' := 105) 0 1 q_fl_X4_16 (by decide) rfl rfl dX4_commandOnTrial_102 rfl ?_
    refine j_aload_n X (pc' := 106) 0 dX4_commandOnTrial_105 rfl rfl rfl ?_
    refine j_get X inX4 rfl (pc' := 109) 0 3 q_fl_X4_29 (by decide) rfl rfl dX4_commandOnTrial_106 rfl ?_
    refine j_get X inX3 rfl (pc' := 112) 63 4 q_fl_X4_157 (by decide) rfl rfl dX4_commandOnTrial_109 rfl ?_
    refine j_aload_n X (pc' := 113) 0 dX4_commandOnTrial_112 rfl rfl rfl ?_
    refine j_get X inX4 rfl (pc' := 116) 0 3 q_fl_X4_29 (by decide) rfl rfl dX4_commandOnTrial_113 rfl ?_
    refine j_get X inX3 rfl (pc' := 119) 63 5 q_fl_X4_160 (by decide) rfl rfl dX4_commandOnTrial_116 rfl ?_
    refine j_callViF X (pc' := 122) (As := [.int ((S 7) 4 0), .int ((S 7) 5 0)]) (rest := []) (ws' := wX cI cH cO ad ar (upx S 1 (sX0_payCoins (S 1) ((S 7) 4 0) ((S 7) 5 0)).2)) (wr := (wXo ad) ++ (wC cI (ad 1) (ar 1) (S 0)) ++ (wH cO ad (S 2)) ++ (wC cI (ad 4) (ar 4) (S 3)) ++ (wC cI (ad 5) (ar 5) (S 4)) ++ (wC cI (ad 6) (ar 6) (S 5)) ++ (wC cI (ad 7) (ar 7) (S 6)) ++ (wT cH (ad 8) (ar 8) (S 7)) ++ (wR (ad 9) (S 8))) [11, 12, 13, 14, 15, 16, 17, 18, 19, 20] [0, 1, 2, 3, 4, 5, 6, 7, 8, 9, 10, 21, 22, 23, 24, 25, 26, 27, 28, 29, 30, 31, 32, 33, 34, 35, 36, 37, 38, 39, 40, 41, 42, 43, 44, 45, 46, 47, 48, 49, 50, 51, 52, 53, 54, 55, 56, 57, 58, 59, 60, 61, 62, 63, 64, 65] [0, 1, 2, 3, 4, 5, 6, 7, 8, 9, 10, 56, 57, 58, 59, 60, 61, 62, 63, 64, 65, 11, 12, 13, 14, 15, 16, 17, 18, 19, 20, 21, 22, 23, 24, 25, 26, 27, 28, 29, 30, 31, 32, 33, 34, 35, 36, 37, 38, 39, 40, 41, 42, 43, 44, 45, 46, 47, 48, 49, 50, 51, 52, 53, 54, 55] (fc_2 cI cH cO ad ar S) (fr_2 cI cH cO ad ar S) fn_2 (fm_2 cI cH cO ad ar S _) (c_X0_payCoins l D cI cH cO (ad 2) (ar 2) (S 1) ((S 7) 4 0) ((S 7) 5 0) ) wv_X4_59 ⟨0, 0, _, _, rfl, rfl, rfl⟩ ⟨by decide, by decide, by decide, by decide⟩ rfl rfl (Nat.le_of_ble_eq_true rfl) dX4_commandOnTrial_119 rfl ?_
    refine j_rsL (q := (sX0_payCoins (S 1) ((S 7) 4 0) ((S 7) 5 0))) (fun C9 => wX cI cH cO ad ar (upx S 1 C9)) (fun r_119 C_119 er_119 => ?_)
    refine j_stL (S := upx S 1 C_119) (fun S9 => wX cI cH cO ad ar S9) (fun S_119 eS_119 => ?_)
    exact j_iretI X rfl rfl dX4_commandOnTrial_122
  refine j_ite (P9 := ((S 7) 3 0) = 114) (fun c_7_114 => ?_) (fun c_7_114 => ?_)
  · refine j_lsw X (tgt := 123) dX4_commandOnTrial_7 (by decide) (off := 116) (by rw [c_7_114]; decide) (by decide) ?_
    refine j_aload_n X (pc' := 124) 0 dX4_commandOnTrial_123 rfl rfl rfl ?_
    refine j_get X inX4 rfl (pc' := 127) 0 1 q_fl_X4_16 (by decide) rfl rfl dX4_commandOnTrial_124 rfl ?_
    refine j_aload_n X (pc' := 128) 0 dX4_commandOnTrial_127 rfl rfl rfl ?_
    refine j_get X inX4 rfl (pc' := 131) 0 3 q_fl_X4_29 (by decide) rfl rfl dX4_commandOnTrial_128 rfl ?_
    refine j_get X inX3 rfl (pc' := 134) 63 4 q_fl_X4_157 (by decide) rfl rfl dX4_commandOnTrial_131 rfl ?_
    refine j_callViF X (pc' := 137) (As := [.int ((S 7) 4 0)]) (rest := []) (ws' := wX cI cH cO ad ar (upx S 1 (sX0_repairPoints (S 1) ((S 7) 4 0)).2)) (wr := (wXo ad) ++ (wC cI (ad 1) (ar 1) (S 0)) ++ (wH cO ad (S 2)) ++ (wC cI (ad 4) (ar 4) (S 3)) ++ (wC cI (ad 5) (ar 5) (S 4)) ++ (wC cI (ad 6) (ar 6) (S 5)) ++ (wC cI (ad 7) (ar 7) (S 6)) ++ (wT cH (ad 8) (ar 8) (S 7)) ++ (wR (ad 9) (S 8))) [11, 12, 13, 14, 15, 16, 17, 18, 19, 20] [0, 1, 2, 3, 4, 5, 6, 7, 8, 9, 10, 21, 22, 23, 24, 25, 26, 27, 28, 29, 30, 31, 32, 33, 34, 35, 36, 37, 38, 39, 40, 41, 42, 43, 44, 45, 46, 47, 48, 49, 50, 51, 52, 53, 54, 55, 56, 57, 58, 59, 60, 61, 62, 63, 64, 65] [0, 1, 2, 3, 4, 5, 6, 7, 8, 9, 10, 56, 57, 58, 59, 60, 61, 62, 63, 64, 65, 11, 12, 13, 14, 15, 16, 17, 18, 19, 20, 21, 22, 23, 24, 25, 26, 27, 28, 29, 30, 31, 32, 33, 34, 35, 36, 37, 38, 39, 40, 41, 42, 43, 44, 45, 46, 47, 48, 49, 50, 51, 52, 53, 54, 55] (fc_2 cI cH cO ad ar S) (fr_2 cI cH cO ad ar S) fn_2 (fm_2 cI cH cO ad ar S _) (c_X0_repairPoints l D cI cH cO (ad 2) (ar 2) (S 1) ((S 7) 4 0) ) wv_X4_62 ⟨0, 0, _, _, rfl, rfl, rfl⟩ ⟨by decide, by decide, by decide, by decide⟩ rfl rfl (Nat.le_of_ble_eq_true rfl) dX4_commandOnTrial_134 rfl ?_
    refine j_rsL (q := (sX0_repairPoints (S 1) ((S 7) 4 0))) (fun C9 => wX cI cH cO ad ar (upx S 1 C9)) (fun r_134 C_134 er_134 => ?_)
    refine j_stL (S := upx S 1 C_134) (fun S9 => wX cI cH cO ad ar S9) (fun S_134 eS_134 => ?_)
    exact j_iretI X rfl rfl dX4_commandOnTrial_137
  refine j_ite (P9 := ((S 7) 3 0) = 117) (fun c_7_117 => ?_) (fun c_7_117 => ?_)
  · refine j_lsw X (tgt := 71) dX4_commandOnTrial_7 (by decide) (off := 64) (by rw [c_7_117]; decide) (by decide) ?_
    refine j_aload_n X (pc' := 72) 0 dX4_commandOnTrial_71 rfl rfl rfl ?_
    refine j_get X inX4 rfl (pc' := 75) 0 1 q_fl_X4_16 (by decide) rfl rfl dX4_commandOnTrial_72 rfl ?_
    refine j_aload_n X (pc' := 76) 0 dX4_commandOnTrial_75 rfl rfl rfl ?_
    refine j_get X inX4 rfl (pc' := 79) 0 3 q_fl_X4_29 (by decide) rfl rfl dX4_commandOnTrial_76 rfl ?_
    refine j_get X inX3 rfl (pc' := 82) 63 4 q_fl_X4_157 (by decide) rfl rfl dX4_commandOnTrial_79 rfl ?_
    refine j_aload_n X (pc' := 83) 0 dX4_commandOnTrial_82 rfl rfl rfl ?_
    refine j_get X inX4 rfl (pc' := 86) 0 3 q_fl_X4_29 (by decide) rfl rfl dX4_commandOnTrial_83 rfl ?_
    refine j_get X inX3 rfl (pc' := 89) 63 5 q_fl_X4_160 (by decide) rfl rfl dX4_commandOnTrial_86 rfl ?_
    refine j_callViF X (pc' := 92) (As := [.int ((S 7) 4 0), .int ((S 7) 5 0)]) (rest := []) (ws' := wX cI cH cO ad ar (upx S 1 (sX0_declareUse (S 1) ((S 7) 4 0) ((S 7) 5 0)).2)) (wr := (wXo ad) ++ (wC cI (ad 1) (ar 1) (S 0)) ++ (wH cO ad (S 2)) ++ (wC cI (ad 4) (ar 4) (S 3)) ++ (wC cI (ad 5) (ar 5) (S 4)) ++ (wC cI (ad 6) (ar 6) (S 5)) ++ (wC cI (ad 7) (ar 7) (S 6)) ++ (wT cH (ad 8) (ar 8) (S 7)) ++ (wR (ad 9) (S 8))) [11, 12, 13, 14, 15, 16, 17, 18, 19, 20] [0, 1, 2, 3, 4, 5, 6, 7, 8, 9, 10, 21, 22, 23, 24, 25, 26, 27, 28, 29, 30, 31, 32, 33, 34, 35, 36, 37, 38, 39, 40, 41, 42, 43, 44, 45, 46, 47, 48, 49, 50, 51, 52, 53, 54, 55, 56, 57, 58, 59, 60, 61, 62, 63, 64, 65] [0, 1, 2, 3, 4, 5, 6, 7, 8, 9, 10, 56, 57, 58, 59, 60, 61, 62, 63, 64, 65, 11, 12, 13, 14, 15, 16, 17, 18, 19, 20, 21, 22, 23, 24, 25, 26, 27, 28, 29, 30, 31, 32, 33, 34, 35, 36, 37, 38, 39, 40, 41, 42, 43, 44, 45, 46, 47, 48, 49, 50, 51, 52, 53, 54, 55] (fc_2 cI cH cO ad ar S) (fr_2 cI cH cO ad ar S) fn_2 (fm_2 cI cH cO ad ar S _) (c_X0_declareUse l D cI cH cO (ad 2) (ar 2) (S 1) ((S 7) 4 0) ((S 7) 5 0) ) wv_X4_51 ⟨0, 0, _, _, rfl, rfl, rfl⟩ ⟨by decide, by decide, by decide, by decide⟩ rfl rfl (Nat.le_of_ble_eq_true rfl) dX4_commandOnTrial_89 rfl ?_
    refine j_rsL (q := (sX0_declareUse (S 1) ((S 7) 4 0) ((S 7) 5 0))) (fun C9 => wX cI cH cO ad ar (upx S 1 C9)) (fun r_89 C_89 er_89 => ?_)
    refine j_stL (S := upx S 1 C_89) (fun S9 => wX cI cH cO ad ar S9) (fun S_89 eS_89 => ?_)
    exact j_iretI X rfl rfl dX4_commandOnTrial_92
  refine j_lsw X (tgt := 138) dX4_commandOnTrial_7 (by decide) (off := 131) (by rw [lv_osw c_7_99 (by decide)]; rw [lv_osw c_7_109 (by decide)]; rw [lv_osw c_7_112 (by decide)]; rw [lv_osw c_7_114 (by decide)]; rw [lv_osw c_7_117 (by decide)]; rfl) (by decide) ?_
  refine j_sipush X (v := (-10002)) (pc' := 141) dX4_commandOnTrial_138 (by decide) rfl ?_
  exact j_iretI X rfl rfl dX4_commandOnTrial_141
theorem c_X4_commandOnTrial (l : Launch) (D : va_G) (cI cH cO : ClassId) (ad : Nat → Nat) (ar : Nat → Nat → Nat) (S : Xst) (hT : IC (S 1)) : MI l yX4_commandOnTrial cX4_commandOnTrial 1 (some .int) 5 D (tyl cI cH cO) [.ref (ad 0)] (wX cI cH cO ad ar S) (sX4_commandOnTrial S).1 (wX cI cH cO ad ar (sX4_commandOnTrial S).2) := fun sz => j_start (fun below s => (KI below [.ref (ad 0)].toArray s D (tyl cI cH cO) (wX cI cH cO ad ar S) (fun C9 => wX cI cH cO ad ar C9))) (sX4_commandOnTrial S) (by decide +kernel) rfl (Nat.le_of_ble_eq_true rfl) (fun below s hs _ => by subst hs; rfl) (fun p e s m below meth c hX9 X => b_X4_commandOnTrial ad ar S hT X)
