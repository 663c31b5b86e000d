set_option maxHeartbeats 4000000 in
set_option maxRecDepth 100000 in
theorem b_X0_takeOver {p : Program} {l : Launch} {e : Env} {s : State} {m : MethodId} {args : Array Value} {below : List Frame} {meth : Method} {c : Code} {D : va_G} {cI cH cO : ClassId} {ws0 : va_W} (h : Nat) (ar : Nat → Nat) (C : Cst) (h2 : Nat) (ar2 : Nat → Nat) (O : Cst)  (X : CX p s m args meth c cX0_takeOver 2 RX0 none D (tyl cI cH cO) (va_A ws0 s.heap.size)) : J p l e (rml 2) s m args below meth c 2 D (va_A ws0 s.heap.size) 0 0 (KV below args s D (tyl cI cH cO) ws0 (fun C9 => (wC cI h ar C9) ++ (wC cI h2 ar2 O))) (sX0_takeOver C O) ((wC cI h ar C) ++ (wC cI h2 ar2 O)) 0 [(0, .ref h), (1, .ref h2)] [] := by
  unfold sX0_takeOver
  refine j_aload_n X (pc' := 1) 1 dX0_takeOver_0 rfl rfl rfl ?_
  refine j_get X inX0 rfl (pc' := 4) 10 0 q_fl_X0_9 (by decide) rfl rfl dX0_takeOver_1 rfl ?_
  refine j_aload_n X (pc' := 5) 0 dX0_takeOver_4 rfl rfl rfl ?_
  refine j_get X inX0 rfl (pc' := 8) 0 0 q_fl_X0_9 (by decide) rfl rfl dX0_takeOver_5 rfl ?_
  refine j_callNv X (pc' := 11) (As := [.ref (ar2 0), .ref (ar 0)]) (rest := []) (c_X4_copyRow_0 l D cI cH cO h ar C h2 ar2 O ) X.2.2.1.2.2.2.2.1 wn_X0_43 ⟨by decide, by decide, by decide, by decide⟩ rfl rfl (Nat.le_of_ble_eq_true rfl) dX0_takeOver_8 rfl ?_
  refine j_stL (S := (sX4_copyRow_0 C O)) (fun S_8 => (wC cI h ar S_8) ++ (wC cI h2 ar2 O)) (fun S_8 eS_8 => ?_)
  refine j_aload_n X (pc' := 12) 1 dX0_takeOver_11 rfl rfl rfl ?_
  refine j_get X inX0 rfl (pc' := 15) 10 1 q_fl_X0_15 (by decide) rfl rfl dX0_takeOver_12 rfl ?_
  refine j_aload_n X (pc' := 16) 0 dX0_takeOver_15 rfl rfl rfl ?_
  refine j_get X inX0 rfl (pc' := 19) 0 1 q_fl_X0_15 (by decide) rfl rfl dX0_takeOver_16 rfl ?_
  refine j_callNv X (pc' := 22) (As := [.ref (ar2 1), .ref (ar 1)]) (rest := []) (c_X4_copyRow_1 l D cI cH cO h ar S_8 h2 ar2 O ) X.2.2.1.2.2.2.2.1 wn_X0_43 ⟨by decide, by decide, by decide, by decide⟩ rfl rfl (Nat.le_of_ble_eq_true rfl) dX0_takeOver_19 rfl ?_
  refine j_stL (S := (sX4_copyRow_1 S_8 O)) (fun S_19 => (wC cI h ar S_19) ++ (wC cI h2 ar2 O)) (fun S_19 eS_19 => ?_)
  refine j_aload_n X (pc' := 23) 1 dX0_takeOver_22 rfl rfl rfl ?_
  refine j_get X inX0 rfl (pc' := 26) 10 2 q_fl_X0_18 (by decide) rfl rfl dX0_takeOver_23 rfl ?_
  refine j_aload_n X (pc' := 27) 0 dX0_takeOver_26 rfl rfl rfl ?_
  refine j_get X inX0 rfl (pc' := 30) 0 2 q_fl_X0_18 (by decide) rfl rfl dX0_takeOver_27 rfl ?_
  refine j_callNv X (pc' := 33) (As := [.ref (ar2 2), .ref (ar 2)]) (rest := []) (c_X4_copyRow_2 l D cI cH cO h ar S_19 h2 ar2 O ) X.2.2.1.2.2.2.2.1 wn_X0_43 ⟨by decide, by decide, by decide, by decide⟩ rfl rfl (Nat.le_of_ble_eq_true rfl) dX0_takeOver_30 rfl ?_
  refine j_stL (S := (sX4_copyRow_2 S_19 O)) (fun S_30 => (wC cI h ar S_30) ++ (wC cI h2 ar2 O)) (fun S_30 eS_30 => ?_)
  refine j_aload_n X (pc' := 34) 1 dX0_takeOver_33 rfl rfl rfl ?_
  refine j_get X inX0 rfl (pc' := 37) 10 3 q_fl_X0_21 (by decide) rfl rfl dX0_takeOver_34 rfl ?_
  refine j_aload_n X (pc' := 38) 0 dX0_takeOver_37 rfl rfl rfl ?_
  refine j_get X inX0 rfl (pc' := 41) 0 3 q_fl_X0_21 (by decide) rfl rfl dX0_takeOver_38 rfl ?_
  refine j_callNv X (pc' := 44) (As := [.ref (ar2 3), .ref (ar 3)]) (rest := []) (c_X4_copyRow_3 l D cI cH cO h ar S_30 h2 ar2 O ) X.2.2.1.2.2.2.2.1 wn_X0_43 ⟨by decide, by decide, by decide, by decide⟩ rfl rfl (Nat.le_of_ble_eq_true rfl) dX0_takeOver_41 rfl ?_
  refine j_stL (S := (sX4_copyRow_3 S_30 O)) (fun S_41 => (wC cI h ar S_41) ++ (wC cI h2 ar2 O)) (fun S_41 eS_41 => ?_)
  refine j_aload_n X (pc' := 45) 1 dX0_takeOver_44 rfl rfl rfl ?_
  refine j_get X inX0 rfl (pc' := 48) 10 4 q_fl_X0_24 (by decide) rfl rfl dX0_takeOver_45 rfl ?_
  refine j_aload_n X (pc' := 49) 0 dX0_takeOver_48 rfl rfl rfl ?_
  refine j_get X inX0 rfl (pc' := 52) 0 4 q_fl_X0_24 (by decide) rfl rfl dX0_takeOver_49 rfl ?_
  refine j_callNv X (pc' := 55) (As := [.ref (ar2 4), .ref (ar 4)]) (rest := []) (c_X4_copyRow_4 l D cI cH cO h ar S_41 h2 ar2 O ) X.2.2.1.2.2.2.2.1 wn_X0_43 ⟨by decide, by decide, by decide, by decide⟩ rfl rfl (Nat.le_of_ble_eq_true rfl) dX0_takeOver_52 rfl ?_
  refine j_stL (S := (sX4_copyRow_4 S_41 O)) (fun S_52 => (wC cI h ar S_52) ++ (wC cI h2 ar2 O)) (fun S_52 eS_52 => ?_)
  refine j_aload_n X (pc' := 56) 1 dX0_takeOver_55 rfl rfl rfl ?_
  refine j_get X inX0 rfl (pc' := 59) 10 5 q_fl_X0_27 (by decide) rfl rfl dX0_takeOver_56 rfl ?_
  refine j_aload_n X (pc' := 60) 0 dX0_takeOver_59 rfl rfl rfl ?_
  refine j_get X inX0 rfl (pc' := 63) 0 5 q_fl_X0_27 (by decide) rfl rfl dX0_takeOver_60 rfl ?_
  refine j_callNv X (pc' := 66) (As := [.ref (ar2 5), .ref (ar 5)]) (rest := []) (c_X4_copyRow_5 l D cI cH cO h ar S_52 h2 ar2 O ) X.2.2.1.2.2.2.2.1 wn_X0_43 ⟨by decide, by decide, by decide, by decide⟩ rfl rfl (Nat.le_of_ble_eq_true rfl) dX0_takeOver_63 rfl ?_
  refine j_stL (S := (sX4_copyRow_5 S_52 O)) (fun S_63 => (wC cI h ar S_63) ++ (wC cI h2 ar2 O)) (fun S_63 eS_63 => ?_)
  refine j_aload_n X (pc' := 67) 1 dX0_takeOver_66 rfl rfl rfl ?_
  refine j_get X inX0 rfl (pc' := 70) 10 6 q_fl_X0_30 (by decide) rfl rfl dX0_takeOver_67 rfl ?_
  refine j_aload_n X (pc' := 71) 0 dX0_takeOver_70 rfl rfl rfl ?_
  refine j_get X inX0 rfl (pc' := 74) 0 6 q_fl_X0_30 (by decide) rfl rfl dX0_takeOver_71 rfl ?_
  refine j_callNv X (pc' := 77) (As := [.ref (ar2 6), .ref (ar 6)]) (rest := []) (c_X4_copyRow_6 l D cI cH cO h ar S_63 h2 ar2 O ) X.2.2.1.2.2.2.2.1 wn_X0_43 ⟨by decide, by decide, by decide, by decide⟩ rfl rfl (Nat.le_of_ble_eq_true rfl) dX0_takeOver_74 rfl ?_
  refine j_stL (S := (sX4_copyRow_6 S_63 O)) (fun S_74 => (wC cI h ar S_74) ++ (wC cI h2 ar2 O)) (fun S_74 eS_74 => ?_)
  refine j_aload_n X (pc' := 78) 1 dX0_takeOver_77 rfl rfl rfl ?_
  refine j_get X inX0 rfl (pc' := 81) 10 7 q_fl_X0_33 (by decide) rfl rfl dX0_takeOver_78 rfl ?_
  refine j_aload_n X (pc' := 82) 0 dX0_takeOver_81 rfl rfl rfl ?_
  refine j_get X inX0 rfl (pc' := 85) 0 7 q_fl_X0_33 (by decide) rfl rfl dX0_takeOver_82 rfl ?_
  refine j_callNv X (pc' := 88) (As := [.ref (ar2 7), .ref (ar 7)]) (rest := []) (c_X4_copyRow_7 l D cI cH cO h ar S_74 h2 ar2 O ) X.2.2.1.2.2.2.2.1 wn_X0_43 ⟨by decide, by decide, by decide, by decide⟩ rfl rfl (Nat.le_of_ble_eq_true rfl) dX0_takeOver_85 rfl ?_
  refine j_stL (S := (sX4_copyRow_7 S_74 O)) (fun S_85 => (wC cI h ar S_85) ++ (wC cI h2 ar2 O)) (fun S_85 eS_85 => ?_)
  refine j_aload_n X (pc' := 89) 1 dX0_takeOver_88 rfl rfl rfl ?_
  refine j_get X inX0 rfl (pc' := 92) 10 8 q_fl_X0_36 (by decide) rfl rfl dX0_takeOver_89 rfl ?_
  refine j_aload_n X (pc' := 93) 0 dX0_takeOver_92 rfl rfl rfl ?_
  refine j_get X inX0 rfl (pc' := 96) 0 8 q_fl_X0_36 (by decide) rfl rfl dX0_takeOver_93 rfl ?_
  refine j_callNv X (pc' := 99) (As := [.ref (ar2 8), .ref (ar 8)]) (rest := []) (c_X4_copyRow_8 l D cI cH cO h ar S_85 h2 ar2 O ) X.2.2.1.2.2.2.2.1 wn_X0_43 ⟨by decide, by decide, by decide, by decide⟩ rfl rfl (Nat.le_of_ble_eq_true rfl) dX0_takeOver_96 rfl ?_
  refine j_stL (S := (sX4_copyRow_8 S_85 O)) (fun S_96 => (wC cI h ar S_96) ++ (wC cI h2 ar2 O)) (fun S_96 eS_96 => ?_)
  refine j_aload_n X (pc' := 100) 0 dX0_takeOver_99 rfl rfl rfl ?_
  refine j_aload_n X (pc' := 101) 1 dX0_takeOver_100 rfl rfl rfl ?_
  refine j_get X inX0 rfl (pc' := 104) 10 9 q_fl_X0_47 (by decide) rfl rfl dX0_takeOver_101 rfl ?_
  refine j_put X inX0 rfl (pc' := 107) tyX0_ok nmX0 (S := up S_96 9 0 (O 9 0)) (fun S_104 => (wC cI h ar S_104) ++ (wC cI h2 ar2 O)) 0 9 q_fl_X0_47 (by decide) rfl rfl rfl rfl (Nat.le_of_ble_eq_true rfl) rfl dX0_takeOver_104 rfl (fun S_104 eS_104 => ?_)
  refine j_aload_n X (pc' := 108) 0 dX0_takeOver_107 rfl rfl rfl ?_
  refine j_aload_n X (pc' := 109) 1 dX0_takeOver_108 rfl rfl rfl ?_
  refine j_get X inX0 rfl (pc' := 112) 10 10 q_fl_X0_50 (by decide) rfl rfl dX0_takeOver_109 rfl ?_
  refine j_put X inX0 rfl (pc' := 115) tyX0_ok nmX0 (S := up S_104 10 0 (O 10 0)) (fun S_112 => (wC cI h ar S_112) ++ (wC cI h2 ar2 O)) 0 10 q_fl_X0_50 (by decide) rfl rfl rfl rfl (Nat.le_of_ble_eq_true rfl) rfl dX0_takeOver_112 rfl (fun S_112 eS_112 => ?_)
  refine j_aload_n X (pc' := 116) 0 dX0_takeOver_115 rfl rfl rfl ?_
  refine j_aload_n X (pc' := 117) 1 dX0_takeOver_116 rfl rfl rfl ?_
  refine j_get X inX0 rfl (pc' := 120) 10 11 q_fl_X0_39 (by decide) rfl rfl dX0_takeOver_117 rfl ?_
  refine j_put X inX0 rfl (pc' := 123) tyX0_ok nmX0 (S := up S_112 11 0 (O 11 0)) (fun S_120 => (wC cI h ar S_120) ++ (wC cI h2 ar2 O)) 0 11 q_fl_X0_39 (by decide) rfl rfl rfl rfl (Nat.le_of_ble_eq_true rfl) rfl dX0_takeOver_120 rfl (fun S_120 eS_120 => ?_)
  refine j_aload_n X (pc' := 124) 0 dX0_takeOver_123 rfl rfl rfl ?_
  refine j_aload_n X (pc' := 125) 1 dX0_takeOver_124 rfl rfl rfl ?_
  refine j_get X inX0 rfl (pc' := 128) 10 12 q_fl_X0_53 (by decide) rfl rfl dX0_takeOver_125 rfl ?_
  refine j_put X inX0 rfl (pc' := 131) tyX0_ok nmX0 (S := up S_120 12 0 (O 12 0)) (fun S_128 => (wC cI h ar S_128) ++ (wC cI h2 ar2 O)) 0 12 q_fl_X0_53 (by decide) rfl rfl rfl rfl (Nat.le_of_ble_eq_true rfl) rfl dX0_takeOver_128 rfl (fun S_128 eS_128 => ?_)
  refine j_aload_n X (pc' := 132) 0 dX0_takeOver_131 rfl rfl rfl ?_
  refine j_aload_n X (pc' := 133) 1 dX0_takeOver_132 rfl rfl rfl ?_
  refine j_get X inX0 rfl (pc' := 136) 10 13 q_fl_X0_56 (by decide) rfl rfl dX0_takeOver_133 rfl ?_
  refine j_put X inX0 rfl (pc' := 139) tyX0_ok nmX0 (S := up S_128 13 0 (O 13 0)) (fun S_136 => (wC cI h ar S_136) ++ (wC cI h2 ar2 O)) 0 13 q_fl_X0_56 (by decide) rfl rfl rfl rfl (Nat.le_of_ble_eq_true rfl) rfl dX0_takeOver_136 rfl (fun S_136 eS_136 => ?_)
  refine j_aload_n X (pc' := 140) 0 dX0_takeOver_139 rfl rfl rfl ?_
  refine j_aload_n X (pc' := 141) 1 dX0_takeOver_140 rfl rfl rfl ?_
  refine j_get X inX0 rfl (pc' := 144) 10 14 q_fl_X0_59 (by decide) rfl rfl dX0_takeOver_141 rfl ?_
  refine j_put X inX0 rfl (pc' := 147) tyX0_ok nmX0 (S := up S_136 14 0 (O 14 0)) (fun S_144 => (wC cI h ar S_144) ++ (wC cI h2 ar2 O)) 0 14 q_fl_X0_59 (by decide) rfl rfl rfl rfl (Nat.le_of_ble_eq_true rfl) rfl dX0_takeOver_144 rfl (fun S_144 eS_144 => ?_)
  refine j_aload_n X (pc' := 148) 0 dX0_takeOver_147 rfl rfl rfl ?_
  refine j_aload_n X (pc' := 149) 1 dX0_takeOver_148 rfl rfl rfl ?_
  refine j_get X inX0 rfl (pc' := 152) 10 15 q_fl_X0_62 (by decide) rfl rfl dX0_takeOver_149 rfl ?_
  refine j_put X inX0 rfl (pc' := 155) tyX0_ok nmX0 (S := up S_144 15 0 (O 15 0)) (fun S_152 => (wC cI h ar S_152) ++ (wC cI h2 ar2 O)) 0 15 q_fl_X0_62 (by decide) rfl rfl rfl rfl (Nat.le_of_ble_eq_true rfl) rfl dX0_takeOver_152 rfl (fun S_152 eS_152 => ?_)
  refine j_aload_n X (pc' := 156) 0 dX0_takeOver_155 rfl rfl rfl ?_
  refine j_aload_n X (pc' := 157) 1 dX0_takeOver_156 rfl rfl rfl ?_
  refine j_get X inX0 rfl (pc' := 160) 10 16 q_fl_X0_65 (by decide) rfl rfl dX0_takeOver_157 rfl ?_
  refine j_put X inX0 rfl (pc' := 163) tyX0_ok nmX0 (S := up S_152 16 0 (O 16 0)) (fun S_160 => (wC cI h ar S_160) ++ (wC cI h2 ar2 O)) 0 16 q_fl_X0_65 (by decide) rfl rfl rfl rfl (Nat.le_of_ble_eq_true rfl) rfl dX0_takeOver_160 rfl (fun S_160 eS_160 => ?_)
  have z0 : ∀ j, j < 5 → S_160 0 j = O 0 j := by intro j hj; subst_vars; show va_cpy (O 0) (C 0) 0 0 5 j = O 0 j; simp [va_cpy, hj]
  have z8 : ∀ j, j < 30 → S_160 8 j = O 8 j := by intro j hj; subst_vars; show va_cpy (O 8) (C 8) 0 0 30 j = O 8 j; simp [va_cpy, hj]
  have z1 : ∀ j, j < 8 → S_160 1 j = O 1 j := by intro j hj; subst_vars; show va_cpy (O 1) (C 1) 0 0 8 j = O 1 j; simp [va_cpy, hj]
  have z2 : ∀ j, j < 8 → S_160 2 j = O 2 j := by intro j hj; subst_vars; show va_cpy (O 2) (C 2) 0 0 8 j = O 2 j; simp [va_cpy, hj]
  have z3 : ∀ j, j < 8 → S_160 3 j = O 3 j := by intro j hj; subst_vars; show va_cpy (O 3) (C 3) 0 0 8 j = O 3 j; simp [va_cpy, hj]
  have z4 : ∀ j, j < 8 → S_160 4 j = O 4 j := by intro j hj; subst_vars; show va_cpy (O 4) (C 4) 0 0 8 j = O 4 j; simp [va_cpy, hj]
  have z5 : ∀ j, j < 8 → S_160 5 j = O 5 j := by intro j hj; subst_vars; show va_cpy (O 5) (C 5) 0 0 8 j = O 5 j; simp [va_cpy, hj]
  have z6 : ∀ j, j < 8 → S_160 6 j = O 6 j := by intro j hj; subst_vars; show va_cpy (O 6) (C 6) 0 0 8 j = O 6 j; simp [va_cpy, hj]
  have z7 : ∀ j, j < 8 → S_160 7 j = O 7 j := by intro j hj; subst_vars; show va_cpy (O 7) (C 7) 0 0 8 j = O 7 j; simp [va_cpy, hj]
  have zs : ∀ k, 9 ≤ k → k < 17 → S_160 k 0 = O k 0 := by intro k h1 h2; subst_vars; rcases (show k = 9 ∨ k = 10 ∨ k = 11 ∨ k = 12 ∨ k = 13 ∨ k = 14 ∨ k = 15 ∨ k = 16 by omega) with rfl | rfl | rfl | rfl | rfl | rfl | rfl | rfl <;> rfl
  have zm : ∀ k, 1 ≤ k → k < 8 → ∀ j, j < 8 → S_160 k j = O k j := by intro k h1 h2; rcases (show k = 1 ∨ k = 2 ∨ k = 3 ∨ k = 4 ∨ k = 5 ∨ k = 6 ∨ k = 7 by omega) with rfl | rfl | rfl | rfl | rfl | rfl | rfl; exact z1; exact z2; exact z3; exact z4; exact z5; exact z6; exact z7
  refine j_wsP (ws' := (wC cI h ar O) ++ (wC cI h2 ar2 O)) (fun H hP => wC_agree zs z0 zm z8 hP) (fun hD => va_D_fst (ws := (wC cI h ar S_160) ++ (wC cI h2 ar2 O)) rfl hD) ?_
  exact j_vret X rfl dX0_takeOver_163
theorem c_X0_takeOver (l : Launch) (D : va_G) (cI cH cO : ClassId) (h : Nat) (ar : Nat → Nat) (C : Cst) (h2 : Nat) (ar2 : Nat → Nat) (O : Cst)  : MV l yX0_takeOver cX0_takeOver 2 2 D (tyl cI cH cO) [.ref h, .ref h2] ((wC cI h ar C) ++ (wC cI h2 ar2 O)) ((wC cI h ar (sX0_takeOver C O)) ++ (wC cI h2 ar2 O)) := fun sz => j_start (fun below s => (KV below [.ref h, .ref h2].toArray s D (tyl cI cH cO) ((wC cI h ar C) ++ (wC cI h2 ar2 O)) (fun C9 => (wC cI h ar C9) ++ (wC cI h2 ar2 O)))) (sX0_takeOver C O) (by decide +kernel) rfl (Nat.le_of_ble_eq_true rfl) (fun below s hs _ => by subst hs; rfl) (fun p e s m below meth c hX9 X => b_X0_takeOver h ar C h2 ar2 O  X)
