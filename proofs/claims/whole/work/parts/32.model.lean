set_option maxHeartbeats 4000000 in
set_option maxRecDepth 100000 in
theorem b_X5_plays {p : Program} {l : Launch} {e : Env} {s : State} {m : MethodId} {args : Array Value} {below : List Frame} {meth : Method} {c : Code} {D : va_G} {cI cH cO : ClassId} {ws0 : va_W} (h : Nat) (ar : Nat → Nat) (C : Cst) (hIC : IM C) (X : CX p s m args meth c cX5_plays 5 RX5 (some .int) D (tyl cI cH cO) (va_A ws0 s.heap.size)) : J p l e (rml 6) s m args below meth c 5 D (va_A ws0 s.heap.size) 0 0 (KI below args s D (tyl cI cH cO) ws0 (fun C9 => (wM cI h ar C9))) (sX5_plays C) ((wM cI h ar C)) 0 [(0, .ref h)] [] := by
  unfold sX5_plays
  refine j_ltv (fun K105 eK105 => ?_)
  have hK105 : ∀ (C : Cst) (x1 : Int32) (x2 : Int32) (hIC : IM C), J p l e (rml 6) s m args below meth c 5 D (va_A ws0 s.heap.size) 0 0 (KI below args s D (tyl cI cH cO) ws0 (fun C9 => (wM cI h ar C9))) (K105 C x1 x2) ((wM cI h ar C)) 105 [(0, .ref h), (1, .int x1), (2, .int x2)] [] := by
    intro C x1 x2 hIC
    rw [eK105]
    refine j_aload_n X (pc' := 106) 0 dX5_plays_105 rfl rfl rfl ?_
    refine j_iconst X (v := 0) (pc' := 107) dX5_plays_106 (by decide) rfl ?_
    refine j_put X inX5 rfl (pc' := 110) tyX5_ok nmX5 (S := up C 4 0 0) (fun S_107 => (wM cI h ar S_107)) 0 4 q_fl_X5_31 (by decide) rfl rfl rfl rfl (Nat.le_of_ble_eq_true rfl) rfl dX5_plays_107 rfl (fun S_107 eS_107 => ?_)
    have hIS_107 : IM S_107 := by rw [eS_107]; exact IM_k (by decide) (by decide) (by decide) hIC
    refine j_iload_n X (pc' := 111) 2 dX5_plays_110 rfl rfl rfl ?_
    refine j_if_eq X (tgt := 120) (pc' := 114) dX5_plays_111 (by decide) rfl (fun c_111 => ?_) (fun c_111 => ?_)
    · refine j_iload_n X (pc' := 121) 1 dX5_plays_120 rfl rfl rfl ?_
      exact j_iretI X rfl rfl dX5_plays_121
    · refine j_sipush X (v := (-10004)) (pc' := 117) dX5_plays_114 (by decide) rfl ?_
      refine j_goto X (pc' := 121) dX5_plays_117 (by decide) ?_
      exact j_iretI X rfl rfl dX5_plays_121
  refine j_ltl3 (fun L19 eL19 => ?_)
  have hL19 : ∀ (n19 : Nat) (C : Cst) (x1 : Int32) (x2 : Int32) (hIC : IM C) (hsp : 0 ≤ (C 8 0).toInt) (hB : (C 8 0).toInt ≤ 70) (hfu : (71 : Int) ≤ (C 8 0).toInt + n19), J p l e (rml 6) s m args below meth c 5 D (va_A ws0 s.heap.size) 0 0 (KI below args s D (tyl cI cH cO) ws0 (fun C9 => (wM cI h ar C9))) (L19 n19 C x1 x2) ((wM cI h ar C)) 19 [(0, .ref h), (1, .int x1), (2, .int x2)] [] := by
    intro n19
    induction n19 with
    | zero =>
      intro C x1 x2 hIC hsp hB hfu
      exact absurd hfu (by omega)
    | succ n19 ih19 =>
      intro C x1 x2 hIC hsp hB hfu
      rw [eL19]
      refine j_ltv (fun K91 eK91 => ?_)
      have hK91 : ∀ (C : Cst) (x1 : Int32) (t0 : Int32) (hIC : IM C) (hsp : 0 ≤ (C 8 0).toInt) (hB : (C 8 0).toInt ≤ 70) (hfu : (71 : Int) ≤ (C 8 0).toInt + n19), J p l e (rml 6) s m args below meth c 5 D (va_A ws0 s.heap.size) 0 0 (KI below args s D (tyl cI cH cO) ws0 (fun C9 => (wM cI h ar C9))) (K91 C x1 t0) ((wM cI h ar C)) 91 [(0, .ref h), (1, .int x1)] [.int t0] := by
        intro C x1 t0 hIC hsp hB hfu
        rw [eK91]
        refine j_istore_n X (lv' := [(0, .ref h), (1, .int x1), (2, .int t0)]) (pc' := 92) [1, 2, 0] dX5_plays_91 rfl (by decide) rfl rfl ?_
        refine j_aload_n X (pc' := 93) 0 dX5_plays_92 rfl rfl rfl ?_
        refine j_dup X (pc' := 94) dX5_plays_93 rfl rfl ?_
        refine j_get X inX5 rfl (pc' := 97) 0 10 q_fl_X5_131 (by decide) rfl rfl dX5_plays_94 rfl ?_
        refine j_iconst X (v := 1) (pc' := 98) dX5_plays_97 (by decide) rfl ?_
        refine j_iadd X (pc' := 99) dX5_plays_98 rfl ?_
        refine j_put X inX5 rfl (pc' := 102) tyX5_ok nmX5 (S := up C 10 0 ((C 10 0) + 1)) (fun S_99 => (wM cI h ar S_99)) 0 10 q_fl_X5_131 (by decide) rfl rfl rfl rfl (Nat.le_of_ble_eq_true rfl) rfl dX5_plays_99 rfl (fun S_99 eS_99 => ?_)
        have hIS_99 : IM S_99 := by rw [eS_99]; exact IM_k (by decide) (by decide) (by decide) hIC
        have hs99 : (S_99 8 0).toInt = (C 8 0).toInt := by rw [eS_99]; rfl
        refine j_goto X (pc' := 19) dX5_plays_102 (by decide) ?_
        refine j_lv [0, 1, 2] (lv' := [(0, .ref h), (1, .int x1), (2, .int t0)]) rfl ?_
        exact ih19 _ _ _ hIS_99 (by first | assumption | omega | decide) (by first | assumption | omega | decide) (by first | assumption | omega | decide)
      refine j_ltv (fun K90 eK90 => ?_)
      have hK90 : ∀ (C : Cst) (x1 : Int32) (hIC : IM C) (hsp : 0 ≤ (C 8 0).toInt) (hB : (C 8 0).toInt ≤ 70) (hfu : (71 : Int) ≤ (C 8 0).toInt + n19), J p l e (rml 6) s m args below meth c 5 D (va_A ws0 s.heap.size) 0 0 (KI below args s D (tyl cI cH cO) ws0 (fun C9 => (wM cI h ar C9))) (K90 C x1) ((wM cI h ar C)) 90 [(0, .ref h), (1, .int x1)] [] := by
        intro C x1 hIC hsp hB hfu
        rw [eK90]
        refine j_iconst X (v := 0) (pc' := 91) dX5_plays_90 (by decide) rfl ?_
        refine j_lv [0, 1] (lv' := [(0, .ref h), (1, .int x1)]) rfl ?_
        exact hK91 _ _ _ hIC (by first | assumption | omega | decide) (by first | assumption | omega | decide) (by first | assumption | omega | decide)
      refine j_ltv (fun K71 eK71 => ?_)
      have hK71 : ∀ (C : Cst) (x1 : Int32) (x4 : Int32) (t0 : Int32) (hIC : IM C) (hsp : 0 ≤ (C 8 0).toInt) (hB : (C 8 0).toInt ≤ 70) (hfu : (71 : Int) ≤ (C 8 0).toInt + n19), J p l e (rml 6) s m args below meth c 5 D (va_A ws0 s.heap.size) 0 0 (KI below args s D (tyl cI cH cO) ws0 (fun C9 => (wM cI h ar C9))) (K71 C x1 x4 t0) ((wM cI h ar C)) 71 [(0, .ref h), (1, .int x1), (4, .int x4)] [.int t0, .ref h] := by
        intro C x1 x4 t0 hIC hsp hB hfu
        rw [eK71]
        refine j_put X inX5 rfl (pc' := 74) tyX5_ok nmX5 (S := up C 9 0 t0) (fun S_71 => (wM cI h ar S_71)) 0 9 q_fl_X5_140 (by decide) rfl rfl rfl rfl (Nat.le_of_ble_eq_true rfl) rfl dX5_plays_71 rfl (fun S_71 eS_71 => ?_)
        have hIS_71 : IM S_71 := by rw [eS_71]; exact IM_k (by decide) (by decide) (by decide) hIC
        have hs71 : (S_71 8 0).toInt = (C 8 0).toInt := by rw [eS_71]; rfl
        refine j_iload X (pc' := 76) 2 dX5_plays_74 rfl rfl ?_
        refine j_if_eq X (tgt := 90) (pc' := 79) dX5_plays_76 (by decide) rfl (fun c_76 => ?_) (fun c_76 => ?_)
        · refine j_lv [0, 1] (lv' := [(0, .ref h), (1, .int x1)]) rfl ?_
          exact hK90 _ _ hIS_71 (by first | assumption | omega | decide) (by first | assumption | omega | decide) (by first | assumption | omega | decide)
        · refine j_aload_n X (pc' := 80) 0 dX5_plays_79 rfl rfl rfl ?_
          refine j_get X inX5 rfl (pc' := 83) 0 9 q_fl_X5_140 (by decide) rfl rfl dX5_plays_80 rfl ?_
          refine j_if_lt X (tgt := 90) (pc' := 86) dX5_plays_83 (by decide) rfl (fun c_83 => ?_) (fun c_83 => ?_)
          · refine j_lv [0, 1] (lv' := [(0, .ref h), (1, .int x1)]) rfl ?_
            exact hK90 _ _ hIS_71 (by first | assumption | omega | decide) (by first | assumption | omega | decide) (by first | assumption | omega | decide)
          · refine j_iconst X (v := 1) (pc' := 87) dX5_plays_86 (by decide) rfl ?_
            refine j_goto X (pc' := 91) dX5_plays_87 (by decide) ?_
            refine j_lv [0, 1] (lv' := [(0, .ref h), (1, .int x1)]) rfl ?_
            exact hK91 _ _ _ hIS_71 (by first | assumption | omega | decide) (by first | assumption | omega | decide) (by first | assumption | omega | decide)
      refine j_aload_n X (pc' := 20) 0 dX5_plays_19 rfl rfl rfl ?_
      refine j_get X inX5 rfl (pc' := 23) 0 8 q_fl_X5_106 (by decide) rfl rfl dX5_plays_20 rfl ?_
      refine j_aload_n X (pc' := 24) 0 dX5_plays_23 rfl rfl rfl ?_
      refine j_get X inX5 rfl (pc' := 27) 0 6 q_fl_X5_89 (by decide) rfl rfl dX5_plays_24 rfl ?_
      refine j_icmp_ge X (tgt := 105) (pc' := 30) dX5_plays_27 (by decide) rfl (fun c_27 => ?_) (fun c_27 => ?_)
      · refine j_lv [0, 1, 2] (lv' := [(0, .ref h), (1, .int x1), (2, .int x2)]) rfl ?_
        exact hK105 _ _ _ hIC
      · have hx := vp_in_iff.mp (at_in hsp hIC.2.2.2.2.2.2.2.2.2 c_27)
        refine j_iload_n X (pc' := 31) 2 dX5_plays_30 rfl rfl rfl ?_
        refine j_if_eq X (tgt := 105) (pc' := 34) dX5_plays_31 (by decide) rfl (fun c_31 => ?_) (fun c_31 => ?_)
        · refine j_lv [0, 1, 2] (lv' := [(0, .ref h), (1, .int x1), (2, .int x2)]) rfl ?_
          exact hK105 _ _ _ hIC
        · refine j_aload_n X (pc' := 35) 0 dX5_plays_34 rfl rfl rfl ?_
          refine j_get X inX5 rfl (pc' := 38) 0 8 q_fl_X5_106 (by decide) rfl rfl dX5_plays_35 rfl ?_
          refine j_istore_nL X (fun v1_38 => [(0, .ref h), (1, .int v1_38), (2, .int x2)]) [1, 0, 2] (pc' := 39) dX5_plays_38 rfl (by decide) (fun _ => rfl) rfl (fun v1_38 ev1_38 => ?_)
          refine j_aload_n X (pc' := 40) 0 dX5_plays_39 rfl rfl rfl ?_
          refine j_get X inX5 rfl (pc' := 43) 0 5 q_fl_X5_19 (by decide) rfl rfl dX5_plays_40 rfl ?_
          refine j_aload_n X (pc' := 44) 0 dX5_plays_43 rfl rfl rfl ?_
          refine j_get X inX5 rfl (pc' := 47) 0 8 q_fl_X5_106 (by decide) rfl rfl dX5_plays_44 rfl ?_
          refine j_iald X (pc' := 48) 4 rfl (vp_in_iff.mpr hx) dX5_plays_47 rfl ?_
          refine j_istore_nL X (fun v3_48 => [(0, .ref h), (1, .int v1_38), (2, .int x2), (3, .int v3_48)]) [1, 2, 3, 0] (pc' := 49) dX5_plays_48 rfl (by decide) (fun _ => rfl) rfl (fun v3_48 ev3_48 => ?_)
          refine j_aload_n X (pc' := 50) 0 dX5_plays_49 rfl rfl rfl ?_
          refine j_iload_n X (pc' := 51) 3 dX5_plays_50 rfl rfl rfl ?_
          refine j_callVi X (pc' := 54) (As := [.int v3_48]) (rest := []) (c_X5_isForm l D cI cH cO h ar C v3_48 hIC (by first | assumption | omega | decide) (by first | assumption | omega | decide)) wv_X5_134 ⟨0, 5, _, _, rfl, rfl, rfl⟩ ⟨by decide, by decide, by decide, by decide⟩ rfl rfl (Nat.le_of_ble_eq_true rfl) dX5_plays_51 rfl ?_
          refine j_rsL (q := (sX5_isForm C v3_48)) (fun S_51 => (wM cI h ar S_51)) (fun r_51 S_51 er_51 => ?_)
          have hIS_51 : IM S_51 := by have h9 : IM (sX5_isForm C v3_48).2 := IM_isForm hIC; rw [er_51] at h9; exact h9
          have hs51 := isForm_sp er_51 hsp (by omega)
          refine j_istore X (lv' := [(0, .ref h), (1, .int v1_38), (2, .int x2), (3, .int v3_48), (4, .int r_51)]) (pc' := 56) [1, 2, 3, 4, 0] dX5_plays_54 (by decide) rfl rfl ?_
          refine j_aload_n X (pc' := 57) 0 dX5_plays_56 rfl rfl rfl ?_
          refine j_iload X (pc' := 59) 4 dX5_plays_57 rfl rfl ?_
          refine j_if_eq X (tgt := 70) (pc' := 62) dX5_plays_59 (by decide) rfl (fun c_59 => ?_) (fun c_59 => ?_)
          · refine j_iconst X (v := 0) (pc' := 71) dX5_plays_70 (by decide) rfl ?_
            refine j_lv [0, 1, 4] (lv' := [(0, .ref h), (1, .int v1_38), (4, .int r_51)]) rfl ?_
            exact hK71 _ _ _ _ hIS_51 (by first | assumption | omega | decide) (by first | assumption | omega | decide) (by first | assumption | omega | decide)
          · refine j_aload_n X (pc' := 63) 0 dX5_plays_62 rfl rfl rfl ?_
            refine j_iload_n X (pc' := 64) 3 dX5_plays_63 rfl rfl rfl ?_
            refine j_callVi X (pc' := 67) (As := [.int v3_48]) (rest := [.ref h]) (c_X5_calls l D cI cH cO h ar S_51 v3_48 hIS_51) wv_X5_137 ⟨0, 5, _, _, rfl, rfl, rfl⟩ ⟨by decide, by decide, by decide, by decide⟩ rfl rfl (Nat.le_of_ble_eq_true rfl) dX5_plays_64 rfl ?_
            refine j_rsL (q := (sX5_calls S_51 v3_48)) (fun S_64 => (wM cI h ar S_64)) (fun r_64 S_64 er_64 => ?_)
            have hIS_64 : IM S_64 := by have h9 : IM (sX5_calls S_51 v3_48).2 := IM_calls hIS_51; rw [er_64] at h9; exact h9
            have hs64 : (S_64 8 0).toInt = (S_51 8 0).toInt := by rw [calls_8 er_64]
            refine j_goto X (pc' := 71) dX5_plays_67 (by decide) ?_
            refine j_lv [0, 1, 4] (lv' := [(0, .ref h), (1, .int v1_38), (4, .int r_51)]) rfl ?_
            exact hK71 _ _ _ _ hIS_64 (by first | assumption | omega | decide) (by first | assumption | omega | decide) (by first | assumption | omega | decide)
  refine j_aload_n X (pc' := 1) 0 dX5_plays_0 rfl rfl rfl ?_
  refine j_iconst X (v := 1) (pc' := 2) dX5_plays_1 (by decide) rfl ?_
  refine j_put X inX5 rfl (pc' := 5) tyX5_ok nmX5 (S := up C 4 0 1) (fun S_2 => (wM cI h ar S_2)) 0 4 q_fl_X5_31 (by decide) rfl rfl rfl rfl (Nat.le_of_ble_eq_true rfl) rfl dX5_plays_2 rfl (fun S_2 eS_2 => ?_)
  have hIS_2 : IM S_2 := by rw [eS_2]; exact IM_k (by decide) (by decide) (by decide) hIC
  refine j_aload_n X (pc' := 6) 0 dX5_plays_5 rfl rfl rfl ?_
  refine j_iconst X (v := 0) (pc' := 7) dX5_plays_6 (by decide) rfl ?_
  refine j_put X inX5 rfl (pc' := 10) tyX5_ok nmX5 (S := up S_2 8 0 0) (fun S_7 => (wM cI h ar S_7)) 0 8 q_fl_X5_106 (by decide) rfl rfl rfl rfl (Nat.le_of_ble_eq_true rfl) rfl dX5_plays_7 rfl (fun S_7 eS_7 => ?_)
  have hIS_7 : IM S_7 := by rw [eS_7]; exact IM_k (by decide) (by decide) (by decide) hIS_2
  refine j_aload_n X (pc' := 11) 0 dX5_plays_10 rfl rfl rfl ?_
  refine j_iconst X (v := 0) (pc' := 12) dX5_plays_11 (by decide) rfl ?_
  refine j_put X inX5 rfl (pc' := 15) tyX5_ok nmX5 (S := up S_7 10 0 0) (fun S_12 => (wM cI h ar S_12)) 0 10 q_fl_X5_131 (by decide) rfl rfl rfl rfl (Nat.le_of_ble_eq_true rfl) rfl dX5_plays_12 rfl (fun S_12 eS_12 => ?_)
  have hIS_12 : IM S_12 := by rw [eS_12]; exact IM_k (by decide) (by decide) (by decide) hIS_7
  have hz12 : (S_12 8 0).toInt = 0 := by rw [eS_12, eS_7]; rfl
  refine j_iconst X (v := 0) (pc' := 16) dX5_plays_15 (by decide) rfl ?_
  refine j_istore_n X (lv' := [(0, .ref h), (1, .int 0)]) (pc' := 17) [1, 0] dX5_plays_16 rfl (by decide) rfl rfl ?_
  refine j_iconst X (v := 1) (pc' := 18) dX5_plays_17 (by decide) rfl ?_
  refine j_istore_n X (lv' := [(0, .ref h), (1, .int 0), (2, .int 1)]) (pc' := 19) [1, 2, 0] dX5_plays_18 rfl (by decide) rfl rfl ?_
  refine j_lv [0, 1, 2] (lv' := [(0, .ref h), (1, .int 0), (2, .int 1)]) rfl ?_
  exact hL19 _ _ _ _ hIS_12 (by first | assumption | omega | decide) (by first | assumption | omega | decide) (by first | assumption | omega | decide)
theorem c_X5_plays (l : Launch) (D : va_G) (cI cH cO : ClassId) (h : Nat) (ar : Nat → Nat) (C : Cst) (hIC : IM C) : MI l yX5_plays cX5_plays 5 (some .int) 6 D (tyl cI cH cO) [.ref h] ((wM cI h ar C)) (sX5_plays C).1 ((wM cI h ar ((sX5_plays C).2))) := fun sz => j_start (fun below s => (KI below [.ref h].toArray s D (tyl cI cH cO) ((wM cI h ar C)) (fun C9 => (wM cI h ar C9)))) (sX5_plays C) (by decide +kernel) rfl (Nat.le_of_ble_eq_true rfl) (fun below s hs _ => by subst hs; rfl) (fun p e s m below meth c hX9 X => b_X5_plays h ar C hIC X)
