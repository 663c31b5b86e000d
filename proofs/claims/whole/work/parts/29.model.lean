set_option maxHeartbeats 4000000 in
set_option maxRecDepth 100000 in
theorem b_X5_number {p : Program} {l : Launch} {e : Env} {s : State} {m : MethodId} {args : Array Value} {below : List Frame} {meth : Method} {c : Code} {D : va_G} {cI cH cO : ClassId} {ws0 : va_W} (h : Nat) (ar : Nat → Nat) (C : Cst) (i1 : Nat) (x2 : Int32) (hIC : IM C) (hi1 : i1 < 2) (hsp : 0 ≤ (C 8 0).toInt) (hB : (C 8 0).toInt ≤ 200) (X : CX p s m args meth c cX5_number 5 RX5 (some .boolean) D (tyl cI cH cO) (va_A ws0 s.heap.size)) : J p l e (rml 2) s m args below meth c 5 D (va_A ws0 s.heap.size) 0 0 (KI below args s D (tyl cI cH cO) ws0 (fun C9 => (wM cI h ar C9))) (sX5_number C i1 x2) ((wM cI h ar C)) 0 [(0, .ref h), (1, .int (nI i1)), (2, .int x2)] [] := by
  unfold sX5_number
  refine j_ltv (fun K96 eK96 => ?_)
  have hK96 : ∀ (C : Cst) (t0 : Int32) (hIC : IM C) (hb0 : t0 = 0 ∨ t0 = 1), J p l e (rml 2) s m args below meth c 5 D (va_A ws0 s.heap.size) 0 0 (KI below args s D (tyl cI cH cO) ws0 (fun C9 => (wM cI h ar C9))) (K96 C t0) ((wM cI h ar C)) 96 [(0, .ref h)] [.int t0] := by
    intro C t0 hIC hb0
    rw [eK96]
    refine j_istore X (lv' := [(0, .ref h), (4, .int t0)]) (pc' := 98) [1, 0] dX5_number_96 (by decide) rfl rfl ?_
    refine j_aload_n X (pc' := 99) 0 dX5_number_98 rfl rfl rfl ?_
    refine j_dup X (pc' := 100) dX5_number_99 rfl rfl ?_
    refine j_get X inX5 rfl (pc' := 103) 0 8 q_fl_X5_106 (by decide) rfl rfl dX5_number_100 rfl ?_
    refine j_iconst X (v := 1) (pc' := 104) dX5_number_103 (by decide) rfl ?_
    refine j_iadd X (pc' := 105) dX5_number_104 rfl ?_
    refine j_put X inX5 rfl (pc' := 108) tyX5_ok nmX5 (S := up C 8 0 ((C 8 0) + 1)) (fun S_105 => (wM cI h ar S_105)) 0 8 q_fl_X5_106 (by decide) rfl rfl rfl rfl (Nat.le_of_ble_eq_true rfl) rfl dX5_number_105 rfl (fun S_105 eS_105 => ?_)
    have hIS_105 : IM S_105 := by rw [eS_105]; exact IM_k (by decide) (by decide) (by decide) hIC
    refine j_iload X (pc' := 110) 1 dX5_number_108 rfl rfl ?_
    exact j_zretI X (by rcases hb0 with rfl | rfl <;> rfl) rfl rfl dX5_number_110
  refine j_ltv (fun K95 eK95 => ?_)
  have hK95 : ∀ (C : Cst) (hIC : IM C), J p l e (rml 2) s m args below meth c 5 D (va_A ws0 s.heap.size) 0 0 (KI below args s D (tyl cI cH cO) ws0 (fun C9 => (wM cI h ar C9))) (K95 C) ((wM cI h ar C)) 95 [(0, .ref h)] [] := by
    intro C hIC
    rw [eK95]
    refine j_iconst X (v := 0) (pc' := 96) dX5_number_95 (by decide) rfl ?_
    refine j_lv [0] (lv' := [(0, .ref h)]) rfl ?_
    exact hK96 _ _ hIC (by first | assumption | omega | exact Or.inl rfl | exact Or.inr rfl)
  refine j_ltv (fun K74 eK74 => ?_)
  have hK74 : ∀ (C : Cst) (x2 : Int32) (x3 : Int32) (hIC : IM C) (h0 : 0 ≤ x3.toInt) (h1 : x3.toInt ≤ (C 8 0).toInt) (hB : (C 8 0).toInt ≤ 200), J p l e (rml 2) s m args below meth c 5 D (va_A ws0 s.heap.size) 0 0 (KI below args s D (tyl cI cH cO) ws0 (fun C9 => (wM cI h ar C9))) (K74 C x2 x3) ((wM cI h ar C)) 74 [(0, .ref h), (2, .int x2), (3, .int x3)] [] := by
    intro C x2 x3 hIC h0 h1 hB
    rw [eK74]
    refine j_aload_n X (pc' := 75) 0 dX5_number_74 rfl rfl rfl ?_
    refine j_get X inX5 rfl (pc' := 78) 0 8 q_fl_X5_106 (by decide) rfl rfl dX5_number_75 rfl ?_
    refine j_iload_n X (pc' := 79) 2 dX5_number_78 rfl rfl rfl ?_
    refine j_icmp_le X (tgt := 95) (pc' := 82) dX5_number_79 (by decide) rfl (fun c_79 => ?_) (fun c_79 => ?_)
    · refine j_lv [0] (lv' := [(0, .ref h)]) rfl ?_
      exact hK95 _ hIC
    · refine j_aload_n X (pc' := 83) 0 dX5_number_82 rfl rfl rfl ?_
      refine j_iload_n X (pc' := 84) 1 dX5_number_83 rfl rfl rfl ?_
      refine j_iload_n X (pc' := 85) 1 dX5_number_84 rfl rfl rfl ?_
      refine j_callVi X (pc' := 88) (As := [.int x2, .int x2]) (rest := []) (c_X5_isAt l D cI cH cO h ar C x2 x2 hIC (by omega)) wv_X5_109 ⟨0, 5, _, _, rfl, rfl, rfl⟩ ⟨by decide, by decide, by decide, by decide⟩ rfl rfl (Nat.le_of_ble_eq_true rfl) dX5_number_85 rfl ?_
      refine j_topL (fun r_85 er_85 => ?_)
      refine j_if_eq X (tgt := 95) (pc' := 91) dX5_number_88 (by decide) rfl (fun c_88 => ?_) (fun c_88 => ?_)
      · refine j_lv [0] (lv' := [(0, .ref h)]) rfl ?_
        exact hK95 _ hIC
      · refine j_iconst X (v := 1) (pc' := 92) dX5_number_91 (by decide) rfl ?_
        refine j_goto X (pc' := 96) dX5_number_92 (by decide) ?_
        refine j_lv [0] (lv' := [(0, .ref h)]) rfl ?_
        exact hK96 _ _ hIC (by first | assumption | omega | exact Or.inl rfl | exact Or.inr rfl)
  refine j_ltl4 (fun L12 eL12 => ?_)
  have hL12 : ∀ (n12 : Nat) (C : Cst) (i1 : Nat) (x2 : Int32) (x3 : Int32) (hIC : IM C) (hi1 : i1 < 2) (h0 : 0 ≤ x3.toInt) (h1 : x3.toInt ≤ (C 8 0).toInt) (h3 : (C 8 0).toInt ≤ x3.toInt + 3) (hB : (C 8 0).toInt ≤ 200) (hfu : (4 : Int) ≤ (C 8 0).toInt - x3.toInt + n12), J p l e (rml 2) s m args below meth c 5 D (va_A ws0 s.heap.size) 0 0 (KI below args s D (tyl cI cH cO) ws0 (fun C9 => (wM cI h ar C9))) (L12 n12 C i1 x2 x3) ((wM cI h ar C)) 12 [(0, .ref h), (1, .int (nI i1)), (2, .int x2), (3, .int x3)] [] := by
    intro n12
    induction n12 with
    | zero =>
      intro C i1 x2 x3 hIC hi1 h0 h1 h3 hB hfu
      exact absurd hfu (by omega)
    | succ n12 ih12 =>
      intro C i1 x2 x3 hIC hi1 h0 h1 h3 hB hfu
      rw [eL12]
      refine j_aload_n X (pc' := 13) 0 dX5_number_12 rfl rfl rfl ?_
      refine j_bipush X (v := 48) (pc' := 15) dX5_number_13 (by decide) rfl ?_
      refine j_bipush X (v := 57) (pc' := 17) dX5_number_15 (by decide) rfl ?_
      refine j_callVi X (pc' := 20) (As := [.int 48, .int 57]) (rest := []) (c_X5_isAt l D cI cH cO h ar C 48 57 hIC (by omega)) wv_X5_109 ⟨0, 5, _, _, rfl, rfl, rfl⟩ ⟨by decide, by decide, by decide, by decide⟩ rfl rfl (Nat.le_of_ble_eq_true rfl) dX5_number_17 rfl ?_
      refine j_topL (fun r_17 er_17 => ?_)
      refine j_if_eq X (tgt := 74) (pc' := 23) dX5_number_20 (by decide) rfl (fun c_20 => ?_) (fun c_20 => ?_)
      · refine j_lv [0, 2, 3] (lv' := [(0, .ref h), (2, .int x2), (3, .int x3)]) rfl ?_
        exact hK74 _ _ _ hIC (by first | assumption | omega | exact Or.inl rfl | exact Or.inr rfl) (by first | assumption | omega | exact Or.inl rfl | exact Or.inr rfl) (by first | assumption | omega | exact Or.inl rfl | exact Or.inr rfl)
      · have hx := vp_in_iff.mp (isAt_in er_17 c_20 (by omega) hIC)
        refine j_aload_n X (pc' := 24) 0 dX5_number_23 rfl rfl rfl ?_
        refine j_get X inX5 rfl (pc' := 27) 0 8 q_fl_X5_106 (by decide) rfl rfl dX5_number_24 rfl ?_
        refine j_iload_n X (pc' := 28) 3 dX5_number_27 rfl rfl rfl ?_
        refine j_isub X (pc' := 29) dX5_number_28 rfl ?_
        refine j_iconst X (v := 3) (pc' := 30) dX5_number_29 (by decide) rfl ?_
        refine j_icmp_ge X (tgt := 74) (pc' := 33) dX5_number_30 (by decide) rfl (fun c_30 => ?_) (fun c_30 => ?_)
        · refine j_lv [0, 2, 3] (lv' := [(0, .ref h), (2, .int x2), (3, .int x3)]) rfl ?_
          exact hK74 _ _ _ hIC (by first | assumption | omega | exact Or.inl rfl | exact Or.inr rfl) (by first | assumption | omega | exact Or.inl rfl | exact Or.inr rfl) (by first | assumption | omega | exact Or.inl rfl | exact Or.inr rfl)
        · have h30 := sub3 h0 h1 c_30
          refine j_aload_n X (pc' := 34) 0 dX5_number_33 rfl rfl rfl ?_
          refine j_get X inX5 rfl (pc' := 37) 0 11 q_fl_X5_25 (by decide) rfl rfl dX5_number_34 rfl ?_
          refine j_iload_n X (pc' := 38) 1 dX5_number_37 rfl rfl rfl ?_
          refine j_bipush X (v := 10) (pc' := 40) dX5_number_38 (by decide) rfl ?_
          refine j_aload_n X (pc' := 41) 0 dX5_number_40 rfl rfl rfl ?_
          refine j_get X inX5 rfl (pc' := 44) 0 11 q_fl_X5_25 (by decide) rfl rfl dX5_number_41 rfl ?_
          refine j_iload_n X (pc' := 45) 1 dX5_number_44 rfl rfl rfl ?_
          refine j_ialdN X (i := i1) (pc' := 46) 6 rfl (by omega) (by decide) dX5_number_45 rfl ?_
          refine j_imul X (pc' := 47) dX5_number_46 rfl ?_
          refine j_aload_n X (pc' := 48) 0 dX5_number_47 rfl rfl rfl ?_
          refine j_get X inX5 rfl (pc' := 51) 0 5 q_fl_X5_19 (by decide) rfl rfl dX5_number_48 rfl ?_
          refine j_aload_n X (pc' := 52) 0 dX5_number_51 rfl rfl rfl ?_
          refine j_get X inX5 rfl (pc' := 55) 0 8 q_fl_X5_106 (by decide) rfl rfl dX5_number_52 rfl ?_
          refine j_iald X (pc' := 56) 4 rfl (show vp_in (C 8 0) 60 from vp_in_iff.mpr hx) dX5_number_55 rfl ?_
          refine j_iadd X (pc' := 57) dX5_number_56 rfl ?_
          refine j_bipush X (v := 48) (pc' := 59) dX5_number_57 (by decide) rfl ?_
          refine j_isub X (pc' := 60) dX5_number_59 rfl ?_
          refine j_iastN X (i := i1) (pc' := 61) (S := up C 11 i1 (((10 * (C 11 i1)) + (C 5 (C 8 0).toNatClampNeg)) - 48)) (fun S_60 => (wM cI h ar S_60)) 6 rfl rfl (by omega) (by decide) dX5_number_60 rfl (fun S_60 eS_60 => ?_)
          have hIS_60 : IM S_60 := by rw [eS_60]; exact IM_k (by decide) (by decide) (by decide) hIC
          refine j_aload_n X (pc' := 62) 0 dX5_number_61 rfl rfl rfl ?_
          refine j_dup X (pc' := 63) dX5_number_62 rfl rfl ?_
          refine j_get X inX5 rfl (pc' := 66) 0 8 q_fl_X5_106 (by decide) rfl rfl dX5_number_63 rfl ?_
          refine j_iconst X (v := 1) (pc' := 67) dX5_number_66 (by decide) rfl ?_
          refine j_iadd X (pc' := 68) dX5_number_67 rfl ?_
          refine j_put X inX5 rfl (pc' := 71) tyX5_ok nmX5 (S := up S_60 8 0 ((S_60 8 0) + 1)) (fun S_68 => (wM cI h ar S_68)) 0 8 q_fl_X5_106 (by decide) rfl rfl rfl rfl (Nat.le_of_ble_eq_true rfl) rfl dX5_number_68 rfl (fun S_68 eS_68 => ?_)
          have hIS_68 : IM S_68 := by rw [eS_68]; exact IM_k (by decide) (by decide) (by decide) hIS_60
          have hs68 : (S_68 8 0).toInt = (C 8 0).toInt + 1 := by rw [eS_68, up_s, eS_60]; exact i32_inc (x := C 8 0) (a := 0) (b := 60) hx.1 (Int.le_of_lt hx.2)
          refine j_goto X (pc' := 12) dX5_number_71 (by decide) ?_
          refine j_lv [0, 1, 2, 3] (lv' := [(0, .ref h), (1, .int (nI i1)), (2, .int x2), (3, .int x3)]) rfl ?_
          exact ih12 _ _ _ _ hIS_68 (by first | assumption | omega | exact Or.inl rfl | exact Or.inr rfl) (by first | assumption | omega | exact Or.inl rfl | exact Or.inr rfl) (by first | assumption | omega | exact Or.inl rfl | exact Or.inr rfl) (by first | assumption | omega | exact Or.inl rfl | exact Or.inr rfl) (by first | assumption | omega | exact Or.inl rfl | exact Or.inr rfl) (by first | assumption | omega | exact Or.inl rfl | exact Or.inr rfl)
  refine j_aload_n X (pc' := 1) 0 dX5_number_0 rfl rfl rfl ?_
  refine j_get X inX5 rfl (pc' := 4) 0 8 q_fl_X5_106 (by decide) rfl rfl dX5_number_1 rfl ?_
  refine j_istore_nL X (fun v3_4 => [(0, .ref h), (1, .int (nI i1)), (2, .int x2), (3, .int v3_4)]) [1, 2, 3, 0] (pc' := 5) dX5_number_4 rfl (by decide) (fun _ => rfl) rfl (fun v3_4 ev3_4 => ?_)
  refine j_aload_n X (pc' := 6) 0 dX5_number_5 rfl rfl rfl ?_
  refine j_get X inX5 rfl (pc' := 9) 0 11 q_fl_X5_25 (by decide) rfl rfl dX5_number_6 rfl ?_
  refine j_iload_n X (pc' := 10) 1 dX5_number_9 rfl rfl rfl ?_
  refine j_iconst X (v := 0) (pc' := 11) dX5_number_10 (by decide) rfl ?_
  refine j_iastN X (i := i1) (pc' := 12) (S := up C 11 i1 0) (fun S_11 => (wM cI h ar S_11)) 6 rfl rfl (by omega) (by decide) dX5_number_11 rfl (fun S_11 eS_11 => ?_)
  have hIS_11 : IM S_11 := by rw [eS_11]; exact IM_k (by decide) (by decide) (by decide) hIC
  have hs11 : (S_11 8 0).toInt = (C 8 0).toInt := by rw [eS_11]; rfl
  have hv3 : v3_4.toInt = (C 8 0).toInt := by rw [ev3_4]
  refine j_lv [0, 1, 2, 3] (lv' := [(0, .ref h), (1, .int (nI i1)), (2, .int x2), (3, .int v3_4)]) rfl ?_
  exact hL12 _ _ _ _ _ hIS_11 (by first | assumption | omega | exact Or.inl rfl | exact Or.inr rfl) (by first | assumption | omega | exact Or.inl rfl | exact Or.inr rfl) (by first | assumption | omega | exact Or.inl rfl | exact Or.inr rfl) (by first | assumption | omega | exact Or.inl rfl | exact Or.inr rfl) (by first | assumption | omega | exact Or.inl rfl | exact Or.inr rfl) (by first | assumption | omega | exact Or.inl rfl | exact Or.inr rfl)
theorem c_X5_number (l : Launch) (D : va_G) (cI cH cO : ClassId) (h : Nat) (ar : Nat → Nat) (C : Cst) (i1 : Nat) (x2 : Int32) (hIC : IM C) (hi1 : i1 < 2) (hsp : 0 ≤ (C 8 0).toInt) (hB : (C 8 0).toInt ≤ 200) : MI l yX5_number cX5_number 5 (some .boolean) 2 D (tyl cI cH cO) [.ref h, .int (nI i1), .int x2] ((wM cI h ar C)) (sX5_number C i1 x2).1 ((wM cI h ar ((sX5_number C i1 x2).2))) := fun sz => j_start (fun below s => (KI below [.ref h, .int (nI i1), .int x2].toArray s D (tyl cI cH cO) ((wM cI h ar C)) (fun C9 => (wM cI h ar C9)))) (sX5_number C i1 x2) (by decide +kernel) rfl (Nat.le_of_ble_eq_true rfl) (fun below s hs _ => by subst hs; rfl) (fun p e s m below meth c hX9 X => b_X5_number h ar C i1 x2 hIC hi1 hsp hB X)
