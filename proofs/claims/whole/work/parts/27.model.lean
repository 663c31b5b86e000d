set_option maxHeartbeats 4000000 in
set_option maxRecDepth 100000 in
theorem b_X5_bestForAll {p : Program} {l : Launch} {e : Env} {s : State} {m : MethodId} {args : Array Value} {below : List Frame} {meth : Method} {c : Code} {D : va_G} {cI cH cO : ClassId} (h : Nat) (ar : Nat → Nat) (C : Cst) (x1 : Int32) (hIC : IM C) (X : CX p s m args meth c cX5_bestForAll 9 RX5 (some .int) D (tyl cI cH cO) (va_A ((wM cI h ar C)) s.heap.size)) : J p l e (rml 1) s m args below meth c 9 D (va_A ((wM cI h ar C)) s.heap.size) 0 0 (KP below args s D (tyl cI cH cO) ((wM cI h ar C))) (sX5_bestForAll C x1) ((wM cI h ar C)) 0 [(0, .ref h), (1, .int x1)] [] := by
  unfold sX5_bestForAll
  refine j_ltv (fun K244 eK244 => ?_)
  have hK244 : ∀ (x1 : Int32) (x3 : Int32) (x4 : Int32) , J p l e (rml 1) s m args below meth c 9 D (va_A ((wM cI h ar C)) s.heap.size) 0 0 (KP below args s D (tyl cI cH cO) ((wM cI h ar C))) (K244 x1 x3 x4) ((wM cI h ar C)) 244 [(0, .ref h), (1, .int x1), (3, .int x3), (4, .int x4)] [] := by
    intro x1 x3 x4 
    rw [eK244]
    refine j_iload_n X (pc' := 245) 1 dX5_bestForAll_244 rfl rfl rfl ?_
    refine j_if_ne X (tgt := 252) (pc' := 248) dX5_bestForAll_245 (by decide) rfl (fun c_245 => ?_) (fun c_245 => ?_)
    · refine j_iload X (pc' := 254) 3 dX5_bestForAll_252 rfl rfl ?_
      refine j_aload_n X (pc' := 255) 0 dX5_bestForAll_254 rfl rfl rfl ?_
      refine j_iload_n X (pc' := 256) 2 dX5_bestForAll_255 rfl rfl rfl ?_
      refine j_callVi X (pc' := 259) (As := [.int x3]) (rest := [.int x4]) (c_X5_damage l D cI cH cO h ar C x3 hIC.2.2.1) wv_X5_50 ⟨0, 5, _, _, rfl, rfl, rfl⟩ ⟨by decide, by decide, by decide, by decide⟩ rfl rfl (Nat.le_of_ble_eq_true rfl) dX5_bestForAll_256 rfl ?_
      refine j_topL (fun r_256 er_256 => ?_)
      refine j_isub X (pc' := 260) dX5_bestForAll_259 rfl ?_
      exact j_iretP X rfl rfl dX5_bestForAll_260
    · refine j_iload_n X (pc' := 249) 2 dX5_bestForAll_248 rfl rfl rfl ?_
      refine j_goto X (pc' := 260) dX5_bestForAll_249 (by decide) ?_
      exact j_iretP X rfl rfl dX5_bestForAll_260
  refine j_ltl5 (fun L23 eL23 => ?_)
  have hL23 : ∀ (n23 : Nat) (x1 : Int32) (x2 : Int32) (x3 : Int32) (x4 : Int32) (x5 : Int32) (hg : 0 ≤ x2.toInt ∧ x2.toInt < 256) (hfu : (x5 = 0 ∧ 1 ≤ n23) ∨ (x5 = 1 ∧ (257 : Int) ≤ x2.toInt + n23)), J p l e (rml 1) s m args below meth c 9 D (va_A ((wM cI h ar C)) s.heap.size) 0 0 (KP below args s D (tyl cI cH cO) ((wM cI h ar C))) (L23 n23 x1 x2 x3 x4 x5) ((wM cI h ar C)) 23 [(0, .ref h), (1, .int x1), (2, .int x2), (3, .int x3), (4, .int x4), (5, .int x5)] [] := by
    intro n23
    induction n23 with
    | zero =>
      intro x1 x2 x3 x4 x5 hg hfu
      exact absurd hfu (by omega)
    | succ n23 ih23 =>
      intro x1 x2 x3 x4 x5 hg hfu
      rw [eL23]
      refine j_ltv (fun K239 eK239 => ?_)
      have hK239 : ∀ (x1 : Int32) (x3 : Int32) (x4 : Int32) (x5 : Int32) (t0 : Int32) (t1 : Int32) (hg1 : 0 ≤ t1.toInt ∧ t1.toInt < 256) (hf1 : (257 : Int) ≤ t1.toInt + (n23 + 1)) (hz : (x5 = 0 ∧ t0 = 0) ∨ (x5 = 1 ∧ ∃ j : Nat, j < 8 ∧ t0 = 1 <<< (nI j &&& 31) ∧ (t1 >>> (nI j &&& 31)) &&& 1 = 0)), J p l e (rml 1) s m args below meth c 9 D (va_A ((wM cI h ar C)) s.heap.size) 0 0 (KP below args s D (tyl cI cH cO) ((wM cI h ar C))) (K239 x1 x3 x4 x5 t0 t1) ((wM cI h ar C)) 239 [(0, .ref h), (1, .int x1), (3, .int x3), (4, .int x4), (5, .int x5)] [.int t0, .int t1] := by
        intro x1 x3 x4 x5 t0 t1 hg1 hf1 hz
        rw [eK239]
        refine j_ior X (pc' := 240) dX5_bestForAll_239 rfl ?_
        refine j_istore_nL X (fun v2_240 => [(0, .ref h), (1, .int x1), (2, .int v2_240), (3, .int x3), (4, .int x4), (5, .int x5)]) [1, 2, 0, 3, 4, 5] (pc' := 241) dX5_bestForAll_240 rfl (by decide) (fun _ => rfl) rfl (fun v2_240 ev2_240 => ?_)
        have hbk := bf_or ev2_240 hg1 hf1 hz
        refine j_goto X (pc' := 23) dX5_bestForAll_241 (by decide) ?_
        refine j_lv [0, 1, 2, 3, 4, 5] (lv' := [(0, .ref h), (1, .int x1), (2, .int v2_240), (3, .int x3), (4, .int x4), (5, .int x5)]) rfl ?_
        exact ih23 _ _ _ _ _ hbk.1 hbk.2
      refine j_ltv (fun K225 eK225 => ?_)
      have hK225 : ∀ (x1 : Int32) (x2 : Int32) (x3 : Int32) (x4 : Int32) (x5 : Int32) (x6 : Int32) (hg : 0 ≤ x2.toInt ∧ x2.toInt < 256) (hf23 : (257 : Int) ≤ x2.toInt + (n23 + 1)) (hq : x5 = 0 ∨ (x5 = 1 ∧ ∃ j : Nat, j < 8 ∧ x6 = nI j ∧ (x2 >>> (nI j &&& 31)) &&& 1 = 0)), J p l e (rml 1) s m args below meth c 9 D (va_A ((wM cI h ar C)) s.heap.size) 0 0 (KP below args s D (tyl cI cH cO) ((wM cI h ar C))) (K225 x1 x2 x3 x4 x5 x6) ((wM cI h ar C)) 225 [(0, .ref h), (1, .int x1), (2, .int x2), (3, .int x3), (4, .int x4), (5, .int x5), (6, .int x6)] [] := by
        intro x1 x2 x3 x4 x5 x6 hg hf23 hq
        rw [eK225]
        refine j_iload_n X (pc' := 226) 2 dX5_bestForAll_225 rfl rfl rfl ?_
        refine j_iload X (pc' := 228) 5 dX5_bestForAll_226 rfl rfl ?_
        refine j_if_eq X (tgt := 238) (pc' := 231) dX5_bestForAll_228 (by decide) rfl (fun c_228 => ?_) (fun c_228 => ?_)
        · refine j_iconst X (v := 0) (pc' := 239) dX5_bestForAll_238 (by decide) rfl ?_
          refine j_lv [0, 1, 3, 4, 5] (lv' := [(0, .ref h), (1, .int x1), (3, .int x3), (4, .int x4), (5, .int x5)]) rfl ?_
          exact hK239 _ _ _ _ _ _ (by first | assumption | omega | decide | exact Or.inl (by decide) | exact Or.inl rfl | exact Or.inr rfl | exact Or.inl ⟨rfl, by decide⟩ | exact Or.inr ⟨rfl, by decide⟩) (by first | assumption | omega | decide | exact Or.inl (by decide) | exact Or.inl rfl | exact Or.inr rfl | exact Or.inl ⟨rfl, by decide⟩ | exact Or.inr ⟨rfl, by decide⟩) (Or.inl ⟨c_228, rfl⟩)
        · refine j_iconst X (v := 1) (pc' := 232) dX5_bestForAll_231 (by decide) rfl ?_
          refine j_iload X (pc' := 234) 6 dX5_bestForAll_232 rfl rfl ?_
          refine j_ishl X (pc' := 235) dX5_bestForAll_234 rfl ?_
          refine j_goto X (pc' := 239) dX5_bestForAll_235 (by decide) ?_
          refine j_lv [0, 1, 3, 4, 5] (lv' := [(0, .ref h), (1, .int x1), (3, .int x3), (4, .int x4), (5, .int x5)]) rfl ?_
          exact hK239 _ _ _ _ _ _ (by first | assumption | omega | decide | exact Or.inl (by decide) | exact Or.inl rfl | exact Or.inr rfl | exact Or.inl ⟨rfl, by decide⟩ | exact Or.inr ⟨rfl, by decide⟩) (by first | assumption | omega | decide | exact Or.inl (by decide) | exact Or.inl rfl | exact Or.inr rfl | exact Or.inl ⟨rfl, by decide⟩ | exact Or.inr ⟨rfl, by decide⟩) (bf_hz (hq.resolve_left c_228))
      refine j_ltl7 (fun L131 eL131 => ?_)
      have hL131 : ∀ (n131 : Nat) (x1 : Int32) (x2 : Int32) (x3 : Int32) (x4 : Int32) (x5 : Int32) (x6 : Int32) (x7 : Int32) (hg : 0 ≤ x2.toInt ∧ x2.toInt < 256) (hf23 : (257 : Int) ≤ x2.toInt + (n23 + 1)) (hq : x5 = 0 ∨ (x5 = 1 ∧ ∃ j : Nat, j < 8 ∧ x6 = nI j ∧ (x2 >>> (nI j &&& 31)) &&& 1 = 0)) (h7 : 0 ≤ x7.toInt ∧ x7.toInt ≤ 20) (hfu : (x5 = 0 ∧ 1 ≤ n131) ∨ (x5 = 1 ∧ (21 : Int) ≤ x7.toInt + n131)), J p l e (rml 1) s m args below meth c 9 D (va_A ((wM cI h ar C)) s.heap.size) 0 0 (KP below args s D (tyl cI cH cO) ((wM cI h ar C))) (L131 n131 x1 x2 x3 x4 x5 x6 x7) ((wM cI h ar C)) 131 [(0, .ref h), (1, .int x1), (2, .int x2), (3, .int x3), (4, .int x4), (5, .int x5), (6, .int x6), (7, .int x7)] [] := by
        intro n131
        induction n131 with
        | zero =>
          intro x1 x2 x3 x4 x5 x6 x7 hg hf23 hq h7 hfu
          exact absurd hfu (by omega)
        | succ n131 ih131 =>
          intro x1 x2 x3 x4 x5 x6 x7 hg hf23 hq h7 hfu
          rw [eL131]
          refine j_ltv (fun K219 eK219 => ?_)
          have hK219 : ∀ (x1 : Int32) (x2 : Int32) (x3 : Int32) (x4 : Int32) (x5 : Int32) (i6 : Nat) (t0 : Int32) (t1 : Int32) (hg : 0 ≤ x2.toInt ∧ x2.toInt < 256) (hf23 : (257 : Int) ≤ x2.toInt + (n23 + 1)) (hi6 : i6 < 8) (hb6 : (x2 >>> (nI i6 &&& 31)) &&& 1 = 0) (ht : x5 = 0 ∨ x5 = 1) (h7 : 0 ≤ t1.toInt ∧ t1.toInt < 20) (hfu1 : (21 : Int) ≤ t1.toInt + (n131 + 1)) (h0 : (x5 = 0 ∧ t0 = 0) ∨ (x5 = 1 ∧ t0 = 1)), J p l e (rml 1) s m args below meth c 9 D (va_A ((wM cI h ar C)) s.heap.size) 0 0 (KP below args s D (tyl cI cH cO) ((wM cI h ar C))) (K219 x1 x2 x3 x4 x5 i6 t0 t1) ((wM cI h ar C)) 219 [(0, .ref h), (1, .int x1), (2, .int x2), (3, .int x3), (4, .int x4), (5, .int x5), (6, .int (nI i6))] [.int t0, .int t1] := by
            intro x1 x2 x3 x4 x5 i6 t0 t1 hg hf23 hi6 hb6 ht h7 hfu1 h0
            rw [eK219]
            refine j_iadd X (pc' := 220) dX5_bestForAll_219 rfl ?_
            refine j_istoreL X (fun v7_220 => [(0, .ref h), (1, .int x1), (2, .int x2), (3, .int x3), (4, .int x4), (5, .int x5), (6, .int (nI i6)), (7, .int v7_220)]) [1, 2, 3, 4, 5, 6, 7, 0] (pc' := 222) dX5_bestForAll_220  (by decide) (fun _ => rfl) rfl (fun v7_220 ev7_220 => ?_)
            have hbk := bf_bk ev7_220 h0 h7 hfu1
            refine j_goto X (pc' := 131) dX5_bestForAll_222 (by decide) ?_
            refine j_lv [0, 1, 2, 3, 4, 5, 6, 7] (lv' := [(0, .ref h), (1, .int x1), (2, .int x2), (3, .int x3), (4, .int x4), (5, .int x5), (6, .int (nI i6)), (7, .int v7_220)]) rfl ?_
            exact ih131 _ _ _ _ _ _ _ (by first | assumption | omega | decide | exact Or.inl (by decide) | exact Or.inl rfl | exact Or.inr rfl | exact Or.inl ⟨rfl, by decide⟩ | exact Or.inr ⟨rfl, by decide⟩) (by first | assumption | omega | decide | exact Or.inl (by decide) | exact Or.inl rfl | exact Or.inr rfl | exact Or.inl ⟨rfl, by decide⟩ | exact Or.inr ⟨rfl, by decide⟩) (ht.imp id (fun q => ⟨q, i6, hi6, rfl, hb6⟩)) hbk.1 hbk.2
          refine j_ltv (fun K204 eK204 => ?_)
          have hK204 : ∀ (x1 : Int32) (x2 : Int32) (x3 : Int32) (x5 : Int32) (i6 : Nat) (x7 : Int32) (t0 : Int32) (t1 : Int32) (hg : 0 ≤ x2.toInt ∧ x2.toInt < 256) (hf23 : (257 : Int) ≤ x2.toInt + (n23 + 1)) (hi6 : i6 < 8) (hb6 : (x2 >>> (nI i6 &&& 31)) &&& 1 = 0) (h7 : 0 ≤ x7.toInt ∧ x7.toInt < 20) (hfu1 : (21 : Int) ≤ x7.toInt + (n131 + 1)) (ht : x5 = 0 ∨ x5 = 1), J p l e (rml 1) s m args below meth c 9 D (va_A ((wM cI h ar C)) s.heap.size) 0 0 (KP below args s D (tyl cI cH cO) ((wM cI h ar C))) (K204 x1 x2 x3 x5 i6 x7 t0 t1) ((wM cI h ar C)) 204 [(0, .ref h), (1, .int x1), (2, .int x2), (3, .int x3), (5, .int x5), (6, .int (nI i6)), (7, .int x7)] [.int t0, .int t1] := by
            intro x1 x2 x3 x5 i6 x7 t0 t1 hg hf23 hi6 hb6 h7 hfu1 ht
            rw [eK204]
            refine j_iadd X (pc' := 205) dX5_bestForAll_204 rfl ?_
            refine j_istoreL X (fun v4_205 => [(0, .ref h), (1, .int x1), (2, .int x2), (3, .int x3), (4, .int v4_205), (5, .int x5), (6, .int (nI i6)), (7, .int x7)]) [1, 2, 3, 4, 0, 5, 6, 7] (pc' := 207) dX5_bestForAll_205  (by decide) (fun _ => rfl) rfl (fun v4_205 ev4_205 => ?_)
            refine j_iload X (pc' := 209) 7 dX5_bestForAll_207 rfl rfl ?_
            refine j_iload X (pc' := 211) 5 dX5_bestForAll_209 rfl rfl ?_
            refine j_if_eq X (tgt := 218) (pc' := 214) dX5_bestForAll_211 (by decide) rfl (fun c_211 => ?_) (fun c_211 => ?_)
            · refine j_iconst X (v := 0) (pc' := 219) dX5_bestForAll_218 (by decide) rfl ?_
              refine j_lv [0, 1, 2, 3, 4, 5, 6] (lv' := [(0, .ref h), (1, .int x1), (2, .int x2), (3, .int x3), (4, .int v4_205), (5, .int x5), (6, .int (nI i6))]) rfl ?_
              exact hK219 _ _ _ _ _ _ _ _ (by first | assumption | omega | decide | exact Or.inl (by decide) | exact Or.inl rfl | exact Or.inr rfl | exact Or.inl ⟨rfl, by decide⟩ | exact Or.inr ⟨rfl, by decide⟩) (by first | assumption | omega | decide | exact Or.inl (by decide) | exact Or.inl rfl | exact Or.inr rfl | exact Or.inl ⟨rfl, by decide⟩ | exact Or.inr ⟨rfl, by decide⟩) (by first | assumption | omega | decide | exact Or.inl (by decide) | exact Or.inl rfl | exact Or.inr rfl | exact Or.inl ⟨rfl, by decide⟩ | exact Or.inr ⟨rfl, by decide⟩) (by first | assumption | omega | decide | exact Or.inl (by decide) | exact Or.inl rfl | exact Or.inr rfl | exact Or.inl ⟨rfl, by decide⟩ | exact Or.inr ⟨rfl, by decide⟩) (by first | assumption | omega | decide | exact Or.inl (by decide) | exact Or.inl rfl | exact Or.inr rfl | exact Or.inl ⟨rfl, by decide⟩ | exact Or.inr ⟨rfl, by decide⟩) (by first | assumption | omega | decide | exact Or.inl (by decide) | exact Or.inl rfl | exact Or.inr rfl | exact Or.inl ⟨rfl, by decide⟩ | exact Or.inr ⟨rfl, by decide⟩) (by first | assumption | omega | decide | exact Or.inl (by decide) | exact Or.inl rfl | exact Or.inr rfl | exact Or.inl ⟨rfl, by decide⟩ | exact Or.inr ⟨rfl, by decide⟩) (Or.inl ⟨c_211, rfl⟩)
            · refine j_iconst X (v := 1) (pc' := 215) dX5_bestForAll_214 (by decide) rfl ?_
              refine j_goto X (pc' := 219) dX5_bestForAll_215 (by decide) ?_
              refine j_lv [0, 1, 2, 3, 4, 5, 6] (lv' := [(0, .ref h), (1, .int x1), (2, .int x2), (3, .int x3), (4, .int v4_205), (5, .int x5), (6, .int (nI i6))]) rfl ?_
              exact hK219 _ _ _ _ _ _ _ _ (by first | assumption | omega | decide | exact Or.inl (by decide) | exact Or.inl rfl | exact Or.inr rfl | exact Or.inl ⟨rfl, by decide⟩ | exact Or.inr ⟨rfl, by decide⟩) (by first | assumption | omega | decide | exact Or.inl (by decide) | exact Or.inl rfl | exact Or.inr rfl | exact Or.inl ⟨rfl, by decide⟩ | exact Or.inr ⟨rfl, by decide⟩) (by first | assumption | omega | decide | exact Or.inl (by decide) | exact Or.inl rfl | exact Or.inr rfl | exact Or.inl ⟨rfl, by decide⟩ | exact Or.inr ⟨rfl, by decide⟩) (by first | assumption | omega | decide | exact Or.inl (by decide) | exact Or.inl rfl | exact Or.inr rfl | exact Or.inl ⟨rfl, by decide⟩ | exact Or.inr ⟨rfl, by decide⟩) (by first | assumption | omega | decide | exact Or.inl (by decide) | exact Or.inl rfl | exact Or.inr rfl | exact Or.inl ⟨rfl, by decide⟩ | exact Or.inr ⟨rfl, by decide⟩) (by first | assumption | omega | decide | exact Or.inl (by decide) | exact Or.inl rfl | exact Or.inr rfl | exact Or.inl ⟨rfl, by decide⟩ | exact Or.inr ⟨rfl, by decide⟩) (by first | assumption | omega | decide | exact Or.inl (by decide) | exact Or.inl rfl | exact Or.inr rfl | exact Or.inl ⟨rfl, by decide⟩ | exact Or.inr ⟨rfl, by decide⟩) (Or.inr ⟨ht.resolve_left c_211, rfl⟩)
          refine j_ltv (fun K184 eK184 => ?_)
          have hK184 : ∀ (x1 : Int32) (x2 : Int32) (x4 : Int32) (x5 : Int32) (i6 : Nat) (x7 : Int32) (t0 : Int32) (t1 : Int32) (hg : 0 ≤ x2.toInt ∧ x2.toInt < 256) (hf23 : (257 : Int) ≤ x2.toInt + (n23 + 1)) (hi6 : i6 < 8) (hb6 : (x2 >>> (nI i6 &&& 31)) &&& 1 = 0) (h7 : 0 ≤ x7.toInt ∧ x7.toInt < 20) (hfu1 : (21 : Int) ≤ x7.toInt + (n131 + 1)) (ht : x5 = 0 ∨ x5 = 1), J p l e (rml 1) s m args below meth c 9 D (va_A ((wM cI h ar C)) s.heap.size) 0 0 (KP below args s D (tyl cI cH cO) ((wM cI h ar C))) (K184 x1 x2 x4 x5 i6 x7 t0 t1) ((wM cI h ar C)) 184 [(0, .ref h), (1, .int x1), (2, .int x2), (4, .int x4), (5, .int x5), (6, .int (nI i6)), (7, .int x7)] [.int t0, .int t1] := by
            intro x1 x2 x4 x5 i6 x7 t0 t1 hg hf23 hi6 hb6 h7 hfu1 ht
            rw [eK184]
            refine j_iadd X (pc' := 185) dX5_bestForAll_184 rfl ?_
            refine j_istore_nL X (fun v3_185 => [(0, .ref h), (1, .int x1), (2, .int x2), (3, .int v3_185), (4, .int x4), (5, .int x5), (6, .int (nI i6)), (7, .int x7)]) [1, 2, 3, 0, 4, 5, 6, 7] (pc' := 186) dX5_bestForAll_185 rfl (by decide) (fun _ => rfl) rfl (fun v3_185 ev3_185 => ?_)
            refine j_iload X (pc' := 188) 4 dX5_bestForAll_186 rfl rfl ?_
            refine j_iload X (pc' := 190) 5 dX5_bestForAll_188 rfl rfl ?_
            refine j_if_eq X (tgt := 203) (pc' := 193) dX5_bestForAll_190 (by decide) rfl (fun c_190 => ?_) (fun c_190 => ?_)
            · refine j_iconst X (v := 0) (pc' := 204) dX5_bestForAll_203 (by decide) rfl ?_
              refine j_lv [0, 1, 2, 3, 5, 6, 7] (lv' := [(0, .ref h), (1, .int x1), (2, .int x2), (3, .int v3_185), (5, .int x5), (6, .int (nI i6)), (7, .int x7)]) rfl ?_
              exact hK204 _ _ _ _ _ _ _ _ (by first | assumption | omega | decide | exact Or.inl (by decide) | exact Or.inl rfl | exact Or.inr rfl | exact Or.inl ⟨rfl, by decide⟩ | exact Or.inr ⟨rfl, by decide⟩) (by first | assumption | omega | decide | exact Or.inl (by decide) | exact Or.inl rfl | exact Or.inr rfl | exact Or.inl ⟨rfl, by decide⟩ | exact Or.inr ⟨rfl, by decide⟩) (by first | assumption | omega | decide | exact Or.inl (by decide) | exact Or.inl rfl | exact Or.inr rfl | exact Or.inl ⟨rfl, by decide⟩ | exact Or.inr ⟨rfl, by decide⟩) (by first | assumption | omega | decide | exact Or.inl (by decide) | exact Or.inl rfl | exact Or.inr rfl | exact Or.inl ⟨rfl, by decide⟩ | exact Or.inr ⟨rfl, by decide⟩) (by first | assumption | omega | decide | exact Or.inl (by decide) | exact Or.inl rfl | exact Or.inr rfl | exact Or.inl ⟨rfl, by decide⟩ | exact Or.inr ⟨rfl, by decide⟩) (by first | assumption | omega | decide | exact Or.inl (by decide) | exact Or.inl rfl | exact Or.inr rfl | exact Or.inl ⟨rfl, by decide⟩ | exact Or.inr ⟨rfl, by decide⟩) (by first | assumption | omega | decide | exact Or.inl (by decide) | exact Or.inl rfl | exact Or.inr rfl | exact Or.inl ⟨rfl, by decide⟩ | exact Or.inr ⟨rfl, by decide⟩)
            · refine j_aload_n X (pc' := 194) 0 dX5_bestForAll_193 rfl rfl rfl ?_
              refine j_iload X (pc' := 196) 6 dX5_bestForAll_194 rfl rfl ?_
              refine j_iconst X (v := 0) (pc' := 197) dX5_bestForAll_196 (by decide) rfl ?_
              refine j_callVi X (pc' := 200) (As := [.int (nI i6), .int 0]) (rest := [.int x4]) (c_X5_of l D cI cH cO h ar C i6 0 (by first | assumption | omega | decide | exact Or.inl (by decide) | exact Or.inl rfl | exact Or.inr rfl | exact Or.inl ⟨rfl, by decide⟩ | exact Or.inr ⟨rfl, by decide⟩) (by first | assumption | omega | decide | exact Or.inl (by decide) | exact Or.inl rfl | exact Or.inr rfl | exact Or.inl ⟨rfl, by decide⟩ | exact Or.inr ⟨rfl, by decide⟩)) wv_X5_39 ⟨0, 5, _, _, rfl, rfl, rfl⟩ ⟨by decide, by decide, by decide, by decide⟩ rfl rfl (Nat.le_of_ble_eq_true rfl) dX5_bestForAll_197 rfl ?_
              refine j_topL (fun r_197 er_197 => ?_)
              refine j_goto X (pc' := 204) dX5_bestForAll_200 (by decide) ?_
              refine j_lv [0, 1, 2, 3, 5, 6, 7] (lv' := [(0, .ref h), (1, .int x1), (2, .int x2), (3, .int v3_185), (5, .int x5), (6, .int (nI i6)), (7, .int x7)]) rfl ?_
              exact hK204 _ _ _ _ _ _ _ _ (by first | assumption | omega | decide | exact Or.inl (by decide) | exact Or.inl rfl | exact Or.inr rfl | exact Or.inl ⟨rfl, by decide⟩ | exact Or.inr ⟨rfl, by decide⟩) (by first | assumption | omega | decide | exact Or.inl (by decide) | exact Or.inl rfl | exact Or.inr rfl | exact Or.inl ⟨rfl, by decide⟩ | exact Or.inr ⟨rfl, by decide⟩) (by first | assumption | omega | decide | exact Or.inl (by decide) | exact Or.inl rfl | exact Or.inr rfl | exact Or.inl ⟨rfl, by decide⟩ | exact Or.inr ⟨rfl, by decide⟩) (by first | assumption | omega | decide | exact Or.inl (by decide) | exact Or.inl rfl | exact Or.inr rfl | exact Or.inl ⟨rfl, by decide⟩ | exact Or.inr ⟨rfl, by decide⟩) (by first | assumption | omega | decide | exact Or.inl (by decide) | exact Or.inl rfl | exact Or.inr rfl | exact Or.inl ⟨rfl, by decide⟩ | exact Or.inr ⟨rfl, by decide⟩) (by first | assumption | omega | decide | exact Or.inl (by decide) | exact Or.inl rfl | exact Or.inr rfl | exact Or.inl ⟨rfl, by decide⟩ | exact Or.inr ⟨rfl, by decide⟩) (by first | assumption | omega | decide | exact Or.inl (by decide) | exact Or.inl rfl | exact Or.inr rfl | exact Or.inl ⟨rfl, by decide⟩ | exact Or.inr ⟨rfl, by decide⟩)
          refine j_ltv (fun K171 eK171 => ?_)
          have hK171 : ∀ (x1 : Int32) (x2 : Int32) (x3 : Int32) (x4 : Int32) (i6 : Nat) (x7 : Int32) (t0 : Int32) (hg : 0 ≤ x2.toInt ∧ x2.toInt < 256) (hf23 : (257 : Int) ≤ x2.toInt + (n23 + 1)) (hi6 : i6 < 8) (hb6 : (x2 >>> (nI i6 &&& 31)) &&& 1 = 0) (h7 : 0 ≤ x7.toInt ∧ x7.toInt < 20) (hfu1 : (21 : Int) ≤ x7.toInt + (n131 + 1)) (ht0 : t0 = 0 ∨ t0 = 1), J p l e (rml 1) s m args below meth c 9 D (va_A ((wM cI h ar C)) s.heap.size) 0 0 (KP below args s D (tyl cI cH cO) ((wM cI h ar C))) (K171 x1 x2 x3 x4 i6 x7 t0) ((wM cI h ar C)) 171 [(0, .ref h), (1, .int x1), (2, .int x2), (3, .int x3), (4, .int x4), (6, .int (nI i6)), (7, .int x7)] [.int t0] := by
            intro x1 x2 x3 x4 i6 x7 t0 hg hf23 hi6 hb6 h7 hfu1 ht0
            rw [eK171]
            refine j_istore X (lv' := [(0, .ref h), (1, .int x1), (2, .int x2), (3, .int x3), (4, .int x4), (5, .int t0), (6, .int (nI i6)), (7, .int x7)]) (pc' := 173) [1, 2, 3, 4, 5, 0, 6, 7] dX5_bestForAll_171 (by decide) rfl rfl ?_
            refine j_iload_n X (pc' := 174) 3 dX5_bestForAll_173 rfl rfl rfl ?_
            refine j_iload X (pc' := 176) 5 dX5_bestForAll_174 rfl rfl ?_
            refine j_if_eq X (tgt := 183) (pc' := 179) dX5_bestForAll_176 (by decide) rfl (fun c_176 => ?_) (fun c_176 => ?_)
            · refine j_iconst X (v := 0) (pc' := 184) dX5_bestForAll_183 (by decide) rfl ?_
              refine j_lv [0, 1, 2, 4, 5, 6, 7] (lv' := [(0, .ref h), (1, .int x1), (2, .int x2), (4, .int x4), (5, .int t0), (6, .int (nI i6)), (7, .int x7)]) rfl ?_
              exact hK184 _ _ _ _ _ _ _ _ (by first | assumption | omega | decide | exact Or.inl (by decide) | exact Or.inl rfl | exact Or.inr rfl | exact Or.inl ⟨rfl, by decide⟩ | exact Or.inr ⟨rfl, by decide⟩) (by first | assumption | omega | decide | exact Or.inl (by decide) | exact Or.inl rfl | exact Or.inr rfl | exact Or.inl ⟨rfl, by decide⟩ | exact Or.inr ⟨rfl, by decide⟩) (by first | assumption | omega | decide | exact Or.inl (by decide) | exact Or.inl rfl | exact Or.inr rfl | exact Or.inl ⟨rfl, by decide⟩ | exact Or.inr ⟨rfl, by decide⟩) (by first | assumption | omega | decide | exact Or.inl (by decide) | exact Or.inl rfl | exact Or.inr rfl | exact Or.inl ⟨rfl, by decide⟩ | exact Or.inr ⟨rfl, by decide⟩) (by first | assumption | omega | decide | exact Or.inl (by decide) | exact Or.inl rfl | exact Or.inr rfl | exact Or.inl ⟨rfl, by decide⟩ | exact Or.inr ⟨rfl, by decide⟩) (by first | assumption | omega | decide | exact Or.inl (by decide) | exact Or.inl rfl | exact Or.inr rfl | exact Or.inl ⟨rfl, by decide⟩ | exact Or.inr ⟨rfl, by decide⟩) (by first | assumption | omega | decide | exact Or.inl (by decide) | exact Or.inl rfl | exact Or.inr rfl | exact Or.inl ⟨rfl, by decide⟩ | exact Or.inr ⟨rfl, by decide⟩)
            · refine j_iconst X (v := 1) (pc' := 180) dX5_bestForAll_179 (by decide) rfl ?_
              refine j_goto X (pc' := 184) dX5_bestForAll_180 (by decide) ?_
              refine j_lv [0, 1, 2, 4, 5, 6, 7] (lv' := [(0, .ref h), (1, .int x1), (2, .int x2), (4, .int x4), (5, .int t0), (6, .int (nI i6)), (7, .int x7)]) rfl ?_
              exact hK184 _ _ _ _ _ _ _ _ (by first | assumption | omega | decide | exact Or.inl (by decide) | exact Or.inl rfl | exact Or.inr rfl | exact Or.inl ⟨rfl, by decide⟩ | exact Or.inr ⟨rfl, by decide⟩) (by first | assumption | omega | decide | exact Or.inl (by decide) | exact Or.inl rfl | exact Or.inr rfl | exact Or.inl ⟨rfl, by decide⟩ | exact Or.inr ⟨rfl, by decide⟩) (by first | assumption | omega | decide | exact Or.inl (by decide) | exact Or.inl rfl | exact Or.inr rfl | exact Or.inl ⟨rfl, by decide⟩ | exact Or.inr ⟨rfl, by decide⟩) (by first | assumption | omega | decide | exact Or.inl (by decide) | exact Or.inl rfl | exact Or.inr rfl | exact Or.inl ⟨rfl, by decide⟩ | exact Or.inr ⟨rfl, by decide⟩) (by first | assumption | omega | decide | exact Or.inl (by decide) | exact Or.inl rfl | exact Or.inr rfl | exact Or.inl ⟨rfl, by decide⟩ | exact Or.inr ⟨rfl, by decide⟩) (by first | assumption | omega | decide | exact Or.inl (by decide) | exact Or.inl rfl | exact Or.inr rfl | exact Or.inl ⟨rfl, by decide⟩ | exact Or.inr ⟨rfl, by decide⟩) (by first | assumption | omega | decide | exact Or.inl (by decide) | exact Or.inl rfl | exact Or.inr rfl | exact Or.inl ⟨rfl, by decide⟩ | exact Or.inr ⟨rfl, by decide⟩)
          refine j_ltv (fun K143 eK143 => ?_)
          have hK143 : ∀ (x1 : Int32) (x2 : Int32) (x3 : Int32) (x4 : Int32) (i6 : Nat) (x7 : Int32) (hg : 0 ≤ x2.toInt ∧ x2.toInt < 256) (hf23 : (257 : Int) ≤ x2.toInt + (n23 + 1)) (hi6 : i6 < 8) (hb6 : (x2 >>> (nI i6 &&& 31)) &&& 1 = 0) (h7 : 0 ≤ x7.toInt ∧ x7.toInt < 20) (hfu1 : (21 : Int) ≤ x7.toInt + (n131 + 1)), J p l e (rml 1) s m args below meth c 9 D (va_A ((wM cI h ar C)) s.heap.size) 0 0 (KP below args s D (tyl cI cH cO) ((wM cI h ar C))) (K143 x1 x2 x3 x4 i6 x7) ((wM cI h ar C)) 143 [(0, .ref h), (1, .int x1), (2, .int x2), (3, .int x3), (4, .int x4), (6, .int (nI i6)), (7, .int x7)] [] := by
            intro x1 x2 x3 x4 i6 x7 hg hf23 hi6 hb6 h7 hfu1
            rw [eK143]
            refine j_aload_n X (pc' := 144) 0 dX5_bestForAll_143 rfl rfl rfl ?_
            refine j_iload X (pc' := 146) 5 dX5_bestForAll_144 rfl rfl ?_
            refine j_iconst X (v := 0) (pc' := 147) dX5_bestForAll_146 (by decide) rfl ?_
            refine j_callVi X (pc' := 150) (As := [.int (nI i6), .int 0]) (rest := []) (c_X5_of l D cI cH cO h ar C i6 0 (by first | assumption | omega | decide | exact Or.inl (by decide) | exact Or.inl rfl | exact Or.inr rfl | exact Or.inl ⟨rfl, by decide⟩ | exact Or.inr ⟨rfl, by decide⟩) (by first | assumption | omega | decide | exact Or.inl (by decide) | exact Or.inl rfl | exact Or.inr rfl | exact Or.inl ⟨rfl, by decide⟩ | exact Or.inr ⟨rfl, by decide⟩)) wv_X5_39 ⟨0, 5, _, _, rfl, rfl, rfl⟩ ⟨by decide, by decide, by decide, by decide⟩ rfl rfl (Nat.le_of_ble_eq_true rfl) dX5_bestForAll_147 rfl ?_
            refine j_topL (fun r_147 er_147 => ?_)
            refine j_aload_n X (pc' := 151) 0 dX5_bestForAll_150 rfl rfl rfl ?_
            refine j_iload_n X (pc' := 152) 3 dX5_bestForAll_151 rfl rfl rfl ?_
            refine j_iconst X (v := 1) (pc' := 153) dX5_bestForAll_152 (by decide) rfl ?_
            refine j_iadd X (pc' := 154) dX5_bestForAll_153 rfl ?_
            refine j_callVi X (pc' := 157) (As := [.int (x3 + 1)]) (rest := [.int r_147]) (c_X5_damage l D cI cH cO h ar C (x3 + 1) hIC.2.2.1) wv_X5_50 ⟨0, 5, _, _, rfl, rfl, rfl⟩ ⟨by decide, by decide, by decide, by decide⟩ rfl rfl (Nat.le_of_ble_eq_true rfl) dX5_bestForAll_154 rfl ?_
            refine j_topL (fun r_154 er_154 => ?_)
            refine j_aload_n X (pc' := 158) 0 dX5_bestForAll_157 rfl rfl rfl ?_
            refine j_iload_n X (pc' := 159) 3 dX5_bestForAll_158 rfl rfl rfl ?_
            refine j_callVi X (pc' := 162) (As := [.int x3]) (rest := [.int r_154, .int r_147]) (c_X5_damage l D cI cH cO h ar C x3 hIC.2.2.1) wv_X5_50 ⟨0, 5, _, _, rfl, rfl, rfl⟩ ⟨by decide, by decide, by decide, by decide⟩ rfl rfl (Nat.le_of_ble_eq_true rfl) dX5_bestForAll_159 rfl ?_
            refine j_topL (fun r_159 er_159 => ?_)
            refine j_isub X (pc' := 163) dX5_bestForAll_162 rfl ?_
            refine j_icmp_le X (tgt := 170) (pc' := 166) dX5_bestForAll_163 (by decide) rfl (fun c_163 => ?_) (fun c_163 => ?_)
            · refine j_iconst X (v := 0) (pc' := 171) dX5_bestForAll_170 (by decide) rfl ?_
              refine j_lv [0, 1, 2, 3, 4, 5, 6] (lv' := [(0, .ref h), (1, .int x1), (2, .int x2), (3, .int x3), (4, .int x4), (6, .int (nI i6)), (7, .int x7)]) rfl ?_
              exact hK171 _ _ _ _ _ _ _ (by first | assumption | omega | decide | exact Or.inl (by decide) | exact Or.inl rfl | exact Or.inr rfl | exact Or.inl ⟨rfl, by decide⟩ | exact Or.inr ⟨rfl, by decide⟩) (by first | assumption | omega | decide | exact Or.inl (by decide) | exact Or.inl rfl | exact Or.inr rfl | exact Or.inl ⟨rfl, by decide⟩ | exact Or.inr ⟨rfl, by decide⟩) (by first | assumption | omega | decide | exact Or.inl (by decide) | exact Or.inl rfl | exact Or.inr rfl | exact Or.inl ⟨rfl, by decide⟩ | exact Or.inr ⟨rfl, by decide⟩) (by first | assumption | omega | decide | exact Or.inl (by decide) | exact Or.inl rfl | exact Or.inr rfl | exact Or.inl ⟨rfl, by decide⟩ | exact Or.inr ⟨rfl, by decide⟩) (by first | assumption | omega | decide | exact Or.inl (by decide) | exact Or.inl rfl | exact Or.inr rfl | exact Or.inl ⟨rfl, by decide⟩ | exact Or.inr ⟨rfl, by decide⟩) (by first | assumption | omega | decide | exact Or.inl (by decide) | exact Or.inl rfl | exact Or.inr rfl | exact Or.inl ⟨rfl, by decide⟩ | exact Or.inr ⟨rfl, by decide⟩) (by first | assumption | omega | decide | exact Or.inl (by decide) | exact Or.inl rfl | exact Or.inr rfl | exact Or.inl ⟨rfl, by decide⟩ | exact Or.inr ⟨rfl, by decide⟩)
            · refine j_iconst X (v := 1) (pc' := 167) dX5_bestForAll_166 (by decide) rfl ?_
              refine j_goto X (pc' := 171) dX5_bestForAll_167 (by decide) ?_
              refine j_lv [0, 1, 2, 3, 4, 5, 6] (lv' := [(0, .ref h), (1, .int x1), (2, .int x2), (3, .int x3), (4, .int x4), (6, .int (nI i6)), (7, .int x7)]) rfl ?_
              exact hK171 _ _ _ _ _ _ _ (by first | assumption | omega | decide | exact Or.inl (by decide) | exact Or.inl rfl | exact Or.inr rfl | exact Or.inl ⟨rfl, by decide⟩ | exact Or.inr ⟨rfl, by decide⟩) (by first | assumption | omega | decide | exact Or.inl (by decide) | exact Or.inl rfl | exact Or.inr rfl | exact Or.inl ⟨rfl, by decide⟩ | exact Or.inr ⟨rfl, by decide⟩) (by first | assumption | omega | decide | exact Or.inl (by decide) | exact Or.inl rfl | exact Or.inr rfl | exact Or.inl ⟨rfl, by decide⟩ | exact Or.inr ⟨rfl, by decide⟩) (by first | assumption | omega | decide | exact Or.inl (by decide) | exact Or.inl rfl | exact Or.inr rfl | exact Or.inl ⟨rfl, by decide⟩ | exact Or.inr ⟨rfl, by decide⟩) (by first | assumption | omega | decide | exact Or.inl (by decide) | exact Or.inl rfl | exact Or.inr rfl | exact Or.inl ⟨rfl, by decide⟩ | exact Or.inr ⟨rfl, by decide⟩) (by first | assumption | omega | decide | exact Or.inl (by decide) | exact Or.inl rfl | exact Or.inr rfl | exact Or.inl ⟨rfl, by decide⟩ | exact Or.inr ⟨rfl, by decide⟩) (by first | assumption | omega | decide | exact Or.inl (by decide) | exact Or.inl rfl | exact Or.inr rfl | exact Or.inl ⟨rfl, by decide⟩ | exact Or.inr ⟨rfl, by decide⟩)
          refine j_iload X (pc' := 133) 5 dX5_bestForAll_131 rfl rfl ?_
          refine j_if_eq X (tgt := 225) (pc' := 136) dX5_bestForAll_133 (by decide) rfl (fun c_133 => ?_) (fun c_133 => ?_)
          · refine j_lv [0, 1, 2, 3, 4, 5, 6] (lv' := [(0, .ref h), (1, .int x1), (2, .int x2), (3, .int x3), (4, .int x4), (5, .int x5), (6, .int x6)]) rfl ?_
            exact hK225 _ _ _ _ _ _ (by first | assumption | omega | decide | exact Or.inl (by decide) | exact Or.inl rfl | exact Or.inr rfl | exact Or.inl ⟨rfl, by decide⟩ | exact Or.inr ⟨rfl, by decide⟩) (by first | assumption | omega | decide | exact Or.inl (by decide) | exact Or.inl rfl | exact Or.inr rfl | exact Or.inl ⟨rfl, by decide⟩ | exact Or.inr ⟨rfl, by decide⟩) (by first | assumption | omega | decide | exact Or.inl (by decide) | exact Or.inl rfl | exact Or.inr rfl | exact Or.inl ⟨rfl, by decide⟩ | exact Or.inr ⟨rfl, by decide⟩)
          · have hfu1 : (21 : Int) ≤ x7.toInt + (n131 + 1) := by have h9 := (hfu.resolve_left (fun q => c_133 q.1)).2; omega
            refine j_iload X (pc' := 138) 7 dX5_bestForAll_136 rfl rfl ?_
            refine j_bipush X (v := 20) (pc' := 140) dX5_bestForAll_138 (by decide) rfl ?_
            refine j_icmp_ge X (tgt := 225) (pc' := 143) dX5_bestForAll_140 (by decide) rfl (fun c_140 => ?_) (fun c_140 => ?_)
            · refine j_lv [0, 1, 2, 3, 4, 5, 6] (lv' := [(0, .ref h), (1, .int x1), (2, .int x2), (3, .int x3), (4, .int x4), (5, .int x5), (6, .int x6)]) rfl ?_
              exact hK225 _ _ _ _ _ _ (by first | assumption | omega | decide | exact Or.inl (by decide) | exact Or.inl rfl | exact Or.inr rfl | exact Or.inl ⟨rfl, by decide⟩ | exact Or.inr ⟨rfl, by decide⟩) (by first | assumption | omega | decide | exact Or.inl (by decide) | exact Or.inl rfl | exact Or.inr rfl | exact Or.inl ⟨rfl, by decide⟩ | exact Or.inr ⟨rfl, by decide⟩) (by first | assumption | omega | decide | exact Or.inl (by decide) | exact Or.inl rfl | exact Or.inr rfl | exact Or.inl ⟨rfl, by decide⟩ | exact Or.inr ⟨rfl, by decide⟩)
            · have h7b : x7.toInt < 20 := i32_ltN (N := 20) (by decide) c_140
              obtain ⟨j_140, hj_140, ej_140⟩ : ∃ j : Nat, j < 8 ∧ x6 = nI j := bf_j (hq.resolve_left c_133).2
              subst ej_140
              rw [nI_clamp (show j_140 < 2 ^ 31 by omega)]
              refine j_lv [0, 1, 2, 3, 4, 6, 7] (lv' := _) rfl ?_
              exact hK143 _ _ _ _ _ _ (by first | assumption | omega | decide | exact Or.inl (by decide) | exact Or.inl rfl | exact Or.inr rfl | exact Or.inl ⟨rfl, by decide⟩ | exact Or.inr ⟨rfl, by decide⟩) (by first | assumption | omega | decide | exact Or.inl (by decide) | exact Or.inl rfl | exact Or.inr rfl | exact Or.inl ⟨rfl, by decide⟩ | exact Or.inr ⟨rfl, by decide⟩) (by first | assumption | omega | decide | exact Or.inl (by decide) | exact Or.inl rfl | exact Or.inr rfl | exact Or.inl ⟨rfl, by decide⟩ | exact Or.inr ⟨rfl, by decide⟩) (bf_bit (by assumption) (Or.inr (hq.resolve_left c_133).2)) ⟨h7.1, h7b⟩ (by first | assumption | omega | decide | exact Or.inl (by decide) | exact Or.inl rfl | exact Or.inr rfl | exact Or.inl ⟨rfl, by decide⟩ | exact Or.inr ⟨rfl, by decide⟩)
      refine j_ltv (fun K126 eK126 => ?_)
      have hK126 : ∀ (x1 : Int32) (x2 : Int32) (x3 : Int32) (x4 : Int32) (x6 : Int32) (t0 : Int32) (hg : 0 ≤ x2.toInt ∧ x2.toInt < 256) (hf23 : (257 : Int) ≤ x2.toInt + (n23 + 1)) (hq : t0 = 0 ∨ (t0 = 1 ∧ ∃ j : Nat, j < 8 ∧ x6 = nI j ∧ (x2 >>> (nI j &&& 31)) &&& 1 = 0)), J p l e (rml 1) s m args below meth c 9 D (va_A ((wM cI h ar C)) s.heap.size) 0 0 (KP below args s D (tyl cI cH cO) ((wM cI h ar C))) (K126 x1 x2 x3 x4 x6 t0) ((wM cI h ar C)) 126 [(0, .ref h), (1, .int x1), (2, .int x2), (3, .int x3), (4, .int x4), (6, .int x6)] [.int t0] := by
        intro x1 x2 x3 x4 x6 t0 hg hf23 hq
        rw [eK126]
        refine j_istore X (lv' := [(0, .ref h), (1, .int x1), (2, .int x2), (3, .int x3), (4, .int x4), (5, .int t0), (6, .int x6)]) (pc' := 128) [1, 2, 3, 4, 5, 0, 6] dX5_bestForAll_126 (by decide) rfl rfl ?_
        refine j_iconst X (v := 0) (pc' := 129) dX5_bestForAll_128 (by decide) rfl ?_
        refine j_istore X (lv' := [(0, .ref h), (1, .int x1), (2, .int x2), (3, .int x3), (4, .int x4), (5, .int t0), (6, .int x6), (7, .int 0)]) (pc' := 131) [1, 2, 3, 4, 5, 6, 7, 0] dX5_bestForAll_129 (by decide) rfl rfl ?_
        refine j_lv [0, 1, 2, 3, 4, 5, 6, 7] (lv' := [(0, .ref h), (1, .int x1), (2, .int x2), (3, .int x3), (4, .int x4), (5, .int t0), (6, .int x6), (7, .int 0)]) rfl ?_
        exact hL131 _ _ _ _ _ _ _ _ (by first | assumption | omega | decide | exact Or.inl (by decide) | exact Or.inl rfl | exact Or.inr rfl | exact Or.inl ⟨rfl, by decide⟩ | exact Or.inr ⟨rfl, by decide⟩) (by first | assumption | omega | decide | exact Or.inl (by decide) | exact Or.inl rfl | exact Or.inr rfl | exact Or.inl ⟨rfl, by decide⟩ | exact Or.inr ⟨rfl, by decide⟩) hq (by decide) (bf_fu0 (hq.imp id And.left))
      refine j_ltv (fun K116 eK116 => ?_)
      have hK116 : ∀ (x1 : Int32) (x2 : Int32) (x3 : Int32) (x4 : Int32) (x6 : Int32) (hg : 0 ≤ x2.toInt ∧ x2.toInt < 256) (hf23 : (257 : Int) ≤ x2.toInt + (n23 + 1)) (hfd : x6 < 0 ∨ ∃ j : Nat, j < 8 ∧ x6 = nI j ∧ (x2 >>> (nI j &&& 31)) &&& 1 = 0), J p l e (rml 1) s m args below meth c 9 D (va_A ((wM cI h ar C)) s.heap.size) 0 0 (KP below args s D (tyl cI cH cO) ((wM cI h ar C))) (K116 x1 x2 x3 x4 x6) ((wM cI h ar C)) 116 [(0, .ref h), (1, .int x1), (2, .int x2), (3, .int x3), (4, .int x4), (6, .int x6)] [] := by
        intro x1 x2 x3 x4 x6 hg hf23 hfd
        rw [eK116]
        refine j_iload X (pc' := 118) 5 dX5_bestForAll_116 rfl rfl ?_
        refine j_if_lt X (tgt := 125) (pc' := 121) dX5_bestForAll_118 (by decide) rfl (fun c_118 => ?_) (fun c_118 => ?_)
        · refine j_iconst X (v := 0) (pc' := 126) dX5_bestForAll_125 (by decide) rfl ?_
          refine j_lv [0, 1, 2, 3, 4, 5] (lv' := [(0, .ref h), (1, .int x1), (2, .int x2), (3, .int x3), (4, .int x4), (6, .int x6)]) rfl ?_
          exact hK126 _ _ _ _ _ _ (by first | assumption | omega | decide | exact Or.inl (by decide) | exact Or.inl rfl | exact Or.inr rfl | exact Or.inl ⟨rfl, by decide⟩ | exact Or.inr ⟨rfl, by decide⟩) (by first | assumption | omega | decide | exact Or.inl (by decide) | exact Or.inl rfl | exact Or.inr rfl | exact Or.inl ⟨rfl, by decide⟩ | exact Or.inr ⟨rfl, by decide⟩) (Or.inl rfl)
        · refine j_iconst X (v := 1) (pc' := 122) dX5_bestForAll_121 (by decide) rfl ?_
          refine j_goto X (pc' := 126) dX5_bestForAll_122 (by decide) ?_
          refine j_lv [0, 1, 2, 3, 4, 5] (lv' := [(0, .ref h), (1, .int x1), (2, .int x2), (3, .int x3), (4, .int x4), (6, .int x6)]) rfl ?_
          exact hK126 _ _ _ _ _ _ (by first | assumption | omega | decide | exact Or.inl (by decide) | exact Or.inl rfl | exact Or.inr rfl | exact Or.inl ⟨rfl, by decide⟩ | exact Or.inr ⟨rfl, by decide⟩) (by first | assumption | omega | decide | exact Or.inl (by decide) | exact Or.inl rfl | exact Or.inr rfl | exact Or.inl ⟨rfl, by decide⟩ | exact Or.inr ⟨rfl, by decide⟩) (Or.inr ⟨rfl, hfd.resolve_left c_118⟩)
      refine j_ltl6 (fun L36 eL36 => ?_)
      have hL36 : ∀ (n36 : Nat) (x1 : Int32) (x2 : Int32) (x3 : Int32) (x4 : Int32) (x6 : Int32) (i7 : Nat) (hi : i7 ≤ 8) (hfu : 9 ≤ i7 + n36) (hg : 0 ≤ x2.toInt ∧ x2.toInt < 256) (hf23 : (257 : Int) ≤ x2.toInt + (n23 + 1)) (hfd : x6 < 0 ∨ ∃ j : Nat, j < 8 ∧ x6 = nI j ∧ (x2 >>> (nI j &&& 31)) &&& 1 = 0), J p l e (rml 1) s m args below meth c 9 D (va_A ((wM cI h ar C)) s.heap.size) 0 0 (KP below args s D (tyl cI cH cO) ((wM cI h ar C))) (L36 n36 x1 x2 x3 x4 x6 i7) ((wM cI h ar C)) 36 [(0, .ref h), (1, .int x1), (2, .int x2), (3, .int x3), (4, .int x4), (6, .int x6), (7, .int (nI i7))] [] := by
        intro n36
        induction n36 with
        | zero =>
          intro x1 x2 x3 x4 x6 i7 hi hfu hg hf23 hfd
          exact absurd hfu (by omega)
        | succ n36 ih36 =>
          intro x1 x2 x3 x4 x6 i7 hi hfu hg hf23 hfd
          rw [eL36]
          refine j_ltv (fun K108 eK108 => ?_)
          have hK108 : ∀ (x1 : Int32) (x2 : Int32) (x3 : Int32) (x4 : Int32) (i7 : Nat) (t0 : Int32) (hi : i7 < 8) (hfu : 9 ≤ i7 + (n36 + 1)) (hg : 0 ≤ x2.toInt ∧ x2.toInt < 256) (hf23 : (257 : Int) ≤ x2.toInt + (n23 + 1)) (hfd0 : t0 < 0 ∨ ∃ j : Nat, j < 8 ∧ t0 = nI j ∧ (x2 >>> (nI j &&& 31)) &&& 1 = 0), J p l e (rml 1) s m args below meth c 9 D (va_A ((wM cI h ar C)) s.heap.size) 0 0 (KP below args s D (tyl cI cH cO) ((wM cI h ar C))) (K108 x1 x2 x3 x4 i7 t0) ((wM cI h ar C)) 108 [(0, .ref h), (1, .int x1), (2, .int x2), (3, .int x3), (4, .int x4), (7, .int (nI i7))] [.int t0] := by
            intro x1 x2 x3 x4 i7 t0 hi hfu hg hf23 hfd0
            rw [eK108]
            refine j_istore X (lv' := [(0, .ref h), (1, .int x1), (2, .int x2), (3, .int x3), (4, .int x4), (6, .int t0), (7, .int (nI i7))]) (pc' := 110) [1, 2, 3, 4, 5, 0, 6] dX5_bestForAll_108 (by decide) rfl rfl ?_
            refine j_iinc X (v := (nI (i7 + 1))) (lv' := [(0, .ref h), (1, .int x1), (2, .int x2), (3, .int x3), (4, .int x4), (6, .int t0), (7, .int (nI (i7 + 1)))]) (q := 6) (pc' := 113) [1, 2, 3, 4, 5, 6, 0] dX5_bestForAll_110 rfl (nI_1 i7) (by decide) rfl rfl ?_
            refine j_goto X (pc' := 36) dX5_bestForAll_113 (by decide) ?_
            refine j_lv [0, 1, 2, 3, 4, 5, 6] (lv' := [(0, .ref h), (1, .int x1), (2, .int x2), (3, .int x3), (4, .int x4), (6, .int t0), (7, .int (nI (i7 + 1)))]) rfl ?_
            exact ih36 _ _ _ _ _ _ (by first | assumption | omega | decide | exact Or.inl (by decide) | exact Or.inl rfl | exact Or.inr rfl | exact Or.inl ⟨rfl, by decide⟩ | exact Or.inr ⟨rfl, by decide⟩) (by first | assumption | omega | decide | exact Or.inl (by decide) | exact Or.inl rfl | exact Or.inr rfl | exact Or.inl ⟨rfl, by decide⟩ | exact Or.inr ⟨rfl, by decide⟩) (by first | assumption | omega | decide | exact Or.inl (by decide) | exact Or.inl rfl | exact Or.inr rfl | exact Or.inl ⟨rfl, by decide⟩ | exact Or.inr ⟨rfl, by decide⟩) (by first | assumption | omega | decide | exact Or.inl (by decide) | exact Or.inl rfl | exact Or.inr rfl | exact Or.inl ⟨rfl, by decide⟩ | exact Or.inr ⟨rfl, by decide⟩) (by first | assumption | omega | decide | exact Or.inl (by decide) | exact Or.inl rfl | exact Or.inr rfl | exact Or.inl ⟨rfl, by decide⟩ | exact Or.inr ⟨rfl, by decide⟩)
          refine j_ltv (fun K106 eK106 => ?_)
          have hK106 : ∀ (x1 : Int32) (x2 : Int32) (x3 : Int32) (x4 : Int32) (x6 : Int32) (i7 : Nat) (hi : i7 < 8) (hfu : 9 ≤ i7 + (n36 + 1)) (hg : 0 ≤ x2.toInt ∧ x2.toInt < 256) (hf23 : (257 : Int) ≤ x2.toInt + (n23 + 1)) (hfd : x6 < 0 ∨ ∃ j : Nat, j < 8 ∧ x6 = nI j ∧ (x2 >>> (nI j &&& 31)) &&& 1 = 0), J p l e (rml 1) s m args below meth c 9 D (va_A ((wM cI h ar C)) s.heap.size) 0 0 (KP below args s D (tyl cI cH cO) ((wM cI h ar C))) (K106 x1 x2 x3 x4 x6 i7) ((wM cI h ar C)) 106 [(0, .ref h), (1, .int x1), (2, .int x2), (3, .int x3), (4, .int x4), (6, .int x6), (7, .int (nI i7))] [] := by
            intro x1 x2 x3 x4 x6 i7 hi hfu hg hf23 hfd
            rw [eK106]
            refine j_iload X (pc' := 108) 5 dX5_bestForAll_106 rfl rfl ?_
            refine j_lv [0, 1, 2, 3, 4, 6] (lv' := [(0, .ref h), (1, .int x1), (2, .int x2), (3, .int x3), (4, .int x4), (7, .int (nI i7))]) rfl ?_
            exact hK108 _ _ _ _ _ _ (by first | assumption | omega | decide | exact Or.inl (by decide) | exact Or.inl rfl | exact Or.inr rfl | exact Or.inl ⟨rfl, by decide⟩ | exact Or.inr ⟨rfl, by decide⟩) (by first | assumption | omega | decide | exact Or.inl (by decide) | exact Or.inl rfl | exact Or.inr rfl | exact Or.inl ⟨rfl, by decide⟩ | exact Or.inr ⟨rfl, by decide⟩) (by first | assumption | omega | decide | exact Or.inl (by decide) | exact Or.inl rfl | exact Or.inr rfl | exact Or.inl ⟨rfl, by decide⟩ | exact Or.inr ⟨rfl, by decide⟩) (by first | assumption | omega | decide | exact Or.inl (by decide) | exact Or.inl rfl | exact Or.inr rfl | exact Or.inl ⟨rfl, by decide⟩ | exact Or.inr ⟨rfl, by decide⟩) hfd
          refine j_ltv (fun K101 eK101 => ?_)
          have hK101 : ∀ (x1 : Int32) (x2 : Int32) (x3 : Int32) (x4 : Int32) (i7 : Nat) (hi : i7 < 8) (hfu : 9 ≤ i7 + (n36 + 1)) (hg : 0 ≤ x2.toInt ∧ x2.toInt < 256) (hf23 : (257 : Int) ≤ x2.toInt + (n23 + 1)) (hm7 : (x2 >>> (nI i7 &&& 31)) &&& 1 = 0), J p l e (rml 1) s m args below meth c 9 D (va_A ((wM cI h ar C)) s.heap.size) 0 0 (KP below args s D (tyl cI cH cO) ((wM cI h ar C))) (K101 x1 x2 x3 x4 i7) ((wM cI h ar C)) 101 [(0, .ref h), (1, .int x1), (2, .int x2), (3, .int x3), (4, .int x4), (7, .int (nI i7))] [] := by
            intro x1 x2 x3 x4 i7 hi hfu hg hf23 hm7
            rw [eK101]
            refine j_iload X (pc' := 103) 5 dX5_bestForAll_101 rfl rfl ?_
            refine j_goto X (pc' := 108) dX5_bestForAll_103 (by decide) ?_
            refine j_lv [0, 1, 2, 3, 4, 5] (lv' := [(0, .ref h), (1, .int x1), (2, .int x2), (3, .int x3), (4, .int x4), (7, .int (nI i7))]) rfl ?_
            exact hK108 _ _ _ _ _ _ (by first | assumption | omega | decide | exact Or.inl (by decide) | exact Or.inl rfl | exact Or.inr rfl | exact Or.inl ⟨rfl, by decide⟩ | exact Or.inr ⟨rfl, by decide⟩) (by first | assumption | omega | decide | exact Or.inl (by decide) | exact Or.inl rfl | exact Or.inr rfl | exact Or.inl ⟨rfl, by decide⟩ | exact Or.inr ⟨rfl, by decide⟩) (by first | assumption | omega | decide | exact Or.inl (by decide) | exact Or.inl rfl | exact Or.inr rfl | exact Or.inl ⟨rfl, by decide⟩ | exact Or.inr ⟨rfl, by decide⟩) (by first | assumption | omega | decide | exact Or.inl (by decide) | exact Or.inl rfl | exact Or.inr rfl | exact Or.inl ⟨rfl, by decide⟩ | exact Or.inr ⟨rfl, by decide⟩) (Or.inr ⟨i7, by omega, rfl, hm7⟩)
          refine j_ltv (fun K84 eK84 => ?_)
          have hK84 : ∀ (x1 : Int32) (x2 : Int32) (x3 : Int32) (x4 : Int32) (i6 : Nat) (i7 : Nat) (hi : i7 < 8) (hfu : 9 ≤ i7 + (n36 + 1)) (hg : 0 ≤ x2.toInt ∧ x2.toInt < 256) (hf23 : (257 : Int) ≤ x2.toInt + (n23 + 1)) (hi6 : i6 < 8) (hb6 : (x2 >>> (nI i6 &&& 31)) &&& 1 = 0) (hm7 : (x2 >>> (nI i7 &&& 31)) &&& 1 = 0), J p l e (rml 1) s m args below meth c 9 D (va_A ((wM cI h ar C)) s.heap.size) 0 0 (KP below args s D (tyl cI cH cO) ((wM cI h ar C))) (K84 x1 x2 x3 x4 i6 i7) ((wM cI h ar C)) 84 [(0, .ref h), (1, .int x1), (2, .int x2), (3, .int x3), (4, .int x4), (6, .int (nI i6)), (7, .int (nI i7))] [] := by
            intro x1 x2 x3 x4 i6 i7 hi hfu hg hf23 hi6 hb6 hm7
            rw [eK84]
            refine j_aload_n X (pc' := 85) 0 dX5_bestForAll_84 rfl rfl rfl ?_
            refine j_iload X (pc' := 87) 6 dX5_bestForAll_85 rfl rfl ?_
            refine j_iconst X (v := 0) (pc' := 88) dX5_bestForAll_87 (by decide) rfl ?_
            refine j_callVi X (pc' := 91) (As := [.int (nI i7), .int 0]) (rest := []) (c_X5_of l D cI cH cO h ar C i7 0 (by first | assumption | omega | decide | exact Or.inl (by decide) | exact Or.inl rfl | exact Or.inr rfl | exact Or.inl ⟨rfl, by decide⟩ | exact Or.inr ⟨rfl, by decide⟩) (by first | assumption | omega | decide | exact Or.inl (by decide) | exact Or.inl rfl | exact Or.inr rfl | exact Or.inl ⟨rfl, by decide⟩ | exact Or.inr ⟨rfl, by decide⟩)) wv_X5_39 ⟨0, 5, _, _, rfl, rfl, rfl⟩ ⟨by decide, by decide, by decide, by decide⟩ rfl rfl (Nat.le_of_ble_eq_true rfl) dX5_bestForAll_88 rfl ?_
            refine j_topL (fun r_88 er_88 => ?_)
            refine j_aload_n X (pc' := 92) 0 dX5_bestForAll_91 rfl rfl rfl ?_
            refine j_iload X (pc' := 94) 5 dX5_bestForAll_92 rfl rfl ?_
            refine j_iconst X (v := 0) (pc' := 95) dX5_bestForAll_94 (by decide) rfl ?_
            refine j_callVi X (pc' := 98) (As := [.int (nI i6), .int 0]) (rest := [.int r_88]) (c_X5_of l D cI cH cO h ar C i6 0 (by first | assumption | omega | decide | exact Or.inl (by decide) | exact Or.inl rfl | exact Or.inr rfl | exact Or.inl ⟨rfl, by decide⟩ | exact Or.inr ⟨rfl, by decide⟩) (by first | assumption | omega | decide | exact Or.inl (by decide) | exact Or.inl rfl | exact Or.inr rfl | exact Or.inl ⟨rfl, by decide⟩ | exact Or.inr ⟨rfl, by decide⟩)) wv_X5_39 ⟨0, 5, _, _, rfl, rfl, rfl⟩ ⟨by decide, by decide, by decide, by decide⟩ rfl rfl (Nat.le_of_ble_eq_true rfl) dX5_bestForAll_95 rfl ?_
            refine j_topL (fun r_95 er_95 => ?_)
            refine j_icmp_le X (tgt := 106) (pc' := 101) dX5_bestForAll_98 (by decide) rfl (fun c_98 => ?_) (fun c_98 => ?_)
            · refine j_lv [0, 1, 2, 3, 4, 5, 6] (lv' := [(0, .ref h), (1, .int x1), (2, .int x2), (3, .int x3), (4, .int x4), (6, .int (nI i6)), (7, .int (nI i7))]) rfl ?_
              exact hK106 _ _ _ _ _ _ (by first | assumption | omega | decide | exact Or.inl (by decide) | exact Or.inl rfl | exact Or.inr rfl | exact Or.inl ⟨rfl, by decide⟩ | exact Or.inr ⟨rfl, by decide⟩) (by first | assumption | omega | decide | exact Or.inl (by decide) | exact Or.inl rfl | exact Or.inr rfl | exact Or.inl ⟨rfl, by decide⟩ | exact Or.inr ⟨rfl, by decide⟩) (by first | assumption | omega | decide | exact Or.inl (by decide) | exact Or.inl rfl | exact Or.inr rfl | exact Or.inl ⟨rfl, by decide⟩ | exact Or.inr ⟨rfl, by decide⟩) (by first | assumption | omega | decide | exact Or.inl (by decide) | exact Or.inl rfl | exact Or.inr rfl | exact Or.inl ⟨rfl, by decide⟩ | exact Or.inr ⟨rfl, by decide⟩) (Or.inr ⟨i6, hi6, rfl, hb6⟩)
            · refine j_lv [0, 1, 2, 3, 4, 6] (lv' := [(0, .ref h), (1, .int x1), (2, .int x2), (3, .int x3), (4, .int x4), (7, .int (nI i7))]) rfl ?_
              exact hK101 _ _ _ _ _ (by first | assumption | omega | decide | exact Or.inl (by decide) | exact Or.inl rfl | exact Or.inr rfl | exact Or.inl ⟨rfl, by decide⟩ | exact Or.inr ⟨rfl, by decide⟩) (by first | assumption | omega | decide | exact Or.inl (by decide) | exact Or.inl rfl | exact Or.inr rfl | exact Or.inl ⟨rfl, by decide⟩ | exact Or.inr ⟨rfl, by decide⟩) (by first | assumption | omega | decide | exact Or.inl (by decide) | exact Or.inl rfl | exact Or.inr rfl | exact Or.inl ⟨rfl, by decide⟩ | exact Or.inr ⟨rfl, by decide⟩) (by first | assumption | omega | decide | exact Or.inl (by decide) | exact Or.inl rfl | exact Or.inr rfl | exact Or.inl ⟨rfl, by decide⟩ | exact Or.inr ⟨rfl, by decide⟩) (by first | assumption | omega | decide | exact Or.inl (by decide) | exact Or.inl rfl | exact Or.inr rfl | exact Or.inl ⟨rfl, by decide⟩ | exact Or.inr ⟨rfl, by decide⟩)
          refine j_ltv (fun K72 eK72 => ?_)
          have hK72 : ∀ (x1 : Int32) (x2 : Int32) (x3 : Int32) (x4 : Int32) (x6 : Int32) (i7 : Nat) (t0 : Int32) (hi : i7 < 8) (hfu : 9 ≤ i7 + (n36 + 1)) (hg : 0 ≤ x2.toInt ∧ x2.toInt < 256) (hf23 : (257 : Int) ≤ x2.toInt + (n23 + 1)) (hfd : x6 < 0 ∨ ∃ j : Nat, j < 8 ∧ x6 = nI j ∧ (x2 >>> (nI j &&& 31)) &&& 1 = 0) (hm : t0 = 0 ∨ (t0 = 1 ∧ (x2 >>> (nI i7 &&& 31)) &&& 1 = 0)), J p l e (rml 1) s m args below meth c 9 D (va_A ((wM cI h ar C)) s.heap.size) 0 0 (KP below args s D (tyl cI cH cO) ((wM cI h ar C))) (K72 x1 x2 x3 x4 x6 i7 t0) ((wM cI h ar C)) 72 [(0, .ref h), (1, .int x1), (2, .int x2), (3, .int x3), (4, .int x4), (6, .int x6), (7, .int (nI i7))] [.int t0] := by
            intro x1 x2 x3 x4 x6 i7 t0 hi hfu hg hf23 hfd hm
            rw [eK72]
            refine j_istore X (lv' := [(0, .ref h), (1, .int x1), (2, .int x2), (3, .int x3), (4, .int x4), (6, .int x6), (7, .int (nI i7)), (8, .int t0)]) (pc' := 74) [1, 2, 3, 4, 5, 6, 7, 0] dX5_bestForAll_72 (by decide) rfl rfl ?_
            refine j_iload X (pc' := 76) 7 dX5_bestForAll_74 rfl rfl ?_
            refine j_if_eq X (tgt := 106) (pc' := 79) dX5_bestForAll_76 (by decide) rfl (fun c_76 => ?_) (fun c_76 => ?_)
            · refine j_lv [0, 1, 2, 3, 4, 5, 6] (lv' := [(0, .ref h), (1, .int x1), (2, .int x2), (3, .int x3), (4, .int x4), (6, .int x6), (7, .int (nI i7))]) rfl ?_
              exact hK106 _ _ _ _ _ _ (by first | assumption | omega | decide | exact Or.inl (by decide) | exact Or.inl rfl | exact Or.inr rfl | exact Or.inl ⟨rfl, by decide⟩ | exact Or.inr ⟨rfl, by decide⟩) (by first | assumption | omega | decide | exact Or.inl (by decide) | exact Or.inl rfl | exact Or.inr rfl | exact Or.inl ⟨rfl, by decide⟩ | exact Or.inr ⟨rfl, by decide⟩) (by first | assumption | omega | decide | exact Or.inl (by decide) | exact Or.inl rfl | exact Or.inr rfl | exact Or.inl ⟨rfl, by decide⟩ | exact Or.inr ⟨rfl, by decide⟩) (by first | assumption | omega | decide | exact Or.inl (by decide) | exact Or.inl rfl | exact Or.inr rfl | exact Or.inl ⟨rfl, by decide⟩ | exact Or.inr ⟨rfl, by decide⟩) (by first | assumption | omega | decide | exact Or.inl (by decide) | exact Or.inl rfl | exact Or.inr rfl | exact Or.inl ⟨rfl, by decide⟩ | exact Or.inr ⟨rfl, by decide⟩)
            · refine j_iload X (pc' := 81) 5 dX5_bestForAll_79 rfl rfl ?_
              refine j_if_lt X (tgt := 101) (pc' := 84) dX5_bestForAll_81 (by decide) rfl (fun c_81 => ?_) (fun c_81 => ?_)
              · refine j_lv [0, 1, 2, 3, 4, 6] (lv' := [(0, .ref h), (1, .int x1), (2, .int x2), (3, .int x3), (4, .int x4), (7, .int (nI i7))]) rfl ?_
                exact hK101 _ _ _ _ _ (by first | assumption | omega | decide | exact Or.inl (by decide) | exact Or.inl rfl | exact Or.inr rfl | exact Or.inl ⟨rfl, by decide⟩ | exact Or.inr ⟨rfl, by decide⟩) (by first | assumption | omega | decide | exact Or.inl (by decide) | exact Or.inl rfl | exact Or.inr rfl | exact Or.inl ⟨rfl, by decide⟩ | exact Or.inr ⟨rfl, by decide⟩) (by first | assumption | omega | decide | exact Or.inl (by decide) | exact Or.inl rfl | exact Or.inr rfl | exact Or.inl ⟨rfl, by decide⟩ | exact Or.inr ⟨rfl, by decide⟩) (by first | assumption | omega | decide | exact Or.inl (by decide) | exact Or.inl rfl | exact Or.inr rfl | exact Or.inl ⟨rfl, by decide⟩ | exact Or.inr ⟨rfl, by decide⟩) (hm.resolve_left c_76).2
              · obtain ⟨j_81, hj_81, ej_81⟩ : ∃ j : Nat, j < 8 ∧ x6 = nI j := bf_j (hfd.resolve_left c_81)
                subst ej_81
                rw [nI_clamp (show j_81 < 2 ^ 31 by omega)]
                refine j_lv [0, 1, 2, 3, 4, 5, 6] (lv' := _) rfl ?_
                exact hK84 _ _ _ _ _ _ (by first | assumption | omega | decide | exact Or.inl (by decide) | exact Or.inl rfl | exact Or.inr rfl | exact Or.inl ⟨rfl, by decide⟩ | exact Or.inr ⟨rfl, by decide⟩) (by first | assumption | omega | decide | exact Or.inl (by decide) | exact Or.inl rfl | exact Or.inr rfl | exact Or.inl ⟨rfl, by decide⟩ | exact Or.inr ⟨rfl, by decide⟩) (by first | assumption | omega | decide | exact Or.inl (by decide) | exact Or.inl rfl | exact Or.inr rfl | exact Or.inl ⟨rfl, by decide⟩ | exact Or.inr ⟨rfl, by decide⟩) (by first | assumption | omega | decide | exact Or.inl (by decide) | exact Or.inl rfl | exact Or.inr rfl | exact Or.inl ⟨rfl, by decide⟩ | exact Or.inr ⟨rfl, by decide⟩) (by first | assumption | omega | decide | exact Or.inl (by decide) | exact Or.inl rfl | exact Or.inr rfl | exact Or.inl ⟨rfl, by decide⟩ | exact Or.inr ⟨rfl, by decide⟩) (bf_bit (by assumption) hfd) (hm.resolve_left c_76).2
          refine j_ltv (fun K71 eK71 => ?_)
          have hK71 : ∀ (x1 : Int32) (x2 : Int32) (x3 : Int32) (x4 : Int32) (x6 : Int32) (i7 : Nat) (hi : i7 < 8) (hfu : 9 ≤ i7 + (n36 + 1)) (hg : 0 ≤ x2.toInt ∧ x2.toInt < 256) (hf23 : (257 : Int) ≤ x2.toInt + (n23 + 1)) (hfd : x6 < 0 ∨ ∃ j : Nat, j < 8 ∧ x6 = nI j ∧ (x2 >>> (nI j &&& 31)) &&& 1 = 0), J p l e (rml 1) s m args below meth c 9 D (va_A ((wM cI h ar C)) s.heap.size) 0 0 (KP below args s D (tyl cI cH cO) ((wM cI h ar C))) (K71 x1 x2 x3 x4 x6 i7) ((wM cI h ar C)) 71 [(0, .ref h), (1, .int x1), (2, .int x2), (3, .int x3), (4, .int x4), (6, .int x6), (7, .int (nI i7))] [] := by
            intro x1 x2 x3 x4 x6 i7 hi hfu hg hf23 hfd
            rw [eK71]
            refine j_iconst X (v := 0) (pc' := 72) dX5_bestForAll_71 (by decide) rfl ?_
            refine j_lv [0, 1, 2, 3, 4, 5, 6] (lv' := [(0, .ref h), (1, .int x1), (2, .int x2), (3, .int x3), (4, .int x4), (6, .int x6), (7, .int (nI i7))]) rfl ?_
            exact hK72 _ _ _ _ _ _ _ (by first | assumption | omega | decide | exact Or.inl (by decide) | exact Or.inl rfl | exact Or.inr rfl | exact Or.inl ⟨rfl, by decide⟩ | exact Or.inr ⟨rfl, by decide⟩) (by first | assumption | omega | decide | exact Or.inl (by decide) | exact Or.inl rfl | exact Or.inr rfl | exact Or.inl ⟨rfl, by decide⟩ | exact Or.inr ⟨rfl, by decide⟩) (by first | assumption | omega | decide | exact Or.inl (by decide) | exact Or.inl rfl | exact Or.inr rfl | exact Or.inl ⟨rfl, by decide⟩ | exact Or.inr ⟨rfl, by decide⟩) (by first | assumption | omega | decide | exact Or.inl (by decide) | exact Or.inl rfl | exact Or.inr rfl | exact Or.inl ⟨rfl, by decide⟩ | exact Or.inr ⟨rfl, by decide⟩) (by first | assumption | omega | decide | exact Or.inl (by decide) | exact Or.inl rfl | exact Or.inr rfl | exact Or.inl ⟨rfl, by decide⟩ | exact Or.inr ⟨rfl, by decide⟩) (Or.inl rfl)
          refine j_iload X (pc' := 38) 6 dX5_bestForAll_36 rfl rfl ?_
          refine j_aload_n X (pc' := 39) 0 dX5_bestForAll_38 rfl rfl rfl ?_
          refine j_get X inX5 rfl (pc' := 42) 0 0 q_fl_X5_7 (by decide) rfl rfl dX5_bestForAll_39 rfl ?_
          refine j_iconst X (v := 5) (pc' := 43) dX5_bestForAll_42 (by decide) rfl ?_
          refine j_ialdN X (i := 5) (pc' := 44) 1 rfl (by omega) (by decide) dX5_bestForAll_43 rfl ?_
          refine j_icmp_ge X (tgt := 116) (pc' := 47) dX5_bestForAll_44 (by decide) rfl (fun c_44 => ?_) (fun c_44 => ?_)
          · refine j_lv [0, 1, 2, 3, 4, 5] (lv' := [(0, .ref h), (1, .int x1), (2, .int x2), (3, .int x3), (4, .int x4), (6, .int x6)]) rfl ?_
            exact hK116 _ _ _ _ _ (by first | assumption | omega | decide | exact Or.inl (by decide) | exact Or.inl rfl | exact Or.inr rfl | exact Or.inl ⟨rfl, by decide⟩ | exact Or.inr ⟨rfl, by decide⟩) (by first | assumption | omega | decide | exact Or.inl (by decide) | exact Or.inl rfl | exact Or.inr rfl | exact Or.inl ⟨rfl, by decide⟩ | exact Or.inr ⟨rfl, by decide⟩) (by first | assumption | omega | decide | exact Or.inl (by decide) | exact Or.inl rfl | exact Or.inr rfl | exact Or.inl ⟨rfl, by decide⟩ | exact Or.inr ⟨rfl, by decide⟩)
          · have hb_44 : i7 < 8 := i32_lt8 c_44 hIC.2.1 (by omega)
            refine j_aload_n X (pc' := 48) 0 dX5_bestForAll_47 rfl rfl rfl ?_
            refine j_iload X (pc' := 50) 6 dX5_bestForAll_48 rfl rfl ?_
            refine j_bipush X (v := 6) (pc' := 52) dX5_bestForAll_50 (by decide) rfl ?_
            refine j_callVi X (pc' := 55) (As := [.int (nI i7), .int 6]) (rest := []) (c_X5_of l D cI cH cO h ar C i7 6 (by first | assumption | omega | decide | exact Or.inl (by decide) | exact Or.inl rfl | exact Or.inr rfl | exact Or.inl ⟨rfl, by decide⟩ | exact Or.inr ⟨rfl, by decide⟩) (by first | assumption | omega | decide | exact Or.inl (by decide) | exact Or.inl rfl | exact Or.inr rfl | exact Or.inl ⟨rfl, by decide⟩ | exact Or.inr ⟨rfl, by decide⟩)) wv_X5_39 ⟨0, 5, _, _, rfl, rfl, rfl⟩ ⟨by decide, by decide, by decide, by decide⟩ rfl rfl (Nat.le_of_ble_eq_true rfl) dX5_bestForAll_52 rfl ?_
            refine j_topL (fun r_52 er_52 => ?_)
            refine j_if_ne X (tgt := 71) (pc' := 58) dX5_bestForAll_55 (by decide) rfl (fun c_55 => ?_) (fun c_55 => ?_)
            · refine j_lv [0, 1, 2, 3, 4, 5, 6] (lv' := [(0, .ref h), (1, .int x1), (2, .int x2), (3, .int x3), (4, .int x4), (6, .int x6), (7, .int (nI i7))]) rfl ?_
              exact hK71 _ _ _ _ _ _ (by first | assumption | omega | decide | exact Or.inl (by decide) | exact Or.inl rfl | exact Or.inr rfl | exact Or.inl ⟨rfl, by decide⟩ | exact Or.inr ⟨rfl, by decide⟩) (by first | assumption | omega | decide | exact Or.inl (by decide) | exact Or.inl rfl | exact Or.inr rfl | exact Or.inl ⟨rfl, by decide⟩ | exact Or.inr ⟨rfl, by decide⟩) (by first | assumption | omega | decide | exact Or.inl (by decide) | exact Or.inl rfl | exact Or.inr rfl | exact Or.inl ⟨rfl, by decide⟩ | exact Or.inr ⟨rfl, by decide⟩) (by first | assumption | omega | decide | exact Or.inl (by decide) | exact Or.inl rfl | exact Or.inr rfl | exact Or.inl ⟨rfl, by decide⟩ | exact Or.inr ⟨rfl, by decide⟩) (by first | assumption | omega | decide | exact Or.inl (by decide) | exact Or.inl rfl | exact Or.inr rfl | exact Or.inl ⟨rfl, by decide⟩ | exact Or.inr ⟨rfl, by decide⟩)
            · refine j_iload_n X (pc' := 59) 2 dX5_bestForAll_58 rfl rfl rfl ?_
              refine j_iload X (pc' := 61) 6 dX5_bestForAll_59 rfl rfl ?_
              refine j_ishr X (pc' := 62) dX5_bestForAll_61 rfl ?_
              refine j_iconst X (v := 1) (pc' := 63) dX5_bestForAll_62 (by decide) rfl ?_
              refine j_iand X (pc' := 64) dX5_bestForAll_63 rfl ?_
              refine j_if_ne X (tgt := 71) (pc' := 67) dX5_bestForAll_64 (by decide) rfl (fun c_64 => ?_) (fun c_64 => ?_)
              · refine j_lv [0, 1, 2, 3, 4, 5, 6] (lv' := [(0, .ref h), (1, .int x1), (2, .int x2), (3, .int x3), (4, .int x4), (6, .int x6), (7, .int (nI i7))]) rfl ?_
                exact hK71 _ _ _ _ _ _ (by first | assumption | omega | decide | exact Or.inl (by decide) | exact Or.inl rfl | exact Or.inr rfl | exact Or.inl ⟨rfl, by decide⟩ | exact Or.inr ⟨rfl, by decide⟩) (by first | assumption | omega | decide | exact Or.inl (by decide) | exact Or.inl rfl | exact Or.inr rfl | exact Or.inl ⟨rfl, by decide⟩ | exact Or.inr ⟨rfl, by decide⟩) (by first | assumption | omega | decide | exact Or.inl (by decide) | exact Or.inl rfl | exact Or.inr rfl | exact Or.inl ⟨rfl, by decide⟩ | exact Or.inr ⟨rfl, by decide⟩) (by first | assumption | omega | decide | exact Or.inl (by decide) | exact Or.inl rfl | exact Or.inr rfl | exact Or.inl ⟨rfl, by decide⟩ | exact Or.inr ⟨rfl, by decide⟩) (by first | assumption | omega | decide | exact Or.inl (by decide) | exact Or.inl rfl | exact Or.inr rfl | exact Or.inl ⟨rfl, by decide⟩ | exact Or.inr ⟨rfl, by decide⟩)
              · refine j_iconst X (v := 1) (pc' := 68) dX5_bestForAll_67 (by decide) rfl ?_
                refine j_goto X (pc' := 72) dX5_bestForAll_68 (by decide) ?_
                refine j_lv [0, 1, 2, 3, 4, 5, 6] (lv' := [(0, .ref h), (1, .int x1), (2, .int x2), (3, .int x3), (4, .int x4), (6, .int x6), (7, .int (nI i7))]) rfl ?_
                exact hK72 _ _ _ _ _ _ _ (by first | assumption | omega | decide | exact Or.inl (by decide) | exact Or.inl rfl | exact Or.inr rfl | exact Or.inl ⟨rfl, by decide⟩ | exact Or.inr ⟨rfl, by decide⟩) (by first | assumption | omega | decide | exact Or.inl (by decide) | exact Or.inl rfl | exact Or.inr rfl | exact Or.inl ⟨rfl, by decide⟩ | exact Or.inr ⟨rfl, by decide⟩) (by first | assumption | omega | decide | exact Or.inl (by decide) | exact Or.inl rfl | exact Or.inr rfl | exact Or.inl ⟨rfl, by decide⟩ | exact Or.inr ⟨rfl, by decide⟩) (by first | assumption | omega | decide | exact Or.inl (by decide) | exact Or.inl rfl | exact Or.inr rfl | exact Or.inl ⟨rfl, by decide⟩ | exact Or.inr ⟨rfl, by decide⟩) (by first | assumption | omega | decide | exact Or.inl (by decide) | exact Or.inl rfl | exact Or.inr rfl | exact Or.inl ⟨rfl, by decide⟩ | exact Or.inr ⟨rfl, by decide⟩) (Or.inr ⟨rfl, Decidable.not_not.mp c_64⟩)
      refine j_iload X (pc' := 25) 5 dX5_bestForAll_23 rfl rfl ?_
      refine j_if_eq X (tgt := 244) (pc' := 28) dX5_bestForAll_25 (by decide) rfl (fun c_25 => ?_) (fun c_25 => ?_)
      · refine j_lv [0, 1, 3, 4] (lv' := [(0, .ref h), (1, .int x1), (3, .int x3), (4, .int x4)]) rfl ?_
        exact hK244 _ _ _ 
      · have hf23 : (257 : Int) ≤ x2.toInt + (n23 + 1) := by have h9 := (hfu.resolve_left (fun q => c_25 q.1)).2; omega
        refine j_sipush X (v := (-10004)) (pc' := 31) dX5_bestForAll_28 (by decide) rfl ?_
        refine j_istore X (lv' := [(0, .ref h), (1, .int x1), (2, .int x2), (3, .int x3), (4, .int x4), (5, .int x5), (6, .int (-10004))]) (pc' := 33) [1, 2, 3, 4, 5, 6, 0] dX5_bestForAll_31 (by decide) rfl rfl ?_
        refine j_iconst X (v := 0) (pc' := 34) dX5_bestForAll_33 (by decide) rfl ?_
        refine j_istore X (lv' := [(0, .ref h), (1, .int x1), (2, .int x2), (3, .int x3), (4, .int x4), (5, .int x5), (6, .int (-10004)), (7, .int 0)]) (pc' := 36) [1, 2, 3, 4, 5, 6, 7, 0] dX5_bestForAll_34 (by decide) rfl rfl ?_
        refine j_lv [0, 1, 2, 3, 4, 6, 7] (lv' := [(0, .ref h), (1, .int x1), (2, .int x2), (3, .int x3), (4, .int x4), (6, .int (-10004)), (7, .int 0)]) rfl ?_
        exact hL36 _ _ _ _ _ _ _ (by first | assumption | omega | decide | exact Or.inl (by decide) | exact Or.inl rfl | exact Or.inr rfl | exact Or.inl ⟨rfl, by decide⟩ | exact Or.inr ⟨rfl, by decide⟩) (by first | assumption | omega | decide | exact Or.inl (by decide) | exact Or.inl rfl | exact Or.inr rfl | exact Or.inl ⟨rfl, by decide⟩ | exact Or.inr ⟨rfl, by decide⟩) (by first | assumption | omega | decide | exact Or.inl (by decide) | exact Or.inl rfl | exact Or.inr rfl | exact Or.inl ⟨rfl, by decide⟩ | exact Or.inr ⟨rfl, by decide⟩) (by first | assumption | omega | decide | exact Or.inl (by decide) | exact Or.inl rfl | exact Or.inr rfl | exact Or.inl ⟨rfl, by decide⟩ | exact Or.inr ⟨rfl, by decide⟩) (Or.inl (by decide))
  refine j_iload_n X (pc' := 1) 1 dX5_bestForAll_0 rfl rfl rfl ?_
  refine j_iconst X (v := 0) (pc' := 2) dX5_bestForAll_1 (by decide) rfl ?_
  refine j_iconst X (v := 1) (pc' := 3) dX5_bestForAll_2 (by decide) rfl ?_
  refine j_callSiF X (pc' := 6) (As := [.int x1, .int 0, .int 1]) (rest := []) (ws' := (wM cI h ar C)) (wr := (wM cI h ar C)) [] [0, 1, 2, 3, 4, 5, 6, 7] [0, 1, 2, 3, 4, 5, 6, 7] rfl rfl ⟨by decide, by decide, by decide, by decide⟩ rfl (c_X5_in l D cI cH cO x1 0 1 ) ws_X5_53 ⟨by decide, by decide, by decide, by decide⟩ rfl rfl (Nat.le_of_ble_eq_true rfl) dX5_bestForAll_3 rfl ?_
  refine j_topL (fun r_3 er_3 => ?_)
  refine j_if_ne X (tgt := 13) (pc' := 9) dX5_bestForAll_6 (by decide) rfl (fun c_6 => ?_) (fun c_6 => ?_)
  · refine j_iconst X (v := 0) (pc' := 14) dX5_bestForAll_13 (by decide) rfl ?_
    refine j_istore_n X (lv' := [(0, .ref h), (1, .int x1), (2, .int 0)]) (pc' := 15) [1, 2, 0] dX5_bestForAll_14 rfl (by decide) rfl rfl ?_
    refine j_iconst X (v := 0) (pc' := 16) dX5_bestForAll_15 (by decide) rfl ?_
    refine j_istore_n X (lv' := [(0, .ref h), (1, .int x1), (2, .int 0), (3, .int 0)]) (pc' := 17) [1, 2, 3, 0] dX5_bestForAll_16 rfl (by decide) rfl rfl ?_
    refine j_iconst X (v := 0) (pc' := 18) dX5_bestForAll_17 (by decide) rfl ?_
    refine j_istore X (lv' := [(0, .ref h), (1, .int x1), (2, .int 0), (3, .int 0), (4, .int 0)]) (pc' := 20) [1, 2, 3, 4, 0] dX5_bestForAll_18 (by decide) rfl rfl ?_
    refine j_iconst X (v := 1) (pc' := 21) dX5_bestForAll_20 (by decide) rfl ?_
    refine j_istore X (lv' := [(0, .ref h), (1, .int x1), (2, .int 0), (3, .int 0), (4, .int 0), (5, .int 1)]) (pc' := 23) [1, 2, 3, 4, 5, 0] dX5_bestForAll_21 (by decide) rfl rfl ?_
    refine j_lv [0, 1, 2, 3, 4, 5] (lv' := [(0, .ref h), (1, .int x1), (2, .int 0), (3, .int 0), (4, .int 0), (5, .int 1)]) rfl ?_
    exact hL23 _ _ _ _ _ _ (by first | assumption | omega | decide | exact Or.inl (by decide) | exact Or.inl rfl | exact Or.inr rfl | exact Or.inl ⟨rfl, by decide⟩ | exact Or.inr ⟨rfl, by decide⟩) (by first | assumption | omega | decide | exact Or.inl (by decide) | exact Or.inl rfl | exact Or.inr rfl | exact Or.inl ⟨rfl, by decide⟩ | exact Or.inr ⟨rfl, by decide⟩)
  · refine j_sipush X (v := (-10001)) (pc' := 12) dX5_bestForAll_9 (by decide) rfl ?_
    exact j_iretP X rfl rfl dX5_bestForAll_12
theorem c_X5_bestForAll (l : Launch) (D : va_G) (cI cH cO : ClassId) (h : Nat) (ar : Nat → Nat) (C : Cst) (x1 : Int32) (hIC : IM C) : MI l yX5_bestForAll cX5_bestForAll 9 (some .int) 1 D (tyl cI cH cO) [.ref h, .int x1] ((wM cI h ar C)) (sX5_bestForAll C x1) ((wM cI h ar C)) := fun sz => j_start (fun below s => (KP below [.ref h, .int x1].toArray s D (tyl cI cH cO) ((wM cI h ar C)))) (sX5_bestForAll C x1) (by decide +kernel) rfl (Nat.le_of_ble_eq_true rfl) (fun below s hs _ => by subst hs; rfl) (fun p e s m below meth c hX9 X => b_X5_bestForAll h ar C x1 hIC X)
