set_option maxHeartbeats 4000000 in
set_option maxRecDepth 100000 in
theorem b_X5_excludes {p : Program} {l : Launch} {e : Env} {s : State} {m : MethodId} {args : Array Value} {below : List Frame} {meth : Method} {c : Code} {D : va_G} {cI cH cO : ClassId} {ws0 : va_W} (h : Nat) (ar : Nat → Nat) (C : Cst) (x1 : Int32) (hIC : IM C) (X : CX p s m args meth c cX5_excludes 8 RX5 none D (tyl cI cH cO) (va_A ws0 s.heap.size)) : J p l e (rml 1) s m args below meth c 8 D (va_A ws0 s.heap.size) 0 0 (KV below args s D (tyl cI cH cO) ws0 (fun C9 => (wM cI h ar C9))) (sX5_excludes C x1) ((wM cI h ar C)) 0 [(0, .ref h), (1, .int x1)] [] := by
  unfold sX5_excludes
  refine j_ltl3 (fun L177 eL177 => ?_)
  have hL177 : ∀ (n177 : Nat) (C : Cst) (x3 : Int32) (i4 : Nat) (hIC : IM C) (hi : i4 ≤ 8) (hfu : 9 ≤ i4 + n177), J p l e (rml 1) s m args below meth c 8 D (va_A ws0 s.heap.size) 0 0 (KV below args s D (tyl cI cH cO) ws0 (fun C9 => (wM cI h ar C9))) (L177 n177 C x3 i4) ((wM cI h ar C)) 177 [(0, .ref h), (3, .int x3), (4, .int (nI i4))] [] := by
    intro n177
    induction n177 with
    | zero =>
      intro C x3 i4 hIC hi hfu
      exact absurd hfu (by omega)
    | succ n177 ih177 =>
      intro C x3 i4 hIC hi hfu
      rw [eL177]
      refine j_ltv (fun K259 eK259 => ?_)
      have hK259 : ∀ (C : Cst) (x3 : Int32) (i4 : Nat) (t0 : Int32) (t2 : Nat) (hIC : IM C) (hi : i4 < 8) (hfu : 9 ≤ i4 + (n177 + 1)) (ht2 : t2 < 8), J p l e (rml 1) s m args below meth c 8 D (va_A ws0 s.heap.size) 0 0 (KV below args s D (tyl cI cH cO) ws0 (fun C9 => (wM cI h ar C9))) (K259 C x3 i4 t0 t2) ((wM cI h ar C)) 259 [(0, .ref h), (3, .int x3), (4, .int (nI i4))] [.int t0, .int 6, .int (nI t2), .ref h] := by
        intro C x3 i4 t0 t2 hIC hi hfu ht2
        rw [eK259]
        refine j_callVv X (pc' := 262) (As := [.int (nI t2), .int 6, .int t0]) (rest := []) (c_X5_puts l D cI cH cO h ar C t2 6 t0 (by first | omega | assumption | decide | exact Or.inl (by decide) | exact Or.inr ⟨i6, by omega, rfl⟩ | exact Or.inr ⟨i5, by omega, rfl⟩ | (subst_vars; first | assumption | omega)) (by first | omega | assumption | decide | exact Or.inl (by decide) | exact Or.inr ⟨i6, by omega, rfl⟩ | exact Or.inr ⟨i5, by omega, rfl⟩ | (subst_vars; first | assumption | omega))) wv_X5_60 ⟨0, 5, _, _, rfl, rfl, rfl⟩ ⟨by decide, by decide, by decide, by decide⟩ rfl rfl (Nat.le_of_ble_eq_true rfl) dX5_excludes_259 rfl ?_
        refine j_stL (S := (sX5_puts C t2 6 t0)) (fun S_259 => (wM cI h ar S_259)) (fun S_259 eS_259 => ?_)
        have hIS_259 : IM S_259 := by rw [eS_259]; exact IM_puts hIC
        refine j_aload_n X (pc' := 263) 0 dX5_excludes_262 rfl rfl rfl ?_
        refine j_iload X (pc' := 265) 2 dX5_excludes_263 rfl rfl ?_
        refine j_bipush X (v := 7) (pc' := 267) dX5_excludes_265 (by decide) rfl ?_
        refine j_aload_n X (pc' := 268) 0 dX5_excludes_267 rfl rfl rfl ?_
        refine j_iload X (pc' := 270) 2 dX5_excludes_268 rfl rfl ?_
        refine j_bipush X (v := 7) (pc' := 272) dX5_excludes_270 (by decide) rfl ?_
        refine j_callVi X (pc' := 275) (As := [.int (nI i4), .int 7]) (rest := [.int 7, .int (nI i4), .ref h]) (c_X5_of l D cI cH cO h ar S_259 i4 7 (by first | omega | assumption | decide | exact Or.inl (by decide) | exact Or.inr ⟨i6, by omega, rfl⟩ | exact Or.inr ⟨i5, by omega, rfl⟩ | (subst_vars; first | assumption | omega)) (by first | omega | assumption | decide | exact Or.inl (by decide) | exact Or.inr ⟨i6, by omega, rfl⟩ | exact Or.inr ⟨i5, by omega, rfl⟩ | (subst_vars; first | assumption | omega))) wv_X5_39 ⟨0, 5, _, _, rfl, rfl, rfl⟩ ⟨by decide, by decide, by decide, by decide⟩ rfl rfl (Nat.le_of_ble_eq_true rfl) dX5_excludes_272 rfl ?_
        refine j_topL (fun r_272 er_272 => ?_)
        refine j_aload_n X (pc' := 276) 0 dX5_excludes_275 rfl rfl rfl ?_
        refine j_iload X (pc' := 278) 2 dX5_excludes_276 rfl rfl ?_
        refine j_bipush X (v := 6) (pc' := 280) dX5_excludes_278 (by decide) rfl ?_
        refine j_callVi X (pc' := 283) (As := [.int (nI i4), .int 6]) (rest := [.int r_272, .int 7, .int (nI i4), .ref h]) (c_X5_of l D cI cH cO h ar S_259 i4 6 (by first | omega | assumption | decide | exact Or.inl (by decide) | exact Or.inr ⟨i6, by omega, rfl⟩ | exact Or.inr ⟨i5, by omega, rfl⟩ | (subst_vars; first | assumption | omega)) (by first | omega | assumption | decide | exact Or.inl (by decide) | exact Or.inr ⟨i6, by omega, rfl⟩ | exact Or.inr ⟨i5, by omega, rfl⟩ | (subst_vars; first | assumption | omega))) wv_X5_39 ⟨0, 5, _, _, rfl, rfl, rfl⟩ ⟨by decide, by decide, by decide, by decide⟩ rfl rfl (Nat.le_of_ble_eq_true rfl) dX5_excludes_280 rfl ?_
        refine j_topL (fun r_280 er_280 => ?_)
        refine j_iadd X (pc' := 284) dX5_excludes_283 rfl ?_
        refine j_callVv X (pc' := 287) (As := [.int (nI i4), .int 7, .int (r_272 + r_280)]) (rest := []) (c_X5_puts l D cI cH cO h ar S_259 i4 7 (r_272 + r_280) (by first | omega | assumption | decide | exact Or.inl (by decide) | exact Or.inr ⟨i6, by omega, rfl⟩ | exact Or.inr ⟨i5, by omega, rfl⟩ | (subst_vars; first | assumption | omega)) (by first | omega | assumption | decide | exact Or.inl (by decide) | exact Or.inr ⟨i6, by omega, rfl⟩ | exact Or.inr ⟨i5, by omega, rfl⟩ | (subst_vars; first | assumption | omega))) wv_X5_60 ⟨0, 5, _, _, rfl, rfl, rfl⟩ ⟨by decide, by decide, by decide, by decide⟩ rfl rfl (Nat.le_of_ble_eq_true rfl) dX5_excludes_284 rfl ?_
        refine j_stL (S := (sX5_puts S_259 i4 7 (r_272 + r_280))) (fun S_284 => (wM cI h ar S_284)) (fun S_284 eS_284 => ?_)
        have hIS_284 : IM S_284 := by rw [eS_284]; exact IM_puts hIS_259
        refine j_iinc X (v := (nI (i4 + 1))) (lv' := [(0, .ref h), (3, .int x3), (4, .int (nI (i4 + 1)))]) (q := 2) (pc' := 290) [1, 2, 0] dX5_excludes_287 rfl (nI_1 i4) (by decide) rfl rfl ?_
        refine j_goto X (pc' := 177) dX5_excludes_290 (by decide) ?_
        refine j_lv [0, 1, 2] (lv' := [(0, .ref h), (3, .int x3), (4, .int (nI (i4 + 1)))]) rfl ?_
        exact ih177 _ _ _ hIS_284 (by first | omega | assumption | decide | exact Or.inl (by decide) | exact Or.inr ⟨i6, by omega, rfl⟩ | exact Or.inr ⟨i5, by omega, rfl⟩ | (subst_vars; first | assumption | omega)) (by first | omega | assumption | decide | exact Or.inl (by decide) | exact Or.inr ⟨i6, by omega, rfl⟩ | exact Or.inr ⟨i5, by omega, rfl⟩ | (subst_vars; first | assumption | omega))
      refine j_ltv (fun K254 eK254 => ?_)
      have hK254 : ∀ (C : Cst) (x3 : Int32) (i4 : Nat) (t1 : Nat) (hIC : IM C) (hi : i4 < 8) (hfu : 9 ≤ i4 + (n177 + 1)) (ht1 : t1 < 8), J p l e (rml 1) s m args below meth c 8 D (va_A ws0 s.heap.size) 0 0 (KV below args s D (tyl cI cH cO) ws0 (fun C9 => (wM cI h ar C9))) (K254 C x3 i4 t1) ((wM cI h ar C)) 254 [(0, .ref h), (3, .int x3), (4, .int (nI i4))] [.int 6, .int (nI t1), .ref h] := by
        intro C x3 i4 t1 hIC hi hfu ht1
        rw [eK254]
        refine j_iconst X (v := 1) (pc' := 255) dX5_excludes_254 (by decide) rfl ?_
        refine j_goto X (pc' := 259) dX5_excludes_255 (by decide) ?_
        refine j_lv [0, 1, 2] (lv' := [(0, .ref h), (3, .int x3), (4, .int (nI i4))]) rfl ?_
        exact hK259 _ _ _ _ _ hIC (by first | omega | assumption | decide | exact Or.inl (by decide) | exact Or.inr ⟨i6, by omega, rfl⟩ | exact Or.inr ⟨i5, by omega, rfl⟩ | (subst_vars; first | assumption | omega)) (by first | omega | assumption | decide | exact Or.inl (by decide) | exact Or.inr ⟨i6, by omega, rfl⟩ | exact Or.inr ⟨i5, by omega, rfl⟩ | (subst_vars; first | assumption | omega)) (by first | omega | assumption | decide | exact Or.inl (by decide) | exact Or.inr ⟨i6, by omega, rfl⟩ | exact Or.inr ⟨i5, by omega, rfl⟩ | (subst_vars; first | assumption | omega))
      refine j_ltv (fun K225 eK225 => ?_)
      have hK225 : ∀ (C : Cst) (x3 : Int32) (i4 : Nat) (x5 : Int32) (t0 : Int32) (t2 : Nat) (hIC : IM C) (hi : i4 < 8) (hfu : 9 ≤ i4 + (n177 + 1)) (ht2 : t2 < 8), J p l e (rml 1) s m args below meth c 8 D (va_A ws0 s.heap.size) 0 0 (KV below args s D (tyl cI cH cO) ws0 (fun C9 => (wM cI h ar C9))) (K225 C x3 i4 x5 t0 t2) ((wM cI h ar C)) 225 [(0, .ref h), (3, .int x3), (4, .int (nI i4)), (5, .int x5)] [.int t0, .int 5, .int (nI t2), .ref h] := by
        intro C x3 i4 x5 t0 t2 hIC hi hfu ht2
        rw [eK225]
        refine j_callVv X (pc' := 228) (As := [.int (nI t2), .int 5, .int t0]) (rest := []) (c_X5_puts l D cI cH cO h ar C t2 5 t0 (by first | omega | assumption | decide | exact Or.inl (by decide) | exact Or.inr ⟨i6, by omega, rfl⟩ | exact Or.inr ⟨i5, by omega, rfl⟩ | (subst_vars; first | assumption | omega)) (by first | omega | assumption | decide | exact Or.inl (by decide) | exact Or.inr ⟨i6, by omega, rfl⟩ | exact Or.inr ⟨i5, by omega, rfl⟩ | (subst_vars; first | assumption | omega))) wv_X5_60 ⟨0, 5, _, _, rfl, rfl, rfl⟩ ⟨by decide, by decide, by decide, by decide⟩ rfl rfl (Nat.le_of_ble_eq_true rfl) dX5_excludes_225 rfl ?_
        refine j_stL (S := (sX5_puts C t2 5 t0)) (fun S_225 => (wM cI h ar S_225)) (fun S_225 eS_225 => ?_)
        have hIS_225 : IM S_225 := by rw [eS_225]; exact IM_puts hIC
        refine j_aload_n X (pc' := 229) 0 dX5_excludes_228 rfl rfl rfl ?_
        refine j_iload X (pc' := 231) 2 dX5_excludes_229 rfl rfl ?_
        refine j_bipush X (v := 6) (pc' := 233) dX5_excludes_231 (by decide) rfl ?_
        refine j_iload X (pc' := 235) 3 dX5_excludes_233 rfl rfl ?_
        refine j_if_ne X (tgt := 254) (pc' := 238) dX5_excludes_235 (by decide) rfl (fun c_235 => ?_) (fun c_235 => ?_)
        · refine j_lv [0, 1, 2] (lv' := [(0, .ref h), (3, .int x3), (4, .int (nI i4))]) rfl ?_
          exact hK254 _ _ _ _ hIS_225 (by first | omega | assumption | decide | exact Or.inl (by decide) | exact Or.inr ⟨i6, by omega, rfl⟩ | exact Or.inr ⟨i5, by omega, rfl⟩ | (subst_vars; first | assumption | omega)) (by first | omega | assumption | decide | exact Or.inl (by decide) | exact Or.inr ⟨i6, by omega, rfl⟩ | exact Or.inr ⟨i5, by omega, rfl⟩ | (subst_vars; first | assumption | omega)) (by first | omega | assumption | decide | exact Or.inl (by decide) | exact Or.inr ⟨i6, by omega, rfl⟩ | exact Or.inr ⟨i5, by omega, rfl⟩ | (subst_vars; first | assumption | omega))
        · refine j_aload_n X (pc' := 239) 0 dX5_excludes_238 rfl rfl rfl ?_
          refine j_iload X (pc' := 241) 2 dX5_excludes_239 rfl rfl ?_
          refine j_iconst X (v := 2) (pc' := 242) dX5_excludes_241 (by decide) rfl ?_
          refine j_callVi X (pc' := 245) (As := [.int (nI i4), .int 2]) (rest := [.int 6, .int (nI i4), .ref h]) (c_X5_of l D cI cH cO h ar S_225 i4 2 (by first | omega | assumption | decide | exact Or.inl (by decide) | exact Or.inr ⟨i6, by omega, rfl⟩ | exact Or.inr ⟨i5, by omega, rfl⟩ | (subst_vars; first | assumption | omega)) (by first | omega | assumption | decide | exact Or.inl (by decide) | exact Or.inr ⟨i6, by omega, rfl⟩ | exact Or.inr ⟨i5, by omega, rfl⟩ | (subst_vars; first | assumption | omega))) wv_X5_39 ⟨0, 5, _, _, rfl, rfl, rfl⟩ ⟨by decide, by decide, by decide, by decide⟩ rfl rfl (Nat.le_of_ble_eq_true rfl) dX5_excludes_242 rfl ?_
          refine j_topL (fun r_242 er_242 => ?_)
          refine j_aload_n X (pc' := 246) 0 dX5_excludes_245 rfl rfl rfl ?_
          refine j_get X inX5 rfl (pc' := 249) 0 0 q_fl_X5_7 (by decide) rfl rfl dX5_excludes_246 rfl ?_
          refine j_iconst X (v := 3) (pc' := 250) dX5_excludes_249 (by decide) rfl ?_
          refine j_ialdN X (i := 3) (pc' := 251) 1 rfl (by omega) (by decide) dX5_excludes_250 rfl ?_
          refine j_icmp_le X (tgt := 258) (pc' := 254) dX5_excludes_251 (by decide) rfl (fun c_251 => ?_) (fun c_251 => ?_)
          · refine j_iconst X (v := 0) (pc' := 259) dX5_excludes_258 (by decide) rfl ?_
            refine j_lv [0, 1, 2] (lv' := [(0, .ref h), (3, .int x3), (4, .int (nI i4))]) rfl ?_
            exact hK259 _ _ _ _ _ hIS_225 (by first | omega | assumption | decide | exact Or.inl (by decide) | exact Or.inr ⟨i6, by omega, rfl⟩ | exact Or.inr ⟨i5, by omega, rfl⟩ | (subst_vars; first | assumption | omega)) (by first | omega | assumption | decide | exact Or.inl (by decide) | exact Or.inr ⟨i6, by omega, rfl⟩ | exact Or.inr ⟨i5, by omega, rfl⟩ | (subst_vars; first | assumption | omega)) (by first | omega | assumption | decide | exact Or.inl (by decide) | exact Or.inr ⟨i6, by omega, rfl⟩ | exact Or.inr ⟨i5, by omega, rfl⟩ | (subst_vars; first | assumption | omega))
          · refine j_lv [0, 1, 2] (lv' := [(0, .ref h), (3, .int x3), (4, .int (nI i4))]) rfl ?_
            exact hK254 _ _ _ _ hIS_225 (by first | omega | assumption | decide | exact Or.inl (by decide) | exact Or.inr ⟨i6, by omega, rfl⟩ | exact Or.inr ⟨i5, by omega, rfl⟩ | (subst_vars; first | assumption | omega)) (by first | omega | assumption | decide | exact Or.inl (by decide) | exact Or.inr ⟨i6, by omega, rfl⟩ | exact Or.inr ⟨i5, by omega, rfl⟩ | (subst_vars; first | assumption | omega)) (by first | omega | assumption | decide | exact Or.inl (by decide) | exact Or.inr ⟨i6, by omega, rfl⟩ | exact Or.inr ⟨i5, by omega, rfl⟩ | (subst_vars; first | assumption | omega))
      refine j_ltv (fun K203 eK203 => ?_)
      have hK203 : ∀ (C : Cst) (x3 : Int32) (i4 : Nat) (t0 : Int32) (hIC : IM C) (hi : i4 < 8) (hfu : 9 ≤ i4 + (n177 + 1)), J p l e (rml 1) s m args below meth c 8 D (va_A ws0 s.heap.size) 0 0 (KV below args s D (tyl cI cH cO) ws0 (fun C9 => (wM cI h ar C9))) (K203 C x3 i4 t0) ((wM cI h ar C)) 203 [(0, .ref h), (3, .int x3), (4, .int (nI i4))] [.int t0] := by
        intro C x3 i4 t0 hIC hi hfu
        rw [eK203]
        refine j_istore X (lv' := [(0, .ref h), (3, .int x3), (4, .int (nI i4)), (5, .int t0)]) (pc' := 205) [1, 2, 3, 0] dX5_excludes_203 (by decide) rfl rfl ?_
        refine j_aload_n X (pc' := 206) 0 dX5_excludes_205 rfl rfl rfl ?_
        refine j_iload X (pc' := 208) 2 dX5_excludes_206 rfl rfl ?_
        refine j_iconst X (v := 5) (pc' := 209) dX5_excludes_208 (by decide) rfl ?_
        refine j_iload X (pc' := 211) 3 dX5_excludes_209 rfl rfl ?_
        refine j_if_eq X (tgt := 218) (pc' := 214) dX5_excludes_211 (by decide) rfl (fun c_211 => ?_) (fun c_211 => ?_)
        · refine j_aload_n X (pc' := 219) 0 dX5_excludes_218 rfl rfl rfl ?_
          refine j_iload X (pc' := 221) 2 dX5_excludes_219 rfl rfl ?_
          refine j_iconst X (v := 5) (pc' := 222) dX5_excludes_221 (by decide) rfl ?_
          refine j_callVi X (pc' := 225) (As := [.int (nI i4), .int 5]) (rest := [.int 5, .int (nI i4), .ref h]) (c_X5_of l D cI cH cO h ar C i4 5 (by first | omega | assumption | decide | exact Or.inl (by decide) | exact Or.inr ⟨i6, by omega, rfl⟩ | exact Or.inr ⟨i5, by omega, rfl⟩ | (subst_vars; first | assumption | omega)) (by first | omega | assumption | decide | exact Or.inl (by decide) | exact Or.inr ⟨i6, by omega, rfl⟩ | exact Or.inr ⟨i5, by omega, rfl⟩ | (subst_vars; first | assumption | omega))) wv_X5_39 ⟨0, 5, _, _, rfl, rfl, rfl⟩ ⟨by decide, by decide, by decide, by decide⟩ rfl rfl (Nat.le_of_ble_eq_true rfl) dX5_excludes_222 rfl ?_
          refine j_topL (fun r_222 er_222 => ?_)
          refine j_lv [0, 1, 2, 3] (lv' := [(0, .ref h), (3, .int x3), (4, .int (nI i4)), (5, .int t0)]) rfl ?_
          exact hK225 _ _ _ _ _ _ hIC (by first | omega | assumption | decide | exact Or.inl (by decide) | exact Or.inr ⟨i6, by omega, rfl⟩ | exact Or.inr ⟨i5, by omega, rfl⟩ | (subst_vars; first | assumption | omega)) (by first | omega | assumption | decide | exact Or.inl (by decide) | exact Or.inr ⟨i6, by omega, rfl⟩ | exact Or.inr ⟨i5, by omega, rfl⟩ | (subst_vars; first | assumption | omega)) (by first | omega | assumption | decide | exact Or.inl (by decide) | exact Or.inr ⟨i6, by omega, rfl⟩ | exact Or.inr ⟨i5, by omega, rfl⟩ | (subst_vars; first | assumption | omega))
        · refine j_iconst X (v := 0) (pc' := 215) dX5_excludes_214 (by decide) rfl ?_
          refine j_goto X (pc' := 225) dX5_excludes_215 (by decide) ?_
          refine j_lv [0, 1, 2, 3] (lv' := [(0, .ref h), (3, .int x3), (4, .int (nI i4)), (5, .int t0)]) rfl ?_
          exact hK225 _ _ _ _ _ _ hIC (by first | omega | assumption | decide | exact Or.inl (by decide) | exact Or.inr ⟨i6, by omega, rfl⟩ | exact Or.inr ⟨i5, by omega, rfl⟩ | (subst_vars; first | assumption | omega)) (by first | omega | assumption | decide | exact Or.inl (by decide) | exact Or.inr ⟨i6, by omega, rfl⟩ | exact Or.inr ⟨i5, by omega, rfl⟩ | (subst_vars; first | assumption | omega)) (by first | omega | assumption | decide | exact Or.inl (by decide) | exact Or.inr ⟨i6, by omega, rfl⟩ | exact Or.inr ⟨i5, by omega, rfl⟩ | (subst_vars; first | assumption | omega))
      refine j_iload X (pc' := 179) 2 dX5_excludes_177 rfl rfl ?_
      refine j_aload_n X (pc' := 180) 0 dX5_excludes_179 rfl rfl rfl ?_
      refine j_get X inX5 rfl (pc' := 183) 0 0 q_fl_X5_7 (by decide) rfl rfl dX5_excludes_180 rfl ?_
      refine j_iconst X (v := 5) (pc' := 184) dX5_excludes_183 (by decide) rfl ?_
      refine j_ialdN X (i := 5) (pc' := 185) 1 rfl (by omega) (by decide) dX5_excludes_184 rfl ?_
      refine j_icmp_ge X (tgt := 293) (pc' := 188) dX5_excludes_185 (by decide) rfl (fun c_185 => ?_) (fun c_185 => ?_)
      · exact j_vret X rfl dX5_excludes_293
      · have hb_185 : i4 < 8 := i32_lt8 c_185 hIC.2.1 (by omega)
        refine j_iload_n X (pc' := 189) 1 dX5_excludes_188 rfl rfl rfl ?_
        refine j_iload X (pc' := 191) 2 dX5_excludes_189 rfl rfl ?_
        refine j_ishr X (pc' := 192) dX5_excludes_191 rfl ?_
        refine j_iconst X (v := 1) (pc' := 193) dX5_excludes_192 (by decide) rfl ?_
        refine j_iand X (pc' := 194) dX5_excludes_193 rfl ?_
        refine j_iconst X (v := 1) (pc' := 195) dX5_excludes_194 (by decide) rfl ?_
        refine j_icmp_ne X (tgt := 202) (pc' := 198) dX5_excludes_195 (by decide) rfl (fun c_195 => ?_) (fun c_195 => ?_)
        · refine j_iconst X (v := 0) (pc' := 203) dX5_excludes_202 (by decide) rfl ?_
          refine j_lv [0, 1, 2] (lv' := [(0, .ref h), (3, .int x3), (4, .int (nI i4))]) rfl ?_
          exact hK203 _ _ _ _ hIC (by first | omega | assumption | decide | exact Or.inl (by decide) | exact Or.inr ⟨i6, by omega, rfl⟩ | exact Or.inr ⟨i5, by omega, rfl⟩ | (subst_vars; first | assumption | omega)) (by first | omega | assumption | decide | exact Or.inl (by decide) | exact Or.inr ⟨i6, by omega, rfl⟩ | exact Or.inr ⟨i5, by omega, rfl⟩ | (subst_vars; first | assumption | omega))
        · refine j_iconst X (v := 1) (pc' := 199) dX5_excludes_198 (by decide) rfl ?_
          refine j_goto X (pc' := 203) dX5_excludes_199 (by decide) ?_
          refine j_lv [0, 1, 2] (lv' := [(0, .ref h), (3, .int x3), (4, .int (nI i4))]) rfl ?_
          exact hK203 _ _ _ _ hIC (by first | omega | assumption | decide | exact Or.inl (by decide) | exact Or.inr ⟨i6, by omega, rfl⟩ | exact Or.inr ⟨i5, by omega, rfl⟩ | (subst_vars; first | assumption | omega)) (by first | omega | assumption | decide | exact Or.inl (by decide) | exact Or.inr ⟨i6, by omega, rfl⟩ | exact Or.inr ⟨i5, by omega, rfl⟩ | (subst_vars; first | assumption | omega))
  refine j_ltv (fun K174 eK174 => ?_)
  have hK174 : ∀ (C : Cst) (x3 : Int32) (hIC : IM C), J p l e (rml 1) s m args below meth c 8 D (va_A ws0 s.heap.size) 0 0 (KV below args s D (tyl cI cH cO) ws0 (fun C9 => (wM cI h ar C9))) (K174 C x3) ((wM cI h ar C)) 174 [(0, .ref h), (3, .int x3)] [] := by
    intro C x3 hIC
    rw [eK174]
    refine j_iconst X (v := 0) (pc' := 175) dX5_excludes_174 (by decide) rfl ?_
    refine j_istore X (lv' := [(0, .ref h), (3, .int x3), (4, .int 0)]) (pc' := 177) [1, 2, 0] dX5_excludes_175 (by decide) rfl rfl ?_
    refine j_lv [0, 1, 2] (lv' := [(0, .ref h), (3, .int x3), (4, .int 0)]) rfl ?_
    exact hL177 _ _ _ _ hIC (by first | omega | assumption | decide | exact Or.inl (by decide) | exact Or.inr ⟨i6, by omega, rfl⟩ | exact Or.inr ⟨i5, by omega, rfl⟩ | (subst_vars; first | assumption | omega)) (by first | omega | assumption | decide | exact Or.inl (by decide) | exact Or.inr ⟨i6, by omega, rfl⟩ | exact Or.inr ⟨i5, by omega, rfl⟩ | (subst_vars; first | assumption | omega))
  refine j_ltl5 (fun L71 eL71 => ?_)
  have hL71 : ∀ (n71 : Nat) (C : Cst) (x1 : Int32) (x2 : Int32) (x3 : Int32) (i4 : Nat) (hIC : IM C) (hi : i4 ≤ x2.toNatClampNeg) (hfu : x2.toNatClampNeg + 1 ≤ i4 + n71), J p l e (rml 1) s m args below meth c 8 D (va_A ws0 s.heap.size) 0 0 (KV below args s D (tyl cI cH cO) ws0 (fun C9 => (wM cI h ar C9))) (L71 n71 C x1 x2 x3 i4) ((wM cI h ar C)) 71 [(0, .ref h), (1, .int x1), (2, .int x2), (3, .int x3), (4, .int (nI i4))] [] := by
    intro n71
    induction n71 with
    | zero =>
      intro C x1 x2 x3 i4 hIC hi hfu
      exact absurd hfu (by omega)
    | succ n71 ih71 =>
      intro C x1 x2 x3 i4 hIC hi hfu
      rw [eL71]
      refine j_ltv (fun K168 eK168 => ?_)
      have hK168 : ∀ (C : Cst) (x1 : Int32) (x2 : Int32) (x3 : Int32) (i4 : Nat) (hIC : IM C) (hb71 : i4 < x2.toNatClampNeg) (hf71 : x2.toNatClampNeg + 1 ≤ i4 + (n71 + 1)), J p l e (rml 1) s m args below meth c 8 D (va_A ws0 s.heap.size) 0 0 (KV below args s D (tyl cI cH cO) ws0 (fun C9 => (wM cI h ar C9))) (K168 C x1 x2 x3 i4) ((wM cI h ar C)) 168 [(0, .ref h), (1, .int x1), (2, .int x2), (3, .int x3), (4, .int (nI i4))] [] := by
        intro C x1 x2 x3 i4 hIC hb71 hf71
        rw [eK168]
        refine j_iinc X (v := (nI (i4 + 1))) (lv' := [(0, .ref h), (1, .int x1), (2, .int x2), (3, .int x3), (4, .int (nI (i4 + 1)))]) (q := 4) (pc' := 171) [1, 2, 3, 4, 0] dX5_excludes_168 rfl (nI_1 i4) (by decide) rfl rfl ?_
        refine j_goto X (pc' := 71) dX5_excludes_171 (by decide) ?_
        refine j_lv [0, 1, 2, 3, 4] (lv' := [(0, .ref h), (1, .int x1), (2, .int x2), (3, .int x3), (4, .int (nI (i4 + 1)))]) rfl ?_
        exact ih71 _ _ _ _ _ hIC (by first | omega | assumption | decide | exact Or.inl (by decide) | exact Or.inr ⟨i6, by omega, rfl⟩ | exact Or.inr ⟨i5, by omega, rfl⟩ | (subst_vars; first | assumption | omega)) (by first | omega | assumption | decide | exact Or.inl (by decide) | exact Or.inr ⟨i6, by omega, rfl⟩ | exact Or.inr ⟨i5, by omega, rfl⟩ | (subst_vars; first | assumption | omega))
      refine j_ltv (fun K156 eK156 => ?_)
      have hK156 : ∀ (C : Cst) (x1 : Int32) (x2 : Int32) (x3 : Int32) (i4 : Nat) (x5 : Int32) (hIC : IM C) (hb71 : i4 < x2.toNatClampNeg) (hf71 : x2.toNatClampNeg + 1 ≤ i4 + (n71 + 1)) (hfd : x5 < 0 ∨ ∃ j : Nat, j < 8 ∧ x5 = nI j), J p l e (rml 1) s m args below meth c 8 D (va_A ws0 s.heap.size) 0 0 (KV below args s D (tyl cI cH cO) ws0 (fun C9 => (wM cI h ar C9))) (K156 C x1 x2 x3 i4 x5) ((wM cI h ar C)) 156 [(0, .ref h), (1, .int x1), (2, .int x2), (3, .int x3), (4, .int (nI i4)), (5, .int x5)] [] := by
        intro C x1 x2 x3 i4 x5 hIC hb71 hf71 hfd
        rw [eK156]
        refine j_iload X (pc' := 158) 5 dX5_excludes_156 rfl rfl ?_
        refine j_if_lt X (tgt := 168) (pc' := 161) dX5_excludes_158 (by decide) rfl (fun c_158 => ?_) (fun c_158 => ?_)
        · refine j_lv [0, 1, 2, 3, 4] (lv' := [(0, .ref h), (1, .int x1), (2, .int x2), (3, .int x3), (4, .int (nI i4))]) rfl ?_
          exact hK168 _ _ _ _ _ hIC (by first | omega | assumption | decide | exact Or.inl (by decide) | exact Or.inr ⟨i6, by omega, rfl⟩ | exact Or.inr ⟨i5, by omega, rfl⟩ | (subst_vars; first | assumption | omega)) (by first | omega | assumption | decide | exact Or.inl (by decide) | exact Or.inr ⟨i6, by omega, rfl⟩ | exact Or.inr ⟨i5, by omega, rfl⟩ | (subst_vars; first | assumption | omega))
        · refine j_iload_n X (pc' := 162) 3 dX5_excludes_161 rfl rfl rfl ?_
          refine j_iconst X (v := 1) (pc' := 163) dX5_excludes_162 (by decide) rfl ?_
          refine j_iload X (pc' := 165) 5 dX5_excludes_163 rfl rfl ?_
          refine j_ishl X (pc' := 166) dX5_excludes_165 rfl ?_
          refine j_ior X (pc' := 167) dX5_excludes_166 rfl ?_
          refine j_istore_nL X (fun v3_167 => [(0, .ref h), (1, .int x1), (2, .int x2), (3, .int v3_167), (4, .int (nI i4)), (5, .int x5)]) [1, 2, 3, 0, 4, 5] (pc' := 168) dX5_excludes_167 rfl (by decide) (fun _ => rfl) rfl (fun v3_167 ev3_167 => ?_)
          refine j_lv [0, 1, 2, 3, 4] (lv' := [(0, .ref h), (1, .int x1), (2, .int x2), (3, .int v3_167), (4, .int (nI i4))]) rfl ?_
          exact hK168 _ _ _ _ _ hIC (by first | omega | assumption | decide | exact Or.inl (by decide) | exact Or.inr ⟨i6, by omega, rfl⟩ | exact Or.inr ⟨i5, by omega, rfl⟩ | (subst_vars; first | assumption | omega)) (by first | omega | assumption | decide | exact Or.inl (by decide) | exact Or.inr ⟨i6, by omega, rfl⟩ | exact Or.inr ⟨i5, by omega, rfl⟩ | (subst_vars; first | assumption | omega))
      refine j_ltl7 (fun L85 eL85 => ?_)
      have hL85 : ∀ (n85 : Nat) (C : Cst) (x1 : Int32) (x2 : Int32) (x3 : Int32) (i4 : Nat) (x5 : Int32) (i6 : Nat) (hIC : IM C) (hi : i6 ≤ 8) (hfu : 9 ≤ i6 + n85) (hfd : x5 < 0 ∨ ∃ j : Nat, j < 8 ∧ x5 = nI j) (hb71 : i4 < x2.toNatClampNeg) (hf71 : x2.toNatClampNeg + 1 ≤ i4 + (n71 + 1)), J p l e (rml 1) s m args below meth c 8 D (va_A ws0 s.heap.size) 0 0 (KV below args s D (tyl cI cH cO) ws0 (fun C9 => (wM cI h ar C9))) (L85 n85 C x1 x2 x3 i4 x5 i6) ((wM cI h ar C)) 85 [(0, .ref h), (1, .int x1), (2, .int x2), (3, .int x3), (4, .int (nI i4)), (5, .int x5), (6, .int (nI i6))] [] := by
        intro n85
        induction n85 with
        | zero =>
          intro C x1 x2 x3 i4 x5 i6 hIC hi hfu hfd hb71 hf71
          exact absurd hfu (by omega)
        | succ n85 ih85 =>
          intro C x1 x2 x3 i4 x5 i6 hIC hi hfu hfd hb71 hf71
          rw [eL85]
          refine j_ltv (fun K148 eK148 => ?_)
          have hK148 : ∀ (C : Cst) (x1 : Int32) (x2 : Int32) (x3 : Int32) (i4 : Nat) (i6 : Nat) (t0 : Int32) (hIC : IM C) (hi : i6 < 8) (hfu : 9 ≤ i6 + (n85 + 1)) (hfd0 : t0 < 0 ∨ ∃ j : Nat, j < 8 ∧ t0 = nI j) (hb71 : i4 < x2.toNatClampNeg) (hf71 : x2.toNatClampNeg + 1 ≤ i4 + (n71 + 1)), J p l e (rml 1) s m args below meth c 8 D (va_A ws0 s.heap.size) 0 0 (KV below args s D (tyl cI cH cO) ws0 (fun C9 => (wM cI h ar C9))) (K148 C x1 x2 x3 i4 i6 t0) ((wM cI h ar C)) 148 [(0, .ref h), (1, .int x1), (2, .int x2), (3, .int x3), (4, .int (nI i4)), (6, .int (nI i6))] [.int t0] := by
            intro C x1 x2 x3 i4 i6 t0 hIC hi hfu hfd0 hb71 hf71
            rw [eK148]
            refine j_istore X (lv' := [(0, .ref h), (1, .int x1), (2, .int x2), (3, .int x3), (4, .int (nI i4)), (5, .int t0), (6, .int (nI i6))]) (pc' := 150) [1, 2, 3, 4, 5, 0, 6] dX5_excludes_148 (by decide) rfl rfl ?_
            refine j_iinc X (v := (nI (i6 + 1))) (lv' := [(0, .ref h), (1, .int x1), (2, .int x2), (3, .int x3), (4, .int (nI i4)), (5, .int t0), (6, .int (nI (i6 + 1)))]) (q := 6) (pc' := 153) [1, 2, 3, 4, 5, 6, 0] dX5_excludes_150 rfl (nI_1 i6) (by decide) rfl rfl ?_
            refine j_goto X (pc' := 85) dX5_excludes_153 (by decide) ?_
            refine j_lv [0, 1, 2, 3, 4, 5, 6] (lv' := [(0, .ref h), (1, .int x1), (2, .int x2), (3, .int x3), (4, .int (nI i4)), (5, .int t0), (6, .int (nI (i6 + 1)))]) rfl ?_
            exact ih85 _ _ _ _ _ _ _ hIC (by first | omega | assumption | decide | exact Or.inl (by decide) | exact Or.inr ⟨i6, by omega, rfl⟩ | exact Or.inr ⟨i5, by omega, rfl⟩ | (subst_vars; first | assumption | omega)) (by first | omega | assumption | decide | exact Or.inl (by decide) | exact Or.inr ⟨i6, by omega, rfl⟩ | exact Or.inr ⟨i5, by omega, rfl⟩ | (subst_vars; first | assumption | omega)) (by first | omega | assumption | decide | exact Or.inl (by decide) | exact Or.inr ⟨i6, by omega, rfl⟩ | exact Or.inr ⟨i5, by omega, rfl⟩ | (subst_vars; first | assumption | omega)) (by first | omega | assumption | decide | exact Or.inl (by decide) | exact Or.inr ⟨i6, by omega, rfl⟩ | exact Or.inr ⟨i5, by omega, rfl⟩ | (subst_vars; first | assumption | omega)) (by first | omega | assumption | decide | exact Or.inl (by decide) | exact Or.inr ⟨i6, by omega, rfl⟩ | exact Or.inr ⟨i5, by omega, rfl⟩ | (subst_vars; first | assumption | omega))
          refine j_ltv (fun K146 eK146 => ?_)
          have hK146 : ∀ (C : Cst) (x1 : Int32) (x2 : Int32) (x3 : Int32) (i4 : Nat) (x5 : Int32) (i6 : Nat) (hIC : IM C) (hi : i6 < 8) (hfu : 9 ≤ i6 + (n85 + 1)) (hfd : x5 < 0 ∨ ∃ j : Nat, j < 8 ∧ x5 = nI j) (hb71 : i4 < x2.toNatClampNeg) (hf71 : x2.toNatClampNeg + 1 ≤ i4 + (n71 + 1)), J p l e (rml 1) s m args below meth c 8 D (va_A ws0 s.heap.size) 0 0 (KV below args s D (tyl cI cH cO) ws0 (fun C9 => (wM cI h ar C9))) (K146 C x1 x2 x3 i4 x5 i6) ((wM cI h ar C)) 146 [(0, .ref h), (1, .int x1), (2, .int x2), (3, .int x3), (4, .int (nI i4)), (5, .int x5), (6, .int (nI i6))] [] := by
            intro C x1 x2 x3 i4 x5 i6 hIC hi hfu hfd hb71 hf71
            rw [eK146]
            refine j_iload X (pc' := 148) 5 dX5_excludes_146 rfl rfl ?_
            refine j_lv [0, 1, 2, 3, 4, 6] (lv' := [(0, .ref h), (1, .int x1), (2, .int x2), (3, .int x3), (4, .int (nI i4)), (6, .int (nI i6))]) rfl ?_
            exact hK148 _ _ _ _ _ _ _ hIC (by first | omega | assumption | decide | exact Or.inl (by decide) | exact Or.inr ⟨i6, by omega, rfl⟩ | exact Or.inr ⟨i5, by omega, rfl⟩ | (subst_vars; first | assumption | omega)) (by first | omega | assumption | decide | exact Or.inl (by decide) | exact Or.inr ⟨i6, by omega, rfl⟩ | exact Or.inr ⟨i5, by omega, rfl⟩ | (subst_vars; first | assumption | omega)) (by first | omega | assumption | decide | exact Or.inl (by decide) | exact Or.inr ⟨i6, by omega, rfl⟩ | exact Or.inr ⟨i5, by omega, rfl⟩ | (subst_vars; first | assumption | omega)) (by first | omega | assumption | decide | exact Or.inl (by decide) | exact Or.inr ⟨i6, by omega, rfl⟩ | exact Or.inr ⟨i5, by omega, rfl⟩ | (subst_vars; first | assumption | omega)) (by first | omega | assumption | decide | exact Or.inl (by decide) | exact Or.inr ⟨i6, by omega, rfl⟩ | exact Or.inr ⟨i5, by omega, rfl⟩ | (subst_vars; first | assumption | omega))
          refine j_ltv (fun K141 eK141 => ?_)
          have hK141 : ∀ (C : Cst) (x1 : Int32) (x2 : Int32) (x3 : Int32) (i4 : Nat) (i6 : Nat) (hIC : IM C) (hi : i6 < 8) (hfu : 9 ≤ i6 + (n85 + 1)) (hb71 : i4 < x2.toNatClampNeg) (hf71 : x2.toNatClampNeg + 1 ≤ i4 + (n71 + 1)), J p l e (rml 1) s m args below meth c 8 D (va_A ws0 s.heap.size) 0 0 (KV below args s D (tyl cI cH cO) ws0 (fun C9 => (wM cI h ar C9))) (K141 C x1 x2 x3 i4 i6) ((wM cI h ar C)) 141 [(0, .ref h), (1, .int x1), (2, .int x2), (3, .int x3), (4, .int (nI i4)), (6, .int (nI i6))] [] := by
            intro C x1 x2 x3 i4 i6 hIC hi hfu hb71 hf71
            rw [eK141]
            refine j_iload X (pc' := 143) 5 dX5_excludes_141 rfl rfl ?_
            refine j_goto X (pc' := 148) dX5_excludes_143 (by decide) ?_
            refine j_lv [0, 1, 2, 3, 4, 5] (lv' := [(0, .ref h), (1, .int x1), (2, .int x2), (3, .int x3), (4, .int (nI i4)), (6, .int (nI i6))]) rfl ?_
            exact hK148 _ _ _ _ _ _ _ hIC (by first | omega | assumption | decide | exact Or.inl (by decide) | exact Or.inr ⟨i6, by omega, rfl⟩ | exact Or.inr ⟨i5, by omega, rfl⟩ | (subst_vars; first | assumption | omega)) (by first | omega | assumption | decide | exact Or.inl (by decide) | exact Or.inr ⟨i6, by omega, rfl⟩ | exact Or.inr ⟨i5, by omega, rfl⟩ | (subst_vars; first | assumption | omega)) (by first | omega | assumption | decide | exact Or.inl (by decide) | exact Or.inr ⟨i6, by omega, rfl⟩ | exact Or.inr ⟨i5, by omega, rfl⟩ | (subst_vars; first | assumption | omega)) (by first | omega | assumption | decide | exact Or.inl (by decide) | exact Or.inr ⟨i6, by omega, rfl⟩ | exact Or.inr ⟨i5, by omega, rfl⟩ | (subst_vars; first | assumption | omega)) (by first | omega | assumption | decide | exact Or.inl (by decide) | exact Or.inr ⟨i6, by omega, rfl⟩ | exact Or.inr ⟨i5, by omega, rfl⟩ | (subst_vars; first | assumption | omega))
          refine j_ltv (fun K124 eK124 => ?_)
          have hK124 : ∀ (C : Cst) (x1 : Int32) (x2 : Int32) (x3 : Int32) (i4 : Nat) (i5 : Nat) (i6 : Nat) (hIC : IM C) (hi : i6 < 8) (hfu : 9 ≤ i6 + (n85 + 1)) (hi5 : i5 < 8) (hb71 : i4 < x2.toNatClampNeg) (hf71 : x2.toNatClampNeg + 1 ≤ i4 + (n71 + 1)), J p l e (rml 1) s m args below meth c 8 D (va_A ws0 s.heap.size) 0 0 (KV below args s D (tyl cI cH cO) ws0 (fun C9 => (wM cI h ar C9))) (K124 C x1 x2 x3 i4 i5 i6) ((wM cI h ar C)) 124 [(0, .ref h), (1, .int x1), (2, .int x2), (3, .int x3), (4, .int (nI i4)), (5, .int (nI i5)), (6, .int (nI i6))] [] := by
            intro C x1 x2 x3 i4 i5 i6 hIC hi hfu hi5 hb71 hf71
            rw [eK124]
            refine j_aload_n X (pc' := 125) 0 dX5_excludes_124 rfl rfl rfl ?_
            refine j_iload X (pc' := 127) 6 dX5_excludes_125 rfl rfl ?_
            refine j_iconst X (v := 5) (pc' := 128) dX5_excludes_127 (by decide) rfl ?_
            refine j_callVi X (pc' := 131) (As := [.int (nI i6), .int 5]) (rest := []) (c_X5_of l D cI cH cO h ar C i6 5 (by first | omega | assumption | decide | exact Or.inl (by decide) | exact Or.inr ⟨i6, by omega, rfl⟩ | exact Or.inr ⟨i5, by omega, rfl⟩ | (subst_vars; first | assumption | omega)) (by first | omega | assumption | decide | exact Or.inl (by decide) | exact Or.inr ⟨i6, by omega, rfl⟩ | exact Or.inr ⟨i5, by omega, rfl⟩ | (subst_vars; first | assumption | omega))) wv_X5_39 ⟨0, 5, _, _, rfl, rfl, rfl⟩ ⟨by decide, by decide, by decide, by decide⟩ rfl rfl (Nat.le_of_ble_eq_true rfl) dX5_excludes_128 rfl ?_
            refine j_topL (fun r_128 er_128 => ?_)
            refine j_aload_n X (pc' := 132) 0 dX5_excludes_131 rfl rfl rfl ?_
            refine j_iload X (pc' := 134) 5 dX5_excludes_132 rfl rfl ?_
            refine j_iconst X (v := 5) (pc' := 135) dX5_excludes_134 (by decide) rfl ?_
            refine j_callVi X (pc' := 138) (As := [.int (nI i5), .int 5]) (rest := [.int r_128]) (c_X5_of l D cI cH cO h ar C i5 5 (by first | omega | assumption | decide | exact Or.inl (by decide) | exact Or.inr ⟨i6, by omega, rfl⟩ | exact Or.inr ⟨i5, by omega, rfl⟩ | (subst_vars; first | assumption | omega)) (by first | omega | assumption | decide | exact Or.inl (by decide) | exact Or.inr ⟨i6, by omega, rfl⟩ | exact Or.inr ⟨i5, by omega, rfl⟩ | (subst_vars; first | assumption | omega))) wv_X5_39 ⟨0, 5, _, _, rfl, rfl, rfl⟩ ⟨by decide, by decide, by decide, by decide⟩ rfl rfl (Nat.le_of_ble_eq_true rfl) dX5_excludes_135 rfl ?_
            refine j_topL (fun r_135 er_135 => ?_)
            refine j_icmp_le X (tgt := 146) (pc' := 141) dX5_excludes_138 (by decide) rfl (fun c_138 => ?_) (fun c_138 => ?_)
            · refine j_lv [0, 1, 2, 3, 4, 5, 6] (lv' := [(0, .ref h), (1, .int x1), (2, .int x2), (3, .int x3), (4, .int (nI i4)), (5, .int (nI i5)), (6, .int (nI i6))]) rfl ?_
              exact hK146 _ _ _ _ _ _ _ hIC (by first | omega | assumption | decide | exact Or.inl (by decide) | exact Or.inr ⟨i6, by omega, rfl⟩ | exact Or.inr ⟨i5, by omega, rfl⟩ | (subst_vars; first | assumption | omega)) (by first | omega | assumption | decide | exact Or.inl (by decide) | exact Or.inr ⟨i6, by omega, rfl⟩ | exact Or.inr ⟨i5, by omega, rfl⟩ | (subst_vars; first | assumption | omega)) (by first | omega | assumption | decide | exact Or.inl (by decide) | exact Or.inr ⟨i6, by omega, rfl⟩ | exact Or.inr ⟨i5, by omega, rfl⟩ | (subst_vars; first | assumption | omega)) (by first | omega | assumption | decide | exact Or.inl (by decide) | exact Or.inr ⟨i6, by omega, rfl⟩ | exact Or.inr ⟨i5, by omega, rfl⟩ | (subst_vars; first | assumption | omega)) (by first | omega | assumption | decide | exact Or.inl (by decide) | exact Or.inr ⟨i6, by omega, rfl⟩ | exact Or.inr ⟨i5, by omega, rfl⟩ | (subst_vars; first | assumption | omega))
            · refine j_lv [0, 1, 2, 3, 4, 6] (lv' := [(0, .ref h), (1, .int x1), (2, .int x2), (3, .int x3), (4, .int (nI i4)), (6, .int (nI i6))]) rfl ?_
              exact hK141 _ _ _ _ _ _ hIC (by first | omega | assumption | decide | exact Or.inl (by decide) | exact Or.inr ⟨i6, by omega, rfl⟩ | exact Or.inr ⟨i5, by omega, rfl⟩ | (subst_vars; first | assumption | omega)) (by first | omega | assumption | decide | exact Or.inl (by decide) | exact Or.inr ⟨i6, by omega, rfl⟩ | exact Or.inr ⟨i5, by omega, rfl⟩ | (subst_vars; first | assumption | omega)) (by first | omega | assumption | decide | exact Or.inl (by decide) | exact Or.inr ⟨i6, by omega, rfl⟩ | exact Or.inr ⟨i5, by omega, rfl⟩ | (subst_vars; first | assumption | omega)) (by first | omega | assumption | decide | exact Or.inl (by decide) | exact Or.inr ⟨i6, by omega, rfl⟩ | exact Or.inr ⟨i5, by omega, rfl⟩ | (subst_vars; first | assumption | omega))
          refine j_ltv (fun K112 eK112 => ?_)
          have hK112 : ∀ (C : Cst) (x1 : Int32) (x2 : Int32) (x3 : Int32) (i4 : Nat) (x5 : Int32) (i6 : Nat) (t0 : Int32) (hIC : IM C) (hi : i6 < 8) (hfu : 9 ≤ i6 + (n85 + 1)) (hfd : x5 < 0 ∨ ∃ j : Nat, j < 8 ∧ x5 = nI j) (hb71 : i4 < x2.toNatClampNeg) (hf71 : x2.toNatClampNeg + 1 ≤ i4 + (n71 + 1)), J p l e (rml 1) s m args below meth c 8 D (va_A ws0 s.heap.size) 0 0 (KV below args s D (tyl cI cH cO) ws0 (fun C9 => (wM cI h ar C9))) (K112 C x1 x2 x3 i4 x5 i6 t0) ((wM cI h ar C)) 112 [(0, .ref h), (1, .int x1), (2, .int x2), (3, .int x3), (4, .int (nI i4)), (5, .int x5), (6, .int (nI i6))] [.int t0] := by
            intro C x1 x2 x3 i4 x5 i6 t0 hIC hi hfu hfd hb71 hf71
            rw [eK112]
            refine j_istore X (lv' := [(0, .ref h), (1, .int x1), (2, .int x2), (3, .int x3), (4, .int (nI i4)), (5, .int x5), (6, .int (nI i6)), (7, .int t0)]) (pc' := 114) [1, 2, 3, 4, 5, 6, 7, 0] dX5_excludes_112 (by decide) rfl rfl ?_
            refine j_iload X (pc' := 116) 7 dX5_excludes_114 rfl rfl ?_
            refine j_if_eq X (tgt := 146) (pc' := 119) dX5_excludes_116 (by decide) rfl (fun c_116 => ?_) (fun c_116 => ?_)
            · refine j_lv [0, 1, 2, 3, 4, 5, 6] (lv' := [(0, .ref h), (1, .int x1), (2, .int x2), (3, .int x3), (4, .int (nI i4)), (5, .int x5), (6, .int (nI i6))]) rfl ?_
              exact hK146 _ _ _ _ _ _ _ hIC (by first | omega | assumption | decide | exact Or.inl (by decide) | exact Or.inr ⟨i6, by omega, rfl⟩ | exact Or.inr ⟨i5, by omega, rfl⟩ | (subst_vars; first | assumption | omega)) (by first | omega | assumption | decide | exact Or.inl (by decide) | exact Or.inr ⟨i6, by omega, rfl⟩ | exact Or.inr ⟨i5, by omega, rfl⟩ | (subst_vars; first | assumption | omega)) (by first | omega | assumption | decide | exact Or.inl (by decide) | exact Or.inr ⟨i6, by omega, rfl⟩ | exact Or.inr ⟨i5, by omega, rfl⟩ | (subst_vars; first | assumption | omega)) (by first | omega | assumption | decide | exact Or.inl (by decide) | exact Or.inr ⟨i6, by omega, rfl⟩ | exact Or.inr ⟨i5, by omega, rfl⟩ | (subst_vars; first | assumption | omega)) (by first | omega | assumption | decide | exact Or.inl (by decide) | exact Or.inr ⟨i6, by omega, rfl⟩ | exact Or.inr ⟨i5, by omega, rfl⟩ | (subst_vars; first | assumption | omega))
            · refine j_iload X (pc' := 121) 5 dX5_excludes_119 rfl rfl ?_
              refine j_if_lt X (tgt := 141) (pc' := 124) dX5_excludes_121 (by decide) rfl (fun c_121 => ?_) (fun c_121 => ?_)
              · refine j_lv [0, 1, 2, 3, 4, 6] (lv' := [(0, .ref h), (1, .int x1), (2, .int x2), (3, .int x3), (4, .int (nI i4)), (6, .int (nI i6))]) rfl ?_
                exact hK141 _ _ _ _ _ _ hIC (by first | omega | assumption | decide | exact Or.inl (by decide) | exact Or.inr ⟨i6, by omega, rfl⟩ | exact Or.inr ⟨i5, by omega, rfl⟩ | (subst_vars; first | assumption | omega)) (by first | omega | assumption | decide | exact Or.inl (by decide) | exact Or.inr ⟨i6, by omega, rfl⟩ | exact Or.inr ⟨i5, by omega, rfl⟩ | (subst_vars; first | assumption | omega)) (by first | omega | assumption | decide | exact Or.inl (by decide) | exact Or.inr ⟨i6, by omega, rfl⟩ | exact Or.inr ⟨i5, by omega, rfl⟩ | (subst_vars; first | assumption | omega)) (by first | omega | assumption | decide | exact Or.inl (by decide) | exact Or.inr ⟨i6, by omega, rfl⟩ | exact Or.inr ⟨i5, by omega, rfl⟩ | (subst_vars; first | assumption | omega))
              · obtain ⟨j_121, hj_121, ej_121⟩ : ∃ j : Nat, j < 8 ∧ x5 = nI j := hfd.resolve_left c_121
                subst ej_121
                rw [nI_clamp (show j_121 < 2 ^ 31 by omega)]
                refine j_lv [0, 1, 2, 3, 4, 5, 6] (lv' := _) rfl ?_
                exact hK124 _ _ _ _ _ _ _ hIC (by first | omega | assumption | decide | exact Or.inl (by decide) | exact Or.inr ⟨i6, by omega, rfl⟩ | exact Or.inr ⟨i5, by omega, rfl⟩ | (subst_vars; first | assumption | omega)) (by first | omega | assumption | decide | exact Or.inl (by decide) | exact Or.inr ⟨i6, by omega, rfl⟩ | exact Or.inr ⟨i5, by omega, rfl⟩ | (subst_vars; first | assumption | omega)) (by first | omega | assumption | decide | exact Or.inl (by decide) | exact Or.inr ⟨i6, by omega, rfl⟩ | exact Or.inr ⟨i5, by omega, rfl⟩ | (subst_vars; first | assumption | omega)) (by first | omega | assumption | decide | exact Or.inl (by decide) | exact Or.inr ⟨i6, by omega, rfl⟩ | exact Or.inr ⟨i5, by omega, rfl⟩ | (subst_vars; first | assumption | omega)) (by first | omega | assumption | decide | exact Or.inl (by decide) | exact Or.inr ⟨i6, by omega, rfl⟩ | exact Or.inr ⟨i5, by omega, rfl⟩ | (subst_vars; first | assumption | omega))
          refine j_iload X (pc' := 87) 6 dX5_excludes_85 rfl rfl ?_
          refine j_aload_n X (pc' := 88) 0 dX5_excludes_87 rfl rfl rfl ?_
          refine j_get X inX5 rfl (pc' := 91) 0 0 q_fl_X5_7 (by decide) rfl rfl dX5_excludes_88 rfl ?_
          refine j_iconst X (v := 5) (pc' := 92) dX5_excludes_91 (by decide) rfl ?_
          refine j_ialdN X (i := 5) (pc' := 93) 1 rfl (by omega) (by decide) dX5_excludes_92 rfl ?_
          refine j_icmp_ge X (tgt := 156) (pc' := 96) dX5_excludes_93 (by decide) rfl (fun c_93 => ?_) (fun c_93 => ?_)
          · refine j_lv [0, 1, 2, 3, 4, 5] (lv' := [(0, .ref h), (1, .int x1), (2, .int x2), (3, .int x3), (4, .int (nI i4)), (5, .int x5)]) rfl ?_
            exact hK156 _ _ _ _ _ _ hIC (by first | omega | assumption | decide | exact Or.inl (by decide) | exact Or.inr ⟨i6, by omega, rfl⟩ | exact Or.inr ⟨i5, by omega, rfl⟩ | (subst_vars; first | assumption | omega)) (by first | omega | assumption | decide | exact Or.inl (by decide) | exact Or.inr ⟨i6, by omega, rfl⟩ | exact Or.inr ⟨i5, by omega, rfl⟩ | (subst_vars; first | assumption | omega)) (by first | omega | assumption | decide | exact Or.inl (by decide) | exact Or.inr ⟨i6, by omega, rfl⟩ | exact Or.inr ⟨i5, by omega, rfl⟩ | (subst_vars; first | assumption | omega))
          · have hb_93 : i6 < 8 := i32_lt8 c_93 hIC.2.1 (by omega)
            refine j_iload_n X (pc' := 97) 1 dX5_excludes_96 rfl rfl rfl ?_
            refine j_iload_n X (pc' := 98) 3 dX5_excludes_97 rfl rfl rfl ?_
            refine j_ior X (pc' := 99) dX5_excludes_98 rfl ?_
            refine j_iload X (pc' := 101) 6 dX5_excludes_99 rfl rfl ?_
            refine j_ishr X (pc' := 102) dX5_excludes_101 rfl ?_
            refine j_iconst X (v := 1) (pc' := 103) dX5_excludes_102 (by decide) rfl ?_
            refine j_iand X (pc' := 104) dX5_excludes_103 rfl ?_
            refine j_if_ne X (tgt := 111) (pc' := 107) dX5_excludes_104 (by decide) rfl (fun c_104 => ?_) (fun c_104 => ?_)
            · refine j_iconst X (v := 0) (pc' := 112) dX5_excludes_111 (by decide) rfl ?_
              refine j_lv [0, 1, 2, 3, 4, 5, 6] (lv' := [(0, .ref h), (1, .int x1), (2, .int x2), (3, .int x3), (4, .int (nI i4)), (5, .int x5), (6, .int (nI i6))]) rfl ?_
              exact hK112 _ _ _ _ _ _ _ _ hIC (by first | omega | assumption | decide | exact Or.inl (by decide) | exact Or.inr ⟨i6, by omega, rfl⟩ | exact Or.inr ⟨i5, by omega, rfl⟩ | (subst_vars; first | assumption | omega)) (by first | omega | assumption | decide | exact Or.inl (by decide) | exact Or.inr ⟨i6, by omega, rfl⟩ | exact Or.inr ⟨i5, by omega, rfl⟩ | (subst_vars; first | assumption | omega)) (by first | omega | assumption | decide | exact Or.inl (by decide) | exact Or.inr ⟨i6, by omega, rfl⟩ | exact Or.inr ⟨i5, by omega, rfl⟩ | (subst_vars; first | assumption | omega)) (by first | omega | assumption | decide | exact Or.inl (by decide) | exact Or.inr ⟨i6, by omega, rfl⟩ | exact Or.inr ⟨i5, by omega, rfl⟩ | (subst_vars; first | assumption | omega)) (by first | omega | assumption | decide | exact Or.inl (by decide) | exact Or.inr ⟨i6, by omega, rfl⟩ | exact Or.inr ⟨i5, by omega, rfl⟩ | (subst_vars; first | assumption | omega))
            · refine j_iconst X (v := 1) (pc' := 108) dX5_excludes_107 (by decide) rfl ?_
              refine j_goto X (pc' := 112) dX5_excludes_108 (by decide) ?_
              refine j_lv [0, 1, 2, 3, 4, 5, 6] (lv' := [(0, .ref h), (1, .int x1), (2, .int x2), (3, .int x3), (4, .int (nI i4)), (5, .int x5), (6, .int (nI i6))]) rfl ?_
              exact hK112 _ _ _ _ _ _ _ _ hIC (by first | omega | assumption | decide | exact Or.inl (by decide) | exact Or.inr ⟨i6, by omega, rfl⟩ | exact Or.inr ⟨i5, by omega, rfl⟩ | (subst_vars; first | assumption | omega)) (by first | omega | assumption | decide | exact Or.inl (by decide) | exact Or.inr ⟨i6, by omega, rfl⟩ | exact Or.inr ⟨i5, by omega, rfl⟩ | (subst_vars; first | assumption | omega)) (by first | omega | assumption | decide | exact Or.inl (by decide) | exact Or.inr ⟨i6, by omega, rfl⟩ | exact Or.inr ⟨i5, by omega, rfl⟩ | (subst_vars; first | assumption | omega)) (by first | omega | assumption | decide | exact Or.inl (by decide) | exact Or.inr ⟨i6, by omega, rfl⟩ | exact Or.inr ⟨i5, by omega, rfl⟩ | (subst_vars; first | assumption | omega)) (by first | omega | assumption | decide | exact Or.inl (by decide) | exact Or.inr ⟨i6, by omega, rfl⟩ | exact Or.inr ⟨i5, by omega, rfl⟩ | (subst_vars; first | assumption | omega))
      refine j_iload X (pc' := 73) 4 dX5_excludes_71 rfl rfl ?_
      refine j_iload_n X (pc' := 74) 2 dX5_excludes_73 rfl rfl rfl ?_
      refine j_icmp_ge X (tgt := 174) (pc' := 77) dX5_excludes_74 (by decide) rfl (fun c_74 => ?_) (fun c_74 => ?_)
      · refine j_lv [0, 3] (lv' := [(0, .ref h), (3, .int x3)]) rfl ?_
        exact hK174 _ _ hIC
      · have hb71 : i4 < x2.toNatClampNeg := i32_ltT hi c_74
        have hf71 := hfu
        refine j_sipush X (v := (-10004)) (pc' := 80) dX5_excludes_77 (by decide) rfl ?_
        refine j_istore X (lv' := [(0, .ref h), (1, .int x1), (2, .int x2), (3, .int x3), (4, .int (nI i4)), (5, .int (-10004))]) (pc' := 82) [1, 2, 3, 4, 5, 0] dX5_excludes_80 (by decide) rfl rfl ?_
        refine j_iconst X (v := 0) (pc' := 83) dX5_excludes_82 (by decide) rfl ?_
        refine j_istore X (lv' := [(0, .ref h), (1, .int x1), (2, .int x2), (3, .int x3), (4, .int (nI i4)), (5, .int (-10004)), (6, .int 0)]) (pc' := 85) [1, 2, 3, 4, 5, 6, 0] dX5_excludes_83 (by decide) rfl rfl ?_
        refine j_lv [0, 1, 2, 3, 4, 5, 6] (lv' := [(0, .ref h), (1, .int x1), (2, .int x2), (3, .int x3), (4, .int (nI i4)), (5, .int (-10004)), (6, .int 0)]) rfl ?_
        exact hL85 _ _ _ _ _ _ _ _ hIC (by first | omega | assumption | decide | exact Or.inl (by decide) | exact Or.inr ⟨i6, by omega, rfl⟩ | exact Or.inr ⟨i5, by omega, rfl⟩ | (subst_vars; first | assumption | omega)) (by first | omega | assumption | decide | exact Or.inl (by decide) | exact Or.inr ⟨i6, by omega, rfl⟩ | exact Or.inr ⟨i5, by omega, rfl⟩ | (subst_vars; first | assumption | omega)) (by first | omega | assumption | decide | exact Or.inl (by decide) | exact Or.inr ⟨i6, by omega, rfl⟩ | exact Or.inr ⟨i5, by omega, rfl⟩ | (subst_vars; first | assumption | omega)) (by first | omega | assumption | decide | exact Or.inl (by decide) | exact Or.inr ⟨i6, by omega, rfl⟩ | exact Or.inr ⟨i5, by omega, rfl⟩ | (subst_vars; first | assumption | omega)) (by first | omega | assumption | decide | exact Or.inl (by decide) | exact Or.inr ⟨i6, by omega, rfl⟩ | exact Or.inr ⟨i5, by omega, rfl⟩ | (subst_vars; first | assumption | omega))
  refine j_ltv (fun K65 eK65 => ?_)
  have hK65 : ∀ (C : Cst) (x1 : Int32) (t0 : Int32) (hIC : IM C), J p l e (rml 1) s m args below meth c 8 D (va_A ws0 s.heap.size) 0 0 (KV below args s D (tyl cI cH cO) ws0 (fun C9 => (wM cI h ar C9))) (K65 C x1 t0) ((wM cI h ar C)) 65 [(0, .ref h), (1, .int x1)] [.int t0] := by
    intro C x1 t0 hIC
    rw [eK65]
    refine j_istore_n X (lv' := [(0, .ref h), (1, .int x1), (2, .int t0)]) (pc' := 66) [1, 2, 0] dX5_excludes_65 rfl (by decide) rfl rfl ?_
    refine j_iconst X (v := 0) (pc' := 67) dX5_excludes_66 (by decide) rfl ?_
    refine j_istore_n X (lv' := [(0, .ref h), (1, .int x1), (2, .int t0), (3, .int 0)]) (pc' := 68) [1, 2, 3, 0] dX5_excludes_67 rfl (by decide) rfl rfl ?_
    refine j_iconst X (v := 0) (pc' := 69) dX5_excludes_68 (by decide) rfl ?_
    refine j_istore X (lv' := [(0, .ref h), (1, .int x1), (2, .int t0), (3, .int 0), (4, .int 0)]) (pc' := 71) [1, 2, 3, 4, 0] dX5_excludes_69 (by decide) rfl rfl ?_
    refine j_lv [0, 1, 2, 3, 4] (lv' := [(0, .ref h), (1, .int x1), (2, .int t0), (3, .int 0), (4, .int 0)]) rfl ?_
    exact hL71 _ _ _ _ _ _ hIC (by first | omega | assumption | decide | exact Or.inl (by decide) | exact Or.inr ⟨i6, by omega, rfl⟩ | exact Or.inr ⟨i5, by omega, rfl⟩ | (subst_vars; first | assumption | omega)) (by first | omega | assumption | decide | exact Or.inl (by decide) | exact Or.inr ⟨i6, by omega, rfl⟩ | exact Or.inr ⟨i5, by omega, rfl⟩ | (subst_vars; first | assumption | omega))
  refine j_ltv (fun K40 eK40 => ?_)
  have hK40 : ∀ (C : Cst) (x1 : Int32) (t0 : Int32) (hIC : IM C), J p l e (rml 1) s m args below meth c 8 D (va_A ws0 s.heap.size) 0 0 (KV below args s D (tyl cI cH cO) ws0 (fun C9 => (wM cI h ar C9))) (K40 C x1 t0) ((wM cI h ar C)) 40 [(0, .ref h), (1, .int x1)] [.int t0] := by
    intro C x1 t0 hIC
    rw [eK40]
    refine j_istore_n X (lv' := [(0, .ref h), (1, .int x1), (2, .int t0)]) (pc' := 41) [1, 2, 0] dX5_excludes_40 rfl (by decide) rfl rfl ?_
    refine j_iload_n X (pc' := 42) 2 dX5_excludes_41 rfl rfl rfl ?_
    refine j_aload_n X (pc' := 43) 0 dX5_excludes_42 rfl rfl rfl ?_
    refine j_get X inX5 rfl (pc' := 46) 0 0 q_fl_X5_7 (by decide) rfl rfl dX5_excludes_43 rfl ?_
    refine j_iconst X (v := 5) (pc' := 47) dX5_excludes_46 (by decide) rfl ?_
    refine j_ialdN X (i := 5) (pc' := 48) 1 rfl (by omega) (by decide) dX5_excludes_47 rfl ?_
    refine j_iconst X (v := 1) (pc' := 49) dX5_excludes_48 (by decide) rfl ?_
    refine j_isub X (pc' := 50) dX5_excludes_49 rfl ?_
    refine j_icmp_le X (tgt := 64) (pc' := 53) dX5_excludes_50 (by decide) rfl (fun c_50 => ?_) (fun c_50 => ?_)
    · refine j_iload_n X (pc' := 65) 2 dX5_excludes_64 rfl rfl rfl ?_
      refine j_lv [0, 1] (lv' := [(0, .ref h), (1, .int x1)]) rfl ?_
      exact hK65 _ _ _ hIC
    · refine j_aload_n X (pc' := 54) 0 dX5_excludes_53 rfl rfl rfl ?_
      refine j_get X inX5 rfl (pc' := 57) 0 0 q_fl_X5_7 (by decide) rfl rfl dX5_excludes_54 rfl ?_
      refine j_iconst X (v := 5) (pc' := 58) dX5_excludes_57 (by decide) rfl ?_
      refine j_ialdN X (i := 5) (pc' := 59) 1 rfl (by omega) (by decide) dX5_excludes_58 rfl ?_
      refine j_iconst X (v := 1) (pc' := 60) dX5_excludes_59 (by decide) rfl ?_
      refine j_isub X (pc' := 61) dX5_excludes_60 rfl ?_
      refine j_goto X (pc' := 65) dX5_excludes_61 (by decide) ?_
      refine j_lv [0, 1] (lv' := [(0, .ref h), (1, .int x1)]) rfl ?_
      exact hK65 _ _ _ hIC
  refine j_aload_n X (pc' := 1) 0 dX5_excludes_0 rfl rfl rfl ?_
  refine j_get X inX5 rfl (pc' := 4) 0 0 q_fl_X5_7 (by decide) rfl rfl dX5_excludes_1 rfl ?_
  refine j_bipush X (v := 7) (pc' := 6) dX5_excludes_4 (by decide) rfl ?_
  refine j_ialdN X (i := 7) (pc' := 7) 1 rfl (by omega) (by decide) dX5_excludes_6 rfl ?_
  refine j_aload_n X (pc' := 8) 0 dX5_excludes_7 rfl rfl rfl ?_
  refine j_get X inX5 rfl (pc' := 11) 0 0 q_fl_X5_7 (by decide) rfl rfl dX5_excludes_8 rfl ?_
  refine j_iconst X (v := 1) (pc' := 12) dX5_excludes_11 (by decide) rfl ?_
  refine j_ialdN X (i := 1) (pc' := 13) 1 rfl (by omega) (by decide) dX5_excludes_12 rfl ?_
  refine j_icmp_ge X (tgt := 39) (pc' := 16) dX5_excludes_13 (by decide) rfl (fun c_13 => ?_) (fun c_13 => ?_)
  · refine j_iconst X (v := 0) (pc' := 40) dX5_excludes_39 (by decide) rfl ?_
    refine j_lv [0, 1] (lv' := [(0, .ref h), (1, .int x1)]) rfl ?_
    exact hK40 _ _ _ hIC
  · refine j_aload_n X (pc' := 17) 0 dX5_excludes_16 rfl rfl rfl ?_
    refine j_get X inX5 rfl (pc' := 20) 0 0 q_fl_X5_7 (by decide) rfl rfl dX5_excludes_17 rfl ?_
    refine j_iconst X (v := 1) (pc' := 21) dX5_excludes_20 (by decide) rfl ?_
    refine j_ialdN X (i := 1) (pc' := 22) 1 rfl (by omega) (by decide) dX5_excludes_21 rfl ?_
    refine j_aload_n X (pc' := 23) 0 dX5_excludes_22 rfl rfl rfl ?_
    refine j_get X inX5 rfl (pc' := 26) 0 0 q_fl_X5_7 (by decide) rfl rfl dX5_excludes_23 rfl ?_
    refine j_bipush X (v := 7) (pc' := 28) dX5_excludes_26 (by decide) rfl ?_
    refine j_ialdN X (i := 7) (pc' := 29) 1 rfl (by omega) (by decide) dX5_excludes_28 rfl ?_
    refine j_isub X (pc' := 30) dX5_excludes_29 rfl ?_
    refine j_bipush X (v := 9) (pc' := 32) dX5_excludes_30 (by decide) rfl ?_
    refine j_iadd X (pc' := 33) dX5_excludes_32 rfl ?_
    refine j_bipush X (v := 10) (pc' := 35) dX5_excludes_33 (by decide) rfl ?_
    refine j_idiv X (pc' := 36) dX5_excludes_35 (by decide) rfl ?_
    refine j_goto X (pc' := 40) dX5_excludes_36 (by decide) ?_
    refine j_lv [0, 1] (lv' := [(0, .ref h), (1, .int x1)]) rfl ?_
    exact hK40 _ _ _ hIC
theorem c_X5_excludes (l : Launch) (D : va_G) (cI cH cO : ClassId) (h : Nat) (ar : Nat → Nat) (C : Cst) (x1 : Int32) (hIC : IM C) : MV l yX5_excludes cX5_excludes 8 1 D (tyl cI cH cO) [.ref h, .int x1] ((wM cI h ar C)) ((wM cI h ar (sX5_excludes C x1))) := fun sz => j_start (fun below s => (KV below [.ref h, .int x1].toArray s D (tyl cI cH cO) ((wM cI h ar C)) (fun C9 => (wM cI h ar C9)))) (sX5_excludes C x1) (by decide +kernel) rfl (Nat.le_of_ble_eq_true rfl) (fun below s hs _ => by subst hs; rfl) (fun p e s m below meth c hX9 X => b_X5_excludes h ar C x1 hIC X)
