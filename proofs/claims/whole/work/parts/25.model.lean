set_option maxHeartbeats 4000000 in
set_option maxRecDepth 100000 in
theorem b_X5_ends {p : Program} {l : Launch} {e : Env} {s : State} {m : MethodId} {args : Array Value} {below : List Frame} {meth : Method} {c : Code} {D : va_G} {cI cH cO : ClassId} {ws0 : va_W} (h : Nat) (ar : Nat → Nat) (C : Cst) (hIC : IM C) (X : CX p s m args meth c cX5_ends 5 RX5 (some .int) D (tyl cI cH cO) (va_A ws0 s.heap.size)) : J p l e (rml 3) s m args below meth c 5 D (va_A ws0 s.heap.size) 0 0 (KI below args s D (tyl cI cH cO) ws0 (fun C9 => (wM cI h ar C9))) (sX5_ends C) ((wM cI h ar C)) 0 [(0, .ref h)] [] := by
  unfold sX5_ends
  refine j_ltv (fun K271 eK271 => ?_)
  have hK271 : ∀ (C : Cst) (x1 : Int32) (x2 : Int32) (x3 : Int32) (t0 : Int32) (hIC : IM C), J p l e (rml 3) s m args below meth c 5 D (va_A ws0 s.heap.size) 0 0 (KI below args s D (tyl cI cH cO) ws0 (fun C9 => (wM cI h ar C9))) (K271 C x1 x2 x3 t0) ((wM cI h ar C)) 271 [(0, .ref h), (1, .int x1), (2, .int x2), (3, .int x3)] [.int t0, .int 7, .ref (ar 0)] := by
    intro C x1 x2 x3 t0 hIC
    rw [eK271]
    refine j_iastN X (i := 7) (pc' := 272) (S := up C 0 7 t0) (fun S_271 => (wM cI h ar S_271)) 1 rfl rfl (by omega) (by decide) dX5_ends_271 rfl (fun S_271 eS_271 => ?_)
    have hIS_271 : IM S_271 := by rw [eS_271]; exact IM_0 (by omega) (by omega) (by omega) (by omega) hIC
    refine j_aload_n X (pc' := 273) 0 dX5_ends_272 rfl rfl rfl ?_
    refine j_aload_n X (pc' := 274) 0 dX5_ends_273 rfl rfl rfl ?_
    refine j_get X inX5 rfl (pc' := 277) 0 0 q_fl_X5_7 (by decide) rfl rfl dX5_ends_274 rfl ?_
    refine j_bipush X (v := 6) (pc' := 279) dX5_ends_277 (by decide) rfl ?_
    refine j_ialdN X (i := 6) (pc' := 280) 1 rfl (by omega) (by decide) dX5_ends_279 rfl ?_
    refine j_iload_n X (pc' := 281) 1 dX5_ends_280 rfl rfl rfl ?_
    refine j_iload_n X (pc' := 282) 2 dX5_ends_281 rfl rfl rfl ?_
    refine j_iload_n X (pc' := 283) 3 dX5_ends_282 rfl rfl rfl ?_
    refine j_callVv X (pc' := 286) (As := [.int (S_271 0 6), .int x1, .int x2, .int x3]) (rest := []) (c_X5_keeps l D cI cH cO h ar S_271 (S_271 0 6) x1 x2 x3 ) wv_X5_78 ⟨0, 5, _, _, rfl, rfl, rfl⟩ ⟨by decide, by decide, by decide, by decide⟩ rfl rfl (Nat.le_of_ble_eq_true rfl) dX5_ends_283 rfl ?_
    refine j_stL (S := (sX5_keeps S_271 (S_271 0 6) x1 x2 x3)) (fun S_283 => (wM cI h ar S_283)) (fun S_283 eS_283 => ?_)
    have hIS_283 : IM S_283 := by rw [eS_283]; exact IM_keeps hIS_271
    refine j_aload_n X (pc' := 287) 0 dX5_ends_286 rfl rfl rfl ?_
    refine j_get X inX5 rfl (pc' := 290) 0 0 q_fl_X5_7 (by decide) rfl rfl dX5_ends_287 rfl ?_
    refine j_bipush X (v := 6) (pc' := 292) dX5_ends_290 (by decide) rfl ?_
    refine j_dup2 X (pc' := 293) dX5_ends_292 rfl rfl rfl ?_
    refine j_ialdN X (i := 6) (pc' := 294) 1 rfl (by omega) (by decide) dX5_ends_293 rfl ?_
    refine j_iconst X (v := 1) (pc' := 295) dX5_ends_294 (by decide) rfl ?_
    refine j_iadd X (pc' := 296) dX5_ends_295 rfl ?_
    refine j_iastN X (i := 6) (pc' := 297) (S := up S_283 0 6 ((S_283 0 6) + 1)) (fun S_296 => (wM cI h ar S_296)) 1 rfl rfl (by omega) (by decide) dX5_ends_296 rfl (fun S_296 eS_296 => ?_)
    have hIS_296 : IM S_296 := by rw [eS_296]; exact IM_0 (by omega) (by omega) (by omega) (by omega) hIS_283
    refine j_aload_n X (pc' := 298) 0 dX5_ends_297 rfl rfl rfl ?_
    refine j_iload_n X (pc' := 299) 3 dX5_ends_298 rfl rfl rfl ?_
    refine j_callVv X (pc' := 302) (As := [.int x3]) (rest := []) (c_X5_excludes l D cI cH cO h ar S_296 x3 hIS_296) wv_X5_82 ⟨0, 5, _, _, rfl, rfl, rfl⟩ ⟨by decide, by decide, by decide, by decide⟩ rfl rfl (Nat.le_of_ble_eq_true rfl) dX5_ends_299 rfl ?_
    refine j_stL (S := (sX5_excludes S_296 x3)) (fun S_299 => (wM cI h ar S_299)) (fun S_299 eS_299 => ?_)
    have hIS_299 : IM S_299 := by rw [eS_299]; exact IM_excludes hIS_296
    refine j_iload_n X (pc' := 303) 2 dX5_ends_302 rfl rfl rfl ?_
    exact j_iretI X rfl rfl dX5_ends_303
  refine j_ltv (fun K226 eK226 => ?_)
  have hK226 : ∀ (C : Cst) (x1 : Int32) (x2 : Int32) (x3 : Int32) (t0 : Int32) (hIC : IM C), J p l e (rml 3) s m args below meth c 5 D (va_A ws0 s.heap.size) 0 0 (KI below args s D (tyl cI cH cO) ws0 (fun C9 => (wM cI h ar C9))) (K226 C x1 x2 x3 t0) ((wM cI h ar C)) 226 [(0, .ref h), (1, .int x1), (2, .int x2), (3, .int x3)] [.int t0, .int 7, .ref (ar 0)] := by
    intro C x1 x2 x3 t0 hIC
    rw [eK226]
    refine j_iastN X (i := 7) (pc' := 227) (S := up C 0 7 t0) (fun S_226 => (wM cI h ar S_226)) 1 rfl rfl (by omega) (by decide) dX5_ends_226 rfl (fun S_226 eS_226 => ?_)
    have hIS_226 : IM S_226 := by rw [eS_226]; exact IM_0 (by omega) (by omega) (by omega) (by omega) hIC
    refine j_aload_n X (pc' := 228) 0 dX5_ends_227 rfl rfl rfl ?_
    refine j_get X inX5 rfl (pc' := 231) 0 0 q_fl_X5_7 (by decide) rfl rfl dX5_ends_228 rfl ?_
    refine j_bipush X (v := 7) (pc' := 233) dX5_ends_231 (by decide) rfl ?_
    refine j_aload_n X (pc' := 234) 0 dX5_ends_233 rfl rfl rfl ?_
    refine j_get X inX5 rfl (pc' := 237) 0 0 q_fl_X5_7 (by decide) rfl rfl dX5_ends_234 rfl ?_
    refine j_bipush X (v := 7) (pc' := 239) dX5_ends_237 (by decide) rfl ?_
    refine j_ialdN X (i := 7) (pc' := 240) 1 rfl (by omega) (by decide) dX5_ends_239 rfl ?_
    refine j_aload_n X (pc' := 241) 0 dX5_ends_240 rfl rfl rfl ?_
    refine j_get X inX5 rfl (pc' := 244) 0 0 q_fl_X5_7 (by decide) rfl rfl dX5_ends_241 rfl ?_
    refine j_iconst X (v := 2) (pc' := 245) dX5_ends_244 (by decide) rfl ?_
    refine j_ialdN X (i := 2) (pc' := 246) 1 rfl (by omega) (by decide) dX5_ends_245 rfl ?_
    refine j_iadd X (pc' := 247) dX5_ends_246 rfl ?_
    refine j_bipush X (v := 100) (pc' := 249) dX5_ends_247 (by decide) rfl ?_
    refine j_icmp_le X (tgt := 257) (pc' := 252) dX5_ends_249 (by decide) rfl (fun c_249 => ?_) (fun c_249 => ?_)
    · refine j_aload_n X (pc' := 258) 0 dX5_ends_257 rfl rfl rfl ?_
      refine j_get X inX5 rfl (pc' := 261) 0 0 q_fl_X5_7 (by decide) rfl rfl dX5_ends_258 rfl ?_
      refine j_bipush X (v := 7) (pc' := 263) dX5_ends_261 (by decide) rfl ?_
      refine j_ialdN X (i := 7) (pc' := 264) 1 rfl (by omega) (by decide) dX5_ends_263 rfl ?_
      refine j_aload_n X (pc' := 265) 0 dX5_ends_264 rfl rfl rfl ?_
      refine j_get X inX5 rfl (pc' := 268) 0 0 q_fl_X5_7 (by decide) rfl rfl dX5_ends_265 rfl ?_
      refine j_iconst X (v := 2) (pc' := 269) dX5_ends_268 (by decide) rfl ?_
      refine j_ialdN X (i := 2) (pc' := 270) 1 rfl (by omega) (by decide) dX5_ends_269 rfl ?_
      refine j_iadd X (pc' := 271) dX5_ends_270 rfl ?_
      refine j_lv [0, 1, 2, 3] (lv' := [(0, .ref h), (1, .int x1), (2, .int x2), (3, .int x3)]) rfl ?_
      exact hK271 _ _ _ _ _ hIS_226
    · refine j_bipush X (v := 100) (pc' := 254) dX5_ends_252 (by decide) rfl ?_
      refine j_goto X (pc' := 271) dX5_ends_254 (by decide) ?_
      refine j_lv [0, 1, 2, 3] (lv' := [(0, .ref h), (1, .int x1), (2, .int x2), (3, .int x3)]) rfl ?_
      exact hK271 _ _ _ _ _ hIS_226
  refine j_ltv (fun K194 eK194 => ?_)
  have hK194 : ∀ (C : Cst) (x1 : Int32) (x2 : Int32) (x3 : Int32) (t0 : Int32) (t1 : Int32) (hIC : IM C), J p l e (rml 3) s m args below meth c 5 D (va_A ws0 s.heap.size) 0 0 (KI below args s D (tyl cI cH cO) ws0 (fun C9 => (wM cI h ar C9))) (K194 C x1 x2 x3 t0 t1) ((wM cI h ar C)) 194 [(0, .ref h), (1, .int x1), (2, .int x2), (3, .int x3)] [.int t0, .int t1, .int 10, .ref (ar 0)] := by
    intro C x1 x2 x3 t0 t1 hIC
    rw [eK194]
    refine j_iadd X (pc' := 195) dX5_ends_194 rfl ?_
    refine j_iastN X (i := 10) (pc' := 196) (S := up C 0 10 (t1 + t0)) (fun S_195 => (wM cI h ar S_195)) 1 rfl rfl (by omega) (by decide) dX5_ends_195 rfl (fun S_195 eS_195 => ?_)
    have hIS_195 : IM S_195 := by rw [eS_195]; exact IM_0 (by omega) (by omega) (by omega) (by omega) hIC
    refine j_aload_n X (pc' := 197) 0 dX5_ends_196 rfl rfl rfl ?_
    refine j_get X inX5 rfl (pc' := 200) 0 0 q_fl_X5_7 (by decide) rfl rfl dX5_ends_197 rfl ?_
    refine j_bipush X (v := 7) (pc' := 202) dX5_ends_200 (by decide) rfl ?_
    refine j_iload_n X (pc' := 203) 2 dX5_ends_202 rfl rfl rfl ?_
    refine j_aload_n X (pc' := 204) 0 dX5_ends_203 rfl rfl rfl ?_
    refine j_get X inX5 rfl (pc' := 207) 0 0 q_fl_X5_7 (by decide) rfl rfl dX5_ends_204 rfl ?_
    refine j_bipush X (v := 7) (pc' := 209) dX5_ends_207 (by decide) rfl ?_
    refine j_ialdN X (i := 7) (pc' := 210) 1 rfl (by omega) (by decide) dX5_ends_209 rfl ?_
    refine j_icmp_le X (tgt := 217) (pc' := 213) dX5_ends_210 (by decide) rfl (fun c_210 => ?_) (fun c_210 => ?_)
    · refine j_aload_n X (pc' := 218) 0 dX5_ends_217 rfl rfl rfl ?_
      refine j_get X inX5 rfl (pc' := 221) 0 0 q_fl_X5_7 (by decide) rfl rfl dX5_ends_218 rfl ?_
      refine j_bipush X (v := 7) (pc' := 223) dX5_ends_221 (by decide) rfl ?_
      refine j_ialdN X (i := 7) (pc' := 224) 1 rfl (by omega) (by decide) dX5_ends_223 rfl ?_
      refine j_iload_n X (pc' := 225) 2 dX5_ends_224 rfl rfl rfl ?_
      refine j_isub X (pc' := 226) dX5_ends_225 rfl ?_
      refine j_lv [0, 1, 2, 3] (lv' := [(0, .ref h), (1, .int x1), (2, .int x2), (3, .int x3)]) rfl ?_
      exact hK226 _ _ _ _ _ hIS_195
    · refine j_iconst X (v := 0) (pc' := 214) dX5_ends_213 (by decide) rfl ?_
      refine j_goto X (pc' := 226) dX5_ends_214 (by decide) ?_
      refine j_lv [0, 1, 2, 3] (lv' := [(0, .ref h), (1, .int x1), (2, .int x2), (3, .int x3)]) rfl ?_
      exact hK226 _ _ _ _ _ hIS_195
  refine j_ltv (fun K151 eK151 => ?_)
  have hK151 : ∀ (C : Cst) (x1 : Int32) (x2 : Int32) (x3 : Int32) (hIC : IM C), J p l e (rml 3) s m args below meth c 5 D (va_A ws0 s.heap.size) 0 0 (KI below args s D (tyl cI cH cO) ws0 (fun C9 => (wM cI h ar C9))) (K151 C x1 x2 x3) ((wM cI h ar C)) 151 [(0, .ref h), (1, .int x1), (2, .int x2), (3, .int x3)] [] := by
    intro C x1 x2 x3 hIC
    rw [eK151]
    refine j_aload_n X (pc' := 152) 0 dX5_ends_151 rfl rfl rfl ?_
    refine j_get X inX5 rfl (pc' := 155) 0 0 q_fl_X5_7 (by decide) rfl rfl dX5_ends_152 rfl ?_
    refine j_bipush X (v := 9) (pc' := 157) dX5_ends_155 (by decide) rfl ?_
    refine j_dup2 X (pc' := 158) dX5_ends_157 rfl rfl rfl ?_
    refine j_ialdN X (i := 9) (pc' := 159) 1 rfl (by omega) (by decide) dX5_ends_158 rfl ?_
    refine j_iload_n X (pc' := 160) 2 dX5_ends_159 rfl rfl rfl ?_
    refine j_iadd X (pc' := 161) dX5_ends_160 rfl ?_
    refine j_iastN X (i := 9) (pc' := 162) (S := up C 0 9 ((C 0 9) + x2)) (fun S_161 => (wM cI h ar S_161)) 1 rfl rfl (by omega) (by decide) dX5_ends_161 rfl (fun S_161 eS_161 => ?_)
    have hIS_161 : IM S_161 := by rw [eS_161]; exact IM_0 (by omega) (by omega) (by omega) (by omega) hIC
    refine j_aload_n X (pc' := 163) 0 dX5_ends_162 rfl rfl rfl ?_
    refine j_get X inX5 rfl (pc' := 166) 0 0 q_fl_X5_7 (by decide) rfl rfl dX5_ends_163 rfl ?_
    refine j_bipush X (v := 10) (pc' := 168) dX5_ends_166 (by decide) rfl ?_
    refine j_dup2 X (pc' := 169) dX5_ends_168 rfl rfl rfl ?_
    refine j_ialdN X (i := 10) (pc' := 170) 1 rfl (by omega) (by decide) dX5_ends_169 rfl ?_
    refine j_iload_n X (pc' := 171) 2 dX5_ends_170 rfl rfl rfl ?_
    refine j_aload_n X (pc' := 172) 0 dX5_ends_171 rfl rfl rfl ?_
    refine j_get X inX5 rfl (pc' := 175) 0 0 q_fl_X5_7 (by decide) rfl rfl dX5_ends_172 rfl ?_
    refine j_bipush X (v := 7) (pc' := 177) dX5_ends_175 (by decide) rfl ?_
    refine j_ialdN X (i := 7) (pc' := 178) 1 rfl (by omega) (by decide) dX5_ends_177 rfl ?_
    refine j_icmp_le X (tgt := 193) (pc' := 181) dX5_ends_178 (by decide) rfl (fun c_178 => ?_) (fun c_178 => ?_)
    · refine j_iconst X (v := 0) (pc' := 194) dX5_ends_193 (by decide) rfl ?_
      refine j_lv [0, 1, 2, 3] (lv' := [(0, .ref h), (1, .int x1), (2, .int x2), (3, .int x3)]) rfl ?_
      exact hK194 _ _ _ _ _ _ hIS_161
    · refine j_iload_n X (pc' := 182) 2 dX5_ends_181 rfl rfl rfl ?_
      refine j_aload_n X (pc' := 183) 0 dX5_ends_182 rfl rfl rfl ?_
      refine j_get X inX5 rfl (pc' := 186) 0 0 q_fl_X5_7 (by decide) rfl rfl dX5_ends_183 rfl ?_
      refine j_bipush X (v := 7) (pc' := 188) dX5_ends_186 (by decide) rfl ?_
      refine j_ialdN X (i := 7) (pc' := 189) 1 rfl (by omega) (by decide) dX5_ends_188 rfl ?_
      refine j_isub X (pc' := 190) dX5_ends_189 rfl ?_
      refine j_goto X (pc' := 194) dX5_ends_190 (by decide) ?_
      refine j_lv [0, 1, 2, 3] (lv' := [(0, .ref h), (1, .int x1), (2, .int x2), (3, .int x3)]) rfl ?_
      exact hK194 _ _ _ _ _ _ hIS_161
  refine j_ltl5 (fun L60 eL60 => ?_)
  have hL60 : ∀ (n60 : Nat) (C : Cst) (x1 : Int32) (x2 : Int32) (x3 : Int32) (i4 : Nat) (hIC : IM C) (hi : i4 ≤ 8) (hfu : 9 ≤ i4 + n60), J p l e (rml 3) s m args below meth c 5 D (va_A ws0 s.heap.size) 0 0 (KI below args s D (tyl cI cH cO) ws0 (fun C9 => (wM cI h ar C9))) (L60 n60 C x1 x2 x3 i4) ((wM cI h ar C)) 60 [(0, .ref h), (1, .int x1), (2, .int x2), (3, .int x3), (4, .int (nI i4))] [] := by
    intro n60
    induction n60 with
    | zero =>
      intro C x1 x2 x3 i4 hIC hi hfu
      exact absurd hfu (by omega)
    | succ n60 ih60 =>
      intro C x1 x2 x3 i4 hIC hi hfu
      rw [eL60]
      refine j_iload X (pc' := 62) 4 dX5_ends_60 rfl rfl ?_
      refine j_aload_n X (pc' := 63) 0 dX5_ends_62 rfl rfl rfl ?_
      refine j_get X inX5 rfl (pc' := 66) 0 0 q_fl_X5_7 (by decide) rfl rfl dX5_ends_63 rfl ?_
      refine j_iconst X (v := 5) (pc' := 67) dX5_ends_66 (by decide) rfl ?_
      refine j_ialdN X (i := 5) (pc' := 68) 1 rfl (by omega) (by decide) dX5_ends_67 rfl ?_
      refine j_icmp_ge X (tgt := 151) (pc' := 71) dX5_ends_68 (by decide) rfl (fun c_68 => ?_) (fun c_68 => ?_)
      · refine j_lv [0, 1, 2, 3] (lv' := [(0, .ref h), (1, .int x1), (2, .int x2), (3, .int x3)]) rfl ?_
        exact hK151 _ _ _ _ hIC
      · have hb_68 : i4 < 8 := i32_lt8 c_68 hIC.2.1 (by omega)
        refine j_aload_n X (pc' := 72) 0 dX5_ends_71 rfl rfl rfl ?_
        refine j_iload X (pc' := 74) 4 dX5_ends_72 rfl rfl ?_
        refine j_iconst X (v := 2) (pc' := 75) dX5_ends_74 (by decide) rfl ?_
        refine j_aload_n X (pc' := 76) 0 dX5_ends_75 rfl rfl rfl ?_
        refine j_iload X (pc' := 78) 4 dX5_ends_76 rfl rfl ?_
        refine j_iconst X (v := 2) (pc' := 79) dX5_ends_78 (by decide) rfl ?_
        refine j_callVi X (pc' := 82) (As := [.int (nI i4), .int 2]) (rest := [.int 2, .int (nI i4), .ref h]) (c_X5_of l D cI cH cO h ar C i4 2 (by first | omega | assumption | decide | (subst_vars; first | assumption | omega)) (by first | omega | assumption | decide | (subst_vars; first | assumption | omega))) wv_X5_39 ⟨0, 5, _, _, rfl, rfl, rfl⟩ ⟨by decide, by decide, by decide, by decide⟩ rfl rfl (Nat.le_of_ble_eq_true rfl) dX5_ends_79 rfl ?_
        refine j_topL (fun r_79 er_79 => ?_)
        refine j_aload_n X (pc' := 83) 0 dX5_ends_82 rfl rfl rfl ?_
        refine j_get X inX5 rfl (pc' := 86) 0 7 q_fl_X5_22 (by decide) rfl rfl dX5_ends_83 rfl ?_
        refine j_iload X (pc' := 88) 4 dX5_ends_86 rfl rfl ?_
        refine j_ialdN X (i := i4) (pc' := 89) 5 rfl (by omega) (by decide) dX5_ends_88 rfl ?_
        refine j_iadd X (pc' := 90) dX5_ends_89 rfl ?_
        refine j_callVv X (pc' := 93) (As := [.int (nI i4), .int 2, .int (r_79 + (C 7 i4))]) (rest := []) (c_X5_puts l D cI cH cO h ar C i4 2 (r_79 + (C 7 i4)) (by first | omega | assumption | decide | (subst_vars; first | assumption | omega)) (by first | omega | assumption | decide | (subst_vars; first | assumption | omega))) wv_X5_60 ⟨0, 5, _, _, rfl, rfl, rfl⟩ ⟨by decide, by decide, by decide, by decide⟩ rfl rfl (Nat.le_of_ble_eq_true rfl) dX5_ends_90 rfl ?_
        refine j_stL (S := (sX5_puts C i4 2 (r_79 + (C 7 i4)))) (fun S_90 => (wM cI h ar S_90)) (fun S_90 eS_90 => ?_)
        have hIS_90 : IM S_90 := by rw [eS_90]; exact IM_puts hIC
        refine j_aload_n X (pc' := 94) 0 dX5_ends_93 rfl rfl rfl ?_
        refine j_iload X (pc' := 96) 4 dX5_ends_94 rfl rfl ?_
        refine j_iconst X (v := 4) (pc' := 97) dX5_ends_96 (by decide) rfl ?_
        refine j_aload_n X (pc' := 98) 0 dX5_ends_97 rfl rfl rfl ?_
        refine j_iload X (pc' := 100) 4 dX5_ends_98 rfl rfl ?_
        refine j_iconst X (v := 4) (pc' := 101) dX5_ends_100 (by decide) rfl ?_
        refine j_callVi X (pc' := 104) (As := [.int (nI i4), .int 4]) (rest := [.int 4, .int (nI i4), .ref h]) (c_X5_of l D cI cH cO h ar S_90 i4 4 (by first | omega | assumption | decide | (subst_vars; first | assumption | omega)) (by first | omega | assumption | decide | (subst_vars; first | assumption | omega))) wv_X5_39 ⟨0, 5, _, _, rfl, rfl, rfl⟩ ⟨by decide, by decide, by decide, by decide⟩ rfl rfl (Nat.le_of_ble_eq_true rfl) dX5_ends_101 rfl ?_
        refine j_topL (fun r_101 er_101 => ?_)
        refine j_aload_n X (pc' := 105) 0 dX5_ends_104 rfl rfl rfl ?_
        refine j_iload X (pc' := 107) 4 dX5_ends_105 rfl rfl ?_
        refine j_iconst X (v := 1) (pc' := 108) dX5_ends_107 (by decide) rfl ?_
        refine j_callVi X (pc' := 111) (As := [.int (nI i4), .int 1]) (rest := [.int r_101, .int 4, .int (nI i4), .ref h]) (c_X5_of l D cI cH cO h ar S_90 i4 1 (by first | omega | assumption | decide | (subst_vars; first | assumption | omega)) (by first | omega | assumption | decide | (subst_vars; first | assumption | omega))) wv_X5_39 ⟨0, 5, _, _, rfl, rfl, rfl⟩ ⟨by decide, by decide, by decide, by decide⟩ rfl rfl (Nat.le_of_ble_eq_true rfl) dX5_ends_108 rfl ?_
        refine j_topL (fun r_108 er_108 => ?_)
        refine j_iadd X (pc' := 112) dX5_ends_111 rfl ?_
        refine j_callVv X (pc' := 115) (As := [.int (nI i4), .int 4, .int (r_101 + r_108)]) (rest := []) (c_X5_puts l D cI cH cO h ar S_90 i4 4 (r_101 + r_108) (by first | omega | assumption | decide | (subst_vars; first | assumption | omega)) (by first | omega | assumption | decide | (subst_vars; first | assumption | omega))) wv_X5_60 ⟨0, 5, _, _, rfl, rfl, rfl⟩ ⟨by decide, by decide, by decide, by decide⟩ rfl rfl (Nat.le_of_ble_eq_true rfl) dX5_ends_112 rfl ?_
        refine j_stL (S := (sX5_puts S_90 i4 4 (r_101 + r_108))) (fun S_112 => (wM cI h ar S_112)) (fun S_112 eS_112 => ?_)
        have hIS_112 : IM S_112 := by rw [eS_112]; exact IM_puts hIS_90
        refine j_aload_n X (pc' := 116) 0 dX5_ends_115 rfl rfl rfl ?_
        refine j_iload X (pc' := 118) 4 dX5_ends_116 rfl rfl ?_
        refine j_iconst X (v := 5) (pc' := 119) dX5_ends_118 (by decide) rfl ?_
        refine j_aload_n X (pc' := 120) 0 dX5_ends_119 rfl rfl rfl ?_
        refine j_iload X (pc' := 122) 4 dX5_ends_120 rfl rfl ?_
        refine j_iconst X (v := 5) (pc' := 123) dX5_ends_122 (by decide) rfl ?_
        refine j_callVi X (pc' := 126) (As := [.int (nI i4), .int 5]) (rest := [.int 5, .int (nI i4), .ref h]) (c_X5_of l D cI cH cO h ar S_112 i4 5 (by first | omega | assumption | decide | (subst_vars; first | assumption | omega)) (by first | omega | assumption | decide | (subst_vars; first | assumption | omega))) wv_X5_39 ⟨0, 5, _, _, rfl, rfl, rfl⟩ ⟨by decide, by decide, by decide, by decide⟩ rfl rfl (Nat.le_of_ble_eq_true rfl) dX5_ends_123 rfl ?_
        refine j_topL (fun r_123 er_123 => ?_)
        refine j_aload_n X (pc' := 127) 0 dX5_ends_126 rfl rfl rfl ?_
        refine j_iload X (pc' := 129) 4 dX5_ends_127 rfl rfl ?_
        refine j_iconst X (v := 1) (pc' := 130) dX5_ends_129 (by decide) rfl ?_
        refine j_callVi X (pc' := 133) (As := [.int (nI i4), .int 1]) (rest := [.int r_123, .int 5, .int (nI i4), .ref h]) (c_X5_of l D cI cH cO h ar S_112 i4 1 (by first | omega | assumption | decide | (subst_vars; first | assumption | omega)) (by first | omega | assumption | decide | (subst_vars; first | assumption | omega))) wv_X5_39 ⟨0, 5, _, _, rfl, rfl, rfl⟩ ⟨by decide, by decide, by decide, by decide⟩ rfl rfl (Nat.le_of_ble_eq_true rfl) dX5_ends_130 rfl ?_
        refine j_topL (fun r_130 er_130 => ?_)
        refine j_iadd X (pc' := 134) dX5_ends_133 rfl ?_
        refine j_callVv X (pc' := 137) (As := [.int (nI i4), .int 5, .int (r_123 + r_130)]) (rest := []) (c_X5_puts l D cI cH cO h ar S_112 i4 5 (r_123 + r_130) (by first | omega | assumption | decide | (subst_vars; first | assumption | omega)) (by first | omega | assumption | decide | (subst_vars; first | assumption | omega))) wv_X5_60 ⟨0, 5, _, _, rfl, rfl, rfl⟩ ⟨by decide, by decide, by decide, by decide⟩ rfl rfl (Nat.le_of_ble_eq_true rfl) dX5_ends_134 rfl ?_
        refine j_stL (S := (sX5_puts S_112 i4 5 (r_123 + r_130))) (fun S_134 => (wM cI h ar S_134)) (fun S_134 eS_134 => ?_)
        have hIS_134 : IM S_134 := by rw [eS_134]; exact IM_puts hIS_112
        refine j_aload_n X (pc' := 138) 0 dX5_ends_137 rfl rfl rfl ?_
        refine j_iload X (pc' := 140) 4 dX5_ends_138 rfl rfl ?_
        refine j_iconst X (v := 1) (pc' := 141) dX5_ends_140 (by decide) rfl ?_
        refine j_iconst X (v := 0) (pc' := 142) dX5_ends_141 (by decide) rfl ?_
        refine j_callVv X (pc' := 145) (As := [.int (nI i4), .int 1, .int 0]) (rest := []) (c_X5_puts l D cI cH cO h ar S_134 i4 1 0 (by first | omega | assumption | decide | (subst_vars; first | assumption | omega)) (by first | omega | assumption | decide | (subst_vars; first | assumption | omega))) wv_X5_60 ⟨0, 5, _, _, rfl, rfl, rfl⟩ ⟨by decide, by decide, by decide, by decide⟩ rfl rfl (Nat.le_of_ble_eq_true rfl) dX5_ends_142 rfl ?_
        refine j_stL (S := (sX5_puts S_134 i4 1 0)) (fun S_142 => (wM cI h ar S_142)) (fun S_142 eS_142 => ?_)
        have hIS_142 : IM S_142 := by rw [eS_142]; exact IM_puts hIS_134
        refine j_iinc X (v := (nI (i4 + 1))) (lv' := [(0, .ref h), (1, .int x1), (2, .int x2), (3, .int x3), (4, .int (nI (i4 + 1)))]) (q := 4) (pc' := 148) [1, 2, 3, 4, 0] dX5_ends_145 rfl (nI_1 i4) (by decide) rfl rfl ?_
        refine j_goto X (pc' := 60) dX5_ends_148 (by decide) ?_
        refine j_lv [0, 1, 2, 3, 4] (lv' := [(0, .ref h), (1, .int x1), (2, .int x2), (3, .int x3), (4, .int (nI (i4 + 1)))]) rfl ?_
        exact ih60 _ _ _ _ _ hIS_142 (by first | omega | assumption | decide | (subst_vars; first | assumption | omega)) (by first | omega | assumption | decide | (subst_vars; first | assumption | omega))
  refine j_ltv (fun K57 eK57 => ?_)
  have hK57 : ∀ (C : Cst) (x1 : Int32) (x2 : Int32) (x3 : Int32) (hIC : IM C), J p l e (rml 3) s m args below meth c 5 D (va_A ws0 s.heap.size) 0 0 (KI below args s D (tyl cI cH cO) ws0 (fun C9 => (wM cI h ar C9))) (K57 C x1 x2 x3) ((wM cI h ar C)) 57 [(0, .ref h), (1, .int x1), (2, .int x2), (3, .int x3)] [] := by
    intro C x1 x2 x3 hIC
    rw [eK57]
    refine j_iconst X (v := 0) (pc' := 58) dX5_ends_57 (by decide) rfl ?_
    refine j_istore X (lv' := [(0, .ref h), (1, .int x1), (2, .int x2), (3, .int x3), (4, .int 0)]) (pc' := 60) [1, 2, 3, 4, 0] dX5_ends_58 (by decide) rfl rfl ?_
    refine j_lv [0, 1, 2, 3, 4] (lv' := [(0, .ref h), (1, .int x1), (2, .int x2), (3, .int x3), (4, .int 0)]) rfl ?_
    exact hL60 _ _ _ _ _ _ hIC (by first | omega | assumption | decide | (subst_vars; first | assumption | omega)) (by first | omega | assumption | decide | (subst_vars; first | assumption | omega))
  refine j_ltl5 (fun L20 eL20 => ?_)
  have hL20 : ∀ (n20 : Nat) (C : Cst) (x1 : Int32) (x2 : Int32) (x3 : Int32) (i4 : Nat) (hIC : IM C) (hi : i4 ≤ 8) (hfu : 9 ≤ i4 + n20), J p l e (rml 3) s m args below meth c 5 D (va_A ws0 s.heap.size) 0 0 (KI below args s D (tyl cI cH cO) ws0 (fun C9 => (wM cI h ar C9))) (L20 n20 C x1 x2 x3 i4) ((wM cI h ar C)) 20 [(0, .ref h), (1, .int x1), (2, .int x2), (3, .int x3), (4, .int (nI i4))] [] := by
    intro n20
    induction n20 with
    | zero =>
      intro C x1 x2 x3 i4 hIC hi hfu
      exact absurd hfu (by omega)
    | succ n20 ih20 =>
      intro C x1 x2 x3 i4 hIC hi hfu
      rw [eL20]
      refine j_iload X (pc' := 22) 4 dX5_ends_20 rfl rfl ?_
      refine j_aload_n X (pc' := 23) 0 dX5_ends_22 rfl rfl rfl ?_
      refine j_get X inX5 rfl (pc' := 26) 0 0 q_fl_X5_7 (by decide) rfl rfl dX5_ends_23 rfl ?_
      refine j_iconst X (v := 5) (pc' := 27) dX5_ends_26 (by decide) rfl ?_
      refine j_ialdN X (i := 5) (pc' := 28) 1 rfl (by omega) (by decide) dX5_ends_27 rfl ?_
      refine j_icmp_ge X (tgt := 57) (pc' := 31) dX5_ends_28 (by decide) rfl (fun c_28 => ?_) (fun c_28 => ?_)
      · refine j_lv [0, 1, 2, 3] (lv' := [(0, .ref h), (1, .int x1), (2, .int x2), (3, .int x3)]) rfl ?_
        exact hK57 _ _ _ _ hIC
      · have hb_28 : i4 < 8 := i32_lt8 c_28 hIC.2.1 (by omega)
        refine j_aload_n X (pc' := 32) 0 dX5_ends_31 rfl rfl rfl ?_
        refine j_get X inX5 rfl (pc' := 35) 0 7 q_fl_X5_22 (by decide) rfl rfl dX5_ends_32 rfl ?_
        refine j_iload X (pc' := 37) 4 dX5_ends_35 rfl rfl ?_
        refine j_aload_n X (pc' := 38) 0 dX5_ends_37 rfl rfl rfl ?_
        refine j_iload X (pc' := 40) 4 dX5_ends_38 rfl rfl ?_
        refine j_aload_n X (pc' := 41) 0 dX5_ends_40 rfl rfl rfl ?_
        refine j_iload X (pc' := 43) 4 dX5_ends_41 rfl rfl ?_
        refine j_iconst X (v := 1) (pc' := 44) dX5_ends_43 (by decide) rfl ?_
        refine j_callVi X (pc' := 47) (As := [.int (nI i4), .int 1]) (rest := [.int (nI i4), .ref h, .int (nI i4), .ref (ar 7)]) (c_X5_of l D cI cH cO h ar C i4 1 (by first | omega | assumption | decide | (subst_vars; first | assumption | omega)) (by first | omega | assumption | decide | (subst_vars; first | assumption | omega))) wv_X5_39 ⟨0, 5, _, _, rfl, rfl, rfl⟩ ⟨by decide, by decide, by decide, by decide⟩ rfl rfl (Nat.le_of_ble_eq_true rfl) dX5_ends_44 rfl ?_
        refine j_topL (fun r_44 er_44 => ?_)
        refine j_callVi X (pc' := 50) (As := [.int (nI i4), .int r_44]) (rest := [.int (nI i4), .ref (ar 7)]) (c_X5_chargeFor l D cI cH cO h ar C (nI i4) r_44 hIC) wv_X5_68 ⟨0, 5, _, _, rfl, rfl, rfl⟩ ⟨by decide, by decide, by decide, by decide⟩ rfl rfl (Nat.le_of_ble_eq_true rfl) dX5_ends_47 rfl ?_
        refine j_topL (fun r_47 er_47 => ?_)
        refine j_iastN X (i := i4) (pc' := 51) (S := up C 7 i4 r_47) (fun S_50 => (wM cI h ar S_50)) 5 rfl rfl (by omega) (by decide) dX5_ends_50 rfl (fun S_50 eS_50 => ?_)
        have hIS_50 : IM S_50 := by rw [eS_50]; exact IM_k (by decide) (by decide) (by decide) hIC
        refine j_iinc X (v := (nI (i4 + 1))) (lv' := [(0, .ref h), (1, .int x1), (2, .int x2), (3, .int x3), (4, .int (nI (i4 + 1)))]) (q := 4) (pc' := 54) [1, 2, 3, 4, 0] dX5_ends_51 rfl (nI_1 i4) (by decide) rfl rfl ?_
        refine j_goto X (pc' := 20) dX5_ends_54 (by decide) ?_
        refine j_lv [0, 1, 2, 3, 4] (lv' := [(0, .ref h), (1, .int x1), (2, .int x2), (3, .int x3), (4, .int (nI (i4 + 1)))]) rfl ?_
        exact ih20 _ _ _ _ _ hIS_50 (by first | omega | assumption | decide | (subst_vars; first | assumption | omega)) (by first | omega | assumption | decide | (subst_vars; first | assumption | omega))
  refine j_aload_n X (pc' := 1) 0 dX5_ends_0 rfl rfl rfl ?_
  refine j_iconst X (v := 1) (pc' := 2) dX5_ends_1 (by decide) rfl ?_
  refine j_callVi X (pc' := 5) (As := [.int 1]) (rest := []) (c_X5_sum l D cI cH cO h ar C 1 hIC (by first | omega | assumption | decide | (subst_vars; first | assumption | omega))) wv_X5_71 ⟨0, 5, _, _, rfl, rfl, rfl⟩ ⟨by decide, by decide, by decide, by decide⟩ rfl rfl (Nat.le_of_ble_eq_true rfl) dX5_ends_2 rfl ?_
  refine j_topL (fun r_2 er_2 => ?_)
  refine j_istore_n X (lv' := [(0, .ref h), (1, .int r_2)]) (pc' := 6) [1, 0] dX5_ends_5 rfl (by decide) rfl rfl ?_
  refine j_aload_n X (pc' := 7) 0 dX5_ends_6 rfl rfl rfl ?_
  refine j_iload_n X (pc' := 8) 1 dX5_ends_7 rfl rfl rfl ?_
  refine j_callVi X (pc' := 11) (As := [.int r_2]) (rest := []) (c_X5_damage l D cI cH cO h ar C r_2 hIC.2.2.1) wv_X5_50 ⟨0, 5, _, _, rfl, rfl, rfl⟩ ⟨by decide, by decide, by decide, by decide⟩ rfl rfl (Nat.le_of_ble_eq_true rfl) dX5_ends_8 rfl ?_
  refine j_topL (fun r_8 er_8 => ?_)
  refine j_istore_n X (lv' := [(0, .ref h), (1, .int r_2), (2, .int r_8)]) (pc' := 12) [1, 2, 0] dX5_ends_11 rfl (by decide) rfl rfl ?_
  refine j_aload_n X (pc' := 13) 0 dX5_ends_12 rfl rfl rfl ?_
  refine j_callVi X (pc' := 16) (As := []) (rest := []) (c_X5_outSet l D cI cH cO h ar C hIC) wv_X5_74 ⟨0, 5, _, _, rfl, rfl, rfl⟩ ⟨by decide, by decide, by decide, by decide⟩ rfl rfl (Nat.le_of_ble_eq_true rfl) dX5_ends_13 rfl ?_
  refine j_topL (fun r_13 er_13 => ?_)
  refine j_istore_n X (lv' := [(0, .ref h), (1, .int r_2), (2, .int r_8), (3, .int r_13)]) (pc' := 17) [1, 2, 3, 0] dX5_ends_16 rfl (by decide) rfl rfl ?_
  refine j_iconst X (v := 0) (pc' := 18) dX5_ends_17 (by decide) rfl ?_
  refine j_istore X (lv' := [(0, .ref h), (1, .int r_2), (2, .int r_8), (3, .int r_13), (4, .int 0)]) (pc' := 20) [1, 2, 3, 4, 0] dX5_ends_18 (by decide) rfl rfl ?_
  refine j_lv [0, 1, 2, 3, 4] (lv' := [(0, .ref h), (1, .int r_2), (2, .int r_8), (3, .int r_13), (4, .int 0)]) rfl ?_
  exact hL20 _ _ _ _ _ _ hIC (by first | omega | assumption | decide | (subst_vars; first | assumption | omega)) (by first | omega | assumption | decide | (subst_vars; first | assumption | omega))
theorem c_X5_ends (l : Launch) (D : va_G) (cI cH cO : ClassId) (h : Nat) (ar : Nat → Nat) (C : Cst) (hIC : IM C) : MI l yX5_ends cX5_ends 5 (some .int) 3 D (tyl cI cH cO) [.ref h] ((wM cI h ar C)) (sX5_ends C).1 ((wM cI h ar ((sX5_ends C).2))) := fun sz => j_start (fun below s => (KI below [.ref h].toArray s D (tyl cI cH cO) ((wM cI h ar C)) (fun C9 => (wM cI h ar C9)))) (sX5_ends C) (by decide +kernel) rfl (Nat.le_of_ble_eq_true rfl) (fun below s hs _ => by subst hs; rfl) (fun p e s m below meth c hX9 X => b_X5_ends h ar C hIC X)
