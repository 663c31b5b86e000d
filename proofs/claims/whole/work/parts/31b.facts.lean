set_option maxHeartbeats 4000000 in
set_option maxRecDepth 100000 in
theorem IM2_calls {C : Cst} {x1 : Int32} (hIC : IM C) : IM2 (sX5_calls C x1) := by
  unfold sX5_calls
  refine p_ite (fun c_1_99 => ?_) (fun c_1_99 => ?_)
  · refine p_bnd (fun r_73 S_73 er_73 => ?_)
    have hIS_73 : IM S_73 := by have h9 : IM (sX5_close C).2 := IM_close hIC; rw [er_73] at h9; exact h9
    exact hIS_73
  refine p_ite (fun c_1_109 => ?_) (fun c_1_109 => ?_)
  · refine p_bnd (fun r_51 S_51 er_51 => ?_)
    have hIS_51 : IM S_51 := by have h9 : IM (sX5_member C (C 11 0)).2 := IM_member hIC; rw [er_51] at h9; exact h9
    exact hIS_51
  refine p_ite (fun c_1_112 => ?_) (fun c_1_112 => ?_)
  · refine p_bnd (fun r_90 S_90 er_90 => ?_)
    have hIS_90 : IM S_90 := by have h9 : IM (sX5_pay C (C 11 0) (C 11 1)).2 := IM_pay hIC; rw [er_90] at h9; exact h9
    exact hIS_90
  refine p_ite (fun c_1_117 => ?_) (fun c_1_117 => ?_)
  · refine p_bnd (fun r_68 S_68 er_68 => ?_)
    have hIS_68 : IM S_68 := by have h9 : IM (sX5_use C (C 11 0) (C 11 1)).2 := IM_use hIC; rw [er_68] at h9; exact h9
    exact hIS_68
  refine p_bnd (fun r_101 S_101 er_101 => ?_)
  have hIS_101 : IM S_101 := by have h9 : IM (sX5_repair C (C 11 0)).2 := IM_repair hIC; rw [er_101] at h9; exact h9
  exact hIS_101
theorem IM_calls {C : Cst} {x1 : Int32} (hIC : IM C)  : IM (sX5_calls C x1).2 := IM2_calls hIC
def FR (R0 C : Cst) : Prop := ∀ k, ¬ (k = 0 ∨ k = 1 ∨ k = 3 ∨ k = 7) → C k = R0 k
theorem FR_k {R0 C : Cst} {k i : Nat} {x : Int32} (hk : k = 0 ∨ k = 1 ∨ k = 3 ∨ k = 7) (h : FR R0 C) : FR R0 (up C k i x) := fun j hj => (up_k (fun e => hj (by rw [e]; exact hk))).trans (h j hj)
theorem FR_puts {R0 C : Cst} {i w : Nat} {x : Int32} (h : FR R0 C) : FR R0 (sX5_puts C i w x) := by
  unfold sX5_puts; simp only [ltv]; exact FR_k (by decide) h
def FR2 (R0 : Cst) (t : Int32 × Cst) : Prop := FR R0 t.2
set_option maxHeartbeats 4000000 in
set_option maxRecDepth 100000 in
theorem FR_changes {R0 : Cst} {C : Cst} (hIC : FR R0 C) : FR R0 (sX5_changes C) := by
  unfold sX5_changes
  refine p_ltv (fun K90 eK90 => ?_)
  have hK90 : ∀ (C : Cst) (hIC : FR R0 C), FR R0 (K90 C) := by
    intro C hIC
    rw [eK90]
    refine p_ltv (fun S_97 eS_97 => ?_)
    have hIS_97 : FR R0 S_97 := by rw [eS_97]; exact FR_k (by decide) hIC
    exact hIS_97
  refine p_ltz2 (fun L58 eL58 zL58 => ?_)
  have hL58 : ∀ (n58 : Nat) (C : Cst) (i1 : Nat) (hIC : FR R0 C), FR R0 (L58 n58 C i1) := by
    intro n58
    induction n58 with
    | zero =>
      intro C i1 hIC
      rw [zL58]; exact hIC
    | succ n58 ih58 =>
      intro C i1 hIC
      rw [eL58]
      refine p_ite (fun c_61 => ?_) (fun c_61 => ?_)
      · skip
        exact hK90 _ hIC
      · skip
        refine p_ltv (fun S_83 eS_83 => ?_)
        have hIS_83 : FR R0 S_83 := by rw [eS_83]; exact FR_k (by decide) hIC
        exact ih58 _ _ hIS_83
  refine p_ltv (fun K56 eK56 => ?_)
  have hK56 : ∀ (C : Cst) (hIC : FR R0 C), FR R0 (K56 C) := by
    intro C hIC
    rw [eK56]
    exact hL58 _ _ _ hIC
  refine p_ltv (fun K46 eK46 => ?_)
  have hK46 : ∀ (C : Cst) (hIC : FR R0 C), FR R0 (K46 C) := by
    intro C hIC
    rw [eK46]
    refine p_ltv (fun S_53 eS_53 => ?_)
    have hIS_53 : FR R0 S_53 := by rw [eS_53]; exact FR_k (by decide) hIC
    exact hK56 _ hIS_53
  refine p_ltz2 (fun L18 eL18 zL18 => ?_)
  have hL18 : ∀ (n18 : Nat) (C : Cst) (i1 : Nat) (hIC : FR R0 C), FR R0 (L18 n18 C i1) := by
    intro n18
    induction n18 with
    | zero =>
      intro C i1 hIC
      rw [zL18]; exact hIC
    | succ n18 ih18 =>
      intro C i1 hIC
      rw [eL18]
      refine p_ite (fun c_22 => ?_) (fun c_22 => ?_)
      · skip
        exact hK46 _ hIC
      · skip
        refine p_ltv (fun S_39 eS_39 => ?_)
        have hIS_39 : FR R0 S_39 := by rw [eS_39]; exact FR_k (by decide) hIC
        exact ih18 _ _ hIS_39
  refine p_ite (fun c_4 => ?_) (fun c_4 => ?_)
  · refine p_ite (fun c_13 => ?_) (fun c_13 => ?_)
    · exact hK56 _ hIC
    · exact hL18 _ _ _ hIC
  · exact hIC
set_option maxHeartbeats 4000000 in
set_option maxRecDepth 100000 in
theorem FR_keeps {R0 : Cst} {C : Cst} {x1 : Int32} {x2 : Int32} {x3 : Int32} {x4 : Int32} (hIC : FR R0 C) : FR R0 (sX5_keeps C x1 x2 x3 x4) := by
  unfold sX5_keeps
  refine p_ltv (fun K117 eK117 => ?_)
  have hK117 : ∀ (C : Cst) (t0 : Int32) (hIC : FR R0 C), FR R0 (K117 C t0) := by
    intro C t0 hIC
    rw [eK117]
    refine p_ltv (fun S_117 eS_117 => ?_)
    have hIS_117 : FR R0 S_117 := by rw [eS_117]; exact FR_k (by decide) hIC
    exact hIS_117
  refine p_ltv (fun K38 eK38 => ?_)
  have hK38 : ∀ (C : Cst) (x1 : Int32) (x2 : Int32) (x3 : Int32) (x4 : Int32) (hIC : FR R0 C), FR R0 (K38 C x1 x2 x3 x4) := by
    intro C x1 x2 x3 x4 hIC
    rw [eK38]
    refine p_ltv (fun S_45 eS_45 => ?_)
    have hIS_45 : FR R0 S_45 := by rw [eS_45]; exact FR_k (by decide) hIC
    refine p_ltv (fun S_53 eS_53 => ?_)
    have hIS_53 : FR R0 S_53 := by rw [eS_53]; exact FR_k (by decide) hIS_45
    refine p_ltv (fun S_61 eS_61 => ?_)
    have hIS_61 : FR R0 S_61 := by rw [eS_61]; exact FR_k (by decide) hIS_53
    refine p_ltv (fun S_75 eS_75 => ?_)
    have hIS_75 : FR R0 S_75 := by rw [eS_75]; exact FR_k (by decide) hIS_61
    refine p_ltv (fun S_84 eS_84 => ?_)
    have hIS_84 : FR R0 S_84 := by rw [eS_84]; exact FR_k (by decide) hIS_75
    refine p_ite (fun c_100 => ?_) (fun c_100 => ?_)
    · exact hK117 _ _ hIS_84
    · exact hK117 _ _ hIS_84
  refine p_ltz6 (fun L4 eL4 zL4 => ?_)
  have hL4 : ∀ (n4 : Nat) (C : Cst) (x1 : Int32) (x2 : Int32) (x3 : Int32) (x4 : Int32) (i5 : Nat) (hIC : FR R0 C), FR R0 (L4 n4 C x1 x2 x3 x4 i5) := by
    intro n4
    induction n4 with
    | zero =>
      intro C x1 x2 x3 x4 i5 hIC
      rw [zL4]; exact hIC
    | succ n4 ih4 =>
      intro C x1 x2 x3 x4 i5 hIC
      rw [eL4]
      refine p_ite (fun c_7 => ?_) (fun c_7 => ?_)
      · skip
        exact hK38 _ _ _ _ _ hIC
      · skip
        refine p_ltv (fun S_31 eS_31 => ?_)
        have hIS_31 : FR R0 S_31 := by rw [eS_31]; exact FR_k (by decide) hIC
        exact ih4 _ _ _ _ _ _ hIS_31
  exact hL4 _ _ _ _ _ _ _ hIC
set_option maxHeartbeats 4000000 in
set_option maxRecDepth 100000 in
theorem FR_excludes {R0 : Cst} {C : Cst} {x1 : Int32} (hIC : FR R0 C) : FR R0 (sX5_excludes C x1) := by
  unfold sX5_excludes
  refine p_ltz3 (fun L177 eL177 zL177 => ?_)
  have hL177 : ∀ (n177 : Nat) (C : Cst) (x3 : Int32) (i4 : Nat) (hIC : FR R0 C), FR R0 (L177 n177 C x3 i4) := by
    intro n177
    induction n177 with
    | zero =>
      intro C x3 i4 hIC
      rw [zL177]; exact hIC
    | succ n177 ih177 =>
      intro C x3 i4 hIC
      rw [eL177]
      refine p_ltv (fun K259 eK259 => ?_)
      have hK259 : ∀ (C : Cst) (x3 : Int32) (i4 : Nat) (t0 : Int32) (t2 : Nat) (hIC : FR R0 C), FR R0 (K259 C x3 i4 t0 t2) := by
        intro C x3 i4 t0 t2 hIC
        rw [eK259]
        refine p_ltv (fun S_259 eS_259 => ?_)
        have hIS_259 : FR R0 S_259 := by rw [eS_259]; exact FR_puts hIC
        refine p_ltv (fun r_272 er_272 => ?_)
        refine p_ltv (fun r_280 er_280 => ?_)
        refine p_ltv (fun S_284 eS_284 => ?_)
        have hIS_284 : FR R0 S_284 := by rw [eS_284]; exact FR_puts hIS_259
        exact ih177 _ _ _ hIS_284
      refine p_ltv (fun K254 eK254 => ?_)
      have hK254 : ∀ (C : Cst) (x3 : Int32) (i4 : Nat) (t1 : Nat) (hIC : FR R0 C), FR R0 (K254 C x3 i4 t1) := by
        intro C x3 i4 t1 hIC
        rw [eK254]
        exact hK259 _ _ _ _ _ hIC
      refine p_ltv (fun K225 eK225 => ?_)
      have hK225 : ∀ (C : Cst) (x3 : Int32) (i4 : Nat) (x5 : Int32) (t0 : Int32) (t2 : Nat) (hIC : FR R0 C), FR R0 (K225 C x3 i4 x5 t0 t2) := by
        intro C x3 i4 x5 t0 t2 hIC
        rw [eK225]
        refine p_ltv (fun S_225 eS_225 => ?_)
        have hIS_225 : FR R0 S_225 := by rw [eS_225]; exact FR_puts hIC
        refine p_ite (fun c_235 => ?_) (fun c_235 => ?_)
        · exact hK254 _ _ _ _ hIS_225
        · refine p_ltv (fun r_242 er_242 => ?_)
          refine p_ite (fun c_251 => ?_) (fun c_251 => ?_)
          · exact hK259 _ _ _ _ _ hIS_225
          · exact hK254 _ _ _ _ hIS_225
      refine p_ltv (fun K203 eK203 => ?_)
      have hK203 : ∀ (C : Cst) (x3 : Int32) (i4 : Nat) (t0 : Int32) (hIC : FR R0 C), FR R0 (K203 C x3 i4 t0) := by
        intro C x3 i4 t0 hIC
        rw [eK203]
        refine p_ite (fun c_211 => ?_) (fun c_211 => ?_)
        · refine p_ltv (fun r_222 er_222 => ?_)
          exact hK225 _ _ _ _ _ _ hIC
        · exact hK225 _ _ _ _ _ _ hIC
      refine p_ite (fun c_185 => ?_) (fun c_185 => ?_)
      · exact hIC
      · skip
        refine p_ite (fun c_195 => ?_) (fun c_195 => ?_)
        · exact hK203 _ _ _ _ hIC
        · exact hK203 _ _ _ _ hIC
  refine p_ltv (fun K174 eK174 => ?_)
  have hK174 : ∀ (C : Cst) (x3 : Int32) (hIC : FR R0 C), FR R0 (K174 C x3) := by
    intro C x3 hIC
    rw [eK174]
    exact hL177 _ _ _ _ hIC
  refine p_ltz5 (fun L71 eL71 zL71 => ?_)
  have hL71 : ∀ (n71 : Nat) (C : Cst) (x1 : Int32) (x2 : Int32) (x3 : Int32) (i4 : Nat) (hIC : FR R0 C), FR R0 (L71 n71 C x1 x2 x3 i4) := by
    intro n71
    induction n71 with
    | zero =>
      intro C x1 x2 x3 i4 hIC
      rw [zL71]; exact hIC
    | succ n71 ih71 =>
      intro C x1 x2 x3 i4 hIC
      rw [eL71]
      refine p_ltv (fun K168 eK168 => ?_)
      have hK168 : ∀ (C : Cst) (x1 : Int32) (x2 : Int32) (x3 : Int32) (i4 : Nat) (hIC : FR R0 C), FR R0 (K168 C x1 x2 x3 i4) := by
        intro C x1 x2 x3 i4 hIC
        rw [eK168]
        exact ih71 _ _ _ _ _ hIC
      refine p_ltv (fun K156 eK156 => ?_)
      have hK156 : ∀ (C : Cst) (x1 : Int32) (x2 : Int32) (x3 : Int32) (i4 : Nat) (x5 : Int32) (hIC : FR R0 C), FR R0 (K156 C x1 x2 x3 i4 x5) := by
        intro C x1 x2 x3 i4 x5 hIC
        rw [eK156]
        refine p_ite (fun c_158 => ?_) (fun c_158 => ?_)
        · exact hK168 _ _ _ _ _ hIC
        · refine p_ltv (fun v3_167 ev3_167 => ?_)
          exact hK168 _ _ _ _ _ hIC
      refine p_ltz7 (fun L85 eL85 zL85 => ?_)
      have hL85 : ∀ (n85 : Nat) (C : Cst) (x1 : Int32) (x2 : Int32) (x3 : Int32) (i4 : Nat) (x5 : Int32) (i6 : Nat) (hIC : FR R0 C), FR R0 (L85 n85 C x1 x2 x3 i4 x5 i6) := by
        intro n85
        induction n85 with
        | zero =>
          intro C x1 x2 x3 i4 x5 i6 hIC
          rw [zL85]; exact hIC
        | succ n85 ih85 =>
          intro C x1 x2 x3 i4 x5 i6 hIC
          rw [eL85]
          refine p_ltv (fun K148 eK148 => ?_)
          have hK148 : ∀ (C : Cst) (x1 : Int32) (x2 : Int32) (x3 : Int32) (i4 : Nat) (i6 : Nat) (t0 : Int32) (hIC : FR R0 C), FR R0 (K148 C x1 x2 x3 i4 i6 t0) := by
            intro C x1 x2 x3 i4 i6 t0 hIC
            rw [eK148]
            exact ih85 _ _ _ _ _ _ _ hIC
          refine p_ltv (fun K146 eK146 => ?_)
          have hK146 : ∀ (C : Cst) (x1 : Int32) (x2 : Int32) (x3 : Int32) (i4 : Nat) (x5 : Int32) (i6 : Nat) (hIC : FR R0 C), FR R0 (K146 C x1 x2 x3 i4 x5 i6) := by
            intro C x1 x2 x3 i4 x5 i6 hIC
            rw [eK146]
            exact hK148 _ _ _ _ _ _ _ hIC
          refine p_ltv (fun K141 eK141 => ?_)
          have hK141 : ∀ (C : Cst) (x1 : Int32) (x2 : Int32) (x3 : Int32) (i4 : Nat) (i6 : Nat) (hIC : FR R0 C), FR R0 (K141 C x1 x2 x3 i4 i6) := by
            intro C x1 x2 x3 i4 i6 hIC
            rw [eK141]
            exact hK148 _ _ _ _ _ _ _ hIC
          refine p_ltv (fun K124 eK124 => ?_)
          have hK124 : ∀ (C : Cst) (x1 : Int32) (x2 : Int32) (x3 : Int32) (i4 : Nat) (i5 : Nat) (i6 : Nat) (hIC : FR R0 C), FR R0 (K124 C x1 x2 x3 i4 i5 i6) := by
            intro C x1 x2 x3 i4 i5 i6 hIC
            rw [eK124]
            refine p_ltv (fun r_128 er_128 => ?_)
            refine p_ltv (fun r_135 er_135 => ?_)
            refine p_ite (fun c_138 => ?_) (fun c_138 => ?_)
            · exact hK146 _ _ _ _ _ _ _ hIC
            · exact hK141 _ _ _ _ _ _ hIC
          refine p_ltv (fun K112 eK112 => ?_)
          have hK112 : ∀ (C : Cst) (x1 : Int32) (x2 : Int32) (x3 : Int32) (i4 : Nat) (x5 : Int32) (i6 : Nat) (t0 : Int32) (hIC : FR R0 C), FR R0 (K112 C x1 x2 x3 i4 x5 i6 t0) := by
            intro C x1 x2 x3 i4 x5 i6 t0 hIC
            rw [eK112]
            refine p_ite (fun c_116 => ?_) (fun c_116 => ?_)
            · exact hK146 _ _ _ _ _ _ _ hIC
            · refine p_ite (fun c_121 => ?_) (fun c_121 => ?_)
              · exact hK141 _ _ _ _ _ _ hIC
              · skip
                exact hK124 _ _ _ _ _ _ _ hIC
          refine p_ite (fun c_93 => ?_) (fun c_93 => ?_)
          · exact hK156 _ _ _ _ _ _ hIC
          · skip
            refine p_ite (fun c_104 => ?_) (fun c_104 => ?_)
            · exact hK112 _ _ _ _ _ _ _ _ hIC
            · exact hK112 _ _ _ _ _ _ _ _ hIC
      refine p_ite (fun c_74 => ?_) (fun c_74 => ?_)
      · exact hK174 _ _ hIC
      · exact hL85 _ _ _ _ _ _ _ _ hIC
  refine p_ltv (fun K65 eK65 => ?_)
  have hK65 : ∀ (C : Cst) (x1 : Int32) (t0 : Int32) (hIC : FR R0 C), FR R0 (K65 C x1 t0) := by
    intro C x1 t0 hIC
    rw [eK65]
    exact hL71 _ _ _ _ _ _ hIC
  refine p_ltv (fun K40 eK40 => ?_)
  have hK40 : ∀ (C : Cst) (x1 : Int32) (t0 : Int32) (hIC : FR R0 C), FR R0 (K40 C x1 t0) := by
    intro C x1 t0 hIC
    rw [eK40]
    refine p_ite (fun c_50 => ?_) (fun c_50 => ?_)
    · exact hK65 _ _ _ hIC
    · exact hK65 _ _ _ hIC
  refine p_ite (fun c_13 => ?_) (fun c_13 => ?_)
  · exact hK40 _ _ _ hIC
  · exact hK40 _ _ _ hIC
set_option maxHeartbeats 4000000 in
set_option maxRecDepth 100000 in
theorem FR2_ends {R0 : Cst} {C : Cst} (hIC : FR R0 C) : FR2 R0 (sX5_ends C) := by
  unfold sX5_ends
  refine p_ltv (fun K271 eK271 => ?_)
  have hK271 : ∀ (C : Cst) (x1 : Int32) (x2 : Int32) (x3 : Int32) (t0 : Int32) (hIC : FR R0 C), FR2 R0 (K271 C x1 x2 x3 t0) := by
    intro C x1 x2 x3 t0 hIC
    rw [eK271]
    refine p_ltv (fun S_271 eS_271 => ?_)
    have hIS_271 : FR R0 S_271 := by rw [eS_271]; exact FR_k (by decide) hIC
    refine p_ltv (fun S_283 eS_283 => ?_)
    have hIS_283 : FR R0 S_283 := by rw [eS_283]; exact FR_keeps hIS_271
    refine p_ltv (fun S_296 eS_296 => ?_)
    have hIS_296 : FR R0 S_296 := by rw [eS_296]; exact FR_k (by decide) hIS_283
    refine p_ltv (fun S_299 eS_299 => ?_)
    have hIS_299 : FR R0 S_299 := by rw [eS_299]; exact FR_excludes hIS_296
    exact hIS_299
  refine p_ltv (fun K226 eK226 => ?_)
  have hK226 : ∀ (C : Cst) (x1 : Int32) (x2 : Int32) (x3 : Int32) (t0 : Int32) (hIC : FR R0 C), FR2 R0 (K226 C x1 x2 x3 t0) := by
    intro C x1 x2 x3 t0 hIC
    rw [eK226]
    refine p_ltv (fun S_226 eS_226 => ?_)
    have hIS_226 : FR R0 S_226 := by rw [eS_226]; exact FR_k (by decide) hIC
    refine p_ite (fun c_249 => ?_) (fun c_249 => ?_)
    · exact hK271 _ _ _ _ _ hIS_226
    · exact hK271 _ _ _ _ _ hIS_226
  refine p_ltv (fun K194 eK194 => ?_)
  have hK194 : ∀ (C : Cst) (x1 : Int32) (x2 : Int32) (x3 : Int32) (t0 : Int32) (t1 : Int32) (hIC : FR R0 C), FR2 R0 (K194 C x1 x2 x3 t0 t1) := by
    intro C x1 x2 x3 t0 t1 hIC
    rw [eK194]
    refine p_ltv (fun S_195 eS_195 => ?_)
    have hIS_195 : FR R0 S_195 := by rw [eS_195]; exact FR_k (by decide) hIC
    refine p_ite (fun c_210 => ?_) (fun c_210 => ?_)
    · exact hK226 _ _ _ _ _ hIS_195
    · exact hK226 _ _ _ _ _ hIS_195
  refine p_ltv (fun K151 eK151 => ?_)
  have hK151 : ∀ (C : Cst) (x1 : Int32) (x2 : Int32) (x3 : Int32) (hIC : FR R0 C), FR2 R0 (K151 C x1 x2 x3) := by
    intro C x1 x2 x3 hIC
    rw [eK151]
    refine p_ltv (fun S_161 eS_161 => ?_)
    have hIS_161 : FR R0 S_161 := by rw [eS_161]; exact FR_k (by decide) hIC
    refine p_ite (fun c_178 => ?_) (fun c_178 => ?_)
    · exact hK194 _ _ _ _ _ _ hIS_161
    · exact hK194 _ _ _ _ _ _ hIS_161
  refine p_ltz5 (fun L60 eL60 zL60 => ?_)
  have hL60 : ∀ (n60 : Nat) (C : Cst) (x1 : Int32) (x2 : Int32) (x3 : Int32) (i4 : Nat) (hIC : FR R0 C), FR2 R0 (L60 n60 C x1 x2 x3 i4) := by
    intro n60
    induction n60 with
    | zero =>
      intro C x1 x2 x3 i4 hIC
      rw [zL60]; exact hIC
    | succ n60 ih60 =>
      intro C x1 x2 x3 i4 hIC
      rw [eL60]
      refine p_ite (fun c_68 => ?_) (fun c_68 => ?_)
      · exact hK151 _ _ _ _ hIC
      · skip
        refine p_ltv (fun r_79 er_79 => ?_)
        refine p_ltv (fun S_90 eS_90 => ?_)
        have hIS_90 : FR R0 S_90 := by rw [eS_90]; exact FR_puts hIC
        refine p_ltv (fun r_101 er_101 => ?_)
        refine p_ltv (fun r_108 er_108 => ?_)
        refine p_ltv (fun S_112 eS_112 => ?_)
        have hIS_112 : FR R0 S_112 := by rw [eS_112]; exact FR_puts hIS_90
        refine p_ltv (fun r_123 er_123 => ?_)
        refine p_ltv (fun r_130 er_130 => ?_)
        refine p_ltv (fun S_134 eS_134 => ?_)
        have hIS_134 : FR R0 S_134 := by rw [eS_134]; exact FR_puts hIS_112
        refine p_ltv (fun S_142 eS_142 => ?_)
        have hIS_142 : FR R0 S_142 := by rw [eS_142]; exact FR_puts hIS_134
        exact ih60 _ _ _ _ _ hIS_142
  refine p_ltv (fun K57 eK57 => ?_)
  have hK57 : ∀ (C : Cst) (x1 : Int32) (x2 : Int32) (x3 : Int32) (hIC : FR R0 C), FR2 R0 (K57 C x1 x2 x3) := by
    intro C x1 x2 x3 hIC
    rw [eK57]
    exact hL60 _ _ _ _ _ _ hIC
  refine p_ltz5 (fun L20 eL20 zL20 => ?_)
  have hL20 : ∀ (n20 : Nat) (C : Cst) (x1 : Int32) (x2 : Int32) (x3 : Int32) (i4 : Nat) (hIC : FR R0 C), FR2 R0 (L20 n20 C x1 x2 x3 i4) := by
    intro n20
    induction n20 with
    | zero =>
      intro C x1 x2 x3 i4 hIC
      rw [zL20]; exact hIC
    | succ n20 ih20 =>
      intro C x1 x2 x3 i4 hIC
      rw [eL20]
      refine p_ite (fun c_28 => ?_) (fun c_28 => ?_)
      · exact hK57 _ _ _ _ hIC
      · skip
        refine p_ltv (fun r_44 er_44 => ?_)
        refine p_ltv (fun r_47 er_47 => ?_)
        refine p_ltv (fun S_50 eS_50 => ?_)
        have hIS_50 : FR R0 S_50 := by rw [eS_50]; exact FR_k (by decide) hIC
        exact ih20 _ _ _ _ _ hIS_50
  refine p_ltv (fun r_2 er_2 => ?_)
  refine p_ltv (fun r_8 er_8 => ?_)
  refine p_ltv (fun r_13 er_13 => ?_)
  exact hL20 _ _ _ _ _ _ hIC
theorem FR_ends {R0 : Cst} {C : Cst}  (hIC : FR R0 C) : FR R0 (sX5_ends C ).2 := FR2_ends hIC
set_option maxHeartbeats 4000000 in
set_option maxRecDepth 100000 in
theorem FR2_member {R0 : Cst} {C : Cst} {x1 : Int32} (hIC : FR R0 C) : FR2 R0 (sX5_member C x1) := by
  unfold sX5_member
  refine p_ltv (fun K56 eK56 => ?_)
  have hK56 : ∀ (C : Cst) (x1 : Int32) (i2 : Nat) (hIC : FR R0 C), FR2 R0 (K56 C x1 i2) := by
    intro C x1 i2 hIC
    rw [eK56]
    refine p_ltv (fun S_60 eS_60 => ?_)
    have hIS_60 : FR R0 S_60 := by rw [eS_60]; exact FR_puts hIC
    refine p_ltv (fun S_72 eS_72 => ?_)
    have hIS_72 : FR R0 S_72 := by rw [eS_72]; exact FR_k (by decide) hIS_60
    exact hIS_72
  refine p_ltz4 (fun L37 eL37 zL37 => ?_)
  have hL37 : ∀ (n37 : Nat) (C : Cst) (x1 : Int32) (i2 : Nat) (i3 : Nat) (hIC : FR R0 C), FR2 R0 (L37 n37 C x1 i2 i3) := by
    intro n37
    induction n37 with
    | zero =>
      intro C x1 i2 i3 hIC
      rw [zL37]; exact hIC
    | succ n37 ih37 =>
      intro C x1 i2 i3 hIC
      rw [eL37]
      refine p_ite (fun c_40 => ?_) (fun c_40 => ?_)
      · skip
        exact hK56 _ _ _ hIC
      · skip
        refine p_ltv (fun S_47 eS_47 => ?_)
        have hIS_47 : FR R0 S_47 := by rw [eS_47]; exact FR_puts hIC
        exact ih37 _ _ _ _ hIS_47
  refine p_ltv (fun K31 eK31 => ?_)
  have hK31 : ∀ (C : Cst) (x1 : Int32) (i2 : Nat) (hIC : FR R0 C), FR2 R0 (K31 C x1 i2) := by
    intro C x1 i2 hIC
    rw [eK31]
    refine p_ltv (fun S_32 eS_32 => ?_)
    have hIS_32 : FR R0 S_32 := by rw [eS_32]; exact FR_changes hIC
    exact hL37 _ _ _ _ _ hIS_32
  refine p_ltv (fun r_4 er_4 => ?_)
  refine p_ite (fun c_7 => ?_) (fun c_7 => ?_)
  · refine p_ltv (fun v2_20 ev2_20 => ?_)
    refine p_ite (fun c_24 => ?_) (fun c_24 => ?_)
    · skip
      exact hK31 _ _ _ hIC
    · exact hIC
  · exact hIC
theorem FR_member {R0 : Cst} {C : Cst} {x1 : Int32} (hIC : FR R0 C) : FR R0 (sX5_member C x1).2 := FR2_member hIC
set_option maxHeartbeats 4000000 in
set_option maxRecDepth 100000 in
theorem FR2_use {R0 : Cst} {C : Cst} {x1 : Int32} {x2 : Int32} (hIC : FR R0 C) : FR2 R0 (sX5_use C x1 x2) := by
  unfold sX5_use
  refine p_ltv (fun K22 eK22 => ?_)
  have hK22 : ∀ (C : Cst) (i1 : Nat) (x2 : Int32) (hIC : FR R0 C), FR2 R0 (K22 C i1 x2) := by
    intro C i1 x2 hIC
    rw [eK22]
    refine p_ltv (fun r_26 er_26 => ?_)
    refine p_ite (fun c_30 => ?_) (fun c_30 => ?_)
    · refine p_ltv (fun S_38 eS_38 => ?_)
      have hIS_38 : FR R0 S_38 := by rw [eS_38]; exact FR_changes hIC
      refine p_ltv (fun S_45 eS_45 => ?_)
      have hIS_45 : FR R0 S_45 := by rw [eS_45]; exact FR_puts hIS_38
      refine p_ltv (fun r_51 er_51 => ?_)
      exact hIS_45
    · exact hIC
  refine p_ltv (fun r_2 er_2 => ?_)
  refine p_ite (fun c_5 => ?_) (fun c_5 => ?_)
  · exact hIC
  · refine p_ltv (fun r_12 er_12 => ?_)
    refine p_ite (fun c_15 => ?_) (fun c_15 => ?_)
    · skip
      exact hK22 _ _ _ hIC
    · exact hIC
theorem FR_use {R0 : Cst} {C : Cst} {x1 : Int32} {x2 : Int32} (hIC : FR R0 C) : FR R0 (sX5_use C x1 x2).2 := FR2_use hIC
set_option maxHeartbeats 4000000 in
set_option maxRecDepth 100000 in
theorem FR2_close {R0 : Cst} {C : Cst} (hIC : FR R0 C) : FR2 R0 (sX5_close C) := by
  unfold sX5_close
  refine p_ite (fun c_6 => ?_) (fun c_6 => ?_)
  · refine p_ite (fun c_23 => ?_) (fun c_23 => ?_)
    · refine p_ltv (fun S_31 eS_31 => ?_)
      have hIS_31 : FR R0 S_31 := by rw [eS_31]; exact FR_changes hIC
      refine p_bnd (fun r_35 S_35 er_35 => ?_)
      have hIS_35 : FR R0 S_35 := by have h9 : FR R0 (sX5_ends S_31).2 := FR_ends hIS_31; rw [er_35] at h9; exact h9
      exact hIS_35
    · exact hIC
  · exact hIC
theorem FR_close {R0 : Cst} {C : Cst}  (hIC : FR R0 C) : FR R0 (sX5_close C ).2 := FR2_close hIC
set_option maxHeartbeats 4000000 in
set_option maxRecDepth 100000 in
theorem FR2_pay {R0 : Cst} {C : Cst} {x1 : Int32} {x2 : Int32} (hIC : FR R0 C) : FR2 R0 (sX5_pay C x1 x2) := by
  unfold sX5_pay
  refine p_ltv (fun K23 eK23 => ?_)
  have hK23 : ∀ (C : Cst) (i1 : Nat) (x2 : Int32) (hIC : FR R0 C), FR2 R0 (K23 C i1 x2) := by
    intro C i1 x2 hIC
    rw [eK23]
    refine p_ltv (fun r_26 er_26 => ?_)
    refine p_ite (fun c_30 => ?_) (fun c_30 => ?_)
    · refine p_ltv (fun S_38 eS_38 => ?_)
      have hIS_38 : FR R0 S_38 := by rw [eS_38]; exact FR_changes hIC
      refine p_ltv (fun r_47 er_47 => ?_)
      refine p_ltv (fun S_52 eS_52 => ?_)
      have hIS_52 : FR R0 S_52 := by rw [eS_52]; exact FR_puts hIS_38
      refine p_ltv (fun r_61 er_61 => ?_)
      refine p_ltv (fun S_66 eS_66 => ?_)
      have hIS_66 : FR R0 S_66 := by rw [eS_66]; exact FR_puts hIS_52
      refine p_ltv (fun S_79 eS_79 => ?_)
      have hIS_79 : FR R0 S_79 := by rw [eS_79]; exact FR_k (by decide) hIS_66
      refine p_ltv (fun r_83 er_83 => ?_)
      exact hIS_79
    · exact hIC
  refine p_ltv (fun r_2 er_2 => ?_)
  refine p_ite (fun c_5 => ?_) (fun c_5 => ?_)
  · exact hIC
  · refine p_ltv (fun r_13 er_13 => ?_)
    refine p_ite (fun c_16 => ?_) (fun c_16 => ?_)
    · skip
      exact hK23 _ _ _ hIC
    · exact hIC
theorem FR_pay {R0 : Cst} {C : Cst} {x1 : Int32} {x2 : Int32} (hIC : FR R0 C) : FR R0 (sX5_pay C x1 x2).2 := FR2_pay hIC
set_option maxHeartbeats 4000000 in
set_option maxRecDepth 100000 in
theorem FR2_repair {R0 : Cst} {C : Cst} {x1 : Int32} (hIC : FR R0 C) : FR2 R0 (sX5_repair C x1) := by
  unfold sX5_repair
  refine p_ltz5 (fun L168 eL168 zL168 => ?_)
  have hL168 : ∀ (n168 : Nat) (C : Cst) (x3 : Int32) (x4 : Int32) (x5 : Int32) (i6 : Nat) (hIC : FR R0 C), FR2 R0 (L168 n168 C x3 x4 x5 i6) := by
    intro n168
    induction n168 with
    | zero =>
      intro C x3 x4 x5 i6 hIC
      rw [zL168]; exact hIC
    | succ n168 ih168 =>
      intro C x3 x4 x5 i6 hIC
      rw [eL168]
      refine p_ltv (fun K254 eK254 => ?_)
      have hK254 : ∀ (C : Cst) (x3 : Int32) (x4 : Int32) (x5 : Int32) (i6 : Nat) (t0 : Int32) (t1 : Int32) (t3 : Nat) (hIC : FR R0 C), FR2 R0 (K254 C x3 x4 x5 i6 t0 t1 t3) := by
        intro C x3 x4 x5 i6 t0 t1 t3 hIC
        rw [eK254]
        refine p_ltv (fun S_255 eS_255 => ?_)
        have hIS_255 : FR R0 S_255 := by rw [eS_255]; exact FR_puts hIC
        exact ih168 _ _ _ _ _ hIS_255
      refine p_ltv (fun K217 eK217 => ?_)
      have hK217 : ∀ (C : Cst) (x3 : Int32) (x4 : Int32) (i6 : Nat) (x7 : Int32) (t0 : Int32) (t1 : Int32) (hIC : FR R0 C), FR2 R0 (K217 C x3 x4 i6 x7 t0 t1) := by
        intro C x3 x4 i6 x7 t0 t1 hIC
        rw [eK217]
        refine p_ltv (fun v5_218 ev5_218 => ?_)
        refine p_ltv (fun r_228 er_228 => ?_)
        refine p_ltv (fun r_236 er_236 => ?_)
        refine p_ite (fun c_246 => ?_) (fun c_246 => ?_)
        · exact hK254 _ _ _ _ _ _ _ _ hIC
        · exact hK254 _ _ _ _ _ _ _ _ hIC
      refine p_ltv (fun K203 eK203 => ?_)
      have hK203 : ∀ (C : Cst) (x3 : Int32) (x4 : Int32) (x5 : Int32) (i6 : Nat) (t0 : Int32) (hIC : FR R0 C), FR2 R0 (K203 C x3 x4 x5 i6 t0) := by
        intro C x3 x4 x5 i6 t0 hIC
        rw [eK203]
        refine p_ite (fun c_209 => ?_) (fun c_209 => ?_)
        · exact hK217 _ _ _ _ _ _ _ hIC
        · exact hK217 _ _ _ _ _ _ _ hIC
      refine p_ltv (fun K202 eK202 => ?_)
      have hK202 : ∀ (C : Cst) (x3 : Int32) (x4 : Int32) (x5 : Int32) (i6 : Nat) (hIC : FR R0 C), FR2 R0 (K202 C x3 x4 x5 i6) := by
        intro C x3 x4 x5 i6 hIC
        rw [eK202]
        exact hK203 _ _ _ _ _ _ hIC
      refine p_ite (fun c_176 => ?_) (fun c_176 => ?_)
      · exact hIC
      · skip
        refine p_ite (fun c_180 => ?_) (fun c_180 => ?_)
        · exact hIC
        · refine p_ite (fun c_185 => ?_) (fun c_185 => ?_)
          · exact hK202 _ _ _ _ _ hIC
          · refine p_ltv (fun r_192 er_192 => ?_)
            refine p_ite (fun c_195 => ?_) (fun c_195 => ?_)
            · exact hK202 _ _ _ _ _ hIC
            · exact hK203 _ _ _ _ _ _ hIC
  refine p_ltv (fun K165 eK165 => ?_)
  have hK165 : ∀ (C : Cst) (x3 : Int32) (x4 : Int32) (x5 : Int32) (hIC : FR R0 C), FR2 R0 (K165 C x3 x4 x5) := by
    intro C x3 x4 x5 hIC
    rw [eK165]
    exact hL168 _ _ _ _ _ _ hIC
  refine p_ltz5 (fun L127 eL127 zL127 => ?_)
  have hL127 : ∀ (n127 : Nat) (C : Cst) (x3 : Int32) (x4 : Int32) (x5 : Int32) (i6 : Nat) (hIC : FR R0 C), FR2 R0 (L127 n127 C x3 x4 x5 i6) := by
    intro n127
    induction n127 with
    | zero =>
      intro C x3 x4 x5 i6 hIC
      rw [zL127]; exact hIC
    | succ n127 ih127 =>
      intro C x3 x4 x5 i6 hIC
      rw [eL127]
      refine p_ite (fun c_135 => ?_) (fun c_135 => ?_)
      · exact hK165 _ _ _ _ hIC
      · skip
        refine p_ite (fun c_139 => ?_) (fun c_139 => ?_)
        · exact hK165 _ _ _ _ hIC
        · refine p_ltv (fun r_149 er_149 => ?_)
          refine p_ltv (fun v5_157 ev5_157 => ?_)
          exact ih127 _ _ _ _ _ hIC
  refine p_ltv (fun K82 eK82 => ?_)
  have hK82 : ∀ (C : Cst) (x1 : Int32) (x2 : Int32) (x3 : Int32) (x4 : Int32) (hIC : FR R0 C), FR2 R0 (K82 C x1 x2 x3 x4) := by
    intro C x1 x2 x3 x4 hIC
    rw [eK82]
    refine p_ltv (fun S_83 eS_83 => ?_)
    have hIS_83 : FR R0 S_83 := by rw [eS_83]; exact FR_changes hIC
    refine p_ltv (fun S_98 eS_98 => ?_)
    have hIS_98 : FR R0 S_98 := by rw [eS_98]; exact FR_k (by decide) hIS_83
    refine p_ltv (fun S_109 eS_109 => ?_)
    have hIS_109 : FR R0 S_109 := by rw [eS_109]; exact FR_k (by decide) hIS_98
    refine p_ltv (fun S_120 eS_120 => ?_)
    have hIS_120 : FR R0 S_120 := by rw [eS_120]; exact FR_k (by decide) hIS_109
    exact hL127 _ _ _ _ _ _ hIS_120
  refine p_ltv (fun K47 eK47 => ?_)
  have hK47 : ∀ (C : Cst) (x1 : Int32) (x2 : Int32) (t0 : Int32) (hIC : FR R0 C), FR2 R0 (K47 C x1 x2 t0) := by
    intro C x1 x2 t0 hIC
    rw [eK47]
    refine p_ltv (fun r_50 er_50 => ?_)
    refine p_ite (fun c_66 => ?_) (fun c_66 => ?_)
    · exact hIC
    · refine p_ite (fun c_70 => ?_) (fun c_70 => ?_)
      · exact hK82 _ _ _ _ _ hIC
      · refine p_ite (fun c_75 => ?_) (fun c_75 => ?_)
        · exact hK82 _ _ _ _ _ hIC
        · exact hIC
  refine p_ltv (fun r_4 er_4 => ?_)
  refine p_ite (fun c_7 => ?_) (fun c_7 => ?_)
  · refine p_ltv (fun v2_22 ev2_22 => ?_)
    refine p_ite (fun c_31 => ?_) (fun c_31 => ?_)
    · exact hK47 _ _ _ _ hIC
    · exact hK47 _ _ _ _ hIC
  · exact hIC
theorem FR_repair {R0 : Cst} {C : Cst} {x1 : Int32} (hIC : FR R0 C) : FR R0 (sX5_repair C x1).2 := FR2_repair hIC
set_option maxHeartbeats 4000000 in
set_option maxRecDepth 100000 in
theorem FR2_calls {R0 : Cst} {C : Cst} {x1 : Int32} (hIC : FR R0 C) : FR2 R0 (sX5_calls C x1) := by
  unfold sX5_calls
  refine p_ite (fun c_1_99 => ?_) (fun c_1_99 => ?_)
  · refine p_bnd (fun r_73 S_73 er_73 => ?_)
    have hIS_73 : FR R0 S_73 := by have h9 : FR R0 (sX5_close C).2 := FR_close hIC; rw [er_73] at h9; exact h9
    exact hIS_73
  refine p_ite (fun c_1_109 => ?_) (fun c_1_109 => ?_)
  · refine p_bnd (fun r_51 S_51 er_51 => ?_)
    have hIS_51 : FR R0 S_51 := by have h9 : FR R0 (sX5_member C (C 11 0)).2 := FR_member hIC; rw [er_51] at h9; exact h9
    exact hIS_51
  refine p_ite (fun c_1_112 => ?_) (fun c_1_112 => ?_)
  · refine p_bnd (fun r_90 S_90 er_90 => ?_)
    have hIS_90 : FR R0 S_90 := by have h9 : FR R0 (sX5_pay C (C 11 0) (C 11 1)).2 := FR_pay hIC; rw [er_90] at h9; exact h9
    exact hIS_90
  refine p_ite (fun c_1_117 => ?_) (fun c_1_117 => ?_)
  · refine p_bnd (fun r_68 S_68 er_68 => ?_)
    have hIS_68 : FR R0 S_68 := by have h9 : FR R0 (sX5_use C (C 11 0) (C 11 1)).2 := FR_use hIC; rw [er_68] at h9; exact h9
    exact hIS_68
  refine p_bnd (fun r_101 S_101 er_101 => ?_)
  have hIS_101 : FR R0 S_101 := by have h9 : FR R0 (sX5_repair C (C 11 0)).2 := FR_repair hIC; rw [er_101] at h9; exact h9
  exact hIS_101
theorem FR_calls {R0 : Cst} {C : Cst} {x1 : Int32} (hIC : FR R0 C) : FR R0 (sX5_calls C x1).2 := FR2_calls hIC
theorem calls_8 {C S : Cst} {b r : Int32} (he : sX5_calls C b = (r, S)) : S 8 = C 8 := by
  have h := FR_calls (R0 := C) (C := C) (x1 := b) (fun _ _ => rfl)
  rw [he] at h
  exact h 8 (by decide)
