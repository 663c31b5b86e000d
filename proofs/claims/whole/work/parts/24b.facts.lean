
set_option maxHeartbeats 4000000 in
set_option maxRecDepth 100000 in
theorem IM_excludes {C : Cst} {x1 : Int32} (hIC : IM C) : IM (sX5_excludes C x1) := by
  unfold sX5_excludes
  refine p_ltl3 (fun L177 eL177 => ?_)
  have hL177 : ∀ (n177 : Nat) (C : Cst) (x3 : Int32) (i4 : Nat) (hIC : IM C) (hi : i4 ≤ 8) (hfu : 9 ≤ i4 + n177), IM (L177 n177 C x3 i4) := by
    intro n177
    induction n177 with
    | zero =>
      intro C x3 i4 hIC hi hfu
      exact absurd hfu (by omega)
    | succ n177 ih177 =>
      intro C x3 i4 hIC hi hfu
      rw [eL177]
      refine p_ltv (fun K259 eK259 => ?_)
      have hK259 : ∀ (C : Cst) (x3 : Int32) (i4 : Nat) (t0 : Int32) (t2 : Nat) (hIC : IM C) (hi : i4 < 8) (hfu : 9 ≤ i4 + (n177 + 1)) (ht2 : t2 < 8), IM (K259 C x3 i4 t0 t2) := by
        intro C x3 i4 t0 t2 hIC hi hfu ht2
        rw [eK259]
        refine p_ltv (fun S_259 eS_259 => ?_)
        have hIS_259 : IM S_259 := by rw [eS_259]; exact IM_puts hIC
        refine p_ltv (fun r_272 er_272 => ?_)
        refine p_ltv (fun r_280 er_280 => ?_)
        refine p_ltv (fun S_284 eS_284 => ?_)
        have hIS_284 : IM S_284 := by rw [eS_284]; exact IM_puts hIS_259
        exact ih177 _ _ _ hIS_284 (by first | omega | assumption | decide | exact Or.inl (by decide) | exact Or.inr ⟨i6, by omega, rfl⟩ | exact Or.inr ⟨i5, by omega, rfl⟩ | (subst_vars; first | assumption | omega)) (by first | omega | assumption | decide | exact Or.inl (by decide) | exact Or.inr ⟨i6, by omega, rfl⟩ | exact Or.inr ⟨i5, by omega, rfl⟩ | (subst_vars; first | assumption | omega))
      refine p_ltv (fun K254 eK254 => ?_)
      have hK254 : ∀ (C : Cst) (x3 : Int32) (i4 : Nat) (t1 : Nat) (hIC : IM C) (hi : i4 < 8) (hfu : 9 ≤ i4 + (n177 + 1)) (ht1 : t1 < 8), IM (K254 C x3 i4 t1) := by
        intro C x3 i4 t1 hIC hi hfu ht1
        rw [eK254]
        exact hK259 _ _ _ _ _ hIC (by first | omega | assumption | decide | exact Or.inl (by decide) | exact Or.inr ⟨i6, by omega, rfl⟩ | exact Or.inr ⟨i5, by omega, rfl⟩ | (subst_vars; first | assumption | omega)) (by first | omega | assumption | decide | exact Or.inl (by decide) | exact Or.inr ⟨i6, by omega, rfl⟩ | exact Or.inr ⟨i5, by omega, rfl⟩ | (subst_vars; first | assumption | omega)) (by first | omega | assumption | decide | exact Or.inl (by decide) | exact Or.inr ⟨i6, by omega, rfl⟩ | exact Or.inr ⟨i5, by omega, rfl⟩ | (subst_vars; first | assumption | omega))
      refine p_ltv (fun K225 eK225 => ?_)
      have hK225 : ∀ (C : Cst) (x3 : Int32) (i4 : Nat) (x5 : Int32) (t0 : Int32) (t2 : Nat) (hIC : IM C) (hi : i4 < 8) (hfu : 9 ≤ i4 + (n177 + 1)) (ht2 : t2 < 8), IM (K225 C x3 i4 x5 t0 t2) := by
        intro C x3 i4 x5 t0 t2 hIC hi hfu ht2
        rw [eK225]
        refine p_ltv (fun S_225 eS_225 => ?_)
        have hIS_225 : IM S_225 := by rw [eS_225]; exact IM_puts hIC
        refine p_ite (fun c_235 => ?_) (fun c_235 => ?_)
        · exact hK254 _ _ _ _ hIS_225 (by first | omega | assumption | decide | exact Or.inl (by decide) | exact Or.inr ⟨i6, by omega, rfl⟩ | exact Or.inr ⟨i5, by omega, rfl⟩ | (subst_vars; first | assumption | omega)) (by first | omega | assumption | decide | exact Or.inl (by decide) | exact Or.inr ⟨i6, by omega, rfl⟩ | exact Or.inr ⟨i5, by omega, rfl⟩ | (subst_vars; first | assumption | omega)) (by first | omega | assumption | decide | exact Or.inl (by decide) | exact Or.inr ⟨i6, by omega, rfl⟩ | exact Or.inr ⟨i5, by omega, rfl⟩ | (subst_vars; first | assumption | omega))
        · refine p_ltv (fun r_242 er_242 => ?_)
          refine p_ite (fun c_251 => ?_) (fun c_251 => ?_)
          · exact hK259 _ _ _ _ _ hIS_225 (by first | omega | assumption | decide | exact Or.inl (by decide) | exact Or.inr ⟨i6, by omega, rfl⟩ | exact Or.inr ⟨i5, by omega, rfl⟩ | (subst_vars; first | assumption | omega)) (by first | omega | assumption | decide | exact Or.inl (by decide) | exact Or.inr ⟨i6, by omega, rfl⟩ | exact Or.inr ⟨i5, by omega, rfl⟩ | (subst_vars; first | assumption | omega)) (by first | omega | assumption | decide | exact Or.inl (by decide) | exact Or.inr ⟨i6, by omega, rfl⟩ | exact Or.inr ⟨i5, by omega, rfl⟩ | (subst_vars; first | assumption | omega))
          · exact hK254 _ _ _ _ hIS_225 (by first | omega | assumption | decide | exact Or.inl (by decide) | exact Or.inr ⟨i6, by omega, rfl⟩ | exact Or.inr ⟨i5, by omega, rfl⟩ | (subst_vars; first | assumption | omega)) (by first | omega | assumption | decide | exact Or.inl (by decide) | exact Or.inr ⟨i6, by omega, rfl⟩ | exact Or.inr ⟨i5, by omega, rfl⟩ | (subst_vars; first | assumption | omega)) (by first | omega | assumption | decide | exact Or.inl (by decide) | exact Or.inr ⟨i6, by omega, rfl⟩ | exact Or.inr ⟨i5, by omega, rfl⟩ | (subst_vars; first | assumption | omega))
      refine p_ltv (fun K203 eK203 => ?_)
      have hK203 : ∀ (C : Cst) (x3 : Int32) (i4 : Nat) (t0 : Int32) (hIC : IM C) (hi : i4 < 8) (hfu : 9 ≤ i4 + (n177 + 1)), IM (K203 C x3 i4 t0) := by
        intro C x3 i4 t0 hIC hi hfu
        rw [eK203]
        refine p_ite (fun c_211 => ?_) (fun c_211 => ?_)
        · refine p_ltv (fun r_222 er_222 => ?_)
          exact hK225 _ _ _ _ _ _ hIC (by first | omega | assumption | decide | exact Or.inl (by decide) | exact Or.inr ⟨i6, by omega, rfl⟩ | exact Or.inr ⟨i5, by omega, rfl⟩ | (subst_vars; first | assumption | omega)) (by first | omega | assumption | decide | exact Or.inl (by decide) | exact Or.inr ⟨i6, by omega, rfl⟩ | exact Or.inr ⟨i5, by omega, rfl⟩ | (subst_vars; first | assumption | omega)) (by first | omega | assumption | decide | exact Or.inl (by decide) | exact Or.inr ⟨i6, by omega, rfl⟩ | exact Or.inr ⟨i5, by omega, rfl⟩ | (subst_vars; first | assumption | omega))
        · exact hK225 _ _ _ _ _ _ hIC (by first | omega | assumption | decide | exact Or.inl (by decide) | exact Or.inr ⟨i6, by omega, rfl⟩ | exact Or.inr ⟨i5, by omega, rfl⟩ | (subst_vars; first | assumption | omega)) (by first | omega | assumption | decide | exact Or.inl (by decide) | exact Or.inr ⟨i6, by omega, rfl⟩ | exact Or.inr ⟨i5, by omega, rfl⟩ | (subst_vars; first | assumption | omega)) (by first | omega | assumption | decide | exact Or.inl (by decide) | exact Or.inr ⟨i6, by omega, rfl⟩ | exact Or.inr ⟨i5, by omega, rfl⟩ | (subst_vars; first | assumption | omega))
      refine p_ite (fun c_185 => ?_) (fun c_185 => ?_)
      · exact hIC
      · have hb_185 : i4 < 8 := i32_lt8 c_185 hIC.2.1 (by omega)
        refine p_ite (fun c_195 => ?_) (fun c_195 => ?_)
        · exact hK203 _ _ _ _ hIC (by first | omega | assumption | decide | exact Or.inl (by decide) | exact Or.inr ⟨i6, by omega, rfl⟩ | exact Or.inr ⟨i5, by omega, rfl⟩ | (subst_vars; first | assumption | omega)) (by first | omega | assumption | decide | exact Or.inl (by decide) | exact Or.inr ⟨i6, by omega, rfl⟩ | exact Or.inr ⟨i5, by omega, rfl⟩ | (subst_vars; first | assumption | omega))
        · exact hK203 _ _ _ _ hIC (by first | omega | assumption | decide | exact Or.inl (by decide) | exact Or.inr ⟨i6, by omega, rfl⟩ | exact Or.inr ⟨i5, by omega, rfl⟩ | (subst_vars; first | assumption | omega)) (by first | omega | assumption | decide | exact Or.inl (by decide) | exact Or.inr ⟨i6, by omega, rfl⟩ | exact Or.inr ⟨i5, by omega, rfl⟩ | (subst_vars; first | assumption | omega))
  refine p_ltv (fun K174 eK174 => ?_)
  have hK174 : ∀ (C : Cst) (x3 : Int32) (hIC : IM C), IM (K174 C x3) := by
    intro C x3 hIC
    rw [eK174]
    exact hL177 _ _ _ _ hIC (by first | omega | assumption | decide | exact Or.inl (by decide) | exact Or.inr ⟨i6, by omega, rfl⟩ | exact Or.inr ⟨i5, by omega, rfl⟩ | (subst_vars; first | assumption | omega)) (by first | omega | assumption | decide | exact Or.inl (by decide) | exact Or.inr ⟨i6, by omega, rfl⟩ | exact Or.inr ⟨i5, by omega, rfl⟩ | (subst_vars; first | assumption | omega))
  refine p_ltl5 (fun L71 eL71 => ?_)
  have hL71 : ∀ (n71 : Nat) (C : Cst) (x1 : Int32) (x2 : Int32) (x3 : Int32) (i4 : Nat) (hIC : IM C) (hi : i4 ≤ x2.toNatClampNeg) (hfu : x2.toNatClampNeg + 1 ≤ i4 + n71), IM (L71 n71 C x1 x2 x3 i4) := by
    intro n71
    induction n71 with
    | zero =>
      intro C x1 x2 x3 i4 hIC hi hfu
      exact absurd hfu (by omega)
    | succ n71 ih71 =>
      intro C x1 x2 x3 i4 hIC hi hfu
      rw [eL71]
      refine p_ltv (fun K168 eK168 => ?_)
      have hK168 : ∀ (C : Cst) (x1 : Int32) (x2 : Int32) (x3 : Int32) (i4 : Nat) (hIC : IM C) (hb71 : i4 < x2.toNatClampNeg) (hf71 : x2.toNatClampNeg + 1 ≤ i4 + (n71 + 1)), IM (K168 C x1 x2 x3 i4) := by
        intro C x1 x2 x3 i4 hIC hb71 hf71
        rw [eK168]
        exact ih71 _ _ _ _ _ hIC (by first | omega | assumption | decide | exact Or.inl (by decide) | exact Or.inr ⟨i6, by omega, rfl⟩ | exact Or.inr ⟨i5, by omega, rfl⟩ | (subst_vars; first | assumption | omega)) (by first | omega | assumption | decide | exact Or.inl (by decide) | exact Or.inr ⟨i6, by omega, rfl⟩ | exact Or.inr ⟨i5, by omega, rfl⟩ | (subst_vars; first | assumption | omega))
      refine p_ltv (fun K156 eK156 => ?_)
      have hK156 : ∀ (C : Cst) (x1 : Int32) (x2 : Int32) (x3 : Int32) (i4 : Nat) (x5 : Int32) (hIC : IM C) (hb71 : i4 < x2.toNatClampNeg) (hf71 : x2.toNatClampNeg + 1 ≤ i4 + (n71 + 1)) (hfd : x5 < 0 ∨ ∃ j : Nat, j < 8 ∧ x5 = nI j), IM (K156 C x1 x2 x3 i4 x5) := by
        intro C x1 x2 x3 i4 x5 hIC hb71 hf71 hfd
        rw [eK156]
        refine p_ite (fun c_158 => ?_) (fun c_158 => ?_)
        · exact hK168 _ _ _ _ _ hIC (by first | omega | assumption | decide | exact Or.inl (by decide) | exact Or.inr ⟨i6, by omega, rfl⟩ | exact Or.inr ⟨i5, by omega, rfl⟩ | (subst_vars; first | assumption | omega)) (by first | omega | assumption | decide | exact Or.inl (by decide) | exact Or.inr ⟨i6, by omega, rfl⟩ | exact Or.inr ⟨i5, by omega, rfl⟩ | (subst_vars; first | assumption | omega))
        · refine p_ltv (fun v3_167 ev3_167 => ?_)
          exact hK168 _ _ _ _ _ hIC (by first | omega | assumption | decide | exact Or.inl (by decide) | exact Or.inr ⟨i6, by omega, rfl⟩ | exact Or.inr ⟨i5, by omega, rfl⟩ | (subst_vars; first | assumption | omega)) (by first | omega | assumption | decide | exact Or.inl (by decide) | exact Or.inr ⟨i6, by omega, rfl⟩ | exact Or.inr ⟨i5, by omega, rfl⟩ | (subst_vars; first | assumption | omega))
      refine p_ltl7 (fun L85 eL85 => ?_)
      have hL85 : ∀ (n85 : Nat) (C : Cst) (x1 : Int32) (x2 : Int32) (x3 : Int32) (i4 : Nat) (x5 : Int32) (i6 : Nat) (hIC : IM C) (hi : i6 ≤ 8) (hfu : 9 ≤ i6 + n85) (hfd : x5 < 0 ∨ ∃ j : Nat, j < 8 ∧ x5 = nI j) (hb71 : i4 < x2.toNatClampNeg) (hf71 : x2.toNatClampNeg + 1 ≤ i4 + (n71 + 1)), IM (L85 n85 C x1 x2 x3 i4 x5 i6) := by
        intro n85
        induction n85 with
        | zero =>
          intro C x1 x2 x3 i4 x5 i6 hIC hi hfu hfd hb71 hf71
          exact absurd hfu (by omega)
        | succ n85 ih85 =>
          intro C x1 x2 x3 i4 x5 i6 hIC hi hfu hfd hb71 hf71
          rw [eL85]
          refine p_ltv (fun K148 eK148 => ?_)
          have hK148 : ∀ (C : Cst) (x1 : Int32) (x2 : Int32) (x3 : Int32) (i4 : Nat) (i6 : Nat) (t0 : Int32) (hIC : IM C) (hi : i6 < 8) (hfu : 9 ≤ i6 + (n85 + 1)) (hfd0 : t0 < 0 ∨ ∃ j : Nat, j < 8 ∧ t0 = nI j) (hb71 : i4 < x2.toNatClampNeg) (hf71 : x2.toNatClampNeg + 1 ≤ i4 + (n71 + 1)), IM (K148 C x1 x2 x3 i4 i6 t0) := by
            intro C x1 x2 x3 i4 i6 t0 hIC hi hfu hfd0 hb71 hf71
            rw [eK148]
            exact ih85 _ _ _ _ _ _ _ hIC (by first | omega | assumption | decide | exact Or.inl (by decide) | exact Or.inr ⟨i6, by omega, rfl⟩ | exact Or.inr ⟨i5, by omega, rfl⟩ | (subst_vars; first | assumption | omega)) (by first | omega | assumption | decide | exact Or.inl (by decide) | exact Or.inr ⟨i6, by omega, rfl⟩ | exact Or.inr ⟨i5, by omega, rfl⟩ | (subst_vars; first | assumption | omega)) (by first | omega | assumption | decide | exact Or.inl (by decide) | exact Or.inr ⟨i6, by omega, rfl⟩ | exact Or.inr ⟨i5, by omega, rfl⟩ | (subst_vars; first | assumption | omega)) (by first | omega | assumption | decide | exact Or.inl (by decide) | exact Or.inr ⟨i6, by omega, rfl⟩ | exact Or.inr ⟨i5, by omega, rfl⟩ | (subst_vars; first | assumption | omega)) (by first | omega | assumption | decide | exact Or.inl (by decide) | exact Or.inr ⟨i6, by omega, rfl⟩ | exact Or.inr ⟨i5, by omega, rfl⟩ | (subst_vars; first | assumption | omega))
          refine p_ltv (fun K146 eK146 => ?_)
          have hK146 : ∀ (C : Cst) (x1 : Int32) (x2 : Int32) (x3 : Int32) (i4 : Nat) (x5 : Int32) (i6 : Nat) (hIC : IM C) (hi : i6 < 8) (hfu : 9 ≤ i6 + (n85 + 1)) (hfd : x5 < 0 ∨ ∃ j : Nat, j < 8 ∧ x5 = nI j) (hb71 : i4 < x2.toNatClampNeg) (hf71 : x2.toNatClampNeg + 1 ≤ i4 + (n71 + 1)), IM (K146 C x1 x2 x3 i4 x5 i6) := by
            intro C x1 x2 x3 i4 x5 i6 hIC hi hfu hfd hb71 hf71
            rw [eK146]
            exact hK148 _ _ _ _ _ _ _ hIC (by first | omega | assumption | decide | exact Or.inl (by decide) | exact Or.inr ⟨i6, by omega, rfl⟩ | exact Or.inr ⟨i5, by omega, rfl⟩ | (subst_vars; first | assumption | omega)) (by first | omega | assumption | decide | exact Or.inl (by decide) | exact Or.inr ⟨i6, by omega, rfl⟩ | exact Or.inr ⟨i5, by omega, rfl⟩ | (subst_vars; first | assumption | omega)) (by first | omega | assumption | decide | exact Or.inl (by decide) | exact Or.inr ⟨i6, by omega, rfl⟩ | exact Or.inr ⟨i5, by omega, rfl⟩ | (subst_vars; first | assumption | omega)) (by first | omega | assumption | decide | exact Or.inl (by decide) | exact Or.inr ⟨i6, by omega, rfl⟩ | exact Or.inr ⟨i5, by omega, rfl⟩ | (subst_vars; first | assumption | omega)) (by first | omega | assumption | decide | exact Or.inl (by decide) | exact Or.inr ⟨i6, by omega, rfl⟩ | exact Or.inr ⟨i5, by omega, rfl⟩ | (subst_vars; first | assumption | omega))
          refine p_ltv (fun K141 eK141 => ?_)
          have hK141 : ∀ (C : Cst) (x1 : Int32) (x2 : Int32) (x3 : Int32) (i4 : Nat) (i6 : Nat) (hIC : IM C) (hi : i6 < 8) (hfu : 9 ≤ i6 + (n85 + 1)) (hb71 : i4 < x2.toNatClampNeg) (hf71 : x2.toNatClampNeg + 1 ≤ i4 + (n71 + 1)), IM (K141 C x1 x2 x3 i4 i6) := by
            intro C x1 x2 x3 i4 i6 hIC hi hfu hb71 hf71
            rw [eK141]
            exact hK148 _ _ _ _ _ _ _ hIC (by first | omega | assumption | decide | exact Or.inl (by decide) | exact Or.inr ⟨i6, by omega, rfl⟩ | exact Or.inr ⟨i5, by omega, rfl⟩ | (subst_vars; first | assumption | omega)) (by first | omega | assumption | decide | exact Or.inl (by decide) | exact Or.inr ⟨i6, by omega, rfl⟩ | exact Or.inr ⟨i5, by omega, rfl⟩ | (subst_vars; first | assumption | omega)) (by first | omega | assumption | decide | exact Or.inl (by decide) | exact Or.inr ⟨i6, by omega, rfl⟩ | exact Or.inr ⟨i5, by omega, rfl⟩ | (subst_vars; first | assumption | omega)) (by first | omega | assumption | decide | exact Or.inl (by decide) | exact Or.inr ⟨i6, by omega, rfl⟩ | exact Or.inr ⟨i5, by omega, rfl⟩ | (subst_vars; first | assumption | omega)) (by first | omega | assumption | decide | exact Or.inl (by decide) | exact Or.inr ⟨i6, by omega, rfl⟩ | exact Or.inr ⟨i5, by omega, rfl⟩ | (subst_vars; first | assumption | omega))
          refine p_ltv (fun K124 eK124 => ?_)
          have hK124 : ∀ (C : Cst) (x1 : Int32) (x2 : Int32) (x3 : Int32) (i4 : Nat) (i5 : Nat) (i6 : Nat) (hIC : IM C) (hi : i6 < 8) (hfu : 9 ≤ i6 + (n85 + 1)) (hi5 : i5 < 8) (hb71 : i4 < x2.toNatClampNeg) (hf71 : x2.toNatClampNeg + 1 ≤ i4 + (n71 + 1)), IM (K124 C x1 x2 x3 i4 i5 i6) := by
            intro C x1 x2 x3 i4 i5 i6 hIC hi hfu hi5 hb71 hf71
            rw [eK124]
            refine p_ltv (fun r_128 er_128 => ?_)
            refine p_ltv (fun r_135 er_135 => ?_)
            refine p_ite (fun c_138 => ?_) (fun c_138 => ?_)
            · exact hK146 _ _ _ _ _ _ _ hIC (by first | omega | assumption | decide | exact Or.inl (by decide) | exact Or.inr ⟨i6, by omega, rfl⟩ | exact Or.inr ⟨i5, by omega, rfl⟩ | (subst_vars; first | assumption | omega)) (by first | omega | assumption | decide | exact Or.inl (by decide) | exact Or.inr ⟨i6, by omega, rfl⟩ | exact Or.inr ⟨i5, by omega, rfl⟩ | (subst_vars; first | assumption | omega)) (by first | omega | assumption | decide | exact Or.inl (by decide) | exact Or.inr ⟨i6, by omega, rfl⟩ | exact Or.inr ⟨i5, by omega, rfl⟩ | (subst_vars; first | assumption | omega)) (by first | omega | assumption | decide | exact Or.inl (by decide) | exact Or.inr ⟨i6, by omega, rfl⟩ | exact Or.inr ⟨i5, by omega, rfl⟩ | (subst_vars; first | assumption | omega)) (by first | omega | assumption | decide | exact Or.inl (by decide) | exact Or.inr ⟨i6, by omega, rfl⟩ | exact Or.inr ⟨i5, by omega, rfl⟩ | (subst_vars; first | assumption | omega))
            · exact hK141 _ _ _ _ _ _ hIC (by first | omega | assumption | decide | exact Or.inl (by decide) | exact Or.inr ⟨i6, by omega, rfl⟩ | exact Or.inr ⟨i5, by omega, rfl⟩ | (subst_vars; first | assumption | omega)) (by first | omega | assumption | decide | exact Or.inl (by decide) | exact Or.inr ⟨i6, by omega, rfl⟩ | exact Or.inr ⟨i5, by omega, rfl⟩ | (subst_vars; first | assumption | omega)) (by first | omega | assumption | decide | exact Or.inl (by decide) | exact Or.inr ⟨i6, by omega, rfl⟩ | exact Or.inr ⟨i5, by omega, rfl⟩ | (subst_vars; first | assumption | omega)) (by first | omega | assumption | decide | exact Or.inl (by decide) | exact Or.inr ⟨i6, by omega, rfl⟩ | exact Or.inr ⟨i5, by omega, rfl⟩ | (subst_vars; first | assumption | omega))
          refine p_ltv (fun K112 eK112 => ?_)
          have hK112 : ∀ (C : Cst) (x1 : Int32) (x2 : Int32) (x3 : Int32) (i4 : Nat) (x5 : Int32) (i6 : Nat) (t0 : Int32) (hIC : IM C) (hi : i6 < 8) (hfu : 9 ≤ i6 + (n85 + 1)) (hfd : x5 < 0 ∨ ∃ j : Nat, j < 8 ∧ x5 = nI j) (hb71 : i4 < x2.toNatClampNeg) (hf71 : x2.toNatClampNeg + 1 ≤ i4 + (n71 + 1)), IM (K112 C x1 x2 x3 i4 x5 i6 t0) := by
            intro C x1 x2 x3 i4 x5 i6 t0 hIC hi hfu hfd hb71 hf71
            rw [eK112]
            refine p_ite (fun c_116 => ?_) (fun c_116 => ?_)
            · exact hK146 _ _ _ _ _ _ _ hIC (by first | omega | assumption | decide | exact Or.inl (by decide) | exact Or.inr ⟨i6, by omega, rfl⟩ | exact Or.inr ⟨i5, by omega, rfl⟩ | (subst_vars; first | assumption | omega)) (by first | omega | assumption | decide | exact Or.inl (by decide) | exact Or.inr ⟨i6, by omega, rfl⟩ | exact Or.inr ⟨i5, by omega, rfl⟩ | (subst_vars; first | assumption | omega)) (by first | omega | assumption | decide | exact Or.inl (by decide) | exact Or.inr ⟨i6, by omega, rfl⟩ | exact Or.inr ⟨i5, by omega, rfl⟩ | (subst_vars; first | assumption | omega)) (by first | omega | assumption | decide | exact Or.inl (by decide) | exact Or.inr ⟨i6, by omega, rfl⟩ | exact Or.inr ⟨i5, by omega, rfl⟩ | (subst_vars; first | assumption | omega)) (by first | omega | assumption | decide | exact Or.inl (by decide) | exact Or.inr ⟨i6, by omega, rfl⟩ | exact Or.inr ⟨i5, by omega, rfl⟩ | (subst_vars; first | assumption | omega))
            · refine p_ite (fun c_121 => ?_) (fun c_121 => ?_)
              · exact hK141 _ _ _ _ _ _ hIC (by first | omega | assumption | decide | exact Or.inl (by decide) | exact Or.inr ⟨i6, by omega, rfl⟩ | exact Or.inr ⟨i5, by omega, rfl⟩ | (subst_vars; first | assumption | omega)) (by first | omega | assumption | decide | exact Or.inl (by decide) | exact Or.inr ⟨i6, by omega, rfl⟩ | exact Or.inr ⟨i5, by omega, rfl⟩ | (subst_vars; first | assumption | omega)) (by first | omega | assumption | decide | exact Or.inl (by decide) | exact Or.inr ⟨i6, by omega, rfl⟩ | exact Or.inr ⟨i5, by omega, rfl⟩ | (subst_vars; first | assumption | omega)) (by first | omega | assumption | decide | exact Or.inl (by decide) | exact Or.inr ⟨i6, by omega, rfl⟩ | exact Or.inr ⟨i5, by omega, rfl⟩ | (subst_vars; first | assumption | omega))
              · obtain ⟨j_121, hj_121, ej_121⟩ : ∃ j : Nat, j < 8 ∧ x5 = nI j := hfd.resolve_left c_121
                subst ej_121
                rw [nI_clamp (show j_121 < 2 ^ 31 by omega)]
                exact hK124 _ _ _ _ _ _ _ hIC (by first | omega | assumption | decide | exact Or.inl (by decide) | exact Or.inr ⟨i6, by omega, rfl⟩ | exact Or.inr ⟨i5, by omega, rfl⟩ | (subst_vars; first | assumption | omega)) (by first | omega | assumption | decide | exact Or.inl (by decide) | exact Or.inr ⟨i6, by omega, rfl⟩ | exact Or.inr ⟨i5, by omega, rfl⟩ | (subst_vars; first | assumption | omega)) (by first | omega | assumption | decide | exact Or.inl (by decide) | exact Or.inr ⟨i6, by omega, rfl⟩ | exact Or.inr ⟨i5, by omega, rfl⟩ | (subst_vars; first | assumption | omega)) (by first | omega | assumption | decide | exact Or.inl (by decide) | exact Or.inr ⟨i6, by omega, rfl⟩ | exact Or.inr ⟨i5, by omega, rfl⟩ | (subst_vars; first | assumption | omega)) (by first | omega | assumption | decide | exact Or.inl (by decide) | exact Or.inr ⟨i6, by omega, rfl⟩ | exact Or.inr ⟨i5, by omega, rfl⟩ | (subst_vars; first | assumption | omega))
          refine p_ite (fun c_93 => ?_) (fun c_93 => ?_)
          · exact hK156 _ _ _ _ _ _ hIC (by first | omega | assumption | decide | exact Or.inl (by decide) | exact Or.inr ⟨i6, by omega, rfl⟩ | exact Or.inr ⟨i5, by omega, rfl⟩ | (subst_vars; first | assumption | omega)) (by first | omega | assumption | decide | exact Or.inl (by decide) | exact Or.inr ⟨i6, by omega, rfl⟩ | exact Or.inr ⟨i5, by omega, rfl⟩ | (subst_vars; first | assumption | omega)) (by first | omega | assumption | decide | exact Or.inl (by decide) | exact Or.inr ⟨i6, by omega, rfl⟩ | exact Or.inr ⟨i5, by omega, rfl⟩ | (subst_vars; first | assumption | omega))
          · have hb_93 : i6 < 8 := i32_lt8 c_93 hIC.2.1 (by omega)
            refine p_ite (fun c_104 => ?_) (fun c_104 => ?_)
            · exact hK112 _ _ _ _ _ _ _ _ hIC (by first | omega | assumption | decide | exact Or.inl (by decide) | exact Or.inr ⟨i6, by omega, rfl⟩ | exact Or.inr ⟨i5, by omega, rfl⟩ | (subst_vars; first | assumption | omega)) (by first | omega | assumption | decide | exact Or.inl (by decide) | exact Or.inr ⟨i6, by omega, rfl⟩ | exact Or.inr ⟨i5, by omega, rfl⟩ | (subst_vars; first | assumption | omega)) (by first | omega | assumption | decide | exact Or.inl (by decide) | exact Or.inr ⟨i6, by omega, rfl⟩ | exact Or.inr ⟨i5, by omega, rfl⟩ | (subst_vars; first | assumption | omega)) (by first | omega | assumption | decide | exact Or.inl (by decide) | exact Or.inr ⟨i6, by omega, rfl⟩ | exact Or.inr ⟨i5, by omega, rfl⟩ | (subst_vars; first | assumption | omega)) (by first | omega | assumption | decide | exact Or.inl (by decide) | exact Or.inr ⟨i6, by omega, rfl⟩ | exact Or.inr ⟨i5, by omega, rfl⟩ | (subst_vars; first | assumption | omega))
            · exact hK112 _ _ _ _ _ _ _ _ hIC (by first | omega | assumption | decide | exact Or.inl (by decide) | exact Or.inr ⟨i6, by omega, rfl⟩ | exact Or.inr ⟨i5, by omega, rfl⟩ | (subst_vars; first | assumption | omega)) (by first | omega | assumption | decide | exact Or.inl (by decide) | exact Or.inr ⟨i6, by omega, rfl⟩ | exact Or.inr ⟨i5, by omega, rfl⟩ | (subst_vars; first | assumption | omega)) (by first | omega | assumption | decide | exact Or.inl (by decide) | exact Or.inr ⟨i6, by omega, rfl⟩ | exact Or.inr ⟨i5, by omega, rfl⟩ | (subst_vars; first | assumption | omega)) (by first | omega | assumption | decide | exact Or.inl (by decide) | exact Or.inr ⟨i6, by omega, rfl⟩ | exact Or.inr ⟨i5, by omega, rfl⟩ | (subst_vars; first | assumption | omega)) (by first | omega | assumption | decide | exact Or.inl (by decide) | exact Or.inr ⟨i6, by omega, rfl⟩ | exact Or.inr ⟨i5, by omega, rfl⟩ | (subst_vars; first | assumption | omega))
      refine p_ite (fun c_74 => ?_) (fun c_74 => ?_)
      · exact hK174 _ _ hIC
      · have hb71 : i4 < x2.toNatClampNeg := i32_ltT hi c_74
        have hf71 := hfu
        exact hL85 _ _ _ _ _ _ _ _ hIC (by first | omega | assumption | decide | exact Or.inl (by decide) | exact Or.inr ⟨i6, by omega, rfl⟩ | exact Or.inr ⟨i5, by omega, rfl⟩ | (subst_vars; first | assumption | omega)) (by first | omega | assumption | decide | exact Or.inl (by decide) | exact Or.inr ⟨i6, by omega, rfl⟩ | exact Or.inr ⟨i5, by omega, rfl⟩ | (subst_vars; first | assumption | omega)) (by first | omega | assumption | decide | exact Or.inl (by decide) | exact Or.inr ⟨i6, by omega, rfl⟩ | exact Or.inr ⟨i5, by omega, rfl⟩ | (subst_vars; first | assumption | omega)) (by first | omega | assumption | decide | exact Or.inl (by decide) | exact Or.inr ⟨i6, by omega, rfl⟩ | exact Or.inr ⟨i5, by omega, rfl⟩ | (subst_vars; first | assumption | omega)) (by first | omega | assumption | decide | exact Or.inl (by decide) | exact Or.inr ⟨i6, by omega, rfl⟩ | exact Or.inr ⟨i5, by omega, rfl⟩ | (subst_vars; first | assumption | omega))
  refine p_ltv (fun K65 eK65 => ?_)
  have hK65 : ∀ (C : Cst) (x1 : Int32) (t0 : Int32) (hIC : IM C), IM (K65 C x1 t0) := by
    intro C x1 t0 hIC
    rw [eK65]
    exact hL71 _ _ _ _ _ _ hIC (by first | omega | assumption | decide | exact Or.inl (by decide) | exact Or.inr ⟨i6, by omega, rfl⟩ | exact Or.inr ⟨i5, by omega, rfl⟩ | (subst_vars; first | assumption | omega)) (by first | omega | assumption | decide | exact Or.inl (by decide) | exact Or.inr ⟨i6, by omega, rfl⟩ | exact Or.inr ⟨i5, by omega, rfl⟩ | (subst_vars; first | assumption | omega))
  refine p_ltv (fun K40 eK40 => ?_)
  have hK40 : ∀ (C : Cst) (x1 : Int32) (t0 : Int32) (hIC : IM C), IM (K40 C x1 t0) := by
    intro C x1 t0 hIC
    rw [eK40]
    refine p_ite (fun c_50 => ?_) (fun c_50 => ?_)
    · exact hK65 _ _ _ hIC
    · exact hK65 _ _ _ hIC
  refine p_ite (fun c_13 => ?_) (fun c_13 => ?_)
  · exact hK40 _ _ _ hIC
  · exact hK40 _ _ _ hIC
