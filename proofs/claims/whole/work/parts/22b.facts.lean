theorem puts_05 {C : Cst} {i w : Nat} {x : Int32} : sX5_puts C i w x 0 5 = C 0 5 := by
  unfold sX5_puts; simp only [ltv]; exact up_n (by omega)
theorem IM_puts {C : Cst} {i w : Nat} {x : Int32} (h : IM C) : IM (sX5_puts C i w x) := by
  unfold sX5_puts; simp only [ltv]; exact IM_0 (by omega) (by omega) (by omega) (by omega) h
theorem mb_in {x v : Int32} (h0 : 0 ≤ x.toInt) (h8 : x.toInt ≤ 8) (e : v = x) (hn : ¬ v = 8) : ∃ j : Nat, j < 8 ∧ v = nI j := by
  subst e
  obtain ⟨j, hj, rfl⟩ := nI_nneg h0
  rw [nI_toInt hj] at h8
  exact ⟨j, Nat.lt_of_le_of_ne (by omega) (fun q => hn (by rw [q]; rfl)), rfl⟩
theorem IM_inc5 {C : Cst} {i : Nat} (h7 : C 0 5 = nI i) (hi : i < 8) (h : IM C) : IM (up C 0 5 ((C 0 5) + 1)) := by
  obtain ⟨a1, a2, a3, a4, a5, a6, a7, a8, a9, a10⟩ := h
  refine ⟨?_, ?_, ?_, ?_, ?_, ?_, a7, a8, a9, a10⟩
  · rw [up_s, h7, nI_1, nI_toInt (by omega)]; omega
  · rw [up_s, h7, nI_1, nI_toInt (by omega)]; omega
  · rw [up_n (by decide)]; exact a3
  · rw [up_n (by decide)]; exact a4
  · rw [up_n (by decide)]; exact a5
  · rw [up_n (by decide)]; exact a6
def FZ (R0 : Nat → Int32) (C : Cst) : Prop := C 0 = R0
theorem FZ_k {R0 : Nat → Int32} {C : Cst} {k i : Nat} {x : Int32} (h0 : ¬ 0 = k) (h3 h6 : True) (h : FZ R0 C) : FZ R0 (up C k i x) := (up_k h0).trans h
set_option maxHeartbeats 4000000 in
set_option maxRecDepth 100000 in
theorem FZ_changes {R0 : Nat → Int32} {C : Cst} (hIC : FZ R0 C) : FZ R0 (sX5_changes C) := by
  unfold sX5_changes
  refine p_ltv (fun K90 eK90 => ?_)
  have hK90 : ∀ (C : Cst) (hIC : FZ R0 C), FZ R0 (K90 C) := by
    intro C hIC
    rw [eK90]
    refine p_ltv (fun S_97 eS_97 => ?_)
    have hIS_97 : FZ R0 S_97 := by rw [eS_97]; exact FZ_k (by decide) (by decide) (by decide) hIC
    exact hIS_97
  refine p_ltl2 (fun L58 eL58 => ?_)
  have hL58 : ∀ (n58 : Nat) (C : Cst) (i1 : Nat) (hIC : FZ R0 C) (hi : i1 ≤ 107) (hfu : 108 ≤ i1 + n58), FZ R0 (L58 n58 C i1) := by
    intro n58
    induction n58 with
    | zero =>
      intro C i1 hIC hi hfu
      exact absurd hfu (by omega)
    | succ n58 ih58 =>
      intro C i1 hIC hi hfu
      rw [eL58]
      refine p_ite (fun c_61 => ?_) (fun c_61 => ?_)
      · have f_61 : 107 ≤ i1 := (nI_leI (a := 107) (b := i1) (by omega) (by omega)).mp c_61
        exact hK90 _ hIC
      · have f_61 : ¬ (107 ≤ i1) := fun h => c_61 ((nI_leI (a := 107) (b := i1) (by omega) (by omega)).mpr h)
        refine p_ltv (fun S_83 eS_83 => ?_)
        have hIS_83 : FZ R0 S_83 := by rw [eS_83]; exact FZ_k (by decide) (by decide) (by decide) hIC
        exact ih58 _ _ hIS_83 (by first | omega | assumption | decide | exact Decidable.byContradiction c_13 | (subst_vars; first | assumption | omega)) (by first | omega | assumption | decide | exact Decidable.byContradiction c_13 | (subst_vars; first | assumption | omega))
  refine p_ltv (fun K56 eK56 => ?_)
  have hK56 : ∀ (C : Cst) (hIC : FZ R0 C), FZ R0 (K56 C) := by
    intro C hIC
    rw [eK56]
    exact hL58 _ _ _ hIC (by first | omega | assumption | decide | exact Decidable.byContradiction c_13 | (subst_vars; first | assumption | omega)) (by first | omega | assumption | decide | exact Decidable.byContradiction c_13 | (subst_vars; first | assumption | omega))
  refine p_ltv (fun K46 eK46 => ?_)
  have hK46 : ∀ (C : Cst) (hIC : FZ R0 C), FZ R0 (K46 C) := by
    intro C hIC
    rw [eK46]
    refine p_ltv (fun S_53 eS_53 => ?_)
    have hIS_53 : FZ R0 S_53 := by rw [eS_53]; exact FZ_k (by decide) (by decide) (by decide) hIC
    exact hK56 _ hIS_53
  refine p_ltl2 (fun L18 eL18 => ?_)
  have hL18 : ∀ (n18 : Nat) (C : Cst) (i1 : Nat) (hIC : FZ R0 C) (hi : i1 ≤ 321) (hfu : 322 ≤ i1 + n18), FZ R0 (L18 n18 C i1) := by
    intro n18
    induction n18 with
    | zero =>
      intro C i1 hIC hi hfu
      exact absurd hfu (by omega)
    | succ n18 ih18 =>
      intro C i1 hIC hi hfu
      rw [eL18]
      refine p_ite (fun c_22 => ?_) (fun c_22 => ?_)
      · have f_22 : 321 ≤ i1 := (nI_leI (a := 321) (b := i1) (by omega) (by omega)).mp c_22
        exact hK46 _ hIC
      · have f_22 : ¬ (321 ≤ i1) := fun h => c_22 ((nI_leI (a := 321) (b := i1) (by omega) (by omega)).mpr h)
        refine p_ltv (fun S_39 eS_39 => ?_)
        have hIS_39 : FZ R0 S_39 := by rw [eS_39]; exact FZ_k (by decide) (by decide) (by decide) hIC
        exact ih18 _ _ hIS_39 (by first | omega | assumption | decide | exact Decidable.byContradiction c_13 | (subst_vars; first | assumption | omega)) (by first | omega | assumption | decide | exact Decidable.byContradiction c_13 | (subst_vars; first | assumption | omega))
  refine p_ite (fun c_4 => ?_) (fun c_4 => ?_)
  · refine p_ite (fun c_13 => ?_) (fun c_13 => ?_)
    · exact hK56 _ hIC
    · exact hL18 _ _ _ hIC (by first | omega | assumption | decide | exact Decidable.byContradiction c_13 | (subst_vars; first | assumption | omega)) (by first | omega | assumption | decide | exact Decidable.byContradiction c_13 | (subst_vars; first | assumption | omega))
  · exact hIC
theorem changes_0 {C : Cst} : sX5_changes C 0 = C 0 := FZ_changes (R0 := C 0) rfl
set_option maxHeartbeats 4000000 in
set_option maxRecDepth 100000 in
theorem IM_changes {C : Cst} (hIC : IM C) : IM (sX5_changes C) := by
  unfold sX5_changes
  refine p_ltv (fun K90 eK90 => ?_)
  have hK90 : ∀ (C : Cst) (hIC : IM C) (h4 : (C 3 0).toInt ≤ 3), IM (K90 C) := by
    intro C hIC h4
    rw [eK90]
    refine p_ltv (fun S_97 eS_97 => ?_)
    have hIS_97 : IM S_97 := by rw [eS_97]; exact IM_inc3 h4 hIC
    exact hIS_97
  refine p_ltl2 (fun L58 eL58 => ?_)
  have hL58 : ∀ (n58 : Nat) (C : Cst) (i1 : Nat) (hIC : IM C) (hi : i1 ≤ 107) (hfu : 108 ≤ i1 + n58) (h4 : (C 3 0).toInt ≤ 3), IM (L58 n58 C i1) := by
    intro n58
    induction n58 with
    | zero =>
      intro C i1 hIC hi hfu h4
      exact absurd hfu (by omega)
    | succ n58 ih58 =>
      intro C i1 hIC hi hfu h4
      rw [eL58]
      refine p_ite (fun c_61 => ?_) (fun c_61 => ?_)
      · have f_61 : 107 ≤ i1 := (nI_leI (a := 107) (b := i1) (by omega) (by omega)).mp c_61
        exact hK90 _ hIC (by first | omega | assumption | decide | exact Decidable.byContradiction c_13 | (subst_vars; first | assumption | omega))
      · have f_61 : ¬ (107 ≤ i1) := fun h => c_61 ((nI_leI (a := 107) (b := i1) (by omega) (by omega)).mpr h)
        refine p_ltv (fun S_83 eS_83 => ?_)
        have hIS_83 : IM S_83 := by rw [eS_83]; exact IM_k (by decide) (by decide) (by decide) hIC
        exact ih58 _ _ hIS_83 (by first | omega | assumption | decide | exact Decidable.byContradiction c_13 | (subst_vars; first | assumption | omega)) (by first | omega | assumption | decide | exact Decidable.byContradiction c_13 | (subst_vars; first | assumption | omega)) (by first | omega | assumption | decide | exact Decidable.byContradiction c_13 | (subst_vars; first | assumption | omega))
  refine p_ltv (fun K56 eK56 => ?_)
  have hK56 : ∀ (C : Cst) (hIC : IM C) (h4 : (C 3 0).toInt ≤ 3), IM (K56 C) := by
    intro C hIC h4
    rw [eK56]
    exact hL58 _ _ _ hIC (by first | omega | assumption | decide | exact Decidable.byContradiction c_13 | (subst_vars; first | assumption | omega)) (by first | omega | assumption | decide | exact Decidable.byContradiction c_13 | (subst_vars; first | assumption | omega)) (by first | omega | assumption | decide | exact Decidable.byContradiction c_13 | (subst_vars; first | assumption | omega))
  refine p_ltv (fun K46 eK46 => ?_)
  have hK46 : ∀ (C : Cst) (hIC : IM C) (h4 : C 3 0 = 4), IM (K46 C) := by
    intro C hIC h4
    rw [eK46]
    refine p_ltv (fun S_53 eS_53 => ?_)
    have hIS_53 : IM S_53 := by rw [eS_53]; exact IM_dec3 h4 hIC
    exact hK56 _ hIS_53 (by rw [eS_53]; exact dec3_le h4)
  refine p_ltl2 (fun L18 eL18 => ?_)
  have hL18 : ∀ (n18 : Nat) (C : Cst) (i1 : Nat) (hIC : IM C) (hi : i1 ≤ 321) (hfu : 322 ≤ i1 + n18) (h4 : C 3 0 = 4), IM (L18 n18 C i1) := by
    intro n18
    induction n18 with
    | zero =>
      intro C i1 hIC hi hfu h4
      exact absurd hfu (by omega)
    | succ n18 ih18 =>
      intro C i1 hIC hi hfu h4
      rw [eL18]
      refine p_ite (fun c_22 => ?_) (fun c_22 => ?_)
      · have f_22 : 321 ≤ i1 := (nI_leI (a := 321) (b := i1) (by omega) (by omega)).mp c_22
        exact hK46 _ hIC (by first | omega | assumption | decide | exact Decidable.byContradiction c_13 | (subst_vars; first | assumption | omega))
      · have f_22 : ¬ (321 ≤ i1) := fun h => c_22 ((nI_leI (a := 321) (b := i1) (by omega) (by omega)).mpr h)
        refine p_ltv (fun S_39 eS_39 => ?_)
        have hIS_39 : IM S_39 := by rw [eS_39]; exact IM_k (by decide) (by decide) (by decide) hIC
        exact ih18 _ _ hIS_39 (by first | omega | assumption | decide | exact Decidable.byContradiction c_13 | (subst_vars; first | assumption | omega)) (by first | omega | assumption | decide | exact Decidable.byContradiction c_13 | (subst_vars; first | assumption | omega)) (by first | omega | assumption | decide | exact Decidable.byContradiction c_13 | (subst_vars; first | assumption | omega))
  refine p_ite (fun c_4 => ?_) (fun c_4 => ?_)
  · refine p_ite (fun c_13 => ?_) (fun c_13 => ?_)
    · exact hK56 _ hIC (i32_ne4 hIC.2.2.2.2.2.2.2.1 c_13)
    · exact hL18 _ _ _ hIC (by first | omega | assumption | decide | exact Decidable.byContradiction c_13 | (subst_vars; first | assumption | omega)) (by first | omega | assumption | decide | exact Decidable.byContradiction c_13 | (subst_vars; first | assumption | omega)) (by first | omega | assumption | decide | exact Decidable.byContradiction c_13 | (subst_vars; first | assumption | omega))
  · exact hIC
