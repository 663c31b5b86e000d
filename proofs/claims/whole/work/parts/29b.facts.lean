theorem number_01 {C : Cst} {k : Nat} {b : Int32} : (sX5_number C k b).1 = 0 ∨ (sX5_number C k b).1 = 1 := by
  unfold sX5_number
  simp only [ltl4, ltv]
  exact zp4_ind (Q9 := fun (_ : Cst) (_ : Nat) (_ _ : Int32) (r : Int32 × Cst) => r.1 = 0 ∨ r.1 = 1) (fun _ _ _ _ => Or.inl rfl) (fun rec ih C1 i1 x2 x3 => by
    repeat' split
    all_goals first | exact Or.inl rfl | exact Or.inr rfl | exact ih _ _ _ _) 4 _ _ _ _
theorem number_b {C S : Cst} {k : Nat} {b r : Int32} (he : sX5_number C k b = (r, S)) : narrow .boolean (.int r) = .int r := by
  have h := @number_01 C k b
  rw [he] at h
  rcases h with h | h
  · have h2 : r = 0 := h
    subst h2; rfl
  · have h2 : r = 1 := h
    subst h2; rfl
theorem p_ltz1 {α : Type} {t0 : Type} {Q9 : α → Prop} {body : (t0 → α) → t0 → α} {dft : t0 → α} {F : (Nat → t0 → α) → α} (k : ∀ L : Nat → t0 → α, (∀ (n : Nat) (x0 : t0), L (n + 1) x0 = body (L n) x0) → (∀ (x0 : t0), L 0 x0 = dft x0) → Q9 (F L)) : Q9 (ltl1 body dft F) := k (zp1 body dft) (fun _ _ => rfl) (fun _ => rfl)
theorem p_ltz2 {α : Type} {t0 t1 : Type} {Q9 : α → Prop} {body : (t0 → t1 → α) → t0 → t1 → α} {dft : t0 → t1 → α} {F : (Nat → t0 → t1 → α) → α} (k : ∀ L : Nat → t0 → t1 → α, (∀ (n : Nat) (x0 : t0) (x1 : t1), L (n + 1) x0 x1 = body (L n) x0 x1) → (∀ (x0 : t0) (x1 : t1), L 0 x0 x1 = dft x0 x1) → Q9 (F L)) : Q9 (ltl2 body dft F) := k (zp2 body dft) (fun _ _ _ => rfl) (fun _ _ => rfl)
theorem p_ltz3 {α : Type} {t0 t1 t2 : Type} {Q9 : α → Prop} {body : (t0 → t1 → t2 → α) → t0 → t1 → t2 → α} {dft : t0 → t1 → t2 → α} {F : (Nat → t0 → t1 → t2 → α) → α} (k : ∀ L : Nat → t0 → t1 → t2 → α, (∀ (n : Nat) (x0 : t0) (x1 : t1) (x2 : t2), L (n + 1) x0 x1 x2 = body (L n) x0 x1 x2) → (∀ (x0 : t0) (x1 : t1) (x2 : t2), L 0 x0 x1 x2 = dft x0 x1 x2) → Q9 (F L)) : Q9 (ltl3 body dft F) := k (zp3 body dft) (fun _ _ _ _ => rfl) (fun _ _ _ => rfl)
theorem p_ltz4 {α : Type} {t0 t1 t2 t3 : Type} {Q9 : α → Prop} {body : (t0 → t1 → t2 → t3 → α) → t0 → t1 → t2 → t3 → α} {dft : t0 → t1 → t2 → t3 → α} {F : (Nat → t0 → t1 → t2 → t3 → α) → α} (k : ∀ L : Nat → t0 → t1 → t2 → t3 → α, (∀ (n : Nat) (x0 : t0) (x1 : t1) (x2 : t2) (x3 : t3), L (n + 1) x0 x1 x2 x3 = body (L n) x0 x1 x2 x3) → (∀ (x0 : t0) (x1 : t1) (x2 : t2) (x3 : t3), L 0 x0 x1 x2 x3 = dft x0 x1 x2 x3) → Q9 (F L)) : Q9 (ltl4 body dft F) := k (zp4 body dft) (fun _ _ _ _ _ => rfl) (fun _ _ _ _ => rfl)
theorem p_ltz5 {α : Type} {t0 t1 t2 t3 t4 : Type} {Q9 : α → Prop} {body : (t0 → t1 → t2 → t3 → t4 → α) → t0 → t1 → t2 → t3 → t4 → α} {dft : t0 → t1 → t2 → t3 → t4 → α} {F : (Nat → t0 → t1 → t2 → t3 → t4 → α) → α} (k : ∀ L : Nat → t0 → t1 → t2 → t3 → t4 → α, (∀ (n : Nat) (x0 : t0) (x1 : t1) (x2 : t2) (x3 : t3) (x4 : t4), L (n + 1) x0 x1 x2 x3 x4 = body (L n) x0 x1 x2 x3 x4) → (∀ (x0 : t0) (x1 : t1) (x2 : t2) (x3 : t3) (x4 : t4), L 0 x0 x1 x2 x3 x4 = dft x0 x1 x2 x3 x4) → Q9 (F L)) : Q9 (ltl5 body dft F) := k (zp5 body dft) (fun _ _ _ _ _ _ => rfl) (fun _ _ _ _ _ => rfl)
theorem p_ltz6 {α : Type} {t0 t1 t2 t3 t4 t5 : Type} {Q9 : α → Prop} {body : (t0 → t1 → t2 → t3 → t4 → t5 → α) → t0 → t1 → t2 → t3 → t4 → t5 → α} {dft : t0 → t1 → t2 → t3 → t4 → t5 → α} {F : (Nat → t0 → t1 → t2 → t3 → t4 → t5 → α) → α} (k : ∀ L : Nat → t0 → t1 → t2 → t3 → t4 → t5 → α, (∀ (n : Nat) (x0 : t0) (x1 : t1) (x2 : t2) (x3 : t3) (x4 : t4) (x5 : t5), L (n + 1) x0 x1 x2 x3 x4 x5 = body (L n) x0 x1 x2 x3 x4 x5) → (∀ (x0 : t0) (x1 : t1) (x2 : t2) (x3 : t3) (x4 : t4) (x5 : t5), L 0 x0 x1 x2 x3 x4 x5 = dft x0 x1 x2 x3 x4 x5) → Q9 (F L)) : Q9 (ltl6 body dft F) := k (zp6 body dft) (fun _ _ _ _ _ _ _ => rfl) (fun _ _ _ _ _ _ => rfl)
theorem p_ltz7 {α : Type} {t0 t1 t2 t3 t4 t5 t6 : Type} {Q9 : α → Prop} {body : (t0 → t1 → t2 → t3 → t4 → t5 → t6 → α) → t0 → t1 → t2 → t3 → t4 → t5 → t6 → α} {dft : t0 → t1 → t2 → t3 → t4 → t5 → t6 → α} {F : (Nat → t0 → t1 → t2 → t3 → t4 → t5 → t6 → α) → α} (k : ∀ L : Nat → t0 → t1 → t2 → t3 → t4 → t5 → t6 → α, (∀ (n : Nat) (x0 : t0) (x1 : t1) (x2 : t2) (x3 : t3) (x4 : t4) (x5 : t5) (x6 : t6), L (n + 1) x0 x1 x2 x3 x4 x5 x6 = body (L n) x0 x1 x2 x3 x4 x5 x6) → (∀ (x0 : t0) (x1 : t1) (x2 : t2) (x3 : t3) (x4 : t4) (x5 : t5) (x6 : t6), L 0 x0 x1 x2 x3 x4 x5 x6 = dft x0 x1 x2 x3 x4 x5 x6) → Q9 (F L)) : Q9 (ltl7 body dft F) := k (zp7 body dft) (fun _ _ _ _ _ _ _ _ => rfl) (fun _ _ _ _ _ _ _ => rfl)
set_option maxHeartbeats 4000000 in
set_option maxRecDepth 100000 in
theorem IM2_number {C : Cst} {i1 : Nat} {x2 : Int32} (hIC : IM C) : IM2 (sX5_number C i1 x2) := by
  unfold sX5_number
  refine p_ltv (fun K96 eK96 => ?_)
  have hK96 : ∀ (C : Cst) (t0 : Int32) (hIC : IM C), IM2 (K96 C t0) := by
    intro C t0 hIC
    rw [eK96]
    refine p_ltv (fun S_105 eS_105 => ?_)
    have hIS_105 : IM S_105 := by rw [eS_105]; exact IM_k (by decide) (by decide) (by decide) hIC
    exact hIS_105
  refine p_ltv (fun K95 eK95 => ?_)
  have hK95 : ∀ (C : Cst) (hIC : IM C), IM2 (K95 C) := by
    intro C hIC
    rw [eK95]
    exact hK96 _ _ hIC
  refine p_ltv (fun K74 eK74 => ?_)
  have hK74 : ∀ (C : Cst) (x2 : Int32) (x3 : Int32) (hIC : IM C), IM2 (K74 C x2 x3) := by
    intro C x2 x3 hIC
    rw [eK74]
    refine p_ite (fun c_79 => ?_) (fun c_79 => ?_)
    · exact hK95 _ hIC
    · refine p_ltv (fun r_85 er_85 => ?_)
      refine p_ite (fun c_88 => ?_) (fun c_88 => ?_)
      · exact hK95 _ hIC
      · exact hK96 _ _ hIC
  refine p_ltz4 (fun L12 eL12 zL12 => ?_)
  have hL12 : ∀ (n12 : Nat) (C : Cst) (i1 : Nat) (x2 : Int32) (x3 : Int32) (hIC : IM C), IM2 (L12 n12 C i1 x2 x3) := by
    intro n12
    induction n12 with
    | zero =>
      intro C i1 x2 x3 hIC
      rw [zL12]; exact hIC
    | succ n12 ih12 =>
      intro C i1 x2 x3 hIC
      rw [eL12]
      refine p_ltv (fun r_17 er_17 => ?_)
      refine p_ite (fun c_20 => ?_) (fun c_20 => ?_)
      · exact hK74 _ _ _ hIC
      · refine p_ite (fun c_30 => ?_) (fun c_30 => ?_)
        · exact hK74 _ _ _ hIC
        · refine p_ltv (fun S_60 eS_60 => ?_)
          have hIS_60 : IM S_60 := by rw [eS_60]; exact IM_k (by decide) (by decide) (by decide) hIC
          refine p_ltv (fun S_68 eS_68 => ?_)
          have hIS_68 : IM S_68 := by rw [eS_68]; exact IM_k (by decide) (by decide) (by decide) hIS_60
          exact ih12 _ _ _ _ hIS_68
  refine p_ltv (fun v3_4 ev3_4 => ?_)
  refine p_ltv (fun S_11 eS_11 => ?_)
  have hIS_11 : IM S_11 := by rw [eS_11]; exact IM_k (by decide) (by decide) (by decide) hIC
  exact hL12 _ _ _ _ _ hIS_11
theorem IM_number {C : Cst} {i1 : Nat} {x2 : Int32} (hIC : IM C) : IM (sX5_number C i1 x2).2 := IM2_number hIC
def SPQ (a : Int) (t : Int32 × Cst) : Prop := a + 1 ≤ (t.2 8 0).toInt ∧ (t.2 8 0).toInt ≤ a + 4
theorem sp_leaf {C S : Cst} {a : Int} {t : Int32} (e : S = up C 8 0 ((C 8 0) + 1)) (h0 : 0 ≤ a) (hB : a ≤ 110) (h1 : a ≤ (C 8 0).toInt) (h3 : (C 8 0).toInt ≤ a + 3) : SPQ a (t, S) := by
  have h : (S 8 0).toInt = (C 8 0).toInt + 1 := by rw [e, up_s]; exact i32_inc (a := 0) (b := 120) (by omega) (by omega)
  refine ⟨?_, ?_⟩ <;> (show _ ≤ _; dsimp only; omega)
set_option maxHeartbeats 4000000 in
set_option maxRecDepth 100000 in
theorem SP_number {a : Int} {C : Cst} {i1 : Nat} {x2 : Int32} (h0 : 0 ≤ a) (hB : a ≤ 110) (e0 : (C 8 0).toInt = a) : SPQ a (sX5_number C i1 x2) := by
  unfold sX5_number
  refine p_ltv (fun K96 eK96 => ?_)
  have hK96 : ∀ (C : Cst) (t0 : Int32) (h1 : a ≤ (C 8 0).toInt) (h3 : (C 8 0).toInt ≤ a + 3), SPQ a (K96 C t0) := by
    intro C t0 h1 h3
    rw [eK96]
    refine p_ltv (fun S_105 eS_105 => ?_)
    exact (sp_leaf eS_105 h0 hB h1 h3)
  refine p_ltv (fun K95 eK95 => ?_)
  have hK95 : ∀ (C : Cst) (h1 : a ≤ (C 8 0).toInt) (h3 : (C 8 0).toInt ≤ a + 3), SPQ a (K95 C) := by
    intro C h1 h3
    rw [eK95]
    exact hK96 _ _ (by first | assumption | omega) (by first | assumption | omega)
  refine p_ltv (fun K74 eK74 => ?_)
  have hK74 : ∀ (C : Cst) (x2 : Int32) (x3 : Int32) (h1 : a ≤ (C 8 0).toInt) (h3 : (C 8 0).toInt ≤ a + 3), SPQ a (K74 C x2 x3) := by
    intro C x2 x3 h1 h3
    rw [eK74]
    refine p_ite (fun c_79 => ?_) (fun c_79 => ?_)
    · exact hK95 _ (by first | assumption | omega) (by first | assumption | omega)
    · refine p_ltv (fun r_85 er_85 => ?_)
      refine p_ite (fun c_88 => ?_) (fun c_88 => ?_)
      · exact hK95 _ (by first | assumption | omega) (by first | assumption | omega)
      · exact hK96 _ _ (by first | assumption | omega) (by first | assumption | omega)
  refine p_ltl4 (fun L12 eL12 => ?_)
  have hL12 : ∀ (n12 : Nat) (C : Cst) (i1 : Nat) (x2 : Int32) (x3 : Int32) (ha : x3.toInt = a) (h1 : a ≤ (C 8 0).toInt) (h3 : (C 8 0).toInt ≤ a + 3) (hfu : (4 : Int) ≤ (C 8 0).toInt - a + n12), SPQ a (L12 n12 C i1 x2 x3) := by
    intro n12
    induction n12 with
    | zero =>
      intro C i1 x2 x3 ha h1 h3 hfu
      exact absurd hfu (by omega)
    | succ n12 ih12 =>
      intro C i1 x2 x3 ha h1 h3 hfu
      rw [eL12]
      refine p_ltv (fun r_17 er_17 => ?_)
      refine p_ite (fun c_20 => ?_) (fun c_20 => ?_)
      · exact hK74 _ _ _ (by first | assumption | omega) (by first | assumption | omega)
      · refine p_ite (fun c_30 => ?_) (fun c_30 => ?_)
        · exact hK74 _ _ _ (by first | assumption | omega) (by first | assumption | omega)
        · have h30 := sub3 (show 0 ≤ x3.toInt by omega) (show x3.toInt ≤ (C 8 0).toInt by omega) c_30
          refine p_ltv (fun S_60 eS_60 => ?_)
          refine p_ltv (fun S_68 eS_68 => ?_)
          have hs68 : (S_68 8 0).toInt = (C 8 0).toInt + 1 := by rw [eS_68, up_s, eS_60]; exact i32_inc (x := C 8 0) (a := 0) (b := 120) (by omega) (by omega)
          exact ih12 _ _ _ _ (by first | assumption | omega) (by first | assumption | omega) (by first | assumption | omega) (by first | assumption | omega)
  refine p_ltv (fun v3_4 ev3_4 => ?_)
  refine p_ltv (fun S_11 eS_11 => ?_)
  have hs11 : (S_11 8 0).toInt = (C 8 0).toInt := by rw [eS_11]; rfl
  have hv3 : v3_4.toInt = (C 8 0).toInt := by rw [ev3_4]
  exact hL12 _ _ _ _ _ (by first | assumption | omega) (by first | assumption | omega) (by first | assumption | omega) (by first | assumption | omega)
theorem number_sp {C S : Cst} {k : Nat} {b r : Int32} (he : sX5_number C k b = (r, S)) (h0 : 0 ≤ (C 8 0).toInt) (hB : (C 8 0).toInt ≤ 110) : (C 8 0).toInt + 1 ≤ (S 8 0).toInt ∧ (S 8 0).toInt ≤ (C 8 0).toInt + 4 := by
  have h := SP_number (C := C) (i1 := k) (x2 := b) h0 hB rfl
  rw [he] at h
  exact h
