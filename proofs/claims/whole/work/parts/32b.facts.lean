set_option maxHeartbeats 4000000 in
set_option maxRecDepth 100000 in
theorem IM2_plays {C : Cst} (hIC : IM C) : IM2 (sX5_plays C) := by
  unfold sX5_plays
  refine p_ltv (fun K105 eK105 => ?_)
  have hK105 : ∀ (C : Cst) (x1 : Int32) (x2 : Int32) (hIC : IM C), IM2 (K105 C x1 x2) := by
    intro C x1 x2 hIC
    rw [eK105]
    refine p_ltv (fun S_107 eS_107 => ?_)
    have hIS_107 : IM S_107 := by rw [eS_107]; exact IM_k (by decide) (by decide) (by decide) hIC
    refine p_ite (fun c_111 => ?_) (fun c_111 => ?_)
    · exact hIS_107
    · exact hIS_107
  refine p_ltz3 (fun L19 eL19 zL19 => ?_)
  have hL19 : ∀ (n19 : Nat) (C : Cst) (x1 : Int32) (x2 : Int32) (hIC : IM C), IM2 (L19 n19 C x1 x2) := by
    intro n19
    induction n19 with
    | zero =>
      intro C x1 x2 hIC
      rw [zL19]; exact hIC
    | succ n19 ih19 =>
      intro C x1 x2 hIC
      rw [eL19]
      refine p_ltv (fun K91 eK91 => ?_)
      have hK91 : ∀ (C : Cst) (x1 : Int32) (t0 : Int32) (hIC : IM C), IM2 (K91 C x1 t0) := by
        intro C x1 t0 hIC
        rw [eK91]
        refine p_ltv (fun S_99 eS_99 => ?_)
        have hIS_99 : IM S_99 := by rw [eS_99]; exact IM_k (by decide) (by decide) (by decide) hIC
        exact ih19 _ _ _ hIS_99
      refine p_ltv (fun K90 eK90 => ?_)
      have hK90 : ∀ (C : Cst) (x1 : Int32) (hIC : IM C), IM2 (K90 C x1) := by
        intro C x1 hIC
        rw [eK90]
        exact hK91 _ _ _ hIC
      refine p_ltv (fun K71 eK71 => ?_)
      have hK71 : ∀ (C : Cst) (x1 : Int32) (x4 : Int32) (t0 : Int32) (hIC : IM C), IM2 (K71 C x1 x4 t0) := by
        intro C x1 x4 t0 hIC
        rw [eK71]
        refine p_ltv (fun S_71 eS_71 => ?_)
        have hIS_71 : IM S_71 := by rw [eS_71]; exact IM_k (by decide) (by decide) (by decide) hIC
        refine p_ite (fun c_76 => ?_) (fun c_76 => ?_)
        · exact hK90 _ _ hIS_71
        · refine p_ite (fun c_83 => ?_) (fun c_83 => ?_)
          · exact hK90 _ _ hIS_71
          · exact hK91 _ _ _ hIS_71
      refine p_ite (fun c_27 => ?_) (fun c_27 => ?_)
      · exact hK105 _ _ _ hIC
      · refine p_ite (fun c_31 => ?_) (fun c_31 => ?_)
        · exact hK105 _ _ _ hIC
        · refine p_ltv (fun v1_38 ev1_38 => ?_)
          refine p_ltv (fun v3_48 ev3_48 => ?_)
          refine p_bnd (fun r_51 S_51 er_51 => ?_)
          have hIS_51 : IM S_51 := by have h9 : IM (sX5_isForm C v3_48).2 := IM_isForm hIC; rw [er_51] at h9; exact h9
          refine p_ite (fun c_59 => ?_) (fun c_59 => ?_)
          · exact hK71 _ _ _ _ hIS_51
          · refine p_bnd (fun r_64 S_64 er_64 => ?_)
            have hIS_64 : IM S_64 := by have h9 : IM (sX5_calls S_51 v3_48).2 := IM_calls hIS_51; rw [er_64] at h9; exact h9
            exact hK71 _ _ _ _ hIS_64
  refine p_ltv (fun S_2 eS_2 => ?_)
  have hIS_2 : IM S_2 := by rw [eS_2]; exact IM_k (by decide) (by decide) (by decide) hIC
  refine p_ltv (fun S_7 eS_7 => ?_)
  have hIS_7 : IM S_7 := by rw [eS_7]; exact IM_k (by decide) (by decide) (by decide) hIS_2
  refine p_ltv (fun S_12 eS_12 => ?_)
  have hIS_12 : IM S_12 := by rw [eS_12]; exact IM_k (by decide) (by decide) (by decide) hIS_7
  exact hL19 _ _ _ _ hIS_12
theorem IM_plays {C : Cst}  (hIC : IM C) : IM (sX5_plays C ).2 := IM2_plays hIC
def FT (R0 C : Cst) : Prop := C 12 = R0 12
theorem FT_k {R0 C : Cst} {k i : Nat} {x : Int32} (hk : ¬ 12 = k) (h : FT R0 C) : FT R0 (up C k i x) := (up_k hk).trans h
def FT2 (R0 : Cst) (t : Int32 × Cst) : Prop := FT R0 t.2
theorem FT_calls {R0 C : Cst} {x1 : Int32} (h : FT R0 C) : FT R0 (sX5_calls C x1).2 := (FR_calls (R0 := C) (C := C) (x1 := x1) (fun _ _ => rfl) 12 (by decide)).trans h
set_option maxHeartbeats 4000000 in
set_option maxRecDepth 100000 in
theorem FT2_number {R0 : Cst} {C : Cst} {i1 : Nat} {x2 : Int32} (hIC : FT R0 C) : FT2 R0 (sX5_number C i1 x2) := by
  unfold sX5_number
  refine p_ltv (fun K96 eK96 => ?_)
  have hK96 : ∀ (C : Cst) (t0 : Int32) (hIC : FT R0 C), FT2 R0 (K96 C t0) := by
    intro C t0 hIC
    rw [eK96]
    refine p_ltv (fun S_105 eS_105 => ?_)
    have hIS_105 : FT R0 S_105 := by rw [eS_105]; exact FT_k (by decide) hIC
    exact hIS_105
  refine p_ltv (fun K95 eK95 => ?_)
  have hK95 : ∀ (C : Cst) (hIC : FT R0 C), FT2 R0 (K95 C) := by
    intro C hIC
    rw [eK95]
    exact hK96 _ _ hIC
  refine p_ltv (fun K74 eK74 => ?_)
  have hK74 : ∀ (C : Cst) (x2 : Int32) (x3 : Int32) (hIC : FT R0 C), FT2 R0 (K74 C x2 x3) := by
    intro C x2 x3 hIC
    rw [eK74]
    refine p_ite (fun c_79 => ?_) (fun c_79 => ?_)
    · exact hK95 _ hIC
    · refine p_ltv (fun r_85 er_85 => ?_)
      refine p_ite (fun c_88 => ?_) (fun c_88 => ?_)
      · exact hK95 _ hIC
      · exact hK96 _ _ hIC
  refine p_ltz4 (fun L12 eL12 zL12 => ?_)
  have hL12 : ∀ (n12 : Nat) (C : Cst) (i1 : Nat) (x2 : Int32) (x3 : Int32) (hIC : FT R0 C), FT2 R0 (L12 n12 C i1 x2 x3) := by
    intro n12
    induction n12 with
    | zero =>
      intro C i1 x2 x3 hIC
      rw [zL12]; exact hIC
    | succ n12 ih12 =>
      intro C i1 x2 x3 hIC
      rw [eL12]
      refine p_ltv (fun r_17 er_17 => ?_)
      refine p_ite (fun c_20 => ?_) (fun c_20 => ?_)
      · exact hK74 _ _ _ hIC
      · refine p_ite (fun c_30 => ?_) (fun c_30 => ?_)
        · exact hK74 _ _ _ hIC
        · refine p_ltv (fun S_60 eS_60 => ?_)
          have hIS_60 : FT R0 S_60 := by rw [eS_60]; exact FT_k (by decide) hIC
          refine p_ltv (fun S_68 eS_68 => ?_)
          have hIS_68 : FT R0 S_68 := by rw [eS_68]; exact FT_k (by decide) hIS_60
          exact ih12 _ _ _ _ hIS_68
  refine p_ltv (fun v3_4 ev3_4 => ?_)
  refine p_ltv (fun S_11 eS_11 => ?_)
  have hIS_11 : FT R0 S_11 := by rw [eS_11]; exact FT_k (by decide) hIC
  exact hL12 _ _ _ _ _ hIS_11
theorem FT_number {R0 : Cst} {C : Cst} {i1 : Nat} {x2 : Int32} (hIC : FT R0 C) : FT R0 (sX5_number C i1 x2).2 := FT2_number hIC
set_option maxHeartbeats 4000000 in
set_option maxRecDepth 100000 in
theorem FT2_isForm {R0 : Cst} {C : Cst} {x1 : Int32} (hIC : FT R0 C) : FT2 R0 (sX5_isForm C x1) := by
  unfold sX5_isForm
  refine p_ltv (fun K69 eK69 => ?_)
  have hK69 : ∀ (C : Cst) (hIC : FT R0 C), FT2 R0 (K69 C) := by
    intro C hIC
    rw [eK69]
    refine p_bnd (fun r_73 S_73 er_73 => ?_)
    have hIS_73 : FT R0 S_73 := by have h9 : FT R0 (sX5_number C 0 44).2 := FT_number hIC; rw [er_73] at h9; exact h9
    refine p_ite (fun c_76 => ?_) (fun c_76 => ?_)
    · exact hIS_73
    · refine p_bnd (fun r_83 S_83 er_83 => ?_)
      have hIS_83 : FT R0 S_83 := by have h9 : FT R0 (sX5_number S_73 1 59).2 := FT_number hIS_73; rw [er_83] at h9; exact h9
      refine p_ite (fun c_86 => ?_) (fun c_86 => ?_)
      · exact hIS_83
      · exact hIS_83
  refine p_ltv (fun K49 eK49 => ?_)
  have hK49 : ∀ (C : Cst) (hIC : FT R0 C), FT2 R0 (K49 C) := by
    intro C hIC
    rw [eK49]
    refine p_bnd (fun r_53 S_53 er_53 => ?_)
    have hIS_53 : FT R0 S_53 := by have h9 : FT R0 (sX5_number C 0 59).2 := FT_number hIC; rw [er_53] at h9; exact h9
    exact hIS_53
  refine p_ltv (fun S_7 eS_7 => ?_)
  have hIS_7 : FT R0 S_7 := by rw [eS_7]; exact FT_k (by decide) hIC
  refine p_ite (fun c_13 => ?_) (fun c_13 => ?_)
  · refine p_ite (fun c_40 => ?_) (fun c_40 => ?_)
    · exact hK49 _ hIS_7
    · refine p_ite (fun c_46 => ?_) (fun c_46 => ?_)
      · refine p_ite (fun c_60 => ?_) (fun c_60 => ?_)
        · exact hK69 _ hIS_7
        · refine p_ite (fun c_66 => ?_) (fun c_66 => ?_)
          · exact hIS_7
          · exact hK69 _ hIS_7
      · exact hK49 _ hIS_7
  · refine p_ltv (fun r_21 er_21 => ?_)
    refine p_ltv (fun S_32 eS_32 => ?_)
    have hIS_32 : FT R0 S_32 := by rw [eS_32]; exact FT_k (by decide) hIS_7
    exact hIS_32
theorem FT_isForm {R0 : Cst} {C : Cst} {x1 : Int32} (hIC : FT R0 C) : FT R0 (sX5_isForm C x1).2 := FT2_isForm hIC
set_option maxHeartbeats 4000000 in
set_option maxRecDepth 100000 in
theorem FT2_plays {R0 : Cst} {C : Cst} (hIC : FT R0 C) : FT2 R0 (sX5_plays C) := by
  unfold sX5_plays
  refine p_ltv (fun K105 eK105 => ?_)
  have hK105 : ∀ (C : Cst) (x1 : Int32) (x2 : Int32) (hIC : FT R0 C), FT2 R0 (K105 C x1 x2) := by
    intro C x1 x2 hIC
    rw [eK105]
    refine p_ltv (fun S_107 eS_107 => ?_)
    have hIS_107 : FT R0 S_107 := by rw [eS_107]; exact FT_k (by decide) hIC
    refine p_ite (fun c_111 => ?_) (fun c_111 => ?_)
    · exact hIS_107
    · exact hIS_107
  refine p_ltz3 (fun L19 eL19 zL19 => ?_)
  have hL19 : ∀ (n19 : Nat) (C : Cst) (x1 : Int32) (x2 : Int32) (hIC : FT R0 C), FT2 R0 (L19 n19 C x1 x2) := by
    intro n19
    induction n19 with
    | zero =>
      intro C x1 x2 hIC
      rw [zL19]; exact hIC
    | succ n19 ih19 =>
      intro C x1 x2 hIC
      rw [eL19]
      refine p_ltv (fun K91 eK91 => ?_)
      have hK91 : ∀ (C : Cst) (x1 : Int32) (t0 : Int32) (hIC : FT R0 C), FT2 R0 (K91 C x1 t0) := by
        intro C x1 t0 hIC
        rw [eK91]
        refine p_ltv (fun S_99 eS_99 => ?_)
        have hIS_99 : FT R0 S_99 := by rw [eS_99]; exact FT_k (by decide) hIC
        exact ih19 _ _ _ hIS_99
      refine p_ltv (fun K90 eK90 => ?_)
      have hK90 : ∀ (C : Cst) (x1 : Int32) (hIC : FT R0 C), FT2 R0 (K90 C x1) := by
        intro C x1 hIC
        rw [eK90]
        exact hK91 _ _ _ hIC
      refine p_ltv (fun K71 eK71 => ?_)
      have hK71 : ∀ (C : Cst) (x1 : Int32) (x4 : Int32) (t0 : Int32) (hIC : FT R0 C), FT2 R0 (K71 C x1 x4 t0) := by
        intro C x1 x4 t0 hIC
        rw [eK71]
        refine p_ltv (fun S_71 eS_71 => ?_)
        have hIS_71 : FT R0 S_71 := by rw [eS_71]; exact FT_k (by decide) hIC
        refine p_ite (fun c_76 => ?_) (fun c_76 => ?_)
        · exact hK90 _ _ hIS_71
        · refine p_ite (fun c_83 => ?_) (fun c_83 => ?_)
          · exact hK90 _ _ hIS_71
          · exact hK91 _ _ _ hIS_71
      refine p_ite (fun c_27 => ?_) (fun c_27 => ?_)
      · exact hK105 _ _ _ hIC
      · refine p_ite (fun c_31 => ?_) (fun c_31 => ?_)
        · exact hK105 _ _ _ hIC
        · refine p_ltv (fun v1_38 ev1_38 => ?_)
          refine p_ltv (fun v3_48 ev3_48 => ?_)
          refine p_bnd (fun r_51 S_51 er_51 => ?_)
          have hIS_51 : FT R0 S_51 := by have h9 : FT R0 (sX5_isForm C v3_48).2 := FT_isForm hIC; rw [er_51] at h9; exact h9
          refine p_ite (fun c_59 => ?_) (fun c_59 => ?_)
          · exact hK71 _ _ _ _ hIS_51
          · refine p_bnd (fun r_64 S_64 er_64 => ?_)
            have hIS_64 : FT R0 S_64 := by have h9 : FT R0 (sX5_calls S_51 v3_48).2 := FT_calls hIS_51; rw [er_64] at h9; exact h9
            exact hK71 _ _ _ _ hIS_64
  refine p_ltv (fun S_2 eS_2 => ?_)
  have hIS_2 : FT R0 S_2 := by rw [eS_2]; exact FT_k (by decide) hIC
  refine p_ltv (fun S_7 eS_7 => ?_)
  have hIS_7 : FT R0 S_7 := by rw [eS_7]; exact FT_k (by decide) hIS_2
  refine p_ltv (fun S_12 eS_12 => ?_)
  have hIS_12 : FT R0 S_12 := by rw [eS_12]; exact FT_k (by decide) hIS_7
  exact hL19 _ _ _ _ hIS_12
theorem FT_plays {R0 : Cst} {C : Cst}  (hIC : FT R0 C) : FT R0 (sX5_plays C ).2 := FT2_plays hIC
theorem zcopy {a b N : Nat} (hab : ¬ a = b) (hN : N < 2 ^ 31) (d : Cst → Nat → Cst) : ∀ (n : Nat) (C : Cst) (i : Nat), i ≤ N → N < i + n → (∀ j, j < N → zp2 (fun R (C : Cst) (i : Nat) => if nI N ≤ nI i then C else R (up C b i (C a i)) (i + 1)) d n C i b j = if j < i then C b j else C a j) ∧ ∀ k, ¬ k = b → zp2 (fun R (C : Cst) (i : Nat) => if nI N ≤ nI i then C else R (up C b i (C a i)) (i + 1)) d n C i k = C k := by
  intro n
  induction n with
  | zero => intro C i h1 h2; exact absurd h2 (by omega)
  | succ n ih =>
    intro C i h1 h2
    rw [zp2_s]
    by_cases h : N ≤ i
    · have he : i = N := by omega
      subst he
      rw [if_pos ((nI_leI hN hN).mpr (Nat.le_refl _))]
      exact ⟨fun j hj => by rw [if_pos hj], fun k _ => rfl⟩
    · rw [if_neg (fun q => h ((nI_leI hN (by omega)).mp q))]
      obtain ⟨g1, g2⟩ := ih (up C b i (C a i)) (i + 1) (by omega) (by omega)
      refine ⟨fun j hj => ?_, fun k hk => by rw [g2 k hk, up_k hk]⟩
      rw [g1 j hj]
      by_cases hj1 : j < i
      · rw [if_pos (by omega), if_pos hj1, up_n (by omega)]
      · rw [if_neg hj1]
        by_cases hj2 : j = i
        · subst hj2; rw [if_pos (by omega), up_s]
        · rw [if_neg (by omega), up_k hab]
theorem copies_0_2 {C : Cst} : (∀ j, j < 107 → sX5_copies_0_2 C 2 j = C 0 j) ∧ ∀ k, ¬ k = 2 → sX5_copies_0_2 C k = C k := by
  unfold sX5_copies_0_2
  simp only [ltl2, ltv]
  have h := zcopy (a := 0) (b := 2) (N := 107) (by decide) (by decide) (fun (C : Cst) (i2 : Nat) => C) 108 C 0 (by decide) (by decide)
  exact ⟨fun j hj => (h.1 j hj).trans (if_neg (Nat.not_lt_zero j)), h.2⟩
theorem copies_2_0 {C : Cst} : (∀ j, j < 107 → sX5_copies_2_0 C 0 j = C 2 j) ∧ ∀ k, ¬ k = 0 → sX5_copies_2_0 C k = C k := by
  unfold sX5_copies_2_0
  simp only [ltl2, ltv]
  have h := zcopy (a := 2) (b := 0) (N := 107) (by decide) (by decide) (fun (C : Cst) (i2 : Nat) => C) 108 C 0 (by decide) (by decide)
  exact ⟨fun j hj => (h.1 j hj).trans (if_neg (Nat.not_lt_zero j)), h.2⟩
theorem copies_0_12 {C : Cst} : (∀ j, j < 107 → sX5_copies_0_12 C 12 j = C 0 j) ∧ ∀ k, ¬ k = 12 → sX5_copies_0_12 C k = C k := by
  unfold sX5_copies_0_12
  simp only [ltl2, ltv]
  have h := zcopy (a := 0) (b := 12) (N := 107) (by decide) (by decide) (fun (C : Cst) (i2 : Nat) => C) 108 C 0 (by decide) (by decide)
  exact ⟨fun j hj => (h.1 j hj).trans (if_neg (Nat.not_lt_zero j)), h.2⟩
theorem copies_12_0 {C : Cst} : (∀ j, j < 107 → sX5_copies_12_0 C 0 j = C 12 j) ∧ ∀ k, ¬ k = 0 → sX5_copies_12_0 C k = C k := by
  unfold sX5_copies_12_0
  simp only [ltl2, ltv]
  have h := zcopy (a := 12) (b := 0) (N := 107) (by decide) (by decide) (fun (C : Cst) (i2 : Nat) => C) 108 C 0 (by decide) (by decide)
  exact ⟨fun j hj => (h.1 j hj).trans (if_neg (Nat.not_lt_zero j)), h.2⟩
theorem IM_back {C B S : Cst} {r : Int32} (er : sX5_plays B = (r, S)) (eB : B = sX5_copies_0_12 C) (hC : IM C) (hS : IM S) : IM (sX5_copies_12_0 S) := by
  have h := FT_plays (R0 := B) (C := B) rfl
  rw [er] at h
  have h12 : S 12 = B 12 := h
  have k1 : ∀ j, j < 107 → sX5_copies_12_0 S 0 j = C 0 j := fun j hj => by rw [(copies_12_0 (C := S)).1 j hj, h12, eB, (copies_0_12 (C := C)).1 j hj]
  have k2 : ∀ k, ¬ k = 0 → sX5_copies_12_0 S k = S k := (copies_12_0 (C := S)).2
  obtain ⟨a1, a2, a3, a4, a5, a6, -⟩ := hC
  obtain ⟨-, -, -, -, -, -, a7, a8, a9, a10⟩ := hS
  unfold IM
  rw [k1 5 (by decide), k1 0 (by decide), k1 4 (by decide), k1 12 (by decide), k2 3 (by decide), k2 6 (by decide)]
  exact ⟨a1, a2, a3, a4, a5, a6, a7, a8, a9, a10⟩
