theorem pu_cp_0_2 (C : Cst) : (∀ j, j ≠ 2 → sX5_copies_0_2 C j = C j) ∧ ∀ i, i < 107 → sX5_copies_0_2 C 2 i = C 0 i := by
  unfold sX5_copies_0_2
  refine p_lz2 (Q9 := fun Y : Cst => (∀ j, j ≠ 2 → Y j = C j) ∧ ∀ i, i < 107 → Y 2 i = C 0 i) (fun B Z hB hZ => ?_)
  refine pl2 (P := fun Y : Cst => (∀ j, j ≠ 2 → Y j = C j) ∧ ∀ i, i < 107 → Y 2 i = C 0 i) hZ (fun k C' i => i = k ∧ (∀ j, j ≠ 2 → C' j = C j) ∧ ∀ i, i < k → C' 2 i = C 0 i) 107 ?_ ?_ 108 0 _ 0 (by decide) (by decide) ⟨rfl, fun _ _ => rfl, fun i hi => absurd hi (Nat.not_lt_zero i)⟩
  · rintro R k C' i hk ⟨rfl, g1, g2⟩ hR
    rw [hB]
    dsimp only
    rw [if_neg (show ¬ (107 : Int32) ≤ nI i from nI_ge (b := 107) hk (by decide))]
    refine hR _ _ ⟨rfl, fun j hj => (pu_un _ _ _ hj).trans (g1 j hj), fun i' hi' => ?_⟩
    rw [pu_up, if_pos rfl]
    by_cases e : i' = i
    · rw [if_pos e, g1 0 (by decide), e]
    · rw [if_neg e]; exact g2 i' (by omega)
  · rintro R C' i ⟨rfl, g1, g2⟩
    rw [hB]
    dsimp only
    rw [if_pos (show (107 : Int32) ≤ nI 107 from by decide)]
    exact ⟨g1, g2⟩
theorem pu_cp_2_0 (C : Cst) : (∀ j, j ≠ 0 → sX5_copies_2_0 C j = C j) ∧ ∀ i, i < 107 → sX5_copies_2_0 C 0 i = C 2 i := by
  unfold sX5_copies_2_0
  refine p_lz2 (Q9 := fun Y : Cst => (∀ j, j ≠ 0 → Y j = C j) ∧ ∀ i, i < 107 → Y 0 i = C 2 i) (fun B Z hB hZ => ?_)
  refine pl2 (P := fun Y : Cst => (∀ j, j ≠ 0 → Y j = C j) ∧ ∀ i, i < 107 → Y 0 i = C 2 i) hZ (fun k C' i => i = k ∧ (∀ j, j ≠ 0 → C' j = C j) ∧ ∀ i, i < k → C' 0 i = C 2 i) 107 ?_ ?_ 108 0 _ 0 (by decide) (by decide) ⟨rfl, fun _ _ => rfl, fun i hi => absurd hi (Nat.not_lt_zero i)⟩
  · rintro R k C' i hk ⟨rfl, g1, g2⟩ hR
    rw [hB]
    dsimp only
    rw [if_neg (show ¬ (107 : Int32) ≤ nI i from nI_ge (b := 107) hk (by decide))]
    refine hR _ _ ⟨rfl, fun j hj => (pu_un _ _ _ hj).trans (g1 j hj), fun i' hi' => ?_⟩
    rw [pu_up, if_pos rfl]
    by_cases e : i' = i
    · rw [if_pos e, g1 2 (by decide), e]
    · rw [if_neg e]; exact g2 i' (by omega)
  · rintro R C' i ⟨rfl, g1, g2⟩
    rw [hB]
    dsimp only
    rw [if_pos (show (107 : Int32) ≤ nI 107 from by decide)]
    exact ⟨g1, g2⟩
theorem pu_cp_0_12 (C : Cst) : (∀ j, j ≠ 12 → sX5_copies_0_12 C j = C j) ∧ ∀ i, i < 107 → sX5_copies_0_12 C 12 i = C 0 i := by
  unfold sX5_copies_0_12
  refine p_lz2 (Q9 := fun Y : Cst => (∀ j, j ≠ 12 → Y j = C j) ∧ ∀ i, i < 107 → Y 12 i = C 0 i) (fun B Z hB hZ => ?_)
  refine pl2 (P := fun Y : Cst => (∀ j, j ≠ 12 → Y j = C j) ∧ ∀ i, i < 107 → Y 12 i = C 0 i) hZ (fun k C' i => i = k ∧ (∀ j, j ≠ 12 → C' j = C j) ∧ ∀ i, i < k → C' 12 i = C 0 i) 107 ?_ ?_ 108 0 _ 0 (by decide) (by decide) ⟨rfl, fun _ _ => rfl, fun i hi => absurd hi (Nat.not_lt_zero i)⟩
  · rintro R k C' i hk ⟨rfl, g1, g2⟩ hR
    rw [hB]
    dsimp only
    rw [if_neg (show ¬ (107 : Int32) ≤ nI i from nI_ge (b := 107) hk (by decide))]
    refine hR _ _ ⟨rfl, fun j hj => (pu_un _ _ _ hj).trans (g1 j hj), fun i' hi' => ?_⟩
    rw [pu_up, if_pos rfl]
    by_cases e : i' = i
    · rw [if_pos e, g1 0 (by decide), e]
    · rw [if_neg e]; exact g2 i' (by omega)
  · rintro R C' i ⟨rfl, g1, g2⟩
    rw [hB]
    dsimp only
    rw [if_pos (show (107 : Int32) ≤ nI 107 from by decide)]
    exact ⟨g1, g2⟩
theorem pu_cp_12_0 (C : Cst) : (∀ j, j ≠ 0 → sX5_copies_12_0 C j = C j) ∧ ∀ i, i < 107 → sX5_copies_12_0 C 0 i = C 12 i := by
  unfold sX5_copies_12_0
  refine p_lz2 (Q9 := fun Y : Cst => (∀ j, j ≠ 0 → Y j = C j) ∧ ∀ i, i < 107 → Y 0 i = C 12 i) (fun B Z hB hZ => ?_)
  refine pl2 (P := fun Y : Cst => (∀ j, j ≠ 0 → Y j = C j) ∧ ∀ i, i < 107 → Y 0 i = C 12 i) hZ (fun k C' i => i = k ∧ (∀ j, j ≠ 0 → C' j = C j) ∧ ∀ i, i < k → C' 0 i = C 12 i) 107 ?_ ?_ 108 0 _ 0 (by decide) (by decide) ⟨rfl, fun _ _ => rfl, fun i hi => absurd hi (Nat.not_lt_zero i)⟩
  · rintro R k C' i hk ⟨rfl, g1, g2⟩ hR
    rw [hB]
    dsimp only
    rw [if_neg (show ¬ (107 : Int32) ≤ nI i from nI_ge (b := 107) hk (by decide))]
    refine hR _ _ ⟨rfl, fun j hj => (pu_un _ _ _ hj).trans (g1 j hj), fun i' hi' => ?_⟩
    rw [pu_up, if_pos rfl]
    by_cases e : i' = i
    · rw [if_pos e, g1 12 (by decide), e]
    · rw [if_neg e]; exact g2 i' (by omega)
  · rintro R C' i ⟨rfl, g1, g2⟩
    rw [hB]
    dsimp only
    rw [if_pos (show (107 : Int32) ≤ nI 107 from by decide)]
    exact ⟨g1, g2⟩
theorem RC_congr {n t h m g : Nat} {C : Cst} {r r' : Nat → Int32} (hr : ∀ i, i < 107 → r' i = r i) (hR : RC n t h m g C r) : RC n t h m g C r' := by
  obtain ⟨⟨hn, ht, hh, hm⟩, ⟨h9, r5, h10, r6, h11, r7, h12, r8, h13, r9, r10, r11⟩, ⟨hs1, hs2⟩, hrr, hd, hz, hk1, hk2⟩ := hR
  refine ⟨⟨hn, ht, hh, hm⟩, ?_, ⟨fun k hk => ?_, hs2⟩, fun j hj => ?_, hd, hz, ?_, fun k w hk hw => ?_⟩
  · rw [RCs, hr 5 (by decide), hr 6 (by decide), hr 7 (by decide), hr 8 (by decide), hr 9 (by decide), hr 10 (by decide), hr 11 (by decide)]
    exact ⟨h9, r5, h10, r6, h11, r7, h12, r8, h13, r9, r10, r11⟩
  · rw [hr k (by omega)]; exact hs1 k hk
  · rw [hr _ (by omega), hr (13 + 8 * j + 1) (by omega), hr (13 + 8 * j + 2) (by omega), hr (13 + 8 * j + 3) (by omega), hr (13 + 8 * j + 4) (by omega), hr (13 + 8 * j + 5) (by omega), hr (13 + 8 * j + 6) (by omega), hr (13 + 8 * j + 7) (by omega)]
    exact hrr j hj
  · rw [hr 12 (by decide)]; exact hk1
  · rw [hr _ (by omega)]; exact hk2 k w hk hw
theorem pu_up_id {C : Cst} {k i : Nat} {x : Int32} (h : C k i = x) : up C k i x = C := by
  funext k' i'
  rw [pu_up]
  by_cases c : k' = k
  · rw [if_pos c]
    by_cases c2 : i' = i
    · rw [if_pos c2, c, c2, h]
    · rw [if_neg c2]
  · rw [if_neg c]
/-! rounds of best uses -/
def pu_tr (M : Cst) : Nat → Int32 × Cst
  | 0 => (0, M)
  | k + 1 => (if ¬ (pu_tr M k).1 = 0 then 1 else if sX5_best (pu_tr M k).2 k = sX5_of (pu_tr M k).2 k 1 then 0 else 1, sX5_puts (pu_tr M k).2 k 1 (sX5_best (pu_tr M k).2 k))
theorem pu_tr_01 (M : Cst) : ∀ k, (pu_tr M k).1 = 0 ∨ (pu_tr M k).1 = 1
  | 0 => Or.inl rfl
  | k + 1 => by
    show (if _ then _ else if _ then _ else _) = (0 : Int32) ∨ (if _ then _ else if _ then _ else _) = (1 : Int32)
    by_cases c : ¬ (pu_tr M k).1 = 0
    · rw [if_pos c]; exact Or.inr rfl
    · rw [if_neg c]
      by_cases c2 : sX5_best (pu_tr M k).2 k = sX5_of (pu_tr M k).2 k 1
      · rw [if_pos c2]; exact Or.inl rfl
      · rw [if_neg c2]; exact Or.inr rfl
theorem pu_tr_k (M : Cst) {j : Nat} (hj : j ≠ 0) : ∀ k, (pu_tr M k).2 j = M j
  | 0 => rfl
  | k + 1 => by
    show up (pu_tr M k).2 0 _ _ j = _
    rw [pu_un _ _ _ hj]; exact pu_tr_k M hj k
theorem pu_tr_5 (M : Cst) : ∀ k, (pu_tr M k).2 0 5 = M 0 5
  | 0 => rfl
  | k + 1 => by
    show up (pu_tr M k).2 0 (13 + 8 * k + 1) _ 0 5 = _
    rw [pu_up, if_pos rfl, if_neg (by omega)]; exact pu_tr_5 M k
theorem pu_turnsR {M : Cst} {n : Nat} (h5 : M 0 5 = nI n) (hn : n ≤ 8) : sX5_turns M = pu_tr M n := by
  show PEQ (pu_tr M n) (sX5_turns M)
  unfold sX5_turns
  refine p_lz3 (Q9 := PEQ (pu_tr M n)) (fun B Z hB hZ => ?_)
  refine pl3 (P := PEQ (pu_tr M n)) hZ (fun k C x1 i2 => i2 = k ∧ x1 = (pu_tr M k).1 ∧ C = (pu_tr M k).2) n ?_ ?_ 9 0 _ _ _ (by omega) (by omega) ⟨rfl, rfl, rfl⟩
  · rintro R k C x1 i2 hk ⟨rfl, rfl, rfl⟩ hR
    rw [hB]
    refine p_ltv (fun K39 e39 => p_ltv (fun K34 e34 => p_ite (fun c => absurd c (by rw [pu_tr_5, h5]; exact pu_5n hk hn)) (fun _ => p_ltv (fun r er => ?_))))
    have k39 : ∀ v, v = (pu_tr M (i2 + 1)).1 → PEQ (pu_tr M n) (K39 (pu_tr M i2).2 i2 (sX5_best (pu_tr M i2).2 i2) v) := by
      intro v hv
      subst e39
      exact p_ltv (fun S eS => hR _ _ _ ⟨rfl, hv, eS⟩)
    rw [er]
    refine p_ite (fun c => ?_) (fun c => p_ltv (fun r2 er2 => p_ite (fun c2 => k39 _ ?_) (fun c2 => ?_)))
    · subst e34
      exact k39 1 (by show _ = if _ then _ else _; rw [if_pos c])
    · show _ = if _ then _ else _
      rw [if_neg c, if_pos (by rw [← er2]; exact c2)]
    · subst e34
      refine k39 1 ?_
      show _ = if _ then _ else _
      rw [if_neg c, if_neg (by rw [← er2]; exact c2)]
  · rintro R C x1 i2 ⟨rfl, rfl, rfl⟩
    rw [hB]
    refine p_ltv (fun K39 e39 => p_ltv (fun K34 e34 => p_ite (fun _ => rfl) (fun c => absurd (show (pu_tr M i2).2 0 5 ≤ nI i2 by rw [pu_tr_5, h5]; exact nI_le (Nat.le_refl _) (by omega)) c)))
theorem pu_best_eq {n t h m g i : Nat} {C M : Cst} (hR : RC n t h m g C (M 0)) (hi : i < n) : sX0_bestUnits C i = sX5_best M i ∧ ∃ a, a ≤ 20 ∧ sX5_best M i = nI a := by
  obtain ⟨⟨hn, ht, hh, hm⟩, ⟨h9, r5, h10, r6, h11, r7, h12, r8, h13, r9, r10, r11⟩, ⟨hs1, hs2⟩, hrr, hd, hz, hk1, hk2⟩ := hR
  obtain ⟨d, d0, d200, ed, e1d⟩ := pu_k0 hs2
  rw [pu_bestUnits h9 h10 h13 (pu_m8 hn hm) e1d hn ht hi (fun k h1 h2 => (hz k h1 h2).2.1), pu_bestR r5 r6 hn ht hi, (hrr i hi).2.2.2.2.2.2.1, (hrr i hi).1, hs1 0 (by decide), pu_ah_congr (fun k hk => (hrr k hk).2.1)]
  by_cases c : m.testBit i = true
  · rw [if_pos c, if_pos c, if_neg pu_10]; exact ⟨rfl, 0, by omega, rfl⟩
  · rw [if_neg c, if_neg c, if_pos rfl]; exact ⟨rfl, _, pu_bst_le _ 20, rfl⟩
def RNQ (n t h m g : Nat) (M : Cst) (a : Int32 × Cst) : Prop := a.1 = (pu_tr M n).1 ∧ RC n t h m g a.2 ((pu_tr M n).2 0)
theorem pu_roundC {n t h m g : Nat} {C M : Cst} (hR : RC n t h m g C (M 0)) : RNQ n t h m g M (sX0_roundChanges C) := by
  have hn : n ≤ 8 := hR.1.1
  unfold sX0_roundChanges
  refine p_lz3 (Q9 := RNQ n t h m g M) (fun B Z hB hZ => ?_)
  refine pl3 (P := RNQ n t h m g M) hZ (fun k C x1 i2 => i2 = k ∧ x1 = (pu_tr M (min k n)).1 ∧ RC n t h m g C ((pu_tr M (min k n)).2 0)) 8 ?_ ?_ 9 0 _ _ _ (by decide) (by decide) ⟨rfl, by rw [Nat.zero_min]; rfl, by rw [Nat.zero_min]; exact hR⟩
  · rintro R k C x1 i2 hk ⟨rfl, rfl, g1⟩ hR'
    rw [hB]
    refine p_ltv (fun K35 e35 => p_ltv (fun K30 e30 => p_ite (fun c => absurd c (pu_8n hk)) (fun _ => p_ltv (fun r er => ?_))))
    by_cases hi : i2 < n
    · rw [show min i2 n = i2 by omega] at g1 ⊢
      obtain ⟨b1, a, ha, b2⟩ := pu_best_eq (M := (pu_tr M i2).2) g1 hi
      have er' : r = nI a := by rw [er, b1, b2]
      have q1 : sX5_of (pu_tr M i2).2 i2 1 = C 2 i2 := (g1.2.2.2.1 i2 hi).2.1
      have k35 : ∀ v, v = (pu_tr M (i2 + 1)).1 → RNQ n t h m g M (K35 C i2 r v) := by
        intro v hv
        subst e35
        refine p_ltv (fun S eS => hR' _ _ _ ⟨rfl, by rw [show min (i2 + 1) n = i2 + 1 by omega]; exact hv, ?_⟩)
        rw [show min (i2 + 1) n = i2 + 1 by omega]
        refine RC_use g1 hi ha (fun k hk => by rw [eS, pu_un _ _ _ hk]) (fun j => by rw [eS, pu_up, if_pos rfl, er']) ?_ (fun j hj => ?_)
        · show up (pu_tr M i2).2 0 (13 + 8 * i2 + 1) (sX5_best (pu_tr M i2).2 i2) 0 _ = _
          rw [pu_up, if_pos rfl, if_pos rfl, b2]
        · show up (pu_tr M i2).2 0 (13 + 8 * i2 + 1) (sX5_best (pu_tr M i2).2 i2) 0 _ = _
          rw [pu_up, if_pos rfl, if_neg hj]
      refine p_ite (fun c => ?_) (fun c => p_ite (fun c2 => k35 _ ?_) (fun c2 => ?_))
      · subst e30
        exact k35 1 (by show _ = if _ then _ else _; rw [if_pos c])
      · show _ = if _ then _ else _
        rw [if_neg c, if_pos (by rw [q1, ← c2, er, b1])]
      · subst e30
        refine k35 1 ?_
        show _ = if _ then _ else _
        rw [if_neg c, if_neg (by rw [q1, ← b1, ← er]; exact c2)]
    · have em : min i2 n = n := by omega
      have em2 : min (i2 + 1) n = n := by omega
      rw [em] at g1 ⊢
      have z2 : C 2 i2 = 0 := (g1.2.2.2.2.2.1 i2 (by omega) hk).2.1
      have r0 : r = 0 := by
        rw [er]
        dsimp only [sX0_bestUnits, ltl5, ltv]
        rw [pu_has0 g1.2.1.1 (by omega) (by omega), if_pos rfl]
      have k35 : ∀ v, v = (pu_tr M n).1 → RNQ n t h m g M (K35 C i2 r v) := by
        intro v hv
        subst e35
        refine p_ltv (fun S eS => hR' _ _ _ ⟨rfl, by rw [em2]; exact hv, ?_⟩)
        rw [em2, eS, r0, pu_up_id z2]; exact g1
      refine p_ite (fun c => ?_) (fun c => p_ite (fun c2 => k35 _ ?_) (fun c2 => ?_))
      · subst e30
        exact k35 1 ((pu_tr_01 M n).resolve_left c).symm
      · exact (Decidable.not_not.mp c).symm
      · exact absurd (by rw [r0, z2]) c2
  · rintro R C x1 i2 ⟨rfl, rfl, g1⟩
    rw [hB]
    have em : min 8 n = n := by omega
    rw [em] at g1 ⊢
    exact p_ltv (fun K35 e35 => p_ltv (fun K30 e30 => p_ite (fun _ => ⟨rfl, g1⟩) (fun c => absurd pu_8y c)))
def pu_rn (M : Cst) : Nat → Cst
  | 0 => M
  | k + 1 => (sX5_turns (pu_rn M k)).2
def pu_fl (M : Cst) (k : Nat) : Int32 := (sX5_turns (pu_rn M k)).1
theorem pu_round {n t h m g : Nat} {C M : Cst} (hR : RC n t h m g C (M 0)) : (sX0_roundChanges C).1 = (sX5_turns M).1 ∧ RC n t h m g (sX0_roundChanges C).2 ((sX5_turns M).2 0) ∧ ∀ j, j ≠ 0 → (sX5_turns M).2 j = M j := by
  obtain ⟨a, b⟩ := pu_roundC hR
  rw [pu_turnsR hR.2.1.2.1 hR.1.1]
  exact ⟨a, b, fun j hj => pu_tr_k M hj n⟩
theorem pu_calmC {P : Int32 × Cst → Prop} {n t h m g : Nat} {C M : Cst} (hR : RC n t h m g C (M 0)) (k1 : ∀ q C', q < 40 → (∀ j, j < q → ¬ pu_fl M j = 0) → pu_fl M q = 0 → RC n t h m g C' (pu_rn M (q + 1) 0) → P (nI (q + 1), C')) (k2 : ∀ C', (∀ j, j < 40 → ¬ pu_fl M j = 0) → P ((-10004), C')) : P (sX0_calmDown C) := by
  unfold sX0_calmDown
  refine p_lz2 (Q9 := P) (fun B Z hB hZ => ?_)
  refine pl2 hZ (fun k C i1 => i1 = k + 1 ∧ RC n t h m g C (pu_rn M k 0) ∧ ∀ j, j < k → ¬ pu_fl M j = 0) 40 ?_ ?_ 42 0 _ _ (by decide) (by decide) ⟨rfl, hR, fun j hj => absurd hj (Nat.not_lt_zero j)⟩
  · rintro R k C i1 hk ⟨rfl, g1, g2⟩ hR'
    rw [hB]
    obtain ⟨a1, a2, a3⟩ := pu_round g1
    refine p_ite (fun c => absurd c (nI_nlt (a := 40) (by omega) (by decide))) (fun _ => p_bnd (fun r S e => ?_))
    rw [e] at a1 a2
    refine p_ite (fun c => hR' _ _ ⟨rfl, a2, fun j hj => ?_⟩) (fun c => k1 k S hk g2 ?_ a2)
    · by_cases q : j = k
      · rw [q]; unfold pu_fl; rw [← a1]; exact c
      · exact g2 j (by omega)
    · unfold pu_fl; rw [← a1]; exact Decidable.not_not.mp c
  · rintro R C i1 ⟨rfl, g1, g2⟩
    rw [hB]
    exact p_ite (fun _ => k2 C g2) (fun c => absurd (show (40 : Int32) < nI 41 from by decide) c)
