/-! a new member -/
theorem pu_memberR {P : Int32 × Cst → Prop} {M : Cst} {x : Int32} {n : Nat} (h5 : M 0 5 = nI n) (hn : n ≤ 8) (hc : sX5_changes M 0 = M 0) (k1 : x < 0 ∨ 30 < x → P ((-10001), M)) (k2 : ¬ (x < 0 ∨ 30 < x) → n = 8 → P ((-10003), M)) (k3 : ¬ (x < 0 ∨ 30 < x) → n < 8 → ∀ M' : Cst, (∀ j, j ≠ 0 → M' j = sX5_changes M j) → (∀ i, M' 0 i = if i = 5 then nI (n + 1) else if i = 13 + 8 * n + 0 then x else if 13 + 8 * n ≤ i ∧ i < 13 + 8 * n + 8 then 0 else M 0 i) → P (nI n, M')) : P (sX5_member M x) := by
  unfold sX5_member
  refine p_ltv (Q9 := P) (fun K56 e56 => ?_)
  refine p_lz4 (fun B37 L37 b37 h37 => ?_)
  refine p_ltv (fun K31 e31 => ?_)
  refine p_ltv (fun r_4 e4 => ?_)
  rw [pu_in] at e4
  refine p_ite (fun c => ?_) (fun c => ?_)
  · have hx : ¬ (x < 0 ∨ 30 < x) := fun hh => c (by rw [e4, if_pos hh])
    refine p_ltv (fun v ev => ?_)
    rw [h5] at ev
    refine p_ite (fun c2 => ?_) (fun c2 => ?_)
    · have h8 : n < 8 := by
        rcases Nat.lt_or_ge n 8 with h | h
        · exact h
        · exact absurd (show v = 8 from by rw [ev, show n = 8 by omega]; rfl) c2
      rw [ev, nI_clamp (by omega)]
      subst e31
      refine p_ltv (fun S eS => ?_)
      refine pl4 h37 (fun k M' x' i2 i3 => x' = x ∧ i2 = n ∧ i3 = k ∧ (∀ j, j ≠ 0 → M' j = sX5_changes M j) ∧ ∀ i, M' 0 i = if 13 + 8 * n ≤ i ∧ i < 13 + 8 * n + k then 0 else M 0 i) 8 ?_ ?_ 9 0 _ _ _ _ (by decide) (by decide) ⟨rfl, rfl, rfl, fun j _ => by rw [eS], fun i => by rw [if_neg (by omega), eS, hc]⟩
      · rintro R k M' x' i2 i3 hk ⟨rfl, rfl, rfl, g1, g2⟩ hR
        rw [b37]
        refine p_ite (fun c => absurd c (pu_8n hk)) (fun _ => p_ltv (fun S2 eS2 => ?_))
        have eS3 : S2 = up M' 0 ((13 + (8 * i2)) + i3) 0 := eS2
        subst eS3
        refine hR _ _ _ _ ⟨rfl, rfl, rfl, fun j hj => (pu_un _ _ _ hj).trans (g1 j hj), fun i => ?_⟩
        rw [pu_up, if_pos rfl, g2 i]
        by_cases h1 : i = 13 + 8 * i2 + i3
        · rw [if_pos h1, if_pos (by omega)]
        · rw [if_neg h1]
          by_cases h2 : 13 + 8 * i2 ≤ i ∧ i < 13 + 8 * i2 + i3
          · rw [if_pos h2, if_pos (by omega)]
          · rw [if_neg h2, if_neg (by omega)]
      · rintro R M' x' i2 i3 ⟨rfl, rfl, rfl, g1, g2⟩
        rw [b37]
        refine p_ite (fun _ => ?_) (fun c => absurd pu_8y c)
        subst e56
        refine p_ltv (fun S2 eS2 => ?_)
        have eS3 : S2 = up M' 0 ((13 + (8 * i2)) + 0) x' := eS2
        subst eS3
        refine p_ltv (fun S4 eS4 => ?_)
        subst eS4
        refine k3 hx h8 _ (fun j hj => ?_) (fun i => ?_)
        · rw [pu_un _ _ _ hj, pu_un _ _ _ hj]; exact g1 j hj
        · rw [pu_up, if_pos rfl]
          by_cases h1 : i = 5
          · rw [if_pos h1, if_pos h1, pu_up, if_pos rfl, if_neg (by omega), g2, if_neg (by omega), h5]; exact nI_1 i2
          · rw [if_neg h1, if_neg h1, pu_up, if_pos rfl, g2]
    · have : n = 8 := by
        rcases Nat.lt_or_ge n 8 with h | h
        · exact absurd (fun hh : v = 8 => by rw [ev] at hh; have := (nI_eq (b := 8) (by omega) (by decide)).mp hh; omega) c2
        · omega
      exact k2 hx this
  · refine k1 (Decidable.byContradiction (fun hh => c (by rw [e4, if_neg hh]; decide)))
def CMD (T f : Nat) (M : Cst) (a b : Int32 × Cst) : Prop := a.1 = b.1 ∧ ((a.1 < 0 ∧ b.2 = M) ∨ (¬ a.1 < 0 ∧ RF T f a.2 (b.2 0) ∧ ∀ k, k ≠ 0 → k ≠ 7 → b.2 k = sX5_changes M k))
theorem CMD_ok {T f : Nat} {M C' M' : Cst} {a : Int32} (ha : ¬ a < 0) (hR : RF T f C' (M' 0)) (hk : ∀ k, k ≠ 0 → k ≠ 7 → M' k = sX5_changes M k) : CMD T f M (a, C') (a, M') := ⟨rfl, Or.inr ⟨ha, hR, hk⟩⟩
theorem pu_n1 : ((-10001) : Int32) < 0 := by decide
theorem pu_n2 : ((-10002) : Int32) < 0 := by decide
theorem pu_n3 : ((-10003) : Int32) < 0 := by decide
theorem pu_n4 : ((-10004) : Int32) < 0 := by decide
theorem pu_tb {m n : Nat} (h : m < 2 ^ n) : m.testBit n = false := Nat.testBit_lt_two_pow h
theorem pu_CMDmember {T f n t h m g : Nat} {C M : Cst} (x : Int32) (hc : sX5_changes M 0 = M 0) (hT : t ≤ T) (hf : g ≤ f) (hR : RC n t h m g C (M 0)) : CMD T f M (sX0_addMember C x) (sX5_member M x) := by
  obtain ⟨⟨hn, ht, hh, hm⟩, ⟨h9, r5, h10, r6, h11, r7, h12, r8, h13, r9, r10, r11⟩, ⟨hs1, hs2⟩, hr, hd, hz, hk1, hk2⟩ := hR
  refine pu_memberR (P := fun b => CMD T f M (sX0_addMember C x) b) r5 hn hc (fun c => ?_) (fun c h8 => ?_) (fun c h8 M' g1 g2 => ?_)
  · have : sX0_addMember C x = ((-10001), C) := by
      unfold sX0_addMember
      by_cases h : x < 0
      · rw [if_pos h]
      · rw [if_neg h, if_neg (Int32.not_le.mpr (c.resolve_left h))]
    rw [this]; exact ⟨rfl, Or.inl ⟨pu_n1, rfl⟩⟩
  · have : sX0_addMember C x = ((-10003), C) := by
      unfold sX0_addMember
      rw [if_neg (fun q => c (Or.inl q)), if_pos (Int32.not_lt.mp (fun q => c (Or.inr q))), h9, h8, if_neg (by decide)]
    rw [this]; exact ⟨rfl, Or.inl ⟨pu_n3, rfl⟩⟩
  · have : sX0_addMember C x = (nI n, up (up C 1 n x) 9 0 (nI (n + 1))) := by
      dsimp only [sX0_addMember, ltv]
      rw [if_neg (fun q => c (Or.inl q)), if_pos (Int32.not_lt.mp (fun q => c (Or.inr q))), h9, if_pos (show nI n < (8 : Int32) from nI_lt (b := 8) h8 (by decide)), nI_clamp (by omega)]
      have e : up C 1 n x 9 0 + 1 = nI (n + 1) := by rw [pu_un _ _ _ (by decide), h9]; exact nI_1 n
      rw [e, pu_up, if_pos rfl, if_pos rfl, nI_pred]
    rw [this]
    obtain ⟨a, ha, rfl⟩ := nI_of2 (M := 30) (n := 30) rfl (fun q => c (Or.inl q)) (Int32.not_lt.mp (fun q => c (Or.inr q)))
    have g0 : M' 0 5 = nI (n + 1) := by rw [g2, if_pos rfl]
    have gx : M' 0 (13 + 8 * n + 0) = nI a := by rw [g2, if_neg (by omega), if_pos rfl]
    have gz : ∀ w, 0 < w → w < 8 → M' 0 (13 + 8 * n + w) = 0 := fun w h1 h2 => by rw [g2, if_neg (by omega), if_neg (by omega), if_pos (by omega)]
    have g3 : ∀ i, i ≠ 5 → i < 13 + 8 * n ∨ 13 + 8 * n + 8 ≤ i → M' 0 i = M 0 i := fun i h1 h2 => by rw [g2, if_neg h1, if_neg (by omega), if_neg (by omega)]
    generalize hC : up (up C 1 n (nI a)) 9 0 (nI (n + 1)) = C'
    have c9 : C' 9 0 = nI (n + 1) := by rw [← hC, pu_up, if_pos rfl, if_pos rfl]
    have cc : ∀ k, k ≠ 9 → k ≠ 1 → C' k = C k := fun k h1 h2 => by rw [← hC, pu_un _ _ _ h1, pu_un _ _ _ h2]
    have c1 : ∀ i, C' 1 i = if i = n then nI a else C 1 i := fun i => by rw [← hC, pu_un _ _ _ (by decide), pu_up, if_pos rfl]
    refine CMD_ok (nI_pos (by omega)) ⟨n + 1, t, h, m, g, hT, hf, ?_⟩ (fun k h0 _ => g1 k h0)
    refine ⟨⟨by omega, ht, hh, Nat.lt_of_lt_of_le hm (Nat.pow_le_pow_right (by decide) (by omega))⟩, ?_, ⟨fun k hk => ?_, fun k hk => ?_⟩, fun i hi => ?_, fun i hi => ?_, fun i hi h8' => ?_, ?_, fun k w hk hw => ?_⟩
    · rw [RCs, c9, cc 10 (by decide) (by decide), cc 11 (by decide) (by decide), cc 12 (by decide) (by decide), cc 13 (by decide) (by decide), cc 14 (by decide) (by decide), cc 15 (by decide) (by decide), cc 16 (by decide) (by decide), g0, g3 6 (by decide) (by omega), g3 7 (by decide) (by omega), g3 8 (by decide) (by omega), g3 9 (by decide) (by omega), g3 10 (by decide) (by omega), g3 11 (by decide) (by omega)]
      exact ⟨rfl, rfl, h10, r6, h11, r7, h12, r8, h13, r9, r10, r11⟩
    · show M' 0 k = C' 0 k
      rw [g3 k (by omega) (by omega), cc 0 (by decide) (by decide)]; exact hs1 k hk
    · rw [cc 0 (by decide) (by decide)]; exact hs2 k hk
    · show M' 0 _ = _ ∧ M' 0 _ = _ ∧ M' 0 _ = _ ∧ M' 0 _ = _ ∧ M' 0 _ = _ ∧ M' 0 _ = _ ∧ M' 0 _ = _ ∧ M' 0 _ = _
      rw [c1, cc 2 (by decide) (by decide), cc 3 (by decide) (by decide), cc 4 (by decide) (by decide), cc 5 (by decide) (by decide), cc 6 (by decide) (by decide), cc 7 (by decide) (by decide)]
      by_cases e : i = n
      · subst e
        obtain ⟨z1, z2, z3, z4, z5, z6, z7⟩ := hz i (Nat.le_refl _) h8
        rw [if_pos rfl, gx, gz 1 (by decide) (by decide), gz 2 (by decide) (by decide), gz 3 (by decide) (by decide), gz 4 (by decide) (by decide), gz 5 (by decide) (by decide), gz 6 (by decide) (by decide), gz 7 (by decide) (by decide), z2, z3, z4, z5, z6, z7, pu_tb hm, if_neg (by decide)]
        exact ⟨rfl, rfl, rfl, rfl, rfl, rfl, rfl, rfl⟩
      · rw [if_neg e, g3 _ (by omega) (by omega), g3 _ (by omega) (by omega), g3 _ (by omega) (by omega), g3 _ (by omega) (by omega), g3 _ (by omega) (by omega), g3 _ (by omega) (by omega), g3 _ (by omega) (by omega), g3 _ (by omega) (by omega)]
        exact hr i (by omega)
    · obtain ⟨d1, d2, d3, d4⟩ := hd i hi
      rw [c1, cc 2 (by decide) (by decide), cc 5 (by decide) (by decide), cc 6 (by decide) (by decide)]
      refine ⟨?_, d2, d3, d4⟩
      by_cases e : i = n
      · rw [if_pos e]; exact ⟨a, ha, rfl⟩
      · rw [if_neg e]; exact d1
    · rw [c1, if_neg (by omega), cc 2 (by decide) (by decide), cc 3 (by decide) (by decide), cc 4 (by decide) (by decide), cc 5 (by decide) (by decide), cc 6 (by decide) (by decide), cc 7 (by decide) (by decide)]
      exact hz i (by omega) h8'
    · show M' 0 12 = _
      rw [g3 12 (by decide) (by omega)]; exact hk1
    · show M' 0 _ = _
      rw [g3 _ (by omega) (by omega), cc 8 (by decide) (by decide)]; exact hk2 k w hk hw
