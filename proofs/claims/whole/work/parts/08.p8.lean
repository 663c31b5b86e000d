/-! pay, set -/
theorem pu_subnn {x y : Int32} (h1 : 0 ≤ y) (h : y ≤ x) : ¬ x - y < 0 := by
  obtain ⟨b, hb, rfl⟩ := nI_of (Int32.not_lt.mpr h1)
  obtain ⟨a, ha, rfl⟩ := nI_of (Int32.not_lt.mpr (Int32.le_trans h1 h))
  have := (nI_leI hb ha).mp h
  rw [nI_sub this]; exact nI_pos (by omega)
theorem pu_CMDpay {T f n t h m g : Nat} {C M : Cst} (x y : Int32) (hc : sX5_changes M 0 = M 0) (hT : t ≤ T) (hf : g ≤ f) (hR : RC n t h m g C (M 0)) : CMD T (f + 999) M (sX0_payCoins C x y) (sX5_pay M x y) := by
  obtain ⟨⟨hn, ht, hh, hm⟩, ⟨h9, r5, h10, r6, h11, r7, h12, r8, h13, r9, r10, r11⟩, ⟨hs1, hs2⟩, hrr, hd, hz, hk1, hk2⟩ := hR
  dsimp only [sX0_payCoins, sX5_pay, ltv]
  rcases pu_has_mem h9 r5 hn x with ⟨e1, e2, _⟩ | ⟨i, hi, rfl, e1, e2⟩
  · rw [e1, e2, if_pos rfl, if_pos rfl]; exact ⟨rfl, Or.inl ⟨pu_n1, rfl⟩⟩
  rw [e1, e2, if_neg pu_10, if_neg pu_10, pu_in]
  by_cases c1 : y < 1
  · rw [if_pos c1, if_pos (Or.inl c1), if_neg pu_00]; exact ⟨rfl, Or.inl ⟨pu_n1, rfl⟩⟩
  by_cases c2 : 999 < y
  · rw [if_neg c1, if_neg (Int32.not_le.mpr c2), if_pos (Or.inr c2), if_neg pu_00]; exact ⟨rfl, Or.inl ⟨pu_n1, rfl⟩⟩
  rw [if_neg c1, if_pos (Int32.not_lt.mp c2), if_neg (show ¬ (y < 1 ∨ 999 < y) from fun q => q.elim c1 c2), if_pos pu_10, nI_clamp (by omega)]
  obtain ⟨q0, q1, q2, q3, q4, q5, q6, q7⟩ := hrr i hi
  rw [show sX5_of M i 2 = C 3 i from q2]
  by_cases c3n : ¬ y ≤ C 3 i
  · rw [if_neg c3n, if_neg c3n]; exact ⟨rfl, Or.inl ⟨pu_n2, rfl⟩⟩
  have c3 : y ≤ C 3 i := Decidable.not_not.mp c3n
  rw [if_pos c3, if_pos c3]
  have y1 : (1 : Int32) ≤ y := Int32.not_lt.mp c1
  obtain ⟨b, hb, rfl⟩ := nI_of2 (M := 999) (n := 999) rfl (fun q => absurd (Int32.le_trans y1 (Int32.le_of_lt q)) (by decide)) (Int32.not_lt.mp c2)
  have a3 : up C 3 i (C 3 i - nI b) 4 i = C 4 i := by rw [pu_un _ _ _ (by decide)]
  have a12 : up (up C 3 i (C 3 i - nI b)) 4 i (up C 3 i (C 3 i - nI b) 4 i + nI b) 12 0 = nI g := by rw [pu_un _ _ _ (by decide), pu_un _ _ _ (by decide), h12]
  rw [a12, a3, nI_add]
  generalize hC' : up (up (up C 3 i (C 3 i - nI b)) 4 i (C 4 i + nI b)) 12 0 (nI (g + b)) = C'
  have c12 : C' 12 0 = nI (g + b) := by rw [← hC', pu_up, if_pos rfl, if_pos rfl]
  have cc : ∀ k, k ≠ 3 → k ≠ 4 → k ≠ 12 → C' k = C k := fun k h1 h2 h3 => by rw [← hC', pu_un _ _ _ h3, pu_un _ _ _ h2, pu_un _ _ _ h1]
  have c_3 : ∀ j, C' 3 j = if j = i then C 3 i - nI b else C 3 j := fun j => by rw [← hC', pu_un _ _ _ (by decide), pu_un _ _ _ (by decide), pu_up, if_pos rfl]
  have c_4 : ∀ j, C' 4 j = if j = i then C 4 i + nI b else C 4 j := fun j => by rw [← hC', pu_un _ _ _ (by decide), pu_up, if_pos rfl, pu_un _ _ _ (by decide)]
  have f2 : sX5_of (sX5_changes M) i 2 = C 3 i := by show sX5_changes M 0 _ = _; rw [hc]; exact q2
  have f3 : sX5_of (sX5_puts (sX5_changes M) i 2 (C 3 i - nI b)) i 3 = C 4 i := by
    show up (sX5_changes M) 0 (13 + 8 * i + 2) _ 0 (13 + 8 * i + 3) = _
    rw [pu_up, if_pos rfl, if_neg (by omega), hc]; exact q3
  have f8 : sX5_puts (sX5_puts (sX5_changes M) i 2 (C 3 i - nI b)) i 3 (C 4 i + nI b) 0 8 = nI g := by
    show up (up (sX5_changes M) 0 (13 + 8 * i + 2) _) 0 (13 + 8 * i + 3) _ 0 8 = _
    rw [pu_up, if_pos rfl, if_neg (by omega), pu_up, if_pos rfl, if_neg (by omega), hc, r8]
  rw [f2, f3, f8, nI_add]
  generalize hM' : up (sX5_puts (sX5_puts (sX5_changes M) i 2 (C 3 i - nI b)) i 3 (C 4 i + nI b)) 0 8 (nI (g + b)) = M'
  have hM2 : M' = up (up (up (sX5_changes M) 0 (13 + 8 * i + 2) (C 3 i - nI b)) 0 (13 + 8 * i + 3) (C 4 i + nI b)) 0 8 (nI (g + b)) := hM'.symm
  have m8 : M' 0 8 = nI (g + b) := by rw [hM2, pu_up, if_pos rfl, if_pos rfl]
  have m2 : M' 0 (13 + 8 * i + 2) = C 3 i - nI b := by rw [hM2, pu_up, if_pos rfl, if_neg (by omega), pu_up, if_pos rfl, if_neg (by omega), pu_up, if_pos rfl, if_pos rfl]
  have m3 : M' 0 (13 + 8 * i + 3) = C 4 i + nI b := by rw [hM2, pu_up, if_pos rfl, if_neg (by omega), pu_up, if_pos rfl, if_pos rfl]
  have mm : ∀ j, j ≠ 8 → j ≠ 13 + 8 * i + 2 → j ≠ 13 + 8 * i + 3 → M' 0 j = M 0 j := fun j h1 h2 h3 => by rw [hM2, pu_up, if_pos rfl, if_neg h1, pu_up, if_pos rfl, if_neg h3, pu_up, if_pos rfl, if_neg h2, hc]
  have mk : ∀ k, k ≠ 0 → M' k = sX5_changes M k := fun k hk => by rw [hM2, pu_un _ _ _ hk, pu_un _ _ _ hk, pu_un _ _ _ hk]
  rw [show sX5_of M' i 2 = C 3 i - nI b from m2, c_3, if_pos rfl]
  refine CMD_ok (pu_subnn (nI_pos' (by omega)) c3) ⟨n, t, h, m, g + b, hT, by omega, ?_⟩ (fun k hk _ => mk k hk)
  refine ⟨⟨hn, ht, hh, hm⟩, ?_, ⟨fun k hk => ?_, fun k hk => ?_⟩, fun j hj => ?_, fun j hj => ?_, fun j hj h8 => ?_, ?_, fun k w hk hw => ?_⟩
  · rw [RCs, cc 9 (by decide) (by decide) (by decide), cc 10 (by decide) (by decide) (by decide), cc 11 (by decide) (by decide) (by decide), c12, cc 13 (by decide) (by decide) (by decide), cc 14 (by decide) (by decide) (by decide), cc 15 (by decide) (by decide) (by decide), cc 16 (by decide) (by decide) (by decide), m8, mm 5 (by decide) (by omega) (by omega), mm 6 (by decide) (by omega) (by omega), mm 7 (by decide) (by omega) (by omega), mm 9 (by decide) (by omega) (by omega), mm 10 (by decide) (by omega) (by omega), mm 11 (by decide) (by omega) (by omega)]
    exact ⟨h9, r5, h10, r6, h11, r7, rfl, rfl, h13, r9, r10, r11⟩
  · rw [mm k (by omega) (by omega) (by omega), cc 0 (by decide) (by decide) (by decide)]; exact hs1 k hk
  · rw [cc 0 (by decide) (by decide) (by decide)]; exact hs2 k hk
  · rw [cc 1 (by decide) (by decide) (by decide), cc 2 (by decide) (by decide) (by decide), c_3, c_4, cc 5 (by decide) (by decide) (by decide), cc 6 (by decide) (by decide) (by decide), cc 7 (by decide) (by decide) (by decide)]
    rw [mm (13 + 8 * j + 0) (by omega) (by omega) (by omega), mm (13 + 8 * j + 1) (by omega) (by omega) (by omega), mm (13 + 8 * j + 4) (by omega) (by omega) (by omega), mm (13 + 8 * j + 5) (by omega) (by omega) (by omega), mm (13 + 8 * j + 6) (by omega) (by omega) (by omega), mm (13 + 8 * j + 7) (by omega) (by omega) (by omega)]
    obtain ⟨p0, p1, p2, p3, p4, p5, p6, p7⟩ := hrr j hj
    refine ⟨p0, p1, ?_, ?_, p4, p5, p6, p7⟩
    · by_cases e : j = i
      · rw [if_pos e, e]; exact m2
      · rw [if_neg e, mm _ (by omega) (by omega) (by omega)]; exact p2
    · by_cases e : j = i
      · rw [if_pos e, e]; exact m3
      · rw [if_neg e, mm _ (by omega) (by omega) (by omega)]; exact p3
  · rw [cc 1 (by decide) (by decide) (by decide), cc 2 (by decide) (by decide) (by decide), cc 5 (by decide) (by decide) (by decide), cc 6 (by decide) (by decide) (by decide)]; exact hd j hj
  · rw [cc 1 (by decide) (by decide) (by decide), cc 2 (by decide) (by decide) (by decide), c_3, if_neg (by omega), c_4, if_neg (by omega), cc 5 (by decide) (by decide) (by decide), cc 6 (by decide) (by decide) (by decide), cc 7 (by decide) (by decide) (by decide)]
    exact hz j hj h8
  · rw [mm 12 (by decide) (by omega) (by omega)]; exact hk1
  · rw [mm _ (by omega) (by omega) (by omega), cc 8 (by decide) (by decide) (by decide)]; exact hk2 k w hk hw
theorem pu_setb : ∀ i, i < 5 → 0 ≤ sL i := by decide
theorem pu_CMDset {T f n t hl m g : Nat} {C M : Cst} (x y : Int32) (hc : sX5_changes M 0 = M 0) (hT : t ≤ T) (hf : g ≤ f) (hR : RC n t hl m g C (M 0)) : CMD T f M (sX0_changeSetting C x y) (sX5_set M x y) := by
  obtain ⟨⟨hn, ht, hh, hm⟩, ⟨h9, r5, h10, r6, h11, r7, h12, r8, h13, r9, r10, r11⟩, ⟨hs1, hs2⟩, hrr, hd, hz, hk1, hk2⟩ := hR
  have eR : ∀ i, i < 5 → sX5_set M (nI i) y = if y < sL i ∨ sM i < y then ((-10001), M) else (sX5_changes M 0 i, up (sX5_changes M) 0 i y) := by
    intro i hi
    have hcase : i = 0 ∨ i = 1 ∨ i = 2 ∨ i = 3 ∨ i = 4 := by omega
    dsimp only [sX5_set, ltv]
    rw [nI_clamp (by omega)]
    rcases hcase with rfl | rfl | rfl | rfl | rfl
    · rw [if_pos (show nI 0 = 0 from rfl), if_neg (show ¬ ¬ nI 0 = 0 by decide), show sX5_in (nI 0) 0 4 = 1 by decide, if_neg pu_10, pu_in]
      show (if ¬ (if y < sL 0 ∨ sM 0 < y then (0 : Int32) else 1) = 0 then _ else _) = _
      by_cases c : y < sL 0 ∨ sM 0 < y
      · rw [if_pos c, if_pos c, if_neg pu_00]
      · rw [if_neg c, if_neg c, if_pos pu_10]
    · rw [if_neg (show ¬ nI 1 = 0 by decide), if_pos (show ¬ nI 1 = 4 by decide), if_pos (show ¬ nI 1 = 0 by decide), if_neg (show ¬ ¬ nI 1 = 1 by decide), show sX5_in (nI 1) 0 4 = 1 by decide, if_neg pu_10, pu_in]
      show (if ¬ (if y < sL 1 ∨ sM 1 < y then (0 : Int32) else 1) = 0 then _ else _) = _
      by_cases c : y < sL 1 ∨ sM 1 < y
      · rw [if_pos c, if_pos c, if_neg pu_00]
      · rw [if_neg c, if_neg c, if_pos pu_10]
    · rw [if_neg (show ¬ nI 2 = 0 by decide), if_pos (show ¬ nI 2 = 4 by decide), if_pos (show ¬ nI 2 = 0 by decide), if_pos (show ¬ nI 2 = 1 by decide), if_neg (show ¬ ¬ nI 2 = 2 by decide), show sX5_in (nI 2) 0 4 = 1 by decide, if_neg pu_10, pu_in]
      show (if ¬ (if y < sL 2 ∨ sM 2 < y then (0 : Int32) else 1) = 0 then _ else _) = _
      by_cases c : y < sL 2 ∨ sM 2 < y
      · rw [if_pos c, if_pos c, if_neg pu_00]
      · rw [if_neg c, if_neg c, if_pos pu_10]
    · rw [if_neg (show ¬ nI 3 = 0 by decide), if_pos (show ¬ nI 3 = 4 by decide), if_pos (show ¬ nI 3 = 0 by decide), if_pos (show ¬ nI 3 = 1 by decide), if_pos (show ¬ nI 3 = 2 by decide), if_neg (show ¬ ¬ nI 3 = 3 by decide), show sX5_in (nI 3) 0 4 = 1 by decide, if_neg pu_10, pu_in]
      show (if ¬ (if y < sL 3 ∨ sM 3 < y then (0 : Int32) else 1) = 0 then _ else _) = _
      by_cases c : y < sL 3 ∨ sM 3 < y
      · rw [if_pos c, if_pos c, if_neg pu_00]
      · rw [if_neg c, if_neg c, if_pos pu_10]
    · rw [if_neg (show ¬ nI 4 = 0 by decide), if_neg (show ¬ ¬ nI 4 = 4 by decide), if_pos (show ¬ nI 4 = 0 by decide), if_pos (show ¬ nI 4 = 1 by decide), if_pos (show ¬ nI 4 = 2 by decide), if_pos (show ¬ nI 4 = 3 by decide), show sX5_in (nI 4) 0 4 = 1 by decide, if_neg pu_10, pu_in]
      show (if ¬ (if y < sL 4 ∨ sM 4 < y then (0 : Int32) else 1) = 0 then _ else _) = _
      by_cases c : y < sL 4 ∨ sM 4 < y
      · rw [if_pos c, if_pos c, if_neg pu_00]
      · rw [if_neg c, if_neg c, if_pos pu_10]
  by_cases h : x < 0
  · have e1 : sX0_changeSetting C x y = ((-10001), C) := by
      dsimp only [sX0_changeSetting, ltv]; rw [if_pos h]
    have e2 : sX5_set M x y = ((-10001), M) := by
      dsimp only [sX5_set, ltv]
      rw [if_neg (show ¬ x = 0 from fun q => by rw [q] at h; exact absurd h (by decide)), if_pos (show ¬ x = 4 from fun q => by rw [q] at h; exact absurd h (by decide)), if_pos (show ¬ x = 0 from fun q => by rw [q] at h; exact absurd h (by decide)), if_pos (show ¬ x = 1 from fun q => by rw [q] at h; exact absurd h (by decide)), if_pos (show ¬ x = 2 from fun q => by rw [q] at h; exact absurd h (by decide)), if_pos (show ¬ x = 3 from fun q => by rw [q] at h; exact absurd h (by decide)), pu_in x, if_pos (Or.inl h), if_pos rfl]
    rw [e1, e2]; exact ⟨rfl, Or.inl ⟨pu_n1, rfl⟩⟩
  obtain ⟨i, hi, rfl⟩ := nI_of h
  by_cases h5 : 5 ≤ i
  · have e1 : sX0_changeSetting C (nI i) y = ((-10001), C) := by
      dsimp only [sX0_changeSetting, ltv]; rw [if_neg h, if_neg (show ¬ nI i < (5 : Int32) from nI_nlt (a := i) (b := 5) h5 hi)]
    have ne : ∀ k, k < 5 → ¬ nI i = nI k := fun k hk q => by have := (nI_eq hi (by omega)).mp q; omega
    have e2 : sX5_set M (nI i) y = ((-10001), M) := by
      dsimp only [sX5_set, ltv]
      rw [if_neg (show ¬ nI i = 0 from ne 0 (by decide)), if_pos (show ¬ nI i = 4 from ne 4 (by decide)), if_pos (show ¬ nI i = 0 from ne 0 (by decide)), if_pos (show ¬ nI i = 1 from ne 1 (by decide)), if_pos (show ¬ nI i = 2 from ne 2 (by decide)), if_pos (show ¬ nI i = 3 from ne 3 (by decide)), pu_in (nI i), if_pos (show nI i < 0 ∨ (4 : Int32) < nI i from Or.inr (nI_lt (a := 4) (by omega) hi)), if_pos rfl]
    rw [e1, e2]; exact ⟨rfl, Or.inl ⟨pu_n1, rfl⟩⟩
  have hi5 : i < 5 := by omega
  rw [eR i hi5]
  dsimp only [sX0_changeSetting, ltv]
  rw [if_neg h, if_pos (show nI i < (5 : Int32) from nI_lt (b := 5) hi5 (by decide)), nI_clamp hi]
  by_cases c1 : y < sL i
  · rw [if_pos c1, if_pos (Or.inl c1)]; exact ⟨rfl, Or.inl ⟨pu_n1, rfl⟩⟩
  by_cases c2 : sM i < y
  · rw [if_neg c1, if_neg (Int32.not_le.mpr c2), if_pos (Or.inr c2)]; exact ⟨rfl, Or.inl ⟨pu_n1, rfl⟩⟩
  rw [if_neg c1, if_pos (Int32.not_lt.mp c2), if_neg (show ¬ (y < sL i ∨ sM i < y) from fun q => q.elim c1 c2), hc, hs1 i hi5]
  refine CMD_ok (Int32.not_lt.mpr (Int32.le_trans (pu_setb i hi5) (hs2 i hi5).1)) ⟨n, t, hl, m, g, hT, hf, ?_⟩ (fun k hk _ => pu_un _ _ _ hk)
  have cc : ∀ k, k ≠ 0 → up C 0 i y k = C k := fun k hk => pu_un _ _ _ hk
  have mm : ∀ j, j ≠ i → up (sX5_changes M) 0 i y 0 j = M 0 j := fun j hj => by rw [pu_up, if_pos rfl, if_neg hj, hc]
  refine ⟨⟨hn, ht, hh, hm⟩, ?_, ⟨fun k hk => ?_, fun k hk => ?_⟩, fun j hj => ?_, fun j hj => ?_, fun j hj h8 => ?_, ?_, fun k w hk hw => ?_⟩
  · rw [RCs, cc 9 (by decide), cc 10 (by decide), cc 11 (by decide), cc 12 (by decide), cc 13 (by decide), cc 14 (by decide), cc 15 (by decide), cc 16 (by decide), mm 5 (by omega), mm 6 (by omega), mm 7 (by omega), mm 8 (by omega), mm 9 (by omega), mm 10 (by omega), mm 11 (by omega)]
    exact ⟨h9, r5, h10, r6, h11, r7, h12, r8, h13, r9, r10, r11⟩
  · rw [pu_up, if_pos rfl, pu_up, if_pos rfl]
    by_cases e : k = i
    · rw [if_pos e, if_pos e]
    · rw [if_neg e, if_neg e, hc]; exact hs1 k hk
  · rw [pu_up, if_pos rfl]
    by_cases e : k = i
    · rw [if_pos e, e]; exact ⟨Int32.not_lt.mp c1, Int32.not_lt.mp c2⟩
    · rw [if_neg e]; exact hs2 k hk
  · rw [cc 1 (by decide), cc 2 (by decide), cc 3 (by decide), cc 4 (by decide), cc 5 (by decide), cc 6 (by decide), cc 7 (by decide), mm _ (by omega), mm _ (by omega), mm _ (by omega), mm _ (by omega), mm _ (by omega), mm _ (by omega), mm _ (by omega), mm _ (by omega)]
    exact hrr j hj
  · rw [cc 1 (by decide), cc 2 (by decide), cc 5 (by decide), cc 6 (by decide)]; exact hd j hj
  · rw [cc 1 (by decide), cc 2 (by decide), cc 3 (by decide), cc 4 (by decide), cc 5 (by decide), cc 6 (by decide), cc 7 (by decide)]
    exact hz j hj h8
  · rw [mm 12 (by omega)]; exact hk1
  · rw [mm _ (by omega), cc 8 (by decide)]; exact hk2 k w hk hw
