/-! damage, charges, gains, best uses -/
def pu_dm (d x : Int32) : Int32 := (x * x) / d
theorem pu_damage {C : Cst} (h : 1 ≤ C 0 0) (x : Int32) : sX0_damageOf C x = pu_dm (C 0 0) x := by
  dsimp only [sX0_damageOf, ltv]
  rw [if_pos h]; rfl
theorem pu_damageR (M : Cst) (x : Int32) : sX5_damage M x = pu_dm (M 0 0) x := rfl
theorem pu_dm0 (d : Int32) : pu_dm d 0 = 0 := by
  show (0 * 0) / d = 0
  rw [Int32.zero_mul, Int32.zero_div]
/-- a charge for x units behind a units -/
def pu_ch (d a x : Int32) : Int32 := pu_dm d (a + x) - pu_dm d a
theorem pu_added {C : Cst} (h : 1 ≤ C 0 0) (a x : Int32) : sX0_damageAdded C a x = pu_ch (C 0 0) a x := by
  dsimp only [sX0_damageAdded, ltv]
  rw [pu_damage h, pu_damage h]; rfl
def pu_gn (d a w x : Int32) : Int32 := w * x - pu_ch d a x
theorem pu_gain {C : Cst} (h : 1 ≤ C 0 0) (a w x : Int32) : sX0_gainBehind C a w x = pu_gn (C 0 0) a w x := by
  dsimp only [sX0_gainBehind, ltv]
  rw [pu_added h]; rfl
theorem pu_gn0 (d a w : Int32) : pu_gn d a w 0 = 0 := by
  show w * 0 - (pu_dm d (a + 0) - pu_dm d a) = 0
  rw [Int32.add_zero, Int32.sub_self, Int32.mul_zero, Int32.sub_self]
theorem pu_chargeR {M : Cst} {n t i : Nat} (h5 : M 0 5 = nI n) (h6 : M 0 6 = nI t) (hn : n ≤ 8) (ht : t ≤ 1000) (hi : i < n) (x : Int32) : sX5_chargeFor M (nI i) x = pu_ch (M 0 0) (pu_ah (fun k => M 0 (13 + 8 * k + 1)) n t (pu_pl n t i)) x := by
  dsimp only [sX5_chargeFor, ltv]
  rw [pu_aheadR h5 h6 hn ht hi]; rfl
theorem pu_gainR {M : Cst} {n t i : Nat} (h5 : M 0 5 = nI n) (h6 : M 0 6 = nI t) (hn : n ≤ 8) (ht : t ≤ 1000) (hi : i < n) (x : Int32) : sX5_gainFor M i x = pu_gn (M 0 0) (pu_ah (fun k => M 0 (13 + 8 * k + 1)) n t (pu_pl n t i)) (M 0 (13 + 8 * i + 0)) x := by
  dsimp only [sX5_gainFor, ltv]
  rw [pu_chargeR h5 h6 hn ht hi]; rfl
/-- the best of 1 to k units -/
def pu_bst (g : Int32 → Int32) : Nat → Nat
  | 0 => 0
  | k + 1 => if g (nI (k + 1)) ≤ g (nI (pu_bst g k)) then pu_bst g k else k + 1
theorem pu_bst_le (g : Int32 → Int32) : ∀ k, pu_bst g k ≤ k
  | 0 => Nat.le_refl 0
  | k + 1 => by
    have := pu_bst_le g k
    simp only [pu_bst]; split <;> omega
theorem pu_20n {i : Nat} (h : i ≤ 20) : ¬ (20 : Int32) < nI i := nI_nlt (b := i) (a := 20) h (by decide)
theorem pu_has1 {C : Cst} {n i : Nat} (h9 : C 9 0 = nI n) (hn : n ≤ 8) (hi : i < n) : sX0_has C (nI i) = 1 := by
  dsimp only [sX0_has]
  rw [if_neg (nI_pos (by omega)), h9, if_neg (nI_ge hi (by omega)), if_neg (pu_8n (by omega))]
theorem pu_has0 {C : Cst} {n i : Nat} (h9 : C 9 0 = nI n) (hi : n ≤ i) (h8 : i ≤ 8) : sX0_has C (nI i) = 0 := by
  dsimp only [sX0_has]
  rw [if_neg (nI_pos (by omega)), h9, if_pos (nI_le hi (by omega))]
theorem pu_isOut {C : Cst} {m i : Nat} (h13 : C 13 0 = nI m) (hm : m < 256) (hi : i < 8) : sX0_isOut C (nI i) = if m.testBit i then 1 else 0 := by
  dsimp only [sX0_isOut]
  rw [h13, pu_bits m hm i hi]
  by_cases h : m.testBit i = true
  · rw [if_pos h, if_neg (fun h => h rfl)]
  · rw [if_neg h, if_pos (by decide)]
theorem pu_bestUnits {C : Cst} {n t m i : Nat} (h9 : C 9 0 = nI n) (h10 : C 10 0 = nI t) (h13 : C 13 0 = nI m) (hm : m < 256) (hd : 1 ≤ C 0 0) (hn : n ≤ 8) (ht : t ≤ 1000) (hi : i < n) (hz : ∀ k, n ≤ k → k < 8 → C 2 k = 0) : sX0_bestUnits C i = if m.testBit i then 0 else nI (pu_bst (pu_gn (C 0 0) (pu_ah (C 2) n t (pu_pl n t i)) (C 1 i)) 20) := by
  dsimp only [sX0_bestUnits, ltl5, ltv]
  rw [pu_has1 h9 hn hi, if_neg (by decide), pu_isOut h13 hm (by omega)]
  by_cases h : m.testBit i = true
  · rw [if_pos h, if_pos h, if_neg (by decide)]
  rw [if_neg h, if_neg h, if_pos rfl, pu_ahead h9 h10 (by omega) hn ht (by omega) hz]
  generalize hg : pu_gn (C 0 0) (pu_ah (C 2) n t (pu_pl n t i)) (C 1 i) = g
  have g0 : g 0 = 0 := by rw [← hg]; exact pu_gn0 _ _ _
  refine pw5 (P := fun v => v = _) (fun k i1 x2 x3 x4 i5 => i5 = k + 1 ∧ i1 = i ∧ x2 = pu_ah (C 2) n t (pu_pl n t i) ∧ x3 = nI (pu_bst g k) ∧ x4 = g (nI (pu_bst g k))) 20 ?_ ?_ 22 0 _ _ 0 0 1 (by decide) (by decide) ⟨rfl, rfl, rfl, rfl, g0.symm⟩
  · rintro R k i1 x2 x3 x4 i5 hk ⟨rfl, rfl, rfl, rfl, rfl⟩ hR
    refine (if_neg (pu_20n (by omega))).trans ?_
    rw [pu_gain hd, hg]
    by_cases h : g (nI (k + 1)) ≤ g (nI (pu_bst g k))
    · rw [if_pos h]
      refine hR _ _ _ _ _ ⟨rfl, rfl, rfl, ?_, ?_⟩ <;> (show _ = _; simp only [pu_bst]; rw [if_pos h])
    · rw [if_neg h]
      refine hR _ _ _ _ _ ⟨rfl, rfl, rfl, ?_, ?_⟩ <;> (show _ = _; simp only [pu_bst]; rw [if_neg h])
  · rintro R i1 x2 x3 x4 i5 ⟨rfl, rfl, rfl, rfl, rfl⟩
    exact if_pos (by decide)
theorem pu_bestR {M : Cst} {n t i : Nat} (h5 : M 0 5 = nI n) (h6 : M 0 6 = nI t) (hn : n ≤ 8) (ht : t ≤ 1000) (hi : i < n) : sX5_best M i = if M 0 (13 + 8 * i + 6) = 0 then nI (pu_bst (pu_gn (M 0 0) (pu_ah (fun k => M 0 (13 + 8 * k + 1)) n t (pu_pl n t i)) (M 0 (13 + 8 * i + 0))) 20) else 0 := by
  dsimp only [sX5_best, ltl3, ltv, sX5_of]
  by_cases h : M 0 (13 + 8 * i + 6) = 0
  · rw [if_pos h]
    generalize hg : pu_gn (M 0 0) (pu_ah (fun k => M 0 (13 + 8 * k + 1)) n t (pu_pl n t i)) (M 0 (13 + 8 * i + 0)) = g
    refine pw3 (P := fun v => v = _) (fun k i1 x2 i3 => i3 = k + 1 ∧ i1 = i ∧ x2 = nI (pu_bst g k)) 20 ?_ ?_ 22 0 _ 0 1 (by decide) (by decide) ⟨rfl, rfl, rfl⟩
    · rintro R k i1 x2 i3 hk ⟨rfl, rfl, rfl⟩ hR
      refine (if_neg (pu_20n (by omega))).trans ?_
      rw [if_neg (fun hh => hh h), pu_gainR h5 h6 hn ht hi, pu_gainR h5 h6 hn ht hi, hg]
      by_cases h : g (nI (k + 1)) ≤ g (nI (pu_bst g k))
      · rw [if_pos h]
        refine hR _ _ _ ⟨rfl, rfl, ?_⟩; (show _ = _; simp only [pu_bst]; rw [if_pos h])
      · rw [if_neg h]
        refine hR _ _ _ ⟨rfl, rfl, ?_⟩; (show _ = _; simp only [pu_bst]; rw [if_neg h])
    · rintro R i1 x2 i3 ⟨rfl, rfl, rfl⟩
      exact if_pos (by decide)
  · rw [if_neg h]
    rw [show (22 : Nat) = 21 + 1 from rfl, zp3_s, if_neg (by decide), if_pos h]
