theorem pu_sum2 (C : Cst) : sX4_sumOf_2 C = pu_sm (C 2) 8 := by
  dsimp only [sX4_sumOf_2, ltl2, ltv]
  refine pw2 (P := fun v => v = pu_sm (C 2) 8) (fun k x i => i = k ∧ x = pu_sm (C 2) k) 8 ?_ ?_ 9 0 0 0 (by decide) (by decide) ⟨rfl, rfl⟩
  · rintro R k x i hk ⟨rfl, rfl⟩ hR
    exact (if_neg (pu_8n hk)).trans (hR _ _ ⟨rfl, rfl⟩)
  · rintro R x i ⟨rfl, rfl⟩
    exact if_pos pu_8y
theorem pu_sum3 (C : Cst) : sX4_sumOf_3 C = pu_sm (C 3) 8 := by
  dsimp only [sX4_sumOf_3, ltl2, ltv]
  refine pw2 (P := fun v => v = pu_sm (C 3) 8) (fun k x i => i = k ∧ x = pu_sm (C 3) k) 8 ?_ ?_ 9 0 0 0 (by decide) (by decide) ⟨rfl, rfl⟩
  · rintro R k x i hk ⟨rfl, rfl⟩ hR
    exact (if_neg (pu_8n hk)).trans (hR _ _ ⟨rfl, rfl⟩)
  · rintro R x i ⟨rfl, rfl⟩
    exact if_pos pu_8y
theorem pu_sum5 (C : Cst) : sX4_sumOf_5 C = pu_sm (C 5) 8 := by
  dsimp only [sX4_sumOf_5, ltl2, ltv]
  refine pw2 (P := fun v => v = pu_sm (C 5) 8) (fun k x i => i = k ∧ x = pu_sm (C 5) k) 8 ?_ ?_ 9 0 0 0 (by decide) (by decide) ⟨rfl, rfl⟩
  · rintro R k x i hk ⟨rfl, rfl⟩ hR
    exact (if_neg (pu_8n hk)).trans (hR _ _ ⟨rfl, rfl⟩)
  · rintro R x i ⟨rfl, rfl⟩
    exact if_pos pu_8y
theorem pu_5n {n i : Nat} (h : i < n) (hn : n ≤ 8) : ¬ nI n ≤ nI i := nI_ge h (by omega)
theorem pu_sum5r {M : Cst} {n w : Nat} (hn : n ≤ 8) (h5 : M 0 5 = nI n) : sX5_sum M w = pu_sm (fun i => M 0 (13 + 8 * i + w)) n := by
  dsimp only [sX5_sum, ltl3, ltv]
  refine pw3 (P := fun v => v = pu_sm (fun i => M 0 (13 + 8 * i + w)) n) (fun k w' x i => w' = w ∧ i = k ∧ x = pu_sm (fun i => M 0 (13 + 8 * i + w)) k) n ?_ ?_ 9 0 w 0 0 (by omega) (by omega) ⟨rfl, rfl, rfl⟩
  · rintro R k w' x i hk ⟨rfl, rfl, rfl⟩ hR
    exact (if_neg (by rw [h5]; exact pu_5n hk hn)).trans (hR _ _ _ ⟨rfl, rfl, rfl⟩)
  · rintro R w' x i ⟨rfl, rfl, rfl⟩
    exact if_pos (by rw [h5]; exact nI_le (Nat.le_refl _) (by omega))
theorem pu_outSet {M : Cst} {n m : Nat} (hn : n ≤ 8) (h5 : M 0 5 = nI n) (hm : m < 2 ^ n) (hb : ∀ i, i < n → M 0 (13 + 8 * i + 6) = (if m.testBit i then 1 else 0)) : sX5_outSet M = nI m := by
  have hm8 : m < 256 := Nat.lt_of_lt_of_le hm (show 2 ^ n ≤ 2 ^ 8 from Nat.pow_le_pow_right (by decide) hn)
  dsimp only [sX5_outSet, ltl2, ltv]
  refine pw2 (P := fun v => v = nI m) (fun k x i => i = k ∧ x = nI (m % 2 ^ k)) n ?_ ?_ 9 0 0 0 (by omega) (by omega) ⟨rfl, by rw [Nat.pow_zero, Nat.mod_one]; rfl⟩
  · rintro R k x i hk ⟨rfl, rfl⟩ hR
    refine (if_neg (by rw [h5]; exact pu_5n hk hn)).trans (hR _ _ ⟨rfl, ?_⟩)
    show nI (m % 2 ^ i) ||| (M 0 (13 + 8 * i + 6)) <<< (nI i &&& 31) = _
    rw [hb i hk]; exact pu_acc m hm8 i (by omega)
  · rintro R x i ⟨rfl, rfl⟩
    refine (if_pos (by rw [h5]; exact nI_le (Nat.le_refl _) (by omega))).trans ?_
    rw [Nat.mod_eq_of_lt hm]
theorem pu_mod {a b : Nat} (ha : a < 2 ^ 31) (hb : b < 2 ^ 31) : nI a % nI b = nI (a % b) := by
  apply Int32.toInt_inj.mp
  have h1 : a % b < 2 ^ 31 := Nat.lt_of_le_of_lt (Nat.mod_le a b) ha
  rw [Int32.toInt_mod, nI_toInt ha, nI_toInt hb, nI_toInt h1, Int.tmod_eq_emod_of_nonneg (by omega)]
  rfl
def pu_pl (n t k : Nat) : Nat := if t % n ≤ k then k - t % n else k + n - t % n
theorem pu_pl_lt {n t k : Nat} (hn : 0 < n) (hk : k < n) : pu_pl n t k < n := by
  have := Nat.mod_lt t hn
  unfold pu_pl; split <;> omega
theorem pu_sba (i n a : Nat) (h : a ≤ i + n) : (nI i - nI a) + nI n = nI (i + n - a) := by
  have : (nI i - nI a) + nI n = (nI i + nI n) - nI a := by
    rw [Int32.sub_eq_add_neg, Int32.sub_eq_add_neg]; ac_rfl
  rw [this, nI_add, nI_sub h]
theorem pu_place {C : Cst} {n t i : Nat} (h9 : C 9 0 = nI n) (h10 : C 10 0 = nI t) (h0 : 0 < n) (hn : n ≤ 8) (ht : t ≤ 1000) (hi : i < 8) : sX0_placeOf C (nI i) = nI (pu_pl n t i) := by
  dsimp only [sX0_placeOf, ltv]
  have hm := Nat.mod_lt t h0
  rw [h9, h10, if_pos (show (1 : Int32) ≤ nI n from nI_le (a := 1) h0 (by omega)), pu_mod (by omega) (by omega)]
  unfold pu_pl
  by_cases h : t % n ≤ i
  · rw [if_neg (nI_nlt h (by omega)), if_pos h, nI_sub h]
  · rw [if_pos (nI_lt (Nat.not_le.mp h) (by omega)), if_neg h, pu_sba _ _ _ (by omega)]
theorem pu_placeR {M : Cst} {n t i : Nat} (h5 : M 0 5 = nI n) (h6 : M 0 6 = nI t) (hn : n ≤ 8) (ht : t ≤ 1000) (hi : i < n) : sX5_placeOf M (nI i) = nI (pu_pl n t i) := by
  dsimp only [sX5_placeOf]
  have hm := Nat.mod_lt t (show 0 < n by omega)
  rw [h5, h6, pu_mod (by omega) (by omega), pu_sba _ _ _ (by omega), pu_mod (by omega) (by omega)]
  unfold pu_pl
  by_cases h : t % n ≤ i
  · rw [if_pos h, show i + n - t % n = (i - t % n) + n by omega, Nat.add_mod_right, Nat.mod_eq_of_lt (by omega)]
  · rw [if_neg h, Nat.mod_eq_of_lt (by omega)]
/-- the units of those ahead of a place -/
def pu_ah (u : Nat → Int32) (n t p : Nat) : Int32 := pu_sm (fun k => if pu_pl n t k < p then u k else 0) n
theorem pu_ahead {C : Cst} {n t i : Nat} (h9 : C 9 0 = nI n) (h10 : C 10 0 = nI t) (h0 : 0 < n) (hn : n ≤ 8) (ht : t ≤ 1000) (hi : i < 8) (hz : ∀ k, n ≤ k → k < 8 → C 2 k = 0) : sX0_unitsAhead C (nI i) = pu_ah (C 2) n t (pu_pl n t i) := by
  have hp : ∀ k, k < 8 → pu_pl n t k < 2 ^ 31 := by
    intro k hk
    have := Nat.mod_lt t h0
    unfold pu_pl; split <;> omega
  have e : pu_ah (C 2) n t (pu_pl n t i) = pu_sm (fun k => if pu_pl n t k < pu_pl n t i then C 2 k else 0) 8 := by
    refine (pu_sm_zero hn (fun k h1 h2 => ?_)).symm
    rw [hz k h1 h2]; split <;> rfl
  rw [e]
  dsimp only [sX0_unitsAhead, ltl3, ltv]
  rw [pu_place h9 h10 h0 hn ht hi]
  refine pw3 (P := fun v => v = _) (fun k x2 x i' => i' = k ∧ x2 = nI (pu_pl n t i) ∧ x = pu_sm (fun k => if pu_pl n t k < pu_pl n t i then C 2 k else 0) k) 8 ?_ ?_ 9 0 _ 0 0 (by decide) (by decide) ⟨rfl, rfl, rfl⟩
  · rintro R k x2 x i' hk ⟨rfl, rfl, rfl⟩ hR
    refine (if_neg (pu_8n hk)).trans ?_
    rw [pu_place h9 h10 h0 hn ht hk]
    by_cases h : pu_pl n t i' < pu_pl n t i
    · rw [if_neg (nI_ge h (hp i hi))]
      refine hR _ _ _ ⟨rfl, rfl, ?_⟩
      show _ = _ + (if _ then _ else _)
      rw [if_pos h]
    · rw [if_pos (nI_le (Nat.not_lt.mp h) (hp i' hk))]
      refine hR _ _ _ ⟨rfl, rfl, ?_⟩
      show _ = _ + (if _ then _ else _)
      rw [if_neg h, Int32.add_zero]
  · rintro R x2 x i' ⟨rfl, rfl, rfl⟩
    exact if_pos pu_8y
theorem pu_aheadR {M : Cst} {n t i : Nat} (h5 : M 0 5 = nI n) (h6 : M 0 6 = nI t) (hn : n ≤ 8) (ht : t ≤ 1000) (hi : i < n) : sX5_ahead M (nI i) = pu_ah (fun k => M 0 (13 + 8 * k + 1)) n t (pu_pl n t i) := by
  have hp : ∀ k, k < n → pu_pl n t k < 2 ^ 31 := fun k hk => Nat.lt_of_lt_of_le (pu_pl_lt (by omega) hk) (by omega)
  dsimp only [sX5_ahead, ltl3, ltv]
  refine pw3 (P := fun v => v = _) (fun k x1 x i' => i' = k ∧ x1 = nI i ∧ x = pu_sm (fun k => if pu_pl n t k < pu_pl n t i then M 0 (13 + 8 * k + 1) else 0) k) n ?_ ?_ 9 0 _ 0 0 (by omega) (by omega) ⟨rfl, rfl, rfl⟩
  · rintro R k x1 x i' hk ⟨rfl, rfl, rfl⟩ hR
    refine (if_neg (by rw [h5]; exact pu_5n hk hn)).trans ?_
    rw [pu_placeR h5 h6 hn ht hk, pu_placeR h5 h6 hn ht hi]
    by_cases h : pu_pl n t i' < pu_pl n t i
    · rw [if_neg (nI_ge h (hp i hi))]
      refine hR _ _ _ ⟨rfl, rfl, ?_⟩
      show _ = _ + (if _ then _ else _)
      rw [if_pos h]; rfl
    · rw [if_pos (nI_le (Nat.not_lt.mp h) (hp i' hk))]
      refine hR _ _ _ ⟨rfl, rfl, ?_⟩
      show _ = _ + (if _ then _ else _)
      rw [if_neg h]
  · rintro R x1 x i' ⟨rfl, rfl, rfl⟩
    exact if_pos (by rw [h5]; exact nI_le (Nat.le_refl _) (by omega))
