/-! the looks of what would be, and of what there is -/
theorem pu_out0 {t h m g : Nat} {C : Cst} {r : Nat → Int32} (hR : RC 0 t h m g C r) : (sX0_endSeason C).2 13 0 = 0 := by
  obtain ⟨⟨hn, ht, hh, hm⟩, ⟨h9, r5, h10, r6, h11, r7, h12, r8, h13, r9, r10, r11⟩, ⟨hs1, hs2⟩, hrr, hd, hz, hk1, hk2⟩ := hR
  obtain ⟨d, d0, d200, ed, e1d⟩ := pu_k0 hs2
  obtain ⟨l, hl, el⟩ := pu_kn (b := 100) (B := 100) rfl (hs2 1 (by decide)) (by decide) rfl
  obtain ⟨gr, hgr, egr⟩ := pu_kn (b := 50) (B := 50) rfl (hs2 2 (by decide)) (by decide) rfl
  obtain ⟨u, hu, eu⟩ := pu_sm_bd (f := C 2) (b := 20) (n := 8) (fun i hi => (hd i hi).2.1)
  have hD : pu_dm (C 0 0) (nI u) = nI (u * u / d) := by rw [ed]; exact pu_dmN d0 d200 (by omega)
  have h03 : (0 : Int32) ≤ C 0 3 := (hs2 3 (by decide)).1
  refine pu_endC (P := fun a => a.2 13 0 = 0) (n := 0) h9 h10 h11 h13 e1d hn ht hh (pu_m8 hn hm) eu hD (pu_dmB (by omega)) egr hgr el hl (fun i hi => absurd hi (Nat.not_lt_zero i)) rfl rfl rfl (fun C' cs c10 c11 c13 c14 c15 cr c8 => ?_)
  show C' 13 0 = 0
  rw [c13]
  have : pu_db (fun i => decide (C 0 3 < pu_nd C 0 t i)) (pu_ex (fun i => C 6 i + C 2 i) m 0 (pu_tn l (min 100 (h - u * u / d + gr)) 0)) 8 < 2 ^ 0 := by
    refine Nat.lt_pow_two_of_testBit _ (fun i _ => ?_)
    rw [pu_db_bit, pu_ex_hi (Nat.zero_le i), Bool.false_or]
    by_cases c : i < 8
    · have : ¬ C 0 3 < pu_nd C 0 t i := by
        unfold pu_nd; rw [if_neg (by omega), (hz i (Nat.zero_le i) c).2.2.1]; exact Int32.not_lt.mpr h03
      rw [decide_eq_false this, Bool.and_false]
    · rw [decide_eq_false c, Bool.false_and]
  rw [Nat.pow_zero] at this
  rw [Nat.lt_one_iff.mp this]; rfl
theorem pu_outSetRC {n t h m g : Nat} {C M : Cst} (hR : RC n t h m g C (M 0)) : sX5_outSet M = nI m :=
  pu_outSet hR.1.1 hR.2.1.2.1 hR.1.2.2.2 (fun i hi => (hR.2.2.2.1 i hi).2.2.2.2.2.2.1)
theorem pu_would {n t h m g : Nat} {M : Cst} {S : Xst} (h999 : t ≤ 999) (hR : RC n t h m g (S 0) (M 0)) : CALQ S M (sX4_wouldExclude S) (sX5_wouldExclude M) := by
  have hn : n ≤ 8 := hR.1.1
  have cls : sX4_wouldExclude S = ((sX0_endSeason (S 0)).2 13 0, upx (upx S 1 (S 0)) 1 (sX0_endSeason (S 0)).2) := rfl
  have hx : ∀ j, j ≠ 1 → upx (upx S 1 (S 0)) 1 (sX0_endSeason (S 0)).2 j = S j := fun j hj => by rw [pu_upxn _ _ hj, pu_upxn _ _ hj]
  rw [cls]
  generalize upx (upx S 1 (S 0)) 1 (sX0_endSeason (S 0)).2 = X at hx
  unfold sX5_wouldExclude
  rcases Nat.eq_zero_or_pos n with h0 | h0
  · subst h0
    refine p_ite (Q9 := CALQ S M _) (fun c => absurd hR.2.1.2.1 c) (fun _ => CALQ_mk ⟨pu_out0 hR, hx⟩ ⟨fun _ _ _ _ => rfl, fun _ _ => rfl⟩)
  · refine p_ite (Q9 := CALQ S M _) (fun _ => p_ltv (fun N eN => p_bnd (fun r M2 e => p_ltv (fun s es => p_ltv (fun M3 eM3 => ?_))))) (fun c => absurd (show ¬ M 0 5 = 0 by rw [hR.2.1.2.1]; exact nI_ne0 h0 (by omega)) c)
    have cp := pu_cp_0_2 M
    rw [← eN] at cp
    obtain ⟨e1, e2, ⟨h2, m', hRC⟩, e4⟩ := pu_ENDrel (C := S 0) (M := N) h0 h999 (by rw [cp.1 0 (by decide)]; exact hR)
    rw [e] at e1 hRC e4
    rw [es, pu_outSetRC hRC, eM3]
    refine CALQ_mk ⟨hRC.2.1.2.2.2.2.2.2.2.2.1, hx⟩ (pu_back (fun i hi => ?_) (fun j z0 z2 z7 => ?_))
    · exact (congrFun (e4 2 (by decide) (by decide)) i).trans (cp.2 i hi)
    · exact (e4 j z0 z7).trans (cp.1 j z2)
theorem pu_gainE {n t h m g : Nat} {C M : Cst} (x y : Int32) (hR : RC n t h m g C (M 0)) : sX0_liftedGain C x y = sX5_gain M x y := by
  obtain ⟨⟨hn, ht, hh, hm⟩, ⟨h9, r5, h10, r6, h11, r7, h12, r8, h13, r9, r10, r11⟩, ⟨hs1, hs2⟩, hrr, hd, hz, hk1, hk2⟩ := hR
  obtain ⟨d, d0, d200, ed, e1d⟩ := pu_k0 hs2
  dsimp only [sX0_liftedGain, sX5_gain, ltv]
  rw [pu_units]
  rcases pu_has_mem h9 r5 hn x with ⟨e1, e2, _⟩ | ⟨i, hi, rfl, e1, e2⟩
  · rw [e1, e2, if_pos rfl, if_pos rfl]
  rw [e1, e2, if_neg pu_10, if_neg pu_10]
  rcases pu_inN (x := y) (b := 20) (B := 20) rfl with e3 | ⟨e3, a, ha, rfl⟩
  · rw [e3, if_neg pu_00, if_neg pu_00]
  rw [e3, if_pos pu_10, if_pos pu_10, nI_clamp (by omega), pu_isOut h13 (pu_m8 hn hm) (by omega)]
  have e6 : sX5_of M i 6 = if m.testBit i then 1 else 0 := (hrr i hi).2.2.2.2.2.2.1
  have eg : sX0_gainBehind C (sX0_unitsAhead C (nI i)) (C 1 i) (nI a) = sX5_gainFor M i (nI a) := by
    rw [pu_gain e1d, pu_ahead h9 h10 (by omega) hn ht (by omega) (fun k h1 h2 => (hz k h1 h2).2.1), pu_gainR r5 r6 hn ht hi, (hrr i hi).1, hs1 0 (by decide), pu_ah_congr (fun k hk => (hrr k hk).2.1)]
  rw [e6, eg]
  by_cases ho : m.testBit i = true
  · rw [if_pos ho, if_neg pu_10, if_neg (show ¬ ¬ (1 : Int32) = 1 from fun q => q rfl)]
    rcases Nat.eq_zero_or_pos a with ha0 | ha0
    · subst ha0; rw [if_pos (show nI 0 = (0 : Int32) from rfl), if_pos (show nI 0 ≤ (0 : Int32) from by decide)]
    · rw [if_neg (nI_ne0 ha0 (by omega)), if_neg (nI_nle ha0 (by omega))]
  · rw [if_neg ho, if_pos rfl, if_pos (show ¬ (0 : Int32) = 1 by decide)]
theorem pu_repE {n t h m g : Nat} {C M : Cst} (hR : RC n t h m g C (M 0)) : sX0_pointsFromFund C = sX5_canRepair M := by
  obtain ⟨⟨hn, ht, hh, hm⟩, ⟨h9, r5, h10, r6, h11, r7, h12, r8, h13, r9, r10, r11⟩, ⟨hs1, hs2⟩, hrr, hd, hz, hk1, hk2⟩ := hR
  dsimp only [sX0_pointsFromFund, sX5_canRepair, ltv]
  rw [pu_quot (show (1 : Int32) ≤ C 0 4 from (hs2 4 (by decide)).1), h12, r8, hs1 4 (by decide), h11, r7]
  generalize nI g / C 0 4 = q
  generalize (100 : Int32) - nI h = e
  by_cases c : q < e
  · rw [if_pos c, if_pos (Int32.le_of_lt c)]
  · rw [if_neg c]
    by_cases c2 : q ≤ e
    · rw [if_pos c2]; exact Int32.le_antisymm (Int32.not_lt.mp c) c2
    · rw [if_neg c2]
theorem pu_seasE {n t h m g : Nat} {C M : Cst} (x y : Int32) (hR : RC n t h m g C (M 0)) : sX0_numberOfSeason C x y = sX5_seasonOf M x y := by
  obtain ⟨⟨hn, ht, hh, hm⟩, ⟨h9, r5, h10, r6, h11, r7, h12, r8, h13, r9, r10, r11⟩, ⟨hs1, hs2⟩, hrr, hd, hz, hk1, hk2⟩ := hR
  dsimp only [sX0_numberOfSeason, sX5_seasonOf, ltv]
  by_cases hx : x < 0
  · rw [if_pos hx, if_pos hx]
  rw [if_neg hx, if_neg hx, pu_in]
  by_cases hy : y < 0
  · rw [if_pos hy, if_pos (Or.inl hy), if_neg pu_00]
  rw [if_neg hy]
  obtain ⟨i, hi, rfl⟩ := nI_of hx
  obtain ⟨w, hw, rfl⟩ := nI_of hy
  by_cases hw5 : w < 5
  · rw [if_pos (show nI w < (5 : Int32) from nI_lt (b := 5) hw5 (by decide)), if_neg (show ¬ (nI w < 0 ∨ (4 : Int32) < nI w) from fun q => q.elim hy (fun q => nI_nlt (a := 4) (by omega) (by decide) q)), if_pos pu_10, h10, hk1]
    by_cases ht' : i < t
    · rw [if_neg (nI_ge ht' (by omega))]
      by_cases h6 : i < 6
      · rw [if_pos (show nI i < (6 : Int32) from nI_lt (b := 6) h6 (by decide)), if_pos (nI_lt (show i < min t 6 by omega) (by omega)), nI_clamp hi, nI_clamp hw, hk2 i w (by omega) hw5]
        have e1 : nI t - 1 - nI i = nI (t - 1 - i) := by rw [show (1 : Int32) = nI 1 from rfl, nI_sub (by omega), nI_sub (by omega)]
        have tm := Nat.mod_lt (t - 1 - i) (show 0 < 6 by decide)
        rw [e1, show (6 : Int32) = nI 6 from rfl, pu_mod (by omega) (by decide), show (5 : Int32) = nI 5 from rfl, nI_mul, nI_add, nI_clamp (by omega)]
      · rw [if_neg (show ¬ nI i < (6 : Int32) from nI_nlt (b := 6) (by omega) hi), if_neg (nI_nlt (show min t 6 ≤ i by omega) hi)]
    · rw [if_pos (nI_le (by omega) hi), if_neg (nI_nlt (show min t 6 ≤ i by omega) hi)]
  · rw [if_neg (show ¬ nI w < (5 : Int32) from nI_nlt (b := 5) (by omega) hw), if_pos (show nI w < 0 ∨ (4 : Int32) < nI w from Or.inr (nI_lt (a := 4) (by omega) hw)), if_neg pu_00]
theorem pu_memE {n t h m g : Nat} {C M : Cst} (x y : Int32) (hR : RC n t h m g C (M 0)) : sX0_numberOfMember C x y = sX5_memberOf M x y := by
  obtain ⟨⟨hn, ht, hh, hm⟩, ⟨h9, r5, h10, r6, h11, r7, h12, r8, h13, r9, r10, r11⟩, ⟨hs1, hs2⟩, hrr, hd, hz, hk1, hk2⟩ := hR
  obtain ⟨d, d0, d200, ed, e1d⟩ := pu_k0 hs2
  dsimp only [sX0_numberOfMember, sX5_memberOf, ltv]
  rcases pu_has_mem h9 r5 hn x with ⟨e1, e2, _⟩ | ⟨i, hi, rfl, e1, e2⟩
  · rw [e1, e2, if_neg pu_00, if_pos rfl]
  rw [e1, e2, if_pos pu_10, if_neg pu_10, nI_clamp (by omega)]
  rcases pu_inN (x := y) (b := 9) (B := 9) rfl with e3 | ⟨e3, a, ha, rfl⟩
  · rw [e3, if_neg pu_00]
    have ne : ∀ k, k ≤ 9 → ¬ y = nI k := by
      intro k hk q
      rw [q, pu_in, if_neg (fun z => z.elim (nI_pos (by omega)) (fun z => nI_nlt (a := 9) hk (by decide) z))] at e3
      exact pu_10 e3
    rw [if_neg (show ¬ y = 0 from ne 0 (by decide)), if_neg (show ¬ y = 1 from ne 1 (by decide)), if_neg (show ¬ y = 2 from ne 2 (by decide)), if_neg (show ¬ y = 3 from ne 3 (by decide)), if_neg (show ¬ y = 4 from ne 4 (by decide)), if_neg (show ¬ y = 5 from ne 5 (by decide)), if_neg (show ¬ y = 6 from ne 6 (by decide)), if_neg (show ¬ y = 7 from ne 7 (by decide)), if_neg (show ¬ y = 8 from ne 8 (by decide)), if_neg (show ¬ y = 9 from ne 9 (by decide))]
  rw [e3, if_pos pu_10, nI_clamp (by omega)]
  obtain ⟨q0, q1, q2, q3, q4, q5, q6, q7⟩ := hrr i hi
  have hc : a = 0 ∨ a = 1 ∨ a = 2 ∨ a = 3 ∨ a = 4 ∨ a = 5 ∨ a = 6 ∨ a = 7 ∨ a = 8 ∨ a = 9 := by omega
  rcases hc with rfl | rfl | rfl | rfl | rfl | rfl | rfl | rfl | rfl | rfl
  · rw [if_pos (show nI 0 = 0 by decide), if_neg (show ¬ (2 : Int32) ≤ nI 0 by decide)]; exact q0.symm
  · rw [if_neg (show ¬ nI 1 = 0 by decide), if_pos (show nI 1 = 1 by decide), if_neg (show ¬ (2 : Int32) ≤ nI 1 by decide)]; exact q1.symm
  · rw [if_neg (show ¬ nI 2 = 0 by decide), if_neg (show ¬ nI 2 = 1 by decide), if_pos (show nI 2 = 2 by decide), if_pos (show (2 : Int32) ≤ nI 2 by decide), if_neg (show ¬ ¬ nI 2 = 2 by decide), pu_chargeOf h9 h10 e1d hn ht hi (fun k h1 h2 => (hz k h1 h2).2.1), show sX5_of M i 1 = C 2 i from q1, pu_chargeR r5 r6 hn ht hi, hs1 0 (by decide), pu_ah_congr (fun k hk => (hrr k hk).2.1)]
  · rw [if_neg (show ¬ nI 3 = 0 by decide), if_neg (show ¬ nI 3 = 1 by decide), if_neg (show ¬ nI 3 = 2 by decide), if_pos (show nI 3 = 3 by decide), if_pos (show (2 : Int32) ≤ nI 3 by decide), if_pos (show ¬ nI 3 = 2 by decide), if_neg (show ¬ (9 : Int32) ≤ nI 3 by decide)]; exact q2.symm
  · rw [if_neg (show ¬ nI 4 = 0 by decide), if_neg (show ¬ nI 4 = 1 by decide), if_neg (show ¬ nI 4 = 2 by decide), if_neg (show ¬ nI 4 = 3 by decide), if_pos (show nI 4 = 4 by decide), if_pos (show (2 : Int32) ≤ nI 4 by decide), if_pos (show ¬ nI 4 = 2 by decide), if_neg (show ¬ (9 : Int32) ≤ nI 4 by decide)]; exact q3.symm
  · rw [if_neg (show ¬ nI 5 = 0 by decide), if_neg (show ¬ nI 5 = 1 by decide), if_neg (show ¬ nI 5 = 2 by decide), if_neg (show ¬ nI 5 = 3 by decide), if_neg (show ¬ nI 5 = 4 by decide), if_pos (show nI 5 = 5 by decide), if_pos (show (2 : Int32) ≤ nI 5 by decide), if_pos (show ¬ nI 5 = 2 by decide), if_neg (show ¬ (9 : Int32) ≤ nI 5 by decide)]; exact q4.symm
  · rw [if_neg (show ¬ nI 6 = 0 by decide), if_neg (show ¬ nI 6 = 1 by decide), if_neg (show ¬ nI 6 = 2 by decide), if_neg (show ¬ nI 6 = 3 by decide), if_neg (show ¬ nI 6 = 4 by decide), if_neg (show ¬ nI 6 = 5 by decide), if_pos (show nI 6 = 6 by decide), if_pos (show (2 : Int32) ≤ nI 6 by decide), if_pos (show ¬ nI 6 = 2 by decide), if_neg (show ¬ (9 : Int32) ≤ nI 6 by decide)]; exact q5.symm
  · rw [if_neg (show ¬ nI 7 = 0 by decide), if_neg (show ¬ nI 7 = 1 by decide), if_neg (show ¬ nI 7 = 2 by decide), if_neg (show ¬ nI 7 = 3 by decide), if_neg (show ¬ nI 7 = 4 by decide), if_neg (show ¬ nI 7 = 5 by decide), if_neg (show ¬ nI 7 = 6 by decide), if_pos (show nI 7 = 7 by decide), if_pos (show (2 : Int32) ≤ nI 7 by decide), if_pos (show ¬ nI 7 = 2 by decide), if_neg (show ¬ (9 : Int32) ≤ nI 7 by decide), pu_isOut h13 (pu_m8 hn hm) (by omega), show sX5_of M i (7 - 1) = _ from q6]
    by_cases c : m.testBit i = true
    · rw [if_pos c, if_neg pu_10]
    · rw [if_neg c, if_pos rfl]
  · rw [if_neg (show ¬ nI 8 = 0 by decide), if_neg (show ¬ nI 8 = 1 by decide), if_neg (show ¬ nI 8 = 2 by decide), if_neg (show ¬ nI 8 = 3 by decide), if_neg (show ¬ nI 8 = 4 by decide), if_neg (show ¬ nI 8 = 5 by decide), if_neg (show ¬ nI 8 = 6 by decide), if_neg (show ¬ nI 8 = 7 by decide), if_pos (show nI 8 = 8 by decide), if_pos (show (2 : Int32) ≤ nI 8 by decide), if_pos (show ¬ nI 8 = 2 by decide), if_neg (show ¬ (9 : Int32) ≤ nI 8 by decide)]; exact q7.symm
  · rw [if_neg (show ¬ nI 9 = 0 by decide), if_neg (show ¬ nI 9 = 1 by decide), if_neg (show ¬ nI 9 = 2 by decide), if_neg (show ¬ nI 9 = 3 by decide), if_neg (show ¬ nI 9 = 4 by decide), if_neg (show ¬ nI 9 = 5 by decide), if_neg (show ¬ nI 9 = 6 by decide), if_neg (show ¬ nI 9 = 7 by decide), if_neg (show ¬ nI 9 = 8 by decide), if_pos (show nI 9 = 9 by decide), if_pos (show (2 : Int32) ≤ nI 9 by decide), if_pos (show ¬ nI 9 = 2 by decide), if_pos (show (9 : Int32) ≤ nI 9 by decide), pu_place h9 h10 (by omega) hn ht (by omega), pu_placeR r5 r6 hn ht hi]
theorem PEQ_rfl {α : Type} (a : α) : PEQ a a := rfl
theorem pu_nA0 (C : Cst) : PEQ (C 9 0) (sX0_numberOfAll C 0) := by
  unfold sX0_numberOfAll
  exact p_ite (fun _ => PEQ_rfl _) (fun c => absurd rfl c)
theorem pu_cR0 (M : Cst) : PEQ (M 0 ((5 : Int32) + 0).toNatClampNeg) (sX5_count M 0) := by
  unfold sX5_count
  exact p_ite (fun _ => PEQ_rfl _) (fun c => absurd rfl c)
theorem pu_nA1 (C : Cst) : PEQ (C 10 0) (sX0_numberOfAll C 1) := by
  unfold sX0_numberOfAll
  exact p_ite (fun c => absurd c (by decide)) (fun _ => p_ite (fun _ => PEQ_rfl _) (fun c => absurd rfl c))
theorem pu_cR1 (M : Cst) : PEQ (M 0 ((5 : Int32) + 1).toNatClampNeg) (sX5_count M 1) := by
  unfold sX5_count
  exact p_ite (fun c => absurd c (by decide)) (fun _ => p_ite (fun _ => PEQ_rfl _) (fun c => absurd rfl c))
theorem pu_nA2 (C : Cst) : PEQ (C 11 0) (sX0_numberOfAll C 2) := by
  unfold sX0_numberOfAll
  exact p_ite (fun c => absurd c (by decide)) (fun _ => p_ite (fun c => absurd c (by decide)) (fun _ => p_ite (fun _ => PEQ_rfl _) (fun c => absurd rfl c)))
theorem pu_cR2 (M : Cst) : PEQ (M 0 ((5 : Int32) + 2).toNatClampNeg) (sX5_count M 2) := by
  unfold sX5_count
  exact p_ite (fun c => absurd c (by decide)) (fun _ => p_ite (fun c => absurd c (by decide)) (fun _ => p_ite (fun _ => PEQ_rfl _) (fun c => absurd rfl c)))
theorem pu_nA3 (C : Cst) : PEQ (sX0_allUnits C) (sX0_numberOfAll C 3) := by
  unfold sX0_numberOfAll
  exact p_ite (fun c => absurd c (by decide)) (fun _ => p_ite (fun c => absurd c (by decide)) (fun _ => p_ite (fun c => absurd c (by decide)) (fun _ => p_ite (fun _ => p_ltv (fun r er => er)) (fun c => absurd rfl c))))
theorem pu_cR3 (M : Cst) : PEQ (sX5_sum M 1) (sX5_count M 3) := by
  unfold sX5_count
  exact p_ite (fun c => absurd c (by decide)) (fun _ => p_ite (fun c => absurd c (by decide)) (fun _ => p_ite (fun c => absurd c (by decide)) (fun _ => p_ite (fun _ => p_ltv (fun r er => er)) (fun c => absurd rfl c))))
theorem pu_nA4 (C : Cst) : PEQ (sX0_damageOf C (sX0_allUnits C)) (sX0_numberOfAll C 4) := by
  unfold sX0_numberOfAll
  exact p_ite (fun c => absurd c (by decide)) (fun _ => p_ite (fun c => absurd c (by decide)) (fun _ => p_ite (fun c => absurd c (by decide)) (fun _ => p_ite (fun c => absurd c (by decide)) (fun _ => p_ite (fun _ => p_ltv (fun r er => p_ltv (fun r2 er2 => by rw [er2, er]; exact rfl))) (fun c => absurd rfl c)))))
theorem pu_cR4 (M : Cst) : PEQ (sX5_damage M (sX5_sum M 1)) (sX5_count M 4) := by
  unfold sX5_count
  exact p_ite (fun c => absurd c (by decide)) (fun _ => p_ite (fun c => absurd c (by decide)) (fun _ => p_ite (fun c => absurd c (by decide)) (fun _ => p_ite (fun c => absurd c (by decide)) (fun _ => p_ite (fun _ => p_ltv (fun r er => p_ltv (fun r2 er2 => by rw [er2, er]; exact rfl))) (fun c => absurd rfl c)))))
theorem pu_nA5 (C : Cst) : PEQ (C 12 0) (sX0_numberOfAll C 5) := by
  unfold sX0_numberOfAll
  exact p_ite (fun c => absurd c (by decide)) (fun _ => p_ite (fun c => absurd c (by decide)) (fun _ => p_ite (fun c => absurd c (by decide)) (fun _ => p_ite (fun c => absurd c (by decide)) (fun _ => p_ite (fun c => absurd c (by decide)) (fun _ => p_ite (fun _ => PEQ_rfl _) (fun c => absurd rfl c))))))
theorem pu_cR5 (M : Cst) : PEQ (M 0 8) (sX5_count M 5) := by
  unfold sX5_count
  exact p_ite (fun c => absurd c (by decide)) (fun _ => p_ite (fun c => absurd c (by decide)) (fun _ => p_ite (fun c => absurd c (by decide)) (fun _ => p_ite (fun c => absurd c (by decide)) (fun _ => p_ite (fun c => absurd c (by decide)) (fun _ => p_ite (fun _ => PEQ_rfl _) (fun c => absurd rfl c))))))
theorem pu_nA6 (C : Cst) : PEQ (sX4_sumOf_3 C) (sX0_numberOfAll C 6) := by
  unfold sX0_numberOfAll
  exact p_ite (fun c => absurd c (by decide)) (fun _ => p_ite (fun c => absurd c (by decide)) (fun _ => p_ite (fun c => absurd c (by decide)) (fun _ => p_ite (fun c => absurd c (by decide)) (fun _ => p_ite (fun c => absurd c (by decide)) (fun _ => p_ite (fun c => absurd c (by decide)) (fun _ => p_ite (fun _ => p_ltv (fun r er => er)) (fun c => absurd rfl c)))))))
theorem pu_cR6 (M : Cst) : PEQ (sX5_sum M 2) (sX5_count M 6) := by
  unfold sX5_count
  exact p_ite (fun c => absurd c (by decide)) (fun _ => p_ite (fun c => absurd c (by decide)) (fun _ => p_ite (fun c => absurd c (by decide)) (fun _ => p_ite (fun c => absurd c (by decide)) (fun _ => p_ite (fun c => absurd c (by decide)) (fun _ => p_ite (fun c => absurd c (by decide)) (fun _ => p_ite (fun _ => p_ltv (fun r er => er)) (fun c => absurd rfl c)))))))
theorem pu_nA7 (C : Cst) : PEQ (C 13 0) (sX0_numberOfAll C 7) := by
  unfold sX0_numberOfAll
  exact p_ite (fun c => absurd c (by decide)) (fun _ => p_ite (fun c => absurd c (by decide)) (fun _ => p_ite (fun c => absurd c (by decide)) (fun _ => p_ite (fun c => absurd c (by decide)) (fun _ => p_ite (fun c => absurd c (by decide)) (fun _ => p_ite (fun c => absurd c (by decide)) (fun _ => p_ite (fun c => absurd c (by decide)) (fun _ => p_ite (fun _ => PEQ_rfl _) (fun c => absurd rfl c))))))))
theorem pu_cR7 (M : Cst) : PEQ (sX5_outSet M) (sX5_count M 7) := by
  unfold sX5_count
  exact p_ite (fun c => absurd c (by decide)) (fun _ => p_ite (fun c => absurd c (by decide)) (fun _ => p_ite (fun c => absurd c (by decide)) (fun _ => p_ite (fun c => absurd c (by decide)) (fun _ => p_ite (fun c => absurd c (by decide)) (fun _ => p_ite (fun c => absurd c (by decide)) (fun _ => p_ite (fun c => absurd c (by decide)) (fun _ => p_ite (fun _ => p_ltv (fun r er => er)) (fun c => absurd rfl c))))))))
theorem pu_nA8 (C : Cst) : PEQ (C 14 0) (sX0_numberOfAll C 8) := by
  unfold sX0_numberOfAll
  exact p_ite (fun c => absurd c (by decide)) (fun _ => p_ite (fun c => absurd c (by decide)) (fun _ => p_ite (fun c => absurd c (by decide)) (fun _ => p_ite (fun c => absurd c (by decide)) (fun _ => p_ite (fun c => absurd c (by decide)) (fun _ => p_ite (fun c => absurd c (by decide)) (fun _ => p_ite (fun c => absurd c (by decide)) (fun _ => p_ite (fun c => absurd c (by decide)) (fun _ => p_ite (fun _ => PEQ_rfl _) (fun c => absurd rfl c)))))))))
theorem pu_cR8 (M : Cst) : PEQ (M 0 ((9 : Int32) + 8 - 8).toNatClampNeg) (sX5_count M 8) := by
  unfold sX5_count
  exact p_ite (fun c => absurd c (by decide)) (fun _ => p_ite (fun c => absurd c (by decide)) (fun _ => p_ite (fun c => absurd c (by decide)) (fun _ => p_ite (fun c => absurd c (by decide)) (fun _ => p_ite (fun c => absurd c (by decide)) (fun _ => p_ite (fun c => absurd c (by decide)) (fun _ => p_ite (fun c => absurd c (by decide)) (fun _ => p_ite (fun c => absurd c (by decide)) (fun _ => p_ite (fun _ => PEQ_rfl _) (fun c => absurd rfl c)))))))))
theorem pu_nA9 (C : Cst) : PEQ (C 15 0) (sX0_numberOfAll C 9) := by
  unfold sX0_numberOfAll
  exact p_ite (fun c => absurd c (by decide)) (fun _ => p_ite (fun c => absurd c (by decide)) (fun _ => p_ite (fun c => absurd c (by decide)) (fun _ => p_ite (fun c => absurd c (by decide)) (fun _ => p_ite (fun c => absurd c (by decide)) (fun _ => p_ite (fun c => absurd c (by decide)) (fun _ => p_ite (fun c => absurd c (by decide)) (fun _ => p_ite (fun c => absurd c (by decide)) (fun _ => p_ite (fun c => absurd c (by decide)) (fun _ => p_ite (fun _ => PEQ_rfl _) (fun c => absurd rfl c))))))))))
theorem pu_cR9 (M : Cst) : PEQ (M 0 ((9 : Int32) + 9 - 8).toNatClampNeg) (sX5_count M 9) := by
  unfold sX5_count
  exact p_ite (fun c => absurd c (by decide)) (fun _ => p_ite (fun c => absurd c (by decide)) (fun _ => p_ite (fun c => absurd c (by decide)) (fun _ => p_ite (fun c => absurd c (by decide)) (fun _ => p_ite (fun c => absurd c (by decide)) (fun _ => p_ite (fun c => absurd c (by decide)) (fun _ => p_ite (fun c => absurd c (by decide)) (fun _ => p_ite (fun c => absurd c (by decide)) (fun _ => p_ite (fun c => absurd c (by decide)) (fun _ => p_ite (fun _ => PEQ_rfl _) (fun c => absurd rfl c))))))))))
theorem pu_nA10 (C : Cst) : PEQ (C 16 0) (sX0_numberOfAll C 10) := by
  unfold sX0_numberOfAll
  exact p_ite (fun c => absurd c (by decide)) (fun _ => p_ite (fun c => absurd c (by decide)) (fun _ => p_ite (fun c => absurd c (by decide)) (fun _ => p_ite (fun c => absurd c (by decide)) (fun _ => p_ite (fun c => absurd c (by decide)) (fun _ => p_ite (fun c => absurd c (by decide)) (fun _ => p_ite (fun c => absurd c (by decide)) (fun _ => p_ite (fun c => absurd c (by decide)) (fun _ => p_ite (fun c => absurd c (by decide)) (fun _ => p_ite (fun c => absurd c (by decide)) (fun _ => p_ite (fun _ => PEQ_rfl _) (fun c => absurd rfl c)))))))))))
theorem pu_cR10 (M : Cst) : PEQ (M 0 ((9 : Int32) + 10 - 8).toNatClampNeg) (sX5_count M 10) := by
  unfold sX5_count
  exact p_ite (fun c => absurd c (by decide)) (fun _ => p_ite (fun c => absurd c (by decide)) (fun _ => p_ite (fun c => absurd c (by decide)) (fun _ => p_ite (fun c => absurd c (by decide)) (fun _ => p_ite (fun c => absurd c (by decide)) (fun _ => p_ite (fun c => absurd c (by decide)) (fun _ => p_ite (fun c => absurd c (by decide)) (fun _ => p_ite (fun c => absurd c (by decide)) (fun _ => p_ite (fun c => absurd c (by decide)) (fun _ => p_ite (fun c => absurd c (by decide)) (fun _ => p_ite (fun _ => PEQ_rfl _) (fun c => absurd rfl c)))))))))))
theorem pu_nAd (C : Cst) (x : Int32) (c0 : ¬ x = 0) (c1 : ¬ x = 1) (c2 : ¬ x = 2) (c3 : ¬ x = 3) (c4 : ¬ x = 4) (c5 : ¬ x = 5) (c6 : ¬ x = 6) (c7 : ¬ x = 7) (c8 : ¬ x = 8) (c9 : ¬ x = 9) (c10 : ¬ x = 10) : PEQ (if x < 20 then (-10001) else if 25 ≤ x then (-10001) else C 0 (x - 20).toNatClampNeg) (sX0_numberOfAll C x) := by
  unfold sX0_numberOfAll
  exact p_ite (fun c => absurd c c0) (fun _ => p_ite (fun c => absurd c c1) (fun _ => p_ite (fun c => absurd c c2) (fun _ => p_ite (fun c => absurd c c3) (fun _ => p_ite (fun c => absurd c c4) (fun _ => p_ite (fun c => absurd c c5) (fun _ => p_ite (fun c => absurd c c6) (fun _ => p_ite (fun c => absurd c c7) (fun _ => p_ite (fun c => absurd c c8) (fun _ => p_ite (fun c => absurd c c9) (fun _ => p_ite (fun c => absurd c c10) (fun _ => PEQ_rfl _)))))))))))
theorem pu_cRd (M : Cst) (x : Int32) (c0 : ¬ x = 0) (c1 : ¬ x = 1) (c2 : ¬ x = 2) (c3 : ¬ x = 3) (c4 : ¬ x = 4) (c5 : ¬ x = 5) (c6 : ¬ x = 6) (c7 : ¬ x = 7) (c8 : ¬ x = 8) (c9 : ¬ x = 9) (c10 : ¬ x = 10) (c11 : ¬ x = 11) (c12 : ¬ x = 12) : PEQ (if sX5_in x 20 24 = 0 then (-10001) else M 0 (x - 20).toNatClampNeg) (sX5_count M x) := by
  unfold sX5_count
  exact p_ite (fun c => absurd c c0) (fun _ => p_ite (fun c => absurd c c1) (fun _ => p_ite (fun c => absurd c c2) (fun _ => p_ite (fun c => absurd c c3) (fun _ => p_ite (fun c => absurd c c4) (fun _ => p_ite (fun c => absurd c c5) (fun _ => p_ite (fun c => absurd c c6) (fun _ => p_ite (fun c => absurd c c7) (fun _ => p_ite (fun c => absurd c c8) (fun _ => p_ite (fun c => absurd c c9) (fun _ => p_ite (fun c => absurd c c10) (fun _ => p_ite (fun c => absurd c c11) (fun _ => p_ite (fun c => absurd c c12) (fun _ => p_ltv (fun r er => by rw [er]; exact PEQ_rfl _))))))))))))))
theorem pu_cntE {n t h m g : Nat} {C M : Cst} (x : Int32) (n11 : ¬ x = 11) (n12 : ¬ x = 12) (hR : RC n t h m g C (M 0)) : sX0_numberOfAll C x = sX5_count M x := by
  have out := pu_outSetRC hR
  obtain ⟨⟨hn, ht, hh, hm⟩, ⟨h9, r5, h10, r6, h11, r7, h12, r8, h13, r9, r10, r11⟩, ⟨hs1, hs2⟩, hrr, hd, hz, hk1, hk2⟩ := hR
  obtain ⟨d, d0, d200, ed, e1d⟩ := pu_k0 hs2
  have eu : sX0_allUnits C = sX4_sumOf_2 C := rfl
  have su : sX4_sumOf_2 C = sX5_sum M 1 := by
    rw [pu_sum2, pu_sum5r hn r5, pu_sm_congr (f := fun i => M 0 (13 + 8 * i + 1)) (g := C 2) (fun i hi => (hrr i hi).2.1), pu_sm_zero hn (fun i h1 h2 => (hz i h1 h2).2.1)]
  have so : sX4_sumOf_3 C = sX5_sum M 2 := by
    rw [pu_sum3, pu_sum5r hn r5, pu_sm_congr (f := fun i => M 0 (13 + 8 * i + 2)) (g := C 3) (fun i hi => (hrr i hi).2.2.1), pu_sm_zero hn (fun i h1 h2 => (hz i h1 h2).2.2.1)]
  by_cases c0 : x = 0
  · subst c0
    have a : sX0_numberOfAll C 0 = _ := pu_nA0 C
    have b : sX5_count M 0 = _ := pu_cR0 M
    rw [a, b, show ((5 : Int32) + 0).toNatClampNeg = 5 by decide, h9, r5]
  by_cases c1 : x = 1
  · subst c1
    have a : sX0_numberOfAll C 1 = _ := pu_nA1 C
    have b : sX5_count M 1 = _ := pu_cR1 M
    rw [a, b, show ((5 : Int32) + 1).toNatClampNeg = 6 by decide, h10, r6]
  by_cases c2 : x = 2
  · subst c2
    have a : sX0_numberOfAll C 2 = _ := pu_nA2 C
    have b : sX5_count M 2 = _ := pu_cR2 M
    rw [a, b, show ((5 : Int32) + 2).toNatClampNeg = 7 by decide, h11, r7]
  by_cases c3 : x = 3
  · subst c3
    have a : sX0_numberOfAll C 3 = _ := pu_nA3 C
    have b : sX5_count M 3 = _ := pu_cR3 M
    rw [a, b, eu, su]
  by_cases c4 : x = 4
  · subst c4
    have a : sX0_numberOfAll C 4 = _ := pu_nA4 C
    have b : sX5_count M 4 = _ := pu_cR4 M
    rw [a, b, eu, su, pu_damage e1d, pu_damageR, hs1 0 (by decide)]
  by_cases c5 : x = 5
  · subst c5
    have a : sX0_numberOfAll C 5 = _ := pu_nA5 C
    have b : sX5_count M 5 = _ := pu_cR5 M
    rw [a, b, h12, r8]
  by_cases c6 : x = 6
  · subst c6
    have a : sX0_numberOfAll C 6 = _ := pu_nA6 C
    have b : sX5_count M 6 = _ := pu_cR6 M
    rw [a, b, so]
  by_cases c7 : x = 7
  · subst c7
    have a : sX0_numberOfAll C 7 = _ := pu_nA7 C
    have b : sX5_count M 7 = _ := pu_cR7 M
    rw [a, b, out, h13]
  by_cases c8 : x = 8
  · subst c8
    have a : sX0_numberOfAll C 8 = _ := pu_nA8 C
    have b : sX5_count M 8 = _ := pu_cR8 M
    rw [a, b, show ((9 : Int32) + 8 - 8).toNatClampNeg = 9 by decide, r9]
  by_cases c9 : x = 9
  · subst c9
    have a : sX0_numberOfAll C 9 = _ := pu_nA9 C
    have b : sX5_count M 9 = _ := pu_cR9 M
    rw [a, b, show ((9 : Int32) + 9 - 8).toNatClampNeg = 10 by decide, r10]
  by_cases c10 : x = 10
  · subst c10
    have a : sX0_numberOfAll C 10 = _ := pu_nA10 C
    have b : sX5_count M 10 = _ := pu_cR10 M
    rw [a, b, show ((9 : Int32) + 10 - 8).toNatClampNeg = 11 by decide, r11]
  have a : sX0_numberOfAll C x = _ := pu_nAd C x c0 c1 c2 c3 c4 c5 c6 c7 c8 c9 c10
  have b : sX5_count M x = _ := pu_cRd M x c0 c1 c2 c3 c4 c5 c6 c7 c8 c9 c10 n11 n12
  rw [a, b, pu_in]
  by_cases d1 : x < 20
  · rw [if_pos d1, if_pos (Or.inl d1), if_pos rfl]
  obtain ⟨i, hi, rfl⟩ := nI_of (x := x) (fun q => d1 (Int32.lt_of_lt_of_le q (by decide)))
  have h20 : 20 ≤ i := Nat.not_lt.mp (fun q => d1 (nI_lt (b := 20) q (by decide)))
  rw [if_neg d1]
  by_cases d2 : i < 25
  · rw [if_neg (show ¬ (25 : Int32) ≤ nI i from nI_ge (b := 25) d2 (by decide)), if_neg (show ¬ (nI i < 20 ∨ (24 : Int32) < nI i) from fun q => q.elim d1 (fun q => nI_nlt (a := 24) (by omega) (by decide) q)), if_neg pu_10, show (20 : Int32) = nI 20 from rfl, nI_sub h20, nI_clamp (by omega)]
    exact (hs1 _ (by omega)).symm
  · rw [if_pos (show (25 : Int32) ≤ nI i from nI_le (a := 25) (by omega) hi), if_pos (show nI i < 20 ∨ (24 : Int32) < nI i from Or.inr (nI_lt (a := 24) (by omega) hi)), if_pos rfl]
