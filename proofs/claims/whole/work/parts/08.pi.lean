/-! a season's end alike -/
def ENDQ (n t g : Nat) (M : Cst) (a b : Int32 × Cst) : Prop := a.1 = b.1 ∧ ¬ a.1 < 0 ∧ (∃ h2 m', RC n (t + 1) h2 m' g a.2 (b.2 0)) ∧ ∀ j, j ≠ 0 → j ≠ 7 → b.2 j = M j
theorem pu_cg_eq {C M : Cst} {n t i : Nat} (hi : i < n) (hd : M 0 0 = C 0 0) (h : ∀ k, k < n → M 0 (13 + 8 * k + 1) = C 2 k) : pu_cg (M 0 0) (fun k => M 0 (13 + 8 * k + 1)) n t i = pu_cg (C 0 0) (C 2) n t i := by
  unfold pu_cg
  rw [hd, pu_ah_congr h]; exact congrArg _ (h i hi)
theorem pu_ENDrel {n t h m g : Nat} {C M : Cst} (h0 : 0 < n) (h999 : t ≤ 999) (hR : RC n t h m g C (M 0)) : ENDQ n t g M (sX0_endSeason C) (sX5_ends M) := by
  obtain ⟨⟨hn, ht, hh, hm⟩, ⟨h9, r5, h10, r6, h11, r7, h12, r8, h13, r9, r10, r11⟩, ⟨hs1, hs2⟩, hrr, hd, hz, hk1, hk2⟩ := hR
  obtain ⟨d, d0, d200, ed, e1d⟩ := pu_k0 hs2
  obtain ⟨l, hl, el⟩ := pu_kn (b := 100) (B := 100) rfl (hs2 1 (by decide)) (by decide) rfl
  obtain ⟨gr, hgr, egr⟩ := pu_kn (b := 50) (B := 50) rfl (hs2 2 (by decide)) (by decide) rfl
  obtain ⟨u, hu, eu⟩ := pu_sm_bd (f := C 2) (b := 20) (n := 8) (fun i hi => (hd i hi).2.1)
  have hD : pu_dm (C 0 0) (nI u) = nI (u * u / d) := by rw [ed]; exact pu_dmN d0 d200 (by omega)
  have hD4 : u * u / d ≤ 40000 := pu_dmB (by omega)
  generalize u * u / d = D at hD hD4
  have hm8 := pu_m8 hn hm
  have h2eq : ∀ i, i < n → M 0 (13 + 8 * i + 1) = C 2 i := fun i hi => (hrr i hi).2.1
  have h6eq : ∀ i, i < n → M 0 (13 + 8 * i + 5) = C 6 i := fun i hi => (hrr i hi).2.2.2.2.2.1
  have m00 : M 0 0 = C 0 0 := hs1 0 (by decide)
  have m03 : M 0 3 = C 0 3 := hs1 3 (by decide)
  have c62 : ∀ i, i < 8 → ∃ a, a ≤ 20 * (t + 1) ∧ C 6 i + C 2 i = nI a := by
    intro i hi
    obtain ⟨_, ⟨a2, ha2, e2⟩, _, ⟨a6, ha6, e6⟩⟩ := hd i hi
    exact ⟨a6 + a2, by omega, by rw [e2, e6, nI_add]⟩
  refine pu_endC (P := fun a => ENDQ n t g M a (sX5_ends M)) (h2 := min 100 (h - D + gr)) (X := pu_ex (fun i => C 6 i + C 2 i) m n (pu_tn l (min 100 (h - D + gr)) n)) (m' := pu_db (fun i => decide (C 0 3 < pu_nd C n t i)) (pu_ex (fun i => C 6 i + C 2 i) m n (pu_tn l (min 100 (h - D + gr)) n)) 8) h9 h10 h11 h13 e1d hn ht hh hm8 eu hD hD4 egr hgr el hl (fun i hi => by
    obtain ⟨a, ha, e⟩ := c62 i (by omega)
    exact ⟨a, by omega, e⟩) rfl rfl rfl (fun C' cs c10 c11 c13 c14 c15 cr c8 => ?_)
  refine pu_endR (P := fun b => ENDQ n t g M (nI D, C') b) (h2 := min 100 (h - D + gr)) (X := pu_ex (fun i => C 6 i + C 2 i) m n (pu_tn l (min 100 (h - D + gr)) n)) r5 r6 r7 h0 hn ht hh hm (fun i hi => (hrr i hi).2.2.2.2.2.2.1) (by rw [pu_sm_congr (g := C 2) h2eq, ← pu_sm_zero hn (fun i h1 h2 => (hz i h1 h2).2.1)]; exact eu) (by rw [m00]; exact hD) hD4 (by rw [hs1 2 (by decide)]; exact egr) hgr (by rw [hs1 1 (by decide)]; exact el) hl rfl (pu_ex_congr (fun i hi => by rw [h6eq i hi, h2eq i hi]) _) (fun M' mk ms m6 m7 m9 m10 m12 mr m77 m78 m79 m80 m81 m82 => ?_)
  generalize hX : pu_ex (fun i => C 6 i + C 2 i) m n (pu_tn l (min 100 (h - D + gr)) n) = X at *
  have hX8 : X < 256 := by rw [← hX]; exact pu_ex_lt hn _
  have hXhi : ∀ i, n ≤ i → X.testBit i = false := fun i hi => by rw [← hX]; exact pu_ex_hi hi _
  generalize hm' : pu_db (fun i => decide (C 0 3 < pu_nd C n t i)) X 8 = m' at *
  generalize hh2 : min 100 (h - D + gr) = h2 at *
  have h03 : (0 : Int32) ≤ C 0 3 := (hs2 3 (by decide)).1
  have bits : ∀ i, i < n → m'.testBit i = (X.testBit i || decide (M 0 3 < M 0 (13 + 8 * i + 2) + pu_cg (M 0 0) (fun k => M 0 (13 + 8 * k + 1)) n t i)) := by
    intro i hi
    rw [← hm', pu_db_bit, decide_eq_true (show i < 8 by omega), Bool.true_and, m03, (hrr i hi).2.2.1, pu_cg_eq hi m00 h2eq]
    unfold pu_nd; rw [if_pos hi]
  have m'n : m' < 2 ^ n := by
    refine Nat.lt_pow_two_of_testBit _ (fun i hi => ?_)
    rw [← hm', pu_db_bit, hXhi i hi, Bool.false_or]
    by_cases c : i < 8
    · have : ¬ C 0 3 < pu_nd C n t i := by
        unfold pu_nd; rw [if_neg (by omega), (hz i hi c).2.2.1]; exact Int32.not_lt.mpr h03
      rw [decide_eq_false this, Bool.and_false]
    · rw [decide_eq_false c, Bool.false_and]
  have cj : ∀ j, (j = 0 ∨ j = 1 ∨ j = 4 ∨ j = 9 ∨ j = 12 ∨ j = 16) → C' j = C j := cs
  refine ⟨rfl, nI_pos (by omega), ⟨h2, m', ⟨hn, by omega, by omega, m'n⟩, ?_, ⟨fun k hk => ?_, fun k hk => ?_⟩, fun j hj => ?_, fun j hj => ?_, fun j hj h8 => ?_, ?_, fun k w hk hw => ?_⟩, mk⟩
  · show C' 9 0 = _ ∧ M' 0 5 = _ ∧ C' 10 0 = _ ∧ M' 0 6 = _ ∧ C' 11 0 = _ ∧ M' 0 7 = _ ∧ C' 12 0 = _ ∧ M' 0 8 = _ ∧ C' 13 0 = _ ∧ M' 0 9 = C' 14 0 ∧ M' 0 10 = C' 15 0 ∧ M' 0 11 = C' 16 0
    rw [cj 9 (by decide), cj 12 (by decide), cj 16 (by decide), c10, c11, c13, c14, c15, m6, m7, m9, m10, ms 5 (by decide) (by decide) (by decide) (by decide) (by decide) (by decide), ms 8 (by decide) (by decide) (by decide) (by decide) (by decide) (by decide), ms 11 (by decide) (by decide) (by decide) (by decide) (by decide) (by decide), r9, r10]
    exact ⟨h9, r5, rfl, rfl, rfl, rfl, h12, r8, rfl, rfl, rfl, r11⟩
  · show M' 0 k = C' 0 k
    rw [ms k (by omega) (by omega) (by omega) (by omega) (by omega) (by omega), cj 0 (by decide)]; exact hs1 k hk
  · show sL k ≤ C' 0 k ∧ C' 0 k ≤ sM k
    rw [cj 0 (by decide)]; exact hs2 k hk
  · obtain ⟨q0, q1, q2, q3, q4, q5, q6, q7⟩ := mr j hj
    obtain ⟨p0, p1, p2, p3, p4, p5, p6, p7⟩ := hrr j hj
    obtain ⟨z2, z3, z5, z6, z7⟩ := cr j (by omega)
    show M' 0 _ = C' 1 j ∧ M' 0 _ = C' 2 j ∧ M' 0 _ = C' 3 j ∧ M' 0 _ = C' 4 j ∧ M' 0 _ = C' 5 j ∧ M' 0 _ = C' 6 j ∧ M' 0 _ = _ ∧ M' 0 _ = C' 7 j
    refine ⟨by rw [q0, cj 1 (by decide), p0], by rw [q1, z2], ?_, by rw [q3, cj 4 (by decide), p3], by rw [q4, z5, p4, p1], by rw [q5, z6, p5, p1], by rw [q6, ← bits j hj], by rw [q7, z7, ← bits j hj, p7]⟩
    rw [q2, z3, p2, pu_cg_eq hj m00 h2eq]; unfold pu_nd; rw [if_pos hj]
  · obtain ⟨z2, z3, z5, z6, z7⟩ := cr j hj
    obtain ⟨b1, ⟨a2, ha2, e2⟩, ⟨a5, ha5, e5⟩, _⟩ := hd j hj
    show (∃ a, a ≤ 30 ∧ C' 1 j = nI a) ∧ (∃ a, a ≤ 20 ∧ C' 2 j = nI a) ∧ (∃ a, a ≤ 20 * (t + 1) ∧ C' 5 j = nI a) ∧ (∃ a, a ≤ 20 * (t + 1) ∧ C' 6 j = nI a)
    refine ⟨by rw [cj 1 (by decide)]; exact b1, ⟨0, by omega, by rw [z2]; rfl⟩, ⟨a5 + a2, by omega, by rw [z5, e5, e2, nI_add]⟩, ?_⟩
    rw [z6]
    by_cases c : X.testBit j = true
    · rw [if_pos c]; exact ⟨0, by omega, rfl⟩
    · rw [if_neg c]; exact c62 j hj
  · obtain ⟨y1, y2, y3, y4, y5, y6, y7⟩ := hz j hj h8
    obtain ⟨z2, z3, z5, z6, z7⟩ := cr j h8
    show C' 1 j = 0 ∧ C' 2 j = 0 ∧ C' 3 j = 0 ∧ C' 4 j = 0 ∧ C' 5 j = 0 ∧ C' 6 j = 0 ∧ C' 7 j = 0
    have mb : m'.testBit j = false := Nat.testBit_lt_two_pow (Nat.lt_of_lt_of_le m'n (Nat.pow_le_pow_right (by decide) hj))
    refine ⟨by rw [cj 1 (by decide), y1], z2, ?_, by rw [cj 4 (by decide), y4], by rw [z5, y5, y2]; rfl, ?_, by rw [z7, y7, mb]; rfl⟩
    · rw [z3]; unfold pu_nd; rw [if_neg (by omega), y3]
    · rw [z6, hXhi j hj, y6, y2]; rfl
  · show M' 0 12 = _
    rw [m12, hk1]
    by_cases c : 6 ≤ t
    · rw [show min t 6 = 6 by omega, show min (t + 1) 6 = 6 by omega]; rfl
    · rw [show min t 6 = t by omega, show min (t + 1) 6 = t + 1 by omega, if_neg (fun q => by have := (nI_eq (b := 6) (by omega) (by decide)).mp q; omega), nI_1]
  · show M' 0 _ = C' 8 _
    have tm := Nat.mod_lt t (show 0 < 6 by decide)
    rcases Nat.eq_zero_or_pos k with hk0 | hk0
    · subst hk0
      rw [c8, show t + 1 - 1 - 0 = t by omega]
      have hw5 : w = 0 ∨ w = 1 ∨ w = 2 ∨ w = 3 ∨ w = 4 := by omega
      rcases hw5 with rfl | rfl | rfl | rfl | rfl
      · rw [if_neg (by omega), if_neg (by omega), if_neg (by omega), if_neg (by omega), if_pos (by omega)]; exact m77
      · rw [if_neg (by omega), if_neg (by omega), if_neg (by omega), if_pos rfl]; exact m78
      · rw [if_neg (by omega), if_neg (by omega), if_pos rfl]; exact m79
      · rw [if_neg (by omega), if_pos rfl]; exact m80
      · rw [if_pos rfl]; exact m81
    · rw [m82 _ (by omega) (by omega), show 77 + 5 * k + w - 5 = 77 + 5 * (k - 1) + w by omega, hk2 (k - 1) w (by omega) hw, c8, if_neg (by omega), if_neg (by omega), if_neg (by omega), if_neg (by omega), if_neg (by omega), show t - 1 - (k - 1) = t + 1 - 1 - k by omega]
theorem pu_CMDclose {T f n t h m g : Nat} {C M : Cst} (hc : sX5_changes M 0 = M 0) (hT : t ≤ T) (hT2 : 999 ≤ T) (h999 : t ≤ 999) (hf : g ≤ f) (hR : RC n t h m g C (M 0)) : CMD T f M (sX0_closeSeason C) (sX5_close M) := by
  have hn : n ≤ 8 := hR.1.1
  have h9 : C 9 0 = nI n := hR.2.1.1
  have r5 : M 0 5 = nI n := hR.2.1.2.1
  have h10 : C 10 0 = nI t := hR.2.1.2.2.1
  have r6 : M 0 6 = nI t := hR.2.1.2.2.2.1
  dsimp only [sX0_closeSeason, sX5_close, ltv, bnd]
  rw [h9, r5, h10, r6]
  rcases Nat.eq_zero_or_pos n with h0 | h0
  · subst h0
    rw [if_neg (show ¬ ¬ nI 0 = 0 by decide), if_neg (show ¬ ¬ nI 0 = 0 by decide)]; exact ⟨rfl, Or.inl ⟨pu_n2, rfl⟩⟩
  rw [if_pos (nI_ne0 h0 (by omega)), if_pos (nI_ne0 h0 (by omega))]
  by_cases c : t = 999
  · subst c
    rw [if_neg (show ¬ nI 999 < 999 by decide), if_neg (show ¬ ¬ nI 999 = 999 by decide)]; exact ⟨rfl, Or.inl ⟨pu_n3, rfl⟩⟩
  rw [if_pos (show nI t < (999 : Int32) from nI_lt (b := 999) (by omega) (by decide)), if_pos (show ¬ nI t = (999 : Int32) from fun q => c ((nI_eq (b := 999) (by omega) (by decide)).mp q))]
  obtain ⟨e1, e2, ⟨h2, m', hRC⟩, e4⟩ := pu_ENDrel (C := C) (M := sX5_changes M) h0 h999 (by rw [hc]; exact hR)
  refine ⟨e1, Or.inr ⟨e2, ⟨n, t + 1, h2, m', g, by omega, hf, hRC⟩, fun k h1 h7 => e4 k h1 h7⟩⟩
