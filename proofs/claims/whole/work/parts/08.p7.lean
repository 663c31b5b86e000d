theorem pu_10 : ¬ (1 : Int32) = 0 := by decide
theorem pu_00 : ¬ ¬ (0 : Int32) = 0 := fun h => h rfl
/-! numbers of charges; use -/
theorem pu_sm_bd {f : Nat → Int32} {b : Nat} : ∀ {n : Nat}, (∀ i, i < n → ∃ a, a ≤ b ∧ f i = nI a) → ∃ s, s ≤ n * b ∧ pu_sm f n = nI s
  | 0, _ => ⟨0, Nat.zero_le _, rfl⟩
  | n + 1, h => by
    obtain ⟨s, hs, e⟩ := pu_sm_bd (n := n) (fun i hi => h i (by omega))
    obtain ⟨a, ha, e2⟩ := h n (by omega)
    refine ⟨s + a, by rw [Nat.add_mul, Nat.one_mul]; omega, ?_⟩
    show pu_sm f n + f n = _
    rw [e, e2, nI_add]
theorem pu_ah_bd {u : Nat → Int32} {n t p : Nat} (hn : n ≤ 8) (h : ∀ i, i < n → ∃ a, a ≤ 20 ∧ u i = nI a) : ∃ s, s ≤ 160 ∧ pu_ah u n t p = nI s := by
  obtain ⟨s, hs, e⟩ := pu_sm_bd (f := fun k => if pu_pl n t k < p then u k else 0) (b := 20) (n := n) (fun i hi => by
    by_cases c : pu_pl n t i < p
    · simp only [if_pos c]; exact h i hi
    · simp only [if_neg c]; exact ⟨0, by omega, rfl⟩)
  exact ⟨s, by omega, e⟩
theorem pu_ah_congr {u v : Nat → Int32} {n t p : Nat} (h : ∀ i, i < n → u i = v i) : pu_ah u n t p = pu_ah v n t p :=
  pu_sm_congr (fun i hi => by rw [h i hi])
theorem pu_dmN {d x : Nat} (h0 : 0 < d) (hd : d ≤ 200) (hx : x ≤ 200) : pu_dm (nI d) (nI x) = nI (x * x / d) := by
  have : x * x ≤ 200 * 200 := Nat.mul_le_mul hx hx
  show (nI x * nI x) / nI d = _
  rw [nI_mul, pk_div (by omega) h0 (by omega)]
theorem pu_dmB {d x : Nat} (hx : x ≤ 200) : x * x / d ≤ 40000 := Nat.le_trans (Nat.div_le_self _ _) (Nat.mul_le_mul hx hx)
theorem pu_chN {d a x : Nat} (h0 : 0 < d) (hd : d ≤ 200) (hx : a + x ≤ 200) : ∃ c, c ≤ 40000 ∧ pu_ch (nI d) (nI a) (nI x) = nI c := by
  refine ⟨(a + x) * (a + x) / d - a * a / d, Nat.le_trans (Nat.sub_le _ _) (pu_dmB hx), ?_⟩
  show pu_dm (nI d) (nI a + nI x) - pu_dm (nI d) (nI a) = _
  rw [nI_add, pu_dmN h0 hd hx, pu_dmN h0 hd (by omega), nI_sub]
  exact Nat.div_le_div_right (Nat.mul_le_mul (by omega) (by omega))
theorem pu_k0 {C : Cst} (h : ∀ k, k < 5 → sL k ≤ C 0 k ∧ C 0 k ≤ sM k) : ∃ d, 0 < d ∧ d ≤ 200 ∧ C 0 0 = nI d ∧ 1 ≤ C 0 0 := by
  obtain ⟨h1, h2⟩ := h 0 (by decide)
  have h1' : (1 : Int32) ≤ C 0 0 := h1
  have h2' : C 0 0 ≤ (200 : Int32) := h2
  obtain ⟨d, hd, e⟩ := nI_of2 (M := 200) (n := 200) rfl (fun q => absurd (Int32.le_trans h1' (Int32.le_of_lt q)) (by decide)) h2'
  refine ⟨d, ?_, hd, e, h1'⟩
  rcases Nat.eq_zero_or_pos d with h0 | h0
  · rw [e, h0] at h1'; exact absurd h1' (by decide)
  · exact h0
theorem pu_kn {C : Cst} {k b : Nat} {B : Int32} (hB : B.toInt = b) (h : sL k ≤ C 0 k ∧ C 0 k ≤ sM k) (h0 : 0 ≤ sL k) (hM : sM k = B) : ∃ d, d ≤ b ∧ C 0 k = nI d := by
  obtain ⟨d, hd, e⟩ := nI_of2 hB (x := C 0 k) (fun q => absurd (Int32.le_trans h0 h.1) (Int32.not_le.mpr q)) (by rw [← hM]; exact h.2)
  exact ⟨d, hd, e⟩
theorem pu_chargeOf {C : Cst} {n t i : Nat} (h9 : C 9 0 = nI n) (h10 : C 10 0 = nI t) (hd : 1 ≤ C 0 0) (hn : n ≤ 8) (ht : t ≤ 1000) (hi : i < n) (hz : ∀ k, n ≤ k → k < 8 → C 2 k = 0) : sX0_chargeOf C i = pu_ch (C 0 0) (pu_ah (C 2) n t (pu_pl n t i)) (C 2 i) := by
  dsimp only [sX0_chargeOf, ltv]
  rw [pu_ahead h9 h10 (by omega) hn ht (by omega) hz, pu_added hd]
/-- the relation behind one new use -/
theorem RC_use {n t h m g i a : Nat} {C C' : Cst} {r r' : Nat → Int32} (hR : RC n t h m g C r) (hi : i < n) (ha : a ≤ 20) (hC : ∀ k, k ≠ 2 → C' k = C k) (hC2 : ∀ j, C' 2 j = if j = i then nI a else C 2 j) (hr1 : r' (13 + 8 * i + 1) = nI a) (hr : ∀ j, j ≠ 13 + 8 * i + 1 → r' j = r j) : RC n t h m g C' r' := by
  obtain ⟨⟨hn, ht, hh, hm⟩, ⟨h9, r5, h10, r6, h11, r7, h12, r8, h13, r9, r10, r11⟩, ⟨hs1, hs2⟩, hrr, hd, hz, hk1, hk2⟩ := hR
  refine ⟨⟨hn, ht, hh, hm⟩, ?_, ⟨fun k hk => ?_, fun k hk => ?_⟩, fun j hj => ?_, fun j hj => ?_, fun j hj h8 => ?_, ?_, fun k w hk hw => ?_⟩
  · rw [RCs, hC 9 (by decide), hC 10 (by decide), hC 11 (by decide), hC 12 (by decide), hC 13 (by decide), hC 14 (by decide), hC 15 (by decide), hC 16 (by decide), hr 5 (by omega), hr 6 (by omega), hr 7 (by omega), hr 8 (by omega), hr 9 (by omega), hr 10 (by omega), hr 11 (by omega)]
    exact ⟨h9, r5, h10, r6, h11, r7, h12, r8, h13, r9, r10, r11⟩
  · rw [hr k (by omega), hC 0 (by decide)]; exact hs1 k hk
  · rw [hC 0 (by decide)]; exact hs2 k hk
  · obtain ⟨q0, q1, q2, q3, q4, q5, q6, q7⟩ := hrr j hj
    rw [hC 1 (by decide), hC2, hC 3 (by decide), hC 4 (by decide), hC 5 (by decide), hC 6 (by decide), hC 7 (by decide), hr _ (by omega), hr (13 + 8 * j + 2) (by omega), hr (13 + 8 * j + 3) (by omega), hr (13 + 8 * j + 4) (by omega), hr (13 + 8 * j + 5) (by omega), hr (13 + 8 * j + 6) (by omega), hr (13 + 8 * j + 7) (by omega)]
    refine ⟨q0, ?_, q2, q3, q4, q5, q6, q7⟩
    by_cases e : j = i
    · rw [if_pos e, e]; exact hr1
    · rw [if_neg e, hr _ (by omega)]; exact q1
  · obtain ⟨d1, d2, d3, d4⟩ := hd j hj
    rw [hC 1 (by decide), hC2, hC 5 (by decide), hC 6 (by decide)]
    refine ⟨d1, ?_, d3, d4⟩
    by_cases e : j = i
    · rw [if_pos e]; exact ⟨a, ha, rfl⟩
    · rw [if_neg e]; exact d2
  · rw [hC 1 (by decide), hC2, if_neg (by omega), hC 3 (by decide), hC 4 (by decide), hC 5 (by decide), hC 6 (by decide), hC 7 (by decide)]
    exact hz j hj h8
  · rw [hr 12 (by omega)]; exact hk1
  · rw [hr _ (by omega), hC 8 (by decide)]; exact hk2 k w hk hw
theorem pu_inN {x : Int32} {b : Nat} {B : Int32} (hB : B.toInt = b) : sX5_in x 0 B = 0 ∨ (sX5_in x 0 B = 1 ∧ ∃ a, a ≤ b ∧ x = nI a) := by
  rw [pu_in]
  by_cases c : x < 0 ∨ B < x
  · exact Or.inl (if_pos c)
  · exact Or.inr ⟨if_neg c, nI_of2 hB (fun q => c (Or.inl q)) (Int32.not_lt.mp (fun q => c (Or.inr q)))⟩
theorem pu_units (x : Int32) : sX4_isUnits x = sX5_in x 0 20 := rfl
theorem pu_CMDuse {T f n t h m g : Nat} {C M : Cst} (x y : Int32) (hc : sX5_changes M 0 = M 0) (hT : t ≤ T) (hf : g ≤ f) (hR : RC n t h m g C (M 0)) : CMD T f M (sX0_declareUse C x y) (sX5_use M x y) := by
  have hR' := hR
  obtain ⟨⟨hn, ht, hh, hm⟩, ⟨h9, r5, h10, r6, h11, r7, h12, r8, h13, r9, r10, r11⟩, ⟨hs1, hs2⟩, hrr, hd, hz, hk1, hk2⟩ := hR
  dsimp only [sX0_declareUse, sX5_use, ltv]
  rw [pu_units]
  rcases pu_has_mem h9 r5 hn x with ⟨e1, e2, _⟩ | ⟨i, hi, rfl, e1, e2⟩
  · rw [e1, e2, if_pos rfl, if_pos rfl]; exact ⟨rfl, Or.inl ⟨pu_n1, rfl⟩⟩
  rw [e1, e2, if_neg pu_10, if_neg pu_10]
  rcases pu_inN (x := y) (b := 20) (B := 20) rfl with e3 | ⟨e3, a, ha, rfl⟩
  · rw [e3, if_neg pu_00, if_neg pu_00]; exact ⟨rfl, Or.inl ⟨pu_n1, rfl⟩⟩
  rw [e3, if_pos pu_10, if_pos pu_10, nI_clamp (by omega), pu_isOut h13 (pu_m8 hn hm) (by omega)]
  have e6 : sX5_of M i 6 = if m.testBit i then 1 else 0 := (hrr i hi).2.2.2.2.2.2.1
  rw [e6]
  by_cases ho : m.testBit i = true
  · rw [if_pos ho, if_neg pu_10, if_neg (fun hh => hh rfl)]; exact ⟨rfl, Or.inl ⟨pu_n2, rfl⟩⟩
  rw [if_neg ho, if_pos rfl, if_pos (show ¬ (0 : Int32) = 1 by decide)]
  obtain ⟨d, d0, d200, ed, e1d⟩ := pu_k0 hs2
  generalize hC' : up C 2 i (nI a) = C'
  have c2 : ∀ j, C' 2 j = if j = i then nI a else C 2 j := fun j => by rw [← hC', pu_up, if_pos rfl]
  have cc : ∀ k, k ≠ 2 → C' k = C k := fun k hk => by rw [← hC', pu_un _ _ _ hk]
  generalize hM' : sX5_puts (sX5_changes M) i 1 (nI a) = M'
  have m1 : M' 0 (13 + 8 * i + 1) = nI a := by rw [← hM']; show up (sX5_changes M) 0 (13 + 8 * i + 1) (nI a) 0 _ = _; rw [pu_up, if_pos rfl, if_pos rfl]
  have mm : ∀ j, j ≠ 13 + 8 * i + 1 → M' 0 j = M 0 j := fun j hj => by rw [← hM']; show up (sX5_changes M) 0 (13 + 8 * i + 1) (nI a) 0 _ = _; rw [pu_up, if_pos rfl, if_neg hj, hc]
  have mk : ∀ k, k ≠ 0 → M' k = sX5_changes M k := fun k hk => by rw [← hM']; exact pu_un _ _ _ hk
  have hR2 : RC n t h m g C' (M' 0) := RC_use hR' hi ha cc c2 m1 mm
  obtain ⟨⟨_, _, _, _⟩, ⟨h9', r5', h10', r6', _⟩, ⟨hs1', hs2'⟩, hrr', hd', hz', _⟩ := hR2
  have eA : sX0_chargeOf C' i = pu_ch (C' 0 0) (pu_ah (C' 2) n t (pu_pl n t i)) (nI a) := by
    rw [pu_chargeOf h9' h10' (by rw [cc 0 (by decide)]; exact e1d) hn ht hi (fun k h1 h2 => (hz' k h1 h2).2.1), c2, if_pos rfl]
  have eB : sX5_chargeFor M' (nI i) (nI a) = pu_ch (C' 0 0) (pu_ah (C' 2) n t (pu_pl n t i)) (nI a) := by
    rw [pu_chargeR r5' r6' hn ht hi, hs1' 0 (by decide), pu_ah_congr (fun k hk => (hrr' k hk).2.1)]
  rw [eA, eB]
  refine CMD_ok ?_ ⟨n, t, h, m, g, hT, hf, RC_use hR' hi ha cc c2 m1 mm⟩ (fun k hk _ => mk k hk)
  obtain ⟨s, hs, es⟩ := pu_ah_bd (u := C' 2) (t := t) (p := pu_pl n t i) hn (fun k hk => (hd' k (by omega)).2.1)
  obtain ⟨c, hc, ec⟩ := pu_chN (a := s) (x := a) d0 d200 (by omega)
  rw [cc 0 (by decide), ed, es, ec]
  exact nI_pos (by omega)
