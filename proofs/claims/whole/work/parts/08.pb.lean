theorem pu_lv0 (u : Nat → Int32) : ∀ k, pu_lv u 0 k = 0
  | 0 => rfl
  | k + 1 => by
    simp only [pu_lv]
    rw [pu_lv0 u k, if_neg (fun h => absurd h.2 (by decide))]
theorem pu_l10 {q : Nat → Int32} : ∀ {n : Nat}, (∀ i, i < n → q i = 0) → pu_l1 q 0 n = 0
  | 0, _ => rfl
  | n + 1, h => by
    show pu_l1 q 0 n - q n = 0
    rw [pu_l10 (fun i hi => h i (by omega)), h n (by omega)]; rfl
theorem pu_mo_congr {f g : Nat → Int32} {x : Int32} {i : Nat} (h : ∀ j, j ≤ i → f j = g j) : pu_mo f x i = pu_mo g x i := by
  unfold pu_mo
  rw [pu_lv_congr (fun j hj => h j (by omega)), h i (Nat.le_refl i)]
theorem pu_quot {a b : Int32} (h : 1 ≤ b) : sX4_quotient a b = a / b := by dsimp only [sX4_quotient]; rw [if_pos h]
theorem pu_CMDrepair {T f n t hl m g : Nat} {C M : Cst} (x : Int32) (hc : sX5_changes M 0 = M 0) (hT : t ≤ T) (hf : g ≤ f) (hf2 : f < 2 ^ 30) (hR : RC n t hl m g C (M 0)) : CMD T f M (sX0_repairPoints C x) (sX5_repair M x) := by
  obtain ⟨⟨hn, ht, hh, hm⟩, ⟨h9, r5, h10, r6, h11, r7, h12, r8, h13, r9, r10, r11⟩, ⟨hs1, hs2⟩, hrr, hd, hz, hk1, hk2⟩ := hR
  obtain ⟨e, he, ee⟩ := pu_kn (b := 20) (B := 20) rfl (hs2 4 (by decide)) (by decide) rfl
  have e4 : M 0 4 = nI e := by rw [hs1 4 (by decide), ee]
  have sm4 : pu_sm (fun i => M 0 (13 + 8 * i + 4)) n = pu_sm (C 5) 8 := by
    rw [pu_sm_congr (g := C 5) (fun i hi => (hrr i hi).2.2.2.2.1), pu_sm_zero hn (fun i h1 h2 => (hz i h1 h2).2.2.2.2.1)]
  obtain ⟨A, hA, eA⟩ := pu_sm_bd (f := C 5) (b := 20 * t) (n := 8) (fun i hi => (hd i hi).2.2.1)
  refine pu_repairR (P := fun b => CMD T f M (sX0_repairPoints C x) b) (rest := if x * M 0 4 ≤ M 0 8 then 0 else x * M 0 4 - M 0 8) (all := pu_sm (C 5) 8) (q := fun i => ((if x * M 0 4 ≤ M 0 8 then 0 else x * M 0 4 - M 0 8) * M 0 (13 + 8 * i + 4)) / pu_sm (C 5) 8) r5 hn hc rfl sm4.symm (fun i hi => rfl) (fun c => ?_) (fun c c2 => ?_) (fun c c2 M' g1 g8 g7 g11 g2 g3 => ?_)
  · have : sX0_repairPoints C x = ((-10001), C) := by
      dsimp only [sX0_repairPoints, ltv]
      by_cases h : x < 1
      · rw [if_pos h]
      · rw [if_neg h, if_neg (Int32.not_le.mpr (c.resolve_left h))]
    rw [this]; exact ⟨rfl, Or.inl ⟨pu_n1, rfl⟩⟩
  all_goals
    have x1 : (1 : Int32) ≤ x := Int32.not_lt.mp (fun q => c (Or.inl q))
    obtain ⟨p, hp, rfl⟩ := nI_of2 (M := 100) (n := 100) rfl (fun q => absurd (Int32.le_trans x1 (Int32.le_of_lt q)) (by decide)) (Int32.not_lt.mp (fun q => c (Or.inr q)))
    have hpe : p * e ≤ 100 * 20 := Nat.mul_le_mul hp he
    have ec : nI p * C 0 4 = nI (p * e) := by rw [ee, nI_mul]
    have eR : (if nI p * M 0 4 ≤ M 0 8 then 0 else nI p * M 0 4 - M 0 8) = nI (p * e - g) := by
      rw [e4, nI_mul, r8]
      by_cases hq : p * e ≤ g
      · rw [if_pos (nI_le hq (by omega)), show p * e - g = 0 by omega]; rfl
      · rw [if_neg (nI_ge (by omega) (by omega)), nI_sub (by omega)]
    have ev3 : (if C 12 0 < nI (p * e) then C 12 0 else nI (p * e)) = nI (min (p * e) g) := by
      rw [h12]
      by_cases hq : g < p * e
      · rw [if_pos (nI_lt hq (by omega)), show min (p * e) g = g by omega]
      · rw [if_neg (nI_nlt (by omega) (by omega)), show min (p * e) g = p * e by omega]
    have ev4 : nI (p * e) - nI (min (p * e) g) = nI (p * e - g) := by rw [nI_sub (by omega), show p * e - min (p * e) g = p * e - g by omega]
  · rw [eR] at c2
    have : sX0_repairPoints C (nI p) = ((-10002), C) := by
      dsimp only [sX0_repairPoints, ltv]
      rw [if_neg (fun q => c (Or.inl q)), if_pos (Int32.not_lt.mp (fun q => c (Or.inr q))), ec, ev3, ev4]
      by_cases c3 : 100 < C 11 0 + nI p
      · rw [if_pos c3]
      · rw [if_neg c3]
        rcases c2 with c2 | ⟨c2, c4⟩
        · rw [r7, ← h11] at c2; exact absurd c2 c3
        · rw [if_neg (Int32.not_le.mpr c2), pu_sum5, if_neg (fun q => q c4)]
    rw [this]; exact ⟨rfl, Or.inl ⟨pu_n2, rfl⟩⟩
  · rw [eR] at c2 g8
    have g2' : ∀ i, i < n → M' 0 (13 + 8 * i + 2) = if 0 < nI (p * e - g) then M 0 (13 + 8 * i + 2) + nI (p * e - g) * M 0 (13 + 8 * i + 4) / pu_sm (C 5) 8 + pu_mo (fun i => M 0 (13 + 8 * i + 4)) (pu_l1 (fun i => nI (p * e - g) * M 0 (13 + 8 * i + 4) / pu_sm (C 5) 8) (nI (p * e - g)) n) i else M 0 (13 + 8 * i + 2) := by
      intro i hi
      have := g2 i hi
      rw [eR] at this; exact this
    clear g2
    rw [eR]
    generalize hK : p * e - g = K at *
    have c3 : ¬ 100 < C 11 0 + nI p := fun q => c2 (Or.inl (by rw [r7, ← h11]; exact q))
    have main : ∀ S, S = up (up (up C 12 0 (C 12 0 - nI (min (p * e) g))) 11 0 (up C 12 0 (C 12 0 - nI (min (p * e) g)) 11 0 + nI p)) 16 0 (up (up C 12 0 (C 12 0 - nI (min (p * e) g))) 11 0 (up C 12 0 (C 12 0 - nI (min (p * e) g)) 11 0 + nI p) 16 0 + nI p) → CMD T f M (nI K, sX0_oweByUses S (nI K)) (nI K, M') := by
      intro S hS
      have s12 : S 12 0 = nI (g - min (p * e) g) := by rw [hS, pu_un _ _ _ (by decide), pu_un _ _ _ (by decide), pu_up, if_pos rfl, if_pos rfl, h12, nI_sub (by omega)]
      have s11 : S 11 0 = nI (hl + p) := by rw [hS, pu_un _ _ _ (by decide), pu_up, if_pos rfl, if_pos rfl, pu_un _ _ _ (by decide), h11, nI_add]
      have s16 : S 16 0 = C 16 0 + nI p := by rw [hS, pu_up, if_pos rfl, if_pos rfl, pu_un _ _ _ (by decide), pu_un _ _ _ (by decide)]
      have ss : ∀ k, k ≠ 11 → k ≠ 12 → k ≠ 16 → S k = C k := fun k h1 h2 h3 => by rw [hS, pu_un _ _ _ h3, pu_un _ _ _ h1, pu_un _ _ _ h2]
      clear hS
      refine pu_owe (P := fun C' => CMD T f M (nI K, C') (nI K, M')) (q := fun i => sX4_quotient (nI K * S 5 i) (pu_sm (S 5) 8)) (fun i => rfl) (fun C' d1 d3 => ?_)
      rw [ss 5 (by decide) (by decide) (by decide)] at d3
      have d3' : ∀ i, i < 8 → C' 3 i = C 3 i + sX4_quotient (nI K * C 5 i) (pu_sm (C 5) 8) + pu_mo (C 5) (pu_l1 (fun i => sX4_quotient (nI K * C 5 i) (pu_sm (C 5) 8)) (nI K) 8) i := fun i hi => by rw [d3 i hi, ss 3 (by decide) (by decide) (by decide)]
      clear d3
      have zq : ∀ i, C 5 i = 0 → sX4_quotient (nI K * C 5 i) (pu_sm (C 5) 8) = 0 := by
        intro i hi
        rw [hi, Int32.mul_zero]
        dsimp only [sX4_quotient]
        by_cases q : 1 ≤ pu_sm (C 5) 8
        · rw [if_pos q, Int32.zero_div]
        · rw [if_neg q]
      have hz3 : ∀ i, n ≤ i → i < 8 → C' 3 i = 0 := by
        intro i h1 h2
        obtain ⟨_, _, z3, _, z5, _, _⟩ := hz i h1 h2
        rw [d3' i h2, z3, zq i z5]
        unfold pu_mo
        rw [z5, if_neg (fun h => absurd h.1 (by decide))]; rfl
      have h32 : ∀ i, i < n → M' 0 (13 + 8 * i + 2) = C' 3 i := by
        intro i hi
        rw [g2' i hi, d3' i (by omega), (hrr i hi).2.2.1]
        by_cases hp0 : 0 < nI K
        · rw [if_pos hp0]
          have hA1 : 1 ≤ pu_sm (C 5) 8 := by
            rw [eA]
            rcases Nat.eq_zero_or_pos A with h | h
            · exact absurd (Or.inr ⟨hp0, by rw [eA, h]; rfl⟩) c2
            · exact nI_le (a := 1) h (by omega)
          have eq : ∀ j, j < n → sX4_quotient (nI K * C 5 j) (pu_sm (C 5) 8) = nI K * M 0 (13 + 8 * j + 4) / pu_sm (C 5) 8 := fun j hj => by rw [pu_quot hA1, (hrr j hj).2.2.2.2.1]
          rw [eq i hi, pu_l1_zero hn (fun j h1 h2 => zq j (hz j h1 h2).2.2.2.2.1), pu_l1_congr eq, pu_mo_congr (f := C 5) (g := fun i => M 0 (13 + 8 * i + 4)) (fun j hj => ((hrr j (by omega)).2.2.2.2.1).symm)]
        · rw [if_neg hp0]
          have hK0 : K = 0 := by
            rcases Nat.eq_zero_or_pos K with h | h
            · exact h
            · exact absurd (nI_lt (a := 0) h (by omega)) hp0
          have q0 : ∀ j, sX4_quotient (nI K * C 5 j) (pu_sm (C 5) 8) = 0 := by
            intro j
            rw [hK0, show nI 0 = (0 : Int32) from rfl, Int32.zero_mul]
            dsimp only [sX4_quotient]
            by_cases q : 1 ≤ pu_sm (C 5) 8
            · rw [if_pos q, Int32.zero_div]
            · rw [if_neg q]
          rw [q0 i, Int32.add_zero]
          unfold pu_mo
          rw [show nI K = (0 : Int32) by rw [hK0]; rfl, pu_l10 (fun j _ => by have := q0 j; rw [hK0] at this; exact this), pu_lv0, if_neg (fun h => absurd h.2 (by decide)), Int32.add_zero]
      have dd : ∀ k, k ≠ 3 → k ≠ 11 → k ≠ 12 → k ≠ 16 → C' k = C k := fun k h0 h1 h2 h3 => by rw [d1 k h0, ss k h1 h2 h3]
      have hl100 : hl + p ≤ 100 := by
        rw [h11, nI_add] at c3
        exact Nat.not_lt.mp (fun q => c3 (nI_lt (a := 100) q (by omega)))
      refine CMD_ok (nI_pos (by omega)) ⟨n, t, hl + p, m, g - min (p * e) g, hT, by omega, ?_⟩ (fun k hk _ => g1 k hk)
      refine ⟨⟨hn, ht, hl100, hm⟩, ?_, ⟨fun k hk => ?_, fun k hk => ?_⟩, fun j hj => ?_, fun j hj => ?_, fun j hj h8 => ?_, ?_, fun k w hk hw => ?_⟩
      · rw [RCs, dd 9 (by decide) (by decide) (by decide) (by decide), dd 10 (by decide) (by decide) (by decide) (by decide), dd 13 (by decide) (by decide) (by decide) (by decide), dd 14 (by decide) (by decide) (by decide) (by decide), dd 15 (by decide) (by decide) (by decide) (by decide), d1 11 (by decide), d1 12 (by decide), d1 16 (by decide), s11, s12, s16, g7, g8, g11, g3 5 (by decide) (by decide) (by decide) (fun i _ => by omega), g3 6 (by decide) (by decide) (by decide) (fun i _ => by omega), g3 9 (by decide) (by decide) (by decide) (fun i _ => by omega), g3 10 (by decide) (by decide) (by decide) (fun i _ => by omega)]
        refine ⟨h9, r5, h10, r6, rfl, by rw [r7, nI_add], rfl, ?_, h13, r9, r10, by rw [r11]⟩
        rw [e4, nI_mul, r8, nI_sub (by omega), nI_sub (by omega), show g - (p * e - K) = g - min (p * e) g by omega]
      · rw [g3 k (by omega) (by omega) (by omega) (fun i _ => by omega), dd 0 (by decide) (by decide) (by decide) (by decide)]; exact hs1 k hk
      · rw [dd 0 (by decide) (by decide) (by decide) (by decide)]; exact hs2 k hk
      · rw [dd 1 (by decide) (by decide) (by decide) (by decide), dd 2 (by decide) (by decide) (by decide) (by decide), dd 4 (by decide) (by decide) (by decide) (by decide), dd 5 (by decide) (by decide) (by decide) (by decide), dd 6 (by decide) (by decide) (by decide) (by decide), dd 7 (by decide) (by decide) (by decide) (by decide)]
        obtain ⟨p0, p1, p2, p3, p4, p5, p6, p7⟩ := hrr j hj
        refine ⟨?_, ?_, h32 j hj, ?_, ?_, ?_, ?_, ?_⟩ <;> rw [g3 _ (by omega) (by omega) (by omega) (fun i _ => by omega)] <;> assumption
      · rw [dd 1 (by decide) (by decide) (by decide) (by decide), dd 2 (by decide) (by decide) (by decide) (by decide), dd 5 (by decide) (by decide) (by decide) (by decide), dd 6 (by decide) (by decide) (by decide) (by decide)]; exact hd j hj
      · rw [dd 1 (by decide) (by decide) (by decide) (by decide), dd 2 (by decide) (by decide) (by decide) (by decide), dd 4 (by decide) (by decide) (by decide) (by decide), dd 5 (by decide) (by decide) (by decide) (by decide), dd 6 (by decide) (by decide) (by decide) (by decide), dd 7 (by decide) (by decide) (by decide) (by decide)]
        obtain ⟨z1, z2, z3, z4, z5, z6, z7⟩ := hz j hj h8
        exact ⟨z1, z2, hz3 j hj h8, z4, z5, z6, z7⟩
      · rw [g3 12 (by decide) (by decide) (by decide) (fun i _ => by omega)]; exact hk1
      · rw [g3 _ (by omega) (by omega) (by omega) (fun i _ => by omega), dd 8 (by decide) (by decide) (by decide) (by decide)]; exact hk2 k w hk hw
    dsimp only [sX0_repairPoints, ltv]
    rw [if_neg (fun q => c (Or.inl q)), if_pos (Int32.not_lt.mp (fun q => c (Or.inr q))), ec, ev3, ev4, if_neg c3]
    by_cases c5 : nI K ≤ 0
    · rw [if_pos c5]; exact main _ rfl
    · rw [if_neg c5, pu_sum5, if_pos (fun q => c2 (Or.inr ⟨Int32.not_le.mp c5, q⟩))]; exact main _ rfl
