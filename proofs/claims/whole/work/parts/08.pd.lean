/-! the pieces of a season's end: the class -/
theorem pu_sub0 : ∀ l, l < 101 → ∀ h, h < 101 → l ≤ h → ¬ (0 : Int32) < nI l - nI h := by decide +kernel
theorem pu_turns {C : Cst} {n l h : Nat} (h9 : C 9 0 = nI n) (hl : C 0 1 = nI l) (hh : C 11 0 = nI h) (hn : n ≤ 8) (h1 : l ≤ 100) (h2 : h ≤ 100) : sX0_turnsNeeded C ≤ nI (pu_tn l h n) ∧ (0 < pu_tn l h n → sX0_turnsNeeded C = nI (pu_tn l h n)) := by
  dsimp only [sX0_turnsNeeded, ltv]
  rw [h9, hl, hh]
  unfold pu_tn
  by_cases c : h < l
  · rw [if_pos c, nI_sub (by omega), if_pos (show (0 : Int32) < nI (l - h) from nI_lt (a := 0) (by omega) (by omega))]
    have e : (nI (l - h) + 10) - 1 = nI (l - h + 9) := by
      rw [show (10 : Int32) = nI 10 from rfl, nI_add, show l - h + 10 = (l - h + 9) + 1 by omega, nI_pred]
    rw [e, show (10 : Int32) = nI 10 from rfl, pk_div (by omega) (by decide) (by decide)]
    rcases Nat.eq_zero_or_pos n with h0 | h0
    · subst h0
      rw [if_pos (show nI 0 - 1 < nI ((l - h + 9) / 10) from Int32.lt_of_lt_of_le (show nI 0 - 1 < 0 by decide) (nI_pos' (by omega)))]
      refine ⟨Int32.le_trans (show nI 0 - 1 ≤ 0 by decide) (nI_pos' (by omega)), fun q => ?_⟩
      omega
    · have e1 : nI n - 1 = nI (n - 1) := by rw [show n = (n - 1) + 1 by omega, nI_pred]; rfl
      rw [e1]
      by_cases c2 : n - 1 < (l - h + 9) / 10
      · rw [if_pos (nI_lt c2 (by omega)), show min ((l - h + 9) / 10) (n - 1) = n - 1 by omega]
        exact ⟨nI_le (Nat.le_refl _) (by omega), fun _ => rfl⟩
      · rw [if_neg (nI_nlt (by omega) (by omega)), show min ((l - h + 9) / 10) (n - 1) = (l - h + 9) / 10 by omega]
        exact ⟨nI_le (Nat.le_refl _) (by omega), fun _ => rfl⟩
  · rw [if_neg c, if_neg (pu_sub0 l (by omega) h (by omega) (by omega))]
    exact ⟨by decide, fun q => absurd q (by decide)⟩
theorem pu_exT {P : Cst → Prop} {C : Cst} {n B T : Nat} (h9 : C 9 0 = nI n) (hn : n ≤ 8) (hB : B < 256) (hT : T ≤ 100) (t1 : sX0_turnsNeeded C ≤ nI T) (t2 : 0 < T → sX0_turnsNeeded C = nI T) (h13 : C 13 0 = 0) (h6 : ∀ i, i < n → ∃ a, a < 2 ^ 31 ∧ C 6 i = nI a) (k : ∀ C' : Cst, (∀ j, j ≠ 6 → j ≠ 13 → C' j = C j) → C' 13 0 = nI (pu_ex (C 6) B n T) → (∀ i, C' 6 i = if (pu_ex (C 6) B n T).testBit i then 0 else C 6 i) → P C') : P (sX0_excludeInTurn C (nI B)) := by
  unfold sX0_excludeInTurn
  refine p_lz4 (Q9 := P) (fun B7 L7 b7 h7 => ?_)
  refine p_ltv (fun r er => ?_)
  rw [← er] at t1 t2
  refine pl4 h7 (fun k C' x1 x2 i3 => i3 = k ∧ x1 = nI B ∧ x2 = r ∧ (∀ j, j ≠ 6 → j ≠ 13 → C' j = C j) ∧ C' 13 0 = nI (pu_ex (C 6) B n k) ∧ (∀ i, C' 6 i = if (pu_ex (C 6) B n k).testBit i then 0 else C 6 i)) T ?_ ?_ _ 0 _ _ _ _ ?_ (by omega) ⟨rfl, rfl, rfl, fun _ _ _ => rfl, h13, fun i => by rw [show pu_ex (C 6) B n 0 = 0 from rfl, Nat.zero_testBit, if_neg (by decide)]⟩
  · rintro R q C' x1 x2 i3 hk ⟨rfl, rfl, rfl, g1, g2, g3⟩ hR
    rw [b7]
    refine p_ite (fun c => absurd c (by rw [t2 (by omega)]; exact nI_ge hk (by omega))) (fun _ => p_ltv (fun r1 er1 => p_ltv (fun r2 er2 => ?_)))
    have hx := pu_ex_lt (f := C 6) (B := B) hn i3
    have ho := pu_orm B hB _ hx
    have c9 : C' 9 0 = nI n := by rw [g1 9 (by decide) (by decide), h9]
    rw [g2, ho.1, pu_heavy c9 hn ho.2 (fun i hi => by
      rw [g3]; by_cases c : (pu_ex (C 6) B n i3).testBit i = true
      · rw [if_pos c]; exact ⟨0, by decide, rfl⟩
      · rw [if_neg c]; exact h6 i hi), pu_am_congr (q := fun i => !(B ||| pu_ex (C 6) B n i3).testBit i) (g := C 6) (fun i _ => rfl) (fun i hi hp => by
        have hp2 : (!(B ||| pu_ex (C 6) B n i3).testBit i) = true := hp
        rw [Nat.testBit_or] at hp2
        have : (pu_ex (C 6) B n i3).testBit i = false := by
          revert hp2; cases (pu_ex (C 6) B n i3).testBit i <;> cases B.testBit i <;> decide
        rw [g3, this, if_neg (by decide)])] at er1
    cases e : pu_am (fun i => !(B ||| pu_ex (C 6) B n i3).testBit i) (C 6) n with
    | none =>
      rw [e] at er1
      have : r2 = 0 := by rw [er2, er1]; rfl
      refine p_ite (fun c => absurd this c) (fun _ => ?_)
      have es := pu_ex_stop e (T - i3)
      rw [show i3 + (T - i3) = T by omega] at es
      exact k C' g1 (by rw [es]; exact g2) (fun i => by rw [es]; exact g3 i)
    | some j =>
      rw [e] at er1
      have er1' : r1 = nI j := er1
      have hj := (pu_am_some e).1
      have hr2 : r2 = 1 := by rw [er2, er1']; exact pu_has1 c9 hn hj
      refine p_ite (fun _ => ?_) (fun c => absurd (show ¬ r2 = 0 by rw [hr2]; decide) c)
      refine p_ltv (fun S eS => p_ltv (fun S2 eS2 => ?_))
      rw [g2, er1', (pu_orb _ hx j (by omega)).1, ← pu_ex1 e] at eS
      rw [er1', nI_clamp (by omega)] at eS2
      refine hR _ _ _ _ ⟨rfl, rfl, rfl, fun q h1 h2 => ?_, ?_, fun i => ?_⟩
      · rw [eS2, pu_un _ _ _ h1, eS, pu_un _ _ _ h2, g1 q h1 h2]
      · rw [eS2, pu_un _ _ _ (by decide), eS, pu_up, if_pos rfl, if_pos rfl]
      · rw [eS2, pu_up, if_pos rfl, eS, pu_un _ _ _ (by decide), g3, pu_ex1 e, pu_tor]
        by_cases c : i = j
        · rw [if_pos c, if_pos (by rw [decide_eq_true c.symm, Bool.or_true])]
        · rw [if_neg c, decide_eq_false (fun q => c q.symm), Bool.or_false]
  · rintro R C' x1 x2 i3 ⟨rfl, rfl, rfl, g1, g2, g3⟩
    rw [b7]
    exact p_ite (fun _ => k C' g1 g2 g3) (fun c => absurd t1 c)
  · rcases Nat.eq_zero_or_pos T with h0 | h0
    · omega
    · rw [t2 h0, nI_clamp (by omega)]; omega
def pu_db (p : Nat → Bool) (X : Nat) : Nat → Nat
  | 0 => X
  | k + 1 => if p k = true then pu_db p X k ||| 2 ^ k else pu_db p X k
theorem pu_db_lt {p : Nat → Bool} {X : Nat} (hX : X < 256) : ∀ k, k ≤ 8 → pu_db p X k < 256
  | 0, _ => hX
  | k + 1, h => by
    simp only [pu_db]
    by_cases c : p k = true
    · rw [if_pos c]; exact (pu_orb _ (pu_db_lt hX k (by omega)) k (by omega)).2
    · rw [if_neg c]; exact pu_db_lt hX k (by omega)
theorem pu_db_bit {p : Nat → Bool} {X i : Nat} : ∀ k, (pu_db p X k).testBit i = (X.testBit i || (decide (i < k) && p i))
  | 0 => by simp [pu_db]
  | k + 1 => by
    simp only [pu_db]
    by_cases c : p k = true
    · rw [if_pos c, pu_tor, pu_db_bit k]
      by_cases e : k = i
      · subst e; simp [c]
      · rw [decide_eq_false e, Bool.or_false]
        by_cases e2 : i < k
        · rw [decide_eq_true e2, decide_eq_true (show i < k + 1 by omega)]
        · rw [decide_eq_false e2, decide_eq_false (show ¬ i < k + 1 by omega)]
    · rw [if_neg c, pu_db_bit k]
      by_cases e : k = i
      · subst e; simp [c]
      · by_cases e2 : i < k
        · rw [decide_eq_true e2, decide_eq_true (show i < k + 1 by omega)]
        · rw [decide_eq_false e2, decide_eq_false (show ¬ i < k + 1 by omega)]
theorem pu_debt {P : Cst → Prop} {C : Cst} {X : Nat} (hX : X < 256) (h13 : C 13 0 = nI X) (k : ∀ C' : Cst, (∀ j, j ≠ 13 → C' j = C j) → C' 13 0 = nI (pu_db (fun i => decide (C 0 3 < C 3 i)) X 8) → P C') : P (sX0_excludeDebtors C) := by
  unfold sX0_excludeDebtors
  refine p_lz2 (Q9 := P) (fun B2 L2 b2 h2 => ?_)
  refine pl2 h2 (fun k C' i1 => i1 = k ∧ (∀ j, j ≠ 13 → C' j = C j) ∧ C' 13 0 = nI (pu_db (fun i => decide (C 0 3 < C 3 i)) X k)) 8 ?_ ?_ 9 0 _ _ (by decide) (by decide) ⟨rfl, fun _ _ => rfl, h13⟩
  · rintro R q C' i1 hk ⟨rfl, g1, g2⟩ hR
    rw [b2]
    refine p_ltv (fun K eK => p_ite (fun c => absurd c (pu_8n hk)) (fun _ => p_ite (fun c => ?_) (fun c => p_ltv (fun S eS => ?_))))
    · subst eK
      refine hR _ _ ⟨rfl, g1, ?_⟩
      rw [g1 3 (by decide), g1 0 (by decide)] at c
      rw [g2]; simp only [pu_db]; rw [if_neg (by simp [Int32.not_lt.mpr c])]
    · subst eK
      rw [g1 3 (by decide), g1 0 (by decide)] at c
      refine hR _ _ ⟨rfl, fun j hj => by rw [eS, pu_un _ _ _ hj]; exact g1 j hj, ?_⟩
      rw [eS, pu_up, if_pos rfl, if_pos rfl, g2, (pu_orb _ (pu_db_lt hX i1 (by omega)) i1 hk).1]
      simp only [pu_db]; rw [if_pos (by simp [Int32.not_le.mp c])]
  · rintro R C' i1 ⟨rfl, g1, g2⟩
    rw [b2]
    exact p_ltv (fun K eK => p_ite (fun _ => k C' g1 g2) (fun c => absurd pu_8y c))
theorem pu_note {P : Cst → Prop} {C : Cst} {X : Nat} (hX : X < 256) (h13 : C 13 0 = nI X) (k : ∀ C' : Cst, (∀ j, j ≠ 7 → C' j = C j) → (∀ i, i < 8 → C' 7 i = C 7 i + (if X.testBit i then 1 else 0)) → P C') : P (sX0_noteSeasonsOut C) := by
  unfold sX0_noteSeasonsOut
  refine p_lz2 (Q9 := P) (fun B2 L2 b2 h2 => ?_)
  refine pl2 h2 (fun k C' i1 => i1 = k ∧ (∀ j, j ≠ 7 → C' j = C j) ∧ (∀ i, C' 7 i = if i < k then C 7 i + (if X.testBit i then 1 else 0) else C 7 i)) 8 ?_ ?_ 9 0 _ _ (by decide) (by decide) ⟨rfl, fun _ _ => rfl, fun i => by rw [if_neg (by omega)]⟩
  · rintro R q C' i1 hk ⟨rfl, g1, g2⟩ hR
    rw [b2]
    refine p_ltv (fun K eK => p_ite (fun c => absurd c (pu_8n hk)) (fun _ => p_ltv (fun r er => ?_)))
    rw [pu_isOut (by rw [g1 13 (by decide)]; exact h13) hX hk] at er
    refine p_ite (fun c => ?_) (fun c => p_ltv (fun S eS => ?_))
    · subst eK
      have hb : ¬ X.testBit i1 = true := fun hh => by rw [er, if_pos hh] at c; exact pu_10 c
      refine hR _ _ ⟨rfl, g1, fun i => ?_⟩
      rw [g2]
      by_cases e : i = i1
      · rw [if_neg (show ¬ i < i1 by omega), if_pos (show i < i1 + 1 by omega), e, if_neg hb, Int32.add_zero]
      · by_cases e2 : i < i1
        · rw [if_pos e2, if_pos (show i < i1 + 1 by omega)]
        · rw [if_neg e2, if_neg (by omega)]
    · subst eK
      have hb : X.testBit i1 = true := Decidable.byContradiction (fun hh => c (by rw [er, if_neg hh]))
      refine hR _ _ ⟨rfl, fun j hj => by rw [eS, pu_un _ _ _ hj]; exact g1 j hj, fun i => ?_⟩
      rw [eS, pu_up, if_pos rfl, g2, g2]
      by_cases e : i = i1
      · rw [if_pos e, if_neg (by omega), if_pos (by omega), e, if_pos hb]
      · rw [if_neg e]
        by_cases e2 : i < i1
        · rw [if_pos e2, if_pos (show i < i1 + 1 by omega)]
        · rw [if_neg e2, if_neg (by omega)]
  · rintro R C' i1 ⟨rfl, g1, g2⟩
    rw [b2]
    exact p_ltv (fun K eK => p_ite (fun _ => k C' g1 (fun i hi => by rw [g2, if_pos hi])) (fun c => absurd pu_8y c))
theorem pu_book {P : Cst → Prop} {C : Cst} (k : ∀ C' : Cst, (∀ j, j ≠ 2 → j ≠ 5 → j ≠ 6 → C' j = C j) → (∀ i, i < 8 → C' 2 i = 0 ∧ C' 5 i = C 5 i + C 2 i ∧ C' 6 i = C 6 i + C 2 i) → P C') : P (sX0_bookUses C) := by
  unfold sX0_bookUses
  refine p_lz2 (Q9 := P) (fun B2 L2 b2 h2 => ?_)
  refine pl2 h2 (fun k C' i1 => i1 = k ∧ (∀ j, j ≠ 2 → j ≠ 5 → j ≠ 6 → C' j = C j) ∧ (∀ i, i < k → C' 2 i = 0 ∧ C' 5 i = C 5 i + C 2 i ∧ C' 6 i = C 6 i + C 2 i) ∧ (∀ i, k ≤ i → C' 2 i = C 2 i ∧ C' 5 i = C 5 i ∧ C' 6 i = C 6 i)) 8 ?_ ?_ 9 0 _ _ (by decide) (by decide) ⟨rfl, fun _ _ _ _ => rfl, fun i hi => absurd hi (Nat.not_lt_zero i), fun i _ => ⟨rfl, rfl, rfl⟩⟩
  · rintro R q C' i1 hk ⟨rfl, g1, g2, g3⟩ hR
    rw [b2]
    refine p_ite (fun c => absurd c (pu_8n hk)) (fun _ => p_ltv (fun S eS => p_ltv (fun S2 eS2 => p_ltv (fun S3 eS3 => ?_))))
    obtain ⟨z2, z5, z6⟩ := g3 i1 (Nat.le_refl _)
    have a2 : ∀ i, S3 2 i = if i = i1 then 0 else C' 2 i := fun i => by rw [eS3, pu_up, if_pos rfl, eS2, pu_un _ _ _ (by decide), eS, pu_un _ _ _ (by decide)]
    have a5 : ∀ i, S3 5 i = if i = i1 then C 5 i1 + C 2 i1 else C' 5 i := fun i => by rw [eS3, pu_un _ _ _ (by decide), eS2, pu_un _ _ _ (by decide), eS, pu_up, if_pos rfl, z5, z2]
    have a6 : ∀ i, S3 6 i = if i = i1 then C 6 i1 + C 2 i1 else C' 6 i := fun i => by rw [eS3, pu_un _ _ _ (by decide), eS2, pu_up, if_pos rfl, eS, pu_un _ _ _ (by decide), pu_un _ _ _ (by decide), z6, z2]
    refine hR _ _ ⟨rfl, fun j h1 h3 h4 => ?_, fun i hi => ?_, fun i hi => ?_⟩
    · rw [eS3, pu_un _ _ _ h1, eS2, pu_un _ _ _ h4, eS, pu_un _ _ _ h3, g1 j h1 h3 h4]
    · rw [a2, a5, a6]
      by_cases e : i = i1
      · rw [if_pos e, if_pos e, if_pos e, e]; exact ⟨rfl, rfl, rfl⟩
      · rw [if_neg e, if_neg e, if_neg e]; exact g2 i (by omega)
    · rw [a2, a5, a6, if_neg (by omega), if_neg (by omega), if_neg (by omega)]; exact g3 i (by omega)
  · rintro R C' i1 ⟨rfl, g1, g2, g3⟩
    rw [b2]
    exact p_ite (fun _ => k C' g1 g2) (fun c => absurd pu_8y c)
