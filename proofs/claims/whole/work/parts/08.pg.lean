/-! the pieces of a season's end: the reference -/
theorem pu_keeps {P : Cst → Prop} {M : Cst} {x1 x2 x3 x4 : Int32} (k : ∀ M' : Cst, (∀ j, j ≠ 0 → M' j = M j) → (∀ i, i < 77 → i ≠ 12 → M' 0 i = M 0 i) → M' 0 12 = (if M 0 12 = 6 then 6 else M 0 12 + 1) → M' 0 77 = x1 → M' 0 78 = x2 → M' 0 79 = x3 → M' 0 80 = M 0 7 → M' 0 81 = x4 → (∀ i, 82 ≤ i → i < 107 → M' 0 i = M 0 (i - 5)) → P M') : P (sX5_keeps M x1 x2 x3 x4) := by
  unfold sX5_keeps
  refine p_ltv (Q9 := P) (fun K117 e117 => p_ltv (fun K38 e38 => p_lz6 (fun B4 L4 b4 h4 => ?_)))
  refine pl6 h4 (fun k M' y1 y2 y3 y4 i5 => i5 + k = 29 ∧ y1 = x1 ∧ y2 = x2 ∧ y3 = x3 ∧ y4 = x4 ∧ (∀ j, j ≠ 0 → M' j = M j) ∧ (∀ i, M' 0 i = if 106 - k < i ∧ i ≤ 106 then M 0 (i - 5) else M 0 i)) 25 ?_ ?_ 26 0 _ _ _ _ _ _ (by decide) (by decide) ⟨rfl, rfl, rfl, rfl, rfl, fun _ _ => rfl, fun i => by rw [if_neg (by omega)]⟩
  · rintro R q M' y1 y2 y3 y4 i5 hk ⟨hi, rfl, rfl, rfl, rfl, g1, g2⟩ hR
    rw [b4]
    refine p_ite (fun c => absurd c (nI_ge (a := 4) (by omega) (by omega))) (fun _ => p_ltv (fun S eS => ?_))
    refine hR _ _ _ _ _ _ ⟨by omega, rfl, rfl, rfl, rfl, fun j hj => by rw [eS, pu_un _ _ _ hj]; exact g1 j hj, fun i => ?_⟩
    rw [eS, pu_up, if_pos rfl, g2, g2]
    by_cases e : i = 77 + i5
    · rw [if_pos e, if_neg (by omega), if_pos (by omega), e]
    · rw [if_neg e]
      by_cases c : 106 - q < i ∧ i ≤ 106
      · rw [if_pos c, if_pos (by omega)]
      · rw [if_neg c, if_neg (by omega)]
  · rintro R M' y1 y2 y3 y4 i5 ⟨hi, rfl, rfl, rfl, rfl, g1, g2⟩
    rw [b4]
    have hi4 : i5 = 4 := by omega
    subst hi4
    refine p_ite (fun _ => ?_) (fun c => absurd (show nI 4 ≤ (4 : Int32) from by decide) c)
    subst e38
    refine p_ltv (fun S1 e1 => p_ltv (fun S2 e2 => p_ltv (fun S3 e3 => p_ltv (fun S4 e4 => p_ltv (fun S5 e5 => ?_)))))
    have s5 : ∀ i, S5 0 i = if i = 81 then y4 else if i = 80 then M 0 7 else if i = 79 then y3 else if i = 78 then y2 else if i = 77 then y1 else if 81 < i ∧ i ≤ 106 then M 0 (i - 5) else M 0 i := by
      intro i
      have a7 : S3 0 7 = M 0 7 := by rw [e3, pu_up, if_pos rfl, if_neg (by decide), e2, pu_up, if_pos rfl, if_neg (by decide), e1, pu_up, if_pos rfl, if_neg (by decide), g2, if_neg (by decide)]
      rw [e5, pu_up, if_pos rfl, e4, pu_up, if_pos rfl, a7, e3, pu_up, if_pos rfl, e2, pu_up, if_pos rfl, e1, pu_up, if_pos rfl, g2]
    have sj : ∀ j, j ≠ 0 → S5 j = M j := fun j hj => by rw [e5, pu_un _ _ _ hj, e4, pu_un _ _ _ hj, e3, pu_un _ _ _ hj, e2, pu_un _ _ _ hj, e1, pu_un _ _ _ hj, g1 j hj]
    clear e1 e2 e3 e4 e5
    have s12 : S5 0 12 = M 0 12 := by rw [s5]; simp
    have fin : ∀ v, v = (if M 0 12 = 6 then 6 else M 0 12 + 1) → P (up S5 0 12 v) := by
      intro v hv
      refine k _ (fun j hj => (pu_un _ _ _ hj).trans (sj j hj)) (fun i h1 h2 => ?_) ?_ ?_ ?_ ?_ ?_ ?_ (fun i h1 h2 => ?_)
      · rw [pu_up, if_pos rfl, if_neg h2, s5, if_neg (by omega), if_neg (by omega), if_neg (by omega), if_neg (by omega), if_neg (by omega), if_neg (by omega)]
      · rw [pu_up, if_pos rfl, if_pos rfl, hv]
      · rw [pu_up, if_pos rfl, if_neg (by decide), s5]; rfl
      · rw [pu_up, if_pos rfl, if_neg (by decide), s5]; rfl
      · rw [pu_up, if_pos rfl, if_neg (by decide), s5]; rfl
      · rw [pu_up, if_pos rfl, if_neg (by decide), s5]; rfl
      · rw [pu_up, if_pos rfl, if_neg (by decide), s5]; rfl
      · rw [pu_up, if_pos rfl, if_neg (by omega), s5, if_neg (by omega), if_neg (by omega), if_neg (by omega), if_neg (by omega), if_neg (by omega), if_pos (by omega)]
    refine p_ite (fun c => ?_) (fun c => ?_)
    · subst e117
      refine p_ltv (fun S6 e6 => ?_)
      rw [e6]; exact fin _ (by rw [s12] at c ⊢; rw [if_neg c])
    · subst e117
      refine p_ltv (fun S6 e6 => ?_)
      rw [e6]; exact fin _ (by rw [s12] at c; rw [if_pos (Decidable.not_not.mp c)])
theorem pu_tnR {l h n : Nat} (h0 : 0 < n) (hn : n ≤ 8) (h1 : l ≤ 100) (h2 : h ≤ 100) : (if (if nI l ≤ nI h then (0 : Int32) else ((nI l - nI h) + 9) / 10) ≤ nI n - 1 then (if nI l ≤ nI h then (0 : Int32) else ((nI l - nI h) + 9) / 10) else nI n - 1) = nI (pu_tn l h n) := by
  have e1 : nI n - 1 = nI (n - 1) := by rw [show n = (n - 1) + 1 by omega, nI_pred]; rfl
  rw [e1]
  unfold pu_tn
  by_cases c : h < l
  · rw [if_neg (nI_ge c (by omega)), if_pos c, nI_sub (by omega), show (9 : Int32) = nI 9 from rfl, nI_add, show (10 : Int32) = nI 10 from rfl, pk_div (by omega) (by decide) (by decide)]
    by_cases c2 : (l - h + 9) / 10 ≤ n - 1
    · rw [if_pos (nI_le c2 (by omega)), show min ((l - h + 9) / 10) (n - 1) = (l - h + 9) / 10 by omega]
    · rw [if_neg (nI_ge (by omega) (by omega)), show min ((l - h + 9) / 10) (n - 1) = n - 1 by omega]
  · rw [if_pos (nI_le (by omega) (by omega)), if_neg c, if_pos (show (0 : Int32) ≤ nI (n - 1) from nI_pos' (by omega))]; rfl
theorem pu_excl {P : Cst → Prop} {M : Cst} {n l h B X : Nat} (h5 : M 0 5 = nI n) (hl : M 0 1 = nI l) (hh : M 0 7 = nI h) (h0 : 0 < n) (hn : n ≤ 8) (hl1 : l ≤ 100) (hh1 : h ≤ 100) (hB : B < 256) (eX : X = pu_ex (fun i => M 0 (13 + 8 * i + 5)) B n (pu_tn l h n)) (k : ∀ M' : Cst, (∀ j, j ≠ 0 → M' j = M j) → (∀ i, i < n → M' 0 (13 + 8 * i + 5) = (if X.testBit i then 0 else M 0 (13 + 8 * i + 5)) ∧ M' 0 (13 + 8 * i + 6) = (if (X.testBit i || decide (M 0 3 < M 0 (13 + 8 * i + 2))) = true then 1 else 0) ∧ M' 0 (13 + 8 * i + 7) = M 0 (13 + 8 * i + 7) + (if (X.testBit i || decide (M 0 3 < M 0 (13 + 8 * i + 2))) = true then 1 else 0)) → (∀ j, (∀ i, i < n → j ≠ 13 + 8 * i + 5 ∧ j ≠ 13 + 8 * i + 6 ∧ j ≠ 13 + 8 * i + 7) → M' 0 j = M 0 j) → P M') : P (sX5_excludes M (nI B)) := by
  have hX : X < 256 := by rw [eX]; exact pu_ex_lt hn _
  unfold sX5_excludes
  refine p_lz3 (Q9 := P) (fun B177 L177 b177 h177 => p_ltv (fun K174 e174 => p_lz5 (fun B71 L71 b71 h71 => p_ltv (fun K65 e65 => p_ltv (fun K40 e40 => ?_)))))
  have last : P (K174 M (nI X)) := by
    subst e174
    refine pl3 h177 (fun q M' x3 i4 => i4 = q ∧ x3 = nI X ∧ (∀ j, j ≠ 0 → M' j = M j) ∧ (∀ i, i < n → if i < q then M' 0 (13 + 8 * i + 5) = (if X.testBit i then 0 else M 0 (13 + 8 * i + 5)) ∧ M' 0 (13 + 8 * i + 6) = (if (X.testBit i || decide (M 0 3 < M 0 (13 + 8 * i + 2))) = true then 1 else 0) ∧ M' 0 (13 + 8 * i + 7) = M 0 (13 + 8 * i + 7) + (if (X.testBit i || decide (M 0 3 < M 0 (13 + 8 * i + 2))) = true then 1 else 0) else M' 0 (13 + 8 * i + 5) = M 0 (13 + 8 * i + 5) ∧ M' 0 (13 + 8 * i + 7) = M 0 (13 + 8 * i + 7)) ∧ (∀ j, (∀ i, i < n → j ≠ 13 + 8 * i + 5 ∧ j ≠ 13 + 8 * i + 6 ∧ j ≠ 13 + 8 * i + 7) → M' 0 j = M 0 j)) n ?_ ?_ 9 0 _ _ _ (by omega) (by omega) ⟨rfl, rfl, fun _ _ => rfl, fun i hi => by rw [if_neg (by omega)]; exact ⟨rfl, rfl⟩, fun _ _ => rfl⟩
    · rintro R q M' x3 i4 hk ⟨rfl, rfl, g1, g2, g3⟩ hR
      rw [b177]
      have c5 : M' 0 5 = nI n := by rw [g3 5 (fun i _ => by omega), h5]
      have c2 : M' 0 (13 + 8 * i4 + 2) = M 0 (13 + 8 * i4 + 2) := g3 _ (fun i _ => by omega)
      have c3 : M' 0 3 = M 0 3 := g3 _ (fun i _ => by omega)
      have c57 := g2 i4 hk
      rw [if_neg (by omega)] at c57
      refine p_ltv (fun K259 e259 => p_ltv (fun K254 e254 => p_ltv (fun K225 e225 => p_ltv (fun K203 e203 => ?_))))
      have k259 : ∀ S b, b = (if (X.testBit i4 || decide (M 0 3 < M 0 (13 + 8 * i4 + 2))) = true then 1 else 0) → (∀ j, j ≠ 0 → S j = M j) → (∀ j, S 0 j = if j = 13 + 8 * i4 + 5 then (if X.testBit i4 then 0 else M 0 (13 + 8 * i4 + 5)) else M' 0 j) → P (K259 S (nI X) i4 b i4) := by
        intro S b hb s1 s2
        subst e259
        refine p_ltv (fun T eT => p_ltv (fun r7 er7 => p_ltv (fun r6 er6 => p_ltv (fun U eU => ?_))))
        have eT2 : T = up S 0 (13 + 8 * i4 + 6) b := eT
        have er7' : r7 = M 0 (13 + 8 * i4 + 7) := by rw [er7]; show T 0 _ = _; rw [eT2, pu_up, if_pos rfl, if_neg (by omega), s2, if_neg (by omega)]; exact c57.2
        have er6' : r6 = b := by rw [er6]; show T 0 _ = _; rw [eT2, pu_up, if_pos rfl, if_pos rfl]
        have eU2 : U = up T 0 (13 + 8 * i4 + 7) (r7 + r6) := eU
        have uu : ∀ j, U 0 j = if j = 13 + 8 * i4 + 7 then M 0 (13 + 8 * i4 + 7) + b else if j = 13 + 8 * i4 + 6 then b else if j = 13 + 8 * i4 + 5 then (if X.testBit i4 then 0 else M 0 (13 + 8 * i4 + 5)) else M' 0 j := fun j => by rw [eU2, pu_up, if_pos rfl, er7', er6', eT2, pu_up, if_pos rfl, s2]
        refine hR _ _ _ ⟨rfl, rfl, fun j hj => by rw [eU2, pu_un _ _ _ hj, eT2, pu_un _ _ _ hj, s1 j hj], fun i hi => ?_, fun j hj => ?_⟩
        · by_cases e : i = i4
          · subst e
            rw [if_pos (by omega)]
            refine ⟨?_, ?_, ?_⟩
            · rw [uu, if_neg (by omega), if_neg (by omega), if_pos rfl]
            · rw [uu, if_neg (by omega), if_pos rfl, hb]
            · rw [uu, if_pos rfl, hb]
          · have u5 : U 0 (13 + 8 * i + 5) = M' 0 (13 + 8 * i + 5) := by rw [uu, if_neg (by omega), if_neg (by omega), if_neg (by omega)]
            have u6 : U 0 (13 + 8 * i + 6) = M' 0 (13 + 8 * i + 6) := by rw [uu, if_neg (by omega), if_neg (by omega), if_neg (by omega)]
            have u7 : U 0 (13 + 8 * i + 7) = M' 0 (13 + 8 * i + 7) := by rw [uu, if_neg (by omega), if_neg (by omega), if_neg (by omega)]
            rw [u5, u6, u7]
            have := g2 i hi
            by_cases e2 : i < i4
            · rw [if_pos e2] at this; rw [if_pos (by omega)]; exact this
            · rw [if_neg e2] at this; rw [if_neg (by omega)]; exact this
        · obtain ⟨q1, q2, q3⟩ := hj i4 hk
          rw [uu, if_neg q3, if_neg q2, if_neg q1]; exact g3 j hj
      have k254 : ∀ S, (X.testBit i4 || decide (M 0 3 < M 0 (13 + 8 * i4 + 2))) = true → (∀ j, j ≠ 0 → S j = M j) → (∀ j, S 0 j = if j = 13 + 8 * i4 + 5 then (if X.testBit i4 then 0 else M 0 (13 + 8 * i4 + 5)) else M' 0 j) → P (K254 S (nI X) i4 i4) := by
        intro S hb s1 s2
        subst e254
        exact k259 S 1 (by rw [if_pos hb]) s1 s2
      have k225 : ∀ y v, v = (if X.testBit i4 then 0 else M 0 (13 + 8 * i4 + 5)) → (¬ y = 0 ↔ X.testBit i4 = true) → P (K225 M' (nI X) i4 y v i4) := by
        intro y v hv hy
        subst e225
        refine p_ltv (fun S eS => ?_)
        have eS2 : S = up M' 0 (13 + 8 * i4 + 5) v := eS
        have s1 : ∀ j, j ≠ 0 → S j = M j := fun j hj => by rw [eS2, pu_un _ _ _ hj, g1 j hj]
        have s2 : ∀ j, S 0 j = if j = 13 + 8 * i4 + 5 then (if X.testBit i4 then 0 else M 0 (13 + 8 * i4 + 5)) else M' 0 j := fun j => by rw [eS2, pu_up, if_pos rfl, hv]
        refine p_ite (fun c => k254 S (by rw [hy.mp c]; rfl) s1 s2) (fun c => p_ltv (fun r er => ?_))
        have er' : r = M 0 (13 + 8 * i4 + 2) := by rw [er]; show S 0 _ = _; rw [s2, if_neg (by omega), c2]
        have hb : X.testBit i4 = false := by
          cases hx : X.testBit i4 with
          | true => exact absurd (hy.mpr hx) c
          | false => rfl
        refine p_ite (fun c4 => k259 S 0 ?_ s1 s2) (fun c4 => k254 S ?_ s1 s2)
        · rw [er', s2 3, if_neg (by omega), c3] at c4
          rw [hb, decide_eq_false (Int32.not_lt.mpr c4), if_neg (by decide)]
        · rw [er', s2 3, if_neg (by omega), c3] at c4
          rw [decide_eq_true (Int32.not_le.mp c4), Bool.or_true]
      refine p_ite (fun c => absurd c (by rw [c5]; exact pu_5n hk hn)) (fun _ => ?_)
      rw [pu_bits X hX i4 (by omega)]
      refine p_ite (fun c => ?_) (fun c => ?_)
      · have hb : ¬ X.testBit i4 = true := fun q => c (by rw [if_pos q])
        subst e203
        refine p_ite (fun _ => p_ltv (fun r er => ?_)) (fun c => absurd rfl c)
        have er' : r = M 0 (13 + 8 * i4 + 5) := er.trans c57.1
        exact k225 0 r (by rw [er', if_neg hb]) ⟨fun q => absurd rfl q, fun q => absurd q hb⟩
      · have hb : X.testBit i4 = true := Decidable.byContradiction (fun q => c (by rw [if_neg q]; decide))
        subst e203
        refine p_ite (fun c => absurd c (by decide)) (fun _ => ?_)
        exact k225 1 0 (by rw [if_pos hb]) ⟨fun _ => hb, fun _ => by decide⟩
    · rintro R M' x3 i4 ⟨rfl, rfl, g1, g2, g3⟩
      rw [b177]
      have c5 : M' 0 5 = nI i4 := by rw [g3 5 (fun i _ => by omega), h5]
      refine p_ltv (fun K259 e259 => p_ltv (fun K254 e254 => p_ltv (fun K225 e225 => p_ltv (fun K203 e203 => p_ite (fun _ => k M' g1 (fun i hi => ?_) g3) (fun c => absurd (show M' 0 5 ≤ nI i4 by rw [c5]; exact nI_le (Nat.le_refl _) (by omega)) c)))))
      have := g2 i hi
      rw [if_pos hi] at this; exact this
  have ht100 : pu_tn l h n ≤ 100 := by unfold pu_tn; split <;> omega
  have outer : P (K65 M (nI B) (nI (pu_tn l h n))) := by
    subst e65
    show P (L71 ((nI (pu_tn l h n)).toNatClampNeg + 1) M (nI B) (nI (pu_tn l h n)) 0 0)
    rw [nI_clamp (by omega)]
    refine pl5 h71 (fun q M' x1 x2 x3 i4 => i4 = q ∧ M' = M ∧ x1 = nI B ∧ x2 = nI (pu_tn l h n) ∧ x3 = nI (pu_ex (fun i => M 0 (13 + 8 * i + 5)) B n q)) (pu_tn l h n) ?_ ?_ _ 0 _ _ _ _ _ (by omega) (by omega) ⟨rfl, rfl, rfl, rfl, rfl⟩
    · rintro R q M' x1 x2 x3 i4 hk ⟨rfl, rfl, rfl, rfl, rfl⟩ hR
      rw [b71]
      have hx := pu_ex_lt (f := fun i => M' 0 (13 + 8 * i + 5)) (B := B) hn i4
      generalize hE : pu_ex (fun i => M' 0 (13 + 8 * i + 5)) B n i4 = E at *
      have ho := pu_orm B hB E hx
      refine p_ltv (fun K168 e168 => p_ltv (fun K156 e156 => p_lz7 (fun B85 L85 b85 h85 => p_ite (fun c => absurd c (nI_ge hk (by omega))) (fun _ => ?_))))
      refine pl7 h85 (fun q M2 x1 x2 x3 i4' x5 i6 => i6 = q ∧ M2 = M' ∧ x1 = nI B ∧ x2 = nI (pu_tn l h n) ∧ x3 = nI E ∧ i4' = i4 ∧ x5 = pu_oc (-10004) nI (pu_am (fun i => !(B ||| E).testBit i) (fun i => M' 0 (13 + 8 * i + 5)) q)) n ?_ ?_ 9 0 _ _ _ _ _ _ _ (by omega) (by omega) ⟨rfl, rfl, rfl, rfl, rfl, rfl, rfl⟩
      · rintro R2 q M2 x1 x2 x3 i4' x5 i6 hk2 ⟨rfl, rfl, rfl, rfl, rfl, rfl, rfl⟩ hR2
        rw [b85]
        refine p_ltv (fun K148 e148 => p_ltv (fun K146 e146 => p_ltv (fun K141 e141 => p_ltv (fun K124 e124 => p_ltv (fun K112 e112 => ?_)))))
        have k148 : ∀ v, v = pu_oc (-10004) nI (pu_am (fun i => !(B ||| E).testBit i) (fun i => M2 0 (13 + 8 * i + 5)) (i6 + 1)) → P (K148 M2 (nI B) (nI (pu_tn l h n)) (nI E) i4' i6 v) := by
          intro v hv
          subst e148
          exact hR2 _ _ _ _ _ _ _ ⟨rfl, rfl, rfl, rfl, rfl, rfl, hv⟩
        have k146 : ∀ v, v = pu_oc (-10004) nI (pu_am (fun i => !(B ||| E).testBit i) (fun i => M2 0 (13 + 8 * i + 5)) (i6 + 1)) → P (K146 M2 (nI B) (nI (pu_tn l h n)) (nI E) i4' v i6) := by
          intro v hv
          subst e146
          exact k148 _ hv
        have k141 : nI i6 = pu_oc (-10004) nI (pu_am (fun i => !(B ||| E).testBit i) (fun i => M2 0 (13 + 8 * i + 5)) (i6 + 1)) → P (K141 M2 (nI B) (nI (pu_tn l h n)) (nI E) i4' i6) := by
          intro hv
          subst e141
          exact k148 _ hv
        refine p_ite (fun c => absurd c (by rw [h5]; exact pu_5n hk2 hn)) (fun _ => ?_)
        rw [ho.1, pu_bits _ ho.2 i6 (by omega)]
        refine p_ite (fun c => ?_) (fun c => ?_)
        · have hb : (B ||| E).testBit i6 = true := Decidable.byContradiction (fun q => c (by rw [if_neg q]))
          subst e112
          refine p_ite (fun _ => k146 _ ?_) (fun c => absurd rfl c)
          rw [pu_am0 (by simp [hb])]
        · have hb : ¬ (B ||| E).testBit i6 = true := fun q => c (by rw [if_pos q]; decide)
          have hp : (fun i => !(B ||| E).testBit i) i6 = true := by simp [hb]
          subst e112
          refine p_ite (fun c => absurd c (by decide)) (fun _ => ?_)
          cases e : pu_am (fun i => !(B ||| E).testBit i) (fun i => M2 0 (13 + 8 * i + 5)) i6 with
          | none =>
            refine p_ite (fun _ => k141 ?_) (fun c => absurd (show (-10004 : Int32) < 0 from pu_n4) c)
            rw [pu_am1 hp e]; rfl
          | some j =>
            have hj := (pu_am_some e).1
            refine p_ite (fun c => absurd c (nI_pos (n := j) (by omega))) (fun _ => ?_)
            show P (K124 M2 (nI B) (nI (pu_tn l h n)) (nI E) i4' (nI j).toNatClampNeg i6)
            rw [nI_clamp (by omega)]
            subst e124
            refine p_ltv (fun r er => p_ltv (fun r2 er2 => p_ite (fun c => k146 _ ?_) (fun c => k141 ?_)))
            · rw [pu_am3 hp e (Int32.not_lt.mpr (by rw [er, er2] at c; exact c))]; rfl
            · rw [pu_am2 hp e (by rw [er, er2] at c; exact Int32.not_le.mp c)]; rfl
      · rintro R2 M2 x1 x2 x3 i4' x5 i6 ⟨rfl, rfl, rfl, rfl, rfl, rfl, rfl⟩
        rw [b85]
        refine p_ltv (fun K148 e148 => p_ltv (fun K146 e146 => p_ltv (fun K141 e141 => p_ltv (fun K124 e124 => p_ltv (fun K112 e112 => p_ite (fun _ => ?_) (fun c => absurd (show M2 0 5 ≤ nI i6 by rw [h5]; exact nI_le (Nat.le_refl _) (by omega)) c))))))
        subst e156
        cases e : pu_am (fun i => !(B ||| E).testBit i) (fun i => M2 0 (13 + 8 * i + 5)) i6 with
        | none =>
          refine p_ite (fun _ => ?_) (fun c => absurd (show (-10004 : Int32) < 0 from pu_n4) c)
          subst e168
          refine hR _ _ _ _ _ ⟨rfl, rfl, rfl, rfl, ?_⟩
          rw [pu_ex0 (by rw [hE]; exact e), hE]
        | some j =>
          have hj := (pu_am_some e).1
          refine p_ite (fun c => absurd c (nI_pos (n := j) (by omega))) (fun _ => p_ltv (fun v ev => ?_))
          subst e168
          refine hR _ _ _ _ _ ⟨rfl, rfl, rfl, rfl, ?_⟩
          rw [pu_ex1 (by rw [hE]; exact e), hE, ev]
          exact (pu_orb E hx j (by omega)).1
    · rintro R M' x1 x2 x3 i4 ⟨rfl, rfl, rfl, rfl, rfl⟩
      rw [b71]
      refine p_ltv (fun K168 e168 => p_ltv (fun K156 e156 => p_lz7 (fun B85 L85 b85 h85 => p_ite (fun _ => ?_) (fun c => absurd (nI_le (Nat.le_refl _) (by omega)) c))))
      rw [← eX]; exact last
  have k40 : ∀ v, v = (if nI l ≤ nI h then (0 : Int32) else ((nI l - nI h) + 9) / 10) → P (K40 M (nI B) v) := by
    intro v hv
    have := pu_tnR h0 hn hl1 hh1
    rw [← hv] at this
    subst e40
    refine p_ite (fun c => ?_) (fun c => ?_)
    · rw [h5] at c; rw [if_pos c] at this; rw [this]; exact outer
    · rw [h5] at c; rw [if_neg c] at this; rw [h5, this]; exact outer
  refine p_ite (fun c => ?_) (fun c => ?_)
  · rw [hl, hh] at c; exact k40 _ (by rw [if_pos c])
  · rw [hl, hh] at c; exact k40 _ (by rw [if_neg c, hl, hh])
