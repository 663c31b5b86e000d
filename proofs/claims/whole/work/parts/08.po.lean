/-! the calls that change, undo, the text's length -/
theorem pu_Gmember {f : Nat} {S : Xst} {M : Cst} (x : Int32) (hR : RelS f S M) : (sX4_member S x).1 = (sX5_member M x).1 ∧ RelS (f + 60000) (sX4_member S x).2 (sX5_member M x).2 := by
  have hc := pu_hc hR
  obtain ⟨n, t, hl, m, g, h1, h2, h3⟩ := RF_mono (show f ≤ f + 60000 by omega) hR.1
  exact pu_doneQ hR (by omega) (pu_CMDmember x hc h1 h2 h3)
theorem pu_Guse {f : Nat} {S : Xst} {M : Cst} (x y : Int32) (hR : RelS f S M) : (sX4_use S x y).1 = (sX5_use M x y).1 ∧ RelS (f + 60000) (sX4_use S x y).2 (sX5_use M x y).2 := by
  have hc := pu_hc hR
  obtain ⟨n, t, hl, m, g, h1, h2, h3⟩ := RF_mono (show f ≤ f + 60000 by omega) hR.1
  exact pu_doneQ hR (by omega) (pu_CMDuse x y hc h1 h2 h3)
theorem pu_Gclose {f : Nat} {S : Xst} {M : Cst} (hR : RelS f S M) : (sX4_close S).1 = (sX5_close M).1 ∧ RelS (f + 60000) (sX4_close S).2 (sX5_close M).2 := by
  have hc := pu_hc hR
  obtain ⟨n, t, hl, m, g, h1, h2, h3⟩ := RF_mono (show f ≤ f + 60000 by omega) hR.1
  exact pu_doneQ hR (by omega) (pu_CMDclose hc h1 (by decide) h1 h2 h3)
theorem pu_Gpay {f : Nat} {S : Xst} {M : Cst} (x y : Int32) (hR : RelS f S M) : (sX4_pay S x y).1 = (sX5_pay M x y).1 ∧ RelS (f + 60000) (sX4_pay S x y).2 (sX5_pay M x y).2 := by
  have hc := pu_hc hR
  obtain ⟨n, t, hl, m, g, h1, h2, h3⟩ := hR.1
  obtain ⟨z1, z2⟩ := pu_doneQ hR (by omega) (pu_CMDpay x y hc h1 h2 h3)
  exact ⟨z1, RelS_mono (by omega) z2⟩
theorem pu_Grepair {f : Nat} {S : Xst} {M : Cst} (x : Int32) (hf : f + 60000 < 2 ^ 30) (hR : RelS f S M) : (sX4_repair S x).1 = (sX5_repair M x).1 ∧ RelS (f + 60000) (sX4_repair S x).2 (sX5_repair M x).2 := by
  have hc := pu_hc hR
  obtain ⟨n, t, hl, m, g, h1, h2, h3⟩ := RF_mono (show f ≤ f + 60000 by omega) hR.1
  exact pu_doneQ hR (by omega) (pu_CMDrepair x hc h1 h2 hf h3)
theorem pu_Gset {f : Nat} {S : Xst} {M : Cst} (x y : Int32) (hR : RelS f S M) : (sX4_set S x y).1 = (sX5_set M x y).1 ∧ RelS (f + 60000) (sX4_set S x y).2 (sX5_set M x y).2 := by
  have hc := pu_hc hR
  obtain ⟨n, t, hl, m, g, h1, h2, h3⟩ := RF_mono (show f ≤ f + 60000 by omega) hR.1
  exact pu_doneQ hR (by omega) (pu_CMDset x y hc h1 h2 h3)
theorem pu_undoR {P : Int32 × Cst → Prop} {M : Cst} {p : Nat} (hp : p ≤ 4) (h3 : M 3 0 = nI p) (k0 : p = 0 → P ((-10002), M)) (k1 : 0 < p → ∀ M' : Cst, (∀ j, j ≠ 0 → j ≠ 3 → M' j = M j) → M' 3 0 = nI (p - 1) → (∀ i, i < 107 → M' 0 i = M 1 (107 * (p - 1) + i)) → P (nI (p - 1), M')) : P (sX5_undo M) := by
  unfold sX5_undo
  refine p_lz2 (Q9 := P) (fun B Z hB hZ => p_ite (fun c => p_ltv (fun S eS => ?_)) (fun c => ?_))
  · have hp0 : 0 < p := by
      rcases Nat.eq_zero_or_pos p with h | h
      · exact absurd (by rw [h3, h]; rfl) c
      · exact h
    have s3 : S 3 0 = nI (p - 1) := by rw [eS, pu_up, if_pos rfl, if_pos rfl, h3, show p = (p - 1) + 1 by omega, nI_pred]; rfl
    have sj : ∀ j, j ≠ 3 → S j = M j := fun j hj => by rw [eS, pu_un _ _ _ hj]
    refine pl2 hZ (fun q C i => i = q ∧ (∀ j, j ≠ 0 → C j = S j) ∧ ∀ i, i < q → C 0 i = M 1 (107 * (p - 1) + i)) 107 ?_ ?_ 108 0 _ _ (by decide) (by decide) ⟨rfl, fun _ _ => rfl, fun i hi => absurd hi (Nat.not_lt_zero i)⟩
    · rintro R q C i hq ⟨rfl, g1, g2⟩ hR
      rw [hB]
      refine p_ite (fun c => absurd c (nI_ge (b := 107) hq (by decide))) (fun _ => p_ltv (fun T eT => ?_))
      have e : (107 * C 3 0 + nI i).toNatClampNeg = 107 * (p - 1) + i := by
        rw [g1 3 (by decide), s3, show (107 : Int32) = nI 107 from rfl, nI_mul, nI_add, nI_clamp (by omega)]
      rw [e, g1 1 (by decide), sj 1 (by decide)] at eT
      refine hR _ _ ⟨rfl, fun j hj => by rw [eT, pu_un _ _ _ hj, g1 j hj], fun i' hi' => ?_⟩
      rw [eT, pu_up, if_pos rfl]
      by_cases e2 : i' = i
      · rw [if_pos e2, e2]
      · rw [if_neg e2]; exact g2 i' (by omega)
    · rintro R C i ⟨rfl, g1, g2⟩
      rw [hB]
      refine p_ite (fun _ => ?_) (fun c => absurd (show (107 : Int32) ≤ nI 107 from by decide) c)
      rw [g1 3 (by decide), s3]
      exact k1 hp0 C (fun j h0 h3' => by rw [g1 j h0, sj j h3']) (by rw [g1 3 (by decide), s3]) g2
  · refine k0 ?_
    rcases Nat.eq_zero_or_pos p with h | h
    · exact h
    · exact absurd (show ¬ M 3 0 = 0 by rw [h3]; exact nI_ne0 h (by omega)) c
theorem pu_undoC {P : Int32 × Xst → Prop} {S : Xst} {o p : Nat} (ho : o ≤ 3) (hp : p ≤ 4) (h1 : S 2 1 0 = nI o) (h2 : S 2 2 0 = nI p) (k0 : p = 0 → P ((-10002), S)) (k1 : 0 < p → ∀ X : Xst, (∀ j, j ≠ 0 → j ≠ 2 → X j = S j) → X 2 1 0 = nI o → X 2 2 0 = nI (p - 1) → X 0 = S (3 + (o + (p - 1)) % 4) → P (nI (p - 1), X)) : P (sX4_undo S) := by
  unfold sX4_undo
  refine p_ite (Q9 := P) (fun c => p_ltv (fun X eX => ?_)) (fun c => ?_)
  · have hp0 : 0 < p := by
      rcases Nat.eq_zero_or_pos p with h | h
      · exact absurd (by rw [h2, h]; rfl) c
      · exact h
    have key : (∀ j, j ≠ 0 → j ≠ 2 → X j = S j) ∧ X 2 1 0 = nI o ∧ X 2 2 0 = nI (p - 1) ∧ X 0 = S (3 + (o + (p - 1)) % 4) := by
      rw [eX]
      unfold sX1_restoreLatest
      have fin : ∀ Q9 : Xst → Prop, (∀ Y : Xst, (∀ j, j ≠ 0 → j ≠ 2 → Y j = S j) → Y 2 1 0 = nI o → Y 2 2 0 = nI (p - 1) → Y 0 = S (3 + (o + (p - 1)) % 4) → Q9 Y) → Q9 (sX1_restoreLatest S) := by
        intro Q9 kk
        unfold sX1_restoreLatest
        refine p_ite (fun _ => p_ltv (fun S1 e1 => ?_)) (fun c => absurd (show (1 : Int32) ≤ S 2 2 0 by rw [h2]; exact nI_le (a := 1) hp0 (by omega)) c)
        have q2 : S1 2 1 0 = nI o := by rw [e1, upx_self, pu_un _ _ _ (by decide), h1]
        have q3 : S1 2 2 0 = nI (p - 1) := by rw [e1, upx_self, pu_up, if_pos rfl, if_pos rfl, h2, show p = (p - 1) + 1 by omega, nI_pred]; rfl
        have qj : ∀ j, j ≠ 2 → S1 j = S j := fun j hj => by rw [e1, pu_upxn _ _ hj]
        have ev : (S1 2 1 0 + S1 2 2 0) % 4 = nI ((o + (p - 1)) % 4) := by rw [q2, q3, nI_add, pu_mod4 (by omega)]
        have hm := Nat.mod_lt (o + (p - 1)) (show 0 < 4 by decide)
        have put : ∀ z, (o + (p - 1)) % 4 = z → Q9 (ltv (upx S1 0 (sX0_takeOver (S1 0) (S1 (3 + z)))) (fun (S_42 : Xst) => S_42)) := by
          intro z hz
          refine p_ltv (fun T eT => kk T (fun j z0 z2 => ?_) ?_ ?_ ?_)
          · rw [eT, pu_upxn _ _ z0, qj j z2]
          · rw [eT, pu_upxn _ _ (by decide), q2]
          · rw [eT, pu_upxn _ _ (by decide), q3]
          · rw [eT, upx_self, hz]
            show S1 (3 + z) = _
            exact qj _ (by omega)
        have hc : (o + (p - 1)) % 4 = 0 ∨ (o + (p - 1)) % 4 = 1 ∨ (o + (p - 1)) % 4 = 2 ∨ (o + (p - 1)) % 4 = 3 := by omega
        rw [ev]
        rcases hc with hz | hz | hz | hz <;> rw [hz]
        · exact put 0 hz
        · exact put 1 hz
        · exact put 2 hz
        · exact put 3 hz
      exact fin (fun X => (∀ j, j ≠ 0 → j ≠ 2 → X j = S j) ∧ X 2 1 0 = nI o ∧ X 2 2 0 = nI (p - 1) ∧ X 0 = S (3 + (o + (p - 1)) % 4)) (fun Y a b c d => ⟨a, b, c, d⟩)
    obtain ⟨x1, x2, x3, x4⟩ := key
    rw [x3]
    exact k1 hp0 X x1 x2 x3 x4
  · refine k0 ?_
    rcases Nat.eq_zero_or_pos p with h | h
    · exact h
    · exact absurd (show ¬ S 2 2 0 = 0 by rw [h2]; exact nI_ne0 h (by omega)) c
def ALK (f : Nat) (a : Int32 × Xst) (b : Int32 × Cst) : Prop := a.1 = b.1 ∧ RelS f a.2 b.2
theorem pu_Gundo {f : Nat} {S : Xst} {M : Cst} (hR : RelS f S M) : ALK f (sX4_undo S) (sX5_undo M) := by
  have hR' := hR
  obtain ⟨h1, h2, ⟨o, p, a1, a2, a3, a4, a5, a6⟩, ⟨L, b1, b2, b3, b4⟩⟩ := hR
  refine pu_undoC (P := fun a => ALK f a (sX5_undo M)) a1 a2 a3 a4 (fun h0 => ?_) (fun h0 X x1 x2 x3 x4 => ?_)
  · exact pu_undoR (P := ALK f ((-10002), S)) a2 a5 (fun _ => ⟨rfl, hR'⟩) (fun h => by omega)
  · refine pu_undoR (P := ALK f (nI (p - 1), X)) a2 a5 (fun h => by omega) (fun _ M' m1 m3 m0 => ⟨rfl, ?_, ?_, ⟨o, p - 1, a1, by omega, x2, x3, m3, fun j hj => ?_⟩, ⟨L, b1, ?_, ?_, ?_⟩⟩)
    · show RF 999 f (X 0) (M' 0)
      rw [x4]; exact RF_congr m0 (a6 (p - 1) (by omega))
    · show M' 4 0 = 0
      rw [m1 4 (by decide) (by decide)]; exact h2
    · show RF 999 f (X _) (fun i => M' 1 _)
      rw [x1 _ (by omega) (by omega), m1 1 (by decide) (by decide)]; exact a6 j (by omega)
    · show X 7 1 0 = _
      rw [x1 7 (by decide) (by decide)]; exact b2
    · show M' 6 0 = _
      rw [m1 6 (by decide) (by decide)]; exact b3
    · show ∀ k, k < L → X 7 0 k = M' 5 k ∧ ∃ a, 32 ≤ a ∧ a ≤ 126 ∧ M' 5 k = nI a
      rw [x1 7 (by decide) (by decide), m1 5 (by decide) (by decide)]; exact b4
theorem pu_nar : ∀ a, a < 127 → vp_nar .char (((nI a).toUInt32 % 65536).toInt32) = nI a := by decide +kernel
theorem pu_Gtype {f : Nat} {S : Xst} {M : Cst} (x : Int32) (hR : RelS f S M) : ALK f (sX4_type S x) (sX5_type M x) := by
  have hR' := hR
  obtain ⟨h1, h2, ⟨o, p, a1, a2, a3, a4, a5, a6⟩, ⟨L, b1, b2, b3, b4⟩⟩ := hR
  have e : sX4_type S x = sX3_append S x := rfl
  rw [e]
  unfold sX5_type
  refine p_ltv (Q9 := ALK f (sX3_append S x)) (fun r er => ?_)
  rw [pu_in] at er
  by_cases c1 : x < 32 ∨ 126 < x
  · rw [if_pos c1] at er
    refine p_ite (fun c => absurd er c) (fun _ => ?_)
    unfold sX3_append
    refine p_ite (Q9 := fun a => ALK f a ((-10001), M)) (fun _ => ⟨rfl, hR'⟩) (fun c => p_ite (Q9 := fun a => ALK f a ((-10001), M)) (fun c2 => ?_) (fun _ => ⟨rfl, hR'⟩))
    exact absurd c2 (Int32.not_le.mpr (c1.resolve_left c))
  · rw [if_neg c1] at er
    obtain ⟨a, ha, rfl⟩ := nI_of2 (M := 126) (n := 126) rfl (x := x) (fun q => c1 (Or.inl (Int32.lt_of_lt_of_le q (by decide)))) (Int32.not_lt.mp (fun q => c1 (Or.inr q)))
    have ha32 : 32 ≤ a := Nat.not_lt.mp (fun q => c1 (Or.inl (nI_lt (b := 32) q (by decide))))
    refine p_ite (fun _ => ?_) (fun c => absurd (show ¬ r = 0 by rw [er]; decide) c)
    unfold sX3_append
    by_cases hL : L = 60
    · refine p_ite (fun c => absurd (by rw [b3, hL]; rfl) c) (fun _ => ?_)
      refine p_ite (Q9 := fun a => ALK f a ((-10003), M)) (fun c => absurd (Or.inl c) c1) (fun _ => p_ite (Q9 := fun a => ALK f a ((-10003), M)) (fun _ => p_ite (Q9 := fun a => ALK f a ((-10003), M)) (fun c => ?_) (fun _ => ⟨rfl, hR'⟩)) (fun c => absurd (Int32.not_lt.mp (fun q => c1 (Or.inr q))) c))
      rw [b2, hL] at c; exact absurd c (by decide)
    · refine p_ite (fun _ => p_ltv (fun M1 e1 => p_ltv (fun M2 e2 => ?_))) (fun c => absurd (fun q => hL ((nI_eq (b := 60) (by omega) (by decide)).mp (b3.symm.trans q))) c)
      rw [b3, nI_clamp (by omega)] at e1
      have m26 : M2 6 0 = nI (L + 1) := by rw [e2, pu_up, if_pos rfl, if_pos rfl, e1, pu_un _ _ _ (by decide), b3, nI_1]
      have m25 : ∀ k, M2 5 k = if k = L then nI a else M 5 k := fun k => by rw [e2, pu_un _ _ _ (by decide), e1, pu_up, if_pos rfl]
      have m2k : ∀ j, j ≠ 5 → j ≠ 6 → M2 j = M j := fun j z5 z6 => by rw [e2, pu_un _ _ _ z6, e1, pu_un _ _ _ z5]
      refine p_ite (Q9 := fun a => ALK f a (M2 6 0, M2)) (fun c => absurd (Or.inl c) c1) (fun _ => p_ite (Q9 := fun a => ALK f a (M2 6 0, M2)) (fun _ => p_ite (Q9 := fun a => ALK f a (M2 6 0, M2)) (fun c => ?_) (fun c => absurd (show S 7 1 0 < 60 by rw [b2]; exact nI_lt (b := 60) (by omega) (by decide)) c)) (fun c => absurd (Int32.not_lt.mp (fun q => c1 (Or.inr q))) c))
      refine p_ltv (Q9 := fun a => ALK f a (M2 6 0, M2)) (fun S1 f1 => p_ltv (Q9 := fun a => ALK f a (M2 6 0, M2)) (fun S2 f2 => ?_))
      rw [b2, nI_clamp (by omega), pu_nar a (by omega)] at f1
      have s17 : S1 7 = up (S 7) 0 L (nI a) := by rw [f1, upx_self]
      have s27 : S2 7 = up (up (S 7) 0 L (nI a)) 1 0 (nI (L + 1)) := by rw [f2, upx_self, s17, pu_un _ _ _ (by decide), b2, nI_1]
      have s2j : ∀ j, j ≠ 7 → S2 j = S j := fun j hj => by rw [f2, pu_upxn _ _ hj, f1, pu_upxn _ _ hj]
      have s71 : S2 7 1 0 = nI (L + 1) := by rw [s27, pu_up, if_pos rfl, if_pos rfl]
      refine ⟨by show S2 7 1 0 = M2 6 0; rw [s71, m26], ?_, ?_, ⟨o, p, a1, a2, ?_, ?_, ?_, fun j hj => ?_⟩, ⟨L + 1, by omega, s71, m26, fun k hk => ?_⟩⟩
      · show RF 999 f (S2 0) (M2 0)
        rw [s2j 0 (by decide), m2k 0 (by decide) (by decide)]; exact h1
      · show M2 4 0 = 0
        rw [m2k 4 (by decide) (by decide)]; exact h2
      · show S2 2 1 0 = _
        rw [s2j 2 (by decide)]; exact a3
      · show S2 2 2 0 = _
        rw [s2j 2 (by decide)]; exact a4
      · show M2 3 0 = _
        rw [m2k 3 (by decide) (by decide)]; exact a5
      · show RF 999 f (S2 _) (fun i => M2 1 _)
        rw [s2j _ (by omega), m2k 1 (by decide) (by decide)]; exact a6 j hj
      · show S2 7 0 k = M2 5 k ∧ ∃ a, 32 ≤ a ∧ a ≤ 126 ∧ M2 5 k = nI a
        rw [s27, pu_un _ _ _ (by decide), pu_up, if_pos rfl, m25]
        by_cases e : k = L
        · rw [if_pos e, if_pos e]; exact ⟨rfl, a, ha32, ha, rfl⟩
        · rw [if_neg e, if_neg e]; exact b4 k (by omega)
theorem pu_Gclear {f : Nat} {S : Xst} {M : Cst} (hR : RelS f S M) : ALK f (sX4_clearText S) (sX5_clearText M) := by
  obtain ⟨h1, h2, ⟨o, p, a1, a2, a3, a4, a5, a6⟩, ⟨L, b1, b2, b3, b4⟩⟩ := hR
  have e1 : sX4_clearText S = (S 7 1 0, upx S 7 (up (S 7) 1 0 0)) := rfl
  have e2 : sX5_clearText M = (M 6 0, up M 6 0 0) := rfl
  rw [e1, e2]
  have s7 : upx S 7 (up (S 7) 1 0 0) 7 = up (S 7) 1 0 0 := upx_self _ _ _
  have sj : ∀ j, j ≠ 7 → upx S 7 (up (S 7) 1 0 0) j = S j := fun j hj => pu_upxn _ _ hj
  generalize upx S 7 (up (S 7) 1 0 0) = X at s7 sj
  have mk : ∀ j, j ≠ 6 → up M 6 0 0 j = M j := fun j hj => pu_un _ _ _ hj
  have m6 : up M 6 0 0 6 0 = 0 := by rw [pu_up, if_pos rfl, if_pos rfl]
  generalize up M 6 0 0 = Y at mk m6
  refine ⟨b2.trans b3.symm, ?_, ?_, ⟨o, p, a1, a2, ?_, ?_, ?_, fun j hj => ?_⟩, ⟨0, by omega, ?_, ?_, fun k hk => absurd hk (Nat.not_lt_zero k)⟩⟩
  · show RF 999 f (X 0) (Y 0)
    rw [sj 0 (by decide), mk 0 (by decide)]; exact h1
  · show Y 4 0 = 0
    rw [mk 4 (by decide)]; exact h2
  · show X 2 1 0 = _
    rw [sj 2 (by decide)]; exact a3
  · show X 2 2 0 = _
    rw [sj 2 (by decide)]; exact a4
  · show Y 3 0 = _
    rw [mk 3 (by decide)]; exact a5
  · show RF 999 f (X _) (fun i => Y 1 _)
    rw [sj _ (by omega), mk 1 (by decide)]; exact a6 j hj
  · show X 7 1 0 = nI 0
    rw [s7, pu_up, if_pos rfl, if_pos rfl]; rfl
  · exact m6
