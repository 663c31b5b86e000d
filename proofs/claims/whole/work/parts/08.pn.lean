/-! the relation of both whole states; what is kept of the past -/
def RHi (f : Nat) (S : Xst) (M : Cst) : Prop := ∃ o p, o ≤ 3 ∧ p ≤ 4 ∧ S 2 1 0 = nI o ∧ S 2 2 0 = nI p ∧ M 3 0 = nI p ∧ ∀ j, j < p → RF 999 f (S (3 + (o + j) % 4)) (fun i => M 1 (107 * j + i))
def RTx (S : Xst) (M : Cst) : Prop := ∃ L, L ≤ 60 ∧ S 7 1 0 = nI L ∧ M 6 0 = nI L ∧ ∀ k, k < L → S 7 0 k = M 5 k ∧ ∃ a, 32 ≤ a ∧ a ≤ 126 ∧ M 5 k = nI a
def RelS (f : Nat) (S : Xst) (M : Cst) : Prop := RF 999 f (S 0) (M 0) ∧ M 4 0 = 0 ∧ RHi f S M ∧ RTx S M
theorem RF_mono {T f f' : Nat} {C : Cst} {r : Nat → Int32} (hf : f ≤ f') (h : RF T f C r) : RF T f' C r := by
  obtain ⟨n, t, hl, m, g, h1, h2, h3⟩ := h
  exact ⟨n, t, hl, m, g, h1, Nat.le_trans h2 hf, h3⟩
theorem RF_congr {T f : Nat} {C : Cst} {r r' : Nat → Int32} (hr : ∀ i, i < 107 → r' i = r i) (h : RF T f C r) : RF T f C r' := by
  obtain ⟨n, t, hl, m, g, h1, h2, h3⟩ := h
  exact ⟨n, t, hl, m, g, h1, h2, RC_congr hr h3⟩
theorem RHi_mono {f f' : Nat} {S : Xst} {M : Cst} (hf : f ≤ f') (h : RHi f S M) : RHi f' S M := by
  obtain ⟨o, p, h1, h2, h3, h4, h5, h6⟩ := h
  exact ⟨o, p, h1, h2, h3, h4, h5, fun j hj => RF_mono hf (h6 j hj)⟩
theorem RelS_mono {f f' : Nat} {S : Xst} {M : Cst} (hf : f ≤ f') (h : RelS f S M) : RelS f' S M := ⟨RF_mono hf h.1, h.2.1, RHi_mono hf h.2.2.1, h.2.2.2⟩
theorem RelS_same {f : Nat} {S X : Xst} {M M' : Cst} (h : RelS f S M) (hX : ∀ j, j ≠ 1 → X j = S j) (hM : SAME M M') : RelS f X M' := by
  obtain ⟨h1, h2, ⟨o, p, a1, a2, a3, a4, a5, a6⟩, ⟨L, b1, b2, b3, b4⟩⟩ := h
  refine ⟨?_, ?_, ⟨o, p, a1, a2, by rw [hX 2 (by decide)]; exact a3, by rw [hX 2 (by decide)]; exact a4, ?_, fun j hj => ?_⟩, ⟨L, b1, by rw [hX 7 (by decide)]; exact b2, ?_, ?_⟩⟩
  · rw [hX 0 (by decide)]; exact RF_congr hM.2 h1
  · rw [hM.1 4 (by decide) (by decide) (by decide)]; exact h2
  · rw [hM.1 3 (by decide) (by decide) (by decide)]; exact a5
  · rw [hX _ (by omega), hM.1 1 (by decide) (by decide) (by decide)]; exact a6 j hj
  · rw [hM.1 6 (by decide) (by decide) (by decide)]; exact b3
  · rw [hX 7 (by decide), hM.1 5 (by decide) (by decide) (by decide)]; exact b4
theorem upx_self (S : Xst) (j : Nat) (C : Cst) : upx S j C j = C := by unfold upx; rw [if_pos rfl]
theorem pu_mod4 {o : Nat} (ho : o ≤ 10) : nI o % 4 = nI (o % 4) := by rw [show (4 : Int32) = nI 4 from rfl, pu_mod (by omega) (by decide)]
/-- the class's record -/
theorem pu_record {P : Xst → Prop} {S : Xst} {o p : Nat} (ho : o ≤ 3) (hp : p ≤ 4) (h1 : S 2 1 0 = nI o) (h2 : S 2 2 0 = nI p) (k : ∀ (X : Xst) (o' : Nat), o' ≤ 3 → (∀ j, j < min p 3 → (o' + j) % 4 = (o + (j + (p - min p 3))) % 4) → X 2 1 0 = nI o' → X 2 2 0 = nI (min p 3 + 1) → X (3 + (o' + min p 3) % 4) = S 0 → (∀ j, j ≠ 2 → j ≠ 3 + (o' + min p 3) % 4 → X j = S j) → P X) : P (sX1_record S) := by
  unfold sX1_record
  refine p_ltv (Q9 := P) (fun K30 e30 => ?_)
  have tail : ∀ (Y : Xst) (o' : Nat), o' ≤ 3 → (∀ j, j < min p 3 → (o' + j) % 4 = (o + (j + (p - min p 3))) % 4) → Y 2 1 0 = nI o' → Y 2 2 0 = nI (min p 3) → (∀ j, j ≠ 2 → Y j = S j) → P (K30 Y) := by
    intro Y o' ho' hj y1 y2 y3
    subst e30
    have ev : (Y 2 1 0 + Y 2 2 0) % 4 = nI ((o' + min p 3) % 4) := by rw [y1, y2, nI_add, pu_mod4 (by omega)]
    have hm := Nat.mod_lt (o' + min p 3) (show 0 < 4 by decide)
    have put : ∀ z, (o' + min p 3) % 4 = z → P (ltv (upx Y (3 + z) (sX0_takeOver (Y (3 + z)) (Y 0))) (fun (S_53 : Xst) => ltv (upx S_53 2 (up (S_53 2) 2 0 (((S_53 2) 2 0) + 1))) (fun (S_63 : Xst) => S_63))) := by
      intro z hz
      refine p_ltv (fun S1 e1 => p_ltv (fun S2 e2 => ?_))
      have q2 : S1 2 = Y 2 := by rw [e1, pu_upxn _ _ (by omega)]
      refine k S2 o' ho' hj ?_ ?_ ?_ (fun j hj2 hj3 => ?_)
      · rw [e2, upx_self, pu_un _ _ _ (by decide), q2, y1]
      · rw [e2, upx_self, pu_up, if_pos rfl, if_pos rfl, q2, y2, nI_1]
      · rw [e2, hz, pu_upxn _ _ (by omega), e1, upx_self]
        show Y 0 = S 0
        exact y3 0 (by decide)
      · rw [e2, pu_upxn _ _ hj2, e1, pu_upxn _ _ (by omega), y3 j hj2]
    have hc : (o' + min p 3) % 4 = 0 ∨ (o' + min p 3) % 4 = 1 ∨ (o' + min p 3) % 4 = 2 ∨ (o' + min p 3) % 4 = 3 := by omega
    dsimp only
    rw [ev]
    rcases hc with hz | hz | hz | hz <;> rw [hz]
    · exact put 0 hz
    · exact put 1 hz
    · exact put 2 hz
    · exact put 3 hz
  by_cases h4 : p = 4
  · subst h4
    refine p_ite (fun c => absurd h2 c) (fun _ => p_ltv (fun S1 e1 => p_ltv (fun S2 e2 => ?_)))
    have q1 : S1 2 = up (S 2) 1 0 (nI ((o + 1) % 4)) := by rw [e1, upx_self, h1, nI_1, pu_mod4 (by omega)]
    refine tail S2 ((o + 1) % 4) (by omega) (fun j hj => by omega) ?_ ?_ (fun j hj => ?_)
    · rw [e2, upx_self, pu_un _ _ _ (by decide), q1, pu_up, if_pos rfl, if_pos rfl]
    · rw [e2, upx_self, pu_up, if_pos rfl, if_pos rfl, q1, pu_un _ _ _ (by decide), h2]; decide
    · rw [e2, pu_upxn _ _ hj, e1, pu_upxn _ _ hj]
  · refine p_ite (fun _ => tail S o ho (fun j hj => by omega) h1 (by rw [h2, show min p 3 = p by omega]) (fun _ _ => rfl)) (fun c => absurd (fun q => h4 ((nI_eq (b := 4) (by omega) (by decide)).mp (h2.symm.trans q))) c)
/-- what the reference's state shows after a call that is kept -/
def KEPT (M M2 : Cst) : Prop := ∀ p, M 3 0 = nI p → p ≤ 4 → M2 4 0 = 0 ∧ M2 5 = M 5 ∧ M2 6 = M 6 ∧ M2 3 0 = nI (min p 3 + 1) ∧ (∀ j i, j < min p 3 → i < 107 → M2 1 (107 * j + i) = M 1 (107 * (j + (p - min p 3)) + i)) ∧ (∀ i, i < 107 → M2 1 (107 * min p 3 + i) = M 0 i)
theorem pu_keptQ {f f' : Nat} {S S' : Xst} {M M2 : Cst} {a : Int32} (hR : RelS f S M) (hS : ∀ j, j ≠ 1 → j ≠ 8 → j ≠ 7 → S' j = S j) (h70 : S' 7 0 = S 7 0) (h71 : S' 7 1 = S 7 1) (hf : f ≤ f') (ha : ¬ a < 0) (hK : KEPT M M2) (hRF : RF 999 f' (S' 1) (M2 0)) : (sX4_keptIfDone S' a).1 = a ∧ RelS f' (sX4_keptIfDone S' a).2 M2 := by
  obtain ⟨h1, h2, ⟨o, p, a1, a2, a3, a4, a5, a6⟩, ⟨L, b1, b2, b3, b4⟩⟩ := hR
  obtain ⟨m4, m5, m6, m3, mj, mp⟩ := hK p a5 a2
  unfold sX4_keptIfDone
  refine p_ite (Q9 := fun v : Int32 × Xst => v.1 = a ∧ RelS f' v.2 M2) (fun c => absurd c ha) (fun _ => p_ltv (Q9 := fun v : Int32 × Xst => v.1 = a ∧ RelS f' v.2 M2) (fun X eX => ?_))
  have rcd := pu_record (S := S') (P := fun X => ∃ o', o' ≤ 3 ∧ (∀ j, j < min p 3 → (o' + j) % 4 = (o + (j + (p - min p 3))) % 4) ∧ X 2 1 0 = nI o' ∧ X 2 2 0 = nI (min p 3 + 1) ∧ X (3 + (o' + min p 3) % 4) = S' 0 ∧ (∀ j, j ≠ 2 → j ≠ 3 + (o' + min p 3) % 4 → X j = S' j)) a1 a2 (by rw [hS 2 (by decide) (by decide) (by decide)]; exact a3) (by rw [hS 2 (by decide) (by decide) (by decide)]; exact a4) (fun X o' z1 z2 z3 z4 z5 z6 => ⟨o', z1, z2, z3, z4, z5, z6⟩)
  rw [← eX] at rcd
  obtain ⟨o', z1, z2, z3, z4, z5, z6⟩ := rcd
  have e1 : X 1 = S' 1 := z6 1 (by decide) (by omega)
  have e7 : X 7 = S' 7 := z6 7 (by decide) (by omega)
  have hm := Nat.mod_lt (o' + min p 3) (show 0 < 4 by decide)
  dsimp only [ltv]
  generalize hY : upx X 0 (sX0_takeOver (X 0) (X 1)) = Y
  have y0 : Y 0 = S' 1 := by rw [← hY, upx_self]; exact e1
  have yj : ∀ j, j ≠ 0 → Y j = X j := fun j hj => by rw [← hY, pu_upxn _ _ hj]
  refine ⟨rfl, ?_, m4, ⟨o', min p 3 + 1, z1, by omega, by rw [yj 2 (by decide)]; exact z3, by rw [yj 2 (by decide)]; exact z4, m3, fun j hj => ?_⟩, ⟨L, b1, ?_, by rw [m6]; exact b3, ?_⟩⟩
  · show RF 999 f' (Y 0) (M2 0)
    rw [y0]; exact hRF
  · show RF 999 f' (Y (3 + (o' + j) % 4)) _
    rw [yj _ (by omega)]
    by_cases e : j = min p 3
    · subst e
      rw [z5, hS 0 (by decide) (by decide) (by decide)]
      exact RF_congr (fun i hi => mp i hi) (RF_mono hf h1)
    · have hj' : j < min p 3 := by omega
      have := z2 j hj'
      rw [z6 _ (by omega) (by omega), hS _ (by omega) (by omega) (by omega), this]
      exact RF_congr (fun i hi => mj j i hj' hi) (RF_mono hf (a6 (j + (p - min p 3)) (by omega)))
  · show Y 7 1 0 = _
    rw [yj 7 (by decide), e7, h71]; exact b2
  · intro q hq
    show Y 7 0 q = _ ∧ _
    rw [yj 7 (by decide), e7, h70, m5]; exact b4 q hq
theorem KEPT_of {M M2 : Cst} (h4 : M 4 0 = 0) (hk : ∀ k, k ≠ 0 → k ≠ 7 → M2 k = sX5_changes M k) : KEPT M M2 := by
  intro p h3 hp
  rw [hk 4 (by decide) (by decide), hk 5 (by decide) (by decide), hk 6 (by decide) (by decide), hk 3 (by decide) (by decide), hk 1 (by decide) (by decide)]
  exact pu_ch2 (P := fun Y => Y 4 0 = 0 ∧ Y 5 = M 5 ∧ Y 6 = M 6 ∧ Y 3 0 = nI (min p 3 + 1) ∧ (∀ j i, j < min p 3 → i < 107 → Y 1 (107 * j + i) = M 1 (107 * (j + (p - min p 3)) + i)) ∧ (∀ i, i < 107 → Y 1 (107 * min p 3 + i) = M 0 i)) h4 hp h3 (fun Y z0 z1 z2 z3 z4 => ⟨by rw [z1 4 (by decide) (by decide)]; exact h4, z1 5 (by decide) (by decide), z1 6 (by decide) (by decide), z2, z3, z4⟩)
theorem pu_hc {f : Nat} {S : Xst} {M : Cst} (hR : RelS f S M) : sX5_changes M 0 = M 0 := by
  obtain ⟨_, h4, ⟨o, p, _, hp, _, _, h3, _⟩, _⟩ := hR
  exact pu_ch2 (P := fun Y => Y 0 = M 0) h4 hp h3 (fun Y z0 _ _ _ _ => z0)
theorem pu_doneQ {f f' : Nat} {S : Xst} {M : Cst} {q : Int32 × Cst} {b : Int32 × Cst} (hR : RelS f S M) (hf : f ≤ f') (hC : CMD 999 f' M q b) : (sX4_keptIfDone (upx (upx S 1 (S 0)) 1 q.2) q.1).1 = b.1 ∧ RelS f' (sX4_keptIfDone (upx (upx S 1 (S 0)) 1 q.2) q.1).2 b.2 := by
  obtain ⟨e, h⟩ := hC
  have hX : ∀ j, j ≠ 1 → upx (upx S 1 (S 0)) 1 q.2 j = S j := fun j hj => by rw [pu_upxn _ _ hj, pu_upxn _ _ hj]
  have h11 : upx (upx S 1 (S 0)) 1 q.2 1 = q.2 := rfl
  generalize upx (upx S 1 (S 0)) 1 q.2 = X at hX h11
  rcases h with ⟨h1, h2⟩ | ⟨h1, h2, h3⟩
  · unfold sX4_keptIfDone
    refine p_ite (Q9 := fun v : Int32 × Xst => v.1 = b.1 ∧ RelS f' v.2 b.2) (fun _ => ⟨e, ?_⟩) (fun c => absurd h1 c)
    rw [h2]
    exact RelS_same (RelS_mono hf hR) hX ⟨fun _ _ _ _ => rfl, fun _ _ => rfl⟩
  · obtain ⟨z1, z2⟩ := pu_keptQ (S' := X) hR (fun j hj _ _ => hX j hj) (by rw [hX 7 (by decide)]) (by rw [hX 7 (by decide)]) hf h1 (KEPT_of hR.2.1 h3) (by rw [h11]; exact h2)
    exact ⟨z1.trans e, z2⟩
