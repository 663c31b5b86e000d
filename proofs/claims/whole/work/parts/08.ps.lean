/-! the text's commands, done one after the other -/
def CALLQ (f : Nat) (X : Xst) (Y : Cst) (b : Int32 × Cst) (a : Int32 × Xst) : Prop := CMD 999 f Y (a.1, a.2 1) b ∧ ∀ j, j ≠ 1 → a.2 j = X j
theorem CALLQ_mk {f : Nat} {X : Xst} {Y C : Cst} {b : Int32 × Cst} {r : Int32} {q : Int32 × Cst} (e : q = (r, C)) (h : CMD 999 f Y q b) : CALLQ f X Y b (r, upx X 1 C) := by
  rw [e] at h
  exact ⟨by show CMD 999 f Y (r, upx X 1 C 1) b; rw [upx_self]; exact h, fun j hj => pu_upxn _ _ hj⟩
theorem pu_calls {f ℓ v1 v2 : Nat} {X : Xst} {Y : Cst} (hf : f + 999 < 2 ^ 30) (hRF : RF 999 f (X 1) (Y 0)) (h4 : ¬ Y 4 0 = 0) (hl : ℓ = 99 ∨ ℓ = 109 ∨ ℓ = 114 ∨ ℓ = 112 ∨ ℓ = 117) (x3 : X 7 3 0 = nI ℓ) (x4 : ¬ ℓ = 99 → X 7 4 0 = nI v1) (x5 : ℓ = 112 ∨ ℓ = 117 → X 7 5 0 = nI v2) (y0 : ¬ ℓ = 99 → Y 11 0 = nI v1) (y1 : ℓ = 112 ∨ ℓ = 117 → Y 11 1 = nI v2) : CALLQ (f + 999) X Y (sX5_calls Y (nI ℓ)) (sX4_commandOnTrial X) := by
  have hc : sX5_changes Y 0 = Y 0 := by rw [pu_ch1 h4]
  have hRF' := hRF
  obtain ⟨n, t, hl', m, g, h1, h2, h3⟩ := RF_mono (show f ≤ f + 999 by omega) hRF
  have pay : ∀ x y, CMD 999 (f + 999) Y (sX0_payCoins (X 1) x y) (sX5_pay Y x y) := by
    intro x y
    obtain ⟨n, t, hl', m, g, h1, h2, h3⟩ := hRF'
    exact pu_CMDpay x y hc h1 h2 h3
  unfold sX4_commandOnTrial
  rw [x3]
  rcases hl with rfl | rfl | rfl | rfl | rfl
  · have e : sX5_calls Y (nI 99) = sX5_close Y := by unfold sX5_calls; exact if_pos rfl
    rw [e]
    exact p_ite (Q9 := CALLQ (f + 999) X Y (sX5_close Y)) (fun _ => p_bnd (fun r C e => p_ltv (fun S eS => by rw [eS]; exact CALLQ_mk e (pu_CMDclose hc h1 (by decide) h1 h2 h3)))) (fun c => absurd rfl c)
  · have e : sX5_calls Y (nI 109) = sX5_member Y (Y 11 0) := by unfold sX5_calls; exact (if_neg (by decide)).trans (if_pos rfl)
    rw [e, y0 (by decide), x4 (by decide)]
    exact p_ite (Q9 := CALLQ (f + 999) X Y (sX5_member Y (nI v1))) (fun c => absurd c (by decide)) (fun _ => p_ite (fun _ => p_bnd (fun r C e => p_ltv (fun S eS => by rw [eS]; exact CALLQ_mk e (pu_CMDmember _ hc h1 h2 h3)))) (fun c => absurd rfl c))
  · have e : sX5_calls Y (nI 114) = sX5_repair Y (Y 11 0) := by unfold sX5_calls; exact (if_neg (by decide)).trans ((if_neg (by decide)).trans ((if_neg (by decide)).trans (if_neg (by decide))))
    rw [e, y0 (by decide), x4 (by decide)]
    exact p_ite (Q9 := CALLQ (f + 999) X Y (sX5_repair Y (nI v1))) (fun c => absurd c (by decide)) (fun _ => p_ite (fun c => absurd c (by decide)) (fun _ => p_ite (fun c => absurd c (by decide)) (fun _ => p_ite (fun _ => p_bnd (fun r C e => p_ltv (fun S eS => by rw [eS]; exact CALLQ_mk e (pu_CMDrepair _ hc h1 h2 hf h3)))) (fun c => absurd rfl c))))
  · have e : sX5_calls Y (nI 112) = sX5_pay Y (Y 11 0) (Y 11 1) := by unfold sX5_calls; exact (if_neg (by decide)).trans ((if_neg (by decide)).trans (if_pos rfl))
    rw [e, y0 (by decide), x4 (by decide), y1 (by decide), x5 (by decide)]
    exact p_ite (Q9 := CALLQ (f + 999) X Y (sX5_pay Y (nI v1) (nI v2))) (fun c => absurd c (by decide)) (fun _ => p_ite (fun c => absurd c (by decide)) (fun _ => p_ite (fun _ => p_bnd (fun r C e => p_ltv (fun S eS => by rw [eS]; exact CALLQ_mk e (pay _ _)))) (fun c => absurd rfl c)))
  · have e : sX5_calls Y (nI 117) = sX5_use Y (Y 11 0) (Y 11 1) := by unfold sX5_calls; exact (if_neg (by decide)).trans ((if_neg (by decide)).trans ((if_neg (by decide)).trans (if_pos rfl)))
    rw [e, y0 (by decide), x4 (by decide), y1 (by decide), x5 (by decide)]
    exact p_ite (Q9 := CALLQ (f + 999) X Y (sX5_use Y (nI v1) (nI v2))) (fun c => absurd c (by decide)) (fun _ => p_ite (fun c => absurd c (by decide)) (fun _ => p_ite (fun c => absurd c (by decide)) (fun _ => p_ite (fun c => absurd c (by decide)) (fun _ => p_ite (fun _ => p_bnd (fun r C e => p_ltv (fun S eS => by rw [eS]; exact CALLQ_mk e (pu_CMDuse _ _ hc h1 h2 h3)))) (fun c => absurd rfl c)))))
def PLQ (f : Nat) (S : Xst) (M : Cst) (X : Xst) (b : Int32 × Cst) : Prop :=
  (∀ j, j ≠ 1 → j ≠ 7 → j ≠ 8 → X j = S j) ∧ X 7 0 = S 7 0 ∧ X 7 1 = S 7 1 ∧ (∀ k, k ≠ 0 → k ≠ 4 → k ≠ 7 → k ≠ 8 → k ≠ 9 → k ≠ 10 → k ≠ 11 → b.2 k = M k) ∧ b.2 4 0 = 0 ∧
  ((X 8 1 0 = 0 ∧ b.1 = -10004 ∧ ∃ q, q ≤ 60 ∧ X 8 3 0 = nI q ∧ b.2 10 0 = nI q ∧ RF 999 (f + 60000) (X 1) (b.2 0)) ∨ (X 8 1 0 = 1 ∧ (∃ s, s ≤ 60 ∧ X 8 0 0 = nI s ∧ b.1 = nI s) ∧ b.2 9 0 = 0) ∨ (X 8 1 0 = 2 ∧ (∃ s, s ≤ 60 ∧ X 8 0 0 = nI s ∧ b.1 = nI s) ∧ b.2 9 0 = X 8 2 0 ∧ X 8 2 0 < 0))
def PLX (f : Nat) (S : Xst) (M : Cst) (b : Int32 × Cst) (X : Xst) : Prop := PLQ f S M X b
theorem pu_E_bd {T : Nat → Nat} {L s : Nat} (h : pu_OK T L s) : s + 2 ≤ pu_E T L s ∧ pu_E T L s ≤ L := by
  have he1 : pu_e1 T L s = s + 1 + pu_dn T L (s + 1) := rfl
  have he2 : pu_e2 T L s = pu_e1 T L s + 1 + pu_dn T L (pu_e1 T L s + 1) := rfl
  unfold pu_E
  rcases h with ⟨h1, h2, _⟩ | ⟨h1, h2, h3, _⟩ | ⟨h1, ⟨h2, h3, _⟩, h4, h5, _⟩
  · rw [if_pos h1]; omega
  · rw [if_neg (by omega), if_pos h1]; omega
  · rw [if_neg (by omega), if_neg (by omega)]; omega
theorem pu_plays {f : Nat} {S : Xst} {M : Cst} (hf : f + 60000 < 2 ^ 30) (hRF : RF 999 f (S 0) (M 0)) (hT : RTx S M) : PLQ f S M (sX4_rehearse S) (sX5_plays M) := by
  obtain ⟨L, hL, b2, b3, b4⟩ := hT
  have bt : ∀ k, k < L → M 5 k = nI ((M 5 k).toNatClampNeg) ∧ 32 ≤ (M 5 k).toNatClampNeg ∧ (M 5 k).toNatClampNeg ≤ 126 := by
    intro k hk
    obtain ⟨_, a, a1, a2, a3⟩ := b4 k hk
    rw [a3, nI_clamp (by omega)]; exact ⟨rfl, a1, a2⟩
  generalize hTT : (fun k => (M 5 k).toNatClampNeg) = T
  have bT : ∀ k, (M 5 k).toNatClampNeg = T k := fun k => congrFun hTT k
  have hTb : ∀ k, k < L → 32 ≤ T k ∧ T k ≤ 126 := fun k hk => by rw [← bT]; exact (bt k hk).2
  have hTM : ∀ k, k < L → M 5 k = nI (T k) := fun k hk => by rw [← bT]; exact (bt k hk).1
  have hTS : ∀ k, k < L → S 7 0 k = nI (T k) := fun k hk => by rw [(b4 k hk).1]; exact hTM k hk
  show PLX f S M (sX5_plays M) (sX4_rehearse S)
  unfold sX4_rehearse
  refine p_ltv (Q9 := PLX f S M (sX5_plays M)) (fun K75 e75 => p_lz2 (fun B28 L28 b28 h28 => p_ltv (fun S1 e1 => p_ltv (fun S2 e2 => p_ltv (fun S3 e3 => ?_)))))
  have s1 : S1 = upx S 1 (S 0) := e1
  have s2 : S2 = upx (upx (upx (upx S1 8 (up (S1 8) 0 0 0)) 8 (up (up (S1 8) 0 0 0) 1 0 0)) 8 (up (up (up (S1 8) 0 0 0) 1 0 0) 2 0 0)) 8 (up (up (up (up (S1 8) 0 0 0) 1 0 0) 2 0 0) 3 0 0) := e2
  have s28 : S2 8 = up (up (up (up (S1 8) 0 0 0) 1 0 0) 2 0 0) 3 0 0 := by rw [s2, upx_self]
  have s2j : ∀ j, j ≠ 8 → S2 j = S1 j := fun j hj => by rw [s2, pu_upxn _ _ hj, pu_upxn _ _ hj, pu_upxn _ _ hj, pu_upxn _ _ hj]
  have x81 : S3 8 1 0 = 0 := by rw [e3, pu_upxn _ _ (by decide), s28, pu_un _ _ _ (by decide), pu_un _ _ _ (by decide), pu_up, if_pos rfl, if_pos rfl]
  have x83 : S3 8 3 0 = nI 0 := by rw [e3, pu_upxn _ _ (by decide), s28, pu_up, if_pos rfl, if_pos rfl]; rfl
  have x1 : S3 1 = S 0 := by rw [e3, pu_upxn _ _ (by decide), s2j 1 (by decide), s1, upx_self]
  have xj : ∀ j, j ≠ 1 → j ≠ 7 → j ≠ 8 → S3 j = S j := fun j h1 h7 h8 => by rw [e3, pu_upxn _ _ h7, s2j j h8, s1, pu_upxn _ _ h1]
  have x7 : ∀ k, k ≠ 2 → S3 7 k = S 7 k := fun k hk => by rw [e3, upx_self, pu_un _ _ _ hk, s2j 7 (by decide), s1, pu_upxn _ _ (by decide)]
  have x72 : S3 7 2 0 = nI 0 := by rw [e3, upx_self, pu_up, if_pos rfl, if_pos rfl]; rfl
  clear e1 e2 e3 s1 s2 s28 s2j
  show PLQ f S M (L28 61 S3 0) (sX5_plays M)
  unfold sX5_plays
  refine p_ltv (Q9 := PLQ f S M (L28 61 S3 0)) (fun K105 e105 => p_lz3 (fun B19 L19 b19 h19 => p_ltv (fun M1 f1 => p_ltv (fun M2 f2 => p_ltv (fun M3 f3 => ?_)))))
  have m4 : ¬ M3 4 0 = 0 := by rw [f3, pu_un _ _ _ (by decide), f2, pu_un _ _ _ (by decide), f1, pu_up, if_pos rfl, if_pos rfl]; decide
  have m8 : M3 8 0 = nI 0 := by rw [f3, pu_un _ _ _ (by decide), f2, pu_up, if_pos rfl, if_pos rfl]; rfl
  have m10 : M3 10 0 = nI 0 := by rw [f3, pu_up, if_pos rfl, if_pos rfl]; rfl
  have mk : ∀ k, k ≠ 4 → k ≠ 8 → k ≠ 10 → M3 k = M k := fun k h4 h8 h10 => by rw [f3, pu_un _ _ _ h10, f2, pu_un _ _ _ h8, f1, pu_un _ _ _ h4]
  clear f1 f2 f3
  have main : ∀ dq q, q + dq = 60 → ∀ (X : Xst) (Y : Cst) (s : Nat) (from9 : Int32), 2 * q ≤ s → s ≤ L → (∀ j, j ≠ 1 → j ≠ 7 → j ≠ 8 → X j = S j) → X 7 0 = S 7 0 → X 7 1 = S 7 1 → X 7 2 0 = nI s → X 8 1 0 = 0 → X 8 3 0 = nI q → RF 999 (f + 999 * q) (X 1) (Y 0) → (∀ k, k ≠ 0 → k ≠ 4 → k ≠ 7 → k ≠ 8 → k ≠ 9 → k ≠ 10 → k ≠ 11 → Y k = M k) → ¬ Y 4 0 = 0 → Y 8 0 = nI s → Y 10 0 = nI q → PLQ f S M (L28 (dq + 1) X q) (L19 (dq + 11) Y from9 1) := by
    intro dq
    induction dq with
    | zero => intro q hq X Y s from9 h1 h2; omega
    | succ dq ih =>
      intro q hq X Y s from9 hqs hsL xj x70 x71 x72 x81 x83 hRFq yk y4 y8 y10
      have k105z : ∀ (Z : Cst) (v : Int32), (∀ P : Int32 × Cst → Prop, (∀ W : Cst, (∀ k, k ≠ 4 → W k = Z k) → W 4 0 = 0 → P (v, W)) → P (K105 Z v 0)) ∧ (∀ P : Int32 × Cst → Prop, (∀ W : Cst, (∀ k, k ≠ 4 → W k = Z k) → W 4 0 = 0 → P ((-10004), W)) → P (K105 Z v 1)) := by
        intro Z v
        subst e105
        refine ⟨fun P hP => p_ltv (fun W eW => p_ite (fun _ => hP W (fun k hk => by rw [eW, pu_un _ _ _ hk]) (by rw [eW, pu_up, if_pos rfl, if_pos rfl])) (fun c => absurd rfl c)), fun P hP => p_ltv (fun W eW => p_ite (fun c => absurd c (by decide)) (fun _ => hP W (fun k hk => by rw [eW, pu_un _ _ _ hk]) (by rw [eW, pu_up, if_pos rfl, if_pos rfl])))⟩
      have stop : ∀ (fu : Nat) (Z : Cst) (v : Int32) (P : Int32 × Cst → Prop), (∀ W : Cst, (∀ k, k ≠ 4 → W k = Z k) → W 4 0 = 0 → P (v, W)) → P (L19 (fu + 1) Z v 0) := by
        intro fu Z v P hP
        rw [h19, b19]
        exact p_ltv (fun K91 _ => p_ltv (fun K90 _ => p_ltv (fun K71 _ => p_ite (fun _ => (k105z Z v).1 P hP) (fun _ => p_ite (fun _ => (k105z Z v).1 P hP) (fun c => absurd rfl c)))))
      have hTX : TXC T L s X := ⟨by rw [x71]; exact b2, x72, by rw [x70]; exact hTS⟩
      have hTY : TXR T L s Y := ⟨by rw [yk 6 (by decide) (by decide) (by decide) (by decide) (by decide) (by decide) (by decide)]; exact b3, y8, by rw [yk 5 (by decide) (by decide) (by decide) (by decide) (by decide) (by decide) (by decide)]; exact hTM⟩
      rw [h28, b28]
      have b19' := b19
      refine p_ite (Q9 := PLX f S M (L19 (dq + 1 + 11) Y from9 1)) (fun c => absurd c (nI_ge (b := 60) (by omega) (by decide))) (fun _ => p_ite (fun c => ?_) (fun c => p_ltv (fun X1 g1 => p_bnd (fun r69 X2 g2 => ?_))))
      · -- all is read
        have hs : L ≤ s := by rw [hTX.1, hTX.2.1] at c; exact (nI_leI (by omega) (by omega)).mp c
        show PLQ f S M X (L19 (dq + 1 + 11) Y from9 1)
        rw [show dq + 1 + 11 = (dq + 11) + 1 by omega, h19, b19]
        refine p_ltv (fun K91 _ => p_ltv (fun K90 _ => p_ltv (fun K71 _ => p_ite (fun _ => (k105z Y from9).2 _ (fun W w1 w2 => ?_)) (fun c2 => absurd (show Y 6 0 ≤ Y 8 0 by rw [hTY.1, hTY.2.1]; exact nI_le hs (by omega)) c2))))
        exact ⟨xj, x70, x71, fun k h0 h4 h7 h8 h9 h10 h11 => by show W k = M k; rw [w1 k h4, yk k h0 h4 h7 h8 h9 h10 h11], w2, Or.inl ⟨x81, rfl, q, by omega, x83, by show W 10 0 = _; rw [w1 10 (by decide)]; exact y10, by show RF 999 (f + 60000) (X 1) (W 0); rw [w1 0 (by decide)]; exact RF_mono (by omega) hRFq⟩⟩
      -- one more command
      have hs : s < L := Nat.not_le.mp (fun z => c (by rw [hTX.1, hTX.2.1]; exact nI_le z (by omega)))
      have x1j : ∀ j, j ≠ 8 → X1 j = X j := fun j hj => by rw [g1, pu_upxn _ _ hj]
      have x18 : X1 8 = up (X 8) 0 0 (nI s) := by rw [g1, upx_self, x72]
      have hTX1 : TXC T L s X1 := ⟨by rw [x1j 7 (by decide)]; exact hTX.1, by rw [x1j 7 (by decide)]; exact hTX.2.1, by rw [x1j 7 (by decide)]; exact hTX.2.2⟩
      have pc := pu_cmd hL hs hTb hTX1
      rw [g2] at pc
      obtain ⟨p1, p2, p3, p4, p5⟩ := pc
      dsimp only at p1 p2 p3 p4 p5
      have x28 : X2 8 = up (X 8) 0 0 (nI s) := by rw [p1 8 (by decide), x18]
      have x2j : ∀ j, j ≠ 1 → j ≠ 7 → j ≠ 8 → X2 j = S j := fun j h1 h7 h8 => by rw [p1 j h7, x1j j h8, xj j h1 h7 h8]
      have x270 : X2 7 0 = S 7 0 := by rw [p2, x1j 7 (by decide), x70]
      have x271 : X2 7 1 = S 7 1 := by rw [p3, x1j 7 (by decide), x71]
      have e5s : Y 5 (Y 8 0).toNatClampNeg = nI (T s) := by rw [y8, nI_clamp (by omega)]; exact hTY.2.2 s hs
      have pf := pu_form hL hs hTb hTY
      have refform : ∀ (P : Int32 × Cst → Prop), (∀ (K91 : Cst → Int32 → Int32 → Int32 × Cst) (K90 : Cst → Int32 → Int32 × Cst) (K71 : Cst → Int32 → Int32 → Int32 → Int32 × Cst), K91 = (fun C x1 t0 => ltv (up C 10 0 ((C 10 0) + 1)) (fun S_99 => L19 (dq + 11) S_99 x1 t0)) → K90 = (fun C x1 => K91 C x1 0) → K71 = (fun C x1 x4 t0 => ltv (up C 9 0 t0) (fun S_71 => (if x4 = 0 then K90 S_71 x1 else (if (S_71 9 0) < 0 then K90 S_71 x1 else K91 S_71 x1 1)))) → ∀ r51 S51, sX5_isForm Y (nI (T s)) = (r51, S51) → P (if r51 = 0 then K71 S51 (nI s) r51 0 else bnd (sX5_calls S51 (nI (T s))) (fun (r_64 : Int32) (S_64 : Cst) => K71 S_64 (nI s) r51 r_64))) → P (L19 (dq + 1 + 11) Y from9 1) := by
        intro P hP
        rw [show dq + 1 + 11 = (dq + 11) + 1 by omega, h19, b19]
        refine p_ltv (fun K91 f91 => p_ltv (fun K90 f90 => p_ltv (fun K71 f71 => p_ite (fun c2 => ?_) (fun _ => p_ite (fun c2 => absurd c2 (by decide)) (fun _ => p_ltv (fun v1 ev1 => p_ltv (fun v3 ev3 => p_bnd (fun r51 S51 h51 => ?_))))))))
        · rw [hTY.1, hTY.2.1] at c2; exact absurd c2 (nI_ge hs (by omega))
        · rw [e5s] at ev3
          rw [y8] at ev1
          rw [ev3] at h51
          rw [ev1, ev3]
          exact hP K91 K90 K71 f91 f90 f71 r51 S51 h51
      by_cases ok : pu_OK T L s
      · -- of its form
        rw [if_pos ok] at p4
        obtain ⟨o1, o2, o3, o4⟩ := p5 ok
        have hE := pu_E_bd ok
        refine p_ite (fun _ => p_bnd (fun r89 X3 g3 => p_bnd (fun r92 X4 g4 => ?_))) (fun c2 => absurd (show ¬ r69 = 0 by rw [p4]; decide) c2)
        refine refform (fun b => PLX f S M b (if r92 = 0 then L28 (dq + 1) X4 (q + 1) else X4)) (fun K91 K90 K71 f91 f90 f71 r51 S51 h51 => ?_)
        rw [h51] at pf
        obtain ⟨q1, q2, q3⟩ := pf
        dsimp only at q1 q2 q3
        rw [if_pos ok] at q2
        obtain ⟨u1, u2, u3⟩ := q3 ok
        refine p_ite (Q9 := fun b => PLX f S M b (if r92 = 0 then L28 (dq + 1) X4 (q + 1) else X4)) (fun c3 => absurd (q2.symm.trans c3) pu_10) (fun _ => p_bnd (Q9 := fun b => PLX f S M b (if r92 = 0 then L28 (dq + 1) X4 (q + 1) else X4)) (fun r64 S64 h64 => ?_))
        have hl : T s = 99 ∨ T s = 109 ∨ T s = 114 ∨ T s = 112 ∨ T s = 117 := by
          rcases ok with ⟨z, _⟩ | ⟨z, _⟩ | ⟨z, _⟩ <;> omega
        have x21 : X2 1 = X 1 := by rw [p1 1 (by decide), x1j 1 (by decide)]
        have cq := pu_calls (f := f + 999 * q) (X := X2) (Y := S51) (by omega) (by rw [x21, q1 0 (by decide) (by decide)]; exact hRFq) (by rw [q1 4 (by decide) (by decide)]; exact y4) hl o2 o3 o4 u2 u3
        rw [g3, h64] at cq
        obtain ⟨cq1, cq2⟩ := cq
        dsimp only at cq2
        have ex0 : sX5_changes S51 = S51 := pu_ch1 (by rw [q1 4 (by decide) (by decide)]; exact y4)
        obtain ⟨er, hcase⟩ := cq1
        dsimp only at er hcase
        have x3j : ∀ j, j ≠ 1 → X3 j = X2 j := cq2
        unfold sX2_isStoppedBy at g4
        rcases hcase with ⟨w1, w2⟩ | ⟨w1, w2, w3⟩
        · -- stopped by the state
          rw [if_pos w1] at g4
          dsimp only [ltv] at g4
          obtain ⟨e92, eX4⟩ := Prod.mk.inj g4
          have r92' : ¬ r92 = 0 := by rw [← e92]; decide
          rw [if_neg r92']
          have x48 : X4 8 = up (up (X3 8) 1 0 2) 2 0 r89 := by rw [← eX4, upx_self, upx_self]
          have x4j : ∀ j, j ≠ 8 → X4 j = X3 j := fun j hj => by rw [← eX4, pu_upxn _ _ hj, pu_upxn _ _ hj]
          rw [f71]
          refine p_ltv (Q9 := fun b => PLX f S M b X4) (fun Z eZ => ?_)
          rw [if_neg (show ¬ r51 = 0 by rw [q2]; decide), if_pos (show Z 9 0 < 0 by rw [eZ, pu_up, if_pos rfl, if_pos rfl, ← er]; exact w1), f90, f91]
          refine p_ltv (Q9 := fun b => PLX f S M b X4) (fun V eV => ?_)
          rw [show dq + 11 = (dq + 10) + 1 by omega]
          refine stop (dq + 10) V (nI s) (fun b => PLX f S M b X4) (fun W v1 v2 => ?_)
          have s64 : S64 = S51 := w2
          refine ⟨fun j h1 h7 h8 => by rw [x4j j h8, x3j j h1, x2j j h1 h7 h8], by rw [x4j 7 (by decide), x3j 7 (by decide), x270], by rw [x4j 7 (by decide), x3j 7 (by decide), x271], fun k h0 h4 h7 h8 h9 h10 h11 => ?_, v2, Or.inr (Or.inr ⟨?_, ⟨s, by omega, ?_, rfl⟩, ?_, ?_⟩)⟩
          · show W k = M k
            rw [v1 k h4, eV, pu_un _ _ _ h10, eZ, pu_un _ _ _ h9, s64, q1 k h8 h11, yk k h0 h4 h7 h8 h9 h10 h11]
          · rw [x48, pu_un _ _ _ (by decide), pu_up, if_pos rfl, if_pos rfl]
          · rw [x48, pu_un _ _ _ (by decide), pu_un _ _ _ (by decide), x3j 8 (by decide), x28, pu_up, if_pos rfl, if_pos rfl]
          · show W 9 0 = _
            rw [v1 9 (by decide), eV, pu_un _ _ _ (by decide), eZ, pu_up, if_pos rfl, if_pos rfl, x48, pu_up, if_pos rfl, if_pos rfl, er]
          · rw [x48, pu_up, if_pos rfl, if_pos rfl]; exact w1
        · -- done: on
          rw [if_neg w1] at g4
          dsimp only [ltv] at g4
          obtain ⟨e92, eX4⟩ := Prod.mk.inj g4
          rw [if_pos e92.symm]
          have x48 : X4 8 = up (X3 8) 3 0 (nI (q + 1)) := by
            rw [← eX4, upx_self, x3j 8 (by decide), x28, pu_un _ _ _ (by decide), x83, nI_1]
          have x4j : ∀ j, j ≠ 8 → X4 j = X3 j := fun j hj => by rw [← eX4, pu_upxn _ _ hj]
          rw [f71]
          refine p_ltv (Q9 := fun b => PLX f S M b (L28 (dq + 1) X4 (q + 1))) (fun Z eZ => ?_)
          rw [if_neg (show ¬ r51 = 0 by rw [q2]; decide), if_neg (show ¬ Z 9 0 < 0 by rw [eZ, pu_up, if_pos rfl, if_pos rfl, ← er]; exact w1), f91]
          refine p_ltv (Q9 := fun b => PLX f S M b (L28 (dq + 1) X4 (q + 1))) (fun V eV => ?_)
          have s64k : ∀ k, k ≠ 0 → k ≠ 7 → S64 k = S51 k := fun k h0 h7 => by rw [w3 k h0 h7, ex0]
          have vk : ∀ k, k ≠ 9 → k ≠ 10 → V k = S64 k := fun k h9 h10 => by rw [eV, pu_un _ _ _ h10, eZ, pu_un _ _ _ h9]
          refine ih (q + 1) (by omega) X4 V (pu_E T L s) (nI s) (by omega) hE.2 (fun j h1 h7 h8 => by rw [x4j j h8, x3j j h1, x2j j h1 h7 h8]) (by rw [x4j 7 (by decide), x3j 7 (by decide), x270]) (by rw [x4j 7 (by decide), x3j 7 (by decide), x271]) (by rw [x4j 7 (by decide), x3j 7 (by decide)]; exact o1) ?_ (by rw [x48, pu_up, if_pos rfl, if_pos rfl]) ?_ (fun k h0 h4 h7 h8 h9 h10 h11 => by rw [vk k h9 h10, s64k k h0 h7, q1 k h8 h11, yk k h0 h4 h7 h8 h9 h10 h11]) (by rw [vk 4 (by decide) (by decide), s64k 4 (by decide) (by decide), q1 4 (by decide) (by decide)]; exact y4) (by rw [vk 8 (by decide) (by decide), s64k 8 (by decide) (by decide)]; exact u1) ?_
          · rw [x48, pu_un _ _ _ (by decide), x3j 8 (by decide), x28, pu_un _ _ _ (by decide), x81]
          · rw [x4j 1 (by decide), vk 0 (by decide) (by decide), show f + 999 * (q + 1) = f + 999 * q + 999 by omega]; exact w2
          · rw [eV, pu_up, if_pos rfl, if_pos rfl, eZ, pu_un _ _ _ (by decide), s64k 10 (by decide) (by decide), q1 10 (by decide) (by decide), y10, nI_1]
      · -- not of its form
        rw [if_neg ok] at p4
        refine p_ite (fun c2 => absurd p4 c2) (fun _ => ?_)
        rw [e75]
        refine p_ltv (Q9 := PLX f S M (L19 (dq + 1 + 11) Y from9 1)) (fun X3 g3 => ?_)
        have x38 : X3 8 = up (X2 8) 1 0 1 := by rw [g3, upx_self]
        have x3j : ∀ j, j ≠ 8 → X3 j = X2 j := fun j hj => by rw [g3, pu_upxn _ _ hj]
        refine refform (fun b => PLX f S M b X3) (fun K91 K90 K71 f91 f90 f71 r51 S51 h51 => ?_)
        rw [h51] at pf
        obtain ⟨q1, q2, q3⟩ := pf
        dsimp only at q1 q2 q3
        rw [if_neg ok] at q2
        rw [if_pos q2, q2, f71]
        refine p_ltv (Q9 := fun b => PLX f S M b X3) (fun Z eZ => ?_)
        rw [if_pos rfl, f90, f91]
        refine p_ltv (Q9 := fun b => PLX f S M b X3) (fun V eV => ?_)
        rw [show dq + 11 = (dq + 10) + 1 by omega]
        refine stop (dq + 10) V (nI s) (fun b => PLX f S M b X3) (fun W v1 v2 => ?_)
        refine ⟨fun j h1 h7 h8 => by rw [x3j j h8, x2j j h1 h7 h8], by rw [x3j 7 (by decide), x270], by rw [x3j 7 (by decide), x271], fun k h0 h4 h7 h8 h9 h10 h11 => ?_, v2, Or.inr (Or.inl ⟨?_, ⟨s, by omega, ?_, rfl⟩, ?_⟩)⟩
        · show W k = M k
          rw [v1 k h4, eV, pu_un _ _ _ h10, eZ, pu_un _ _ _ h9, q1 k h8 h11, yk k h0 h4 h7 h8 h9 h10 h11]
        · rw [x38, pu_up, if_pos rfl, if_pos rfl]
        · rw [x38, pu_un _ _ _ (by decide), x28, pu_up, if_pos rfl, if_pos rfl]
        · show W 9 0 = _
          rw [v1 9 (by decide), eV, pu_un _ _ _ (by decide), eZ, pu_up, if_pos rfl, if_pos rfl]
  exact main 60 0 rfl S3 M3 0 0 (by decide) (Nat.zero_le _) xj (x7 0 (by decide)) (x7 1 (by decide)) x72 x81 x83 (by rw [x1, mk 0 (by decide) (by decide) (by decide)]; exact hRF) (fun k h0 h4 h7 h8 h9 h10 h11 => mk k h4 h8 h10) m4 m8 m10
