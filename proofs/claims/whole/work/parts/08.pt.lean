/-! fault, play; the looks as the law takes them -/
theorem RelS_play {f : Nat} {S X : Xst} {M M' : Cst} (h : RelS f S M) (hX : ∀ j, j ≠ 1 → j ≠ 7 → j ≠ 8 → X j = S j) (h70 : X 7 0 = S 7 0) (h71 : X 7 1 = S 7 1) (m0 : ∀ i, i < 107 → M' 0 i = M 0 i) (m4 : M' 4 0 = 0) (m1 : M' 1 = M 1) (m3 : M' 3 = M 3) (m5 : M' 5 = M 5) (m6 : M' 6 = M 6) : RelS f X M' := by
  obtain ⟨h1, h2, ⟨o, p, a1, a2, a3, a4, a5, a6⟩, ⟨L, b1, b2, b3, b4⟩⟩ := h
  refine ⟨?_, m4, ⟨o, p, a1, a2, by rw [hX 2 (by decide) (by decide) (by decide)]; exact a3, by rw [hX 2 (by decide) (by decide) (by decide)]; exact a4, by rw [m3]; exact a5, fun j hj => ?_⟩, ⟨L, b1, by rw [h71]; exact b2, by rw [m6]; exact b3, by rw [h70, m5]; exact b4⟩⟩
  · rw [hX 0 (by decide) (by decide) (by decide)]; exact RF_congr m0 h1
  · rw [hX _ (by omega) (by omega) (by omega), m1]; exact a6 j hj
theorem RTx_of {S : Xst} {M M' : Cst} (h : RTx S M) (m5 : M' 5 = M 5) (m6 : M' 6 = M 6) : RTx S M' := by
  obtain ⟨L, b1, b2, b3, b4⟩ := h
  exact ⟨L, b1, b2, by rw [m6]; exact b3, by rw [m5]; exact b4⟩
theorem pu_s4 {s : Nat} (hs : s ≤ 60) : ¬ nI s = -10004 := fun q => absurd pu_n4 (by rw [← q]; exact nI_pos (by omega))
theorem ALK_mk {f : Nat} {S : Xst} {M : Cst} {v w : Int32} (h1 : v = w) (h2 : RelS f S M) : ALK f (v, S) (w, M) := ⟨h1, h2⟩
/-- a rehearsal against the first run of the reference, its row put back -/
theorem pu_reh {f : Nat} {S : Xst} {M : Cst} (hf : f + 60000 < 2 ^ 30) (hR : RelS f S M) {A B Z : Cst} {r : Int32} (hA : A = sX5_copies_0_12 M) (hB : sX5_plays A = (r, B)) (hZ : Z = sX5_copies_12_0 B) : PLQ f S A (sX4_rehearse S) (r, B) ∧ RelS f (sX4_rehearse S) Z ∧ Z 9 = B 9 ∧ (∀ i, i < 107 → Z 0 i = M 0 i) ∧ Z 4 0 = 0 ∧ Z 1 = M 1 ∧ Z 3 = M 3 ∧ Z 5 = M 5 ∧ Z 6 = M 6 := by
  have ca := pu_cp_0_12 M
  rw [← hA] at ca
  have cz := pu_cp_12_0 B
  rw [← hZ] at cz
  have pl := pu_plays (S := S) (M := A) hf (by rw [ca.1 0 (by decide)]; exact hR.1) (RTx_of hR.2.2.2 (ca.1 5 (by decide)) (ca.1 6 (by decide)))
  rw [hB] at pl
  have pl' := pl
  obtain ⟨p1, p2, p3, p4, p5, _⟩ := pl
  dsimp only at p4 p5
  have z0 : ∀ i, i < 107 → Z 0 i = M 0 i := fun i hi => by rw [cz.2 i hi, p4 12 (by decide) (by decide) (by decide) (by decide) (by decide) (by decide) (by decide), ca.2 i hi]
  have z4 : Z 4 0 = 0 := by rw [cz.1 4 (by decide)]; exact p5
  have zk : ∀ k, k ≠ 0 → k ≠ 4 → k ≠ 7 → k ≠ 8 → k ≠ 9 → k ≠ 10 → k ≠ 11 → k ≠ 12 → Z k = M k := fun k h0 h4 h7 h8 h9 h10 h11 h12 => by rw [cz.1 k h0, p4 k h0 h4 h7 h8 h9 h10 h11, ca.1 k h12]
  have z1 := zk 1 (by decide) (by decide) (by decide) (by decide) (by decide) (by decide) (by decide) (by decide)
  have z3 := zk 3 (by decide) (by decide) (by decide) (by decide) (by decide) (by decide) (by decide) (by decide)
  have z5 := zk 5 (by decide) (by decide) (by decide) (by decide) (by decide) (by decide) (by decide) (by decide)
  have z6 := zk 6 (by decide) (by decide) (by decide) (by decide) (by decide) (by decide) (by decide) (by decide)
  exact ⟨pl', RelS_play hR p1 p2 p3 z0 z4 z1 z3 z5 z6, cz.1 9 (by decide), z0, z4, z1, z3, z5, z6⟩
def ALKb (f : Nat) (b : Int32 × Cst) (a : Int32 × Xst) : Prop := ALK f a b
theorem pu_Gfault {f : Nat} {S : Xst} {M : Cst} (x : Int32) (hf : f + 60000 < 2 ^ 30) (hR : RelS f S M) : ALK f (sX4_fault S x) (sX5_fault M x) := by
  unfold sX5_fault
  refine p_ltv (Q9 := ALK f (sX4_fault S x)) (fun r er => ?_)
  rw [pu_in] at er
  by_cases cx : x < 0 ∨ 2 < x
  · rw [if_pos cx] at er
    refine p_ite (fun c => absurd er c) (fun _ => ?_)
    show ALKb f ((-10001), M) (sX4_fault S x)
    unfold sX4_fault
    exact p_ite (fun _ => ALK_mk rfl hR) (fun c => p_ite (fun c2 => absurd c2 (Int32.not_le.mpr (cx.resolve_left c))) (fun _ => ALK_mk rfl hR))
  rw [if_neg cx] at er
  refine p_ite (fun _ => p_ltv (fun A eA => p_bnd (fun r25 B eB => p_ltv (fun Z eZ => ?_)))) (fun c => absurd (show ¬ r = 0 by rw [er]; decide) c)
  obtain ⟨pl, hRZ, z9, _⟩ := pu_reh hf hR eA eB eZ
  obtain ⟨_, _, _, _, _, pc⟩ := pl
  dsimp only at pc
  have cls : ∀ b, (∀ X, X = sX4_rehearse S → ALKb f b (if ¬ ((X 8) 1 0) = 0 then (if ¬ x = 0 then (if ¬ x = 1 then (if ¬ ((X 8) 1 0) = 1 then (((X 8) 2 0), X) else ((-10004), X)) else (((X 8) 1 0), X)) else (((X 8) 0 0), X)) else ((-10004), X))) → ALK f (sX4_fault S x) b := by
    intro b hb
    show ALKb f b (sX4_fault S x)
    unfold sX4_fault
    exact p_ite (fun c => absurd (Or.inl c) cx) (fun _ => p_ite (fun _ => p_ltv hb) (fun c => absurd (Int32.not_lt.mp (fun q => cx (Or.inr q))) c))
  refine cls _ (fun X eX => ?_)
  rw [← eX] at pc hRZ
  rcases pc with ⟨k1, k2, _⟩ | ⟨k1, ⟨s, hs, k2, k3⟩, k4⟩ | ⟨k1, ⟨s, hs, k2, k3⟩, k4, k5⟩
  · rw [k1, if_neg pu_00, if_pos k2]; exact ALK_mk k2.symm hRZ
  · have z90 : Z 9 0 = 0 := by rw [z9]; exact k4
    rw [k1, if_pos pu_10, if_neg (show ¬ r25 = -10004 by rw [k3]; exact pu_s4 hs)]
    by_cases x0 : x = 0
    · rw [if_neg (show ¬ ¬ x = 0 from fun q => q x0), if_neg (show ¬ ¬ x = 0 from fun q => q x0)]; exact ALK_mk (k2.trans k3.symm) hRZ
    · rw [if_pos x0, if_pos x0]
      by_cases x1 : x = 1
      · rw [if_neg (show ¬ ¬ x = 1 from fun q => q x1), if_neg (show ¬ ¬ x = 1 from fun q => q x1), z90, if_neg pu_00]; exact ALK_mk rfl hRZ
      · rw [if_pos x1, if_pos x1, if_neg (show ¬ ¬ (1 : Int32) = 1 from fun q => q rfl), z90, if_neg pu_00]; exact ALK_mk rfl hRZ
  · have z90 : Z 9 0 = X 8 2 0 := by rw [z9]; exact k4
    have zn : ¬ X 8 2 0 = 0 := fun q => by rw [q] at k5; exact absurd k5 (by decide)
    rw [k1, if_pos (show ¬ (2 : Int32) = 0 by decide), if_neg (show ¬ r25 = -10004 by rw [k3]; exact pu_s4 hs)]
    by_cases x0 : x = 0
    · rw [if_neg (show ¬ ¬ x = 0 from fun q => q x0), if_neg (show ¬ ¬ x = 0 from fun q => q x0)]; exact ALK_mk (k2.trans k3.symm) hRZ
    · rw [if_pos x0, if_pos x0]
      by_cases x1 : x = 1
      · rw [if_neg (show ¬ ¬ x = 1 from fun q => q x1), if_neg (show ¬ ¬ x = 1 from fun q => q x1), z90, if_pos zn]; exact ALK_mk rfl hRZ
      · rw [if_pos x1, if_pos x1, if_pos (show ¬ (2 : Int32) = 1 by decide), z90, if_pos zn]; exact ALK_mk rfl hRZ
theorem pu_Gplay {f : Nat} {S : Xst} {M : Cst} (hf : f + 60000 < 2 ^ 30) (hR : RelS f S M) : ALK (f + 60000) (sX4_play S) (sX5_play M) := by
  unfold sX5_play
  refine p_ltv (Q9 := ALK (f + 60000) (sX4_play S)) (fun A eA => p_bnd (fun r12 B eB => p_ltv (fun Z eZ => ?_)))
  obtain ⟨pl, hRZ, z9, z0, z4, z1, z3, z5, z6⟩ := pu_reh hf hR eA eB eZ
  obtain ⟨p1, p2, p3, _, _, pc⟩ := pl
  dsimp only at pc
  have cls : ∀ b, (∀ X, X = sX4_rehearse S → ALKb (f + 60000) b (if ¬ ((X 8) 1 0) = 0 then sX4_keptIfDone X (-10002) else sX4_keptIfDone X ((X 8) 3 0))) → ALK (f + 60000) (sX4_play S) b := by
    intro b hb
    show ALKb (f + 60000) b (sX4_play S)
    unfold sX4_play
    refine p_ltv (Q9 := ALKb (f + 60000) b) (fun K28 e28 => p_ltv (fun X eX => ?_))
    have := hb X eX
    have kk : ∀ t, K28 X t = sX4_keptIfDone X t := fun t => by rw [e28]; rfl
    rw [kk, kk]; exact this
  have neg : ∀ X : Xst, sX4_keptIfDone X (-10002) = ((-10002), X) := fun X => by unfold sX4_keptIfDone; exact if_pos pu_n2
  refine cls _ (fun X eX => ?_)
  rw [← eX] at pc hRZ p1 p2 p3
  have bad : ¬ X 8 1 0 = 0 → ¬ r12 = -10004 → ALKb (f + 60000) (if r12 = (-10004) then ltv (sX5_changes Z) (fun (S_39 : Cst) => bnd (sX5_plays S_39) (fun (r_43 : Int32) (S_43 : Cst) => (if ¬ r_43 = (-10004) then ((-10004), S_43) else ((S_43 10 0), S_43)))) else ((-10002), Z)) (if ¬ ((X 8) 1 0) = 0 then sX4_keptIfDone X (-10002) else sX4_keptIfDone X ((X 8) 3 0)) := by
    intro c1 c2
    rw [if_neg c2, if_pos c1, neg]
    exact ALK_mk rfl (RelS_mono (by omega) hRZ)
  rcases pc with ⟨k1, k2, _⟩ | ⟨k1, ⟨s, hs, k2, k3⟩, k4⟩ | ⟨k1, ⟨s, hs, k2, k3⟩, k4, k5⟩
  · rw [k1, if_neg pu_00, if_pos k2]
    obtain ⟨h1, h2, ⟨o, p, a1, a2, a3, a4, a5, a6⟩, hTx⟩ := hR
    refine p_ltv (Q9 := fun b => ALKb (f + 60000) b (sX4_keptIfDone X (X 8 3 0))) (fun N eN => p_bnd (Q9 := fun b => ALKb (f + 60000) b (sX4_keptIfDone X (X 8 3 0))) (fun r43 W eW => ?_))
    have ch := pu_ch2 (M := Z) (p := p) (P := fun Y => Y 0 = Z 0 ∧ (∀ j, j ≠ 1 → j ≠ 3 → Y j = Z j) ∧ Y 3 0 = nI (min p 3 + 1) ∧ (∀ j i, j < min p 3 → i < 107 → Y 1 (107 * j + i) = Z 1 (107 * (j + (p - min p 3)) + i)) ∧ (∀ i, i < 107 → Y 1 (107 * min p 3 + i) = Z 0 i)) z4 a2 (by rw [z3]; exact a5) (fun Y c0 c1 c2 c3 c4 => ⟨c0, c1, c2, c3, c4⟩)
    rw [← eN] at ch
    obtain ⟨n0, nk, n3, nj, np⟩ := ch
    have pl2 := pu_plays (S := S) (M := N) hf (by rw [n0]; exact RF_congr z0 h1) (RTx_of hTx ((nk 5 (by decide) (by decide)).trans z5) ((nk 6 (by decide) (by decide)).trans z6))
    rw [eW, ← eX] at pl2
    obtain ⟨_, _, _, w4, w5, wc⟩ := pl2
    dsimp only at w4 w5 wc
    rcases wc with ⟨_, v2, q, hq, v3, v4, v5⟩ | ⟨v1, _⟩ | ⟨v1, _⟩
    · rw [if_neg (fun z => z v2), v3, v4]
      have wk : ∀ k, k ≠ 0 → k ≠ 4 → k ≠ 7 → k ≠ 8 → k ≠ 9 → k ≠ 10 → k ≠ 11 → W k = N k := w4
      have kept : KEPT M W := by
        intro p' hp' hp4
        have : p' = p := (nI_eq (by omega) (by omega)).mp (hp'.symm.trans a5)
        subst this
        refine ⟨w5, ?_, ?_, ?_, fun j i hj hi => ?_, fun i hi => ?_⟩
        · rw [wk 5 (by decide) (by decide) (by decide) (by decide) (by decide) (by decide) (by decide), nk 5 (by decide) (by decide), z5]
        · rw [wk 6 (by decide) (by decide) (by decide) (by decide) (by decide) (by decide) (by decide), nk 6 (by decide) (by decide), z6]
        · rw [wk 3 (by decide) (by decide) (by decide) (by decide) (by decide) (by decide) (by decide), n3]
        · rw [wk 1 (by decide) (by decide) (by decide) (by decide) (by decide) (by decide) (by decide), nj j i hj hi, z1]
        · rw [wk 1 (by decide) (by decide) (by decide) (by decide) (by decide) (by decide) (by decide), np i hi, z0 i hi]
      exact pu_keptQ (S := S) (S' := X) (M := M) (M2 := W) ⟨h1, h2, ⟨o, p, a1, a2, a3, a4, a5, a6⟩, hTx⟩ (fun j h1' h8 h7 => p1 j h1' h7 h8) p2 p3 (by omega) (nI_pos (by omega)) kept v5
    · rw [k1] at v1; exact absurd v1 (by decide)
    · rw [k1] at v1; exact absurd v1 (by decide)
  · exact bad (by rw [k1]; decide) (by rw [k3]; exact pu_s4 hs)
  · exact bad (by rw [k1]; decide) (by rw [k3]; exact pu_s4 hs)
theorem pu_cR11 (M : Cst) : PEQ (M 3 0) (sX5_count M 11) := by
  unfold sX5_count
  exact p_ite (fun c => absurd c (by decide)) (fun _ => p_ite (fun c => absurd c (by decide)) (fun _ => p_ite (fun c => absurd c (by decide)) (fun _ => p_ite (fun c => absurd c (by decide)) (fun _ => p_ite (fun c => absurd c (by decide)) (fun _ => p_ite (fun c => absurd c (by decide)) (fun _ => p_ite (fun c => absurd c (by decide)) (fun _ => p_ite (fun c => absurd c (by decide)) (fun _ => p_ite (fun c => absurd c (by decide)) (fun _ => p_ite (fun c => absurd c (by decide)) (fun _ => p_ite (fun c => absurd c (by decide)) (fun _ => p_ite (fun _ => PEQ_rfl _) (fun c => absurd rfl c))))))))))))
theorem pu_cR12 (M : Cst) : PEQ (M 6 0) (sX5_count M 12) := by
  unfold sX5_count
  exact p_ite (fun c => absurd c (by decide)) (fun _ => p_ite (fun c => absurd c (by decide)) (fun _ => p_ite (fun c => absurd c (by decide)) (fun _ => p_ite (fun c => absurd c (by decide)) (fun _ => p_ite (fun c => absurd c (by decide)) (fun _ => p_ite (fun c => absurd c (by decide)) (fun _ => p_ite (fun c => absurd c (by decide)) (fun _ => p_ite (fun c => absurd c (by decide)) (fun _ => p_ite (fun c => absurd c (by decide)) (fun _ => p_ite (fun c => absurd c (by decide)) (fun _ => p_ite (fun c => absurd c (by decide)) (fun _ => p_ite (fun c => absurd c (by decide)) (fun _ => p_ite (fun _ => PEQ_rfl _) (fun c => absurd rfl c)))))))))))))
theorem pu_Gcount {f : Nat} {S : Xst} {M : Cst} (x : Int32) (hR : RelS f S M) : sX4_count S x = sX5_count M x := by
  obtain ⟨⟨n, t, hl, m, g, _, _, h3⟩, _, ⟨o, p, _, _, _, a4, a5, _⟩, ⟨L, _, b2, b3, _⟩⟩ := hR
  show PEQ (sX5_count M x) (sX4_count S x)
  unfold sX4_count
  refine p_ite (fun c => p_ite (fun c2 => p_ltv (fun r er => ?_)) (fun c2 => ?_)) (fun c => ?_)
  · rw [er, pu_cntE x c c2 h3]; exact PEQ_rfl _
  · have e : x = 12 := Decidable.not_not.mp c2
    have q : sX5_count M 12 = M 6 0 := pu_cR12 M
    rw [e, q, b2, b3]; exact PEQ_rfl _
  · have e : x = 11 := Decidable.not_not.mp c
    have q : sX5_count M 11 = M 3 0 := pu_cR11 M
    rw [e, q, a4, a5]; exact PEQ_rfl _
theorem pu_GbestUse {f : Nat} {S : Xst} {M : Cst} (x : Int32) (hR : RelS f S M) : sX4_bestUse S x = sX5_bestUse M x := by
  obtain ⟨⟨n, t, hl, m, g, _, _, h3⟩, _⟩ := hR
  have hn : n ≤ 8 := h3.1.1
  have e1 : sX4_bestUse S x = if sX0_has (S 0) x = 0 then (-10001) else sX0_bestUnits (S 0) x.toNatClampNeg := rfl
  have e2 : sX5_bestUse M x = if sX5_isMember M x = 0 then (-10001) else sX5_best M x.toNatClampNeg := rfl
  rw [e1, e2]
  rcases pu_has_mem h3.2.1.1 h3.2.1.2.1 hn x with ⟨q1, q2, _⟩ | ⟨i, hi, rfl, q1, q2⟩
  · rw [q1, q2, if_pos rfl, if_pos rfl]
  · rw [q1, q2, if_neg pu_10, if_neg pu_10, nI_clamp (by omega)]; exact (pu_best_eq h3 hi).1
def BFQ (f : Nat) (M : Cst) (b : Int32) (a : Int32 × Xst) : Prop := a.1 = b ∧ RelS f a.2 M
theorem BFQ_mk {f : Nat} {M : Cst} {b v : Int32} {X : Xst} (h1 : v = b) (h2 : RelS f X M) : BFQ f M b (v, X) := ⟨h1, h2⟩
theorem pu_bad (M : Cst) (x : Int32) (h : x < 0 ∨ 1 < x) : PEQ (-10001) (sX5_bestForAll M x) := by
  unfold sX5_bestForAll
  exact p_ltv (fun K e => p_lz5 (fun B Z _ _ => p_ltv (fun r er => p_ite (fun c => absurd (er.trans ((pu_in x 0 1).trans (if_pos h))) c) (fun _ => PEQ_rfl _))))
theorem pu_GbestForAll {f : Nat} {S : Xst} {M : Cst} (x : Int32) (hR : RelS f S M) : BFQ f M (sX5_bestForAll M x) (sX4_bestForAll S x) := by
  have hR' := hR
  obtain ⟨⟨n, t, hl, m, g, _, _, h3⟩, _⟩ := hR
  unfold sX4_bestForAll
  refine p_ltv (Q9 := BFQ f M (sX5_bestForAll M x)) (fun K13 e13 => ?_)
  have main : ¬ (x < 0 ∨ 1 < x) → BFQ f M (sX5_bestForAll M x) (K13 S x) := by
    intro hx
    have e := pu_bestAll (C := S 0) (M := M) x hx h3
    subst e13
    refine p_ltv (fun X1 g1 => p_bnd (fun r C g2 => p_ltv (fun X2 g3 => ?_)))
    have x11 : X1 1 = S 0 := by rw [g1]; rfl
    rw [x11] at g2
    rw [g2] at e
    dsimp only at e
    have x21 : X2 1 = C := by rw [g3, upx_self]
    have hX : RelS f X2 M := RelS_same hR' (fun j hj => by rw [g3, pu_upxn _ _ hj, g1, pu_upxn _ _ hj]) ⟨fun _ _ _ _ => rfl, fun _ _ => rfl⟩
    refine p_ite (fun c => ?_) (fun c => p_ltv (fun r2 er2 => ?_))
    · rw [if_pos c] at e
      rw [e]; exact BFQ_mk rfl hX
    · rw [if_neg c] at e
      rw [e, er2, x21]; exact BFQ_mk (pu_sum2 C) hX
  refine p_ite (fun c => main (by rw [c]; decide)) (fun c => p_ite (fun c2 => main (by rw [c2]; decide)) (fun c2 => ?_))
  have hb : x < 0 ∨ 1 < x := by
    by_cases q : x < 0
    · exact Or.inl q
    · obtain ⟨i, hi, rfl⟩ := nI_of q
      have h0 : ¬ i = 0 := fun z => c (by rw [z]; rfl)
      have h1 : ¬ i = 1 := fun z => c2 (by rw [z]; rfl)
      exact Or.inr (nI_lt (a := 1) (by omega) hi)
  have e : sX5_bestForAll M x = -10001 := pu_bad M x hb
  rw [e]; exact BFQ_mk rfl hR'
theorem pu_Gcalm {f : Nat} {S : Xst} {M : Cst} (x : Int32) (hR : RelS f S M) : ALK f (sX4_calm S x) (sX5_calm M x) := by
  have hR' := hR
  obtain ⟨⟨n, t, hl, m, g, _, _, h3⟩, _⟩ := hR
  obtain ⟨⟨e, hX⟩, hM⟩ := pu_calm x h3
  exact ⟨e, RelS_same hR' hX hM⟩
theorem pu_Gwould {f : Nat} {S : Xst} {M : Cst} (hR : RelS f S M) : ALK f (sX4_wouldExclude S) (sX5_wouldExclude M) := by
  have hR' := hR
  obtain ⟨⟨n, t, hl, m, g, h1, _, h3⟩, _⟩ := hR
  obtain ⟨⟨e, hX⟩, hM⟩ := pu_would h1 h3
  exact ⟨e, RelS_same hR' hX hM⟩
theorem pu_Gpre {f : Nat} {S : Xst} {M : Cst} (hR : RelS f S M) : (0 ≤ (S 2 1 0).toInt ∧ (S 2 1 0).toInt ≤ 3) ∧ (0 ≤ (S 2 2 0).toInt ∧ (S 2 2 0).toInt ≤ 4) ∧ IC (S 0) ∧ 0 ≤ (S 7 1 0).toInt ∧ IM M := by
  obtain ⟨⟨n, t, hl, m, g, _, _, h3⟩, _, ⟨o, p, a1, a2, a3, a4, a5, _⟩, ⟨L, b1, b2, b3, _⟩⟩ := hR
  obtain ⟨⟨hn, ht, hh, hm⟩, ⟨h9, r5, h10, r6, h11, r7, h12, r8, h13, r9, r10, r11⟩, ⟨hs1, hs2⟩, hrr, hd, hz, hk1, hk2⟩ := h3
  obtain ⟨d, d0, d200, ed, e1d⟩ := pu_k0 hs2
  have h4 : (1 : Int32) ≤ S 0 0 4 := (hs2 4 (by decide)).1
  refine ⟨?_, ?_, ⟨?_, ?_, ?_⟩, ?_, ?_, ?_, ?_, ?_, ?_, ?_, ?_, ?_, ?_, ?_⟩
  · rw [a3, nI_toInt (by omega)]; omega
  · rw [a4, nI_toInt (by omega)]; omega
  · rw [h9, nI_toInt (by omega)]; omega
  · rw [h9, nI_toInt (by omega)]; omega
  · rw [h10, nI_toInt (by omega)]; omega
  · rw [b2, nI_toInt (by omega)]; omega
  · rw [r5, nI_toInt (by omega)]; omega
  · rw [r5, nI_toInt (by omega)]; omega
  · rw [hs1 0 (by decide), ed]; exact nI_ne0 d0 (by omega)
  · rw [hs1 4 (by decide)]; exact fun q => by rw [q] at h4; exact absurd h4 (by decide)
  · rw [hk1, nI_toInt (by omega)]; omega
  · rw [hk1, nI_toInt (by omega)]; omega
  · rw [a5, nI_toInt (by omega)]; omega
  · rw [a5, nI_toInt (by omega)]; omega
  · rw [b3, nI_toInt (by omega)]; omega
  · rw [b3, nI_toInt (by omega)]; omega
theorem pu_start : RelS 0 iX iM := by
  have z : ∀ k, k ≠ 0 → k ≠ 11 → ∀ i, iC k i = 0 := by
    intro k h0 h11 i
    unfold iC
    split
    · exact absurd rfl h0
    · exact absurd rfl h11
    · rfl
  have c0 : iC 0 = i0s := rfl
  have m0 : iM 0 = i5s := rfl
  have i7 : ∀ j, j ≠ 7 → i5s j = i0s j := fun j hj => by unfold i5s upd; exact if_neg hj
  have i9 : ∀ j, 5 ≤ j → i0s j = 0 := fun j hj => by
    unfold i0s upd
    rw [if_neg (by omega), if_neg (by omega), if_neg (by omega), if_neg (by omega), if_neg (by omega)]
  have rz : ∀ j, 5 ≤ j → j ≠ 7 → iM 0 j = 0 := fun j h1 h2 => by rw [m0, i7 j h2, i9 j h1]
  refine ⟨⟨0, 0, 100, 0, 0, by decide, by decide, ⟨by decide, by decide, by decide, by decide⟩, ?_, ⟨fun k hk => ?_, fun k hk => ?_⟩, fun i hi => absurd hi (Nat.not_lt_zero i), fun i hi => ?_, fun i _ hi => ?_, ?_, fun k w hk _ => absurd hk (Nat.not_lt_zero k)⟩, rfl, ⟨0, 0, by decide, by decide, rfl, rfl, rfl, fun j hj => absurd hj (Nat.not_lt_zero j)⟩, ⟨0, by decide, rfl, rfl, fun k hk => absurd hk (Nat.not_lt_zero k)⟩⟩
  · show iC 9 0 = _ ∧ iM 0 5 = _ ∧ iC 10 0 = _ ∧ iM 0 6 = _ ∧ iC 11 0 = _ ∧ iM 0 7 = _ ∧ iC 12 0 = _ ∧ iM 0 8 = _ ∧ iC 13 0 = _ ∧ iM 0 9 = iC 14 0 ∧ iM 0 10 = iC 15 0 ∧ iM 0 11 = iC 16 0
    rw [rz 5 (by decide) (by decide), rz 6 (by decide) (by decide), rz 8 (by decide) (by decide), rz 9 (by decide) (by decide), rz 10 (by decide) (by decide), rz 11 (by decide) (by decide), z 9 (by decide) (by decide), z 10 (by decide) (by decide), z 12 (by decide) (by decide), z 13 (by decide) (by decide), z 14 (by decide) (by decide), z 15 (by decide) (by decide), z 16 (by decide) (by decide)]
    exact ⟨rfl, rfl, rfl, rfl, rfl, rfl, rfl, rfl, rfl, rfl, rfl, rfl⟩
  · show iM 0 k = iC 0 k
    rw [m0, c0, i7 k (by omega)]
  · show sL k ≤ iC 0 k ∧ iC 0 k ≤ sM k
    have hc : k = 0 ∨ k = 1 ∨ k = 2 ∨ k = 3 ∨ k = 4 := by omega
    rcases hc with rfl | rfl | rfl | rfl | rfl <;> decide
  · show (∃ a, a ≤ 30 ∧ iC 1 i = nI a) ∧ (∃ a, a ≤ 20 ∧ iC 2 i = nI a) ∧ (∃ a, a ≤ 20 * 0 ∧ iC 5 i = nI a) ∧ (∃ a, a ≤ 20 * 0 ∧ iC 6 i = nI a)
    rw [z 1 (by decide) (by decide), z 2 (by decide) (by decide), z 5 (by decide) (by decide), z 6 (by decide) (by decide)]
    exact ⟨⟨0, by decide, rfl⟩, ⟨0, by decide, rfl⟩, ⟨0, by decide, rfl⟩, ⟨0, by decide, rfl⟩⟩
  · show iC 1 i = 0 ∧ iC 2 i = 0 ∧ iC 3 i = 0 ∧ iC 4 i = 0 ∧ iC 5 i = 0 ∧ iC 6 i = 0 ∧ iC 7 i = 0
    rw [z 1 (by decide) (by decide), z 2 (by decide) (by decide), z 3 (by decide) (by decide), z 4 (by decide) (by decide), z 5 (by decide) (by decide), z 6 (by decide) (by decide), z 7 (by decide) (by decide)]
    exact ⟨rfl, rfl, rfl, rfl, rfl, rfl, rfl⟩
  · show iM 0 12 = _
    rw [rz 12 (by decide) (by decide)]; rfl
