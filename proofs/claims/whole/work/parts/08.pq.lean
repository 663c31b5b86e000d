/-! reading commands -/
abbrev pu_D (T : Nat → Nat) (L s : Nat) : Prop := s < L ∧ 48 ≤ T s ∧ T s ≤ 57
def pu_dn (T : Nat → Nat) (L s : Nat) : Nat := if pu_D T L (s + 0) then (if pu_D T L (s + 1) then (if pu_D T L (s + 2) then 3 else 2) else 1) else 0
def pu_nv (T : Nat → Nat) (s : Nat) : Nat → Nat
  | 0 => 0
  | d + 1 => 10 * pu_nv T s d + (T (s + d) - 48)
theorem pu_dn_of {T : Nat → Nat} {L s d : Nat} (hd : d ≤ 3) (h1 : ∀ j, j < d → pu_D T L (s + j)) (h2 : d < 3 → ¬ pu_D T L (s + d)) : pu_dn T L s = d := by
  unfold pu_dn
  have hc : d = 0 ∨ d = 1 ∨ d = 2 ∨ d = 3 := by omega
  rcases hc with rfl | rfl | rfl | rfl
  · rw [if_neg (h2 (by decide))]
  · rw [if_pos (h1 0 (by decide)), if_neg (h2 (by decide))]
  · rw [if_pos (h1 0 (by decide)), if_pos (h1 1 (by decide)), if_neg (h2 (by decide))]
  · rw [if_pos (h1 0 (by decide)), if_pos (h1 1 (by decide)), if_pos (h1 2 (by decide))]
theorem pu_dn_le (T : Nat → Nat) (L s : Nat) : pu_dn T L s ≤ 3 := by
  unfold pu_dn; repeat' split
  all_goals omega
theorem pu_nv_lt {T : Nat → Nat} {L s : Nat} : ∀ d, (∀ j, j < d → pu_D T L (s + j)) → pu_nv T s d < 10 ^ d
  | 0, _ => (by decide : 0 < 10 ^ 0)
  | d + 1, h => by
    have h1 := pu_nv_lt d (fun j hj => h j (by omega))
    have h2 := h d (by omega)
    simp only [pu_nv]
    rw [Nat.pow_succ]; omega
def TXC (T : Nat → Nat) (L s : Nat) (X : Xst) : Prop := X 7 1 0 = nI L ∧ X 7 2 0 = nI s ∧ ∀ k, k < L → X 7 0 k = nI (T k)
def TXR (T : Nat → Nat) (L s : Nat) (M : Cst) : Prop := M 6 0 = nI L ∧ M 8 0 = nI s ∧ ∀ k, k < L → M 5 k = nI (T k)
theorem pu_sign {T : Nat → Nat} {L s : Nat} {X : Xst} (hL : L ≤ 60) (hs : s < 1000) (h : TXC T L s X) : sX3_signAhead X = if s < L then nI (T s) else -1 := by
  obtain ⟨h1, h2, h3⟩ := h
  dsimp only [sX3_signAhead]
  rw [h1, h2, if_neg (nI_pos (by omega))]
  by_cases c : s < L
  · rw [if_neg (nI_ge c (by omega)), if_neg (show ¬ (60 : Int32) ≤ nI s from nI_ge (b := 60) (by omega) (by decide)), if_pos c, nI_clamp (by omega)]; exact h3 s c
  · rw [if_pos (nI_le (by omega) (by omega)), if_neg c]
theorem pu_pass {P : Int32 × Xst → Prop} {T : Nat → Nat} {L s c : Nat} {X : Xst} (hL : L ≤ 60) (hs : s < 1000) (hT : ∀ k, k < L → T k ≤ 126) (hc : c ≤ 126) (h : TXC T L s X) (k0 : ¬ (s < L ∧ T s = c) → P (0, X)) (k1 : (s < L ∧ T s = c) → ∀ X' : Xst, (∀ j, j ≠ 7 → X' j = X j) → (∀ j, j ≠ 2 → X' 7 j = X 7 j) → X' 7 2 0 = nI (s + 1) → P (1, X')) : P (sX3_passes X (nI c)) := by
  unfold sX3_passes
  refine p_ltv (Q9 := P) (fun r er => ?_)
  rw [pu_sign hL hs h] at er
  have iff : r = nI c ↔ (s < L ∧ T s = c) := by
    rw [er]
    by_cases q : s < L
    · rw [if_pos q, nI_eq (by have := hT s q; omega) (by omega)]
      exact ⟨fun z => ⟨q, z⟩, fun z => z.2⟩
    · rw [if_neg q]
      exact ⟨fun z => absurd (show (-1 : Int32) < 0 from by decide) (by rw [z]; exact nI_pos (by omega)), fun z => absurd z.1 q⟩
  refine p_ite (fun q => p_ltv (fun Y eY => k1 (iff.mp q) Y (fun j hj => by rw [eY, pu_upxn _ _ hj]) (fun j hj => by rw [eY, upx_self, pu_un _ _ _ hj]) (by rw [eY, upx_self, pu_up, if_pos rfl, if_pos rfl, h.2.1, nI_1]))) (fun q => k0 (fun z => q (iff.mpr z)))
theorem pu_rdN {P : Int32 × Xst → Prop} {T : Nat → Nat} {L s : Nat} {X : Xst} (hL : L ≤ 60) (hs : s < 900) (hT : ∀ k, k < L → 32 ≤ T k ∧ T k ≤ 126) (h : TXC T L s X) (kk : ∀ X' : Xst, (∀ j, j ≠ 7 → X' j = X j) → (∀ j, j ≠ 2 → X' 7 j = X 7 j) → X' 7 2 0 = nI (s + pu_dn T L s) → P ((if pu_dn T L s = 0 then -1 else nI (pu_nv T s (pu_dn T L s))), X')) : P (sX3_readNumber X) := by
  unfold sX3_readNumber
  refine p_lz3 (Q9 := P) (fun B Z hB hZ => ?_)
  refine pl3 hZ (fun k Y x1 i2 => i2 = k ∧ (∀ j, j < k → pu_D T L (s + j)) ∧ x1 = (if k = 0 then -1 else nI (pu_nv T s k)) ∧ (∀ j, j ≠ 7 → Y j = X j) ∧ (∀ j, j ≠ 2 → Y 7 j = X 7 j) ∧ Y 7 2 0 = nI (s + k)) 3 ?_ ?_ 4 0 _ _ _ (by decide) (by decide) ⟨rfl, fun j hj => absurd hj (Nat.not_lt_zero j), rfl, fun _ _ => rfl, fun _ _ => rfl, h.2.1⟩
  · rintro R k Y x1 i2 hk ⟨rfl, g1, rfl, g2, g3, g4⟩ hR
    rw [hB]
    have hY : TXC T L (s + i2) Y := ⟨by rw [g3 1 (by decide)]; exact h.1, g4, by rw [g3 0 (by decide)]; exact h.2.2⟩
    have out : ¬ pu_D T L (s + i2) → P ((if i2 = 0 then -1 else nI (pu_nv T s i2)), Y) := by
      intro hn
      have e := pu_dn_of (by omega) g1 (fun _ => hn)
      have := kk Y g2 g3 (by rw [e]; exact g4)
      rw [e] at this; exact this
    refine p_ite (fun c => absurd c (nI_ge (b := 3) hk (by decide))) (fun _ => p_ltv (fun r er => ?_))
    rw [pu_sign hL (by omega) hY] at er
    by_cases q : s + i2 < L
    · rw [if_pos q] at er
      obtain ⟨t1, t2⟩ := hT _ q
      rw [er]
      refine p_ite (fun c => out (fun d => absurd c (nI_nlt (b := 48) d.2.1 (by omega)))) (fun c => p_ite (fun c2 => p_ltv (fun v ev => p_ltv (fun W eW => ?_))) (fun c2 => out (fun d => c2 (nI_le (b := 57) d.2.2 (by decide)))))
      have d1 : 48 ≤ T (s + i2) := Nat.not_lt.mp (fun z => c (nI_lt (b := 48) z (by decide)))
      have d2 : T (s + i2) ≤ 57 := (nI_leI (b := 57) (by omega) (by decide)).mp c2
      have hlt := pu_nv_lt i2 g1
      have hp : 10 ^ i2 ≤ 100 := by
        have : i2 = 0 ∨ i2 = 1 ∨ i2 = 2 := by omega
        rcases this with rfl | rfl | rfl <;> decide
      have ex : (if (if i2 = 0 then (-1 : Int32) else nI (pu_nv T s i2)) < 0 then (0 : Int32) else (if i2 = 0 then (-1 : Int32) else nI (pu_nv T s i2))) = nI (pu_nv T s i2) := by
        by_cases z : i2 = 0
        · subst z; rfl
        · rw [if_neg z, if_neg (nI_pos (by omega))]
      have ev' : v = nI (pu_nv T s (i2 + 1)) := by
        rw [ev, ex, show (10 : Int32) = nI 10 from rfl, nI_mul, show (48 : Int32) = nI 48 from rfl, nI_sub d1, nI_add]
        simp only [pu_nv]; rw [Nat.mul_comm]
      refine hR _ _ _ ⟨rfl, fun j hj => ?_, by rw [if_neg (by omega)]; exact ev', fun j hj => by rw [eW, pu_upxn _ _ hj, g2 j hj], fun j hj => by rw [eW, upx_self, pu_un _ _ _ hj, g3 j hj], by rw [eW, upx_self, pu_up, if_pos rfl, if_pos rfl, g4, nI_1]; rfl⟩
      by_cases z : j = i2
      · rw [z]; exact ⟨q, d1, d2⟩
      · exact g1 j (by omega)
    · rw [if_neg q] at er
      rw [er]
      exact p_ite (fun _ => out (fun d => q d.1)) (fun c => absurd (show (-1 : Int32) < 48 from by decide) c)
  · rintro R Y x1 i2 ⟨rfl, g1, rfl, g2, g3, g4⟩
    rw [hB]
    refine p_ite (fun _ => ?_) (fun c => absurd (show (3 : Int32) ≤ nI 3 from by decide) c)
    have e := pu_dn_of (T := T) (L := L) (s := s) (d := 3) (by decide) g1 (fun c => absurd c (by decide))
    have := kk Y g2 g3 (by rw [e]; exact g4)
    rw [e] at this; exact this
theorem pu_isAt {T : Nat → Nat} {L s lo hi : Nat} {M : Cst} (hL : L ≤ 60) (hs : s < 1000) (hT : ∀ k, k < L → T k ≤ 126) (hlo : lo ≤ 126) (hhi : hi ≤ 126) (h : TXR T L s M) : sX5_isAt M (nI lo) (nI hi) = if s < L ∧ lo ≤ T s ∧ T s ≤ hi then 1 else 0 := by
  obtain ⟨h1, h2, h3⟩ := h
  dsimp only [sX5_isAt, ltv]
  rw [h1, h2]
  by_cases c : s < L
  · have := hT s c
    rw [if_neg (nI_ge c (by omega)), nI_clamp (by omega), h3 s c, pu_in]
    by_cases c2 : lo ≤ T s ∧ T s ≤ hi
    · rw [if_neg (show ¬ (nI (T s) < nI lo ∨ nI hi < nI (T s)) from fun q => q.elim (nI_nlt c2.1 (by omega)) (nI_nlt c2.2 (by omega))), if_neg pu_10, if_pos ⟨c, c2⟩]
    · have : nI (T s) < nI lo ∨ nI hi < nI (T s) := by
        by_cases c3 : lo ≤ T s
        · exact Or.inr (nI_lt (by omega) (by omega))
        · exact Or.inl (nI_lt (by omega) (by omega))
      rw [if_pos this, if_pos rfl, if_neg (fun q => c2 q.2)]
  · rw [if_pos (nI_le (by omega) (by omega)), if_neg (fun q => c q.1)]
theorem pu_numR {P : Int32 × Cst → Prop} {T : Nat → Nat} {L s b i : Nat} {M : Cst} (hL : L ≤ 60) (hs : s < 900) (hT : ∀ k, k < L → 32 ≤ T k ∧ T k ≤ 126) (hb : b ≤ 126) (h : TXR T L s M) (kk : ∀ M' : Cst, (∀ j, j ≠ 8 → j ≠ 11 → M' j = M j) → (∀ j, j ≠ i → M' 11 j = M 11 j) → M' 11 i = nI (pu_nv T s (pu_dn T L s)) → M' 8 0 = nI (s + pu_dn T L s + 1) → P ((if 0 < pu_dn T L s ∧ s + pu_dn T L s < L ∧ T (s + pu_dn T L s) = b then 1 else 0), M')) : P (sX5_number M i (nI b)) := by
  have hT2 : ∀ k, k < L → T k ≤ 126 := fun k hk => (hT k hk).2
  unfold sX5_number
  refine p_ltv (Q9 := P) (fun K96 e96 => p_ltv (fun K95 e95 => p_ltv (fun K74 e74 => p_lz4 (fun B Z hB hZ => p_ltv (fun v3 ev3 => p_ltv (fun S eS => ?_))))))
  rw [h.2.1] at ev3
  subst ev3
  have k74 : ∀ Y, (∀ j, j ≠ 8 → j ≠ 11 → Y j = M j) → (∀ j, j ≠ i → Y 11 j = M 11 j) → ∀ d, d ≤ 3 → (∀ j, j < d → pu_D T L (s + j)) → (d < 3 → ¬ pu_D T L (s + d)) → Y 11 i = nI (pu_nv T s d) → Y 8 0 = nI (s + d) → P (K74 Y (nI b) (nI s)) := by
    intro Y y1 y2 d hd d1 d2 y3 y4
    have e := pu_dn_of hd d1 d2
    have k96 : ∀ v, v = (if 0 < d ∧ s + d < L ∧ T (s + d) = b then (1 : Int32) else 0) → P (K96 Y v) := by
      intro v hv
      subst e96
      refine p_ltv (fun W eW => ?_)
      have := kk W (fun j h8 h11 => by rw [eW, pu_un _ _ _ h8, y1 j h8 h11]) (fun j hj => by rw [eW, pu_un _ _ _ (by decide), y2 j hj]) (by rw [eW, pu_un _ _ _ (by decide), y3, e]) (by rw [eW, pu_up, if_pos rfl, if_pos rfl, y4, nI_1, e])
      rw [e] at this; rw [hv]; exact this
    have k95 : ¬ (0 < d ∧ s + d < L ∧ T (s + d) = b) → P (K95 Y) := by
      intro hn
      subst e95
      exact k96 0 (by rw [if_neg hn])
    subst e74
    have hY : TXR T L (s + d) Y := ⟨by rw [y1 6 (by decide) (by decide)]; exact h.1, y4, by rw [y1 5 (by decide) (by decide)]; exact h.2.2⟩
    refine p_ite (fun c => k95 (fun q => ?_)) (fun c => p_ltv (fun r er => ?_))
    · rw [y4] at c; exact absurd c (nI_ge (by omega) (by omega))
    have d0 : 0 < d := by
      rcases Nat.eq_zero_or_pos d with z | z
      · exact absurd (by rw [y4, z]; exact nI_le (Nat.le_refl _) (by omega)) c
      · exact z
    rw [pu_isAt hL (by omega) hT2 hb hb hY] at er
    refine p_ite (fun c2 => k95 (fun q => ?_)) (fun c2 => k96 1 ?_)
    · rw [er, if_pos ⟨q.2.1, Nat.le_of_eq q.2.2.symm, Nat.le_of_eq q.2.2⟩] at c2; exact pu_10 c2
    · have : s + d < L ∧ b ≤ T (s + d) ∧ T (s + d) ≤ b := Decidable.byContradiction (fun q => c2 (by rw [er, if_neg q]))
      rw [if_pos ⟨d0, this.1, by omega⟩]
  refine pl4 hZ (fun q Y i1 x2 x3 => i1 = i ∧ x2 = nI b ∧ x3 = nI s ∧ (∀ j, j < q → pu_D T L (s + j)) ∧ (∀ j, j ≠ 8 → j ≠ 11 → Y j = M j) ∧ (∀ j, j ≠ i → Y 11 j = M 11 j) ∧ Y 11 i = nI (pu_nv T s q) ∧ Y 8 0 = nI (s + q)) 3 ?_ ?_ 4 0 _ _ _ _ (by decide) (by decide) ⟨rfl, rfl, rfl, fun j hj => absurd hj (Nat.not_lt_zero j), fun j _ h11 => by rw [eS, pu_un _ _ _ h11], fun j hj => by rw [eS, pu_up, if_pos rfl, if_neg hj], by rw [eS, pu_up, if_pos rfl, if_pos rfl]; rfl, by rw [eS, pu_un _ _ _ (by decide), h.2.1]; rfl⟩
  · rintro R q Y i1 x2 x3 hq ⟨rfl, rfl, rfl, g1, y1, y2, y3, y4⟩ hR
    rw [hB]
    have hY : TXR T L (s + q) Y := ⟨by rw [y1 6 (by decide) (by decide)]; exact h.1, y4, by rw [y1 5 (by decide) (by decide)]; exact h.2.2⟩
    refine p_ltv (fun r er => ?_)
    have er' : r = if s + q < L ∧ 48 ≤ T (s + q) ∧ T (s + q) ≤ 57 then 1 else 0 := er.trans (pu_isAt (lo := 48) (hi := 57) hL (by omega) hT2 (by decide) (by decide) hY)
    by_cases hd : pu_D T L (s + q)
    · have hd' := hd
      rw [if_pos hd] at er'
      refine p_ite (fun c => absurd c (by rw [er']; decide)) (fun _ => ?_)
      have e3 : Y 8 0 - nI s = nI q := by rw [y4, nI_sub (by omega), show s + q - s = q by omega]
      rw [e3]
      refine p_ite (fun c => absurd c (nI_ge (b := 3) hq (by decide))) (fun _ => p_ltv (fun W eW => p_ltv (fun V eV => ?_)))
      have hlt := pu_nv_lt q g1
      have hp : 10 ^ q ≤ 100 := by
        have : q = 0 ∨ q = 1 ∨ q = 2 := by omega
        rcases this with rfl | rfl | rfl <;> decide
      have e5 : Y 5 (Y 8 0).toNatClampNeg = nI (T (s + q)) := by rw [y4, nI_clamp (by omega)]; exact hY.2.2 _ hd.1
      have ew : ((10 * Y 11 i1) + Y 5 (Y 8 0).toNatClampNeg) - 48 = nI (pu_nv T s (q + 1)) := by
        rw [e5, y3, show (10 : Int32) = nI 10 from rfl, nI_mul, nI_add, show (48 : Int32) = nI 48 from rfl, nI_sub (by omega)]
        simp only [pu_nv]; rw [show 10 * pu_nv T s q + T (s + q) - 48 = 10 * pu_nv T s q + (T (s + q) - 48) by omega]
      rw [ew] at eW
      refine hR _ _ _ _ ⟨rfl, rfl, rfl, fun j hj => ?_, fun j h8 h11 => by rw [eV, pu_un _ _ _ h8, eW, pu_un _ _ _ h11, y1 j h8 h11], fun j hj => by rw [eV, pu_un _ _ _ (by decide), eW, pu_up, if_pos rfl, if_neg hj, y2 j hj], by rw [eV, pu_un _ _ _ (by decide), eW, pu_up, if_pos rfl, if_pos rfl], by rw [eV, pu_up, if_pos rfl, if_pos rfl, eW, pu_un _ _ _ (by decide), y4, nI_1]; rfl⟩
      by_cases z : j = q
      · rw [z]; exact hd'
      · exact g1 j (by omega)
    · rw [if_neg hd] at er'
      exact p_ite (fun _ => k74 Y y1 y2 q (by omega) g1 (fun _ => hd) y3 y4) (fun c => absurd er' c)
  · rintro R Y i1 x2 x3 ⟨rfl, rfl, rfl, g1, y1, y2, y3, y4⟩
    rw [hB]
    have out : P (K74 Y (nI b) (nI s)) := k74 Y y1 y2 3 (by decide) g1 (fun c => absurd c (by decide)) y3 y4
    refine p_ltv (fun r er => p_ite (fun _ => out) (fun _ => p_ite (fun _ => out) (fun c => absurd ?_ c)))
    rw [y4, nI_sub (by omega), show s + 3 - s = 3 by omega]; decide
