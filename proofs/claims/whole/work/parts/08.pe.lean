/-- who is charged in the place k -/
def pu_at (n t k : Nat) : Nat := if t % n + k < n then t % n + k else t % n + k - n
theorem pu_pl_at {n t k i : Nat} (hi : i < n) (hk : k < n) : pu_pl n t i = k ↔ i = pu_at n t k := by
  have := Nat.mod_lt t (show 0 < n by omega)
  unfold pu_pl pu_at
  constructor <;> intro h <;> split at h <;> split <;> omega
theorem pu_at_lt {n t k : Nat} (hk : k < n) : pu_at n t k < n := by
  have := Nat.mod_lt t (show 0 < n by omega)
  unfold pu_at; split <;> omega
theorem pu_ah_succ {u : Nat → Int32} {n t k : Nat} (hk : k < n) : pu_ah u n t (k + 1) = pu_ah u n t k + u (pu_at n t k) := by
  have hj := pu_at_lt (t := t) hk
  have e1 : pu_ah u n t (k + 1) = pu_sm (fun i => if pu_pl n t i < k ∨ i = pu_at n t k then u i else 0) n := by
    refine pu_sm_congr (fun i hi => ?_)
    have := pu_pl_at (t := t) hi hk
    by_cases c : pu_pl n t i < k + 1
    · rw [if_pos c]
      by_cases c2 : pu_pl n t i < k
      · rw [if_pos (Or.inl c2)]
      · rw [if_pos (Or.inr (this.mp (by omega)))]
    · rw [if_neg c, if_neg (fun hh => hh.elim (fun q => c (by omega)) (fun q => c (by rw [this.mpr q]; omega)))]
  rw [e1, pu_sm_ins (q := fun i => pu_pl n t i < k) (j := pu_at n t k) (by rw [(pu_pl_at hj hk).mpr rfl]; omega), if_pos hj]
  rfl
theorem pu_ah0 (u : Nat → Int32) (n t : Nat) : pu_ah u n t 0 = 0 := pu_sm_zero (n := 0) (Nat.zero_le n) (fun i _ _ => if_neg (Nat.not_lt_zero _))
/-- what each member is charged -/
def pu_cg (d : Int32) (u : Nat → Int32) (n t i : Nat) : Int32 := pu_ch d (pu_ah u n t (pu_pl n t i)) (u i)
theorem pu_owec {P : Cst → Prop} {C : Cst} {n t : Nat} (h9 : C 9 0 = nI n) (h10 : C 10 0 = nI t) (hd : 1 ≤ C 0 0) (hn : n ≤ 8) (ht : t ≤ 1000) (k : ∀ C' : Cst, (∀ j, j ≠ 3 → C' j = C j) → (∀ i, C' 3 i = if i < n then C 3 i + pu_cg (C 0 0) (C 2) n t i else C 3 i) → P C') : P (sX0_oweCharges C) := by
  unfold sX0_oweCharges
  refine p_lz5 (Q9 := P) (fun B29 L29 b29 h29 => ?_)
  refine p_ltv (fun K25 e25 => ?_)
  rw [h9]
  rcases Nat.eq_zero_or_pos n with h0 | h0
  · subst h0
    refine p_ite (fun c => absurd c (by decide)) (fun _ => ?_)
    subst e25
    show P (L29 9 C 0 0 0 0)
    rw [h29, b29]
    refine p_ltv (fun K94 e94 => p_ltv (fun K77 e77 => p_ite (fun _ => k C (fun _ _ => rfl) (fun i => by rw [if_neg (by omega)])) (fun c => absurd (show C 9 0 ≤ nI 0 by rw [h9]; decide) c)))
  · refine p_ite (fun _ => ?_) (fun c => absurd (show (1 : Int32) ≤ nI n from nI_le (a := 1) h0 (by omega)) c)
    rw [h10, pu_mod (by omega) (by omega)]
    subst e25
    have hm := Nat.mod_lt t h0
    refine pl5 h29 (fun k C' x1 x2 x3 i4 => i4 = k ∧ x1 = pu_ah (C 2) n t k ∧ x2 = pu_dm (C 0 0) (pu_ah (C 2) n t k) ∧ x3 = nI (pu_at n t k) ∧ (∀ j, j ≠ 3 → C' j = C j) ∧ (∀ i, C' 3 i = if i < n ∧ pu_pl n t i < k then C 3 i + pu_cg (C 0 0) (C 2) n t i else C 3 i)) n ?_ ?_ 9 0 _ _ _ _ _ (by omega) (by omega) ⟨rfl, (pu_ah0 _ _ _).symm, by rw [pu_ah0, pu_dm0], by rw [pu_at, if_pos (by omega)]; rfl, fun _ _ => rfl, fun i => by rw [if_neg (by omega)]⟩
    · rintro R k C' x1 x2 x3 i4 hk ⟨rfl, rfl, rfl, rfl, g1, g2⟩ hR
      rw [b29]
      have hj := pu_at_lt (t := t) hk
      have hpj := (pu_pl_at hj hk).mpr rfl
      have c9 : C' 9 0 = nI n := by rw [g1 9 (by decide), h9]
      have cd : ∀ X : Cst, X 0 = C 0 → ∀ x, sX0_damageOf X x = pu_dm (C 0 0) x := fun X hX x => by rw [pu_damage (by rw [hX]; exact hd), hX]
      refine p_ltv (fun K94 e94 => p_ltv (fun K77 e77 => p_ite (fun c => absurd c (by rw [c9]; exact pu_5n hk hn)) (fun _ => p_ltv (fun r er => ?_))))
      rw [pu_has1 c9 hn hj] at er
      refine p_ite (fun c => absurd c (by rw [er]; decide)) (fun _ => p_ltv (fun v ev => p_ltv (fun w ew => p_ltv (fun S eS => p_ltv (fun w2 ew2 => ?_)))))
      rw [nI_clamp (by omega), g1 2 (by decide), ← pu_ah_succ hk] at ev
      rw [nI_clamp (by omega)] at eS
      rw [cd C' (g1 0 (by decide)), ev] at ew
      have s0 : S 0 = C 0 := by rw [eS, pu_un _ _ _ (by decide), g1 0 (by decide)]
      rw [cd S s0, ev] at ew2
      have s3 : ∀ i, S 3 i = if i < n ∧ pu_pl n t i < i4 + 1 then C 3 i + pu_cg (C 0 0) (C 2) n t i else C 3 i := by
        intro i
        rw [eS, pu_up, if_pos rfl, g2, g2]
        by_cases e : i = pu_at n t i4
        · rw [if_pos e, e, if_neg (by omega), if_pos (by omega), ew, pu_ah_succ hk]
          unfold pu_cg pu_ch; rw [hpj]
        · rw [if_neg e]
          by_cases c : i < n ∧ pu_pl n t i < i4
          · rw [if_pos c, if_pos (by omega)]
          · rw [if_neg c, if_neg (fun hh => c ⟨hh.1, by
              rcases Nat.lt_or_ge (pu_pl n t i) i4 with q | q
              · exact q
              · exact absurd ((pu_pl_at hh.1 hk).mp (by omega)) e⟩)]
      have sj : ∀ j, j ≠ 3 → S j = C j := fun j hj3 => by rw [eS, pu_un _ _ _ hj3, g1 j hj3]
      have s9 : S 9 0 = nI n := by rw [sj 9 (by decide), h9]
      subst e77
      have nx : (if pu_at n t i4 + 1 < n then pu_at n t i4 + 1 else 0) = pu_at n t (i4 + 1) := by
        unfold pu_at; split <;> split <;> split <;> omega
      refine p_ite (fun c => ?_) (fun c => ?_)
      · have hc : ¬ pu_at n t i4 + 1 < n := fun q => by
          rw [s9, nI_1] at c; exact nI_ge q (by omega) c
        rw [if_neg hc] at nx
        subst e94
        refine hR _ _ _ _ _ ⟨rfl, ev, ew2, by rw [← nx]; rfl, sj, s3⟩
      · have hc : pu_at n t i4 + 1 < n := Decidable.byContradiction (fun q => c (by rw [s9, nI_1]; exact nI_le (by omega) (by omega)))
        rw [if_pos hc] at nx
        subst e94
        refine hR _ _ _ _ _ ⟨rfl, ev, ew2, by rw [← nx]; exact nI_1 _, sj, s3⟩
    · rintro R C' x1 x2 x3 i4 ⟨rfl, rfl, rfl, rfl, g1, g2⟩
      rw [b29]
      refine p_ltv (fun K94 e94 => p_ltv (fun K77 e77 => p_ite (fun _ => k C' g1 (fun i => ?_)) (fun c => absurd (show C' 9 0 ≤ nI i4 by rw [g1 9 (by decide), h9]; exact nI_le (Nat.le_refl _) (by omega)) c)))
      rw [g2]
      by_cases c : i < i4
      · rw [if_pos ⟨c, pu_pl_lt h0 c⟩, if_pos c]
      · rw [if_neg (fun q => c q.1), if_neg c]
