theorem pu_repairR {P : Int32 × Cst → Prop} {M : Cst} {x rest all : Int32} {n : Nat} {q : Nat → Int32} (h5 : M 0 5 = nI n) (hn : n ≤ 8) (hc : sX5_changes M 0 = M 0) (hrest : rest = if x * M 0 4 ≤ M 0 8 then 0 else x * M 0 4 - M 0 8) (hall : all = pu_sm (fun i => M 0 (13 + 8 * i + 4)) n) (hq : ∀ i, i < n → q i = (rest * M 0 (13 + 8 * i + 4)) / all) (k1 : x < 1 ∨ 100 < x → P ((-10001), M)) (k2 : ¬ (x < 1 ∨ 100 < x) → (100 < M 0 7 + x ∨ (0 < rest ∧ all = 0)) → P ((-10002), M)) (k3 : ¬ (x < 1 ∨ 100 < x) → ¬ (100 < M 0 7 + x ∨ (0 < rest ∧ all = 0)) → ∀ M' : Cst, (∀ j, j ≠ 0 → M' j = sX5_changes M j) → M' 0 8 = M 0 8 - (x * M 0 4 - rest) → M' 0 7 = M 0 7 + x → M' 0 11 = M 0 11 + x → (∀ i, i < n → M' 0 (13 + 8 * i + 2) = if 0 < rest then M 0 (13 + 8 * i + 2) + q i + pu_mo (fun i => M 0 (13 + 8 * i + 4)) (pu_l1 q rest n) i else M 0 (13 + 8 * i + 2)) → (∀ j, j ≠ 7 → j ≠ 8 → j ≠ 11 → (∀ i, i < n → j ≠ 13 + 8 * i + 2) → M' 0 j = M 0 j) → P (rest, M')) : P (sX5_repair M x) := by
  unfold sX5_repair
  refine p_lz5 (Q9 := P) (fun B168 L168 b168 h168 => ?_)
  refine p_ltv (fun K165 e165 => ?_)
  refine p_lz5 (fun B127 L127 b127 h127 => ?_)
  refine p_ltv (fun K82 e82 => ?_)
  have fin : ¬ (x < 1 ∨ 100 < x) → ¬ (100 < M 0 7 + x ∨ (0 < rest ∧ all = 0)) → P (K82 M x (x * M 0 4) rest all) := by
    intro hx hy
    subst e82
    refine p_ltv (fun S0 eS0 => p_ltv (fun S1 eS1 => p_ltv (fun S2 eS2 => p_ltv (fun S3 eS3 => ?_))))
    have s8 : S3 0 8 = M 0 8 - (x * M 0 4 - rest) := by rw [eS3, pu_up, if_pos rfl, if_neg (by decide), eS2, pu_up, if_pos rfl, if_neg (by decide), eS1, pu_up, if_pos rfl, if_pos rfl, eS0, hc]
    have s7 : S3 0 7 = M 0 7 + x := by rw [eS3, pu_up, if_pos rfl, if_neg (by decide), eS2, pu_up, if_pos rfl, if_pos rfl, eS1, pu_up, if_pos rfl, if_neg (by decide), eS0, hc]
    have s11 : S3 0 11 = M 0 11 + x := by rw [eS3, pu_up, if_pos rfl, if_pos rfl, eS2, pu_up, if_pos rfl, if_neg (by decide), eS1, pu_up, if_pos rfl, if_neg (by decide), eS0, hc]
    have ss : ∀ j, j ≠ 7 → j ≠ 8 → j ≠ 11 → S3 0 j = M 0 j := fun j h1 h2 h3 => by rw [eS3, pu_up, if_pos rfl, if_neg h3, eS2, pu_up, if_pos rfl, if_neg h1, eS1, pu_up, if_pos rfl, if_neg h2, eS0, hc]
    have sk : ∀ j, j ≠ 0 → S3 j = sX5_changes M j := fun j hj => by rw [eS3, pu_un _ _ _ hj, eS2, pu_un _ _ _ hj, eS1, pu_un _ _ _ hj, eS0]
    clear eS0 eS1 eS2 eS3
    have s5 : S3 0 5 = nI n := by rw [ss 5 (by decide) (by decide) (by decide), h5]
    have last : ∀ L0, (0 < rest → L0 = pu_l1 q rest n) → P (L168 9 S3 rest all L0 0) := by
      intro L0 hL0
      by_cases hp : 0 < rest
      · have hL := hL0 hp
        subst hL
        generalize pu_l1 q rest n = L0 at *
        refine pl5 h168 (fun k C' x3 x4 x5 i6 => i6 = k ∧ x3 = rest ∧ x4 = all ∧ x5 = pu_lv (fun i => M 0 (13 + 8 * i + 4)) L0 k ∧ (∀ j, j ≠ 0 → C' j = S3 j) ∧ (∀ i, i < n → C' 0 (13 + 8 * i + 2) = if i < k then M 0 (13 + 8 * i + 2) + q i + pu_mo (fun i => M 0 (13 + 8 * i + 4)) L0 i else M 0 (13 + 8 * i + 2)) ∧ (∀ j, (∀ i, i < n → j ≠ 13 + 8 * i + 2) → C' 0 j = S3 0 j)) n ?_ ?_ 9 0 _ _ _ _ _ (by omega) (by omega) ⟨rfl, rfl, rfl, rfl, fun _ _ => rfl, fun i hi => by rw [if_neg (by omega), ss _ (by omega) (by omega) (by omega)], fun _ _ => rfl⟩
        · rintro R k C' x3 x4 x5 i6 hk ⟨rfl, rfl, rfl, rfl, g1, g2, g3⟩ hR
          rw [b168]
          have c5 : C' 0 5 = nI n := by rw [g3 5 (fun i _ => by omega), s5]
          have c4 : C' 0 (13 + 8 * i6 + 4) = M 0 (13 + 8 * i6 + 4) := by rw [g3 _ (fun i _ => by omega), ss _ (by omega) (by omega) (by omega)]
          refine p_ltv (fun K254 e254 => p_ltv (fun K217 e217 => p_ltv (fun K203 e203 => p_ltv (fun K202 e202 => ?_))))
          have step : ∀ b v, b = pu_mo (fun i => M 0 (13 + 8 * i + 4)) L0 i6 → v = pu_lv (fun i => M 0 (13 + 8 * i + 4)) L0 (i6 + 1) → P (K254 C' x3 x4 v i6 b (M 0 (13 + 8 * i6 + 2) + q i6) i6) := by
            intro b v hb hv
            subst e254
            refine p_ltv (fun S eS => ?_)
            have eS2 : S = up C' 0 (13 + 8 * i6 + 2) (M 0 (13 + 8 * i6 + 2) + q i6 + b) := eS
            subst eS2
            refine hR _ _ _ _ _ ⟨rfl, rfl, rfl, hv, fun j hj => (pu_un _ _ _ hj).trans (g1 j hj), fun i hi => ?_, fun j hj => ?_⟩
            · rw [pu_up, if_pos rfl]
              by_cases e : i = i6
              · rw [if_pos (by omega), if_pos (by omega), hb, e]
              · rw [if_neg (by omega), g2 i hi]
                by_cases e2 : i < i6
                · rw [if_pos e2, if_pos (by omega)]
                · rw [if_neg e2, if_neg (by omega)]
            · rw [pu_up, if_pos rfl, if_neg (hj i6 hk)]; exact g3 j hj
          have k217 : ∀ y b, (b = 0 ∧ y = 0 ∨ b = 1 ∧ ¬ y = 0) → b = pu_mo (fun i => M 0 (13 + 8 * i + 4)) L0 i6 → P (K217 C' x3 x4 i6 y b (pu_lv (fun i => M 0 (13 + 8 * i + 4)) L0 i6)) := by
            intro y b hyb hb
            subst e217
            have hv : pu_lv (fun i => M 0 (13 + 8 * i + 4)) L0 i6 - b = pu_lv (fun i => M 0 (13 + 8 * i + 4)) L0 (i6 + 1) := by
              rw [hb]; unfold pu_mo; simp only [pu_lv]
              by_cases c : 0 < M 0 (13 + 8 * i6 + 4) ∧ 0 < pu_lv (fun i => M 0 (13 + 8 * i + 4)) L0 i6
              · rw [if_pos c, if_pos c]
              · rw [if_neg c, if_neg c, Int32.sub_zero]
            refine p_ltv (fun v ev => p_ltv (fun r2 er2 => p_ltv (fun r4 er4 => ?_)))
            have er2' : r2 = M 0 (13 + 8 * i6 + 2) := by rw [er2]; show C' 0 _ = _; rw [g2 i6 hk, if_neg (by omega)]
            have er4' : r4 = M 0 (13 + 8 * i6 + 4) := er4.trans c4
            have eq : x3 * r4 / x4 = q i6 := by rw [er4', hq i6 hk]
            rw [eq, er2', ev, hv]
            refine p_ite (fun c => step _ _ ?_ rfl) (fun c => step _ _ ?_ rfl)
            · rcases hyb with ⟨hb0, _⟩ | ⟨_, hy⟩
              · rw [← hb0]; exact hb
              · exact absurd c hy
            · rcases hyb with ⟨_, hy⟩ | ⟨hb1, _⟩
              · exact absurd hy c
              · rw [← hb1]; exact hb
          have k203 : ∀ b, (b = 0 ∨ b = 1) → b = pu_mo (fun i => M 0 (13 + 8 * i + 4)) L0 i6 → P (K203 C' x3 x4 (pu_lv (fun i => M 0 (13 + 8 * i + 4)) L0 i6) i6 b) := by
            intro b hb01 hb
            subst e203
            refine p_ite (fun c => k217 _ _ (Or.inl ⟨rfl, c⟩) (c ▸ hb)) (fun c => k217 _ _ (Or.inr ⟨rfl, c⟩) ((hb01.resolve_left c) ▸ hb))
          have no : ¬ (0 < M 0 (13 + 8 * i6 + 4) ∧ 0 < pu_lv (fun i => M 0 (13 + 8 * i + 4)) L0 i6) → P (K202 C' x3 x4 (pu_lv (fun i => M 0 (13 + 8 * i + 4)) L0 i6) i6) := by
            intro hn0
            subst e202
            exact k203 0 (Or.inl rfl) (by unfold pu_mo; rw [if_neg hn0])
          refine p_ite (fun c => absurd c (by rw [c5]; exact pu_5n hk hn)) (fun _ => p_ite (fun c => absurd hp (Int32.not_lt.mpr c)) (fun _ => p_ite (fun c => no (fun hh => Int32.not_lt.mpr c hh.2)) (fun c => p_ltv (fun r er => ?_))))
          have er' : r = M 0 (13 + 8 * i6 + 4) := er.trans c4
          subst er'
          refine p_ite (fun c2 => no (fun hh => Int32.not_lt.mpr c2 hh.1)) (fun c2 => k203 1 (Or.inr rfl) (by unfold pu_mo; rw [if_pos ⟨Int32.not_le.mp c2, Int32.not_le.mp c⟩]))
        · rintro R C' x3 x4 x5 i6 ⟨rfl, rfl, rfl, rfl, g1, g2, g3⟩
          rw [b168]
          have c5 : C' 0 5 = nI i6 := by rw [g3 5 (fun i _ => by omega), s5]
          refine p_ltv (fun K254 e254 => p_ltv (fun K217 e217 => p_ltv (fun K203 e203 => p_ltv (fun K202 e202 => p_ite (fun _ => ?_) (fun c => absurd (by rw [c5]; exact nI_le (Nat.le_refl _) (by omega)) c)))))
          refine k3 hx hy C' (fun j hj => (g1 j hj).trans (sk j hj)) ?_ ?_ ?_ (fun i hi => ?_) (fun j h1 h2 h3 h4 => ?_)
          · rw [g3 8 (fun i _ => by omega), s8]
          · rw [g3 7 (fun i _ => by omega), s7]
          · rw [g3 11 (fun i _ => by omega), s11]
          · rw [g2 i hi, if_pos hi, if_pos hp]
          · rw [g3 j h4, ss j h1 h2 h3]
      · rw [h168, b168]
        have out : P (rest, S3) := k3 hx hy S3 sk s8 s7 s11 (fun i hi => by rw [if_neg hp, ss _ (by omega) (by omega) (by omega)]) (fun j h1 h2 h3 _ => ss j h1 h2 h3)
        exact p_ltv (fun K254 e254 => p_ltv (fun K217 e217 => p_ltv (fun K203 e203 => p_ltv (fun K202 e202 => p_ite (fun _ => out) (fun _ => p_ite (fun _ => out) (fun c => absurd (Int32.not_le.mp c) hp))))))
    by_cases hp : 0 < rest
    · refine pl5 h127 (fun k C' x3 x4 x5 i6 => i6 = k ∧ C' = S3 ∧ x3 = rest ∧ x4 = all ∧ x5 = pu_l1 q rest k) n ?_ ?_ 9 0 _ _ _ _ _ (by omega) (by omega) ⟨rfl, rfl, rfl, rfl, rfl⟩
      · rintro R k C' x3 x4 x5 i6 hk ⟨rfl, rfl, rfl, rfl, rfl⟩ hR
        rw [b127]
        refine p_ite (fun c => absurd c (by rw [s5]; exact pu_5n hk hn)) (fun _ => p_ite (fun c => absurd hp (Int32.not_lt.mpr c)) (fun _ => p_ltv (fun r er => p_ltv (fun v ev => ?_))))
        refine hR _ _ _ _ _ ⟨rfl, rfl, rfl, rfl, ?_⟩
        rw [ev]
        show _ = pu_l1 q x3 i6 - q i6
        have er' : r = M 0 (13 + 8 * i6 + 4) := er.trans (ss _ (by omega) (by omega) (by omega))
        rw [hq i6 hk, er']
      · rintro R C' x3 x4 x5 i6 ⟨rfl, rfl, rfl, rfl, rfl⟩
        rw [b127]
        refine p_ite (fun _ => ?_) (fun c => absurd (by rw [s5]; exact nI_le (Nat.le_refl _) (by omega)) c)
        subst e165
        exact last _ (fun _ => rfl)
    · rw [h127, b127]
      refine p_ite (fun _ => ?_) (fun _ => p_ite (fun _ => ?_) (fun c => absurd (Int32.not_le.mp c) hp))
      · subst e165; exact last _ (fun h => absurd h hp)
      · subst e165; exact last _ (fun h => absurd h hp)
  refine p_ltv (fun K47 e47 => ?_)
  have mid : ¬ (x < 1 ∨ 100 < x) → P (K47 M x (x * M 0 4) rest) := by
    intro hx
    subst e47
    refine p_ltv (fun s es => ?_)
    rw [pu_sum5r hn h5, ← hall] at es
    subst es
    refine p_ite (fun c => k2 hx (Or.inl c)) (fun c => p_ite (fun c2 => fin hx (fun hh => hh.elim c (fun h => absurd h.1 (Int32.not_lt.mpr c2)))) (fun c2 => p_ite (fun c3 => fin hx (fun hh => hh.elim c (fun h => c3 h.2))) (fun c3 => k2 hx (Or.inr ⟨Int32.not_le.mp c2, Decidable.not_not.mp c3⟩))))
  refine p_ltv (fun r er => ?_)
  rw [pu_in] at er
  refine p_ite (fun c => ?_) (fun c => ?_)
  · have hx : ¬ (x < 1 ∨ 100 < x) := fun hh => c (by rw [er, if_pos hh])
    refine p_ltv (fun v ev => ?_)
    subst ev
    refine p_ite (fun c2 => ?_) (fun c2 => ?_)
    · have : rest = 0 := by rw [hrest, if_pos c2]
      rw [← this]; exact mid hx
    · have : rest = x * M 0 4 - M 0 8 := by rw [hrest, if_neg c2]
      rw [← this]; exact mid hx
  · exact k1 (Decidable.byContradiction (fun hh => c (by rw [er, if_neg hh]; decide)))
