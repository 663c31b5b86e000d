/-! repair -/
def pu_l1 (q : Nat → Int32) (x : Int32) : Nat → Int32
  | 0 => x
  | k + 1 => pu_l1 q x k - q k
theorem pu_l1_zero {q : Nat → Int32} {x : Int32} {n : Nat} : ∀ {m : Nat}, n ≤ m → (∀ i, n ≤ i → i < m → q i = 0) → pu_l1 q x m = pu_l1 q x n
  | 0, h, _ => by rw [show n = 0 by omega]
  | m + 1, h, h0 => by
    by_cases e : n = m + 1
    · rw [e]
    · show pu_l1 q x m - q m = _
      rw [pu_l1_zero (m := m) (by omega) (fun i h1 h2 => h0 i h1 (by omega)), h0 m (by omega) (by omega), Int32.sub_zero]
theorem pu_l1_congr {f g : Nat → Int32} {x : Int32} : ∀ {n : Nat}, (∀ i, i < n → f i = g i) → pu_l1 f x n = pu_l1 g x n
  | 0, _ => rfl
  | n + 1, h => by
    show pu_l1 f x n - f n = pu_l1 g x n - g n
    rw [pu_l1_congr (fun i hi => h i (by omega)), h n (by omega)]
def pu_lv (u : Nat → Int32) (L : Int32) : Nat → Int32
  | 0 => L
  | k + 1 => if 0 < u k ∧ 0 < pu_lv u L k then pu_lv u L k - 1 else pu_lv u L k
theorem pu_lv_congr {f g : Nat → Int32} {x : Int32} : ∀ {n : Nat}, (∀ i, i < n → f i = g i) → pu_lv f x n = pu_lv g x n
  | 0, _ => rfl
  | n + 1, h => by
    simp only [pu_lv]
    rw [pu_lv_congr (fun i hi => h i (by omega)), h n (by omega)]
def pu_mo (u : Nat → Int32) (L : Int32) (i : Nat) : Int32 := if 0 < u i ∧ 0 < pu_lv u L i then 1 else 0
theorem pu_owe {P : Cst → Prop} {C : Cst} {x : Int32} {q : Nat → Int32} (hq : ∀ i, q i = sX4_quotient (x * C 5 i) (pu_sm (C 5) 8)) (k : ∀ C' : Cst, (∀ k, k ≠ 3 → C' k = C k) → (∀ i, i < 8 → C' 3 i = C 3 i + q i + pu_mo (C 5) (pu_l1 q x 8) i) → P C') : P (sX0_oweByUses C x) := by
  unfold sX0_oweByUses
  refine p_lz3 (Q9 := P) (fun B61 L61 b61 h61 => ?_)
  refine p_ltv (fun K58 e58 => ?_)
  refine p_lz5 (fun B13 L13 b13 h13 => ?_)
  refine p_ltv (fun all eall => ?_)
  rw [pu_sum5] at eall
  refine pl5 h13 (fun k C' x1 x2 x3 i4 => i4 = k ∧ x1 = x ∧ x2 = all ∧ x3 = pu_l1 q x k ∧ (∀ k, k ≠ 3 → C' k = C k) ∧ (∀ i, C' 3 i = if i < k then C 3 i + q i else C 3 i)) 8 ?_ ?_ 9 0 _ _ _ _ _ (by decide) (by decide) ⟨rfl, rfl, rfl, rfl, fun _ _ => rfl, fun i => by rw [if_neg (by omega)]⟩
  · rintro R k C' x1 x2 x3 i4 hk ⟨rfl, rfl, rfl, rfl, g1, g2⟩ hR
    rw [b13]
    refine p_ite (fun c => absurd c (pu_8n hk)) (fun _ => p_ltv (fun r er => ?_))
    have er2 : r = q i4 := by rw [er, g1 5 (by decide), hq, eall]
    subst er2
    refine p_ltv (fun S eS => p_ltv (fun v ev => ?_))
    subst eS
    subst ev
    refine hR _ _ _ _ _ ⟨rfl, rfl, rfl, rfl, fun k hk3 => (pu_un _ _ _ hk3).trans (g1 k hk3), fun i => ?_⟩
    rw [pu_up, if_pos rfl, g2, g2]
    by_cases e : i = i4
    · rw [if_pos e, if_neg (by omega), if_pos (by omega), e]
    · rw [if_neg e]
      by_cases e2 : i < i4
      · rw [if_pos e2, if_pos (by omega)]
      · rw [if_neg e2, if_neg (by omega)]
  · rintro R C1 x1 x2 x3 i4 ⟨rfl, rfl, rfl, rfl, g1, g2⟩
    rw [b13]
    refine p_ite (fun _ => ?_) (fun c => absurd pu_8y c)
    subst e58
    generalize hL : pu_l1 q x1 8 = L0 at *
    refine pl3 h61 (fun k C' x3 i4 => i4 = k ∧ x3 = pu_lv (C 5) L0 k ∧ (∀ k, k ≠ 3 → C' k = C k) ∧ (∀ i, i < 8 → C' 3 i = if i < k then C 3 i + q i + pu_mo (C 5) L0 i else C 3 i + q i)) 8 ?_ ?_ 9 0 _ _ _ (by decide) (by decide) ⟨rfl, rfl, g1, fun i hi => by rw [if_neg (by omega), g2, if_pos hi]⟩
    · rintro R k C' x3 i4 hk ⟨rfl, rfl, f1, f2⟩ hR
      rw [b61]
      refine p_ltv (fun K96 e96 => ?_)
      have step : ∀ Y x3', x3' = pu_lv (C 5) L0 (i4 + 1) → (∀ k, k ≠ 3 → Y k = C k) → (∀ i, i < 8 → Y 3 i = if i = i4 then C 3 i + q i + pu_mo (C 5) L0 i else C' 3 i) → P (K96 Y x3' i4) := by
        intro Y x3' hx hy1 hy2
        subst e96
        refine hR _ _ _ ⟨rfl, hx, hy1, fun i hi => ?_⟩
        rw [hy2 i hi]
        by_cases e : i = i4
        · rw [if_pos e, if_pos (by omega)]
        · rw [if_neg e, f2 i hi]
          by_cases e2 : i < i4
          · rw [if_pos e2, if_pos (by omega)]
          · rw [if_neg e2, if_neg (by omega)]
      have same : ¬ (0 < C 5 i4 ∧ 0 < pu_lv (C 5) L0 i4) → P (K96 C' (pu_lv (C 5) L0 i4) i4) := by
        intro hn
        refine step _ _ ?_ f1 (fun i hi => ?_)
        · simp only [pu_lv]; rw [if_neg hn]
        · by_cases e : i = i4
          · rw [if_pos e, f2 i hi, if_neg (by omega), e]
            unfold pu_mo; rw [if_neg hn, Int32.add_zero]
          · rw [if_neg e]
      refine p_ite (fun c => absurd c (pu_8n hk)) (fun _ => p_ite (fun c => ?_) (fun c => p_ite (fun c2 => ?_) (fun c2 => ?_)))
      · rw [f1 5 (by decide)] at c; exact same (fun hh => Int32.not_lt.mpr c hh.1)
      · exact same (fun hh => Int32.not_lt.mpr c2 hh.2)
      · rw [f1 5 (by decide)] at c
        have hp : 0 < C 5 i4 ∧ 0 < pu_lv (C 5) L0 i4 := ⟨Int32.not_le.mp c, Int32.not_le.mp c2⟩
        refine p_ltv (fun S eS => p_ltv (fun v ev => ?_))
        subst eS
        refine step _ _ ?_ (fun k hk3 => (pu_un _ _ _ hk3).trans (f1 k hk3)) (fun i hi => ?_)
        · rw [ev]; simp only [pu_lv]; rw [if_pos hp]
        · rw [pu_up, if_pos rfl]
          by_cases e : i = i4
          · rw [if_pos e, if_pos e, f2 i4 (by omega), if_neg (by omega), e]
            unfold pu_mo; rw [if_pos hp]
          · rw [if_neg e, if_neg e]
    · rintro R C' x3 i4 ⟨rfl, rfl, f1, f2⟩
      rw [b61]
      refine p_ltv (fun K96 e96 => p_ite (fun _ => k _ f1 (fun i hi => by rw [f2 i hi, if_pos hi])) (fun c => absurd pu_8y c))
