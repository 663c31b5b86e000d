theorem pl1 {α a : Type} {body : (a → α) → a → α} {F : Nat → a → α} (hF : ∀ (n : Nat) x0, F (n + 1) x0 = body (F n) x0) {P : α → Prop} (Inv : Nat → a → Prop) (N : Nat) (hs : ∀ (R : a → α) (k : Nat) x0, k < N → Inv k x0 → (∀ x0', Inv (k + 1) x0' → P (R x0')) → P (body R x0)) (he : ∀ (R : a → α) x0, Inv N x0 → P (body R x0)) : ∀ (fuel k : Nat) x0, N < k + fuel → k ≤ N → Inv k x0 → P (F fuel x0) := by
  intro fuel
  induction fuel with
  | zero => intro k x0 h1 h2; exact absurd h1 (by omega)
  | succ n ih =>
    intro k x0 h1 h2 h3
    rw [hF]
    by_cases h4 : k = N
    · subst h4; exact he _ _ h3
    · exact hs _ k _ (by omega) h3 (fun x0' h5 => ih (k + 1) x0' (by omega) (by omega) h5)
theorem pl2 {α a b : Type} {body : (a → b → α) → a → b → α} {F : Nat → a → b → α} (hF : ∀ (n : Nat) x0 x1, F (n + 1) x0 x1 = body (F n) x0 x1) {P : α → Prop} (Inv : Nat → a → b → Prop) (N : Nat) (hs : ∀ (R : a → b → α) (k : Nat) x0 x1, k < N → Inv k x0 x1 → (∀ x0' x1', Inv (k + 1) x0' x1' → P (R x0' x1')) → P (body R x0 x1)) (he : ∀ (R : a → b → α) x0 x1, Inv N x0 x1 → P (body R x0 x1)) : ∀ (fuel k : Nat) x0 x1, N < k + fuel → k ≤ N → Inv k x0 x1 → P (F fuel x0 x1) := by
  intro fuel
  induction fuel with
  | zero => intro k x0 x1 h1 h2; exact absurd h1 (by omega)
  | succ n ih =>
    intro k x0 x1 h1 h2 h3
    rw [hF]
    by_cases h4 : k = N
    · subst h4; exact he _ _ _ h3
    · exact hs _ k _ _ (by omega) h3 (fun x0' x1' h5 => ih (k + 1) x0' x1' (by omega) (by omega) h5)
theorem pl3 {α a b c : Type} {body : (a → b → c → α) → a → b → c → α} {F : Nat → a → b → c → α} (hF : ∀ (n : Nat) x0 x1 x2, F (n + 1) x0 x1 x2 = body (F n) x0 x1 x2) {P : α → Prop} (Inv : Nat → a → b → c → Prop) (N : Nat) (hs : ∀ (R : a → b → c → α) (k : Nat) x0 x1 x2, k < N → Inv k x0 x1 x2 → (∀ x0' x1' x2', Inv (k + 1) x0' x1' x2' → P (R x0' x1' x2')) → P (body R x0 x1 x2)) (he : ∀ (R : a → b → c → α) x0 x1 x2, Inv N x0 x1 x2 → P (body R x0 x1 x2)) : ∀ (fuel k : Nat) x0 x1 x2, N < k + fuel → k ≤ N → Inv k x0 x1 x2 → P (F fuel x0 x1 x2) := by
  intro fuel
  induction fuel with
  | zero => intro k x0 x1 x2 h1 h2; exact absurd h1 (by omega)
  | succ n ih =>
    intro k x0 x1 x2 h1 h2 h3
    rw [hF]
    by_cases h4 : k = N
    · subst h4; exact he _ _ _ _ h3
    · exact hs _ k _ _ _ (by omega) h3 (fun x0' x1' x2' h5 => ih (k + 1) x0' x1' x2' (by omega) (by omega) h5)
theorem pl4 {α a b c d : Type} {body : (a → b → c → d → α) → a → b → c → d → α} {F : Nat → a → b → c → d → α} (hF : ∀ (n : Nat) x0 x1 x2 x3, F (n + 1) x0 x1 x2 x3 = body (F n) x0 x1 x2 x3) {P : α → Prop} (Inv : Nat → a → b → c → d → Prop) (N : Nat) (hs : ∀ (R : a → b → c → d → α) (k : Nat) x0 x1 x2 x3, k < N → Inv k x0 x1 x2 x3 → (∀ x0' x1' x2' x3', Inv (k + 1) x0' x1' x2' x3' → P (R x0' x1' x2' x3')) → P (body R x0 x1 x2 x3)) (he : ∀ (R : a → b → c → d → α) x0 x1 x2 x3, Inv N x0 x1 x2 x3 → P (body R x0 x1 x2 x3)) : ∀ (fuel k : Nat) x0 x1 x2 x3, N < k + fuel → k ≤ N → Inv k x0 x1 x2 x3 → P (F fuel x0 x1 x2 x3) := by
  intro fuel
  induction fuel with
  | zero => intro k x0 x1 x2 x3 h1 h2; exact absurd h1 (by omega)
  | succ n ih =>
    intro k x0 x1 x2 x3 h1 h2 h3
    rw [hF]
    by_cases h4 : k = N
    · subst h4; exact he _ _ _ _ _ h3
    · exact hs _ k _ _ _ _ (by omega) h3 (fun x0' x1' x2' x3' h5 => ih (k + 1) x0' x1' x2' x3' (by omega) (by omega) h5)
theorem pl5 {α a b c d e : Type} {body : (a → b → c → d → e → α) → a → b → c → d → e → α} {F : Nat → a → b → c → d → e → α} (hF : ∀ (n : Nat) x0 x1 x2 x3 x4, F (n + 1) x0 x1 x2 x3 x4 = body (F n) x0 x1 x2 x3 x4) {P : α → Prop} (Inv : Nat → a → b → c → d → e → Prop) (N : Nat) (hs : ∀ (R : a → b → c → d → e → α) (k : Nat) x0 x1 x2 x3 x4, k < N → Inv k x0 x1 x2 x3 x4 → (∀ x0' x1' x2' x3' x4', Inv (k + 1) x0' x1' x2' x3' x4' → P (R x0' x1' x2' x3' x4')) → P (body R x0 x1 x2 x3 x4)) (he : ∀ (R : a → b → c → d → e → α) x0 x1 x2 x3 x4, Inv N x0 x1 x2 x3 x4 → P (body R x0 x1 x2 x3 x4)) : ∀ (fuel k : Nat) x0 x1 x2 x3 x4, N < k + fuel → k ≤ N → Inv k x0 x1 x2 x3 x4 → P (F fuel x0 x1 x2 x3 x4) := by
  intro fuel
  induction fuel with
  | zero => intro k x0 x1 x2 x3 x4 h1 h2; exact absurd h1 (by omega)
  | succ n ih =>
    intro k x0 x1 x2 x3 x4 h1 h2 h3
    rw [hF]
    by_cases h4 : k = N
    · subst h4; exact he _ _ _ _ _ _ h3
    · exact hs _ k _ _ _ _ _ (by omega) h3 (fun x0' x1' x2' x3' x4' h5 => ih (k + 1) x0' x1' x2' x3' x4' (by omega) (by omega) h5)
theorem pl6 {α a b c d e f : Type} {body : (a → b → c → d → e → f → α) → a → b → c → d → e → f → α} {F : Nat → a → b → c → d → e → f → α} (hF : ∀ (n : Nat) x0 x1 x2 x3 x4 x5, F (n + 1) x0 x1 x2 x3 x4 x5 = body (F n) x0 x1 x2 x3 x4 x5) {P : α → Prop} (Inv : Nat → a → b → c → d → e → f → Prop) (N : Nat) (hs : ∀ (R : a → b → c → d → e → f → α) (k : Nat) x0 x1 x2 x3 x4 x5, k < N → Inv k x0 x1 x2 x3 x4 x5 → (∀ x0' x1' x2' x3' x4' x5', Inv (k + 1) x0' x1' x2' x3' x4' x5' → P (R x0' x1' x2' x3' x4' x5')) → P (body R x0 x1 x2 x3 x4 x5)) (he : ∀ (R : a → b → c → d → e → f → α) x0 x1 x2 x3 x4 x5, Inv N x0 x1 x2 x3 x4 x5 → P (body R x0 x1 x2 x3 x4 x5)) : ∀ (fuel k : Nat) x0 x1 x2 x3 x4 x5, N < k + fuel → k ≤ N → Inv k x0 x1 x2 x3 x4 x5 → P (F fuel x0 x1 x2 x3 x4 x5) := by
  intro fuel
  induction fuel with
  | zero => intro k x0 x1 x2 x3 x4 x5 h1 h2; exact absurd h1 (by omega)
  | succ n ih =>
    intro k x0 x1 x2 x3 x4 x5 h1 h2 h3
    rw [hF]
    by_cases h4 : k = N
    · subst h4; exact he _ _ _ _ _ _ _ h3
    · exact hs _ k _ _ _ _ _ _ (by omega) h3 (fun x0' x1' x2' x3' x4' x5' h5 => ih (k + 1) x0' x1' x2' x3' x4' x5' (by omega) (by omega) h5)
theorem pl7 {α a b c d e f g : Type} {body : (a → b → c → d → e → f → g → α) → a → b → c → d → e → f → g → α} {F : Nat → a → b → c → d → e → f → g → α} (hF : ∀ (n : Nat) x0 x1 x2 x3 x4 x5 x6, F (n + 1) x0 x1 x2 x3 x4 x5 x6 = body (F n) x0 x1 x2 x3 x4 x5 x6) {P : α → Prop} (Inv : Nat → a → b → c → d → e → f → g → Prop) (N : Nat) (hs : ∀ (R : a → b → c → d → e → f → g → α) (k : Nat) x0 x1 x2 x3 x4 x5 x6, k < N → Inv k x0 x1 x2 x3 x4 x5 x6 → (∀ x0' x1' x2' x3' x4' x5' x6', Inv (k + 1) x0' x1' x2' x3' x4' x5' x6' → P (R x0' x1' x2' x3' x4' x5' x6')) → P (body R x0 x1 x2 x3 x4 x5 x6)) (he : ∀ (R : a → b → c → d → e → f → g → α) x0 x1 x2 x3 x4 x5 x6, Inv N x0 x1 x2 x3 x4 x5 x6 → P (body R x0 x1 x2 x3 x4 x5 x6)) : ∀ (fuel k : Nat) x0 x1 x2 x3 x4 x5 x6, N < k + fuel → k ≤ N → Inv k x0 x1 x2 x3 x4 x5 x6 → P (F fuel x0 x1 x2 x3 x4 x5 x6) := by
  intro fuel
  induction fuel with
  | zero => intro k x0 x1 x2 x3 x4 x5 x6 h1 h2; exact absurd h1 (by omega)
  | succ n ih =>
    intro k x0 x1 x2 x3 x4 x5 x6 h1 h2 h3
    rw [hF]
    by_cases h4 : k = N
    · subst h4; exact he _ _ _ _ _ _ _ _ h3
    · exact hs _ k _ _ _ _ _ _ _ (by omega) h3 (fun x0' x1' x2' x3' x4' x5' x6' h5 => ih (k + 1) x0' x1' x2' x3' x4' x5' x6' (by omega) (by omega) h5)
theorem p_lz1 {α a : Type} {Q9 : α → Prop} {body : (a → α) → a → α} {dft : a → α} {F : (Nat → a → α) → α} (k : ∀ (B : (a → α) → a → α) (Z : Nat → a → α), B = body → (∀ (n : Nat) x0, Z (n + 1) x0 = B (Z n) x0) → Q9 (F Z)) : Q9 (ltl1 body dft F) := k body (zp1 body dft) rfl (fun _ _ => rfl)
theorem p_lz2 {α a b : Type} {Q9 : α → Prop} {body : (a → b → α) → a → b → α} {dft : a → b → α} {F : (Nat → a → b → α) → α} (k : ∀ (B : (a → b → α) → a → b → α) (Z : Nat → a → b → α), B = body → (∀ (n : Nat) x0 x1, Z (n + 1) x0 x1 = B (Z n) x0 x1) → Q9 (F Z)) : Q9 (ltl2 body dft F) := k body (zp2 body dft) rfl (fun _ _ _ => rfl)
theorem p_lz3 {α a b c : Type} {Q9 : α → Prop} {body : (a → b → c → α) → a → b → c → α} {dft : a → b → c → α} {F : (Nat → a → b → c → α) → α} (k : ∀ (B : (a → b → c → α) → a → b → c → α) (Z : Nat → a → b → c → α), B = body → (∀ (n : Nat) x0 x1 x2, Z (n + 1) x0 x1 x2 = B (Z n) x0 x1 x2) → Q9 (F Z)) : Q9 (ltl3 body dft F) := k body (zp3 body dft) rfl (fun _ _ _ _ => rfl)
theorem p_lz4 {α a b c d : Type} {Q9 : α → Prop} {body : (a → b → c → d → α) → a → b → c → d → α} {dft : a → b → c → d → α} {F : (Nat → a → b → c → d → α) → α} (k : ∀ (B : (a → b → c → d → α) → a → b → c → d → α) (Z : Nat → a → b → c → d → α), B = body → (∀ (n : Nat) x0 x1 x2 x3, Z (n + 1) x0 x1 x2 x3 = B (Z n) x0 x1 x2 x3) → Q9 (F Z)) : Q9 (ltl4 body dft F) := k body (zp4 body dft) rfl (fun _ _ _ _ _ => rfl)
theorem p_lz5 {α a b c d e : Type} {Q9 : α → Prop} {body : (a → b → c → d → e → α) → a → b → c → d → e → α} {dft : a → b → c → d → e → α} {F : (Nat → a → b → c → d → e → α) → α} (k : ∀ (B : (a → b → c → d → e → α) → a → b → c → d → e → α) (Z : Nat → a → b → c → d → e → α), B = body → (∀ (n : Nat) x0 x1 x2 x3 x4, Z (n + 1) x0 x1 x2 x3 x4 = B (Z n) x0 x1 x2 x3 x4) → Q9 (F Z)) : Q9 (ltl5 body dft F) := k body (zp5 body dft) rfl (fun _ _ _ _ _ _ => rfl)
theorem p_lz6 {α a b c d e f : Type} {Q9 : α → Prop} {body : (a → b → c → d → e → f → α) → a → b → c → d → e → f → α} {dft : a → b → c → d → e → f → α} {F : (Nat → a → b → c → d → e → f → α) → α} (k : ∀ (B : (a → b → c → d → e → f → α) → a → b → c → d → e → f → α) (Z : Nat → a → b → c → d → e → f → α), B = body → (∀ (n : Nat) x0 x1 x2 x3 x4 x5, Z (n + 1) x0 x1 x2 x3 x4 x5 = B (Z n) x0 x1 x2 x3 x4 x5) → Q9 (F Z)) : Q9 (ltl6 body dft F) := k body (zp6 body dft) rfl (fun _ _ _ _ _ _ _ => rfl)
theorem p_lz7 {α a b c d e f g : Type} {Q9 : α → Prop} {body : (a → b → c → d → e → f → g → α) → a → b → c → d → e → f → g → α} {dft : a → b → c → d → e → f → g → α} {F : (Nat → a → b → c → d → e → f → g → α) → α} (k : ∀ (B : (a → b → c → d → e → f → g → α) → a → b → c → d → e → f → g → α) (Z : Nat → a → b → c → d → e → f → g → α), B = body → (∀ (n : Nat) x0 x1 x2 x3 x4 x5 x6, Z (n + 1) x0 x1 x2 x3 x4 x5 x6 = B (Z n) x0 x1 x2 x3 x4 x5 x6) → Q9 (F Z)) : Q9 (ltl7 body dft F) := k body (zp7 body dft) rfl (fun _ _ _ _ _ _ _ _ => rfl)
/-! the reference's own record of what was -/
theorem pu_ch1 {M : Cst} (h : ¬ M 4 0 = 0) : sX5_changes M = M := by
  unfold sX5_changes
  refine p_ltv (Q9 := fun v => v = M) (fun K90 e90 => ?_)
  refine p_lz2 (Q9 := fun v => v = M) (fun B58 L58 b58 h58 => ?_)
  refine p_ltv (Q9 := fun v => v = M) (fun K56 e56 => ?_)
  refine p_ltv (Q9 := fun v => v = M) (fun K46 e46 => ?_)
  refine p_lz2 (Q9 := fun v => v = M) (fun B18 L18 b18 h18 => ?_)
  exact p_ite (Q9 := fun v => v = M) (fun c => absurd c h) (fun _ => rfl)
theorem pu_ch2 {P : Cst → Prop} {M : Cst} {p : Nat} (h : M 4 0 = 0) (hp : p ≤ 4) (h3 : M 3 0 = nI p) (k : ∀ M' : Cst, M' 0 = M 0 → (∀ j, j ≠ 1 → j ≠ 3 → M' j = M j) → M' 3 0 = nI (min p 3 + 1) → (∀ j i, j < min p 3 → i < 107 → M' 1 (107 * j + i) = M 1 (107 * (j + (p - min p 3)) + i)) → (∀ i, i < 107 → M' 1 (107 * min p 3 + i) = M 0 i) → P M') : P (sX5_changes M) := by
  unfold sX5_changes
  refine p_ltv (Q9 := P) (fun K90 e90 => ?_)
  refine p_lz2  (fun B58 L58 b58 h58 => ?_)
  have tail : ∀ (X : Cst) (q : Nat), q ≤ 3 → X 3 0 = nI q → (∀ M' : Cst, (∀ j, j ≠ 1 → j ≠ 3 → M' j = X j) → M' 3 0 = nI (q + 1) → (∀ i, i < 107 * q → M' 1 i = X 1 i) → (∀ i, i < 107 → M' 1 (107 * q + i) = X 0 i) → P M') → P (L58 108 X 0) := by
    intro X q hq hX3 kk
    refine pl2 h58 (fun k M' i => i = k ∧ (∀ j, j ≠ 1 → M' j = X j) ∧ (∀ i, i < 107 * q → M' 1 i = X 1 i) ∧ (∀ i, i < k → M' 1 (107 * q + i) = X 0 i)) 107 ?_ ?_ 108 0 _ 0 (by decide) (by decide) ⟨rfl, fun _ _ => rfl, fun _ _ => rfl, fun i hi => absurd hi (Nat.not_lt_zero i)⟩
    · rintro R k M' i hk ⟨rfl, h1, h2, h4⟩ hR
      rw [b58]
      refine p_ite (fun c => absurd c (nI_ge (b := 107) hk (by decide))) (fun _ => p_ltv (fun S eS => ?_))
      have e : (107 * M' 3 0 + nI i).toNatClampNeg = 107 * q + i := by
        rw [h1 3 (by decide), hX3, show (107 : Int32) = nI 107 from rfl, nI_mul, nI_add, nI_clamp (by omega)]
      rw [e] at eS; subst eS
      refine hR _ _ ⟨rfl, fun j hj => (pu_un _ _ _ hj).trans (h1 j hj), fun i' hi' => ?_, fun i' hi' => ?_⟩
      · rw [pu_up, if_pos rfl, if_neg (by omega)]; exact h2 i' hi'
      · rw [pu_up, if_pos rfl]
        by_cases e2 : i' = i
        · rw [if_pos (by omega), e2, h1 0 (by decide)]
        · rw [if_neg (by omega)]; exact h4 i' (by omega)
    · rintro R M' i ⟨rfl, h1, h2, h4⟩
      rw [b58]
      refine p_ite (fun _ => ?_) (fun c => absurd (show (107 : Int32) ≤ nI 107 from by decide) c)
      subst e90
      refine p_ltv (fun S eS => ?_)
      subst eS
      refine kk _ (fun j hj hj3 => (pu_un _ _ _ hj3).trans (h1 j hj)) ?_ (fun i hi => ?_) (fun i hi => ?_)
      · rw [pu_up, if_pos rfl, if_pos rfl, h1 3 (by decide), hX3]; exact nI_1 q
      · rw [pu_un _ _ _ (by decide)]; exact h2 i hi
      · rw [pu_un _ _ _ (by decide)]; exact h4 i hi
  refine p_ltv (fun K56 e56 => ?_)
  refine p_ltv (fun K46 e46 => ?_)
  refine p_lz2  (fun B18 L18 b18 h18 => ?_)
  refine p_ite (fun _ => ?_) (fun c => absurd h c)
  by_cases h4 : p = 4
  · subst h4
    refine p_ite (fun c => absurd h3 c) (fun _ => ?_)
    refine pl2 h18 (fun k M' i => i = k ∧ (∀ j, j ≠ 1 → M' j = M j) ∧ (∀ i, i < k → M' 1 i = M 1 (i + 107)) ∧ (∀ i, k ≤ i → M' 1 i = M 1 i)) 321 ?_ ?_ 322 0 _ 0 (by decide) (by decide) ⟨rfl, fun _ _ => rfl, fun i hi => absurd hi (Nat.not_lt_zero i), fun _ _ => rfl⟩
    · rintro R k M' i hk ⟨rfl, h1, h2, h6⟩ hR
      rw [b18]
      refine p_ite (fun c => absurd c (nI_ge (b := 321) hk (by decide))) (fun _ => p_ltv (fun S eS => ?_))
      subst eS
      refine hR _ _ ⟨rfl, fun j hj => (pu_un _ _ _ hj).trans (h1 j hj), fun i' hi' => ?_, fun i' hi' => ?_⟩
      · rw [pu_up, if_pos rfl]
        by_cases e2 : i' = i
        · rw [if_pos e2, e2]; exact h6 _ (by omega)
        · rw [if_neg e2]; exact h2 i' (by omega)
      · rw [pu_up, if_pos rfl, if_neg (by omega)]; exact h6 i' (by omega)
    · rintro R M' i ⟨rfl, h1, h2, h6⟩
      rw [b18]
      refine p_ite (fun _ => ?_) (fun c => absurd (show (321 : Int32) ≤ nI 321 from by decide) c)
      subst e46
      refine p_ltv (fun S eS => ?_)
      subst eS
      subst e56
      refine tail _ 3 (by decide) (by rw [pu_up, if_pos rfl, if_pos rfl, h1 3 (by decide), h3]; decide) (fun M2 g1 g2 g3 g4 => k M2 ?_ (fun j hj hj3 => ?_) ?_ (fun j i hj hi => ?_) (fun i hi => ?_))
      · rw [g1 0 (by decide) (by decide), pu_un _ _ _ (by decide), h1 0 (by decide)]
      · rw [g1 j hj hj3, pu_un _ _ _ hj3, h1 j hj]
      · rw [g2]; rfl
      · have hj' : j < 3 := hj
        rw [g3 _ (by omega), pu_un _ _ _ (by decide), h2 _ (by omega), show 107 * (j + (4 - min 4 3)) + i = 107 * j + i + 107 by omega]
      · have := g4 i hi
        rw [show 107 * min 4 3 + i = 107 * 3 + i from rfl, this, pu_un _ _ _ (by decide), h1 0 (by decide)]
  · refine p_ite (fun _ => ?_) (fun c => absurd (fun hh => h4 ((nI_eq (b := 4) (by omega) (by decide)).mp (h3.symm.trans hh))) c)
    have e : min p 3 = p := by omega
    subst e56
    refine tail _ p (by omega) h3 (fun M2 g1 g2 g3 g4 => k M2 (g1 0 (by decide) (by decide)) g1 ?_ (fun j i hj hi => ?_) (fun i hi => ?_))
    · rw [g2, e]
    · rw [e] at hj; rw [g3 _ (by omega), show 107 * (j + (p - min p 3)) + i = 107 * j + i by omega]
    · rw [e]; exact g4 i hi
