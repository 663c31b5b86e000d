theorem q_lz1 {α a : Type} {Q9 : α → Prop} {body : (a → α) → a → α} {dft : a → α} {F : (Nat → a → α) → α} (k : ∀ (B : (a → α) → a → α) (d9 : a → α) (Z : Nat → a → α), B = body → d9 = dft → Z = zp1 B d9 → Q9 (F Z)) : Q9 (ltl1 body dft F) := k body dft (zp1 body dft) rfl rfl rfl
theorem q_lz2 {α a b : Type} {Q9 : α → Prop} {body : (a → b → α) → a → b → α} {dft : a → b → α} {F : (Nat → a → b → α) → α} (k : ∀ (B : (a → b → α) → a → b → α) (d9 : a → b → α) (Z : Nat → a → b → α), B = body → d9 = dft → Z = zp2 B d9 → Q9 (F Z)) : Q9 (ltl2 body dft F) := k body dft (zp2 body dft) rfl rfl rfl
theorem q_lz3 {α a b c : Type} {Q9 : α → Prop} {body : (a → b → c → α) → a → b → c → α} {dft : a → b → c → α} {F : (Nat → a → b → c → α) → α} (k : ∀ (B : (a → b → c → α) → a → b → c → α) (d9 : a → b → c → α) (Z : Nat → a → b → c → α), B = body → d9 = dft → Z = zp3 B d9 → Q9 (F Z)) : Q9 (ltl3 body dft F) := k body dft (zp3 body dft) rfl rfl rfl
theorem q_lz4 {α a b c d : Type} {Q9 : α → Prop} {body : (a → b → c → d → α) → a → b → c → d → α} {dft : a → b → c → d → α} {F : (Nat → a → b → c → d → α) → α} (k : ∀ (B : (a → b → c → d → α) → a → b → c → d → α) (d9 : a → b → c → d → α) (Z : Nat → a → b → c → d → α), B = body → d9 = dft → Z = zp4 B d9 → Q9 (F Z)) : Q9 (ltl4 body dft F) := k body dft (zp4 body dft) rfl rfl rfl
theorem q_lz5 {α a b c d e : Type} {Q9 : α → Prop} {body : (a → b → c → d → e → α) → a → b → c → d → e → α} {dft : a → b → c → d → e → α} {F : (Nat → a → b → c → d → e → α) → α} (k : ∀ (B : (a → b → c → d → e → α) → a → b → c → d → e → α) (d9 : a → b → c → d → e → α) (Z : Nat → a → b → c → d → e → α), B = body → d9 = dft → Z = zp5 B d9 → Q9 (F Z)) : Q9 (ltl5 body dft F) := k body dft (zp5 body dft) rfl rfl rfl
theorem q_lz6 {α a b c d e f : Type} {Q9 : α → Prop} {body : (a → b → c → d → e → f → α) → a → b → c → d → e → f → α} {dft : a → b → c → d → e → f → α} {F : (Nat → a → b → c → d → e → f → α) → α} (k : ∀ (B : (a → b → c → d → e → f → α) → a → b → c → d → e → f → α) (d9 : a → b → c → d → e → f → α) (Z : Nat → a → b → c → d → e → f → α), B = body → d9 = dft → Z = zp6 B d9 → Q9 (F Z)) : Q9 (ltl6 body dft F) := k body dft (zp6 body dft) rfl rfl rfl
theorem q_lz7 {α a b c d e f g : Type} {Q9 : α → Prop} {body : (a → b → c → d → e → f → g → α) → a → b → c → d → e → f → g → α} {dft : a → b → c → d → e → f → g → α} {F : (Nat → a → b → c → d → e → f → g → α) → α} (k : ∀ (B : (a → b → c → d → e → f → g → α) → a → b → c → d → e → f → g → α) (d9 : a → b → c → d → e → f → g → α) (Z : Nat → a → b → c → d → e → f → g → α), B = body → d9 = dft → Z = zp7 B d9 → Q9 (F Z)) : Q9 (ltl7 body dft F) := k body dft (zp7 body dft) rfl rfl rfl
/-! what the class's pieces leave alone -/
def FR9 (C Y : Cst) : Prop := Y 9 = C 9 ∧ Y 10 = C 10
theorem FR9_rfl (C : Cst) : FR9 C C := ⟨rfl, rfl⟩
theorem FR9_trans {A B C : Cst} (h1 : FR9 A B) (h2 : FR9 B C) : FR9 A C := ⟨h2.1.trans h1.1, h2.2.trans h1.2⟩
theorem FR9_up (C : Cst) {k : Nat} (i : Nat) (x : Int32) (h1 : k ≠ 9) (h2 : k ≠ 10) : FR9 C (up C k i x) := ⟨pu_un _ _ _ h1.symm, pu_un _ _ _ h2.symm⟩
theorem fr_owec (C : Cst) : FR9 C (sX0_oweCharges C) := by
  unfold sX0_oweCharges
  refine q_lz5 (Q9 := FR9 C) (fun B d9 Z hB hd hZ => ?_)
  have key : ∀ n C' x1 x2 x3 i4, FR9 C' (Z n C' x1 x2 x3 i4) := by
    rw [hZ]
    refine zp5_ind (Q9 := fun C' _ _ _ _ Y => FR9 C' Y) (fun _ _ _ _ _ => by rw [hd]; exact FR9_rfl _) (fun rc ih C' x1 x2 x3 i4 => ?_)
    rw [hB]
    refine p_ltv (Q9 := FR9 C') (fun K94 e94 => p_ltv (fun K77 e77 => ?_))
    have k94 : ∀ Y, FR9 C' Y → ∀ a b i t, FR9 C' (K94 Y a b i t) := fun Y hY a b i t => by rw [e94]; exact FR9_trans hY (ih _ _ _ _ _)
    have k77 : ∀ Y, FR9 C' Y → ∀ a b c i, FR9 C' (K77 Y a b c i) := fun Y hY a b c i => by rw [e77]; exact p_ite (fun _ => k94 Y hY _ _ _ _) (fun _ => k94 Y hY _ _ _ _)
    exact p_ite (fun _ => FR9_rfl _) (fun _ => p_ltv (fun _ _ => p_ite (fun _ => k77 _ (FR9_rfl _) _ _ _ _) (fun _ => p_ltv (fun _ _ => p_ltv (fun _ _ => p_ltv (fun S eS => p_ltv (fun _ _ => k77 S (by rw [eS]; exact FR9_up _ _ _ (by decide) (by decide)) _ _ _ _)))))))
  refine p_ltv (fun K25 e25 => ?_)
  have k25 : ∀ a b t, FR9 C (K25 C a b t) := fun a b t => by rw [e25]; exact key _ _ _ _ _ _
  exact p_ite (fun _ => k25 _ _ _) (fun _ => k25 _ _ _)
theorem fr_keep (C : Cst) (x y : Int32) : FR9 C (sX0_keepSeason C x y) := by
  unfold sX0_keepSeason
  refine p_ltv (Q9 := FR9 C) (fun v _ => p_ltv (fun S1 e1 => p_ltv (fun S2 e2 => p_ltv (fun S3 e3 => p_ltv (fun S4 e4 => p_ltv (fun S5 e5 => ?_))))))
  rw [e5]; refine FR9_trans ?_ (FR9_up _ _ _ (by decide) (by decide))
  rw [e4]; refine FR9_trans ?_ (FR9_up _ _ _ (by decide) (by decide))
  rw [e3]; refine FR9_trans ?_ (FR9_up _ _ _ (by decide) (by decide))
  rw [e2]; refine FR9_trans ?_ (FR9_up _ _ _ (by decide) (by decide))
  rw [e1]; exact FR9_up _ _ _ (by decide) (by decide)
theorem fr_book (C : Cst) : FR9 C (sX0_bookUses C) := by
  unfold sX0_bookUses
  refine q_lz2 (Q9 := FR9 C) (fun B d9 Z hB hd hZ => ?_)
  have key : ∀ n C' i, FR9 C' (Z n C' i) := by
    rw [hZ]
    refine zp2_ind (Q9 := fun C' _ Y => FR9 C' Y) (fun _ _ => by rw [hd]; exact FR9_rfl _) (fun rc ih C' i => ?_)
    rw [hB]
    refine p_ite (Q9 := FR9 C') (fun _ => FR9_rfl _) (fun _ => p_ltv (fun S1 e1 => p_ltv (fun S2 e2 => p_ltv (fun S3 e3 => FR9_trans ?_ (ih _ _)))))
    rw [e3]; refine FR9_trans ?_ (FR9_up _ _ _ (by decide) (by decide))
    rw [e2]; refine FR9_trans ?_ (FR9_up _ _ _ (by decide) (by decide))
    rw [e1]; exact FR9_up _ _ _ (by decide) (by decide)
  exact key _ _ _
theorem fr_note (C : Cst) : FR9 C (sX0_noteSeasonsOut C) := by
  unfold sX0_noteSeasonsOut
  refine q_lz2 (Q9 := FR9 C) (fun B d9 Z hB hd hZ => ?_)
  have key : ∀ n C' i, FR9 C' (Z n C' i) := by
    rw [hZ]
    refine zp2_ind (Q9 := fun C' _ Y => FR9 C' Y) (fun _ _ => by rw [hd]; exact FR9_rfl _) (fun rc ih C' i => ?_)
    rw [hB]
    refine p_ltv (Q9 := FR9 C') (fun K e => p_ite (fun _ => FR9_rfl _) (fun _ => p_ltv (fun _ _ => p_ite (fun _ => by rw [e]; exact ih _ _) (fun _ => p_ltv (fun S1 e1 => ?_)))))
    rw [e]; refine FR9_trans ?_ (ih _ _)
    rw [e1]; exact FR9_up _ _ _ (by decide) (by decide)
  exact key _ _ _
theorem fr_debt (C : Cst) : FR9 C (sX0_excludeDebtors C) := by
  unfold sX0_excludeDebtors
  refine q_lz2 (Q9 := FR9 C) (fun B d9 Z hB hd hZ => ?_)
  have key : ∀ n C' i, FR9 C' (Z n C' i) := by
    rw [hZ]
    refine zp2_ind (Q9 := fun C' _ Y => FR9 C' Y) (fun _ _ => by rw [hd]; exact FR9_rfl _) (fun rc ih C' i => ?_)
    rw [hB]
    refine p_ltv (Q9 := FR9 C') (fun K e => p_ite (fun _ => FR9_rfl _) (fun _ => p_ite (fun _ => by rw [e]; exact ih _ _) (fun _ => p_ltv (fun S1 e1 => ?_))))
    rw [e]; refine FR9_trans ?_ (ih _ _)
    rw [e1]; exact FR9_up _ _ _ (by decide) (by decide)
  exact key _ _ _
theorem fr_turn (C : Cst) (x : Int32) : FR9 C (sX0_excludeInTurn C x) := by
  unfold sX0_excludeInTurn
  refine q_lz4 (Q9 := FR9 C) (fun B d9 Z hB hd hZ => ?_)
  have key : ∀ n C' a b i, FR9 C' (Z n C' a b i) := by
    rw [hZ]
    refine zp4_ind (Q9 := fun C' _ _ _ Y => FR9 C' Y) (fun _ _ _ _ => by rw [hd]; exact FR9_rfl _) (fun rc ih C' a b i => ?_)
    rw [hB]
    refine p_ite (Q9 := FR9 C') (fun _ => FR9_rfl _) (fun _ => p_ltv (fun _ _ => p_ltv (fun _ _ => p_ite (fun _ => p_ltv (fun S1 e1 => p_ltv (fun S2 e2 => FR9_trans ?_ (ih _ _ _ _)))) (fun _ => FR9_rfl _))))
    rw [e2]; refine FR9_trans ?_ (FR9_up _ _ _ (by decide) (by decide))
    rw [e1]; exact FR9_up _ _ _ (by decide) (by decide)
  exact p_ltv (fun _ _ => key _ _ _ _ _)
theorem fr_owe (C : Cst) (x : Int32) : FR9 C (sX0_oweByUses C x) := by
  unfold sX0_oweByUses
  refine q_lz3 (Q9 := FR9 C) (fun B d9 Z hB hd hZ => ?_)
  have key : ∀ n C' a i, FR9 C' (Z n C' a i) := by
    rw [hZ]
    refine zp3_ind (Q9 := fun C' _ _ Y => FR9 C' Y) (fun _ _ _ => by rw [hd]; exact FR9_rfl _) (fun rc ih C' a i => ?_)
    rw [hB]
    refine p_ltv (Q9 := FR9 C') (fun K e => p_ite (fun _ => FR9_rfl _) (fun _ => p_ite (fun _ => by rw [e]; exact ih _ _ _) (fun _ => p_ite (fun _ => by rw [e]; exact ih _ _ _) (fun _ => p_ltv (fun S1 e1 => p_ltv (fun _ _ => ?_))))))
    rw [e]; refine FR9_trans ?_ (ih _ _ _)
    rw [e1]; exact FR9_up _ _ _ (by decide) (by decide)
  refine p_ltv (fun K58 e58 => q_lz5 (fun B2 d2 Z2 hB2 hd2 hZ2 => ?_))
  have key2 : ∀ n C' a b c i, FR9 C' (Z2 n C' a b c i) := by
    rw [hZ2]
    refine zp5_ind (Q9 := fun C' _ _ _ _ Y => FR9 C' Y) (fun _ _ _ _ _ => by rw [hd2]; exact FR9_rfl _) (fun rc ih C' a b c i => ?_)
    rw [hB2]
    refine p_ite (Q9 := FR9 C') (fun _ => by rw [e58]; exact key _ _ _ _) (fun _ => p_ltv (fun _ _ => p_ltv (fun S1 e1 => p_ltv (fun _ _ => FR9_trans ?_ (ih _ _ _ _ _)))))
    rw [e1]; exact FR9_up _ _ _ (by decide) (by decide)
  exact p_ltv (fun _ _ => key2 _ _ _ _ _ _)
theorem fr_end (C : Cst) : (sX0_endSeason C).2 9 = C 9 ∧ (sX0_endSeason C).2 10 0 = C 10 0 + 1 := by
  unfold sX0_endSeason
  refine p_ltv (Q9 := fun a : Int32 × Cst => a.2 9 = C 9 ∧ a.2 10 0 = C 10 0 + 1) (fun r1 _ => ?_)
  refine p_ltv (Q9 := fun a : Int32 × Cst => a.2 9 = C 9 ∧ a.2 10 0 = C 10 0 + 1) (fun r7 _ => ?_)
  refine p_ltv (Q9 := fun a : Int32 × Cst => a.2 9 = C 9 ∧ a.2 10 0 = C 10 0 + 1) (fun v3 _ => ?_)
  refine p_ltv (Q9 := fun a : Int32 × Cst => a.2 9 = C 9 ∧ a.2 10 0 = C 10 0 + 1) (fun S1 e1 => ?_)
  have f1 : FR9 C S1 := by rw [e1]; exact fr_owec C
  refine p_ltv (Q9 := fun a : Int32 × Cst => a.2 9 = C 9 ∧ a.2 10 0 = C 10 0 + 1) (fun S2 e2 => ?_)
  have f2 : FR9 C S2 := by rw [e2]; exact FR9_trans f1 (FR9_up _ _ _ (by decide) (by decide))
  refine p_ltv (Q9 := fun a : Int32 × Cst => a.2 9 = C 9 ∧ a.2 10 0 = C 10 0 + 1) (fun S3 e3 => ?_)
  have f3 : FR9 C S3 := by rw [e3]; exact FR9_trans f2 (FR9_up _ _ _ (by decide) (by decide))
  refine p_ltv (Q9 := fun a : Int32 × Cst => a.2 9 = C 9 ∧ a.2 10 0 = C 10 0 + 1) (fun S4 e4 => ?_)
  have f4 : FR9 C S4 := by rw [e4]; exact FR9_trans f3 (FR9_up _ _ _ (by decide) (by decide))
  refine p_ltv (Q9 := fun a : Int32 × Cst => a.2 9 = C 9 ∧ a.2 10 0 = C 10 0 + 1) (fun S5 e5 => ?_)
  have f5 : FR9 C S5 := by rw [e5]; exact FR9_trans f4 (FR9_up _ _ _ (by decide) (by decide))
  refine p_ltv (Q9 := fun a : Int32 × Cst => a.2 9 = C 9 ∧ a.2 10 0 = C 10 0 + 1) (fun S6 e6 => ?_)
  have f6 : FR9 C S6 := by rw [e6]; exact FR9_trans f5 (fr_keep _ _ _)
  refine p_ltv (Q9 := fun a : Int32 × Cst => a.2 9 = C 9 ∧ a.2 10 0 = C 10 0 + 1) (fun S7 e7 => ?_)
  have f7 : FR9 C S7 := by rw [e7]; exact FR9_trans f6 (fr_book _)
  refine p_ltv (Q9 := fun a : Int32 × Cst => a.2 9 = C 9 ∧ a.2 10 0 = C 10 0 + 1) (fun S8 e8 => ?_)
  have g8 : S8 9 = C 9 ∧ S8 10 0 = C 10 0 + 1 := by rw [e8]; exact ⟨(pu_un _ _ _ (by decide)).trans f7.1, by rw [pu_up, if_pos rfl, if_pos rfl, f7.2]⟩
  refine p_ltv (Q9 := fun a : Int32 × Cst => a.2 9 = C 9 ∧ a.2 10 0 = C 10 0 + 1) (fun S9 e9 => ?_)
  have f9 : FR9 S8 S9 := by rw [e9]; exact FR9_up _ _ _ (by decide) (by decide)
  refine p_ltv (Q9 := fun a : Int32 × Cst => a.2 9 = C 9 ∧ a.2 10 0 = C 10 0 + 1) (fun S10 e10 => ?_)
  have f10 : FR9 S8 S10 := by rw [e10]; exact FR9_trans f9 (fr_turn _ _)
  refine p_ltv (Q9 := fun a : Int32 × Cst => a.2 9 = C 9 ∧ a.2 10 0 = C 10 0 + 1) (fun S11 e11 => ?_)
  have f11 : FR9 S8 S11 := by rw [e11]; exact FR9_trans f10 (fr_debt _)
  refine p_ltv (Q9 := fun a : Int32 × Cst => a.2 9 = C 9 ∧ a.2 10 0 = C 10 0 + 1) (fun S12 e12 => ?_)
  have f12 : FR9 S8 S12 := by rw [e12]; exact FR9_trans f11 (fr_note _)
  exact ⟨f12.1.trans g8.1, (congrFun f12.2 0).trans g8.2⟩
theorem IC_fr {C Y : Cst} (h : FR9 C Y) (hC : IC C) : IC Y := by
  obtain ⟨h1, h2, h3⟩ := hC
  exact ⟨by rw [h.1]; exact h1, by rw [h.1]; exact h2, by rw [h.2]; exact h3⟩
def ICQ (a : Int32 × Cst) : Prop := IC a.2
theorem pu_nn {x : Int32} (h : 0 ≤ x.toInt) : ∃ j : Nat, j < 2 ^ 31 ∧ x = nI j := nI_of (fun q => by rw [Int32.lt_iff_toInt_lt] at q; exact absurd q (by simpa using h))
theorem ic_member {C : Cst} (x : Int32) (hC : IC C) : ICQ (sX0_addMember C x) := by
  unfold sX0_addMember
  refine p_ite (Q9 := ICQ) (fun _ => hC) (fun _ => p_ite (fun _ => p_ite (fun c => p_ltv (fun S1 e1 => p_ltv (fun S2 e2 => ?_))) (fun _ => hC)) (fun _ => hC))
  obtain ⟨h1, h2, h3⟩ := hC
  obtain ⟨j, hj, e⟩ := pu_nn h1
  have hj8 : j < 8 := by rw [e] at c; exact (nI_ltI (b := 8) hj (by decide)).mp c
  have e9 : S2 9 0 = nI (j + 1) := by rw [e2, pu_up, if_pos rfl, if_pos rfl, e1, pu_un _ _ _ (by decide), e, nI_1]
  have e10 : S2 10 = C 10 := by rw [e2, pu_un _ _ _ (by decide), e1, pu_un _ _ _ (by decide)]
  refine ⟨?_, ?_, ?_⟩
  · show 0 ≤ (S2 9 0).toInt
    rw [e9, nI_toInt (by omega)]; omega
  · show (S2 9 0).toInt ≤ 8
    rw [e9, nI_toInt (by omega)]; omega
  · show 0 ≤ (S2 10 0).toInt
    rw [e10]; exact h3
theorem ic_use {C : Cst} (x y : Int32) (hC : IC C) : ICQ (sX0_declareUse C x y) := by
  unfold sX0_declareUse
  refine p_ltv (Q9 := ICQ) (fun K19 e19 => p_ltv (fun _ _ => p_ite (fun _ => hC) (fun _ => p_ltv (fun _ _ => p_ite (fun _ => ?_) (fun _ => hC)))))
  rw [e19]
  refine p_ltv (Q9 := ICQ) (fun _ _ => p_ite (fun _ => p_ltv (fun S eS => p_ltv (fun _ _ => ?_))) (fun _ => hC))
  exact IC_fr (by rw [eS]; exact FR9_up _ _ _ (by decide) (by decide)) hC
theorem ic_pay {C : Cst} (x y : Int32) (hC : IC C) : ICQ (sX0_payCoins C x y) := by
  unfold sX0_payCoins
  refine p_ltv (Q9 := ICQ) (fun K24 e24 => p_ltv (fun _ _ => p_ite (fun _ => hC) (fun _ => p_ite (fun _ => hC) (fun _ => p_ite (fun _ => ?_) (fun _ => hC)))))
  rw [e24]
  refine p_ite (Q9 := ICQ) (fun _ => p_ltv (fun S1 e1 => p_ltv (fun S2 e2 => p_ltv (fun S3 e3 => ?_)))) (fun _ => hC)
  refine IC_fr ?_ hC
  rw [e3]; refine FR9_trans ?_ (FR9_up _ _ _ (by decide) (by decide))
  rw [e2]; refine FR9_trans ?_ (FR9_up _ _ _ (by decide) (by decide))
  rw [e1]; exact FR9_up _ _ _ (by decide) (by decide)
theorem ic_repair {C : Cst} (x : Int32) (hC : IC C) : ICQ (sX0_repairPoints C x) := by
  unfold sX0_repairPoints
  refine p_ltv (Q9 := ICQ) (fun K68 e68 => ?_)
  have k68 : ∀ a b c, ICQ (K68 C a b c) := by
    intro a b c
    rw [e68]
    refine p_ltv (Q9 := ICQ) (fun S1 e1 => p_ltv (fun S2 e2 => p_ltv (fun S3 e3 => p_ltv (fun S4 e4 => ?_))))
    refine IC_fr ?_ hC
    rw [e4]; refine FR9_trans ?_ (fr_owe _ _)
    rw [e3]; refine FR9_trans ?_ (FR9_up _ _ _ (by decide) (by decide))
    rw [e2]; refine FR9_trans ?_ (FR9_up _ _ _ (by decide) (by decide))
    rw [e1]; exact FR9_up _ _ _ (by decide) (by decide)
  exact p_ite (fun _ => hC) (fun _ => p_ite (fun _ => p_ltv (fun _ _ => p_ltv (fun _ _ => p_ltv (fun _ _ => p_ite (fun _ => hC) (fun _ => p_ite (fun _ => k68 _ _ _) (fun _ => p_ltv (fun _ _ => p_ite (fun _ => k68 _ _ _) (fun _ => hC)))))))) (fun _ => hC))
theorem ic_close {C : Cst} (hC : IC C) : ICQ (sX0_closeSeason C) := by
  unfold sX0_closeSeason
  refine p_ite (Q9 := ICQ) (fun _ => p_ite (fun c => p_bnd (fun r S e => ?_)) (fun _ => hC)) (fun _ => hC)
  have f := fr_end C
  rw [e] at f
  obtain ⟨f1, f2⟩ := f
  dsimp only at f1 f2
  obtain ⟨h1, h2, h3⟩ := hC
  obtain ⟨j, hj, e10⟩ := pu_nn h3
  have hj9 : j < 999 := by rw [e10] at c; exact (nI_ltI (b := 999) hj (by decide)).mp c
  refine ⟨?_, ?_, ?_⟩
  · show 0 ≤ (S 9 0).toInt
    rw [f1]; exact h1
  · show (S 9 0).toInt ≤ 8
    rw [f1]; exact h2
  · show 0 ≤ (S 10 0).toInt
    rw [f2, e10, nI_1, nI_toInt (by omega)]; omega
def IC1 (S : Xst) (a : Int32 × Xst) : Prop := IC (a.2 1) ∧ ∀ j, j ≠ 1 → a.2 j = S j
theorem IC1_mk {S : Xst} {r : Int32} {C : Cst} {q : Int32 × Cst} (e : q = (r, C)) (h : ICQ q) : IC1 S (r, upx S 1 C) := by
  rw [e] at h
  exact ⟨by show IC (upx S 1 C 1); rw [upx_self]; exact h, fun j hj => pu_upxn _ _ hj⟩
theorem ic_cmd {S : Xst} (h : IC (S 1)) : IC1 S (sX4_commandOnTrial S) := by
  unfold sX4_commandOnTrial
  exact p_ite (Q9 := IC1 S) (fun _ => p_bnd (fun r C e => p_ltv (fun Y eY => by rw [eY]; exact IC1_mk e (ic_close h)))) (fun _ => p_ite (fun _ => p_bnd (fun r C e => p_ltv (fun Y eY => by rw [eY]; exact IC1_mk e (ic_member _ h)))) (fun _ => p_ite (fun _ => p_bnd (fun r C e => p_ltv (fun Y eY => by rw [eY]; exact IC1_mk e (ic_pay _ _ h)))) (fun _ => p_ite (fun _ => p_bnd (fun r C e => p_ltv (fun Y eY => by rw [eY]; exact IC1_mk e (ic_repair _ h)))) (fun _ => p_ite (fun _ => p_bnd (fun r C e => p_ltv (fun Y eY => by rw [eY]; exact IC1_mk e (ic_use _ _ h)))) (fun _ => ⟨h, fun _ _ => rfl⟩)))))
def CM1 (S : Xst) (a : Int32 × Xst) : Prop := ∀ j, j ≠ 1 → a.2 j = S j
theorem CM1_mk (S : Xst) (r : Int32) (C : Cst) : CM1 S (r, upx S 1 C) := fun j hj => pu_upxn _ _ hj
theorem cm_1 (S : Xst) : CM1 S (sX4_commandOnTrial S) := by
  unfold sX4_commandOnTrial
  exact p_ite (Q9 := CM1 S) (fun _ => p_bnd (fun r C e => p_ltv (fun Y eY => by rw [eY]; exact CM1_mk _ _ _))) (fun _ => p_ite (fun _ => p_bnd (fun r C e => p_ltv (fun Y eY => by rw [eY]; exact CM1_mk _ _ _))) (fun _ => p_ite (fun _ => p_bnd (fun r C e => p_ltv (fun Y eY => by rw [eY]; exact CM1_mk _ _ _))) (fun _ => p_ite (fun _ => p_bnd (fun r C e => p_ltv (fun Y eY => by rw [eY]; exact CM1_mk _ _ _))) (fun _ => p_ite (fun _ => p_bnd (fun r C e => p_ltv (fun Y eY => by rw [eY]; exact CM1_mk _ _ _))) (fun _ => fun _ _ => rfl)))))
def FJ (j : Nat) (S : Xst) (a : Int32 × Xst) : Prop := a.2 j = S j
theorem fj_pass {S : Xst} {x : Int32} {j : Nat} (hj : j ≠ 7) : FJ j S (sX3_passes S x) := by
  unfold sX3_passes
  exact p_ltv (Q9 := FJ j S) (fun _ _ => p_ite (fun _ => p_ltv (fun Y eY => by show Y j = S j; rw [eY]; exact pu_upxn _ _ hj)) (fun _ => rfl))
theorem fj_num {S : Xst} {j : Nat} (hj : j ≠ 7) : FJ j S (sX3_readNumber S) := by
  unfold sX3_readNumber
  refine q_lz3 (Q9 := FJ j S) (fun B d9 Z hB hd hZ => ?_)
  have key : ∀ n Y a i, FJ j Y (Z n Y a i) := by
    rw [hZ]
    refine zp3_ind (Q9 := fun Y _ _ r => FJ j Y r) (fun _ _ _ => by rw [hd]; rfl) (fun rc ih Y a i => ?_)
    rw [hB]
    refine p_ite (Q9 := FJ j Y) (fun _ => rfl) (fun _ => p_ltv (fun _ _ => p_ite (fun _ => rfl) (fun _ => p_ite (fun _ => p_ltv (fun _ _ => p_ltv (fun W eW => ?_))) (fun _ => rfl))))
    exact (ih W _ _).trans (by rw [eW]; exact pu_upxn _ _ hj)
  exact key _ _ _ _
theorem fj_cmd {S : Xst} {j : Nat} (hj : j ≠ 7) : FJ j S (sX3_readCommand S) := by
  unfold sX3_readCommand
  refine p_ltv (Q9 := FJ j S) (fun K e => p_ltv (fun _ _ => p_ltv (fun S1 e1 => p_ltv (fun S2 e2 => p_ltv (fun S3 e3 => p_ltv (fun S4 e4 => ?_))))))
  have q : S4 j = S j := by rw [e4, pu_upxn _ _ hj, e3, pu_upxn _ _ hj, e2, pu_upxn _ _ hj, e1, pu_upxn _ _ hj]
  have kK : ∀ Y : Xst, Y j = S j → FJ j S (K Y) := by
    intro Y hY
    rw [e]
    refine p_ite (Q9 := FJ j S) (fun _ => hY) (fun _ => p_ite (fun _ => hY) (fun _ => p_bnd (fun r W eW => ?_)))
    have h := fj_pass (S := Y) (x := 59) hj
    rw [eW] at h
    exact p_ite (fun _ => Eq.trans h hY) (fun _ => Eq.trans h hY)
  have one : FJ j S (bnd (sX3_readNumber S4) (fun (r_89 : Int32) (S_89 : Xst) => ltv (upx S_89 7 (up (S_89 7) 4 0 r_89)) (fun (S_92 : Xst) => K S_92))) := by
    refine p_bnd (Q9 := FJ j S) (fun r Y eY => p_ltv (fun W eW => kK W ?_))
    have h := fj_num (S := S4) hj
    rw [eY] at h
    rw [eW, pu_upxn _ _ hj]; exact Eq.trans h q
  have two : FJ j S (bnd (sX3_readNumber S4) (fun (r_100 : Int32) (S_100 : Xst) => ltv (upx S_100 7 (up (S_100 7) 4 0 r_100)) (fun (S_103 : Xst) => bnd (sX3_passes S_103 44) (fun (r_109 : Int32) (S_109 : Xst) => (if ¬ r_109 = 0 then bnd (sX3_readNumber S_109) (fun (r_119 : Int32) (S_119 : Xst) => ltv (upx S_119 7 (up (S_119 7) 5 0 r_119)) (fun (S_122 : Xst) => K S_122)) else (0, S_109)))))) := by
    refine p_bnd (Q9 := FJ j S) (fun r Y eY => p_ltv (fun W eW => p_bnd (fun r2 V eV => ?_)))
    have h := fj_num (S := S4) hj
    rw [eY] at h
    have h2 := fj_pass (S := W) (x := 44) hj
    rw [eV] at h2
    have hV : V j = S j := by
      refine Eq.trans h2 ?_
      rw [eW, pu_upxn _ _ hj]; exact Eq.trans h q
    refine p_ite (fun _ => p_bnd (fun r3 U eU => p_ltv (fun T eT => kK T ?_))) (fun _ => hV)
    have h3 := fj_num (S := V) hj
    rw [eU] at h3
    rw [eT, pu_upxn _ _ hj]; exact Eq.trans h3 hV
  exact p_ite (fun _ => kK _ q) (fun _ => p_ite (fun _ => one) (fun _ => p_ite (fun _ => two) (fun _ => p_ite (fun _ => one) (fun _ => p_ite (fun _ => two) (fun _ => q)))))
theorem fj_stop {S : Xst} {x : Int32} {j : Nat} (hj : j ≠ 8) : FJ j S (sX2_isStoppedBy S x) := by
  unfold sX2_isStoppedBy
  exact p_ite (Q9 := FJ j S) (fun _ => p_ltv (fun S1 e1 => p_ltv (fun S2 e2 => by show S2 j = S j; rw [e2, pu_upxn _ _ hj, e1, pu_upxn _ _ hj]))) (fun _ => p_ltv (fun S1 e1 => by show S1 j = S j; rw [e1, pu_upxn _ _ hj]))
def F2 (S X : Xst) : Prop := X 2 = S 2
theorem f2_reh (S : Xst) : F2 S (sX4_rehearse S) := by
  unfold sX4_rehearse
  refine p_ltv (Q9 := F2 S) (fun K e => q_lz2 (fun B d9 Z hB hd hZ => ?_))
  have key : ∀ n Y i, F2 Y (Z n Y i) := by
    rw [hZ]
    refine zp2_ind (Q9 := fun Y _ r => F2 Y r) (fun _ _ => by rw [hd]; rfl) (fun rc ih Y i => ?_)
    rw [hB]
    refine p_ite (Q9 := F2 Y) (fun _ => rfl) (fun _ => p_ite (fun _ => rfl) (fun _ => p_ltv (fun X1 g1 => p_bnd (fun r2 X2 g2 => ?_))))
    have h2 := fj_cmd (S := X1) (j := 2) (by decide)
    rw [g2] at h2
    have q2 : X2 2 = Y 2 := by refine Eq.trans h2 ?_; rw [g1]; exact pu_upxn _ _ (by decide)
    refine p_ite (fun _ => p_bnd (fun r3 X3 g3 => p_bnd (fun r4 X4 g4 => ?_))) (fun _ => ?_)
    · have h3 := cm_1 X2
      rw [g3] at h3
      have h4 := fj_stop (S := X3) (x := r3) (j := 2) (by decide)
      rw [g4] at h4
      have q4 : X4 2 = Y 2 := by refine Eq.trans h4 (Eq.trans (h3 2 (by decide)) q2)
      exact p_ite (fun _ => Eq.trans (ih X4 _) q4) (fun _ => q4)
    · rw [e]
      exact p_ltv (Q9 := F2 Y) (fun W eW => by show W 2 = Y 2; rw [eW, pu_upxn _ _ (by decide)]; exact q2)
  refine p_ltv (fun X1 g1 => p_ltv (fun X2 g2 => p_ltv (fun X3 g3 => Eq.trans (key _ X3 _) ?_)))
  rw [g3, pu_upxn _ _ (by decide), g2]
  have h : F2 X1 (sX2_begin X1) := by
    unfold sX2_begin
    exact p_ltv (Q9 := F2 X1) (fun S1 e1 => p_ltv (fun S2 e2 => p_ltv (fun S3 e3 => p_ltv (fun S4 e4 => by show S4 2 = X1 2; rw [e4, pu_upxn _ _ (by decide), e3, pu_upxn _ _ (by decide), e2, pu_upxn _ _ (by decide), e1, pu_upxn _ _ (by decide)]))))
  refine Eq.trans h ?_
  rw [g1]; exact pu_upxn _ _ (by decide)
