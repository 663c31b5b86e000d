/-! a command's form -/
abbrev pu_e1 (T : Nat → Nat) (L s : Nat) : Nat := s + 1 + pu_dn T L (s + 1)
abbrev pu_ok1 (T : Nat → Nat) (L s c : Nat) : Prop := 0 < pu_dn T L (s + 1) ∧ pu_e1 T L s < L ∧ T (pu_e1 T L s) = c
abbrev pu_e2 (T : Nat → Nat) (L s : Nat) : Nat := pu_e1 T L s + 1 + pu_dn T L (pu_e1 T L s + 1)
abbrev pu_ok2 (T : Nat → Nat) (L s : Nat) : Prop := 0 < pu_dn T L (pu_e1 T L s + 1) ∧ pu_e2 T L s < L ∧ T (pu_e2 T L s) = 59
abbrev pu_OK (T : Nat → Nat) (L s : Nat) : Prop := (T s = 99 ∧ s + 1 < L ∧ T (s + 1) = 59) ∨ ((T s = 109 ∨ T s = 114) ∧ pu_ok1 T L s 59) ∨ ((T s = 112 ∨ T s = 117) ∧ pu_ok1 T L s 44 ∧ pu_ok2 T L s)
def pu_E (T : Nat → Nat) (L s : Nat) : Nat := if T s = 99 then s + 2 else if T s = 109 ∨ T s = 114 then pu_e1 T L s + 1 else pu_e2 T L s + 1
def pu_V1 (T : Nat → Nat) (L s : Nat) : Nat := pu_nv T (s + 1) (pu_dn T L (s + 1))
def pu_V2 (T : Nat → Nat) (L s : Nat) : Nat := pu_nv T (pu_e1 T L s + 1) (pu_dn T L (pu_e1 T L s + 1))
def PAC (T : Nat → Nat) (L s : Nat) (X : Xst) (a : Int32 × Xst) : Prop := (∀ j, j ≠ 7 → a.2 j = X j) ∧ a.2 7 0 = X 7 0 ∧ a.2 7 1 = X 7 1 ∧ a.1 = (if pu_OK T L s then 1 else 0) ∧ (pu_OK T L s → a.2 7 2 0 = nI (pu_E T L s) ∧ a.2 7 3 0 = nI (T s) ∧ (¬ T s = 99 → a.2 7 4 0 = nI (pu_V1 T L s)) ∧ (T s = 112 ∨ T s = 117 → a.2 7 5 0 = nI (pu_V2 T L s)))
def PAR (T : Nat → Nat) (L s : Nat) (M : Cst) (b : Int32 × Cst) : Prop := (∀ j, j ≠ 8 → j ≠ 11 → b.2 j = M j) ∧ b.1 = (if pu_OK T L s then 1 else 0) ∧ (pu_OK T L s → b.2 8 0 = nI (pu_E T L s) ∧ (¬ T s = 99 → b.2 11 0 = nI (pu_V1 T L s)) ∧ (T s = 112 ∨ T s = 117 → b.2 11 1 = nI (pu_V2 T L s)))
theorem PAR_mk {T : Nat → Nat} {L s : Nat} {M Y : Cst} {v : Int32} (h1 : ∀ j, j ≠ 8 → j ≠ 11 → Y j = M j) (h2 : v = (if pu_OK T L s then 1 else 0)) (h3 : pu_OK T L s → Y 8 0 = nI (pu_E T L s) ∧ (¬ T s = 99 → Y 11 0 = nI (pu_V1 T L s)) ∧ (T s = 112 ∨ T s = 117 → Y 11 1 = nI (pu_V2 T L s))) : PAR T L s M (v, Y) := ⟨h1, h2, h3⟩
theorem PAC_mk {T : Nat → Nat} {L s : Nat} {X Y : Xst} {v : Int32} (h1 : ∀ j, j ≠ 7 → Y j = X j) (h2 : Y 7 0 = X 7 0) (h3 : Y 7 1 = X 7 1) (h4 : v = (if pu_OK T L s then 1 else 0)) (h5 : pu_OK T L s → Y 7 2 0 = nI (pu_E T L s) ∧ Y 7 3 0 = nI (T s) ∧ (¬ T s = 99 → Y 7 4 0 = nI (pu_V1 T L s)) ∧ (T s = 112 ∨ T s = 117 → Y 7 5 0 = nI (pu_V2 T L s))) : PAC T L s X (v, Y) := ⟨h1, h2, h3, h4, h5⟩
theorem pu_form {T : Nat → Nat} {L s : Nat} {M : Cst} (hL : L ≤ 60) (hs : s < L) (hT : ∀ k, k < L → 32 ≤ T k ∧ T k ≤ 126) (h : TXR T L s M) : PAR T L s M (sX5_isForm M (nI (T s))) := by
  have hT2 : ∀ k, k < L → T k ≤ 126 := fun k hk => (hT k hk).2
  have d1 := pu_dn_le T L (s + 1)
  have d2 := pu_dn_le T L (pu_e1 T L s + 1)
  have ht := hT s hs
  unfold sX5_isForm
  refine p_ltv (Q9 := PAR T L s M) (fun K69 e69 => p_ltv (fun K49 e49 => p_ltv (fun S eS => ?_)))
  have sj : ∀ j, j ≠ 8 → S j = M j := fun j hj => by rw [eS, pu_un _ _ _ hj]
  have s8 : S 8 0 = nI (s + 1) := by rw [eS, pu_up, if_pos rfl, if_pos rfl, h.2.1, nI_1]
  have hS : TXR T L (s + 1) S := ⟨by rw [sj 6 (by decide)]; exact h.1, s8, by rw [sj 5 (by decide)]; exact h.2.2⟩
  have q : ∀ c, c ≤ 126 → (nI (T s) = nI c ↔ T s = c) := fun c hc => nI_eq (by omega) (by omega)
  have k49 : T s = 109 ∨ T s = 114 → PAR T L s M (K49 S) := by
    intro hc
    subst e49
    have ok : pu_OK T L s ↔ pu_ok1 T L s 59 := by
      constructor
      · rintro (⟨z, _⟩ | ⟨_, z⟩ | ⟨z, _⟩)
        · omega
        · exact z
        · omega
      · intro z; exact Or.inr (Or.inl ⟨hc, z⟩)
    refine p_bnd (fun r Y e => ?_)
    refine (show PAR T L s M (r, Y) from ?_)
    rw [← e]
    refine pu_numR (P := PAR T L s M) (b := 59) (i := 0) hL (by omega) hT (by decide) hS (fun M' m1 m2 m3 m4 => PAR_mk (fun j h8 h11 => by rw [m1 j h8 h11, sj j h8]) ?_ (fun z => ⟨?_, fun _ => m3, fun z2 => by omega⟩))
    · by_cases c : pu_ok1 T L s 59
      · rw [if_pos c, if_pos (ok.mpr c)]
      · rw [if_neg c, if_neg (fun z => c (ok.mp z))]
    · rw [m4]; unfold pu_E; rw [if_neg (by omega), if_pos hc]
  have k69 : T s = 112 ∨ T s = 117 → PAR T L s M (K69 S) := by
    intro hc
    subst e69
    have ok : pu_OK T L s ↔ pu_ok1 T L s 44 ∧ pu_ok2 T L s := by
      constructor
      · rintro (⟨z, _⟩ | ⟨z, _⟩ | ⟨_, z⟩)
        · omega
        · omega
        · exact z
      · intro z; exact Or.inr (Or.inr ⟨hc, z⟩)
    refine p_bnd (fun r Y e => ?_)
    have f1 := pu_numR (M := S) (P := fun b => b.1 = (if pu_ok1 T L s 44 then 1 else 0) ∧ (∀ j, j ≠ 8 → j ≠ 11 → b.2 j = S j) ∧ b.2 11 0 = nI (pu_V1 T L s) ∧ b.2 8 0 = nI (pu_e1 T L s + 1)) (b := 44) (i := 0) hL (by omega) hT (by decide) hS (fun M' m1 m2 m3 m4 => ⟨rfl, m1, m3, m4⟩)
    rw [show (44 : Int32) = nI 44 from rfl] at e
    rw [e] at f1
    dsimp only at f1
    obtain ⟨f1, f2, f3, f4⟩ := f1
    have f1' : r = if pu_ok1 T L s 44 then 1 else 0 := f1
    refine p_ite (fun c => ?_) (fun c => ?_)
    · have hn : ¬ pu_ok1 T L s 44 := fun z => by rw [f1', if_pos z] at c; exact pu_10 c
      refine PAR_mk (fun j h8 h11 => by rw [f2 j h8 h11, sj j h8]) (by rw [if_neg (fun z => hn (ok.mp z).1)]) (fun z => absurd (ok.mp z).1 hn)
    · have hp : pu_ok1 T L s 44 := Decidable.byContradiction (fun z => c (by rw [f1', if_neg z]))
      have hY : TXR T L (pu_e1 T L s + 1) Y := ⟨by rw [f2 6 (by decide) (by decide)]; exact hS.1, f4, by rw [f2 5 (by decide) (by decide)]; exact hS.2.2⟩
      refine p_bnd (fun r2 Y2 e2 => ?_)
      have g1 := pu_numR (M := Y) (P := fun b => b.1 = (if pu_ok2 T L s then 1 else 0) ∧ (∀ j, j ≠ 8 → j ≠ 11 → b.2 j = Y j) ∧ b.2 11 0 = Y 11 0 ∧ b.2 11 1 = nI (pu_V2 T L s) ∧ b.2 8 0 = nI (pu_e2 T L s + 1)) (b := 59) (i := 1) hL (by omega) hT (by decide) hY (fun M' m1 m2 m3 m4 => ⟨rfl, m1, m2 0 (by decide), m3, m4⟩)
      rw [show (59 : Int32) = nI 59 from rfl] at e2
      rw [e2] at g1
      dsimp only at g1
      obtain ⟨g1, g2, g3, g4, g5⟩ := g1
      have g1' : r2 = if pu_ok2 T L s then 1 else 0 := g1
      refine p_ite (fun c2 => ?_) (fun c2 => ?_)
      · have hn : ¬ pu_ok2 T L s := fun z => by rw [g1', if_pos z] at c2; exact pu_10 c2
        refine PAR_mk (fun j h8 h11 => by rw [g2 j h8 h11, f2 j h8 h11, sj j h8]) (by rw [if_neg (fun z => hn (ok.mp z).2)]) (fun z => absurd (ok.mp z).2 hn)
      · have hp2 : pu_ok2 T L s := Decidable.byContradiction (fun z => c2 (by rw [g1', if_neg z]))
        refine PAR_mk (fun j h8 h11 => by rw [g2 j h8 h11, f2 j h8 h11, sj j h8]) (by rw [if_pos (ok.mpr ⟨hp, hp2⟩)]) (fun _ => ⟨?_, fun _ => by rw [g3]; exact f3, fun _ => g4⟩)
        rw [g5]; unfold pu_E; rw [if_neg (by omega), if_neg (by omega)]
  refine p_ite (fun c => ?_) (fun c => ?_)
  · have c99 : ¬ T s = 99 := fun z => c ((q 99 (by decide)).mpr z)
    refine p_ite (fun c1 => k49 (Or.inl ((q 109 (by decide)).mp c1))) (fun c1 => p_ite (fun c2 => p_ite (fun c3 => k69 (Or.inr ((q 117 (by decide)).mp c3))) (fun c3 => p_ite (fun c4 => ?_) (fun c4 => k69 (Or.inl ((q 112 (by decide)).mp (Decidable.not_not.mp c4)))))) (fun c2 => k49 (Or.inr ((q 114 (by decide)).mp (Decidable.not_not.mp c2)))))
    have z1 : ¬ T s = 109 := fun z => c1 ((q 109 (by decide)).mpr z)
    have z2 : ¬ T s = 114 := fun z => c2 ((q 114 (by decide)).mpr z)
    have z3 : ¬ T s = 117 := fun z => c3 ((q 117 (by decide)).mpr z)
    have z4 : ¬ T s = 112 := fun z => c4 ((q 112 (by decide)).mpr z)
    have no : ¬ pu_OK T L s := by
      rintro (⟨z, _⟩ | ⟨z, _⟩ | ⟨z, _⟩) <;> omega
    exact PAR_mk (fun j h8 _ => sj j h8) (by rw [if_neg no]) (fun z => absurd z no)
  · have c99 : T s = 99 := (q 99 (by decide)).mp (Decidable.not_not.mp c)
    refine p_ltv (fun r er => p_ltv (fun S2 e2 => ?_))
    have er' : r = if s + 1 < L ∧ 59 ≤ T (s + 1) ∧ T (s + 1) ≤ 59 then 1 else 0 := er.trans (pu_isAt (lo := 59) (hi := 59) hL (by omega) hT2 (by decide) (by decide) hS)
    have ok : pu_OK T L s ↔ s + 1 < L ∧ 59 ≤ T (s + 1) ∧ T (s + 1) ≤ 59 := by
      constructor
      · rintro (⟨_, z1, z2⟩ | ⟨z, _⟩ | ⟨z, _⟩)
        · exact ⟨z1, by omega, by omega⟩
        · omega
        · omega
      · rintro ⟨z1, z2, z3⟩; exact Or.inl ⟨c99, z1, by omega⟩
    refine PAR_mk (fun j h8 _ => by rw [e2, pu_un _ _ _ h8, sj j h8]) ?_ (fun _ => ⟨?_, fun z => absurd c99 z, fun z => by omega⟩)
    · rw [er']
      by_cases z : pu_OK T L s
      · rw [if_pos z, if_pos (ok.mp z)]
      · rw [if_neg z, if_neg (fun y => z (ok.mpr y))]
    · rw [e2, pu_up, if_pos rfl, if_pos rfl, s8, nI_1]; unfold pu_E; rw [if_pos c99]
theorem pu_cmd {T : Nat → Nat} {L s : Nat} {X : Xst} (hL : L ≤ 60) (hs : s < L) (hT : ∀ k, k < L → 32 ≤ T k ∧ T k ≤ 126) (h : TXC T L s X) : PAC T L s X (sX3_readCommand X) := by
  have hT2 : ∀ k, k < L → T k ≤ 126 := fun k hk => (hT k hk).2
  have d1 := pu_dn_le T L (s + 1)
  have d2 := pu_dn_le T L (pu_e1 T L s + 1)
  have ht := hT s hs
  have he1 : pu_e1 T L s = s + 1 + pu_dn T L (s + 1) := rfl
  have he2 : pu_e2 T L s = pu_e1 T L s + 1 + pu_dn T L (pu_e1 T L s + 1) := rfl
  unfold sX3_readCommand
  refine p_ltv (Q9 := PAC T L s X) (fun K130 e130 => p_ltv (fun r er => p_ltv (fun S1 e1 => p_ltv (fun S2 e2 => p_ltv (fun S3 e3 => p_ltv (fun S4 e4 => ?_))))))
  rw [pu_sign hL (by omega) h, if_pos hs] at er
  subst er
  have sj : ∀ j, j ≠ 7 → S4 j = X j := fun j hj => by rw [e4, pu_upxn _ _ hj, e3, pu_upxn _ _ hj, e2, pu_upxn _ _ hj, e1, pu_upxn _ _ hj]
  have s7 : S4 7 = up (up (up (up (X 7) 3 0 (nI (T s))) 2 0 (nI (s + 1))) 4 0 0) 5 0 0 := by
    have a1 : S1 7 = up (X 7) 3 0 (nI (T s)) := by rw [e1, upx_self]
    have a2 : S2 7 = up (up (X 7) 3 0 (nI (T s))) 2 0 (nI (s + 1)) := by rw [e2, upx_self, a1, pu_un _ _ _ (by decide), h.2.1, nI_1]
    rw [e4, upx_self, e3, upx_self, a2]
  clear e1 e2 e3 e4
  have t0 : S4 7 0 = X 7 0 := by rw [s7, pu_un _ _ _ (by decide), pu_un _ _ _ (by decide), pu_un _ _ _ (by decide), pu_un _ _ _ (by decide)]
  have t1 : S4 7 1 = X 7 1 := by rw [s7, pu_un _ _ _ (by decide), pu_un _ _ _ (by decide), pu_un _ _ _ (by decide), pu_un _ _ _ (by decide)]
  have t2 : S4 7 2 0 = nI (s + 1) := by rw [s7, pu_un _ _ _ (by decide), pu_un _ _ _ (by decide), pu_up, if_pos rfl, if_pos rfl]
  have t3 : S4 7 3 0 = nI (T s) := by rw [s7, pu_un _ _ _ (by decide), pu_un _ _ _ (by decide), pu_un _ _ _ (by decide), pu_up, if_pos rfl, if_pos rfl]
  have t4 : S4 7 4 0 = 0 := by rw [s7, pu_un _ _ _ (by decide), pu_up, if_pos rfl, if_pos rfl]
  have t5 : S4 7 5 0 = 0 := by rw [s7, pu_up, if_pos rfl, if_pos rfl]
  clear s7
  have hS : TXC T L (s + 1) S4 := ⟨by rw [t1]; exact h.1, t2, by rw [t0]; exact h.2.2⟩
  have q : ∀ c, c ≤ 126 → (nI (T s) = nI c ↔ T s = c) := fun c hc => nI_eq (by omega) (by omega)
  -- the end: numbers there, and the sign behind
  have k130 : ∀ (Y : Xst) (e : Nat), e < 200 → (∀ j, j ≠ 7 → Y j = X j) → Y 7 0 = X 7 0 → Y 7 1 = X 7 1 → Y 7 2 0 = nI e → Y 7 3 0 = nI (T s) → (pu_OK T L s → Y 7 4 0 < 0 → False) → (pu_OK T L s → Y 7 5 0 < 0 → False) → (¬ Y 7 4 0 < 0 → ¬ Y 7 5 0 < 0 → (pu_OK T L s ↔ e < L ∧ T e = 59)) → (pu_OK T L s → pu_E T L s = e + 1) → (pu_OK T L s → ¬ T s = 99 → Y 7 4 0 = nI (pu_V1 T L s)) → (pu_OK T L s → T s = 112 ∨ T s = 117 → Y 7 5 0 = nI (pu_V2 T L s)) → PAC T L s X (K130 Y) := by
    intro Y e he yj y0 y1 y2 y3 n4 n5 iff hE v4 v5
    subst e130
    refine p_ite (fun c => PAC_mk yj y0 y1 (by rw [if_neg (fun z => n4 z c)]) (fun z => (n4 z c).elim)) (fun c4 => p_ite (fun c => PAC_mk yj y0 y1 (by rw [if_neg (fun z => n5 z c)]) (fun z => (n5 z c).elim)) (fun c5 => p_bnd (fun r Y2 e2 => ?_)))
    have iff' := iff c4 c5
    have f := pu_pass (X := Y) (P := fun a => (∀ j, j ≠ 7 → a.2 j = Y j) ∧ (∀ j, j ≠ 2 → a.2 7 j = Y 7 j) ∧ ((a.1 = 0 ∧ ¬ (e < L ∧ T e = 59)) ∨ (a.1 = 1 ∧ (e < L ∧ T e = 59) ∧ a.2 7 2 0 = nI (e + 1)))) (c := 59) hL (by omega) hT2 (by decide) (⟨by rw [y1]; exact h.1, y2, by rw [y0]; exact h.2.2⟩ : TXC T L e Y) (fun z => ⟨fun _ _ => rfl, fun _ _ => rfl, Or.inl ⟨rfl, z⟩⟩) (fun z X' a b c => ⟨a, b, Or.inr ⟨rfl, z, c⟩⟩)
    rw [show (59 : Int32) = nI 59 from rfl] at e2
    rw [e2] at f
    dsimp only at f
    obtain ⟨f1, f2, f3⟩ := f
    have yj' : ∀ j, j ≠ 7 → Y2 j = X j := fun j hj => (f1 j hj).trans (yj j hj)
    have y0' : Y2 7 0 = X 7 0 := (f2 0 (by decide)).trans y0
    have y1' : Y2 7 1 = X 7 1 := (f2 1 (by decide)).trans y1
    rcases f3 with ⟨z1, z2⟩ | ⟨z1, z2, z3⟩
    · refine p_ite (fun _ => PAC_mk yj' y0' y1' (by rw [if_neg (fun z => z2 (iff'.mp z))]) (fun z => absurd (iff'.mp z) z2)) (fun c => absurd z1 c)
    · have hok := iff'.mpr z2
      refine p_ite (fun c => absurd (z1.symm.trans c) pu_10) (fun _ => PAC_mk yj' y0' y1' (by rw [if_pos hok]) (fun _ => ⟨by rw [hE hok]; exact z3, (congrFun (f2 3 (by decide)) 0).trans y3, fun z => (congrFun (f2 4 (by decide)) 0).trans (v4 hok z), fun z => (congrFun (f2 5 (by decide)) 0).trans (v5 hok z)⟩))
  have num : ∀ (Y : Xst) (e : Nat), e < 200 → TXC T L e Y → ∀ r Y2, sX3_readNumber Y = (r, Y2) → r = (if pu_dn T L e = 0 then -1 else nI (pu_nv T e (pu_dn T L e))) ∧ (∀ j, j ≠ 7 → Y2 j = Y j) ∧ (∀ j, j ≠ 2 → Y2 7 j = Y 7 j) ∧ Y2 7 2 0 = nI (e + pu_dn T L e) := by
    intro Y e he hY r Y2 heq
    have f := pu_rdN (X := Y) (P := fun a => a.1 = (if pu_dn T L e = 0 then -1 else nI (pu_nv T e (pu_dn T L e))) ∧ (∀ j, j ≠ 7 → a.2 j = Y j) ∧ (∀ j, j ≠ 2 → a.2 7 j = Y 7 j) ∧ a.2 7 2 0 = nI (e + pu_dn T L e)) hL (by omega) hT hY (fun X' a b c => ⟨rfl, a, b, c⟩)
    rw [heq] at f; exact f
  have nvb : ∀ e, pu_nv T e (pu_dn T L e) < 1000 := by
    intro e
    have hd : ∀ j, j < pu_dn T L e → pu_D T L (e + j) := by
      intro j hj
      unfold pu_dn at hj
      by_cases z0 : pu_D T L (e + 0)
      · rw [if_pos z0] at hj
        by_cases z1 : pu_D T L (e + 1)
        · rw [if_pos z1] at hj
          by_cases z2 : pu_D T L (e + 2)
          · rw [if_pos z2] at hj
            have : j = 0 ∨ j = 1 ∨ j = 2 := by omega
            rcases this with rfl | rfl | rfl
            · exact z0
            · exact z1
            · exact z2
          · rw [if_neg z2] at hj
            have : j = 0 ∨ j = 1 := by omega
            rcases this with rfl | rfl
            · exact z0
            · exact z1
        · rw [if_neg z1] at hj
          have : j = 0 := by omega
          subst this; exact z0
      · rw [if_neg z0] at hj; omega
    have h1 := pu_nv_lt (pu_dn T L e) hd
    have h2 := pu_dn_le T L e
    have : pu_dn T L e = 0 ∨ pu_dn T L e = 1 ∨ pu_dn T L e = 2 ∨ pu_dn T L e = 3 := by omega
    rcases this with z | z | z | z <;> rw [z] at h1 ⊢ <;> omega
  have one : T s = 109 ∨ T s = 114 → PAC T L s X (bnd (sX3_readNumber S4) (fun (r_89 : Int32) (S_89 : Xst) => ltv (upx S_89 7 (up (S_89 7) 4 0 r_89)) (fun (S_92 : Xst) => K130 S_92))) := by
    intro hc
    refine p_bnd (fun r Y e => p_ltv (fun Z eZ => ?_))
    obtain ⟨n1, n2, n3, n4⟩ := num S4 (s + 1) (by omega) hS r Y e
    have ok : pu_OK T L s ↔ pu_ok1 T L s 59 := by
      constructor
      · rintro (⟨z, _⟩ | ⟨_, z⟩ | ⟨z, _⟩)
        · omega
        · exact z
        · omega
      · intro z; exact Or.inr (Or.inl ⟨hc, z⟩)
    have z7 : ∀ j, j ≠ 4 → Z 7 j = Y 7 j := fun j hj => by rw [eZ, upx_self, pu_un _ _ _ hj]
    have z4 : Z 7 4 0 = r := by rw [eZ, upx_self, pu_up, if_pos rfl, if_pos rfl]
    have z5 : Z 7 5 0 = 0 := by rw [z7 5 (by decide), n3 5 (by decide), t5]
    have hb := nvb (s + 1)
    refine k130 Z (pu_e1 T L s) (by omega) (fun j hj => by rw [eZ, pu_upxn _ _ hj, n2 j hj, sj j hj]) (by rw [z7 0 (by decide), n3 0 (by decide), t0]) (by rw [z7 1 (by decide), n3 1 (by decide), t1]) (by rw [z7 2 (by decide), n4]) (by rw [z7 3 (by decide), n3 3 (by decide), t3]) (fun z z' => ?_) (fun _ z' => ?_) (fun c4 c5 => ?_) (fun z => ?_) (fun z _ => ?_) (fun _ z2 => by omega)
    · have := (ok.mp z).1
      rw [z4, n1, if_neg (by omega)] at z'; exact nI_pos (by omega) z'
    · rw [z5] at z'; exact absurd z' (by decide)
    · have : 0 < pu_dn T L (s + 1) := by
        rcases Nat.eq_zero_or_pos (pu_dn T L (s + 1)) with z | z
        · rw [z4, n1, if_pos z] at c4; exact absurd (show (-1 : Int32) < 0 by decide) c4
        · exact z
      exact ⟨fun z => (ok.mp z).2, fun z => ok.mpr ⟨this, z⟩⟩
    · unfold pu_E; rw [if_neg (by omega), if_pos hc]
    · have := (ok.mp z).1
      rw [z4, n1, if_neg (by omega)]; rfl
  have two : T s = 112 ∨ T s = 117 → PAC T L s X (bnd (sX3_readNumber S4) (fun (r_100 : Int32) (S_100 : Xst) => ltv (upx S_100 7 (up (S_100 7) 4 0 r_100)) (fun (S_103 : Xst) => bnd (sX3_passes S_103 44) (fun (r_109 : Int32) (S_109 : Xst) => (if ¬ r_109 = 0 then bnd (sX3_readNumber S_109) (fun (r_119 : Int32) (S_119 : Xst) => ltv (upx S_119 7 (up (S_119 7) 5 0 r_119)) (fun (S_122 : Xst) => K130 S_122)) else (0, S_109)))))) := by
    intro hc
    refine p_bnd (fun r Y e => p_ltv (fun Z eZ => p_bnd (fun r2 Y2 e2 => ?_)))
    obtain ⟨n1, n2, n3, n4⟩ := num S4 (s + 1) (by omega) hS r Y e
    have ok : pu_OK T L s ↔ pu_ok1 T L s 44 ∧ pu_ok2 T L s := by
      constructor
      · rintro (⟨z, _⟩ | ⟨z, _⟩ | ⟨_, z⟩)
        · omega
        · omega
        · exact z
      · intro z; exact Or.inr (Or.inr ⟨hc, z⟩)
    have z7 : ∀ j, j ≠ 4 → Z 7 j = Y 7 j := fun j hj => by rw [eZ, upx_self, pu_un _ _ _ hj]
    have z4 : Z 7 4 0 = r := by rw [eZ, upx_self, pu_up, if_pos rfl, if_pos rfl]
    have z5 : Z 7 5 0 = 0 := by rw [z7 5 (by decide), n3 5 (by decide), t5]
    have zj : ∀ j, j ≠ 7 → Z j = X j := fun j hj => by rw [eZ, pu_upxn _ _ hj, n2 j hj, sj j hj]
    have z0 : Z 7 0 = X 7 0 := by rw [z7 0 (by decide), n3 0 (by decide), t0]
    have z1 : Z 7 1 = X 7 1 := by rw [z7 1 (by decide), n3 1 (by decide), t1]
    have z3 : Z 7 3 0 = nI (T s) := by rw [z7 3 (by decide), n3 3 (by decide), t3]
    have hZ : TXC T L (pu_e1 T L s) Z := ⟨by rw [z1]; exact h.1, by rw [z7 2 (by decide), n4], by rw [z0]; exact h.2.2⟩
    have f := pu_pass (X := Z) (P := fun a => (∀ j, j ≠ 7 → a.2 j = Z j) ∧ (∀ j, j ≠ 2 → a.2 7 j = Z 7 j) ∧ ((a.1 = 0 ∧ ¬ (pu_e1 T L s < L ∧ T (pu_e1 T L s) = 44)) ∨ (a.1 = 1 ∧ (pu_e1 T L s < L ∧ T (pu_e1 T L s) = 44) ∧ a.2 7 2 0 = nI (pu_e1 T L s + 1)))) (c := 44) hL (by omega) hT2 (by decide) hZ (fun z => ⟨fun _ _ => rfl, fun _ _ => rfl, Or.inl ⟨rfl, z⟩⟩) (fun z X' a b c => ⟨a, b, Or.inr ⟨rfl, z, c⟩⟩)
    rw [show (44 : Int32) = nI 44 from rfl] at e2
    rw [e2] at f
    dsimp only at f
    obtain ⟨f1, f2, f3⟩ := f
    have yj' : ∀ j, j ≠ 7 → Y2 j = X j := fun j hj => (f1 j hj).trans (zj j hj)
    have y0' : Y2 7 0 = X 7 0 := (f2 0 (by decide)).trans z0
    have y1' : Y2 7 1 = X 7 1 := (f2 1 (by decide)).trans z1
    rcases f3 with ⟨w1, w2⟩ | ⟨w1, w2, w3⟩
    · refine p_ite (fun c => absurd w1 c) (fun _ => PAC_mk yj' y0' y1' ?_ (fun z => absurd (ok.mp z).1.2 w2))
      rw [if_neg (fun z => w2 (ok.mp z).1.2)]
    refine p_ite (fun _ => p_bnd (fun r3 Y3 e3 => p_ltv (fun W eW => ?_))) (fun c => absurd (show ¬ r2 = 0 by rw [show r2 = 1 from w1]; decide) c)
    have hY2 : TXC T L (pu_e1 T L s + 1) Y2 := ⟨by rw [y1']; exact h.1, w3, by rw [y0']; exact h.2.2⟩
    obtain ⟨m1, m2, m3, m4⟩ := num Y2 (pu_e1 T L s + 1) (by omega) hY2 r3 Y3 e3
    have w7 : ∀ j, j ≠ 5 → W 7 j = Y3 7 j := fun j hj => by rw [eW, upx_self, pu_un _ _ _ hj]
    have w5 : W 7 5 0 = r3 := by rw [eW, upx_self, pu_up, if_pos rfl, if_pos rfl]
    have w4 : W 7 4 0 = r := by rw [w7 4 (by decide), m3 4 (by decide)]; exact (congrFun (f2 4 (by decide)) 0).trans z4
    have hb := nvb (s + 1)
    have hb2 := nvb (pu_e1 T L s + 1)
    refine k130 W (pu_e2 T L s) (by omega) (fun j hj => by rw [eW, pu_upxn _ _ hj, m2 j hj, yj' j hj]) (by rw [w7 0 (by decide), m3 0 (by decide), y0']) (by rw [w7 1 (by decide), m3 1 (by decide), y1']) (by rw [w7 2 (by decide), m4]) (by rw [w7 3 (by decide), m3 3 (by decide)]; exact (congrFun (f2 3 (by decide)) 0).trans z3) (fun z z' => ?_) (fun z z' => ?_) (fun c4 c5 => ?_) (fun z => ?_) (fun z _ => ?_) (fun z _ => ?_)
    · have := (ok.mp z).1.1
      rw [w4, n1, if_neg (by omega)] at z'; exact nI_pos (by omega) z'
    · have := (ok.mp z).2.1
      rw [w5, m1, if_neg (by omega)] at z'; exact nI_pos (by omega) z'
    · have p1 : 0 < pu_dn T L (s + 1) := by
        rcases Nat.eq_zero_or_pos (pu_dn T L (s + 1)) with z | z
        · rw [w4, n1, if_pos z] at c4; exact absurd (show (-1 : Int32) < 0 by decide) c4
        · exact z
      have p2 : 0 < pu_dn T L (pu_e1 T L s + 1) := by
        rcases Nat.eq_zero_or_pos (pu_dn T L (pu_e1 T L s + 1)) with z | z
        · rw [w5, m1, if_pos z] at c5; exact absurd (show (-1 : Int32) < 0 by decide) c5
        · exact z
      exact ⟨fun z => (ok.mp z).2.2, fun z => ok.mpr ⟨⟨p1, w2⟩, p2, z⟩⟩
    · unfold pu_E; rw [if_neg (by omega), if_neg (by omega)]
    · have := (ok.mp z).1.1
      rw [w4, n1, if_neg (by omega)]; rfl
    · have := (ok.mp z).2.1
      rw [w5, m1, if_neg (by omega)]; rfl
  rw [t3]
  refine p_ite (fun c => ?_) (fun c => p_ite (fun c1 => one (Or.inl ((q 109 (by decide)).mp c1))) (fun c1 => p_ite (fun c2 => two (Or.inl ((q 112 (by decide)).mp c2))) (fun c2 => p_ite (fun c3 => one (Or.inr ((q 114 (by decide)).mp c3))) (fun c3 => p_ite (fun c4 => two (Or.inr ((q 117 (by decide)).mp c4))) (fun c4 => ?_)))))
  · have c99 : T s = 99 := (q 99 (by decide)).mp c
    have ok : pu_OK T L s ↔ s + 1 < L ∧ T (s + 1) = 59 := by
      constructor
      · rintro (⟨_, z⟩ | ⟨z, _⟩ | ⟨z, _⟩)
        · exact z
        · omega
        · omega
      · intro z; exact Or.inl ⟨c99, z⟩
    refine k130 S4 (s + 1) (by omega) sj t0 t1 t2 t3 (fun _ z => ?_) (fun _ z => ?_) (fun _ _ => ok) (fun _ => ?_) (fun _ z => absurd c99 z) (fun _ z => by omega)
    · rw [t4] at z; exact absurd z (by decide)
    · rw [t5] at z; exact absurd z (by decide)
    · unfold pu_E; rw [if_pos c99]
  · have no : ¬ pu_OK T L s := by
      have z0 : ¬ T s = 99 := fun z => c ((q 99 (by decide)).mpr z)
      have z1 : ¬ T s = 109 := fun z => c1 ((q 109 (by decide)).mpr z)
      have z2 : ¬ T s = 112 := fun z => c2 ((q 112 (by decide)).mpr z)
      have z3 : ¬ T s = 114 := fun z => c3 ((q 114 (by decide)).mpr z)
      have z4 : ¬ T s = 117 := fun z => c4 ((q 117 (by decide)).mpr z)
      rintro (⟨z, _⟩ | ⟨z, _⟩ | ⟨z, _⟩) <;> omega
    exact PAC_mk sj t0 t1 (by rw [if_neg no]) (fun z => absurd z no)
