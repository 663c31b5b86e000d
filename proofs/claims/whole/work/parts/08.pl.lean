def pu_told (Y : Cst) (x : Int32) (r : Nat) : Int32 := if x = -1 then sX5_sum Y 1 else if x = -2 then nI r else sX5_of Y x.toNatClampNeg 1
theorem pu_calmR {P : Int32 × Cst → Prop} {M : Cst} {x : Int32} (k0 : sX5_isMember M x = 0 → sX5_in x (-2) (-1) = 0 → P ((-10001), M)) (k1 : (¬ sX5_isMember M x = 0 ∨ ¬ sX5_in x (-2) (-1) = 0) → ∀ q, q < 40 → (∀ j, j < q → ¬ pu_fl (sX5_copies_0_2 M) j = 0) → pu_fl (sX5_copies_0_2 M) q = 0 → P (pu_told (pu_rn (sX5_copies_0_2 M) (q + 1)) x (q + 1), sX5_copies_2_0 (pu_rn (sX5_copies_0_2 M) (q + 1)))) (k2 : (¬ sX5_isMember M x = 0 ∨ ¬ sX5_in x (-2) (-1) = 0) → ∀ T, T = 40 → (∀ j, j < 40 → ¬ pu_fl (sX5_copies_0_2 M) j = 0) → P ((-10004), sX5_copies_2_0 (pu_rn (sX5_copies_0_2 M) T))) : P (sX5_calm M x) := by
  unfold sX5_calm
  refine p_ltv (Q9 := P) (fun K87 e87 => p_ltv (fun K81 e81 => p_ltv (fun K58 e58 => p_lz4 (fun B37 L37 b37 h37 => p_ltv (fun K22 e22 => p_ltv (fun r er => ?_))))))
  generalize hN : sX5_copies_0_2 M = N at k1 k2
  have k87 : ∀ Y x3 v, (x3 = 0 → P (v, sX5_copies_2_0 Y)) → (¬ x3 = 0 → P ((-10004), sX5_copies_2_0 Y)) → P (K87 Y x3 v) := by
    intro Y x3 v a b
    subst e87
    exact p_ltv (fun S eS => p_ite (fun c => by rw [eS]; exact a c) (fun c => by rw [eS]; exact b c))
  have k58 : ∀ Y x3 q, (x3 = 0 → P (pu_told Y x q, sX5_copies_2_0 Y)) → (¬ x3 = 0 → P ((-10004), sX5_copies_2_0 Y)) → P (K58 Y x (nI q) x3) := by
    intro Y x3 q a b
    subst e58
    unfold pu_told at a
    refine p_ite (fun c => p_ite (fun c2 => ?_) (fun c2 => ?_)) (fun c => p_ltv (fun s es => ?_))
    · rw [if_neg c, if_neg c2] at a
      subst e81
      exact p_ltv (fun s es => k87 _ _ _ (by rw [es]; exact a) b)
    · rw [if_neg c, if_pos (Decidable.not_not.mp c2)] at a
      exact k87 _ _ _ a b
    · rw [if_pos (Decidable.not_not.mp c)] at a
      exact k87 _ _ _ (by rw [es]; exact a) b
  have main : (¬ sX5_isMember M x = 0 ∨ ¬ sX5_in x (-2) (-1) = 0) → P (K22 M x) := by
    intro ok
    subst e22
    refine p_ltv (fun S eS => ?_)
    rw [hN] at eS
    subst eS
    obtain ⟨T, hT⟩ : ∃ T : Nat, T = 40 := ⟨40, rfl⟩
    refine pl4 h37 (fun q Y x1 i2 x3 => i2 = q ∧ x1 = x ∧ Y = pu_rn S q ∧ ((q = 0 ∧ ¬ x3 = 0) ∨ (∃ p, q = p + 1 ∧ x3 = pu_fl S p ∧ ∀ j, j < p → ¬ pu_fl S j = 0))) T ?_ ?_ 41 0 _ _ _ _ (by omega) (by omega) ⟨rfl, rfl, rfl, Or.inl ⟨rfl, by decide⟩⟩
    · rintro R q Y x1 i2 x3 hk ⟨rfl, rfl, rfl, hx3⟩ hR
      rw [b37]
      refine p_ite (fun c => ?_) (fun c => ?_)
      · rcases hx3 with ⟨_, h⟩ | ⟨p, rfl, h, hp⟩
        · exact absurd c h
        · exact k58 _ _ _ (fun _ => k1 ok p (by omega) hp (by rw [← h]; exact c)) (fun h' => absurd c h')
      · refine p_ite (fun c2 => absurd c2 (nI_ge (b := 40) (by omega) (by decide))) (fun _ => p_bnd (fun r2 S2 e2 => ?_))
        refine hR _ _ _ _ ⟨rfl, rfl, by show S2 = (sX5_turns (pu_rn S i2)).2; rw [e2], Or.inr ⟨i2, rfl, by unfold pu_fl; rw [e2], fun j hj => ?_⟩⟩
        rcases hx3 with ⟨h, _⟩ | ⟨p, h, h2, hp⟩
        · omega
        · by_cases e : j = p
          · rw [e, ← h2]; exact c
          · exact hp j (by omega)
    · rintro R Y x1 i2 x3 ⟨rfl, rfl, rfl, hx3⟩
      rw [b37]
      rcases hx3 with ⟨h, _⟩ | ⟨p, h, h2, hp⟩
      · omega
      · subst h
        have fin : P (K58 (pu_rn S (p + 1)) x1 (nI (p + 1)) x3) := by
          refine k58 _ _ _ (fun c => k1 ok p (by omega) hp (by rw [← h2]; exact c)) (fun c => k2 ok (p + 1) hT (fun j hj => ?_))
          by_cases e : j = p
          · rw [e, ← h2]; exact c
          · exact hp j (by omega)
        exact p_ite (fun _ => fin) (fun _ => p_ite (fun _ => fin) (fun c => absurd (show (40 : Int32) ≤ nI (p + 1) from by rw [hT]; decide) c))
  refine p_ite (fun c => main (Or.inl (by rw [← er]; exact c))) (fun c => p_ltv (fun r2 er2 => p_ite (fun c2 => main (Or.inr (by rw [← er2]; exact c2))) (fun c2 => k0 (by rw [← er]; exact Decidable.not_not.mp c) (by rw [← er2]; exact Decidable.not_not.mp c2))))
theorem pu_rn_k (N : Cst) {n t h m g : Nat} {C : Cst} (hR : RC n t h m g C (N 0)) : ∀ q, (∃ C', RC n t h m g C' (pu_rn N q 0)) ∧ ∀ j, j ≠ 0 → pu_rn N q j = N j
  | 0 => ⟨⟨C, hR⟩, fun _ _ => rfl⟩
  | q + 1 => by
    obtain ⟨⟨C', h1⟩, h2⟩ := pu_rn_k N hR q
    obtain ⟨_, b, c⟩ := pu_round h1
    exact ⟨⟨_, b⟩, fun j hj => (c j hj).trans (h2 j hj)⟩
/-- what a look ahead of the reference leaves: its row as it was, aside from the held ones and charges -/
def SAME (M M' : Cst) : Prop := (∀ j, j ≠ 0 → j ≠ 2 → j ≠ 7 → M' j = M j) ∧ ∀ i, i < 107 → M' 0 i = M 0 i
theorem pu_back {M N : Cst} (h2 : ∀ i, i < 107 → N 2 i = M 0 i) (hk : ∀ j, j ≠ 0 → j ≠ 2 → j ≠ 7 → N j = M j) : SAME M (sX5_copies_2_0 N) := by
  obtain ⟨a, b⟩ := pu_cp_2_0 N
  exact ⟨fun j z0 z2 z7 => by rw [a j z0]; exact hk j z0 z2 z7, fun i hi => by rw [b i hi]; exact h2 i hi⟩
theorem pu_notm1 {C : Cst} : sX0_has C (-1) = 0 ∧ sX0_has C (-2) = 0 := by
  constructor <;> (dsimp only [sX0_has]; exact if_pos (by decide))
theorem pu_in21 (x : Int32) : ¬ sX5_in x (-2) (-1) = 0 ↔ x = -1 ∨ x = -2 := by
  rw [pu_in]
  constructor
  · intro h
    by_cases c : x < -2 ∨ -1 < x
    · rw [if_pos c] at h; exact absurd rfl h
    · have h1 : (-2 : Int32) ≤ x := Int32.not_lt.mp (fun q => c (Or.inl q))
      have h2 : x ≤ (-1 : Int32) := Int32.not_lt.mp (fun q => c (Or.inr q))
      rw [Int32.le_iff_toInt_le] at h1 h2
      have e1 : (-2 : Int32).toInt = -2 := by decide
      have e2 : (-1 : Int32).toInt = -1 := by decide
      rw [e1] at h1
      rw [e2] at h2
      by_cases q : x.toInt = -1
      · exact Or.inl (Int32.toInt_inj.mp (by rw [q, e2]))
      · exact Or.inr (Int32.toInt_inj.mp (by rw [e1]; omega))
  · rintro (rfl | rfl) <;> decide
theorem pu_upx1 (S : Xst) (Y : Cst) : upx S 1 Y 1 = Y := rfl
theorem pu_upxn (S : Xst) {j k : Nat} (Y : Cst) (h : k ≠ j) : upx S j Y k = S k := by unfold upx; rw [if_neg h]
def CQ (S : Xst) (b : Int32) (a : Int32 × Xst) : Prop := a.1 = b ∧ ∀ j, j ≠ 1 → a.2 j = S j
def CALQ (S : Xst) (M : Cst) (a : Int32 × Xst) (b : Int32 × Cst) : Prop := CQ S b.1 a ∧ SAME M b.2
theorem CALQ_mk {S : Xst} {M : Cst} {a : Int32 × Xst} {v : Int32} {Y : Cst} (h1 : CQ S v a) (h2 : SAME M Y) : CALQ S M a (v, Y) := ⟨h1, h2⟩
theorem pu_calm {n t h m g : Nat} {M : Cst} {S : Xst} (x : Int32) (hR : RC n t h m g (S 0) (M 0)) : CALQ S M (sX4_calm S x) (sX5_calm M x) := by
  have hn : n ≤ 8 := hR.1.1
  have mem := pu_has_mem hR.2.1.1 hR.2.1.2.1 hn x
  have cp := pu_cp_0_2 M
  have hRN : RC n t h m g (S 0) (sX5_copies_0_2 M 0) := by rw [cp.1 0 (by decide)]; exact hR
  have back : ∀ q, SAME M (sX5_copies_2_0 (pu_rn (sX5_copies_0_2 M) q)) := fun q => pu_back (fun i hi => by rw [(pu_rn_k _ hRN q).2 2 (by decide)]; exact cp.2 i hi) (fun j z0 z2 _ => by rw [(pu_rn_k _ hRN q).2 j z0]; exact cp.1 j z2)
  have cd : ∀ Y : Cst, Y = S 0 → (∃ q C', sX0_calmDown Y = (nI (q + 1), C') ∧ q < 40 ∧ (∀ j, j < q → ¬ pu_fl (sX5_copies_0_2 M) j = 0) ∧ pu_fl (sX5_copies_0_2 M) q = 0 ∧ RC n t h m g C' (pu_rn (sX5_copies_0_2 M) (q + 1) 0)) ∨ (∃ C', sX0_calmDown Y = ((-10004), C') ∧ ∀ j, j < 40 → ¬ pu_fl (sX5_copies_0_2 M) j = 0) := by
    rintro Y rfl
    exact pu_calmC (P := fun a => (∃ q C', a = (nI (q + 1), C') ∧ q < 40 ∧ (∀ j, j < q → ¬ pu_fl (sX5_copies_0_2 M) j = 0) ∧ pu_fl (sX5_copies_0_2 M) q = 0 ∧ RC n t h m g C' (pu_rn (sX5_copies_0_2 M) (q + 1) 0)) ∨ (∃ C', a = ((-10004), C') ∧ ∀ j, j < 40 → ¬ pu_fl (sX5_copies_0_2 M) j = 0)) hRN (fun q C' a b c d => Or.inl ⟨q, C', rfl, a, b, c, d⟩) (fun C' a => Or.inr ⟨C', rfl, a⟩)
  have walk : ∀ b, (sX0_has (S 0) x = 0 → ¬ x = -1 → ¬ x = -2 → CQ S b ((-10001), S)) → ((¬ sX0_has (S 0) x = 0 ∨ x = -1 ∨ x = -2) → ∀ a C' X, sX0_calmDown (S 0) = (a, C') → (∀ j, j ≠ 1 → X j = S j) → (a = -10004 → CQ S b (a, X)) ∧ (¬ a = -10004 → (x = -2 → CQ S b (a, X)) ∧ (¬ x = -2 → (sX0_has C' x = 0 → CQ S b (sX0_allUnits C', X)) ∧ (¬ sX0_has C' x = 0 → CQ S b (C' 2 x.toNatClampNeg, X))))) → CQ S b (sX4_calm S x) := by
    intro b w1 w2
    unfold sX4_calm
    refine p_ltv (Q9 := CQ S b) (fun K26 e26 => p_ltv (fun r er => ?_))
    have main : (¬ sX0_has (S 0) x = 0 ∨ x = -1 ∨ x = -2) → CQ S b (K26 S x) := by
      intro ok
      subst e26
      refine p_ltv (fun X1 eX1 => p_bnd (fun a C' e => p_ltv (fun X2 eX2 => ?_)))
      have x11 : X1 1 = S 0 := by rw [eX1]; rfl
      rw [x11] at e
      have x2 : ∀ j, j ≠ 1 → X2 j = S j := fun j hj => by rw [eX2, pu_upxn _ _ hj, eX1, pu_upxn _ _ hj]
      have x21 : X2 1 = C' := by rw [eX2]; rfl
      obtain ⟨z1, z2⟩ := w2 ok a C' X2 e x2
      refine p_ite z1 (fun c => p_ite (fun c2 => p_ltv (fun r2 er2 => ?_)) (fun c2 => (z2 c).1 (Decidable.not_not.mp c2)))
      rw [x21] at er2 ⊢
      refine p_ite (fun c3 => p_ltv (fun r3 er3 => ?_)) (fun c3 => ?_)
      · rw [er3]; exact ((z2 c).2 c2).1 (by rw [← er2]; exact c3)
      · exact ((z2 c).2 c2).2 (by rw [← er2]; exact c3)
    refine p_ite (fun c => main (Or.inl (by rw [← er]; exact c))) (fun c => p_ite (fun c1 => main (Or.inr (Or.inl c1))) (fun c1 => p_ite (fun c2 => main (Or.inr (Or.inr c2))) (fun c2 => w1 (by rw [← er]; exact Decidable.not_not.mp c) c1 c2)))
  have okeq : (¬ sX5_isMember M x = 0 ∨ ¬ sX5_in x (-2) (-1) = 0) → (¬ sX0_has (S 0) x = 0 ∨ x = -1 ∨ x = -2) := by
    rintro (h | h)
    · rcases mem with ⟨_, e, _⟩ | ⟨_, _, _, e, _⟩
      · exact absurd e h
      · exact Or.inl (by rw [e]; exact pu_10)
    · exact Or.inr ((pu_in21 x).mp h)
  refine pu_calmR (P := CALQ S M (sX4_calm S x)) (fun h1 h2 => CALQ_mk (walk _ (fun _ _ _ => ⟨rfl, fun _ _ => rfl⟩) (fun ok => ?_)) ⟨fun _ _ _ _ => rfl, fun _ _ => rfl⟩) (fun ok q hq hqf hq0 => CALQ_mk ?_ (back _)) (fun ok T hT hall => CALQ_mk ?_ (back _))
  · rcases ok with h | h | h
    · rcases mem with ⟨e, _, _⟩ | ⟨_, _, _, _, e⟩
      · exact absurd e h
      · rw [e] at h1; exact absurd h1 pu_10
    · exact absurd h2 ((pu_in21 x).mpr (Or.inl h))
    · exact absurd h2 ((pu_in21 x).mpr (Or.inr h))
  · refine walk _ (fun a b c => ?_) (fun _ a C' X e hX => ?_)
    · exact ((okeq ok).elim (fun h => absurd a h) (fun h => h.elim (fun h => absurd h b) (fun h => absurd h c)))
    rcases cd _ rfl with ⟨q', C2, e2, hq', hf', h0', hRC⟩ | ⟨C2, e2, hall⟩
    · have hqq : q' = q := by
        rcases Nat.lt_trichotomy q' q with h | h | h
        · exact absurd h0' (hqf q' h)
        · exact h
        · exact absurd hq0 (hf' q h)
      subst hqq
      rw [e2] at e
      obtain ⟨rfl, rfl⟩ := Prod.mk.inj e
      refine ⟨fun c => ?_, fun _ => ⟨fun c => ⟨?_, hX⟩, fun c => ⟨fun c2 => ⟨?_, hX⟩, fun c2 => ⟨?_, hX⟩⟩⟩⟩
      · exact absurd pu_n4 (by rw [← c]; exact nI_pos (by omega))
      · show nI (q' + 1) = pu_told _ x _
        unfold pu_told
        rw [if_neg (by rw [c]; decide), if_pos c]
      · have hx1 : x = -1 := by
          rcases mem with ⟨e, e', _⟩ | ⟨i, hi, rfl, _, _⟩
          · rcases okeq ok with h | h | h
            · exact absurd e h
            · exact h
            · exact absurd h c
          · rw [pu_has1 hRC.2.1.1 hn hi] at c2; exact absurd c2 pu_10
        show sX0_allUnits C2 = pu_told _ x _
        unfold pu_told
        rw [if_pos hx1]
        dsimp only [sX0_allUnits, ltv]
        rw [pu_sum2, pu_sum5r hn hRC.2.1.2.1, pu_sm_congr (fun i hi => (hRC.2.2.2.1 i hi).2.1), pu_sm_zero hn (fun i h1 h2 => (hRC.2.2.2.2.2.1 i h1 h2).2.1)]
      · show C2 2 x.toNatClampNeg = pu_told _ x _
        rcases mem with ⟨e, e', ne⟩ | ⟨i, hi, rfl, _, _⟩
        · rcases pu_has_mem (M := pu_rn (sX5_copies_0_2 M) (q' + 1)) hRC.2.1.1 hRC.2.1.2.1 hn x with ⟨e3, _, _⟩ | ⟨i, hi, hxi, _, _⟩
          · exact absurd e3 c2
          · exact absurd hxi (ne i hi)
        · unfold pu_told
          rw [if_neg (fun q => nI_pos (n := i) (by omega) (by rw [q]; decide)), if_neg (fun q => nI_pos (n := i) (by omega) (by rw [q]; decide)), nI_clamp (by omega)]
          exact ((hRC.2.2.2.1 i hi).2.1).symm
    · exact absurd hq0 (hall q hq)
  · refine walk _ (fun a b c => ?_) (fun _ a C' X e hX => ?_)
    · exact ((okeq ok).elim (fun h => absurd a h) (fun h => h.elim (fun h => absurd h b) (fun h => absurd h c)))
    rcases cd _ rfl with ⟨q', C2, e2, hq', hf', h0', hRC⟩ | ⟨C2, e2, _⟩
    · exact absurd h0' (hall q' hq')
    · rw [e2] at e
      obtain ⟨rfl, rfl⟩ := Prod.mk.inj e
      exact ⟨fun _ => ⟨rfl, hX⟩, fun c => absurd rfl c⟩
