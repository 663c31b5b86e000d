theorem pu_ex_congr {f g : Nat → Int32} {B n : Nat} (h : ∀ i, i < n → f i = g i) : ∀ k, pu_ex f B n k = pu_ex g B n k
  | 0 => rfl
  | k + 1 => by
    have ih := pu_ex_congr (B := B) h k
    simp only [pu_ex]
    rw [ih, pu_am_congr (f := f) (g := g) (fun i _ => rfl) (fun i hi _ => h i hi)]
theorem pu_subInt {a b : Nat} (ha : a < 2 ^ 30) (hb : b < 2 ^ 30) : (nI a - nI b).toInt = (a : Int) - b := by
  rw [Int32.toInt_sub, nI_toInt (by omega), nI_toInt (by omega)]
  exact zbmod (by omega) (by omega)
theorem pu_max0 {a b : Nat} (ha : a < 2 ^ 30) (hb : b < 2 ^ 30) : (if 0 < nI a - nI b then nI a - nI b else 0) = nI (a - b) := by
  by_cases c : b < a
  · rw [nI_sub (by omega), if_pos (show (0 : Int32) < nI (a - b) from nI_lt (a := 0) (by omega) (by omega))]
  · have : ¬ (0 : Int32) < nI a - nI b := by
      rw [Int32.lt_iff_toInt_lt, pu_subInt ha hb, show (0 : Int32).toInt = 0 from by decide]; omega
    rw [if_neg this, show a - b = 0 by omega]; rfl
theorem pu_min100 {a b : Nat} (ha : a < 2 ^ 30) (hb : b < 2 ^ 30) : (if nI a + nI b < 100 then nI a + nI b else 100) = nI (min 100 (a + b)) := by
  rw [nI_add]
  by_cases c : a + b < 100
  · rw [if_pos (show nI (a + b) < (100 : Int32) from nI_lt (b := 100) c (by decide)), show min 100 (a + b) = a + b by omega]
  · rw [if_neg (show ¬ nI (a + b) < (100 : Int32) from nI_nlt (b := 100) (by omega) (by omega)), show min 100 (a + b) = 100 by omega]; rfl
def pu_nd (C : Cst) (n t i : Nat) : Int32 := if i < n then C 3 i + pu_cg (C 0 0) (C 2) n t i else C 3 i
theorem pu_endC {P : Int32 × Cst → Prop} {C : Cst} {n t h m u D gr l h2 X m' : Nat} (h9 : C 9 0 = nI n) (h10 : C 10 0 = nI t) (h11 : C 11 0 = nI h) (h13 : C 13 0 = nI m) (hd : 1 ≤ C 0 0) (hn : n ≤ 8) (ht : t ≤ 1000) (hh : h ≤ 100) (hm : m < 256) (hu : pu_sm (C 2) 8 = nI u) (hD : pu_dm (C 0 0) (nI u) = nI D) (hD4 : D ≤ 40000) (hgr : C 0 2 = nI gr) (hgr5 : gr ≤ 50) (hl : C 0 1 = nI l) (hl1 : l ≤ 100) (h6 : ∀ i, i < n → ∃ a, a < 2 ^ 31 ∧ C 6 i + C 2 i = nI a) (eh2 : h2 = min 100 (h - D + gr)) (eX : X = pu_ex (fun i => C 6 i + C 2 i) m n (pu_tn l h2 n)) (em : m' = pu_db (fun i => decide (C 0 3 < pu_nd C n t i)) X 8)
    (k : ∀ C' : Cst, (∀ j, (j = 0 ∨ j = 1 ∨ j = 4 ∨ j = 9 ∨ j = 12 ∨ j = 16) → C' j = C j) → C' 10 0 = nI (t + 1) → C' 11 0 = nI h2 → C' 13 0 = nI m' → C' 14 0 = C 14 0 + nI D → C' 15 0 = C 15 0 + nI (D - h) → (∀ i, i < 8 → C' 2 i = 0 ∧ C' 3 i = pu_nd C n t i ∧ C' 5 i = C 5 i + C 2 i ∧ C' 6 i = (if X.testBit i then 0 else C 6 i + C 2 i) ∧ C' 7 i = C 7 i + (if m'.testBit i then 1 else 0)) → (∀ j, C' 8 j = if j = (t % 6) * 5 + 4 then nI m else if j = (t % 6) * 5 + 3 then nI h2 else if j = (t % 6) * 5 + 2 then nI D else if j = (t % 6) * 5 + 1 then nI u else if j = (t % 6) * 5 then nI t else C 8 j) → P (nI D, C')) : P (sX0_endSeason C) := by
  unfold sX0_endSeason
  refine p_ltv (Q9 := P) (fun r er => p_ltv (fun d ed => p_ltv (fun v ev => ?_)))
  have er' : r = nI u := by rw [er]; dsimp only [sX0_allUnits, ltv]; rw [pu_sum2, hu]
  have ed' : d = nI D := by rw [ed, er', pu_damage hd, hD]
  rw [h13] at ev
  subst er' ed' ev
  refine p_ltv (fun S1 e1 => ?_)
  have f1 := pu_owec (P := fun Y => (∀ j, j ≠ 3 → Y j = C j) ∧ ∀ i, Y 3 i = pu_nd C n t i) h9 h10 hd hn ht (fun C' a b => ⟨a, b⟩)
  rw [← e1] at f1
  obtain ⟨a1, b1⟩ := f1
  clear e1
  refine p_ltv (fun S2 e2 => p_ltv (fun S3 e3 => p_ltv (fun S4 e4 => p_ltv (fun S5 e5 => ?_))))
  have x11 : S2 11 0 = nI h := by rw [e2, pu_un _ _ _ (by decide), a1 11 (by decide), h11]
  rw [x11, pu_max0 (by omega) (by omega)] at e3
  have x11' : S3 11 0 = nI h := by rw [e3, pu_un _ _ _ (by decide), x11]
  rw [x11', pu_max0 (by omega) (by omega)] at e4
  have y11 : S4 11 0 = nI (h - D) := by rw [e4, pu_up, if_pos rfl, if_pos rfl]
  have y02 : S4 0 2 = nI gr := by rw [e4, pu_un _ _ _ (by decide), e3, pu_un _ _ _ (by decide), e2, pu_un _ _ _ (by decide), a1 0 (by decide), hgr]
  rw [y11, y02, pu_min100 (by omega) (by omega), ← eh2] at e5
  have c14 : S5 14 0 = C 14 0 + nI D := by rw [e5, pu_un _ _ _ (by decide), e4, pu_un _ _ _ (by decide), e3, pu_un _ _ _ (by decide), e2, pu_up, if_pos rfl, if_pos rfl, a1 14 (by decide)]
  have c15 : S5 15 0 = C 15 0 + nI (D - h) := by rw [e5, pu_un _ _ _ (by decide), e4, pu_un _ _ _ (by decide), e3, pu_up, if_pos rfl, if_pos rfl, e2, pu_un _ _ _ (by decide), a1 15 (by decide)]
  have c11 : S5 11 0 = nI h2 := by rw [e5, pu_up, if_pos rfl, if_pos rfl]
  have cc : ∀ j, j ≠ 11 → j ≠ 14 → j ≠ 15 → S5 j = S1 j := fun j q1 q2 q3 => by rw [e5, pu_un _ _ _ q1, e4, pu_un _ _ _ q1, e3, pu_un _ _ _ q3, e2, pu_un _ _ _ q2]
  clear e2 e3 e4 e5 x11 x11' y11 y02
  refine p_ltv (fun S6 e6 => ?_)
  have s10 : S5 10 0 = nI t := by rw [cc 10 (by decide) (by decide) (by decide), a1 10 (by decide), h10]
  have s13 : S5 13 0 = nI m := by rw [cc 13 (by decide) (by decide) (by decide), a1 13 (by decide), h13]
  have tm := Nat.mod_lt t (show 0 < 6 by decide)
  have ev3 : ((S5 10 0 % 6) * 5) = nI ((t % 6) * 5) := by rw [s10, show (6 : Int32) = nI 6 from rfl, pu_mod (by omega) (by decide), show (5 : Int32) = nI 5 from rfl, nI_mul]
  dsimp only [sX0_keepSeason, ltv] at e6
  rw [ev3, show (1 : Int32) = nI 1 from rfl, show (2 : Int32) = nI 2 from rfl, show (3 : Int32) = nI 3 from rfl, show (4 : Int32) = nI 4 from rfl, nI_add, nI_add, nI_add, nI_add, nI_clamp (by omega), nI_clamp (by omega), nI_clamp (by omega), nI_clamp (by omega), nI_clamp (by omega)] at e6
  have k8 : ∀ j, S6 8 j = if j = (t % 6) * 5 + 4 then nI m else if j = (t % 6) * 5 + 3 then nI h2 else if j = (t % 6) * 5 + 2 then nI D else if j = (t % 6) * 5 + 1 then nI u else if j = (t % 6) * 5 then nI t else C 8 j := by
    intro j
    rw [e6]
    simp only [pu_up, show ¬ (11 : Nat) = 8 by decide, show ¬ (13 : Nat) = 8 by decide, if_true, if_false]
    rw [c11, s13, s10, cc 8 (by decide) (by decide) (by decide), a1 8 (by decide)]
  have cc6 : ∀ j, j ≠ 8 → S6 j = S5 j := fun j q => by rw [e6, pu_un _ _ _ q, pu_un _ _ _ q, pu_un _ _ _ q, pu_un _ _ _ q, pu_un _ _ _ q]
  clear e6
  refine p_ltv (fun S7 e7 => ?_)
  have f7 := pu_book (C := S6) (P := fun Y => (∀ j, j ≠ 2 → j ≠ 5 → j ≠ 6 → Y j = S6 j) ∧ ∀ i, i < 8 → Y 2 i = 0 ∧ Y 5 i = S6 5 i + S6 2 i ∧ Y 6 i = S6 6 i + S6 2 i) (fun C' a b => ⟨a, b⟩)
  rw [← e7] at f7
  obtain ⟨a7, b7⟩ := f7
  clear e7
  have p2 : S6 2 = C 2 := by rw [cc6 2 (by decide), cc 2 (by decide) (by decide) (by decide), a1 2 (by decide)]
  have p5 : S6 5 = C 5 := by rw [cc6 5 (by decide), cc 5 (by decide) (by decide) (by decide), a1 5 (by decide)]
  have p6 : S6 6 = C 6 := by rw [cc6 6 (by decide), cc 6 (by decide) (by decide) (by decide), a1 6 (by decide)]
  rw [p2, p5, p6] at b7
  refine p_ltv (fun S8 e8 => p_ltv (fun S9 e9 => p_ltv (fun S10 e10 => ?_)))
  have c89 : ∀ j, j ≠ 10 → j ≠ 13 → S9 j = S7 j := fun j q1 q2 => by rw [e9, pu_un _ _ _ q2, e8, pu_un _ _ _ q1]
  have s913 : S9 13 0 = 0 := by rw [e9, pu_up, if_pos rfl, if_pos rfl]
  have s910 : S9 10 0 = nI (t + 1) := by
    rw [e9, pu_un _ _ _ (by decide), e8, pu_up, if_pos rfl, if_pos rfl, a7 10 (by decide) (by decide) (by decide), cc6 10 (by decide), s10, nI_1]
  clear e8 e9
  have q9 : ∀ j, j ≠ 2 → j ≠ 3 → j ≠ 5 → j ≠ 6 → j ≠ 8 → j ≠ 10 → j ≠ 11 → j ≠ 13 → j ≠ 14 → j ≠ 15 → S9 j = C j := fun j z2 z3 z5 z6 z8 z10 z11 z13 z14 z15 => by rw [c89 j z10 z13, a7 j z2 z5 z6, cc6 j z8, cc j z11 z14 z15, a1 j z3]
  have s99 : S9 9 0 = nI n := by rw [q9 9 (by decide) (by decide) (by decide) (by decide) (by decide) (by decide) (by decide) (by decide) (by decide) (by decide), h9]
  have s90 : S9 0 = C 0 := q9 0 (by decide) (by decide) (by decide) (by decide) (by decide) (by decide) (by decide) (by decide) (by decide) (by decide)
  have s911 : S9 11 0 = nI h2 := by rw [c89 11 (by decide) (by decide), a7 11 (by decide) (by decide) (by decide), cc6 11 (by decide), c11]
  have tt := pu_turns (C := S9) s99 (by rw [s90, hl]) s911 hn hl1 (by omega)
  have ht100 : pu_tn l h2 n ≤ 100 := by unfold pu_tn; split <;> omega
  have s96 : ∀ i, i < 8 → S9 6 i = C 6 i + C 2 i := fun i hi => by rw [c89 6 (by decide) (by decide)]; exact (b7 i hi).2.2
  have f10 := pu_exT (C := S9) (B := m) (P := fun Y => (∀ j, j ≠ 6 → j ≠ 13 → Y j = S9 j) ∧ Y 13 0 = nI (pu_ex (S9 6) m n (pu_tn l h2 n)) ∧ ∀ i, Y 6 i = if (pu_ex (S9 6) m n (pu_tn l h2 n)).testBit i then 0 else S9 6 i) s99 hn hm ht100 tt.1 tt.2 s913 (fun i hi => by rw [s96 i (by omega)]; exact h6 i hi) (fun C' a b c => ⟨a, b, c⟩)
  rw [← e10, pu_ex_congr (f := S9 6) (g := fun i => C 6 i + C 2 i) (fun i hi => s96 i (by omega)), ← eX] at f10
  obtain ⟨a10, b10, d10⟩ := f10
  have hX : X < 256 := by rw [eX]; exact pu_ex_lt hn _
  clear e10 tt
  refine p_ltv (fun S11 e11 => ?_)
  have f11 := pu_debt (C := S10) (P := fun Y => (∀ j, j ≠ 13 → Y j = S10 j) ∧ Y 13 0 = nI (pu_db (fun i => decide (S10 0 3 < S10 3 i)) X 8)) hX b10 (fun C' a b => ⟨a, b⟩)
  have q103 : S10 3 = fun i => pu_nd C n t i := by
    funext i
    rw [a10 3 (by decide) (by decide), c89 3 (by decide) (by decide), a7 3 (by decide) (by decide) (by decide), cc6 3 (by decide), cc 3 (by decide) (by decide) (by decide)]; exact b1 i
  rw [← e11, q103, a10 0 (by decide) (by decide), s90, ← em] at f11
  obtain ⟨a11, b11⟩ := f11
  clear e11
  refine p_ltv (fun S12 e12 => ?_)
  have hm' : m' < 256 := by rw [em]; exact pu_db_lt hX 8 (by decide)
  have f12 := pu_note (C := S11) (P := fun Y => (∀ j, j ≠ 7 → Y j = S11 j) ∧ ∀ i, i < 8 → Y 7 i = S11 7 i + (if m'.testBit i then 1 else 0)) hm' b11 (fun C' a b => ⟨a, b⟩)
  rw [← e12] at f12
  obtain ⟨a12, b12⟩ := f12
  clear e12
  have z : ∀ j, j ≠ 6 → j ≠ 7 → j ≠ 13 → S12 j = S9 j := fun j z6 z7 z13 => by rw [a12 j z7, a11 j z13, a10 j z6 z13]
  have z89 : ∀ j, j ≠ 2 → j ≠ 5 → j ≠ 6 → j ≠ 7 → j ≠ 8 → j ≠ 10 → j ≠ 13 → S12 j = S5 j := fun j z2 z5 z6 z7 z8 z10 z13 => by rw [z j z6 z7 z13, c89 j z10 z13, a7 j z2 z5 z6, cc6 j z8]
  refine k S12 (fun j hj => ?_) ?_ ?_ ?_ ?_ ?_ (fun i hi => ⟨?_, ?_, ?_, ?_, ?_⟩) (fun j => ?_)
  · rw [z j (by omega) (by omega) (by omega), q9 j (by omega) (by omega) (by omega) (by omega) (by omega) (by omega) (by omega) (by omega) (by omega) (by omega)]
  · rw [z 10 (by decide) (by decide) (by decide), s910]
  · rw [z 11 (by decide) (by decide) (by decide), s911]
  · rw [a12 13 (by decide), b11]
  · rw [z89 14 (by decide) (by decide) (by decide) (by decide) (by decide) (by decide) (by decide), c14]
  · rw [z89 15 (by decide) (by decide) (by decide) (by decide) (by decide) (by decide) (by decide), c15]
  · rw [z 2 (by decide) (by decide) (by decide), c89 2 (by decide) (by decide)]; exact (b7 i hi).1
  · rw [a12 3 (by decide), a11 3 (by decide), q103]
  · rw [z 5 (by decide) (by decide) (by decide), c89 5 (by decide) (by decide)]; exact (b7 i hi).2.1
  · rw [a12 6 (by decide), a11 6 (by decide), d10, s96 i hi]
  · rw [b12 i hi, a11 7 (by decide), a10 7 (by decide) (by decide), q9 7 (by decide) (by decide) (by decide) (by decide) (by decide) (by decide) (by decide) (by decide) (by decide) (by decide)]
  · rw [z 8 (by decide) (by decide) (by decide), c89 8 (by decide) (by decide), a7 8 (by decide) (by decide) (by decide)]; exact k8 j
