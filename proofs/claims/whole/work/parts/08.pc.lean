/-! who is the heaviest, who is excluded in turn -/
def pu_am (p : Nat → Bool) (f : Nat → Int32) : Nat → Option Nat
  | 0 => none
  | k + 1 => if p k = true then (match pu_am p f k with
      | none => some k
      | some j => if f j < f k then some k else some j) else pu_am p f k
theorem pu_am0 {p : Nat → Bool} {f : Nat → Int32} {k : Nat} (h : ¬ p k = true) : pu_am p f (k + 1) = pu_am p f k := by simp only [pu_am]; rw [if_neg h]
theorem pu_am1 {p : Nat → Bool} {f : Nat → Int32} {k : Nat} (h : p k = true) (h1 : pu_am p f k = none) : pu_am p f (k + 1) = some k := by simp only [pu_am]; rw [if_pos h, h1]
theorem pu_am2 {p : Nat → Bool} {f : Nat → Int32} {k j : Nat} (h : p k = true) (h1 : pu_am p f k = some j) (h2 : f j < f k) : pu_am p f (k + 1) = some k := by simp only [pu_am]; rw [if_pos h, h1]; exact if_pos h2
theorem pu_am3 {p : Nat → Bool} {f : Nat → Int32} {k j : Nat} (h : p k = true) (h1 : pu_am p f k = some j) (h2 : ¬ f j < f k) : pu_am p f (k + 1) = some j := by simp only [pu_am]; rw [if_pos h, h1]; exact if_neg h2
theorem pu_am_some {p : Nat → Bool} {f : Nat → Int32} : ∀ {k j : Nat}, pu_am p f k = some j → j < k ∧ p j = true
  | 0, j, h => by cases h
  | k + 1, j, h => by
    by_cases hp : p k = true
    · cases h1 : pu_am p f k with
      | none => rw [pu_am1 hp h1] at h; cases h; exact ⟨by omega, hp⟩
      | some i =>
        by_cases h2 : f i < f k
        · rw [pu_am2 hp h1 h2] at h; cases h; exact ⟨by omega, hp⟩
        · rw [pu_am3 hp h1 h2] at h; cases h
          have := pu_am_some h1; exact ⟨by omega, this.2⟩
    · rw [pu_am0 hp] at h
      have := pu_am_some h; exact ⟨by omega, this.2⟩
theorem pu_am_congr {p q : Nat → Bool} {f g : Nat → Int32} : ∀ {k : Nat}, (∀ i, i < k → p i = q i) → (∀ i, i < k → p i = true → f i = g i) → pu_am p f k = pu_am q g k
  | 0, _, _ => rfl
  | k + 1, h1, h2 => by
    have ih := pu_am_congr (p := p) (q := q) (f := f) (g := g) (k := k) (fun i hi => h1 i (by omega)) (fun i hi => h2 i (by omega))
    by_cases hp : p k = true
    · have hq : q k = true := by rw [← h1 k (by omega)]; exact hp
      cases e : pu_am p f k with
      | none => rw [pu_am1 hp e, pu_am1 hq (ih ▸ e)]
      | some j =>
        have hj := pu_am_some e
        have e1 := h2 j (by omega) hj.2
        have e2 := h2 k (by omega) hp
        by_cases h3 : f j < f k
        · rw [pu_am2 hp e h3, pu_am2 hq (ih ▸ e) (by rw [← e1, ← e2]; exact h3)]
        · rw [pu_am3 hp e h3, pu_am3 hq (ih ▸ e) (by rw [← e1, ← e2]; exact h3)]
    · rw [pu_am0 hp, pu_am0 (by rw [← h1 k (by omega)]; exact hp), ih]
def pu_oc (d : Int32) (f : Nat → Int32) : Option Nat → Int32
  | none => d
  | some j => f j
theorem pu_heavy {C : Cst} {n X : Nat} (h9 : C 9 0 = nI n) (hn : n ≤ 8) (hX : X < 256) (h6 : ∀ i, i < n → ∃ a, a < 2 ^ 31 ∧ C 6 i = nI a) : sX0_heaviestNotIn C (nI X) = pu_oc (-1) nI (pu_am (fun i => !X.testBit i) (C 6) n) := by
  dsimp only [sX0_heaviestNotIn, ltl4, ltv]
  refine pw4 (P := fun v => v = _) (fun k x1 x2 x3 i4 => i4 = k ∧ x1 = nI X ∧ x2 = pu_oc (-1) nI (pu_am (fun i => !X.testBit i) (C 6) k) ∧ x3 = pu_oc (-1) (C 6) (pu_am (fun i => !X.testBit i) (C 6) k)) n ?_ ?_ 9 0 _ _ _ 0 (by omega) (by omega) ⟨rfl, rfl, rfl, rfl⟩
  · rintro R k x1 x2 x3 i4 hk ⟨rfl, rfl, rfl, rfl⟩ hR
    refine (if_neg (pu_8n (by omega))).trans ?_
    rw [if_neg (by rw [h9]; exact pu_5n hk hn), pu_bits X hX i4 (by omega)]
    by_cases c : X.testBit i4 = true
    · rw [if_pos c, if_pos pu_10]
      refine hR _ _ _ _ ⟨rfl, rfl, ?_, ?_⟩ <;> rw [pu_am0 (by simp [c])]
    · rw [if_neg c, if_neg pu_00]
      have cp : (fun i => !X.testBit i) i4 = true := by simp [c]
      cases e : pu_am (fun i => !X.testBit i) (C 6) i4 with
      | none =>
        obtain ⟨a, ha, ea⟩ := h6 i4 hk
        refine (if_neg (show ¬ C 6 i4 ≤ (-1 : Int32) by rw [ea]; exact fun q => absurd (Int32.le_trans (nI_pos' ha) q) (by decide))).trans ?_
        refine hR _ _ _ _ ⟨rfl, rfl, ?_, ?_⟩ <;> rw [pu_am1 cp e] <;> rfl
      | some j =>
        by_cases c2 : C 6 j < C 6 i4
        · refine (if_neg (show ¬ C 6 i4 ≤ C 6 j from Int32.not_le.mpr c2)).trans ?_
          refine hR _ _ _ _ ⟨rfl, rfl, ?_, ?_⟩ <;> rw [pu_am2 cp e c2] <;> rfl
        · refine (if_pos (show C 6 i4 ≤ C 6 j from Int32.not_lt.mp c2)).trans ?_
          refine hR _ _ _ _ ⟨rfl, rfl, ?_, ?_⟩ <;> rw [pu_am3 cp e c2]
  · rintro R x1 x2 x3 i4 ⟨rfl, rfl, rfl, rfl⟩
    by_cases c : i4 = 8
    · rw [c]; exact if_pos pu_8y
    · refine (if_neg (pu_8n (by omega))).trans (if_pos ?_)
      rw [h9]; exact nI_le (Nat.le_refl _) (by omega)
/-- the set of those excluded in turn, after k turns -/
def pu_ex (f : Nat → Int32) (B n : Nat) : Nat → Nat
  | 0 => 0
  | k + 1 => match pu_am (fun i => !(B ||| pu_ex f B n k).testBit i) f n with
      | none => pu_ex f B n k
      | some j => pu_ex f B n k ||| 2 ^ j
theorem pu_ex0 {f : Nat → Int32} {B n k : Nat} (h : pu_am (fun i => !(B ||| pu_ex f B n k).testBit i) f n = none) : pu_ex f B n (k + 1) = pu_ex f B n k := by simp only [pu_ex]; rw [h]
theorem pu_ex1 {f : Nat → Int32} {B n k j : Nat} (h : pu_am (fun i => !(B ||| pu_ex f B n k).testBit i) f n = some j) : pu_ex f B n (k + 1) = pu_ex f B n k ||| 2 ^ j := by simp only [pu_ex]; rw [h]
theorem pu_ex_stop {f : Nat → Int32} {B n k : Nat} (h : pu_am (fun i => !(B ||| pu_ex f B n k).testBit i) f n = none) : ∀ d, pu_ex f B n (k + d) = pu_ex f B n k
  | 0 => rfl
  | d + 1 => by
    have ih := pu_ex_stop h d
    rw [show k + (d + 1) = (k + d) + 1 by omega, pu_ex0 (by rw [ih]; exact h), ih]
theorem pu_ex_lt {f : Nat → Int32} {B n : Nat} (hn : n ≤ 8) : ∀ k, pu_ex f B n k < 256
  | 0 => (by decide : 0 < 256)
  | k + 1 => by
    cases e : pu_am (fun i => !(B ||| pu_ex f B n k).testBit i) f n with
    | none => rw [pu_ex0 e]; exact pu_ex_lt hn k
    | some j =>
      rw [pu_ex1 e]
      have := pu_am_some e
      exact (pu_orb _ (pu_ex_lt hn k) j (by omega)).2
theorem pu_tor (m j i : Nat) : (m ||| 2 ^ j).testBit i = (m.testBit i || decide (j = i)) := by
  rw [Nat.testBit_or, Nat.testBit_two_pow]
theorem pu_ex_hi {f : Nat → Int32} {B n i : Nat} (hi : n ≤ i) : ∀ k, (pu_ex f B n k).testBit i = false
  | 0 => Nat.zero_testBit i
  | k + 1 => by
    cases e : pu_am (fun i => !(B ||| pu_ex f B n k).testBit i) f n with
    | none => rw [pu_ex0 e]; exact pu_ex_hi hi k
    | some j =>
      have := pu_am_some e
      rw [pu_ex1 e, pu_tor, pu_ex_hi hi k, decide_eq_false (by omega)]; rfl
def pu_tn (l h n : Nat) : Nat := if h < l then min ((l - h + 9) / 10) (n - 1) else 0
