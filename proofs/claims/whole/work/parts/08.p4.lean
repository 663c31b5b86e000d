/-! the relation of a state of the class to the reference's row -/
theorem pu_up (C : Cst) (k i : Nat) (x : Int32) (k' i' : Nat) : up C k i x k' i' = if k' = k then (if i' = i then x else C k' i') else C k' i' := by
  unfold up
  by_cases h : k' = k
  · subst h; rw [if_pos rfl, if_pos rfl]; rfl
  · rw [if_neg h, if_neg h]
theorem pu_un (C : Cst) {k k' : Nat} (i : Nat) (x : Int32) (h : k' ≠ k) : up C k i x k' = C k' := by unfold up; rw [if_neg h]
def RCb (n t h m : Nat) : Prop := n ≤ 8 ∧ t ≤ 1000 ∧ h ≤ 100 ∧ m < 2 ^ n
def RCs (C : Cst) (r : Nat → Int32) (n t h m g : Nat) : Prop := C 9 0 = nI n ∧ r 5 = nI n ∧ C 10 0 = nI t ∧ r 6 = nI t ∧ C 11 0 = nI h ∧ r 7 = nI h ∧ C 12 0 = nI g ∧ r 8 = nI g ∧ C 13 0 = nI m ∧ r 9 = C 14 0 ∧ r 10 = C 15 0 ∧ r 11 = C 16 0
def RCk (C : Cst) (r : Nat → Int32) : Prop := (∀ k, k < 5 → r k = C 0 k) ∧ ∀ k, k < 5 → sL k ≤ C 0 k ∧ C 0 k ≤ sM k
def RCr (C : Cst) (r : Nat → Int32) (n m : Nat) : Prop := ∀ i, i < n → r (13 + 8 * i + 0) = C 1 i ∧ r (13 + 8 * i + 1) = C 2 i ∧ r (13 + 8 * i + 2) = C 3 i ∧ r (13 + 8 * i + 3) = C 4 i ∧ r (13 + 8 * i + 4) = C 5 i ∧ r (13 + 8 * i + 5) = C 6 i ∧ r (13 + 8 * i + 6) = (if m.testBit i then 1 else 0) ∧ r (13 + 8 * i + 7) = C 7 i
def RCd (C : Cst) (t : Nat) : Prop := ∀ i, i < 8 → (∃ a, a ≤ 30 ∧ C 1 i = nI a) ∧ (∃ a, a ≤ 20 ∧ C 2 i = nI a) ∧ (∃ a, a ≤ 20 * t ∧ C 5 i = nI a) ∧ (∃ a, a ≤ 20 * t ∧ C 6 i = nI a)
def RCz (C : Cst) (n : Nat) : Prop := ∀ i, n ≤ i → i < 8 → C 1 i = 0 ∧ C 2 i = 0 ∧ C 3 i = 0 ∧ C 4 i = 0 ∧ C 5 i = 0 ∧ C 6 i = 0 ∧ C 7 i = 0
def RCh (C : Cst) (r : Nat → Int32) (t : Nat) : Prop := r 12 = nI (min t 6) ∧ ∀ k w, k < min t 6 → w < 5 → r (77 + 5 * k + w) = C 8 (((t - 1 - k) % 6) * 5 + w)
def RC (n t h m g : Nat) (C : Cst) (r : Nat → Int32) : Prop := RCb n t h m ∧ RCs C r n t h m g ∧ RCk C r ∧ RCr C r n m ∧ RCd C t ∧ RCz C n ∧ RCh C r t
/-- the relation with its numbers hidden: the season not beyond T, the fund not beyond f -/
def RF (T f : Nat) (C : Cst) (r : Nat → Int32) : Prop := ∃ n t h m g, t ≤ T ∧ g ≤ f ∧ RC n t h m g C r
theorem pu_m8 {n m : Nat} (hn : n ≤ 8) (hm : m < 2 ^ n) : m < 256 := Nat.lt_of_lt_of_le hm (show 2 ^ n ≤ 2 ^ 8 from Nat.pow_le_pow_right (by decide) hn)
theorem pu_has_mem {C : Cst} {M : Cst} {n : Nat} (h9 : C 9 0 = nI n) (h5 : M 0 5 = nI n) (hn : n ≤ 8) (x : Int32) : (sX0_has C x = 0 ∧ sX5_isMember M x = 0 ∧ (∀ i, i < n → ¬ x = nI i)) ∨ (∃ i, i < n ∧ x = nI i ∧ sX0_has C x = 1 ∧ sX5_isMember M x = 1) := by
  by_cases h : x < 0
  · refine Or.inl ⟨?_, ?_, fun i hi e => ?_⟩
    · dsimp only [sX0_has]; rw [if_pos h]
    · dsimp only [sX5_isMember]; rw [if_pos h]
    · rw [e] at h; exact nI_pos (by omega) h
  · obtain ⟨j, hj, rfl⟩ := nI_of h
    by_cases hjn : j < n
    · refine Or.inr ⟨j, hjn, rfl, pu_has1 h9 hn hjn, ?_⟩
      dsimp only [sX5_isMember]; rw [if_neg h, h5, if_neg (nI_ge hjn (by omega))]
    · refine Or.inl ⟨?_, ?_, fun i hi e => ?_⟩
      · dsimp only [sX0_has]; rw [if_neg h, h9, if_pos (nI_le (by omega) hj)]
      · dsimp only [sX5_isMember]; rw [if_neg h, h5, if_pos (nI_le (by omega) hj)]
      · have := (nI_eq hj (by omega)).mp e; omega
theorem pu_in (x : Int32) (a b : Int32) : sX5_in x a b = if x < a ∨ b < x then 0 else 1 := by
  dsimp only [sX5_in]
  by_cases h : x < a
  · rw [if_pos h, if_pos (Or.inl h)]
  · by_cases h2 : b < x
    · rw [if_neg h, if_pos h2, if_pos (Or.inr h2)]
    · rw [if_neg h, if_neg h2, if_neg (fun hh => hh.elim h h2)]
