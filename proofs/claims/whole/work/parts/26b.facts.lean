theorem bf_j {x g : Int32} (h : ∃ j : Nat, j < 8 ∧ x = nI j ∧ (g >>> (nI j &&& 31)) &&& 1 = 0) : ∃ j : Nat, j < 8 ∧ x = nI j := by
  obtain ⟨j, h1, h2, -⟩ := h; exact ⟨j, h1, h2⟩
theorem bf_bit {g : Int32} {j : Nat} {P9 : Prop} (hj : j < 8) (h : P9 ∨ ∃ j' : Nat, j' < 8 ∧ nI j = nI j' ∧ (g >>> (nI j' &&& 31)) &&& 1 = 0) (hn : ¬ P9 := by first | exact nI_pos (by omega) | (intro q; exact absurd q (by assumption))) : (g >>> (nI j &&& 31)) &&& 1 = 0 := by
  obtain ⟨j', h1, h2, h3⟩ := h.resolve_left hn
  rw [h2]; exact h3
theorem bf_fu0 {t : Int32} (h : t = 0 ∨ t = 1) : (t = 0 ∧ 1 ≤ 22) ∨ (t = 1 ∧ (21 : Int) ≤ (0 : Int32).toInt + (22 : Nat)) := h.imp (fun q => ⟨q, by decide⟩) (fun q => ⟨q, by decide⟩)
theorem bf_bk {t1 t0 x5 v : Int32} {n : Nat} (e : v = t1 + t0) (h0 : (x5 = 0 ∧ t0 = 0) ∨ (x5 = 1 ∧ t0 = 1)) (h7 : 0 ≤ t1.toInt ∧ t1.toInt < 20) (hf : (21 : Int) ≤ t1.toInt + (n + 1)) : (0 ≤ v.toInt ∧ v.toInt ≤ 20) ∧ ((x5 = 0 ∧ 1 ≤ n) ∨ (x5 = 1 ∧ (21 : Int) ≤ v.toInt + n)) := by
  rcases h0 with ⟨h1, h2⟩ | ⟨h1, h2⟩
  · subst h2
    have e2 : v = t1 := by rw [e]; exact Int32.add_zero t1
    subst e2
    exact ⟨by omega, Or.inl ⟨h1, by omega⟩⟩
  · subst h2
    have e2 := i32_inc (x := t1) (a := 0) (b := 20) h7.1 (by omega)
    rw [← e] at e2
    exact ⟨by omega, Or.inr ⟨h1, by omega⟩⟩
theorem bf_bits : ∀ g, g < 256 → ∀ j, j < 8 → (nI g >>> (nI j &&& 31)) &&& 1 = 0 → (nI g).toInt < (nI g ||| (1 <<< (nI j &&& 31))).toInt ∧ (nI g ||| (1 <<< (nI j &&& 31))).toInt < 256 := by decide +kernel
theorem bf_or {t1 t0 x5 v : Int32} {n : Nat} (e : v = t1 ||| t0) (hg : 0 ≤ t1.toInt ∧ t1.toInt < 256) (hf : (257 : Int) ≤ t1.toInt + (n + 1)) (hz : (x5 = 0 ∧ t0 = 0) ∨ (x5 = 1 ∧ ∃ j : Nat, j < 8 ∧ t0 = 1 <<< (nI j &&& 31) ∧ (t1 >>> (nI j &&& 31)) &&& 1 = 0)) : (0 ≤ v.toInt ∧ v.toInt < 256) ∧ ((x5 = 0 ∧ 1 ≤ n) ∨ (x5 = 1 ∧ (257 : Int) ≤ v.toInt + n)) := by
  rcases hz with ⟨h1, h2⟩ | ⟨h1, j, hj, h2, h3⟩
  · subst h2
    have e2 : v = t1 := by rw [e]; exact Int32.or_zero
    subst e2
    exact ⟨hg, Or.inl ⟨h1, by omega⟩⟩
  · obtain ⟨g, hg2, rfl⟩ := nI_nneg hg.1
    have hg3 : g < 256 := by have := hg.2; rw [nI_toInt hg2] at this; omega
    have hb := bf_bits g hg3 j hj h3
    rw [← h2, ← e] at hb
    exact ⟨by omega, Or.inr ⟨h1, by omega⟩⟩
theorem bf_hz {x5 x6 g : Int32} (h : x5 = 1 ∧ ∃ j : Nat, j < 8 ∧ x6 = nI j ∧ (g >>> (nI j &&& 31)) &&& 1 = 0) : (x5 = 0 ∧ 1 <<< (x6 &&& 31) = (0 : Int32)) ∨ (x5 = 1 ∧ ∃ j : Nat, j < 8 ∧ 1 <<< (x6 &&& 31) = (1 : Int32) <<< (nI j &&& 31) ∧ (g >>> (nI j &&& 31)) &&& 1 = 0) := by
  obtain ⟨h1, j, h2, h3, h4⟩ := h
  exact Or.inr ⟨h1, j, h2, by rw [h3], h4⟩
theorem at_in {x y : Int32} (h0 : 0 ≤ x.toInt) (h6 : y.toInt ≤ 60) (h : ¬ y ≤ x) : vp_in x 60 := by
  have h1 := Int32.not_le.mp h
  rw [Int32.lt_iff_toInt_lt] at h1
  exact vp_in_iff.mpr ⟨h0, by omega⟩
theorem sub3 {x y : Int32} (h0 : 0 ≤ y.toInt) (h1 : y.toInt ≤ x.toInt) (c : ¬ 3 ≤ x - y) : x.toInt - y.toInt < 3 := by
  obtain ⟨a, ha, rfl⟩ := nI_nneg (show 0 ≤ x.toInt by omega)
  obtain ⟨b, hb, rfl⟩ := nI_nneg h0
  rw [nI_toInt ha, nI_toInt hb] at h1 ⊢
  rw [nI_sub (show b ≤ a by omega)] at c
  have h2 := i32_ltN (N := 3) (by decide) c
  rw [nI_toInt (by omega)] at h2
  omega
