/-! the best for all -/
theorem pu_worth {C : Cst} {n m : Nat} {p : Nat → Bool} (h9 : C 9 0 = nI n) (hn : n ≤ 8) (h13 : C 13 0 = nI m) (hm : m < 256) (h1 : ∀ i, i < n → ∃ a, a < 2 ^ 31 ∧ C 1 i = nI a) (hp : ∀ i, i < n → p i = (decide (¬ 20 ≤ C 2 i) && !m.testBit i)) : sX0_worthiestWithRoom C = pu_oc (-1) nI (pu_am p (C 1) n) := by
  dsimp only [sX0_worthiestWithRoom, ltl3, ltv]
  refine pw3 (P := fun v => v = _) (fun k x1 x2 i3 => i3 = k ∧ x1 = pu_oc (-1) nI (pu_am p (C 1) k) ∧ x2 = pu_oc (-1) (C 1) (pu_am p (C 1) k)) n ?_ ?_ 9 0 _ _ 0 (by omega) (by omega) ⟨rfl, rfl, rfl⟩
  · rintro R k x1 x2 i3 hk ⟨rfl, rfl, rfl⟩ hR
    refine (if_neg (pu_8n (by omega))).trans ?_
    rw [if_neg (by rw [h9]; exact pu_5n hk hn), pu_isOut h13 hm (by omega)]
    have hp3 := hp i3 hk
    by_cases c : 20 ≤ C 2 i3
    · rw [if_pos c]
      refine hR _ _ _ ⟨rfl, ?_, ?_⟩ <;> rw [pu_am0 (by rw [hp3]; simp [c])]
    rw [if_neg c]
    by_cases c1 : m.testBit i3 = true
    · rw [if_pos c1, if_pos pu_10]
      refine hR _ _ _ ⟨rfl, ?_, ?_⟩ <;> rw [pu_am0 (by rw [hp3]; simp [c1])]
    rw [if_neg c1, if_neg pu_00]
    have cp : p i3 = true := by rw [hp3]; simp [c, c1]
    cases e : pu_am p (C 1) i3 with
    | none =>
      obtain ⟨a, ha, ea⟩ := h1 i3 hk
      refine (if_neg (show ¬ C 1 i3 ≤ (-1 : Int32) by rw [ea]; exact fun q => absurd (Int32.le_trans (nI_pos' ha) q) (by decide))).trans ?_
      refine hR _ _ _ ⟨rfl, ?_, ?_⟩ <;> rw [pu_am1 cp e] <;> rfl
    | some j =>
      by_cases c2 : C 1 j < C 1 i3
      · refine (if_neg (show ¬ C 1 i3 ≤ C 1 j from Int32.not_le.mpr c2)).trans ?_
        refine hR _ _ _ ⟨rfl, ?_, ?_⟩ <;> rw [pu_am2 cp e c2] <;> rfl
      · refine (if_pos (show C 1 i3 ≤ C 1 j from Int32.not_lt.mp c2)).trans ?_
        refine hR _ _ _ ⟨rfl, ?_, ?_⟩ <;> rw [pu_am3 cp e c2]
  · rintro R x1 x2 i3 ⟨rfl, rfl, rfl⟩
    by_cases c : i3 = 8
    · rw [c]; exact if_pos pu_8y
    · refine (if_neg (pu_8n (by omega))).trans (if_pos ?_)
      rw [h9]; exact nI_le (Nat.le_refl _) (by omega)
/-- the class's state: all as in C0 but the uses, un -/
def BST (C0 C : Cst) (un : Nat → Nat) (U : Nat) : Prop := (∀ j, j ≠ 2 → C j = C0 j) ∧ (∀ i, i < 8 → C 2 i = nI (un i) ∧ un i ≤ 20) ∧ U = un 0 + un 1 + un 2 + un 3 + un 4 + un 5 + un 6 + un 7
theorem BST_sum {C0 C : Cst} {un : Nat → Nat} {U : Nat} (h : BST C0 C un U) : pu_sm (C 2) 8 = nI U := by
  obtain ⟨_, h2, h3⟩ := h
  simp only [pu_sm]
  rw [(h2 0 (by decide)).1, (h2 1 (by decide)).1, (h2 2 (by decide)).1, (h2 3 (by decide)).1, (h2 4 (by decide)).1, (h2 5 (by decide)).1, (h2 6 (by decide)).1, (h2 7 (by decide)).1, show (0 : Int32) = nI 0 from rfl, nI_add, nI_add, nI_add, nI_add, nI_add, nI_add, nI_add, nI_add, h3, Nat.zero_add]
theorem BST_lt {C0 C : Cst} {un : Nat → Nat} {U j : Nat} (h : BST C0 C un U) (hj : j < 8) (hu : un j < 20) : U < 160 := by
  obtain ⟨_, h2, h3⟩ := h
  have b0 := (h2 0 (by decide)).2
  have b1 := (h2 1 (by decide)).2
  have b2 := (h2 2 (by decide)).2
  have b3 := (h2 3 (by decide)).2
  have b4 := (h2 4 (by decide)).2
  have b5 := (h2 5 (by decide)).2
  have b6 := (h2 6 (by decide)).2
  have b7 := (h2 7 (by decide)).2
  have hc : j = 0 ∨ j = 1 ∨ j = 2 ∨ j = 3 ∨ j = 4 ∨ j = 5 ∨ j = 6 ∨ j = 7 := by omega
  rcases hc with rfl | rfl | rfl | rfl | rfl | rfl | rfl | rfl <;> omega
theorem BST_le {C0 C : Cst} {un : Nat → Nat} {U : Nat} (h : BST C0 C un U) : U ≤ 160 := by
  obtain ⟨_, h2, h3⟩ := h
  have b0 := (h2 0 (by decide)).2
  have b1 := (h2 1 (by decide)).2
  have b2 := (h2 2 (by decide)).2
  have b3 := (h2 3 (by decide)).2
  have b4 := (h2 4 (by decide)).2
  have b5 := (h2 5 (by decide)).2
  have b6 := (h2 6 (by decide)).2
  have b7 := (h2 7 (by decide)).2
  omega
theorem BST_up {C0 C : Cst} {un : Nat → Nat} {U j : Nat} (h : BST C0 C un U) (hj : j < 8) (hu : un j < 20) : BST C0 (up C 2 j (C 2 j + 1)) (fun i => if i = j then un j + 1 else un i) (U + 1) := by
  obtain ⟨h1, h2, h3⟩ := h
  refine ⟨fun k hk => (pu_un _ _ _ hk).trans (h1 k hk), fun i hi => ?_, ?_⟩
  · rw [pu_up, if_pos rfl]
    by_cases e : i = j
    · simp only [if_pos e]; exact ⟨by rw [(h2 j hj).1, nI_1], by omega⟩
    · simp only [if_neg e]; exact h2 i hi
  · have hc : j = 0 ∨ j = 1 ∨ j = 2 ∨ j = 3 ∨ j = 4 ∨ j = 5 ∨ j = 6 ∨ j = 7 := by omega
    rw [h3]
    rcases hc with rfl | rfl | rfl | rfl | rfl | rfl | rfl | rfl <;> simp <;> omega
theorem pu_zero {P : Int32 × Cst → Prop} {C : Cst} {F : Cst → Int32 × Cst} {Z : Nat → Cst → Nat → Int32 × Cst} {B : (Cst → Nat → Int32 × Cst) → Cst → Nat → Int32 × Cst} (hB : B = fun R2 C i1 => if 8 ≤ (nI i1) then F C else ltv (up C 2 i1 0) (fun S_14 => R2 S_14 (i1 + 1))) (hZ : ∀ (n : Nat) x0 x1, Z (n + 1) x0 x1 = B (Z n) x0 x1) (k : ∀ C', BST C C' (fun _ => 0) 0 → P (F C')) : P (Z 9 C 0) := by
  refine pl2 hZ (fun q C' i1 => i1 = q ∧ (∀ j, j ≠ 2 → C' j = C j) ∧ (∀ i, i < q → C' 2 i = 0)) 8 ?_ ?_ 9 0 _ _ (by decide) (by decide) ⟨rfl, fun _ _ => rfl, fun i hi => absurd hi (Nat.not_lt_zero i)⟩
  · rintro R q C' i1 hk ⟨rfl, g1, g2⟩ hR
    rw [hB]
    refine p_ite (fun c => absurd c (pu_8n hk)) (fun _ => p_ltv (fun S eS => ?_))
    refine hR _ _ ⟨rfl, fun j hj => by rw [eS, pu_un _ _ _ hj, g1 j hj], fun i hi => ?_⟩
    rw [eS, pu_up, if_pos rfl]
    by_cases e : i = i1
    · rw [if_pos e]
    · rw [if_neg e]; exact g2 i (by omega)
  · rintro R C' i1 ⟨rfl, g1, g2⟩
    rw [hB]
    exact p_ite (fun _ => k C' ⟨g1, fun i hi => ⟨g2 i hi, Nat.zero_le _⟩, rfl⟩) (fun c => absurd pu_8y c)
theorem pu_bits2 : ∀ G, G < 256 → ∀ j, j < 8 → G.testBit j = false → G < G ||| 2 ^ j := by decide +kernel
def BQa (b x : Int32) (a : Int32 × Cst) : Prop := b = if ¬ x = 0 then a.1 else pu_sm (a.2 2) 8
def BQb (x : Int32) (a : Int32 × Cst) (b : Int32) : Prop := b = if ¬ x = 0 then a.1 else pu_sm (a.2 2) 8
def PEQ {α : Type} (c b : α) : Prop := b = c
theorem pu_bestAll {n t h m g : Nat} {C M : Cst} (x : Int32) (hx : ¬ (x < 0 ∨ 1 < x)) (hR : RC n t h m g C (M 0)) : sX5_bestForAll M x = if ¬ x = 0 then (sX0_useBestForAll C).1 else pu_sm ((sX0_useBestForAll C).2 2) 8 := by
  obtain ⟨⟨hn, ht, hh, hm⟩, ⟨h9, r5, h10, r6, h11, r7, h12, r8, h13, r9, r10, r11⟩, ⟨hs1, hs2⟩, hrr, hd, hz, hk1, hk2⟩ := hR
  obtain ⟨d, d0, d200, ed, e1d⟩ := pu_k0 hs2
  have hm8 := pu_m8 hn hm
  have m00 : M 0 0 = C 0 0 := hs1 0 (by decide)
  show BQa (sX5_bestForAll M x) x (sX0_useBestForAll C)
  unfold sX0_useBestForAll
  refine p_ltv (Q9 := BQa (sX5_bestForAll M x) x) (fun K93 e93 => p_ltv (fun K60 e60 => p_lz3 (fun B25 L25 b25 h25 => p_ltv (fun K21 e21 => p_lz2 (fun B2 L2 b2 h2 => ?_)))))
  refine pu_zero (P := BQa (sX5_bestForAll M x) x) b2 h2 (fun C1 hC1 => ?_)
  clear h2 b2
  subst e21
  show BQb x (L25 161 C1 0 0) (sX5_bestForAll M x)
  unfold sX5_bestForAll
  refine p_ltv (Q9 := BQb x (L25 161 C1 0 0)) (fun K244 e244 => p_lz5 (fun B23 L23 b23 h23 => p_ltv (fun r er => ?_)))
  rw [pu_in, if_neg hx] at er
  refine p_ite (fun _ => ?_) (fun c => absurd (show ¬ r = 0 by rw [er]; decide) c)
  have out60 : ∀ C' un U W, BST C C' un U → BQb x (K60 C' W (nI U)) (K244 x (nI U) W) := by
    intro C' un U W hB
    have c0 : C' 0 = C 0 := hB.1 0 (by decide)
    subst e244 e60
    show (if ¬ x = 0 then W - sX5_damage M (nI U) else nI U) = if ¬ x = 0 then W - sX0_damageOf C' (nI U) else pu_sm (C' 2) 8
    rw [BST_sum hB, pu_damage (by rw [c0]; exact e1d), c0, pu_damageR, m00]
  have out93 : ∀ C' un W, BST C C' un 160 → BQb x (K93 C' W) (K244 x (nI 160) W) := by
    intro C' un W hB
    have c0 : C' 0 = C 0 := hB.1 0 (by decide)
    subst e244 e93
    show (if ¬ x = 0 then W - sX5_damage M (nI 160) else nI 160) = if ¬ x = 0 then W - sX0_damageOf C' 160 else pu_sm (C' 2) 8
    rw [BST_sum hB, pu_damage (by rw [c0]; exact e1d), c0, pu_damageR, m00]; rfl
  have A : ∀ fr fc G un C' W U, BST C C' un U → (∀ i, i < 8 → un i = if G.testBit i then 20 else 0) → G < 256 → 258 ≤ fr + G → 161 ≤ fc + U → BQb x (L25 fc C' W U) (L23 fr x (nI G) (nI U) W 1) := by
    intro fr
    induction fr with
    | zero => intro fc G un C' W U _ _ h1 h2; omega
    | succ fr ih =>
      intro fc G un C' W U hB hun hG hfr hfc
      have stop : ∀ U' W' G', L23 fr x G' (nI U') W' 0 = K244 x (nI U') W' := by
        intro U' W' G'
        obtain ⟨q, rfl⟩ : ∃ q, fr = q + 1 := ⟨fr - 1, by omega⟩
        rw [h23, b23]
        exact p_ltv (Q9 := PEQ (K244 x (nI U') W')) (fun _ _ => p_ltv (fun _ _ => p_lz7 (fun _ _ _ _ => p_ltv (fun _ _ => p_ltv (fun _ _ => p_lz6 (fun _ _ _ _ => p_ite (fun _ => rfl) (fun c => absurd rfl c)))))))
      rw [h23, b23]
      refine p_ltv (Q9 := BQb x (L25 fc C' W U)) (fun K239 e239 => p_ltv (fun K225 e225 => p_lz7 (fun B131 L131 b131 h131 => p_ltv (fun K126 e126 => p_ltv (fun K116 e116 => p_lz6 (fun B36 L36 b36 h36 => p_ite (fun c => absurd c (by decide)) (fun _ => ?_)))))))
      have hbu := BST_le hB
      obtain ⟨fc, rfl⟩ : ∃ q, fc = q + 1 := ⟨fc - 1, by omega⟩
      have c1 : C' 1 = C 1 := hB.1 1 (by decide)
      have hwd : ∀ i, i < n → ∃ a, a < 2 ^ 31 ∧ C' 1 i = nI a := fun i hi => by
        obtain ⟨⟨a, ha, e⟩, _⟩ := hd i (by omega)
        exact ⟨a, by omega, by rw [c1]; exact e⟩
      refine pl6 h36 (fun q y1 y2 y3 y4 y6 i7 => i7 = q ∧ y1 = x ∧ y2 = nI G ∧ y3 = nI U ∧ y4 = W ∧ y6 = pu_oc (-10004) nI (pu_am (fun i => !m.testBit i && !G.testBit i) (C 1) q)) n ?_ ?_ 9 0 _ _ _ _ _ _ (by omega) (by omega) ⟨rfl, rfl, rfl, rfl, rfl, rfl⟩
      · rintro R q y1 y2 y3 y4 y6 i7 hk ⟨rfl, rfl, rfl, rfl, rfl, rfl⟩ hR
        rw [b36]
        refine p_ltv (fun K108 e108 => p_ltv (fun K106 e106 => p_ltv (fun K101 e101 => p_ltv (fun K84 e84 => p_ltv (fun K72 e72 => p_ltv (fun K71 e71 => p_ite (fun c => absurd c (by rw [r5]; exact pu_5n hk hn)) (fun _ => p_ltv (fun r52 er52 => ?_))))))))
        have k108 : ∀ v, v = pu_oc (-10004) nI (pu_am (fun i => !m.testBit i && !G.testBit i) (C 1) (i7 + 1)) → BQb y1 (L25 (fc + 1) C' y4 U) (K108 y1 (nI G) (nI U) y4 i7 v) := by
          intro v hv
          subst e108
          exact hR _ _ _ _ _ _ ⟨rfl, rfl, rfl, rfl, rfl, hv⟩
        have k106 : ∀ v, v = pu_oc (-10004) nI (pu_am (fun i => !m.testBit i && !G.testBit i) (C 1) (i7 + 1)) → BQb y1 (L25 (fc + 1) C' y4 U) (K106 y1 (nI G) (nI U) y4 v i7) := by
          intro v hv
          subst e106
          exact k108 v hv
        have k101 : nI i7 = pu_oc (-10004) nI (pu_am (fun i => !m.testBit i && !G.testBit i) (C 1) (i7 + 1)) → BQb y1 (L25 (fc + 1) C' y4 U) (K101 y1 (nI G) (nI U) y4 i7) := by
          intro hv
          subst e101
          exact k108 _ hv
        have k71 : ¬ (fun i => !m.testBit i && !G.testBit i) i7 = true → K71 y1 (nI G) (nI U) y4 (pu_oc (-10004) nI (pu_am (fun i => !m.testBit i && !G.testBit i) (C 1) i7)) i7 = if ¬ y1 = 0 then (L25 (fc + 1) C' y4 U).1 else pu_sm ((L25 (fc + 1) C' y4 U).2 2) 8 := by
          intro hq
          subst e71
          subst e72
          refine p_ite (Q9 := BQb y1 (L25 (fc + 1) C' y4 U)) (fun _ => k106 _ ?_) (fun c => absurd rfl c)
          rw [pu_am0 hq]
        have e52 : r52 = if m.testBit i7 then 1 else 0 := er52.trans (hrr i7 hk).2.2.2.2.2.2.1
        refine p_ite (fun c => k71 ?_) (fun c => ?_)
        · have hb : m.testBit i7 = true := Decidable.byContradiction (fun q => c (by rw [e52, if_neg q]))
          simp [hb]
        have hb : ¬ m.testBit i7 = true := fun q => c (by rw [e52, if_pos q]; decide)
        rw [pu_bits G hG i7 (by omega)]
        refine p_ite (fun c2 => k71 ?_) (fun c2 => ?_)
        · have hb2 : G.testBit i7 = true := Decidable.byContradiction (fun q => c2 (by rw [if_neg q]))
          simp [hb2]
        have hb2 : ¬ G.testBit i7 = true := fun q => c2 (by rw [if_pos q]; decide)
        have hp : (fun i => !m.testBit i && !G.testBit i) i7 = true := by simp [hb, hb2]
        subst e72
        refine p_ite (fun c => absurd c (by decide)) (fun _ => ?_)
        cases e : pu_am (fun i => !m.testBit i && !G.testBit i) (C 1) i7 with
        | none =>
          refine p_ite (fun _ => k101 ?_) (fun c => absurd (show (-10004 : Int32) < 0 from pu_n4) c)
          rw [pu_am1 hp e]; rfl
        | some j =>
          have hj := (pu_am_some e).1
          refine p_ite (fun c => absurd c (nI_pos (n := j) (by omega))) (fun _ => ?_)
          show BQb _ _ (K84 y1 (nI G) (nI U) y4 (nI j).toNatClampNeg i7)
          rw [nI_clamp (by omega)]
          subst e84
          have q1 := (hrr i7 hk).1
          have q2 := (hrr j (by omega)).1
          refine p_ltv (Q9 := BQb y1 (L25 (fc + 1) C' y4 U)) (fun r88 er88 => p_ltv (fun r95 er95 => p_ite (fun c => k106 _ ?_) (fun c => k101 ?_)))
          · rw [er88, er95] at c
            rw [pu_am3 hp e (Int32.not_lt.mpr (by rw [← q1, ← q2]; exact c))]; rfl
          · rw [er88, er95] at c
            rw [pu_am2 hp e (by rw [← q1, ← q2]; exact Int32.not_le.mp c)]; rfl
      · rintro R y1 y2 y3 y4 y6 i7 ⟨rfl, rfl, rfl, rfl, rfl, rfl⟩
        rw [b36]
        refine p_ltv (fun K108 e108 => p_ltv (fun K106 e106 => p_ltv (fun K101 e101 => p_ltv (fun K84 e84 => p_ltv (fun K72 e72 => p_ltv (fun K71 e71 => p_ite (fun _ => ?_) (fun c => absurd (show M 0 5 ≤ nI i7 by rw [r5]; exact nI_le (Nat.le_refl _) (by omega)) c)))))))
        clear e108 e106 e101 e84 e72 e71
        -- the class's step where the uses are like G but at one place
        have samep : ∀ (C2 : Cst) (un2 : Nat → Nat) (U2 j k : Nat), BST C C2 un2 U2 → (∀ i, i < 8 → (¬ un2 i = 20 ↔ ¬ G.testBit i = true)) → sX0_worthiestWithRoom C2 = pu_oc (-1) nI (pu_am (fun i => !m.testBit i && !G.testBit i) (C 1) i7) := by
          intro C2 un2 U2 j k hB2 hu2
          have z1 : C2 1 = C 1 := hB2.1 1 (by decide)
          rw [pu_worth (C := C2) (n := i7) (m := m) (p := fun i => !m.testBit i && !G.testBit i) (by rw [hB2.1 9 (by decide), h9]) hn (by rw [hB2.1 13 (by decide), h13]) hm8 (fun i hi => by rw [z1]; rw [c1] at hwd; exact hwd i hi) (fun i hi => ?_), z1]
          obtain ⟨w1, w2⟩ := hB2.2.1 i (by omega)
          have := hu2 i (by omega)
          have e20 : (20 : Int32) ≤ C2 2 i ↔ un2 i = 20 := by
            rw [w1, show (20 : Int32) = nI 20 from rfl, nI_leI (by decide) (by omega)]; omega
          show (!m.testBit i && !G.testBit i) = (decide (¬ 20 ≤ C2 2 i) && !m.testBit i)
          rw [Bool.and_comm]
          congr 1
          cases hg : G.testBit i with
          | true => rw [hg] at this; rw [decide_eq_false (fun q => q (e20.mpr (Decidable.byContradiction (fun z => this.mp z rfl))))]; rfl
          | false => rw [hg] at this; rw [decide_eq_true (show ¬ (20 : Int32) ≤ C2 2 i from fun q => this.mpr (by decide) (e20.mp q))]; rfl
        have hu0 : ∀ i, i < 8 → (¬ un i = 20 ↔ ¬ G.testBit i = true) := by
          intro i hi
          rw [hun i hi]
          by_cases c : G.testBit i = true
          · rw [if_pos c]; simp [c]
          · rw [if_neg c]; simp [c]
        cases e : pu_am (fun i => !m.testBit i && !G.testBit i) (C 1) i7 with
        | none =>
          subst e116
          refine p_ite (Q9 := BQb y1 (L25 (fc + 1) C' y4 U)) (fun _ => ?_) (fun c => absurd (show (-10004 : Int32) < 0 from pu_n4) c)
          subst e126
          show BQb _ _ (L131 22 y1 (nI G) (nI U) y4 0 (-10004) 0)
          rw [show (22 : Nat) = 21 + 1 from rfl, h131, b131]
          refine p_ltv (Q9 := BQb y1 (L25 (fc + 1) C' y4 U)) (fun _ _ => p_ltv (fun _ _ => p_ltv (fun _ _ => p_ltv (fun _ _ => p_ltv (fun _ _ => p_ite (fun _ => ?_) (fun c => absurd rfl c))))))
          subst e225
          refine p_ite (Q9 := BQb y1 (L25 (fc + 1) C' y4 U)) (fun _ => ?_) (fun c => absurd rfl c)
          subst e239
          refine p_ltv (Q9 := BQb y1 (L25 (fc + 1) C' y4 U)) (fun v _ => ?_)
          rw [stop, h25, b25]
          refine p_ite (Q9 := BQa (K244 y1 (nI U) y4) y1) (fun c => ?_) (fun c => p_ltv (fun r33 er33 => p_ltv (fun r39 er39 => ?_)))
          · have hU : U = 160 := by
              have := (nI_leI (a := 160) (b := U) (by decide) (by omega)).mp c
              omega
            subst hU
            exact out93 C' un y4 hB
          · rw [samep C' un U 0 0 hB hu0, e] at er33
            have : r39 = 0 := by rw [er39, er33]; rfl
            exact p_ite (fun _ => out60 C' un U y4 hB) (fun c => absurd this c)
        | some j =>
          obtain ⟨hj, hjp⟩ := pu_am_some e
          have hjG : G.testBit j = false := by
            have : (!m.testBit j && !G.testBit j) = true := hjp
            revert this; cases G.testBit j <;> cases m.testBit j <;> decide
          subst e116
          refine p_ite (Q9 := BQb y1 (L25 (fc + 1) C' y4 U)) (fun c => absurd c (nI_pos (n := j) (by omega))) (fun _ => ?_)
          subst e126
          show BQb _ _ (L131 22 y1 (nI G) (nI U) y4 1 (nI j) 0)
          have Bq : ∀ dq k, k + dq = 20 → ∀ C2 un2 W2 U2 fc2, BST C C2 un2 U2 → un2 j = k → (∀ i, i < 8 → i ≠ j → un2 i = if G.testBit i then 20 else 0) → 161 ≤ fc2 + U2 → BQb y1 (L25 fc2 C2 W2 U2) (L131 (dq + 2) y1 (nI G) (nI U2) W2 1 (nI j) (nI k)) := by
            intro dq
            induction dq with
            | zero =>
              intro k hk C2 un2 W2 U2 fc2 hB2 huj hui hfc2
              rw [h131, b131]
              have hk20 : k = 20 := by omega
              subst hk20
              refine p_ltv (Q9 := BQb y1 (L25 fc2 C2 W2 U2)) (fun _ _ => p_ltv (fun _ _ => p_ltv (fun _ _ => p_ltv (fun _ _ => p_ltv (fun _ _ => p_ite (fun c => absurd c (by decide)) (fun _ => p_ite (fun _ => ?_) (fun c => absurd (show (20 : Int32) ≤ nI 20 from by decide) c)))))))
              subst e225
              refine p_ite (Q9 := BQb y1 (L25 fc2 C2 W2 U2)) (fun c => absurd c (by decide)) (fun _ => ?_)
              subst e239
              refine p_ltv (Q9 := BQb y1 (L25 fc2 C2 W2 U2)) (fun v ev => ?_)
              have ho := pu_orb G hG j (by omega)
              rw [ev, ho.1]
              have hlt := pu_bits2 G hG j (by omega) hjG
              refine ih fc2 (G ||| 2 ^ j) un2 C2 W2 U2 hB2 (fun i hi => ?_) ho.2 (by omega) hfc2
              rw [pu_tor]
              by_cases c : i = j
              · rw [c, huj, decide_eq_true rfl, Bool.or_true]; rfl
              · rw [hui i hi c, decide_eq_false (fun q => c q.symm), Bool.or_false]
            | succ dq ihq =>
              intro k hk C2 un2 W2 U2 fc2 hB2 huj hui hfc2
              have hU2 : U2 < 160 := BST_lt hB2 (j := j) (by omega) (by omega)
              have hu2 : ∀ i, i < 8 → (¬ un2 i = 20 ↔ ¬ G.testBit i = true) := by
                intro i hi
                by_cases c : i = j
                · rw [c, huj, hjG]; simp; omega
                · rw [hui i hi c]
                  by_cases c3 : G.testBit i = true
                  · rw [if_pos c3]; simp [c3]
                  · rw [if_neg c3]; simp [c3]
              obtain ⟨fc2, rfl⟩ : ∃ q, fc2 = q + 1 := ⟨fc2 - 1, by omega⟩
              have w0 : C2 0 = C 0 := hB2.1 0 (by decide)
              have w1 : C2 1 = C 1 := hB2.1 1 (by decide)
              have ws := samep C2 un2 U2 0 0 hB2 hu2
              rw [e] at ws
              have ws' : sX0_worthiestWithRoom C2 = nI j := ws
              have hhas : sX0_has C2 (nI j) = 1 := pu_has1 (by rw [hB2.1 9 (by decide), h9]) hn hj
              have eL : L25 (fc2 + 1) C2 W2 U2 = if pu_ch (C 0 0) (nI U2) 1 < C 1 j then L25 fc2 (up C2 2 j (C2 2 j + 1)) (W2 + C 1 j) (U2 + 1) else K60 C2 W2 (nI U2) := by
                rw [h25, b25]
                refine p_ite (Q9 := PEQ (if pu_ch (C 0 0) (nI U2) 1 < C 1 j then L25 fc2 (up C2 2 j (C2 2 j + 1)) (W2 + C 1 j) (U2 + 1) else K60 C2 W2 (nI U2))) (fun c => absurd c (nI_ge (b := 160) hU2 (by decide))) (fun _ => p_ltv (fun r33 er33 => p_ltv (fun r39 er39 => ?_)))
                rw [ws'] at er33
                subst er33
                rw [hhas] at er39
                refine p_ite (fun c => absurd (er39.symm.trans c) (by decide)) (fun _ => p_ltv (fun r54 er54 => ?_))
                rw [pu_added (by rw [w0]; exact e1d), w0] at er54
                rw [er54, nI_clamp (by omega), w1]
                by_cases c : pu_ch (C 0 0) (nI U2) 1 < C 1 j
                · rw [if_pos c, if_pos c]
                  refine p_ltv (Q9 := PEQ (L25 fc2 (up C2 2 j (C2 2 j + 1)) (W2 + C 1 j) (U2 + 1))) (fun S eS => p_ltv (fun v ev => ?_))
                  rw [ev, eS, pu_un _ _ _ (by decide), w1]; exact rfl
                · rw [if_neg c, if_neg c]; exact rfl
              rw [eL, show dq + 1 + 2 = (dq + 2) + 1 by omega, h131, b131]
              generalize hT : (if pu_ch (C 0 0) (nI U2) 1 < C 1 j then L25 fc2 (up C2 2 j (C2 2 j + 1)) (W2 + C 1 j) (U2 + 1) else K60 C2 W2 (nI U2)) = TT9
              refine p_ltv (Q9 := BQb y1 TT9) (fun K219 e219 => p_ltv (fun K204 e204 => p_ltv (fun K184 e184 => p_ltv (fun K171 e171 => p_ltv (fun K143 e143 => p_ite (fun c => absurd c (by decide)) (fun _ => p_ite (fun c => absurd c (nI_ge (b := 20) (by omega) (by decide))) (fun _ => ?_)))))))
              have qw : sX5_of M j 0 = C 1 j := (hrr j hj).1
              rw [nI_clamp (by omega)]
              subst e143
              refine p_ltv (Q9 := BQb y1 TT9) (fun a1 ea1 => p_ltv (fun a2 ea2 => p_ltv (fun a3 ea3 => ?_)))
              rw [qw] at ea1
              have ech : a2 - a3 = pu_ch (C 0 0) (nI U2) 1 := by rw [ea2, ea3, pu_damageR, pu_damageR, m00]; rfl
              rw [ech, ea1]
              refine p_ite (fun c => ?_) (fun c => ?_)
              · rw [if_neg (Int32.not_lt.mpr c)] at hT
                subst e171
                refine p_ite (Q9 := BQb y1 TT9) (fun _ => ?_) (fun c => absurd rfl c)
                subst e184
                refine p_ltv (Q9 := BQb y1 TT9) (fun v1 ev1 => p_ite (fun _ => ?_) (fun c => absurd rfl c))
                subst e204
                refine p_ltv (Q9 := BQb y1 TT9) (fun v2 ev2 => p_ite (fun _ => ?_) (fun c => absurd rfl c))
                subst e219
                refine p_ltv (Q9 := BQb y1 TT9) (fun v3 ev3 => ?_)
                rw [Int32.add_zero] at ev1 ev2
                rw [h131, b131]
                refine p_ltv (Q9 := BQb y1 TT9) (fun _ _ => p_ltv (fun _ _ => p_ltv (fun _ _ => p_ltv (fun _ _ => p_ltv (fun _ _ => p_ite (fun _ => ?_) (fun c => absurd rfl c))))))
                subst e225
                refine p_ite (Q9 := BQb y1 TT9) (fun _ => ?_) (fun c => absurd rfl c)
                subst e239
                refine p_ltv (Q9 := BQb y1 TT9) (fun v _ => ?_)
                rw [ev1, ev2, stop, ← hT]
                exact out60 C2 un2 U2 W2 hB2
              · rw [if_pos (Int32.not_le.mp c)] at hT
                subst e171
                refine p_ite (Q9 := BQb y1 TT9) (fun c => absurd c (by decide)) (fun _ => ?_)
                subst e184
                refine p_ltv (Q9 := BQb y1 TT9) (fun v1 ev1 => p_ite (fun c => absurd c (by decide)) (fun _ => p_ltv (fun rw1 erw1 => ?_)))
                subst e204
                refine p_ltv (Q9 := BQb y1 TT9) (fun v2 ev2 => p_ite (fun c => absurd c (by decide)) (fun _ => ?_))
                subst e219
                refine p_ltv (Q9 := BQb y1 TT9) (fun v3 ev3 => ?_)
                rw [nI_1] at ev1 ev3
                rw [erw1, qw] at ev2
                rw [ev1, ev2, ev3, ← hT]
                refine ihq (k + 1) (by omega) _ _ _ _ _ (BST_up hB2 (by omega) (by omega)) (by simp only [if_pos]; rw [huj]) (fun i hi hne => by simp only [if_neg hne]; exact hui i hi hne) (by omega)
          refine Bq 20 0 rfl C' un y4 U (fc + 1) hB (by rw [hun j (by omega), hjG]; rfl) (fun i hi _ => hun i hi) hfc
  exact A 258 161 0 (fun _ => 0) C1 0 0 hC1 (fun i hi => by rw [Nat.zero_testBit]; rfl) (by decide) (by decide) (by decide)
