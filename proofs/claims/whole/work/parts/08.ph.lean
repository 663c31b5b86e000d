theorem pu_endR {P : Int32 × Cst → Prop} {M : Cst} {n t h m u D gr l h2 X : Nat} (h5 : M 0 5 = nI n) (h6 : M 0 6 = nI t) (h7 : M 0 7 = nI h) (h0 : 0 < n) (hn : n ≤ 8) (ht : t ≤ 1000) (hh : h ≤ 100) (hm : m < 2 ^ n) (hb : ∀ i, i < n → M 0 (13 + 8 * i + 6) = (if m.testBit i then 1 else 0)) (hu : pu_sm (fun i => M 0 (13 + 8 * i + 1)) n = nI u) (hD : pu_dm (M 0 0) (nI u) = nI D) (hD4 : D ≤ 40000) (hgr : M 0 2 = nI gr) (hgr5 : gr ≤ 50) (hl : M 0 1 = nI l) (hl1 : l ≤ 100) (eh2 : h2 = min 100 (h - D + gr)) (eX : X = pu_ex (fun i => M 0 (13 + 8 * i + 5) + M 0 (13 + 8 * i + 1)) m n (pu_tn l h2 n))
    (k : ∀ M' : Cst, (∀ j, j ≠ 0 → j ≠ 7 → M' j = M j) → (∀ j, j < 13 → j ≠ 6 → j ≠ 7 → j ≠ 9 → j ≠ 10 → j ≠ 12 → M' 0 j = M 0 j) → M' 0 6 = nI (t + 1) → M' 0 7 = nI h2 → M' 0 9 = M 0 9 + nI D → M' 0 10 = M 0 10 + nI (D - h) → M' 0 12 = (if M 0 12 = 6 then 6 else M 0 12 + 1) → (∀ i, i < n → M' 0 (13 + 8 * i + 0) = M 0 (13 + 8 * i + 0) ∧ M' 0 (13 + 8 * i + 1) = 0 ∧ M' 0 (13 + 8 * i + 2) = M 0 (13 + 8 * i + 2) + pu_cg (M 0 0) (fun k => M 0 (13 + 8 * k + 1)) n t i ∧ M' 0 (13 + 8 * i + 3) = M 0 (13 + 8 * i + 3) ∧ M' 0 (13 + 8 * i + 4) = M 0 (13 + 8 * i + 4) + M 0 (13 + 8 * i + 1) ∧ M' 0 (13 + 8 * i + 5) = (if X.testBit i then 0 else M 0 (13 + 8 * i + 5) + M 0 (13 + 8 * i + 1)) ∧ M' 0 (13 + 8 * i + 6) = (if (X.testBit i || decide (M 0 3 < M 0 (13 + 8 * i + 2) + pu_cg (M 0 0) (fun k => M 0 (13 + 8 * k + 1)) n t i)) = true then 1 else 0) ∧ M' 0 (13 + 8 * i + 7) = M 0 (13 + 8 * i + 7) + (if (X.testBit i || decide (M 0 3 < M 0 (13 + 8 * i + 2) + pu_cg (M 0 0) (fun k => M 0 (13 + 8 * k + 1)) n t i)) = true then 1 else 0)) → M' 0 77 = nI t → M' 0 78 = nI u → M' 0 79 = nI D → M' 0 80 = nI h2 → M' 0 81 = nI m → (∀ i, 82 ≤ i → i < 107 → M' 0 i = M 0 (i - 5)) → P (nI D, M')) : P (sX5_ends M) := by
  unfold sX5_ends
  refine p_ltv (Q9 := P) (fun K271 e271 => p_ltv (fun K226 e226 => p_ltv (fun K194 e194 => p_ltv (fun K151 e151 => p_lz5 (fun B60 L60 b60 h60 => p_ltv (fun K57 e57 => p_lz5 (fun B20 L20 b20 h20 => p_ltv (fun x1 ex1 => p_ltv (fun x2 ex2 => p_ltv (fun x3 ex3 => ?_))))))))))
  rw [pu_sum5r hn h5, hu] at ex1
  rw [ex1] at ex2
  have ex2' : x2 = nI D := ex2.trans hD
  rw [pu_outSet hn h5 hm hb] at ex3
  rw [ex1, ex2', ex3]
  clear ex1 ex2 ex2' ex3
  have fin : ∀ Y : Cst, (∀ j, j ≠ 0 → j ≠ 7 → Y j = M j) → (∀ i, i < n → Y 0 (13 + 8 * i + 1) = 0 ∧ Y 0 (13 + 8 * i + 2) = M 0 (13 + 8 * i + 2) + pu_cg (M 0 0) (fun k => M 0 (13 + 8 * k + 1)) n t i ∧ Y 0 (13 + 8 * i + 4) = M 0 (13 + 8 * i + 4) + M 0 (13 + 8 * i + 1) ∧ Y 0 (13 + 8 * i + 5) = M 0 (13 + 8 * i + 5) + M 0 (13 + 8 * i + 1)) → (∀ j, (∀ i, i < n → j ≠ 13 + 8 * i + 1 ∧ j ≠ 13 + 8 * i + 2 ∧ j ≠ 13 + 8 * i + 4 ∧ j ≠ 13 + 8 * i + 5) → Y 0 j = M 0 j) → P (K151 Y (nI u) (nI D) (nI m)) := by
    intro Y y1 y2 y3
    subst e151
    refine p_ltv (fun S1 e1 => ?_)
    have s17 : S1 0 7 = nI h := by rw [e1, pu_up, if_pos rfl, if_neg (by decide), y3 7 (fun i _ => by omega), h7]
    have k271 : ∀ S4 : Cst, (∀ j, j ≠ 0 → S4 j = Y j) → (∀ j, j ≠ 7 → S4 0 j = if j = 10 then M 0 10 + nI (D - h) else if j = 9 then M 0 9 + nI D else Y 0 j) → ∀ v, v = nI h2 → P (K271 S4 (nI u) (nI D) (nI m) v) := by
      intro S4 q1 q2 v hv
      subst e271
      refine p_ltv (fun S5 e5 => p_ltv (fun S6 e6 => p_ltv (fun S7 e7 => p_ltv (fun S8 e8 => ?_))))
      have s5 : ∀ j, S5 0 j = if j = 7 then nI h2 else if j = 10 then M 0 10 + nI (D - h) else if j = 9 then M 0 9 + nI D else Y 0 j := by
        intro j
        rw [e5, pu_up, if_pos rfl, hv]
        by_cases c : j = 7
        · rw [if_pos c, if_pos c]
        · rw [if_neg c, if_neg c, q2 j c]
      have s5k : ∀ j, j ≠ 0 → S5 j = Y j := fun j hj => by rw [e5, pu_un _ _ _ hj, q1 j hj]
      have s56 : S5 0 6 = nI t := by rw [s5, if_neg (by decide), if_neg (by decide), if_neg (by decide), y3 6 (fun i _ => by omega), h6]
      rw [s56] at e6
      have f6 := pu_keeps (M := S5) (x1 := nI t) (x2 := nI u) (x3 := nI D) (x4 := nI m) (P := fun Z => (∀ j, j ≠ 0 → Z j = S5 j) ∧ (∀ i, i < 77 → i ≠ 12 → Z 0 i = S5 0 i) ∧ Z 0 12 = (if S5 0 12 = 6 then 6 else S5 0 12 + 1) ∧ Z 0 77 = nI t ∧ Z 0 78 = nI u ∧ Z 0 79 = nI D ∧ Z 0 80 = S5 0 7 ∧ Z 0 81 = nI m ∧ ∀ i, 82 ≤ i → i < 107 → Z 0 i = S5 0 (i - 5)) (fun Z a b c d e f g i j => ⟨a, b, c, d, e, f, g, i, j⟩)
      rw [← e6] at f6
      obtain ⟨a6, b6, c6, k77, k78, k79, k80, k81, k82⟩ := f6
      have s512 : S5 0 12 = M 0 12 := by rw [s5, if_neg (by decide), if_neg (by decide), if_neg (by decide), y3 12 (fun i _ => by omega)]
      rw [s512] at c6
      rw [s5, if_pos rfl] at k80
      have s6 : ∀ i, i < 77 → i ≠ 12 → i ≠ 7 → i ≠ 9 → i ≠ 10 → S6 0 i = Y 0 i := fun i z1 z2 z3 z4 z5 => by rw [b6 i z1 z2, s5, if_neg z3, if_neg z5, if_neg z4]
      have s67 : S6 0 7 = nI h2 := by rw [b6 7 (by decide) (by decide), s5, if_pos rfl]
      have s69 : S6 0 9 = M 0 9 + nI D := by rw [b6 9 (by decide) (by decide), s5]; rfl
      have s610 : S6 0 10 = M 0 10 + nI (D - h) := by rw [b6 10 (by decide) (by decide), s5]; rfl
      have s6r : ∀ i w, i < n → w < 8 → S6 0 (13 + 8 * i + w) = Y 0 (13 + 8 * i + w) := fun i w z1 z2 => s6 _ (by omega) (by omega) (by omega) (by omega) (by omega)
      have s7 : ∀ j, S7 0 j = if j = 6 then nI (t + 1) else S6 0 j := by
        intro j
        rw [e7, pu_up, if_pos rfl, b6 6 (by decide) (by decide), s56, nI_1]
      have s7k : ∀ j, j ≠ 0 → S7 j = Y j := fun j hj => by rw [e7, pu_un _ _ _ hj, a6 j hj, s5k j hj]
      clear e5 e6 e7
      have s7r : ∀ i w, i < n → w < 8 → S7 0 (13 + 8 * i + w) = Y 0 (13 + 8 * i + w) := fun i w z1 z2 => by rw [s7, if_neg (by omega), s6r i w z1 z2]
      have s7s : ∀ j, j < 13 → j ≠ 6 → j ≠ 7 → j ≠ 9 → j ≠ 10 → j ≠ 12 → S7 0 j = M 0 j := fun j z0 z6 z7 z9 z10 z12 => by rw [s7, if_neg z6, s6 j (by omega) z12 z7 z9 z10, y3 j (fun i _ => by omega)]
      have f8 := pu_excl (M := S7) (n := n) (l := l) (h := h2) (B := m) (X := X) (P := fun Z => (∀ j, j ≠ 0 → Z j = S7 j) ∧ (∀ i, i < n → Z 0 (13 + 8 * i + 5) = (if X.testBit i then 0 else S7 0 (13 + 8 * i + 5)) ∧ Z 0 (13 + 8 * i + 6) = (if (X.testBit i || decide (S7 0 3 < S7 0 (13 + 8 * i + 2))) = true then 1 else 0) ∧ Z 0 (13 + 8 * i + 7) = S7 0 (13 + 8 * i + 7) + (if (X.testBit i || decide (S7 0 3 < S7 0 (13 + 8 * i + 2))) = true then 1 else 0)) ∧ (∀ j, (∀ i, i < n → j ≠ 13 + 8 * i + 5 ∧ j ≠ 13 + 8 * i + 6 ∧ j ≠ 13 + 8 * i + 7) → Z 0 j = S7 0 j)) (by rw [s7s 5 (by decide) (by decide) (by decide) (by decide) (by decide) (by decide), h5]) (by rw [s7s 1 (by decide) (by decide) (by decide) (by decide) (by decide) (by decide), hl]) (by rw [s7, if_neg (by decide), s67]) h0 hn hl1 (by omega) (pu_m8 hn hm) (by rw [eX]; exact pu_ex_congr (fun i hi => by rw [s7r i 5 hi (by decide), (y2 i hi).2.2.2]) _) (fun Z a b c => ⟨a, b, c⟩)
      rw [← e8] at f8
      obtain ⟨a8, b8, c8⟩ := f8
      clear e8
      have c8s : ∀ j, j < 13 ∨ 77 ≤ j → S8 0 j = S7 0 j := fun j hj => c8 j (fun i _ => by omega)
      refine k S8 (fun j z0 z7 => by rw [a8 j z0, s7k j z0, y1 j z0 z7]) (fun j z0 z6 z7 z9 z10 z12 => by rw [c8s j (by omega), s7s j z0 z6 z7 z9 z10 z12]) ?_ ?_ ?_ ?_ ?_ (fun i hi => ?_) ?_ ?_ ?_ ?_ ?_ (fun i z1 z2 => ?_)
      · rw [c8s 6 (by decide), s7, if_pos rfl]
      · rw [c8s 7 (by decide), s7, if_neg (by decide), s67]
      · rw [c8s 9 (by decide), s7, if_neg (by decide), s69]
      · rw [c8s 10 (by decide), s7, if_neg (by decide), s610]
      · rw [c8s 12 (by decide), s7, if_neg (by decide), c6]
      · obtain ⟨p5, p6, p7⟩ := b8 i hi
        obtain ⟨z1, z2, z4, z5⟩ := y2 i hi
        rw [s7r i 5 hi (by decide), z5] at p5
        rw [s7s 3 (by decide) (by decide) (by decide) (by decide) (by decide) (by decide), s7r i 2 hi (by decide), z2] at p6 p7
        rw [s7r i 7 hi (by decide), y3 (13 + 8 * i + 7) (fun i _ => by omega)] at p7
        refine ⟨?_, ?_, ?_, ?_, ?_, p5, p6, p7⟩
        · rw [c8 _ (fun i _ => by omega), s7r i 0 hi (by decide), y3 _ (fun i _ => by omega)]
        · rw [c8 _ (fun i _ => by omega), s7r i 1 hi (by decide), z1]
        · rw [c8 _ (fun i _ => by omega), s7r i 2 hi (by decide), z2]
        · rw [c8 _ (fun i _ => by omega), s7r i 3 hi (by decide), y3 _ (fun i _ => by omega)]
        · rw [c8 _ (fun i _ => by omega), s7r i 4 hi (by decide), z4]
      · rw [c8s 77 (by decide), s7, if_neg (by decide), k77]
      · rw [c8s 78 (by decide), s7, if_neg (by decide), k78]
      · rw [c8s 79 (by decide), s7, if_neg (by decide), k79]
      · rw [c8s 80 (by decide), s7, if_neg (by decide), k80]
      · rw [c8s 81 (by decide), s7, if_neg (by decide), k81]
      · rw [c8s i (by omega), s7, if_neg (by omega), k82 i z1 z2, s5, if_neg (by omega), if_neg (by omega), if_neg (by omega), y3 _ (fun i _ => by omega)]
    have k226 : ∀ S3 : Cst, (∀ j, j ≠ 0 → S3 j = Y j) → (∀ j, S3 0 j = if j = 10 then M 0 10 + nI (D - h) else if j = 9 then M 0 9 + nI D else Y 0 j) → ∀ v, v = nI (h - D) → P (K226 S3 (nI u) (nI D) (nI m) v) := by
      intro S3 q1 q2 v hv
      subst e226
      refine p_ltv (fun S4 e4 => ?_)
      have s47 : S4 0 7 = nI (h - D) := by rw [e4, pu_up, if_pos rfl, if_pos rfl, hv]
      have s42 : S4 0 2 = nI gr := by rw [e4, pu_up, if_pos rfl, if_neg (by decide), q2, if_neg (by decide), if_neg (by decide), y3 2 (fun i _ => by omega), hgr]
      have s4k : ∀ j, j ≠ 0 → S4 j = Y j := fun j hj => by rw [e4, pu_un _ _ _ hj, q1 j hj]
      have s4 : ∀ j, j ≠ 7 → S4 0 j = if j = 10 then M 0 10 + nI (D - h) else if j = 9 then M 0 9 + nI D else Y 0 j := fun j hj => by rw [e4, pu_up, if_pos rfl, if_neg hj, q2]
      rw [s47, s42, nI_add]
      refine p_ite (fun c => k271 S4 s4k s4 _ ?_) (fun c => k271 S4 s4k s4 _ ?_)
      · have : h - D + gr ≤ 100 := (nI_leI (b := 100) (by omega) (by decide)).mp c
        rw [eh2, show min 100 (h - D + gr) = h - D + gr by omega]
      · have : ¬ h - D + gr ≤ 100 := fun q => c (nI_le (b := 100) q (by decide))
        rw [eh2, show min 100 (h - D + gr) = 100 by omega]; rfl
    have k194 : ∀ a b, a = nI (D - h) → b = M 0 10 → P (K194 S1 (nI u) (nI D) (nI m) a b) := by
      intro a b ha hb'
      subst e194
      refine p_ltv (fun S2 e2 => ?_)
      have s2k : ∀ j, j ≠ 0 → S2 j = Y j := fun j hj => by rw [e2, pu_un _ _ _ hj, e1, pu_un _ _ _ hj]
      have s2 : ∀ j, S2 0 j = if j = 10 then M 0 10 + nI (D - h) else if j = 9 then M 0 9 + nI D else Y 0 j := fun j => by rw [e2, pu_up, if_pos rfl, ha, hb', e1, pu_up, if_pos rfl, y3 9 (fun i _ => by omega)]
      have s27 : S2 0 7 = nI h := by rw [e2, pu_up, if_pos rfl, if_neg (by decide), s17]
      rw [s27]
      refine p_ite (fun c => k226 S2 s2k s2 _ ?_) (fun c => k226 S2 s2k s2 _ ?_)
      · exact nI_sub ((nI_leI (by omega) (by omega)).mp c)
      · have : ¬ D ≤ h := fun q => c (nI_le q (by omega))
        rw [show h - D = 0 by omega]; rfl
    have s110 : S1 0 10 = M 0 10 := by rw [e1, pu_up, if_pos rfl, if_neg (by decide), y3 10 (fun i _ => by omega)]
    rw [s17]
    refine p_ite (fun c => k194 _ _ ?_ s110) (fun c => k194 _ _ ?_ s110)
    · have := (nI_leI (by omega) (by omega)).mp c
      rw [show D - h = 0 by omega]; rfl
    · exact nI_sub (by
        have : ¬ D ≤ h := fun q => c (nI_le q (by omega))
        omega)
  have mid : ∀ Z : Cst, (∀ j, j ≠ 7 → Z j = M j) → (∀ i, i < n → Z 7 i = pu_cg (M 0 0) (fun k => M 0 (13 + 8 * k + 1)) n t i) → P (K57 Z (nI u) (nI D) (nI m)) := by
    intro Z z1 z2
    subst e57
    refine pl5 h60 (fun q Y x1 x2 x3 i4 => i4 = q ∧ x1 = nI u ∧ x2 = nI D ∧ x3 = nI m ∧ (∀ j, j ≠ 0 → Y j = Z j) ∧ (∀ i, i < n → if i < q then Y 0 (13 + 8 * i + 1) = 0 ∧ Y 0 (13 + 8 * i + 2) = M 0 (13 + 8 * i + 2) + pu_cg (M 0 0) (fun k => M 0 (13 + 8 * k + 1)) n t i ∧ Y 0 (13 + 8 * i + 4) = M 0 (13 + 8 * i + 4) + M 0 (13 + 8 * i + 1) ∧ Y 0 (13 + 8 * i + 5) = M 0 (13 + 8 * i + 5) + M 0 (13 + 8 * i + 1) else Y 0 (13 + 8 * i + 1) = M 0 (13 + 8 * i + 1) ∧ Y 0 (13 + 8 * i + 2) = M 0 (13 + 8 * i + 2) ∧ Y 0 (13 + 8 * i + 4) = M 0 (13 + 8 * i + 4) ∧ Y 0 (13 + 8 * i + 5) = M 0 (13 + 8 * i + 5)) ∧ (∀ j, (∀ i, i < n → j ≠ 13 + 8 * i + 1 ∧ j ≠ 13 + 8 * i + 2 ∧ j ≠ 13 + 8 * i + 4 ∧ j ≠ 13 + 8 * i + 5) → Y 0 j = M 0 j)) n ?_ ?_ 9 0 _ _ _ _ _ (by omega) (by omega) ⟨rfl, rfl, rfl, rfl, fun _ _ => rfl, fun i hi => by rw [if_neg (by omega), z1 0 (by decide)]; exact ⟨rfl, rfl, rfl, rfl⟩, fun j _ => by rw [z1 0 (by decide)]⟩
    · rintro R q Y x1 x2 x3 i4 hk ⟨rfl, rfl, rfl, rfl, g1, g2, g3⟩ hR
      rw [b60]
      have o := g2 i4 hk
      rw [if_neg (by omega)] at o
      obtain ⟨o1, o2, o4, o5⟩ := o
      refine p_ite (fun c => absurd c (by rw [g3 5 (fun i _ => by omega), h5]; exact pu_5n hk hn)) (fun _ => p_ltv (fun v1 f1 => p_ltv (fun T1 t1 => p_ltv (fun v2 f2 => p_ltv (fun v3 f3 => p_ltv (fun T2 t2 => p_ltv (fun v4 f4 => p_ltv (fun v5 f5 => p_ltv (fun T3 t3 => p_ltv (fun T4 t4 => ?_))))))))))
      have t1' : T1 = up Y 0 (13 + 8 * i4 + 2) (M 0 (13 + 8 * i4 + 2) + pu_cg (M 0 0) (fun k => M 0 (13 + 8 * k + 1)) n t i4) := by
        rw [t1, f1, g1 7 (by decide), z2 i4 hk]; show up Y 0 (13 + 8 * i4 + 2) (Y 0 (13 + 8 * i4 + 2) + _) = _; rw [o2]
      have f2' : v2 = M 0 (13 + 8 * i4 + 4) := by rw [f2]; show T1 0 _ = _; rw [t1', pu_up, if_pos rfl, if_neg (by omega), o4]
      have f3' : v3 = M 0 (13 + 8 * i4 + 1) := by rw [f3]; show T1 0 _ = _; rw [t1', pu_up, if_pos rfl, if_neg (by omega), o1]
      have t2' : T2 = up T1 0 (13 + 8 * i4 + 4) (v2 + v3) := t2
      have f4' : v4 = M 0 (13 + 8 * i4 + 5) := by rw [f4]; show T2 0 _ = _; rw [t2', pu_up, if_pos rfl, if_neg (by omega), t1', pu_up, if_pos rfl, if_neg (by omega), o5]
      have f5' : v5 = M 0 (13 + 8 * i4 + 1) := by rw [f5]; show T2 0 _ = _; rw [t2', pu_up, if_pos rfl, if_neg (by omega), t1', pu_up, if_pos rfl, if_neg (by omega), o1]
      have t3' : T3 = up T2 0 (13 + 8 * i4 + 5) (v4 + v5) := t3
      have t4' : T4 = up T3 0 (13 + 8 * i4 + 1) 0 := t4
      have tt : ∀ j, T4 0 j = if j = 13 + 8 * i4 + 1 then 0 else if j = 13 + 8 * i4 + 5 then M 0 (13 + 8 * i4 + 5) + M 0 (13 + 8 * i4 + 1) else if j = 13 + 8 * i4 + 4 then M 0 (13 + 8 * i4 + 4) + M 0 (13 + 8 * i4 + 1) else if j = 13 + 8 * i4 + 2 then M 0 (13 + 8 * i4 + 2) + pu_cg (M 0 0) (fun k => M 0 (13 + 8 * k + 1)) n t i4 else Y 0 j := fun j => by rw [t4', pu_up, if_pos rfl, t3', pu_up, if_pos rfl, f4', f5', t2', pu_up, if_pos rfl, f2', f3', t1', pu_up, if_pos rfl]
      have tk : ∀ j, j ≠ 0 → T4 j = Z j := fun j hj => by rw [t4', pu_un _ _ _ hj, t3', pu_un _ _ _ hj, t2', pu_un _ _ _ hj, t1', pu_un _ _ _ hj, g1 j hj]
      clear t1 t2 t3 t4 t1' t2' t3' t4' f1 f2 f3 f4 f5
      refine hR _ _ _ _ _ ⟨rfl, rfl, rfl, rfl, tk, fun i hi => ?_, fun j hj => ?_⟩
      · by_cases e : i = i4
        · subst e
          rw [if_pos (by omega)]
          refine ⟨?_, ?_, ?_, ?_⟩
          · rw [tt, if_pos rfl]
          · rw [tt, if_neg (by omega), if_neg (by omega), if_neg (by omega), if_pos rfl]
          · rw [tt, if_neg (by omega), if_neg (by omega), if_pos rfl]
          · rw [tt, if_neg (by omega), if_pos rfl]
        · have u1 : T4 0 (13 + 8 * i + 1) = Y 0 (13 + 8 * i + 1) := by rw [tt, if_neg (by omega), if_neg (by omega), if_neg (by omega), if_neg (by omega)]
          have u2 : T4 0 (13 + 8 * i + 2) = Y 0 (13 + 8 * i + 2) := by rw [tt, if_neg (by omega), if_neg (by omega), if_neg (by omega), if_neg (by omega)]
          have u4 : T4 0 (13 + 8 * i + 4) = Y 0 (13 + 8 * i + 4) := by rw [tt, if_neg (by omega), if_neg (by omega), if_neg (by omega), if_neg (by omega)]
          have u5 : T4 0 (13 + 8 * i + 5) = Y 0 (13 + 8 * i + 5) := by rw [tt, if_neg (by omega), if_neg (by omega), if_neg (by omega), if_neg (by omega)]
          rw [u1, u2, u4, u5]
          have := g2 i hi
          by_cases e2 : i < i4
          · rw [if_pos e2] at this; rw [if_pos (by omega)]; exact this
          · rw [if_neg e2] at this; rw [if_neg (by omega)]; exact this
      · obtain ⟨w1, w2, w4, w5⟩ := hj i4 hk
        rw [tt, if_neg w1, if_neg w5, if_neg w4, if_neg w2]; exact g3 j hj
    · rintro R Y x1 x2 x3 i4 ⟨rfl, rfl, rfl, rfl, g1, g2, g3⟩
      rw [b60]
      refine p_ite (fun _ => fin Y (fun j q0 q7 => by rw [g1 j q0, z1 j q7]) (fun i hi => ?_) g3) (fun c => absurd (show Y 0 5 ≤ nI i4 by rw [g3 5 (fun i _ => by omega), h5]; exact nI_le (Nat.le_refl _) (by omega)) c)
      have := g2 i hi
      rw [if_pos hi] at this; exact this
  refine pl5 h20 (fun q Z x1 x2 x3 i4 => i4 = q ∧ x1 = nI u ∧ x2 = nI D ∧ x3 = nI m ∧ (∀ j, j ≠ 7 → Z j = M j) ∧ (∀ i, i < q → Z 7 i = pu_cg (M 0 0) (fun k => M 0 (13 + 8 * k + 1)) n t i)) n ?_ ?_ 9 0 _ _ _ _ _ (by omega) (by omega) ⟨rfl, rfl, rfl, rfl, fun _ _ => rfl, fun i hi => absurd hi (Nat.not_lt_zero i)⟩
  · rintro R q Z x1 x2 x3 i4 hk ⟨rfl, rfl, rfl, rfl, g1, g2⟩ hR
    rw [b20]
    have z0 := g1 0 (by decide)
    refine p_ite (fun c => absurd c (by rw [z0, h5]; exact pu_5n hk hn)) (fun _ => p_ltv (fun v f => p_ltv (fun w f2 => p_ltv (fun S eS => ?_))))
    have fv : v = M 0 (13 + 8 * i4 + 1) := by rw [f]; show Z 0 _ = _; rw [z0]
    rw [pu_chargeR (by rw [z0, h5]) (by rw [z0, h6]) hn ht hk, fv, z0] at f2
    refine hR _ _ _ _ _ ⟨rfl, rfl, rfl, rfl, fun j hj => by rw [eS, pu_un _ _ _ hj, g1 j hj], fun i hi => ?_⟩
    rw [eS, pu_up, if_pos rfl]
    by_cases e : i = i4
    · rw [if_pos e, f2, e]; rfl
    · rw [if_neg e]; exact g2 i (by omega)
  · rintro R Z x1 x2 x3 i4 ⟨rfl, rfl, rfl, rfl, g1, g2⟩
    rw [b20]
    exact p_ite (fun _ => mid Z g1 g2) (fun c => absurd (show Z 0 5 ≤ nI i4 by rw [g1 0 (by decide), h5]; exact nI_le (Nat.le_refl _) (by omega)) c)
