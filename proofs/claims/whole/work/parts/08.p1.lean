theorem pw1 {α a : Type} {body : (a → α) → a → α} {dft : a → α} {P : α → Prop} (Inv : Nat → a → Prop) (N : Nat) (hs : ∀ (R : a → α) (k : Nat) x0, k < N → Inv k x0 → (∀ x0', Inv (k + 1) x0' → P (R x0')) → P (body R x0)) (he : ∀ (R : a → α) x0, Inv N x0 → P (body R x0)) : ∀ (fuel k : Nat) x0, N < k + fuel → k ≤ N → Inv k x0 → P (zp1 body dft fuel x0) := by
  intro fuel
  induction fuel with
  | zero => intro k x0 h1 h2; exact absurd h1 (by omega)
  | succ n ih =>
    intro k x0 h1 h2 h3
    by_cases h4 : k = N
    · subst h4; exact he _ _ h3
    · exact hs _ k _ (by omega) h3 (fun x0' h5 => ih (k + 1) x0' (by omega) (by omega) h5)
theorem pw2 {α a b : Type} {body : (a → b → α) → a → b → α} {dft : a → b → α} {P : α → Prop} (Inv : Nat → a → b → Prop) (N : Nat) (hs : ∀ (R : a → b → α) (k : Nat) x0 x1, k < N → Inv k x0 x1 → (∀ x0' x1', Inv (k + 1) x0' x1' → P (R x0' x1')) → P (body R x0 x1)) (he : ∀ (R : a → b → α) x0 x1, Inv N x0 x1 → P (body R x0 x1)) : ∀ (fuel k : Nat) x0 x1, N < k + fuel → k ≤ N → Inv k x0 x1 → P (zp2 body dft fuel x0 x1) := by
  intro fuel
  induction fuel with
  | zero => intro k x0 x1 h1 h2; exact absurd h1 (by omega)
  | succ n ih =>
    intro k x0 x1 h1 h2 h3
    by_cases h4 : k = N
    · subst h4; exact he _ _ _ h3
    · exact hs _ k _ _ (by omega) h3 (fun x0' x1' h5 => ih (k + 1) x0' x1' (by omega) (by omega) h5)
theorem pw3 {α a b c : Type} {body : (a → b → c → α) → a → b → c → α} {dft : a → b → c → α} {P : α → Prop} (Inv : Nat → a → b → c → Prop) (N : Nat) (hs : ∀ (R : a → b → c → α) (k : Nat) x0 x1 x2, k < N → Inv k x0 x1 x2 → (∀ x0' x1' x2', Inv (k + 1) x0' x1' x2' → P (R x0' x1' x2')) → P (body R x0 x1 x2)) (he : ∀ (R : a → b → c → α) x0 x1 x2, Inv N x0 x1 x2 → P (body R x0 x1 x2)) : ∀ (fuel k : Nat) x0 x1 x2, N < k + fuel → k ≤ N → Inv k x0 x1 x2 → P (zp3 body dft fuel x0 x1 x2) := by
  intro fuel
  induction fuel with
  | zero => intro k x0 x1 x2 h1 h2; exact absurd h1 (by omega)
  | succ n ih =>
    intro k x0 x1 x2 h1 h2 h3
    by_cases h4 : k = N
    · subst h4; exact he _ _ _ _ h3
    · exact hs _ k _ _ _ (by omega) h3 (fun x0' x1' x2' h5 => ih (k + 1) x0' x1' x2' (by omega) (by omega) h5)
theorem pw4 {α a b c d : Type} {body : (a → b → c → d → α) → a → b → c → d → α} {dft : a → b → c → d → α} {P : α → Prop} (Inv : Nat → a → b → c → d → Prop) (N : Nat) (hs : ∀ (R : a → b → c → d → α) (k : Nat) x0 x1 x2 x3, k < N → Inv k x0 x1 x2 x3 → (∀ x0' x1' x2' x3', Inv (k + 1) x0' x1' x2' x3' → P (R x0' x1' x2' x3')) → P (body R x0 x1 x2 x3)) (he : ∀ (R : a → b → c → d → α) x0 x1 x2 x3, Inv N x0 x1 x2 x3 → P (body R x0 x1 x2 x3)) : ∀ (fuel k : Nat) x0 x1 x2 x3, N < k + fuel → k ≤ N → Inv k x0 x1 x2 x3 → P (zp4 body dft fuel x0 x1 x2 x3) := by
  intro fuel
  induction fuel with
  | zero => intro k x0 x1 x2 x3 h1 h2; exact absurd h1 (by omega)
  | succ n ih =>
    intro k x0 x1 x2 x3 h1 h2 h3
    by_cases h4 : k = N
    · subst h4; exact he _ _ _ _ _ h3
    · exact hs _ k _ _ _ _ (by omega) h3 (fun x0' x1' x2' x3' h5 => ih (k + 1) x0' x1' x2' x3' (by omega) (by omega) h5)
theorem pw5 {α a b c d e : Type} {body : (a → b → c → d → e → α) → a → b → c → d → e → α} {dft : a → b → c → d → e → α} {P : α → Prop} (Inv : Nat → a → b → c → d → e → Prop) (N : Nat) (hs : ∀ (R : a → b → c → d → e → α) (k : Nat) x0 x1 x2 x3 x4, k < N → Inv k x0 x1 x2 x3 x4 → (∀ x0' x1' x2' x3' x4', Inv (k + 1) x0' x1' x2' x3' x4' → P (R x0' x1' x2' x3' x4')) → P (body R x0 x1 x2 x3 x4)) (he : ∀ (R : a → b → c → d → e → α) x0 x1 x2 x3 x4, Inv N x0 x1 x2 x3 x4 → P (body R x0 x1 x2 x3 x4)) : ∀ (fuel k : Nat) x0 x1 x2 x3 x4, N < k + fuel → k ≤ N → Inv k x0 x1 x2 x3 x4 → P (zp5 body dft fuel x0 x1 x2 x3 x4) := by
  intro fuel
  induction fuel with
  | zero => intro k x0 x1 x2 x3 x4 h1 h2; exact absurd h1 (by omega)
  | succ n ih =>
    intro k x0 x1 x2 x3 x4 h1 h2 h3
    by_cases h4 : k = N
    · subst h4; exact he _ _ _ _ _ _ h3
    · exact hs _ k _ _ _ _ _ (by omega) h3 (fun x0' x1' x2' x3' x4' h5 => ih (k + 1) x0' x1' x2' x3' x4' (by omega) (by omega) h5)
theorem pw6 {α a b c d e f : Type} {body : (a → b → c → d → e → f → α) → a → b → c → d → e → f → α} {dft : a → b → c → d → e → f → α} {P : α → Prop} (Inv : Nat → a → b → c → d → e → f → Prop) (N : Nat) (hs : ∀ (R : a → b → c → d → e → f → α) (k : Nat) x0 x1 x2 x3 x4 x5, k < N → Inv k x0 x1 x2 x3 x4 x5 → (∀ x0' x1' x2' x3' x4' x5', Inv (k + 1) x0' x1' x2' x3' x4' x5' → P (R x0' x1' x2' x3' x4' x5')) → P (body R x0 x1 x2 x3 x4 x5)) (he : ∀ (R : a → b → c → d → e → f → α) x0 x1 x2 x3 x4 x5, Inv N x0 x1 x2 x3 x4 x5 → P (body R x0 x1 x2 x3 x4 x5)) : ∀ (fuel k : Nat) x0 x1 x2 x3 x4 x5, N < k + fuel → k ≤ N → Inv k x0 x1 x2 x3 x4 x5 → P (zp6 body dft fuel x0 x1 x2 x3 x4 x5) := by
  intro fuel
  induction fuel with
  | zero => intro k x0 x1 x2 x3 x4 x5 h1 h2; exact absurd h1 (by omega)
  | succ n ih =>
    intro k x0 x1 x2 x3 x4 x5 h1 h2 h3
    by_cases h4 : k = N
    · subst h4; exact he _ _ _ _ _ _ _ h3
    · exact hs _ k _ _ _ _ _ _ (by omega) h3 (fun x0' x1' x2' x3' x4' x5' h5 => ih (k + 1) x0' x1' x2' x3' x4' x5' (by omega) (by omega) h5)
theorem pw7 {α a b c d e f g : Type} {body : (a → b → c → d → e → f → g → α) → a → b → c → d → e → f → g → α} {dft : a → b → c → d → e → f → g → α} {P : α → Prop} (Inv : Nat → a → b → c → d → e → f → g → Prop) (N : Nat) (hs : ∀ (R : a → b → c → d → e → f → g → α) (k : Nat) x0 x1 x2 x3 x4 x5 x6, k < N → Inv k x0 x1 x2 x3 x4 x5 x6 → (∀ x0' x1' x2' x3' x4' x5' x6', Inv (k + 1) x0' x1' x2' x3' x4' x5' x6' → P (R x0' x1' x2' x3' x4' x5' x6')) → P (body R x0 x1 x2 x3 x4 x5 x6)) (he : ∀ (R : a → b → c → d → e → f → g → α) x0 x1 x2 x3 x4 x5 x6, Inv N x0 x1 x2 x3 x4 x5 x6 → P (body R x0 x1 x2 x3 x4 x5 x6)) : ∀ (fuel k : Nat) x0 x1 x2 x3 x4 x5 x6, N < k + fuel → k ≤ N → Inv k x0 x1 x2 x3 x4 x5 x6 → P (zp7 body dft fuel x0 x1 x2 x3 x4 x5 x6) := by
  intro fuel
  induction fuel with
  | zero => intro k x0 x1 x2 x3 x4 x5 x6 h1 h2; exact absurd h1 (by omega)
  | succ n ih =>
    intro k x0 x1 x2 x3 x4 x5 x6 h1 h2 h3
    by_cases h4 : k = N
    · subst h4; exact he _ _ _ _ _ _ _ _ h3
    · exact hs _ k _ _ _ _ _ _ _ (by omega) h3 (fun x0' x1' x2' x3' x4' x5' x6' h5 => ih (k + 1) x0' x1' x2' x3' x4' x5' x6' (by omega) (by omega) h5)
theorem pu_8n {i : Nat} (h : i < 8) : ¬ (8 : Int32) ≤ nI i := nI_ge h (by decide)
theorem pu_8y : (8 : Int32) ≤ nI 8 := by decide
def pu_sm (f : Nat → Int32) : Nat → Int32
  | 0 => 0
  | k + 1 => pu_sm f k + f k
theorem pu_sm_congr {f g : Nat → Int32} : ∀ {n : Nat}, (∀ i, i < n → f i = g i) → pu_sm f n = pu_sm g n
  | 0, _ => rfl
  | n + 1, h => by
    show pu_sm f n + f n = pu_sm g n + g n
    rw [pu_sm_congr (fun i hi => h i (by omega)), h n (by omega)]
theorem pu_sm_zero {f : Nat → Int32} {n : Nat} : ∀ {m : Nat}, n ≤ m → (∀ i, n ≤ i → i < m → f i = 0) → pu_sm f m = pu_sm f n
  | 0, h, _ => by rw [show n = 0 by omega]
  | m + 1, h, h0 => by
    by_cases e : n = m + 1
    · rw [e]
    · show pu_sm f m + f m = _
      rw [pu_sm_zero (m := m) (by omega) (fun i h1 h2 => h0 i h1 (by omega)), h0 m (by omega) (by omega), Int32.add_zero]
theorem pu_sm_ins {f : Nat → Int32} {q : Nat → Prop} [dq : DecidablePred q] {j : Nat} (hq : ¬ q j) : ∀ {n : Nat}, pu_sm (fun k => if q k ∨ k = j then f k else 0) n = (if j < n then pu_sm (fun k => if q k then f k else 0) n + f j else pu_sm (fun k => if q k then f k else 0) n)
  | 0 => by rfl
  | n + 1 => by
    show pu_sm _ n + (if q n ∨ n = j then f n else 0) = _
    rw [pu_sm_ins hq (n := n)]
    show _ = (if j < n + 1 then (pu_sm (fun k => if q k then f k else 0) n + (if q n then f n else 0)) + f j else (pu_sm (fun k => if q k then f k else 0) n + (if q n then f n else 0)))
    by_cases e : n = j
    · subst e
      rw [if_neg (Nat.lt_irrefl n), if_pos (Or.inr rfl), if_pos (Nat.lt_succ_self n), if_neg hq, Int32.add_zero]
    · by_cases h : q n
      · rw [if_pos (Or.inl h), if_pos h]
        by_cases h2 : j < n
        · rw [if_pos h2, if_pos (by omega)]; ac_rfl
        · rw [if_neg h2, if_neg (by omega)]
      · rw [if_neg (show ¬ (q n ∨ n = j) from fun hh => hh.elim h e), if_neg h, Int32.add_zero, Int32.add_zero]
        by_cases h2 : j < n
        · rw [if_pos h2, if_pos (by omega)]
        · rw [if_neg h2, if_neg (by omega)]
theorem pu_bits : ∀ m, m < 256 → ∀ i, i < 8 → ((nI m >>> (nI i &&& 31)) &&& 1) = (if m.testBit i then 1 else 0) := by decide +kernel
theorem pu_orb : ∀ m, m < 256 → ∀ i, i < 8 → (nI m ||| (1 <<< (nI i &&& 31))) = nI (m ||| 2 ^ i) ∧ m ||| 2 ^ i < 256 := by decide +kernel
theorem pu_orm : ∀ m, m < 256 → ∀ i, i < 256 → (nI m ||| nI i) = nI (m ||| i) ∧ m ||| i < 256 := by decide +kernel
theorem pu_acc : ∀ m, m < 256 → ∀ k, k < 8 → (nI (m % 2 ^ k) ||| ((if m.testBit k then (1 : Int32) else 0) <<< (nI k &&& 31))) = nI (m % 2 ^ (k + 1)) := by decide +kernel
