/-! the worlds: an object with its arrays; its state is a function of slot and place -/
def wC (cI : ClassId) (h : Nat) (ar : Nat → Nat) (C : Cst) : va_W := [(h, .inr (0, [.ref (ar 0), .ref (ar 1), .ref (ar 2), .ref (ar 3), .ref (ar 4), .ref (ar 5), .ref (ar 6), .ref (ar 7), .ref (ar 8), .int (C 9 0), .int (C 10 0), .int (C 11 0), .int (C 12 0), .int (C 13 0), .int (C 14 0), .int (C 15 0), .int (C 16 0)])), (ar 0, .inl (cI, 5, .inl (C 0))), (ar 1, .inl (cI, 8, .inl (C 1))), (ar 2, .inl (cI, 8, .inl (C 2))), (ar 3, .inl (cI, 8, .inl (C 3))), (ar 4, .inl (cI, 8, .inl (C 4))), (ar 5, .inl (cI, 8, .inl (C 5))), (ar 6, .inl (cI, 8, .inl (C 6))), (ar 7, .inl (cI, 8, .inl (C 7))), (ar 8, .inl (cI, 30, .inl (C 8)))]
def wM (cI : ClassId) (h : Nat) (ar : Nat → Nat) (C : Cst) : va_W := [(h, .inr (5, [.ref (ar 0), .ref (ar 1), .ref (ar 2), .int (C 3 0), .int (C 4 0), .ref (ar 5), .int (C 6 0), .ref (ar 7), .int (C 8 0), .int (C 9 0), .int (C 10 0), .ref (ar 11), .ref (ar 12)])), (ar 0, .inl (cI, 107, .inl (C 0))), (ar 1, .inl (cI, 428, .inl (C 1))), (ar 2, .inl (cI, 107, .inl (C 2))), (ar 5, .inl (cI, 60, .inl (C 5))), (ar 7, .inl (cI, 8, .inl (C 7))), (ar 11, .inl (cI, 2, .inl (C 11))), (ar 12, .inl (cI, 107, .inl (C 12)))]
def wT (cH : ClassId) (h : Nat) (ar : Nat → Nat) (C : Cst) : va_W := [(h, .inr (3, [.ref (ar 0), .int (C 1 0), .int (C 2 0), .int (C 3 0), .int (C 4 0), .int (C 5 0)])), (ar 0, .inl (cH, 60, .inl (C 0)))]
def wR (h : Nat) (C : Cst) : va_W := [(h, .inr (2, [.int (C 0 0), .int (C 1 0), .int (C 2 0), .int (C 3 0)]))]
section LP
def zp1 {α a : Type} (body : (a → α) → a → α) (dft : a → α) : Nat → a → α
  | 0, x0 => dft x0
  | n + 1, x0 => body (zp1 body dft n) x0
theorem zp1_z {α a : Type} (body : (a → α) → a → α) (dft : a → α) (x0 : a) : zp1 body dft 0 x0 = dft x0 := rfl
theorem zp1_s {α a : Type} (body : (a → α) → a → α) (dft : a → α) (n : Nat) (x0 : a) : zp1 body dft (n + 1) x0 = body (zp1 body dft n) x0 := rfl
theorem zp1_ind {α a : Type} {body : (a → α) → a → α} {dft : a → α} {Q9 : a → α → Prop} (h0 : ∀ x0, Q9 x0 (dft x0)) (hs : ∀ rec, (∀ x0, Q9 x0 (rec x0)) → ∀ x0, Q9 x0 (body rec x0)) : ∀ (n : Nat) (x0 : a), Q9 x0 (zp1 body dft n x0) := by
  intro n
  induction n with
  | zero => exact h0
  | succ n ih => exact hs _ ih
def ltl1 {α a : Type} (body : (a → α) → a → α) (dft : a → α) (F : (Nat → a → α) → α) : α := F (zp1 body dft)
def zp2 {α a b : Type} (body : (a → b → α) → a → b → α) (dft : a → b → α) : Nat → a → b → α
  | 0, x0, x1 => dft x0 x1
  | n + 1, x0, x1 => body (zp2 body dft n) x0 x1
theorem zp2_z {α a b : Type} (body : (a → b → α) → a → b → α) (dft : a → b → α) (x0 : a) (x1 : b) : zp2 body dft 0 x0 x1 = dft x0 x1 := rfl
theorem zp2_s {α a b : Type} (body : (a → b → α) → a → b → α) (dft : a → b → α) (n : Nat) (x0 : a) (x1 : b) : zp2 body dft (n + 1) x0 x1 = body (zp2 body dft n) x0 x1 := rfl
theorem zp2_ind {α a b : Type} {body : (a → b → α) → a → b → α} {dft : a → b → α} {Q9 : a → b → α → Prop} (h0 : ∀ x0 x1, Q9 x0 x1 (dft x0 x1)) (hs : ∀ rec, (∀ x0 x1, Q9 x0 x1 (rec x0 x1)) → ∀ x0 x1, Q9 x0 x1 (body rec x0 x1)) : ∀ (n : Nat) (x0 : a) (x1 : b), Q9 x0 x1 (zp2 body dft n x0 x1) := by
  intro n
  induction n with
  | zero => exact h0
  | succ n ih => exact hs _ ih
def ltl2 {α a b : Type} (body : (a → b → α) → a → b → α) (dft : a → b → α) (F : (Nat → a → b → α) → α) : α := F (zp2 body dft)
def zp3 {α a b c : Type} (body : (a → b → c → α) → a → b → c → α) (dft : a → b → c → α) : Nat → a → b → c → α
  | 0, x0, x1, x2 => dft x0 x1 x2
  | n + 1, x0, x1, x2 => body (zp3 body dft n) x0 x1 x2
theorem zp3_z {α a b c : Type} (body : (a → b → c → α) → a → b → c → α) (dft : a → b → c → α) (x0 : a) (x1 : b) (x2 : c) : zp3 body dft 0 x0 x1 x2 = dft x0 x1 x2 := rfl
theorem zp3_s {α a b c : Type} (body : (a → b → c → α) → a → b → c → α) (dft : a → b → c → α) (n : Nat) (x0 : a) (x1 : b) (x2 : c) : zp3 body dft (n + 1) x0 x1 x2 = body (zp3 body dft n) x0 x1 x2 := rfl
theorem zp3_ind {α a b c : Type} {body : (a → b → c → α) → a → b → c → α} {dft : a → b → c → α} {Q9 : a → b → c → α → Prop} (h0 : ∀ x0 x1 x2, Q9 x0 x1 x2 (dft x0 x1 x2)) (hs : ∀ rec, (∀ x0 x1 x2, Q9 x0 x1 x2 (rec x0 x1 x2)) → ∀ x0 x1 x2, Q9 x0 x1 x2 (body rec x0 x1 x2)) : ∀ (n : Nat) (x0 : a) (x1 : b) (x2 : c), Q9 x0 x1 x2 (zp3 body dft n x0 x1 x2) := by
  intro n
  induction n with
  | zero => exact h0
  | succ n ih => exact hs _ ih
def ltl3 {α a b c : Type} (body : (a → b → c → α) → a → b → c → α) (dft : a → b → c → α) (F : (Nat → a → b → c → α) → α) : α := F (zp3 body dft)
def zp4 {α a b c d : Type} (body : (a → b → c → d → α) → a → b → c → d → α) (dft : a → b → c → d → α) : Nat → a → b → c → d → α
  | 0, x0, x1, x2, x3 => dft x0 x1 x2 x3
  | n + 1, x0, x1, x2, x3 => body (zp4 body dft n) x0 x1 x2 x3
theorem zp4_z {α a b c d : Type} (body : (a → b → c → d → α) → a → b → c → d → α) (dft : a → b → c → d → α) (x0 : a) (x1 : b) (x2 : c) (x3 : d) : zp4 body dft 0 x0 x1 x2 x3 = dft x0 x1 x2 x3 := rfl
theorem zp4_s {α a b c d : Type} (body : (a → b → c → d → α) → a → b → c → d → α) (dft : a → b → c → d → α) (n : Nat) (x0 : a) (x1 : b) (x2 : c) (x3 : d) : zp4 body dft (n + 1) x0 x1 x2 x3 = body (zp4 body dft n) x0 x1 x2 x3 := rfl
theorem zp4_ind {α a b c d : Type} {body : (a → b → c → d → α) → a → b → c → d → α} {dft : a → b → c → d → α} {Q9 : a → b → c → d → α → Prop} (h0 : ∀ x0 x1 x2 x3, Q9 x0 x1 x2 x3 (dft x0 x1 x2 x3)) (hs : ∀ rec, (∀ x0 x1 x2 x3, Q9 x0 x1 x2 x3 (rec x0 x1 x2 x3)) → ∀ x0 x1 x2 x3, Q9 x0 x1 x2 x3 (body rec x0 x1 x2 x3)) : ∀ (n : Nat) (x0 : a) (x1 : b) (x2 : c) (x3 : d), Q9 x0 x1 x2 x3 (zp4 body dft n x0 x1 x2 x3) := by
  intro n
  induction n with
  | zero => exact h0
  | succ n ih => exact hs _ ih
def ltl4 {α a b c d : Type} (body : (a → b → c → d → α) → a → b → c → d → α) (dft : a → b → c → d → α) (F : (Nat → a → b → c → d → α) → α) : α := F (zp4 body dft)
def zp5 {α a b c d e : Type} (body : (a → b → c → d → e → α) → a → b → c → d → e → α) (dft : a → b → c → d → e → α) : Nat → a → b → c → d → e → α
  | 0, x0, x1, x2, x3, x4 => dft x0 x1 x2 x3 x4
  | n + 1, x0, x1, x2, x3, x4 => body (zp5 body dft n) x0 x1 x2 x3 x4
theorem zp5_z {α a b c d e : Type} (body : (a → b → c → d → e → α) → a → b → c → d → e → α) (dft : a → b → c → d → e → α) (x0 : a) (x1 : b) (x2 : c) (x3 : d) (x4 : e) : zp5 body dft 0 x0 x1 x2 x3 x4 = dft x0 x1 x2 x3 x4 := rfl
theorem zp5_s {α a b c d e : Type} (body : (a → b → c → d → e → α) → a → b → c → d → e → α) (dft : a → b → c → d → e → α) (n : Nat) (x0 : a) (x1 : b) (x2 : c) (x3 : d) (x4 : e) : zp5 body dft (n + 1) x0 x1 x2 x3 x4 = body (zp5 body dft n) x0 x1 x2 x3 x4 := rfl
theorem zp5_ind {α a b c d e : Type} {body : (a → b → c → d → e → α) → a → b → c → d → e → α} {dft : a → b → c → d → e → α} {Q9 : a → b → c → d → e → α → Prop} (h0 : ∀ x0 x1 x2 x3 x4, Q9 x0 x1 x2 x3 x4 (dft x0 x1 x2 x3 x4)) (hs : ∀ rec, (∀ x0 x1 x2 x3 x4, Q9 x0 x1 x2 x3 x4 (rec x0 x1 x2 x3 x4)) → ∀ x0 x1 x2 x3 x4, Q9 x0 x1 x2 x3 x4 (body rec x0 x1 x2 x3 x4)) : ∀ (n : Nat) (x0 : a) (x1 : b) (x2 : c) (x3 : d) (x4 : e), Q9 x0 x1 x2 x3 x4 (zp5 body dft n x0 x1 x2 x3 x4) := by
  intro n
  induction n with
  | zero => exact h0
  | succ n ih => exact hs _ ih
def ltl5 {α a b c d e : Type} (body : (a → b → c → d → e → α) → a → b → c → d → e → α) (dft : a → b → c → d → e → α) (F : (Nat → a → b → c → d → e → α) → α) : α := F (zp5 body dft)
def zp6 {α a b c d e f : Type} (body : (a → b → c → d → e → f → α) → a → b → c → d → e → f → α) (dft : a → b → c → d → e → f → α) : Nat → a → b → c → d → e → f → α
  | 0, x0, x1, x2, x3, x4, x5 => dft x0 x1 x2 x3 x4 x5
  | n + 1, x0, x1, x2, x3, x4, x5 => body (zp6 body dft n) x0 x1 x2 x3 x4 x5
theorem zp6_z {α a b c d e f : Type} (body : (a → b → c → d → e → f → α) → a → b → c → d → e → f → α) (dft : a → b → c → d → e → f → α) (x0 : a) (x1 : b) (x2 : c) (x3 : d) (x4 : e) (x5 : f) : zp6 body dft 0 x0 x1 x2 x3 x4 x5 = dft x0 x1 x2 x3 x4 x5 := rfl
theorem zp6_s {α a b c d e f : Type} (body : (a → b → c → d → e → f → α) → a → b → c → d → e → f → α) (dft : a → b → c → d → e → f → α) (n : Nat) (x0 : a) (x1 : b) (x2 : c) (x3 : d) (x4 : e) (x5 : f) : zp6 body dft (n + 1) x0 x1 x2 x3 x4 x5 = body (zp6 body dft n) x0 x1 x2 x3 x4 x5 := rfl
theorem zp6_ind {α a b c d e f : Type} {body : (a → b → c → d → e → f → α) → a → b → c → d → e → f → α} {dft : a → b → c → d → e → f → α} {Q9 : a → b → c → d → e → f → α → Prop} (h0 : ∀ x0 x1 x2 x3 x4 x5, Q9 x0 x1 x2 x3 x4 x5 (dft x0 x1 x2 x3 x4 x5)) (hs : ∀ rec, (∀ x0 x1 x2 x3 x4 x5, Q9 x0 x1 x2 x3 x4 x5 (rec x0 x1 x2 x3 x4 x5)) → ∀ x0 x1 x2 x3 x4 x5, Q9 x0 x1 x2 x3 x4 x5 (body rec x0 x1 x2 x3 x4 x5)) : ∀ (n : Nat) (x0 : a) (x1 : b) (x2 : c) (x3 : d) (x4 : e) (x5 : f), Q9 x0 x1 x2 x3 x4 x5 (zp6 body dft n x0 x1 x2 x3 x4 x5) := by
  intro n
  induction n with
  | zero => exact h0
  | succ n ih => exact hs _ ih
def ltl6 {α a b c d e f : Type} (body : (a → b → c → d → e → f → α) → a → b → c → d → e → f → α) (dft : a → b → c → d → e → f → α) (F : (Nat → a → b → c → d → e → f → α) → α) : α := F (zp6 body dft)
def zp7 {α a b c d e f g : Type} (body : (a → b → c → d → e → f → g → α) → a → b → c → d → e → f → g → α) (dft : a → b → c → d → e → f → g → α) : Nat → a → b → c → d → e → f → g → α
  | 0, x0, x1, x2, x3, x4, x5, x6 => dft x0 x1 x2 x3 x4 x5 x6
  | n + 1, x0, x1, x2, x3, x4, x5, x6 => body (zp7 body dft n) x0 x1 x2 x3 x4 x5 x6
theorem zp7_z {α a b c d e f g : Type} (body : (a → b → c → d → e → f → g → α) → a → b → c → d → e → f → g → α) (dft : a → b → c → d → e → f → g → α) (x0 : a) (x1 : b) (x2 : c) (x3 : d) (x4 : e) (x5 : f) (x6 : g) : zp7 body dft 0 x0 x1 x2 x3 x4 x5 x6 = dft x0 x1 x2 x3 x4 x5 x6 := rfl
theorem zp7_s {α a b c d e f g : Type} (body : (a → b → c → d → e → f → g → α) → a → b → c → d → e → f → g → α) (dft : a → b → c → d → e → f → g → α) (n : Nat) (x0 : a) (x1 : b) (x2 : c) (x3 : d) (x4 : e) (x5 : f) (x6 : g) : zp7 body dft (n + 1) x0 x1 x2 x3 x4 x5 x6 = body (zp7 body dft n) x0 x1 x2 x3 x4 x5 x6 := rfl
theorem zp7_ind {α a b c d e f g : Type} {body : (a → b → c → d → e → f → g → α) → a → b → c → d → e → f → g → α} {dft : a → b → c → d → e → f → g → α} {Q9 : a → b → c → d → e → f → g → α → Prop} (h0 : ∀ x0 x1 x2 x3 x4 x5 x6, Q9 x0 x1 x2 x3 x4 x5 x6 (dft x0 x1 x2 x3 x4 x5 x6)) (hs : ∀ rec, (∀ x0 x1 x2 x3 x4 x5 x6, Q9 x0 x1 x2 x3 x4 x5 x6 (rec x0 x1 x2 x3 x4 x5 x6)) → ∀ x0 x1 x2 x3 x4 x5 x6, Q9 x0 x1 x2 x3 x4 x5 x6 (body rec x0 x1 x2 x3 x4 x5 x6)) : ∀ (n : Nat) (x0 : a) (x1 : b) (x2 : c) (x3 : d) (x4 : e) (x5 : f) (x6 : g), Q9 x0 x1 x2 x3 x4 x5 x6 (zp7 body dft n x0 x1 x2 x3 x4 x5 x6) := by
  intro n
  induction n with
  | zero => exact h0
  | succ n ih => exact hs _ ih
def ltl7 {α a b c d e f g : Type} (body : (a → b → c → d → e → f → g → α) → a → b → c → d → e → f → g → α) (dft : a → b → c → d → e → f → g → α) (F : (Nat → a → b → c → d → e → f → g → α) → α) : α := F (zp7 body dft)
end LP
section J2
variable {α σ : Type} {p : Program} {l : Launch} {e : Env} {R : Room} {s : State} {m : MethodId} {args : Array Value} {below : List Frame} {meth : Method} {c : Code} {nL : Nat} {D : va_G} {A : Nat → Prop} {kc ks : Nat} {Kf : α → State → Prop} {sp : α} {ws : va_W} {pc pc' : Nat} {lv lv' : List (Nat × Value)} {rest st : List Value}
variable {cc : ByteArray} {own : String} {ret : Option FieldType} {cI cH cO : ClassId}
theorem j_ltv {β : Type} {v : β} {f : β → α} (k : ∀ y, y = v → J p l e R s m args below meth c nL D A kc ks Kf (f y) ws pc lv rest) : J p l e R s m args below meth c nL D A kc ks Kf (ltv v f) ws pc lv rest := k v rfl
theorem j_ltl1 {t0 : Type} {body : (t0 → α) → t0 → α} {dft : t0 → α} {F : (Nat → t0 → α) → α} (k : ∀ L : Nat → t0 → α, (∀ (n : Nat) (x0 : t0), L (n + 1) x0 = body (L n) x0) → J p l e R s m args below meth c nL D A kc ks Kf (F L) ws pc lv rest) : J p l e R s m args below meth c nL D A kc ks Kf (ltl1 body dft F) ws pc lv rest := k (zp1 body dft) (fun _ _ => rfl)
theorem j_ltl2 {t0 t1 : Type} {body : (t0 → t1 → α) → t0 → t1 → α} {dft : t0 → t1 → α} {F : (Nat → t0 → t1 → α) → α} (k : ∀ L : Nat → t0 → t1 → α, (∀ (n : Nat) (x0 : t0) (x1 : t1), L (n + 1) x0 x1 = body (L n) x0 x1) → J p l e R s m args below meth c nL D A kc ks Kf (F L) ws pc lv rest) : J p l e R s m args below meth c nL D A kc ks Kf (ltl2 body dft F) ws pc lv rest := k (zp2 body dft) (fun _ _ _ => rfl)
theorem j_ltl3 {t0 t1 t2 : Type} {body : (t0 → t1 → t2 → α) → t0 → t1 → t2 → α} {dft : t0 → t1 → t2 → α} {F : (Nat → t0 → t1 → t2 → α) → α} (k : ∀ L : Nat → t0 → t1 → t2 → α, (∀ (n : Nat) (x0 : t0) (x1 : t1) (x2 : t2), L (n + 1) x0 x1 x2 = body (L n) x0 x1 x2) → J p l e R s m args below meth c nL D A kc ks Kf (F L) ws pc lv rest) : J p l e R s m args below meth c nL D A kc ks Kf (ltl3 body dft F) ws pc lv rest := k (zp3 body dft) (fun _ _ _ _ => rfl)
theorem j_ltl4 {t0 t1 t2 t3 : Type} {body : (t0 → t1 → t2 → t3 → α) → t0 → t1 → t2 → t3 → α} {dft : t0 → t1 → t2 → t3 → α} {F : (Nat → t0 → t1 → t2 → t3 → α) → α} (k : ∀ L : Nat → t0 → t1 → t2 → t3 → α, (∀ (n : Nat) (x0 : t0) (x1 : t1) (x2 : t2) (x3 : t3), L (n + 1) x0 x1 x2 x3 = body (L n) x0 x1 x2 x3) → J p l e R s m args below meth c nL D A kc ks Kf (F L) ws pc lv rest) : J p l e R s m args below meth c nL D A kc ks Kf (ltl4 body dft F) ws pc lv rest := k (zp4 body dft) (fun _ _ _ _ _ => rfl)
theorem j_ltl5 {t0 t1 t2 t3 t4 : Type} {body : (t0 → t1 → t2 → t3 → t4 → α) → t0 → t1 → t2 → t3 → t4 → α} {dft : t0 → t1 → t2 → t3 → t4 → α} {F : (Nat → t0 → t1 → t2 → t3 → t4 → α) → α} (k : ∀ L : Nat → t0 → t1 → t2 → t3 → t4 → α, (∀ (n : Nat) (x0 : t0) (x1 : t1) (x2 : t2) (x3 : t3) (x4 : t4), L (n + 1) x0 x1 x2 x3 x4 = body (L n) x0 x1 x2 x3 x4) → J p l e R s m args below meth c nL D A kc ks Kf (F L) ws pc lv rest) : J p l e R s m args below meth c nL D A kc ks Kf (ltl5 body dft F) ws pc lv rest := k (zp5 body dft) (fun _ _ _ _ _ _ => rfl)
theorem j_ltl6 {t0 t1 t2 t3 t4 t5 : Type} {body : (t0 → t1 → t2 → t3 → t4 → t5 → α) → t0 → t1 → t2 → t3 → t4 → t5 → α} {dft : t0 → t1 → t2 → t3 → t4 → t5 → α} {F : (Nat → t0 → t1 → t2 → t3 → t4 → t5 → α) → α} (k : ∀ L : Nat → t0 → t1 → t2 → t3 → t4 → t5 → α, (∀ (n : Nat) (x0 : t0) (x1 : t1) (x2 : t2) (x3 : t3) (x4 : t4) (x5 : t5), L (n + 1) x0 x1 x2 x3 x4 x5 = body (L n) x0 x1 x2 x3 x4 x5) → J p l e R s m args below meth c nL D A kc ks Kf (F L) ws pc lv rest) : J p l e R s m args below meth c nL D A kc ks Kf (ltl6 body dft F) ws pc lv rest := k (zp6 body dft) (fun _ _ _ _ _ _ _ => rfl)
theorem j_ltl7 {t0 t1 t2 t3 t4 t5 t6 : Type} {body : (t0 → t1 → t2 → t3 → t4 → t5 → t6 → α) → t0 → t1 → t2 → t3 → t4 → t5 → t6 → α} {dft : t0 → t1 → t2 → t3 → t4 → t5 → t6 → α} {F : (Nat → t0 → t1 → t2 → t3 → t4 → t5 → t6 → α) → α} (k : ∀ L : Nat → t0 → t1 → t2 → t3 → t4 → t5 → t6 → α, (∀ (n : Nat) (x0 : t0) (x1 : t1) (x2 : t2) (x3 : t3) (x4 : t4) (x5 : t5) (x6 : t6), L (n + 1) x0 x1 x2 x3 x4 x5 x6 = body (L n) x0 x1 x2 x3 x4 x5 x6) → J p l e R s m args below meth c nL D A kc ks Kf (F L) ws pc lv rest) : J p l e R s m args below meth c nL D A kc ks Kf (ltl7 body dft F) ws pc lv rest := k (zp7 body dft) (fun _ _ _ _ _ _ _ _ => rfl)
theorem j_topL {v : Int32} {f : Int32 → α} (k : ∀ y, y = v → J p l e R s m args below meth c nL D A kc ks Kf (f y) ws pc lv (.int y :: rest)) : J p l e R s m args below meth c nL D A kc ks Kf (ltv v f) ws pc lv (.int v :: rest) := k v rfl
theorem j_stL {S : σ} {f : σ → α} (wf : σ → va_W) (k : ∀ y, y = S → J p l e R s m args below meth c nL D A kc ks Kf (f y) (wf y) pc lv rest) : J p l e R s m args below meth c nL D A kc ks Kf (ltv S f) (wf S) pc lv rest := k S rfl
theorem j_rsL {q : Int32 × σ} {f : Int32 → σ → α} (wf : σ → va_W) (k : ∀ r S, q = (r, S) → J p l e R s m args below meth c nL D A kc ks Kf (f r S) (wf S) pc lv (.int r :: rest)) : J p l e R s m args below meth c nL D A kc ks Kf (bnd q f) (wf q.2) pc lv (.int q.1 :: rest) := k q.1 q.2 rfl
theorem j_ite {P9 : Prop} {dc : Decidable P9} {A1 B1 : α} (k1 : P9 → J p l e R s m args below meth c nL D A kc ks Kf A1 ws pc lv st) (k2 : ¬ P9 → J p l e R s m args below meth c nL D A kc ks Kf B1 ws pc lv st) : J p l e R s m args below meth c nL D A kc ks Kf (if P9 then A1 else B1) ws pc lv st := by
  by_cases h : P9
  · rw [if_pos h]; exact k1 h
  · rw [if_neg h]; exact k2 h
theorem j_wsP {ws' : va_W} (h1 : ∀ H, va_P D vwCl ws H → va_P D vwCl ws' H) (h2 : va_D A ws → va_D A ws') (k : J p l e R s m args below meth c nL D A kc ks Kf sp ws' pc lv st) : J p l e R s m args below meth c nL D A kc ks Kf sp ws pc lv st := fun ls H locs hl hP hD hS => k ls H locs hl (h1 H hP) (h2 hD) hS
theorem j_tsw (X : CX p s m args meth c cc nL own ret D (tyl cI cH cO) A) {dflt lo hi : Int} {offs : Array Int} {len : Nat} {x : Int32} {off : Int} {tgt : Nat} (hdg : decode cc pc = .ok (.tableswitch dflt lo hi offs, len)) (h1 : ¬ x.toInt < lo) (h2 : ¬ hi < x.toInt) (ho : offs[(x.toInt - lo).toNat]? = some off) (ht : (pc : Int) + off = (tgt : Int)) (k : J p l e R s m args below meth c nL D A kc ks Kf sp ws tgt lv rest) : J p l e R s m args below meth c nL D A kc ks Kf sp ws pc lv (.int x :: rest) := by
  intro ls H locs hl hP hD hS
  obtain ⟨⟨hx, hb, hml, hown, hts⟩, hK, hN, hr, hlk, hA⟩ := X
  exact lv_tableIn hx hb hdg h1 h2 ho ht (k ls H locs hl hP hD hS)
theorem j_tswD (X : CX p s m args meth c cc nL own ret D (tyl cI cH cO) A) {dflt lo hi : Int} {offs : Array Int} {len : Nat} {x : Int32} {tgt : Nat} (hdg : decode cc pc = .ok (.tableswitch dflt lo hi offs, len)) (h : x.toInt < lo ∨ hi < x.toInt) (ht : (pc : Int) + dflt = (tgt : Int)) (k : J p l e R s m args below meth c nL D A kc ks Kf sp ws tgt lv rest) : J p l e R s m args below meth c nL D A kc ks Kf sp ws pc lv (.int x :: rest) := by
  intro ls H locs hl hP hD hS
  obtain ⟨⟨hx, hb, hml, hown, hts⟩, hK, hN, hr, hlk, hA⟩ := X
  exact lv_tableOut hx hb hdg h ht (k ls H locs hl hP hD hS)
theorem j_lsw (X : CX p s m args meth c cc nL own ret D (tyl cI cH cO) A) {dflt : Int} {ps : Array (Int × Int)} {len : Nat} {x : Int32} {off : Int} {tgt : Nat} (hdg : decode cc pc = .ok (.lookupswitch dflt ps, len)) (hp : (ps.toList.zip (ps.toList.drop 1)).all (fun (a, next) => a.1 < next.1) = true) (ho : Op.lookupswitch.offset ps.toList dflt x.toInt = off) (ht : (pc : Int) + off = (tgt : Int)) (k : J p l e R s m args below meth c nL D A kc ks Kf sp ws tgt lv rest) : J p l e R s m args below meth c nL D A kc ks Kf sp ws pc lv (.int x :: rest) := by
  intro ls H locs hl hP hD hS
  obtain ⟨⟨hx, hb, hml, hown, hts⟩, hK, hN, hr, hlk, hA⟩ := X
  exact lv_lookup hx hb hdg hp ho ht (k ls H locs hl hP hD hS)
theorem up_k {C : Cst} {k i : Nat} {x : Int32} {k2 : Nat} (h : ¬ k2 = k) : up C k i x k2 = C k2 := by unfold up; rw [if_neg h]
theorem up_n {C : Cst} {k i : Nat} {x : Int32} {j : Nat} (h : ¬ j = i) : up C k i x k j = C k j := by unfold up; rw [if_pos rfl]; unfold upd; rw [if_neg h]
theorem up_s {C : Cst} {k i : Nat} {x : Int32} : up C k i x k i = x := by unfold up; rw [if_pos rfl]; unfold upd; rw [if_pos rfl]
theorem nI_mul (a b : Nat) : nI a * nI b = nI (a * b) := (Int32.ofNat_mul a b).symm
theorem nI_sub {a b : Nat} (h : b ≤ a) : nI a - nI b = nI (a - b) := by
  have h1 : nI a = nI (a - b) + nI b := by rw [nI_add]; congr 1; omega
  rw [h1]; exact Int32.add_sub_cancel _ _
theorem i32_sub1 (x : Int32) : x + Int32.ofInt (-1) = x - 1 := by
  rw [show Int32.ofInt (-1) = -1 from by decide]; rw [Int32.sub_eq_add_neg]
theorem nI_sb {a : Nat} (h : 1 ≤ a) : nI a + Int32.ofInt (-1) = nI (a - 1) := by
  rw [i32_sub1]; exact nI_sub h
theorem j_iaddN (X : CX p s m args meth c cc nL own ret D (tyl cI cH cO) A) {a b : Nat} (hdg : decode cc pc = .ok (.iadd, 1))  (hpc : pc + 1 = pc') (k : J p l e R s m args below meth c nL D A kc ks Kf sp ws pc' lv (.int (nI (a + b)) :: rest)) : J p l e R s m args below meth c nL D A kc ks Kf sp ws pc lv (.int (nI b) :: .int (nI a) :: rest) := j_iadd X hdg hpc (by rw [nI_add a b]; exact k)
theorem j_imulN (X : CX p s m args meth c cc nL own ret D (tyl cI cH cO) A) {a b : Nat} (hdg : decode cc pc = .ok (.imul, 1))  (hpc : pc + 1 = pc') (k : J p l e R s m args below meth c nL D A kc ks Kf sp ws pc' lv (.int (nI (a * b)) :: rest)) : J p l e R s m args below meth c nL D A kc ks Kf sp ws pc lv (.int (nI b) :: .int (nI a) :: rest) := j_imul X hdg hpc (by rw [nI_mul a b]; exact k)
theorem j_isubN (X : CX p s m args meth c cc nL own ret D (tyl cI cH cO) A) {a b : Nat} (hdg : decode cc pc = .ok (.isub, 1)) (h9 : b ≤ a) (hpc : pc + 1 = pc') (k : J p l e R s m args below meth c nL D A kc ks Kf sp ws pc' lv (.int (nI (a - b)) :: rest)) : J p l e R s m args below meth c nL D A kc ks Kf sp ws pc lv (.int (nI b) :: .int (nI a) :: rest) := j_isub X hdg hpc (by rw [nI_sub h9]; exact k)
theorem j_ialdN (X : CX p s m args meth c cc nL own ret D (tyl cI cH cO) A) {a n : Nat} {g : Nat → Int32} {i : Nat} (q0 : Nat) (he : ws[q0]? = some (a, .inl (cI, n, .inl g))) (hin : i < n) (hn : n < 2 ^ 31) (hdg : decode cc pc = .ok (.iaload, 1)) (hpc : pc + 1 = pc') (kk : J p l e R s m args below meth c nL D A kc ks Kf sp ws pc' lv (.int (g i) :: rest)) : J p l e R s m args below meth c nL D A kc ks Kf sp ws pc lv (.int (nI i) :: .ref a :: rest) := j_iald X q0 he (vp_in_nI hin hn) hdg hpc (by rw [nI_clamp (Nat.lt_trans hin hn)]; exact kk)
theorem j_caldN (X : CX p s m args meth c cc nL own ret D (tyl cI cH cO) A) {a n : Nat} {g : Nat → Int32} {i : Nat} (q0 : Nat) (he : ws[q0]? = some (a, .inl (cH, n, .inl g))) (hin : i < n) (hn : n < 2 ^ 31) (hdg : decode cc pc = .ok (.caload, 1)) (hpc : pc + 1 = pc') (kk : J p l e R s m args below meth c nL D A kc ks Kf sp ws pc' lv (.int (g i) :: rest)) : J p l e R s m args below meth c nL D A kc ks Kf sp ws pc lv (.int (nI i) :: .ref a :: rest) := j_cald X q0 he (vp_in_nI hin hn) hdg hpc (by rw [nI_clamp (Nat.lt_trans hin hn)]; exact kk)
theorem j_iastN (X : CX p s m args meth c cc nL own ret D (tyl cI cH cO) A) {a n : Nat} {g : Nat → Int32} {i : Nat} {x : Int32} {S : σ} {f : σ → α} (wf : σ → va_W) (q0 : Nat) (he : ws[q0]? = some (a, .inl (cI, n, .inl g))) (hset : ws.set q0 (a, .inl (cI, n, .inl (upd g i x))) = wf S) (hin : i < n) (hn : n < 2 ^ 31) (hdg : decode cc pc = .ok (.iastore, 1)) (hpc : pc + 1 = pc') (kk : ∀ S', S' = S → J p l e R s m args below meth c nL D A kc ks Kf (f S') (wf S') pc' lv rest) : J p l e R s m args below meth c nL D A kc ks Kf (ltv S f) ws pc lv (.int x :: .int (nI i) :: .ref a :: rest) := j_iast X wf q0 he (by rw [nI_clamp (Nat.lt_trans hin hn)]; exact hset) (vp_in_nI hin hn) hdg hpc kk
theorem j_castN (X : CX p s m args meth c cc nL own ret D (tyl cI cH cO) A) {a n : Nat} {g : Nat → Int32} {i : Nat} {x : Int32} {S : σ} {f : σ → α} (wf : σ → va_W) (q0 : Nat) (he : ws[q0]? = some (a, .inl (cH, n, .inl g))) (hset : ws.set q0 (a, .inl (cH, n, .inl (upd g i (vp_nar .char x)))) = wf S) (hin : i < n) (hn : n < 2 ^ 31) (hdg : decode cc pc = .ok (.castore, 1)) (hpc : pc + 1 = pc') (kk : ∀ S', S' = S → J p l e R s m args below meth c nL D A kc ks Kf (f S') (wf S') pc' lv rest) : J p l e R s m args below meth c nL D A kc ks Kf (ltv S f) ws pc lv (.int x :: .int (nI i) :: .ref a :: rest) := j_cast X wf q0 he (by rw [nI_clamp (Nat.lt_trans hin hn)]; exact hset) (vp_in_nI hin hn) hdg hpc kk
end J2
theorem tsw_out10 {x : Int32} (h0 : ¬ x = 0) (h1 : ¬ x = 1) (h2 : ¬ x = 2) (h3 : ¬ x = 3) (h4 : ¬ x = 4) (h5 : ¬ x = 5) (h6 : ¬ x = 6) (h7 : ¬ x = 7) (h8 : ¬ x = 8) (h9 : ¬ x = 9) : x.toInt < 0 ∨ 9 < x.toInt := by
  have g0 : ¬ x.toInt = 0 := fun q => h0 (Int32.toInt_inj.mp (by rw [q]; decide))
  have g1 : ¬ x.toInt = 1 := fun q => h1 (Int32.toInt_inj.mp (by rw [q]; decide))
  have g2 : ¬ x.toInt = 2 := fun q => h2 (Int32.toInt_inj.mp (by rw [q]; decide))
  have g3 : ¬ x.toInt = 3 := fun q => h3 (Int32.toInt_inj.mp (by rw [q]; decide))
  have g4 : ¬ x.toInt = 4 := fun q => h4 (Int32.toInt_inj.mp (by rw [q]; decide))
  have g5 : ¬ x.toInt = 5 := fun q => h5 (Int32.toInt_inj.mp (by rw [q]; decide))
  have g6 : ¬ x.toInt = 6 := fun q => h6 (Int32.toInt_inj.mp (by rw [q]; decide))
  have g7 : ¬ x.toInt = 7 := fun q => h7 (Int32.toInt_inj.mp (by rw [q]; decide))
  have g8 : ¬ x.toInt = 8 := fun q => h8 (Int32.toInt_inj.mp (by rw [q]; decide))
  have g9 : ¬ x.toInt = 9 := fun q => h9 (Int32.toInt_inj.mp (by rw [q]; decide))
  omega
theorem tsw_out11 {x : Int32} (h0 : ¬ x = 0) (h1 : ¬ x = 1) (h2 : ¬ x = 2) (h3 : ¬ x = 3) (h4 : ¬ x = 4) (h5 : ¬ x = 5) (h6 : ¬ x = 6) (h7 : ¬ x = 7) (h8 : ¬ x = 8) (h9 : ¬ x = 9) (h10 : ¬ x = 10) : x.toInt < 0 ∨ 10 < x.toInt := by
  have g0 : ¬ x.toInt = 0 := fun q => h0 (Int32.toInt_inj.mp (by rw [q]; decide))
  have g1 : ¬ x.toInt = 1 := fun q => h1 (Int32.toInt_inj.mp (by rw [q]; decide))
  have g2 : ¬ x.toInt = 2 := fun q => h2 (Int32.toInt_inj.mp (by rw [q]; decide))
  have g3 : ¬ x.toInt = 3 := fun q => h3 (Int32.toInt_inj.mp (by rw [q]; decide))
  have g4 : ¬ x.toInt = 4 := fun q => h4 (Int32.toInt_inj.mp (by rw [q]; decide))
  have g5 : ¬ x.toInt = 5 := fun q => h5 (Int32.toInt_inj.mp (by rw [q]; decide))
  have g6 : ¬ x.toInt = 6 := fun q => h6 (Int32.toInt_inj.mp (by rw [q]; decide))
  have g7 : ¬ x.toInt = 7 := fun q => h7 (Int32.toInt_inj.mp (by rw [q]; decide))
  have g8 : ¬ x.toInt = 8 := fun q => h8 (Int32.toInt_inj.mp (by rw [q]; decide))
  have g9 : ¬ x.toInt = 9 := fun q => h9 (Int32.toInt_inj.mp (by rw [q]; decide))
  have g10 : ¬ x.toInt = 10 := fun q => h10 (Int32.toInt_inj.mp (by rw [q]; decide))
  omega
theorem tsw_out13 {x : Int32} (h0 : ¬ x = 0) (h1 : ¬ x = 1) (h2 : ¬ x = 2) (h3 : ¬ x = 3) (h4 : ¬ x = 4) (h5 : ¬ x = 5) (h6 : ¬ x = 6) (h7 : ¬ x = 7) (h8 : ¬ x = 8) (h9 : ¬ x = 9) (h10 : ¬ x = 10) (h11 : ¬ x = 11) (h12 : ¬ x = 12) : x.toInt < 0 ∨ 12 < x.toInt := by
  have g0 : ¬ x.toInt = 0 := fun q => h0 (Int32.toInt_inj.mp (by rw [q]; decide))
  have g1 : ¬ x.toInt = 1 := fun q => h1 (Int32.toInt_inj.mp (by rw [q]; decide))
  have g2 : ¬ x.toInt = 2 := fun q => h2 (Int32.toInt_inj.mp (by rw [q]; decide))
  have g3 : ¬ x.toInt = 3 := fun q => h3 (Int32.toInt_inj.mp (by rw [q]; decide))
  have g4 : ¬ x.toInt = 4 := fun q => h4 (Int32.toInt_inj.mp (by rw [q]; decide))
  have g5 : ¬ x.toInt = 5 := fun q => h5 (Int32.toInt_inj.mp (by rw [q]; decide))
  have g6 : ¬ x.toInt = 6 := fun q => h6 (Int32.toInt_inj.mp (by rw [q]; decide))
  have g7 : ¬ x.toInt = 7 := fun q => h7 (Int32.toInt_inj.mp (by rw [q]; decide))
  have g8 : ¬ x.toInt = 8 := fun q => h8 (Int32.toInt_inj.mp (by rw [q]; decide))
  have g9 : ¬ x.toInt = 9 := fun q => h9 (Int32.toInt_inj.mp (by rw [q]; decide))
  have g10 : ¬ x.toInt = 10 := fun q => h10 (Int32.toInt_inj.mp (by rw [q]; decide))
  have g11 : ¬ x.toInt = 11 := fun q => h11 (Int32.toInt_inj.mp (by rw [q]; decide))
  have g12 : ¬ x.toInt = 12 := fun q => h12 (Int32.toInt_inj.mp (by rw [q]; decide))
  omega
theorem tsw_out20 {x : Int32} (h0 : ¬ x = 0) (h1 : ¬ x = 1) (h2 : ¬ x = 2) (h3 : ¬ x = 3) (h4 : ¬ x = 4) (h5 : ¬ x = 5) (h6 : ¬ x = 6) (h7 : ¬ x = 7) (h8 : ¬ x = 8) (h9 : ¬ x = 9) (h10 : ¬ x = 10) (h11 : ¬ x = 11) (h12 : ¬ x = 12) (h13 : ¬ x = 13) (h14 : ¬ x = 14) (h15 : ¬ x = 15) (h16 : ¬ x = 16) (h17 : ¬ x = 17) (h18 : ¬ x = 18) (h19 : ¬ x = 19) : x.toInt < 0 ∨ 19 < x.toInt := by
  have g0 : ¬ x.toInt = 0 := fun q => h0 (Int32.toInt_inj.mp (by rw [q]; decide))
  have g1 : ¬ x.toInt = 1 := fun q => h1 (Int32.toInt_inj.mp (by rw [q]; decide))
  have g2 : ¬ x.toInt = 2 := fun q => h2 (Int32.toInt_inj.mp (by rw [q]; decide))
  have g3 : ¬ x.toInt = 3 := fun q => h3 (Int32.toInt_inj.mp (by rw [q]; decide))
  have g4 : ¬ x.toInt = 4 := fun q => h4 (Int32.toInt_inj.mp (by rw [q]; decide))
  have g5 : ¬ x.toInt = 5 := fun q => h5 (Int32.toInt_inj.mp (by rw [q]; decide))
  have g6 : ¬ x.toInt = 6 := fun q => h6 (Int32.toInt_inj.mp (by rw [q]; decide))
  have g7 : ¬ x.toInt = 7 := fun q => h7 (Int32.toInt_inj.mp (by rw [q]; decide))
  have g8 : ¬ x.toInt = 8 := fun q => h8 (Int32.toInt_inj.mp (by rw [q]; decide))
  have g9 : ¬ x.toInt = 9 := fun q => h9 (Int32.toInt_inj.mp (by rw [q]; decide))
  have g10 : ¬ x.toInt = 10 := fun q => h10 (Int32.toInt_inj.mp (by rw [q]; decide))
  have g11 : ¬ x.toInt = 11 := fun q => h11 (Int32.toInt_inj.mp (by rw [q]; decide))
  have g12 : ¬ x.toInt = 12 := fun q => h12 (Int32.toInt_inj.mp (by rw [q]; decide))
  have g13 : ¬ x.toInt = 13 := fun q => h13 (Int32.toInt_inj.mp (by rw [q]; decide))
  have g14 : ¬ x.toInt = 14 := fun q => h14 (Int32.toInt_inj.mp (by rw [q]; decide))
  have g15 : ¬ x.toInt = 15 := fun q => h15 (Int32.toInt_inj.mp (by rw [q]; decide))
  have g16 : ¬ x.toInt = 16 := fun q => h16 (Int32.toInt_inj.mp (by rw [q]; decide))
  have g17 : ¬ x.toInt = 17 := fun q => h17 (Int32.toInt_inj.mp (by rw [q]; decide))
  have g18 : ¬ x.toInt = 18 := fun q => h18 (Int32.toInt_inj.mp (by rw [q]; decide))
  have g19 : ¬ x.toInt = 19 := fun q => h19 (Int32.toInt_inj.mp (by rw [q]; decide))
  omega
theorem p_ltv {α β : Type} {Q9 : α → Prop} {v : β} {f : β → α} (k : ∀ y, y = v → Q9 (f y)) : Q9 (ltv v f) := k v rfl
theorem p_bnd {α σ : Type} {Q9 : α → Prop} {q : Int32 × σ} {f : Int32 → σ → α} (k : ∀ r S, q = (r, S) → Q9 (f r S)) : Q9 (bnd q f) := k q.1 q.2 rfl
theorem p_ite {α : Type} {Q9 : α → Prop} {P9 : Prop} {dc : Decidable P9} {A1 B1 : α} (k1 : P9 → Q9 A1) (k2 : ¬ P9 → Q9 B1) : Q9 (if P9 then A1 else B1) := by
  by_cases h : P9
  · rw [if_pos h]; exact k1 h
  · rw [if_neg h]; exact k2 h
theorem p_ltl1 {α : Type} {t0 : Type} {Q9 : α → Prop} {body : (t0 → α) → t0 → α} {dft : t0 → α} {F : (Nat → t0 → α) → α} (k : ∀ L : Nat → t0 → α, (∀ (n : Nat) (x0 : t0), L (n + 1) x0 = body (L n) x0) → Q9 (F L)) : Q9 (ltl1 body dft F) := k (zp1 body dft) (fun _ _ => rfl)
theorem p_ltl2 {α : Type} {t0 t1 : Type} {Q9 : α → Prop} {body : (t0 → t1 → α) → t0 → t1 → α} {dft : t0 → t1 → α} {F : (Nat → t0 → t1 → α) → α} (k : ∀ L : Nat → t0 → t1 → α, (∀ (n : Nat) (x0 : t0) (x1 : t1), L (n + 1) x0 x1 = body (L n) x0 x1) → Q9 (F L)) : Q9 (ltl2 body dft F) := k (zp2 body dft) (fun _ _ _ => rfl)
theorem p_ltl3 {α : Type} {t0 t1 t2 : Type} {Q9 : α → Prop} {body : (t0 → t1 → t2 → α) → t0 → t1 → t2 → α} {dft : t0 → t1 → t2 → α} {F : (Nat → t0 → t1 → t2 → α) → α} (k : ∀ L : Nat → t0 → t1 → t2 → α, (∀ (n : Nat) (x0 : t0) (x1 : t1) (x2 : t2), L (n + 1) x0 x1 x2 = body (L n) x0 x1 x2) → Q9 (F L)) : Q9 (ltl3 body dft F) := k (zp3 body dft) (fun _ _ _ _ => rfl)
theorem p_ltl4 {α : Type} {t0 t1 t2 t3 : Type} {Q9 : α → Prop} {body : (t0 → t1 → t2 → t3 → α) → t0 → t1 → t2 → t3 → α} {dft : t0 → t1 → t2 → t3 → α} {F : (Nat → t0 → t1 → t2 → t3 → α) → α} (k : ∀ L : Nat → t0 → t1 → t2 → t3 → α, (∀ (n : Nat) (x0 : t0) (x1 : t1) (x2 : t2) (x3 : t3), L (n + 1) x0 x1 x2 x3 = body (L n) x0 x1 x2 x3) → Q9 (F L)) : Q9 (ltl4 body dft F) := k (zp4 body dft) (fun _ _ _ _ _ => rfl)
theorem p_ltl5 {α : Type} {t0 t1 t2 t3 t4 : Type} {Q9 : α → Prop} {body : (t0 → t1 → t2 → t3 → t4 → α) → t0 → t1 → t2 → t3 → t4 → α} {dft : t0 → t1 → t2 → t3 → t4 → α} {F : (Nat → t0 → t1 → t2 → t3 → t4 → α) → α} (k : ∀ L : Nat → t0 → t1 → t2 → t3 → t4 → α, (∀ (n : Nat) (x0 : t0) (x1 : t1) (x2 : t2) (x3 : t3) (x4 : t4), L (n + 1) x0 x1 x2 x3 x4 = body (L n) x0 x1 x2 x3 x4) → Q9 (F L)) : Q9 (ltl5 body dft F) := k (zp5 body dft) (fun _ _ _ _ _ _ => rfl)
theorem p_ltl6 {α : Type} {t0 t1 t2 t3 t4 t5 : Type} {Q9 : α → Prop} {body : (t0 → t1 → t2 → t3 → t4 → t5 → α) → t0 → t1 → t2 → t3 → t4 → t5 → α} {dft : t0 → t1 → t2 → t3 → t4 → t5 → α} {F : (Nat → t0 → t1 → t2 → t3 → t4 → t5 → α) → α} (k : ∀ L : Nat → t0 → t1 → t2 → t3 → t4 → t5 → α, (∀ (n : Nat) (x0 : t0) (x1 : t1) (x2 : t2) (x3 : t3) (x4 : t4) (x5 : t5), L (n + 1) x0 x1 x2 x3 x4 x5 = body (L n) x0 x1 x2 x3 x4 x5) → Q9 (F L)) : Q9 (ltl6 body dft F) := k (zp6 body dft) (fun _ _ _ _ _ _ _ => rfl)
theorem p_ltl7 {α : Type} {t0 t1 t2 t3 t4 t5 t6 : Type} {Q9 : α → Prop} {body : (t0 → t1 → t2 → t3 → t4 → t5 → t6 → α) → t0 → t1 → t2 → t3 → t4 → t5 → t6 → α} {dft : t0 → t1 → t2 → t3 → t4 → t5 → t6 → α} {F : (Nat → t0 → t1 → t2 → t3 → t4 → t5 → t6 → α) → α} (k : ∀ L : Nat → t0 → t1 → t2 → t3 → t4 → t5 → t6 → α, (∀ (n : Nat) (x0 : t0) (x1 : t1) (x2 : t2) (x3 : t3) (x4 : t4) (x5 : t5) (x6 : t6), L (n + 1) x0 x1 x2 x3 x4 x5 x6 = body (L n) x0 x1 x2 x3 x4 x5 x6) → Q9 (F L)) : Q9 (ltl7 body dft F) := k (zp7 body dft) (fun _ _ _ _ _ _ _ _ => rfl)
theorem wv_L_13 : WV RL 13 RX4 yX4_member cX4_member 2 (some .int) 1 := ⟨q_code_X4_member, q_ml_L_13, q_ins_X4_member, q_sel_X4_member, q_ini_X4, by decide +kernel⟩
theorem wv_L_17 : WV RL 17 RX5 yX5_member cX5_member 4 (some .int) 1 := ⟨q_code_X5_member, q_ml_L_17, q_ins_X5_member, q_sel_X5_member, q_ini_X5, by decide +kernel⟩
theorem wv_L_18 : WV RL 18 RX4 yX4_use cX4_use 3 (some .int) 2 := ⟨q_code_X4_use, q_ml_L_18, q_ins_X4_use, q_sel_X4_use, q_ini_X4, by decide +kernel⟩
theorem wv_L_22 : WV RL 22 RX5 yX5_use cX5_use 3 (some .int) 2 := ⟨q_code_X5_use, q_ml_L_22, q_ins_X5_use, q_sel_X5_use, q_ini_X5, by decide +kernel⟩
theorem wv_L_23 : WV RL 23 RX4 yX4_close cX4_close 1 (some .int) 0 := ⟨q_code_X4_close, q_ml_L_23, q_ins_X4_close, q_sel_X4_close, q_ini_X4, by decide +kernel⟩
theorem wv_L_27 : WV RL 27 RX5 yX5_close cX5_close 1 (some .int) 0 := ⟨q_code_X5_close, q_ml_L_27, q_ins_X5_close, q_sel_X5_close, q_ini_X5, by decide +kernel⟩
theorem wv_L_28 : WV RL 28 RX4 yX4_pay cX4_pay 3 (some .int) 2 := ⟨q_code_X4_pay, q_ml_L_28, q_ins_X4_pay, q_sel_X4_pay, q_ini_X4, by decide +kernel⟩
theorem wv_L_31 : WV RL 31 RX5 yX5_pay cX5_pay 3 (some .int) 2 := ⟨q_code_X5_pay, q_ml_L_31, q_ins_X5_pay, q_sel_X5_pay, q_ini_X5, by decide +kernel⟩
theorem wv_L_32 : WV RL 32 RX4 yX4_repair cX4_repair 2 (some .int) 1 := ⟨q_code_X4_repair, q_ml_L_32, q_ins_X4_repair, q_sel_X4_repair, q_ini_X4, by decide +kernel⟩
theorem wv_L_35 : WV RL 35 RX5 yX5_repair cX5_repair 8 (some .int) 1 := ⟨q_code_X5_repair, q_ml_L_35, q_ins_X5_repair, q_sel_X5_repair, q_ini_X5, by decide +kernel⟩
theorem wv_L_36 : WV RL 36 RX4 yX4_set cX4_set 3 (some .int) 2 := ⟨q_code_X4_set, q_ml_L_36, q_ins_X4_set, q_sel_X4_set, q_ini_X4, by decide +kernel⟩
theorem wv_L_39 : WV RL 39 RX5 yX5_set cX5_set 6 (some .int) 2 := ⟨q_code_X5_set, q_ml_L_39, q_ins_X5_set, q_sel_X5_set, q_ini_X5, by decide +kernel⟩
theorem wv_L_40 : WV RL 40 RX4 yX4_memberOf cX4_memberOf 3 (some .int) 2 := ⟨q_code_X4_memberOf, q_ml_L_40, q_ins_X4_memberOf, q_sel_X4_memberOf, q_ini_X4, by decide +kernel⟩
theorem wv_L_43 : WV RL 43 RX5 yX5_memberOf cX5_memberOf 3 (some .int) 2 := ⟨q_code_X5_memberOf, q_ml_L_43, q_ins_X5_memberOf, q_sel_X5_memberOf, q_ini_X5, by decide +kernel⟩
theorem wv_L_44 : WV RL 44 RX4 yX4_count cX4_count 2 (some .int) 1 := ⟨q_code_X4_count, q_ml_L_44, q_ins_X4_count, q_sel_X4_count, q_ini_X4, by decide +kernel⟩
theorem wv_L_47 : WV RL 47 RX5 yX5_count cX5_count 2 (some .int) 1 := ⟨q_code_X5_count, q_ml_L_47, q_ins_X5_count, q_sel_X5_count, q_ini_X5, by decide +kernel⟩
theorem wv_L_48 : WV RL 48 RX4 yX4_seasonOf cX4_seasonOf 3 (some .int) 2 := ⟨q_code_X4_seasonOf, q_ml_L_48, q_ins_X4_seasonOf, q_sel_X4_seasonOf, q_ini_X4, by decide +kernel⟩
theorem wv_L_51 : WV RL 51 RX5 yX5_seasonOf cX5_seasonOf 3 (some .int) 2 := ⟨q_code_X5_seasonOf, q_ml_L_51, q_ins_X5_seasonOf, q_sel_X5_seasonOf, q_ini_X5, by decide +kernel⟩
theorem wv_L_52 : WV RL 52 RX4 yX4_gain cX4_gain 3 (some .int) 2 := ⟨q_code_X4_gain, q_ml_L_52, q_ins_X4_gain, q_sel_X4_gain, q_ini_X4, by decide +kernel⟩
theorem wv_L_55 : WV RL 55 RX5 yX5_gain cX5_gain 3 (some .int) 2 := ⟨q_code_X5_gain, q_ml_L_55, q_ins_X5_gain, q_sel_X5_gain, q_ini_X5, by decide +kernel⟩
theorem wv_L_56 : WV RL 56 RX4 yX4_bestUse cX4_bestUse 2 (some .int) 1 := ⟨q_code_X4_bestUse, q_ml_L_56, q_ins_X4_bestUse, q_sel_X4_bestUse, q_ini_X4, by decide +kernel⟩
theorem wv_L_59 : WV RL 59 RX5 yX5_bestUse cX5_bestUse 2 (some .int) 1 := ⟨q_code_X5_bestUse, q_ml_L_59, q_ins_X5_bestUse, q_sel_X5_bestUse, q_ini_X5, by decide +kernel⟩
theorem wv_L_60 : WV RL 60 RX4 yX4_calm cX4_calm 3 (some .int) 1 := ⟨q_code_X4_calm, q_ml_L_60, q_ins_X4_calm, q_sel_X4_calm, q_ini_X4, by decide +kernel⟩
theorem wv_L_63 : WV RL 63 RX5 yX5_calm cX5_calm 5 (some .int) 1 := ⟨q_code_X5_calm, q_ml_L_63, q_ins_X5_calm, q_sel_X5_calm, q_ini_X5, by decide +kernel⟩
theorem wv_L_64 : WV RL 64 RX4 yX4_bestForAll cX4_bestForAll 3 (some .int) 1 := ⟨q_code_X4_bestForAll, q_ml_L_64, q_ins_X4_bestForAll, q_sel_X4_bestForAll, q_ini_X4, by decide +kernel⟩
theorem wv_L_67 : WV RL 67 RX5 yX5_bestForAll cX5_bestForAll 9 (some .int) 1 := ⟨q_code_X5_bestForAll, q_ml_L_67, q_ins_X5_bestForAll, q_sel_X5_bestForAll, q_ini_X5, by decide +kernel⟩
theorem wv_L_68 : WV RL 68 RX4 yX4_wouldExclude cX4_wouldExclude 1 (some .int) 0 := ⟨q_code_X4_wouldExclude, q_ml_L_68, q_ins_X4_wouldExclude, q_sel_X4_wouldExclude, q_ini_X4, by decide +kernel⟩
theorem wv_L_71 : WV RL 71 RX5 yX5_wouldExclude cX5_wouldExclude 2 (some .int) 0 := ⟨q_code_X5_wouldExclude, q_ml_L_71, q_ins_X5_wouldExclude, q_sel_X5_wouldExclude, q_ini_X5, by decide +kernel⟩
theorem wv_L_72 : WV RL 72 RX4 yX4_canRepair cX4_canRepair 1 (some .int) 0 := ⟨q_code_X4_canRepair, q_ml_L_72, q_ins_X4_canRepair, q_sel_X4_canRepair, q_ini_X4, by decide +kernel⟩
theorem wv_L_75 : WV RL 75 RX5 yX5_canRepair cX5_canRepair 2 (some .int) 0 := ⟨q_code_X5_canRepair, q_ml_L_75, q_ins_X5_canRepair, q_sel_X5_canRepair, q_ini_X5, by decide +kernel⟩
theorem wv_L_76 : WV RL 76 RX4 yX4_undo cX4_undo 1 (some .int) 0 := ⟨q_code_X4_undo, q_ml_L_76, q_ins_X4_undo, q_sel_X4_undo, q_ini_X4, by decide +kernel⟩
theorem wv_L_79 : WV RL 79 RX5 yX5_undo cX5_undo 2 (some .int) 0 := ⟨q_code_X5_undo, q_ml_L_79, q_ins_X5_undo, q_sel_X5_undo, q_ini_X5, by decide +kernel⟩
theorem wv_L_80 : WV RL 80 RX4 yX4_type cX4_type 2 (some .int) 1 := ⟨q_code_X4_type, q_ml_L_80, q_ins_X4_type, q_sel_X4_type, q_ini_X4, by decide +kernel⟩
theorem wv_L_83 : WV RL 83 RX5 yX5_type cX5_type 2 (some .int) 1 := ⟨q_code_X5_type, q_ml_L_83, q_ins_X5_type, q_sel_X5_type, q_ini_X5, by decide +kernel⟩
theorem wv_L_84 : WV RL 84 RX4 yX4_clearText cX4_clearText 2 (some .int) 0 := ⟨q_code_X4_clearText, q_ml_L_84, q_ins_X4_clearText, q_sel_X4_clearText, q_ini_X4, by decide +kernel⟩
theorem wv_L_87 : WV RL 87 RX5 yX5_clearText cX5_clearText 2 (some .int) 0 := ⟨q_code_X5_clearText, q_ml_L_87, q_ins_X5_clearText, q_sel_X5_clearText, q_ini_X5, by decide +kernel⟩
theorem wv_L_88 : WV RL 88 RX4 yX4_fault cX4_fault 2 (some .int) 1 := ⟨q_code_X4_fault, q_ml_L_88, q_ins_X4_fault, q_sel_X4_fault, q_ini_X4, by decide +kernel⟩
theorem wv_L_91 : WV RL 91 RX5 yX5_fault cX5_fault 3 (some .int) 1 := ⟨q_code_X5_fault, q_ml_L_91, q_ins_X5_fault, q_sel_X5_fault, q_ini_X5, by decide +kernel⟩
theorem wv_L_92 : WV RL 92 RX4 yX4_play cX4_play 1 (some .int) 0 := ⟨q_code_X4_play, q_ml_L_92, q_ins_X4_play, q_sel_X4_play, q_ini_X4, by decide +kernel⟩
theorem wv_L_95 : WV RL 95 RX5 yX5_play cX5_play 2 (some .int) 0 := ⟨q_code_X5_play, q_ml_L_95, q_ins_X5_play, q_sel_X5_play, q_ini_X5, by decide +kernel⟩
theorem wv_X0_72 : WV RX0 72 RX0 yX0_placeOf cX0_placeOf 3 (some .int) 1 := ⟨q_code_X0_placeOf, q_ml_X0_72, q_ins_X0_placeOf, q_sel_X0_placeOf, q_ini_X0, by decide +kernel⟩
theorem wv_X0_76 : WV RX0 76 RX0 yX0_unitsAhead cX0_unitsAhead 5 (some .int) 1 := ⟨q_code_X0_unitsAhead, q_ml_X0_76, q_ins_X0_unitsAhead, q_sel_X0_unitsAhead, q_ini_X0, by decide +kernel⟩
theorem wv_X0_79 : WV RX0 79 RX0 yX0_damageAdded cX0_damageAdded 3 (some .int) 2 := ⟨q_code_X0_damageAdded, q_ml_X0_79, q_ins_X0_damageAdded, q_sel_X0_damageAdded, q_ini_X0, by decide +kernel⟩
theorem wv_X0_83 : WV RX0 83 RX0 yX0_damageOf cX0_damageOf 3 (some .int) 1 := ⟨q_code_X0_damageOf, q_ml_X0_83, q_ins_X0_damageOf, q_sel_X0_damageOf, q_ini_X0, by decide +kernel⟩
theorem wv_X0_86 : WV RX0 86 RX0 yX0_has cX0_has 2 (some .boolean) 1 := ⟨q_code_X0_has, q_ml_X0_86, q_ins_X0_has, q_sel_X0_has, q_ini_X0, by decide +kernel⟩
theorem wv_X0_93 : WV RX0 93 RX0 yX0_isOut cX0_isOut 2 (some .boolean) 1 := ⟨q_code_X0_isOut, q_ml_X0_93, q_ins_X0_isOut, q_sel_X0_isOut, q_ini_X0, by decide +kernel⟩
theorem wv_X0_96 : WV RX0 96 RX0 yX0_chargeOf cX0_chargeOf 2 (some .int) 1 := ⟨q_code_X0_chargeOf, q_ml_X0_96, q_ins_X0_chargeOf, q_sel_X0_chargeOf, q_ini_X0, by decide +kernel⟩
theorem wv_X0_110 : WV RX0 110 RX0 yX0_oweByUses cX0_oweByUses 6 none 1 := ⟨q_code_X0_oweByUses, q_ml_X0_110, q_ins_X0_oweByUses, q_sel_X0_oweByUses, q_ini_X0, by decide +kernel⟩
theorem wv_X0_117 : WV RX0 117 RX0 yX0_endSeason cX0_endSeason 4 (some .int) 0 := ⟨q_code_X0_endSeason, q_ml_X0_117, q_ins_X0_endSeason, q_sel_X0_endSeason, q_ini_X0, by decide +kernel⟩
theorem wv_X0_121 : WV RX0 121 RX0 yX0_allUnits cX0_allUnits 1 (some .int) 0 := ⟨q_code_X0_allUnits, q_ml_X0_121, q_ins_X0_allUnits, q_sel_X0_allUnits, q_ini_X0, by decide +kernel⟩
theorem wv_X0_124 : WV RX0 124 RX0 yX0_oweCharges cX0_oweCharges 5 none 0 := ⟨q_code_X0_oweCharges, q_ml_X0_124, q_ins_X0_oweCharges, q_sel_X0_oweCharges, q_ini_X0, by decide +kernel⟩
theorem wv_X0_130 : WV RX0 130 RX0 yX0_keepSeason cX0_keepSeason 4 none 2 := ⟨q_code_X0_keepSeason, q_ml_X0_130, q_ins_X0_keepSeason, q_sel_X0_keepSeason, q_ini_X0, by decide +kernel⟩
theorem wv_X0_134 : WV RX0 134 RX0 yX0_bookUses cX0_bookUses 2 none 0 := ⟨q_code_X0_bookUses, q_ml_X0_134, q_ins_X0_bookUses, q_sel_X0_bookUses, q_ini_X0, by decide +kernel⟩
theorem wv_X0_137 : WV RX0 137 RX0 yX0_excludeInTurn cX0_excludeInTurn 5 none 1 := ⟨q_code_X0_excludeInTurn, q_ml_X0_137, q_ins_X0_excludeInTurn, q_sel_X0_excludeInTurn, q_ini_X0, by decide +kernel⟩
theorem wv_X0_140 : WV RX0 140 RX0 yX0_excludeDebtors cX0_excludeDebtors 2 none 0 := ⟨q_code_X0_excludeDebtors, q_ml_X0_140, q_ins_X0_excludeDebtors, q_sel_X0_excludeDebtors, q_ini_X0, by decide +kernel⟩
theorem wv_X0_143 : WV RX0 143 RX0 yX0_noteSeasonsOut cX0_noteSeasonsOut 2 none 0 := ⟨q_code_X0_noteSeasonsOut, q_ml_X0_143, q_ins_X0_noteSeasonsOut, q_sel_X0_noteSeasonsOut, q_ini_X0, by decide +kernel⟩
theorem wv_X0_146 : WV RX0 146 RX0 yX0_turnsNeeded cX0_turnsNeeded 3 (some .int) 0 := ⟨q_code_X0_turnsNeeded, q_ml_X0_146, q_ins_X0_turnsNeeded, q_sel_X0_turnsNeeded, q_ini_X0, by decide +kernel⟩
theorem wv_X0_149 : WV RX0 149 RX0 yX0_heaviestNotIn cX0_heaviestNotIn 5 (some .int) 1 := ⟨q_code_X0_heaviestNotIn, q_ml_X0_149, q_ins_X0_heaviestNotIn, q_sel_X0_heaviestNotIn, q_ini_X0, by decide +kernel⟩
theorem wv_X0_152 : WV RX0 152 RX0 yX0_gainBehind cX0_gainBehind 4 (some .int) 3 := ⟨q_code_X0_gainBehind, q_ml_X0_152, q_ins_X0_gainBehind, q_sel_X0_gainBehind, q_ini_X0, by decide +kernel⟩
theorem wv_X0_156 : WV RX0 156 RX0 yX0_roundChanges cX0_roundChanges 4 (some .boolean) 0 := ⟨q_code_X0_roundChanges, q_ml_X0_156, q_ins_X0_roundChanges, q_sel_X0_roundChanges, q_ini_X0, by decide +kernel⟩
theorem wv_X0_160 : WV RX0 160 RX0 yX0_bestUnits cX0_bestUnits 7 (some .int) 1 := ⟨q_code_X0_bestUnits, q_ml_X0_160, q_ins_X0_bestUnits, q_sel_X0_bestUnits, q_ini_X0, by decide +kernel⟩
theorem wv_X0_163 : WV RX0 163 RX0 yX0_worthiestWithRoom cX0_worthiestWithRoom 4 (some .int) 0 := ⟨q_code_X0_worthiestWithRoom, q_ml_X0_163, q_ins_X0_worthiestWithRoom, q_sel_X0_worthiestWithRoom, q_ini_X0, by decide +kernel⟩
theorem wv_X1_25 : WV RX1 25 RX0 yX0_takeOver cX0_takeOver 2 none 1 := ⟨q_code_X0_takeOver, q_ml_X1_25, q_ins_X0_takeOver, q_sel_X0_takeOver, q_ini_X0, by decide +kernel⟩
theorem wv_X3_19 : WV RX3 19 RX3 yX3_signAhead cX3_signAhead 1 (some .int) 0 := ⟨q_code_X3_signAhead, q_ml_X3_19, q_ins_X3_signAhead, q_sel_X3_signAhead, q_ini_X3, by decide +kernel⟩
theorem wv_X3_35 : WV RX3 35 RX3 yX3_readNumber cX3_readNumber 4 (some .int) 0 := ⟨q_code_X3_readNumber, q_ml_X3_35, q_ins_X3_readNumber, q_sel_X3_readNumber, q_ini_X3, by decide +kernel⟩
theorem wv_X3_38 : WV RX3 38 RX3 yX3_passes cX3_passes 2 (some .boolean) 1 := ⟨q_code_X3_passes, q_ml_X3_38, q_ins_X3_passes, q_sel_X3_passes, q_ini_X3, by decide +kernel⟩
theorem wv_X4_40 : WV RX4 40 RX0 yX0_takeOver cX0_takeOver 2 none 1 := ⟨q_code_X0_takeOver, q_ml_X4_40, q_ins_X0_takeOver, q_sel_X0_takeOver, q_ini_X0, by decide +kernel⟩
theorem wv_X4_44 : WV RX4 44 RX0 yX0_addMember cX0_addMember 2 (some .int) 1 := ⟨q_code_X0_addMember, q_ml_X4_44, q_ins_X0_addMember, q_sel_X0_addMember, q_ini_X0, by decide +kernel⟩
theorem wv_X4_48 : WV RX4 48 RX4 yX4_keptIfDone cX4_keptIfDone 2 (some .int) 1 := ⟨q_code_X4_keptIfDone, q_ml_X4_48, q_ins_X4_keptIfDone, q_sel_X4_keptIfDone, q_ini_X4, by decide +kernel⟩
theorem wv_X4_51 : WV RX4 51 RX0 yX0_declareUse cX0_declareUse 3 (some .int) 2 := ⟨q_code_X0_declareUse, q_ml_X4_51, q_ins_X0_declareUse, q_sel_X0_declareUse, q_ini_X0, by decide +kernel⟩
theorem wv_X4_55 : WV RX4 55 RX0 yX0_closeSeason cX0_closeSeason 1 (some .int) 0 := ⟨q_code_X0_closeSeason, q_ml_X4_55, q_ins_X0_closeSeason, q_sel_X0_closeSeason, q_ini_X0, by decide +kernel⟩
theorem wv_X4_59 : WV RX4 59 RX0 yX0_payCoins cX0_payCoins 3 (some .int) 2 := ⟨q_code_X0_payCoins, q_ml_X4_59, q_ins_X0_payCoins, q_sel_X0_payCoins, q_ini_X0, by decide +kernel⟩
theorem wv_X4_62 : WV RX4 62 RX0 yX0_repairPoints cX0_repairPoints 5 (some .int) 1 := ⟨q_code_X0_repairPoints, q_ml_X4_62, q_ins_X0_repairPoints, q_sel_X0_repairPoints, q_ini_X0, by decide +kernel⟩
theorem wv_X4_65 : WV RX4 65 RX0 yX0_changeSetting cX0_changeSetting 4 (some .int) 2 := ⟨q_code_X0_changeSetting, q_ml_X4_65, q_ins_X0_changeSetting, q_sel_X0_changeSetting, q_ini_X0, by decide +kernel⟩
theorem wv_X4_68 : WV RX4 68 RX0 yX0_numberOfMember cX0_numberOfMember 3 (some .int) 2 := ⟨q_code_X0_numberOfMember, q_ml_X4_68, q_ins_X0_numberOfMember, q_sel_X0_numberOfMember, q_ini_X0, by decide +kernel⟩
theorem wv_X4_76 : WV RX4 76 RX0 yX0_numberOfAll cX0_numberOfAll 2 (some .int) 1 := ⟨q_code_X0_numberOfAll, q_ml_X4_76, q_ins_X0_numberOfAll, q_sel_X0_numberOfAll, q_ini_X0, by decide +kernel⟩
theorem wv_X4_79 : WV RX4 79 RX0 yX0_numberOfSeason cX0_numberOfSeason 3 (some .int) 2 := ⟨q_code_X0_numberOfSeason, q_ml_X4_79, q_ins_X0_numberOfSeason, q_sel_X0_numberOfSeason, q_ini_X0, by decide +kernel⟩
theorem wv_X4_82 : WV RX4 82 RX0 yX0_liftedGain cX0_liftedGain 3 (some .int) 2 := ⟨q_code_X0_liftedGain, q_ml_X4_82, q_ins_X0_liftedGain, q_sel_X0_liftedGain, q_ini_X0, by decide +kernel⟩
theorem wv_X4_85 : WV RX4 85 RX0 yX0_has cX0_has 2 (some .boolean) 1 := ⟨q_code_X0_has, q_ml_X4_85, q_ins_X0_has, q_sel_X0_has, q_ini_X0, by decide +kernel⟩
theorem wv_X4_89 : WV RX4 89 RX0 yX0_bestUnits cX0_bestUnits 7 (some .int) 1 := ⟨q_code_X0_bestUnits, q_ml_X4_89, q_ins_X0_bestUnits, q_sel_X0_bestUnits, q_ini_X0, by decide +kernel⟩
theorem wv_X4_92 : WV RX4 92 RX0 yX0_calmDown cX0_calmDown 2 (some .int) 0 := ⟨q_code_X0_calmDown, q_ml_X4_92, q_ins_X0_calmDown, q_sel_X0_calmDown, q_ini_X0, by decide +kernel⟩
theorem wv_X4_99 : WV RX4 99 RX0 yX0_allUnits cX0_allUnits 1 (some .int) 0 := ⟨q_code_X0_allUnits, q_ml_X4_99, q_ins_X0_allUnits, q_sel_X0_allUnits, q_ini_X0, by decide +kernel⟩
theorem wv_X4_102 : WV RX4 102 RX0 yX0_useBestForAll cX0_useBestForAll 4 (some .int) 0 := ⟨q_code_X0_useBestForAll, q_ml_X4_102, q_ins_X0_useBestForAll, q_sel_X0_useBestForAll, q_ini_X0, by decide +kernel⟩
theorem wv_X4_105 : WV RX4 105 RX0 yX0_endSeason cX0_endSeason 4 (some .int) 0 := ⟨q_code_X0_endSeason, q_ml_X4_105, q_ins_X0_endSeason, q_sel_X0_endSeason, q_ini_X0, by decide +kernel⟩
theorem wv_X4_111 : WV RX4 111 RX0 yX0_pointsFromFund cX0_pointsFromFund 1 (some .int) 0 := ⟨q_code_X0_pointsFromFund, q_ml_X4_111, q_ins_X0_pointsFromFund, q_sel_X0_pointsFromFund, q_ini_X0, by decide +kernel⟩
theorem wv_X4_114 : WV RX4 114 RX1 yX1_restoreLatest cX1_restoreLatest 3 none 1 := ⟨q_code_X1_restoreLatest, q_ml_X4_114, q_ins_X1_restoreLatest, q_sel_X1_restoreLatest, q_ini_X1, by decide +kernel⟩
theorem wv_X4_117 : WV RX4 117 RX3 yX3_append cX3_append 2 (some .int) 1 := ⟨q_code_X3_append, q_ml_X4_117, q_ins_X3_append, q_sel_X3_append, q_ini_X3, by decide +kernel⟩
theorem wv_X4_120 : WV RX4 120 RX4 yX4_rehearse cX4_rehearse 2 none 0 := ⟨q_code_X4_rehearse, q_ml_X4_120, q_ins_X4_rehearse, q_sel_X4_rehearse, q_ini_X4, by decide +kernel⟩
theorem wv_X4_135 : WV RX4 135 RX1 yX1_record cX1_record 3 none 1 := ⟨q_code_X1_record, q_ml_X4_135, q_ins_X1_record, q_sel_X1_record, q_ini_X1, by decide +kernel⟩
theorem wv_X4_138 : WV RX4 138 RX2 yX2_begin cX2_begin 1 none 0 := ⟨q_code_X2_begin, q_ml_X4_138, q_ins_X2_begin, q_sel_X2_begin, q_ini_X2, by decide +kernel⟩
theorem wv_X4_144 : WV RX4 144 RX3 yX3_readCommand cX3_readCommand 1 (some .boolean) 0 := ⟨q_code_X3_readCommand, q_ml_X4_144, q_ins_X3_readCommand, q_sel_X3_readCommand, q_ini_X3, by decide +kernel⟩
theorem wv_X4_148 : WV RX4 148 RX4 yX4_commandOnTrial cX4_commandOnTrial 1 (some .int) 0 := ⟨q_code_X4_commandOnTrial, q_ml_X4_148, q_ins_X4_commandOnTrial, q_sel_X4_commandOnTrial, q_ini_X4, by decide +kernel⟩
theorem wv_X4_151 : WV RX4 151 RX2 yX2_isStoppedBy cX2_isStoppedBy 2 (some .boolean) 1 := ⟨q_code_X2_isStoppedBy, q_ml_X4_151, q_ins_X2_isStoppedBy, q_sel_X2_isStoppedBy, q_ini_X2, by decide +kernel⟩
theorem wv_X5_39 : WV RX5 39 RX5 yX5_of cX5_of 3 (some .int) 2 := ⟨q_code_X5_of, q_ml_X5_39, q_ins_X5_of, q_sel_X5_of, q_ini_X5, by decide +kernel⟩
theorem wv_X5_43 : WV RX5 43 RX5 yX5_placeOf cX5_placeOf 2 (some .int) 1 := ⟨q_code_X5_placeOf, q_ml_X5_43, q_ins_X5_placeOf, q_sel_X5_placeOf, q_ini_X5, by decide +kernel⟩
theorem wv_X5_47 : WV RX5 47 RX5 yX5_ahead cX5_ahead 4 (some .int) 1 := ⟨q_code_X5_ahead, q_ml_X5_47, q_ins_X5_ahead, q_sel_X5_ahead, q_ini_X5, by decide +kernel⟩
theorem wv_X5_50 : WV RX5 50 RX5 yX5_damage cX5_damage 2 (some .int) 1 := ⟨q_code_X5_damage, q_ml_X5_50, q_ins_X5_damage, q_sel_X5_damage, q_ini_X5, by decide +kernel⟩
theorem ws_X5_53 : WS RX5 53 yX5_in cX5_in 3 (some .boolean) 3 := ⟨q_code_X5_in, q_ml_X5_53, q_sta_X5_in, q_ini_X5, by decide +kernel⟩
theorem wv_X5_57 : WV RX5 57 RX5 yX5_changes cX5_changes 2 none 0 := ⟨q_code_X5_changes, q_ml_X5_57, q_ins_X5_changes, q_sel_X5_changes, q_ini_X5, by decide +kernel⟩
theorem wv_X5_60 : WV RX5 60 RX5 yX5_puts cX5_puts 4 none 3 := ⟨q_code_X5_puts, q_ml_X5_60, q_ins_X5_puts, q_sel_X5_puts, q_ini_X5, by decide +kernel⟩
theorem wv_X5_64 : WV RX5 64 RX5 yX5_isMember cX5_isMember 2 (some .boolean) 1 := ⟨q_code_X5_isMember, q_ml_X5_64, q_ins_X5_isMember, q_sel_X5_isMember, q_ini_X5, by decide +kernel⟩
theorem wv_X5_68 : WV RX5 68 RX5 yX5_chargeFor cX5_chargeFor 4 (some .int) 2 := ⟨q_code_X5_chargeFor, q_ml_X5_68, q_ins_X5_chargeFor, q_sel_X5_chargeFor, q_ini_X5, by decide +kernel⟩
theorem wv_X5_71 : WV RX5 71 RX5 yX5_sum cX5_sum 4 (some .int) 1 := ⟨q_code_X5_sum, q_ml_X5_71, q_ins_X5_sum, q_sel_X5_sum, q_ini_X5, by decide +kernel⟩
theorem wv_X5_74 : WV RX5 74 RX5 yX5_outSet cX5_outSet 3 (some .int) 0 := ⟨q_code_X5_outSet, q_ml_X5_74, q_ins_X5_outSet, q_sel_X5_outSet, q_ini_X5, by decide +kernel⟩
theorem wv_X5_78 : WV RX5 78 RX5 yX5_keeps cX5_keeps 6 none 4 := ⟨q_code_X5_keeps, q_ml_X5_78, q_ins_X5_keeps, q_sel_X5_keeps, q_ini_X5, by decide +kernel⟩
theorem wv_X5_82 : WV RX5 82 RX5 yX5_excludes cX5_excludes 8 none 1 := ⟨q_code_X5_excludes, q_ml_X5_82, q_ins_X5_excludes, q_sel_X5_excludes, q_ini_X5, by decide +kernel⟩
theorem wv_X5_86 : WV RX5 86 RX5 yX5_ends cX5_ends 5 (some .int) 0 := ⟨q_code_X5_ends, q_ml_X5_86, q_ins_X5_ends, q_sel_X5_ends, q_ini_X5, by decide +kernel⟩
theorem wv_X5_92 : WV RX5 92 RX5 yX5_gainFor cX5_gainFor 3 (some .int) 2 := ⟨q_code_X5_gainFor, q_ml_X5_92, q_ins_X5_gainFor, q_sel_X5_gainFor, q_ini_X5, by decide +kernel⟩
theorem wv_X5_95 : WV RX5 95 RX5 yX5_best cX5_best 4 (some .int) 1 := ⟨q_code_X5_best, q_ml_X5_95, q_ins_X5_best, q_sel_X5_best, q_ini_X5, by decide +kernel⟩
theorem ws_X5_98 : WS RX5 98 yX5_copies cX5_copies 3 none 2 := ⟨q_code_X5_copies, q_ml_X5_98, q_sta_X5_copies, q_ini_X5, by decide +kernel⟩
theorem wv_X5_102 : WV RX5 102 RX5 yX5_turns cX5_turns 4 (some .boolean) 0 := ⟨q_code_X5_turns, q_ml_X5_102, q_ins_X5_turns, q_sel_X5_turns, q_ini_X5, by decide +kernel⟩
theorem wv_X5_109 : WV RX5 109 RX5 yX5_isAt cX5_isAt 3 (some .boolean) 2 := ⟨q_code_X5_isAt, q_ml_X5_109, q_ins_X5_isAt, q_sel_X5_isAt, q_ini_X5, by decide +kernel⟩
theorem wv_X5_113 : WV RX5 113 RX5 yX5_number cX5_number 5 (some .boolean) 2 := ⟨q_code_X5_number, q_ml_X5_113, q_ins_X5_number, q_sel_X5_number, q_ini_X5, by decide +kernel⟩
theorem wv_X5_116 : WV RX5 116 RX5 yX5_member cX5_member 4 (some .int) 1 := ⟨q_code_X5_member, q_ml_X5_116, q_ins_X5_member, q_sel_X5_member, q_ini_X5, by decide +kernel⟩
theorem wv_X5_119 : WV RX5 119 RX5 yX5_use cX5_use 3 (some .int) 2 := ⟨q_code_X5_use, q_ml_X5_119, q_ins_X5_use, q_sel_X5_use, q_ini_X5, by decide +kernel⟩
theorem wv_X5_122 : WV RX5 122 RX5 yX5_close cX5_close 1 (some .int) 0 := ⟨q_code_X5_close, q_ml_X5_122, q_ins_X5_close, q_sel_X5_close, q_ini_X5, by decide +kernel⟩
theorem wv_X5_125 : WV RX5 125 RX5 yX5_pay cX5_pay 3 (some .int) 2 := ⟨q_code_X5_pay, q_ml_X5_125, q_ins_X5_pay, q_sel_X5_pay, q_ini_X5, by decide +kernel⟩
theorem wv_X5_128 : WV RX5 128 RX5 yX5_repair cX5_repair 8 (some .int) 1 := ⟨q_code_X5_repair, q_ml_X5_128, q_ins_X5_repair, q_sel_X5_repair, q_ini_X5, by decide +kernel⟩
theorem wv_X5_134 : WV RX5 134 RX5 yX5_isForm cX5_isForm 3 (some .boolean) 1 := ⟨q_code_X5_isForm, q_ml_X5_134, q_ins_X5_isForm, q_sel_X5_isForm, q_ini_X5, by decide +kernel⟩
theorem wv_X5_137 : WV RX5 137 RX5 yX5_calls cX5_calls 2 (some .int) 1 := ⟨q_code_X5_calls, q_ml_X5_137, q_ins_X5_calls, q_sel_X5_calls, q_ini_X5, by decide +kernel⟩
theorem wv_X5_143 : WV RX5 143 RX5 yX5_plays cX5_plays 5 (some .int) 0 := ⟨q_code_X5_plays, q_ml_X5_143, q_ins_X5_plays, q_sel_X5_plays, q_ini_X5, by decide +kernel⟩
theorem wn_X0_43 : Cond.code yX4_copyRow cX4_copyRow 2 none ∈ TT ∧ Cond.static yX4_copyRow ∈ TT ∧ Cond.initialized yX4_copyRow.cls ∈ TT ∧ (yX4_copyRow.cls ≠ "java/lang/invoke/MethodHandle" ∧ yX4_copyRow.cls ≠ "java/lang/invoke/VarHandle" ∧ (parseMethodDescriptor yX4_copyRow.desc).map (fun d => d.parameters.length) = some 2) := ⟨q_code_X4_copyRow, q_sta_X4_copyRow, q_ini_X4, by decide +kernel⟩
theorem wn_X0_68 : Cond.code yX4_sumOf cX4_sumOf 3 (some .int) ∈ TT ∧ Cond.static yX4_sumOf ∈ TT ∧ Cond.initialized yX4_sumOf.cls ∈ TT ∧ (yX4_sumOf.cls ≠ "java/lang/invoke/MethodHandle" ∧ yX4_sumOf.cls ≠ "java/lang/invoke/VarHandle" ∧ (parseMethodDescriptor yX4_sumOf.desc).map (fun d => d.parameters.length) = some 1) := ⟨q_code_X4_sumOf, q_sta_X4_sumOf, q_ini_X4, by decide +kernel⟩
theorem wn_X0_90 : Cond.code yX4_isUnits cX4_isUnits 1 (some .boolean) ∈ TT ∧ Cond.static yX4_isUnits ∈ TT ∧ Cond.initialized yX4_isUnits.cls ∈ TT ∧ (yX4_isUnits.cls ≠ "java/lang/invoke/MethodHandle" ∧ yX4_isUnits.cls ≠ "java/lang/invoke/VarHandle" ∧ (parseMethodDescriptor yX4_isUnits.desc).map (fun d => d.parameters.length) = some 1) := ⟨q_code_X4_isUnits, q_sta_X4_isUnits, q_ini_X4, by decide +kernel⟩
theorem wn_X0_114 : Cond.code yX4_quotient cX4_quotient 2 (some .int) ∈ TT ∧ Cond.static yX4_quotient ∈ TT ∧ Cond.initialized yX4_quotient.cls ∈ TT ∧ (yX4_quotient.cls ≠ "java/lang/invoke/MethodHandle" ∧ yX4_quotient.cls ≠ "java/lang/invoke/VarHandle" ∧ (parseMethodDescriptor yX4_quotient.desc).map (fun d => d.parameters.length) = some 2) := ⟨q_code_X4_quotient, q_sta_X4_quotient, q_ini_X4, by decide +kernel⟩
