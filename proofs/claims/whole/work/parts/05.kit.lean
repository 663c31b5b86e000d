theorem zbmod {n : Int} (h1 : -2 ^ 31 ≤ n) (h2 : n < 2 ^ 31) : n.bmod (2 ^ 32) = n := by
  apply Int.bmod_eq_of_le <;> omega
theorem i32_rem2 (x y : Int32) : (x - x / y * y).toInt = x.toInt.tmod y.toInt := by
  have a := (x % y).toInt_lt
  have b := (x % y).le_toInt
  rw [Int32.toInt_mod] at a b
  rw [Int32.toInt_sub, Int32.toInt_mul, Int32.toInt_div, Int.bmod_mul_bmod, Int.sub_bmod_bmod, Int.mul_comm, ← Int.tmod_def]
  exact zbmod b a
theorem i32_remE (x y : Int32) : x - x / y * y = x % y := Int32.toInt_inj.mp (by rw [i32_rem2, Int32.toInt_mod])
/-- the words of a virtual call -/
def WV (own : String) (idx : Nat) (C : String) (z : MethodName) (bz : ByteArray) (nz : Nat) (rz : Option FieldType) (n : Nat) : Prop :=
  Cond.code z bz nz rz ∈ TT ∧ Cond.methodLink own idx z ∈ TT ∧ Cond.instanceMethod z ∈ TT ∧ Cond.selects C z z ∈ TT ∧ Cond.initialized C ∈ TT ∧ (z.cls = C ∧ z.cls ≠ "java/lang/invoke/MethodHandle" ∧ z.cls ≠ "java/lang/invoke/VarHandle" ∧ (parseMethodDescriptor z.desc).map (fun d => d.parameters.length) = some n)
theorem WV.good {own : String} {idx : Nat} {C : String} {z : MethodName} {bz : ByteArray} {nz : Nat} {rz : Option FieldType} {n : Nat} (h : WV own idx C z bz nz rz n) : GoodIn TT (wsV own idx C z (Cond.code z bz nz rz :: TT)) := by
  obtain ⟨h1, h2, h3, h4, h5, -⟩ := h
  refine goodIn_ap (tt_in (fun w hw => ?_)) (tt_code h1)
  simp only [List.mem_cons, List.not_mem_nil, or_false] at hw
  rcases hw with rfl | rfl | rfl | rfl <;> assumption
/-- the words of a static call -/
def WS (own : String) (idx : Nat) (z : MethodName) (bz : ByteArray) (nz : Nat) (rz : Option FieldType) (n : Nat) : Prop :=
  Cond.code z bz nz rz ∈ TT ∧ Cond.methodLink own idx z ∈ TT ∧ Cond.static z ∈ TT ∧ Cond.initialized z.cls ∈ TT ∧ (z.cls ≠ "java/lang/invoke/MethodHandle" ∧ z.cls ≠ "java/lang/invoke/VarHandle" ∧ (parseMethodDescriptor z.desc).map (fun d => d.parameters.length) = some n)
/-- the nest's links -/
def NK (U : State) : Prop := va_Nw (.methodLinkNest RX4 9 yX0_init RX4) U ∧ va_Nw (.methodLinkNest RX1 17 yX0_init RX4) U ∧ va_Nw (.methodLinkNest RX4 28 yX3_init RX4) U ∧ va_Nw (.methodLinkNest RX4 35 yX2_init RX4) U ∧ va_Nw (.methodLinkNest RX0 43 yX4_copyRow RX4) U ∧ va_Nw (.methodLinkNest RX0 90 yX4_isUnits RX4) U ∧ va_Nw (.methodLinkNest RX0 68 yX4_sumOf RX4) U ∧ va_Nw (.methodLinkNest RX0 114 yX4_quotient RX4) U ∧ va_Nw (.fieldLinkNest RX0 99 RX4 "SETTING_LEAST" "[I" RX4) U ∧ va_Nw (.fieldLinkNest RX0 102 RX4 "SETTING_MOST" "[I" RX4) U
theorem NK.warm {s U : State} (hW : s.WarmedH U.vm) (h : NK s) : NK U := by
  obtain ⟨h1, h2, h3, h4, h5, h6, h7, h8, h9, h10⟩ := h
  exact ⟨h1.warmM hW, h2.warmM hW, h3.warmM hW, h4.warmM hW, h5.warmM hW, h6.warmM hW, h7.warmM hW, h8.warmM hW, h9.warmF hW, h10.warmF hW⟩
theorem NK.same {s U : State} (e : s.vm = U.vm) (h : NK s) : NK U := by
  obtain ⟨h1, h2, h3, h4, h5, h6, h7, h8, h9, h10⟩ := h
  exact ⟨h1.same rfl e, h2.same rfl e, h3.same rfl e, h4.same rfl e, h5.same rfl e, h6.same rfl e, h7.same rfl e, h8.same rfl e, h9.same rfl e, h10.same rfl e⟩
abbrev tyl (cI cH cO : ClassId) : List (ClassId × FieldType) := [(cI, .int), (cH, .char), (cO, .object RX0)]
def ltv {α β : Type} (v : β) (f : β → α) : α := f v
def bnd {α σ : Type} (q : Int32 × σ) (f : Int32 → σ → α) : α := f q.1 q.2
abbrev Cst : Type := Nat → Nat → Int32
def up (C : Cst) (k i : Nat) (x : Int32) : Cst := fun k' => if k' = k then upd (C k) i x else C k'
/-! contracts: a start in a world, an end in a world -/
def PW (D : va_G) (tys : List (ClassId × FieldType)) (X : State → Prop) (av : List Value) (sz : Nat) (ws : va_W) : Array Value → State → Prop := va_Pc av (fun U => U.heap.size = sz ∧ va_P D vwCl ws U.heap ∧ va_K D vwCl tys U ∧ va_D (fun _ => True) ws ∧ NK U ∧ X U)
def QI (D : va_G) (tys : List (ClassId × FieldType)) (ws : va_W) (sz : Nat) (r : Int32) (ws' : va_W) : Array Value → State → Outcome → State → Prop := va_Qi (fun (x : Int32) (_ : Unit) => x = r) (fun _ t => va_P D vwCl ws' t.heap ∧ va_K D vwCl tys t ∧ va_D (va_A ws sz) ws') (va_A ws sz)
def QV (D : va_G) (tys : List (ClassId × FieldType)) (ws : va_W) (sz : Nat) (ws' : va_W) : Array Value → State → Outcome → State → Prop := va_Qv (fun (_ : Unit) => True) (fun _ t => va_P D vwCl ws' t.heap ∧ va_K D vwCl tys t ∧ va_D (va_A ws sz) ws') (va_A ws sz)
abbrev XT : State → Prop := fun _ => True
abbrev rml (k : Nat) : Room := ({ frames := k, cells := 0, slots := 0, locals := 40 * k })
abbrev MI (l : Launch) (z : MethodName) (bz : ByteArray) (nz : Nat) (rz : Option FieldType) (k : Nat) (D : va_G) (tys : List (ClassId × FieldType)) (av : List Value) (ws : va_W) (r : Int32) (ws' : va_W) : Prop := ∀ sz : Nat, Met l z (Cond.code z bz nz rz :: TT) (rml k) (PW D tys XT av sz ws) (QI D tys ws sz r ws') 0 0 (va_A ws sz)
abbrev MV (l : Launch) (z : MethodName) (bz : ByteArray) (nz : Nat) (k : Nat) (D : va_G) (tys : List (ClassId × FieldType)) (av : List Value) (ws : va_W) (ws' : va_W) : Prop := ∀ sz : Nat, Met l z (Cond.code z bz nz none :: TT) (rml k) (PW D tys XT av sz ws) (QV D tys ws sz ws') 0 0 (va_A ws sz)
theorem pw_blind {D : va_G} {tys : List (ClassId × FieldType)} {av : List Value} {sz : Nat} {ws : va_W} : FrameBlind (PW D tys XT av sz ws) := fun a U g mk q => by
  obtain ⟨q0, q1, qP, qK, qD, qN, qX⟩ := q
  exact ⟨q0, q1, qP, va_K.moved (u := U) (U := U.calling g mk a) (Vm.Alike.refl U.vm) qK, qD, qN.same rfl, trivial⟩
/-- the fixed facts of a walk -/
def CX (p : Program) (s : State) (m : MethodId) (args : Array Value) (meth : Method) (c : Code) (cc : ByteArray) (nL : Nat) (own : String) (ret : Option FieldType) (D : va_G) (tys : List (ClassId × FieldType)) (A : Nat → Prop) : Prop := CallFix p m c cc nL s args TT own ∧ va_K D vwCl tys s ∧ NK s ∧ meth.sig.returnType = ret ∧ meth.locks = false ∧ ∀ q, s.heap.size ≤ q → A q
/-- a walk at pc, with locals lv and stack st, in the world ws, to an end that Kf says of the answer sp -/
def J {α : Type} (p : Program) (l : Launch) (e : Env) (R : Room) (s : State) (m : MethodId) (args : Array Value) (below : List Frame) (meth : Method) (c : Code) (nL : Nat) (D : va_G) (A : Nat → Prop) (kc ks : Nat) (Kf : α → State → Prop) (sp : α) (ws : va_W) (pc : Nat) (lv : List (Nat × Value)) (st : List Value) : Prop :=
  ∀ (ls : Array Slot) (H : Heap) (locs : List Loc), lv_has ls nL lv → va_P D vwCl ws H → va_D A ws → va_S A s.heap H locs → W p l e R s m args below meth c H locs kc ks (Kf sp) (F0 m pc ls st)
section JK
variable {α σ : Type} {p : Program} {l : Launch} {e : Env} {R : Room} {s : State} {m : MethodId} {args : Array Value} {below : List Frame} {meth : Method} {c : Code} {nL : Nat} {D : va_G} {A : Nat → Prop} {kc ks : Nat} {Kf : α → State → Prop} {sp : α} {ws : va_W} {pc pc' : Nat} {lv lv' : List (Nat × Value)} {rest : List Value}
variable {cc : ByteArray} {own : String} {ret : Option FieldType} {cI cH cO : ClassId}
theorem j_lv (ks' : List Nat) (hl : lv_pick lv ks' = lv') (k : J p l e R s m args below meth c nL D A kc ks Kf sp ws pc lv' rest) : J p l e R s m args below meth c nL D A kc ks Kf sp ws pc lv rest := fun ls H locs h => k ls H locs (lv_sub h ks' hl)
theorem j_eq {sp' : α} (h : sp = sp') (k : J p l e R s m args below meth c nL D A kc ks Kf sp' ws pc lv rest) : J p l e R s m args below meth c nL D A kc ks Kf sp ws pc lv rest := h ▸ k
theorem j_ws {ws' : va_W} (h : ws = ws') (k : J p l e R s m args below meth c nL D A kc ks Kf sp ws' pc lv rest) : J p l e R s m args below meth c nL D A kc ks Kf sp ws pc lv rest := h ▸ k
theorem j_iconst (X : CX p s m args meth c cc nL own ret D (tyl cI cH cO) A) {n : Int} {v : Int32} (hdg : decode cc pc = .ok (.iconst n, 1)) (hv : Int32.ofInt n = v)  (hpc : pc + 1 = pc') (k : J p l e R s m args below meth c nL D A kc ks Kf sp ws pc' lv (.int v :: rest)) : J p l e R s m args below meth c nL D A kc ks Kf sp ws pc lv rest := by
  subst hpc
  intro ls H locs hl hP hD hS
  obtain ⟨⟨hx, hb, hml, hown, hts⟩, hK, hN, hr, hlk, hA⟩ := X
  exact lv_iconst hx hb hdg hv (k ls H locs hl hP hD hS)
theorem j_bipush (X : CX p s m args meth c cc nL own ret D (tyl cI cH cO) A) {n : Int} {v : Int32} (hdg : decode cc pc = .ok (.bipush n, 2)) (hv : (Int8.ofInt n).toInt32 = v)  (hpc : pc + 2 = pc') (k : J p l e R s m args below meth c nL D A kc ks Kf sp ws pc' lv (.int v :: rest)) : J p l e R s m args below meth c nL D A kc ks Kf sp ws pc lv rest := by
  subst hpc
  intro ls H locs hl hP hD hS
  obtain ⟨⟨hx, hb, hml, hown, hts⟩, hK, hN, hr, hlk, hA⟩ := X
  exact lv_bipush hx hb hdg hv (k ls H locs hl hP hD hS)
theorem j_sipush (X : CX p s m args meth c cc nL own ret D (tyl cI cH cO) A) {n : Int} {v : Int32} (hdg : decode cc pc = .ok (.sipush n, 3)) (hv : (Int16.ofInt n).toInt32 = v)  (hpc : pc + 3 = pc') (k : J p l e R s m args below meth c nL D A kc ks Kf sp ws pc' lv (.int v :: rest)) : J p l e R s m args below meth c nL D A kc ks Kf sp ws pc lv rest := by
  subst hpc
  intro ls H locs hl hP hD hS
  obtain ⟨⟨hx, hb, hml, hown, hts⟩, hK, hN, hr, hlk, hA⟩ := X
  exact lv_sipush hx hb hdg hv (k ls H locs hl hP hD hS)
theorem j_iload_n (X : CX p s m args meth c cc nL own ret D (tyl cI cH cO) A) {kf : Fin 4} {i : Nat} {x : Int32} (q : Nat) (hdg : decode cc pc = .ok (.iload_n kf, 1)) (hi : (kf : Nat) = i) (hq : lv[q]? = some (i, .int x))  (hpc : pc + 1 = pc') (k : J p l e R s m args below meth c nL D A kc ks Kf sp ws pc' lv (.int x :: rest)) : J p l e R s m args below meth c nL D A kc ks Kf sp ws pc lv rest := by
  subst hpc
  intro ls H locs hl hP hD hS
  obtain ⟨⟨hx, hb, hml, hown, hts⟩, hK, hN, hr, hlk, hA⟩ := X
  exact lv_iload_n hx hb hdg hi (lv_at hl q hq) (k ls H locs hl hP hD hS)
theorem j_iload (X : CX p s m args meth c cc nL own ret D (tyl cI cH cO) A) {i : Nat} {x : Int32} (q : Nat) (hdg : decode cc pc = .ok (.iload i, 2)) (hq : lv[q]? = some (i, .int x))  (hpc : pc + 2 = pc') (k : J p l e R s m args below meth c nL D A kc ks Kf sp ws pc' lv (.int x :: rest)) : J p l e R s m args below meth c nL D A kc ks Kf sp ws pc lv rest := by
  subst hpc
  intro ls H locs hl hP hD hS
  obtain ⟨⟨hx, hb, hml, hown, hts⟩, hK, hN, hr, hlk, hA⟩ := X
  exact lv_iload hx hb hdg (lv_at hl q hq) (k ls H locs hl hP hD hS)
theorem j_aload_n (X : CX p s m args meth c cc nL own ret D (tyl cI cH cO) A) {kf : Fin 4} {i x : Nat} (q : Nat) (hdg : decode cc pc = .ok (.aload_n kf, 1)) (hi : (kf : Nat) = i) (hq : lv[q]? = some (i, .ref x))  (hpc : pc + 1 = pc') (k : J p l e R s m args below meth c nL D A kc ks Kf sp ws pc' lv (.ref x :: rest)) : J p l e R s m args below meth c nL D A kc ks Kf sp ws pc lv rest := by
  subst hpc
  intro ls H locs hl hP hD hS
  obtain ⟨⟨hx, hb, hml, hown, hts⟩, hK, hN, hr, hlk, hA⟩ := X
  exact lv_aload_n hx hb hdg hi (lv_at hl q hq) (k ls H locs hl hP hD hS)
theorem j_aload (X : CX p s m args meth c cc nL own ret D (tyl cI cH cO) A) {i x : Nat} (q : Nat) (hdg : decode cc pc = .ok (.aload i, 2)) (hq : lv[q]? = some (i, .ref x))  (hpc : pc + 2 = pc') (k : J p l e R s m args below meth c nL D A kc ks Kf sp ws pc' lv (.ref x :: rest)) : J p l e R s m args below meth c nL D A kc ks Kf sp ws pc lv rest := by
  subst hpc
  intro ls H locs hl hP hD hS
  obtain ⟨⟨hx, hb, hml, hown, hts⟩, hK, hN, hr, hlk, hA⟩ := X
  exact lv_aload hx hb hdg (lv_at hl q hq) (k ls H locs hl hP hD hS)
theorem j_iadd (X : CX p s m args meth c cc nL own ret D (tyl cI cH cO) A) {x y : Int32} (hdg : decode cc pc = .ok (.iadd, 1))  (hpc : pc + 1 = pc') (k : J p l e R s m args below meth c nL D A kc ks Kf sp ws pc' lv (.int (x + y) :: rest)) : J p l e R s m args below meth c nL D A kc ks Kf sp ws pc lv (.int y :: .int x :: rest) := by
  subst hpc
  intro ls H locs hl hP hD hS
  obtain ⟨⟨hx, hb, hml, hown, hts⟩, hK, hN, hr, hlk, hA⟩ := X
  exact lv_iadd hx hb hdg (k ls H locs hl hP hD hS)
theorem j_isub (X : CX p s m args meth c cc nL own ret D (tyl cI cH cO) A) {x y : Int32} (hdg : decode cc pc = .ok (.isub, 1))  (hpc : pc + 1 = pc') (k : J p l e R s m args below meth c nL D A kc ks Kf sp ws pc' lv (.int (x - y) :: rest)) : J p l e R s m args below meth c nL D A kc ks Kf sp ws pc lv (.int y :: .int x :: rest) := by
  subst hpc
  intro ls H locs hl hP hD hS
  obtain ⟨⟨hx, hb, hml, hown, hts⟩, hK, hN, hr, hlk, hA⟩ := X
  exact lv_isub hx hb hdg (k ls H locs hl hP hD hS)
theorem j_imul (X : CX p s m args meth c cc nL own ret D (tyl cI cH cO) A) {x y : Int32} (hdg : decode cc pc = .ok (.imul, 1))  (hpc : pc + 1 = pc') (k : J p l e R s m args below meth c nL D A kc ks Kf sp ws pc' lv (.int (x * y) :: rest)) : J p l e R s m args below meth c nL D A kc ks Kf sp ws pc lv (.int y :: .int x :: rest) := by
  subst hpc
  intro ls H locs hl hP hD hS
  obtain ⟨⟨hx, hb, hml, hown, hts⟩, hK, hN, hr, hlk, hA⟩ := X
  exact lv_imul hx hb hdg (k ls H locs hl hP hD hS)
theorem j_iand (X : CX p s m args meth c cc nL own ret D (tyl cI cH cO) A) {x y : Int32} (hdg : decode cc pc = .ok (.iand, 1))  (hpc : pc + 1 = pc') (k : J p l e R s m args below meth c nL D A kc ks Kf sp ws pc' lv (.int (x &&& y) :: rest)) : J p l e R s m args below meth c nL D A kc ks Kf sp ws pc lv (.int y :: .int x :: rest) := by
  subst hpc
  intro ls H locs hl hP hD hS
  obtain ⟨⟨hx, hb, hml, hown, hts⟩, hK, hN, hr, hlk, hA⟩ := X
  exact lv_iand hx hb hdg (k ls H locs hl hP hD hS)
theorem j_ior (X : CX p s m args meth c cc nL own ret D (tyl cI cH cO) A) {x y : Int32} (hdg : decode cc pc = .ok (.ior, 1))  (hpc : pc + 1 = pc') (k : J p l e R s m args below meth c nL D A kc ks Kf sp ws pc' lv (.int (x ||| y) :: rest)) : J p l e R s m args below meth c nL D A kc ks Kf sp ws pc lv (.int y :: .int x :: rest) := by
  subst hpc
  intro ls H locs hl hP hD hS
  obtain ⟨⟨hx, hb, hml, hown, hts⟩, hK, hN, hr, hlk, hA⟩ := X
  exact lv_ior hx hb hdg (k ls H locs hl hP hD hS)
theorem j_ishl (X : CX p s m args meth c cc nL own ret D (tyl cI cH cO) A) {x y : Int32} (hdg : decode cc pc = .ok (.ishl, 1))  (hpc : pc + 1 = pc') (k : J p l e R s m args below meth c nL D A kc ks Kf sp ws pc' lv (.int (x <<< (y &&& 31)) :: rest)) : J p l e R s m args below meth c nL D A kc ks Kf sp ws pc lv (.int y :: .int x :: rest) := by
  subst hpc
  intro ls H locs hl hP hD hS
  obtain ⟨⟨hx, hb, hml, hown, hts⟩, hK, hN, hr, hlk, hA⟩ := X
  exact lv_ishl hx hb hdg (k ls H locs hl hP hD hS)
theorem j_ishr (X : CX p s m args meth c cc nL own ret D (tyl cI cH cO) A) {x y : Int32} (hdg : decode cc pc = .ok (.ishr, 1))  (hpc : pc + 1 = pc') (k : J p l e R s m args below meth c nL D A kc ks Kf sp ws pc' lv (.int (x >>> (y &&& 31)) :: rest)) : J p l e R s m args below meth c nL D A kc ks Kf sp ws pc lv (.int y :: .int x :: rest) := by
  subst hpc
  intro ls H locs hl hP hD hS
  obtain ⟨⟨hx, hb, hml, hown, hts⟩, hK, hN, hr, hlk, hA⟩ := X
  exact lv_ishr hx hb hdg (k ls H locs hl hP hD hS)
theorem j_irem (X : CX p s m args meth c cc nL own ret D (tyl cI cH cO) A) {x y : Int32} (hdg : decode cc pc = .ok (.irem, 1)) (hne : ¬ y = 0)  (hpc : pc + 1 = pc') (k : J p l e R s m args below meth c nL D A kc ks Kf sp ws pc' lv (.int (x % y) :: rest)) : J p l e R s m args below meth c nL D A kc ks Kf sp ws pc lv (.int y :: .int x :: rest) := by
  subst hpc
  intro ls H locs hl hP hD hS
  obtain ⟨⟨hx, hb, hml, hown, hts⟩, hK, hN, hr, hlk, hA⟩ := X
  exact lv_irem hx hb hdg hne (by rw [i32_remE]; exact (k ls H locs hl hP hD hS))
theorem j_idiv (X : CX p s m args meth c cc nL own ret D (tyl cI cH cO) A) {x y : Int32} (hdg : decode cc pc = .ok (.idiv, 1)) (hne : ¬ y = 0)  (hpc : pc + 1 = pc') (k : J p l e R s m args below meth c nL D A kc ks Kf sp ws pc' lv (.int (x / y) :: rest)) : J p l e R s m args below meth c nL D A kc ks Kf sp ws pc lv (.int y :: .int x :: rest) := by
  subst hpc
  intro ls H locs hl hP hD hS
  obtain ⟨⟨hx, hb, hml, hown, hts⟩, hK, hN, hr, hlk, hA⟩ := X
  exact lv_idiv hx hb hdg hne (k ls H locs hl hP hD hS)
theorem j_dup (X : CX p s m args meth c cc nL own ret D (tyl cI cH cO) A) {v : Value} (hdg : decode cc pc = .ok (.dup, 1)) (hv : v.category = 1)  (hpc : pc + 1 = pc') (k : J p l e R s m args below meth c nL D A kc ks Kf sp ws pc' lv (v :: v :: rest)) : J p l e R s m args below meth c nL D A kc ks Kf sp ws pc lv (v :: rest) := by
  subst hpc
  intro ls H locs hl hP hD hS
  obtain ⟨⟨hx, hb, hml, hown, hts⟩, hK, hN, hr, hlk, hA⟩ := X
  exact lv_dup hx hb hdg hv (k ls H locs hl hP hD hS)
theorem j_pop (X : CX p s m args meth c cc nL own ret D (tyl cI cH cO) A) {v : Value} (hdg : decode cc pc = .ok (.pop, 1)) (hv : v.category = 1)  (hpc : pc + 1 = pc') (k : J p l e R s m args below meth c nL D A kc ks Kf sp ws pc' lv rest) : J p l e R s m args below meth c nL D A kc ks Kf sp ws pc lv (v :: rest) := by
  subst hpc
  intro ls H locs hl hP hD hS
  obtain ⟨⟨hx, hb, hml, hown, hts⟩, hK, hN, hr, hlk, hA⟩ := X
  exact lv_pop hx hb hdg hv (k ls H locs hl hP hD hS)
theorem j_dup2 (X : CX p s m args meth c cc nL own ret D (tyl cI cH cO) A) {v u : Value} (hdg : decode cc pc = .ok (.dup2, 1)) (hv : v.category = 1) (hu : u.category = 1)  (hpc : pc + 1 = pc') (k : J p l e R s m args below meth c nL D A kc ks Kf sp ws pc' lv (v :: u :: v :: u :: rest)) : J p l e R s m args below meth c nL D A kc ks Kf sp ws pc lv (v :: u :: rest) := by
  subst hpc
  intro ls H locs hl hP hD hS
  obtain ⟨⟨hx, hb, hml, hown, hts⟩, hK, hN, hr, hlk, hA⟩ := X
  exact lv_dup2_11 hx hb hdg hv hu (k ls H locs hl hP hD hS)
theorem j_dup_x1 (X : CX p s m args meth c cc nL own ret D (tyl cI cH cO) A) {v u : Value} (hdg : decode cc pc = .ok (.dup_x1, 1)) (hv : v.category = 1) (hu : u.category = 1)  (hpc : pc + 1 = pc') (k : J p l e R s m args below meth c nL D A kc ks Kf sp ws pc' lv (v :: u :: v :: rest)) : J p l e R s m args below meth c nL D A kc ks Kf sp ws pc lv (v :: u :: rest) := by
  subst hpc
  intro ls H locs hl hP hD hS
  obtain ⟨⟨hx, hb, hml, hown, hts⟩, hK, hN, hr, hlk, hA⟩ := X
  exact lv_dup_x1 hx hb hdg hv hu (k ls H locs hl hP hD hS)
theorem j_dup_x2 (X : CX p s m args meth c cc nL own ret D (tyl cI cH cO) A) {v u t : Value} (hdg : decode cc pc = .ok (.dup_x2, 1)) (hv : v.category = 1) (hu : u.category = 1) (ht : t.category = 1)  (hpc : pc + 1 = pc') (k : J p l e R s m args below meth c nL D A kc ks Kf sp ws pc' lv (v :: u :: t :: v :: rest)) : J p l e R s m args below meth c nL D A kc ks Kf sp ws pc lv (v :: u :: t :: rest) := by
  subst hpc
  intro ls H locs hl hP hD hS
  obtain ⟨⟨hx, hb, hml, hown, hts⟩, hK, hN, hr, hlk, hA⟩ := X
  exact lv_dup_x2 hx hb hdg hv hu ht (k ls H locs hl hP hD hS)
theorem j_i2c (X : CX p s m args meth c cc nL own ret D (tyl cI cH cO) A) {x v : Int32} (hdg : decode cc pc = .ok (.i2c, 1)) (hv : (x.toUInt32 % 65536).toInt32 = v)  (hpc : pc + 1 = pc') (k : J p l e R s m args below meth c nL D A kc ks Kf sp ws pc' lv (.int v :: rest)) : J p l e R s m args below meth c nL D A kc ks Kf sp ws pc lv (.int x :: rest) := by
  subst hpc
  intro ls H locs hl hP hD hS
  obtain ⟨⟨hx, hb, hml, hown, hts⟩, hK, hN, hr, hlk, hA⟩ := X
  exact lv_i2c hx hb hdg hv (k ls H locs hl hP hD hS)
theorem j_istore_n (X : CX p s m args meth c cc nL own ret D (tyl cI cH cO) A) {kf : Fin 4} {i : Nat} {x : Int32} (ks' : List Nat) (hdg : decode cc pc = .ok (.istore_n kf, 1)) (hi : (kf : Nat) = i) (hn : i < nL) (hl' : lv_pick ((i, Value.int x) :: lv.filter (fun q => !(q.1 == i) && !(q.1 + 1 == i && q.2.category == 2))) ks' = lv')  (hpc : pc + 1 = pc') (k : J p l e R s m args below meth c nL D A kc ks Kf sp ws pc' lv' rest) : J p l e R s m args below meth c nL D A kc ks Kf sp ws pc lv (.int x :: rest) := by
  subst hpc
  intro ls H locs hl hP hD hS
  obtain ⟨⟨hx, hb, hml, hown, hts⟩, hK, hN, hr, hlk, hA⟩ := X
  exact lv_istore_n hx hb hdg hi hl hn rfl (fun ls' h => k ls' H locs (lv_sub h ks' hl') hP hD hS)
theorem j_istore (X : CX p s m args meth c cc nL own ret D (tyl cI cH cO) A) {i : Nat} {x : Int32} (ks' : List Nat) (hdg : decode cc pc = .ok (.istore i, 2)) (hn : i < nL) (hl' : lv_pick ((i, Value.int x) :: lv.filter (fun q => !(q.1 == i) && !(q.1 + 1 == i && q.2.category == 2))) ks' = lv')  (hpc : pc + 2 = pc') (k : J p l e R s m args below meth c nL D A kc ks Kf sp ws pc' lv' rest) : J p l e R s m args below meth c nL D A kc ks Kf sp ws pc lv (.int x :: rest) := by
  subst hpc
  intro ls H locs hl hP hD hS
  obtain ⟨⟨hx, hb, hml, hown, hts⟩, hK, hN, hr, hlk, hA⟩ := X
  exact lv_istore hx hb hdg hl hn rfl (fun ls' h => k ls' H locs (lv_sub h ks' hl') hP hD hS)
theorem j_istore_nL (X : CX p s m args meth c cc nL own ret D (tyl cI cH cO) A) {kf : Fin 4} {i : Nat} {x : Int32} {f : Int32 → α} (lvf : Int32 → List (Nat × Value)) (ks' : List Nat) (hdg : decode cc pc = .ok (.istore_n kf, 1)) (hi : (kf : Nat) = i) (hn : i < nL) (hl' : ∀ y, lv_pick ((i, Value.int y) :: lv.filter (fun q => !(q.1 == i) && !(q.1 + 1 == i && q.2.category == 2))) ks' = lvf y) (hpc : pc + 1 = pc') (k : ∀ y, y = x → J p l e R s m args below meth c nL D A kc ks Kf (f y) ws pc' (lvf y) rest) : J p l e R s m args below meth c nL D A kc ks Kf (ltv x f) ws pc lv (.int x :: rest) := by
  subst hpc
  intro ls H locs hl hP hD hS
  obtain ⟨⟨hx, hb, hml, hown, hts⟩, hK, hN, hr, hlk, hA⟩ := X
  exact lv_istore_n hx hb hdg hi hl hn rfl (fun ls' h => k x rfl ls' H locs (lv_sub h ks' (hl' x)) hP hD hS)
theorem j_istoreL (X : CX p s m args meth c cc nL own ret D (tyl cI cH cO) A) {i : Nat} {x : Int32} {f : Int32 → α} (lvf : Int32 → List (Nat × Value)) (ks' : List Nat) (hdg : decode cc pc = .ok (.istore i, 2)) (hn : i < nL) (hl' : ∀ y, lv_pick ((i, Value.int y) :: lv.filter (fun q => !(q.1 == i) && !(q.1 + 1 == i && q.2.category == 2))) ks' = lvf y) (hpc : pc + 2 = pc') (k : ∀ y, y = x → J p l e R s m args below meth c nL D A kc ks Kf (f y) ws pc' (lvf y) rest) : J p l e R s m args below meth c nL D A kc ks Kf (ltv x f) ws pc lv (.int x :: rest) := by
  subst hpc
  intro ls H locs hl hP hD hS
  obtain ⟨⟨hx, hb, hml, hown, hts⟩, hK, hN, hr, hlk, hA⟩ := X
  exact lv_istore hx hb hdg hl hn rfl (fun ls' h => k x rfl ls' H locs (lv_sub h ks' (hl' x)) hP hD hS)
theorem j_iinc (X : CX p s m args meth c cc nL own ret D (tyl cI cH cO) A) {i q : Nat} {n : Int} {x v : Int32} (ks' : List Nat) (hdg : decode cc pc = .ok (.iinc i n, 3)) (hq : lv[q]? = some (i, .int x)) (hv : x + Int32.ofInt n = v) (hn : i < nL) (hl' : lv_pick ((i, Value.int v) :: lv.filter (fun q => !(q.1 == i) && !(q.1 + 1 == i && q.2.category == 2))) ks' = lv') (hpc : pc + 3 = pc') (k : J p l e R s m args below meth c nL D A kc ks Kf sp ws pc' lv' rest) : J p l e R s m args below meth c nL D A kc ks Kf sp ws pc lv rest := by
  subst hpc
  intro ls H locs hl hP hD hS
  obtain ⟨⟨hx, hb, hml, hown, hts⟩, hK, hN, hr, hlk, hA⟩ := X
  exact lv_iinc hx hb hdg hl hq hv hn rfl (fun ls' h => k ls' H locs (lv_sub h ks' hl') hP hD hS)
theorem j_iincL (X : CX p s m args meth c cc nL own ret D (tyl cI cH cO) A) {i q : Nat} {n : Int} {x v : Int32} {f : Int32 → α} (lvf : Int32 → List (Nat × Value)) (ks' : List Nat) (hdg : decode cc pc = .ok (.iinc i n, 3)) (hq : lv[q]? = some (i, .int x)) (hv : x + Int32.ofInt n = v) (hn : i < nL) (hl' : ∀ y, lv_pick ((i, Value.int y) :: lv.filter (fun q => !(q.1 == i) && !(q.1 + 1 == i && q.2.category == 2))) ks' = lvf y) (hpc : pc + 3 = pc') (k : ∀ y, y = v → J p l e R s m args below meth c nL D A kc ks Kf (f y) ws pc' (lvf y) rest) : J p l e R s m args below meth c nL D A kc ks Kf (ltv v f) ws pc lv rest := by
  subst hpc
  intro ls H locs hl hP hD hS
  obtain ⟨⟨hx, hb, hml, hown, hts⟩, hK, hN, hr, hlk, hA⟩ := X
  exact lv_iinc hx hb hdg hl hq hv hn rfl (fun ls' h => k v rfl ls' H locs (lv_sub h ks' (hl' v)) hP hD hS)
theorem j_goto (X : CX p s m args meth c cc nL own ret D (tyl cI cH cO) A) {off : Int} (hdg : decode cc pc = .ok (.goto off, 3)) (ht : (pc : Int) + off = (pc' : Int)) (k : J p l e R s m args below meth c nL D A kc ks Kf sp ws pc' lv rest) : J p l e R s m args below meth c nL D A kc ks Kf sp ws pc lv rest := by
  intro ls H locs hl hP hD hS
  obtain ⟨⟨hx, hb, hml, hown, hts⟩, hK, hN, hr, hlk, hA⟩ := X
  exact lv_goto hx hb hdg ht (k ls H locs hl hP hD hS)
theorem j_if_eq (X : CX p s m args meth c cc nL own ret D (tyl cI cH cO) A) {x : Int32} {off : Int} {tgt : Nat} {A1 B1 : α} (hdg : decode cc pc = .ok (.ifCond .eq off, 3)) (ht : (pc : Int) + off = (tgt : Int)) (hpc : pc + 3 = pc') (k1 : x = 0 → J p l e R s m args below meth c nL D A kc ks Kf A1 ws tgt lv rest) (k2 : ¬ (x = 0) → J p l e R s m args below meth c nL D A kc ks Kf B1 ws pc' lv rest) : J p l e R s m args below meth c nL D A kc ks Kf (if x = 0 then A1 else B1) ws pc lv (.int x :: rest) := by
  subst hpc
  intro ls H locs hl hP hD hS
  obtain ⟨⟨hx, hb, hml, hown, hts⟩, hK, hN, hr, hlk, hA⟩ := X
  refine lv_if_eq hx hb hdg ht (fun h => ?_) (fun h => ?_)
  · rw [if_pos h]; exact k1 h ls H locs hl hP hD hS
  · rw [if_neg h]; exact k2 h ls H locs hl hP hD hS
theorem j_icmp_eq (X : CX p s m args meth c cc nL own ret D (tyl cI cH cO) A) {x y : Int32} {off : Int} {tgt : Nat} {A1 B1 : α} (hdg : decode cc pc = .ok (.if_icmp .eq off, 3)) (ht : (pc : Int) + off = (tgt : Int)) (hpc : pc + 3 = pc') (k1 : x = y → J p l e R s m args below meth c nL D A kc ks Kf A1 ws tgt lv rest) (k2 : ¬ (x = y) → J p l e R s m args below meth c nL D A kc ks Kf B1 ws pc' lv rest) : J p l e R s m args below meth c nL D A kc ks Kf (if x = y then A1 else B1) ws pc lv (.int y :: .int x :: rest) := by
  subst hpc
  intro ls H locs hl hP hD hS
  obtain ⟨⟨hx, hb, hml, hown, hts⟩, hK, hN, hr, hlk, hA⟩ := X
  refine lv_icmp_eq hx hb hdg ht (fun h => ?_) (fun h => ?_)
  · rw [if_pos h]; exact k1 h ls H locs hl hP hD hS
  · rw [if_neg h]; exact k2 h ls H locs hl hP hD hS
theorem j_if_ne (X : CX p s m args meth c cc nL own ret D (tyl cI cH cO) A) {x : Int32} {off : Int} {tgt : Nat} {A1 B1 : α} (hdg : decode cc pc = .ok (.ifCond .ne off, 3)) (ht : (pc : Int) + off = (tgt : Int)) (hpc : pc + 3 = pc') (k1 : ¬ x = 0 → J p l e R s m args below meth c nL D A kc ks Kf A1 ws tgt lv rest) (k2 : ¬ (¬ x = 0) → J p l e R s m args below meth c nL D A kc ks Kf B1 ws pc' lv rest) : J p l e R s m args below meth c nL D A kc ks Kf (if ¬ x = 0 then A1 else B1) ws pc lv (.int x :: rest) := by
  subst hpc
  intro ls H locs hl hP hD hS
  obtain ⟨⟨hx, hb, hml, hown, hts⟩, hK, hN, hr, hlk, hA⟩ := X
  refine lv_if_ne hx hb hdg ht (fun h => ?_) (fun h => ?_)
  · rw [if_pos h]; exact k1 h ls H locs hl hP hD hS
  · rw [if_neg (fun q => q h)]; exact k2 (fun q => q h) ls H locs hl hP hD hS
theorem j_icmp_ne (X : CX p s m args meth c cc nL own ret D (tyl cI cH cO) A) {x y : Int32} {off : Int} {tgt : Nat} {A1 B1 : α} (hdg : decode cc pc = .ok (.if_icmp .ne off, 3)) (ht : (pc : Int) + off = (tgt : Int)) (hpc : pc + 3 = pc') (k1 : ¬ x = y → J p l e R s m args below meth c nL D A kc ks Kf A1 ws tgt lv rest) (k2 : ¬ (¬ x = y) → J p l e R s m args below meth c nL D A kc ks Kf B1 ws pc' lv rest) : J p l e R s m args below meth c nL D A kc ks Kf (if ¬ x = y then A1 else B1) ws pc lv (.int y :: .int x :: rest) := by
  subst hpc
  intro ls H locs hl hP hD hS
  obtain ⟨⟨hx, hb, hml, hown, hts⟩, hK, hN, hr, hlk, hA⟩ := X
  refine lv_icmp_ne hx hb hdg ht (fun h => ?_) (fun h => ?_)
  · rw [if_pos h]; exact k1 h ls H locs hl hP hD hS
  · rw [if_neg (fun q => q h)]; exact k2 (fun q => q h) ls H locs hl hP hD hS
theorem j_if_lt (X : CX p s m args meth c cc nL own ret D (tyl cI cH cO) A) {x : Int32} {off : Int} {tgt : Nat} {A1 B1 : α} (hdg : decode cc pc = .ok (.ifCond .lt off, 3)) (ht : (pc : Int) + off = (tgt : Int)) (hpc : pc + 3 = pc') (k1 : x < 0 → J p l e R s m args below meth c nL D A kc ks Kf A1 ws tgt lv rest) (k2 : ¬ (x < 0) → J p l e R s m args below meth c nL D A kc ks Kf B1 ws pc' lv rest) : J p l e R s m args below meth c nL D A kc ks Kf (if x < 0 then A1 else B1) ws pc lv (.int x :: rest) := by
  subst hpc
  intro ls H locs hl hP hD hS
  obtain ⟨⟨hx, hb, hml, hown, hts⟩, hK, hN, hr, hlk, hA⟩ := X
  refine lv_if_lt hx hb hdg ht (fun h => ?_) (fun h => ?_)
  · rw [if_pos h]; exact k1 h ls H locs hl hP hD hS
  · rw [if_neg h]; exact k2 h ls H locs hl hP hD hS
theorem j_icmp_lt (X : CX p s m args meth c cc nL own ret D (tyl cI cH cO) A) {x y : Int32} {off : Int} {tgt : Nat} {A1 B1 : α} (hdg : decode cc pc = .ok (.if_icmp .lt off, 3)) (ht : (pc : Int) + off = (tgt : Int)) (hpc : pc + 3 = pc') (k1 : x < y → J p l e R s m args below meth c nL D A kc ks Kf A1 ws tgt lv rest) (k2 : ¬ (x < y) → J p l e R s m args below meth c nL D A kc ks Kf B1 ws pc' lv rest) : J p l e R s m args below meth c nL D A kc ks Kf (if x < y then A1 else B1) ws pc lv (.int y :: .int x :: rest) := by
  subst hpc
  intro ls H locs hl hP hD hS
  obtain ⟨⟨hx, hb, hml, hown, hts⟩, hK, hN, hr, hlk, hA⟩ := X
  refine lv_icmp_lt hx hb hdg ht (fun h => ?_) (fun h => ?_)
  · rw [if_pos h]; exact k1 h ls H locs hl hP hD hS
  · rw [if_neg h]; exact k2 h ls H locs hl hP hD hS
theorem j_if_ge (X : CX p s m args meth c cc nL own ret D (tyl cI cH cO) A) {x : Int32} {off : Int} {tgt : Nat} {A1 B1 : α} (hdg : decode cc pc = .ok (.ifCond .ge off, 3)) (ht : (pc : Int) + off = (tgt : Int)) (hpc : pc + 3 = pc') (k1 : 0 ≤ x → J p l e R s m args below meth c nL D A kc ks Kf A1 ws tgt lv rest) (k2 : ¬ (0 ≤ x) → J p l e R s m args below meth c nL D A kc ks Kf B1 ws pc' lv rest) : J p l e R s m args below meth c nL D A kc ks Kf (if 0 ≤ x then A1 else B1) ws pc lv (.int x :: rest) := by
  subst hpc
  intro ls H locs hl hP hD hS
  obtain ⟨⟨hx, hb, hml, hown, hts⟩, hK, hN, hr, hlk, hA⟩ := X
  refine lv_if_ge hx hb hdg ht (fun h => ?_) (fun h => ?_)
  · rw [if_pos h]; exact k1 h ls H locs hl hP hD hS
  · rw [if_neg h]; exact k2 h ls H locs hl hP hD hS
theorem j_icmp_ge (X : CX p s m args meth c cc nL own ret D (tyl cI cH cO) A) {x y : Int32} {off : Int} {tgt : Nat} {A1 B1 : α} (hdg : decode cc pc = .ok (.if_icmp .ge off, 3)) (ht : (pc : Int) + off = (tgt : Int)) (hpc : pc + 3 = pc') (k1 : y ≤ x → J p l e R s m args below meth c nL D A kc ks Kf A1 ws tgt lv rest) (k2 : ¬ (y ≤ x) → J p l e R s m args below meth c nL D A kc ks Kf B1 ws pc' lv rest) : J p l e R s m args below meth c nL D A kc ks Kf (if y ≤ x then A1 else B1) ws pc lv (.int y :: .int x :: rest) := by
  subst hpc
  intro ls H locs hl hP hD hS
  obtain ⟨⟨hx, hb, hml, hown, hts⟩, hK, hN, hr, hlk, hA⟩ := X
  refine lv_icmp_ge hx hb hdg ht (fun h => ?_) (fun h => ?_)
  · rw [if_pos h]; exact k1 h ls H locs hl hP hD hS
  · rw [if_neg h]; exact k2 h ls H locs hl hP hD hS
theorem j_if_gt (X : CX p s m args meth c cc nL own ret D (tyl cI cH cO) A) {x : Int32} {off : Int} {tgt : Nat} {A1 B1 : α} (hdg : decode cc pc = .ok (.ifCond .gt off, 3)) (ht : (pc : Int) + off = (tgt : Int)) (hpc : pc + 3 = pc') (k1 : 0 < x → J p l e R s m args below meth c nL D A kc ks Kf A1 ws tgt lv rest) (k2 : ¬ (0 < x) → J p l e R s m args below meth c nL D A kc ks Kf B1 ws pc' lv rest) : J p l e R s m args below meth c nL D A kc ks Kf (if 0 < x then A1 else B1) ws pc lv (.int x :: rest) := by
  subst hpc
  intro ls H locs hl hP hD hS
  obtain ⟨⟨hx, hb, hml, hown, hts⟩, hK, hN, hr, hlk, hA⟩ := X
  refine lv_if_gt hx hb hdg ht (fun h => ?_) (fun h => ?_)
  · rw [if_pos h]; exact k1 h ls H locs hl hP hD hS
  · rw [if_neg h]; exact k2 h ls H locs hl hP hD hS
theorem j_icmp_gt (X : CX p s m args meth c cc nL own ret D (tyl cI cH cO) A) {x y : Int32} {off : Int} {tgt : Nat} {A1 B1 : α} (hdg : decode cc pc = .ok (.if_icmp .gt off, 3)) (ht : (pc : Int) + off = (tgt : Int)) (hpc : pc + 3 = pc') (k1 : y < x → J p l e R s m args below meth c nL D A kc ks Kf A1 ws tgt lv rest) (k2 : ¬ (y < x) → J p l e R s m args below meth c nL D A kc ks Kf B1 ws pc' lv rest) : J p l e R s m args below meth c nL D A kc ks Kf (if y < x then A1 else B1) ws pc lv (.int y :: .int x :: rest) := by
  subst hpc
  intro ls H locs hl hP hD hS
  obtain ⟨⟨hx, hb, hml, hown, hts⟩, hK, hN, hr, hlk, hA⟩ := X
  refine lv_icmp_gt hx hb hdg ht (fun h => ?_) (fun h => ?_)
  · rw [if_pos h]; exact k1 h ls H locs hl hP hD hS
  · rw [if_neg h]; exact k2 h ls H locs hl hP hD hS
theorem j_if_le (X : CX p s m args meth c cc nL own ret D (tyl cI cH cO) A) {x : Int32} {off : Int} {tgt : Nat} {A1 B1 : α} (hdg : decode cc pc = .ok (.ifCond .le off, 3)) (ht : (pc : Int) + off = (tgt : Int)) (hpc : pc + 3 = pc') (k1 : x ≤ 0 → J p l e R s m args below meth c nL D A kc ks Kf A1 ws tgt lv rest) (k2 : ¬ (x ≤ 0) → J p l e R s m args below meth c nL D A kc ks Kf B1 ws pc' lv rest) : J p l e R s m args below meth c nL D A kc ks Kf (if x ≤ 0 then A1 else B1) ws pc lv (.int x :: rest) := by
  subst hpc
  intro ls H locs hl hP hD hS
  obtain ⟨⟨hx, hb, hml, hown, hts⟩, hK, hN, hr, hlk, hA⟩ := X
  refine lv_if_le hx hb hdg ht (fun h => ?_) (fun h => ?_)
  · rw [if_pos h]; exact k1 h ls H locs hl hP hD hS
  · rw [if_neg h]; exact k2 h ls H locs hl hP hD hS
theorem j_icmp_le (X : CX p s m args meth c cc nL own ret D (tyl cI cH cO) A) {x y : Int32} {off : Int} {tgt : Nat} {A1 B1 : α} (hdg : decode cc pc = .ok (.if_icmp .le off, 3)) (ht : (pc : Int) + off = (tgt : Int)) (hpc : pc + 3 = pc') (k1 : x ≤ y → J p l e R s m args below meth c nL D A kc ks Kf A1 ws tgt lv rest) (k2 : ¬ (x ≤ y) → J p l e R s m args below meth c nL D A kc ks Kf B1 ws pc' lv rest) : J p l e R s m args below meth c nL D A kc ks Kf (if x ≤ y then A1 else B1) ws pc lv (.int y :: .int x :: rest) := by
  subst hpc
  intro ls H locs hl hP hD hS
  obtain ⟨⟨hx, hb, hml, hown, hts⟩, hK, hN, hr, hlk, hA⟩ := X
  refine lv_icmp_le hx hb hdg ht (fun h => ?_) (fun h => ?_)
  · rw [if_pos h]; exact k1 h ls H locs hl hP hD hS
  · rw [if_neg h]; exact k2 h ls H locs hl hP hD hS
theorem j_null (X : CX p s m args meth c cc nL own ret D (tyl cI cH cO) A) {v : Nat} {off : Int} {tgt : Nat} (hdg : decode cc pc = .ok (.ifnull off, 3)) (hpc : pc + 3 = pc') (k : J p l e R s m args below meth c nL D A kc ks Kf sp ws pc' lv rest) : J p l e R s m args below meth c nL D A kc ks Kf sp ws pc lv (.ref v :: rest) := by
  subst hpc
  intro ls H locs hl hP hD hS
  obtain ⟨⟨hx, hb, hml, hown, hts⟩, hK, hN, hr, hlk, hA⟩ := X
  exact lv_ifnull hx hb hdg (k ls H locs hl hP hD hS)
theorem j_get (X : CX p s m args meth c cc nL own ret D (tyl cI cH cO) A) {C : String} {T : u_T} {N ci : Nat} (hin : ∀ w ∈ u_ws C T N, w ∈ TT) (hc : vwCl[ci]? = some (C, T, N)) {a index : Nat} {v : Value} {fs : List Value} (q0 k : Nat) (hlink : Cond.fieldLink own index (T k).1 (T k).2.1 (T k).2.2.1 ∈ TT) (hk : k < N) (he : ws[q0]? = some (a, .inr (ci, fs))) (hv : fs[k]? = some v) (hdg : decode cc pc = .ok (.getfield index, 3)) (hpc : pc + 3 = pc') (kk : J p l e R s m args below meth c nL D A kc ks Kf sp ws pc' lv (v :: rest)) : J p l e R s m args below meth c nL D A kc ks Kf sp ws pc lv (.ref a :: rest) := by
  subst hpc
  intro ls H locs hl hP hD hS
  obtain ⟨⟨hx, hb, hml, hown, hts⟩, hK, hN, hr, hlk, hA⟩ := X
  exact va_get hx hb hts hin hown hK hP q0 he hc k hk (hts _ hlink) (fun _ h9 => h9) hv hdg (kk ls H locs hl hP hD hS)
theorem j_put (X : CX p s m args meth c cc nL own ret D (tyl cI cH cO) A) {C : String} {T : u_T} {N ci : Nat} (hin : ∀ w ∈ u_ws C T N, w ∈ TT) (hc : vwCl[ci]? = some (C, T, N)) {ty0 : Nat → FieldType} (hty : ∀ k, k < N → parseFieldDescriptor (T k).2.2.1 = some (ty0 k)) (hnm : ∀ a, a < N → ∀ b, b < N → a ≠ b → (T a).2.1 ≠ (T b).2.1) {a index : Nat} {x : Int32} {fs : List Value} {S : σ} {f : σ → α} (wf : σ → va_W) (q0 k : Nat) (hlink : Cond.fieldLink own index (T k).1 (T k).2.1 (T k).2.2.1 ∈ TT) (hk : k < N) (hfin : (T k).2.2.2 = false) (hn : narrow (ty0 k) (.int x) = .int x) (hfit : fits (ty0 k) (.int x) = true) (he : ws[q0]? = some (a, .inr (ci, fs))) (hl9 : k < fs.length) (hset : ws.set q0 (a, .inr (ci, fs.set k (.int x))) = wf S) (hdg : decode cc pc = .ok (.putfield index, 3)) (hpc : pc + 3 = pc') (kk : ∀ S', S' = S → J p l e R s m args below meth c nL D A kc ks Kf (f S') (wf S') pc' lv rest) : J p l e R s m args below meth c nL D A kc ks Kf (ltv S f) ws pc lv (.int x :: .ref a :: rest) := by
  subst hpc
  intro ls H locs hl hP hD hS
  obtain ⟨⟨hx, hb, hml, hown, hts⟩, hK, hN, hr, hlk, hA⟩ := X
  refine va_put hx hb hts hin ty0 hty hnm hown hK hP hD hS q0 he hc k hk (hts _ hlink) (fun _ h9 => h9) hfin (hty k hk) hn hfit hl9 hdg (fun H1 locs1 hP1 hD1 hS1 => ?_)
  rw [hset] at hP1 hD1
  exact kk S rfl ls H1 locs1 hl hP1 hD1 hS1
theorem j_iald (X : CX p s m args meth c cc nL own ret D (tyl cI cH cO) A) {a n : Nat} {g : Nat → Int32} {i : Int32} (q0 : Nat) (he : ws[q0]? = some (a, .inl (cI, n, .inl g))) (hin : vp_in i n) (hdg : decode cc pc = .ok (.iaload, 1)) (hpc : pc + 1 = pc') (kk : J p l e R s m args below meth c nL D A kc ks Kf sp ws pc' lv (.int (g i.toNatClampNeg) :: rest)) : J p l e R s m args below meth c nL D A kc ks Kf sp ws pc lv (.int i :: .ref a :: rest) := by
  subst hpc
  intro ls H locs hl hP hD hS
  obtain ⟨⟨hx, hb, hml, hown, hts⟩, hK, hN, hr, hlk, hA⟩ := X
  exact va_iald hx hb hK hP q0 0 he rfl hin hdg (kk ls H locs hl hP hD hS)
theorem j_iast (X : CX p s m args meth c cc nL own ret D (tyl cI cH cO) A) {a n : Nat} {g : Nat → Int32} {i x : Int32} {S : σ} {f : σ → α} (wf : σ → va_W) (q0 : Nat) (he : ws[q0]? = some (a, .inl (cI, n, .inl g))) (hset : ws.set q0 (a, .inl (cI, n, .inl (upd g i.toNatClampNeg x))) = wf S) (hin : vp_in i n) (hdg : decode cc pc = .ok (.iastore, 1)) (hpc : pc + 1 = pc') (kk : ∀ S', S' = S → J p l e R s m args below meth c nL D A kc ks Kf (f S') (wf S') pc' lv rest) : J p l e R s m args below meth c nL D A kc ks Kf (ltv S f) ws pc lv (.int x :: .int i :: .ref a :: rest) := by
  subst hpc
  intro ls H locs hl hP hD hS
  obtain ⟨⟨hx, hb, hml, hown, hts⟩, hK, hN, hr, hlk, hA⟩ := X
  refine va_iast hx hb hK hP hD hS q0 0 he rfl hin hdg (fun H1 locs1 hP1 hD1 hS1 => ?_)
  rw [hset] at hP1 hD1
  exact kk S rfl ls H1 locs1 hl hP1 hD1 hS1
theorem j_cald (X : CX p s m args meth c cc nL own ret D (tyl cI cH cO) A) {a n : Nat} {g : Nat → Int32} {i : Int32} (q0 : Nat) (he : ws[q0]? = some (a, .inl (cH, n, .inl g))) (hin : vp_in i n) (hdg : decode cc pc = .ok (.caload, 1)) (hpc : pc + 1 = pc') (kk : J p l e R s m args below meth c nL D A kc ks Kf sp ws pc' lv (.int (g i.toNatClampNeg) :: rest)) : J p l e R s m args below meth c nL D A kc ks Kf sp ws pc lv (.int i :: .ref a :: rest) := by
  subst hpc
  intro ls H locs hl hP hD hS
  obtain ⟨⟨hx, hb, hml, hown, hts⟩, hK, hN, hr, hlk, hA⟩ := X
  exact va_cald hx hb hK hP q0 1 he rfl hin hdg (kk ls H locs hl hP hD hS)
theorem j_cast (X : CX p s m args meth c cc nL own ret D (tyl cI cH cO) A) {a n : Nat} {g : Nat → Int32} {i x : Int32} {S : σ} {f : σ → α} (wf : σ → va_W) (q0 : Nat) (he : ws[q0]? = some (a, .inl (cH, n, .inl g))) (hset : ws.set q0 (a, .inl (cH, n, .inl (upd g i.toNatClampNeg (vp_nar .char x)))) = wf S) (hin : vp_in i n) (hdg : decode cc pc = .ok (.castore, 1)) (hpc : pc + 1 = pc') (kk : ∀ S', S' = S → J p l e R s m args below meth c nL D A kc ks Kf (f S') (wf S') pc' lv rest) : J p l e R s m args below meth c nL D A kc ks Kf (ltv S f) ws pc lv (.int x :: .int i :: .ref a :: rest) := by
  subst hpc
  intro ls H locs hl hP hD hS
  obtain ⟨⟨hx, hb, hml, hown, hts⟩, hK, hN, hr, hlk, hA⟩ := X
  refine va_cast hx hb hK hP hD hS q0 1 he rfl hin hdg (fun H1 locs1 hP1 hD1 hS1 => ?_)
  rw [hset] at hP1 hD1
  exact kk S rfl ls H1 locs1 hl hP1 hD1 hS1
theorem j_alen (X : CX p s m args meth c cc nL own ret D (tyl cI cH cO) A) {a : Nat} {cA : ClassId} {x : vp_A} {ty : FieldType} {v : Int32} (q0 t0 : Nat) (he : ws[q0]? = some (a, .inl (cA, x))) (ht : (tyl cI cH cO)[t0]? = some (cA, ty)) (hv : Int32.ofNat x.1 = v) (hdg : decode cc pc = .ok (.arraylength, 1)) (hpc : pc + 1 = pc') (kk : J p l e R s m args below meth c nL D A kc ks Kf sp ws pc' lv (.int v :: rest)) : J p l e R s m args below meth c nL D A kc ks Kf sp ws pc lv (.ref a :: rest) := by
  subst hpc
  intro ls H locs hl hP hD hS
  obtain ⟨⟨hx, hb, hml, hown, hts⟩, hK, hN, hr, hlk, hA⟩ := X
  exact va_alen hx hb hK hP q0 t0 he ht hv hdg (kk ls H locs hl hP hD hS)
theorem j_mmin (X : CX p s m args meth c cc nL own ret D (tyl cI cH cO) A) {idx : Nat} {x y : Int32} (hw : Cond.methodLink own idx Lib.Math.min.name ∈ TT ∧ Cond.static Lib.Math.min.name ∈ TT ∧ Cond.initialized "java/lang/Math" ∈ TT ∧ Cond.code Lib.Math.min.name Lib.Math.min.code 2 (some .int) ∈ TT) (hR : 1 ≤ R.frames ∧ (rest.map fun v => v.category).sum + 13 ≤ R.locals ∧ kc ≤ R.cells ∧ ks ≤ R.slots) (hdg : decode cc pc = .ok (.invokestatic idx, 3)) (hpc : pc + 3 = pc') (kk : J p l e R s m args below meth c nL D A kc ks Kf sp ws pc' lv (.int (if y < x then y else x) :: rest)) : J p l e R s m args below meth c nL D A kc ks Kf sp ws pc lv (.int y :: .int x :: rest) := by
  subst hpc
  intro ls H locs hl hP hD hS
  obtain ⟨⟨hx, hb, hml, hown, hts⟩, hK, hN, hr, hlk, hA⟩ := X
  exact va_mmin hx hb (by rw [hml]; exact hl.1.symm) hown (hts _ hw.1) (hts _ hw.2.1) (hts _ hw.2.2.1) (hts _ hw.2.2.2) hR.1 hR.2.1 hR.2.2.1 hR.2.2.2 hdg (kk ls H locs hl hP hD hS)
theorem j_mmax (X : CX p s m args meth c cc nL own ret D (tyl cI cH cO) A) {idx : Nat} {x y : Int32} (hw : Cond.methodLink own idx Lib.Math.max.name ∈ TT ∧ Cond.static Lib.Math.max.name ∈ TT ∧ Cond.initialized "java/lang/Math" ∈ TT ∧ Cond.code Lib.Math.max.name Lib.Math.max.code 2 (some .int) ∈ TT) (hR : 1 ≤ R.frames ∧ (rest.map fun v => v.category).sum + 13 ≤ R.locals ∧ kc ≤ R.cells ∧ ks ≤ R.slots) (hdg : decode cc pc = .ok (.invokestatic idx, 3)) (hpc : pc + 3 = pc') (kk : J p l e R s m args below meth c nL D A kc ks Kf sp ws pc' lv (.int (if x < y then y else x) :: rest)) : J p l e R s m args below meth c nL D A kc ks Kf sp ws pc lv (.int y :: .int x :: rest) := by
  subst hpc
  intro ls H locs hl hP hD hS
  obtain ⟨⟨hx, hb, hml, hown, hts⟩, hK, hN, hr, hlk, hA⟩ := X
  exact va_mmax hx hb (by rw [hml]; exact hl.1.symm) hown (hts _ hw.1) (hts _ hw.2.1) (hts _ hw.2.2.1) (hts _ hw.2.2.2) hR.1 hR.2.1 hR.2.2.1 hR.2.2.2 hdg (kk ls H locs hl hP hD hS)
def KI (below : List Frame) (args : Array Value) (s : State) (D : va_G) (tys : List (ClassId × FieldType)) (ws0 : va_W) (wf : σ → va_W) : Int32 × σ → State → Prop := fun sp => MQ below (QI D tys ws0 s.heap.size sp.1 (wf sp.2)) args s 0 0 (va_A ws0 s.heap.size)
def KP (below : List Frame) (args : Array Value) (s : State) (D : va_G) (tys : List (ClassId × FieldType)) (ws0 : va_W) : Int32 → State → Prop := fun r => MQ below (QI D tys ws0 s.heap.size r ws0) args s 0 0 (va_A ws0 s.heap.size)
def KV (below : List Frame) (args : Array Value) (s : State) (D : va_G) (tys : List (ClassId × FieldType)) (ws0 : va_W) (wf : σ → va_W) : σ → State → Prop := fun u => MQ below (QV D tys ws0 s.heap.size (wf u)) args s 0 0 (va_A ws0 s.heap.size)
end JK
section JR
variable {σ : Type} {p : Program} {l : Launch} {e : Env} {R : Room} {s : State} {m : MethodId} {args : Array Value} {below : List Frame} {meth : Method} {c : Code} {nL : Nat} {D : va_G} {ws ws0 : va_W} {pc pc' : Nat} {lv lv' : List (Nat × Value)} {rest : List Value}
variable {cc : ByteArray} {own : String} {ret : Option FieldType} {cI cH cO : ClassId}
theorem j_iretP (X : CX p s m args meth c cc nL own (some .int) D (tyl cI cH cO) (va_A ws0 s.heap.size)) {v r : Int32} (hv : v = r) (hw : ws = ws0) (hdg : decode cc pc = .ok (.ireturn, 1)) : J p l e R s m args below meth c nL D (va_A ws0 s.heap.size) 0 0 (KP below args s D (tyl cI cH cO) ws0) r ws pc lv [.int v] := by
  intro ls H locs hl hP hD hS
  obtain ⟨⟨hx, hb, hml, hown, hts⟩, hK, hN, hr, hlk, hA⟩ := X
  subst hw
  exact W.iret (v := v) hx hb hr (fun t ht hW => ⟨⟨v, (), rfl, hv, by rw [ht]; exact hP, va_K.moved hW.alike hK, hD⟩, hS.F ht⟩) hS.2.2 hdg hlk
theorem j_zretP (X : CX p s m args meth c cc nL own (some .boolean) D (tyl cI cH cO) (va_A ws0 s.heap.size)) {v r : Int32} (hn : narrow .boolean (.int v) = .int v) (hv : v = r) (hw : ws = ws0) (hdg : decode cc pc = .ok (.ireturn, 1)) : J p l e R s m args below meth c nL D (va_A ws0 s.heap.size) 0 0 (KP below args s D (tyl cI cH cO) ws0) r ws pc lv [.int v] := by
  intro ls H locs hl hP hD hS
  obtain ⟨⟨hx, hb, hml, hown, hts⟩, hK, hN, hr, hlk, hA⟩ := X
  subst hw
  exact W.zret (v := v) hx hb hr hn (fun t ht hW => ⟨⟨v, (), rfl, hv, by rw [ht]; exact hP, va_K.moved hW.alike hK, hD⟩, hS.F ht⟩) hS.2.2 hdg hlk
theorem j_iretI (X : CX p s m args meth c cc nL own (some .int) D (tyl cI cH cO) (va_A ws0 s.heap.size)) {v : Int32} {sp : Int32 × σ} {wf : σ → va_W} (hv : v = sp.1) (hw : ws = wf sp.2) (hdg : decode cc pc = .ok (.ireturn, 1)) : J p l e R s m args below meth c nL D (va_A ws0 s.heap.size) 0 0 (KI below args s D (tyl cI cH cO) ws0 wf) sp ws pc lv [.int v] := by
  intro ls H locs hl hP hD hS
  obtain ⟨⟨hx, hb, hml, hown, hts⟩, hK, hN, hr, hlk, hA⟩ := X
  subst hw
  exact W.iret (v := v) hx hb hr (fun t ht hW => ⟨⟨v, (), rfl, hv, by rw [ht]; exact hP, va_K.moved hW.alike hK, hD⟩, hS.F ht⟩) hS.2.2 hdg hlk
theorem j_zretI (X : CX p s m args meth c cc nL own (some .boolean) D (tyl cI cH cO) (va_A ws0 s.heap.size)) {v : Int32} {sp : Int32 × σ} {wf : σ → va_W} (hn : narrow .boolean (.int v) = .int v) (hv : v = sp.1) (hw : ws = wf sp.2) (hdg : decode cc pc = .ok (.ireturn, 1)) : J p l e R s m args below meth c nL D (va_A ws0 s.heap.size) 0 0 (KI below args s D (tyl cI cH cO) ws0 wf) sp ws pc lv [.int v] := by
  intro ls H locs hl hP hD hS
  obtain ⟨⟨hx, hb, hml, hown, hts⟩, hK, hN, hr, hlk, hA⟩ := X
  subst hw
  exact W.zret (v := v) hx hb hr hn (fun t ht hW => ⟨⟨v, (), rfl, hv, by rw [ht]; exact hP, va_K.moved hW.alike hK, hD⟩, hS.F ht⟩) hS.2.2 hdg hlk
theorem j_vret (X : CX p s m args meth c cc nL own none D (tyl cI cH cO) (va_A ws0 s.heap.size)) {sp : σ} {wf : σ → va_W} (hw : ws = wf sp) (hdg : decode cc pc = .ok (.return_, 1)) : J p l e R s m args below meth c nL D (va_A ws0 s.heap.size) 0 0 (KV below args s D (tyl cI cH cO) ws0 wf) sp ws pc lv [] := by
  intro ls H locs hl hP hD hS
  obtain ⟨⟨hx, hb, hml, hown, hts⟩, hK, hN, hr, hlk, hA⟩ := X
  subst hw
  exact W.vret hx hb hr (fun t ht hW => ⟨⟨(), rfl, trivial, by rw [ht]; exact hP, va_K.moved hW.alike hK, hD⟩, hS.F ht⟩) hS.2.2 hdg hlk
end JR
/-- a method's start -/
theorem j_start {y : MethodName} {cc : ByteArray} {n : Nat} {ret : Option FieldType} {l : Launch} {k sz : Nat} {D : va_G} {cI cH cO : ClassId} {X : State → Prop} {av : List Value} {ws : va_W} {Qc : Array Value → State → Outcome → State → Prop} {own : String} {α : Type} (Kf : List Frame → State → α → State → Prop) (sp : α) (hy : plainName y.cls = true) (hyc : y.cls = own) (hn : (lg_sl av).length ≤ n) (hKf : ∀ (below : List Frame) (s : State), s.heap.size = sz → X s → Kf below s sp = MQ below Qc av.toArray s 0 0 (va_A ws sz))
    (body : ∀ (p : Program) (e : Env) (s : State) (m : MethodId) (below : List Frame) (meth : Method) (c : Code), X s → CX p s m av.toArray meth c cc n own ret D (tyl cI cH cO) (va_A ws s.heap.size) → J p l e (rml k) s m av.toArray below meth c n D (va_A ws s.heap.size) 0 0 (Kf below s) sp ws 0 (lv_args 0 av) []) :
    Met l y (Cond.code y cc n ret :: TT) (rml k) (PW D (tyl cI cH cO) X av sz ws) Qc 0 0 (va_A ws sz) := by
  refine Met.ofW (cc := cc) (maxL := n) (ret := ret) hy rfl ?_
  intro p e s m args below meth c s₁ B hml hv
  obtain ⟨rfl, hsz, hP, hK, hD0, hN, hX⟩ := hv
  have hts := atoms_spec (ws := Cond.code y cc n ret :: TT) B.pre
  have hown : s.vm.findClass own = some m.cls := hyc ▸ findClass_of_methodNamed B.named
  have hl := lv_entry av (n := n) hn
  rw [lg_entry_eq]
  rw [← hKf below s hsz hX]
  subst hsz
  exact body p e s m below meth c hX ⟨⟨B.exec, B.bytes, hml, hown, fun w h => hts w (List.mem_cons_of_mem _ h)⟩, hK, hN, B.returns, B.notSynchronized, fun q h => Or.inr h⟩ _ s.heap [] hl hP hD0.self va_S.rf
section JC
variable {α σ : Type} {p : Program} {l : Launch} {e : Env} {R : Room} {s : State} {m : MethodId} {args : Array Value} {below : List Frame} {meth : Method} {c : Code} {nL : Nat} {D : va_G} {A : Nat → Prop} {kc ks : Nat} {Kf : α → State → Prop} {sp : α} {ws ws' : va_W} {pc pc' : Nat} {lv lv' : List (Nat × Value)} {rest st : List Value}
variable {cc : ByteArray} {own : String} {ret : Option FieldType} {cI cH cO : ClassId}
variable {z : MethodName} {bz : ByteArray} {nz idx n0 kz : Nat} {rz : Option FieldType} {C : String} {b : Nat} {r : Int32}
/-- the room of a callee in a caller's -/
def RM (R : Room) (kz nz kc ks : Nat) : Prop := kz + 1 ≤ R.frames ∧ 8 + (nz + 11) + 40 * kz ≤ R.locals ∧ kc + 0 ≤ R.cells ∧ ks + 0 ≤ R.slots
theorem j_callVi (X : CX p s m args meth c cc nL own ret D (tyl cI cH cO) A) {As : List Value} (hM : MI l z bz nz rz kz D (tyl cI cH cO) (.ref b :: As) ws r ws') (hw : WV own idx C z bz nz rz n0) (hrecv : ∃ (q0 ci : Nat) (fs : List Value) (q : vw_C), vwCl[ci]? = some q ∧ q.1 = C ∧ ws[q0]? = some (b, .inr (ci, fs))) (hR : RM R kz nz kc ks) (hst : st = As.reverse ++ .ref b :: rest) (hn : As.length = n0) (hsum : (rest.map fun v => v.category).sum ≤ 8) (hdg : decode cc pc = .ok (.invokevirtual idx, 3)) (hpc : pc + 3 = pc') (kk : J p l e R s m args below meth c nL D A kc ks Kf sp ws' pc' lv (.int r :: rest)) : J p l e R s m args below meth c nL D A kc ks Kf sp ws pc lv st := by
  subst hpc
  subst hst
  intro ls H locs hl hP hD hS
  obtain ⟨⟨hx, hb, hml, hown, hts⟩, hK, hN, hr, hlk, hA⟩ := X
  have hPz := hP
  have hDz := hD
  have hF : ∀ q, va_A ws H.size q → A q := fun q h => by
    rcases h with ⟨k, e9, h⟩ | h
    · exact hDz.2 k (q, e9) h
    · exact hA q (Nat.le_trans hS.1 h)
  refine va_calli (mc := 0) (ms := 0) (va_runV (As := As) (rest := rest) ⟨hx, hb, hml, hown, hts⟩ (hM H.size) (cwV n0 hts hw.good rfl rfl rfl hw.2.2.2.2.2 ⟨hR.1, hR.2.1⟩) ⟨pw_blind, (by obtain ⟨q0, ci, fs, q, g1, g2, g3⟩ := hrecv; obtain ⟨cell, y1, y2, y3⟩ := va_recv hK hPz g1 g3; exact ⟨cell, y1, y2, by rw [← g2]; exact y3⟩), fun U hU hW => ⟨rfl, by rw [hU], by rw [hU]; exact hPz, va_K.moved hW.alike hK, hDz.weaken (fun _ _ _ _ => trivial), hN.warm hW, trivial⟩⟩ rfl hn hl.1 rfl (lv_room hsum) hdg ⟨hR.2.2.1, hR.2.2.2⟩) hS (fun q _ h => hF q h) hF (fun r9 u t H1 locs1 ht hvm hw9 hB hz1 hk1 hS1 => ?_)
  subst hw9
  obtain ⟨hP1, hK1, hD1⟩ := hB
  rw [ht] at hP1
  exact kk ls H1 locs1 hl hP1 (hD1.weaken (fun k q _ h => hF q.1 h)) hS1
theorem j_callViF (X : CX p s m args meth c cc nL own ret D (tyl cI cH cO) A) {As : List Value} {wz wz1 wr : va_W} (isC isR ps : List Nat) (hC : isC.map (fun i => ws[i]?) = wz.map some) (hRr : isR.map (fun i => ws[i]?) = wr.map some) (hnd : va_nd isC = true ∧ va_nd isR = true ∧ va_nd ps = true ∧ ∀ i ∈ isR, i ∉ isC) (hps : ps.map (fun i => (wr ++ wz1)[i]?) = ws'.map some) (hM : MI l z bz nz rz kz D (tyl cI cH cO) (.ref b :: As) wz r wz1) (hw : WV own idx C z bz nz rz n0) (hrecv : ∃ (q0 ci : Nat) (fs : List Value) (q : vw_C), vwCl[ci]? = some q ∧ q.1 = C ∧ wz[q0]? = some (b, .inr (ci, fs))) (hR : RM R kz nz kc ks) (hst : st = As.reverse ++ .ref b :: rest) (hn : As.length = n0) (hsum : (rest.map fun v => v.category).sum ≤ 8) (hdg : decode cc pc = .ok (.invokevirtual idx, 3)) (hpc : pc + 3 = pc') (kk : J p l e R s m args below meth c nL D A kc ks Kf sp ws' pc' lv (.int r :: rest)) : J p l e R s m args below meth c nL D A kc ks Kf sp ws pc lv st := by
  subst hpc
  subst hst
  intro ls H locs hl hP hD hS
  obtain ⟨⟨hx, hb, hml, hown, hts⟩, hK, hN, hr, hlk, hA⟩ := X
  have hPz : va_P D vwCl wz H := hP.sub isC (by
    have h9 := congrArg (List.filterMap id) hC
    simpa [List.filterMap_map, List.map_map] using h9)
  have hDz : va_D A wz := hD.sub isC hnd.1 hC
  have hF : ∀ q, va_A wz H.size q → A q := fun q h => by
    rcases h with ⟨k, e9, h⟩ | h
    · exact hDz.2 k (q, e9) h
    · exact hA q (Nat.le_trans hS.1 h)
  refine va_calli (mc := 0) (ms := 0) (va_runV (As := As) (rest := rest) ⟨hx, hb, hml, hown, hts⟩ (hM H.size) (cwV n0 hts hw.good rfl rfl rfl hw.2.2.2.2.2 ⟨hR.1, hR.2.1⟩) ⟨pw_blind, (by obtain ⟨q0, ci, fs, q, g1, g2, g3⟩ := hrecv; obtain ⟨cell, y1, y2, y3⟩ := va_recv hK hPz g1 g3; exact ⟨cell, y1, y2, by rw [← g2]; exact y3⟩), fun U hU hW => ⟨rfl, by rw [hU], by rw [hU]; exact hPz, va_K.moved hW.alike hK, hDz.weaken (fun _ _ _ _ => trivial), hN.warm hW, trivial⟩⟩ rfl hn hl.1 rfl (lv_room hsum) hdg ⟨hR.2.2.1, hR.2.2.2⟩) hS (fun q _ h => hF q h) hF (fun r9 u t H1 locs1 ht hvm hw9 hB hz1 hk1 hS1 => ?_)
  subst hw9
  obtain ⟨hP1, hK1, hD1⟩ := hB
  rw [ht] at hP1
  obtain ⟨hP2, hD2⟩ := va_join hP hD isC isR hC hRr hnd.2.1 hnd.2.2.2 hk1 hF hP1 hD1
  exact kk ls H1 locs1 hl (hP2.sub ps (by
    have h9 := congrArg (List.filterMap id) hps
    simpa [List.filterMap_map, List.map_map] using h9)) (hD2.sub ps hnd.2.2.1 hps) hS1
theorem j_callVv (X : CX p s m args meth c cc nL own ret D (tyl cI cH cO) A) {As : List Value} (hM : MV l z bz nz kz D (tyl cI cH cO) (.ref b :: As) ws ws') (hw : WV own idx C z bz nz none n0) (hrecv : ∃ (q0 ci : Nat) (fs : List Value) (q : vw_C), vwCl[ci]? = some q ∧ q.1 = C ∧ ws[q0]? = some (b, .inr (ci, fs))) (hR : RM R kz nz kc ks) (hst : st = As.reverse ++ .ref b :: rest) (hn : As.length = n0) (hsum : (rest.map fun v => v.category).sum ≤ 8) (hdg : decode cc pc = .ok (.invokevirtual idx, 3)) (hpc : pc + 3 = pc') (kk : J p l e R s m args below meth c nL D A kc ks Kf sp ws' pc' lv rest) : J p l e R s m args below meth c nL D A kc ks Kf sp ws pc lv st := by
  subst hpc
  subst hst
  intro ls H locs hl hP hD hS
  obtain ⟨⟨hx, hb, hml, hown, hts⟩, hK, hN, hr, hlk, hA⟩ := X
  have hPz := hP
  have hDz := hD
  have hF : ∀ q, va_A ws H.size q → A q := fun q h => by
    rcases h with ⟨k, e9, h⟩ | h
    · exact hDz.2 k (q, e9) h
    · exact hA q (Nat.le_trans hS.1 h)
  refine va_callv (mc := 0) (ms := 0) (va_runV (As := As) (rest := rest) ⟨hx, hb, hml, hown, hts⟩ (hM H.size) (cwV n0 hts hw.good rfl rfl rfl hw.2.2.2.2.2 ⟨hR.1, hR.2.1⟩) ⟨pw_blind, (by obtain ⟨q0, ci, fs, q, g1, g2, g3⟩ := hrecv; obtain ⟨cell, y1, y2, y3⟩ := va_recv hK hPz g1 g3; exact ⟨cell, y1, y2, by rw [← g2]; exact y3⟩), fun U hU hW => ⟨rfl, by rw [hU], by rw [hU]; exact hPz, va_K.moved hW.alike hK, hDz.weaken (fun _ _ _ _ => trivial), hN.warm hW, trivial⟩⟩ rfl hn hl.1 rfl (lv_room hsum) hdg ⟨hR.2.2.1, hR.2.2.2⟩) hS (fun q _ h => hF q h) hF (fun u t H1 locs1 ht hvm hw9 hB hz1 hk1 hS1 => ?_)
  obtain ⟨hP1, hK1, hD1⟩ := hB
  rw [ht] at hP1
  exact kk ls H1 locs1 hl hP1 (hD1.weaken (fun k q _ h => hF q.1 h)) hS1
theorem j_callVvF (X : CX p s m args meth c cc nL own ret D (tyl cI cH cO) A) {As : List Value} {wz wz1 wr : va_W} (isC isR ps : List Nat) (hC : isC.map (fun i => ws[i]?) = wz.map some) (hRr : isR.map (fun i => ws[i]?) = wr.map some) (hnd : va_nd isC = true ∧ va_nd isR = true ∧ va_nd ps = true ∧ ∀ i ∈ isR, i ∉ isC) (hps : ps.map (fun i => (wr ++ wz1)[i]?) = ws'.map some) (hM : MV l z bz nz kz D (tyl cI cH cO) (.ref b :: As) wz wz1) (hw : WV own idx C z bz nz none n0) (hrecv : ∃ (q0 ci : Nat) (fs : List Value) (q : vw_C), vwCl[ci]? = some q ∧ q.1 = C ∧ wz[q0]? = some (b, .inr (ci, fs))) (hR : RM R kz nz kc ks) (hst : st = As.reverse ++ .ref b :: rest) (hn : As.length = n0) (hsum : (rest.map fun v => v.category).sum ≤ 8) (hdg : decode cc pc = .ok (.invokevirtual idx, 3)) (hpc : pc + 3 = pc') (kk : J p l e R s m args below meth c nL D A kc ks Kf sp ws' pc' lv rest) : J p l e R s m args below meth c nL D A kc ks Kf sp ws pc lv st := by
  subst hpc
  subst hst
  intro ls H locs hl hP hD hS
  obtain ⟨⟨hx, hb, hml, hown, hts⟩, hK, hN, hr, hlk, hA⟩ := X
  have hPz : va_P D vwCl wz H := hP.sub isC (by
    have h9 := congrArg (List.filterMap id) hC
    simpa [List.filterMap_map, List.map_map] using h9)
  have hDz : va_D A wz := hD.sub isC hnd.1 hC
  have hF : ∀ q, va_A wz H.size q → A q := fun q h => by
    rcases h with ⟨k, e9, h⟩ | h
    · exact hDz.2 k (q, e9) h
    · exact hA q (Nat.le_trans hS.1 h)
  refine va_callv (mc := 0) (ms := 0) (va_runV (As := As) (rest := rest) ⟨hx, hb, hml, hown, hts⟩ (hM H.size) (cwV n0 hts hw.good rfl rfl rfl hw.2.2.2.2.2 ⟨hR.1, hR.2.1⟩) ⟨pw_blind, (by obtain ⟨q0, ci, fs, q, g1, g2, g3⟩ := hrecv; obtain ⟨cell, y1, y2, y3⟩ := va_recv hK hPz g1 g3; exact ⟨cell, y1, y2, by rw [← g2]; exact y3⟩), fun U hU hW => ⟨rfl, by rw [hU], by rw [hU]; exact hPz, va_K.moved hW.alike hK, hDz.weaken (fun _ _ _ _ => trivial), hN.warm hW, trivial⟩⟩ rfl hn hl.1 rfl (lv_room hsum) hdg ⟨hR.2.2.1, hR.2.2.2⟩) hS (fun q _ h => hF q h) hF (fun u t H1 locs1 ht hvm hw9 hB hz1 hk1 hS1 => ?_)
  obtain ⟨hP1, hK1, hD1⟩ := hB
  rw [ht] at hP1
  obtain ⟨hP2, hD2⟩ := va_join hP hD isC isR hC hRr hnd.2.1 hnd.2.2.2 hk1 hF hP1 hD1
  exact kk ls H1 locs1 hl (hP2.sub ps (by
    have h9 := congrArg (List.filterMap id) hps
    simpa [List.filterMap_map, List.map_map] using h9)) (hD2.sub ps hnd.2.2.1 hps) hS1
theorem j_callSi (X : CX p s m args meth c cc nL own ret D (tyl cI cH cO) A) {As : List Value} (hM : MI l z bz nz rz kz D (tyl cI cH cO) As ws r ws') (hw : WS own idx z bz nz rz n0) (hR : RM R kz nz kc ks) (hst : st = As.reverse ++ rest) (hn : As.length = n0) (hsum : (rest.map fun v => v.category).sum ≤ 8) (hdg : decode cc pc = .ok (.invokestatic idx, 3)) (hpc : pc + 3 = pc') (kk : J p l e R s m args below meth c nL D A kc ks Kf sp ws' pc' lv (.int r :: rest)) : J p l e R s m args below meth c nL D A kc ks Kf sp ws pc lv st := by
  subst hpc
  subst hst
  intro ls H locs hl hP hD hS
  obtain ⟨⟨hx, hb, hml, hown, hts⟩, hK, hN, hr, hlk, hA⟩ := X
  have hPz := hP
  have hDz := hD
  have hF : ∀ q, va_A ws H.size q → A q := fun q h => by
    rcases h with ⟨k, e9, h⟩ | h
    · exact hDz.2 k (q, e9) h
    · exact hA q (Nat.le_trans hS.1 h)
  refine va_calli (mc := 0) (ms := 0) (va_runS (As := As) (rest := rest) ⟨hx, hb, hml, hown, hts⟩ (hM H.size) (va_cwS n0 hts (goodIn_ap (tt_in (fun w h => by simp only [List.mem_cons, List.not_mem_nil, or_false] at h; rcases h with rfl | rfl | rfl; exact hw.2.1; exact hw.2.2.1; exact hw.2.2.2.1)) (tt_code hw.1)) rfl rfl rfl hw.2.2.2.2 ⟨hR.1, hR.2.1⟩) ⟨pw_blind, fun U hU hW => ⟨rfl, by rw [hU], by rw [hU]; exact hPz, va_K.moved hW.alike hK, hDz.weaken (fun _ _ _ _ => trivial), hN.warm hW, trivial⟩⟩ rfl hn hl.1 rfl (lv_room hsum) hdg ⟨hR.2.2.1, hR.2.2.2⟩) hS (fun q _ h => hF q h) hF (fun r9 u t H1 locs1 ht hvm hw9 hB hz1 hk1 hS1 => ?_)
  subst hw9
  obtain ⟨hP1, hK1, hD1⟩ := hB
  rw [ht] at hP1
  exact kk ls H1 locs1 hl hP1 (hD1.weaken (fun k q _ h => hF q.1 h)) hS1
theorem j_callSiF (X : CX p s m args meth c cc nL own ret D (tyl cI cH cO) A) {As : List Value} {wz wz1 wr : va_W} (isC isR ps : List Nat) (hC : isC.map (fun i => ws[i]?) = wz.map some) (hRr : isR.map (fun i => ws[i]?) = wr.map some) (hnd : va_nd isC = true ∧ va_nd isR = true ∧ va_nd ps = true ∧ ∀ i ∈ isR, i ∉ isC) (hps : ps.map (fun i => (wr ++ wz1)[i]?) = ws'.map some) (hM : MI l z bz nz rz kz D (tyl cI cH cO) As wz r wz1) (hw : WS own idx z bz nz rz n0) (hR : RM R kz nz kc ks) (hst : st = As.reverse ++ rest) (hn : As.length = n0) (hsum : (rest.map fun v => v.category).sum ≤ 8) (hdg : decode cc pc = .ok (.invokestatic idx, 3)) (hpc : pc + 3 = pc') (kk : J p l e R s m args below meth c nL D A kc ks Kf sp ws' pc' lv (.int r :: rest)) : J p l e R s m args below meth c nL D A kc ks Kf sp ws pc lv st := by
  subst hpc
  subst hst
  intro ls H locs hl hP hD hS
  obtain ⟨⟨hx, hb, hml, hown, hts⟩, hK, hN, hr, hlk, hA⟩ := X
  have hPz : va_P D vwCl wz H := hP.sub isC (by
    have h9 := congrArg (List.filterMap id) hC
    simpa [List.filterMap_map, List.map_map] using h9)
  have hDz : va_D A wz := hD.sub isC hnd.1 hC
  have hF : ∀ q, va_A wz H.size q → A q := fun q h => by
    rcases h with ⟨k, e9, h⟩ | h
    · exact hDz.2 k (q, e9) h
    · exact hA q (Nat.le_trans hS.1 h)
  refine va_calli (mc := 0) (ms := 0) (va_runS (As := As) (rest := rest) ⟨hx, hb, hml, hown, hts⟩ (hM H.size) (va_cwS n0 hts (goodIn_ap (tt_in (fun w h => by simp only [List.mem_cons, List.not_mem_nil, or_false] at h; rcases h with rfl | rfl | rfl; exact hw.2.1; exact hw.2.2.1; exact hw.2.2.2.1)) (tt_code hw.1)) rfl rfl rfl hw.2.2.2.2 ⟨hR.1, hR.2.1⟩) ⟨pw_blind, fun U hU hW => ⟨rfl, by rw [hU], by rw [hU]; exact hPz, va_K.moved hW.alike hK, hDz.weaken (fun _ _ _ _ => trivial), hN.warm hW, trivial⟩⟩ rfl hn hl.1 rfl (lv_room hsum) hdg ⟨hR.2.2.1, hR.2.2.2⟩) hS (fun q _ h => hF q h) hF (fun r9 u t H1 locs1 ht hvm hw9 hB hz1 hk1 hS1 => ?_)
  subst hw9
  obtain ⟨hP1, hK1, hD1⟩ := hB
  rw [ht] at hP1
  obtain ⟨hP2, hD2⟩ := va_join hP hD isC isR hC hRr hnd.2.1 hnd.2.2.2 hk1 hF hP1 hD1
  exact kk ls H1 locs1 hl (hP2.sub ps (by
    have h9 := congrArg (List.filterMap id) hps
    simpa [List.filterMap_map, List.map_map] using h9)) (hD2.sub ps hnd.2.2.1 hps) hS1
theorem j_callSv (X : CX p s m args meth c cc nL own ret D (tyl cI cH cO) A) {As : List Value} (hM : MV l z bz nz kz D (tyl cI cH cO) As ws ws') (hw : WS own idx z bz nz none n0) (hR : RM R kz nz kc ks) (hst : st = As.reverse ++ rest) (hn : As.length = n0) (hsum : (rest.map fun v => v.category).sum ≤ 8) (hdg : decode cc pc = .ok (.invokestatic idx, 3)) (hpc : pc + 3 = pc') (kk : J p l e R s m args below meth c nL D A kc ks Kf sp ws' pc' lv rest) : J p l e R s m args below meth c nL D A kc ks Kf sp ws pc lv st := by
  subst hpc
  subst hst
  intro ls H locs hl hP hD hS
  obtain ⟨⟨hx, hb, hml, hown, hts⟩, hK, hN, hr, hlk, hA⟩ := X
  have hPz := hP
  have hDz := hD
  have hF : ∀ q, va_A ws H.size q → A q := fun q h => by
    rcases h with ⟨k, e9, h⟩ | h
    · exact hDz.2 k (q, e9) h
    · exact hA q (Nat.le_trans hS.1 h)
  refine va_callv (mc := 0) (ms := 0) (va_runS (As := As) (rest := rest) ⟨hx, hb, hml, hown, hts⟩ (hM H.size) (va_cwS n0 hts (goodIn_ap (tt_in (fun w h => by simp only [List.mem_cons, List.not_mem_nil, or_false] at h; rcases h with rfl | rfl | rfl; exact hw.2.1; exact hw.2.2.1; exact hw.2.2.2.1)) (tt_code hw.1)) rfl rfl rfl hw.2.2.2.2 ⟨hR.1, hR.2.1⟩) ⟨pw_blind, fun U hU hW => ⟨rfl, by rw [hU], by rw [hU]; exact hPz, va_K.moved hW.alike hK, hDz.weaken (fun _ _ _ _ => trivial), hN.warm hW, trivial⟩⟩ rfl hn hl.1 rfl (lv_room hsum) hdg ⟨hR.2.2.1, hR.2.2.2⟩) hS (fun q _ h => hF q h) hF (fun u t H1 locs1 ht hvm hw9 hB hz1 hk1 hS1 => ?_)
  obtain ⟨hP1, hK1, hD1⟩ := hB
  rw [ht] at hP1
  exact kk ls H1 locs1 hl hP1 (hD1.weaken (fun k q _ h => hF q.1 h)) hS1
theorem j_callSvF (X : CX p s m args meth c cc nL own ret D (tyl cI cH cO) A) {As : List Value} {wz wz1 wr : va_W} (isC isR ps : List Nat) (hC : isC.map (fun i => ws[i]?) = wz.map some) (hRr : isR.map (fun i => ws[i]?) = wr.map some) (hnd : va_nd isC = true ∧ va_nd isR = true ∧ va_nd ps = true ∧ ∀ i ∈ isR, i ∉ isC) (hps : ps.map (fun i => (wr ++ wz1)[i]?) = ws'.map some) (hM : MV l z bz nz kz D (tyl cI cH cO) As wz wz1) (hw : WS own idx z bz nz none n0) (hR : RM R kz nz kc ks) (hst : st = As.reverse ++ rest) (hn : As.length = n0) (hsum : (rest.map fun v => v.category).sum ≤ 8) (hdg : decode cc pc = .ok (.invokestatic idx, 3)) (hpc : pc + 3 = pc') (kk : J p l e R s m args below meth c nL D A kc ks Kf sp ws' pc' lv rest) : J p l e R s m args below meth c nL D A kc ks Kf sp ws pc lv st := by
  subst hpc
  subst hst
  intro ls H locs hl hP hD hS
  obtain ⟨⟨hx, hb, hml, hown, hts⟩, hK, hN, hr, hlk, hA⟩ := X
  have hPz : va_P D vwCl wz H := hP.sub isC (by
    have h9 := congrArg (List.filterMap id) hC
    simpa [List.filterMap_map, List.map_map] using h9)
  have hDz : va_D A wz := hD.sub isC hnd.1 hC
  have hF : ∀ q, va_A wz H.size q → A q := fun q h => by
    rcases h with ⟨k, e9, h⟩ | h
    · exact hDz.2 k (q, e9) h
    · exact hA q (Nat.le_trans hS.1 h)
  refine va_callv (mc := 0) (ms := 0) (va_runS (As := As) (rest := rest) ⟨hx, hb, hml, hown, hts⟩ (hM H.size) (va_cwS n0 hts (goodIn_ap (tt_in (fun w h => by simp only [List.mem_cons, List.not_mem_nil, or_false] at h; rcases h with rfl | rfl | rfl; exact hw.2.1; exact hw.2.2.1; exact hw.2.2.2.1)) (tt_code hw.1)) rfl rfl rfl hw.2.2.2.2 ⟨hR.1, hR.2.1⟩) ⟨pw_blind, fun U hU hW => ⟨rfl, by rw [hU], by rw [hU]; exact hPz, va_K.moved hW.alike hK, hDz.weaken (fun _ _ _ _ => trivial), hN.warm hW, trivial⟩⟩ rfl hn hl.1 rfl (lv_room hsum) hdg ⟨hR.2.2.1, hR.2.2.2⟩) hS (fun q _ h => hF q h) hF (fun u t H1 locs1 ht hvm hw9 hB hz1 hk1 hS1 => ?_)
  obtain ⟨hP1, hK1, hD1⟩ := hB
  rw [ht] at hP1
  obtain ⟨hP2, hD2⟩ := va_join hP hD isC isR hC hRr hnd.2.1 hnd.2.2.2 hk1 hF hP1 hD1
  exact kk ls H1 locs1 hl (hP2.sub ps (by
    have h9 := congrArg (List.filterMap id) hps
    simpa [List.filterMap_map, List.map_map] using h9)) (hD2.sub ps hnd.2.2.1 hps) hS1
theorem j_callNi (X : CX p s m args meth c cc nL own ret D (tyl cI cH cO) A) {As : List Value} (hM : MI l z bz nz rz kz D (tyl cI cH cO) As ws r ws') {host : String} (hnw : va_Nw (.methodLinkNest own idx z host) s) (hw : Cond.code z bz nz rz ∈ TT ∧ Cond.static z ∈ TT ∧ Cond.initialized z.cls ∈ TT ∧ (z.cls ≠ "java/lang/invoke/MethodHandle" ∧ z.cls ≠ "java/lang/invoke/VarHandle" ∧ (parseMethodDescriptor z.desc).map (fun d => d.parameters.length) = some n0)) (hR : RM R kz nz kc ks) (hst : st = As.reverse ++ rest) (hn : As.length = n0) (hsum : (rest.map fun v => v.category).sum ≤ 8) (hdg : decode cc pc = .ok (.invokestatic idx, 3)) (hpc : pc + 3 = pc') (kk : J p l e R s m args below meth c nL D A kc ks Kf sp ws' pc' lv (.int r :: rest)) : J p l e R s m args below meth c nL D A kc ks Kf sp ws pc lv st := by
  subst hpc
  subst hst
  intro ls H locs hl hP hD hS
  obtain ⟨⟨hx, hb, hml, hown, hts⟩, hK, hN, hr, hlk, hA⟩ := X
  have hPz := hP
  have hDz := hD
  have hF : ∀ q, va_A ws H.size q → A q := fun q h => by
    rcases h with ⟨k, e9, h⟩ | h
    · exact hDz.2 k (q, e9) h
    · exact hA q (Nat.le_trans hS.1 h)
  refine va_calli (mc := 0) (ms := 0) (va_runSN (As := As) (rest := rest) ⟨hx, hb, hml, hown, hts⟩ (hM H.size) ⟨va_cnB n0 hts (tt_code hw.1) rfl rfl rfl hnw (hts _ hw.2.2.1) hw.2.2.2 ⟨hR.1, hR.2.1⟩, hts _ hw.2.1, trivial⟩ ⟨pw_blind, fun U hU hW => ⟨rfl, by rw [hU], by rw [hU]; exact hPz, va_K.moved hW.alike hK, hDz.weaken (fun _ _ _ _ => trivial), hN.warm hW, trivial⟩⟩ rfl hn hl.1 rfl (lv_room hsum) hdg ⟨hR.2.2.1, hR.2.2.2⟩) hS (fun q _ h => hF q h) hF (fun r9 u t H1 locs1 ht hvm hw9 hB hz1 hk1 hS1 => ?_)
  subst hw9
  obtain ⟨hP1, hK1, hD1⟩ := hB
  rw [ht] at hP1
  exact kk ls H1 locs1 hl hP1 (hD1.weaken (fun k q _ h => hF q.1 h)) hS1
theorem j_callNiF (X : CX p s m args meth c cc nL own ret D (tyl cI cH cO) A) {As : List Value} {wz wz1 wr : va_W} (isC isR ps : List Nat) (hC : isC.map (fun i => ws[i]?) = wz.map some) (hRr : isR.map (fun i => ws[i]?) = wr.map some) (hnd : va_nd isC = true ∧ va_nd isR = true ∧ va_nd ps = true ∧ ∀ i ∈ isR, i ∉ isC) (hps : ps.map (fun i => (wr ++ wz1)[i]?) = ws'.map some) (hM : MI l z bz nz rz kz D (tyl cI cH cO) As wz r wz1) {host : String} (hnw : va_Nw (.methodLinkNest own idx z host) s) (hw : Cond.code z bz nz rz ∈ TT ∧ Cond.static z ∈ TT ∧ Cond.initialized z.cls ∈ TT ∧ (z.cls ≠ "java/lang/invoke/MethodHandle" ∧ z.cls ≠ "java/lang/invoke/VarHandle" ∧ (parseMethodDescriptor z.desc).map (fun d => d.parameters.length) = some n0)) (hR : RM R kz nz kc ks) (hst : st = As.reverse ++ rest) (hn : As.length = n0) (hsum : (rest.map fun v => v.category).sum ≤ 8) (hdg : decode cc pc = .ok (.invokestatic idx, 3)) (hpc : pc + 3 = pc') (kk : J p l e R s m args below meth c nL D A kc ks Kf sp ws' pc' lv (.int r :: rest)) : J p l e R s m args below meth c nL D A kc ks Kf sp ws pc lv st := by
  subst hpc
  subst hst
  intro ls H locs hl hP hD hS
  obtain ⟨⟨hx, hb, hml, hown, hts⟩, hK, hN, hr, hlk, hA⟩ := X
  have hPz : va_P D vwCl wz H := hP.sub isC (by
    have h9 := congrArg (List.filterMap id) hC
    simpa [List.filterMap_map, List.map_map] using h9)
  have hDz : va_D A wz := hD.sub isC hnd.1 hC
  have hF : ∀ q, va_A wz H.size q → A q := fun q h => by
    rcases h with ⟨k, e9, h⟩ | h
    · exact hDz.2 k (q, e9) h
    · exact hA q (Nat.le_trans hS.1 h)
  refine va_calli (mc := 0) (ms := 0) (va_runSN (As := As) (rest := rest) ⟨hx, hb, hml, hown, hts⟩ (hM H.size) ⟨va_cnB n0 hts (tt_code hw.1) rfl rfl rfl hnw (hts _ hw.2.2.1) hw.2.2.2 ⟨hR.1, hR.2.1⟩, hts _ hw.2.1, trivial⟩ ⟨pw_blind, fun U hU hW => ⟨rfl, by rw [hU], by rw [hU]; exact hPz, va_K.moved hW.alike hK, hDz.weaken (fun _ _ _ _ => trivial), hN.warm hW, trivial⟩⟩ rfl hn hl.1 rfl (lv_room hsum) hdg ⟨hR.2.2.1, hR.2.2.2⟩) hS (fun q _ h => hF q h) hF (fun r9 u t H1 locs1 ht hvm hw9 hB hz1 hk1 hS1 => ?_)
  subst hw9
  obtain ⟨hP1, hK1, hD1⟩ := hB
  rw [ht] at hP1
  obtain ⟨hP2, hD2⟩ := va_join hP hD isC isR hC hRr hnd.2.1 hnd.2.2.2 hk1 hF hP1 hD1
  exact kk ls H1 locs1 hl (hP2.sub ps (by
    have h9 := congrArg (List.filterMap id) hps
    simpa [List.filterMap_map, List.map_map] using h9)) (hD2.sub ps hnd.2.2.1 hps) hS1
theorem j_callNv (X : CX p s m args meth c cc nL own ret D (tyl cI cH cO) A) {As : List Value} (hM : MV l z bz nz kz D (tyl cI cH cO) As ws ws') {host : String} (hnw : va_Nw (.methodLinkNest own idx z host) s) (hw : Cond.code z bz nz none ∈ TT ∧ Cond.static z ∈ TT ∧ Cond.initialized z.cls ∈ TT ∧ (z.cls ≠ "java/lang/invoke/MethodHandle" ∧ z.cls ≠ "java/lang/invoke/VarHandle" ∧ (parseMethodDescriptor z.desc).map (fun d => d.parameters.length) = some n0)) (hR : RM R kz nz kc ks) (hst : st = As.reverse ++ rest) (hn : As.length = n0) (hsum : (rest.map fun v => v.category).sum ≤ 8) (hdg : decode cc pc = .ok (.invokestatic idx, 3)) (hpc : pc + 3 = pc') (kk : J p l e R s m args below meth c nL D A kc ks Kf sp ws' pc' lv rest) : J p l e R s m args below meth c nL D A kc ks Kf sp ws pc lv st := by
  subst hpc
  subst hst
  intro ls H locs hl hP hD hS
  obtain ⟨⟨hx, hb, hml, hown, hts⟩, hK, hN, hr, hlk, hA⟩ := X
  have hPz := hP
  have hDz := hD
  have hF : ∀ q, va_A ws H.size q → A q := fun q h => by
    rcases h with ⟨k, e9, h⟩ | h
    · exact hDz.2 k (q, e9) h
    · exact hA q (Nat.le_trans hS.1 h)
  refine va_callv (mc := 0) (ms := 0) (va_runSN (As := As) (rest := rest) ⟨hx, hb, hml, hown, hts⟩ (hM H.size) ⟨va_cnB n0 hts (tt_code hw.1) rfl rfl rfl hnw (hts _ hw.2.2.1) hw.2.2.2 ⟨hR.1, hR.2.1⟩, hts _ hw.2.1, trivial⟩ ⟨pw_blind, fun U hU hW => ⟨rfl, by rw [hU], by rw [hU]; exact hPz, va_K.moved hW.alike hK, hDz.weaken (fun _ _ _ _ => trivial), hN.warm hW, trivial⟩⟩ rfl hn hl.1 rfl (lv_room hsum) hdg ⟨hR.2.2.1, hR.2.2.2⟩) hS (fun q _ h => hF q h) hF (fun u t H1 locs1 ht hvm hw9 hB hz1 hk1 hS1 => ?_)
  obtain ⟨hP1, hK1, hD1⟩ := hB
  rw [ht] at hP1
  exact kk ls H1 locs1 hl hP1 (hD1.weaken (fun k q _ h => hF q.1 h)) hS1
theorem j_callNvF (X : CX p s m args meth c cc nL own ret D (tyl cI cH cO) A) {As : List Value} {wz wz1 wr : va_W} (isC isR ps : List Nat) (hC : isC.map (fun i => ws[i]?) = wz.map some) (hRr : isR.map (fun i => ws[i]?) = wr.map some) (hnd : va_nd isC = true ∧ va_nd isR = true ∧ va_nd ps = true ∧ ∀ i ∈ isR, i ∉ isC) (hps : ps.map (fun i => (wr ++ wz1)[i]?) = ws'.map some) (hM : MV l z bz nz kz D (tyl cI cH cO) As wz wz1) {host : String} (hnw : va_Nw (.methodLinkNest own idx z host) s) (hw : Cond.code z bz nz none ∈ TT ∧ Cond.static z ∈ TT ∧ Cond.initialized z.cls ∈ TT ∧ (z.cls ≠ "java/lang/invoke/MethodHandle" ∧ z.cls ≠ "java/lang/invoke/VarHandle" ∧ (parseMethodDescriptor z.desc).map (fun d => d.parameters.length) = some n0)) (hR : RM R kz nz kc ks) (hst : st = As.reverse ++ rest) (hn : As.length = n0) (hsum : (rest.map fun v => v.category).sum ≤ 8) (hdg : decode cc pc = .ok (.invokestatic idx, 3)) (hpc : pc + 3 = pc') (kk : J p l e R s m args below meth c nL D A kc ks Kf sp ws' pc' lv rest) : J p l e R s m args below meth c nL D A kc ks Kf sp ws pc lv st := by
  subst hpc
  subst hst
  intro ls H locs hl hP hD hS
  obtain ⟨⟨hx, hb, hml, hown, hts⟩, hK, hN, hr, hlk, hA⟩ := X
  have hPz : va_P D vwCl wz H := hP.sub isC (by
    have h9 := congrArg (List.filterMap id) hC
    simpa [List.filterMap_map, List.map_map] using h9)
  have hDz : va_D A wz := hD.sub isC hnd.1 hC
  have hF : ∀ q, va_A wz H.size q → A q := fun q h => by
    rcases h with ⟨k, e9, h⟩ | h
    · exact hDz.2 k (q, e9) h
    · exact hA q (Nat.le_trans hS.1 h)
  refine va_callv (mc := 0) (ms := 0) (va_runSN (As := As) (rest := rest) ⟨hx, hb, hml, hown, hts⟩ (hM H.size) ⟨va_cnB n0 hts (tt_code hw.1) rfl rfl rfl hnw (hts _ hw.2.2.1) hw.2.2.2 ⟨hR.1, hR.2.1⟩, hts _ hw.2.1, trivial⟩ ⟨pw_blind, fun U hU hW => ⟨rfl, by rw [hU], by rw [hU]; exact hPz, va_K.moved hW.alike hK, hDz.weaken (fun _ _ _ _ => trivial), hN.warm hW, trivial⟩⟩ rfl hn hl.1 rfl (lv_room hsum) hdg ⟨hR.2.2.1, hR.2.2.2⟩) hS (fun q _ h => hF q h) hF (fun u t H1 locs1 ht hvm hw9 hB hz1 hk1 hS1 => ?_)
  obtain ⟨hP1, hK1, hD1⟩ := hB
  rw [ht] at hP1
  obtain ⟨hP2, hD2⟩ := va_join hP hD isC isR hC hRr hnd.2.1 hnd.2.2.2 hk1 hF hP1 hD1
  exact kk ls H1 locs1 hl (hP2.sub ps (by
    have h9 := congrArg (List.filterMap id) hps
    simpa [List.filterMap_map, List.map_map] using h9)) (hD2.sub ps hnd.2.2.1 hps) hS1
end JC
