def QC {β : Type} (D : va_G) (tys : List (ClassId × FieldType)) (ws : va_W) (sz : Nat) (W1 : β → va_W) : Array Value → State → Outcome → State → Prop := va_Qv (fun (_ : Unit) => True) (fun _ t => ∃ x : β, va_P D vwCl (W1 x) t.heap ∧ va_K D vwCl tys t ∧ va_D (va_A ws sz) (W1 x)) (va_A ws sz)
abbrev rmc (k mc ms : Nat) : Room := ({ frames := k, cells := mc, slots := ms, locals := 40 * k })
abbrev MC {β : Type} (l : Launch) (z : MethodName) (bz : ByteArray) (nz : Nat) (k mc ms : Nat) (D : va_G) (tys : List (ClassId × FieldType)) (X : State → Prop) (av : List Value) (ws : va_W) (W1 : β → va_W) : Prop := ∀ sz : Nat, Met l z (Cond.code z bz nz none :: TT) (rmc k mc ms) (PW D tys X av sz ws) (QC D tys ws sz W1) mc ms (va_A ws sz)
theorem j_startC {β : Type} {y : MethodName} {cc : ByteArray} {n : Nat} {l : Launch} {k mc ms sz : Nat} {D : va_G} {cI cH cO : ClassId} {X : State → Prop} {av : List Value} {ws : va_W} {W1 : β → va_W} {own : String} (hy : plainName y.cls = true) (hyc : y.cls = own) (hn : (lg_sl av).length ≤ n)
    (body : ∀ (p : Program) (e : Env) (s : State) (m : MethodId) (below : List Frame) (meth : Method) (c : Code), X s → meth.name = y.name → CX p s m av.toArray meth c cc n own none D (tyl cI cH cO) (va_A ws s.heap.size) → J p l e (rmc k mc ms) s m av.toArray below meth c n D (va_A ws s.heap.size) 0 0 (fun _ : Unit => MQ below (QC D (tyl cI cH cO) ws s.heap.size W1) av.toArray s mc ms (va_A ws s.heap.size)) () ws 0 (lv_args 0 av) []) :
    Met l y (Cond.code y cc n none :: TT) (rmc k mc ms) (PW D (tyl cI cH cO) X av sz ws) (QC D (tyl cI cH cO) ws sz W1) mc ms (va_A ws sz) := by
  refine Met.ofW (cc := cc) (maxL := n) (ret := none) hy rfl ?_
  intro p e s m args below meth c s₁ B hml hv
  obtain ⟨rfl, hsz, hP, hK, hD0, hN, hX⟩ := hv
  have hts := atoms_spec (ws := Cond.code y cc n none :: TT) B.pre
  have hown : s.vm.findClass own = some m.cls := hyc ▸ findClass_of_methodNamed B.named
  have hl := lv_entry av (n := n) hn
  rw [lg_entry_eq]
  subst hsz
  exact body p e s m below meth c hX (name_of_methodNamed B.named B.method).1 ⟨⟨B.exec, B.bytes, hml, hown, fun w h => hts w (List.mem_cons_of_mem _ h)⟩, hK, hN, B.returns, B.notSynchronized, fun q h => Or.inr h⟩ _ s.heap [] hl hP hD0.self va_S.rf
section J7
variable {α β : Type} {p : Program} {l : Launch} {e : Env} {R : Room} {s : State} {m : MethodId} {args : Array Value} {below : List Frame} {meth : Method} {c : Code} {nL : Nat} {D : va_G} {A : Nat → Prop} {kc ks : Nat} {Kf : α → State → Prop} {sp : α} {ws ws' : va_W} {pc pc' : Nat} {lv lv' : List (Nat × Value)} {rest st : List Value}
variable {cc : ByteArray} {own : String} {ret : Option FieldType} {cI cH cO : ClassId}
variable {z : MethodName} {bz : ByteArray} {nz idx n0 kz mc ms : Nat}
theorem j_kk {kc2 ks2 : Nat} (h1 : kc = kc2) (h2 : ks = ks2) (k : J p l e R s m args below meth c nL D A kc2 ks2 Kf sp ws pc lv rest) : J p l e R s m args below meth c nL D A kc ks Kf sp ws pc lv rest := by subst h1; subst h2; exact k
theorem j_perm (ps : List Nat) (hn : va_nd ps = true) (hps : ps.map (fun i => ws[i]?) = ws'.map some) (k : J p l e R s m args below meth c nL D A kc ks Kf sp ws' pc lv rest) : J p l e R s m args below meth c nL D A kc ks Kf sp ws pc lv rest := fun ls H locs hl hP hD hS => k ls H locs hl (hP.sub ps (by
    have h9 := congrArg (List.filterMap id) hps
    simpa [List.filterMap_map, List.map_map] using h9)) (hD.sub ps hn hps) hS
theorem j_objInit (X : CX p s m args meth c cc nL own ret D (tyl cI cH cO) A) {a : Nat} (hw : Cond.methodLink own idx objectInit ∈ TT) (hR : 1 ≤ R.frames ∧ (rest.map fun v => v.category).sum + 12 ≤ R.locals) (hdg : decode cc pc = .ok (.invokespecial idx, 3)) (hpc : pc + 3 = pc') (kk : J p l e R s m args below meth c nL D A kc ks Kf sp ws pc' lv rest) : J p l e R s m args below meth c nL D A kc ks Kf sp ws pc lv (.ref a :: rest) := by
  subst hpc
  intro ls H locs hl hP hD hS
  obtain ⟨⟨hx, hb, hml, hown, hts⟩, hK, hN, hr, hlk, hA⟩ := X
  exact W.objInit hx hb hown (hts _ hw) (hts _ q_ins_Object_init) (hts _ q_code_Object_init) rfl (by rw [hml]; exact hl.1) rfl hdg hR.1 (by show 2 * 0 + _ + 12 ≤ _; omega) (kk ls H locs hl hP hD hS)
theorem j_newi (X : CX p s m args meth c cc nL own ret D (tyl cI cH cO) A) {n : Int32} (N : Nat) (hn : n = nI N) (hN : N < 2 ^ 20) (hR : kc + 1 ≤ R.cells ∧ ks + N ≤ R.slots) (hdg : decode cc pc = .ok (.newarray .int, 2)) (hpc : pc + 2 = pc') (kk : ∀ q : Nat, J p l e R s m args below meth c nL D A (kc + 1) (ks + N) Kf sp (ws ++ [(q, .inl (cI, N, .inl (fun _ => 0)))]) pc' lv (.ref q :: rest)) : J p l e R s m args below meth c nL D A kc ks Kf sp ws pc lv (.int n :: rest) := by
  subst hpc
  intro ls H locs hl hP hD hS
  obtain ⟨⟨hx, hb, hml, hown, hts⟩, hK, hN, hr, hlk, hA⟩ := X
  subst hn
  refine va_newa (atype := .int) (ty := .int) (N' := N) (a0 := (N, .inl (fun _ => 0))) hx hb (hts _ q_ac_int) rfl hK hP hD hS hA (fun cA => rfl) (nI_pos (by omega)) (nI_clamp (by omega)) (by show N * _ ≤ _; simp only [componentBytes]; omega) hR.1 hR.2 hdg (fun q cA H1 hK1 hP1 hD1 hS1 => ?_)
  have e : cA = cI := by
    have h1 := (hK1.2 3 (cA, .int) rfl).2
    have h2 := (hK.2 0 (cI, .int) rfl).2
    exact Option.some.inj (h1.symm.trans h2)
  subst e
  exact kk q ls H1 locs hl hP1 hD1 hS1
theorem j_newc (X : CX p s m args meth c cc nL own ret D (tyl cI cH cO) A) {n : Int32} (N : Nat) (hn : n = nI N) (hN : N < 2 ^ 20) (hR : kc + 1 ≤ R.cells ∧ ks + N ≤ R.slots) (hdg : decode cc pc = .ok (.newarray .char, 2)) (hpc : pc + 2 = pc') (kk : ∀ q : Nat, J p l e R s m args below meth c nL D A (kc + 1) (ks + N) Kf sp (ws ++ [(q, .inl (cH, N, .inl (fun _ => 0)))]) pc' lv (.ref q :: rest)) : J p l e R s m args below meth c nL D A kc ks Kf sp ws pc lv (.int n :: rest) := by
  subst hpc
  intro ls H locs hl hP hD hS
  obtain ⟨⟨hx, hb, hml, hown, hts⟩, hK, hN, hr, hlk, hA⟩ := X
  subst hn
  refine va_newa (atype := .char) (ty := .char) (N' := N) (a0 := (N, .inl (fun _ => 0))) hx hb (hts _ q_ac_char) rfl hK hP hD hS hA (fun cA => rfl) (nI_pos (by omega)) (nI_clamp (by omega)) (by show N * _ ≤ _; simp only [componentBytes]; omega) hR.1 hR.2 hdg (fun q cA H1 hK1 hP1 hD1 hS1 => ?_)
  have e : cA = cH := by
    have h1 := (hK1.2 3 (cA, .char) rfl).2
    have h2 := (hK.2 1 (cH, .char) rfl).2
    exact Option.some.inj (h1.symm.trans h2)
  subst e
  exact kk q ls H1 locs hl hP1 hD1 hS1
theorem j_new (X : CX p s m args meth c cc nL own ret D (tyl cI cH cO) A) {C : String} {T : u_T} {N ci index : Nat} (hin : ∀ w ∈ u_ws C T N, w ∈ TT) (hc : vwCl[ci]? = some (C, T, N)) {ty0 : Nat → FieldType} (hty : ∀ k, k < N → parseFieldDescriptor (T k).2.2.1 = some (ty0 k)) (fs : List Value) (hw : Cond.classLink own index C ∈ TT ∧ Cond.instantiable C N ∈ TT ∧ Cond.initialized C ∈ TT) (hfs : ∀ j, j < N → defaultValue (ty0 j) = vp_V fs j) (hR : kc + 1 ≤ R.cells ∧ ks + N ≤ R.slots) (hdg : decode cc pc = .ok (.new index, 3)) (hpc : pc + 3 = pc') (kk : ∀ q : Nat, J p l e R s m args below meth c nL D A (kc + 1) (ks + N) Kf sp (ws ++ [(q, .inr (ci, fs))]) pc' lv (.ref q :: rest)) : J p l e R s m args below meth c nL D A kc ks Kf sp ws pc lv rest := by
  subst hpc
  intro ls H locs hl hP hD hS
  obtain ⟨⟨hx, hb, hml, hown, hts⟩, hK, hN, hr, hlk, hA⟩ := X
  exact va_new hx hb hts hin ty0 hty hown (hts _ hw.1) (hts _ hw.2.1) (hts _ hw.2.2) hK hP hD hS hA hc hfs hR.1 hR.2 hdg (fun q H1 hP1 hD1 hS1 => kk q ls H1 locs hl hP1 hD1 hS1)
theorem j_putF (X : CX p s m args meth c cc nL own ret D (tyl cI cH cO) A) {C : String} {T : u_T} {N ci : Nat} (hin : ∀ w ∈ u_ws C T N, w ∈ TT) (hc : vwCl[ci]? = some (C, T, N)) {ty0 : Nat → FieldType} (hty : ∀ k, k < N → parseFieldDescriptor (T k).2.2.1 = some (ty0 k)) (hnm : ∀ a, a < N → ∀ b, b < N → a ≠ b → (T a).2.1 ≠ (T b).2.1) {a index : Nat} {v : Value} {fs : List Value} (q0 k : Nat) (hlink : Cond.fieldLink own index (T k).1 (T k).2.1 (T k).2.2.1 ∈ TT) (hk : k < N) (hfin : (T k).2.2.2 = true) (hi : meth.name = "<init>") (hdecl : (T k).1 = own) (hn : narrow (ty0 k) v = v) (hfit : fits (ty0 k) v = true) (he : ws[q0]? = some (a, .inr (ci, fs))) (hl9 : k < fs.length) (hset : ws.set q0 (a, .inr (ci, fs.set k v)) = ws') (hdg : decode cc pc = .ok (.putfield index, 3)) (hpc : pc + 3 = pc') (kk : J p l e R s m args below meth c nL D A kc ks Kf sp ws' pc' lv rest) : J p l e R s m args below meth c nL D A kc ks Kf sp ws pc lv (v :: .ref a :: rest) := by
  subst hpc
  intro ls H locs hl hP hD hS
  obtain ⟨⟨hx, hb, hml, hown, hts⟩, hK, hN, hr, hlk, hA⟩ := X
  refine va_putF hx hb hts hin ty0 hty hnm hown hK hP hD hS q0 he hc k hk (hts _ hlink) (fun _ h9 => h9) hfin hi hdecl (hty k hk) hn hfit hl9 hdg (fun H1 locs1 hP1 hD1 hS1 => ?_)
  rw [hset] at hP1 hD1
  exact kk ls H1 locs1 hl hP1 hD1 hS1
theorem j_put0 (X : CX p s m args meth c cc nL own ret D (tyl cI cH cO) A) {C : String} {T : u_T} {N ci : Nat} (hin : ∀ w ∈ u_ws C T N, w ∈ TT) (hc : vwCl[ci]? = some (C, T, N)) {ty0 : Nat → FieldType} (hty : ∀ k, k < N → parseFieldDescriptor (T k).2.2.1 = some (ty0 k)) (hnm : ∀ a, a < N → ∀ b, b < N → a ≠ b → (T a).2.1 ≠ (T b).2.1) {a index : Nat} {v : Value} {fs : List Value} (q0 k : Nat) (hlink : Cond.fieldLink own index (T k).1 (T k).2.1 (T k).2.2.1 ∈ TT) (hk : k < N) (hfin : (T k).2.2.2 = false) (hn : narrow (ty0 k) v = v) (hfit : fits (ty0 k) v = true) (he : ws[q0]? = some (a, .inr (ci, fs))) (hl9 : k < fs.length) (hset : ws.set q0 (a, .inr (ci, fs.set k v)) = ws') (hdg : decode cc pc = .ok (.putfield index, 3)) (hpc : pc + 3 = pc') (kk : J p l e R s m args below meth c nL D A kc ks Kf sp ws' pc' lv rest) : J p l e R s m args below meth c nL D A kc ks Kf sp ws pc lv (v :: .ref a :: rest) := by
  subst hpc
  intro ls H locs hl hP hD hS
  obtain ⟨⟨hx, hb, hml, hown, hts⟩, hK, hN, hr, hlk, hA⟩ := X
  refine va_put hx hb hts hin ty0 hty hnm hown hK hP hD hS q0 he hc k hk (hts _ hlink) (fun _ h9 => h9) hfin (hty k hk) hn hfit hl9 hdg (fun H1 locs1 hP1 hD1 hS1 => ?_)
  rw [hset] at hP1 hD1
  exact kk ls H1 locs1 hl hP1 hD1 hS1
theorem j_iast0 (X : CX p s m args meth c cc nL own ret D (tyl cI cH cO) A) {a n i : Nat} {g : Nat → Int32} {x : Int32} (q0 : Nat) (he : ws[q0]? = some (a, .inl (cI, n, .inl g))) (hset : ws.set q0 (a, .inl (cI, n, .inl (upd g i x))) = ws') (hin : i < n) (hn : n < 2 ^ 31) (hdg : decode cc pc = .ok (.iastore, 1)) (hpc : pc + 1 = pc') (kk : J p l e R s m args below meth c nL D A kc ks Kf sp ws' pc' lv rest) : J p l e R s m args below meth c nL D A kc ks Kf sp ws pc lv (.int x :: .int (nI i) :: .ref a :: rest) := by
  subst hpc
  intro ls H locs hl hP hD hS
  obtain ⟨⟨hx, hb, hml, hown, hts⟩, hK, hN, hr, hlk, hA⟩ := X
  refine va_iast hx hb hK hP hD hS q0 0 he rfl (vp_in_nI hin hn) hdg (fun H1 locs1 hP1 hD1 hS1 => ?_)
  rw [nI_clamp (Nat.lt_trans hin hn), hset] at hP1 hD1
  exact kk ls H1 locs1 hl hP1 hD1 hS1
end J7
section J8
variable {β : Type} {p : Program} {l : Launch} {e : Env} {R : Room} {s : State} {m : MethodId} {args : Array Value} {below : List Frame} {meth : Method} {c : Code} {nL : Nat} {D : va_G} {kc ks : Nat} {ws ws0 : va_W} {pc pc' : Nat} {lv : List (Nat × Value)} {rest st : List Value}
variable {cc : ByteArray} {own : String} {cI cH cO : ClassId}
theorem j_cret (X : CX p s m args meth c cc nL own none D (tyl cI cH cO) (va_A ws0 s.heap.size)) {W1 : β → va_W} (x : β) (hw : ws = W1 x) (hdg : decode cc pc = .ok (.return_, 1)) : J p l e R s m args below meth c nL D (va_A ws0 s.heap.size) kc ks (fun _ : Unit => MQ below (QC D (tyl cI cH cO) ws0 s.heap.size W1) args s kc ks (va_A ws0 s.heap.size)) () ws pc lv [] := by
  intro ls H locs hl hP hD hS
  obtain ⟨⟨hx, hb, hml, hown, hts⟩, hK, hN, hr, hlk, hA⟩ := X
  subst hw
  exact W.vret hx hb hr (fun t ht hW => ⟨⟨(), rfl, trivial, x, by rw [ht]; exact hP, va_K.moved hW.alike hK, hD⟩, hS.F ht⟩) hS.2.2 hdg hlk
end J8
