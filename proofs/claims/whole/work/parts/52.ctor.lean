abbrev XA : State → Prop := fun U => va_AO RX0 U
section J9
variable {α β : Type} {p : Program} {l : Launch} {e : Env} {R : Room} {s : State} {m : MethodId} {args : Array Value} {below : List Frame} {meth : Method} {c : Code} {nL : Nat} {D : va_G} {A : Nat → Prop} {kc ks : Nat} {Kf : α → State → Prop} {sp : α} {ws ws' : va_W} {pc pc' : Nat} {lv lv' : List (Nat × Value)} {rest st : List Value}
variable {cc : ByteArray} {own : String} {ret : Option FieldType} {cI cH cO : ClassId}
variable {z : MethodName} {bz : ByteArray} {nz idx n0 kz mc ms : Nat} {b : Nat}
theorem pw_blindX {D : va_G} {tys : List (ClassId × FieldType)} {av : List Value} {sz : Nat} {ws : va_W} {Xz : State → Prop} (hX : ∀ (U V : State), U.vm = V.vm → Xz U → Xz V) : FrameBlind (PW D tys Xz av sz ws) := fun a U g mk q => by
  obtain ⟨q0, q1, qP, qK, qD, qN, qX⟩ := q
  exact ⟨q0, q1, qP, va_K.moved (u := U) (U := U.calling g mk a) (Vm.Alike.refl U.vm) qK, qD, qN.same rfl, hX U (U.calling g mk a) rfl qX⟩
theorem j_ge_f (X : CX p s m args meth c cc nL own ret D (tyl cI cH cO) A) {x y : Int32} {off : Int} {tgt : Nat} (hdg : decode cc pc = .ok (.if_icmp .ge off, 3)) (ht : (pc : Int) + off = (tgt : Int)) (hpc : pc + 3 = pc') (h9 : ¬ y ≤ x) (k : J p l e R s m args below meth c nL D A kc ks Kf sp ws pc' lv rest) : J p l e R s m args below meth c nL D A kc ks Kf sp ws pc lv (.int y :: .int x :: rest) := by
  subst hpc
  intro ls H locs hl hP hD hS
  obtain ⟨⟨hx, hb, hml, hown, hts⟩, hK, hN, hr, hlk, hA⟩ := X
  refine lv_icmp_ge hx hb hdg ht (fun h => ?_) (fun h => ?_)
  · exact absurd h h9
  · exact k ls H locs hl hP hD hS
theorem j_ge_t (X : CX p s m args meth c cc nL own ret D (tyl cI cH cO) A) {x y : Int32} {off : Int} {tgt : Nat} (hdg : decode cc pc = .ok (.if_icmp .ge off, 3)) (ht : (pc : Int) + off = (tgt : Int)) (hpc : pc + 3 = pc') (h9 : y ≤ x) (k : J p l e R s m args below meth c nL D A kc ks Kf sp ws tgt lv rest) : J p l e R s m args below meth c nL D A kc ks Kf sp ws pc lv (.int y :: .int x :: rest) := by
  subst hpc
  intro ls H locs hl hP hD hS
  obtain ⟨⟨hx, hb, hml, hown, hts⟩, hK, hN, hr, hlk, hA⟩ := X
  refine lv_icmp_ge hx hb hdg ht (fun h => ?_) (fun h => ?_)
  · exact k ls H locs hl hP hD hS
  · exact absurd h9 h
theorem j_anew (X : CX p s m args meth c cc nL own ret D (tyl cI cH cO) A) {n : Int32} {index : Nat} (N : Nat) (hn : n = nI N) (hN : N < 2 ^ 20) (hAO : va_AO RX0 s) (hw : Cond.classLink own index RX0 ∈ TT) (hR : kc + 1 ≤ R.cells ∧ ks + N ≤ R.slots) (hdg : decode cc pc = .ok (.anewarray index, 3)) (hpc : pc + 3 = pc') (kk : ∀ q : Nat, J p l e R s m args below meth c nL D A (kc + 1) (ks + N) Kf sp (ws ++ [(q, .inl (cO, N, .inr (.inr (.inr (.inr (fun _ => none))))))]) pc' lv (.ref q :: rest)) : J p l e R s m args below meth c nL D A kc ks Kf sp ws pc lv (.int n :: rest) := by
  subst hpc
  intro ls H locs hl hP hD hS
  obtain ⟨⟨hx, hb, hml, hown, hts⟩, hK, hN, hr, hlk, hA⟩ := X
  subst hn
  refine va_newq (N' := N) hx hb hown (hts _ hw) hAO hK hP hD hS hA (nI_pos (by omega)) (nI_clamp (by omega)) (by omega) hR.1 hR.2 hdg (fun q cA H1 hK1 hP1 hD1 hS1 => ?_)
  have e : cA = cO := by
    obtain ⟨k1, p1, a1, a2, a3, a4⟩ := (hK1.2 3 (cA, .object RX0) rfl).2
    obtain ⟨k2, p2, b1, b2, b3, b4⟩ := (hK.2 2 (cO, .object RX0) rfl).2
    exact Option.some.inj (a4.symm.trans b4)
  subst e
  exact kk q ls H1 locs hl hP1 hD1 hS1
theorem j_aast (X : CX p s m args meth c cc nL own ret D (tyl cI cH cO) A) {a n v i : Nat} {vs : List Value} {g : Nat → Option Nat} (q0 qk : Nat) (he : ws[q0]? = some (a, .inl (cO, n, .inr (.inr (.inr (.inr g)))))) (hv : ws[qk]? = some (v, .inr (0, vs))) (hset : ws.set q0 (a, .inl (cO, n, .inr (.inr (.inr (.inr (va_up g i (some v))))))) = ws') (hin : i < n) (hn : n < 2 ^ 31) (hdg : decode cc pc = .ok (.aastore, 1)) (hpc : pc + 1 = pc') (kk : J p l e R s m args below meth c nL D A kc ks Kf sp ws' pc' lv rest) : J p l e R s m args below meth c nL D A kc ks Kf sp ws pc lv (.ref v :: .int (nI i) :: .ref a :: rest) := by
  subst hpc
  intro ls H locs hl hP hD hS
  obtain ⟨⟨hx, hb, hml, hown, hts⟩, hK, hN, hr, hlk, hA⟩ := X
  refine va_astq (r := (RX0, TX0, 17)) hx hb hK hP hD hS q0 2 qk 0 he rfl hv rfl (vp_in_nI hin hn) hdg (fun H1 locs1 hP1 hD1 hS1 => ?_)
  rw [nI_clamp (Nat.lt_trans hin hn), hset] at hP1 hD1
  exact kk ls H1 locs1 hl hP1 hD1 hS1
theorem j_callIN (X : CX p s m args meth c cc nL own ret D (tyl cI cH cO) A) {wz wr : va_W} {W1 : β → va_W} {Xz : State → Prop} {host : String} (hl9 : va_Nw (.methodLinkNest own idx z host) s) (isC isR : List Nat) (hC : isC.map (fun i => ws[i]?) = wz.map some) (hRr : isR.map (fun i => ws[i]?) = wr.map some) (hnd : va_nd isC = true ∧ va_nd isR = true ∧ ∀ i ∈ isR, i ∉ isC) (hXb : ∀ (U V : State), U.vm = V.vm → Xz U → Xz V) (hX9 : ∀ U : State, s.WarmedH U.vm → Xz U) (hM : MC l z bz nz kz mc ms D (tyl cI cH cO) Xz [.ref b] wz W1) (hw : Cond.code z bz nz none ∈ TT ∧ Cond.instanceMethod z ∈ TT ∧ Cond.initialized z.cls ∈ TT ∧ z.name = "<init>" ∧ (z.cls ≠ "java/lang/invoke/MethodHandle" ∧ z.cls ≠ "java/lang/invoke/VarHandle" ∧ (parseMethodDescriptor z.desc).map (fun d => d.parameters.length) = some 0)) (hR : kz + 1 ≤ R.frames ∧ 8 + (nz + 11) + 40 * kz ≤ R.locals ∧ kc + mc ≤ R.cells ∧ ks + ms ≤ R.slots) (hsum : (rest.map fun v => v.category).sum ≤ 8) (hdg : decode cc pc = .ok (.invokespecial idx, 3)) (hpc : pc + 3 = pc') (kk : ∀ x : β, J p l e R s m args below meth c nL D A (kc + mc) (ks + ms) Kf sp (wr ++ W1 x) pc' lv rest) : J p l e R s m args below meth c nL D A kc ks Kf sp ws pc lv (.ref b :: rest) := by
  subst hpc
  intro ls H locs hl hP hD hS
  obtain ⟨⟨hx, hb, hml, hown, hts⟩, hK, hN, hr, hlk, hA⟩ := X
  have hPz : va_P D vwCl wz H := hP.sub isC (by
    have h9 := congrArg (List.filterMap id) hC
    simpa [List.filterMap_map, List.map_map] using h9)
  have hDz : va_D A wz := hD.sub isC hnd.1 hC
  have hF : ∀ q, va_A wz H.size q → A q := fun q h => by
    rcases h with ⟨k, e9, h⟩ | h
    · exact hDz.2 k (q, e9) h
    · exact hA q (Nat.le_trans hS.1 h)
  refine va_callv (mc := mc) (ms := ms) (va_runIN (As := []) (rest := rest) ⟨hx, hb, hml, hown, hts⟩ (hM H.size) ⟨va_cnB 0 hts (tt_code hw.1) rfl rfl rfl hl9 (hts _ hw.2.2.1) hw.2.2.2.2 ⟨hR.1, hR.2.1⟩, hw.2.2.2.1, hts _ hw.2.1⟩ ⟨pw_blindX hXb, fun U hU hW => ⟨rfl, by rw [hU], by rw [hU]; exact hPz, va_K.moved hW.alike hK, hDz.weaken (fun _ _ _ _ => trivial), hN.warm hW, hX9 U hW⟩⟩ rfl rfl hl.1 rfl (lv_room hsum) hdg ⟨hR.2.2.1, hR.2.2.2⟩) hS (fun q _ h => hF q h) hF (fun u t H1 locs1 ht hvm hw9 hB hz1 hk1 hS1 => ?_)
  obtain ⟨x, hP1, hK1, hD1⟩ := hB
  rw [ht] at hP1
  obtain ⟨hP2, hD2⟩ := va_join hP hD isC isR hC hRr hnd.2.1 hnd.2.2 hk1 hF hP1 hD1
  exact kk x ls H1 locs1 hl hP2 hD2 hS1
theorem j_callI (X : CX p s m args meth c cc nL own ret D (tyl cI cH cO) A) {wz wr : va_W} {W1 : β → va_W} {Xz : State → Prop} (hl9 : Cond.methodLink own idx z ∈ TT) (isC isR : List Nat) (hC : isC.map (fun i => ws[i]?) = wz.map some) (hRr : isR.map (fun i => ws[i]?) = wr.map some) (hnd : va_nd isC = true ∧ va_nd isR = true ∧ ∀ i ∈ isR, i ∉ isC) (hXb : ∀ (U V : State), U.vm = V.vm → Xz U → Xz V) (hX9 : ∀ U : State, s.WarmedH U.vm → Xz U) (hM : MC l z bz nz kz mc ms D (tyl cI cH cO) Xz [.ref b] wz W1) (hw : Cond.code z bz nz none ∈ TT ∧ Cond.instanceMethod z ∈ TT ∧ Cond.initialized z.cls ∈ TT ∧ z.name = "<init>" ∧ (z.cls ≠ "java/lang/invoke/MethodHandle" ∧ z.cls ≠ "java/lang/invoke/VarHandle" ∧ (parseMethodDescriptor z.desc).map (fun d => d.parameters.length) = some 0)) (hR : kz + 1 ≤ R.frames ∧ 8 + (nz + 11) + 40 * kz ≤ R.locals ∧ kc + mc ≤ R.cells ∧ ks + ms ≤ R.slots) (hsum : (rest.map fun v => v.category).sum ≤ 8) (hdg : decode cc pc = .ok (.invokespecial idx, 3)) (hpc : pc + 3 = pc') (kk : ∀ x : β, J p l e R s m args below meth c nL D A (kc + mc) (ks + ms) Kf sp (wr ++ W1 x) pc' lv rest) : J p l e R s m args below meth c nL D A kc ks Kf sp ws pc lv (.ref b :: rest) := by
  subst hpc
  intro ls H locs hl hP hD hS
  obtain ⟨⟨hx, hb, hml, hown, hts⟩, hK, hN, hr, hlk, hA⟩ := X
  have hPz : va_P D vwCl wz H := hP.sub isC (by
    have h9 := congrArg (List.filterMap id) hC
    simpa [List.filterMap_map, List.map_map] using h9)
  have hDz : va_D A wz := hD.sub isC hnd.1 hC
  have hF : ∀ q, va_A wz H.size q → A q := fun q h => by
    rcases h with ⟨k, e9, h⟩ | h
    · exact hDz.2 k (q, e9) h
    · exact hA q (Nat.le_trans hS.1 h)
  refine va_callv (mc := mc) (ms := ms) (va_runI (As := []) (rest := rest) ⟨hx, hb, hml, hown, hts⟩ (hM H.size) (cwI 0 hts (tt_code hw.1) rfl rfl rfl (hts _ hw.2.2.1) (hts _ hl9) (hts _ hw.2.1) hw.2.2.2.1 hw.2.2.2.2 ⟨hR.1, hR.2.1⟩) ⟨pw_blindX hXb, fun U hU hW => ⟨rfl, by rw [hU], by rw [hU]; exact hPz, va_K.moved hW.alike hK, hDz.weaken (fun _ _ _ _ => trivial), hN.warm hW, hX9 U hW⟩⟩ rfl rfl hl.1 rfl (lv_room hsum) hdg ⟨hR.2.2.1, hR.2.2.2⟩) hS (fun q _ h => hF q h) hF (fun u t H1 locs1 ht hvm hw9 hB hz1 hk1 hS1 => ?_)
  obtain ⟨x, hP1, hK1, hD1⟩ := hB
  rw [ht] at hP1
  obtain ⟨hP2, hD2⟩ := va_join hP hD isC isR hC hRr hnd.2.1 hnd.2.2 hk1 hF hP1 hD1
  exact kk x ls H1 locs1 hl hP2 hD2 hS1
end J9
theorem refs_agree {cA : ClassId} {n : Nat} {f g : Nat → Option Nat} (h : ∀ j, j < n → f j = g j) : vp_cell cA (n, .inr (.inr (.inr (.inr f)))) = vp_cell cA (n, .inr (.inr (.inr (.inr g)))) := by
  show arrV cA n (fun j => va_rf (f j)) = arrV cA n (fun j => va_rf (g j))
  unfold arrV
  have e : (Array.ofFn (n := n) fun j => va_rf (f j.val)) = Array.ofFn (n := n) fun j => va_rf (g j.val) := congrArg (fun z => Array.ofFn (n := n) z) (funext fun j => by rw [h j.val j.isLt])
  rw [e]
theorem refs_P {D : va_G} {cl : List vw_C} {c0 : Nat × va_E} {q n : Nat} {cA : ClassId} {f g : Nat → Option Nat} {rest : va_W} {H : Heap} (h : ∀ j, j < n → f j = g j) (hP : va_P D cl (c0 :: (q, .inl (cA, n, .inr (.inr (.inr (.inr f))))) :: rest) H) : va_P D cl (c0 :: (q, .inl (cA, n, .inr (.inr (.inr (.inr g))))) :: rest) H := by
  rw [va_P_cons, va_P_cons] at hP ⊢
  refine ⟨hP.1, ?_, hP.2.2⟩
  show H[_]? = some (vp_cell cA (_, .inr (.inr (.inr (.inr _)))))
  rw [← refs_agree h]
  exact hP.2.1
theorem va_P_app {D : va_G} {cl : List vw_C} {a b : va_W} {H : Heap} : va_P D cl (a ++ b) H ↔ va_P D cl a H ∧ va_P D cl b H := by
  constructor
  · intro h
    refine ⟨fun k q hk => h k q (by rw [List.getElem?_append_left (List.getElem?_eq_some_iff.mp hk).1]; exact hk), fun k q hk => h (a.length + k) q (by rw [List.getElem?_append_right (Nat.le_add_right _ _), Nat.add_sub_cancel_left]; exact hk)⟩
  · rintro ⟨h1, h2⟩
    exact h1.app h2
theorem refsX {D : va_G} {cl : List vw_C} (w1 w2 : va_W) {c0 : Nat × va_E} {q n : Nat} {cA : ClassId} {f g : Nat → Option Nat} {H : Heap} (h : ∀ j, j < n → f j = g j) (hP : va_P D cl (w1 ++ (c0 :: (q, .inl (cA, n, .inr (.inr (.inr (.inr f))))) :: w2)) H) : va_P D cl (w1 ++ (c0 :: (q, .inl (cA, n, .inr (.inr (.inr (.inr g))))) :: w2)) H := by
  rw [va_P_app] at hP ⊢
  exact ⟨hP.1, refs_P h hP.2⟩
theorem wi_X0 : Cond.code yX0_init cX0_init 1 none ∈ TT ∧ Cond.instanceMethod yX0_init ∈ TT ∧ Cond.initialized yX0_init.cls ∈ TT ∧ yX0_init.name = "<init>" ∧ (yX0_init.cls ≠ "java/lang/invoke/MethodHandle" ∧ yX0_init.cls ≠ "java/lang/invoke/VarHandle" ∧ (parseMethodDescriptor yX0_init.desc).map (fun d => d.parameters.length) = some 0) := ⟨q_code_X0_init, q_ins_X0_init, q_ini_X0, rfl, by decide +kernel⟩
theorem wi_X1 : Cond.code yX1_init cX1_init 2 none ∈ TT ∧ Cond.instanceMethod yX1_init ∈ TT ∧ Cond.initialized yX1_init.cls ∈ TT ∧ yX1_init.name = "<init>" ∧ (yX1_init.cls ≠ "java/lang/invoke/MethodHandle" ∧ yX1_init.cls ≠ "java/lang/invoke/VarHandle" ∧ (parseMethodDescriptor yX1_init.desc).map (fun d => d.parameters.length) = some 0) := ⟨q_code_X1_init, q_ins_X1_init, q_ini_X1, rfl, by decide +kernel⟩
theorem wi_X2 : Cond.code yX2_init cX2_init 1 none ∈ TT ∧ Cond.instanceMethod yX2_init ∈ TT ∧ Cond.initialized yX2_init.cls ∈ TT ∧ yX2_init.name = "<init>" ∧ (yX2_init.cls ≠ "java/lang/invoke/MethodHandle" ∧ yX2_init.cls ≠ "java/lang/invoke/VarHandle" ∧ (parseMethodDescriptor yX2_init.desc).map (fun d => d.parameters.length) = some 0) := ⟨q_code_X2_init, q_ins_X2_init, q_ini_X2, rfl, by decide +kernel⟩
theorem wi_X3 : Cond.code yX3_init cX3_init 1 none ∈ TT ∧ Cond.instanceMethod yX3_init ∈ TT ∧ Cond.initialized yX3_init.cls ∈ TT ∧ yX3_init.name = "<init>" ∧ (yX3_init.cls ≠ "java/lang/invoke/MethodHandle" ∧ yX3_init.cls ≠ "java/lang/invoke/VarHandle" ∧ (parseMethodDescriptor yX3_init.desc).map (fun d => d.parameters.length) = some 0) := ⟨q_code_X3_init, q_ins_X3_init, q_ini_X3, rfl, by decide +kernel⟩
theorem wi_X4 : Cond.code yX4_init cX4_init 1 none ∈ TT ∧ Cond.instanceMethod yX4_init ∈ TT ∧ Cond.initialized yX4_init.cls ∈ TT ∧ yX4_init.name = "<init>" ∧ (yX4_init.cls ≠ "java/lang/invoke/MethodHandle" ∧ yX4_init.cls ≠ "java/lang/invoke/VarHandle" ∧ (parseMethodDescriptor yX4_init.desc).map (fun d => d.parameters.length) = some 0) := ⟨q_code_X4_init, q_ins_X4_init, q_ini_X4, rfl, by decide +kernel⟩
theorem wi_X5 : Cond.code yX5_init cX5_init 1 none ∈ TT ∧ Cond.instanceMethod yX5_init ∈ TT ∧ Cond.initialized yX5_init.cls ∈ TT ∧ yX5_init.name = "<init>" ∧ (yX5_init.cls ≠ "java/lang/invoke/MethodHandle" ∧ yX5_init.cls ≠ "java/lang/invoke/VarHandle" ∧ (parseMethodDescriptor yX5_init.desc).map (fun d => d.parameters.length) = some 0) := ⟨q_code_X5_init, q_ins_X5_init, q_ini_X5, rfl, by decide +kernel⟩
