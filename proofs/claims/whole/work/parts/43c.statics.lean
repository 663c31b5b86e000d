def ST (B : Nat → Prop) (U : State) (H : Heap) : Prop := (∃ t : Nat, va_Z "CommonsTurns" "SETTING_LEAST" "[I" (.ref t) B U H ∧ va_T .int t 5 (fun j => .int (sL j)) B U H) ∧ (∃ t : Nat, va_Z "CommonsTurns" "SETTING_MOST" "[I" (.ref t) B U H ∧ va_T .int t 5 (fun j => .int (sM j)) B U H)
theorem ST.moved {B : Nat → Prop} {u U : State} {H : Heap} (hvm : u.vm.Alike U.vm) (h : ST B u H) : ST B U H := by
  obtain ⟨⟨t1, a1, b1⟩, t2, a2, b2⟩ := h
  exact ⟨⟨t1, a1.moved hvm, b1.moved hvm⟩, t2, a2.moved hvm, b2.moved hvm⟩
theorem ST.go {A B : Nat → Prop} {s U : State} {H : Heap} {locs : List Loc} (h : ST A s s.heap) (hS : va_S A s.heap H locs) (hF : ∀ q, B q → A q) (hU : U.heap = H) (hW : s.WarmedH U.vm) : ST B U U.heap := by
  obtain ⟨⟨t1, a1, b1⟩, t2, a2, b2⟩ := h
  rw [hU]
  exact ⟨⟨t1, ((a1.kept hS.2.1).narrow hF).moved hW.alike, ((b1.kept hS.2.1).narrow hF).moved hW.alike⟩, t2, ((a2.kept hS.2.1).narrow hF).moved hW.alike, ((b2.kept hS.2.1).narrow hF).moved hW.alike⟩
abbrev XS (ws : va_W) : State → Prop := fun U => ST (va_A ws U.heap.size) U U.heap
theorem pw_blindS {D : va_G} {tys : List (ClassId × FieldType)} {av : List Value} {sz : Nat} {ws : va_W} : FrameBlind (PW D tys (XS ws) av sz ws) := fun a U g mk q => by
  obtain ⟨q0, q1, qP, qK, qD, qN, qX⟩ := q
  exact ⟨q0, q1, qP, va_K.moved (u := U) (U := U.calling g mk a) (Vm.Alike.refl U.vm) qK, qD, qN.same rfl, ST.moved (u := U) (U := U.calling g mk a) (Vm.Alike.refl U.vm) qX⟩
abbrev MIX (l : Launch) (z : MethodName) (bz : ByteArray) (nz : Nat) (rz : Option FieldType) (k : Nat) (D : va_G) (tys : List (ClassId × FieldType)) (av : List Value) (ws : va_W) (r : Int32) (ws' : va_W) : Prop := ∀ sz : Nat, Met l z (Cond.code z bz nz rz :: TT) (rml k) (PW D tys (XS ws) av sz ws) (QI D tys ws sz r ws') 0 0 (va_A ws sz)
section J6
variable {α σ : Type} {p : Program} {l : Launch} {e : Env} {R : Room} {s : State} {m : MethodId} {args : Array Value} {below : List Frame} {meth : Method} {c : Code} {nL : Nat} {D : va_G} {A : Nat → Prop} {kc ks : Nat} {Kf : α → State → Prop} {sp : α} {ws ws' : va_W} {pc pc' : Nat} {lv lv' : List (Nat × Value)} {rest st : List Value}
variable {cc : ByteArray} {own : String} {ret : Option FieldType} {cI cH cO : ClassId}
variable {z : MethodName} {bz : ByteArray} {nz idx n0 kz : Nat} {rz : Option FieldType} {C : String} {b : Nat} {r : Int32}
theorem j_gets (X : CX p s m args meth c cc nL own ret D (tyl cI cH cO) A) {C0 n d host : String} {t index : Nat} (hZ : va_Z C0 n d (.ref t) A s s.heap) (hnw : va_Nw (.fieldLinkNest own index C0 n d host) s) (hdg : decode cc pc = .ok (.getstatic index, 3)) (hpc : pc + 3 = pc') (kk : J p l e R s m args below meth c nL D A kc ks Kf sp ws pc' lv (.ref t :: rest)) : J p l e R s m args below meth c nL D A kc ks Kf sp ws pc lv rest := by
  subst hpc
  intro ls H locs hl hP hD hS
  obtain ⟨⟨hx, hb, hml, hown, hts⟩, hK, hN, hr, hlk, hA⟩ := X
  exact va_getsN hx hb hZ hS hown (va_Nw.use rfl hnw) (fun _ h9 => h9) hdg (kk ls H locs hl hP hD hS)
theorem j_ti (X : CX p s m args meth c cc nL own ret D (tyl cI cH cO) A) {t N i : Nat} {f : Nat → Int32} (hT : va_T .int t N (fun j => .int (f j)) A s s.heap) (hin : i < N) (hN9 : N < 2 ^ 31) (hdg : decode cc pc = .ok (.iaload, 1)) (hpc : pc + 1 = pc') (kk : J p l e R s m args below meth c nL D A kc ks Kf sp ws pc' lv (.int (f i) :: rest)) : J p l e R s m args below meth c nL D A kc ks Kf sp ws pc lv (.int (nI i) :: .ref t :: rest) := by
  subst hpc
  intro ls H locs hl hP hD hS
  obtain ⟨⟨hx, hb, hml, hown, hts⟩, hK, hN, hr, hlk, hA⟩ := X
  exact va_ti hx hb hT hS (vp_in_nI hin hN9) (by rw [nI_clamp (Nat.lt_trans hin hN9)]) hdg (kk ls H locs hl hP hD hS)
theorem j_callViXF (X : CX p s m args meth c cc nL own ret D (tyl cI cH cO) A) {As : List Value} {wz wz1 wr : va_W} (hST : ST A s s.heap) (isC isR ps : List Nat) (hC : isC.map (fun i => ws[i]?) = wz.map some) (hRr : isR.map (fun i => ws[i]?) = wr.map some) (hnd : va_nd isC = true ∧ va_nd isR = true ∧ va_nd ps = true ∧ ∀ i ∈ isR, i ∉ isC) (hps : ps.map (fun i => (wr ++ wz1)[i]?) = ws'.map some) (hM : MIX l z bz nz rz kz D (tyl cI cH cO) (.ref b :: As) wz r wz1) (hw : WV own idx C z bz nz rz n0) (hrecv : ∃ (q0 ci : Nat) (fs : List Value) (q : vw_C), vwCl[ci]? = some q ∧ q.1 = C ∧ wz[q0]? = some (b, .inr (ci, fs))) (hR : RM R kz nz kc ks) (hst : st = As.reverse ++ .ref b :: rest) (hn : As.length = n0) (hsum : (rest.map fun v => v.category).sum ≤ 8) (hdg : decode cc pc = .ok (.invokevirtual idx, 3)) (hpc : pc + 3 = pc') (kk : J p l e R s m args below meth c nL D A kc ks Kf sp ws' pc' lv (.int r :: rest)) : J p l e R s m args below meth c nL D A kc ks Kf sp ws pc lv st := by
  subst hpc
  subst hst
  intro ls H locs hl hP hD hS
  obtain ⟨⟨hx, hb, hml, hown, hts⟩, hK, hN, hr, hlk, hA⟩ := X
  have hPz : va_P D vwCl wz H := hP.sub isC (by
    have h9 := congrArg (List.filterMap id) hC
    simpa [List.filterMap_map, List.map_map] using h9)
  have hDz : va_D A wz := hD.sub isC hnd.1 hC
  have hF : ∀ q, va_A wz H.size q → A q := fun q h => by
    rcases h with ⟨k, e9, h⟩ | h
    · exact hDz.2 k (q, e9) h
    · exact hA q (Nat.le_trans hS.1 h)
  refine va_calli (mc := 0) (ms := 0) (va_runV (As := As) (rest := rest) ⟨hx, hb, hml, hown, hts⟩ (hM H.size) (cwV n0 hts hw.good rfl rfl rfl hw.2.2.2.2.2 ⟨hR.1, hR.2.1⟩) ⟨pw_blindS, (by obtain ⟨q0, ci, fs, q, g1, g2, g3⟩ := hrecv; obtain ⟨cell, y1, y2, y3⟩ := va_recv hK hPz g1 g3; exact ⟨cell, y1, y2, by rw [← g2]; exact y3⟩), fun U hU hW => ⟨rfl, by rw [hU], by rw [hU]; exact hPz, va_K.moved hW.alike hK, hDz.weaken (fun _ _ _ _ => trivial), hN.warm hW, hST.go hS (by rw [hU]; exact hF) hU hW⟩⟩ rfl hn hl.1 rfl (lv_room hsum) hdg ⟨hR.2.2.1, hR.2.2.2⟩) hS (fun q _ h => hF q h) hF (fun r9 u t H1 locs1 ht hvm hw9 hB hz1 hk1 hS1 => ?_)
  subst hw9
  obtain ⟨hP1, hK1, hD1⟩ := hB
  rw [ht] at hP1
  obtain ⟨hP2, hD2⟩ := va_join hP hD isC isR hC hRr hnd.2.1 hnd.2.2.2 hk1 hF hP1 hD1
  exact kk ls H1 locs1 hl (hP2.sub ps (by
    have h9 := congrArg (List.filterMap id) hps
    simpa [List.filterMap_map, List.map_map] using h9)) (hD2.sub ps hnd.2.2.1 hps) hS1
end J6
