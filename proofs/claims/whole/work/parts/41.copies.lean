theorem cell_agree {cA : ClassId} {n : Nat} {f g : Nat → Int32} (h : ∀ j, j < n → f j = g j) : vp_cell cA (n, .inl f) = vp_cell cA (n, .inl g) := by
  show arrV cA n (fun j => .int (f j)) = arrV cA n (fun j => .int (g j))
  unfold arrV
  have e : (Array.ofFn (n := n) fun j => Value.int (f j.val)) = Array.ofFn (n := n) fun j => Value.int (g j.val) := congrArg (fun z => Array.ofFn (n := n) z) (funext fun j => by rw [h j.val j.isLt])
  rw [e]
theorem va_P_cons {D : va_G} {cl : List vw_C} {q : Nat × va_E} {ws : va_W} {H : Heap} : va_P D cl (q :: ws) H ↔ va_at D cl q H ∧ va_P D cl ws H := by
  constructor
  · intro h
    exact ⟨h 0 q rfl, fun k q' hk => h (k + 1) q' hk⟩
  · rintro ⟨h1, h2⟩ k q' hk
    cases k with
    | zero => cases hk; exact h1
    | succ k => exact h2 k q' hk
theorem va_D_fst {A : Nat → Prop} {ws ws' : va_W} (h : ws.map Prod.fst = ws'.map Prod.fst) (hD : va_D A ws) : va_D A ws' := by
  have key : ∀ (k : Nat) (q : Nat × va_E), ws'[k]? = some q → ∃ e, ws[k]? = some (q.1, e) := by
    intro k q hk
    have h1 : (ws.map Prod.fst)[k]? = some q.1 := by rw [h, List.getElem?_map, hk]; rfl
    rw [List.getElem?_map] at h1
    cases hq : ws[k]? with
    | none => rw [hq] at h1; cases h1
    | some z =>
      rw [hq] at h1
      exact ⟨z.2, by rw [← Option.some.inj h1]⟩
  refine ⟨fun i j x y hi hj hxy => ?_, fun k q hk => ?_⟩
  · obtain ⟨e1, g1⟩ := key i x hi
    obtain ⟨e2, g2⟩ := key j y hj
    exact hD.1 i j _ _ g1 g2 hxy
  · obtain ⟨e1, g1⟩ := key k q hk
    exact hD.2 k (q.1, e1) g1
theorem wC_agree {D : va_G} {cI : ClassId} {h : Nat} {ar : Nat → Nat} {C O : Cst} {rest : va_W} {H : Heap} (hs : ∀ k, 9 ≤ k → k < 17 → C k 0 = O k 0) (h0 : ∀ j, j < 5 → C 0 j = O 0 j) (hm : ∀ k, 1 ≤ k → k < 8 → ∀ j, j < 8 → C k j = O k j) (h8 : ∀ j, j < 30 → C 8 j = O 8 j) (hP : va_P D vwCl (wC cI h ar C ++ rest) H) : va_P D vwCl (wC cI h ar O ++ rest) H := by
  simp only [wC, List.cons_append, List.nil_append, va_P_cons] at hP ⊢
  obtain ⟨p0, p1, p2, p3, p4, p5, p6, p7, p8, p9, pr⟩ := hP
  have cg : ∀ {a : Nat} {n k : Nat}, (∀ j, j < n → C k j = O k j) → va_at D vwCl (a, .inl (cI, n, .inl (C k))) H → va_at D vwCl (a, .inl (cI, n, .inl (O k))) H := fun hj q => by
    show H[_]? = some (vp_cell cI (_, .inl _))
    rw [← cell_agree hj]; exact q
  refine ⟨?_, cg h0 p1, cg (hm 1 (by omega) (by omega)) p2, cg (hm 2 (by omega) (by omega)) p3, cg (hm 3 (by omega) (by omega)) p4, cg (hm 4 (by omega) (by omega)) p5, cg (hm 5 (by omega) (by omega)) p6, cg (hm 6 (by omega) (by omega)) p7, cg (hm 7 (by omega) (by omega)) p8, cg h8 p9, pr⟩
  rw [← hs 9 (by omega) (by omega), ← hs 10 (by omega) (by omega), ← hs 11 (by omega) (by omega), ← hs 12 (by omega) (by omega), ← hs 13 (by omega) (by omega), ← hs 14 (by omega) (by omega), ← hs 15 (by omega) (by omega), ← hs 16 (by omega) (by omega)]
  exact p0

section J5
variable {α σ : Type} {p : Program} {l : Launch} {e : Env} {R : Room} {s : State} {m : MethodId} {args : Array Value} {below : List Frame} {meth : Method} {c : Code} {nL : Nat} {D : va_G} {A : Nat → Prop} {kc ks : Nat} {Kf : α → State → Prop} {sp : α} {ws ws' : va_W} {pc pc' : Nat} {lv lv' : List (Nat × Value)} {rest st : List Value}
variable {cc : ByteArray} {own : String} {ret : Option FieldType} {cI cH cO : ClassId}
theorem j_copyi (X : CX p s m args meth c cc nL own ret D (tyl cI cH cO) A) {a0 a n0 n1 idx : Nat} {f g : Nat → Int32} {n : Int32} (N q0 q1 : Nat) (hw : Cond.methodLink own idx arraycopyName ∈ TT ∧ Cond.native arraycopyName ∈ TT ∧ Cond.static arraycopyName ∈ TT ∧ Cond.initialized "java/lang/System" ∈ TT) (he0 : ws[q0]? = some (a0, .inl (cI, n0, .inl f))) (he1 : ws[q1]? = some (a, .inl (cI, n1, .inl g))) (hn : n = nI N) (hN : N < 2 ^ 31 ∧ N ≤ n0 ∧ N ≤ n1) (hset : ws.set q1 (a, .inl (cI, n1, .inl (va_cpy f g 0 0 N))) = ws') (hR : 1 ≤ R.frames ∧ (rest.map fun v => v.category).sum + (nativeFrameWords "java/lang/System" "arraycopy" 5 + 11) ≤ R.locals) (hdg : decode cc pc = .ok (.invokestatic idx, 3)) (hpc : pc + 3 = pc') (kk : J p l e R s m args below meth c nL D A kc ks Kf sp ws' pc' lv rest) : J p l e R s m args below meth c nL D A kc ks Kf sp ws pc lv (.int n :: .int 0 :: .ref a :: .int 0 :: .ref a0 :: rest) := by
  subst hpc
  subst hn
  intro ls H locs hl hP hD hS
  obtain ⟨⟨hx, hb, hml, hown, hts⟩, hK, hN9, hr, hlk, hA⟩ := X
  have hz : (0 : Int32).toNatClampNeg = 0 := by decide
  have hc : (nI N).toNatClampNeg = N := nI_clamp hN.1
  refine va_copyi hx hb (by rw [hml]; exact hl.1.symm) hown (hts _ hw.1) (hts _ hw.2.1) (hts _ hw.2.2.1) (hts _ hw.2.2.2) hK hP hD hS q0 q1 0 0 he0 he1 rfl rfl rfl (by decide) (by decide) (nI_pos hN.1) (by rw [hz, hc]; omega) (by rw [hz, hc]; omega) (fun i _ => rfl) hR.1 hR.2 hdg (fun H1 locs1 hP1 hD1 hS1 => ?_)
  rw [hz, hc, hset] at hP1 hD1
  exact kk ls H1 locs1 hl hP1 hD1 hS1
end J5
set_option maxHeartbeats 4000000 in
set_option maxRecDepth 100000 in
theorem c_X4_copyRow_0 (l : Launch) (D : va_G) (cI cH cO : ClassId) (h : Nat) (ar : Nat → Nat) (C : Cst) (h2 : Nat) (ar2 : Nat → Nat) (O : Cst) : MV l yX4_copyRow cX4_copyRow 2 1 D (tyl cI cH cO) [.ref (ar2 0), .ref (ar 0)] ((wC cI h ar C) ++ (wC cI h2 ar2 O)) ((wC cI h ar (sX4_copyRow_0 C O)) ++ (wC cI h2 ar2 O)) := fun sz => j_start (fun below s => KV below [.ref (ar2 0), .ref (ar 0)].toArray s D (tyl cI cH cO) ((wC cI h ar C) ++ (wC cI h2 ar2 O)) (fun C9 => (wC cI h ar C9) ++ (wC cI h2 ar2 O))) (sX4_copyRow_0 C O) (by decide +kernel) rfl (Nat.le_of_ble_eq_true rfl) (fun below s hs _ => by subst hs; rfl) (fun p e s m below meth c _ X => by
  refine j_lv [0, 1] (lv' := [(0, .ref (ar2 0)), (1, .ref (ar 0))]) rfl ?_
  refine j_aload_n X (pc' := 1) 0 dX4_copyRow_0 rfl rfl rfl ?_
  refine j_iconst X (v := 0) (pc' := 2) dX4_copyRow_1 (by decide) rfl ?_
  refine j_aload_n X (pc' := 3) 1 dX4_copyRow_2 rfl rfl rfl ?_
  refine j_iconst X (v := 0) (pc' := 4) dX4_copyRow_3 (by decide) rfl ?_
  refine j_aload_n X (pc' := 5) 0 dX4_copyRow_4 rfl rfl rfl ?_
  refine j_alen X (v := 5) (pc' := 6) 11 0 rfl rfl rfl dX4_copyRow_5 rfl ?_
  refine j_aload_n X (pc' := 7) 1 dX4_copyRow_6 rfl rfl rfl ?_
  refine j_alen X (v := 5) (pc' := 8) 1 0 rfl rfl rfl dX4_copyRow_7 rfl ?_
  refine j_mmin X (pc' := 11) ⟨q_ml_X4_163, q_sta_J9_min, q_ini_J9, q_code_J9_min⟩ ⟨by decide, Nat.le_of_ble_eq_true rfl, by decide, by decide⟩ dX4_copyRow_8 rfl ?_
  refine j_copyi X (pc' := 14) (ws' := (wC cI h ar (sX4_copyRow_0 C O)) ++ (wC cI h2 ar2 O)) 5 11 1 ⟨q_ml_X4_168, q_nat_J10_arraycopy, q_sta_J10_arraycopy, q_ini_J10⟩ rfl rfl (by decide) (by decide) rfl ⟨by decide, by decide⟩ dX4_copyRow_11 rfl ?_
  exact j_vret X rfl dX4_copyRow_14)
set_option maxHeartbeats 4000000 in
set_option maxRecDepth 100000 in
theorem c_X4_copyRow_1 (l : Launch) (D : va_G) (cI cH cO : ClassId) (h : Nat) (ar : Nat → Nat) (C : Cst) (h2 : Nat) (ar2 : Nat → Nat) (O : Cst) : MV l yX4_copyRow cX4_copyRow 2 1 D (tyl cI cH cO) [.ref (ar2 1), .ref (ar 1)] ((wC cI h ar C) ++ (wC cI h2 ar2 O)) ((wC cI h ar (sX4_copyRow_1 C O)) ++ (wC cI h2 ar2 O)) := fun sz => j_start (fun below s => KV below [.ref (ar2 1), .ref (ar 1)].toArray s D (tyl cI cH cO) ((wC cI h ar C) ++ (wC cI h2 ar2 O)) (fun C9 => (wC cI h ar C9) ++ (wC cI h2 ar2 O))) (sX4_copyRow_1 C O) (by decide +kernel) rfl (Nat.le_of_ble_eq_true rfl) (fun below s hs _ => by subst hs; rfl) (fun p e s m below meth c _ X => by
  refine j_lv [0, 1] (lv' := [(0, .ref (ar2 1)), (1, .ref (ar 1))]) rfl ?_
  refine j_aload_n X (pc' := 1) 0 dX4_copyRow_0 rfl rfl rfl ?_
  refine j_iconst X (v := 0) (pc' := 2) dX4_copyRow_1 (by decide) rfl ?_
  refine j_aload_n X (pc' := 3) 1 dX4_copyRow_2 rfl rfl rfl ?_
  refine j_iconst X (v := 0) (pc' := 4) dX4_copyRow_3 (by decide) rfl ?_
  refine j_aload_n X (pc' := 5) 0 dX4_copyRow_4 rfl rfl rfl ?_
  refine j_alen X (v := 8) (pc' := 6) 12 0 rfl rfl rfl dX4_copyRow_5 rfl ?_
  refine j_aload_n X (pc' := 7) 1 dX4_copyRow_6 rfl rfl rfl ?_
  refine j_alen X (v := 8) (pc' := 8) 2 0 rfl rfl rfl dX4_copyRow_7 rfl ?_
  refine j_mmin X (pc' := 11) ⟨q_ml_X4_163, q_sta_J9_min, q_ini_J9, q_code_J9_min⟩ ⟨by decide, Nat.le_of_ble_eq_true rfl, by decide, by decide⟩ dX4_copyRow_8 rfl ?_
  refine j_copyi X (pc' := 14) (ws' := (wC cI h ar (sX4_copyRow_1 C O)) ++ (wC cI h2 ar2 O)) 8 12 2 ⟨q_ml_X4_168, q_nat_J10_arraycopy, q_sta_J10_arraycopy, q_ini_J10⟩ rfl rfl (by decide) (by decide) rfl ⟨by decide, by decide⟩ dX4_copyRow_11 rfl ?_
  exact j_vret X rfl dX4_copyRow_14)
set_option maxHeartbeats 4000000 in
set_option maxRecDepth 100000 in
theorem c_X4_copyRow_2 (l : Launch) (D : va_G) (cI cH cO : ClassId) (h : Nat) (ar : Nat → Nat) (C : Cst) (h2 : Nat) (ar2 : Nat → Nat) (O : Cst) : MV l yX4_copyRow cX4_copyRow 2 1 D (tyl cI cH cO) [.ref (ar2 2), .ref (ar 2)] ((wC cI h ar C) ++ (wC cI h2 ar2 O)) ((wC cI h ar (sX4_copyRow_2 C O)) ++ (wC cI h2 ar2 O)) := fun sz => j_start (fun below s => KV below [.ref (ar2 2), .ref (ar 2)].toArray s D (tyl cI cH cO) ((wC cI h ar C) ++ (wC cI h2 ar2 O)) (fun C9 => (wC cI h ar C9) ++ (wC cI h2 ar2 O))) (sX4_copyRow_2 C O) (by decide +kernel) rfl (Nat.le_of_ble_eq_true rfl) (fun below s hs _ => by subst hs; rfl) (fun p e s m below meth c _ X => by
  refine j_lv [0, 1] (lv' := [(0, .ref (ar2 2)), (1, .ref (ar 2))]) rfl ?_
  refine j_aload_n X (pc' := 1) 0 dX4_copyRow_0 rfl rfl rfl ?_
  refine j_iconst X (v := 0) (pc' := 2) dX4_copyRow_1 (by decide) rfl ?_
  refine j_aload_n X (pc' := 3) 1 dX4_copyRow_2 rfl rfl rfl ?_
  refine j_iconst X (v := 0) (pc' := 4) dX4_copyRow_3 (by decide) rfl ?_
  refine j_aload_n X (pc' := 5) 0 dX4_copyRow_4 rfl rfl rfl ?_
  refine j_alen X (v := 8) (pc' := 6) 13 0 rfl rfl rfl dX4_copyRow_5 rfl ?_
  refine j_aload_n X (pc' := 7) 1 dX4_copyRow_6 rfl rfl rfl ?_
  refine j_alen X (v := 8) (pc' := 8) 3 0 rfl rfl rfl dX4_copyRow_7 rfl ?_
  refine j_mmin X (pc' := 11) ⟨q_ml_X4_163, q_sta_J9_min, q_ini_J9, q_code_J9_min⟩ ⟨by decide, Nat.le_of_ble_eq_true rfl, by decide, by decide⟩ dX4_copyRow_8 rfl ?_
  refine j_copyi X (pc' := 14) (ws' := (wC cI h ar (sX4_copyRow_2 C O)) ++ (wC cI h2 ar2 O)) 8 13 3 ⟨q_ml_X4_168, q_nat_J10_arraycopy, q_sta_J10_arraycopy, q_ini_J10⟩ rfl rfl (by decide) (by decide) rfl ⟨by decide, by decide⟩ dX4_copyRow_11 rfl ?_
  exact j_vret X rfl dX4_copyRow_14)
set_option maxHeartbeats 4000000 in
set_option maxRecDepth 100000 in
theorem c_X4_copyRow_3 (l : Launch) (D : va_G) (cI cH cO : ClassId) (h : Nat) (ar : Nat → Nat) (C : Cst) (h2 : Nat) (ar2 : Nat → Nat) (O : Cst) : MV l yX4_copyRow cX4_copyRow 2 1 D (tyl cI cH cO) [.ref (ar2 3), .ref (ar 3)] ((wC cI h ar C) ++ (wC cI h2 ar2 O)) ((wC cI h ar (sX4_copyRow_3 C O)) ++ (wC cI h2 ar2 O)) := fun sz => j_start (fun below s => KV below [.ref (ar2 3), .ref (ar 3)].toArray s D (tyl cI cH cO) ((wC cI h ar C) ++ (wC cI h2 ar2 O)) (fun C9 => (wC cI h ar C9) ++ (wC cI h2 ar2 O))) (sX4_copyRow_3 C O) (by decide +kernel) rfl (Nat.le_of_ble_eq_true rfl) (fun below s hs _ => by subst hs; rfl) (fun p e s m below meth c _ X => by
  refine j_lv [0, 1] (lv' := [(0, .ref (ar2 3)), (1, .ref (ar 3))]) rfl ?_
  refine j_aload_n X (pc' := 1) 0 dX4_copyRow_0 rfl rfl rfl ?_
  refine j_iconst X (v := 0) (pc' := 2) dX4_copyRow_1 (by decide) rfl ?_
  refine j_aload_n X (pc' := 3) 1 dX4_copyRow_2 rfl rfl rfl ?_
  refine j_iconst X (v := 0) (pc' := 4) dX4_copyRow_3 (by decide) rfl ?_
  refine j_aload_n X (pc' := 5) 0 dX4_copyRow_4 rfl rfl rfl ?_
  refine j_alen X (v := 8) (pc' := 6) 14 0 rfl rfl rfl dX4_copyRow_5 rfl ?_
  refine j_aload_n X (pc' := 7) 1 dX4_copyRow_6 rfl rfl rfl ?_
  refine j_alen X (v := 8) (pc' := 8) 4 0 rfl rfl rfl dX4_copyRow_7 rfl ?_
  refine j_mmin X (pc' := 11) ⟨q_ml_X4_163, q_sta_J9_min, q_ini_J9, q_code_J9_min⟩ ⟨by decide, Nat.le_of_ble_eq_true rfl, by decide, by decide⟩ dX4_copyRow_8 rfl ?_
  refine j_copyi X (pc' := 14) (ws' := (wC cI h ar (sX4_copyRow_3 C O)) ++ (wC cI h2 ar2 O)) 8 14 4 ⟨q_ml_X4_168, q_nat_J10_arraycopy, q_sta_J10_arraycopy, q_ini_J10⟩ rfl rfl (by decide) (by decide) rfl ⟨by decide, by decide⟩ dX4_copyRow_11 rfl ?_
  exact j_vret X rfl dX4_copyRow_14)
set_option maxHeartbeats 4000000 in
set_option maxRecDepth 100000 in
theorem c_X4_copyRow_4 (l : Launch) (D : va_G) (cI cH cO : ClassId) (h : Nat) (ar : Nat → Nat) (C : Cst) (h2 : Nat) (ar2 : Nat → Nat) (O : Cst) : MV l yX4_copyRow cX4_copyRow 2 1 D (tyl cI cH cO) [.ref (ar2 4), .ref (ar 4)] ((wC cI h ar C) ++ (wC cI h2 ar2 O)) ((wC cI h ar (sX4_copyRow_4 C O)) ++ (wC cI h2 ar2 O)) := fun sz => j_start (fun below s => KV below [.ref (ar2 4), .ref (ar 4)].toArray s D (tyl cI cH cO) ((wC cI h ar C) ++ (wC cI h2 ar2 O)) (fun C9 => (wC cI h ar C9) ++ (wC cI h2 ar2 O))) (sX4_copyRow_4 C O) (by decide +kernel) rfl (Nat.le_of_ble_eq_true rfl) (fun below s hs _ => by subst hs; rfl) (fun p e s m below meth c _ X => by
  refine j_lv [0, 1] (lv' := [(0, .ref (ar2 4)), (1, .ref (ar 4))]) rfl ?_
  refine j_aload_n X (pc' := 1) 0 dX4_copyRow_0 rfl rfl rfl ?_
  refine j_iconst X (v := 0) (pc' := 2) dX4_copyRow_1 (by decide) rfl ?_
  refine j_aload_n X (pc' := 3) 1 dX4_copyRow_2 rfl rfl rfl ?_
  refine j_iconst X (v := 0) (pc' := 4) dX4_copyRow_3 (by decide) rfl ?_
  refine j_aload_n X (pc' := 5) 0 dX4_copyRow_4 rfl rfl rfl ?_
  refine j_alen X (v := 8) (pc' := 6) 15 0 rfl rfl rfl dX4_copyRow_5 rfl ?_
  refine j_aload_n X (pc' := 7) 1 dX4_copyRow_6 rfl rfl rfl ?_
  refine j_alen X (v := 8) (pc' := 8) 5 0 rfl rfl rfl dX4_copyRow_7 rfl ?_
  refine j_mmin X (pc' := 11) ⟨q_ml_X4_163, q_sta_J9_min, q_ini_J9, q_code_J9_min⟩ ⟨by decide, Nat.le_of_ble_eq_true rfl, by decide, by decide⟩ dX4_copyRow_8 rfl ?_
  refine j_copyi X (pc' := 14) (ws' := (wC cI h ar (sX4_copyRow_4 C O)) ++ (wC cI h2 ar2 O)) 8 15 5 ⟨q_ml_X4_168, q_nat_J10_arraycopy, q_sta_J10_arraycopy, q_ini_J10⟩ rfl rfl (by decide) (by decide) rfl ⟨by decide, by decide⟩ dX4_copyRow_11 rfl ?_
  exact j_vret X rfl dX4_copyRow_14)
set_option maxHeartbeats 4000000 in
set_option maxRecDepth 100000 in
theorem c_X4_copyRow_5 (l : Launch) (D : va_G) (cI cH cO : ClassId) (h : Nat) (ar : Nat → Nat) (C : Cst) (h2 : Nat) (ar2 : Nat → Nat) (O : Cst) : MV l yX4_copyRow cX4_copyRow 2 1 D (tyl cI cH cO) [.ref (ar2 5), .ref (ar 5)] ((wC cI h ar C) ++ (wC cI h2 ar2 O)) ((wC cI h ar (sX4_copyRow_5 C O)) ++ (wC cI h2 ar2 O)) := fun sz => j_start (fun below s => KV below [.ref (ar2 5), .ref (ar 5)].toArray s D (tyl cI cH cO) ((wC cI h ar C) ++ (wC cI h2 ar2 O)) (fun C9 => (wC cI h ar C9) ++ (wC cI h2 ar2 O))) (sX4_copyRow_5 C O) (by decide +kernel) rfl (Nat.le_of_ble_eq_true rfl) (fun below s hs _ => by subst hs; rfl) (fun p e s m below meth c _ X => by
  refine j_lv [0, 1] (lv' := [(0, .ref (ar2 5)), (1, .ref (ar 5))]) rfl ?_
  refine j_aload_n X (pc' := 1) 0 dX4_copyRow_0 rfl rfl rfl ?_
  refine j_iconst X (v := 0) (pc' := 2) dX4_copyRow_1 (by decide) rfl ?_
  refine j_aload_n X (pc' := 3) 1 dX4_copyRow_2 rfl rfl rfl ?_
  refine j_iconst X (v := 0) (pc' := 4) dX4_copyRow_3 (by decide) rfl ?_
  refine j_aload_n X (pc' := 5) 0 dX4_copyRow_4 rfl rfl rfl ?_
  refine j_alen X (v := 8) (pc' := 6) 16 0 rfl rfl rfl dX4_copyRow_5 rfl ?_
  refine j_aload_n X (pc' := 7) 1 dX4_copyRow_6 rfl rfl rfl ?_
  refine j_alen X (v := 8) (pc' := 8) 6 0 rfl rfl rfl dX4_copyRow_7 rfl ?_
  refine j_mmin X (pc' := 11) ⟨q_ml_X4_163, q_sta_J9_min, q_ini_J9, q_code_J9_min⟩ ⟨by decide, Nat.le_of_ble_eq_true rfl, by decide, by decide⟩ dX4_copyRow_8 rfl ?_
  refine j_copyi X (pc' := 14) (ws' := (wC cI h ar (sX4_copyRow_5 C O)) ++ (wC cI h2 ar2 O)) 8 16 6 ⟨q_ml_X4_168, q_nat_J10_arraycopy, q_sta_J10_arraycopy, q_ini_J10⟩ rfl rfl (by decide) (by decide) rfl ⟨by decide, by decide⟩ dX4_copyRow_11 rfl ?_
  exact j_vret X rfl dX4_copyRow_14)
set_option maxHeartbeats 4000000 in
set_option maxRecDepth 100000 in
theorem c_X4_copyRow_6 (l : Launch) (D : va_G) (cI cH cO : ClassId) (h : Nat) (ar : Nat → Nat) (C : Cst) (h2 : Nat) (ar2 : Nat → Nat) (O : Cst) : MV l yX4_copyRow cX4_copyRow 2 1 D (tyl cI cH cO) [.ref (ar2 6), .ref (ar 6)] ((wC cI h ar C) ++ (wC cI h2 ar2 O)) ((wC cI h ar (sX4_copyRow_6 C O)) ++ (wC cI h2 ar2 O)) := fun sz => j_start (fun below s => KV below [.ref (ar2 6), .ref (ar 6)].toArray s D (tyl cI cH cO) ((wC cI h ar C) ++ (wC cI h2 ar2 O)) (fun C9 => (wC cI h ar C9) ++ (wC cI h2 ar2 O))) (sX4_copyRow_6 C O) (by decide +kernel) rfl (Nat.le_of_ble_eq_true rfl) (fun below s hs _ => by subst hs; rfl) (fun p e s m below meth c _ X => by
  refine j_lv [0, 1] (lv' := [(0, .ref (ar2 6)), (1, .ref (ar 6))]) rfl ?_
  refine j_aload_n X (pc' := 1) 0 dX4_copyRow_0 rfl rfl rfl ?_
  refine j_iconst X (v := 0) (pc' := 2) dX4_copyRow_1 (by decide) rfl ?_
  refine j_aload_n X (pc' := 3) 1 dX4_copyRow_2 rfl rfl rfl ?_
  refine j_iconst X (v := 0) (pc' := 4) dX4_copyRow_3 (by decide) rfl ?_
  refine j_aload_n X (pc' := 5) 0 dX4_copyRow_4 rfl rfl rfl ?_
  refine j_alen X (v := 8) (pc' := 6) 17 0 rfl rfl rfl dX4_copyRow_5 rfl ?_
  refine j_aload_n X (pc' := 7) 1 dX4_copyRow_6 rfl rfl rfl ?_
  refine j_alen X (v := 8) (pc' := 8) 7 0 rfl rfl rfl dX4_copyRow_7 rfl ?_
  refine j_mmin X (pc' := 11) ⟨q_ml_X4_163, q_sta_J9_min, q_ini_J9, q_code_J9_min⟩ ⟨by decide, Nat.le_of_ble_eq_true rfl, by decide, by decide⟩ dX4_copyRow_8 rfl ?_
  refine j_copyi X (pc' := 14) (ws' := (wC cI h ar (sX4_copyRow_6 C O)) ++ (wC cI h2 ar2 O)) 8 17 7 ⟨q_ml_X4_168, q_nat_J10_arraycopy, q_sta_J10_arraycopy, q_ini_J10⟩ rfl rfl (by decide) (by decide) rfl ⟨by decide, by decide⟩ dX4_copyRow_11 rfl ?_
  exact j_vret X rfl dX4_copyRow_14)
set_option maxHeartbeats 4000000 in
set_option maxRecDepth 100000 in
theorem c_X4_copyRow_7 (l : Launch) (D : va_G) (cI cH cO : ClassId) (h : Nat) (ar : Nat → Nat) (C : Cst) (h2 : Nat) (ar2 : Nat → Nat) (O : Cst) : MV l yX4_copyRow cX4_copyRow 2 1 D (tyl cI cH cO) [.ref (ar2 7), .ref (ar 7)] ((wC cI h ar C) ++ (wC cI h2 ar2 O)) ((wC cI h ar (sX4_copyRow_7 C O)) ++ (wC cI h2 ar2 O)) := fun sz => j_start (fun below s => KV below [.ref (ar2 7), .ref (ar 7)].toArray s D (tyl cI cH cO) ((wC cI h ar C) ++ (wC cI h2 ar2 O)) (fun C9 => (wC cI h ar C9) ++ (wC cI h2 ar2 O))) (sX4_copyRow_7 C O) (by decide +kernel) rfl (Nat.le_of_ble_eq_true rfl) (fun below s hs _ => by subst hs; rfl) (fun p e s m below meth c _ X => by
  refine j_lv [0, 1] (lv' := [(0, .ref (ar2 7)), (1, .ref (ar 7))]) rfl ?_
  refine j_aload_n X (pc' := 1) 0 dX4_copyRow_0 rfl rfl rfl ?_
  refine j_iconst X (v := 0) (pc' := 2) dX4_copyRow_1 (by decide) rfl ?_
  refine j_aload_n X (pc' := 3) 1 dX4_copyRow_2 rfl rfl rfl ?_
  refine j_iconst X (v := 0) (pc' := 4) dX4_copyRow_3 (by decide) rfl ?_
  refine j_aload_n X (pc' := 5) 0 dX4_copyRow_4 rfl rfl rfl ?_
  refine j_alen X (v := 8) (pc' := 6) 18 0 rfl rfl rfl dX4_copyRow_5 rfl ?_
  refine j_aload_n X (pc' := 7) 1 dX4_copyRow_6 rfl rfl rfl ?_
  refine j_alen X (v := 8) (pc' := 8) 8 0 rfl rfl rfl dX4_copyRow_7 rfl ?_
  refine j_mmin X (pc' := 11) ⟨q_ml_X4_163, q_sta_J9_min, q_ini_J9, q_code_J9_min⟩ ⟨by decide, Nat.le_of_ble_eq_true rfl, by decide, by decide⟩ dX4_copyRow_8 rfl ?_
  refine j_copyi X (pc' := 14) (ws' := (wC cI h ar (sX4_copyRow_7 C O)) ++ (wC cI h2 ar2 O)) 8 18 8 ⟨q_ml_X4_168, q_nat_J10_arraycopy, q_sta_J10_arraycopy, q_ini_J10⟩ rfl rfl (by decide) (by decide) rfl ⟨by decide, by decide⟩ dX4_copyRow_11 rfl ?_
  exact j_vret X rfl dX4_copyRow_14)
set_option maxHeartbeats 4000000 in
set_option maxRecDepth 100000 in
theorem c_X4_copyRow_8 (l : Launch) (D : va_G) (cI cH cO : ClassId) (h : Nat) (ar : Nat → Nat) (C : Cst) (h2 : Nat) (ar2 : Nat → Nat) (O : Cst) : MV l yX4_copyRow cX4_copyRow 2 1 D (tyl cI cH cO) [.ref (ar2 8), .ref (ar 8)] ((wC cI h ar C) ++ (wC cI h2 ar2 O)) ((wC cI h ar (sX4_copyRow_8 C O)) ++ (wC cI h2 ar2 O)) := fun sz => j_start (fun below s => KV below [.ref (ar2 8), .ref (ar 8)].toArray s D (tyl cI cH cO) ((wC cI h ar C) ++ (wC cI h2 ar2 O)) (fun C9 => (wC cI h ar C9) ++ (wC cI h2 ar2 O))) (sX4_copyRow_8 C O) (by decide +kernel) rfl (Nat.le_of_ble_eq_true rfl) (fun below s hs _ => by subst hs; rfl) (fun p e s m below meth c _ X => by
  refine j_lv [0, 1] (lv' := [(0, .ref (ar2 8)), (1, .ref (ar 8))]) rfl ?_
  refine j_aload_n X (pc' := 1) 0 dX4_copyRow_0 rfl rfl rfl ?_
  refine j_iconst X (v := 0) (pc' := 2) dX4_copyRow_1 (by decide) rfl ?_
  refine j_aload_n X (pc' := 3) 1 dX4_copyRow_2 rfl rfl rfl ?_
  refine j_iconst X (v := 0) (pc' := 4) dX4_copyRow_3 (by decide) rfl ?_
  refine j_aload_n X (pc' := 5) 0 dX4_copyRow_4 rfl rfl rfl ?_
  refine j_alen X (v := 30) (pc' := 6) 19 0 rfl rfl rfl dX4_copyRow_5 rfl ?_
  refine j_aload_n X (pc' := 7) 1 dX4_copyRow_6 rfl rfl rfl ?_
  refine j_alen X (v := 30) (pc' := 8) 9 0 rfl rfl rfl dX4_copyRow_7 rfl ?_
  refine j_mmin X (pc' := 11) ⟨q_ml_X4_163, q_sta_J9_min, q_ini_J9, q_code_J9_min⟩ ⟨by decide, Nat.le_of_ble_eq_true rfl, by decide, by decide⟩ dX4_copyRow_8 rfl ?_
  refine j_copyi X (pc' := 14) (ws' := (wC cI h ar (sX4_copyRow_8 C O)) ++ (wC cI h2 ar2 O)) 30 19 9 ⟨q_ml_X4_168, q_nat_J10_arraycopy, q_sta_J10_arraycopy, q_ini_J10⟩ rfl rfl (by decide) (by decide) rfl ⟨by decide, by decide⟩ dX4_copyRow_11 rfl ?_
  exact j_vret X rfl dX4_copyRow_14)
