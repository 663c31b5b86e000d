theorem lw_i3 {L i : Nat} (hL : L ≤ 1536) (hi : i ≤ L) (h : ¬ (nI L - 3 < nI i)) : i + 3 ≤ L := by
  have h1 := Int32.not_lt.mp h
  have e : (nI L - 3).toInt = (L : Int) - 3 := by
    rw [Int32.toInt_sub, nI_toInt (by omega), show (3 : Int32).toInt = 3 from by decide]
    exact zbmod (by omega) (by omega)
  rw [Int32.le_iff_toInt_le, e, nI_toInt (by omega)] at h1
  omega
set_option maxHeartbeats 4000000 in
set_option maxRecDepth 100000 in
theorem law_loop {p : Program} {l : Launch} {e : Env} {s : State} {m : MethodId} {below : List Frame} {meth : Method} {c : Code} {D : va_G} {cI cH cO : ClassId} {b L : Nat} {xs : Nat → Int32} (X : CX p s m #[Value.ref b] meth c code 4 RL ret D (tyl cI cH cO) (fun q : Nat => s.heap.size ≤ q)) (hST : ST (fun q : Nat => s.heap.size ≤ q) s s.heap) {Rel : Nat → Xst → Cst → Prop} (hG : ∀ i, i + 3 ≤ 1536 → Good (Rel i) (Rel (i + 3))) (hX : va_X b L xs s s.heap) (hbl : b < s.heap.size) (hL : L ≤ 1536) (ad : Nat → Nat) (ar : Nat → Nat → Nat) (hm : Nat) (arm : Nat → Nat) : ∀ (n i : Nat) (S : Xst) (M : Cst), Rel i S M → i ≤ L → L + 1 ≤ i + n → J p l e room_1 s m #[Value.ref b] below meth c 4 D (fun q : Nat => s.heap.size ≤ q) 74 1562 (fun _ : Unit => lw_Z below #[Value.ref b] s) () (wX cI cH cO ad ar S ++ wM cI hm arm M) 18 [(0, .ref b), (1, .ref (ad 0)), (2, .ref hm), (3, .int (nI i))] [] := by
  intro n
  induction n with
  | zero =>
    intro i S M hR hi hfu
    exact absurd hfu (by omega)
  | succ n ih =>
    intro i S M hR hi hfu
    refine j_iload_n X (pc' := 19) 3 dL_law_18 rfl rfl rfl ?_
    refine j_aload_n X (pc' := 20) 0 dL_law_19 rfl rfl rfl ?_
    refine j_slen X (pc' := 21) hX hbl (Nat.not_le.mpr hbl) dL_law_20 rfl ?_
    refine j_iconst X (v := 3) (pc' := 22) dL_law_21 (by decide) rfl ?_
    refine j_isub X (pc' := 23) dL_law_22 rfl ?_
    refine j_gt0 X (tgt := 594) (pc' := 26) dL_law_23 (by decide) rfl (fun c_23 => ?_) (fun c_23 => ?_)
    · refine j_iconst X (v := 1) (pc' := 595) dL_law_594 (by decide) rfl ?_
      exact j_lret (L := L) (xs := xs) X dL_law_595
    · have hi3 : i + 3 ≤ L := lw_i3 hL hi c_23
      have hk : ∀ (S : Xst) (M : Cst), Rel (i + 3) S M → J p l e room_1 s m #[Value.ref b] below meth c 4 D (fun q : Nat => s.heap.size ≤ q) 74 1562 (fun _ : Unit => lw_Z below #[Value.ref b] s) () (wX cI cH cO ad ar S ++ wM cI hm arm M) 588 [(0, .ref b), (1, .ref (ad 0)), (2, .ref hm), (3, .int (nI i))] [] := by
        intro S M hR
        refine j_iinc X (v := nI (i + 3)) (lv' := [(0, .ref b), (1, .ref (ad 0)), (2, .ref hm), (3, .int (nI (i + 3)))]) (q := 3) (pc' := 591) [1, 2, 3, 0] dL_law_588 rfl (nI_add i 3) (by decide) rfl rfl ?_
        refine j_goto X (pc' := 18) dL_law_591 (by decide) ?_
        exact ih (i + 3) S M hR hi3 (by omega)
      refine j_aload_n X (pc' := 27) 0 dL_law_26 rfl rfl rfl ?_
      refine j_iload_n X (pc' := 28) 3 dL_law_27 rfl rfl rfl ?_
      refine j_sld X (pc' := 29) hX hbl (Nat.not_le.mpr hbl) (by omega) (by omega) dL_law_28 rfl ?_
      refine j_bipush X (v := 31) (pc' := 31) dL_law_29 (by decide) rfl ?_
      refine j_iand X (pc' := 32) dL_law_31 rfl ?_
      by_cases h_0 : (xs i &&& 31) = 0
      · refine j_tsw X (tgt := 128) dL_law_32 (by rw [h_0]; decide) (by rw [h_0]; decide) (off := 96) (by rw [h_0]; decide) (by decide) ?_
        exact law_member X hST (hG i (by omega)) hX hbl hL ad ar hm arm i hi3 S M hR hk
      by_cases h_1 : (xs i &&& 31) = 1
      · refine j_tsw X (tgt := 151) dL_law_32 (by rw [h_1]; decide) (by rw [h_1]; decide) (off := 119) (by rw [h_1]; decide) (by decide) ?_
        exact law_use X hST (hG i (by omega)) hX hbl hL ad ar hm arm i hi3 S M hR hk
      by_cases h_2 : (xs i &&& 31) = 2
      · refine j_tsw X (tgt := 184) dL_law_32 (by rw [h_2]; decide) (by rw [h_2]; decide) (off := 152) (by rw [h_2]; decide) (by decide) ?_
        exact law_close X hST (hG i (by omega)) hX hbl hL ad ar hm arm i hi3 S M hR hk
      by_cases h_3 : (xs i &&& 31) = 3
      · refine j_tsw X (tgt := 197) dL_law_32 (by rw [h_3]; decide) (by rw [h_3]; decide) (off := 165) (by rw [h_3]; decide) (by decide) ?_
        exact law_pay X hST (hG i (by omega)) hX hbl hL ad ar hm arm i hi3 S M hR hk
      by_cases h_4 : (xs i &&& 31) = 4
      · refine j_tsw X (tgt := 230) dL_law_32 (by rw [h_4]; decide) (by rw [h_4]; decide) (off := 198) (by rw [h_4]; decide) (by decide) ?_
        exact law_repair X hST (hG i (by omega)) hX hbl hL ad ar hm arm i hi3 S M hR hk
      by_cases h_5 : (xs i &&& 31) = 5
      · refine j_tsw X (tgt := 253) dL_law_32 (by rw [h_5]; decide) (by rw [h_5]; decide) (off := 221) (by rw [h_5]; decide) (by decide) ?_
        exact law_set X hST (hG i (by omega)) hX hbl hL ad ar hm arm i hi3 S M hR hk
      by_cases h_6 : (xs i &&& 31) = 6
      · refine j_tsw X (tgt := 286) dL_law_32 (by rw [h_6]; decide) (by rw [h_6]; decide) (off := 254) (by rw [h_6]; decide) (by decide) ?_
        exact law_memberOf X hST (hG i (by omega)) hX hbl hL ad ar hm arm i hi3 S M hR hk
      by_cases h_7 : (xs i &&& 31) = 7
      · refine j_tsw X (tgt := 319) dL_law_32 (by rw [h_7]; decide) (by rw [h_7]; decide) (off := 287) (by rw [h_7]; decide) (by decide) ?_
        exact law_count X hST (hG i (by omega)) hX hbl hL ad ar hm arm i hi3 S M hR hk
      by_cases h_8 : (xs i &&& 31) = 8
      · refine j_tsw X (tgt := 342) dL_law_32 (by rw [h_8]; decide) (by rw [h_8]; decide) (off := 310) (by rw [h_8]; decide) (by decide) ?_
        exact law_seasonOf X hST (hG i (by omega)) hX hbl hL ad ar hm arm i hi3 S M hR hk
      by_cases h_9 : (xs i &&& 31) = 9
      · refine j_tsw X (tgt := 375) dL_law_32 (by rw [h_9]; decide) (by rw [h_9]; decide) (off := 343) (by rw [h_9]; decide) (by decide) ?_
        exact law_gain X hST (hG i (by omega)) hX hbl hL ad ar hm arm i hi3 S M hR hk
      by_cases h_10 : (xs i &&& 31) = 10
      · refine j_tsw X (tgt := 408) dL_law_32 (by rw [h_10]; decide) (by rw [h_10]; decide) (off := 376) (by rw [h_10]; decide) (by decide) ?_
        exact law_bestUse X hST (hG i (by omega)) hX hbl hL ad ar hm arm i hi3 S M hR hk
      by_cases h_11 : (xs i &&& 31) = 11
      · refine j_tsw X (tgt := 431) dL_law_32 (by rw [h_11]; decide) (by rw [h_11]; decide) (off := 399) (by rw [h_11]; decide) (by decide) ?_
        exact law_calm X hST (hG i (by omega)) hX hbl hL ad ar hm arm i hi3 S M hR hk
      by_cases h_12 : (xs i &&& 31) = 12
      · refine j_tsw X (tgt := 454) dL_law_32 (by rw [h_12]; decide) (by rw [h_12]; decide) (off := 422) (by rw [h_12]; decide) (by decide) ?_
        exact law_bestForAll X hST (hG i (by omega)) hX hbl hL ad ar hm arm i hi3 S M hR hk
      by_cases h_13 : (xs i &&& 31) = 13
      · refine j_tsw X (tgt := 477) dL_law_32 (by rw [h_13]; decide) (by rw [h_13]; decide) (off := 445) (by rw [h_13]; decide) (by decide) ?_
        exact law_wouldExclude X hST (hG i (by omega)) hX hbl hL ad ar hm arm i hi3 S M hR hk
      by_cases h_14 : (xs i &&& 31) = 14
      · refine j_tsw X (tgt := 490) dL_law_32 (by rw [h_14]; decide) (by rw [h_14]; decide) (off := 458) (by rw [h_14]; decide) (by decide) ?_
        exact law_canRepair X hST (hG i (by omega)) hX hbl hL ad ar hm arm i hi3 S M hR hk
      by_cases h_15 : (xs i &&& 31) = 15
      · refine j_tsw X (tgt := 503) dL_law_32 (by rw [h_15]; decide) (by rw [h_15]; decide) (off := 471) (by rw [h_15]; decide) (by decide) ?_
        exact law_undo X hST (hG i (by omega)) hX hbl hL ad ar hm arm i hi3 S M hR hk
      by_cases h_16 : (xs i &&& 31) = 16
      · refine j_tsw X (tgt := 516) dL_law_32 (by rw [h_16]; decide) (by rw [h_16]; decide) (off := 484) (by rw [h_16]; decide) (by decide) ?_
        exact law_type X hST (hG i (by omega)) hX hbl hL ad ar hm arm i hi3 S M hR hk
      by_cases h_17 : (xs i &&& 31) = 17
      · refine j_tsw X (tgt := 539) dL_law_32 (by rw [h_17]; decide) (by rw [h_17]; decide) (off := 507) (by rw [h_17]; decide) (by decide) ?_
        exact law_clearText X hST (hG i (by omega)) hX hbl hL ad ar hm arm i hi3 S M hR hk
      by_cases h_18 : (xs i &&& 31) = 18
      · refine j_tsw X (tgt := 552) dL_law_32 (by rw [h_18]; decide) (by rw [h_18]; decide) (off := 520) (by rw [h_18]; decide) (by decide) ?_
        exact law_fault X hST (hG i (by omega)) hX hbl hL ad ar hm arm i hi3 S M hR hk
      by_cases h_19 : (xs i &&& 31) = 19
      · refine j_tsw X (tgt := 575) dL_law_32 (by rw [h_19]; decide) (by rw [h_19]; decide) (off := 543) (by rw [h_19]; decide) (by decide) ?_
        exact law_play X hST (hG i (by omega)) hX hbl hL ad ar hm arm i hi3 S M hR hk
      refine j_tswD X (tgt := 588) dL_law_32 (tsw_out20 h_0 h_1 h_2 h_3 h_4 h_5 h_6 h_7 h_8 h_9 h_10 h_11 h_12 h_13 h_14 h_15 h_16 h_17 h_18 h_19) (by decide) ?_
      exact hk S M ((hG i (by omega)).2.1 S M hR)
theorem nk_of {s : State} {a : Array Value} (hts : ∀ w ∈ lw_tbl, w.before a s = true) : NK s := by
  refine ⟨va_Nw.of rfl (hts _ (List.mem_of_getElem? (i := 43) (by decide +kernel))), va_Nw.of rfl (hts _ (List.mem_of_getElem? (i := 110) (by decide +kernel))), va_Nw.of rfl (hts _ (List.mem_of_getElem? (i := 124) (by decide +kernel))), va_Nw.of rfl (hts _ (List.mem_of_getElem? (i := 155) (by decide +kernel))), va_Nw.of rfl (hts _ (List.mem_of_getElem? (i := 200) (by decide +kernel))), va_Nw.of rfl (hts _ (List.mem_of_getElem? (i := 234) (by decide +kernel))), va_Nw.of rfl (hts _ (List.mem_of_getElem? (i := 277) (by decide +kernel))), va_Nw.of rfl (hts _ (List.mem_of_getElem? (i := 336) (by decide +kernel))), va_Nw.of rfl (hts _ (List.mem_of_getElem? (i := 347) (by decide +kernel))), va_Nw.of rfl (hts _ (List.mem_of_getElem? (i := 349) (by decide +kernel)))⟩
theorem st_of {s : State} {b : Nat} (hts : ∀ w ∈ lw_tbl, w.before #[Value.ref b] s = true) (hgv : (Jvm.Cond.and given_1 narrow_1).before #[Value.ref b] s = true) : ST (fun q : Nat => s.heap.size ≤ q) s s.heap := by
  have hs := flat_of_before _ hgv
  refine ⟨?_, ?_⟩
  · obtain ⟨t, ht, hT⟩ := va_Tof (tm := Term.static "CommonsTurns" "SETTING_LEAST" "[I") (ty := .int) (N := 5) (f := fun j => .int (sL j)) (A := fun q : Nat => s.heap.size ≤ q) (by decide) (hs (Cond.arrayOf (.static "CommonsTurns" "SETTING_LEAST" "[I") .int) (by decide +kernel)) (va_eqt (hs (Cond.eq (.length (.static "CommonsTurns" "SETTING_LEAST" "[I")) (.int 5)) (by decide +kernel)))
      (fun j hj => by
        rcases (show j = 0 ∨ j = 1 ∨ j = 2 ∨ j = 3 ∨ j = 4 by omega) with rfl | rfl | rfl | rfl | rfl
        · exact va_eqt (hs (Cond.eq (.elem (.static "CommonsTurns" "SETTING_LEAST" "[I") (.int 0)) (.int 1)) (by decide +kernel))
        · exact va_eqt (hs (Cond.eq (.elem (.static "CommonsTurns" "SETTING_LEAST" "[I") (.int 1)) (.int 0)) (by decide +kernel))
        · exact va_eqt (hs (Cond.eq (.elem (.static "CommonsTurns" "SETTING_LEAST" "[I") (.int 2)) (.int 0)) (by decide +kernel))
        · exact va_eqt (hs (Cond.eq (.elem (.static "CommonsTurns" "SETTING_LEAST" "[I") (.int 3)) (.int 0)) (by decide +kernel))
        · exact va_eqt (hs (Cond.eq (.elem (.static "CommonsTurns" "SETTING_LEAST" "[I") (.int 4)) (.int 1)) (by decide +kernel))) (fun a h => Nat.not_le.mpr h)
    exact ⟨t, va_Zref (hts _ (List.mem_of_getElem? (i := 348) (by decide +kernel))) (hts _ (tt_law q_ini_X4)) ht (fun a h => Nat.not_le.mpr h), hT⟩
  · obtain ⟨t, ht, hT⟩ := va_Tof (tm := Term.static "CommonsTurns" "SETTING_MOST" "[I") (ty := .int) (N := 5) (f := fun j => .int (sM j)) (A := fun q : Nat => s.heap.size ≤ q) (by decide) (hs (Cond.arrayOf (.static "CommonsTurns" "SETTING_MOST" "[I") .int) (by decide +kernel)) (va_eqt (hs (Cond.eq (.length (.static "CommonsTurns" "SETTING_MOST" "[I")) (.int 5)) (by decide +kernel)))
      (fun j hj => by
        rcases (show j = 0 ∨ j = 1 ∨ j = 2 ∨ j = 3 ∨ j = 4 by omega) with rfl | rfl | rfl | rfl | rfl
        · exact va_eqt (hs (Cond.eq (.elem (.static "CommonsTurns" "SETTING_MOST" "[I") (.int 0)) (.int 200)) (by decide +kernel))
        · exact va_eqt (hs (Cond.eq (.elem (.static "CommonsTurns" "SETTING_MOST" "[I") (.int 1)) (.int 100)) (by decide +kernel))
        · exact va_eqt (hs (Cond.eq (.elem (.static "CommonsTurns" "SETTING_MOST" "[I") (.int 2)) (.int 50)) (by decide +kernel))
        · exact va_eqt (hs (Cond.eq (.elem (.static "CommonsTurns" "SETTING_MOST" "[I") (.int 3)) (.int 999)) (by decide +kernel))
        · exact va_eqt (hs (Cond.eq (.elem (.static "CommonsTurns" "SETTING_MOST" "[I") (.int 4)) (.int 20)) (by decide +kernel))) (fun a h => Nat.not_le.mpr h)
    exact ⟨t, va_Zref (hts _ (List.mem_of_getElem? (i := 350) (by decide +kernel))) (hts _ (tt_law q_ini_X4)) ht (fun a h => Nat.not_le.mpr h), hT⟩
theorem tys_of {s : State} {a : Array Value} (hts : ∀ w ∈ lw_tbl, w.before a s = true) : ∃ cI cH cO : ClassId, ∀ (k : Nat) (q : ClassId × FieldType), (tyl cI cH cO)[k]? = some q → ArrOfT s q.1 q.2 ∧ va_RA s q.1 q.2 := by
  obtain ⟨cI, k1, m1, a1, a2, a3⟩ := Cond.arrayClass_spec (hts _ (tt_law q_ac_int))
  obtain ⟨cH, k2, m2, b1, b2, b3⟩ := Cond.arrayClass_spec (hts _ (tt_law q_ac_char))
  have hAO : (Cond.arrayOver (.object RX0)).before a s = true := hts _ (List.mem_of_getElem? (i := 109) (by decide +kernel))
  obtain ⟨m3, cO, k3, d1, d2, d3, d4, d5⟩ := Cond.arrayOver_spec hAO
  refine ⟨cI, cH, cO, fun k q hq => ?_⟩
  match k, hq with
  | 0, hq => cases hq; exact ⟨fun n z => ⟨fun k h => (by cases h), k1, a2, m1, a3⟩, a1⟩
  | 1, hq => cases hq; exact ⟨fun n z => ⟨fun k h => (by cases h), k2, b2, m2, b3⟩, b1⟩
  | 2, hq => cases hq; exact ⟨fun n z => ⟨fun k h => (by cases h), k3, d3, m3, d4⟩, k3, m3, d3, d4, d1, d5⟩
  | k + 3, hq => simp at hq
set_option maxHeartbeats 4000000 in
set_option maxRecDepth 100000 in
theorem whole_start {p : Program} {e : Env} {s : State} {m : MethodId} {below : List Frame} {meth : Method} {c : Code} (l : Launch) (hflags : l.flags = flags0) {b L : Nat} {xs : Nat → Int32} (hL : L ≤ 1536) (C0 : lw_At p s m meth c b L xs) : W p l e room_1 s m #[Value.ref b] below meth c s.heap [] 0 0 (lw_Z below #[Value.ref b] s) (entryFrame m ([Value.ref b] : List Value).toArray 4) := by
  obtain ⟨hx, hb, hr, hml, hown, hts, hX, hbl, hlocks, hgv⟩ := id C0
  have htt : ∀ w ∈ TT, w.before #[Value.ref b] s = true := fun w h => hts w (tt_law h)
  obtain ⟨k0, iS0, hKn0⟩ := u_known (C := RX0) (T := TX0) (N := 17) (n := 17) htt inX0 (htt _ q_new_X0)
  obtain ⟨k1, iS1, hKn1⟩ := u_known (C := RX1) (T := TX1) (N := 3) (n := 3) htt inX1 (htt _ q_new_X1)
  obtain ⟨k2, iS2, hKn2⟩ := u_known (C := RX2) (T := TX2) (N := 4) (n := 4) htt inX2 (htt _ q_new_X2)
  obtain ⟨k3, iS3, hKn3⟩ := u_known (C := RX3) (T := TX3) (N := 6) (n := 6) htt inX3 (htt _ q_new_X3)
  obtain ⟨k4, iS4, hKn4⟩ := u_known (C := RX4) (T := TX4) (N := 5) (n := 5) htt inX4 (htt _ q_new_X4)
  obtain ⟨k5, iS5, hKn5⟩ := u_known (C := RX5) (T := TX5) (N := 13) (n := 13) htt inX5 (htt _ q_new_X5)
  obtain ⟨D, hKc⟩ : ∃ D : va_G, ∀ (k : Nat) (q : vw_C), vwCl[k]? = some q → u_Kn s q.1 q.2.1 q.2.2 (D.1 k) (D.2 k) := by
    refine ⟨(fun k => match k with | 0 => k0 | 1 => k1 | 2 => k2 | 3 => k3 | 4 => k4 | _ => k5, fun k => match k with | 0 => iS0 | 1 => iS1 | 2 => iS2 | 3 => iS3 | 4 => iS4 | _ => iS5), ?_⟩
    intro k q hq
    match k, hq with
    | 0, hq => cases hq; exact hKn0
    | 1, hq => cases hq; exact hKn1
    | 2, hq => cases hq; exact hKn2
    | 3, hq => cases hq; exact hKn3
    | 4, hq => cases hq; exact hKn4
    | 5, hq => cases hq; exact hKn5
    | k + 6, hq => simp [vwCl] at hq
  obtain ⟨cI, cH, cO, hty⟩ := tys_of hts
  have hAO : va_AO RX0 s := va_AO.of (hts _ (List.mem_of_getElem? (i := 109) (by decide +kernel)))
  obtain ⟨Rel, hG0, hG⟩ := good_rel
  have X : CX p s m #[Value.ref b] meth c code 4 RL ret D (tyl cI cH cO) (fun q : Nat => s.heap.size ≤ q) := ⟨⟨hx, hb, hml, hown, htt⟩, ⟨hKc, hty⟩, nk_of hts, hr, hlocks, fun _ h => h⟩
  have hST := st_of hts hgv
  have key : J p l e room_1 s m #[Value.ref b] below meth c 4 D (fun q : Nat => s.heap.size ≤ q) 0 0 (fun _ : Unit => lw_Z below #[Value.ref b] s) () [] 0 [(0, .ref b)] [] := by
    refine j_new (ci := 4) X inX4 rfl tyX4_ok [.null, .null, .null, .null, .null] (pc' := 3) ⟨q_cl_L_7, q_new_X4, q_ini_X4⟩ (fun j hj => by rcases (show j = 0 ∨ j = 1 ∨ j = 2 ∨ j = 3 ∨ j = 4 by omega) with rfl | rfl | rfl | rfl | rfl <;> rfl) ⟨Nat.le_of_ble_eq_true rfl, Nat.le_of_ble_eq_true rfl⟩ dL_law_0 rfl (fun q => ?_)
    refine j_ws (ws' := [(q, .inr (4, [.null, .null, .null, .null, .null]))]) rfl ?_
    refine j_dup X (pc' := 4) dL_law_3 rfl rfl ?_
    refine j_callI X (pc' := 7) (wr := []) q_ml_L_9 [0] [] rfl rfl ⟨by decide, by decide, by decide⟩ (fun U V hv hx => va_AO.moved (by rw [hv]; exact Vm.Alike.refl _) hx) (fun U hW => va_AO.moved hW.alike hAO) (c_X4_init l D cI cH cO q) wi_X4 ⟨by decide, by decide, Nat.le_of_ble_eq_true rfl, Nat.le_of_ble_eq_true rfl⟩ (Nat.le_of_ble_eq_true rfl) dL_law_4 rfl (fun x => ?_)
    obtain ⟨⟨ad, ar⟩, had⟩ := x
    change ad 0 = q at had
    subst had
    refine j_ws (ws' := wX cI cH cO ad ar iX) rfl ?_
    refine j_astore_n X (lv' := [(0, .ref b), (1, .ref (ad 0))]) (pc' := 8) [1, 0] dL_law_7 rfl (by decide) rfl rfl ?_
    refine j_new (ci := 5) X inX5 rfl tyX5_ok [.null, .null, .null, .int 0, .int 0, .null, .int 0, .null, .int 0, .int 0, .int 0, .null, .null] (pc' := 11) ⟨q_cl_L_10, q_new_X5, q_ini_X5⟩ (fun j hj => by rcases (show j = 0 ∨ j = 1 ∨ j = 2 ∨ j = 3 ∨ j = 4 ∨ j = 5 ∨ j = 6 ∨ j = 7 ∨ j = 8 ∨ j = 9 ∨ j = 10 ∨ j = 11 ∨ j = 12 by omega) with rfl | rfl | rfl | rfl | rfl | rfl | rfl | rfl | rfl | rfl | rfl | rfl | rfl <;> rfl) ⟨Nat.le_of_ble_eq_true rfl, Nat.le_of_ble_eq_true rfl⟩ dL_law_8 rfl (fun hm => ?_)
    refine j_dup X (pc' := 12) dL_law_11 rfl rfl ?_
    refine j_callI X (pc' := 15) (wr := wX cI cH cO ad ar iX) q_ml_L_12 [66] [0, 1, 2, 3, 4, 5, 6, 7, 8, 9, 10, 11, 12, 13, 14, 15, 16, 17, 18, 19, 20, 21, 22, 23, 24, 25, 26, 27, 28, 29, 30, 31, 32, 33, 34, 35, 36, 37, 38, 39, 40, 41, 42, 43, 44, 45, 46, 47, 48, 49, 50, 51, 52, 53, 54, 55, 56, 57, 58, 59, 60, 61, 62, 63, 64, 65] rfl rfl ⟨by decide, by decide +kernel, by decide +kernel⟩ (fun _ _ _ _ => trivial) (fun _ _ => trivial) (c_X5_init l D cI cH cO hm) wi_X5 ⟨by decide, by decide, Nat.le_of_ble_eq_true rfl, Nat.le_of_ble_eq_true rfl⟩ (Nat.le_of_ble_eq_true rfl) dL_law_12 rfl (fun arm => ?_)
    refine j_astore_n X (lv' := [(0, .ref b), (1, .ref (ad 0)), (2, .ref hm)]) (pc' := 16) [1, 2, 0] dL_law_15 rfl (by decide) rfl rfl ?_
    refine j_iconst X (v := 0) (pc' := 17) dL_law_16 (by decide) rfl ?_
    refine j_istore_n X (lv' := [(0, .ref b), (1, .ref (ad 0)), (2, .ref hm), (3, .int 0)]) (pc' := 18) [1, 2, 3, 0] dL_law_17 rfl (by decide) rfl rfl ?_
    refine j_kk (kc2 := 74) (ks2 := 1562) rfl rfl ?_
    exact law_loop X hST hG hX hbl hL ad ar hm arm (L + 1) 0 iX iM hG0 (Nat.zero_le L) (by omega)
  have hl := lv_entry ([.ref b]) (n := 4) (Nat.le_of_ble_eq_true rfl)
  rw [lg_entry_eq]
  exact key _ s.heap [] hl (fun k q h => by simp at h) ⟨fun i j p q h => by simp at h, fun k q h => by simp at h⟩ va_S.rf
set_option maxHeartbeats 4000000 in
theorem lw_walk (l : Launch) (hflags : l.flags = flags0) (b : Addr) (xs : List Int32) : MetFree l x (headSpec (Jvm.Cond.code x code maxLocals ret :: tables_1) room_1) (lw_P b xs) (fun _ _ _ _ _ => True) lw_Q := by
  refine MetFree.of_bodyS (code := code) (maxLocals := maxLocals) (ret := ret) (by decide) ?_ ?_
  · intro args s m h hn
    obtain ⟨meth, c, h1, h2, h3, h4, h5, h6, -, -⟩ := Cond.code_spec hn (atoms_spec (ws := Jvm.Cond.code x code maxLocals ret :: tables_1) h _ List.mem_cons_self)
    exact ⟨meth, c, h1, h2, h3, h4, h5, h6⟩
  · intro p e s m args below meth c s₁ B hml0 hP _
    obtain ⟨rfl, hx, hbd, hgv⟩ := hP
    obtain ⟨scr, harrAt, hlist, hof, hsmall⟩ := hx
    obtain ⟨hcb, hkn, -, -⟩ := State.arrayAt?_spec harrAt
    have hown : s.vm.findClass R_law = some m.cls := findClass_of_methodNamed B.named
    have hts0 : ∀ c ∈ (Jvm.Cond.code x code maxLocals ret :: tables_1), c.before #[Value.ref b] s = true := atoms_spec (ws := Jvm.Cond.code x code maxLocals ret :: tables_1) B.pre
    have hts : ∀ w ∈ lw_tbl, w.before #[Value.ref b] s = true := k2_hts_sels lw_privs (fun w hw => hts0 w (List.mem_cons_of_mem _ hw)) lw_privs_ok
    have hml : c.maxLocals = 4 := B.maxLocals_eq (hts0 _ List.mem_cons_self)
    have X₀ : Stand p l e room_1 s m #[Value.ref b] below meth c s₁ [] 0 0 := Stand.of_body B
    have hh0 : s₁.heap = s.heap := by rw [B.state]; rfl
    have hsz : scr.slots.size = xs.length := by rw [← Array.length_toList, hlist, List.length_map]
    have hval : ∀ j : Nat, j < xs.length → scr.slots[j]? = some (.int (xs.getD j 0)) := fun j hj => by
      rw [← Array.getElem?_toList, hlist]
      simp [hj]
    have hbl : b < s.heap.size := (Array.getElem?_eq_some_iff.mp hcb).1
    have hX : va_X b xs.length (fun j => xs.getD j 0) s s.heap := ⟨scr, hcb, hof, hkn, hsz, hval⟩
    have K : W p l e room_1 s m #[Value.ref b] below meth c s₁.heap [] 0 0 (lw_Z below #[Value.ref b] s) (entryFrame m ([Value.ref b] : List Value).toArray 4) := by
      rw [hh0]
      exact whole_start l hflags hbd ⟨B.exec, B.bytes, B.returns, hml, hown, hts, hX, hbl, B.notSynchronized, hgv⟩
    obtain ⟨t, a1, o, b1, b2, b3⟩ := K s₁ rfl X₀
    exact ⟨t, o, a1, b1, b2, b3⟩
theorem lw_pre_spec {args : Array Value} {s : State} (h : (Jvm.Cond.and given_1 narrow_1).before args s = true) (hr : rest_1_c.before args s = true) : ∃ (b : Addr) (xs : List Int32), lw_P b xs args s := by
  have hs := flat_of_before _ h
  have hq := flat_of_before _ hr
  have hc : (Cond.count 1).before args s = true := hs _ (by decide +kernel)
  have harr : (Cond.arrayOf (.arg 0) .int).before args s = true := hs _ (by decide +kernel)
  have hle : (Cond.le (.length (.arg 0)) (.int 1536)).before args s = true := hs _ (by decide +kernel)
  have hlen : (Cond.isInt (.length (.arg 0))).before args s = true := hq _ (by decide +kernel)
  have hall : (Cond.all (.arg 0) (.isInt (.elem (.arg 0) (.index 0)))).before args s = true := hq _ (by decide +kernel)
  obtain ⟨b, xs, hb, hx⟩ := State.ints_of_pre rfl harr hlen hall
  have hsm : xs.length < 2 ^ 31 := hx.choose_spec.2.2.2
  have hev : (Term.length (.arg 0)).eval args s none [] s = some (.int xs.length.toInt32) := hx.length_eval hb
  have hv := Cond.le_ints hev (show (Term.int 1536).eval args s none [] s = some (.int 1536) from rfl)
  have hd : xs.length.toInt32 ≤ 1536 := by
    simpa [Cond.before, Cond.holds, hv] using hle
  have hN : xs.length ≤ 1536 := (Int32.ofNat_le_ofNat hsm (by decide)).mp (show Int32.ofNat xs.length ≤ Int32.ofNat 1536 from hd)
  exact ⟨b, xs, Cond.one_arg hc (show args[0]? = some (.ref b) from hb), hx, hN, h⟩
theorem lw_comes (l : Launch) (hflags : l.flags = flags0) : Comes l x (Jvm.Cond.code x code maxLocals ret :: tables_1) room_1 (fun tb e args s => Calls_1 tb e args s ∧ rest_1 tb e args s ∧ Pre_1 tb e args s)
    (fun _ _ args s o t => lw_Q args s o t) := by
  intro p e ha hc hk s m args below hf hfit hheap happ hpre
  obtain ⟨b, xs, hP⟩ := lw_pre_spec hpre.2.2 hpre.2.1
  obtain ⟨k, o, h1, h2, h3, hQ⟩ := lw_walk l hflags b xs p e ha hc hk s m args below hf ((Spec.applies_iff_loose hf).mp happ).1 hP trivial
  exact ⟨k, o, h1, h2, h3, hQ⟩
theorem lw_frame {s t : State} {o : Outcome} {args : Array Value} (h : Framed s o t [] 600000 7302250) :
    Framed s o t (fieldLocs frame_1_writes args s ++ arrayLocs frame_1_arrays args s ++ staticLocs frame_1_statics s) 600000 7302250 := h
theorem lw_limb (L : Cond) (hL : ∀ (args : Array Value) (s t : State), L.after args s (.returned (some (.int 1))) t = true) :
    ArmFor flags0 classFile x code maxLocals ret World_1 tables_1 room_1 Calls_1 rest_1 Pre_1
      (fun tb e a s o t => postC L tb e a s o t ∧ Framed s o t (fieldLocs frame_1_writes a s ++ arrayLocs frame_1_arrays a s ++ staticLocs frame_1_statics s) 600000 7302250) := by
  intro l hflags _ _ p e ha hc hk s m args below hf hfit hheap happ hpre
  obtain ⟨k, o, h1, h2, h3, rfl, hF⟩ := lw_comes l hflags p e ha hc hk s m args below hf hfit hheap happ hpre
  exact ⟨k, _, h1, h2, h3, hL args s _, lw_frame hF⟩
theorem i_vc : Claimed_1_1 ∧ Claimed_1_2 := ⟨lw_limb limb_1_1 (fun args s t => by simp [limb_1_1, Cond.after, Cond.holds, Cond.value]), lw_limb limb_1_2 (fun args s t => Cond.after_iff.mpr (by
  first | (rw [show limb_1_2 = Cond.eq .result (.int 1) from rfl, Cond.eq_ints (x := 1) (y := 1) rfl rfl]; simp; done) | (simp [limb_1_2, Cond.value, Term.eval]; done)))⟩
