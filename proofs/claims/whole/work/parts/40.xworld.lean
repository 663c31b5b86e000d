def wXo (ad : Nat → Nat) : va_W := [(ad 0, .inr (4, [.ref (ad 1), .ref (ad 2), .ref (ad 3), .ref (ad 8), .ref (ad 9)]))]
def wH (cO : ClassId) (ad : Nat → Nat) (G : Cst) : va_W := [(ad 3, .inr (1, [.ref (ad 10), .int (G 1 0), .int (G 2 0)])), (ad 10, .inl (cO, 4, .inr (.inr (.inr (.inr (fun k => some (ad (4 + k))))))))]
def wX (cI cH cO : ClassId) (ad : Nat → Nat) (ar : Nat → Nat → Nat) (S : Xst) : va_W := wXo ad ++ (wC cI (ad 1) (ar 1) (S 0) ++ (wC cI (ad 2) (ar 2) (S 1) ++ (wH cO ad (S 2) ++ (wC cI (ad 4) (ar 4) (S 3) ++ (wC cI (ad 5) (ar 5) (S 4) ++ (wC cI (ad 6) (ar 6) (S 5) ++ (wC cI (ad 7) (ar 7) (S 6) ++ (wT cH (ad 8) (ar 8) (S 7) ++ wR (ad 9) (S 8)))))))))
section J4
variable {α σ : Type} {p : Program} {l : Launch} {e : Env} {R : Room} {s : State} {m : MethodId} {args : Array Value} {below : List Frame} {meth : Method} {c : Code} {nL : Nat} {D : va_G} {A : Nat → Prop} {kc ks : Nat} {Kf : α → State → Prop} {sp : α} {ws : va_W} {pc pc' : Nat} {lv lv' : List (Nat × Value)} {rest st : List Value}
variable {cc : ByteArray} {own : String} {ret : Option FieldType} {cI cH cO : ClassId}
theorem j_astore_n (X : CX p s m args meth c cc nL own ret D (tyl cI cH cO) A) {kf : Fin 4} {i x : Nat} (ks' : List Nat) (hdg : decode cc pc = .ok (.astore_n kf, 1)) (hi : (kf : Nat) = i) (hn : i < nL) (hl' : lv_pick ((i, Value.ref x) :: lv.filter (fun q => !(q.1 == i) && !(q.1 + 1 == i && q.2.category == 2))) ks' = lv') (hpc : pc + 1 = pc') (k : J p l e R s m args below meth c nL D A kc ks Kf sp ws pc' lv' rest) : J p l e R s m args below meth c nL D A kc ks Kf sp ws pc lv (.ref x :: rest) := by
  subst hpc
  intro ls H locs hl hP hD hS
  obtain ⟨⟨hx, hb, hml, hown, hts⟩, hK, hN, hr, hlk, hA⟩ := X
  exact lv_astore_n hx hb hdg hi hl hn rfl (fun ls' h => k ls' H locs (lv_sub h ks' hl') hP hD hS)
theorem j_aald (X : CX p s m args meth c cc nL own ret D (tyl cI cH cO) A) {a n v : Nat} {g : Nat → Option Nat} {x : Int32} {i : Nat} (q0 : Nat) (he : ws[q0]? = some (a, .inl (cO, n, .inr (.inr (.inr (.inr g)))))) (hx9 : x = nI i) (hin : i < n) (hn : n < 2 ^ 31) (hv : g i = some v) (hdg : decode cc pc = .ok (.aaload, 1)) (hpc : pc + 1 = pc') (kk : J p l e R s m args below meth c nL D A kc ks Kf sp ws pc' lv (.ref v :: rest)) : J p l e R s m args below meth c nL D A kc ks Kf sp ws pc lv (.int x :: .ref a :: rest) := by
  subst hpc
  subst hx9
  intro ls H locs hl hP hD hS
  obtain ⟨⟨hx, hb, hml, hown, hts⟩, hK, hN, hr, hlk, hA⟩ := X
  refine va_aldq hx hb hK hP q0 2 he rfl (vp_in_nI hin hn) hdg ?_
  rw [nI_clamp (Nat.lt_trans hin hn), hv]
  exact kk ls H locs hl hP hD hS
end J4
