/-! THE CLAIM OUT OF ONE WALK OF THE LAW'S BODY. Your part is whole_start (and what it stands on); all else here is the same for every law, but numbers. -/
def R_law : String := "CommonsTurnsLaw"
def lw_P (b : Addr) (xs : List Int32) (args : Array Value) (s : State) : Prop := args = #[.ref b] ∧ s.IntsAt b xs ∧ xs.length ≤ 1536 ∧ (Jvm.Cond.and given_1 narrow_1).before args s = true
def lw_Q (_ : Array Value) (s : State) (o : Outcome) (t : State) : Prop := o = .returned (some (.int 1)) ∧ Framed s o t [] 600000 7302250
def lw_Z (below : List Frame) (a : Array Value) (s : State) : State → Prop := fun t => ∃ o, t.status = .running ∧ Ended t below o ∧ lw_Q a s o t
/-- the law's own end, with 1 on the stack, nothing written that was there before, its room as the claim has it -/
theorem lw_ret {p : Program} {l : Launch} {e : Env} {s : State} {m : MethodId} {below : List Frame} {meth : Method} {c : Code} {b : Nat} (hx : p.tables.exec = Jvm.exec) (hb : c.code = code) (hr : meth.sig.returnType = ret) (hlocks : meth.locks = false) {pc : Nat} {H : Heap} {ls : Array Slot} (hdg : decode code pc = .ok (.ireturn, 1)) : W p l e room_1 s m #[Value.ref b] below meth c H [] 600000 7302250 (lw_Z below #[Value.ref b] s) (F0 m pc ls [.int 1]) := by
  intro T hT X
  obtain ⟨fs, hret, hrun, hended, hW, hframe⟩ := X.leave (v := some (.int 1)) (hlocks := hlocks) (fun h => by rw [hr] at h; cases h)
  have hmeth' : T.vm.method? m = some meth := X.method'
  refine ⟨T.setFrames fs, ?_, .returned (some (.int 1)), hrun, hended, rfl, ⟨_, rfl⟩, hW, hframe⟩
  jvm_step X.here [X.here.top, hx, hb, hdg, hmeth', hr, ret, narrow_b1]
  (try refine ⟨rfl, ?_⟩); (try refine ⟨rfl, ?_⟩)
  first | (intro acts; rw [hret _ acts rfl rfl rfl]) | rw [hret _ _ rfl rfl rfl]
  exact Steps.refl _
/-- what holds at the law's entry: the machine, the code, the tables' words (any of lw_tbl by 'hts w (by decide +kernel)'), the script of L ints xs at the cell b, what the Statement gives of the start (any of its parts by flat_of_before) -/
def lw_At (p : Program) (s : State) (m : MethodId) (meth : Method) (c : Code) (b L : Nat) (xs : Nat → Int32) : Prop :=
  p.tables.exec = Jvm.exec ∧ c.code = code ∧ meth.sig.returnType = ret ∧ c.maxLocals = 4 ∧ s.vm.findClass R_law = some m.cls ∧ (∀ w ∈ lw_tbl, w.before #[Value.ref b] s = true) ∧ va_X b L xs s s.heap ∧ b < s.heap.size ∧ meth.locks = false ∧ (Jvm.Cond.and given_1 narrow_1).before #[Value.ref b] s = true

def G_member (Rel Rel2 : Xst → Cst → Prop) : Prop := ∀ (S : Xst) (M : Cst) (x0 : Int32), Rel S M → (sX4_member S x0).1 = (sX5_member M x0).1 ∧ Rel2 (sX4_member S x0).2 (sX5_member M x0).2
def G_use (Rel Rel2 : Xst → Cst → Prop) : Prop := ∀ (S : Xst) (M : Cst) (x0 x1 : Int32), Rel S M → (sX4_use S x0 x1).1 = (sX5_use M x0 x1).1 ∧ Rel2 (sX4_use S x0 x1).2 (sX5_use M x0 x1).2
def G_close (Rel Rel2 : Xst → Cst → Prop) : Prop := ∀ (S : Xst) (M : Cst), Rel S M → (sX4_close S).1 = (sX5_close M).1 ∧ Rel2 (sX4_close S).2 (sX5_close M).2
def G_pay (Rel Rel2 : Xst → Cst → Prop) : Prop := ∀ (S : Xst) (M : Cst) (x0 x1 : Int32), Rel S M → (sX4_pay S x0 x1).1 = (sX5_pay M x0 x1).1 ∧ Rel2 (sX4_pay S x0 x1).2 (sX5_pay M x0 x1).2
def G_repair (Rel Rel2 : Xst → Cst → Prop) : Prop := ∀ (S : Xst) (M : Cst) (x0 : Int32), Rel S M → (sX4_repair S x0).1 = (sX5_repair M x0).1 ∧ Rel2 (sX4_repair S x0).2 (sX5_repair M x0).2
def G_set (Rel Rel2 : Xst → Cst → Prop) : Prop := ∀ (S : Xst) (M : Cst) (x0 x1 : Int32), Rel S M → (sX4_set S x0 x1).1 = (sX5_set M x0 x1).1 ∧ Rel2 (sX4_set S x0 x1).2 (sX5_set M x0 x1).2
def G_memberOf (Rel Rel2 : Xst → Cst → Prop) : Prop := ∀ (S : Xst) (M : Cst) (x0 x1 : Int32), Rel S M → (sX4_memberOf S x0 x1) = (sX5_memberOf M x0 x1) ∧ Rel2 S M
def G_count (Rel Rel2 : Xst → Cst → Prop) : Prop := ∀ (S : Xst) (M : Cst) (x0 : Int32), Rel S M → (sX4_count S x0) = (sX5_count M x0) ∧ Rel2 S M
def G_seasonOf (Rel Rel2 : Xst → Cst → Prop) : Prop := ∀ (S : Xst) (M : Cst) (x0 x1 : Int32), Rel S M → (sX4_seasonOf S x0 x1) = (sX5_seasonOf M x0 x1) ∧ Rel2 S M
def G_gain (Rel Rel2 : Xst → Cst → Prop) : Prop := ∀ (S : Xst) (M : Cst) (x0 x1 : Int32), Rel S M → (sX4_gain S x0 x1) = (sX5_gain M x0 x1) ∧ Rel2 S M
def G_bestUse (Rel Rel2 : Xst → Cst → Prop) : Prop := ∀ (S : Xst) (M : Cst) (x0 : Int32), Rel S M → (sX4_bestUse S x0) = (sX5_bestUse M x0) ∧ Rel2 S M
def G_calm (Rel Rel2 : Xst → Cst → Prop) : Prop := ∀ (S : Xst) (M : Cst) (x0 : Int32), Rel S M → (sX4_calm S x0).1 = (sX5_calm M x0).1 ∧ Rel2 (sX4_calm S x0).2 (sX5_calm M x0).2
def G_bestForAll (Rel Rel2 : Xst → Cst → Prop) : Prop := ∀ (S : Xst) (M : Cst) (x0 : Int32), Rel S M → (sX4_bestForAll S x0).1 = (sX5_bestForAll M x0) ∧ Rel2 (sX4_bestForAll S x0).2 M
def G_wouldExclude (Rel Rel2 : Xst → Cst → Prop) : Prop := ∀ (S : Xst) (M : Cst), Rel S M → (sX4_wouldExclude S).1 = (sX5_wouldExclude M).1 ∧ Rel2 (sX4_wouldExclude S).2 (sX5_wouldExclude M).2
def G_canRepair (Rel Rel2 : Xst → Cst → Prop) : Prop := ∀ (S : Xst) (M : Cst), Rel S M → (sX4_canRepair S) = (sX5_canRepair M) ∧ Rel2 S M
def G_undo (Rel Rel2 : Xst → Cst → Prop) : Prop := ∀ (S : Xst) (M : Cst), Rel S M → (sX4_undo S).1 = (sX5_undo M).1 ∧ Rel2 (sX4_undo S).2 (sX5_undo M).2
def G_type (Rel Rel2 : Xst → Cst → Prop) : Prop := ∀ (S : Xst) (M : Cst) (x0 : Int32), Rel S M → (sX4_type S x0).1 = (sX5_type M x0).1 ∧ Rel2 (sX4_type S x0).2 (sX5_type M x0).2
def G_clearText (Rel Rel2 : Xst → Cst → Prop) : Prop := ∀ (S : Xst) (M : Cst), Rel S M → (sX4_clearText S).1 = (sX5_clearText M).1 ∧ Rel2 (sX4_clearText S).2 (sX5_clearText M).2
def G_fault (Rel Rel2 : Xst → Cst → Prop) : Prop := ∀ (S : Xst) (M : Cst) (x0 : Int32), Rel S M → (sX4_fault S x0).1 = (sX5_fault M x0).1 ∧ Rel2 (sX4_fault S x0).2 (sX5_fault M x0).2
def G_play (Rel Rel2 : Xst → Cst → Prop) : Prop := ∀ (S : Xst) (M : Cst), Rel S M → (sX4_play S).1 = (sX5_play M).1 ∧ Rel2 (sX4_play S).2 (sX5_play M).2
def G_pre (Rel : Xst → Cst → Prop) : Prop := ∀ (S : Xst) (M : Cst), Rel S M → (0 ≤ (S 2 1 0).toInt ∧ (S 2 1 0).toInt ≤ 3) ∧ (0 ≤ (S 2 2 0).toInt ∧ (S 2 2 0).toInt ≤ 4) ∧ IC (S 0) ∧ 0 ≤ (S 7 1 0).toInt ∧ IM M
def Good (Rel Rel2 : Xst → Cst → Prop) : Prop := G_pre Rel ∧ (∀ S M, Rel S M → Rel2 S M) ∧ G_member Rel Rel2 ∧ G_use Rel Rel2 ∧ G_close Rel Rel2 ∧ G_pay Rel Rel2 ∧ G_repair Rel Rel2 ∧ G_set Rel Rel2 ∧ G_memberOf Rel Rel2 ∧ G_count Rel Rel2 ∧ G_seasonOf Rel Rel2 ∧ G_gain Rel Rel2 ∧ G_bestUse Rel Rel2 ∧ G_calm Rel Rel2 ∧ G_bestForAll Rel Rel2 ∧ G_wouldExclude Rel Rel2 ∧ G_canRepair Rel Rel2 ∧ G_undo Rel Rel2 ∧ G_type Rel Rel2 ∧ G_clearText Rel Rel2 ∧ G_fault Rel Rel2 ∧ G_play Rel Rel2
section JL
variable {α : Type} {p : Program} {l : Launch} {e : Env} {R : Room} {s : State} {m : MethodId} {args : Array Value} {below : List Frame} {meth : Method} {c : Code} {nL : Nat} {D : va_G} {A : Nat → Prop} {kc ks : Nat} {Kf : α → State → Prop} {sp : α} {ws ws' : va_W} {pc pc' : Nat} {lv lv' : List (Nat × Value)} {rest st : List Value}
variable {cc : ByteArray} {own : String} {ret0 : Option FieldType} {cI cH cO : ClassId}
theorem j_sld (X : CX p s m args meth c cc nL own ret0 D (tyl cI cH cO) A) {b L i : Nat} {xs : Nat → Int32} (hX : va_X b L xs s s.heap) (hbl : b < s.heap.size) (hbA : ¬ A b) (hin : i < L) (hL : L < 2 ^ 31) (hdg : decode cc pc = .ok (.iaload, 1)) (hpc : pc + 1 = pc') (kk : J p l e R s m args below meth c nL D A kc ks Kf sp ws pc' lv (.int (xs i) :: rest)) : J p l e R s m args below meth c nL D A kc ks Kf sp ws pc lv (.int (nI i) :: .ref b :: rest) := by
  subst hpc
  intro ls H locs hl hP hD hS
  obtain ⟨⟨hx, hb, hml, hown, hts⟩, hK, hN, hr, hlk, hA⟩ := X
  refine va_sld hx hb hX hbl hbA hS (vp_in_nI hin hL) hdg ?_
  rw [nI_clamp (Nat.lt_trans hin hL)]
  exact kk ls H locs hl hP hD hS
theorem j_slen (X : CX p s m args meth c cc nL own ret0 D (tyl cI cH cO) A) {b L : Nat} {xs : Nat → Int32} (hX : va_X b L xs s s.heap) (hbl : b < s.heap.size) (hbA : ¬ A b) (hdg : decode cc pc = .ok (.arraylength, 1)) (hpc : pc + 1 = pc') (kk : J p l e R s m args below meth c nL D A kc ks Kf sp ws pc' lv (.int (nI L) :: rest)) : J p l e R s m args below meth c nL D A kc ks Kf sp ws pc lv (.ref b :: rest) := by
  subst hpc
  intro ls H locs hl hP hD hS
  obtain ⟨⟨hx, hb, hml, hown, hts⟩, hK, hN, hr, hlk, hA⟩ := X
  exact va_slen hx hb hX hbl hbA hS hdg (kk ls H locs hl hP hD hS)
theorem j_gt0 (X : CX p s m args meth c cc nL own ret0 D (tyl cI cH cO) A) {x y : Int32} {off : Int} {tgt : Nat} (hdg : decode cc pc = .ok (.if_icmp .gt off, 3)) (ht : (pc : Int) + off = (tgt : Int)) (hpc : pc + 3 = pc') (k1 : y < x → J p l e R s m args below meth c nL D A kc ks Kf sp ws tgt lv rest) (k2 : ¬ (y < x) → J p l e R s m args below meth c nL D A kc ks Kf sp ws pc' lv rest) : J p l e R s m args below meth c nL D A kc ks Kf sp ws pc lv (.int y :: .int x :: rest) := by
  subst hpc
  intro ls H locs hl hP hD hS
  obtain ⟨⟨hx, hb, hml, hown, hts⟩, hK, hN, hr, hlk, hA⟩ := X
  exact lv_icmp_gt hx hb hdg ht (fun h => k1 h ls H locs hl hP hD hS) (fun h => k2 h ls H locs hl hP hD hS)
theorem j_eq0 (X : CX p s m args meth c cc nL own ret0 D (tyl cI cH cO) A) {x y : Int32} {off : Int} {tgt : Nat} (hdg : decode cc pc = .ok (.if_icmp .eq off, 3)) (ht : (pc : Int) + off = (tgt : Int)) (hpc : pc + 3 = pc') (k1 : x = y → J p l e R s m args below meth c nL D A kc ks Kf sp ws tgt lv rest) (k2 : ¬ (x = y) → J p l e R s m args below meth c nL D A kc ks Kf sp ws pc' lv rest) : J p l e R s m args below meth c nL D A kc ks Kf sp ws pc lv (.int y :: .int x :: rest) := by
  subst hpc
  intro ls H locs hl hP hD hS
  obtain ⟨⟨hx, hb, hml, hown, hts⟩, hK, hN, hr, hlk, hA⟩ := X
  exact lv_icmp_eq hx hb hdg ht (fun h => k1 h ls H locs hl hP hD hS) (fun h => k2 h ls H locs hl hP hD hS)
end JL
