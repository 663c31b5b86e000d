/-! the tables' words that stay good in every callee -/
def TT : List Cond := lw_tbl.filter goodWord
theorem tt_mem {i : Nat} {w : Cond} (h : lw_tbl[i]? = some w) (hg : goodWord w = true) : w ∈ TT := List.mem_filter.mpr ⟨List.mem_of_getElem? h, hg⟩
theorem tt_good {w : Cond} (h : w ∈ TT) : (w.onTables && w.keeps) = true ∨ ∃ ty, w = .arrayClass ty := good_of_word (List.mem_filter.mp h).2
theorem tt_law {w : Cond} (h : w ∈ TT) : w ∈ lw_tbl := (List.mem_filter.mp h).1
theorem tt_in {ws : List Cond} (h : ∀ w ∈ ws, w ∈ TT) : GoodIn TT ws := fun w hw => ⟨h w hw, tt_good (h w hw)⟩
theorem tt_code {z : MethodName} {bz : ByteArray} {nz : Nat} {rz : Option FieldType} (h : Cond.code z bz nz rz ∈ TT) : GoodIn TT (Cond.code z bz nz rz :: TT) := tt_in (fun w hw => (List.mem_cons.mp hw).elim (fun e => e ▸ h) id)
theorem goodIn_ap {big a b : List Cond} (ha : GoodIn big a) (hb : GoodIn big b) : GoodIn big (a ++ b) := fun w h => (List.mem_append.mp h).elim (ha w) (hb w)

