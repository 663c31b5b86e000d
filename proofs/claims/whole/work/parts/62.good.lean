theorem pu_ltvid {α : Type} (v : α) : ltv v (fun r => r) = v := rfl
theorem e_memberOf (S : Xst) (x y : Int32) : sX4_memberOf S x y = sX0_numberOfMember (S 0) x y := by unfold sX4_memberOf; rw [pu_ltvid]
theorem e_seasonOf (S : Xst) (x y : Int32) : sX4_seasonOf S x y = sX0_numberOfSeason (S 0) x y := by unfold sX4_seasonOf; rw [pu_ltvid]
theorem e_gain (S : Xst) (x y : Int32) : sX4_gain S x y = sX0_liftedGain (S 0) x y := by unfold sX4_gain; rw [pu_ltvid]
theorem e_canRepair (S : Xst) : sX4_canRepair S = sX0_pointsFromFund (S 0) := by unfold sX4_canRepair; rw [pu_ltvid]
theorem pu_Good {f : Nat} (hf : f + 60000 < 2 ^ 30) : Good (RelS f) (RelS (f + 60000)) := by
  refine ⟨?_, ?_, ?_, ?_, ?_, ?_, ?_, ?_, ?_, ?_, ?_, ?_, ?_, ?_, ?_, ?_, ?_, ?_, ?_, ?_, ?_, ?_⟩
  · exact fun S M h => pu_Gpre h
  · exact fun S M h => RelS_mono (by omega) h
  · exact fun S M x h => pu_Gmember x h
  · exact fun S M x y h => pu_Guse x y h
  · exact fun S M h => pu_Gclose h
  · exact fun S M x y h => pu_Gpay x y h
  · exact fun S M x h => pu_Grepair x hf h
  · exact fun S M x y h => pu_Gset x y h
  · exact fun S M x y h => ⟨(by obtain ⟨⟨n, t, hl, m, g, _, _, h3⟩, _⟩ := h; rw [e_memberOf]; exact pu_memE x y h3), RelS_mono (by omega) h⟩
  · exact fun S M x h => ⟨pu_Gcount x h, RelS_mono (by omega) h⟩
  · exact fun S M x y h => ⟨(by obtain ⟨⟨n, t, hl, m, g, _, _, h3⟩, _⟩ := h; rw [e_seasonOf]; exact pu_seasE x y h3), RelS_mono (by omega) h⟩
  · exact fun S M x y h => ⟨(by obtain ⟨⟨n, t, hl, m, g, _, _, h3⟩, _⟩ := h; rw [e_gain]; exact pu_gainE x y h3), RelS_mono (by omega) h⟩
  · exact fun S M x h => ⟨pu_GbestUse x h, RelS_mono (by omega) h⟩
  · exact fun S M x h => ⟨(pu_Gcalm x h).1, RelS_mono (by omega) (pu_Gcalm x h).2⟩
  · exact fun S M x h => ⟨(pu_GbestForAll x h).1, RelS_mono (by omega) (pu_GbestForAll x h).2⟩
  · exact fun S M  h => ⟨(pu_Gwould h).1, RelS_mono (by omega) (pu_Gwould h).2⟩
  · exact fun S M h => ⟨(by obtain ⟨⟨n, t, hl, m, g, _, _, h3⟩, _⟩ := h; rw [e_canRepair]; exact pu_repE h3), RelS_mono (by omega) h⟩
  · exact fun S M  h => ⟨(pu_Gundo h).1, RelS_mono (by omega) (pu_Gundo h).2⟩
  · exact fun S M x h => ⟨(pu_Gtype x h).1, RelS_mono (by omega) (pu_Gtype x h).2⟩
  · exact fun S M  h => ⟨(pu_Gclear h).1, RelS_mono (by omega) (pu_Gclear h).2⟩
  · exact fun S M x h => ⟨(pu_Gfault x hf h).1, RelS_mono (by omega) (pu_Gfault x hf h).2⟩
  · exact fun S M h => pu_Gplay hf h
theorem good_rel : ∃ Rel : Nat → Xst → Cst → Prop, Rel 0 iX iM ∧ ∀ i, i + 3 ≤ 1536 → Good (Rel i) (Rel (i + 3)) := by
  refine ⟨fun i => RelS (20000 * i), pu_start, fun i hi => ?_⟩
  have h := pu_Good (f := 20000 * i) (by omega)
  have e : 20000 * (i + 3) = 20000 * i + 60000 := by omega
  show Good (RelS (20000 * i)) (RelS (20000 * (i + 3)))
  rw [e]; exact h
