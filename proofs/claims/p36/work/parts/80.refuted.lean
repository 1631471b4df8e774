theorem p36_ints : p36_s.IntsAt 0 (List.replicate 180 8) :=
  ⟨{ cls := 12, slots := p36_cells, vm := .none }, rfl, by decide +kernel, ⟨fun k h => (by cases h), start1.cArr "[I" 11 .int, rfl, 11, rfl⟩, by decide +kernel⟩
/-- WHAT IS CLAIMED IS FALSE, at the script of 180 eights: its room allows 106 new cells, the law's 180 throws alone make 180 -/
theorem p36_refuted : ¬ Claimed_1_1 := p36_not p36_atStart p36_applies p36_ints
theorem p36_refuted_both : ¬ (Claimed_1_1 ∧ Claimed_1_2) := fun h => p36_refuted h.1
