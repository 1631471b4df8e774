/-! ===== the reference's way to find a year by its consuls ===== -/
def pm_NP (x1 x2 : Int32) (a b : Nat) : Prop := 0 < a ∧ ((((a : Nat) : Int) = x1.toInt ∧ ((b : Nat) : Int) = x2.toInt) ∨ (((a : Nat) : Int) = x2.toInt ∧ ((b : Nat) : Int) = x1.toInt))
def pm_N (x1 x2 : Int32) (ff gg : Nat → Nat) (y : Nat) : Bool := decide (1 ≤ y) && decide (0 < ff y ∧ ((((ff y : Nat) : Int) = x1.toInt ∧ ((gg y : Nat) : Int) = x2.toInt) ∨ (((ff y : Nat) : Int) = x2.toInt ∧ ((gg y : Nat) : Int) = x1.toInt)))
theorem pm_N_iff {x1 x2 : Int32} {ff gg : Nat → Nat} {y : Nat} : pm_N x1 x2 ff gg y = true ↔ 1 ≤ y ∧ pm_NP x1 x2 (ff y) (gg y) := by
  unfold pm_N pm_NP
  rw [Bool.and_eq_true, decide_eq_true_eq, decide_eq_true_eq]
theorem pm_N_00 {x1 x2 : Int32} {ff gg : Nat → Nat} : pm_cn (pm_N x1 x2 ff gg) 1 = 0 := by
  have h : ¬ pm_N x1 x2 ff gg 0 = true := fun h9 => absurd (pm_N_iff.mp h9).1 (by omega)
  rw [pm_cn_0 h]
  rfl
theorem pm_N_1 {x1 x2 : Int32} {ff gg : Nat → Nat} {y : Nat} (hy : 1 ≤ y) (h : pm_NP x1 x2 (ff y) (gg y)) : pm_N x1 x2 ff gg y = true := pm_N_iff.mpr ⟨hy, h⟩
theorem pm_N_0 {x1 x2 : Int32} {ff gg : Nat → Nat} {y : Nat} (h : ¬ pm_NP x1 x2 (ff y) (gg y)) : ¬ pm_N x1 x2 ff gg y = true := fun h9 => h (pm_N_iff.mp h9).2
