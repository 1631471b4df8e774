/-! ===== consuls: the least year behind another one, the k-th year of a pair ===== -/
def pm_nx (x1 x2 : Int32) (fy fp : Nat → Nat) (bh k : Nat) (nx : Int32) : Prop := (nx = (-1) ∧ ∀ j, j < k → ¬ (bh < fy j ∧ pm_mt x1 x2 (fp j))) ∨ (∃ i, i < k ∧ nx = nI (fy i) ∧ bh < fy i ∧ pm_mt x1 x2 (fp i) ∧ ∀ j, j < k → bh < fy j → pm_mt x1 x2 (fp j) → fy i ≤ fy j)
theorem pm_nx_0 {x1 x2 : Int32} {fy fp : Nat → Nat} {bh : Nat} : pm_nx x1 x2 fy fp bh 0 (-1) := Or.inl ⟨rfl, fun j h => absurd h (Nat.not_lt_zero j)⟩
theorem pm_lt1 {j k : Nat} (h : j < k + 1) : j < k ∨ j = k := by omega
theorem pm_nx_skip {x1 x2 : Int32} {fy fp : Nat → Nat} {bh k : Nat} {nx : Int32} (h : pm_nx x1 x2 fy fp bh k nx) (hn : ¬ (bh < fy k ∧ pm_mt x1 x2 (fp k))) : pm_nx x1 x2 fy fp bh (k + 1) nx := by
  rcases h with ⟨h1, h2⟩ | ⟨i, h1, h2, h3, h4, h5⟩
  · refine Or.inl ⟨h1, fun j hj => ?_⟩
    rcases pm_lt1 hj with h9 | rfl
    · exact h2 j h9
    · exact hn
  · refine Or.inr ⟨i, by omega, h2, h3, h4, fun j hj h6 h7 => ?_⟩
    rcases pm_lt1 hj with h9 | rfl
    · exact h5 j h9 h6 h7
    · exact absurd ⟨h6, h7⟩ hn
theorem pm_nx_late {x1 x2 : Int32} {fy fp : Nat → Nat} {bh k : Nat} {nx : Int32} (h : pm_nx x1 x2 fy fp bh k nx) (hk : k < 60) (hfy : ∀ j, j < 60 → fy j ≤ 3000) (hne : ¬ nx.toInt = (-1)) (hl : ¬ ((fy k : Nat) : Int) < nx.toInt) : pm_nx x1 x2 fy fp bh (k + 1) nx := by
  rcases h with ⟨h1, h2⟩ | ⟨i, h1, h2, h3, h4, h5⟩
  · subst h1
    exact absurd (by decide) hne
  · refine Or.inr ⟨i, by omega, h2, h3, h4, fun j hj h6 h7 => ?_⟩
    rcases pm_lt1 hj with h9 | rfl
    · exact h5 j h9 h6 h7
    · have h8 := hfy i (by omega)
      rw [h2, nI_toInt (by omega)] at hl
      omega
theorem pm_nx_new {x1 x2 : Int32} {fy fp : Nat → Nat} {bh k : Nat} {nx : Int32} (h : pm_nx x1 x2 fy fp bh k nx) (hk : k < 60) (hfy : ∀ j, j < 60 → fy j ≤ 3000) (hl : nx.toInt = (-1) ∨ ((fy k : Nat) : Int) < nx.toInt) (h3 : bh < fy k) (h4 : pm_mt x1 x2 (fp k)) : pm_nx x1 x2 fy fp bh (k + 1) (nI (fy k)) := by
  refine Or.inr ⟨k, by omega, rfl, h3, h4, fun j hj h6 h7 => ?_⟩
  rcases pm_lt1 hj with h9 | rfl
  · rcases h with ⟨h1, h2⟩ | ⟨i, h1, h2, h3', h4', h5⟩
    · exact absurd ⟨h6, h7⟩ (h2 j h9)
    · have h8 := hfy i (by omega)
      have h10 := h5 j h9 h6 h7
      rw [h2, nI_toInt (by omega)] at hl
      omega
  · exact Nat.le_refl _
def pm_cn (M : Nat → Bool) : Nat → Nat
  | 0 => 0
  | n + 1 => pm_cn M n + (if M n = true then 1 else 0)
theorem pm_cn_1 {M : Nat → Bool} {n : Nat} (h : M n = true) : pm_cn M (n + 1) = pm_cn M n + 1 := by rw [pm_cn, if_pos h]
theorem pm_cn_0 {M : Nat → Bool} {n : Nat} (h : ¬ M n = true) : pm_cn M (n + 1) = pm_cn M n := by rw [pm_cn, if_neg h, Nat.add_zero]
theorem pm_cn_le (M : Nat → Bool) (n : Nat) : ∀ d, pm_cn M n ≤ pm_cn M (n + d)
  | 0 => Nat.le_refl _
  | d + 1 => by
    have h := pm_cn_le M n d
    have h2 : pm_cn M (n + (d + 1)) = pm_cn M (n + d) + (if M (n + d) = true then 1 else 0) := rfl
    omega
theorem pm_cn_mono (M : Nat → Bool) {a b : Nat} (h : a ≤ b) : pm_cn M a ≤ pm_cn M b := by
  have h9 := pm_cn_le M a (b - a)
  rwa [show a + (b - a) = b from by omega] at h9
theorem pm_cn_gap {M : Nat → Bool} {a : Nat} : ∀ {d : Nat}, (∀ j, a ≤ j → j < a + d → ¬ M j = true) → pm_cn M (a + d) = pm_cn M a
  | 0, _ => rfl
  | d + 1, h => by
    have h1 := pm_cn_gap (M := M) (a := a) (d := d) (fun j h1 h2 => h j h1 (by omega))
    have h2 := pm_cn_0 (h (a + d) (by omega) (by omega))
    rw [show a + (d + 1) = a + d + 1 from rfl, h2, h1]
theorem pm_cn_same {M : Nat → Bool} {a b : Nat} (hab : a ≤ b) (h : ∀ j, a ≤ j → j < b → ¬ M j = true) : pm_cn M b = pm_cn M a := by
  have h9 := pm_cn_gap (M := M) (a := a) (d := b - a) (fun j h1 h2 => h j h1 (by omega))
  rwa [show a + (b - a) = b from by omega] at h9
theorem pm_cn_cong {M N : Nat → Bool} : ∀ {n : Nat}, (∀ j, j < n → M j = N j) → pm_cn M n = pm_cn N n
  | 0, _ => rfl
  | n + 1, h => by
    rw [pm_cn, pm_cn, pm_cn_cong (fun j hj => h j (by omega)), h n (by omega)]
theorem pm_cn_or (M N : Nat → Bool) : ∀ n, pm_cn (fun y => M y || N y) n ≤ pm_cn M n + pm_cn N n
  | 0 => Nat.le_refl _
  | n + 1 => by
    have h := pm_cn_or M N n
    rw [pm_cn, pm_cn, pm_cn]
    cases h1 : M n <;> cases h2 : N n <;> simp <;> omega
theorem pm_cn_one (z : Nat) (b : Bool) : ∀ n, pm_cn (fun y => decide (z = y) && b) n ≤ (if z < n then 1 else 0)
  | 0 => Nat.zero_le _
  | n + 1 => by
    have h := pm_cn_one z b n
    rw [pm_cn]
    by_cases h1 : z = n
    · subst h1
      rw [if_neg (Nat.lt_irrefl _)] at h
      rw [if_pos (Nat.lt_succ_self _)]
      split <;> omega
    · rw [if_neg (by simp [h1])]
      split at h <;> split <;> omega
/-- a year has these two, by the slots below k -/
def pm_M (x1 x2 : Int32) (fy fp : Nat → Nat) : Nat → Nat → Bool
  | 0, _ => false
  | k + 1, y => pm_M x1 x2 fy fp k y || (decide (fy k = y) && decide (0 < fy k ∧ pm_mt x1 x2 (fp k)))
theorem pm_M_iff {x1 x2 : Int32} {fy fp : Nat → Nat} {y : Nat} : ∀ {k : Nat}, pm_M x1 x2 fy fp k y = true ↔ ∃ i, i < k ∧ fy i = y ∧ 0 < fy i ∧ pm_mt x1 x2 (fp i)
  | 0 => ⟨fun h => (by cases h), fun ⟨i, h, _⟩ => absurd h (Nat.not_lt_zero i)⟩
  | k + 1 => by
    rw [pm_M, Bool.or_eq_true, pm_M_iff (k := k), Bool.and_eq_true, decide_eq_true_eq, decide_eq_true_eq]
    constructor
    · rintro (⟨i, h1, h2⟩ | ⟨h1, h2⟩)
      · exact ⟨i, by omega, h2⟩
      · exact ⟨k, by omega, h1, h2⟩
    · rintro ⟨i, h1, h2, h3⟩
      rcases pm_lt1 h1 with h9 | rfl
      · exact Or.inl ⟨i, h9, h2, h3⟩
      · exact Or.inr ⟨h2, h3⟩
theorem pm_M_few (x1 x2 : Int32) (fy fp : Nat → Nat) (n : Nat) : ∀ k, pm_cn (pm_M x1 x2 fy fp k) n ≤ k
  | 0 => by
    have h : ∀ n, pm_cn (pm_M x1 x2 fy fp 0) n = 0 := fun n => by
      induction n with
      | zero => rfl
      | succ n ih => rw [pm_cn_0 (by simp [pm_M]), ih]
    rw [h]
    exact Nat.le_refl 0
  | k + 1 => by
    have h1 := pm_M_few x1 x2 fy fp n k
    have h2 := pm_cn_or (pm_M x1 x2 fy fp k) (fun y => decide (fy k = y) && decide (0 < fy k ∧ pm_mt x1 x2 (fp k))) n
    have h3 := pm_cn_one (fy k) (decide (0 < fy k ∧ pm_mt x1 x2 (fp k))) n
    have h4 : pm_cn (pm_M x1 x2 fy fp (k + 1)) n = pm_cn (fun y => pm_M x1 x2 fy fp k y || (decide (fy k = y) && decide (0 < fy k ∧ pm_mt x1 x2 (fp k)))) n := pm_cn_cong (fun j _ => rfl)
    split at h3 <;> omega
/-- the t-th year of M, or none -/
def pm_kth (M : Nat → Bool) (t : Nat) (r : Int32) : Prop := (r = (-1) ∧ pm_cn M 3001 < t) ∨ ∃ y, r = nI y ∧ 1 ≤ y ∧ y ≤ 3000 ∧ M y = true ∧ pm_cn M y + 1 = t
theorem pm_kth_nx {x1 x2 : Int32} {fy fp : Nat → Nat} {bh : Nat} {r : Int32} (hfy : ∀ j, j < 60 → fy j ≤ 3000) (hbh : bh ≤ 3000) (h : pm_nx x1 x2 fy fp bh 60 r) : pm_kth (pm_M x1 x2 fy fp 60) (pm_cn (pm_M x1 x2 fy fp 60) (bh + 1) + 1) r := by
  rcases h with ⟨h1, h2⟩ | ⟨i, h1, h2, h3, h4, h5⟩
  · refine Or.inl ⟨h1, ?_⟩
    rw [pm_cn_same (a := bh + 1) (b := 3001) (by omega) (fun j hj1 hj2 hM => ?_)]
    · exact Nat.lt_succ_self _
    · obtain ⟨i, a1, a2, a3, a4⟩ := pm_M_iff.mp hM
      exact h2 i a1 ⟨by omega, a4⟩
  · have h6 := hfy i h1
    refine Or.inr ⟨fy i, h2, by omega, h6, pm_M_iff.mpr ⟨i, h1, rfl, by omega, h4⟩, ?_⟩
    rw [pm_cn_same (a := bh + 1) (b := fy i) (by omega) (fun j hj1 hj2 hM => ?_)]
    obtain ⟨k, a1, a2, a3, a4⟩ := pm_M_iff.mp hM
    have h7 := h5 k a1 (by omega) a4
    omega
theorem pm_kth_un {M N : Nat → Bool} {t : Nat} {r r' : Int32} (hMN : ∀ j, j < 3001 → M j = N j) (h : pm_kth M t r) (h' : pm_kth N t r') : r = r' := by
  have e : ∀ n, n ≤ 3001 → pm_cn M n = pm_cn N n := fun n hn => pm_cn_cong (fun j hj => hMN j (by omega))
  rcases h with ⟨h1, h2⟩ | ⟨y, h1, h2, h3, h4, h5⟩ <;> rcases h' with ⟨g1, g2⟩ | ⟨z, g1, g2, g3, g4, g5⟩
  · rw [h1, g1]
  · exfalso
    have a1 := pm_cn_1 g4
    have a2 := pm_cn_mono N (a := z + 1) (b := 3001) (by omega)
    have a3 := e 3001 (by omega)
    omega
  · exfalso
    have a1 := pm_cn_1 h4
    have a2 := pm_cn_mono M (a := y + 1) (b := 3001) (by omega)
    have a3 := e 3001 (by omega)
    omega
  · have a0 := e z (by omega)
    have hyz : y = z := by
      rcases Nat.lt_trichotomy y z with q | q | q
      · exfalso
        have a1 := pm_cn_1 h4
        have a2 := pm_cn_mono M (a := y + 1) (b := z) (by omega)
        omega
      · exact q
      · exfalso
        have a1 := pm_cn_1 (M := M) (n := z) (by rw [hMN z (by omega)]; exact g4)
        have a2 := pm_cn_mono M (a := z + 1) (b := y) (by omega)
        omega
    rw [h1, g1, hyz]
theorem pm_u_b {F : Nat → Nat} {n B k v : Nat} (h : ∀ j, j < n → F j ≤ B) (hv : v ≤ B) : ∀ j, j < n → pz_u F k v j ≤ B := fun j hj => by
  unfold pz_u
  split
  · exact hv
  · exact h j hj
theorem pm_M_0 {x1 x2 : Int32} {fy fp : Nat → Nat} {k : Nat} : ¬ pm_M x1 x2 fy fp k 0 = true := fun h => by
  obtain ⟨i, h1, h2, h3, h4⟩ := pm_M_iff.mp h
  omega
theorem pm_kth_0 {x1 x2 : Int32} {fy fp : Nat → Nat} {r : Int32} (hfy : ∀ j, j < 60 → fy j ≤ 3000) (h : pm_nx x1 x2 fy fp 0 60 r) : pm_kth (pm_M x1 x2 fy fp 60) 1 r := by
  have h9 := pm_kth_nx hfy (by omega) h
  rw [pm_cn_0 pm_M_0] at h9
  exact h9
