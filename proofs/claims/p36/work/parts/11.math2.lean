/-! ===== four years are alike: 1461 days ===== -/
theorem pm_q (n : Nat) : ∃ q r, r < 1461 ∧ n = 1461 * q + r := ⟨n / 1461, n % 1461, Nat.mod_lt _ (by decide), (Nat.div_add_mod n 1461).symm⟩
theorem pm_yr_q (q r : Nat) (h : r < 1461) : pm_yr (1461 * q + r) = 4 * q + pm_yr r := by
  unfold pm_yr
  omega
theorem pm_lw_q (q r : Nat) (h : r < 1461) : pm_lw (1461 * q + r) = 1460 * q + pm_lw r := by
  unfold pm_lw
  omega
theorem pm_pl_q (q r : Nat) (h : r < 1461) : pm_pl (1461 * q + r) = pm_pl r := by
  unfold pm_pl
  rw [pm_lw_q q r h]
  omega
theorem pm_fd_q (q y : Nat) (h : 1 ≤ y) : pm_fd (4 * q + y) = 1461 * q + pm_fd y := by
  unfold pm_fd
  omega
theorem pm_lp_q (q y : Nat) : (4 * q + y) % 4 = y % 4 := by omega
theorem pm_db_q (q y mm : Nat) : pm_db (4 * q + y) mm = pm_db y mm := by
  unfold pm_db
  rw [pm_lp_q]
theorem pm_ln_q (q y mm : Nat) : pm_ln (4 * q + y) mm = pm_ln y mm := by
  unfold pm_ln
  rw [pm_lp_q]
theorem pm_yr1 (n : Nat) : 1 ≤ pm_yr n := by
  unfold pm_yr
  omega
def pm_mo (n : Nat) : Nat := pm_mp (pm_pl n)
def pm_da (n : Nat) : Nat := n - pm_fd (pm_yr n) - pm_db (pm_yr n) (pm_mo n) + 1
theorem pm_mo_q (q r : Nat) (h : r < 1461) : pm_mo (1461 * q + r) = pm_mo r := by
  unfold pm_mo
  rw [pm_pl_q q r h]
theorem pm_da_q (q r : Nat) (h : r < 1461) : pm_da (1461 * q + r) = pm_da r := by
  unfold pm_da
  rw [pm_mo_q q r h, pm_yr_q q r h, pm_fd_q q _ (pm_yr1 r), pm_db_q]
  omega
theorem pm_day_r : ∀ r, r < 1461 → pm_fd (pm_yr r) ≤ r ∧ pm_db (pm_yr r) (pm_mo r) ≤ r - pm_fd (pm_yr r) ∧ r - pm_fd (pm_yr r) - pm_db (pm_yr r) (pm_mo r) < pm_ln (pm_yr r) (pm_mo r) ∧ r < pm_fd (pm_yr r + 1) := by decide +kernel
theorem pm_day (n : Nat) : pm_fd (pm_yr n) ≤ n ∧ pm_db (pm_yr n) (pm_mo n) ≤ n - pm_fd (pm_yr n) ∧ n - pm_fd (pm_yr n) - pm_db (pm_yr n) (pm_mo n) < pm_ln (pm_yr n) (pm_mo n) ∧ n < pm_fd (pm_yr n + 1) := by
  obtain ⟨q, r, h, rfl⟩ := pm_q n
  have h1 := pm_day_r r h
  have h2 := pm_yr1 r
  rw [pm_mo_q q r h, pm_yr_q q r h, pm_fd_q q _ h2, pm_db_q, pm_ln_q, show 4 * q + pm_yr r + 1 = 4 * q + (pm_yr r + 1) from rfl, pm_fd_q q _ (by omega)]
  omega
theorem pm_mo_b (n : Nat) : 1 ≤ pm_mo n ∧ pm_mo n ≤ 12 := pm_mp_b _
theorem pm_da_b (n : Nat) : 1 ≤ pm_da n ∧ pm_da n ≤ pm_ln (pm_yr n) (pm_mo n) := by
  have h := pm_day n
  unfold pm_da
  omega
-- months and counts of anchors, by the place
def pm_am (q : Nat) : Nat := if pm_an (pm_mp q) 2 < q then pm_mp q % 12 + 1 else pm_mp q
def pm_cp (q : Nat) : Nat := if pm_an (pm_mp q) 2 < q then pm_an (pm_mp q + 1) 0 else pm_an (pm_mp q) (pm_ap q)
def pm_ct (q : Nat) : Nat := pm_cp q - q + 1
theorem pm_cp_b : ∀ q, q < 366 → 1 ≤ q → q ≤ pm_cp q := by decide +kernel
theorem pm_am_b (q : Nat) : 1 ≤ pm_am q ∧ pm_am q ≤ 12 := by
  have h := pm_mp_b q
  unfold pm_am
  split <;> omega
/-- a number in a range, or outside it -/
theorem pz_rng (x : Int32) (lo hi : Nat) (h : hi < 2147483648) : (∃ k : Nat, lo ≤ k ∧ k ≤ hi ∧ x = nI k) ∨ (x.toInt < (lo : Int) ∨ (hi : Int) < x.toInt) := by
  by_cases h1 : x.toInt < (lo : Int)
  · exact Or.inr (Or.inl h1)
  · by_cases h2 : (hi : Int) < x.toInt
    · exact Or.inr (Or.inr h2)
    · refine Or.inl ⟨x.toInt.toNat, by omega, by omega, ?_⟩
      apply Int32.toInt_inj.mp
      rw [nI_toInt (by omega)]
      omega
