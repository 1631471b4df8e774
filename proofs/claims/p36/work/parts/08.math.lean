/-! ===== the calendar in numbers ===== -/
def pm_fd (y : Nat) : Nat := (y - 1) * 365 + (y - 1) / 4
def pm_cl (m : Nat) : Nat := if m = 2 then 28 else if m = 4 ∨ m = 6 ∨ m = 9 ∨ m = 11 then 30 else 31
def pm_ln (y m : Nat) : Nat := if m = 2 ∧ y % 4 = 0 then 29 else pm_cl m
def pm_cb : Nat → Nat
  | 0 => 0
  | m + 1 => if m = 0 then 0 else pm_cb m + pm_cl m
def pm_db (y m : Nat) : Nat := pm_cb m + (if 2 < m ∧ y % 4 = 0 then 1 else 0)
def pm_lw (n : Nat) : Nat := n - (n + 311) / 1461
def pm_pl (n : Nat) : Nat := pm_lw n % 365 + 1
def pm_yr (n : Nat) : Nat := n / 1461 * 4 + min (n % 1461 / 365) 3 + 1
def pm_mp (p : Nat) : Nat := if p ≤ 31 then 1 else if p ≤ 59 then 2 else if p ≤ 90 then 3 else if p ≤ 120 then 4 else if p ≤ 151 then 5 else if p ≤ 181 then 6 else if p ≤ 212 then 7 else if p ≤ 243 then 8 else if p ≤ 273 then 9 else if p ≤ 304 then 10 else if p ≤ 334 then 11 else 12
def pm_nn (m : Nat) : Nat := if m = 3 ∨ m = 5 ∨ m = 7 ∨ m = 10 then 7 else 5
def pm_an (m a : Nat) : Nat := pm_cb m + (if a = 0 then 1 else if a = 1 then pm_nn m else pm_nn m + 8)
def pm_ld (y p : Nat) : Nat := pm_fd y + p - 1 + (if y % 4 = 0 ∧ 55 ≤ p then 1 else 0)
def pm_ap (p : Nat) : Nat := if p = pm_an (pm_mp p) 0 ∨ pm_an (pm_mp p) 2 < p then 0 else if p ≤ pm_an (pm_mp p) 1 then 1 else 2
def pm_gc (m a : Nat) : Nat := if a = 2 then 8 else if a = 1 then pm_nn m - 1 else pm_cl (if m = 1 then 12 else m - 1) - (pm_nn (if m = 1 then 12 else m - 1) + 8) + 1
theorem pm_cl_b (m : Nat) : 28 ≤ pm_cl m ∧ pm_cl m ≤ 31 := by
  unfold pm_cl
  split
  · omega
  · split <;> omega
theorem pm_ln_b (y m : Nat) : 28 ≤ pm_ln y m ∧ pm_ln y m ≤ 31 := by
  unfold pm_ln
  have h := pm_cl_b m
  split <;> omega
theorem pm_nn_b (m : Nat) : 5 ≤ pm_nn m ∧ pm_nn m ≤ 7 := by
  unfold pm_nn
  split <;> omega
theorem pm_cb_s {m : Nat} (h : 1 ≤ m) : pm_cb (m + 1) = pm_cb m + pm_cl m := by
  rw [pm_cb, if_neg (by omega)]
theorem pm_cb_1 : pm_cb 1 = 0 := by decide
theorem pm_m12 {m : Nat} (h1 : 1 ≤ m) (h2 : m ≤ 12) : m = 1 ∨ m = 2 ∨ m = 3 ∨ m = 4 ∨ m = 5 ∨ m = 6 ∨ m = 7 ∨ m = 8 ∨ m = 9 ∨ m = 10 ∨ m = 11 ∨ m = 12 := by omega
theorem pm_cb_b (m : Nat) (h : m ≤ 13) : pm_cb m ≤ 365 := by
  have h9 : ∀ k, k < 14 → pm_cb k ≤ 365 := by decide
  exact h9 m (by omega)
theorem pm_mp_b (p : Nat) : 1 ≤ pm_mp p ∧ pm_mp p ≤ 12 := by
  unfold pm_mp
  repeat' split
  all_goals omega
theorem pm_mp_s {p k : Nat} (hp : p ≤ 366) (h1 : 1 ≤ k) (h2 : k ≤ 12) : k < pm_mp p ↔ k < 12 ∧ pm_cb (k + 1) < p := by
  have h9 : ∀ q, q < 367 → ∀ j, j < 13 → 1 ≤ j → (j < pm_mp q ↔ j < 12 ∧ pm_cb (j + 1) < q) := by decide +kernel
  exact h9 p (by omega) k (by omega) h1
theorem pm_lw_b (n : Nat) : pm_lw n ≤ n := Nat.sub_le _ _
theorem pm_pl_b (n : Nat) : 1 ≤ pm_pl n ∧ pm_pl n ≤ 365 := by
  unfold pm_pl
  have h := Nat.mod_lt (pm_lw n) (show 0 < 365 by decide)
  omega
theorem pm_yr_b {n : Nat} (h : n < 1095750) : 1 ≤ pm_yr n ∧ pm_yr n ≤ 3000 := by
  unfold pm_yr
  omega
theorem pm_an_b (m a : Nat) (h : m ≤ 13) : pm_cb m + 1 ≤ pm_an m a ∧ pm_an m a ≤ pm_cb m + 15 := by
  unfold pm_an
  have h := pm_nn_b m
  split
  · omega
  · split <;> omega
theorem pm_db_b (y m : Nat) (h : m ≤ 13) : pm_db y m ≤ 366 := by
  unfold pm_db
  have h9 := pm_cb_b m h
  split <;> omega
theorem pm_ld_b (y p : Nat) (hy : 1 ≤ y) (hp : 1 ≤ p) : pm_ld y p ≤ (y - 1) * 365 + (y - 1) / 4 + p := by
  unfold pm_ld pm_fd
  split <;> omega
theorem pm_ap_b (q : Nat) : pm_ap q ≤ 2 := by
  unfold pm_ap
  (repeat' split) <;> omega
theorem pm_gc_b (m a : Nat) : 1 ≤ pm_gc m a ∧ pm_gc m a ≤ 19 := by
  unfold pm_gc
  generalize (if m = 1 then 12 else m - 1) = z
  have h1 := pm_nn_b m
  have h2 := pm_nn_b z
  have h3 := pm_cl_b z
  (repeat' split) <;> omega
theorem pm_fd_e (y : Nat) : pm_fd y = (y - 1) * 365 + (y - 1) / 4 := rfl
