/-! ===== the reference's way: a day split into year, month, day ===== -/
theorem pm_cb_m {a b : Nat} (ha : 1 ≤ a) (h : a ≤ b) (hb : b ≤ 13) : pm_cb a ≤ pm_cb b := by
  have h9 : ((List.range 14).all fun b => (List.range 14).all fun a => decide (1 ≤ a → a ≤ b → pm_cb a ≤ pm_cb b)) = true := by decide +kernel
  exact of_decide_eq_true (List.all_eq_true.mp (List.all_eq_true.mp h9 b (List.mem_range.mpr (by omega))) a (List.mem_range.mpr (by omega))) ha h
theorem pm_db_m {y a b : Nat} (ha : 1 ≤ a) (h : a ≤ b) (hb : b ≤ 13) : pm_db y a ≤ pm_db y b := by
  have h1 := pm_cb_m ha h hb
  unfold pm_db
  split <;> split <;> omega
theorem pm_day2 (n : Nat) : pm_fd (pm_yr n) ≤ n ∧ pm_db (pm_yr n) (pm_mo n) + pm_fd (pm_yr n) ≤ n ∧ n < pm_db (pm_yr n) (pm_mo n) + pm_fd (pm_yr n) + pm_ln (pm_yr n) (pm_mo n) ∧ n < pm_fd (pm_yr n + 1) := by
  have h := pm_day n
  omega
def pm_bd (n : Nat) : Nat := if pm_yr n % 4 = 0 ∧ (2 < pm_mo n ∨ (pm_mo n = 2 ∧ 24 < pm_da n)) then 1 else 0
theorem pm_bd_q (q r : Nat) (h : r < 1461) : pm_bd (1461 * q + r) = pm_bd r := by
  unfold pm_bd
  rw [pm_yr_q q r h, pm_mo_q q r h, pm_da_q q r h, pm_lp_q]
theorem pm_sp_r : ∀ r, r < 1461 → pm_pl r = r - pm_fd (pm_yr r) + 1 - pm_bd r ∧ pm_bd r ≤ r - pm_fd (pm_yr r) ∧ pm_lw r + (pm_yr r - 1) / 4 + pm_bd r = r := by decide +kernel
theorem pm_sp (n : Nat) : pm_pl n = n - pm_fd (pm_yr n) + 1 - pm_bd n ∧ pm_bd n ≤ n - pm_fd (pm_yr n) ∧ pm_lw n + (pm_yr n - 1) / 4 + pm_bd n = n := by
  obtain ⟨q, r, h, rfl⟩ := pm_q n
  have h1 := pm_sp_r r h
  have h2 := pm_yr1 r
  have h3 := pm_day_r r h
  rw [pm_pl_q q r h, pm_bd_q q r h, pm_lw_q q r h, pm_yr_q q r h, pm_fd_q q _ h2]
  omega
def pm_nw (mm dy : Nat) : Nat := if dy = 1 ∨ pm_nn mm + 8 < dy then 0 else if dy ≤ pm_nn mm then 1 else 2
def pm_nm (mm dy : Nat) : Nat := if pm_nn mm + 8 < dy then mm % 12 + 1 else mm
def pm_nc (y mm dy : Nat) : Nat := if dy = 1 then 1 else if dy ≤ pm_nn mm + 8 then (if dy ≤ pm_nn mm then pm_nn mm else pm_nn mm + 8) - dy + 1 else (if mm = 2 ∧ dy ≤ 24 then 28 else pm_ln y mm) - dy + 2
def pm_dl (n : Nat) : Nat := if n % 1461 = 1149 then 1 else 0
theorem pm_now_r : ∀ r, r < 1461 → pm_nw (pm_mo r) (pm_da r) = pm_ap (pm_pl r) ∧ pm_nm (pm_mo r) (pm_da r) = pm_am (pm_pl r) ∧ pm_nc (pm_yr r) (pm_mo r) (pm_da r) = pm_ct (pm_pl r) ∧ (r = 1149 ↔ pm_yr r % 4 = 0 ∧ pm_mo r = 2 ∧ pm_da r = 24) := by decide +kernel
theorem pm_nc_q (q y mm dy : Nat) : pm_nc (4 * q + y) mm dy = pm_nc y mm dy := by
  unfold pm_nc
  rw [pm_ln_q]
theorem pm_now (n : Nat) : pm_nw (pm_mo n) (pm_da n) = pm_ap (pm_pl n) ∧ pm_nm (pm_mo n) (pm_da n) = pm_am (pm_pl n) ∧ pm_nc (pm_yr n) (pm_mo n) (pm_da n) = pm_ct (pm_pl n) ∧ (n % 1461 = 1149 ↔ pm_yr n % 4 = 0 ∧ pm_mo n = 2 ∧ pm_da n = 24) := by
  obtain ⟨q, r, h, rfl⟩ := pm_q n
  have h1 := pm_now_r r h
  rw [pm_pl_q q r h, pm_mo_q q r h, pm_da_q q r h, pm_yr_q q r h, pm_nc_q, pm_lp_q, show (1461 * q + r) % 1461 = r by omega]
  exact h1
theorem pm_dl_1 {n : Nat} (h : pm_yr n % 4 = 0 ∧ pm_mo n = 2 ∧ pm_da n = 24) : 1 = pm_dl n := by
  unfold pm_dl
  rw [if_pos ((pm_now n).2.2.2.mpr h)]
theorem pm_dl_0 {n : Nat} (h : ¬ (pm_yr n % 4 = 0 ∧ pm_mo n = 2 ∧ pm_da n = 24)) : 0 = pm_dl n := by
  unfold pm_dl
  rw [if_neg (fun h9 => h ((pm_now n).2.2.2.mp h9))]
theorem pm_dl_b (n : Nat) : pm_dl n ≤ 1 := by
  unfold pm_dl
  split <;> omega
theorem pm_ct_b2 (n : Nat) : 1 ≤ pm_ct (pm_pl n) ∧ pm_ct (pm_pl n) ≤ 400 := by
  have h1 := pm_pl_b n
  have h2 : ((List.range 366).all fun q => decide (pm_cp q ≤ 380)) = true := by decide +kernel
  have h3 := of_decide_eq_true (List.all_eq_true.mp h2 (pm_pl n) (List.mem_range.mpr (by omega)))
  unfold pm_ct
  omega
theorem pm_lw_x {n : Nat} (h : n < 1095750) : pm_lw n ≤ 1094999 := by
  unfold pm_lw
  omega
/-- a day of a year is told so -/
def pm_td (mm a k bd z : Nat) : Prop := pm_ap (pm_pl z) = a ∧ pm_am (pm_pl z) = mm ∧ pm_ct (pm_pl z) = k ∧ pm_dl z = bd
theorem pm_splk {n k : Nat} (h2 : k ≤ pm_mo n) (h9 : pm_ln (pm_yr n) k < n - pm_fd (pm_yr n) + 1 - pm_db (pm_yr n) k) : k < pm_mo n := by
  rcases Nat.lt_or_ge k (pm_mo n) with h8 | h8
  · exact h8
  · have h7 : k = pm_mo n := by omega
    have h6 := pm_day2 n
    subst h7
    omega
