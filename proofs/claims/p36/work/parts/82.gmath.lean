/-! ===== a day told back, a day and the next one, the end of a term: four years are alike ===== -/
theorem pg_yr_q (q r : Nat) : pm_yr (1461 * q + r) = 4 * q + pm_yr r := by
  unfold pm_yr
  omega
theorem pg_lw_q (q r : Nat) : pm_lw (1461 * q + r) = 1460 * q + pm_lw r := by
  unfold pm_lw
  omega
theorem pg_pl_q (q r : Nat) : pm_pl (1461 * q + r) = pm_pl r := by
  unfold pm_pl
  rw [pg_lw_q]
  omega
theorem pg_mo_q (q r : Nat) : pm_mo (1461 * q + r) = pm_mo r := by
  unfold pm_mo
  rw [pg_pl_q]
theorem pg_da_q (q r : Nat) : pm_da (1461 * q + r) = pm_da r := by
  unfold pm_da
  rw [pg_mo_q, pg_yr_q, pm_fd_q q _ (pm_yr1 r), pm_db_q]
  omega
theorem pg_dl_q (q r : Nat) : pm_dl (1461 * q + r) = pm_dl r := by
  unfold pm_dl
  rw [show (1461 * q + r) % 1461 = r % 1461 by omega]
theorem pg_ld_q (q y p : Nat) (hy : 1 ≤ y) (hp : 1 ≤ p) : pm_ld (4 * q + y) p = 1461 * q + pm_ld y p := by
  unfold pm_ld
  rw [pm_fd_q q y hy, pm_lp_q]
  omega
theorem pg_dl (n : Nat) : pz_b (n % 1461 = 1149) = nI (pm_dl n) := by
  unfold pm_dl
  by_cases h : n % 1461 = 1149
  · rw [if_pos h]; exact (pz_bt h).symm
  · rw [if_neg h]; exact (pz_bf h).symm
def pg_B (n : Nat) : Prop := pm_fd (pm_yr n) + pm_db (pm_yr n) (pm_mo n) + pm_da n - 1 = n ∧ pm_fc (pm_yr n) (pm_am (pm_pl n)) (pm_ap (pm_pl n)) (pm_ct (pm_pl n)) (pm_dl n) = n ∧ 1 ≤ pm_ct (pm_pl n) ∧ pm_ct (pm_pl n) ≤ pm_gc (pm_am (pm_pl n)) (pm_ap (pm_pl n)) ∧ (pm_dl n = 1 → pm_yr n % 4 = 0 ∧ pm_am (pm_pl n) = 3 ∧ pm_ap (pm_pl n) = 0 ∧ pm_ct (pm_pl n) = 6) ∧ (pm_am (pm_pl n) = pm_mo n → pm_ap (pm_pl n) ≠ 0 ∨ pm_da n = 1) ∧ (pm_am (pm_pl n) ≠ pm_mo n → pm_ap (pm_pl n) = 0 ∧ pm_am (pm_pl n) = pm_mo n % 12 + 1 ∧ 13 < pm_da n) ∧ pm_lw n + 1 = 365 * (pm_yr n - 1) + pm_pl n ∧ (pm_dl n = 1 → n - pm_lw n = pm_yr n / 4 - 1) ∧ (3 ≤ pm_mo n → n - pm_lw n = pm_yr n / 4) ∧ (pm_dl n = 1 ↔ pm_yr n % 4 = 0 ∧ pm_mo n = 2 ∧ pm_da n = 24)
theorem pg_B_r1 : ∀ r, r < 1461 → pm_fd (pm_yr r) + pm_db (pm_yr r) (pm_mo r) + pm_da r - 1 = r ∧ pm_fc (pm_yr r) (pm_am (pm_pl r)) (pm_ap (pm_pl r)) (pm_ct (pm_pl r)) (pm_dl r) = r ∧ 1 ≤ pm_ct (pm_pl r) ∧ pm_ct (pm_pl r) ≤ pm_gc (pm_am (pm_pl r)) (pm_ap (pm_pl r)) ∧ (pm_dl r = 1 → pm_yr r % 4 = 0 ∧ pm_am (pm_pl r) = 3 ∧ pm_ap (pm_pl r) = 0 ∧ pm_ct (pm_pl r) = 6) := by decide +kernel
theorem pg_B_r2 : ∀ r, r < 1461 → (pm_am (pm_pl r) = pm_mo r → pm_ap (pm_pl r) ≠ 0 ∨ pm_da r = 1) ∧ (pm_am (pm_pl r) ≠ pm_mo r → pm_ap (pm_pl r) = 0 ∧ pm_am (pm_pl r) = pm_mo r % 12 + 1 ∧ 13 < pm_da r) := by decide +kernel
theorem pg_B_r3 : ∀ r, r < 1461 → pm_lw r + 1 = 365 * (pm_yr r - 1) + pm_pl r ∧ (pm_dl r = 1 → r - pm_lw r = pm_yr r / 4 - 1 ∧ 4 ≤ pm_yr r) ∧ (3 ≤ pm_mo r → r - pm_lw r = pm_yr r / 4) := by decide +kernel
theorem pg_B_r4 : ∀ r, r < 1461 → 1 ≤ pm_fp (pm_am (pm_pl r)) (pm_ap (pm_pl r)) (pm_ct (pm_pl r)) ∧ pm_dl r ≤ pm_ld (pm_yr r) (pm_fp (pm_am (pm_pl r)) (pm_ap (pm_pl r)) (pm_ct (pm_pl r))) ∧ 1 ≤ pm_da r := by decide +kernel
theorem pg_back (n : Nat) : pg_B n := by
  obtain ⟨q, r, h, rfl⟩ := pm_q n
  obtain ⟨h1, h2, h3, h4, h5⟩ := pg_B_r1 r h
  obtain ⟨h6, h7⟩ := pg_B_r2 r h
  obtain ⟨h8, h9, h10⟩ := pg_B_r3 r h
  obtain ⟨h11, h12, h13⟩ := pg_B_r4 r h
  have hy := pm_yr1 r
  have hl := pm_lw_b r
  have hd := (pm_now r).2.2.2
  have hd2 : pm_dl r = 1 ↔ r % 1461 = 1149 := by
    unfold pm_dl
    split <;> simp_all
  unfold pg_B
  rw [pg_yr_q, pg_mo_q, pg_da_q, pg_dl_q, pg_pl_q, pg_lw_q, pm_fd_q q _ hy, pm_db_q, pm_lp_q]
  refine ⟨by omega, ?_, h3, h4, h5, h6, h7, by omega, fun h => ?_, fun h => ?_, hd2.trans hd⟩
  · unfold pm_fc at h2 ⊢
    rw [pg_ld_q q _ _ hy h11]
    omega
  · have h14 := h9 h
    omega
  · have h14 := h10 h
    omega
def pg_N (n : Nat) : Prop := pm_lw (n + 1) = pm_lw n + 1 - pm_dl n ∧ pm_dl n ≤ pm_lw n + 1 ∧ (pm_yr (n + 1) ≠ pm_yr n → pm_yr (n + 1) = pm_yr n + 1 ∧ pm_pl (n + 1) = 1 ∧ pm_pl n = 365 ∧ pm_da n = 31) ∧ (pm_yr (n + 1) = pm_yr n → pm_pl (n + 1) + pm_dl n = pm_pl n + 1) ∧ ((pm_da (n + 1) = pm_da n + 1 ∧ pm_mo (n + 1) = pm_mo n) ∨ (pm_da (n + 1) = 1 ∧ 28 ≤ pm_da n ∧ pm_ct (pm_pl n) = 2 ∧ pm_ct (pm_pl (n + 1)) = 1)) ∧ (pm_ct (pm_pl n) = 1 → 1 < pm_ct (pm_pl (n + 1))) ∧ (pm_ct (pm_pl n) ≠ 1 → pm_ct (pm_pl (n + 1)) + 1 = pm_ct (pm_pl n) + pm_dl n)
theorem pg_N_r1 : ∀ r, r < 1461 → pm_lw (r + 1) = pm_lw r + 1 - pm_dl r ∧ pm_dl r ≤ pm_lw r + 1 ∧ (pm_yr (r + 1) ≠ pm_yr r → pm_yr (r + 1) = pm_yr r + 1 ∧ pm_pl (r + 1) = 1 ∧ pm_pl r = 365 ∧ pm_da r = 31) ∧ (pm_yr (r + 1) = pm_yr r → pm_pl (r + 1) + pm_dl r = pm_pl r + 1) := by decide +kernel
theorem pg_N_r2 : ∀ r, r < 1461 → ((pm_da (r + 1) = pm_da r + 1 ∧ pm_mo (r + 1) = pm_mo r) ∨ (pm_da (r + 1) = 1 ∧ 28 ≤ pm_da r ∧ pm_ct (pm_pl r) = 2 ∧ pm_ct (pm_pl (r + 1)) = 1)) ∧ (pm_ct (pm_pl r) = 1 → 1 < pm_ct (pm_pl (r + 1))) ∧ (pm_ct (pm_pl r) ≠ 1 → pm_ct (pm_pl (r + 1)) + 1 = pm_ct (pm_pl r) + pm_dl r) := by decide +kernel
theorem pg_next (n : Nat) : pg_N n := by
  obtain ⟨q, r, h, rfl⟩ := pm_q n
  obtain ⟨h1, h2, h3, h4⟩ := pg_N_r1 r h
  obtain ⟨h5, h6, h7⟩ := pg_N_r2 r h
  unfold pg_N
  rw [show 1461 * q + r + 1 = 1461 * q + (r + 1) from rfl]
  rw [pg_yr_q, pg_yr_q, pg_mo_q, pg_mo_q, pg_da_q, pg_da_q, pg_dl_q, pg_pl_q, pg_pl_q, pg_lw_q, pg_lw_q]
  refine ⟨by omega, by omega, fun h => ?_, fun h => h4 (by omega), h5, h6, h7⟩
  have h14 := h3 (by omega)
  omega
/-- the last day with this number in the law's count -/
def pg_E (L : Nat) : Nat := pm_ld (L / 365 + 1) (L % 365 + 1)
theorem pg_E_r : ∀ l, l < 1460 → pm_lw (pg_E l) = l ∧ pg_E l % 1461 ≠ 1149 := by decide +kernel
theorem pg_E_q (q l : Nat) : pg_E (1460 * q + l) = 1461 * q + pg_E l := by
  unfold pg_E
  rw [show (1460 * q + l) / 365 + 1 = 4 * q + (l / 365 + 1) by omega, show (1460 * q + l) % 365 + 1 = l % 365 + 1 by omega, pg_ld_q q _ _ (by omega) (by omega)]
theorem pg_end (L : Nat) : pm_lw (pg_E L) = L ∧ pg_E L % 1461 ≠ 1149 := by
  obtain ⟨q, l, h, rfl⟩ : ∃ q l, l < 1460 ∧ L = 1460 * q + l := ⟨L / 1460, L % 1460, Nat.mod_lt _ (by decide), (Nat.div_add_mod L 1460).symm⟩
  have h1 := pg_E_r l h
  rw [pg_E_q, pg_lw_q]
  omega
theorem pg_term {n d : Nat} (hn : n < 1095750) (h : pm_lw n + d ≤ 1094999) : pg_E (pm_lw n + d) < 1095750 ∧ n + d ≤ pg_E (pm_lw n + d) ∧ pg_E (pm_lw n + d) ≤ n + d + d / 1460 + 2 := by
  have h1 := pg_end (pm_lw n + d)
  generalize pg_E (pm_lw n + d) = E at h1 ⊢
  unfold pm_lw at h1 h
  omega
-- votes: one day of eight is a market day
theorem pg_v8 (g : Nat → Nat) (mk a n : Nat) (hm : mk < 8) : pm_vc g mk a (n + 8) ≤ pm_vc g mk a n + 7 := by
  have hv : ∀ k, pm_vc g mk a (k + 1) ≤ pm_vc g mk a k + 1 ∧ ((a + k) % 8 = mk → pm_vc g mk a (k + 1) = pm_vc g mk a k) := fun k => by
    by_cases h : pm_vt g mk (a + k)
    · rw [pm_vc_1 h]
      refine ⟨Nat.le_refl _, fun h9 => absurd h9 h.2⟩
    · rw [pm_vc_0 h]
      exact ⟨Nat.le_succ _, fun _ => rfl⟩
  have h0 : pm_vc g mk a (n + 1) ≤ pm_vc g mk a n + 1 ∧ ((a + n) % 8 = mk → pm_vc g mk a (n + 1) = pm_vc g mk a n) := hv n
  have h1 : pm_vc g mk a (n + 2) ≤ pm_vc g mk a (n + 1) + 1 ∧ ((a + (n + 1)) % 8 = mk → pm_vc g mk a (n + 2) = pm_vc g mk a (n + 1)) := hv (n + 1)
  have h2 : pm_vc g mk a (n + 3) ≤ pm_vc g mk a (n + 2) + 1 ∧ ((a + (n + 2)) % 8 = mk → pm_vc g mk a (n + 3) = pm_vc g mk a (n + 2)) := hv (n + 2)
  have h3 : pm_vc g mk a (n + 4) ≤ pm_vc g mk a (n + 3) + 1 ∧ ((a + (n + 3)) % 8 = mk → pm_vc g mk a (n + 4) = pm_vc g mk a (n + 3)) := hv (n + 3)
  have h4 : pm_vc g mk a (n + 5) ≤ pm_vc g mk a (n + 4) + 1 ∧ ((a + (n + 4)) % 8 = mk → pm_vc g mk a (n + 5) = pm_vc g mk a (n + 4)) := hv (n + 4)
  have h5 : pm_vc g mk a (n + 6) ≤ pm_vc g mk a (n + 5) + 1 ∧ ((a + (n + 5)) % 8 = mk → pm_vc g mk a (n + 6) = pm_vc g mk a (n + 5)) := hv (n + 5)
  have h6 : pm_vc g mk a (n + 7) ≤ pm_vc g mk a (n + 6) + 1 ∧ ((a + (n + 6)) % 8 = mk → pm_vc g mk a (n + 7) = pm_vc g mk a (n + 6)) := hv (n + 6)
  have h7 : pm_vc g mk a (n + 8) ≤ pm_vc g mk a (n + 7) + 1 ∧ ((a + (n + 7)) % 8 = mk → pm_vc g mk a (n + 8) = pm_vc g mk a (n + 7)) := hv (n + 7)
  have hx : (a + n) % 8 = mk ∨ (a + (n + 1)) % 8 = mk ∨ (a + (n + 2)) % 8 = mk ∨ (a + (n + 3)) % 8 = mk ∨ (a + (n + 4)) % 8 = mk ∨ (a + (n + 5)) % 8 = mk ∨ (a + (n + 6)) % 8 = mk ∨ (a + (n + 7)) % 8 = mk := by omega
  rcases hx with h | h | h | h | h | h | h | h
  · have := h0.2 h; omega
  · have := h1.2 h; omega
  · have := h2.2 h; omega
  · have := h3.2 h; omega
  · have := h4.2 h; omega
  · have := h5.2 h; omega
  · have := h6.2 h; omega
  · have := h7.2 h; omega
theorem pg_vle (g : Nat → Nat) (mk a : Nat) (hm : mk < 8) : ∀ t s, pm_vc g mk a (8 * t + s) ≤ 7 * t + s
  | 0, s => by
    have h := pm_vc_b g mk a s
    rw [show 8 * 0 + s = s by omega]
    omega
  | t + 1, s => by
    have h := pg_vle g mk a hm t s
    have h2 := pg_v8 g mk a (8 * t + s) hm
    rw [show 8 * (t + 1) + s = 8 * t + s + 8 by omega]
    omega
theorem pg_votes (g : Nat → Nat) (mk a n : Nat) (hm : mk < 8) (hn : n ≤ 366) : pm_vc g mk a n ≤ 321 := by
  have h := pg_vle g mk a hm (n / 8) (n % 8)
  rw [show 8 * (n / 8) + n % 8 = n by omega] at h
  omega
