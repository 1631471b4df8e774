/-! ===== class and reference side by side ===== -/
theorem pm_ld_q (q y pp : Nat) (hy : 1 ≤ y) (hp : 1 ≤ pp) : pm_ld (4 * q + y) pp = 1461 * q + pm_ld y pp := by
  unfold pm_ld
  rw [pm_lp_q, pm_fd_q q y hy]
  omega
theorem pm_in {y z : Nat} (hy : 1 ≤ y) (h1 : pm_fd y ≤ z) (h2 : z < pm_fd (y + 1)) : pm_yr z = y := by
  unfold pm_fd at h1 h2
  unfold pm_yr
  omega
theorem pm_dl_q (q r : Nat) : pm_dl (1461 * q + r) = pm_dl r := by
  unfold pm_dl
  rw [show (1461 * q + r) % 1461 = r % 1461 by omega]
/-- a day is what it is told by -/
theorem pm_fc_r : ∀ r, r < 1461 → pm_fc (pm_yr r) (pm_am (pm_pl r)) (pm_ap (pm_pl r)) (pm_ct (pm_pl r)) (pm_dl r) = r ∧ pm_ct (pm_pl r) ≤ pm_gc (pm_am (pm_pl r)) (pm_ap (pm_pl r)) ∧ (pm_dl r = 1 → pm_yr r % 4 = 0 ∧ pm_am (pm_pl r) = 3 ∧ pm_ap (pm_pl r) = 0 ∧ pm_ct (pm_pl r) = 6) := by decide +kernel
theorem pm_fc_z (z : Nat) : pm_fc (pm_yr z) (pm_am (pm_pl z)) (pm_ap (pm_pl z)) (pm_ct (pm_pl z)) (pm_dl z) = z ∧ pm_ct (pm_pl z) ≤ pm_gc (pm_am (pm_pl z)) (pm_ap (pm_pl z)) ∧ (pm_dl z = 1 → pm_yr z % 4 = 0 ∧ pm_am (pm_pl z) = 3 ∧ pm_ap (pm_pl z) = 0 ∧ pm_ct (pm_pl z) = 6) := by
  obtain ⟨q, r, h, rfl⟩ := pm_q z
  have h1 := pm_fc_r r h
  have h2 := pm_yr1 r
  have hb := pm_am_b (pm_pl r)
  have hab := pm_ap_b (pm_pl r)
  have hcb := pm_ct_b2 r
  have h3 := pm_fp_b (mm := pm_am (pm_pl r)) (a := pm_ap (pm_pl r)) (k := pm_ct (pm_pl r)) (by omega) (by omega) (by omega) (by omega) h1.2.1
  rw [pm_pl_q q r h, pm_yr_q q r h, pm_dl_q, pm_lp_q]
  refine ⟨?_, h1.2⟩
  have h4 := h1.1
  have h5 := pm_ld_g (pm_yr r) (pm_fp (pm_am (pm_pl r)) (pm_ap (pm_pl r)) (pm_ct (pm_pl r))) h2 h3.1
  have h6 := pm_dl_b r
  unfold pm_fc at h4 ⊢
  rw [pm_ld_q q _ _ h2 h3.1]
  rcases Nat.lt_or_ge (pm_ld (pm_yr r) (pm_fp (pm_am (pm_pl r)) (pm_ap (pm_pl r)) (pm_ct (pm_pl r)))) (pm_dl r) with h7 | h7
  · exfalso
    have h8 : pm_dl r = 1 := by omega
    have h9 := h1.2.2 h8
    rw [h9.2.1, h9.2.2.1, h9.2.2.2, show pm_fp 3 0 6 = 55 from by decide] at h5 h7
    have h10 := h5.2 ⟨h9.1, Nat.le_refl 55⟩
    omega
  · omega
theorem pm_fc_d : ((List.range 5).all fun y => (List.range 13).all fun mm => (List.range 3).all fun a => (List.range 20).all fun k => (List.range 2).all fun bd => decide (1 ≤ y → 1 ≤ mm → 1 ≤ k → k ≤ pm_gc mm a → (bd = 1 → y % 4 = 0 ∧ mm = 3 ∧ a = 0 ∧ k = 6) → pm_fd y ≤ pm_fc y mm a k bd ∧ pm_fc y mm a k bd < pm_fd (y + 1) ∧ pm_ap (pm_pl (pm_fc y mm a k bd)) = a ∧ pm_am (pm_pl (pm_fc y mm a k bd)) = mm ∧ pm_ct (pm_pl (pm_fc y mm a k bd)) = k ∧ pm_dl (pm_fc y mm a k bd) = bd ∧ bd ≤ pm_ld y (pm_fp mm a k))) = true := by decide +kernel
theorem pm_fc_1 {y mm a k bd : Nat} (hy : 1 ≤ y) (h1 : 1 ≤ mm) (h2 : mm ≤ 12) (h3 : a ≤ 2) (h4 : 1 ≤ k) (h5 : k ≤ pm_gc mm a) (h6 : bd ≤ 1) (h7 : bd = 1 → y % 4 = 0 ∧ mm = 3 ∧ a = 0 ∧ k = 6) : pm_fd y ≤ pm_fc y mm a k bd ∧ pm_fc y mm a k bd < pm_fd (y + 1) ∧ pm_td mm a k bd (pm_fc y mm a k bd) := by
  obtain ⟨q, y0, hy0, rfl, hy1⟩ : ∃ q y0, y0 < 5 ∧ y = 4 * q + y0 ∧ 1 ≤ y0 := ⟨(y - 1) / 4, (y - 1) % 4 + 1, by omega, by omega, by omega⟩
  have hgb := pm_gc_b mm a
  have e := of_decide_eq_true (List.all_eq_true.mp (List.all_eq_true.mp (List.all_eq_true.mp (List.all_eq_true.mp (List.all_eq_true.mp pm_fc_d y0 (List.mem_range.mpr hy0)) mm (List.mem_range.mpr (by omega))) a (List.mem_range.mpr (by omega))) k (List.mem_range.mpr (by omega))) bd (List.mem_range.mpr (by omega)))
  have e2 := e hy1 h1 h4 h5 (by rw [pm_lp_q] at h7; exact h7)
  obtain ⟨e3, e4, e5, e6, e7, e8, e9⟩ := e2
  have h3' := pm_fp_b (mm := mm) (a := a) (k := k) (by omega) h1 (by omega) h4 h5
  have hq : pm_fc (4 * q + y0) mm a k bd = 1461 * q + pm_fc y0 mm a k bd := by
    unfold pm_fc
    rw [pm_ld_q q y0 _ hy1 h3'.1]
    omega
  have hr : pm_fc y0 mm a k bd < 1461 := by
    unfold pm_fd at e4
    omega
  unfold pm_td
  rw [hq, pm_pl_q q _ hr, pm_dl_q, pm_fd_q q y0 hy1, show 4 * q + y0 + 1 = 4 * q + (y0 + 1) from rfl, pm_fd_q q (y0 + 1) (by omega)]
  exact ⟨by omega, by omega, e5, e6, e7, e8⟩
theorem pm_fc_2 {y mm a k bd z : Nat} (hy : 1 ≤ y) (h1 : pm_fd y ≤ z) (h2 : z < pm_fd (y + 1)) (h : pm_td mm a k bd z) : z = pm_fc y mm a k bd ∧ k ≤ pm_gc mm a ∧ (bd = 1 → y % 4 = 0 ∧ mm = 3 ∧ a = 0 ∧ k = 6) := by
  have h3 := pm_fc_z z
  rw [pm_in hy h1 h2] at h3
  obtain ⟨e1, e2, e3, e4⟩ := h
  rw [e1, e2, e3, e4] at h3
  exact ⟨h3.1.symm, h3.2⟩
theorem pm_fc_n {y mm a k bd : Nat} (hy : 1 ≤ y) (hn : ¬ (k ≤ pm_gc mm a ∧ (bd = 1 → (y % 4 = 0 ∧ mm = 3 ∧ a = 0 ∧ k = 6)))) : ∀ z, pm_fd y ≤ z → z < pm_fd (y + 1) → ¬ pm_td mm a k bd z := fun z h1 h2 h => hn (pm_fc_2 hy h1 h2 h).2
theorem pm_fc_u {y mm a k bd : Nat} (hy : 1 ≤ y) (hlt : pm_fc y mm a k bd < pm_fd (y + 1)) : ∀ z, pm_fd y ≤ z → z < pm_fc y mm a k bd → ¬ pm_td mm a k bd z := fun z h1 h2 h => by
  have h3 := (pm_fc_2 hy h1 (by omega) h).1
  omega
theorem pm_gc_1 {y mm a : Nat} (hy : 1 ≤ y) : ∀ z, pm_fd y ≤ z → z < pm_fd (y + 1) → pm_ap (pm_pl z) = a → pm_am (pm_pl z) = mm → pm_ct (pm_pl z) ≤ pm_gc mm a := fun z h1 h2 e1 e2 => by
  have h3 := (pm_fc_z z).2.1
  rwa [e1, e2] at h3
-- terms
theorem pm_te_r : ∀ r, r < 1460 → pm_lw (pm_ld (r / 365 + 1) (r % 365 + 1)) = r ∧ pm_lw (pm_ld (r / 365 + 1) (r % 365 + 1) + 1) = r + 1 ∧ pm_ld (r / 365 + 1) (r % 365 + 1) < 1461 := by decide +kernel
theorem pm_te {d : Nat} (h : d ≤ 1094999) : pm_lw (pm_ld (d / 365 + 1) (d % 365 + 1)) = d ∧ pm_lw (pm_ld (d / 365 + 1) (d % 365 + 1) + 1) = d + 1 ∧ pm_ld (d / 365 + 1) (d % 365 + 1) < 1095750 := by
  obtain ⟨q, r, hr, rfl⟩ : ∃ q r, r < 1460 ∧ d = 1460 * q + r := ⟨d / 1460, d % 1460, Nat.mod_lt _ (by decide), (Nat.div_add_mod d 1460).symm⟩
  have h1 := pm_te_r r hr
  have e1 : (1460 * q + r) / 365 + 1 = 4 * q + (r / 365 + 1) := by omega
  have e2 : (1460 * q + r) % 365 = r % 365 := by omega
  rw [e1, e2, pm_ld_q q _ _ (by omega) (by omega)]
  generalize pm_ld (r / 365 + 1) (r % 365 + 1) = x at h1 ⊢
  unfold pm_lw at h1 ⊢
  omega
theorem pm_lw_m {a b : Nat} (h : a ≤ b) : pm_lw a ≤ pm_lw b := by
  unfold pm_lw
  omega
theorem pm_lw_l (a k : Nat) : pm_lw (a + k) ≤ pm_lw a + k := by
  unfold pm_lw
  omega
theorem pm_te_a {n dys : Nat} (h : pm_lw n + dys ≤ 1094999) : n + dys ≤ pm_ld ((pm_lw n + dys) / 365 + 1) ((pm_lw n + dys) % 365 + 1) ∧ ∀ z, n + dys ≤ z → z < pm_ld ((pm_lw n + dys) / 365 + 1) ((pm_lw n + dys) % 365 + 1) → pm_lw (z + 1) ≤ pm_lw n + dys := by
  have h1 := pm_te h
  constructor
  · rcases Nat.lt_or_ge (pm_ld ((pm_lw n + dys) / 365 + 1) ((pm_lw n + dys) % 365 + 1)) (n + dys) with h2 | h2
    · have h3 := pm_lw_m h2
      have h4 := pm_lw_l n dys
      rw [Nat.succ_eq_add_one, h1.2.1] at h3
      omega
    · exact h2
  · intro z _ h3
    have h4 := pm_lw_m (show z + 1 ≤ _ from h3)
    rw [h1.1] at h4
    exact h4
-- rows of years
theorem pm_cc_c {F G : Nat → Nat} : ∀ {n : Nat}, (∀ j, j < n → F j = G j) → pm_cc F n = pm_cc G n
  | 0, _ => rfl
  | n + 1, h => by
    rw [pm_cc, pm_cc, pm_cc_c (fun j hj => h j (by omega)), h n (by omega)]
theorem pm_cc_u (F : Nat → Nat) (v : Nat) {i : Nat} : ∀ {n : Nat}, i < n → pm_cc (pz_u F i v) n + (if F i = 0 then 0 else 1) = pm_cc F n + (if v = 0 then 0 else 1)
  | 0, h => absurd h (Nat.not_lt_zero i)
  | n + 1, h => by
    rw [pm_cc, pm_cc]
    by_cases h1 : i = n
    · subst h1
      have h2 : pm_cc (pz_u F i v) i = pm_cc F i := pm_cc_c (fun j hj => pz_u_ne (by omega))
      rw [h2, pz_u_same]
      omega
    · have h2 := pm_cc_u F v (i := i) (n := n) (by omega)
      rw [pz_u_ne (F := F) (k := i) (v := v) (j := n) (by omega)]
      omega
theorem pm_cc_full {F : Nat → Nat} : ∀ {n : Nat}, (∀ i, i < n → ¬ F i = 0) → pm_cc F n = n
  | 0, _ => rfl
  | n + 1, h => by
    rw [pm_cc_1 (h n (by omega)), pm_cc_full (fun i hi => h i (by omega))]
theorem pm_cc_gap {F : Nat → Nat} : ∀ {n : Nat}, (∃ i, i < n ∧ F i = 0) → pm_cc F n < n
  | 0, ⟨i, h, _⟩ => absurd h (Nat.not_lt_zero i)
  | n + 1, ⟨i, h, e⟩ => by
    by_cases h1 : i = n
    · subst h1
      rw [pm_cc_0 e]
      have h2 := pm_cc_b F i
      omega
    · have h2 := pm_cc_gap (F := F) (n := n) ⟨i, by omega, e⟩
      rw [pm_cc]
      split <;> omega
theorem pm_cc_pos {F : Nat → Nat} : ∀ {n : Nat}, (∃ i, i < n ∧ ¬ F i = 0) → 1 ≤ pm_cc F n
  | 0, ⟨i, h, _⟩ => absurd h (Nat.not_lt_zero i)
  | n + 1, ⟨i, h, e⟩ => by
    by_cases h1 : i = n
    · subst h1
      rw [pm_cc_1 e]
      omega
    · have h2 := pm_cc_pos (F := F) (n := n) ⟨i, by omega, e⟩
      rw [pm_cc]
      split <;> omega
/-- what class and reference have in common -/
def pz_inv (mk wr : Nat) (ch fy fp rc ff gg : Nat → Nat) : Prop :=
  mk < 8 ∧ wr ≤ 60 ∧ (∀ j, j < 365 → ch j ≤ 3) ∧ (∀ j, j < 366 → rc j ≤ 3) ∧ (∀ q, 1 ≤ q → q ≤ 365 → rc q = ch (q - 1)) ∧ (∀ j, j < 60 → fy j ≤ 3000) ∧ (∀ j, j < 60 → fp j ≤ 1000000) ∧ (∀ j, j < 3001 → ff j ≤ 999) ∧ (∀ j, j < 3001 → gg j ≤ 999) ∧ ff 0 = 0 ∧
  (∀ i, i < 60 → ¬ fy i = 0 → ¬ ff (fy i) = 0 ∧ fp i = 1000 * ff (fy i) + gg (fy i)) ∧ (∀ i j, i < 60 → j < 60 → fy i = fy j → ¬ fy i = 0 → i = j) ∧ (∀ y, 1 ≤ y → y ≤ 3000 → ¬ ff y = 0 → ∃ i, i < 60 ∧ fy i = y) ∧ wr = pm_cc fy 60
section LINK
variable {mk wr : Nat} {ch fy fp rc ff gg : Nat → Nat}
theorem pi_mk (h : pz_inv mk wr ch fy fp rc ff gg) : mk < 8 := h.1
theorem pi_wr (h : pz_inv mk wr ch fy fp rc ff gg) : wr ≤ 60 := h.2.1
theorem pi_ch (h : pz_inv mk wr ch fy fp rc ff gg) : ∀ j, j < 365 → ch j ≤ 3 := h.2.2.1
theorem pi_rc (h : pz_inv mk wr ch fy fp rc ff gg) : ∀ j, j < 366 → rc j ≤ 3 := h.2.2.2.1
theorem pi_rq (h : pz_inv mk wr ch fy fp rc ff gg) : ∀ q, 1 ≤ q → q ≤ 365 → rc q = ch (q - 1) := h.2.2.2.2.1
theorem pi_fy (h : pz_inv mk wr ch fy fp rc ff gg) : ∀ j, j < 60 → fy j ≤ 3000 := h.2.2.2.2.2.1
theorem pi_fp (h : pz_inv mk wr ch fy fp rc ff gg) : ∀ j, j < 60 → fp j ≤ 1000000 := h.2.2.2.2.2.2.1
theorem pi_ff (h : pz_inv mk wr ch fy fp rc ff gg) : ∀ j, j < 3001 → ff j ≤ 999 := h.2.2.2.2.2.2.2.1
theorem pi_gg (h : pz_inv mk wr ch fy fp rc ff gg) : ∀ j, j < 3001 → gg j ≤ 999 := h.2.2.2.2.2.2.2.2.1
theorem pi_f0 (h : pz_inv mk wr ch fy fp rc ff gg) : ff 0 = 0 := h.2.2.2.2.2.2.2.2.2.1
theorem pi_sl (h : pz_inv mk wr ch fy fp rc ff gg) : ∀ i, i < 60 → ¬ fy i = 0 → ¬ ff (fy i) = 0 ∧ fp i = 1000 * ff (fy i) + gg (fy i) := h.2.2.2.2.2.2.2.2.2.2.1
theorem pi_in (h : pz_inv mk wr ch fy fp rc ff gg) : ∀ i j, i < 60 → j < 60 → fy i = fy j → ¬ fy i = 0 → i = j := h.2.2.2.2.2.2.2.2.2.2.2.1
theorem pi_ex (h : pz_inv mk wr ch fy fp rc ff gg) : ∀ y, 1 ≤ y → y ≤ 3000 → ¬ ff y = 0 → ∃ i, i < 60 ∧ fy i = y := h.2.2.2.2.2.2.2.2.2.2.2.2.1
theorem pi_cc (h : pz_inv mk wr ch fy fp rc ff gg) : wr = pm_cc fy 60 := h.2.2.2.2.2.2.2.2.2.2.2.2.2
theorem pi_market (h : pz_inv mk wr ch fy fp rc ff gg) {m2 : Nat} (h2 : m2 < 8) : pz_inv m2 wr ch fy fp rc ff gg := ⟨h2, h.2⟩
theorem pi_char (h : pz_inv mk wr ch fy fp rc ff gg) {q v : Nat} (h1 : 1 ≤ q) (h2 : q ≤ 365) (h3 : v ≤ 3) : pz_inv mk wr (pz_u ch (q - 1) v) fy fp (pz_u rc q v) ff gg := by
  obtain ⟨a1, a2, a3, a4, a5, a6⟩ := h
  refine ⟨a1, a2, pm_u_b a3 h3, pm_u_b a4 h3, fun z hz1 hz2 => ?_, a6⟩
  by_cases e : z = q
  · subst e
    rw [pz_u_same, pz_u_same]
  · rw [pz_u_ne e, pz_u_ne (by omega)]
    exact a5 z hz1 hz2
theorem pi_here (h : pz_inv mk wr ch fy fp rc ff gg) {y : Nat} (hy : 1 ≤ y) (hy2 : y ≤ 3000) : ¬ ff y = 0 ↔ ∃ i, i < 60 ∧ fy i = y := by
  constructor
  · exact pi_ex h y hy hy2
  · rintro ⟨i, h1, rfl⟩
    exact (pi_sl h i h1 (by omega)).1
theorem pi_set (h : pz_inv mk wr ch fy fp rc ff gg) {y fa se i : Nat} (hy : 1 ≤ y) (hy2 : y ≤ 3000) (h1 : 1 ≤ fa) (h2 : fa ≤ 999) (h4 : se ≤ 999) (hi : i < 60) (hs : fy i = y ∨ ((∀ j, j < 60 → ¬ fy j = y) ∧ fy i = 0)) :
    pz_inv mk (wr + (if ff y = 0 then 1 else 0)) ch (pz_u fy i y) (pz_u fp i (1000 * fa + se)) rc (pz_u ff y fa) (pz_u gg y se) ∧ pm_cc (pz_u fy i y) 60 = wr + (if ff y = 0 then 1 else 0) := by
  have hcc : pm_cc (pz_u fy i y) 60 = wr + (if ff y = 0 then 1 else 0) := by
    have h5 := pm_cc_u fy y hi
    rw [if_neg (show ¬ y = 0 by omega), ← pi_cc h] at h5
    rcases hs with hs | ⟨hs1, hs2⟩
    · have h6 := (pi_here h hy hy2).mpr ⟨i, hi, hs⟩
      rw [if_neg h6]
      rw [if_neg (by omega)] at h5
      omega
    · have h6 : ff y = 0 := Classical.byContradiction fun h9 => by
        obtain ⟨j, g1, g2⟩ := (pi_here h hy hy2).mp h9
        exact hs1 j g1 g2
      rw [if_pos h6]
      rw [if_pos hs2] at h5
      omega
  have hne : ∀ k, k < 60 → ¬ k = i → ¬ fy k = y := by
    intro k hk hki
    rcases hs with hs | ⟨hs1, hs2⟩
    · intro h9
      exact hki (pi_in h k i hk hi (h9.trans hs.symm) (by omega))
    · exact hs1 k hk
  refine ⟨⟨pi_mk h, ?_, pi_ch h, pi_rc h, pi_rq h, pm_u_b (pi_fy h) hy2, pm_u_b (pi_fp h) (by omega), pm_u_b (pi_ff h) h2, pm_u_b (pi_gg h) h4, ?_, ?_, ?_, ?_, hcc.symm⟩, hcc⟩
  · have h7 := pm_cc_b (pz_u fy i y) 60
    omega
  · rw [pz_u_ne (by omega)]
    exact pi_f0 h
  · intro k hk hk0
    by_cases e : k = i
    · subst e
      rw [pz_u_same, pz_u_same, pz_u_same, pz_u_same]
      exact ⟨by omega, rfl⟩
    · have h8 := hne k hk e
      rw [pz_u_ne e] at hk0 ⊢
      rw [pz_u_ne e, pz_u_ne h8, pz_u_ne h8]
      exact pi_sl h k hk hk0
  · intro k j hk hj he hk0
    by_cases e : k = i
    · by_cases e2 : j = i
      · omega
      · subst e
        rw [pz_u_same, pz_u_ne e2] at he
        exact absurd he.symm (hne j hj e2)
    · by_cases e2 : j = i
      · subst e2
        rw [pz_u_same, pz_u_ne e] at he
        exact absurd he (hne k hk e)
      · rw [pz_u_ne e, pz_u_ne e2] at he
        rw [pz_u_ne e] at hk0
        exact pi_in h k j hk hj he hk0
  · intro z hz1 hz2 hz0
    by_cases e : z = y
    · subst e
      exact ⟨i, hi, pz_u_same⟩
    · rw [pz_u_ne e] at hz0
      obtain ⟨k, g1, g2⟩ := pi_ex h z hz1 hz2 hz0
      refine ⟨k, g1, ?_⟩
      rw [pz_u_ne (fun e2 => ?_)]
      · exact g2
      · subst e2
        rcases hs with hs | ⟨hs1, hs2⟩
        · exact e (g2.symm.trans hs)
        · omega
theorem pi_strike (h : pz_inv mk wr ch fy fp rc ff gg) {y i : Nat} (hy : 1 ≤ y) (hy2 : y ≤ 3000) (hi : i < 60) (hs : fy i = y) :
    pz_inv mk (wr - 1) ch (pz_u fy i 0) fp rc (pz_u ff y 0) (pz_u gg y 0) ∧ pm_cc (pz_u fy i 0) 60 = wr - 1 ∧ 1 ≤ wr := by
  have h5 := pm_cc_u fy 0 hi
  rw [if_pos rfl, if_neg (show ¬ fy i = 0 by omega), ← pi_cc h] at h5
  have hcc : pm_cc (pz_u fy i 0) 60 = wr - 1 := by omega
  have hw := pi_wr h
  refine ⟨⟨pi_mk h, by omega, pi_ch h, pi_rc h, pi_rq h, pm_u_b (pi_fy h) (by omega), pi_fp h, pm_u_b (pi_ff h) (by omega), pm_u_b (pi_gg h) (by omega), ?_, ?_, ?_, ?_, hcc.symm⟩, hcc, by omega⟩
  · rw [pz_u_ne (by omega)]
    exact pi_f0 h
  · intro k hk hk0
    by_cases e : k = i
    · subst e
      rw [pz_u_same] at hk0
      exact absurd rfl hk0
    · rw [pz_u_ne e] at hk0 ⊢
      have h8 : ¬ fy k = y := fun h9 => e (pi_in h k i hk hi (h9.trans hs.symm) hk0)
      rw [pz_u_ne h8, pz_u_ne h8]
      exact pi_sl h k hk hk0
  · intro k j hk hj he hk0
    by_cases e : k = i
    · subst e
      rw [pz_u_same] at hk0
      exact absurd rfl hk0
    · rw [pz_u_ne e] at hk0 he
      by_cases e2 : j = i
      · subst e2
        rw [pz_u_same] at he
        exact absurd he hk0
      · rw [pz_u_ne e2] at he
        exact pi_in h k j hk hj he hk0
  · intro z hz1 hz2 hz0
    by_cases e : z = y
    · subst e
      rw [pz_u_same] at hz0
      exact absurd rfl hz0
    · rw [pz_u_ne e] at hz0
      obtain ⟨k, g1, g2⟩ := pi_ex h z hz1 hz2 hz0
      refine ⟨k, g1, ?_⟩
      rw [pz_u_ne (fun e2 => ?_)]
      · exact g2
      · subst e2
        exact e (g2.symm.trans hs)
theorem pi_of (h : pz_inv mk wr ch fy fp rc ff gg) {y : Nat} (hy : 1 ≤ y) (hy2 : y ≤ 3000) {r b : Int32} (h1 : (r = (-1) ∧ ∀ j, j < 60 → ¬ fy j = y) ∨ ∃ i, i < 60 ∧ r = nI (fp i) ∧ fy i = y) (h2 : (b = (-1 : Int32) ∧ ff y = 0) ∨ (b = nI (1000 * ff y + gg y) ∧ ¬ ff y = 0)) : r = b := by
  rcases h1 with ⟨a1, a2⟩ | ⟨i, a1, a2, a3⟩
  · rcases h2 with ⟨b1, b2⟩ | ⟨b1, b2⟩
    · rw [a1, b1]
    · obtain ⟨i, c1, c2⟩ := pi_ex h y hy hy2 b2
      exact absurd c2 (a2 i c1)
  · have h3 := pi_sl h i a1 (by omega)
    rw [a3] at h3
    rcases h2 with ⟨b1, b2⟩ | ⟨b1, b2⟩
    · exact absurd b2 h3.1
    · rw [a2, b1, h3.2]
theorem pi_after (h : pz_inv mk wr ch fy fp rc ff gg) {y : Nat} (hy : 1 ≤ y) (hy2 : y ≤ 3000) {r b : Int32} (h1 : (r = (-1) ∧ ∀ j, j < 60 → fy j ≤ y → fy j = 0) ∨ ∃ i, i < 60 ∧ ¬ fy i = 0 ∧ fy i ≤ y ∧ r = nI (y - fy i) ∧ ∀ j, j < 60 → fy j ≤ y → fy j ≤ fy i)
    (h2 : (b = (-1 : Int32) ∧ ∀ j, 1 ≤ j → j ≤ y → ff j = 0) ∨ ∃ i, 1 ≤ i ∧ i ≤ y ∧ ¬ ff i = 0 ∧ b = nI (y - i) ∧ ∀ j, i < j → j ≤ y → ff j = 0) : r = b := by
  rcases h1 with ⟨a1, a2⟩ | ⟨i, a1, a2, a3, a4, a5⟩
  · rcases h2 with ⟨b1, b2⟩ | ⟨j, b1, b2, b3, b4, b5⟩
    · rw [a1, b1]
    · obtain ⟨k, c1, c2⟩ := pi_ex h j b1 (by omega) b3
      have h3 := a2 k c1 (by omega)
      omega
  · have h3 := (pi_sl h i a1 a2).1
    rcases h2 with ⟨b1, b2⟩ | ⟨j, b1, b2, b3, b4, b5⟩
    · exact absurd (b2 (fy i) (by omega) a3) h3
    · obtain ⟨k, c1, c2⟩ := pi_ex h j b1 (by omega) b3
      have h4 := a5 k c1 (by omega)
      have h5 : ¬ j < fy i := fun h9 => h3 (b5 (fy i) h9 a3)
      have h6 : fy i = j := by omega
      rw [a4, b4, h6]
theorem pi_MN (h : pz_inv mk wr ch fy fp rc ff gg) {x1 x2 : Int32} : ∀ j, j < 3001 → pm_M x1 x2 fy fp 60 j = pm_N x1 x2 ff gg j := by
  intro j hj
  rw [Bool.eq_iff_iff, pm_M_iff, pm_N_iff]
  have hdm : ∀ i, i < 60 → ¬ fy i = 0 → fp i / 1000 = ff (fy i) ∧ fp i % 1000 = gg (fy i) := fun i hi h0 => by
    have e := (pi_sl h i hi h0).2
    have e2 := pi_gg h (fy i) (by have := pi_fy h i hi; omega)
    omega
  constructor
  · rintro ⟨i, h1, h2, h3, h4⟩
    have e := hdm i h1 (by omega)
    have e3 := (pi_sl h i h1 (by omega)).1
    unfold pm_mt at h4
    rw [e.1, e.2, h2] at h4
    rw [h2] at e3
    exact ⟨by omega, by omega, h4⟩
  · rintro ⟨h1, h2, h3⟩
    obtain ⟨i, g1, g2⟩ := pi_ex h j h1 (by omega) (by omega)
    have e := hdm i g1 (by omega)
    rw [g2] at e
    refine ⟨i, g1, g2, by omega, ?_⟩
    unfold pm_mt
    rw [e.1, e.2]
    exact h3
theorem pi_vt (h : pz_inv mk wr ch fy fp rc ff gg) (n : Nat) : pm_vt (pm_sh ch) mk n ↔ pm_vt rc mk n := by
  have h1 := pm_pl_b n
  have h2 := pi_rq h (pm_pl n) h1.1 h1.2
  show (pm_sh ch (pm_pl n) = 2 ∧ _) ↔ (rc (pm_pl n) = 2 ∧ _)
  rw [h2]
theorem pi_vc (h : pz_inv mk wr ch fy fp rc ff gg) (a : Nat) : ∀ n, pm_vc (pm_sh ch) mk a n = pm_vc rc mk a n
  | 0 => rfl
  | n + 1 => by
    have h1 := pi_vc h a n
    have h2 := pi_vt h (a + n)
    by_cases h3 : pm_vt rc mk (a + n)
    · rw [pm_vc_1 h3, pm_vc_1 (h2.mpr h3), h1]
    · rw [pm_vc_0 h3, pm_vc_0 (fun h9 => h3 (h2.mp h9)), h1]
theorem pm_pl_366 : ∀ r, r < 1461 → pm_pl (r + 366) = pm_pl r ∨ pm_pl (r + 366) = pm_pl (r + 1) := by decide +kernel
theorem pi_court (h : pz_inv mk wr ch fy fp rc ff gg) {n : Nat} {r b : Int32} (h1 : (∃ d, n ≤ d ∧ d < 1095750 ∧ d < n + 366 ∧ r = nI d ∧ (ch (pm_pl d - 1) = 0 ∨ ch (pm_pl d - 1) = 2) ∧ ∀ z, n ≤ z → z < d → ¬ (ch (pm_pl z - 1) = 0 ∨ ch (pm_pl z - 1) = 2)) ∨ (r = (-1) ∧ ∀ z, n ≤ z → z < 1095750 → z < n + 366 → ¬ (ch (pm_pl z - 1) = 0 ∨ ch (pm_pl z - 1) = 2)))
    (h2 : (∃ d, n ≤ d ∧ d < 1095750 ∧ d < n + 367 ∧ b = nI d ∧ (rc (pm_pl d) = 0 ∨ rc (pm_pl d) = 2) ∧ ∀ z, n ≤ z → z < d → ¬ (rc (pm_pl z) = 0 ∨ rc (pm_pl z) = 2)) ∨ (b = (-1 : Int32) ∧ ∀ z, n ≤ z → z < 1095750 → z < n + 367 → ¬ (rc (pm_pl z) = 0 ∨ rc (pm_pl z) = 2))) : r = b := by
  have e : ∀ z, rc (pm_pl z) = ch (pm_pl z - 1) := fun z => pi_rq h (pm_pl z) (pm_pl_b z).1 (pm_pl_b z).2
  have e2 : pm_pl (n + 366) = pm_pl n ∨ pm_pl (n + 366) = pm_pl (n + 1) := by
    obtain ⟨q, r, hr, rfl⟩ := pm_q n
    have h3 := pm_pl_366 r hr
    have p : ∀ x, pm_pl (1461 * q + x) = pm_pl x := fun x => by
      obtain ⟨q2, r2, hr2, rfl⟩ := pm_q x
      rw [show 1461 * q + (1461 * q2 + r2) = 1461 * (q + q2) + r2 by omega, pm_pl_q _ _ hr2, pm_pl_q _ _ hr2]
    rw [show 1461 * q + r + 366 = 1461 * q + (r + 366) by omega, show 1461 * q + r + 1 = 1461 * q + (r + 1) by omega, p, p, p]
    exact h3
  rcases h1 with ⟨d, a1, a2, a3, a4, a5, a6⟩ | ⟨a1, a2⟩
  · rcases h2 with ⟨f, b1, b2, b3, b4, b5, b6⟩ | ⟨b1, b2⟩
    · rw [e] at b5
      have c1 : ¬ f < d := fun h9 => a6 f b1 h9 b5
      have c2 : ¬ d < f := fun h9 => b6 d a1 h9 (by rw [e]; exact a5)
      have c3 : d = f := by omega
      rw [a4, b4, c3]
    · exact absurd (by rw [e]; exact a5) (b2 d a1 a2 (by omega))
  · rcases h2 with ⟨f, b1, b2, b3, b4, b5, b6⟩ | ⟨b1, b2⟩
    · rw [e] at b5
      rcases Nat.lt_or_ge f (n + 366) with c1 | c1
      · exact absurd b5 (a2 f b1 b2 c1)
      · have c2 : f = n + 366 := by omega
        subst c2
        rcases e2 with e2 | e2
        · rw [e2] at b5
          exact absurd b5 (a2 n (by omega) (by omega) (by omega))
        · rw [e2] at b5
          exact absurd b5 (a2 (n + 1) (by omega) (by omega) (by omega))
    · rw [a1, b1]
end LINK
