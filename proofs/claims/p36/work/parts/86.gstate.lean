/-! ===== the law's state, and what its deeds make of it ===== -/
theorem pm_cc_c {F G : Nat → Nat} : ∀ {n : Nat}, (∀ j, j < n → F j = G j) → pm_cc F n = pm_cc G n
  | 0, _ => rfl
  | n + 1, h => by
    rw [pm_cc, pm_cc, pm_cc_c (fun j hj => h j (by omega)), h n (by omega)]
theorem pm_cc_u (F : Nat → Nat) (v : Nat) {i : Nat} : ∀ {n : Nat}, i < n → pm_cc (pz_u F i v) n + (if F i = 0 then 0 else 1) = pm_cc F n + (if v = 0 then 0 else 1)
  | 0, h => absurd h (Nat.not_lt_zero i)
  | n + 1, h => by
    rw [pm_cc, pm_cc]
    by_cases h1 : i = n
    · subst h1
      have h2 : pm_cc (pz_u F i v) i = pm_cc F i := pm_cc_c (fun j hj => pz_u_ne (by omega))
      rw [h2, pz_u_same]
      omega
    · have h2 := pm_cc_u F v (i := i) (n := n) (by omega)
      rw [pz_u_ne (F := F) (k := i) (v := v) (j := n) (by omega)]
      omega
theorem pm_cc_full {F : Nat → Nat} : ∀ {n : Nat}, (∀ i, i < n → ¬ F i = 0) → pm_cc F n = n
  | 0, _ => rfl
  | n + 1, h => by
    rw [pm_cc_1 (h n (by omega)), pm_cc_full (fun i hi => h i (by omega))]
theorem pm_cc_gap {F : Nat → Nat} : ∀ {n : Nat}, (∃ i, i < n ∧ F i = 0) → pm_cc F n < n
  | 0, ⟨i, h, _⟩ => absurd h (Nat.not_lt_zero i)
  | n + 1, ⟨i, h, e⟩ => by
    by_cases h1 : i = n
    · subst h1
      rw [pm_cc_0 e]
      have h2 := pm_cc_b F i
      omega
    · have h2 := pm_cc_gap (F := F) (n := n) ⟨i, by omega, e⟩
      rw [pm_cc]
      split <;> omega
theorem pm_cc_pos {F : Nat → Nat} : ∀ {n : Nat}, (∃ i, i < n ∧ ¬ F i = 0) → 1 ≤ pm_cc F n
  | 0, ⟨i, h, _⟩ => absurd h (Nat.not_lt_zero i)
  | n + 1, ⟨i, h, e⟩ => by
    by_cases h1 : i = n
    · subst h1
      rw [pm_cc_1 e]
      omega
    · have h2 := pm_cc_pos (F := F) (n := n) ⟨i, by omega, e⟩
      rw [pm_cc]
      split <;> omega
def pg_I (mk wr : Nat) (ch fy fp : Nat → Nat) : Prop := mk < 8 ∧ (∀ j, j < 365 → ch j ≤ 3) ∧ (∀ j, j < 60 → fy j ≤ 3000) ∧ (∀ j, j < 60 → fp j ≤ 1000000) ∧ (∀ j, j < 60 → ¬ fy j = 0 → 1 ≤ fp j) ∧ (∀ i j, i < 60 → j < 60 → ¬ fy i = 0 → fy i = fy j → i = j) ∧ wr = pm_cc fy 60
theorem pg_I_0 {ch : Nat → Nat} (h : ∀ j, j < 365 → ch j = pq_c 12 j) : pg_I 0 0 ch pq_z pq_z :=
  ⟨by decide, fun j hj => by rw [h j hj]; exact Nat.le_trans (pq_cb 12 j) (by decide), fun _ _ => Nat.zero_le _, fun _ _ => Nat.zero_le _, fun j _ h => absurd rfl h, fun i j _ _ h => absurd rfl h, by decide +kernel⟩
theorem pg_u_at {F : Nat → Nat} {i v j : Nat} (h : j = i) : pz_u F i v j = v := by rw [h, pz_u_same]
/-- consuls written into the slot i -/
theorem pg_I_set {mk wr : Nat} {ch fy fp : Nat → Nat} {i y fa se : Nat} (h : pg_I mk wr ch fy fp) (hi : i < 60) (hy : 1 ≤ y) (hy2 : y ≤ 3000) (hf : 1 ≤ fa) (hf2 : fa ≤ 4) (hs : se ≤ 4) (hc : fy i = y ∨ ((∀ j, j < 60 → ¬ fy j = y) ∧ fy i = 0)) :
    pg_I mk (pm_cc (pz_u fy i y) 60) ch (pz_u fy i y) (pz_u fp i (1000 * fa + se)) ∧ (fy i = y → pm_cc (pz_u fy i y) 60 = wr) ∧ (fy i = 0 → pm_cc (pz_u fy i y) 60 = wr + 1) := by
  obtain ⟨h1, h2, h3, h4, h5, h6, h7⟩ := h
  have hu := pm_cc_u fy y (i := i) (n := 60) hi
  rw [if_neg (by omega : ¬ y = 0)] at hu
  refine ⟨⟨h1, h2, fun j hj => ?_, fun j hj => ?_, fun j hj hn => ?_, fun a b ha hb hn he => ?_, rfl⟩, fun e => ?_, fun e => ?_⟩
  · unfold pz_u
    split
    · exact hy2
    · exact h3 j hj
  · unfold pz_u
    split
    · omega
    · exact h4 j hj
  · unfold pz_u at hn ⊢
    by_cases e : j = i
    · rw [if_pos e]; omega
    · rw [if_neg e] at hn ⊢
      exact h5 j hj hn
  · unfold pz_u at hn he
    by_cases ea : a = i
    · by_cases eb : b = i
      · omega
      · rw [if_pos ea, if_neg eb] at he
        rcases hc with hc | ⟨hc, -⟩
        · have h9 := h6 b i hb hi (by omega) (by omega)
          omega
        · exact absurd he.symm (hc b hb)
    · by_cases eb : b = i
      · rw [if_neg ea, if_pos eb] at he
        rcases hc with hc | ⟨hc, -⟩
        · have h9 := h6 a i ha hi (by omega) (by omega)
          omega
        · exact absurd he (hc a ha)
      · rw [if_neg ea] at hn
        rw [if_neg ea, if_neg eb] at he
        exact h6 a b ha hb hn he
  · rw [if_neg (by omega)] at hu
    omega
  · rw [if_pos e] at hu
    omega
/-- the consuls in the slot i struck -/
theorem pg_I_str {mk wr : Nat} {ch fy fp : Nat → Nat} {i y : Nat} (h : pg_I mk wr ch fy fp) (hi : i < 60) (hy : 1 ≤ y) (e : fy i = y) :
    pg_I mk (pm_cc (pz_u fy i 0) 60) ch (pz_u fy i 0) fp ∧ pm_cc (pz_u fy i 0) 60 + 1 = wr ∧ ∀ j, j < 60 → ¬ pz_u fy i 0 j = y := by
  obtain ⟨h1, h2, h3, h4, h5, h6, h7⟩ := h
  have hu := pm_cc_u fy 0 (i := i) (n := 60) hi
  rw [if_neg (by omega : ¬ fy i = 0), if_pos rfl] at hu
  refine ⟨⟨h1, h2, fun j hj => ?_, h4, fun j hj hn => ?_, fun a b ha hb hn he => ?_, rfl⟩, by omega, fun j hj h9 => ?_⟩
  · unfold pz_u
    split
    · exact Nat.zero_le _
    · exact h3 j hj
  · unfold pz_u at hn
    by_cases ej : j = i
    · rw [if_pos ej] at hn; exact absurd rfl hn
    · rw [if_neg ej] at hn; exact h5 j hj hn
  · unfold pz_u at hn he
    by_cases ea : a = i
    · rw [if_pos ea] at hn; exact absurd rfl hn
    · rw [if_neg ea] at hn
      by_cases eb : b = i
      · rw [if_neg ea, if_pos eb] at he; exact absurd he hn
      · rw [if_neg ea, if_neg eb] at he
        exact h6 a b ha hb hn he
  · unfold pz_u at h9
    by_cases ej : j = i
    · rw [if_pos ej] at h9; omega
    · rw [if_neg ej] at h9
      exact ej (h6 j i hj hi (by omega) (by omega))
theorem pg_I_ch {mk wr : Nat} {ch fy fp : Nat → Nat} {k v : Nat} (h : pg_I mk wr ch fy fp) (hv : v ≤ 3) : pg_I mk wr (pz_u ch k v) fy fp := by
  obtain ⟨h1, h2, h3⟩ := h
  refine ⟨h1, fun j hj => ?_, h3⟩
  unfold pz_u
  split
  · exact hv
  · exact h2 j hj
theorem pg_I_mk {mk wr : Nat} {ch fy fp : Nat → Nat} {k : Nat} (h : pg_I mk wr ch fy fp) (hv : k < 8) : pg_I k wr ch fy fp := ⟨hv, h.2⟩
theorem pg_pl1 {q : Nat} (h1 : 1 ≤ q) (h2 : q ≤ 365) : pm_pl (q - 1) = q := by
  unfold pm_pl pm_lw
  omega
theorem pg_ln29 {z : Nat} : pm_ln (4 * z) 2 = 29 := by
  unfold pm_ln
  rw [if_pos (by omega)]
theorem pg_db31 (y : Nat) : pm_db y 2 = 31 := by
  unfold pm_db
  rw [if_neg (by omega)]
  decide
theorem pg_about {z d : Nat} (hz : 1 ≤ z) (hz2 : z ≤ 750) (hd : d ≤ 25) : pm_fd (4 * z) + pm_db (4 * z) 2 + d - 1 < 1095749 := by
  rw [pg_db31, pm_fd_e]
  omega
theorem pg_and (x : Int32) (k : Nat) {m : Int32} (hm : m.toBitVec.toNat = 2 ^ k - 1) : ∃ z : Nat, x &&& m = nI z ∧ z < 2 ^ k := by
  refine ⟨x.toBitVec.toNat % 2 ^ k, ?_, Nat.mod_lt _ (Nat.two_pow_pos k)⟩
  apply Int32.toBitVec_inj.1
  show x.toBitVec &&& m.toBitVec = BitVec.ofNat 32 (x.toBitVec.toNat % 2 ^ k)
  apply BitVec.eq_of_toNat_eq
  rw [BitVec.toNat_and, hm, Nat.and_two_pow_sub_one_eq_mod, BitVec.toNat_ofNat]
  have h1 := x.toBitVec.isLt
  have h2 := Nat.mod_le x.toBitVec.toNat (2 ^ k)
  rw [Nat.mod_eq_of_lt (a := x.toBitVec.toNat % 2 ^ k) (by omega)]
