section PZ5
set_option maxHeartbeats 4000000 in
set_option maxRecDepth 100000 in
theorem k_X0_consulsOf (l : Launch) (D : va_G) (h0 ac ay ap : Nat) (cyI : ClassId) (ts : List (ClassId × FieldType)) (mk : Nat) (ch fy fp : Nat → Nat) (y : Nat) (hy0 : 1 ≤ y) (hy1 : y ≤ 3000) (hfy : ∀ j, j < 60 → fy j ≤ 3000) (hfp : ∀ j, j < 60 → fp j ≤ 1000000) : pz_R l yX0_consulsOf wsX0_consulsOf ({ frames := 1, cells := 0, slots := 0, locals := 22 } : Room) D ((cyI, .int) :: ts) [.ref h0, .int (nI y)] [(h0, .inr (0, [.ref ac, .ref ay, .ref ap, .int (nI mk)])), (ac, .inl (cyI, 365, .inl (pz_ar ch))), (ay, .inl (cyI, 60, .inl (pz_ar fy))), (ap, .inl (cyI, 60, .inl (pz_ar fp)))] (fun r => (r = (-1) ∧ ∀ j, j < 60 → ¬ fy j = y) ∨ ∃ i, i < 60 ∧ r = nI (fp i) ∧ fy i = y) := by
  refine pz_R_of (cc := cX0_consulsOf) (maxL := 3) (ty := .int) (own := RX0) (by decide) rfl rfl (Nat.le_of_ble_eq_true rfl) ?_
  intro p e s m below meth c A ls Q hx hb hml hown hts hK hP hD hS hA hl hQ
  have hl : lv_has ls 3 [(0, .ref h0), (1, .int (nI y))] := hl
  have hin : ∀ w ∈ u_ws RX0 TX0 4, w ∈ wsX0_consulsOf := by decide +kernel
  refine lv_iload_n hx hb dX0_consulsOf_0 rfl (lv_at hl 1 rfl) ?_
  refine pz_SRV (rest := []) ⟨hx, hb, hml, hown, hts⟩ (k_X0_checkYear l D ((cyI, .int) :: ts) y (by omega) (by omega)) (va_cwS 1 hts gX0_consulsOf_X0_checkYear rfl rfl rfl (by decide +kernel) ⟨Nat.le_of_ble_eq_true rfl, Nat.le_of_ble_eq_true rfl⟩) hK hP hD hS hA [] rfl rfl rfl rfl hl.1 rfl (lv_room (Nat.le_of_ble_eq_true rfl)) dX0_consulsOf_1 ⟨Nat.le_of_ble_eq_true rfl, Nat.le_of_ble_eq_true rfl⟩ (fun H locs hP hS => ?_)
  refine lv_aload_n hx hb dX0_consulsOf_4 rfl (lv_at hl 0 rfl) ?_
  refine lv_iload_n hx hb dX0_consulsOf_5 rfl (lv_at hl 1 rfl) ?_
  refine pz_VR (rest := []) ⟨hx, hb, hml, hown, hts⟩ (k_X0_slotOf l D h0 ac ay ap cyI ts mk ch fy fp y (by omega) (by exact hfy)) (cwV 1 hts gX0_consulsOf_X0_slotOf rfl rfl rfl (by decide +kernel) ⟨Nat.le_of_ble_eq_true rfl, Nat.le_of_ble_eq_true rfl⟩) hK hP hD hS hA [0, 1, 2, 3] rfl rfl rfl 0 0 rfl rfl rfl hl.1 rfl (lv_room (Nat.le_of_ble_eq_true rfl)) dX0_consulsOf_6 ⟨Nat.le_of_ble_eq_true rfl, Nat.le_of_ble_eq_true rfl⟩ (fun r H locs hr hP hS => ?_)
  have hr_2 : (fun r => (r = (-1) ∧ ∀ j, j < 60 → ¬ fy j = y) ∨ (∃ i, i < 60 ∧ r = nI i ∧ fy i = y ∧ ∀ j, j < i → ¬ fy j = y)) r := hr
  obtain ⟨r_2, er_2⟩ : ∃ z, z = r := ⟨_, rfl⟩
  subst er_2
  rcases hr_2 with ⟨hz_2, hno_2⟩ | ⟨i_2, hi_2, hz_2, he_2, hf_2⟩
  · -- absent
    subst hz_2
    have em_2 : (-1 : Int32).toInt = (-1) := by decide
    refine lv_istore_n (lv' := [(2, .int (-1 : Int32)), (0, .ref h0), (1, .int (nI y))]) hx hb dX0_consulsOf_9 rfl hl (by decide) rfl (fun ls hl => ?_)
    refine lv_iload_n hx hb dX0_consulsOf_10 rfl (lv_at hl 0 rfl) ?_
    refine pz_SR (rest := []) ⟨hx, hb, hml, hown, hts⟩ (k_X0_isSlot l D ((cyI, .int) :: ts) (-1 : Int32) ) (va_cwS 1 hts gX0_consulsOf_X0_isSlot rfl rfl rfl (by decide +kernel) ⟨Nat.le_of_ble_eq_true rfl, Nat.le_of_ble_eq_true rfl⟩) hK hP hD hS hA [] rfl rfl rfl rfl hl.1 rfl (lv_room (Nat.le_of_ble_eq_true rfl)) dX0_consulsOf_11 ⟨Nat.le_of_ble_eq_true rfl, Nat.le_of_ble_eq_true rfl⟩ (fun r H locs hr hP hS => ?_)
    obtain rfl : r = (pz_b (0 ≤ (-1 : Int32).toInt ∧ (-1 : Int32).toInt < 60)) := hr
    refine pb_if_eq (tgt := 26) hx hb dX0_consulsOf_14 (by decide) (fun c_4 => ?_) (fun c_4 => ?_)
    · -- 14 yes
      refine lv_iconst (v := (-1 : Int32)) hx hb dX0_consulsOf_26 (by decide) ?_
      exact hQ _ _ _ _ _ dX0_consulsOf_27 rfl (by first | exact Or.inl ⟨rfl, by assumption⟩ | exact Or.inr ⟨_, by assumption, rfl, by assumption⟩) hS
    · -- 14 no
      exfalso; omega
  · -- a slot
    subst hz_2
    have ei_2 : (nI i_2).toInt = (i_2 : Int) := nI_toInt (by omega)
    refine lv_istore_n (lv' := [(2, .int (nI i_2)), (0, .ref h0), (1, .int (nI y))]) hx hb dX0_consulsOf_9 rfl hl (by decide) rfl (fun ls hl => ?_)
    refine lv_iload_n hx hb dX0_consulsOf_10 rfl (lv_at hl 0 rfl) ?_
    refine pz_SR (rest := []) ⟨hx, hb, hml, hown, hts⟩ (k_X0_isSlot l D ((cyI, .int) :: ts) (nI i_2) ) (va_cwS 1 hts gX0_consulsOf_X0_isSlot rfl rfl rfl (by decide +kernel) ⟨Nat.le_of_ble_eq_true rfl, Nat.le_of_ble_eq_true rfl⟩) hK hP hD hS hA [] rfl rfl rfl rfl hl.1 rfl (lv_room (Nat.le_of_ble_eq_true rfl)) dX0_consulsOf_11 ⟨Nat.le_of_ble_eq_true rfl, Nat.le_of_ble_eq_true rfl⟩ (fun r H locs hr hP hS => ?_)
    obtain rfl : r = (pz_b (0 ≤ (nI i_2).toInt ∧ (nI i_2).toInt < 60)) := hr
    refine pb_if_eq (tgt := 26) hx hb dX0_consulsOf_14 (by decide) (fun c_6 => ?_) (fun c_6 => ?_)
    · -- 14 yes
      exfalso; omega
    · -- 14 no
      refine lv_aload_n hx hb dX0_consulsOf_17 rfl (lv_at hl 1 rfl) ?_
      refine va_get (D := D) (ci := 0) (v := .ref ap) (C := RX0) (T := TX0) (N := 4) hx hb hts hin hown hK hP 0 rfl rfl 2 (by decide) (hts (.fieldLink RX0 16 "RomanCalendar" "consulPairs" "[I") (by decide +kernel)) (fun _ h9 => h9) rfl dX0_consulsOf_18 ?_
      refine lv_iload_n hx hb dX0_consulsOf_21 rfl (lv_at hl 0 rfl) ?_
      refine pn_iald hx hb hK hP 3 0 rfl rfl (by omega) (by decide) dX0_consulsOf_22 ?_
      refine lv_goto (tgt := 27) hx hb dX0_consulsOf_23 (by decide) ?_
      exact hQ _ _ _ _ _ dX0_consulsOf_27 rfl (by first | exact Or.inl ⟨rfl, by assumption⟩ | exact Or.inr ⟨_, by assumption, rfl, by assumption⟩) hS
set_option maxHeartbeats 4000000 in
set_option maxRecDepth 100000 in
theorem k_X0_afterConsuls (l : Launch) (D : va_G) (h0 ac ay ap : Nat) (cyI : ClassId) (ts : List (ClassId × FieldType)) (mk : Nat) (ch fy fp : Nat → Nat) (y : Nat) (hy0 : 1 ≤ y) (hy1 : y ≤ 3000) (hfy : ∀ j, j < 60 → fy j ≤ 3000) : pz_R l yX0_afterConsuls wsX0_afterConsuls ({ frames := 1, cells := 0, slots := 0, locals := 20 } : Room) D ((cyI, .int) :: ts) [.ref h0, .int (nI y)] [(h0, .inr (0, [.ref ac, .ref ay, .ref ap, .int (nI mk)])), (ac, .inl (cyI, 365, .inl (pz_ar ch))), (ay, .inl (cyI, 60, .inl (pz_ar fy))), (ap, .inl (cyI, 60, .inl (pz_ar fp)))] (fun r => (r = (-1) ∧ ∀ j, j < 60 → fy j ≤ y → fy j = 0) ∨ ∃ i, i < 60 ∧ ¬ fy i = 0 ∧ fy i ≤ y ∧ r = nI (y - fy i) ∧ ∀ j, j < 60 → fy j ≤ y → fy j ≤ fy i) := by
  refine pz_R_of (cc := cX0_afterConsuls) (maxL := 5) (ty := .int) (own := RX0) (by decide) rfl rfl (Nat.le_of_ble_eq_true rfl) ?_
  intro p e s m below meth c A ls Q hx hb hml hown hts hK hP hD hS hA hl hQ
  have hl : lv_has ls 5 [(0, .ref h0), (1, .int (nI y))] := hl
  have hin : ∀ w ∈ u_ws RX0 TX0 4, w ∈ wsX0_afterConsuls := by decide +kernel
  refine lv_iload_n hx hb dX0_afterConsuls_0 rfl (lv_at hl 1 rfl) ?_
  refine pz_SRV (rest := []) ⟨hx, hb, hml, hown, hts⟩ (k_X0_checkYear l D ((cyI, .int) :: ts) y (by omega) (by omega)) (va_cwS 1 hts gX0_afterConsuls_X0_checkYear rfl rfl rfl (by decide +kernel) ⟨Nat.le_of_ble_eq_true rfl, Nat.le_of_ble_eq_true rfl⟩) hK hP hD hS hA [] rfl rfl rfl rfl hl.1 rfl (lv_room (Nat.le_of_ble_eq_true rfl)) dX0_afterConsuls_1 ⟨Nat.le_of_ble_eq_true rfl, Nat.le_of_ble_eq_true rfl⟩ (fun H locs hP hS => ?_)
  refine lv_iconst (v := nI 0) hx hb dX0_afterConsuls_4 (by decide) ?_
  refine lv_istore_n (lv' := [(2, .int (nI 0)), (0, .ref h0), (1, .int (nI y))]) hx hb dX0_afterConsuls_5 rfl hl (by decide) rfl (fun ls hl => ?_)
  refine lv_iconst (v := nI 0) hx hb dX0_afterConsuls_6 (by decide) ?_
  refine lv_istore_n (lv' := [(3, .int (nI 0)), (2, .int (nI 0)), (0, .ref h0), (1, .int (nI y))]) hx hb dX0_afterConsuls_7 rfl hl (by decide) rfl (fun ls hl => ?_)
  have LP8 : ∀ (N : Nat) (k : Nat) (lt : Nat) (H : Heap) (locs : List Loc) (ls : Array Slot), 60 - k < N → (k ≤ 60) → (lt ≤ y) → (lt = 0 ∨ ∃ i, i < k ∧ fy i = lt) → (∀ j, j < k → fy j ≤ y → fy j ≤ lt) → va_P D vwCl [(h0, .inr (0, [.ref ac, .ref ay, .ref ap, .int (nI mk)])), (ac, .inl (cyI, 365, .inl (pz_ar ch))), (ay, .inl (cyI, 60, .inl (pz_ar fy))), (ap, .inl (cyI, 60, .inl (pz_ar fp)))] H → va_S A s.heap H locs → lv_has ls 5 [(2, .int (nI lt)), (3, .int (nI k)), (0, .ref h0), (1, .int (nI y))] → W p l e ({ frames := 1, cells := 0, slots := 0, locals := 20 } : Room) s m ([.ref h0, .int (nI y)] : List Value).toArray below meth c H locs 0 0 Q (F0 m 8 ls []) := by
    intro N
    induction N with
    | zero => intro k lt H locs ls hN; exact absurd hN (Nat.not_lt_zero _)
    | succ N ih =>
      intro k lt H locs ls hN hi8_0 hi8_1 hi8_2 hi8_3 hP hS hl
      have ih8 := ih
      refine lv_iload_n hx hb dX0_afterConsuls_8 rfl (lv_at hl 1 rfl) ?_
      refine lv_bipush (v := nI 60) hx hb dX0_afterConsuls_9 (by decide) ?_
      refine pn_icmp_ge (tgt := 43) hx hb (by omega) (by omega) dX0_afterConsuls_11 (by decide) (fun c_2 => ?_) (fun c_2 => ?_)
      · -- 11 yes
        refine lv_iload_n hx hb dX0_afterConsuls_43 rfl (lv_at hl 0 rfl) ?_
        refine pn_if_ne (tgt := 51) hx hb (by omega) dX0_afterConsuls_44 (by decide) (fun c_3 => ?_) (fun c_3 => ?_)
        · -- 44 yes
          refine lv_iload_n hx hb dX0_afterConsuls_51 rfl (lv_at hl 3 rfl) ?_
          refine lv_iload_n hx hb dX0_afterConsuls_52 rfl (lv_at hl 0 rfl) ?_
          refine pn_isub hx hb (by omega) dX0_afterConsuls_53 ?_
          exact hQ _ _ _ _ _ dX0_afterConsuls_54 rfl (by first | exact Or.inl ⟨rfl, fun j h1 h2 => by have h3 := hi8_3 j (by omega) h2; omega⟩ | (rcases hi8_2 with h9 | ⟨i, h8, h9⟩; (exact absurd h9 (by assumption)); (exact Or.inr ⟨i, by omega, by omega, by omega, by rw [h9], fun j h1 h2 => by have h3 := hi8_3 j (by omega) h2; omega⟩))) hS
        · -- 44 no
          refine lv_iconst (v := (-1 : Int32)) hx hb dX0_afterConsuls_47 (by decide) ?_
          refine lv_goto (tgt := 54) hx hb dX0_afterConsuls_48 (by decide) ?_
          exact hQ _ _ _ _ _ dX0_afterConsuls_54 rfl (by first | exact Or.inl ⟨rfl, fun j h1 h2 => by have h3 := hi8_3 j (by omega) h2; omega⟩ | (rcases hi8_2 with h9 | ⟨i, h8, h9⟩; (exact absurd h9 (by assumption)); (exact Or.inr ⟨i, by omega, by omega, by omega, by rw [h9], fun j h1 h2 => by have h3 := hi8_3 j (by omega) h2; omega⟩))) hS
      · -- 11 no
        refine lv_aload_n hx hb dX0_afterConsuls_14 rfl (lv_at hl 2 rfl) ?_
        refine va_get (D := D) (ci := 0) (v := .ref ay) (C := RX0) (T := TX0) (N := 4) hx hb hts hin hown hK hP 0 rfl rfl 1 (by decide) (hts (.fieldLink RX0 13 "RomanCalendar" "consulYears" "[I") (by decide +kernel)) (fun _ h9 => h9) rfl dX0_afterConsuls_15 ?_
        refine lv_iload_n hx hb dX0_afterConsuls_18 rfl (lv_at hl 1 rfl) ?_
        refine pn_iald hx hb hK hP 2 0 rfl rfl (by omega) (by decide) dX0_afterConsuls_19 ?_
        have hb_0 := hfy k (by omega)
        refine lv_istore (lv' := [(4, .int (nI (fy k))), (2, .int (nI lt)), (3, .int (nI k)), (0, .ref h0), (1, .int (nI y))]) hx hb dX0_afterConsuls_20 hl (by decide) rfl (fun ls hl => ?_)
        refine lv_iload hx hb dX0_afterConsuls_22 (lv_at hl 0 rfl) ?_
        refine lv_iload_n hx hb dX0_afterConsuls_24 rfl (lv_at hl 4 rfl) ?_
        refine pn_icmp_gt (tgt := 37) hx hb (by omega) (by omega) dX0_afterConsuls_25 (by decide) (fun c_4 => ?_) (fun c_4 => ?_)
        · -- 25 yes
          refine lv_iinc (v := (nI (k + 1))) (lv' := [(3, .int (nI (k + 1))), (4, .int (nI (fy k))), (2, .int (nI lt)), (0, .ref h0), (1, .int (nI y))]) hx hb dX0_afterConsuls_37 hl (k := 2) rfl (by exact nI_add _ 1) (by decide) rfl (fun ls hl => ?_)
          refine lv_goto (tgt := 8) hx hb dX0_afterConsuls_40 (by decide) ?_
          exact ih8 (k + 1) lt _ _ _ (by omega) (by omega) (by omega) (by first | exact Or.inl rfl | exact Or.inr ⟨k, by omega, rfl⟩ | (rcases hi8_2 with h9 | ⟨i, h8, h9⟩; (exact Or.inl h9); (exact Or.inr ⟨i, by omega, h9⟩))) (by first | (intro j h1; exfalso; omega) | (intro j h1 h2; rcases pm_lt1 h1 with h3 | h3; (have h4 := hi8_3 j h3 h2; omega); (subst h3; omega))) hP hS (lv_sub hl [2, 0, 3, 4] rfl)
        · -- 25 no
          refine lv_iload hx hb dX0_afterConsuls_28 (lv_at hl 0 rfl) ?_
          refine lv_iload_n hx hb dX0_afterConsuls_30 rfl (lv_at hl 1 rfl) ?_
          refine pn_icmp_le (tgt := 37) hx hb (by omega) (by omega) dX0_afterConsuls_31 (by decide) (fun c_5 => ?_) (fun c_5 => ?_)
          · -- 31 yes
            refine lv_iinc (v := (nI (k + 1))) (lv' := [(3, .int (nI (k + 1))), (4, .int (nI (fy k))), (2, .int (nI lt)), (0, .ref h0), (1, .int (nI y))]) hx hb dX0_afterConsuls_37 hl (k := 2) rfl (by exact nI_add _ 1) (by decide) rfl (fun ls hl => ?_)
            refine lv_goto (tgt := 8) hx hb dX0_afterConsuls_40 (by decide) ?_
            exact ih8 (k + 1) lt _ _ _ (by omega) (by omega) (by omega) (by first | exact Or.inl rfl | exact Or.inr ⟨k, by omega, rfl⟩ | (rcases hi8_2 with h9 | ⟨i, h8, h9⟩; (exact Or.inl h9); (exact Or.inr ⟨i, by omega, h9⟩))) (by first | (intro j h1; exfalso; omega) | (intro j h1 h2; rcases pm_lt1 h1 with h3 | h3; (have h4 := hi8_3 j h3 h2; omega); (subst h3; omega))) hP hS (lv_sub hl [2, 0, 3, 4] rfl)
          · -- 31 no
            refine lv_iload hx hb dX0_afterConsuls_34 (lv_at hl 0 rfl) ?_
            refine lv_istore_n (lv' := [(2, .int (nI (fy k))), (4, .int (nI (fy k))), (3, .int (nI k)), (0, .ref h0), (1, .int (nI y))]) hx hb dX0_afterConsuls_36 rfl hl (by decide) rfl (fun ls hl => ?_)
            refine lv_iinc (v := (nI (k + 1))) (lv' := [(3, .int (nI (k + 1))), (2, .int (nI (fy k))), (4, .int (nI (fy k))), (0, .ref h0), (1, .int (nI y))]) hx hb dX0_afterConsuls_37 hl (k := 2) rfl (by exact nI_add _ 1) (by decide) rfl (fun ls hl => ?_)
            refine lv_goto (tgt := 8) hx hb dX0_afterConsuls_40 (by decide) ?_
            exact ih8 (k + 1) (fy k) _ _ _ (by omega) (by omega) (by omega) (by first | exact Or.inl rfl | exact Or.inr ⟨k, by omega, rfl⟩ | (rcases hi8_2 with h9 | ⟨i, h8, h9⟩; (exact Or.inl h9); (exact Or.inr ⟨i, by omega, h9⟩))) (by first | (intro j h1; exfalso; omega) | (intro j h1 h2; rcases pm_lt1 h1 with h3 | h3; (have h4 := hi8_3 j h3 h2; omega); (subst h3; omega))) hP hS (lv_sub hl [1, 0, 3, 4] rfl)
  exact LP8 _ 0 0 _ _ _ (Nat.lt_succ_self _) (by omega) (by omega) (by first | exact Or.inl rfl | exact Or.inr ⟨k, by omega, rfl⟩ | (rcases hi8_2 with h9 | ⟨i, h8, h9⟩; (exact Or.inl h9); (exact Or.inr ⟨i, by omega, h9⟩))) (by first | (intro j h1; exfalso; omega) | (intro j h1 h2; rcases pm_lt1 h1 with h3 | h3; (have h4 := hi8_3 j h3 h2; omega); (subst h3; omega))) hP hS (lv_sub hl [1, 0, 2, 3] rfl)
set_option maxHeartbeats 4000000 in
set_option maxRecDepth 100000 in
theorem k_X0_nextYearOfPair (l : Launch) (D : va_G) (h0 ac ay ap : Nat) (cyI : ClassId) (ts : List (ClassId × FieldType)) (mk : Nat) (ch fy fp : Nat → Nat) (x1 x2 : Int32) (bh : Nat) (hy0 : bh ≤ 3000) (hfy : ∀ j, j < 60 → fy j ≤ 3000) (hfp : ∀ j, j < 60 → fp j ≤ 1000000) : pz_R l yX0_nextYearOfPair wsX0_nextYearOfPair ({ frames := 1, cells := 0, slots := 0, locals := 24 } : Room) D ((cyI, .int) :: ts) [.ref h0, .int x1, .int x2, .int (nI bh)] [(h0, .inr (0, [.ref ac, .ref ay, .ref ap, .int (nI mk)])), (ac, .inl (cyI, 365, .inl (pz_ar ch))), (ay, .inl (cyI, 60, .inl (pz_ar fy))), (ap, .inl (cyI, 60, .inl (pz_ar fp)))] (fun r => pm_nx x1 x2 fy fp bh 60 r) := by
  refine pz_R_of (cc := cX0_nextYearOfPair) (maxL := 8) (ty := .int) (own := RX0) (by decide) rfl rfl (Nat.le_of_ble_eq_true rfl) ?_
  intro p e s m below meth c A ls Q hx hb hml hown hts hK hP hD hS hA hl hQ
  have hl : lv_has ls 8 [(0, .ref h0), (1, .int x1), (2, .int x2), (3, .int (nI bh))] := hl
  have hin : ∀ w ∈ u_ws RX0 TX0 4, w ∈ wsX0_nextYearOfPair := by decide +kernel
  refine lv_iconst (v := (-1 : Int32)) hx hb dX0_nextYearOfPair_0 (by decide) ?_
  refine lv_istore (lv' := [(4, .int (-1 : Int32)), (0, .ref h0), (1, .int x1), (2, .int x2), (3, .int (nI bh))]) hx hb dX0_nextYearOfPair_1 hl (by decide) rfl (fun ls hl => ?_)
  refine lv_iconst (v := nI 0) hx hb dX0_nextYearOfPair_3 (by decide) ?_
  refine lv_istore (lv' := [(5, .int (nI 0)), (4, .int (-1 : Int32)), (0, .ref h0), (1, .int x1), (2, .int x2), (3, .int (nI bh))]) hx hb dX0_nextYearOfPair_4 hl (by decide) rfl (fun ls hl => ?_)
  have LP6 : ∀ (N : Nat) (k : Nat) (nx : Int32) (H : Heap) (locs : List Loc) (ls : Array Slot), 60 - k < N → (k ≤ 60) → (pm_nx x1 x2 fy fp bh k nx) → va_P D vwCl [(h0, .inr (0, [.ref ac, .ref ay, .ref ap, .int (nI mk)])), (ac, .inl (cyI, 365, .inl (pz_ar ch))), (ay, .inl (cyI, 60, .inl (pz_ar fy))), (ap, .inl (cyI, 60, .inl (pz_ar fp)))] H → va_S A s.heap H locs → lv_has ls 8 [(4, .int nx), (5, .int (nI k)), (0, .ref h0), (1, .int x1), (2, .int x2), (3, .int (nI bh))] → W p l e ({ frames := 1, cells := 0, slots := 0, locals := 24 } : Room) s m ([.ref h0, .int x1, .int x2, .int (nI bh)] : List Value).toArray below meth c H locs 0 0 Q (F0 m 6 ls []) := by
    intro N
    induction N with
    | zero => intro k nx H locs ls hN; exact absurd hN (Nat.not_lt_zero _)
    | succ N ih =>
      intro k nx H locs ls hN hi6_0 hi6_1 hP hS hl
      have ih6 := ih
      refine lv_iload hx hb dX0_nextYearOfPair_6 (lv_at hl 1 rfl) ?_
      refine lv_bipush (v := nI 60) hx hb dX0_nextYearOfPair_8 (by decide) ?_
      refine pn_icmp_ge (tgt := 78) hx hb (by omega) (by omega) dX0_nextYearOfPair_10 (by decide) (fun c_1 => ?_) (fun c_1 => ?_)
      · -- 10 yes
        refine lv_iload hx hb dX0_nextYearOfPair_78 (lv_at hl 0 rfl) ?_
        exact hQ _ _ _ _ _ dX0_nextYearOfPair_80 rfl (by (have h9 : k = 60 := by omega); subst h9; exact hi6_1) hS
      · -- 10 no
        refine lv_aload_n hx hb dX0_nextYearOfPair_13 rfl (lv_at hl 2 rfl) ?_
        refine va_get (D := D) (ci := 0) (v := .ref ay) (C := RX0) (T := TX0) (N := 4) hx hb hts hin hown hK hP 0 rfl rfl 1 (by decide) (hts (.fieldLink RX0 13 "RomanCalendar" "consulYears" "[I") (by decide +kernel)) (fun _ h9 => h9) rfl dX0_nextYearOfPair_14 ?_
        refine lv_iload hx hb dX0_nextYearOfPair_17 (lv_at hl 1 rfl) ?_
        refine pn_iald hx hb hK hP 2 0 rfl rfl (by omega) (by decide) dX0_nextYearOfPair_19 ?_
        have hb_0 := hfy k (by omega)
        refine lv_istore (lv' := [(6, .int (nI (fy k))), (4, .int nx), (5, .int (nI k)), (0, .ref h0), (1, .int x1), (2, .int x2), (3, .int (nI bh))]) hx hb dX0_nextYearOfPair_20 hl (by decide) rfl (fun ls hl => ?_)
        refine lv_iload hx hb dX0_nextYearOfPair_22 (lv_at hl 1 rfl) ?_
        refine lv_iconst (v := (-1 : Int32)) hx hb dX0_nextYearOfPair_24 (by decide) ?_
        refine pi_icmp_eq (tgt := 35) (a := (nx).toInt) (b := (-1)) hx hb rfl (by decide) dX0_nextYearOfPair_25 (by decide) (fun c_2 => ?_) (fun c_2 => ?_)
        · -- 25 yes
          refine lv_iconst (v := nI 1) hx hb dX0_nextYearOfPair_35 (by decide) ?_
          refine lv_goto (tgt := 40) hx hb dX0_nextYearOfPair_36 (by decide) ?_
          refine lv_istore (lv' := [(7, .int (nI 1)), (6, .int (nI (fy k))), (4, .int nx), (5, .int (nI k)), (0, .ref h0), (1, .int x1), (2, .int x2), (3, .int (nI bh))]) hx hb dX0_nextYearOfPair_40 hl (by decide) rfl (fun ls hl => ?_)
          refine lv_iload hx hb dX0_nextYearOfPair_42 (lv_at hl 1 rfl) ?_
          refine lv_iload_n hx hb dX0_nextYearOfPair_44 rfl (lv_at hl 7 rfl) ?_
          refine pn_icmp_le (tgt := 72) hx hb (by omega) (by omega) dX0_nextYearOfPair_45 (by decide) (fun c_3 => ?_) (fun c_3 => ?_)
          · -- 45 yes
            refine lv_iinc (v := (nI (k + 1))) (lv' := [(5, .int (nI (k + 1))), (7, .int (nI 1)), (6, .int (nI (fy k))), (4, .int nx), (0, .ref h0), (1, .int x1), (2, .int x2), (3, .int (nI bh))]) hx hb dX0_nextYearOfPair_72 hl (k := 3) rfl (by exact nI_add _ 1) (by decide) rfl (fun ls hl => ?_)
            refine lv_goto (tgt := 6) hx hb dX0_nextYearOfPair_75 (by decide) ?_
            exact ih6 (k + 1) nx _ _ _ (by omega) (by omega) (by first | exact pm_nx_0 | exact pm_nx_skip hi6_1 (by omega) | exact pm_nx_skip hi6_1 (fun h9 => absurd h9.2 (by assumption)) | exact pm_nx_late hi6_1 (by omega) hfy (by assumption) (by omega) | exact pm_nx_new hi6_1 (by omega) hfy (by omega) (by omega) (by assumption)) hP hS (lv_sub hl [3, 0, 4, 5, 6, 7] rfl)
          · -- 45 no
            refine lv_iload hx hb dX0_nextYearOfPair_48 (lv_at hl 0 rfl) ?_
            refine pn_if_eq (tgt := 72) hx hb (by omega) dX0_nextYearOfPair_50 (by decide) (fun c_4 => absurd c_4 (by decide)) (fun _ => ?_)
            refine lv_aload_n hx hb dX0_nextYearOfPair_53 rfl (lv_at hl 4 rfl) ?_
            refine va_get (D := D) (ci := 0) (v := .ref ap) (C := RX0) (T := TX0) (N := 4) hx hb hts hin hown hK hP 0 rfl rfl 2 (by decide) (hts (.fieldLink RX0 16 "RomanCalendar" "consulPairs" "[I") (by decide +kernel)) (fun _ h9 => h9) rfl dX0_nextYearOfPair_54 ?_
            refine lv_iload hx hb dX0_nextYearOfPair_57 (lv_at hl 3 rfl) ?_
            refine pn_iald hx hb hK hP 3 0 rfl rfl (by omega) (by decide) dX0_nextYearOfPair_59 ?_
            refine lv_iload_n hx hb dX0_nextYearOfPair_60 rfl (lv_at hl 5 rfl) ?_
            refine lv_iload_n hx hb dX0_nextYearOfPair_61 rfl (lv_at hl 6 rfl) ?_
            refine pz_SR (rest := []) ⟨hx, hb, hml, hown, hts⟩ (k_X0_isPair l D ((cyI, .int) :: ts) (fp k) x1 x2 (by exact hfp k (by omega))) (va_cwS 3 hts gX0_nextYearOfPair_X0_isPair rfl rfl rfl (by decide +kernel) ⟨Nat.le_of_ble_eq_true rfl, Nat.le_of_ble_eq_true rfl⟩) hK hP hD hS hA [] rfl rfl rfl rfl hl.1 rfl (lv_room (Nat.le_of_ble_eq_true rfl)) dX0_nextYearOfPair_62 ⟨Nat.le_of_ble_eq_true rfl, Nat.le_of_ble_eq_true rfl⟩ (fun r H locs hr hP hS => ?_)
            obtain rfl : r = (pz_b (pm_mt x1 x2 (fp k))) := hr
            refine pb_if_eq (tgt := 72) hx hb dX0_nextYearOfPair_65 (by decide) (fun c_6 => ?_) (fun c_6 => ?_)
            · -- 65 yes
              refine lv_iinc (v := (nI (k + 1))) (lv' := [(5, .int (nI (k + 1))), (7, .int (nI 1)), (6, .int (nI (fy k))), (4, .int nx), (0, .ref h0), (1, .int x1), (2, .int x2), (3, .int (nI bh))]) hx hb dX0_nextYearOfPair_72 hl (k := 3) rfl (by exact nI_add _ 1) (by decide) rfl (fun ls hl => ?_)
              refine lv_goto (tgt := 6) hx hb dX0_nextYearOfPair_75 (by decide) ?_
              exact ih6 (k + 1) nx _ _ _ (by omega) (by omega) (by first | exact pm_nx_0 | exact pm_nx_skip hi6_1 (by omega) | exact pm_nx_skip hi6_1 (fun h9 => absurd h9.2 (by assumption)) | exact pm_nx_late hi6_1 (by omega) hfy (by assumption) (by omega) | exact pm_nx_new hi6_1 (by omega) hfy (by omega) (by omega) (by assumption)) hP hS (lv_sub hl [3, 0, 4, 5, 6, 7] rfl)
            · -- 65 no
              refine lv_iload hx hb dX0_nextYearOfPair_68 (lv_at hl 1 rfl) ?_
              refine lv_istore (lv' := [(4, .int (nI (fy k))), (7, .int (nI 1)), (6, .int (nI (fy k))), (5, .int (nI k)), (0, .ref h0), (1, .int x1), (2, .int x2), (3, .int (nI bh))]) hx hb dX0_nextYearOfPair_70 hl (by decide) rfl (fun ls hl => ?_)
              refine lv_iinc (v := (nI (k + 1))) (lv' := [(5, .int (nI (k + 1))), (4, .int (nI (fy k))), (7, .int (nI 1)), (6, .int (nI (fy k))), (0, .ref h0), (1, .int x1), (2, .int x2), (3, .int (nI bh))]) hx hb dX0_nextYearOfPair_72 hl (k := 3) rfl (by exact nI_add _ 1) (by decide) rfl (fun ls hl => ?_)
              refine lv_goto (tgt := 6) hx hb dX0_nextYearOfPair_75 (by decide) ?_
              exact ih6 (k + 1) (nI (fy k)) _ _ _ (by omega) (by omega) (by first | exact pm_nx_0 | exact pm_nx_skip hi6_1 (by omega) | exact pm_nx_skip hi6_1 (fun h9 => absurd h9.2 (by assumption)) | exact pm_nx_late hi6_1 (by omega) hfy (by assumption) (by omega) | exact pm_nx_new hi6_1 (by omega) hfy (by omega) (by omega) (by assumption)) hP hS (lv_sub hl [1, 0, 4, 5, 6, 7] rfl)
        · -- 25 no
          refine lv_iload hx hb dX0_nextYearOfPair_28 (lv_at hl 0 rfl) ?_
          refine lv_iload hx hb dX0_nextYearOfPair_30 (lv_at hl 1 rfl) ?_
          refine pi_icmp_ge (tgt := 39) (a := ((fy k : Nat) : Int)) (b := (nx).toInt) hx hb (nI_toInt (by omega)) rfl dX0_nextYearOfPair_32 (by decide) (fun c_7 => ?_) (fun c_7 => ?_)
          · -- 32 yes
            refine lv_iconst (v := nI 0) hx hb dX0_nextYearOfPair_39 (by decide) ?_
            refine lv_istore (lv' := [(7, .int (nI 0)), (6, .int (nI (fy k))), (4, .int nx), (5, .int (nI k)), (0, .ref h0), (1, .int x1), (2, .int x2), (3, .int (nI bh))]) hx hb dX0_nextYearOfPair_40 hl (by decide) rfl (fun ls hl => ?_)
            refine lv_iload hx hb dX0_nextYearOfPair_42 (lv_at hl 1 rfl) ?_
            refine lv_iload_n hx hb dX0_nextYearOfPair_44 rfl (lv_at hl 7 rfl) ?_
            refine pn_icmp_le (tgt := 72) hx hb (by omega) (by omega) dX0_nextYearOfPair_45 (by decide) (fun c_8 => ?_) (fun c_8 => ?_)
            · -- 45 yes
              refine lv_iinc (v := (nI (k + 1))) (lv' := [(5, .int (nI (k + 1))), (7, .int (nI 0)), (6, .int (nI (fy k))), (4, .int nx), (0, .ref h0), (1, .int x1), (2, .int x2), (3, .int (nI bh))]) hx hb dX0_nextYearOfPair_72 hl (k := 3) rfl (by exact nI_add _ 1) (by decide) rfl (fun ls hl => ?_)
              refine lv_goto (tgt := 6) hx hb dX0_nextYearOfPair_75 (by decide) ?_
              exact ih6 (k + 1) nx _ _ _ (by omega) (by omega) (by first | exact pm_nx_0 | exact pm_nx_skip hi6_1 (by omega) | exact pm_nx_skip hi6_1 (fun h9 => absurd h9.2 (by assumption)) | exact pm_nx_late hi6_1 (by omega) hfy (by assumption) (by omega) | exact pm_nx_new hi6_1 (by omega) hfy (by omega) (by omega) (by assumption)) hP hS (lv_sub hl [3, 0, 4, 5, 6, 7] rfl)
            · -- 45 no
              refine lv_iload hx hb dX0_nextYearOfPair_48 (lv_at hl 0 rfl) ?_
              refine pn_if_eq (tgt := 72) hx hb (by omega) dX0_nextYearOfPair_50 (by decide) (fun _ => ?_) (fun c_9 => absurd c_9 (by decide))
              refine lv_iinc (v := (nI (k + 1))) (lv' := [(5, .int (nI (k + 1))), (7, .int (nI 0)), (6, .int (nI (fy k))), (4, .int nx), (0, .ref h0), (1, .int x1), (2, .int x2), (3, .int (nI bh))]) hx hb dX0_nextYearOfPair_72 hl (k := 3) rfl (by exact nI_add _ 1) (by decide) rfl (fun ls hl => ?_)
              refine lv_goto (tgt := 6) hx hb dX0_nextYearOfPair_75 (by decide) ?_
              exact ih6 (k + 1) nx _ _ _ (by omega) (by omega) (by first | exact pm_nx_0 | exact pm_nx_skip hi6_1 (by omega) | exact pm_nx_skip hi6_1 (fun h9 => absurd h9.2 (by assumption)) | exact pm_nx_late hi6_1 (by omega) hfy (by assumption) (by omega) | exact pm_nx_new hi6_1 (by omega) hfy (by omega) (by omega) (by assumption)) hP hS (lv_sub hl [3, 0, 4, 5, 6, 7] rfl)
          · -- 32 no
            refine lv_iconst (v := nI 1) hx hb dX0_nextYearOfPair_35 (by decide) ?_
            refine lv_goto (tgt := 40) hx hb dX0_nextYearOfPair_36 (by decide) ?_
            refine lv_istore (lv' := [(7, .int (nI 1)), (6, .int (nI (fy k))), (4, .int nx), (5, .int (nI k)), (0, .ref h0), (1, .int x1), (2, .int x2), (3, .int (nI bh))]) hx hb dX0_nextYearOfPair_40 hl (by decide) rfl (fun ls hl => ?_)
            refine lv_iload hx hb dX0_nextYearOfPair_42 (lv_at hl 1 rfl) ?_
            refine lv_iload_n hx hb dX0_nextYearOfPair_44 rfl (lv_at hl 7 rfl) ?_
            refine pn_icmp_le (tgt := 72) hx hb (by omega) (by omega) dX0_nextYearOfPair_45 (by decide) (fun c_10 => ?_) (fun c_10 => ?_)
            · -- 45 yes
              refine lv_iinc (v := (nI (k + 1))) (lv' := [(5, .int (nI (k + 1))), (7, .int (nI 1)), (6, .int (nI (fy k))), (4, .int nx), (0, .ref h0), (1, .int x1), (2, .int x2), (3, .int (nI bh))]) hx hb dX0_nextYearOfPair_72 hl (k := 3) rfl (by exact nI_add _ 1) (by decide) rfl (fun ls hl => ?_)
              refine lv_goto (tgt := 6) hx hb dX0_nextYearOfPair_75 (by decide) ?_
              exact ih6 (k + 1) nx _ _ _ (by omega) (by omega) (by first | exact pm_nx_0 | exact pm_nx_skip hi6_1 (by omega) | exact pm_nx_skip hi6_1 (fun h9 => absurd h9.2 (by assumption)) | exact pm_nx_late hi6_1 (by omega) hfy (by assumption) (by omega) | exact pm_nx_new hi6_1 (by omega) hfy (by omega) (by omega) (by assumption)) hP hS (lv_sub hl [3, 0, 4, 5, 6, 7] rfl)
            · -- 45 no
              refine lv_iload hx hb dX0_nextYearOfPair_48 (lv_at hl 0 rfl) ?_
              refine pn_if_eq (tgt := 72) hx hb (by omega) dX0_nextYearOfPair_50 (by decide) (fun c_11 => absurd c_11 (by decide)) (fun _ => ?_)
              refine lv_aload_n hx hb dX0_nextYearOfPair_53 rfl (lv_at hl 4 rfl) ?_
              refine va_get (D := D) (ci := 0) (v := .ref ap) (C := RX0) (T := TX0) (N := 4) hx hb hts hin hown hK hP 0 rfl rfl 2 (by decide) (hts (.fieldLink RX0 16 "RomanCalendar" "consulPairs" "[I") (by decide +kernel)) (fun _ h9 => h9) rfl dX0_nextYearOfPair_54 ?_
              refine lv_iload hx hb dX0_nextYearOfPair_57 (lv_at hl 3 rfl) ?_
              refine pn_iald hx hb hK hP 3 0 rfl rfl (by omega) (by decide) dX0_nextYearOfPair_59 ?_
              refine lv_iload_n hx hb dX0_nextYearOfPair_60 rfl (lv_at hl 5 rfl) ?_
              refine lv_iload_n hx hb dX0_nextYearOfPair_61 rfl (lv_at hl 6 rfl) ?_
              refine pz_SR (rest := []) ⟨hx, hb, hml, hown, hts⟩ (k_X0_isPair l D ((cyI, .int) :: ts) (fp k) x1 x2 (by exact hfp k (by omega))) (va_cwS 3 hts gX0_nextYearOfPair_X0_isPair rfl rfl rfl (by decide +kernel) ⟨Nat.le_of_ble_eq_true rfl, Nat.le_of_ble_eq_true rfl⟩) hK hP hD hS hA [] rfl rfl rfl rfl hl.1 rfl (lv_room (Nat.le_of_ble_eq_true rfl)) dX0_nextYearOfPair_62 ⟨Nat.le_of_ble_eq_true rfl, Nat.le_of_ble_eq_true rfl⟩ (fun r H locs hr hP hS => ?_)
              obtain rfl : r = (pz_b (pm_mt x1 x2 (fp k))) := hr
              refine pb_if_eq (tgt := 72) hx hb dX0_nextYearOfPair_65 (by decide) (fun c_13 => ?_) (fun c_13 => ?_)
              · -- 65 yes
                refine lv_iinc (v := (nI (k + 1))) (lv' := [(5, .int (nI (k + 1))), (7, .int (nI 1)), (6, .int (nI (fy k))), (4, .int nx), (0, .ref h0), (1, .int x1), (2, .int x2), (3, .int (nI bh))]) hx hb dX0_nextYearOfPair_72 hl (k := 3) rfl (by exact nI_add _ 1) (by decide) rfl (fun ls hl => ?_)
                refine lv_goto (tgt := 6) hx hb dX0_nextYearOfPair_75 (by decide) ?_
                exact ih6 (k + 1) nx _ _ _ (by omega) (by omega) (by first | exact pm_nx_0 | exact pm_nx_skip hi6_1 (by omega) | exact pm_nx_skip hi6_1 (fun h9 => absurd h9.2 (by assumption)) | exact pm_nx_late hi6_1 (by omega) hfy (by assumption) (by omega) | exact pm_nx_new hi6_1 (by omega) hfy (by omega) (by omega) (by assumption)) hP hS (lv_sub hl [3, 0, 4, 5, 6, 7] rfl)
              · -- 65 no
                refine lv_iload hx hb dX0_nextYearOfPair_68 (lv_at hl 1 rfl) ?_
                refine lv_istore (lv' := [(4, .int (nI (fy k))), (7, .int (nI 1)), (6, .int (nI (fy k))), (5, .int (nI k)), (0, .ref h0), (1, .int x1), (2, .int x2), (3, .int (nI bh))]) hx hb dX0_nextYearOfPair_70 hl (by decide) rfl (fun ls hl => ?_)
                refine lv_iinc (v := (nI (k + 1))) (lv' := [(5, .int (nI (k + 1))), (4, .int (nI (fy k))), (7, .int (nI 1)), (6, .int (nI (fy k))), (0, .ref h0), (1, .int x1), (2, .int x2), (3, .int (nI bh))]) hx hb dX0_nextYearOfPair_72 hl (k := 3) rfl (by exact nI_add _ 1) (by decide) rfl (fun ls hl => ?_)
                refine lv_goto (tgt := 6) hx hb dX0_nextYearOfPair_75 (by decide) ?_
                exact ih6 (k + 1) (nI (fy k)) _ _ _ (by omega) (by omega) (by first | exact pm_nx_0 | exact pm_nx_skip hi6_1 (by omega) | exact pm_nx_skip hi6_1 (fun h9 => absurd h9.2 (by assumption)) | exact pm_nx_late hi6_1 (by omega) hfy (by assumption) (by omega) | exact pm_nx_new hi6_1 (by omega) hfy (by omega) (by omega) (by assumption)) hP hS (lv_sub hl [1, 0, 4, 5, 6, 7] rfl)
  exact LP6 _ 0 (-1 : Int32) _ _ _ (Nat.lt_succ_self _) (by omega) (by first | exact pm_nx_0 | exact pm_nx_skip hi6_1 (by omega) | exact pm_nx_skip hi6_1 (fun h9 => absurd h9.2 (by assumption)) | exact pm_nx_late hi6_1 (by omega) hfy (by assumption) (by omega) | exact pm_nx_new hi6_1 (by omega) hfy (by omega) (by omega) (by assumption)) hP hS (lv_sub hl [1, 0, 2, 3, 4, 5] rfl)
set_option maxHeartbeats 4000000 in
set_option maxRecDepth 100000 in
theorem k_X0_yearOfConsuls (l : Launch) (D : va_G) (h0 ac ay ap : Nat) (cyI : ClassId) (ts : List (ClassId × FieldType)) (mk : Nat) (ch fy fp : Nat → Nat) (x1 x2 : Int32) (t : Nat) (hy0 : 1 ≤ t) (hy1 : t < 2147483648) (hfy : ∀ j, j < 60 → fy j ≤ 3000) (hfp : ∀ j, j < 60 → fp j ≤ 1000000) : pz_R l yX0_yearOfConsuls wsX0_yearOfConsuls ({ frames := 2, cells := 0, slots := 0, locals := 51 } : Room) D ((cyI, .int) :: ts) [.ref h0, .int x1, .int x2, .int (nI t)] [(h0, .inr (0, [.ref ac, .ref ay, .ref ap, .int (nI mk)])), (ac, .inl (cyI, 365, .inl (pz_ar ch))), (ay, .inl (cyI, 60, .inl (pz_ar fy))), (ap, .inl (cyI, 60, .inl (pz_ar fp)))] (fun r => pm_kth (pm_M x1 x2 fy fp 60) t r) := by
  refine pz_R_of (cc := cX0_yearOfConsuls) (maxL := 6) (ty := .int) (own := RX0) (by decide) rfl rfl (Nat.le_of_ble_eq_true rfl) ?_
  intro p e s m below meth c A ls Q hx hb hml hown hts hK hP hD hS hA hl hQ
  have hl : lv_has ls 6 [(0, .ref h0), (1, .int x1), (2, .int x2), (3, .int (nI t))] := hl
  have hfew := pm_M_few x1 x2 fy fp 3001 60
  refine lv_iload_n hx hb dX0_yearOfConsuls_0 rfl (lv_at hl 3 rfl) ?_
  refine lv_iconst (v := nI 1) hx hb dX0_yearOfConsuls_1 (by decide) ?_
  refine pn_icmp_ge (tgt := 15) hx hb (by omega) (by omega) dX0_yearOfConsuls_2 (by decide) (fun c_1 => ?_) (fun c_1 => ?_)
  · -- 2 yes
    refine lv_iload_n hx hb dX0_yearOfConsuls_15 rfl (lv_at hl 3 rfl) ?_
    refine lv_bipush (v := nI 60) hx hb dX0_yearOfConsuls_16 (by decide) ?_
    refine pn_icmp_le (tgt := 23) hx hb (by omega) (by omega) dX0_yearOfConsuls_18 (by decide) (fun c_2 => ?_) (fun c_2 => ?_)
    · -- 18 yes
      refine lv_aload_n hx hb dX0_yearOfConsuls_23 rfl (lv_at hl 0 rfl) ?_
      refine lv_iload_n hx hb dX0_yearOfConsuls_24 rfl (lv_at hl 1 rfl) ?_
      refine lv_iload_n hx hb dX0_yearOfConsuls_25 rfl (lv_at hl 2 rfl) ?_
      refine lv_iconst (v := nI 0) hx hb dX0_yearOfConsuls_26 (by decide) ?_
      refine pz_VR (rest := []) ⟨hx, hb, hml, hown, hts⟩ (k_X0_nextYearOfPair l D h0 ac ay ap cyI ts mk ch fy fp x1 x2 0 (by omega) (by exact hfy) (by exact hfp)) (cwV 3 hts gX0_yearOfConsuls_X0_nextYearOfPair rfl rfl rfl (by decide +kernel) ⟨Nat.le_of_ble_eq_true rfl, Nat.le_of_ble_eq_true rfl⟩) hK hP hD hS hA [0, 1, 2, 3] rfl rfl rfl 0 0 rfl rfl rfl hl.1 rfl (lv_room (Nat.le_of_ble_eq_true rfl)) dX0_yearOfConsuls_27 ⟨Nat.le_of_ble_eq_true rfl, Nat.le_of_ble_eq_true rfl⟩ (fun r H locs hr hP hS => ?_)
      have hr_3 : (fun r => pm_nx x1 x2 fy fp 0 60 r) r := hr
      obtain ⟨r_3, er_3⟩ : ∃ z, z = r := ⟨_, rfl⟩
      subst er_3
      have hnx0 := hr_3
      refine lv_istore (lv' := [(4, .int r_3), (0, .ref h0), (1, .int x1), (2, .int x2), (3, .int (nI t))]) hx hb dX0_yearOfConsuls_30 hl (by decide) rfl (fun ls hl => ?_)
      refine lv_iconst (v := nI 1) hx hb dX0_yearOfConsuls_32 (by decide) ?_
      refine lv_istore (lv' := [(5, .int (nI 1)), (4, .int r_3), (0, .ref h0), (1, .int x1), (2, .int x2), (3, .int (nI t))]) hx hb dX0_yearOfConsuls_33 hl (by decide) rfl (fun ls hl => ?_)
      have LP35 : ∀ (N : Nat) (j : Nat) (yr : Int32) (H : Heap) (locs : List Loc) (ls : Array Slot), t - j < N → (1 ≤ j) → (j ≤ t) → (pm_kth (pm_M x1 x2 fy fp 60) j yr) → va_P D vwCl [(h0, .inr (0, [.ref ac, .ref ay, .ref ap, .int (nI mk)])), (ac, .inl (cyI, 365, .inl (pz_ar ch))), (ay, .inl (cyI, 60, .inl (pz_ar fy))), (ap, .inl (cyI, 60, .inl (pz_ar fp)))] H → va_S A s.heap H locs → lv_has ls 6 [(4, .int yr), (5, .int (nI j)), (0, .ref h0), (1, .int x1), (2, .int x2), (3, .int (nI t))] → W p l e ({ frames := 2, cells := 0, slots := 0, locals := 51 } : Room) s m ([.ref h0, .int x1, .int x2, .int (nI t)] : List Value).toArray below meth c H locs 0 0 Q (F0 m 35 ls []) := by
        intro N
        induction N with
        | zero => intro j yr H locs ls hN; exact absurd hN (Nat.not_lt_zero _)
        | succ N ih =>
          intro j yr H locs ls hN hi35_0 hi35_1 hi35_2 hP hS hl
          have ih35 := ih
          refine lv_iload hx hb dX0_yearOfConsuls_35 (lv_at hl 1 rfl) ?_
          refine lv_iload_n hx hb dX0_yearOfConsuls_37 rfl (lv_at hl 5 rfl) ?_
          refine pn_icmp_ge (tgt := 63) hx hb (by omega) (by omega) dX0_yearOfConsuls_38 (by decide) (fun c_4 => ?_) (fun c_4 => ?_)
          · -- 38 yes
            refine lv_iload hx hb dX0_yearOfConsuls_63 (lv_at hl 0 rfl) ?_
            exact hQ _ _ _ _ _ dX0_yearOfConsuls_65 rfl (by first | ((have h9 : j = t := by omega); rw [← h9]; exact hi35_2) | (rcases hi35_2 with ⟨h1, h2⟩ | ⟨yy, h1, h2, h3, h4, h5⟩; (exact Or.inl ⟨h1, by omega⟩); (exfalso; subst h1; rw [nI_toInt (by omega)] at *; omega))) hS
          · -- 38 no
            refine lv_iload hx hb dX0_yearOfConsuls_41 (lv_at hl 0 rfl) ?_
            refine lv_iconst (v := (-1 : Int32)) hx hb dX0_yearOfConsuls_43 (by decide) ?_
            refine pi_icmp_eq (tgt := 63) (a := (yr).toInt) (b := (-1)) hx hb rfl (by decide) dX0_yearOfConsuls_44 (by decide) (fun c_5 => ?_) (fun c_5 => ?_)
            · -- 44 yes
              refine lv_iload hx hb dX0_yearOfConsuls_63 (lv_at hl 0 rfl) ?_
              exact hQ _ _ _ _ _ dX0_yearOfConsuls_65 rfl (by first | ((have h9 : j = t := by omega); rw [← h9]; exact hi35_2) | (rcases hi35_2 with ⟨h1, h2⟩ | ⟨yy, h1, h2, h3, h4, h5⟩; (exact Or.inl ⟨h1, by omega⟩); (exfalso; subst h1; rw [nI_toInt (by omega)] at *; omega))) hS
            · -- 44 no
              obtain ⟨yy, hq1, hq2, hq3, hM_0, hc_0⟩ : ∃ yy, yr = nI yy ∧ 1 ≤ yy ∧ yy ≤ 3000 ∧ pm_M x1 x2 fy fp 60 yy = true ∧ pm_cn (pm_M x1 x2 fy fp 60) yy + 1 = j := by
                rcases hi35_2 with ⟨h1, h2⟩ | h1
                · subst h1; exact absurd (show (-1 : Int32).toInt = (-1) by decide) (by assumption)
                · exact h1
              subst hq1
              refine lv_aload_n hx hb dX0_yearOfConsuls_47 rfl (lv_at hl 2 rfl) ?_
              refine lv_iload_n hx hb dX0_yearOfConsuls_48 rfl (lv_at hl 3 rfl) ?_
              refine lv_iload_n hx hb dX0_yearOfConsuls_49 rfl (lv_at hl 4 rfl) ?_
              refine lv_iload hx hb dX0_yearOfConsuls_50 (lv_at hl 0 rfl) ?_
              refine pz_VR (rest := []) ⟨hx, hb, hml, hown, hts⟩ (k_X0_nextYearOfPair l D h0 ac ay ap cyI ts mk ch fy fp x1 x2 yy (by omega) (by exact hfy) (by exact hfp)) (cwV 3 hts gX0_yearOfConsuls_X0_nextYearOfPair rfl rfl rfl (by decide +kernel) ⟨Nat.le_of_ble_eq_true rfl, Nat.le_of_ble_eq_true rfl⟩) hK hP hD hS hA [0, 1, 2, 3] rfl rfl rfl 0 0 rfl rfl rfl hl.1 rfl (lv_room (Nat.le_of_ble_eq_true rfl)) dX0_yearOfConsuls_52 ⟨Nat.le_of_ble_eq_true rfl, Nat.le_of_ble_eq_true rfl⟩ (fun r H locs hr hP hS => ?_)
              have hr_6 : (fun r => pm_nx x1 x2 fy fp yy 60 r) r := hr
              obtain ⟨r_6, er_6⟩ : ∃ z, z = r := ⟨_, rfl⟩
              subst er_6
              have hnx1 := hr_6
              refine lv_istore (lv' := [(4, .int r_6), (5, .int (nI j)), (0, .ref h0), (1, .int x1), (2, .int x2), (3, .int (nI t))]) hx hb dX0_yearOfConsuls_55 hl (by decide) rfl (fun ls hl => ?_)
              refine lv_iinc (v := (nI (j + 1))) (lv' := [(5, .int (nI (j + 1))), (4, .int r_6), (0, .ref h0), (1, .int x1), (2, .int x2), (3, .int (nI t))]) hx hb dX0_yearOfConsuls_57 hl (k := 1) rfl (by exact nI_add _ 1) (by decide) rfl (fun ls hl => ?_)
              refine lv_goto (tgt := 35) hx hb dX0_yearOfConsuls_60 (by decide) ?_
              exact ih35 (j + 1) r_6 _ _ _ (by omega) (by omega) (by omega) (by have h9 := pm_kth_nx hfy (by omega) hnx1; rw [pm_cn_1 hM_0, hc_0] at h9; exact h9) hP hS (lv_sub hl [1, 0, 2, 3, 4, 5] rfl)
      exact LP35 _ 1 r_3 _ _ _ (Nat.lt_succ_self _) (by omega) (by omega) (by exact pm_kth_0 hfy hnx0) hP hS (lv_sub hl [1, 0, 2, 3, 4, 5] rfl)
    · -- 18 no
      refine lv_iconst (v := (-1 : Int32)) hx hb dX0_yearOfConsuls_21 (by decide) ?_
      exact hQ _ _ _ _ _ dX0_yearOfConsuls_22 rfl (by exact Or.inl ⟨rfl, by omega⟩) hS
  · -- 2 no
    exfalso; omega
set_option maxHeartbeats 4000000 in
set_option maxRecDepth 100000 in
theorem k_X0_setConsuls (l : Launch) (D : va_G) (h0 ac ay ap : Nat) (cyI : ClassId) (ts : List (ClassId × FieldType)) (mk : Nat) (ch fy fp : Nat → Nat) (y fa se : Nat) (hy0 : 1 ≤ y) (hy1 : y ≤ 3000) (hy2 : 1 ≤ fa) (hy3 : fa ≤ 999) (hy4 : 1 ≤ se) (hy5 : se ≤ 999) (hy6 : ¬ fa = se) (hfy : ∀ j, j < 60 → fy j ≤ 3000) (hav : (∃ i, i < 60 ∧ fy i = y) ∨ ∃ i, i < 60 ∧ fy i = 0) : pz_I l yX0_setConsuls wsX0_setConsuls ({ frames := 1, cells := 0, slots := 0, locals := 22 } : Room) D ((cyI, .int) :: ts) [.ref h0, .int (nI y), .int (nI fa), .int (nI se)] [(h0, .inr (0, [.ref ac, .ref ay, .ref ap, .int (nI mk)])), (ac, .inl (cyI, 365, .inl (pz_ar ch))), (ay, .inl (cyI, 60, .inl (pz_ar fy))), (ap, .inl (cyI, 60, .inl (pz_ar fp)))] (S := Nat) (fun r i => i < 60 ∧ r = nI (pm_cc (pz_u fy i y) 60) ∧ (fy i = y ∨ ((∀ j, j < 60 → ¬ fy j = y) ∧ fy i = 0))) (fun i => [(h0, .inr (0, [.ref ac, .ref ay, .ref ap, .int (nI mk)])), (ac, .inl (cyI, 365, .inl (pz_ar ch))), (ay, .inl (cyI, 60, .inl (pz_ar (pz_u fy i y)))), (ap, .inl (cyI, 60, .inl (pz_ar (pz_u fp i (1000 * fa + se)))))]) := by
  refine pz_I_of (cc := cX0_setConsuls) (maxL := 5) (ty := .int) (own := RX0) (by decide) rfl rfl (Nat.le_of_ble_eq_true rfl) ?_
  intro p e s m below meth c A ls Q hx hb hml hown hts hK hP hD hS hA hl hQ
  have hl : lv_has ls 5 [(0, .ref h0), (1, .int (nI y)), (2, .int (nI fa)), (3, .int (nI se))] := hl
  have hin : ∀ w ∈ u_ws RX0 TX0 4, w ∈ wsX0_setConsuls := by decide +kernel
  have ef0 : (nI fa).toInt = (fa : Int) := nI_toInt (by omega)
  have es0 : (nI se).toInt = (se : Int) := nI_toInt (by omega)
  refine lv_iload_n hx hb dX0_setConsuls_0 rfl (lv_at hl 1 rfl) ?_
  refine pz_SRV (rest := []) ⟨hx, hb, hml, hown, hts⟩ (k_X0_checkYear l D ((cyI, .int) :: ts) y (by omega) (by omega)) (va_cwS 1 hts gX0_setConsuls_X0_checkYear rfl rfl rfl (by decide +kernel) ⟨Nat.le_of_ble_eq_true rfl, Nat.le_of_ble_eq_true rfl⟩) hK hP (hD.weaken (fun _ _ _ _ => trivial)) hS hA [] rfl rfl rfl rfl hl.1 rfl (lv_room (Nat.le_of_ble_eq_true rfl)) dX0_setConsuls_1 ⟨Nat.le_of_ble_eq_true rfl, Nat.le_of_ble_eq_true rfl⟩ (fun H locs hP hS => ?_)
  refine lv_iload_n hx hb dX0_setConsuls_4 rfl (lv_at hl 2 rfl) ?_
  refine pz_SR (rest := []) ⟨hx, hb, hml, hown, hts⟩ (k_X0_isConsul l D ((cyI, .int) :: ts) (nI fa) ) (va_cwS 1 hts gX0_setConsuls_X0_isConsul rfl rfl rfl (by decide +kernel) ⟨Nat.le_of_ble_eq_true rfl, Nat.le_of_ble_eq_true rfl⟩) hK hP (hD.weaken (fun _ _ _ _ => trivial)) hS hA [] rfl rfl rfl rfl hl.1 rfl (lv_room (Nat.le_of_ble_eq_true rfl)) dX0_setConsuls_5 ⟨Nat.le_of_ble_eq_true rfl, Nat.le_of_ble_eq_true rfl⟩ (fun r H locs hr hP hS => ?_)
  obtain rfl : r = (pz_b (1 ≤ (nI fa).toInt ∧ (nI fa).toInt ≤ 999)) := hr
  refine pb_if_eq (tgt := 23) hx hb dX0_setConsuls_8 (by decide) (fun c_3 => ?_) (fun c_3 => ?_)
  · -- 8 yes
    exfalso; omega
  · -- 8 no
    refine lv_iload_n hx hb dX0_setConsuls_11 rfl (lv_at hl 3 rfl) ?_
    refine pz_SR (rest := []) ⟨hx, hb, hml, hown, hts⟩ (k_X0_isConsul l D ((cyI, .int) :: ts) (nI se) ) (va_cwS 1 hts gX0_setConsuls_X0_isConsul rfl rfl rfl (by decide +kernel) ⟨Nat.le_of_ble_eq_true rfl, Nat.le_of_ble_eq_true rfl⟩) hK hP (hD.weaken (fun _ _ _ _ => trivial)) hS hA [] rfl rfl rfl rfl hl.1 rfl (lv_room (Nat.le_of_ble_eq_true rfl)) dX0_setConsuls_12 ⟨Nat.le_of_ble_eq_true rfl, Nat.le_of_ble_eq_true rfl⟩ (fun r H locs hr hP hS => ?_)
    obtain rfl : r = (pz_b (1 ≤ (nI se).toInt ∧ (nI se).toInt ≤ 999)) := hr
    refine pb_if_eq (tgt := 23) hx hb dX0_setConsuls_15 (by decide) (fun c_5 => ?_) (fun c_5 => ?_)
    · -- 15 yes
      exfalso; omega
    · -- 15 no
      refine lv_iload_n hx hb dX0_setConsuls_18 rfl (lv_at hl 2 rfl) ?_
      refine lv_iload_n hx hb dX0_setConsuls_19 rfl (lv_at hl 3 rfl) ?_
      refine pn_icmp_ne (tgt := 33) hx hb (by omega) (by omega) dX0_setConsuls_20 (by decide) (fun c_6 => ?_) (fun c_6 => ?_)
      · -- 20 yes
        refine lv_aload_n hx hb dX0_setConsuls_33 rfl (lv_at hl 0 rfl) ?_
        refine lv_iload_n hx hb dX0_setConsuls_34 rfl (lv_at hl 1 rfl) ?_
        refine pz_VR (rest := []) ⟨hx, hb, hml, hown, hts⟩ (k_X0_slotOf l D h0 ac ay ap cyI ts mk ch fy fp y (by omega) (by exact hfy)) (cwV 1 hts gX0_setConsuls_X0_slotOf rfl rfl rfl (by decide +kernel) ⟨Nat.le_of_ble_eq_true rfl, Nat.le_of_ble_eq_true rfl⟩) hK hP (hD.weaken (fun _ _ _ _ => trivial)) hS hA [0, 1, 2, 3] rfl rfl rfl 0 0 rfl rfl rfl hl.1 rfl (lv_room (Nat.le_of_ble_eq_true rfl)) dX0_setConsuls_35 ⟨Nat.le_of_ble_eq_true rfl, Nat.le_of_ble_eq_true rfl⟩ (fun r H locs hr hP hS => ?_)
        have hr_7 : (fun r => (r = (-1) ∧ ∀ j, j < 60 → ¬ fy j = y) ∨ (∃ i, i < 60 ∧ r = nI i ∧ fy i = y ∧ ∀ j, j < i → ¬ fy j = y)) r := hr
        obtain ⟨r_7, er_7⟩ : ∃ z, z = r := ⟨_, rfl⟩
        subst er_7
        rcases hr_7 with ⟨hz_7, hno_7⟩ | ⟨i_7, hi_7, hz_7, he_7, hf_7⟩
        · -- absent
          subst hz_7
          have em_7 : (-1 : Int32).toInt = (-1) := by decide
          refine lv_istore (lv' := [(4, .int (-1 : Int32)), (0, .ref h0), (1, .int (nI y)), (2, .int (nI fa)), (3, .int (nI se))]) hx hb dX0_setConsuls_38 hl (by decide) rfl (fun ls hl => ?_)
          refine lv_iload hx hb dX0_setConsuls_40 (lv_at hl 0 rfl) ?_
          refine pz_SR (rest := []) ⟨hx, hb, hml, hown, hts⟩ (k_X0_isSlot l D ((cyI, .int) :: ts) (-1 : Int32) ) (va_cwS 1 hts gX0_setConsuls_X0_isSlot rfl rfl rfl (by decide +kernel) ⟨Nat.le_of_ble_eq_true rfl, Nat.le_of_ble_eq_true rfl⟩) hK hP (hD.weaken (fun _ _ _ _ => trivial)) hS hA [] rfl rfl rfl rfl hl.1 rfl (lv_room (Nat.le_of_ble_eq_true rfl)) dX0_setConsuls_42 ⟨Nat.le_of_ble_eq_true rfl, Nat.le_of_ble_eq_true rfl⟩ (fun r H locs hr hP hS => ?_)
          obtain rfl : r = (pz_b (0 ≤ (-1 : Int32).toInt ∧ (-1 : Int32).toInt < 60)) := hr
          refine pb_if_ne (tgt := 55) hx hb dX0_setConsuls_45 (by decide) (fun c_9 => ?_) (fun c_9 => ?_)
          · -- 45 yes
            exfalso; omega
          · -- 45 no
            refine lv_aload_n hx hb dX0_setConsuls_48 rfl (lv_at hl 1 rfl) ?_
            refine lv_iconst (v := nI 0) hx hb dX0_setConsuls_49 (by decide) ?_
            refine pz_VR (rest := []) ⟨hx, hb, hml, hown, hts⟩ (k_X0_slotOf l D h0 ac ay ap cyI ts mk ch fy fp 0 (by omega) (by exact hfy)) (cwV 1 hts gX0_setConsuls_X0_slotOf rfl rfl rfl (by decide +kernel) ⟨Nat.le_of_ble_eq_true rfl, Nat.le_of_ble_eq_true rfl⟩) hK hP (hD.weaken (fun _ _ _ _ => trivial)) hS hA [0, 1, 2, 3] rfl rfl rfl 0 0 rfl rfl rfl hl.1 rfl (lv_room (Nat.le_of_ble_eq_true rfl)) dX0_setConsuls_50 ⟨Nat.le_of_ble_eq_true rfl, Nat.le_of_ble_eq_true rfl⟩ (fun r H locs hr hP hS => ?_)
            have hr_10 : (fun r => (r = (-1) ∧ ∀ j, j < 60 → ¬ fy j = 0) ∨ (∃ i, i < 60 ∧ r = nI i ∧ fy i = 0 ∧ ∀ j, j < i → ¬ fy j = 0)) r := hr
            obtain ⟨r_10, er_10⟩ : ∃ z, z = r := ⟨_, rfl⟩
            subst er_10
            rcases hr_10 with ⟨hz_10, hno_10⟩ | ⟨i_10, hi_10, hz_10, he_10, hf_10⟩
            · -- absent
              subst hz_10
              have em_10 : (-1 : Int32).toInt = (-1) := by decide
              exfalso; rcases hav with ⟨i, h1, h2⟩ | ⟨i, h1, h2⟩; (exact absurd h2 (by first | exact (by assumption : ∀ j, j < 60 → ¬ fy j = y) i h1)); (exact absurd h2 (hno_10 i h1))
            · -- a slot
              subst hz_10
              have ei_10 : (nI i_10).toInt = (i_10 : Int) := nI_toInt (by omega)
              refine lv_istore (lv' := [(4, .int (nI i_10)), (0, .ref h0), (1, .int (nI y)), (2, .int (nI fa)), (3, .int (nI se))]) hx hb dX0_setConsuls_53 hl (by decide) rfl (fun ls hl => ?_)
              refine lv_iload hx hb dX0_setConsuls_55 (lv_at hl 0 rfl) ?_
              refine pz_SR (rest := []) ⟨hx, hb, hml, hown, hts⟩ (k_X0_isSlot l D ((cyI, .int) :: ts) (nI i_10) ) (va_cwS 1 hts gX0_setConsuls_X0_isSlot rfl rfl rfl (by decide +kernel) ⟨Nat.le_of_ble_eq_true rfl, Nat.le_of_ble_eq_true rfl⟩) hK hP (hD.weaken (fun _ _ _ _ => trivial)) hS hA [] rfl rfl rfl rfl hl.1 rfl (lv_room (Nat.le_of_ble_eq_true rfl)) dX0_setConsuls_57 ⟨Nat.le_of_ble_eq_true rfl, Nat.le_of_ble_eq_true rfl⟩ (fun r H locs hr hP hS => ?_)
              obtain rfl : r = (pz_b (0 ≤ (nI i_10).toInt ∧ (nI i_10).toInt < 60)) := hr
              refine pb_if_ne (tgt := 73) hx hb dX0_setConsuls_60 (by decide) (fun c_12 => ?_) (fun c_12 => ?_)
              · -- 60 yes
                refine lv_aload_n hx hb dX0_setConsuls_73 rfl (lv_at hl 1 rfl) ?_
                refine va_get (D := D) (ci := 0) (v := .ref ay) (C := RX0) (T := TX0) (N := 4) hx hb hts hin hown hK hP 0 rfl rfl 1 (by decide) (hts (.fieldLink RX0 13 "RomanCalendar" "consulYears" "[I") (by decide +kernel)) (fun _ h9 => h9) rfl dX0_setConsuls_74 ?_
                refine lv_iload hx hb dX0_setConsuls_77 (lv_at hl 0 rfl) ?_
                refine lv_iload_n hx hb dX0_setConsuls_79 rfl (lv_at hl 2 rfl) ?_
                refine pn_iast hx hb hK hP hD hS 2 0 rfl rfl (by omega) (by decide) dX0_setConsuls_80 (fun H locs hP hD hS => ?_)
                have hP : va_P D vwCl [(h0, .inr (0, [.ref ac, .ref ay, .ref ap, .int (nI mk)])), (ac, .inl (cyI, 365, .inl (pz_ar ch))), (ay, .inl (cyI, 60, .inl (pz_ar (pz_u fy i_10 y)))), (ap, .inl (cyI, 60, .inl (pz_ar fp)))] H := hP
                have hD : va_D A [(h0, .inr (0, [.ref ac, .ref ay, .ref ap, .int (nI mk)])), (ac, .inl (cyI, 365, .inl (pz_ar ch))), (ay, .inl (cyI, 60, .inl (pz_ar (pz_u fy i_10 y)))), (ap, .inl (cyI, 60, .inl (pz_ar fp)))] := hD
                refine lv_aload_n hx hb dX0_setConsuls_81 rfl (lv_at hl 1 rfl) ?_
                refine va_get (D := D) (ci := 0) (v := .ref ap) (C := RX0) (T := TX0) (N := 4) hx hb hts hin hown hK hP 0 rfl rfl 2 (by decide) (hts (.fieldLink RX0 16 "RomanCalendar" "consulPairs" "[I") (by decide +kernel)) (fun _ h9 => h9) rfl dX0_setConsuls_82 ?_
                refine lv_iload hx hb dX0_setConsuls_85 (lv_at hl 0 rfl) ?_
                refine lv_sipush (v := nI 1000) hx hb dX0_setConsuls_87 (by decide) ?_
                refine lv_iload_n hx hb dX0_setConsuls_90 rfl (lv_at hl 3 rfl) ?_
                refine pn_imul hx hb dX0_setConsuls_91 ?_
                refine lv_iload_n hx hb dX0_setConsuls_92 rfl (lv_at hl 4 rfl) ?_
                refine pn_iadd hx hb dX0_setConsuls_93 ?_
                refine pn_iast hx hb hK hP hD hS 3 0 rfl rfl (by omega) (by decide) dX0_setConsuls_94 (fun H locs hP hD hS => ?_)
                have hP : va_P D vwCl [(h0, .inr (0, [.ref ac, .ref ay, .ref ap, .int (nI mk)])), (ac, .inl (cyI, 365, .inl (pz_ar ch))), (ay, .inl (cyI, 60, .inl (pz_ar (pz_u fy i_10 y)))), (ap, .inl (cyI, 60, .inl (pz_ar (pz_u fp i_10 ((1000 * fa) + se)))))] H := hP
                have hD : va_D A [(h0, .inr (0, [.ref ac, .ref ay, .ref ap, .int (nI mk)])), (ac, .inl (cyI, 365, .inl (pz_ar ch))), (ay, .inl (cyI, 60, .inl (pz_ar (pz_u fy i_10 y)))), (ap, .inl (cyI, 60, .inl (pz_ar (pz_u fp i_10 ((1000 * fa) + se)))))] := hD
                refine lv_aload_n hx hb dX0_setConsuls_95 rfl (lv_at hl 1 rfl) ?_
                refine pz_VR (rest := []) ⟨hx, hb, hml, hown, hts⟩ (k_X0_countConsulYears l D h0 ac ay ap cyI ts mk ch (pz_u fy i_10 y) (pz_u fp i_10 ((1000 * fa) + se))  (by exact pm_u_b hfy (by omega))) (cwV 0 hts gX0_setConsuls_X0_countConsulYears rfl rfl rfl (by decide +kernel) ⟨Nat.le_of_ble_eq_true rfl, Nat.le_of_ble_eq_true rfl⟩) hK hP (hD.weaken (fun _ _ _ _ => trivial)) hS hA [0, 1, 2, 3] rfl rfl rfl 0 0 rfl rfl rfl hl.1 rfl (lv_room (Nat.le_of_ble_eq_true rfl)) dX0_setConsuls_96 ⟨Nat.le_of_ble_eq_true rfl, Nat.le_of_ble_eq_true rfl⟩ (fun r H locs hr hP hS => ?_)
                obtain rfl : r = (nI (pm_cc (pz_u fy i_10 y) 60)) := hr
                exact hQ _ _ _ _ _ i_10 dX0_setConsuls_99 rfl (by exact ⟨by assumption, rfl, by first | exact Or.inl (by assumption) | exact Or.inr ⟨by assumption, by assumption⟩⟩) hP hD hS
              · -- 60 no
                exfalso; omega
        · -- a slot
          subst hz_7
          have ei_7 : (nI i_7).toInt = (i_7 : Int) := nI_toInt (by omega)
          refine lv_istore (lv' := [(4, .int (nI i_7)), (0, .ref h0), (1, .int (nI y)), (2, .int (nI fa)), (3, .int (nI se))]) hx hb dX0_setConsuls_38 hl (by decide) rfl (fun ls hl => ?_)
          refine lv_iload hx hb dX0_setConsuls_40 (lv_at hl 0 rfl) ?_
          refine pz_SR (rest := []) ⟨hx, hb, hml, hown, hts⟩ (k_X0_isSlot l D ((cyI, .int) :: ts) (nI i_7) ) (va_cwS 1 hts gX0_setConsuls_X0_isSlot rfl rfl rfl (by decide +kernel) ⟨Nat.le_of_ble_eq_true rfl, Nat.le_of_ble_eq_true rfl⟩) hK hP (hD.weaken (fun _ _ _ _ => trivial)) hS hA [] rfl rfl rfl rfl hl.1 rfl (lv_room (Nat.le_of_ble_eq_true rfl)) dX0_setConsuls_42 ⟨Nat.le_of_ble_eq_true rfl, Nat.le_of_ble_eq_true rfl⟩ (fun r H locs hr hP hS => ?_)
          obtain rfl : r = (pz_b (0 ≤ (nI i_7).toInt ∧ (nI i_7).toInt < 60)) := hr
          refine pb_if_ne (tgt := 55) hx hb dX0_setConsuls_45 (by decide) (fun c_15 => ?_) (fun c_15 => ?_)
          · -- 45 yes
            refine lv_iload hx hb dX0_setConsuls_55 (lv_at hl 0 rfl) ?_
            refine pz_SR (rest := []) ⟨hx, hb, hml, hown, hts⟩ (k_X0_isSlot l D ((cyI, .int) :: ts) (nI i_7) ) (va_cwS 1 hts gX0_setConsuls_X0_isSlot rfl rfl rfl (by decide +kernel) ⟨Nat.le_of_ble_eq_true rfl, Nat.le_of_ble_eq_true rfl⟩) hK hP (hD.weaken (fun _ _ _ _ => trivial)) hS hA [] rfl rfl rfl rfl hl.1 rfl (lv_room (Nat.le_of_ble_eq_true rfl)) dX0_setConsuls_57 ⟨Nat.le_of_ble_eq_true rfl, Nat.le_of_ble_eq_true rfl⟩ (fun r H locs hr hP hS => ?_)
            obtain rfl : r = (pz_b (0 ≤ (nI i_7).toInt ∧ (nI i_7).toInt < 60)) := hr
            refine pb_if_ne (tgt := 73) hx hb dX0_setConsuls_60 (by decide) (fun c_17 => ?_) (fun c_17 => ?_)
            · -- 60 yes
              refine lv_aload_n hx hb dX0_setConsuls_73 rfl (lv_at hl 1 rfl) ?_
              refine va_get (D := D) (ci := 0) (v := .ref ay) (C := RX0) (T := TX0) (N := 4) hx hb hts hin hown hK hP 0 rfl rfl 1 (by decide) (hts (.fieldLink RX0 13 "RomanCalendar" "consulYears" "[I") (by decide +kernel)) (fun _ h9 => h9) rfl dX0_setConsuls_74 ?_
              refine lv_iload hx hb dX0_setConsuls_77 (lv_at hl 0 rfl) ?_
              refine lv_iload_n hx hb dX0_setConsuls_79 rfl (lv_at hl 2 rfl) ?_
              refine pn_iast hx hb hK hP hD hS 2 0 rfl rfl (by omega) (by decide) dX0_setConsuls_80 (fun H locs hP hD hS => ?_)
              have hP : va_P D vwCl [(h0, .inr (0, [.ref ac, .ref ay, .ref ap, .int (nI mk)])), (ac, .inl (cyI, 365, .inl (pz_ar ch))), (ay, .inl (cyI, 60, .inl (pz_ar (pz_u fy i_7 y)))), (ap, .inl (cyI, 60, .inl (pz_ar fp)))] H := hP
              have hD : va_D A [(h0, .inr (0, [.ref ac, .ref ay, .ref ap, .int (nI mk)])), (ac, .inl (cyI, 365, .inl (pz_ar ch))), (ay, .inl (cyI, 60, .inl (pz_ar (pz_u fy i_7 y)))), (ap, .inl (cyI, 60, .inl (pz_ar fp)))] := hD
              refine lv_aload_n hx hb dX0_setConsuls_81 rfl (lv_at hl 1 rfl) ?_
              refine va_get (D := D) (ci := 0) (v := .ref ap) (C := RX0) (T := TX0) (N := 4) hx hb hts hin hown hK hP 0 rfl rfl 2 (by decide) (hts (.fieldLink RX0 16 "RomanCalendar" "consulPairs" "[I") (by decide +kernel)) (fun _ h9 => h9) rfl dX0_setConsuls_82 ?_
              refine lv_iload hx hb dX0_setConsuls_85 (lv_at hl 0 rfl) ?_
              refine lv_sipush (v := nI 1000) hx hb dX0_setConsuls_87 (by decide) ?_
              refine lv_iload_n hx hb dX0_setConsuls_90 rfl (lv_at hl 3 rfl) ?_
              refine pn_imul hx hb dX0_setConsuls_91 ?_
              refine lv_iload_n hx hb dX0_setConsuls_92 rfl (lv_at hl 4 rfl) ?_
              refine pn_iadd hx hb dX0_setConsuls_93 ?_
              refine pn_iast hx hb hK hP hD hS 3 0 rfl rfl (by omega) (by decide) dX0_setConsuls_94 (fun H locs hP hD hS => ?_)
              have hP : va_P D vwCl [(h0, .inr (0, [.ref ac, .ref ay, .ref ap, .int (nI mk)])), (ac, .inl (cyI, 365, .inl (pz_ar ch))), (ay, .inl (cyI, 60, .inl (pz_ar (pz_u fy i_7 y)))), (ap, .inl (cyI, 60, .inl (pz_ar (pz_u fp i_7 ((1000 * fa) + se)))))] H := hP
              have hD : va_D A [(h0, .inr (0, [.ref ac, .ref ay, .ref ap, .int (nI mk)])), (ac, .inl (cyI, 365, .inl (pz_ar ch))), (ay, .inl (cyI, 60, .inl (pz_ar (pz_u fy i_7 y)))), (ap, .inl (cyI, 60, .inl (pz_ar (pz_u fp i_7 ((1000 * fa) + se)))))] := hD
              refine lv_aload_n hx hb dX0_setConsuls_95 rfl (lv_at hl 1 rfl) ?_
              refine pz_VR (rest := []) ⟨hx, hb, hml, hown, hts⟩ (k_X0_countConsulYears l D h0 ac ay ap cyI ts mk ch (pz_u fy i_7 y) (pz_u fp i_7 ((1000 * fa) + se))  (by exact pm_u_b hfy (by omega))) (cwV 0 hts gX0_setConsuls_X0_countConsulYears rfl rfl rfl (by decide +kernel) ⟨Nat.le_of_ble_eq_true rfl, Nat.le_of_ble_eq_true rfl⟩) hK hP (hD.weaken (fun _ _ _ _ => trivial)) hS hA [0, 1, 2, 3] rfl rfl rfl 0 0 rfl rfl rfl hl.1 rfl (lv_room (Nat.le_of_ble_eq_true rfl)) dX0_setConsuls_96 ⟨Nat.le_of_ble_eq_true rfl, Nat.le_of_ble_eq_true rfl⟩ (fun r H locs hr hP hS => ?_)
              obtain rfl : r = (nI (pm_cc (pz_u fy i_7 y) 60)) := hr
              exact hQ _ _ _ _ _ i_7 dX0_setConsuls_99 rfl (by exact ⟨by assumption, rfl, by first | exact Or.inl (by assumption) | exact Or.inr ⟨by assumption, by assumption⟩⟩) hP hD hS
            · -- 60 no
              exfalso; omega
          · -- 45 no
            exfalso; omega
      · -- 20 no
        exfalso; omega
set_option maxHeartbeats 4000000 in
set_option maxRecDepth 100000 in
theorem k_X0_setConsuls_x2 (l : Launch) (hfl : l.stackTraces = false) (D : va_G) (h0 ac ay ap : Nat) (cyI : ClassId) (ts : List (ClassId × FieldType)) (mk : Nat) (ch fy fp : Nat → Nat) (y : Nat) (x2 x3 : Int32) (hy0 : 1 ≤ y) (hy1 : y ≤ 3000) (hy2 : ¬ (1 ≤ x2.toInt ∧ x2.toInt ≤ 999 ∧ 1 ≤ x3.toInt ∧ x3.toInt ≤ 999 ∧ ¬ x2.toInt = x3.toInt)) : pz_X l yX0_setConsuls wsX0_setConsuls ({ frames := 7, cells := 1, slots := 6, locals := 104 } : Room) D ((cyI, .int) :: ts) [.ref h0, .int (nI y), .int x2, .int x3] [(h0, .inr (0, [.ref ac, .ref ay, .ref ap, .int (nI mk)])), (ac, .inl (cyI, 365, .inl (pz_ar ch))), (ay, .inl (cyI, 60, .inl (pz_ar fy))), (ap, .inl (cyI, 60, .inl (pz_ar fp)))] "java/lang/IllegalArgumentException" := by
  refine pz_X_of (cc := cX0_setConsuls) (maxL := 5) (ret := (some .int)) (own := RX0) (by decide) rfl rfl (Nat.le_of_ble_eq_true rfl) ?_
  intro p e s m below meth c ls hx hb hml hown hts hK hP hD hS hA hl hth htb hlk
  have hl : lv_has ls 5 [(0, .ref h0), (1, .int (nI y)), (2, .int x2), (3, .int x3)] := hl
  have hin : ∀ w ∈ u_ws RX0 TX0 4, w ∈ wsX0_setConsuls := by decide +kernel
  refine lv_iload_n hx hb dX0_setConsuls_0 rfl (lv_at hl 1 rfl) ?_
  refine pz_SRV (rest := []) ⟨hx, hb, hml, hown, hts⟩ (k_X0_checkYear l D ((cyI, .int) :: ts) y (by omega) (by omega)) (va_cwS 1 hts gX0_setConsuls_X0_checkYear rfl rfl rfl (by decide +kernel) ⟨Nat.le_of_ble_eq_true rfl, Nat.le_of_ble_eq_true rfl⟩) hK hP hD hS hA [] rfl rfl rfl rfl hl.1 rfl (lv_room (Nat.le_of_ble_eq_true rfl)) dX0_setConsuls_1 ⟨Nat.le_of_ble_eq_true rfl, Nat.le_of_ble_eq_true rfl⟩ (fun H locs hP hS => ?_)
  refine lv_iload_n hx hb dX0_setConsuls_4 rfl (lv_at hl 2 rfl) ?_
  refine pz_SR (rest := []) ⟨hx, hb, hml, hown, hts⟩ (k_X0_isConsul l D ((cyI, .int) :: ts) x2 ) (va_cwS 1 hts gX0_setConsuls_X0_isConsul rfl rfl rfl (by decide +kernel) ⟨Nat.le_of_ble_eq_true rfl, Nat.le_of_ble_eq_true rfl⟩) hK hP hD hS hA [] rfl rfl rfl rfl hl.1 rfl (lv_room (Nat.le_of_ble_eq_true rfl)) dX0_setConsuls_5 ⟨Nat.le_of_ble_eq_true rfl, Nat.le_of_ble_eq_true rfl⟩ (fun r H locs hr hP hS => ?_)
  obtain rfl : r = (pz_b (1 ≤ x2.toInt ∧ x2.toInt ≤ 999)) := hr
  refine pb_if_eq (tgt := 23) hx hb dX0_setConsuls_8 (by decide) (fun c_3 => ?_) (fun c_3 => ?_)
  · -- 8 yes
    exact pz_throw (E := "java/lang/IllegalArgumentException") (text := "these can't be two consuls") hx hb hfl hown hts (by decide +kernel) (by decide +kernel) (by decide +kernel) (by decide +kernel) (by decide +kernel) (by decide +kernel) (hts (.classLink RX0 75 "java/lang/IllegalArgumentException") (by decide +kernel)) (hts (.initialized "java/lang/IllegalArgumentException") (by decide +kernel)) hS hth hl.1 hml htb hlk dX0_setConsuls_23 dX0_setConsuls_26 dX0_setConsuls_27 dX0_setConsuls_29 dX0_setConsuls_32 (Nat.le_of_ble_eq_true rfl) (Nat.le_of_ble_eq_true rfl) (Nat.le_of_ble_eq_true rfl) (Nat.le_of_ble_eq_true rfl)
  · -- 8 no
    refine lv_iload_n hx hb dX0_setConsuls_11 rfl (lv_at hl 3 rfl) ?_
    refine pz_SR (rest := []) ⟨hx, hb, hml, hown, hts⟩ (k_X0_isConsul l D ((cyI, .int) :: ts) x3 ) (va_cwS 1 hts gX0_setConsuls_X0_isConsul rfl rfl rfl (by decide +kernel) ⟨Nat.le_of_ble_eq_true rfl, Nat.le_of_ble_eq_true rfl⟩) hK hP hD hS hA [] rfl rfl rfl rfl hl.1 rfl (lv_room (Nat.le_of_ble_eq_true rfl)) dX0_setConsuls_12 ⟨Nat.le_of_ble_eq_true rfl, Nat.le_of_ble_eq_true rfl⟩ (fun r H locs hr hP hS => ?_)
    obtain rfl : r = (pz_b (1 ≤ x3.toInt ∧ x3.toInt ≤ 999)) := hr
    refine pb_if_eq (tgt := 23) hx hb dX0_setConsuls_15 (by decide) (fun c_5 => ?_) (fun c_5 => ?_)
    · -- 15 yes
      exact pz_throw (E := "java/lang/IllegalArgumentException") (text := "these can't be two consuls") hx hb hfl hown hts (by decide +kernel) (by decide +kernel) (by decide +kernel) (by decide +kernel) (by decide +kernel) (by decide +kernel) (hts (.classLink RX0 75 "java/lang/IllegalArgumentException") (by decide +kernel)) (hts (.initialized "java/lang/IllegalArgumentException") (by decide +kernel)) hS hth hl.1 hml htb hlk dX0_setConsuls_23 dX0_setConsuls_26 dX0_setConsuls_27 dX0_setConsuls_29 dX0_setConsuls_32 (Nat.le_of_ble_eq_true rfl) (Nat.le_of_ble_eq_true rfl) (Nat.le_of_ble_eq_true rfl) (Nat.le_of_ble_eq_true rfl)
    · -- 15 no
      refine lv_iload_n hx hb dX0_setConsuls_18 rfl (lv_at hl 2 rfl) ?_
      refine lv_iload_n hx hb dX0_setConsuls_19 rfl (lv_at hl 3 rfl) ?_
      refine pi_icmp_ne (tgt := 33) (a := (x2).toInt) (b := (x3).toInt) hx hb rfl rfl dX0_setConsuls_20 (by decide) (fun c_6 => ?_) (fun c_6 => ?_)
      · -- 20 yes
        exfalso; omega
      · -- 20 no
        exact pz_throw (E := "java/lang/IllegalArgumentException") (text := "these can't be two consuls") hx hb hfl hown hts (by decide +kernel) (by decide +kernel) (by decide +kernel) (by decide +kernel) (by decide +kernel) (by decide +kernel) (hts (.classLink RX0 75 "java/lang/IllegalArgumentException") (by decide +kernel)) (hts (.initialized "java/lang/IllegalArgumentException") (by decide +kernel)) hS hth hl.1 hml htb hlk dX0_setConsuls_23 dX0_setConsuls_26 dX0_setConsuls_27 dX0_setConsuls_29 dX0_setConsuls_32 (Nat.le_of_ble_eq_true rfl) (Nat.le_of_ble_eq_true rfl) (Nat.le_of_ble_eq_true rfl) (Nat.le_of_ble_eq_true rfl)
set_option maxHeartbeats 4000000 in
set_option maxRecDepth 100000 in
theorem k_X0_setConsuls_x3 (l : Launch) (hfl : l.stackTraces = false) (D : va_G) (h0 ac ay ap : Nat) (cyI : ClassId) (ts : List (ClassId × FieldType)) (mk : Nat) (ch fy fp : Nat → Nat) (y fa se : Nat) (hy0 : 1 ≤ y) (hy1 : y ≤ 3000) (hy2 : 1 ≤ fa) (hy3 : fa ≤ 999) (hy4 : 1 ≤ se) (hy5 : se ≤ 999) (hy6 : ¬ fa = se) (hfy : ∀ j, j < 60 → fy j ≤ 3000) (hn1 : ∀ j, j < 60 → ¬ fy j = y) (hn2 : ∀ j, j < 60 → ¬ fy j = 0) : pz_X l yX0_setConsuls wsX0_setConsuls ({ frames := 7, cells := 1, slots := 6, locals := 104 } : Room) D ((cyI, .int) :: ts) [.ref h0, .int (nI y), .int (nI fa), .int (nI se)] [(h0, .inr (0, [.ref ac, .ref ay, .ref ap, .int (nI mk)])), (ac, .inl (cyI, 365, .inl (pz_ar ch))), (ay, .inl (cyI, 60, .inl (pz_ar fy))), (ap, .inl (cyI, 60, .inl (pz_ar fp)))] "java/lang/IllegalStateException" := by
  refine pz_X_of (cc := cX0_setConsuls) (maxL := 5) (ret := (some .int)) (own := RX0) (by decide) rfl rfl (Nat.le_of_ble_eq_true rfl) ?_
  intro p e s m below meth c ls hx hb hml hown hts hK hP hD hS hA hl hth htb hlk
  have hl : lv_has ls 5 [(0, .ref h0), (1, .int (nI y)), (2, .int (nI fa)), (3, .int (nI se))] := hl
  have hin : ∀ w ∈ u_ws RX0 TX0 4, w ∈ wsX0_setConsuls := by decide +kernel
  have ef0 : (nI fa).toInt = (fa : Int) := nI_toInt (by omega)
  have es0 : (nI se).toInt = (se : Int) := nI_toInt (by omega)
  refine lv_iload_n hx hb dX0_setConsuls_0 rfl (lv_at hl 1 rfl) ?_
  refine pz_SRV (rest := []) ⟨hx, hb, hml, hown, hts⟩ (k_X0_checkYear l D ((cyI, .int) :: ts) y (by omega) (by omega)) (va_cwS 1 hts gX0_setConsuls_X0_checkYear rfl rfl rfl (by decide +kernel) ⟨Nat.le_of_ble_eq_true rfl, Nat.le_of_ble_eq_true rfl⟩) hK hP hD hS hA [] rfl rfl rfl rfl hl.1 rfl (lv_room (Nat.le_of_ble_eq_true rfl)) dX0_setConsuls_1 ⟨Nat.le_of_ble_eq_true rfl, Nat.le_of_ble_eq_true rfl⟩ (fun H locs hP hS => ?_)
  refine lv_iload_n hx hb dX0_setConsuls_4 rfl (lv_at hl 2 rfl) ?_
  refine pz_SR (rest := []) ⟨hx, hb, hml, hown, hts⟩ (k_X0_isConsul l D ((cyI, .int) :: ts) (nI fa) ) (va_cwS 1 hts gX0_setConsuls_X0_isConsul rfl rfl rfl (by decide +kernel) ⟨Nat.le_of_ble_eq_true rfl, Nat.le_of_ble_eq_true rfl⟩) hK hP hD hS hA [] rfl rfl rfl rfl hl.1 rfl (lv_room (Nat.le_of_ble_eq_true rfl)) dX0_setConsuls_5 ⟨Nat.le_of_ble_eq_true rfl, Nat.le_of_ble_eq_true rfl⟩ (fun r H locs hr hP hS => ?_)
  obtain rfl : r = (pz_b (1 ≤ (nI fa).toInt ∧ (nI fa).toInt ≤ 999)) := hr
  refine pb_if_eq (tgt := 23) hx hb dX0_setConsuls_8 (by decide) (fun c_3 => ?_) (fun c_3 => ?_)
  · -- 8 yes
    exfalso; omega
  · -- 8 no
    refine lv_iload_n hx hb dX0_setConsuls_11 rfl (lv_at hl 3 rfl) ?_
    refine pz_SR (rest := []) ⟨hx, hb, hml, hown, hts⟩ (k_X0_isConsul l D ((cyI, .int) :: ts) (nI se) ) (va_cwS 1 hts gX0_setConsuls_X0_isConsul rfl rfl rfl (by decide +kernel) ⟨Nat.le_of_ble_eq_true rfl, Nat.le_of_ble_eq_true rfl⟩) hK hP hD hS hA [] rfl rfl rfl rfl hl.1 rfl (lv_room (Nat.le_of_ble_eq_true rfl)) dX0_setConsuls_12 ⟨Nat.le_of_ble_eq_true rfl, Nat.le_of_ble_eq_true rfl⟩ (fun r H locs hr hP hS => ?_)
    obtain rfl : r = (pz_b (1 ≤ (nI se).toInt ∧ (nI se).toInt ≤ 999)) := hr
    refine pb_if_eq (tgt := 23) hx hb dX0_setConsuls_15 (by decide) (fun c_5 => ?_) (fun c_5 => ?_)
    · -- 15 yes
      exfalso; omega
    · -- 15 no
      refine lv_iload_n hx hb dX0_setConsuls_18 rfl (lv_at hl 2 rfl) ?_
      refine lv_iload_n hx hb dX0_setConsuls_19 rfl (lv_at hl 3 rfl) ?_
      refine pn_icmp_ne (tgt := 33) hx hb (by omega) (by omega) dX0_setConsuls_20 (by decide) (fun c_6 => ?_) (fun c_6 => ?_)
      · -- 20 yes
        refine lv_aload_n hx hb dX0_setConsuls_33 rfl (lv_at hl 0 rfl) ?_
        refine lv_iload_n hx hb dX0_setConsuls_34 rfl (lv_at hl 1 rfl) ?_
        refine pz_VR (rest := []) ⟨hx, hb, hml, hown, hts⟩ (k_X0_slotOf l D h0 ac ay ap cyI ts mk ch fy fp y (by omega) (by exact hfy)) (cwV 1 hts gX0_setConsuls_X0_slotOf rfl rfl rfl (by decide +kernel) ⟨Nat.le_of_ble_eq_true rfl, Nat.le_of_ble_eq_true rfl⟩) hK hP hD hS hA [0, 1, 2, 3] rfl rfl rfl 0 0 rfl rfl rfl hl.1 rfl (lv_room (Nat.le_of_ble_eq_true rfl)) dX0_setConsuls_35 ⟨Nat.le_of_ble_eq_true rfl, Nat.le_of_ble_eq_true rfl⟩ (fun r H locs hr hP hS => ?_)
        have hr_7 : (fun r => (r = (-1) ∧ ∀ j, j < 60 → ¬ fy j = y) ∨ (∃ i, i < 60 ∧ r = nI i ∧ fy i = y ∧ ∀ j, j < i → ¬ fy j = y)) r := hr
        obtain ⟨r_7, er_7⟩ : ∃ z, z = r := ⟨_, rfl⟩
        subst er_7
        rcases hr_7 with ⟨hz_7, hno_7⟩ | ⟨i_7, hi_7, hz_7, he_7, hf_7⟩
        · -- absent
          subst hz_7
          have em_7 : (-1 : Int32).toInt = (-1) := by decide
          refine lv_istore (lv' := [(4, .int (-1 : Int32)), (0, .ref h0), (1, .int (nI y)), (2, .int (nI fa)), (3, .int (nI se))]) hx hb dX0_setConsuls_38 hl (by decide) rfl (fun ls hl => ?_)
          refine lv_iload hx hb dX0_setConsuls_40 (lv_at hl 0 rfl) ?_
          refine pz_SR (rest := []) ⟨hx, hb, hml, hown, hts⟩ (k_X0_isSlot l D ((cyI, .int) :: ts) (-1 : Int32) ) (va_cwS 1 hts gX0_setConsuls_X0_isSlot rfl rfl rfl (by decide +kernel) ⟨Nat.le_of_ble_eq_true rfl, Nat.le_of_ble_eq_true rfl⟩) hK hP hD hS hA [] rfl rfl rfl rfl hl.1 rfl (lv_room (Nat.le_of_ble_eq_true rfl)) dX0_setConsuls_42 ⟨Nat.le_of_ble_eq_true rfl, Nat.le_of_ble_eq_true rfl⟩ (fun r H locs hr hP hS => ?_)
          obtain rfl : r = (pz_b (0 ≤ (-1 : Int32).toInt ∧ (-1 : Int32).toInt < 60)) := hr
          refine pb_if_ne (tgt := 55) hx hb dX0_setConsuls_45 (by decide) (fun c_9 => ?_) (fun c_9 => ?_)
          · -- 45 yes
            exfalso; omega
          · -- 45 no
            refine lv_aload_n hx hb dX0_setConsuls_48 rfl (lv_at hl 1 rfl) ?_
            refine lv_iconst (v := nI 0) hx hb dX0_setConsuls_49 (by decide) ?_
            refine pz_VR (rest := []) ⟨hx, hb, hml, hown, hts⟩ (k_X0_slotOf l D h0 ac ay ap cyI ts mk ch fy fp 0 (by omega) (by exact hfy)) (cwV 1 hts gX0_setConsuls_X0_slotOf rfl rfl rfl (by decide +kernel) ⟨Nat.le_of_ble_eq_true rfl, Nat.le_of_ble_eq_true rfl⟩) hK hP hD hS hA [0, 1, 2, 3] rfl rfl rfl 0 0 rfl rfl rfl hl.1 rfl (lv_room (Nat.le_of_ble_eq_true rfl)) dX0_setConsuls_50 ⟨Nat.le_of_ble_eq_true rfl, Nat.le_of_ble_eq_true rfl⟩ (fun r H locs hr hP hS => ?_)
            have hr_10 : (fun r => (r = (-1) ∧ ∀ j, j < 60 → ¬ fy j = 0) ∨ (∃ i, i < 60 ∧ r = nI i ∧ fy i = 0 ∧ ∀ j, j < i → ¬ fy j = 0)) r := hr
            obtain ⟨r_10, er_10⟩ : ∃ z, z = r := ⟨_, rfl⟩
            subst er_10
            rcases hr_10 with ⟨hz_10, hno_10⟩ | ⟨i_10, hi_10, hz_10, he_10, hf_10⟩
            · -- absent
              subst hz_10
              have em_10 : (-1 : Int32).toInt = (-1) := by decide
              refine lv_istore (lv' := [(4, .int (-1 : Int32)), (0, .ref h0), (1, .int (nI y)), (2, .int (nI fa)), (3, .int (nI se))]) hx hb dX0_setConsuls_53 hl (by decide) rfl (fun ls hl => ?_)
              refine lv_iload hx hb dX0_setConsuls_55 (lv_at hl 0 rfl) ?_
              refine pz_SR (rest := []) ⟨hx, hb, hml, hown, hts⟩ (k_X0_isSlot l D ((cyI, .int) :: ts) (-1 : Int32) ) (va_cwS 1 hts gX0_setConsuls_X0_isSlot rfl rfl rfl (by decide +kernel) ⟨Nat.le_of_ble_eq_true rfl, Nat.le_of_ble_eq_true rfl⟩) hK hP hD hS hA [] rfl rfl rfl rfl hl.1 rfl (lv_room (Nat.le_of_ble_eq_true rfl)) dX0_setConsuls_57 ⟨Nat.le_of_ble_eq_true rfl, Nat.le_of_ble_eq_true rfl⟩ (fun r H locs hr hP hS => ?_)
              obtain rfl : r = (pz_b (0 ≤ (-1 : Int32).toInt ∧ (-1 : Int32).toInt < 60)) := hr
              refine pb_if_ne (tgt := 73) hx hb dX0_setConsuls_60 (by decide) (fun c_12 => ?_) (fun c_12 => ?_)
              · -- 60 yes
                exfalso; omega
              · -- 60 no
                exact pz_throw (E := "java/lang/IllegalStateException") (text := "too many other years have consuls") hx hb hfl hown hts (by decide +kernel) (by decide +kernel) (by decide +kernel) (by decide +kernel) (by decide +kernel) (by decide +kernel) (hts (.classLink RX0 85 "java/lang/IllegalStateException") (by decide +kernel)) (hts (.initialized "java/lang/IllegalStateException") (by decide +kernel)) hS hth hl.1 hml htb hlk dX0_setConsuls_63 dX0_setConsuls_66 dX0_setConsuls_67 dX0_setConsuls_69 dX0_setConsuls_72 (Nat.le_of_ble_eq_true rfl) (Nat.le_of_ble_eq_true rfl) (Nat.le_of_ble_eq_true rfl) (Nat.le_of_ble_eq_true rfl)
            · -- a slot
              subst hz_10
              have ei_10 : (nI i_10).toInt = (i_10 : Int) := nI_toInt (by omega)
              exact absurd he_10 (hn2 _ hi_10)
        · -- a slot
          subst hz_7
          have ei_7 : (nI i_7).toInt = (i_7 : Int) := nI_toInt (by omega)
          exact absurd he_7 (hn1 _ hi_7)
      · -- 20 no
        exfalso; omega
set_option maxHeartbeats 4000000 in
set_option maxRecDepth 100000 in
theorem k_X0_strikeConsuls (l : Launch) (D : va_G) (h0 ac ay ap : Nat) (cyI : ClassId) (ts : List (ClassId × FieldType)) (mk : Nat) (ch fy fp : Nat → Nat) (y : Nat) (hy0 : 1 ≤ y) (hy1 : y ≤ 3000) (hfy : ∀ j, j < 60 → fy j ≤ 3000) (hav : ∃ i, i < 60 ∧ fy i = y) : pz_I l yX0_strikeConsuls wsX0_strikeConsuls ({ frames := 1, cells := 0, slots := 0, locals := 22 } : Room) D ((cyI, .int) :: ts) [.ref h0, .int (nI y)] [(h0, .inr (0, [.ref ac, .ref ay, .ref ap, .int (nI mk)])), (ac, .inl (cyI, 365, .inl (pz_ar ch))), (ay, .inl (cyI, 60, .inl (pz_ar fy))), (ap, .inl (cyI, 60, .inl (pz_ar fp)))] (S := Nat) (fun r i => i < 60 ∧ r = nI (pm_cc (pz_u fy i 0) 60) ∧ fy i = y) (fun i => [(h0, .inr (0, [.ref ac, .ref ay, .ref ap, .int (nI mk)])), (ac, .inl (cyI, 365, .inl (pz_ar ch))), (ay, .inl (cyI, 60, .inl (pz_ar (pz_u fy i 0)))), (ap, .inl (cyI, 60, .inl (pz_ar fp)))]) := by
  refine pz_I_of (cc := cX0_strikeConsuls) (maxL := 3) (ty := .int) (own := RX0) (by decide) rfl rfl (Nat.le_of_ble_eq_true rfl) ?_
  intro p e s m below meth c A ls Q hx hb hml hown hts hK hP hD hS hA hl hQ
  have hl : lv_has ls 3 [(0, .ref h0), (1, .int (nI y))] := hl
  have hin : ∀ w ∈ u_ws RX0 TX0 4, w ∈ wsX0_strikeConsuls := by decide +kernel
  refine lv_iload_n hx hb dX0_strikeConsuls_0 rfl (lv_at hl 1 rfl) ?_
  refine pz_SRV (rest := []) ⟨hx, hb, hml, hown, hts⟩ (k_X0_checkYear l D ((cyI, .int) :: ts) y (by omega) (by omega)) (va_cwS 1 hts gX0_strikeConsuls_X0_checkYear rfl rfl rfl (by decide +kernel) ⟨Nat.le_of_ble_eq_true rfl, Nat.le_of_ble_eq_true rfl⟩) hK hP (hD.weaken (fun _ _ _ _ => trivial)) hS hA [] rfl rfl rfl rfl hl.1 rfl (lv_room (Nat.le_of_ble_eq_true rfl)) dX0_strikeConsuls_1 ⟨Nat.le_of_ble_eq_true rfl, Nat.le_of_ble_eq_true rfl⟩ (fun H locs hP hS => ?_)
  refine lv_aload_n hx hb dX0_strikeConsuls_4 rfl (lv_at hl 0 rfl) ?_
  refine lv_iload_n hx hb dX0_strikeConsuls_5 rfl (lv_at hl 1 rfl) ?_
  refine pz_VR (rest := []) ⟨hx, hb, hml, hown, hts⟩ (k_X0_slotOf l D h0 ac ay ap cyI ts mk ch fy fp y (by omega) (by exact hfy)) (cwV 1 hts gX0_strikeConsuls_X0_slotOf rfl rfl rfl (by decide +kernel) ⟨Nat.le_of_ble_eq_true rfl, Nat.le_of_ble_eq_true rfl⟩) hK hP (hD.weaken (fun _ _ _ _ => trivial)) hS hA [0, 1, 2, 3] rfl rfl rfl 0 0 rfl rfl rfl hl.1 rfl (lv_room (Nat.le_of_ble_eq_true rfl)) dX0_strikeConsuls_6 ⟨Nat.le_of_ble_eq_true rfl, Nat.le_of_ble_eq_true rfl⟩ (fun r H locs hr hP hS => ?_)
  have hr_2 : (fun r => (r = (-1) ∧ ∀ j, j < 60 → ¬ fy j = y) ∨ (∃ i, i < 60 ∧ r = nI i ∧ fy i = y ∧ ∀ j, j < i → ¬ fy j = y)) r := hr
  obtain ⟨r_2, er_2⟩ : ∃ z, z = r := ⟨_, rfl⟩
  subst er_2
  rcases hr_2 with ⟨hz_2, hno_2⟩ | ⟨i_2, hi_2, hz_2, he_2, hf_2⟩
  · -- absent
    subst hz_2
    have em_2 : (-1 : Int32).toInt = (-1) := by decide
    exfalso; rcases hav with ⟨i, h1, h2⟩; exact absurd h2 (hno_2 i h1)
  · -- a slot
    subst hz_2
    have ei_2 : (nI i_2).toInt = (i_2 : Int) := nI_toInt (by omega)
    refine lv_istore_n (lv' := [(2, .int (nI i_2)), (0, .ref h0), (1, .int (nI y))]) hx hb dX0_strikeConsuls_9 rfl hl (by decide) rfl (fun ls hl => ?_)
    refine lv_iload_n hx hb dX0_strikeConsuls_10 rfl (lv_at hl 0 rfl) ?_
    refine pz_SR (rest := []) ⟨hx, hb, hml, hown, hts⟩ (k_X0_isSlot l D ((cyI, .int) :: ts) (nI i_2) ) (va_cwS 1 hts gX0_strikeConsuls_X0_isSlot rfl rfl rfl (by decide +kernel) ⟨Nat.le_of_ble_eq_true rfl, Nat.le_of_ble_eq_true rfl⟩) hK hP (hD.weaken (fun _ _ _ _ => trivial)) hS hA [] rfl rfl rfl rfl hl.1 rfl (lv_room (Nat.le_of_ble_eq_true rfl)) dX0_strikeConsuls_11 ⟨Nat.le_of_ble_eq_true rfl, Nat.le_of_ble_eq_true rfl⟩ (fun r H locs hr hP hS => ?_)
    obtain rfl : r = (pz_b (0 ≤ (nI i_2).toInt ∧ (nI i_2).toInt < 60)) := hr
    refine pb_if_ne (tgt := 27) hx hb dX0_strikeConsuls_14 (by decide) (fun c_4 => ?_) (fun c_4 => ?_)
    · -- 14 yes
      refine lv_aload_n hx hb dX0_strikeConsuls_27 rfl (lv_at hl 1 rfl) ?_
      refine va_get (D := D) (ci := 0) (v := .ref ay) (C := RX0) (T := TX0) (N := 4) hx hb hts hin hown hK hP 0 rfl rfl 1 (by decide) (hts (.fieldLink RX0 13 "RomanCalendar" "consulYears" "[I") (by decide +kernel)) (fun _ h9 => h9) rfl dX0_strikeConsuls_28 ?_
      refine lv_iload_n hx hb dX0_strikeConsuls_31 rfl (lv_at hl 0 rfl) ?_
      refine lv_iconst (v := nI 0) hx hb dX0_strikeConsuls_32 (by decide) ?_
      refine pn_iast hx hb hK hP hD hS 2 0 rfl rfl (by omega) (by decide) dX0_strikeConsuls_33 (fun H locs hP hD hS => ?_)
      have hP : va_P D vwCl [(h0, .inr (0, [.ref ac, .ref ay, .ref ap, .int (nI mk)])), (ac, .inl (cyI, 365, .inl (pz_ar ch))), (ay, .inl (cyI, 60, .inl (pz_ar (pz_u fy i_2 0)))), (ap, .inl (cyI, 60, .inl (pz_ar fp)))] H := hP
      have hD : va_D A [(h0, .inr (0, [.ref ac, .ref ay, .ref ap, .int (nI mk)])), (ac, .inl (cyI, 365, .inl (pz_ar ch))), (ay, .inl (cyI, 60, .inl (pz_ar (pz_u fy i_2 0)))), (ap, .inl (cyI, 60, .inl (pz_ar fp)))] := hD
      refine lv_aload_n hx hb dX0_strikeConsuls_34 rfl (lv_at hl 1 rfl) ?_
      refine pz_VR (rest := []) ⟨hx, hb, hml, hown, hts⟩ (k_X0_countConsulYears l D h0 ac ay ap cyI ts mk ch (pz_u fy i_2 0) fp  (by exact pm_u_b hfy (by omega))) (cwV 0 hts gX0_strikeConsuls_X0_countConsulYears rfl rfl rfl (by decide +kernel) ⟨Nat.le_of_ble_eq_true rfl, Nat.le_of_ble_eq_true rfl⟩) hK hP (hD.weaken (fun _ _ _ _ => trivial)) hS hA [0, 1, 2, 3] rfl rfl rfl 0 0 rfl rfl rfl hl.1 rfl (lv_room (Nat.le_of_ble_eq_true rfl)) dX0_strikeConsuls_35 ⟨Nat.le_of_ble_eq_true rfl, Nat.le_of_ble_eq_true rfl⟩ (fun r H locs hr hP hS => ?_)
      obtain rfl : r = (nI (pm_cc (pz_u fy i_2 0) 60)) := hr
      exact hQ _ _ _ _ _ i_2 dX0_strikeConsuls_38 rfl (by exact ⟨by assumption, rfl, by assumption⟩) hP hD hS
    · -- 14 no
      exfalso; omega
set_option maxHeartbeats 4000000 in
set_option maxRecDepth 100000 in
theorem k_X0_strikeConsuls_x2 (l : Launch) (hfl : l.stackTraces = false) (D : va_G) (h0 ac ay ap : Nat) (cyI : ClassId) (ts : List (ClassId × FieldType)) (mk : Nat) (ch fy fp : Nat → Nat) (y : Nat) (hy0 : 1 ≤ y) (hy1 : y ≤ 3000) (hfy : ∀ j, j < 60 → fy j ≤ 3000) (hn1 : ∀ j, j < 60 → ¬ fy j = y) : pz_X l yX0_strikeConsuls wsX0_strikeConsuls ({ frames := 7, cells := 1, slots := 6, locals := 104 } : Room) D ((cyI, .int) :: ts) [.ref h0, .int (nI y)] [(h0, .inr (0, [.ref ac, .ref ay, .ref ap, .int (nI mk)])), (ac, .inl (cyI, 365, .inl (pz_ar ch))), (ay, .inl (cyI, 60, .inl (pz_ar fy))), (ap, .inl (cyI, 60, .inl (pz_ar fp)))] "java/lang/IllegalStateException" := by
  refine pz_X_of (cc := cX0_strikeConsuls) (maxL := 3) (ret := (some .int)) (own := RX0) (by decide) rfl rfl (Nat.le_of_ble_eq_true rfl) ?_
  intro p e s m below meth c ls hx hb hml hown hts hK hP hD hS hA hl hth htb hlk
  have hl : lv_has ls 3 [(0, .ref h0), (1, .int (nI y))] := hl
  have hin : ∀ w ∈ u_ws RX0 TX0 4, w ∈ wsX0_strikeConsuls := by decide +kernel
  refine lv_iload_n hx hb dX0_strikeConsuls_0 rfl (lv_at hl 1 rfl) ?_
  refine pz_SRV (rest := []) ⟨hx, hb, hml, hown, hts⟩ (k_X0_checkYear l D ((cyI, .int) :: ts) y (by omega) (by omega)) (va_cwS 1 hts gX0_strikeConsuls_X0_checkYear rfl rfl rfl (by decide +kernel) ⟨Nat.le_of_ble_eq_true rfl, Nat.le_of_ble_eq_true rfl⟩) hK hP hD hS hA [] rfl rfl rfl rfl hl.1 rfl (lv_room (Nat.le_of_ble_eq_true rfl)) dX0_strikeConsuls_1 ⟨Nat.le_of_ble_eq_true rfl, Nat.le_of_ble_eq_true rfl⟩ (fun H locs hP hS => ?_)
  refine lv_aload_n hx hb dX0_strikeConsuls_4 rfl (lv_at hl 0 rfl) ?_
  refine lv_iload_n hx hb dX0_strikeConsuls_5 rfl (lv_at hl 1 rfl) ?_
  refine pz_VR (rest := []) ⟨hx, hb, hml, hown, hts⟩ (k_X0_slotOf l D h0 ac ay ap cyI ts mk ch fy fp y (by omega) (by exact hfy)) (cwV 1 hts gX0_strikeConsuls_X0_slotOf rfl rfl rfl (by decide +kernel) ⟨Nat.le_of_ble_eq_true rfl, Nat.le_of_ble_eq_true rfl⟩) hK hP hD hS hA [0, 1, 2, 3] rfl rfl rfl 0 0 rfl rfl rfl hl.1 rfl (lv_room (Nat.le_of_ble_eq_true rfl)) dX0_strikeConsuls_6 ⟨Nat.le_of_ble_eq_true rfl, Nat.le_of_ble_eq_true rfl⟩ (fun r H locs hr hP hS => ?_)
  have hr_2 : (fun r => (r = (-1) ∧ ∀ j, j < 60 → ¬ fy j = y) ∨ (∃ i, i < 60 ∧ r = nI i ∧ fy i = y ∧ ∀ j, j < i → ¬ fy j = y)) r := hr
  obtain ⟨r_2, er_2⟩ : ∃ z, z = r := ⟨_, rfl⟩
  subst er_2
  rcases hr_2 with ⟨hz_2, hno_2⟩ | ⟨i_2, hi_2, hz_2, he_2, hf_2⟩
  · -- absent
    subst hz_2
    have em_2 : (-1 : Int32).toInt = (-1) := by decide
    refine lv_istore_n (lv' := [(2, .int (-1 : Int32)), (0, .ref h0), (1, .int (nI y))]) hx hb dX0_strikeConsuls_9 rfl hl (by decide) rfl (fun ls hl => ?_)
    refine lv_iload_n hx hb dX0_strikeConsuls_10 rfl (lv_at hl 0 rfl) ?_
    refine pz_SR (rest := []) ⟨hx, hb, hml, hown, hts⟩ (k_X0_isSlot l D ((cyI, .int) :: ts) (-1 : Int32) ) (va_cwS 1 hts gX0_strikeConsuls_X0_isSlot rfl rfl rfl (by decide +kernel) ⟨Nat.le_of_ble_eq_true rfl, Nat.le_of_ble_eq_true rfl⟩) hK hP hD hS hA [] rfl rfl rfl rfl hl.1 rfl (lv_room (Nat.le_of_ble_eq_true rfl)) dX0_strikeConsuls_11 ⟨Nat.le_of_ble_eq_true rfl, Nat.le_of_ble_eq_true rfl⟩ (fun r H locs hr hP hS => ?_)
    obtain rfl : r = (pz_b (0 ≤ (-1 : Int32).toInt ∧ (-1 : Int32).toInt < 60)) := hr
    refine pb_if_ne (tgt := 27) hx hb dX0_strikeConsuls_14 (by decide) (fun c_4 => ?_) (fun c_4 => ?_)
    · -- 14 yes
      exfalso; omega
    · -- 14 no
      exact pz_throw (E := "java/lang/IllegalStateException") (text := "the year has no consuls") hx hb hfl hown hts (by decide +kernel) (by decide +kernel) (by decide +kernel) (by decide +kernel) (by decide +kernel) (by decide +kernel) (hts (.classLink RX0 85 "java/lang/IllegalStateException") (by decide +kernel)) (hts (.initialized "java/lang/IllegalStateException") (by decide +kernel)) hS hth hl.1 hml htb hlk dX0_strikeConsuls_17 dX0_strikeConsuls_20 dX0_strikeConsuls_21 dX0_strikeConsuls_23 dX0_strikeConsuls_26 (Nat.le_of_ble_eq_true rfl) (Nat.le_of_ble_eq_true rfl) (Nat.le_of_ble_eq_true rfl) (Nat.le_of_ble_eq_true rfl)
  · -- a slot
    subst hz_2
    have ei_2 : (nI i_2).toInt = (i_2 : Int) := nI_toInt (by omega)
    exact absurd he_2 (hn1 _ hi_2)
set_option maxHeartbeats 4000000 in
set_option maxRecDepth 100000 in
theorem k_X0_setCharacter (l : Launch) (D : va_G) (h0 ac ay ap : Nat) (cyI : ClassId) (ts : List (ClassId × FieldType)) (mk : Nat) (ch fy fp : Nat → Nat) (q v : Nat) (hy0 : 1 ≤ q) (hy1 : q ≤ 365) (hy2 : v ≤ 3) : pz_I l yX0_setCharacter wsX0_setCharacter ({ frames := 2, cells := 0, slots := 0, locals := 42 } : Room) D ((cyI, .int) :: ts) [.ref h0, .int (nI q), .int (nI v)] [(h0, .inr (0, [.ref ac, .ref ay, .ref ap, .int (nI mk)])), (ac, .inl (cyI, 365, .inl (pz_ar ch))), (ay, .inl (cyI, 60, .inl (pz_ar fy))), (ap, .inl (cyI, 60, .inl (pz_ar fp)))] (S := Unit) (fun r _ => r = nI (ch (q - 1))) (fun _ => [(h0, .inr (0, [.ref ac, .ref ay, .ref ap, .int (nI mk)])), (ac, .inl (cyI, 365, .inl (pz_ar (pz_u ch (q - 1) v)))), (ay, .inl (cyI, 60, .inl (pz_ar fy))), (ap, .inl (cyI, 60, .inl (pz_ar fp)))]) := by
  refine pz_I_of (cc := cX0_setCharacter) (maxL := 4) (ty := .int) (own := RX0) (by decide) rfl rfl (Nat.le_of_ble_eq_true rfl) ?_
  intro p e s m below meth c A ls Q hx hb hml hown hts hK hP hD hS hA hl hQ
  have hl : lv_has ls 4 [(0, .ref h0), (1, .int (nI q)), (2, .int (nI v))] := hl
  have eq0 : (nI q).toInt = (q : Int) := nI_toInt (by omega)
  refine lv_iload_n hx hb dX0_setCharacter_0 rfl (lv_at hl 1 rfl) ?_
  refine pz_SR (rest := []) ⟨hx, hb, hml, hown, hts⟩ (k_X0_isPlace l D ((cyI, .int) :: ts) (nI q) ) (va_cwS 1 hts gX0_setCharacter_X0_isPlace rfl rfl rfl (by decide +kernel) ⟨Nat.le_of_ble_eq_true rfl, Nat.le_of_ble_eq_true rfl⟩) hK hP (hD.weaken (fun _ _ _ _ => trivial)) hS hA [] rfl rfl rfl rfl hl.1 rfl (lv_room (Nat.le_of_ble_eq_true rfl)) dX0_setCharacter_1 ⟨Nat.le_of_ble_eq_true rfl, Nat.le_of_ble_eq_true rfl⟩ (fun r H locs hr hP hS => ?_)
  obtain rfl : r = (pz_b (1 ≤ (nI q).toInt ∧ (nI q).toInt ≤ 365)) := hr
  refine pb_if_ne (tgt := 17) hx hb dX0_setCharacter_4 (by decide) (fun c_2 => ?_) (fun c_2 => ?_)
  · -- 4 yes
    refine lv_iload_n hx hb dX0_setCharacter_17 rfl (lv_at hl 2 rfl) ?_
    refine pn_if_lt (tgt := 26) hx hb (by omega) dX0_setCharacter_18 (by decide) ?_
    refine lv_iload_n hx hb dX0_setCharacter_21 rfl (lv_at hl 2 rfl) ?_
    refine lv_iconst (v := nI 3) hx hb dX0_setCharacter_22 (by decide) ?_
    refine pn_icmp_le (tgt := 36) hx hb (by omega) (by omega) dX0_setCharacter_23 (by decide) (fun c_4 => ?_) (fun c_4 => ?_)
    · -- 23 yes
      refine lv_aload_n hx hb dX0_setCharacter_36 rfl (lv_at hl 0 rfl) ?_
      refine lv_iload_n hx hb dX0_setCharacter_37 rfl (lv_at hl 1 rfl) ?_
      refine pz_VR (rest := []) ⟨hx, hb, hml, hown, hts⟩ (k_X0_readCharacter l D h0 ac ay ap cyI ts mk ch fy fp q (by omega) (by omega)) (cwV 1 hts gX0_setCharacter_X0_readCharacter rfl rfl rfl (by decide +kernel) ⟨Nat.le_of_ble_eq_true rfl, Nat.le_of_ble_eq_true rfl⟩) hK hP (hD.weaken (fun _ _ _ _ => trivial)) hS hA [0, 1, 2, 3] rfl rfl rfl 0 0 rfl rfl rfl hl.1 rfl (lv_room (Nat.le_of_ble_eq_true rfl)) dX0_setCharacter_38 ⟨Nat.le_of_ble_eq_true rfl, Nat.le_of_ble_eq_true rfl⟩ (fun r H locs hr hP hS => ?_)
      obtain rfl : r = (nI (ch (q - 1))) := hr
      refine lv_istore_n (lv' := [(3, .int (nI (ch (q - 1)))), (0, .ref h0), (1, .int (nI q)), (2, .int (nI v))]) hx hb dX0_setCharacter_41 rfl hl (by decide) rfl (fun ls hl => ?_)
      refine lv_aload_n hx hb dX0_setCharacter_42 rfl (lv_at hl 1 rfl) ?_
      refine lv_iload_n hx hb dX0_setCharacter_43 rfl (lv_at hl 2 rfl) ?_
      refine lv_iload_n hx hb dX0_setCharacter_44 rfl (lv_at hl 3 rfl) ?_
      refine pz_VV (rest := []) (wr := []) ⟨hx, hb, hml, hown, hts⟩ (k_X0_writeCharacter l D h0 ac ay ap cyI ts mk ch fy fp q v (by omega) (by omega)) (cwV 2 hts gX0_setCharacter_X0_writeCharacter rfl rfl rfl (by decide +kernel) ⟨Nat.le_of_ble_eq_true rfl, Nat.le_of_ble_eq_true rfl⟩) hK hP hD hS hA [0, 1, 2, 3] [] rfl rfl rfl rfl rfl (by decide) 0 0 rfl rfl rfl hl.1 rfl (lv_room (Nat.le_of_ble_eq_true rfl)) dX0_setCharacter_45 ⟨Nat.le_of_ble_eq_true rfl, Nat.le_of_ble_eq_true rfl⟩ (fun u H locs hr hP hD hS => ?_)
      have hP : va_P D vwCl [(h0, .inr (0, [.ref ac, .ref ay, .ref ap, .int (nI mk)])), (ac, .inl (cyI, 365, .inl (pz_ar (pz_u ch (q - 1) v)))), (ay, .inl (cyI, 60, .inl (pz_ar fy))), (ap, .inl (cyI, 60, .inl (pz_ar fp)))] H := hP
      have hD : va_D A [(h0, .inr (0, [.ref ac, .ref ay, .ref ap, .int (nI mk)])), (ac, .inl (cyI, 365, .inl (pz_ar (pz_u ch (q - 1) v)))), (ay, .inl (cyI, 60, .inl (pz_ar fy))), (ap, .inl (cyI, 60, .inl (pz_ar fp)))] := hD
      have hr_6 := hr
      refine lv_iload_n hx hb dX0_setCharacter_48 rfl (lv_at hl 0 rfl) ?_
      exact hQ _ _ _ _ _ () dX0_setCharacter_49 rfl (congrArg nI (by rfl)) hP hD hS
    · -- 23 no
      exfalso; omega
  · -- 4 no
    exfalso; rw [eq0] at *; omega
end PZ5
