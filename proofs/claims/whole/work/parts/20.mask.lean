section PZ7
set_option maxHeartbeats 4000000 in
set_option maxRecDepth 100000 in
theorem k_X1_days (l : Launch) (D : va_G) (h1 bc bf bg : Nat) (cyI : ClassId) (ts : List (ClassId × FieldType)) (th yr mo da : Int32) (mk wr : Nat) (rc ff gg : Nat → Nat)   : pz_I l yX1_days wsX1_days ({ frames := 0, cells := 0, slots := 0, locals := 0 } : Room) D ((cyI, .int) :: ts) [.ref h1] [(h1, .inr (1, [.int th, .int yr, .int mo, .int da, .int (nI mk), .ref bc, .ref bf, .ref bg, .int (nI wr)])), (bc, .inl (cyI, 366, .inl (pz_ar rc))), (bf, .inl (cyI, 3001, .inl (pz_ar ff))), (bg, .inl (cyI, 3001, .inl (pz_ar gg)))] (S := Unit) (fun r _ => r = nI 1095750) (fun _ => [(h1, .inr (1, [.int (nI 0), .int yr, .int mo, .int da, .int (nI mk), .ref bc, .ref bf, .ref bg, .int (nI wr)])), (bc, .inl (cyI, 366, .inl (pz_ar rc))), (bf, .inl (cyI, 3001, .inl (pz_ar ff))), (bg, .inl (cyI, 3001, .inl (pz_ar gg)))]) := by
  refine pz_I_of (cc := cX1_days) (maxL := 1) (ty := .int) (own := RX1) (by decide) rfl rfl (Nat.le_of_ble_eq_true rfl) ?_
  intro p e s m below meth c A ls Q hx hb hml hown hts hK hP hD hS hA hl hQ
  have hl : lv_has ls 1 [(0, .ref h1)] := hl
  have hin : ∀ w ∈ u_ws RX1 TX1 9, w ∈ wsX1_days := by decide +kernel
  refine lv_aload_n hx hb dX1_days_0 rfl (lv_at hl 0 rfl) ?_
  refine lv_iconst (v := nI 0) hx hb dX1_days_1 (by decide) ?_
  refine va_put (D := D) (ci := 1) (v := .int (nI 0)) (ty := .int) (C := RX1) (T := TX1) (N := 9) hx hb hts hin tyX1 tyX1_ok nmX1 hown hK hP hD hS 0 rfl rfl 0 (by decide) (hts (.fieldLink RX1 37 "RomanCalendarModel" "thrown" "I") (by decide +kernel)) (fun _ h9 => h9) rfl (by decide +kernel) rfl rfl (Nat.le_of_ble_eq_true rfl) dX1_days_2 (fun H locs hP hD hS => ?_)
  have hP : va_P D vwCl [(h1, .inr (1, [.int (nI 0), .int yr, .int mo, .int da, .int (nI mk), .ref bc, .ref bf, .ref bg, .int (nI wr)])), (bc, .inl (cyI, 366, .inl (pz_ar rc))), (bf, .inl (cyI, 3001, .inl (pz_ar ff))), (bg, .inl (cyI, 3001, .inl (pz_ar gg)))] H := hP
  have hD : va_D A [(h1, .inr (1, [.int (nI 0), .int yr, .int mo, .int da, .int (nI mk), .ref bc, .ref bf, .ref bg, .int (nI wr)])), (bc, .inl (cyI, 366, .inl (pz_ar rc))), (bf, .inl (cyI, 3001, .inl (pz_ar ff))), (bg, .inl (cyI, 3001, .inl (pz_ar gg)))] := hD
  refine lv_ldc (v := nI 1095750) hx hb hown (hts (.constant RX1 65 (1095750)) (by decide +kernel)) dX1_days_5 ?_
  exact hQ _ _ _ _ _ () dX1_days_7 rfl (congrArg nI (by rfl)) hP hD hS
set_option maxHeartbeats 4000000 in
set_option maxRecDepth 100000 in
theorem k_X1_number_a (l : Launch) (D : va_G) (h1 bc bf bg : Nat) (cyI : ClassId) (ts : List (ClassId × FieldType)) (th yr mo da : Int32) (mk wr : Nat) (rc ff gg : Nat → Nat) (y mm dy : Nat) (hy0 : 1 ≤ y) (hy1 : y ≤ 3000) (hy2 : 1 ≤ mm) (hy3 : mm ≤ 12) (hy4 : 1 ≤ dy) (hy5 : dy ≤ pm_ln y mm) : pz_I l yX1_number wsX1_number ({ frames := 3, cells := 0, slots := 0, locals := 65 } : Room) D ((cyI, .int) :: ts) [.ref h1, .int (nI y), .int (nI mm), .int (nI dy)] [(h1, .inr (1, [.int th, .int yr, .int mo, .int da, .int (nI mk), .ref bc, .ref bf, .ref bg, .int (nI wr)])), (bc, .inl (cyI, 366, .inl (pz_ar rc))), (bf, .inl (cyI, 3001, .inl (pz_ar ff))), (bg, .inl (cyI, 3001, .inl (pz_ar gg)))] (S := Unit) (fun r _ => r = nI (pm_fd y + pm_db y mm + dy - 1)) (fun _ => [(h1, .inr (1, [.int (nI 0), .int yr, .int mo, .int da, .int (nI mk), .ref bc, .ref bf, .ref bg, .int (nI wr)])), (bc, .inl (cyI, 366, .inl (pz_ar rc))), (bf, .inl (cyI, 3001, .inl (pz_ar ff))), (bg, .inl (cyI, 3001, .inl (pz_ar gg)))]) := by
  refine pz_I_of (cc := cX1_number) (maxL := 5) (ty := .int) (own := RX1) (by decide) rfl rfl (Nat.le_of_ble_eq_true rfl) ?_
  intro p e s m below meth c A ls Q hx hb hml hown hts hK hP hD hS hA hl hQ
  have hl : lv_has ls 5 [(0, .ref h1), (1, .int (nI y)), (2, .int (nI mm)), (3, .int (nI dy))] := hl
  have hln := pm_ln_b y mm
  refine lv_iload_n hx hb dX1_number_0 rfl (lv_at hl 1 rfl) ?_
  refine pz_SR (rest := []) ⟨hx, hb, hml, hown, hts⟩ (k_X1_isYear_a l D ((cyI, .int) :: ts) y (by omega) (by omega)) (va_cwS 1 hts gX1_number_X1_isYear rfl rfl rfl (by decide +kernel) ⟨Nat.le_of_ble_eq_true rfl, Nat.le_of_ble_eq_true rfl⟩) hK hP (hD.weaken (fun _ _ _ _ => trivial)) hS hA [] rfl rfl rfl rfl hl.1 rfl (lv_room (Nat.le_of_ble_eq_true rfl)) dX1_number_1 ⟨Nat.le_of_ble_eq_true rfl, Nat.le_of_ble_eq_true rfl⟩ (fun r H locs hr hP hS => ?_)
  obtain rfl : r = (nI 1) := hr
  refine pn_if_eq (tgt := 34) hx hb (by omega) dX1_number_4 (by decide) (fun c_2 => absurd c_2 (by decide)) (fun _ => ?_)
  refine lv_iload_n hx hb dX1_number_7 rfl (lv_at hl 2 rfl) ?_
  refine lv_iconst (v := nI 1) hx hb dX1_number_8 (by decide) ?_
  refine lv_bipush (v := nI 12) hx hb dX1_number_9 (by decide) ?_
  refine pz_SR (rest := []) ⟨hx, hb, hml, hown, hts⟩ (k_X1_isIn_a l D ((cyI, .int) :: ts) mm 1 12 (by omega) (by omega) (by omega)) (va_cwS 3 hts gX1_number_X1_isIn rfl rfl rfl (by decide +kernel) ⟨Nat.le_of_ble_eq_true rfl, Nat.le_of_ble_eq_true rfl⟩) hK hP (hD.weaken (fun _ _ _ _ => trivial)) hS hA [] rfl rfl rfl rfl hl.1 rfl (lv_room (Nat.le_of_ble_eq_true rfl)) dX1_number_11 ⟨Nat.le_of_ble_eq_true rfl, Nat.le_of_ble_eq_true rfl⟩ (fun r H locs hr hP hS => ?_)
  obtain rfl : r = (nI 1) := hr
  refine pn_if_eq (tgt := 34) hx hb (by omega) dX1_number_14 (by decide) (fun c_4 => absurd c_4 (by decide)) (fun _ => ?_)
  refine lv_iload_n hx hb dX1_number_17 rfl (lv_at hl 3 rfl) ?_
  refine lv_iconst (v := nI 1) hx hb dX1_number_18 (by decide) ?_
  refine lv_iload_n hx hb dX1_number_19 rfl (lv_at hl 1 rfl) ?_
  refine lv_iload_n hx hb dX1_number_20 rfl (lv_at hl 2 rfl) ?_
  refine pz_SR (rest := [.int (nI 1), .int (nI dy)]) ⟨hx, hb, hml, hown, hts⟩ (k_X1_length l D ((cyI, .int) :: ts) y mm (by omega) (by omega)) (va_cwS 2 hts gX1_number_X1_length rfl rfl rfl (by decide +kernel) ⟨Nat.le_of_ble_eq_true rfl, Nat.le_of_ble_eq_true rfl⟩) hK hP (hD.weaken (fun _ _ _ _ => trivial)) hS hA [] rfl rfl rfl rfl hl.1 rfl (lv_room (Nat.le_of_ble_eq_true rfl)) dX1_number_21 ⟨Nat.le_of_ble_eq_true rfl, Nat.le_of_ble_eq_true rfl⟩ (fun r H locs hr hP hS => ?_)
  obtain rfl : r = (nI (pm_ln y mm)) := hr
  have hf_6 := pm_ln_b y mm
  refine pz_SR (rest := []) ⟨hx, hb, hml, hown, hts⟩ (k_X1_isIn_a l D ((cyI, .int) :: ts) dy 1 (pm_ln y mm) (by omega) (by omega) (by omega)) (va_cwS 3 hts gX1_number_X1_isIn rfl rfl rfl (by decide +kernel) ⟨Nat.le_of_ble_eq_true rfl, Nat.le_of_ble_eq_true rfl⟩) hK hP (hD.weaken (fun _ _ _ _ => trivial)) hS hA [] rfl rfl rfl rfl hl.1 rfl (lv_room (Nat.le_of_ble_eq_true rfl)) dX1_number_24 ⟨Nat.le_of_ble_eq_true rfl, Nat.le_of_ble_eq_true rfl⟩ (fun r H locs hr hP hS => ?_)
  obtain rfl : r = (nI 1) := hr
  refine pn_if_eq (tgt := 34) hx hb (by omega) dX1_number_27 (by decide) (fun c_8 => absurd c_8 (by decide)) (fun _ => ?_)
  refine lv_iconst (v := nI 1) hx hb dX1_number_30 (by decide) ?_
  refine lv_goto (tgt := 35) hx hb dX1_number_31 (by decide) ?_
  refine lv_istore (lv' := [(4, .int (nI 1)), (0, .ref h1), (1, .int (nI y)), (2, .int (nI mm)), (3, .int (nI dy))]) hx hb dX1_number_35 hl (by decide) rfl (fun ls hl => ?_)
  refine lv_aload_n hx hb dX1_number_37 rfl (lv_at hl 1 rfl) ?_
  refine lv_iload hx hb dX1_number_38 (lv_at hl 0 rfl) ?_
  refine pn_if_eq (tgt := 47) hx hb (by omega) dX1_number_40 (by decide) (fun c_9 => absurd c_9 (by decide)) (fun _ => ?_)
  refine lv_iconst (v := nI 0) hx hb dX1_number_43 (by decide) ?_
  refine lv_goto (tgt := 48) hx hb dX1_number_44 (by decide) ?_
  refine pz_VI (rest := []) (wr := []) ⟨hx, hb, hml, hown, hts⟩ (k_X1_isFine_0 l D h1 bc bf bg cyI ts th yr mo da mk wr rc ff gg  ) (cwV 1 hts gX1_number_X1_isFine rfl rfl rfl (by decide +kernel) ⟨Nat.le_of_ble_eq_true rfl, Nat.le_of_ble_eq_true rfl⟩) hK hP hD hS hA [0, 1, 2, 3] [] rfl rfl rfl rfl rfl (by decide) 0 1 rfl rfl rfl hl.1 rfl (lv_room (Nat.le_of_ble_eq_true rfl)) dX1_number_48 ⟨Nat.le_of_ble_eq_true rfl, Nat.le_of_ble_eq_true rfl⟩ (fun r u H locs hr hP hD hS => ?_)
  have hP : va_P D vwCl [(h1, .inr (1, [.int (nI 0), .int yr, .int mo, .int da, .int (nI mk), .ref bc, .ref bf, .ref bg, .int (nI wr)])), (bc, .inl (cyI, 366, .inl (pz_ar rc))), (bf, .inl (cyI, 3001, .inl (pz_ar ff))), (bg, .inl (cyI, 3001, .inl (pz_ar gg)))] H := hP
  have hD : va_D A [(h1, .inr (1, [.int (nI 0), .int yr, .int mo, .int da, .int (nI mk), .ref bc, .ref bf, .ref bg, .int (nI wr)])), (bc, .inl (cyI, 366, .inl (pz_ar rc))), (bf, .inl (cyI, 3001, .inl (pz_ar ff))), (bg, .inl (cyI, 3001, .inl (pz_ar gg)))] := hD
  obtain rfl : r = (nI 1) := hr
  refine pn_if_eq (tgt := 63) hx hb (by omega) dX1_number_51 (by decide) (fun c_11 => absurd c_11 (by decide)) (fun _ => ?_)
  refine lv_iload_n hx hb dX1_number_54 rfl (lv_at hl 2 rfl) ?_
  refine lv_iload_n hx hb dX1_number_55 rfl (lv_at hl 3 rfl) ?_
  refine lv_iload_n hx hb dX1_number_56 rfl (lv_at hl 4 rfl) ?_
  refine pz_SR (rest := []) ⟨hx, hb, hml, hown, hts⟩ (k_X1_numberFor l D ((cyI, .int) :: ts) y mm dy (by omega) (by omega) (by omega) (by omega) (by omega) (by omega)) (va_cwS 3 hts gX1_number_X1_numberFor rfl rfl rfl (by decide +kernel) ⟨Nat.le_of_ble_eq_true rfl, Nat.le_of_ble_eq_true rfl⟩) hK hP (hD.weaken (fun _ _ _ _ => trivial)) hS hA [] rfl rfl rfl rfl hl.1 rfl (lv_room (Nat.le_of_ble_eq_true rfl)) dX1_number_57 ⟨Nat.le_of_ble_eq_true rfl, Nat.le_of_ble_eq_true rfl⟩ (fun r H locs hr hP hS => ?_)
  obtain rfl : r = (nI (pm_fd y + pm_db y mm + dy - 1)) := hr
  refine lv_goto (tgt := 64) hx hb dX1_number_60 (by decide) ?_
  exact hQ _ _ _ _ _ () dX1_number_64 rfl (congrArg nI (by rfl)) hP hD hS
set_option maxHeartbeats 4000000 in
set_option maxRecDepth 100000 in
theorem k_X1_number_x (l : Launch) (D : va_G) (h1 bc bf bg : Nat) (cyI : ClassId) (ts : List (ClassId × FieldType)) (th yr mo da : Int32) (mk wr : Nat) (rc ff gg : Nat → Nat) (x1 x2 x3 : Int32) (hy0 : ¬ (1 ≤ x1.toInt ∧ x1.toInt ≤ 3000 ∧ 1 ≤ x2.toInt ∧ x2.toInt ≤ 12 ∧ 1 ≤ x3.toInt ∧ x3.toInt ≤ pm_ln x1.toInt.toNat x2.toInt.toNat)) : pz_I l yX1_number wsX1_number ({ frames := 3, cells := 0, slots := 0, locals := 65 } : Room) D ((cyI, .int) :: ts) [.ref h1, .int x1, .int x2, .int x3] [(h1, .inr (1, [.int th, .int yr, .int mo, .int da, .int (nI mk), .ref bc, .ref bf, .ref bg, .int (nI wr)])), (bc, .inl (cyI, 366, .inl (pz_ar rc))), (bf, .inl (cyI, 3001, .inl (pz_ar ff))), (bg, .inl (cyI, 3001, .inl (pz_ar gg)))] (S := Unit) (fun r _ => r = nI 0) (fun _ => [(h1, .inr (1, [.int (nI 1), .int yr, .int mo, .int da, .int (nI mk), .ref bc, .ref bf, .ref bg, .int (nI wr)])), (bc, .inl (cyI, 366, .inl (pz_ar rc))), (bf, .inl (cyI, 3001, .inl (pz_ar ff))), (bg, .inl (cyI, 3001, .inl (pz_ar gg)))]) := by
  refine pz_I_of (cc := cX1_number) (maxL := 5) (ty := .int) (own := RX1) (by decide) rfl rfl (Nat.le_of_ble_eq_true rfl) ?_
  intro p e s m below meth c A ls Q hx hb hml hown hts hK hP hD hS hA hl hQ
  have hl : lv_has ls 5 [(0, .ref h1), (1, .int x1), (2, .int x2), (3, .int x3)] := hl
  refine lv_iload_n hx hb dX1_number_0 rfl (lv_at hl 1 rfl) ?_
  rcases pz_rng x1 1 3000 (by decide) with ⟨y, hl_y, hh_y, rfl⟩ | hb_x1
  · -- in range
    have ei_y : (nI y).toInt = (y : Int) := nI_toInt (by omega)
    simp only [ei_y, Int.toNat_natCast] at hy0
    refine pz_SR (rest := []) ⟨hx, hb, hml, hown, hts⟩ (k_X1_isYear_a l D ((cyI, .int) :: ts) y (by omega) (by omega)) (va_cwS 1 hts gX1_number_X1_isYear rfl rfl rfl (by decide +kernel) ⟨Nat.le_of_ble_eq_true rfl, Nat.le_of_ble_eq_true rfl⟩) hK hP (hD.weaken (fun _ _ _ _ => trivial)) hS hA [] rfl rfl rfl rfl hl.1 rfl (lv_room (Nat.le_of_ble_eq_true rfl)) dX1_number_1 ⟨Nat.le_of_ble_eq_true rfl, Nat.le_of_ble_eq_true rfl⟩ (fun r H locs hr hP hS => ?_)
    obtain rfl : r = (nI 1) := hr
    refine pn_if_eq (tgt := 34) hx hb (by omega) dX1_number_4 (by decide) (fun c_2 => absurd c_2 (by decide)) (fun _ => ?_)
    refine lv_iload_n hx hb dX1_number_7 rfl (lv_at hl 2 rfl) ?_
    refine lv_iconst (v := nI 1) hx hb dX1_number_8 (by decide) ?_
    refine lv_bipush (v := nI 12) hx hb dX1_number_9 (by decide) ?_
    rcases pz_rng x2 1 12 (by decide) with ⟨mm, hl_mm, hh_mm, rfl⟩ | hb_x2
    · -- in range
      have ei_mm : (nI mm).toInt = (mm : Int) := nI_toInt (by omega)
      simp only [ei_mm, Int.toNat_natCast] at hy0
      refine pz_SR (rest := []) ⟨hx, hb, hml, hown, hts⟩ (k_X1_isIn_a l D ((cyI, .int) :: ts) mm 1 12 (by omega) (by omega) (by omega)) (va_cwS 3 hts gX1_number_X1_isIn rfl rfl rfl (by decide +kernel) ⟨Nat.le_of_ble_eq_true rfl, Nat.le_of_ble_eq_true rfl⟩) hK hP (hD.weaken (fun _ _ _ _ => trivial)) hS hA [] rfl rfl rfl rfl hl.1 rfl (lv_room (Nat.le_of_ble_eq_true rfl)) dX1_number_11 ⟨Nat.le_of_ble_eq_true rfl, Nat.le_of_ble_eq_true rfl⟩ (fun r H locs hr hP hS => ?_)
      obtain rfl : r = (nI 1) := hr
      refine pn_if_eq (tgt := 34) hx hb (by omega) dX1_number_14 (by decide) (fun c_4 => absurd c_4 (by decide)) (fun _ => ?_)
      refine lv_iload_n hx hb dX1_number_17 rfl (lv_at hl 3 rfl) ?_
      refine lv_iconst (v := nI 1) hx hb dX1_number_18 (by decide) ?_
      refine lv_iload_n hx hb dX1_number_19 rfl (lv_at hl 1 rfl) ?_
      refine lv_iload_n hx hb dX1_number_20 rfl (lv_at hl 2 rfl) ?_
      refine pz_SR (rest := [.int (nI 1), .int x3]) ⟨hx, hb, hml, hown, hts⟩ (k_X1_length l D ((cyI, .int) :: ts) y mm (by omega) (by omega)) (va_cwS 2 hts gX1_number_X1_length rfl rfl rfl (by decide +kernel) ⟨Nat.le_of_ble_eq_true rfl, Nat.le_of_ble_eq_true rfl⟩) hK hP (hD.weaken (fun _ _ _ _ => trivial)) hS hA [] rfl rfl rfl rfl hl.1 rfl (lv_room (Nat.le_of_ble_eq_true rfl)) dX1_number_21 ⟨Nat.le_of_ble_eq_true rfl, Nat.le_of_ble_eq_true rfl⟩ (fun r H locs hr hP hS => ?_)
      obtain rfl : r = (nI (pm_ln y mm)) := hr
      have hf_6 := pm_ln_b y mm
      refine pz_SR (rest := []) ⟨hx, hb, hml, hown, hts⟩ (k_X1_isIn_x l D ((cyI, .int) :: ts) x3 1 (pm_ln y mm) (by omega) (by omega) (by omega)) (va_cwS 3 hts gX1_number_X1_isIn rfl rfl rfl (by decide +kernel) ⟨Nat.le_of_ble_eq_true rfl, Nat.le_of_ble_eq_true rfl⟩) hK hP (hD.weaken (fun _ _ _ _ => trivial)) hS hA [] rfl rfl rfl rfl hl.1 rfl (lv_room (Nat.le_of_ble_eq_true rfl)) dX1_number_24 ⟨Nat.le_of_ble_eq_true rfl, Nat.le_of_ble_eq_true rfl⟩ (fun r H locs hr hP hS => ?_)
      obtain rfl : r = (nI 0) := hr
      refine pn_if_eq (tgt := 34) hx hb (by omega) dX1_number_27 (by decide) (fun _ => ?_) (fun c_8 => absurd c_8 (by decide))
      refine lv_iconst (v := nI 0) hx hb dX1_number_34 (by decide) ?_
      refine lv_istore (lv' := [(4, .int (nI 0)), (0, .ref h1), (1, .int (nI y)), (2, .int (nI mm)), (3, .int x3)]) hx hb dX1_number_35 hl (by decide) rfl (fun ls hl => ?_)
      refine lv_aload_n hx hb dX1_number_37 rfl (lv_at hl 1 rfl) ?_
      refine lv_iload hx hb dX1_number_38 (lv_at hl 0 rfl) ?_
      refine pn_if_eq (tgt := 47) hx hb (by omega) dX1_number_40 (by decide) (fun _ => ?_) (fun c_9 => absurd c_9 (by decide))
      refine lv_iconst (v := nI 1) hx hb dX1_number_47 (by decide) ?_
      refine pz_VI (rest := []) (wr := []) ⟨hx, hb, hml, hown, hts⟩ (k_X1_isFine_k l D h1 bc bf bg cyI ts th yr mo da mk wr rc ff gg 1 (by omega) (by omega)) (cwV 1 hts gX1_number_X1_isFine rfl rfl rfl (by decide +kernel) ⟨Nat.le_of_ble_eq_true rfl, Nat.le_of_ble_eq_true rfl⟩) hK hP hD hS hA [0, 1, 2, 3] [] rfl rfl rfl rfl rfl (by decide) 0 1 rfl rfl rfl hl.1 rfl (lv_room (Nat.le_of_ble_eq_true rfl)) dX1_number_48 ⟨Nat.le_of_ble_eq_true rfl, Nat.le_of_ble_eq_true rfl⟩ (fun r u H locs hr hP hD hS => ?_)
      have hP : va_P D vwCl [(h1, .inr (1, [.int (nI 1), .int yr, .int mo, .int da, .int (nI mk), .ref bc, .ref bf, .ref bg, .int (nI wr)])), (bc, .inl (cyI, 366, .inl (pz_ar rc))), (bf, .inl (cyI, 3001, .inl (pz_ar ff))), (bg, .inl (cyI, 3001, .inl (pz_ar gg)))] H := hP
      have hD : va_D A [(h1, .inr (1, [.int (nI 1), .int yr, .int mo, .int da, .int (nI mk), .ref bc, .ref bf, .ref bg, .int (nI wr)])), (bc, .inl (cyI, 366, .inl (pz_ar rc))), (bf, .inl (cyI, 3001, .inl (pz_ar ff))), (bg, .inl (cyI, 3001, .inl (pz_ar gg)))] := hD
      obtain rfl : r = (nI 0) := hr
      refine pn_if_eq (tgt := 63) hx hb (by omega) dX1_number_51 (by decide) (fun _ => ?_) (fun c_11 => absurd c_11 (by decide))
      refine lv_iconst (v := nI 0) hx hb dX1_number_63 (by decide) ?_
      exact hQ _ _ _ _ _ () dX1_number_64 rfl (congrArg nI (by rfl)) hP hD hS
    · -- outside
      refine pz_SR (rest := []) ⟨hx, hb, hml, hown, hts⟩ (k_X1_isIn_x l D ((cyI, .int) :: ts) x2 1 12 (by omega) (by omega) (by omega)) (va_cwS 3 hts gX1_number_X1_isIn rfl rfl rfl (by decide +kernel) ⟨Nat.le_of_ble_eq_true rfl, Nat.le_of_ble_eq_true rfl⟩) hK hP (hD.weaken (fun _ _ _ _ => trivial)) hS hA [] rfl rfl rfl rfl hl.1 rfl (lv_room (Nat.le_of_ble_eq_true rfl)) dX1_number_11 ⟨Nat.le_of_ble_eq_true rfl, Nat.le_of_ble_eq_true rfl⟩ (fun r H locs hr hP hS => ?_)
      obtain rfl : r = (nI 0) := hr
      refine pn_if_eq (tgt := 34) hx hb (by omega) dX1_number_14 (by decide) (fun _ => ?_) (fun c_13 => absurd c_13 (by decide))
      refine lv_iconst (v := nI 0) hx hb dX1_number_34 (by decide) ?_
      refine lv_istore (lv' := [(4, .int (nI 0)), (0, .ref h1), (1, .int (nI y)), (2, .int x2), (3, .int x3)]) hx hb dX1_number_35 hl (by decide) rfl (fun ls hl => ?_)
      refine lv_aload_n hx hb dX1_number_37 rfl (lv_at hl 1 rfl) ?_
      refine lv_iload hx hb dX1_number_38 (lv_at hl 0 rfl) ?_
      refine pn_if_eq (tgt := 47) hx hb (by omega) dX1_number_40 (by decide) (fun _ => ?_) (fun c_14 => absurd c_14 (by decide))
      refine lv_iconst (v := nI 1) hx hb dX1_number_47 (by decide) ?_
      refine pz_VI (rest := []) (wr := []) ⟨hx, hb, hml, hown, hts⟩ (k_X1_isFine_k l D h1 bc bf bg cyI ts th yr mo da mk wr rc ff gg 1 (by omega) (by omega)) (cwV 1 hts gX1_number_X1_isFine rfl rfl rfl (by decide +kernel) ⟨Nat.le_of_ble_eq_true rfl, Nat.le_of_ble_eq_true rfl⟩) hK hP hD hS hA [0, 1, 2, 3] [] rfl rfl rfl rfl rfl (by decide) 0 1 rfl rfl rfl hl.1 rfl (lv_room (Nat.le_of_ble_eq_true rfl)) dX1_number_48 ⟨Nat.le_of_ble_eq_true rfl, Nat.le_of_ble_eq_true rfl⟩ (fun r u H locs hr hP hD hS => ?_)
      have hP : va_P D vwCl [(h1, .inr (1, [.int (nI 1), .int yr, .int mo, .int da, .int (nI mk), .ref bc, .ref bf, .ref bg, .int (nI wr)])), (bc, .inl (cyI, 366, .inl (pz_ar rc))), (bf, .inl (cyI, 3001, .inl (pz_ar ff))), (bg, .inl (cyI, 3001, .inl (pz_ar gg)))] H := hP
      have hD : va_D A [(h1, .inr (1, [.int (nI 1), .int yr, .int mo, .int da, .int (nI mk), .ref bc, .ref bf, .ref bg, .int (nI wr)])), (bc, .inl (cyI, 366, .inl (pz_ar rc))), (bf, .inl (cyI, 3001, .inl (pz_ar ff))), (bg, .inl (cyI, 3001, .inl (pz_ar gg)))] := hD
      obtain rfl : r = (nI 0) := hr
      refine pn_if_eq (tgt := 63) hx hb (by omega) dX1_number_51 (by decide) (fun _ => ?_) (fun c_16 => absurd c_16 (by decide))
      refine lv_iconst (v := nI 0) hx hb dX1_number_63 (by decide) ?_
      exact hQ _ _ _ _ _ () dX1_number_64 rfl (congrArg nI (by rfl)) hP hD hS
  · -- outside
    refine pz_SR (rest := []) ⟨hx, hb, hml, hown, hts⟩ (k_X1_isYear_x l D ((cyI, .int) :: ts) x1 (by omega)) (va_cwS 1 hts gX1_number_X1_isYear rfl rfl rfl (by decide +kernel) ⟨Nat.le_of_ble_eq_true rfl, Nat.le_of_ble_eq_true rfl⟩) hK hP (hD.weaken (fun _ _ _ _ => trivial)) hS hA [] rfl rfl rfl rfl hl.1 rfl (lv_room (Nat.le_of_ble_eq_true rfl)) dX1_number_1 ⟨Nat.le_of_ble_eq_true rfl, Nat.le_of_ble_eq_true rfl⟩ (fun r H locs hr hP hS => ?_)
    obtain rfl : r = (nI 0) := hr
    refine pn_if_eq (tgt := 34) hx hb (by omega) dX1_number_4 (by decide) (fun _ => ?_) (fun c_18 => absurd c_18 (by decide))
    refine lv_iconst (v := nI 0) hx hb dX1_number_34 (by decide) ?_
    refine lv_istore (lv' := [(4, .int (nI 0)), (0, .ref h1), (1, .int x1), (2, .int x2), (3, .int x3)]) hx hb dX1_number_35 hl (by decide) rfl (fun ls hl => ?_)
    refine lv_aload_n hx hb dX1_number_37 rfl (lv_at hl 1 rfl) ?_
    refine lv_iload hx hb dX1_number_38 (lv_at hl 0 rfl) ?_
    refine pn_if_eq (tgt := 47) hx hb (by omega) dX1_number_40 (by decide) (fun _ => ?_) (fun c_19 => absurd c_19 (by decide))
    refine lv_iconst (v := nI 1) hx hb dX1_number_47 (by decide) ?_
    refine pz_VI (rest := []) (wr := []) ⟨hx, hb, hml, hown, hts⟩ (k_X1_isFine_k l D h1 bc bf bg cyI ts th yr mo da mk wr rc ff gg 1 (by omega) (by omega)) (cwV 1 hts gX1_number_X1_isFine rfl rfl rfl (by decide +kernel) ⟨Nat.le_of_ble_eq_true rfl, Nat.le_of_ble_eq_true rfl⟩) hK hP hD hS hA [0, 1, 2, 3] [] rfl rfl rfl rfl rfl (by decide) 0 1 rfl rfl rfl hl.1 rfl (lv_room (Nat.le_of_ble_eq_true rfl)) dX1_number_48 ⟨Nat.le_of_ble_eq_true rfl, Nat.le_of_ble_eq_true rfl⟩ (fun r u H locs hr hP hD hS => ?_)
    have hP : va_P D vwCl [(h1, .inr (1, [.int (nI 1), .int yr, .int mo, .int da, .int (nI mk), .ref bc, .ref bf, .ref bg, .int (nI wr)])), (bc, .inl (cyI, 366, .inl (pz_ar rc))), (bf, .inl (cyI, 3001, .inl (pz_ar ff))), (bg, .inl (cyI, 3001, .inl (pz_ar gg)))] H := hP
    have hD : va_D A [(h1, .inr (1, [.int (nI 1), .int yr, .int mo, .int da, .int (nI mk), .ref bc, .ref bf, .ref bg, .int (nI wr)])), (bc, .inl (cyI, 366, .inl (pz_ar rc))), (bf, .inl (cyI, 3001, .inl (pz_ar ff))), (bg, .inl (cyI, 3001, .inl (pz_ar gg)))] := hD
    obtain rfl : r = (nI 0) := hr
    refine pn_if_eq (tgt := 63) hx hb (by omega) dX1_number_51 (by decide) (fun _ => ?_) (fun c_21 => absurd c_21 (by decide))
    refine lv_iconst (v := nI 0) hx hb dX1_number_63 (by decide) ?_
    exact hQ _ _ _ _ _ () dX1_number_64 rfl (congrArg nI (by rfl)) hP hD hS
set_option maxHeartbeats 4000000 in
set_option maxRecDepth 100000 in
theorem k_X1_numberByCounting_a (l : Launch) (D : va_G) (h1 bc bf bg : Nat) (cyI : ClassId) (ts : List (ClassId × FieldType)) (th yr mo da : Int32) (mk wr : Nat) (rc ff gg : Nat → Nat) (y mm dy : Nat) (hy0 : 1 ≤ y) (hy1 : y ≤ 3000) (hy2 : 1 ≤ mm) (hy3 : mm ≤ 12) (hy4 : 1 ≤ dy) (hy5 : dy ≤ pm_ln y mm) : pz_I l yX1_numberByCounting wsX1_numberByCounting ({ frames := 4, cells := 0, slots := 0, locals := 89 } : Room) D ((cyI, .int) :: ts) [.ref h1, .int (nI y), .int (nI mm), .int (nI dy)] [(h1, .inr (1, [.int th, .int yr, .int mo, .int da, .int (nI mk), .ref bc, .ref bf, .ref bg, .int (nI wr)])), (bc, .inl (cyI, 366, .inl (pz_ar rc))), (bf, .inl (cyI, 3001, .inl (pz_ar ff))), (bg, .inl (cyI, 3001, .inl (pz_ar gg)))] (S := Unit) (fun r _ => r = nI (pm_fd y + pm_db y mm + dy - 1)) (fun _ => [(h1, .inr (1, [.int (nI 0), .int yr, .int mo, .int da, .int (nI mk), .ref bc, .ref bf, .ref bg, .int (nI wr)])), (bc, .inl (cyI, 366, .inl (pz_ar rc))), (bf, .inl (cyI, 3001, .inl (pz_ar ff))), (bg, .inl (cyI, 3001, .inl (pz_ar gg)))]) := by
  refine pz_I_of (cc := cX1_numberByCounting) (maxL := 4) (ty := .int) (own := RX1) (by decide) rfl rfl (Nat.le_of_ble_eq_true rfl) ?_
  intro p e s m below meth c A ls Q hx hb hml hown hts hK hP hD hS hA hl hQ
  have hl : lv_has ls 4 [(0, .ref h1), (1, .int (nI y)), (2, .int (nI mm)), (3, .int (nI dy))] := hl
  refine lv_aload_n hx hb dX1_numberByCounting_0 rfl (lv_at hl 0 rfl) ?_
  refine lv_iload_n hx hb dX1_numberByCounting_1 rfl (lv_at hl 1 rfl) ?_
  refine lv_iload_n hx hb dX1_numberByCounting_2 rfl (lv_at hl 2 rfl) ?_
  refine lv_iload_n hx hb dX1_numberByCounting_3 rfl (lv_at hl 3 rfl) ?_
  refine pz_VI (rest := []) (wr := []) ⟨hx, hb, hml, hown, hts⟩ (k_X1_number_a l D h1 bc bf bg cyI ts th yr mo da mk wr rc ff gg y mm dy (by omega) (by omega) (by omega) (by omega) (by omega) (by omega)) (cwV 3 hts gX1_numberByCounting_X1_number rfl rfl rfl (by decide +kernel) ⟨Nat.le_of_ble_eq_true rfl, Nat.le_of_ble_eq_true rfl⟩) hK hP hD hS hA [0, 1, 2, 3] [] rfl rfl rfl rfl rfl (by decide) 0 1 rfl rfl rfl hl.1 rfl (lv_room (Nat.le_of_ble_eq_true rfl)) dX1_numberByCounting_4 ⟨Nat.le_of_ble_eq_true rfl, Nat.le_of_ble_eq_true rfl⟩ (fun r u H locs hr hP hD hS => ?_)
  have hP : va_P D vwCl [(h1, .inr (1, [.int (nI 0), .int yr, .int mo, .int da, .int (nI mk), .ref bc, .ref bf, .ref bg, .int (nI wr)])), (bc, .inl (cyI, 366, .inl (pz_ar rc))), (bf, .inl (cyI, 3001, .inl (pz_ar ff))), (bg, .inl (cyI, 3001, .inl (pz_ar gg)))] H := hP
  have hD : va_D A [(h1, .inr (1, [.int (nI 0), .int yr, .int mo, .int da, .int (nI mk), .ref bc, .ref bf, .ref bg, .int (nI wr)])), (bc, .inl (cyI, 366, .inl (pz_ar rc))), (bf, .inl (cyI, 3001, .inl (pz_ar ff))), (bg, .inl (cyI, 3001, .inl (pz_ar gg)))] := hD
  obtain rfl : r = (nI (pm_fd y + pm_db y mm + dy - 1)) := hr
  exact hQ _ _ _ _ _ () dX1_numberByCounting_7 rfl (congrArg nI (by rfl)) hP hD hS
set_option maxHeartbeats 4000000 in
set_option maxRecDepth 100000 in
theorem k_X1_numberByCounting_x (l : Launch) (D : va_G) (h1 bc bf bg : Nat) (cyI : ClassId) (ts : List (ClassId × FieldType)) (th yr mo da : Int32) (mk wr : Nat) (rc ff gg : Nat → Nat) (x1 x2 x3 : Int32) (hy0 : ¬ (1 ≤ x1.toInt ∧ x1.toInt ≤ 3000 ∧ 1 ≤ x2.toInt ∧ x2.toInt ≤ 12 ∧ 1 ≤ x3.toInt ∧ x3.toInt ≤ pm_ln x1.toInt.toNat x2.toInt.toNat)) : pz_I l yX1_numberByCounting wsX1_numberByCounting ({ frames := 4, cells := 0, slots := 0, locals := 89 } : Room) D ((cyI, .int) :: ts) [.ref h1, .int x1, .int x2, .int x3] [(h1, .inr (1, [.int th, .int yr, .int mo, .int da, .int (nI mk), .ref bc, .ref bf, .ref bg, .int (nI wr)])), (bc, .inl (cyI, 366, .inl (pz_ar rc))), (bf, .inl (cyI, 3001, .inl (pz_ar ff))), (bg, .inl (cyI, 3001, .inl (pz_ar gg)))] (S := Unit) (fun r _ => r = nI 0) (fun _ => [(h1, .inr (1, [.int (nI 1), .int yr, .int mo, .int da, .int (nI mk), .ref bc, .ref bf, .ref bg, .int (nI wr)])), (bc, .inl (cyI, 366, .inl (pz_ar rc))), (bf, .inl (cyI, 3001, .inl (pz_ar ff))), (bg, .inl (cyI, 3001, .inl (pz_ar gg)))]) := by
  refine pz_I_of (cc := cX1_numberByCounting) (maxL := 4) (ty := .int) (own := RX1) (by decide) rfl rfl (Nat.le_of_ble_eq_true rfl) ?_
  intro p e s m below meth c A ls Q hx hb hml hown hts hK hP hD hS hA hl hQ
  have hl : lv_has ls 4 [(0, .ref h1), (1, .int x1), (2, .int x2), (3, .int x3)] := hl
  refine lv_aload_n hx hb dX1_numberByCounting_0 rfl (lv_at hl 0 rfl) ?_
  refine lv_iload_n hx hb dX1_numberByCounting_1 rfl (lv_at hl 1 rfl) ?_
  refine lv_iload_n hx hb dX1_numberByCounting_2 rfl (lv_at hl 2 rfl) ?_
  refine lv_iload_n hx hb dX1_numberByCounting_3 rfl (lv_at hl 3 rfl) ?_
  refine pz_VI (rest := []) (wr := []) ⟨hx, hb, hml, hown, hts⟩ (k_X1_number_x l D h1 bc bf bg cyI ts th yr mo da mk wr rc ff gg x1 x2 x3 (by exact hy0)) (cwV 3 hts gX1_numberByCounting_X1_number rfl rfl rfl (by decide +kernel) ⟨Nat.le_of_ble_eq_true rfl, Nat.le_of_ble_eq_true rfl⟩) hK hP hD hS hA [0, 1, 2, 3] [] rfl rfl rfl rfl rfl (by decide) 0 1 rfl rfl rfl hl.1 rfl (lv_room (Nat.le_of_ble_eq_true rfl)) dX1_numberByCounting_4 ⟨Nat.le_of_ble_eq_true rfl, Nat.le_of_ble_eq_true rfl⟩ (fun r u H locs hr hP hD hS => ?_)
  have hP : va_P D vwCl [(h1, .inr (1, [.int (nI 1), .int yr, .int mo, .int da, .int (nI mk), .ref bc, .ref bf, .ref bg, .int (nI wr)])), (bc, .inl (cyI, 366, .inl (pz_ar rc))), (bf, .inl (cyI, 3001, .inl (pz_ar ff))), (bg, .inl (cyI, 3001, .inl (pz_ar gg)))] H := hP
  have hD : va_D A [(h1, .inr (1, [.int (nI 1), .int yr, .int mo, .int da, .int (nI mk), .ref bc, .ref bf, .ref bg, .int (nI wr)])), (bc, .inl (cyI, 366, .inl (pz_ar rc))), (bf, .inl (cyI, 3001, .inl (pz_ar ff))), (bg, .inl (cyI, 3001, .inl (pz_ar gg)))] := hD
  obtain rfl : r = (nI 0) := hr
  exact hQ _ _ _ _ _ () dX1_numberByCounting_7 rfl (congrArg nI (by rfl)) hP hD hS
set_option maxHeartbeats 4000000 in
set_option maxRecDepth 100000 in
theorem k_X1_yearOf_a (l : Launch) (D : va_G) (h1 bc bf bg : Nat) (cyI : ClassId) (ts : List (ClassId × FieldType)) (th yr mo da : Int32) (mk wr : Nat) (rc ff gg : Nat → Nat) (n : Nat) (hy0 : n < 1095750) : pz_I l yX1_yearOf wsX1_yearOf ({ frames := 4, cells := 0, slots := 0, locals := 85 } : Room) D ((cyI, .int) :: ts) [.ref h1, .int (nI n)] [(h1, .inr (1, [.int th, .int yr, .int mo, .int da, .int (nI mk), .ref bc, .ref bf, .ref bg, .int (nI wr)])), (bc, .inl (cyI, 366, .inl (pz_ar rc))), (bf, .inl (cyI, 3001, .inl (pz_ar ff))), (bg, .inl (cyI, 3001, .inl (pz_ar gg)))] (S := Unit) (fun r _ => r = nI (pm_yr n)) (fun _ => [(h1, .inr (1, [.int (nI 0), .int (nI (pm_yr n)), .int (nI (pm_mo n)), .int (nI (pm_da n)), .int (nI mk), .ref bc, .ref bf, .ref bg, .int (nI wr)])), (bc, .inl (cyI, 366, .inl (pz_ar rc))), (bf, .inl (cyI, 3001, .inl (pz_ar ff))), (bg, .inl (cyI, 3001, .inl (pz_ar gg)))]) := by
  refine pz_I_of (cc := cX1_yearOf) (maxL := 2) (ty := .int) (own := RX1) (by decide) rfl rfl (Nat.le_of_ble_eq_true rfl) ?_
  intro p e s m below meth c A ls Q hx hb hml hown hts hK hP hD hS hA hl hQ
  have hl : lv_has ls 2 [(0, .ref h1), (1, .int (nI n))] := hl
  have hin : ∀ w ∈ u_ws RX1 TX1 9, w ∈ wsX1_yearOf := by decide +kernel
  refine lv_aload_n hx hb dX1_yearOf_0 rfl (lv_at hl 0 rfl) ?_
  refine lv_iload_n hx hb dX1_yearOf_1 rfl (lv_at hl 1 rfl) ?_
  refine pz_VI (rest := []) (wr := []) ⟨hx, hb, hml, hown, hts⟩ (k_X1_isAsked_a l D h1 bc bf bg cyI ts th yr mo da mk wr rc ff gg n (by omega)) (cwV 1 hts gX1_yearOf_X1_isAsked rfl rfl rfl (by decide +kernel) ⟨Nat.le_of_ble_eq_true rfl, Nat.le_of_ble_eq_true rfl⟩) hK hP hD hS hA [0, 1, 2, 3] [] rfl rfl rfl rfl rfl (by decide) 0 1 rfl rfl rfl hl.1 rfl (lv_room (Nat.le_of_ble_eq_true rfl)) dX1_yearOf_2 ⟨Nat.le_of_ble_eq_true rfl, Nat.le_of_ble_eq_true rfl⟩ (fun r u H locs hr hP hD hS => ?_)
  have hP : va_P D vwCl [(h1, .inr (1, [.int (nI 0), .int (nI (pm_yr n)), .int (nI (pm_mo n)), .int (nI (pm_da n)), .int (nI mk), .ref bc, .ref bf, .ref bg, .int (nI wr)])), (bc, .inl (cyI, 366, .inl (pz_ar rc))), (bf, .inl (cyI, 3001, .inl (pz_ar ff))), (bg, .inl (cyI, 3001, .inl (pz_ar gg)))] H := hP
  have hD : va_D A [(h1, .inr (1, [.int (nI 0), .int (nI (pm_yr n)), .int (nI (pm_mo n)), .int (nI (pm_da n)), .int (nI mk), .ref bc, .ref bf, .ref bg, .int (nI wr)])), (bc, .inl (cyI, 366, .inl (pz_ar rc))), (bf, .inl (cyI, 3001, .inl (pz_ar ff))), (bg, .inl (cyI, 3001, .inl (pz_ar gg)))] := hD
  obtain rfl : r = (nI 1) := hr
  refine pn_if_eq (tgt := 15) hx hb (by omega) dX1_yearOf_5 (by decide) (fun c_2 => absurd c_2 (by decide)) (fun _ => ?_)
  refine lv_aload_n hx hb dX1_yearOf_8 rfl (lv_at hl 0 rfl) ?_
  refine va_get (D := D) (ci := 1) (v := .int (nI (pm_yr n))) (C := RX1) (T := TX1) (N := 9) hx hb hts hin hown hK hP 0 rfl rfl 1 (by decide) (hts (.fieldLink RX1 56 "RomanCalendarModel" "year" "I") (by decide +kernel)) (fun _ h9 => h9) rfl dX1_yearOf_9 ?_
  refine lv_goto (tgt := 16) hx hb dX1_yearOf_12 (by decide) ?_
  exact hQ _ _ _ _ _ () dX1_yearOf_16 rfl (congrArg nI (by rfl)) hP hD hS
set_option maxHeartbeats 4000000 in
set_option maxRecDepth 100000 in
theorem k_X1_monthOf_a (l : Launch) (D : va_G) (h1 bc bf bg : Nat) (cyI : ClassId) (ts : List (ClassId × FieldType)) (th yr mo da : Int32) (mk wr : Nat) (rc ff gg : Nat → Nat) (n : Nat) (hy0 : n < 1095750) : pz_I l yX1_monthOf wsX1_monthOf ({ frames := 4, cells := 0, slots := 0, locals := 85 } : Room) D ((cyI, .int) :: ts) [.ref h1, .int (nI n)] [(h1, .inr (1, [.int th, .int yr, .int mo, .int da, .int (nI mk), .ref bc, .ref bf, .ref bg, .int (nI wr)])), (bc, .inl (cyI, 366, .inl (pz_ar rc))), (bf, .inl (cyI, 3001, .inl (pz_ar ff))), (bg, .inl (cyI, 3001, .inl (pz_ar gg)))] (S := Unit) (fun r _ => r = nI (pm_mo n)) (fun _ => [(h1, .inr (1, [.int (nI 0), .int (nI (pm_yr n)), .int (nI (pm_mo n)), .int (nI (pm_da n)), .int (nI mk), .ref bc, .ref bf, .ref bg, .int (nI wr)])), (bc, .inl (cyI, 366, .inl (pz_ar rc))), (bf, .inl (cyI, 3001, .inl (pz_ar ff))), (bg, .inl (cyI, 3001, .inl (pz_ar gg)))]) := by
  refine pz_I_of (cc := cX1_monthOf) (maxL := 2) (ty := .int) (own := RX1) (by decide) rfl rfl (Nat.le_of_ble_eq_true rfl) ?_
  intro p e s m below meth c A ls Q hx hb hml hown hts hK hP hD hS hA hl hQ
  have hl : lv_has ls 2 [(0, .ref h1), (1, .int (nI n))] := hl
  have hin : ∀ w ∈ u_ws RX1 TX1 9, w ∈ wsX1_monthOf := by decide +kernel
  refine lv_aload_n hx hb dX1_monthOf_0 rfl (lv_at hl 0 rfl) ?_
  refine lv_iload_n hx hb dX1_monthOf_1 rfl (lv_at hl 1 rfl) ?_
  refine pz_VI (rest := []) (wr := []) ⟨hx, hb, hml, hown, hts⟩ (k_X1_isAsked_a l D h1 bc bf bg cyI ts th yr mo da mk wr rc ff gg n (by omega)) (cwV 1 hts gX1_monthOf_X1_isAsked rfl rfl rfl (by decide +kernel) ⟨Nat.le_of_ble_eq_true rfl, Nat.le_of_ble_eq_true rfl⟩) hK hP hD hS hA [0, 1, 2, 3] [] rfl rfl rfl rfl rfl (by decide) 0 1 rfl rfl rfl hl.1 rfl (lv_room (Nat.le_of_ble_eq_true rfl)) dX1_monthOf_2 ⟨Nat.le_of_ble_eq_true rfl, Nat.le_of_ble_eq_true rfl⟩ (fun r u H locs hr hP hD hS => ?_)
  have hP : va_P D vwCl [(h1, .inr (1, [.int (nI 0), .int (nI (pm_yr n)), .int (nI (pm_mo n)), .int (nI (pm_da n)), .int (nI mk), .ref bc, .ref bf, .ref bg, .int (nI wr)])), (bc, .inl (cyI, 366, .inl (pz_ar rc))), (bf, .inl (cyI, 3001, .inl (pz_ar ff))), (bg, .inl (cyI, 3001, .inl (pz_ar gg)))] H := hP
  have hD : va_D A [(h1, .inr (1, [.int (nI 0), .int (nI (pm_yr n)), .int (nI (pm_mo n)), .int (nI (pm_da n)), .int (nI mk), .ref bc, .ref bf, .ref bg, .int (nI wr)])), (bc, .inl (cyI, 366, .inl (pz_ar rc))), (bf, .inl (cyI, 3001, .inl (pz_ar ff))), (bg, .inl (cyI, 3001, .inl (pz_ar gg)))] := hD
  obtain rfl : r = (nI 1) := hr
  refine pn_if_eq (tgt := 15) hx hb (by omega) dX1_monthOf_5 (by decide) (fun c_2 => absurd c_2 (by decide)) (fun _ => ?_)
  refine lv_aload_n hx hb dX1_monthOf_8 rfl (lv_at hl 0 rfl) ?_
  refine va_get (D := D) (ci := 1) (v := .int (nI (pm_mo n))) (C := RX1) (T := TX1) (N := 9) hx hb hts hin hown hK hP 0 rfl rfl 2 (by decide) (hts (.fieldLink RX1 27 "RomanCalendarModel" "month" "I") (by decide +kernel)) (fun _ h9 => h9) rfl dX1_monthOf_9 ?_
  refine lv_goto (tgt := 16) hx hb dX1_monthOf_12 (by decide) ?_
  exact hQ _ _ _ _ _ () dX1_monthOf_16 rfl (congrArg nI (by rfl)) hP hD hS
set_option maxHeartbeats 4000000 in
set_option maxRecDepth 100000 in
theorem k_X1_dayOf_a (l : Launch) (D : va_G) (h1 bc bf bg : Nat) (cyI : ClassId) (ts : List (ClassId × FieldType)) (th yr mo da : Int32) (mk wr : Nat) (rc ff gg : Nat → Nat) (n : Nat) (hy0 : n < 1095750) : pz_I l yX1_dayOf wsX1_dayOf ({ frames := 4, cells := 0, slots := 0, locals := 85 } : Room) D ((cyI, .int) :: ts) [.ref h1, .int (nI n)] [(h1, .inr (1, [.int th, .int yr, .int mo, .int da, .int (nI mk), .ref bc, .ref bf, .ref bg, .int (nI wr)])), (bc, .inl (cyI, 366, .inl (pz_ar rc))), (bf, .inl (cyI, 3001, .inl (pz_ar ff))), (bg, .inl (cyI, 3001, .inl (pz_ar gg)))] (S := Unit) (fun r _ => r = nI (pm_da n)) (fun _ => [(h1, .inr (1, [.int (nI 0), .int (nI (pm_yr n)), .int (nI (pm_mo n)), .int (nI (pm_da n)), .int (nI mk), .ref bc, .ref bf, .ref bg, .int (nI wr)])), (bc, .inl (cyI, 366, .inl (pz_ar rc))), (bf, .inl (cyI, 3001, .inl (pz_ar ff))), (bg, .inl (cyI, 3001, .inl (pz_ar gg)))]) := by
  refine pz_I_of (cc := cX1_dayOf) (maxL := 2) (ty := .int) (own := RX1) (by decide) rfl rfl (Nat.le_of_ble_eq_true rfl) ?_
  intro p e s m below meth c A ls Q hx hb hml hown hts hK hP hD hS hA hl hQ
  have hl : lv_has ls 2 [(0, .ref h1), (1, .int (nI n))] := hl
  have hin : ∀ w ∈ u_ws RX1 TX1 9, w ∈ wsX1_dayOf := by decide +kernel
  refine lv_aload_n hx hb dX1_dayOf_0 rfl (lv_at hl 0 rfl) ?_
  refine lv_iload_n hx hb dX1_dayOf_1 rfl (lv_at hl 1 rfl) ?_
  refine pz_VI (rest := []) (wr := []) ⟨hx, hb, hml, hown, hts⟩ (k_X1_isAsked_a l D h1 bc bf bg cyI ts th yr mo da mk wr rc ff gg n (by omega)) (cwV 1 hts gX1_dayOf_X1_isAsked rfl rfl rfl (by decide +kernel) ⟨Nat.le_of_ble_eq_true rfl, Nat.le_of_ble_eq_true rfl⟩) hK hP hD hS hA [0, 1, 2, 3] [] rfl rfl rfl rfl rfl (by decide) 0 1 rfl rfl rfl hl.1 rfl (lv_room (Nat.le_of_ble_eq_true rfl)) dX1_dayOf_2 ⟨Nat.le_of_ble_eq_true rfl, Nat.le_of_ble_eq_true rfl⟩ (fun r u H locs hr hP hD hS => ?_)
  have hP : va_P D vwCl [(h1, .inr (1, [.int (nI 0), .int (nI (pm_yr n)), .int (nI (pm_mo n)), .int (nI (pm_da n)), .int (nI mk), .ref bc, .ref bf, .ref bg, .int (nI wr)])), (bc, .inl (cyI, 366, .inl (pz_ar rc))), (bf, .inl (cyI, 3001, .inl (pz_ar ff))), (bg, .inl (cyI, 3001, .inl (pz_ar gg)))] H := hP
  have hD : va_D A [(h1, .inr (1, [.int (nI 0), .int (nI (pm_yr n)), .int (nI (pm_mo n)), .int (nI (pm_da n)), .int (nI mk), .ref bc, .ref bf, .ref bg, .int (nI wr)])), (bc, .inl (cyI, 366, .inl (pz_ar rc))), (bf, .inl (cyI, 3001, .inl (pz_ar ff))), (bg, .inl (cyI, 3001, .inl (pz_ar gg)))] := hD
  obtain rfl : r = (nI 1) := hr
  refine pn_if_eq (tgt := 15) hx hb (by omega) dX1_dayOf_5 (by decide) (fun c_2 => absurd c_2 (by decide)) (fun _ => ?_)
  refine lv_aload_n hx hb dX1_dayOf_8 rfl (lv_at hl 0 rfl) ?_
  refine va_get (D := D) (ci := 1) (v := .int (nI (pm_da n))) (C := RX1) (T := TX1) (N := 9) hx hb hts hin hown hK hP 0 rfl rfl 3 (by decide) (hts (.fieldLink RX1 23 "RomanCalendarModel" "day" "I") (by decide +kernel)) (fun _ h9 => h9) rfl dX1_dayOf_9 ?_
  refine lv_goto (tgt := 16) hx hb dX1_dayOf_12 (by decide) ?_
  exact hQ _ _ _ _ _ () dX1_dayOf_16 rfl (congrArg nI (by rfl)) hP hD hS
set_option maxHeartbeats 4000000 in
set_option maxRecDepth 100000 in
theorem k_X1_weekdayOf_a (l : Launch) (D : va_G) (h1 bc bf bg : Nat) (cyI : ClassId) (ts : List (ClassId × FieldType)) (th yr mo da : Int32) (mk wr : Nat) (rc ff gg : Nat → Nat) (n : Nat) (hy0 : n < 1095750) : pz_I l yX1_weekdayOf wsX1_weekdayOf ({ frames := 2, cells := 0, slots := 0, locals := 42 } : Room) D ((cyI, .int) :: ts) [.ref h1, .int (nI n)] [(h1, .inr (1, [.int th, .int yr, .int mo, .int da, .int (nI mk), .ref bc, .ref bf, .ref bg, .int (nI wr)])), (bc, .inl (cyI, 366, .inl (pz_ar rc))), (bf, .inl (cyI, 3001, .inl (pz_ar ff))), (bg, .inl (cyI, 3001, .inl (pz_ar gg)))] (S := Unit) (fun r _ => r = nI ((n + 6) % 7)) (fun _ => [(h1, .inr (1, [.int (nI 0), .int yr, .int mo, .int da, .int (nI mk), .ref bc, .ref bf, .ref bg, .int (nI wr)])), (bc, .inl (cyI, 366, .inl (pz_ar rc))), (bf, .inl (cyI, 3001, .inl (pz_ar ff))), (bg, .inl (cyI, 3001, .inl (pz_ar gg)))]) := by
  refine pz_I_of (cc := cX1_weekdayOf) (maxL := 2) (ty := .int) (own := RX1) (by decide) rfl rfl (Nat.le_of_ble_eq_true rfl) ?_
  intro p e s m below meth c A ls Q hx hb hml hown hts hK hP hD hS hA hl hQ
  have hl : lv_has ls 2 [(0, .ref h1), (1, .int (nI n))] := hl
  refine lv_aload_n hx hb dX1_weekdayOf_0 rfl (lv_at hl 0 rfl) ?_
  refine lv_iload_n hx hb dX1_weekdayOf_1 rfl (lv_at hl 1 rfl) ?_
  refine pz_SR (rest := [.ref h1]) ⟨hx, hb, hml, hown, hts⟩ (k_X1_isDay_a l D ((cyI, .int) :: ts) n (by omega)) (va_cwS 1 hts gX1_weekdayOf_X1_isDay rfl rfl rfl (by decide +kernel) ⟨Nat.le_of_ble_eq_true rfl, Nat.le_of_ble_eq_true rfl⟩) hK hP (hD.weaken (fun _ _ _ _ => trivial)) hS hA [] rfl rfl rfl rfl hl.1 rfl (lv_room (Nat.le_of_ble_eq_true rfl)) dX1_weekdayOf_2 ⟨Nat.le_of_ble_eq_true rfl, Nat.le_of_ble_eq_true rfl⟩ (fun r H locs hr hP hS => ?_)
  obtain rfl : r = (nI 1) := hr
  refine pn_if_eq (tgt := 12) hx hb (by omega) dX1_weekdayOf_5 (by decide) (fun c_2 => absurd c_2 (by decide)) (fun _ => ?_)
  refine lv_iconst (v := nI 0) hx hb dX1_weekdayOf_8 (by decide) ?_
  refine lv_goto (tgt := 13) hx hb dX1_weekdayOf_9 (by decide) ?_
  refine pz_VI (rest := []) (wr := []) ⟨hx, hb, hml, hown, hts⟩ (k_X1_isFine_0 l D h1 bc bf bg cyI ts th yr mo da mk wr rc ff gg  ) (cwV 1 hts gX1_weekdayOf_X1_isFine rfl rfl rfl (by decide +kernel) ⟨Nat.le_of_ble_eq_true rfl, Nat.le_of_ble_eq_true rfl⟩) hK hP hD hS hA [0, 1, 2, 3] [] rfl rfl rfl rfl rfl (by decide) 0 1 rfl rfl rfl hl.1 rfl (lv_room (Nat.le_of_ble_eq_true rfl)) dX1_weekdayOf_13 ⟨Nat.le_of_ble_eq_true rfl, Nat.le_of_ble_eq_true rfl⟩ (fun r u H locs hr hP hD hS => ?_)
  have hP : va_P D vwCl [(h1, .inr (1, [.int (nI 0), .int yr, .int mo, .int da, .int (nI mk), .ref bc, .ref bf, .ref bg, .int (nI wr)])), (bc, .inl (cyI, 366, .inl (pz_ar rc))), (bf, .inl (cyI, 3001, .inl (pz_ar ff))), (bg, .inl (cyI, 3001, .inl (pz_ar gg)))] H := hP
  have hD : va_D A [(h1, .inr (1, [.int (nI 0), .int yr, .int mo, .int da, .int (nI mk), .ref bc, .ref bf, .ref bg, .int (nI wr)])), (bc, .inl (cyI, 366, .inl (pz_ar rc))), (bf, .inl (cyI, 3001, .inl (pz_ar ff))), (bg, .inl (cyI, 3001, .inl (pz_ar gg)))] := hD
  obtain rfl : r = (nI 1) := hr
  refine pn_if_eq (tgt := 29) hx hb (by omega) dX1_weekdayOf_16 (by decide) (fun c_4 => absurd c_4 (by decide)) (fun _ => ?_)
  refine lv_iload_n hx hb dX1_weekdayOf_19 rfl (lv_at hl 1 rfl) ?_
  refine lv_bipush (v := nI 6) hx hb dX1_weekdayOf_20 (by decide) ?_
  refine pn_iadd hx hb dX1_weekdayOf_22 ?_
  refine lv_bipush (v := nI 7) hx hb dX1_weekdayOf_23 (by decide) ?_
  refine pn_irem hx hb (by omega) (by omega) (by omega) dX1_weekdayOf_25 ?_
  refine lv_goto (tgt := 30) hx hb dX1_weekdayOf_26 (by decide) ?_
  exact hQ _ _ _ _ _ () dX1_weekdayOf_30 rfl (congrArg nI (by rfl)) hP hD hS
set_option maxHeartbeats 4000000 in
set_option maxRecDepth 100000 in
theorem k_X1_anchorOf_a (l : Launch) (D : va_G) (h1 bc bf bg : Nat) (cyI : ClassId) (ts : List (ClassId × FieldType)) (th yr mo da : Int32) (mk wr : Nat) (rc ff gg : Nat → Nat) (n : Nat) (hy0 : n < 1095750) : pz_I l yX1_anchorOf wsX1_anchorOf ({ frames := 4, cells := 0, slots := 0, locals := 85 } : Room) D ((cyI, .int) :: ts) [.ref h1, .int (nI n)] [(h1, .inr (1, [.int th, .int yr, .int mo, .int da, .int (nI mk), .ref bc, .ref bf, .ref bg, .int (nI wr)])), (bc, .inl (cyI, 366, .inl (pz_ar rc))), (bf, .inl (cyI, 3001, .inl (pz_ar ff))), (bg, .inl (cyI, 3001, .inl (pz_ar gg)))] (S := Unit) (fun r _ => r = nI (pm_ap (pm_pl n))) (fun _ => [(h1, .inr (1, [.int (nI 0), .int (nI (pm_yr n)), .int (nI (pm_mo n)), .int (nI (pm_da n)), .int (nI mk), .ref bc, .ref bf, .ref bg, .int (nI wr)])), (bc, .inl (cyI, 366, .inl (pz_ar rc))), (bf, .inl (cyI, 3001, .inl (pz_ar ff))), (bg, .inl (cyI, 3001, .inl (pz_ar gg)))]) := by
  refine pz_I_of (cc := cX1_anchorOf) (maxL := 2) (ty := .int) (own := RX1) (by decide) rfl rfl (Nat.le_of_ble_eq_true rfl) ?_
  intro p e s m below meth c A ls Q hx hb hml hown hts hK hP hD hS hA hl hQ
  have hl : lv_has ls 2 [(0, .ref h1), (1, .int (nI n))] := hl
  refine lv_aload_n hx hb dX1_anchorOf_0 rfl (lv_at hl 0 rfl) ?_
  refine lv_iload_n hx hb dX1_anchorOf_1 rfl (lv_at hl 1 rfl) ?_
  refine pz_VI (rest := []) (wr := []) ⟨hx, hb, hml, hown, hts⟩ (k_X1_isAsked_a l D h1 bc bf bg cyI ts th yr mo da mk wr rc ff gg n (by omega)) (cwV 1 hts gX1_anchorOf_X1_isAsked rfl rfl rfl (by decide +kernel) ⟨Nat.le_of_ble_eq_true rfl, Nat.le_of_ble_eq_true rfl⟩) hK hP hD hS hA [0, 1, 2, 3] [] rfl rfl rfl rfl rfl (by decide) 0 1 rfl rfl rfl hl.1 rfl (lv_room (Nat.le_of_ble_eq_true rfl)) dX1_anchorOf_2 ⟨Nat.le_of_ble_eq_true rfl, Nat.le_of_ble_eq_true rfl⟩ (fun r u H locs hr hP hD hS => ?_)
  have hP : va_P D vwCl [(h1, .inr (1, [.int (nI 0), .int (nI (pm_yr n)), .int (nI (pm_mo n)), .int (nI (pm_da n)), .int (nI mk), .ref bc, .ref bf, .ref bg, .int (nI wr)])), (bc, .inl (cyI, 366, .inl (pz_ar rc))), (bf, .inl (cyI, 3001, .inl (pz_ar ff))), (bg, .inl (cyI, 3001, .inl (pz_ar gg)))] H := hP
  have hD : va_D A [(h1, .inr (1, [.int (nI 0), .int (nI (pm_yr n)), .int (nI (pm_mo n)), .int (nI (pm_da n)), .int (nI mk), .ref bc, .ref bf, .ref bg, .int (nI wr)])), (bc, .inl (cyI, 366, .inl (pz_ar rc))), (bf, .inl (cyI, 3001, .inl (pz_ar ff))), (bg, .inl (cyI, 3001, .inl (pz_ar gg)))] := hD
  obtain rfl : r = (nI 1) := hr
  refine pn_if_eq (tgt := 15) hx hb (by omega) dX1_anchorOf_5 (by decide) (fun c_2 => absurd c_2 (by decide)) (fun _ => ?_)
  refine lv_aload_n hx hb dX1_anchorOf_8 rfl (lv_at hl 0 rfl) ?_
  refine pz_VR (rest := []) ⟨hx, hb, hml, hown, hts⟩ (k_X1_anchorNow l D h1 bc bf bg cyI ts (nI 0) mk wr rc ff gg n (by omega)) (cwV 0 hts gX1_anchorOf_X1_anchorNow rfl rfl rfl (by decide +kernel) ⟨Nat.le_of_ble_eq_true rfl, Nat.le_of_ble_eq_true rfl⟩) hK hP (hD.weaken (fun _ _ _ _ => trivial)) hS hA [0, 1, 2, 3] rfl rfl rfl 0 1 rfl rfl rfl hl.1 rfl (lv_room (Nat.le_of_ble_eq_true rfl)) dX1_anchorOf_9 ⟨Nat.le_of_ble_eq_true rfl, Nat.le_of_ble_eq_true rfl⟩ (fun r H locs hr hP hS => ?_)
  obtain rfl : r = (nI (pm_ap (pm_pl n))) := hr
  have hf_4 := pm_ap_b (pm_pl n)
  refine lv_goto (tgt := 16) hx hb dX1_anchorOf_12 (by decide) ?_
  exact hQ _ _ _ _ _ () dX1_anchorOf_16 rfl (congrArg nI (by rfl)) hP hD hS
set_option maxHeartbeats 4000000 in
set_option maxRecDepth 100000 in
theorem k_X1_anchorMonthOf_a (l : Launch) (D : va_G) (h1 bc bf bg : Nat) (cyI : ClassId) (ts : List (ClassId × FieldType)) (th yr mo da : Int32) (mk wr : Nat) (rc ff gg : Nat → Nat) (n : Nat) (hy0 : n < 1095750) : pz_I l yX1_anchorMonthOf wsX1_anchorMonthOf ({ frames := 4, cells := 0, slots := 0, locals := 85 } : Room) D ((cyI, .int) :: ts) [.ref h1, .int (nI n)] [(h1, .inr (1, [.int th, .int yr, .int mo, .int da, .int (nI mk), .ref bc, .ref bf, .ref bg, .int (nI wr)])), (bc, .inl (cyI, 366, .inl (pz_ar rc))), (bf, .inl (cyI, 3001, .inl (pz_ar ff))), (bg, .inl (cyI, 3001, .inl (pz_ar gg)))] (S := Unit) (fun r _ => r = nI (pm_am (pm_pl n))) (fun _ => [(h1, .inr (1, [.int (nI 0), .int (nI (pm_yr n)), .int (nI (pm_mo n)), .int (nI (pm_da n)), .int (nI mk), .ref bc, .ref bf, .ref bg, .int (nI wr)])), (bc, .inl (cyI, 366, .inl (pz_ar rc))), (bf, .inl (cyI, 3001, .inl (pz_ar ff))), (bg, .inl (cyI, 3001, .inl (pz_ar gg)))]) := by
  refine pz_I_of (cc := cX1_anchorMonthOf) (maxL := 2) (ty := .int) (own := RX1) (by decide) rfl rfl (Nat.le_of_ble_eq_true rfl) ?_
  intro p e s m below meth c A ls Q hx hb hml hown hts hK hP hD hS hA hl hQ
  have hl : lv_has ls 2 [(0, .ref h1), (1, .int (nI n))] := hl
  refine lv_aload_n hx hb dX1_anchorMonthOf_0 rfl (lv_at hl 0 rfl) ?_
  refine lv_iload_n hx hb dX1_anchorMonthOf_1 rfl (lv_at hl 1 rfl) ?_
  refine pz_VI (rest := []) (wr := []) ⟨hx, hb, hml, hown, hts⟩ (k_X1_isAsked_a l D h1 bc bf bg cyI ts th yr mo da mk wr rc ff gg n (by omega)) (cwV 1 hts gX1_anchorMonthOf_X1_isAsked rfl rfl rfl (by decide +kernel) ⟨Nat.le_of_ble_eq_true rfl, Nat.le_of_ble_eq_true rfl⟩) hK hP hD hS hA [0, 1, 2, 3] [] rfl rfl rfl rfl rfl (by decide) 0 1 rfl rfl rfl hl.1 rfl (lv_room (Nat.le_of_ble_eq_true rfl)) dX1_anchorMonthOf_2 ⟨Nat.le_of_ble_eq_true rfl, Nat.le_of_ble_eq_true rfl⟩ (fun r u H locs hr hP hD hS => ?_)
  have hP : va_P D vwCl [(h1, .inr (1, [.int (nI 0), .int (nI (pm_yr n)), .int (nI (pm_mo n)), .int (nI (pm_da n)), .int (nI mk), .ref bc, .ref bf, .ref bg, .int (nI wr)])), (bc, .inl (cyI, 366, .inl (pz_ar rc))), (bf, .inl (cyI, 3001, .inl (pz_ar ff))), (bg, .inl (cyI, 3001, .inl (pz_ar gg)))] H := hP
  have hD : va_D A [(h1, .inr (1, [.int (nI 0), .int (nI (pm_yr n)), .int (nI (pm_mo n)), .int (nI (pm_da n)), .int (nI mk), .ref bc, .ref bf, .ref bg, .int (nI wr)])), (bc, .inl (cyI, 366, .inl (pz_ar rc))), (bf, .inl (cyI, 3001, .inl (pz_ar ff))), (bg, .inl (cyI, 3001, .inl (pz_ar gg)))] := hD
  obtain rfl : r = (nI 1) := hr
  refine pn_if_eq (tgt := 15) hx hb (by omega) dX1_anchorMonthOf_5 (by decide) (fun c_2 => absurd c_2 (by decide)) (fun _ => ?_)
  refine lv_aload_n hx hb dX1_anchorMonthOf_8 rfl (lv_at hl 0 rfl) ?_
  refine pz_VR (rest := []) ⟨hx, hb, hml, hown, hts⟩ (k_X1_anchorMonthNow l D h1 bc bf bg cyI ts (nI 0) mk wr rc ff gg n (by omega)) (cwV 0 hts gX1_anchorMonthOf_X1_anchorMonthNow rfl rfl rfl (by decide +kernel) ⟨Nat.le_of_ble_eq_true rfl, Nat.le_of_ble_eq_true rfl⟩) hK hP (hD.weaken (fun _ _ _ _ => trivial)) hS hA [0, 1, 2, 3] rfl rfl rfl 0 1 rfl rfl rfl hl.1 rfl (lv_room (Nat.le_of_ble_eq_true rfl)) dX1_anchorMonthOf_9 ⟨Nat.le_of_ble_eq_true rfl, Nat.le_of_ble_eq_true rfl⟩ (fun r H locs hr hP hS => ?_)
  obtain rfl : r = (nI (pm_am (pm_pl n))) := hr
  have hf_4 := pm_am_b (pm_pl n)
  refine lv_goto (tgt := 16) hx hb dX1_anchorMonthOf_12 (by decide) ?_
  exact hQ _ _ _ _ _ () dX1_anchorMonthOf_16 rfl (congrArg nI (by rfl)) hP hD hS
set_option maxHeartbeats 4000000 in
set_option maxRecDepth 100000 in
theorem k_X1_countOf_a (l : Launch) (D : va_G) (h1 bc bf bg : Nat) (cyI : ClassId) (ts : List (ClassId × FieldType)) (th yr mo da : Int32) (mk wr : Nat) (rc ff gg : Nat → Nat) (n : Nat) (hy0 : n < 1095750) : pz_I l yX1_countOf wsX1_countOf ({ frames := 4, cells := 0, slots := 0, locals := 85 } : Room) D ((cyI, .int) :: ts) [.ref h1, .int (nI n)] [(h1, .inr (1, [.int th, .int yr, .int mo, .int da, .int (nI mk), .ref bc, .ref bf, .ref bg, .int (nI wr)])), (bc, .inl (cyI, 366, .inl (pz_ar rc))), (bf, .inl (cyI, 3001, .inl (pz_ar ff))), (bg, .inl (cyI, 3001, .inl (pz_ar gg)))] (S := Unit) (fun r _ => r = nI (pm_ct (pm_pl n))) (fun _ => [(h1, .inr (1, [.int (nI 0), .int (nI (pm_yr n)), .int (nI (pm_mo n)), .int (nI (pm_da n)), .int (nI mk), .ref bc, .ref bf, .ref bg, .int (nI wr)])), (bc, .inl (cyI, 366, .inl (pz_ar rc))), (bf, .inl (cyI, 3001, .inl (pz_ar ff))), (bg, .inl (cyI, 3001, .inl (pz_ar gg)))]) := by
  refine pz_I_of (cc := cX1_countOf) (maxL := 2) (ty := .int) (own := RX1) (by decide) rfl rfl (Nat.le_of_ble_eq_true rfl) ?_
  intro p e s m below meth c A ls Q hx hb hml hown hts hK hP hD hS hA hl hQ
  have hl : lv_has ls 2 [(0, .ref h1), (1, .int (nI n))] := hl
  refine lv_aload_n hx hb dX1_countOf_0 rfl (lv_at hl 0 rfl) ?_
  refine lv_iload_n hx hb dX1_countOf_1 rfl (lv_at hl 1 rfl) ?_
  refine pz_VI (rest := []) (wr := []) ⟨hx, hb, hml, hown, hts⟩ (k_X1_isAsked_a l D h1 bc bf bg cyI ts th yr mo da mk wr rc ff gg n (by omega)) (cwV 1 hts gX1_countOf_X1_isAsked rfl rfl rfl (by decide +kernel) ⟨Nat.le_of_ble_eq_true rfl, Nat.le_of_ble_eq_true rfl⟩) hK hP hD hS hA [0, 1, 2, 3] [] rfl rfl rfl rfl rfl (by decide) 0 1 rfl rfl rfl hl.1 rfl (lv_room (Nat.le_of_ble_eq_true rfl)) dX1_countOf_2 ⟨Nat.le_of_ble_eq_true rfl, Nat.le_of_ble_eq_true rfl⟩ (fun r u H locs hr hP hD hS => ?_)
  have hP : va_P D vwCl [(h1, .inr (1, [.int (nI 0), .int (nI (pm_yr n)), .int (nI (pm_mo n)), .int (nI (pm_da n)), .int (nI mk), .ref bc, .ref bf, .ref bg, .int (nI wr)])), (bc, .inl (cyI, 366, .inl (pz_ar rc))), (bf, .inl (cyI, 3001, .inl (pz_ar ff))), (bg, .inl (cyI, 3001, .inl (pz_ar gg)))] H := hP
  have hD : va_D A [(h1, .inr (1, [.int (nI 0), .int (nI (pm_yr n)), .int (nI (pm_mo n)), .int (nI (pm_da n)), .int (nI mk), .ref bc, .ref bf, .ref bg, .int (nI wr)])), (bc, .inl (cyI, 366, .inl (pz_ar rc))), (bf, .inl (cyI, 3001, .inl (pz_ar ff))), (bg, .inl (cyI, 3001, .inl (pz_ar gg)))] := hD
  obtain rfl : r = (nI 1) := hr
  refine pn_if_eq (tgt := 15) hx hb (by omega) dX1_countOf_5 (by decide) (fun c_2 => absurd c_2 (by decide)) (fun _ => ?_)
  refine lv_aload_n hx hb dX1_countOf_8 rfl (lv_at hl 0 rfl) ?_
  refine pz_VR (rest := []) ⟨hx, hb, hml, hown, hts⟩ (k_X1_countNow l D h1 bc bf bg cyI ts (nI 0) mk wr rc ff gg n (by omega)) (cwV 0 hts gX1_countOf_X1_countNow rfl rfl rfl (by decide +kernel) ⟨Nat.le_of_ble_eq_true rfl, Nat.le_of_ble_eq_true rfl⟩) hK hP (hD.weaken (fun _ _ _ _ => trivial)) hS hA [0, 1, 2, 3] rfl rfl rfl 0 1 rfl rfl rfl hl.1 rfl (lv_room (Nat.le_of_ble_eq_true rfl)) dX1_countOf_9 ⟨Nat.le_of_ble_eq_true rfl, Nat.le_of_ble_eq_true rfl⟩ (fun r H locs hr hP hS => ?_)
  obtain rfl : r = (nI (pm_ct (pm_pl n))) := hr
  have hf_4 := pm_ct_b2 n
  refine lv_goto (tgt := 16) hx hb dX1_countOf_12 (by decide) ?_
  exact hQ _ _ _ _ _ () dX1_countOf_16 rfl (congrArg nI (by rfl)) hP hD hS
set_option maxHeartbeats 4000000 in
set_option maxRecDepth 100000 in
theorem k_X1_isDoubled_a (l : Launch) (D : va_G) (h1 bc bf bg : Nat) (cyI : ClassId) (ts : List (ClassId × FieldType)) (th yr mo da : Int32) (mk wr : Nat) (rc ff gg : Nat → Nat) (n : Nat) (hy0 : n < 1095750) : pz_I l yX1_isDoubled wsX1_isDoubled ({ frames := 4, cells := 0, slots := 0, locals := 85 } : Room) D ((cyI, .int) :: ts) [.ref h1, .int (nI n)] [(h1, .inr (1, [.int th, .int yr, .int mo, .int da, .int (nI mk), .ref bc, .ref bf, .ref bg, .int (nI wr)])), (bc, .inl (cyI, 366, .inl (pz_ar rc))), (bf, .inl (cyI, 3001, .inl (pz_ar ff))), (bg, .inl (cyI, 3001, .inl (pz_ar gg)))] (S := Unit) (fun r _ => r = pz_b (n % 1461 = 1149)) (fun _ => [(h1, .inr (1, [.int (nI 0), .int (nI (pm_yr n)), .int (nI (pm_mo n)), .int (nI (pm_da n)), .int (nI mk), .ref bc, .ref bf, .ref bg, .int (nI wr)])), (bc, .inl (cyI, 366, .inl (pz_ar rc))), (bf, .inl (cyI, 3001, .inl (pz_ar ff))), (bg, .inl (cyI, 3001, .inl (pz_ar gg)))]) := by
  refine pz_I_of (cc := cX1_isDoubled) (maxL := 2) (ty := .boolean) (own := RX1) (by decide) rfl rfl (Nat.le_of_ble_eq_true rfl) ?_
  intro p e s m below meth c A ls Q hx hb hml hown hts hK hP hD hS hA hl hQ
  have hl : lv_has ls 2 [(0, .ref h1), (1, .int (nI n))] := hl
  have hdl : pm_dl n = if n % 1461 = 1149 then 1 else 0 := rfl
  refine lv_aload_n hx hb dX1_isDoubled_0 rfl (lv_at hl 0 rfl) ?_
  refine lv_iload_n hx hb dX1_isDoubled_1 rfl (lv_at hl 1 rfl) ?_
  refine pz_VI (rest := []) (wr := []) ⟨hx, hb, hml, hown, hts⟩ (k_X1_isAsked_a l D h1 bc bf bg cyI ts th yr mo da mk wr rc ff gg n (by omega)) (cwV 1 hts gX1_isDoubled_X1_isAsked rfl rfl rfl (by decide +kernel) ⟨Nat.le_of_ble_eq_true rfl, Nat.le_of_ble_eq_true rfl⟩) hK hP hD hS hA [0, 1, 2, 3] [] rfl rfl rfl rfl rfl (by decide) 0 1 rfl rfl rfl hl.1 rfl (lv_room (Nat.le_of_ble_eq_true rfl)) dX1_isDoubled_2 ⟨Nat.le_of_ble_eq_true rfl, Nat.le_of_ble_eq_true rfl⟩ (fun r u H locs hr hP hD hS => ?_)
  have hP : va_P D vwCl [(h1, .inr (1, [.int (nI 0), .int (nI (pm_yr n)), .int (nI (pm_mo n)), .int (nI (pm_da n)), .int (nI mk), .ref bc, .ref bf, .ref bg, .int (nI wr)])), (bc, .inl (cyI, 366, .inl (pz_ar rc))), (bf, .inl (cyI, 3001, .inl (pz_ar ff))), (bg, .inl (cyI, 3001, .inl (pz_ar gg)))] H := hP
  have hD : va_D A [(h1, .inr (1, [.int (nI 0), .int (nI (pm_yr n)), .int (nI (pm_mo n)), .int (nI (pm_da n)), .int (nI mk), .ref bc, .ref bf, .ref bg, .int (nI wr)])), (bc, .inl (cyI, 366, .inl (pz_ar rc))), (bf, .inl (cyI, 3001, .inl (pz_ar ff))), (bg, .inl (cyI, 3001, .inl (pz_ar gg)))] := hD
  obtain rfl : r = (nI 1) := hr
  refine pn_if_eq (tgt := 19) hx hb (by omega) dX1_isDoubled_5 (by decide) (fun c_2 => absurd c_2 (by decide)) (fun _ => ?_)
  refine lv_aload_n hx hb dX1_isDoubled_8 rfl (lv_at hl 0 rfl) ?_
  refine pz_VR (rest := []) ⟨hx, hb, hml, hown, hts⟩ (k_X1_isDoubledNow l D h1 bc bf bg cyI ts (nI 0) mk wr rc ff gg n (by omega)) (cwV 0 hts gX1_isDoubled_X1_isDoubledNow rfl rfl rfl (by decide +kernel) ⟨Nat.le_of_ble_eq_true rfl, Nat.le_of_ble_eq_true rfl⟩) hK hP (hD.weaken (fun _ _ _ _ => trivial)) hS hA [0, 1, 2, 3] rfl rfl rfl 0 1 rfl rfl rfl hl.1 rfl (lv_room (Nat.le_of_ble_eq_true rfl)) dX1_isDoubled_9 ⟨Nat.le_of_ble_eq_true rfl, Nat.le_of_ble_eq_true rfl⟩ (fun r H locs hr hP hS => ?_)
  obtain rfl : r = (nI (pm_dl n)) := hr
  have hf_4 := pm_dl_b n
  refine pn_if_eq (tgt := 19) hx hb (by omega) dX1_isDoubled_12 (by decide) (fun c_5 => ?_) (fun c_5 => ?_)
  · -- 12 yes
    refine lv_iconst (v := nI 0) hx hb dX1_isDoubled_19 (by decide) ?_
    exact hQ _ _ _ _ _ () dX1_isDoubled_20 (by decide) (pz_bf (by split at hdl <;> omega)) hP hD hS
  · -- 12 no
    refine lv_iconst (v := nI 1) hx hb dX1_isDoubled_15 (by decide) ?_
    refine lv_goto (tgt := 20) hx hb dX1_isDoubled_16 (by decide) ?_
    exact hQ _ _ _ _ _ () dX1_isDoubled_20 (by decide) (pz_bt (by split at hdl <;> omega)) hP hD hS
set_option maxHeartbeats 4000000 in
set_option maxRecDepth 100000 in
theorem k_X1_lawNumber_a (l : Launch) (D : va_G) (h1 bc bf bg : Nat) (cyI : ClassId) (ts : List (ClassId × FieldType)) (th yr mo da : Int32) (mk wr : Nat) (rc ff gg : Nat → Nat) (n : Nat) (hy0 : n < 1095750) : pz_I l yX1_lawNumber wsX1_lawNumber ({ frames := 4, cells := 0, slots := 0, locals := 85 } : Room) D ((cyI, .int) :: ts) [.ref h1, .int (nI n)] [(h1, .inr (1, [.int th, .int yr, .int mo, .int da, .int (nI mk), .ref bc, .ref bf, .ref bg, .int (nI wr)])), (bc, .inl (cyI, 366, .inl (pz_ar rc))), (bf, .inl (cyI, 3001, .inl (pz_ar ff))), (bg, .inl (cyI, 3001, .inl (pz_ar gg)))] (S := Unit) (fun r _ => r = nI (pm_lw n)) (fun _ => [(h1, .inr (1, [.int (nI 0), .int (nI (pm_yr n)), .int (nI (pm_mo n)), .int (nI (pm_da n)), .int (nI mk), .ref bc, .ref bf, .ref bg, .int (nI wr)])), (bc, .inl (cyI, 366, .inl (pz_ar rc))), (bf, .inl (cyI, 3001, .inl (pz_ar ff))), (bg, .inl (cyI, 3001, .inl (pz_ar gg)))]) := by
  refine pz_I_of (cc := cX1_lawNumber) (maxL := 2) (ty := .int) (own := RX1) (by decide) rfl rfl (Nat.le_of_ble_eq_true rfl) ?_
  intro p e s m below meth c A ls Q hx hb hml hown hts hK hP hD hS hA hl hQ
  have hl : lv_has ls 2 [(0, .ref h1), (1, .int (nI n))] := hl
  refine lv_aload_n hx hb dX1_lawNumber_0 rfl (lv_at hl 0 rfl) ?_
  refine lv_iload_n hx hb dX1_lawNumber_1 rfl (lv_at hl 1 rfl) ?_
  refine pz_SR (rest := [.ref h1]) ⟨hx, hb, hml, hown, hts⟩ (k_X1_isDay_a l D ((cyI, .int) :: ts) n (by omega)) (va_cwS 1 hts gX1_lawNumber_X1_isDay rfl rfl rfl (by decide +kernel) ⟨Nat.le_of_ble_eq_true rfl, Nat.le_of_ble_eq_true rfl⟩) hK hP (hD.weaken (fun _ _ _ _ => trivial)) hS hA [] rfl rfl rfl rfl hl.1 rfl (lv_room (Nat.le_of_ble_eq_true rfl)) dX1_lawNumber_2 ⟨Nat.le_of_ble_eq_true rfl, Nat.le_of_ble_eq_true rfl⟩ (fun r H locs hr hP hS => ?_)
  obtain rfl : r = (nI 1) := hr
  refine pn_if_eq (tgt := 12) hx hb (by omega) dX1_lawNumber_5 (by decide) (fun c_2 => absurd c_2 (by decide)) (fun _ => ?_)
  refine lv_iconst (v := nI 0) hx hb dX1_lawNumber_8 (by decide) ?_
  refine lv_goto (tgt := 13) hx hb dX1_lawNumber_9 (by decide) ?_
  refine pz_VI (rest := []) (wr := []) ⟨hx, hb, hml, hown, hts⟩ (k_X1_isFine_0 l D h1 bc bf bg cyI ts th yr mo da mk wr rc ff gg  ) (cwV 1 hts gX1_lawNumber_X1_isFine rfl rfl rfl (by decide +kernel) ⟨Nat.le_of_ble_eq_true rfl, Nat.le_of_ble_eq_true rfl⟩) hK hP hD hS hA [0, 1, 2, 3] [] rfl rfl rfl rfl rfl (by decide) 0 1 rfl rfl rfl hl.1 rfl (lv_room (Nat.le_of_ble_eq_true rfl)) dX1_lawNumber_13 ⟨Nat.le_of_ble_eq_true rfl, Nat.le_of_ble_eq_true rfl⟩ (fun r u H locs hr hP hD hS => ?_)
  have hP : va_P D vwCl [(h1, .inr (1, [.int (nI 0), .int yr, .int mo, .int da, .int (nI mk), .ref bc, .ref bf, .ref bg, .int (nI wr)])), (bc, .inl (cyI, 366, .inl (pz_ar rc))), (bf, .inl (cyI, 3001, .inl (pz_ar ff))), (bg, .inl (cyI, 3001, .inl (pz_ar gg)))] H := hP
  have hD : va_D A [(h1, .inr (1, [.int (nI 0), .int yr, .int mo, .int da, .int (nI mk), .ref bc, .ref bf, .ref bg, .int (nI wr)])), (bc, .inl (cyI, 366, .inl (pz_ar rc))), (bf, .inl (cyI, 3001, .inl (pz_ar ff))), (bg, .inl (cyI, 3001, .inl (pz_ar gg)))] := hD
  obtain rfl : r = (nI 1) := hr
  refine pn_if_eq (tgt := 27) hx hb (by omega) dX1_lawNumber_16 (by decide) (fun c_4 => absurd c_4 (by decide)) (fun _ => ?_)
  refine lv_aload_n hx hb dX1_lawNumber_19 rfl (lv_at hl 0 rfl) ?_
  refine lv_iload_n hx hb dX1_lawNumber_20 rfl (lv_at hl 1 rfl) ?_
  refine pz_VI (rest := []) (wr := []) ⟨hx, hb, hml, hown, hts⟩ (k_X1_lawful l D h1 bc bf bg cyI ts (nI 0) yr mo da mk wr rc ff gg n (by omega)) (cwV 1 hts gX1_lawNumber_X1_lawful rfl rfl rfl (by decide +kernel) ⟨Nat.le_of_ble_eq_true rfl, Nat.le_of_ble_eq_true rfl⟩) hK hP hD hS hA [0, 1, 2, 3] [] rfl rfl rfl rfl rfl (by decide) 0 1 rfl rfl rfl hl.1 rfl (lv_room (Nat.le_of_ble_eq_true rfl)) dX1_lawNumber_21 ⟨Nat.le_of_ble_eq_true rfl, Nat.le_of_ble_eq_true rfl⟩ (fun r u H locs hr hP hD hS => ?_)
  have hP : va_P D vwCl [(h1, .inr (1, [.int (nI 0), .int (nI (pm_yr n)), .int (nI (pm_mo n)), .int (nI (pm_da n)), .int (nI mk), .ref bc, .ref bf, .ref bg, .int (nI wr)])), (bc, .inl (cyI, 366, .inl (pz_ar rc))), (bf, .inl (cyI, 3001, .inl (pz_ar ff))), (bg, .inl (cyI, 3001, .inl (pz_ar gg)))] H := hP
  have hD : va_D A [(h1, .inr (1, [.int (nI 0), .int (nI (pm_yr n)), .int (nI (pm_mo n)), .int (nI (pm_da n)), .int (nI mk), .ref bc, .ref bf, .ref bg, .int (nI wr)])), (bc, .inl (cyI, 366, .inl (pz_ar rc))), (bf, .inl (cyI, 3001, .inl (pz_ar ff))), (bg, .inl (cyI, 3001, .inl (pz_ar gg)))] := hD
  obtain rfl : r = (nI (pm_lw n)) := hr
  have hf_6 := pm_lw_b n
  refine lv_goto (tgt := 28) hx hb dX1_lawNumber_24 (by decide) ?_
  exact hQ _ _ _ _ _ () dX1_lawNumber_28 rfl (congrArg nI (by rfl)) hP hD hS
set_option maxHeartbeats 4000000 in
set_option maxRecDepth 100000 in
theorem k_X1_placeOf_a (l : Launch) (D : va_G) (h1 bc bf bg : Nat) (cyI : ClassId) (ts : List (ClassId × FieldType)) (th yr mo da : Int32) (mk wr : Nat) (rc ff gg : Nat → Nat) (n : Nat) (hy0 : n < 1095750) : pz_I l yX1_placeOf wsX1_placeOf ({ frames := 4, cells := 0, slots := 0, locals := 85 } : Room) D ((cyI, .int) :: ts) [.ref h1, .int (nI n)] [(h1, .inr (1, [.int th, .int yr, .int mo, .int da, .int (nI mk), .ref bc, .ref bf, .ref bg, .int (nI wr)])), (bc, .inl (cyI, 366, .inl (pz_ar rc))), (bf, .inl (cyI, 3001, .inl (pz_ar ff))), (bg, .inl (cyI, 3001, .inl (pz_ar gg)))] (S := Unit) (fun r _ => r = nI (pm_pl n)) (fun _ => [(h1, .inr (1, [.int (nI 0), .int (nI (pm_yr n)), .int (nI (pm_mo n)), .int (nI (pm_da n)), .int (nI mk), .ref bc, .ref bf, .ref bg, .int (nI wr)])), (bc, .inl (cyI, 366, .inl (pz_ar rc))), (bf, .inl (cyI, 3001, .inl (pz_ar ff))), (bg, .inl (cyI, 3001, .inl (pz_ar gg)))]) := by
  refine pz_I_of (cc := cX1_placeOf) (maxL := 2) (ty := .int) (own := RX1) (by decide) rfl rfl (Nat.le_of_ble_eq_true rfl) ?_
  intro p e s m below meth c A ls Q hx hb hml hown hts hK hP hD hS hA hl hQ
  have hl : lv_has ls 2 [(0, .ref h1), (1, .int (nI n))] := hl
  refine lv_aload_n hx hb dX1_placeOf_0 rfl (lv_at hl 0 rfl) ?_
  refine lv_iload_n hx hb dX1_placeOf_1 rfl (lv_at hl 1 rfl) ?_
  refine pz_SR (rest := [.ref h1]) ⟨hx, hb, hml, hown, hts⟩ (k_X1_isDay_a l D ((cyI, .int) :: ts) n (by omega)) (va_cwS 1 hts gX1_placeOf_X1_isDay rfl rfl rfl (by decide +kernel) ⟨Nat.le_of_ble_eq_true rfl, Nat.le_of_ble_eq_true rfl⟩) hK hP (hD.weaken (fun _ _ _ _ => trivial)) hS hA [] rfl rfl rfl rfl hl.1 rfl (lv_room (Nat.le_of_ble_eq_true rfl)) dX1_placeOf_2 ⟨Nat.le_of_ble_eq_true rfl, Nat.le_of_ble_eq_true rfl⟩ (fun r H locs hr hP hS => ?_)
  obtain rfl : r = (nI 1) := hr
  refine pn_if_eq (tgt := 12) hx hb (by omega) dX1_placeOf_5 (by decide) (fun c_2 => absurd c_2 (by decide)) (fun _ => ?_)
  refine lv_iconst (v := nI 0) hx hb dX1_placeOf_8 (by decide) ?_
  refine lv_goto (tgt := 13) hx hb dX1_placeOf_9 (by decide) ?_
  refine pz_VI (rest := []) (wr := []) ⟨hx, hb, hml, hown, hts⟩ (k_X1_isFine_0 l D h1 bc bf bg cyI ts th yr mo da mk wr rc ff gg  ) (cwV 1 hts gX1_placeOf_X1_isFine rfl rfl rfl (by decide +kernel) ⟨Nat.le_of_ble_eq_true rfl, Nat.le_of_ble_eq_true rfl⟩) hK hP hD hS hA [0, 1, 2, 3] [] rfl rfl rfl rfl rfl (by decide) 0 1 rfl rfl rfl hl.1 rfl (lv_room (Nat.le_of_ble_eq_true rfl)) dX1_placeOf_13 ⟨Nat.le_of_ble_eq_true rfl, Nat.le_of_ble_eq_true rfl⟩ (fun r u H locs hr hP hD hS => ?_)
  have hP : va_P D vwCl [(h1, .inr (1, [.int (nI 0), .int yr, .int mo, .int da, .int (nI mk), .ref bc, .ref bf, .ref bg, .int (nI wr)])), (bc, .inl (cyI, 366, .inl (pz_ar rc))), (bf, .inl (cyI, 3001, .inl (pz_ar ff))), (bg, .inl (cyI, 3001, .inl (pz_ar gg)))] H := hP
  have hD : va_D A [(h1, .inr (1, [.int (nI 0), .int yr, .int mo, .int da, .int (nI mk), .ref bc, .ref bf, .ref bg, .int (nI wr)])), (bc, .inl (cyI, 366, .inl (pz_ar rc))), (bf, .inl (cyI, 3001, .inl (pz_ar ff))), (bg, .inl (cyI, 3001, .inl (pz_ar gg)))] := hD
  obtain rfl : r = (nI 1) := hr
  refine pn_if_eq (tgt := 27) hx hb (by omega) dX1_placeOf_16 (by decide) (fun c_4 => absurd c_4 (by decide)) (fun _ => ?_)
  refine lv_aload_n hx hb dX1_placeOf_19 rfl (lv_at hl 0 rfl) ?_
  refine lv_iload_n hx hb dX1_placeOf_20 rfl (lv_at hl 1 rfl) ?_
  refine pz_VI (rest := []) (wr := []) ⟨hx, hb, hml, hown, hts⟩ (k_X1_placed l D h1 bc bf bg cyI ts (nI 0) yr mo da mk wr rc ff gg n (by omega)) (cwV 1 hts gX1_placeOf_X1_placed rfl rfl rfl (by decide +kernel) ⟨Nat.le_of_ble_eq_true rfl, Nat.le_of_ble_eq_true rfl⟩) hK hP hD hS hA [0, 1, 2, 3] [] rfl rfl rfl rfl rfl (by decide) 0 1 rfl rfl rfl hl.1 rfl (lv_room (Nat.le_of_ble_eq_true rfl)) dX1_placeOf_21 ⟨Nat.le_of_ble_eq_true rfl, Nat.le_of_ble_eq_true rfl⟩ (fun r u H locs hr hP hD hS => ?_)
  have hP : va_P D vwCl [(h1, .inr (1, [.int (nI 0), .int (nI (pm_yr n)), .int (nI (pm_mo n)), .int (nI (pm_da n)), .int (nI mk), .ref bc, .ref bf, .ref bg, .int (nI wr)])), (bc, .inl (cyI, 366, .inl (pz_ar rc))), (bf, .inl (cyI, 3001, .inl (pz_ar ff))), (bg, .inl (cyI, 3001, .inl (pz_ar gg)))] H := hP
  have hD : va_D A [(h1, .inr (1, [.int (nI 0), .int (nI (pm_yr n)), .int (nI (pm_mo n)), .int (nI (pm_da n)), .int (nI mk), .ref bc, .ref bf, .ref bg, .int (nI wr)])), (bc, .inl (cyI, 366, .inl (pz_ar rc))), (bf, .inl (cyI, 3001, .inl (pz_ar ff))), (bg, .inl (cyI, 3001, .inl (pz_ar gg)))] := hD
  obtain rfl : r = (nI (pm_pl n)) := hr
  have hf_6 := pm_pl_b n
  refine lv_goto (tgt := 28) hx hb dX1_placeOf_24 (by decide) ?_
  exact hQ _ _ _ _ _ () dX1_placeOf_28 rfl (congrArg nI (by rfl)) hP hD hS
set_option maxHeartbeats 4000000 in
set_option maxRecDepth 100000 in
theorem k_X1_letterOfEight_a (l : Launch) (D : va_G) (h1 bc bf bg : Nat) (cyI : ClassId) (ts : List (ClassId × FieldType)) (th yr mo da : Int32) (mk wr : Nat) (rc ff gg : Nat → Nat) (n : Nat) (hy0 : n < 1095750) : pz_I l yX1_letterOfEight wsX1_letterOfEight ({ frames := 4, cells := 0, slots := 0, locals := 85 } : Room) D ((cyI, .int) :: ts) [.ref h1, .int (nI n)] [(h1, .inr (1, [.int th, .int yr, .int mo, .int da, .int (nI mk), .ref bc, .ref bf, .ref bg, .int (nI wr)])), (bc, .inl (cyI, 366, .inl (pz_ar rc))), (bf, .inl (cyI, 3001, .inl (pz_ar ff))), (bg, .inl (cyI, 3001, .inl (pz_ar gg)))] (S := Unit) (fun r _ => r = nI ((pm_pl n - 1) % 8)) (fun _ => [(h1, .inr (1, [.int (nI 0), .int (nI (pm_yr n)), .int (nI (pm_mo n)), .int (nI (pm_da n)), .int (nI mk), .ref bc, .ref bf, .ref bg, .int (nI wr)])), (bc, .inl (cyI, 366, .inl (pz_ar rc))), (bf, .inl (cyI, 3001, .inl (pz_ar ff))), (bg, .inl (cyI, 3001, .inl (pz_ar gg)))]) := by
  refine pz_I_of (cc := cX1_letterOfEight) (maxL := 2) (ty := .int) (own := RX1) (by decide) rfl rfl (Nat.le_of_ble_eq_true rfl) ?_
  intro p e s m below meth c A ls Q hx hb hml hown hts hK hP hD hS hA hl hQ
  have hl : lv_has ls 2 [(0, .ref h1), (1, .int (nI n))] := hl
  refine lv_aload_n hx hb dX1_letterOfEight_0 rfl (lv_at hl 0 rfl) ?_
  refine lv_iload_n hx hb dX1_letterOfEight_1 rfl (lv_at hl 1 rfl) ?_
  refine pz_SR (rest := [.ref h1]) ⟨hx, hb, hml, hown, hts⟩ (k_X1_isDay_a l D ((cyI, .int) :: ts) n (by omega)) (va_cwS 1 hts gX1_letterOfEight_X1_isDay rfl rfl rfl (by decide +kernel) ⟨Nat.le_of_ble_eq_true rfl, Nat.le_of_ble_eq_true rfl⟩) hK hP (hD.weaken (fun _ _ _ _ => trivial)) hS hA [] rfl rfl rfl rfl hl.1 rfl (lv_room (Nat.le_of_ble_eq_true rfl)) dX1_letterOfEight_2 ⟨Nat.le_of_ble_eq_true rfl, Nat.le_of_ble_eq_true rfl⟩ (fun r H locs hr hP hS => ?_)
  obtain rfl : r = (nI 1) := hr
  refine pn_if_eq (tgt := 12) hx hb (by omega) dX1_letterOfEight_5 (by decide) (fun c_2 => absurd c_2 (by decide)) (fun _ => ?_)
  refine lv_iconst (v := nI 0) hx hb dX1_letterOfEight_8 (by decide) ?_
  refine lv_goto (tgt := 13) hx hb dX1_letterOfEight_9 (by decide) ?_
  refine pz_VI (rest := []) (wr := []) ⟨hx, hb, hml, hown, hts⟩ (k_X1_isFine_0 l D h1 bc bf bg cyI ts th yr mo da mk wr rc ff gg  ) (cwV 1 hts gX1_letterOfEight_X1_isFine rfl rfl rfl (by decide +kernel) ⟨Nat.le_of_ble_eq_true rfl, Nat.le_of_ble_eq_true rfl⟩) hK hP hD hS hA [0, 1, 2, 3] [] rfl rfl rfl rfl rfl (by decide) 0 1 rfl rfl rfl hl.1 rfl (lv_room (Nat.le_of_ble_eq_true rfl)) dX1_letterOfEight_13 ⟨Nat.le_of_ble_eq_true rfl, Nat.le_of_ble_eq_true rfl⟩ (fun r u H locs hr hP hD hS => ?_)
  have hP : va_P D vwCl [(h1, .inr (1, [.int (nI 0), .int yr, .int mo, .int da, .int (nI mk), .ref bc, .ref bf, .ref bg, .int (nI wr)])), (bc, .inl (cyI, 366, .inl (pz_ar rc))), (bf, .inl (cyI, 3001, .inl (pz_ar ff))), (bg, .inl (cyI, 3001, .inl (pz_ar gg)))] H := hP
  have hD : va_D A [(h1, .inr (1, [.int (nI 0), .int yr, .int mo, .int da, .int (nI mk), .ref bc, .ref bf, .ref bg, .int (nI wr)])), (bc, .inl (cyI, 366, .inl (pz_ar rc))), (bf, .inl (cyI, 3001, .inl (pz_ar ff))), (bg, .inl (cyI, 3001, .inl (pz_ar gg)))] := hD
  obtain rfl : r = (nI 1) := hr
  refine pn_if_eq (tgt := 32) hx hb (by omega) dX1_letterOfEight_16 (by decide) (fun c_4 => absurd c_4 (by decide)) (fun _ => ?_)
  refine lv_aload_n hx hb dX1_letterOfEight_19 rfl (lv_at hl 0 rfl) ?_
  refine lv_iload_n hx hb dX1_letterOfEight_20 rfl (lv_at hl 1 rfl) ?_
  refine pz_VI (rest := []) (wr := []) ⟨hx, hb, hml, hown, hts⟩ (k_X1_placed l D h1 bc bf bg cyI ts (nI 0) yr mo da mk wr rc ff gg n (by omega)) (cwV 1 hts gX1_letterOfEight_X1_placed rfl rfl rfl (by decide +kernel) ⟨Nat.le_of_ble_eq_true rfl, Nat.le_of_ble_eq_true rfl⟩) hK hP hD hS hA [0, 1, 2, 3] [] rfl rfl rfl rfl rfl (by decide) 0 1 rfl rfl rfl hl.1 rfl (lv_room (Nat.le_of_ble_eq_true rfl)) dX1_letterOfEight_21 ⟨Nat.le_of_ble_eq_true rfl, Nat.le_of_ble_eq_true rfl⟩ (fun r u H locs hr hP hD hS => ?_)
  have hP : va_P D vwCl [(h1, .inr (1, [.int (nI 0), .int (nI (pm_yr n)), .int (nI (pm_mo n)), .int (nI (pm_da n)), .int (nI mk), .ref bc, .ref bf, .ref bg, .int (nI wr)])), (bc, .inl (cyI, 366, .inl (pz_ar rc))), (bf, .inl (cyI, 3001, .inl (pz_ar ff))), (bg, .inl (cyI, 3001, .inl (pz_ar gg)))] H := hP
  have hD : va_D A [(h1, .inr (1, [.int (nI 0), .int (nI (pm_yr n)), .int (nI (pm_mo n)), .int (nI (pm_da n)), .int (nI mk), .ref bc, .ref bf, .ref bg, .int (nI wr)])), (bc, .inl (cyI, 366, .inl (pz_ar rc))), (bf, .inl (cyI, 3001, .inl (pz_ar ff))), (bg, .inl (cyI, 3001, .inl (pz_ar gg)))] := hD
  obtain rfl : r = (nI (pm_pl n)) := hr
  have hf_6 := pm_pl_b n
  refine lv_iconst (v := nI 1) hx hb dX1_letterOfEight_24 (by decide) ?_
  refine pn_isub hx hb (by omega) dX1_letterOfEight_25 ?_
  refine lv_bipush (v := nI 8) hx hb dX1_letterOfEight_26 (by decide) ?_
  refine pn_irem hx hb (by omega) (by omega) (by omega) dX1_letterOfEight_28 ?_
  refine lv_goto (tgt := 33) hx hb dX1_letterOfEight_29 (by decide) ?_
  exact hQ _ _ _ _ _ () dX1_letterOfEight_33 rfl (congrArg nI (by rfl)) hP hD hS
set_option maxHeartbeats 4000000 in
set_option maxRecDepth 100000 in
theorem k_X1_letterOfSeven_a (l : Launch) (D : va_G) (h1 bc bf bg : Nat) (cyI : ClassId) (ts : List (ClassId × FieldType)) (th yr mo da : Int32) (mk wr : Nat) (rc ff gg : Nat → Nat) (n : Nat) (hy0 : n < 1095750) : pz_I l yX1_letterOfSeven wsX1_letterOfSeven ({ frames := 4, cells := 0, slots := 0, locals := 85 } : Room) D ((cyI, .int) :: ts) [.ref h1, .int (nI n)] [(h1, .inr (1, [.int th, .int yr, .int mo, .int da, .int (nI mk), .ref bc, .ref bf, .ref bg, .int (nI wr)])), (bc, .inl (cyI, 366, .inl (pz_ar rc))), (bf, .inl (cyI, 3001, .inl (pz_ar ff))), (bg, .inl (cyI, 3001, .inl (pz_ar gg)))] (S := Unit) (fun r _ => r = nI ((pm_pl n - 1) % 7)) (fun _ => [(h1, .inr (1, [.int (nI 0), .int (nI (pm_yr n)), .int (nI (pm_mo n)), .int (nI (pm_da n)), .int (nI mk), .ref bc, .ref bf, .ref bg, .int (nI wr)])), (bc, .inl (cyI, 366, .inl (pz_ar rc))), (bf, .inl (cyI, 3001, .inl (pz_ar ff))), (bg, .inl (cyI, 3001, .inl (pz_ar gg)))]) := by
  refine pz_I_of (cc := cX1_letterOfSeven) (maxL := 2) (ty := .int) (own := RX1) (by decide) rfl rfl (Nat.le_of_ble_eq_true rfl) ?_
  intro p e s m below meth c A ls Q hx hb hml hown hts hK hP hD hS hA hl hQ
  have hl : lv_has ls 2 [(0, .ref h1), (1, .int (nI n))] := hl
  refine lv_aload_n hx hb dX1_letterOfSeven_0 rfl (lv_at hl 0 rfl) ?_
  refine lv_iload_n hx hb dX1_letterOfSeven_1 rfl (lv_at hl 1 rfl) ?_
  refine pz_SR (rest := [.ref h1]) ⟨hx, hb, hml, hown, hts⟩ (k_X1_isDay_a l D ((cyI, .int) :: ts) n (by omega)) (va_cwS 1 hts gX1_letterOfSeven_X1_isDay rfl rfl rfl (by decide +kernel) ⟨Nat.le_of_ble_eq_true rfl, Nat.le_of_ble_eq_true rfl⟩) hK hP (hD.weaken (fun _ _ _ _ => trivial)) hS hA [] rfl rfl rfl rfl hl.1 rfl (lv_room (Nat.le_of_ble_eq_true rfl)) dX1_letterOfSeven_2 ⟨Nat.le_of_ble_eq_true rfl, Nat.le_of_ble_eq_true rfl⟩ (fun r H locs hr hP hS => ?_)
  obtain rfl : r = (nI 1) := hr
  refine pn_if_eq (tgt := 12) hx hb (by omega) dX1_letterOfSeven_5 (by decide) (fun c_2 => absurd c_2 (by decide)) (fun _ => ?_)
  refine lv_iconst (v := nI 0) hx hb dX1_letterOfSeven_8 (by decide) ?_
  refine lv_goto (tgt := 13) hx hb dX1_letterOfSeven_9 (by decide) ?_
  refine pz_VI (rest := []) (wr := []) ⟨hx, hb, hml, hown, hts⟩ (k_X1_isFine_0 l D h1 bc bf bg cyI ts th yr mo da mk wr rc ff gg  ) (cwV 1 hts gX1_letterOfSeven_X1_isFine rfl rfl rfl (by decide +kernel) ⟨Nat.le_of_ble_eq_true rfl, Nat.le_of_ble_eq_true rfl⟩) hK hP hD hS hA [0, 1, 2, 3] [] rfl rfl rfl rfl rfl (by decide) 0 1 rfl rfl rfl hl.1 rfl (lv_room (Nat.le_of_ble_eq_true rfl)) dX1_letterOfSeven_13 ⟨Nat.le_of_ble_eq_true rfl, Nat.le_of_ble_eq_true rfl⟩ (fun r u H locs hr hP hD hS => ?_)
  have hP : va_P D vwCl [(h1, .inr (1, [.int (nI 0), .int yr, .int mo, .int da, .int (nI mk), .ref bc, .ref bf, .ref bg, .int (nI wr)])), (bc, .inl (cyI, 366, .inl (pz_ar rc))), (bf, .inl (cyI, 3001, .inl (pz_ar ff))), (bg, .inl (cyI, 3001, .inl (pz_ar gg)))] H := hP
  have hD : va_D A [(h1, .inr (1, [.int (nI 0), .int yr, .int mo, .int da, .int (nI mk), .ref bc, .ref bf, .ref bg, .int (nI wr)])), (bc, .inl (cyI, 366, .inl (pz_ar rc))), (bf, .inl (cyI, 3001, .inl (pz_ar ff))), (bg, .inl (cyI, 3001, .inl (pz_ar gg)))] := hD
  obtain rfl : r = (nI 1) := hr
  refine pn_if_eq (tgt := 32) hx hb (by omega) dX1_letterOfSeven_16 (by decide) (fun c_4 => absurd c_4 (by decide)) (fun _ => ?_)
  refine lv_aload_n hx hb dX1_letterOfSeven_19 rfl (lv_at hl 0 rfl) ?_
  refine lv_iload_n hx hb dX1_letterOfSeven_20 rfl (lv_at hl 1 rfl) ?_
  refine pz_VI (rest := []) (wr := []) ⟨hx, hb, hml, hown, hts⟩ (k_X1_placed l D h1 bc bf bg cyI ts (nI 0) yr mo da mk wr rc ff gg n (by omega)) (cwV 1 hts gX1_letterOfSeven_X1_placed rfl rfl rfl (by decide +kernel) ⟨Nat.le_of_ble_eq_true rfl, Nat.le_of_ble_eq_true rfl⟩) hK hP hD hS hA [0, 1, 2, 3] [] rfl rfl rfl rfl rfl (by decide) 0 1 rfl rfl rfl hl.1 rfl (lv_room (Nat.le_of_ble_eq_true rfl)) dX1_letterOfSeven_21 ⟨Nat.le_of_ble_eq_true rfl, Nat.le_of_ble_eq_true rfl⟩ (fun r u H locs hr hP hD hS => ?_)
  have hP : va_P D vwCl [(h1, .inr (1, [.int (nI 0), .int (nI (pm_yr n)), .int (nI (pm_mo n)), .int (nI (pm_da n)), .int (nI mk), .ref bc, .ref bf, .ref bg, .int (nI wr)])), (bc, .inl (cyI, 366, .inl (pz_ar rc))), (bf, .inl (cyI, 3001, .inl (pz_ar ff))), (bg, .inl (cyI, 3001, .inl (pz_ar gg)))] H := hP
  have hD : va_D A [(h1, .inr (1, [.int (nI 0), .int (nI (pm_yr n)), .int (nI (pm_mo n)), .int (nI (pm_da n)), .int (nI mk), .ref bc, .ref bf, .ref bg, .int (nI wr)])), (bc, .inl (cyI, 366, .inl (pz_ar rc))), (bf, .inl (cyI, 3001, .inl (pz_ar ff))), (bg, .inl (cyI, 3001, .inl (pz_ar gg)))] := hD
  obtain rfl : r = (nI (pm_pl n)) := hr
  have hf_6 := pm_pl_b n
  refine lv_iconst (v := nI 1) hx hb dX1_letterOfSeven_24 (by decide) ?_
  refine pn_isub hx hb (by omega) dX1_letterOfSeven_25 ?_
  refine lv_bipush (v := nI 7) hx hb dX1_letterOfSeven_26 (by decide) ?_
  refine pn_irem hx hb (by omega) (by omega) (by omega) dX1_letterOfSeven_28 ?_
  refine lv_goto (tgt := 33) hx hb dX1_letterOfSeven_29 (by decide) ?_
  exact hQ _ _ _ _ _ () dX1_letterOfSeven_33 rfl (congrArg nI (by rfl)) hP hD hS
set_option maxHeartbeats 4000000 in
set_option maxRecDepth 100000 in
theorem k_X1_yearOf_x (l : Launch) (D : va_G) (h1 bc bf bg : Nat) (cyI : ClassId) (ts : List (ClassId × FieldType)) (th yr mo da : Int32) (mk wr : Nat) (rc ff gg : Nat → Nat) (x : Int32) (hy0 : x.toInt < 0 ∨ 1095749 < x.toInt) : pz_I l yX1_yearOf wsX1_yearOf ({ frames := 4, cells := 0, slots := 0, locals := 85 } : Room) D ((cyI, .int) :: ts) [.ref h1, .int x] [(h1, .inr (1, [.int th, .int yr, .int mo, .int da, .int (nI mk), .ref bc, .ref bf, .ref bg, .int (nI wr)])), (bc, .inl (cyI, 366, .inl (pz_ar rc))), (bf, .inl (cyI, 3001, .inl (pz_ar ff))), (bg, .inl (cyI, 3001, .inl (pz_ar gg)))] (S := Unit) (fun r _ => r = nI 0) (fun _ => [(h1, .inr (1, [.int (nI 1), .int yr, .int mo, .int da, .int (nI mk), .ref bc, .ref bf, .ref bg, .int (nI wr)])), (bc, .inl (cyI, 366, .inl (pz_ar rc))), (bf, .inl (cyI, 3001, .inl (pz_ar ff))), (bg, .inl (cyI, 3001, .inl (pz_ar gg)))]) := by
  refine pz_I_of (cc := cX1_yearOf) (maxL := 2) (ty := .int) (own := RX1) (by decide) rfl rfl (Nat.le_of_ble_eq_true rfl) ?_
  intro p e s m below meth c A ls Q hx hb hml hown hts hK hP hD hS hA hl hQ
  have hl : lv_has ls 2 [(0, .ref h1), (1, .int x)] := hl
  have hin : ∀ w ∈ u_ws RX1 TX1 9, w ∈ wsX1_yearOf := by decide +kernel
  refine lv_aload_n hx hb dX1_yearOf_0 rfl (lv_at hl 0 rfl) ?_
  refine lv_iload_n hx hb dX1_yearOf_1 rfl (lv_at hl 1 rfl) ?_
  refine pz_VI (rest := []) (wr := []) ⟨hx, hb, hml, hown, hts⟩ (k_X1_isAsked_x l D h1 bc bf bg cyI ts th yr mo da mk wr rc ff gg x (by omega)) (cwV 1 hts gX1_yearOf_X1_isAsked rfl rfl rfl (by decide +kernel) ⟨Nat.le_of_ble_eq_true rfl, Nat.le_of_ble_eq_true rfl⟩) hK hP hD hS hA [0, 1, 2, 3] [] rfl rfl rfl rfl rfl (by decide) 0 1 rfl rfl rfl hl.1 rfl (lv_room (Nat.le_of_ble_eq_true rfl)) dX1_yearOf_2 ⟨Nat.le_of_ble_eq_true rfl, Nat.le_of_ble_eq_true rfl⟩ (fun r u H locs hr hP hD hS => ?_)
  have hP : va_P D vwCl [(h1, .inr (1, [.int (nI 1), .int yr, .int mo, .int da, .int (nI mk), .ref bc, .ref bf, .ref bg, .int (nI wr)])), (bc, .inl (cyI, 366, .inl (pz_ar rc))), (bf, .inl (cyI, 3001, .inl (pz_ar ff))), (bg, .inl (cyI, 3001, .inl (pz_ar gg)))] H := hP
  have hD : va_D A [(h1, .inr (1, [.int (nI 1), .int yr, .int mo, .int da, .int (nI mk), .ref bc, .ref bf, .ref bg, .int (nI wr)])), (bc, .inl (cyI, 366, .inl (pz_ar rc))), (bf, .inl (cyI, 3001, .inl (pz_ar ff))), (bg, .inl (cyI, 3001, .inl (pz_ar gg)))] := hD
  obtain rfl : r = (nI 0) := hr
  refine pn_if_eq (tgt := 15) hx hb (by omega) dX1_yearOf_5 (by decide) (fun _ => ?_) (fun c_2 => absurd c_2 (by decide))
  refine lv_iconst (v := nI 0) hx hb dX1_yearOf_15 (by decide) ?_
  exact hQ _ _ _ _ _ () dX1_yearOf_16 rfl (congrArg nI (by rfl)) hP hD hS
set_option maxHeartbeats 4000000 in
set_option maxRecDepth 100000 in
theorem k_X1_monthOf_x (l : Launch) (D : va_G) (h1 bc bf bg : Nat) (cyI : ClassId) (ts : List (ClassId × FieldType)) (th yr mo da : Int32) (mk wr : Nat) (rc ff gg : Nat → Nat) (x : Int32) (hy0 : x.toInt < 0 ∨ 1095749 < x.toInt) : pz_I l yX1_monthOf wsX1_monthOf ({ frames := 4, cells := 0, slots := 0, locals := 85 } : Room) D ((cyI, .int) :: ts) [.ref h1, .int x] [(h1, .inr (1, [.int th, .int yr, .int mo, .int da, .int (nI mk), .ref bc, .ref bf, .ref bg, .int (nI wr)])), (bc, .inl (cyI, 366, .inl (pz_ar rc))), (bf, .inl (cyI, 3001, .inl (pz_ar ff))), (bg, .inl (cyI, 3001, .inl (pz_ar gg)))] (S := Unit) (fun r _ => r = nI 0) (fun _ => [(h1, .inr (1, [.int (nI 1), .int yr, .int mo, .int da, .int (nI mk), .ref bc, .ref bf, .ref bg, .int (nI wr)])), (bc, .inl (cyI, 366, .inl (pz_ar rc))), (bf, .inl (cyI, 3001, .inl (pz_ar ff))), (bg, .inl (cyI, 3001, .inl (pz_ar gg)))]) := by
  refine pz_I_of (cc := cX1_monthOf) (maxL := 2) (ty := .int) (own := RX1) (by decide) rfl rfl (Nat.le_of_ble_eq_true rfl) ?_
  intro p e s m below meth c A ls Q hx hb hml hown hts hK hP hD hS hA hl hQ
  have hl : lv_has ls 2 [(0, .ref h1), (1, .int x)] := hl
  have hin : ∀ w ∈ u_ws RX1 TX1 9, w ∈ wsX1_monthOf := by decide +kernel
  refine lv_aload_n hx hb dX1_monthOf_0 rfl (lv_at hl 0 rfl) ?_
  refine lv_iload_n hx hb dX1_monthOf_1 rfl (lv_at hl 1 rfl) ?_
  refine pz_VI (rest := []) (wr := []) ⟨hx, hb, hml, hown, hts⟩ (k_X1_isAsked_x l D h1 bc bf bg cyI ts th yr mo da mk wr rc ff gg x (by omega)) (cwV 1 hts gX1_monthOf_X1_isAsked rfl rfl rfl (by decide +kernel) ⟨Nat.le_of_ble_eq_true rfl, Nat.le_of_ble_eq_true rfl⟩) hK hP hD hS hA [0, 1, 2, 3] [] rfl rfl rfl rfl rfl (by decide) 0 1 rfl rfl rfl hl.1 rfl (lv_room (Nat.le_of_ble_eq_true rfl)) dX1_monthOf_2 ⟨Nat.le_of_ble_eq_true rfl, Nat.le_of_ble_eq_true rfl⟩ (fun r u H locs hr hP hD hS => ?_)
  have hP : va_P D vwCl [(h1, .inr (1, [.int (nI 1), .int yr, .int mo, .int da, .int (nI mk), .ref bc, .ref bf, .ref bg, .int (nI wr)])), (bc, .inl (cyI, 366, .inl (pz_ar rc))), (bf, .inl (cyI, 3001, .inl (pz_ar ff))), (bg, .inl (cyI, 3001, .inl (pz_ar gg)))] H := hP
  have hD : va_D A [(h1, .inr (1, [.int (nI 1), .int yr, .int mo, .int da, .int (nI mk), .ref bc, .ref bf, .ref bg, .int (nI wr)])), (bc, .inl (cyI, 366, .inl (pz_ar rc))), (bf, .inl (cyI, 3001, .inl (pz_ar ff))), (bg, .inl (cyI, 3001, .inl (pz_ar gg)))] := hD
  obtain rfl : r = (nI 0) := hr
  refine pn_if_eq (tgt := 15) hx hb (by omega) dX1_monthOf_5 (by decide) (fun _ => ?_) (fun c_2 => absurd c_2 (by decide))
  refine lv_iconst (v := nI 0) hx hb dX1_monthOf_15 (by decide) ?_
  exact hQ _ _ _ _ _ () dX1_monthOf_16 rfl (congrArg nI (by rfl)) hP hD hS
set_option maxHeartbeats 4000000 in
set_option maxRecDepth 100000 in
theorem k_X1_dayOf_x (l : Launch) (D : va_G) (h1 bc bf bg : Nat) (cyI : ClassId) (ts : List (ClassId × FieldType)) (th yr mo da : Int32) (mk wr : Nat) (rc ff gg : Nat → Nat) (x : Int32) (hy0 : x.toInt < 0 ∨ 1095749 < x.toInt) : pz_I l yX1_dayOf wsX1_dayOf ({ frames := 4, cells := 0, slots := 0, locals := 85 } : Room) D ((cyI, .int) :: ts) [.ref h1, .int x] [(h1, .inr (1, [.int th, .int yr, .int mo, .int da, .int (nI mk), .ref bc, .ref bf, .ref bg, .int (nI wr)])), (bc, .inl (cyI, 366, .inl (pz_ar rc))), (bf, .inl (cyI, 3001, .inl (pz_ar ff))), (bg, .inl (cyI, 3001, .inl (pz_ar gg)))] (S := Unit) (fun r _ => r = nI 0) (fun _ => [(h1, .inr (1, [.int (nI 1), .int yr, .int mo, .int da, .int (nI mk), .ref bc, .ref bf, .ref bg, .int (nI wr)])), (bc, .inl (cyI, 366, .inl (pz_ar rc))), (bf, .inl (cyI, 3001, .inl (pz_ar ff))), (bg, .inl (cyI, 3001, .inl (pz_ar gg)))]) := by
  refine pz_I_of (cc := cX1_dayOf) (maxL := 2) (ty := .int) (own := RX1) (by decide) rfl rfl (Nat.le_of_ble_eq_true rfl) ?_
  intro p e s m below meth c A ls Q hx hb hml hown hts hK hP hD hS hA hl hQ
  have hl : lv_has ls 2 [(0, .ref h1), (1, .int x)] := hl
  have hin : ∀ w ∈ u_ws RX1 TX1 9, w ∈ wsX1_dayOf := by decide +kernel
  refine lv_aload_n hx hb dX1_dayOf_0 rfl (lv_at hl 0 rfl) ?_
  refine lv_iload_n hx hb dX1_dayOf_1 rfl (lv_at hl 1 rfl) ?_
  refine pz_VI (rest := []) (wr := []) ⟨hx, hb, hml, hown, hts⟩ (k_X1_isAsked_x l D h1 bc bf bg cyI ts th yr mo da mk wr rc ff gg x (by omega)) (cwV 1 hts gX1_dayOf_X1_isAsked rfl rfl rfl (by decide +kernel) ⟨Nat.le_of_ble_eq_true rfl, Nat.le_of_ble_eq_true rfl⟩) hK hP hD hS hA [0, 1, 2, 3] [] rfl rfl rfl rfl rfl (by decide) 0 1 rfl rfl rfl hl.1 rfl (lv_room (Nat.le_of_ble_eq_true rfl)) dX1_dayOf_2 ⟨Nat.le_of_ble_eq_true rfl, Nat.le_of_ble_eq_true rfl⟩ (fun r u H locs hr hP hD hS => ?_)
  have hP : va_P D vwCl [(h1, .inr (1, [.int (nI 1), .int yr, .int mo, .int da, .int (nI mk), .ref bc, .ref bf, .ref bg, .int (nI wr)])), (bc, .inl (cyI, 366, .inl (pz_ar rc))), (bf, .inl (cyI, 3001, .inl (pz_ar ff))), (bg, .inl (cyI, 3001, .inl (pz_ar gg)))] H := hP
  have hD : va_D A [(h1, .inr (1, [.int (nI 1), .int yr, .int mo, .int da, .int (nI mk), .ref bc, .ref bf, .ref bg, .int (nI wr)])), (bc, .inl (cyI, 366, .inl (pz_ar rc))), (bf, .inl (cyI, 3001, .inl (pz_ar ff))), (bg, .inl (cyI, 3001, .inl (pz_ar gg)))] := hD
  obtain rfl : r = (nI 0) := hr
  refine pn_if_eq (tgt := 15) hx hb (by omega) dX1_dayOf_5 (by decide) (fun _ => ?_) (fun c_2 => absurd c_2 (by decide))
  refine lv_iconst (v := nI 0) hx hb dX1_dayOf_15 (by decide) ?_
  exact hQ _ _ _ _ _ () dX1_dayOf_16 rfl (congrArg nI (by rfl)) hP hD hS
set_option maxHeartbeats 4000000 in
set_option maxRecDepth 100000 in
theorem k_X1_weekdayOf_x (l : Launch) (D : va_G) (h1 bc bf bg : Nat) (cyI : ClassId) (ts : List (ClassId × FieldType)) (th yr mo da : Int32) (mk wr : Nat) (rc ff gg : Nat → Nat) (x : Int32) (hy0 : x.toInt < 0 ∨ 1095749 < x.toInt) : pz_I l yX1_weekdayOf wsX1_weekdayOf ({ frames := 2, cells := 0, slots := 0, locals := 42 } : Room) D ((cyI, .int) :: ts) [.ref h1, .int x] [(h1, .inr (1, [.int th, .int yr, .int mo, .int da, .int (nI mk), .ref bc, .ref bf, .ref bg, .int (nI wr)])), (bc, .inl (cyI, 366, .inl (pz_ar rc))), (bf, .inl (cyI, 3001, .inl (pz_ar ff))), (bg, .inl (cyI, 3001, .inl (pz_ar gg)))] (S := Unit) (fun r _ => r = nI 0) (fun _ => [(h1, .inr (1, [.int (nI 1), .int yr, .int mo, .int da, .int (nI mk), .ref bc, .ref bf, .ref bg, .int (nI wr)])), (bc, .inl (cyI, 366, .inl (pz_ar rc))), (bf, .inl (cyI, 3001, .inl (pz_ar ff))), (bg, .inl (cyI, 3001, .inl (pz_ar gg)))]) := by
  refine pz_I_of (cc := cX1_weekdayOf) (maxL := 2) (ty := .int) (own := RX1) (by decide) rfl rfl (Nat.le_of_ble_eq_true rfl) ?_
  intro p e s m below meth c A ls Q hx hb hml hown hts hK hP hD hS hA hl hQ
  have hl : lv_has ls 2 [(0, .ref h1), (1, .int x)] := hl
  refine lv_aload_n hx hb dX1_weekdayOf_0 rfl (lv_at hl 0 rfl) ?_
  refine lv_iload_n hx hb dX1_weekdayOf_1 rfl (lv_at hl 1 rfl) ?_
  refine pz_SR (rest := [.ref h1]) ⟨hx, hb, hml, hown, hts⟩ (k_X1_isDay_x l D ((cyI, .int) :: ts) x (by omega)) (va_cwS 1 hts gX1_weekdayOf_X1_isDay rfl rfl rfl (by decide +kernel) ⟨Nat.le_of_ble_eq_true rfl, Nat.le_of_ble_eq_true rfl⟩) hK hP (hD.weaken (fun _ _ _ _ => trivial)) hS hA [] rfl rfl rfl rfl hl.1 rfl (lv_room (Nat.le_of_ble_eq_true rfl)) dX1_weekdayOf_2 ⟨Nat.le_of_ble_eq_true rfl, Nat.le_of_ble_eq_true rfl⟩ (fun r H locs hr hP hS => ?_)
  obtain rfl : r = (nI 0) := hr
  refine pn_if_eq (tgt := 12) hx hb (by omega) dX1_weekdayOf_5 (by decide) (fun _ => ?_) (fun c_2 => absurd c_2 (by decide))
  refine lv_iconst (v := nI 1) hx hb dX1_weekdayOf_12 (by decide) ?_
  refine pz_VI (rest := []) (wr := []) ⟨hx, hb, hml, hown, hts⟩ (k_X1_isFine_k l D h1 bc bf bg cyI ts th yr mo da mk wr rc ff gg 1 (by omega) (by omega)) (cwV 1 hts gX1_weekdayOf_X1_isFine rfl rfl rfl (by decide +kernel) ⟨Nat.le_of_ble_eq_true rfl, Nat.le_of_ble_eq_true rfl⟩) hK hP hD hS hA [0, 1, 2, 3] [] rfl rfl rfl rfl rfl (by decide) 0 1 rfl rfl rfl hl.1 rfl (lv_room (Nat.le_of_ble_eq_true rfl)) dX1_weekdayOf_13 ⟨Nat.le_of_ble_eq_true rfl, Nat.le_of_ble_eq_true rfl⟩ (fun r u H locs hr hP hD hS => ?_)
  have hP : va_P D vwCl [(h1, .inr (1, [.int (nI 1), .int yr, .int mo, .int da, .int (nI mk), .ref bc, .ref bf, .ref bg, .int (nI wr)])), (bc, .inl (cyI, 366, .inl (pz_ar rc))), (bf, .inl (cyI, 3001, .inl (pz_ar ff))), (bg, .inl (cyI, 3001, .inl (pz_ar gg)))] H := hP
  have hD : va_D A [(h1, .inr (1, [.int (nI 1), .int yr, .int mo, .int da, .int (nI mk), .ref bc, .ref bf, .ref bg, .int (nI wr)])), (bc, .inl (cyI, 366, .inl (pz_ar rc))), (bf, .inl (cyI, 3001, .inl (pz_ar ff))), (bg, .inl (cyI, 3001, .inl (pz_ar gg)))] := hD
  obtain rfl : r = (nI 0) := hr
  refine pn_if_eq (tgt := 29) hx hb (by omega) dX1_weekdayOf_16 (by decide) (fun _ => ?_) (fun c_4 => absurd c_4 (by decide))
  refine lv_iconst (v := nI 0) hx hb dX1_weekdayOf_29 (by decide) ?_
  exact hQ _ _ _ _ _ () dX1_weekdayOf_30 rfl (congrArg nI (by rfl)) hP hD hS
set_option maxHeartbeats 4000000 in
set_option maxRecDepth 100000 in
theorem k_X1_anchorOf_x (l : Launch) (D : va_G) (h1 bc bf bg : Nat) (cyI : ClassId) (ts : List (ClassId × FieldType)) (th yr mo da : Int32) (mk wr : Nat) (rc ff gg : Nat → Nat) (x : Int32) (hy0 : x.toInt < 0 ∨ 1095749 < x.toInt) : pz_I l yX1_anchorOf wsX1_anchorOf ({ frames := 4, cells := 0, slots := 0, locals := 85 } : Room) D ((cyI, .int) :: ts) [.ref h1, .int x] [(h1, .inr (1, [.int th, .int yr, .int mo, .int da, .int (nI mk), .ref bc, .ref bf, .ref bg, .int (nI wr)])), (bc, .inl (cyI, 366, .inl (pz_ar rc))), (bf, .inl (cyI, 3001, .inl (pz_ar ff))), (bg, .inl (cyI, 3001, .inl (pz_ar gg)))] (S := Unit) (fun r _ => r = nI 0) (fun _ => [(h1, .inr (1, [.int (nI 1), .int yr, .int mo, .int da, .int (nI mk), .ref bc, .ref bf, .ref bg, .int (nI wr)])), (bc, .inl (cyI, 366, .inl (pz_ar rc))), (bf, .inl (cyI, 3001, .inl (pz_ar ff))), (bg, .inl (cyI, 3001, .inl (pz_ar gg)))]) := by
  refine pz_I_of (cc := cX1_anchorOf) (maxL := 2) (ty := .int) (own := RX1) (by decide) rfl rfl (Nat.le_of_ble_eq_true rfl) ?_
  intro p e s m below meth c A ls Q hx hb hml hown hts hK hP hD hS hA hl hQ
  have hl : lv_has ls 2 [(0, .ref h1), (1, .int x)] := hl
  refine lv_aload_n hx hb dX1_anchorOf_0 rfl (lv_at hl 0 rfl) ?_
  refine lv_iload_n hx hb dX1_anchorOf_1 rfl (lv_at hl 1 rfl) ?_
  refine pz_VI (rest := []) (wr := []) ⟨hx, hb, hml, hown, hts⟩ (k_X1_isAsked_x l D h1 bc bf bg cyI ts th yr mo da mk wr rc ff gg x (by omega)) (cwV 1 hts gX1_anchorOf_X1_isAsked rfl rfl rfl (by decide +kernel) ⟨Nat.le_of_ble_eq_true rfl, Nat.le_of_ble_eq_true rfl⟩) hK hP hD hS hA [0, 1, 2, 3] [] rfl rfl rfl rfl rfl (by decide) 0 1 rfl rfl rfl hl.1 rfl (lv_room (Nat.le_of_ble_eq_true rfl)) dX1_anchorOf_2 ⟨Nat.le_of_ble_eq_true rfl, Nat.le_of_ble_eq_true rfl⟩ (fun r u H locs hr hP hD hS => ?_)
  have hP : va_P D vwCl [(h1, .inr (1, [.int (nI 1), .int yr, .int mo, .int da, .int (nI mk), .ref bc, .ref bf, .ref bg, .int (nI wr)])), (bc, .inl (cyI, 366, .inl (pz_ar rc))), (bf, .inl (cyI, 3001, .inl (pz_ar ff))), (bg, .inl (cyI, 3001, .inl (pz_ar gg)))] H := hP
  have hD : va_D A [(h1, .inr (1, [.int (nI 1), .int yr, .int mo, .int da, .int (nI mk), .ref bc, .ref bf, .ref bg, .int (nI wr)])), (bc, .inl (cyI, 366, .inl (pz_ar rc))), (bf, .inl (cyI, 3001, .inl (pz_ar ff))), (bg, .inl (cyI, 3001, .inl (pz_ar gg)))] := hD
  obtain rfl : r = (nI 0) := hr
  refine pn_if_eq (tgt := 15) hx hb (by omega) dX1_anchorOf_5 (by decide) (fun _ => ?_) (fun c_2 => absurd c_2 (by decide))
  refine lv_iconst (v := nI 0) hx hb dX1_anchorOf_15 (by decide) ?_
  exact hQ _ _ _ _ _ () dX1_anchorOf_16 rfl (congrArg nI (by rfl)) hP hD hS
set_option maxHeartbeats 4000000 in
set_option maxRecDepth 100000 in
theorem k_X1_anchorMonthOf_x (l : Launch) (D : va_G) (h1 bc bf bg : Nat) (cyI : ClassId) (ts : List (ClassId × FieldType)) (th yr mo da : Int32) (mk wr : Nat) (rc ff gg : Nat → Nat) (x : Int32) (hy0 : x.toInt < 0 ∨ 1095749 < x.toInt) : pz_I l yX1_anchorMonthOf wsX1_anchorMonthOf ({ frames := 4, cells := 0, slots := 0, locals := 85 } : Room) D ((cyI, .int) :: ts) [.ref h1, .int x] [(h1, .inr (1, [.int th, .int yr, .int mo, .int da, .int (nI mk), .ref bc, .ref bf, .ref bg, .int (nI wr)])), (bc, .inl (cyI, 366, .inl (pz_ar rc))), (bf, .inl (cyI, 3001, .inl (pz_ar ff))), (bg, .inl (cyI, 3001, .inl (pz_ar gg)))] (S := Unit) (fun r _ => r = nI 0) (fun _ => [(h1, .inr (1, [.int (nI 1), .int yr, .int mo, .int da, .int (nI mk), .ref bc, .ref bf, .ref bg, .int (nI wr)])), (bc, .inl (cyI, 366, .inl (pz_ar rc))), (bf, .inl (cyI, 3001, .inl (pz_ar ff))), (bg, .inl (cyI, 3001, .inl (pz_ar gg)))]) := by
  refine pz_I_of (cc := cX1_anchorMonthOf) (maxL := 2) (ty := .int) (own := RX1) (by decide) rfl rfl (Nat.le_of_ble_eq_true rfl) ?_
  intro p e s m below meth c A ls Q hx hb hml hown hts hK hP hD hS hA hl hQ
  have hl : lv_has ls 2 [(0, .ref h1), (1, .int x)] := hl
  refine lv_aload_n hx hb dX1_anchorMonthOf_0 rfl (lv_at hl 0 rfl) ?_
  refine lv_iload_n hx hb dX1_anchorMonthOf_1 rfl (lv_at hl 1 rfl) ?_
  refine pz_VI (rest := []) (wr := []) ⟨hx, hb, hml, hown, hts⟩ (k_X1_isAsked_x l D h1 bc bf bg cyI ts th yr mo da mk wr rc ff gg x (by omega)) (cwV 1 hts gX1_anchorMonthOf_X1_isAsked rfl rfl rfl (by decide +kernel) ⟨Nat.le_of_ble_eq_true rfl, Nat.le_of_ble_eq_true rfl⟩) hK hP hD hS hA [0, 1, 2, 3] [] rfl rfl rfl rfl rfl (by decide) 0 1 rfl rfl rfl hl.1 rfl (lv_room (Nat.le_of_ble_eq_true rfl)) dX1_anchorMonthOf_2 ⟨Nat.le_of_ble_eq_true rfl, Nat.le_of_ble_eq_true rfl⟩ (fun r u H locs hr hP hD hS => ?_)
  have hP : va_P D vwCl [(h1, .inr (1, [.int (nI 1), .int yr, .int mo, .int da, .int (nI mk), .ref bc, .ref bf, .ref bg, .int (nI wr)])), (bc, .inl (cyI, 366, .inl (pz_ar rc))), (bf, .inl (cyI, 3001, .inl (pz_ar ff))), (bg, .inl (cyI, 3001, .inl (pz_ar gg)))] H := hP
  have hD : va_D A [(h1, .inr (1, [.int (nI 1), .int yr, .int mo, .int da, .int (nI mk), .ref bc, .ref bf, .ref bg, .int (nI wr)])), (bc, .inl (cyI, 366, .inl (pz_ar rc))), (bf, .inl (cyI, 3001, .inl (pz_ar ff))), (bg, .inl (cyI, 3001, .inl (pz_ar gg)))] := hD
  obtain rfl : r = (nI 0) := hr
  refine pn_if_eq (tgt := 15) hx hb (by omega) dX1_anchorMonthOf_5 (by decide) (fun _ => ?_) (fun c_2 => absurd c_2 (by decide))
  refine lv_iconst (v := nI 0) hx hb dX1_anchorMonthOf_15 (by decide) ?_
  exact hQ _ _ _ _ _ () dX1_anchorMonthOf_16 rfl (congrArg nI (by rfl)) hP hD hS
set_option maxHeartbeats 4000000 in
set_option maxRecDepth 100000 in
theorem k_X1_countOf_x (l : Launch) (D : va_G) (h1 bc bf bg : Nat) (cyI : ClassId) (ts : List (ClassId × FieldType)) (th yr mo da : Int32) (mk wr : Nat) (rc ff gg : Nat → Nat) (x : Int32) (hy0 : x.toInt < 0 ∨ 1095749 < x.toInt) : pz_I l yX1_countOf wsX1_countOf ({ frames := 4, cells := 0, slots := 0, locals := 85 } : Room) D ((cyI, .int) :: ts) [.ref h1, .int x] [(h1, .inr (1, [.int th, .int yr, .int mo, .int da, .int (nI mk), .ref bc, .ref bf, .ref bg, .int (nI wr)])), (bc, .inl (cyI, 366, .inl (pz_ar rc))), (bf, .inl (cyI, 3001, .inl (pz_ar ff))), (bg, .inl (cyI, 3001, .inl (pz_ar gg)))] (S := Unit) (fun r _ => r = nI 0) (fun _ => [(h1, .inr (1, [.int (nI 1), .int yr, .int mo, .int da, .int (nI mk), .ref bc, .ref bf, .ref bg, .int (nI wr)])), (bc, .inl (cyI, 366, .inl (pz_ar rc))), (bf, .inl (cyI, 3001, .inl (pz_ar ff))), (bg, .inl (cyI, 3001, .inl (pz_ar gg)))]) := by
  refine pz_I_of (cc := cX1_countOf) (maxL := 2) (ty := .int) (own := RX1) (by decide) rfl rfl (Nat.le_of_ble_eq_true rfl) ?_
  intro p e s m below meth c A ls Q hx hb hml hown hts hK hP hD hS hA hl hQ
  have hl : lv_has ls 2 [(0, .ref h1), (1, .int x)] := hl
  refine lv_aload_n hx hb dX1_countOf_0 rfl (lv_at hl 0 rfl) ?_
  refine lv_iload_n hx hb dX1_countOf_1 rfl (lv_at hl 1 rfl) ?_
  refine pz_VI (rest := []) (wr := []) ⟨hx, hb, hml, hown, hts⟩ (k_X1_isAsked_x l D h1 bc bf bg cyI ts th yr mo da mk wr rc ff gg x (by omega)) (cwV 1 hts gX1_countOf_X1_isAsked rfl rfl rfl (by decide +kernel) ⟨Nat.le_of_ble_eq_true rfl, Nat.le_of_ble_eq_true rfl⟩) hK hP hD hS hA [0, 1, 2, 3] [] rfl rfl rfl rfl rfl (by decide) 0 1 rfl rfl rfl hl.1 rfl (lv_room (Nat.le_of_ble_eq_true rfl)) dX1_countOf_2 ⟨Nat.le_of_ble_eq_true rfl, Nat.le_of_ble_eq_true rfl⟩ (fun r u H locs hr hP hD hS => ?_)
  have hP : va_P D vwCl [(h1, .inr (1, [.int (nI 1), .int yr, .int mo, .int da, .int (nI mk), .ref bc, .ref bf, .ref bg, .int (nI wr)])), (bc, .inl (cyI, 366, .inl (pz_ar rc))), (bf, .inl (cyI, 3001, .inl (pz_ar ff))), (bg, .inl (cyI, 3001, .inl (pz_ar gg)))] H := hP
  have hD : va_D A [(h1, .inr (1, [.int (nI 1), .int yr, .int mo, .int da, .int (nI mk), .ref bc, .ref bf, .ref bg, .int (nI wr)])), (bc, .inl (cyI, 366, .inl (pz_ar rc))), (bf, .inl (cyI, 3001, .inl (pz_ar ff))), (bg, .inl (cyI, 3001, .inl (pz_ar gg)))] := hD
  obtain rfl : r = (nI 0) := hr
  refine pn_if_eq (tgt := 15) hx hb (by omega) dX1_countOf_5 (by decide) (fun _ => ?_) (fun c_2 => absurd c_2 (by decide))
  refine lv_iconst (v := nI 0) hx hb dX1_countOf_15 (by decide) ?_
  exact hQ _ _ _ _ _ () dX1_countOf_16 rfl (congrArg nI (by rfl)) hP hD hS
set_option maxHeartbeats 4000000 in
set_option maxRecDepth 100000 in
theorem k_X1_isDoubled_x (l : Launch) (D : va_G) (h1 bc bf bg : Nat) (cyI : ClassId) (ts : List (ClassId × FieldType)) (th yr mo da : Int32) (mk wr : Nat) (rc ff gg : Nat → Nat) (x : Int32) (hy0 : x.toInt < 0 ∨ 1095749 < x.toInt) : pz_I l yX1_isDoubled wsX1_isDoubled ({ frames := 4, cells := 0, slots := 0, locals := 85 } : Room) D ((cyI, .int) :: ts) [.ref h1, .int x] [(h1, .inr (1, [.int th, .int yr, .int mo, .int da, .int (nI mk), .ref bc, .ref bf, .ref bg, .int (nI wr)])), (bc, .inl (cyI, 366, .inl (pz_ar rc))), (bf, .inl (cyI, 3001, .inl (pz_ar ff))), (bg, .inl (cyI, 3001, .inl (pz_ar gg)))] (S := Unit) (fun r _ => r = nI 0) (fun _ => [(h1, .inr (1, [.int (nI 1), .int yr, .int mo, .int da, .int (nI mk), .ref bc, .ref bf, .ref bg, .int (nI wr)])), (bc, .inl (cyI, 366, .inl (pz_ar rc))), (bf, .inl (cyI, 3001, .inl (pz_ar ff))), (bg, .inl (cyI, 3001, .inl (pz_ar gg)))]) := by
  refine pz_I_of (cc := cX1_isDoubled) (maxL := 2) (ty := .boolean) (own := RX1) (by decide) rfl rfl (Nat.le_of_ble_eq_true rfl) ?_
  intro p e s m below meth c A ls Q hx hb hml hown hts hK hP hD hS hA hl hQ
  have hl : lv_has ls 2 [(0, .ref h1), (1, .int x)] := hl
  refine lv_aload_n hx hb dX1_isDoubled_0 rfl (lv_at hl 0 rfl) ?_
  refine lv_iload_n hx hb dX1_isDoubled_1 rfl (lv_at hl 1 rfl) ?_
  refine pz_VI (rest := []) (wr := []) ⟨hx, hb, hml, hown, hts⟩ (k_X1_isAsked_x l D h1 bc bf bg cyI ts th yr mo da mk wr rc ff gg x (by omega)) (cwV 1 hts gX1_isDoubled_X1_isAsked rfl rfl rfl (by decide +kernel) ⟨Nat.le_of_ble_eq_true rfl, Nat.le_of_ble_eq_true rfl⟩) hK hP hD hS hA [0, 1, 2, 3] [] rfl rfl rfl rfl rfl (by decide) 0 1 rfl rfl rfl hl.1 rfl (lv_room (Nat.le_of_ble_eq_true rfl)) dX1_isDoubled_2 ⟨Nat.le_of_ble_eq_true rfl, Nat.le_of_ble_eq_true rfl⟩ (fun r u H locs hr hP hD hS => ?_)
  have hP : va_P D vwCl [(h1, .inr (1, [.int (nI 1), .int yr, .int mo, .int da, .int (nI mk), .ref bc, .ref bf, .ref bg, .int (nI wr)])), (bc, .inl (cyI, 366, .inl (pz_ar rc))), (bf, .inl (cyI, 3001, .inl (pz_ar ff))), (bg, .inl (cyI, 3001, .inl (pz_ar gg)))] H := hP
  have hD : va_D A [(h1, .inr (1, [.int (nI 1), .int yr, .int mo, .int da, .int (nI mk), .ref bc, .ref bf, .ref bg, .int (nI wr)])), (bc, .inl (cyI, 366, .inl (pz_ar rc))), (bf, .inl (cyI, 3001, .inl (pz_ar ff))), (bg, .inl (cyI, 3001, .inl (pz_ar gg)))] := hD
  obtain rfl : r = (nI 0) := hr
  refine pn_if_eq (tgt := 19) hx hb (by omega) dX1_isDoubled_5 (by decide) (fun _ => ?_) (fun c_2 => absurd c_2 (by decide))
  refine lv_iconst (v := nI 0) hx hb dX1_isDoubled_19 (by decide) ?_
  exact hQ _ _ _ _ _ () dX1_isDoubled_20 (by decide) (congrArg nI (by rfl)) hP hD hS
set_option maxHeartbeats 4000000 in
set_option maxRecDepth 100000 in
theorem k_X1_lawNumber_x (l : Launch) (D : va_G) (h1 bc bf bg : Nat) (cyI : ClassId) (ts : List (ClassId × FieldType)) (th yr mo da : Int32) (mk wr : Nat) (rc ff gg : Nat → Nat) (x : Int32) (hy0 : x.toInt < 0 ∨ 1095749 < x.toInt) : pz_I l yX1_lawNumber wsX1_lawNumber ({ frames := 4, cells := 0, slots := 0, locals := 85 } : Room) D ((cyI, .int) :: ts) [.ref h1, .int x] [(h1, .inr (1, [.int th, .int yr, .int mo, .int da, .int (nI mk), .ref bc, .ref bf, .ref bg, .int (nI wr)])), (bc, .inl (cyI, 366, .inl (pz_ar rc))), (bf, .inl (cyI, 3001, .inl (pz_ar ff))), (bg, .inl (cyI, 3001, .inl (pz_ar gg)))] (S := Unit) (fun r _ => r = nI 0) (fun _ => [(h1, .inr (1, [.int (nI 1), .int yr, .int mo, .int da, .int (nI mk), .ref bc, .ref bf, .ref bg, .int (nI wr)])), (bc, .inl (cyI, 366, .inl (pz_ar rc))), (bf, .inl (cyI, 3001, .inl (pz_ar ff))), (bg, .inl (cyI, 3001, .inl (pz_ar gg)))]) := by
  refine pz_I_of (cc := cX1_lawNumber) (maxL := 2) (ty := .int) (own := RX1) (by decide) rfl rfl (Nat.le_of_ble_eq_true rfl) ?_
  intro p e s m below meth c A ls Q hx hb hml hown hts hK hP hD hS hA hl hQ
  have hl : lv_has ls 2 [(0, .ref h1), (1, .int x)] := hl
  refine lv_aload_n hx hb dX1_lawNumber_0 rfl (lv_at hl 0 rfl) ?_
  refine lv_iload_n hx hb dX1_lawNumber_1 rfl (lv_at hl 1 rfl) ?_
  refine pz_SR (rest := [.ref h1]) ⟨hx, hb, hml, hown, hts⟩ (k_X1_isDay_x l D ((cyI, .int) :: ts) x (by omega)) (va_cwS 1 hts gX1_lawNumber_X1_isDay rfl rfl rfl (by decide +kernel) ⟨Nat.le_of_ble_eq_true rfl, Nat.le_of_ble_eq_true rfl⟩) hK hP (hD.weaken (fun _ _ _ _ => trivial)) hS hA [] rfl rfl rfl rfl hl.1 rfl (lv_room (Nat.le_of_ble_eq_true rfl)) dX1_lawNumber_2 ⟨Nat.le_of_ble_eq_true rfl, Nat.le_of_ble_eq_true rfl⟩ (fun r H locs hr hP hS => ?_)
  obtain rfl : r = (nI 0) := hr
  refine pn_if_eq (tgt := 12) hx hb (by omega) dX1_lawNumber_5 (by decide) (fun _ => ?_) (fun c_2 => absurd c_2 (by decide))
  refine lv_iconst (v := nI 1) hx hb dX1_lawNumber_12 (by decide) ?_
  refine pz_VI (rest := []) (wr := []) ⟨hx, hb, hml, hown, hts⟩ (k_X1_isFine_k l D h1 bc bf bg cyI ts th yr mo da mk wr rc ff gg 1 (by omega) (by omega)) (cwV 1 hts gX1_lawNumber_X1_isFine rfl rfl rfl (by decide +kernel) ⟨Nat.le_of_ble_eq_true rfl, Nat.le_of_ble_eq_true rfl⟩) hK hP hD hS hA [0, 1, 2, 3] [] rfl rfl rfl rfl rfl (by decide) 0 1 rfl rfl rfl hl.1 rfl (lv_room (Nat.le_of_ble_eq_true rfl)) dX1_lawNumber_13 ⟨Nat.le_of_ble_eq_true rfl, Nat.le_of_ble_eq_true rfl⟩ (fun r u H locs hr hP hD hS => ?_)
  have hP : va_P D vwCl [(h1, .inr (1, [.int (nI 1), .int yr, .int mo, .int da, .int (nI mk), .ref bc, .ref bf, .ref bg, .int (nI wr)])), (bc, .inl (cyI, 366, .inl (pz_ar rc))), (bf, .inl (cyI, 3001, .inl (pz_ar ff))), (bg, .inl (cyI, 3001, .inl (pz_ar gg)))] H := hP
  have hD : va_D A [(h1, .inr (1, [.int (nI 1), .int yr, .int mo, .int da, .int (nI mk), .ref bc, .ref bf, .ref bg, .int (nI wr)])), (bc, .inl (cyI, 366, .inl (pz_ar rc))), (bf, .inl (cyI, 3001, .inl (pz_ar ff))), (bg, .inl (cyI, 3001, .inl (pz_ar gg)))] := hD
  obtain rfl : r = (nI 0) := hr
  refine pn_if_eq (tgt := 27) hx hb (by omega) dX1_lawNumber_16 (by decide) (fun _ => ?_) (fun c_4 => absurd c_4 (by decide))
  refine lv_iconst (v := nI 0) hx hb dX1_lawNumber_27 (by decide) ?_
  exact hQ _ _ _ _ _ () dX1_lawNumber_28 rfl (congrArg nI (by rfl)) hP hD hS
set_option maxHeartbeats 4000000 in
set_option maxRecDepth 100000 in
theorem k_X1_placeOf_x (l : Launch) (D : va_G) (h1 bc bf bg : Nat) (cyI : ClassId) (ts : List (ClassId × FieldType)) (th yr mo da : Int32) (mk wr : Nat) (rc ff gg : Nat → Nat) (x : Int32) (hy0 : x.toInt < 0 ∨ 1095749 < x.toInt) : pz_I l yX1_placeOf wsX1_placeOf ({ frames := 4, cells := 0, slots := 0, locals := 85 } : Room) D ((cyI, .int) :: ts) [.ref h1, .int x] [(h1, .inr (1, [.int th, .int yr, .int mo, .int da, .int (nI mk), .ref bc, .ref bf, .ref bg, .int (nI wr)])), (bc, .inl (cyI, 366, .inl (pz_ar rc))), (bf, .inl (cyI, 3001, .inl (pz_ar ff))), (bg, .inl (cyI, 3001, .inl (pz_ar gg)))] (S := Unit) (fun r _ => r = nI 0) (fun _ => [(h1, .inr (1, [.int (nI 1), .int yr, .int mo, .int da, .int (nI mk), .ref bc, .ref bf, .ref bg, .int (nI wr)])), (bc, .inl (cyI, 366, .inl (pz_ar rc))), (bf, .inl (cyI, 3001, .inl (pz_ar ff))), (bg, .inl (cyI, 3001, .inl (pz_ar gg)))]) := by
  refine pz_I_of (cc := cX1_placeOf) (maxL := 2) (ty := .int) (own := RX1) (by decide) rfl rfl (Nat.le_of_ble_eq_true rfl) ?_
  intro p e s m below meth c A ls Q hx hb hml hown hts hK hP hD hS hA hl hQ
  have hl : lv_has ls 2 [(0, .ref h1), (1, .int x)] := hl
  refine lv_aload_n hx hb dX1_placeOf_0 rfl (lv_at hl 0 rfl) ?_
  refine lv_iload_n hx hb dX1_placeOf_1 rfl (lv_at hl 1 rfl) ?_
  refine pz_SR (rest := [.ref h1]) ⟨hx, hb, hml, hown, hts⟩ (k_X1_isDay_x l D ((cyI, .int) :: ts) x (by omega)) (va_cwS 1 hts gX1_placeOf_X1_isDay rfl rfl rfl (by decide +kernel) ⟨Nat.le_of_ble_eq_true rfl, Nat.le_of_ble_eq_true rfl⟩) hK hP (hD.weaken (fun _ _ _ _ => trivial)) hS hA [] rfl rfl rfl rfl hl.1 rfl (lv_room (Nat.le_of_ble_eq_true rfl)) dX1_placeOf_2 ⟨Nat.le_of_ble_eq_true rfl, Nat.le_of_ble_eq_true rfl⟩ (fun r H locs hr hP hS => ?_)
  obtain rfl : r = (nI 0) := hr
  refine pn_if_eq (tgt := 12) hx hb (by omega) dX1_placeOf_5 (by decide) (fun _ => ?_) (fun c_2 => absurd c_2 (by decide))
  refine lv_iconst (v := nI 1) hx hb dX1_placeOf_12 (by decide) ?_
  refine pz_VI (rest := []) (wr := []) ⟨hx, hb, hml, hown, hts⟩ (k_X1_isFine_k l D h1 bc bf bg cyI ts th yr mo da mk wr rc ff gg 1 (by omega) (by omega)) (cwV 1 hts gX1_placeOf_X1_isFine rfl rfl rfl (by decide +kernel) ⟨Nat.le_of_ble_eq_true rfl, Nat.le_of_ble_eq_true rfl⟩) hK hP hD hS hA [0, 1, 2, 3] [] rfl rfl rfl rfl rfl (by decide) 0 1 rfl rfl rfl hl.1 rfl (lv_room (Nat.le_of_ble_eq_true rfl)) dX1_placeOf_13 ⟨Nat.le_of_ble_eq_true rfl, Nat.le_of_ble_eq_true rfl⟩ (fun r u H locs hr hP hD hS => ?_)
  have hP : va_P D vwCl [(h1, .inr (1, [.int (nI 1), .int yr, .int mo, .int da, .int (nI mk), .ref bc, .ref bf, .ref bg, .int (nI wr)])), (bc, .inl (cyI, 366, .inl (pz_ar rc))), (bf, .inl (cyI, 3001, .inl (pz_ar ff))), (bg, .inl (cyI, 3001, .inl (pz_ar gg)))] H := hP
  have hD : va_D A [(h1, .inr (1, [.int (nI 1), .int yr, .int mo, .int da, .int (nI mk), .ref bc, .ref bf, .ref bg, .int (nI wr)])), (bc, .inl (cyI, 366, .inl (pz_ar rc))), (bf, .inl (cyI, 3001, .inl (pz_ar ff))), (bg, .inl (cyI, 3001, .inl (pz_ar gg)))] := hD
  obtain rfl : r = (nI 0) := hr
  refine pn_if_eq (tgt := 27) hx hb (by omega) dX1_placeOf_16 (by decide) (fun _ => ?_) (fun c_4 => absurd c_4 (by decide))
  refine lv_iconst (v := nI 0) hx hb dX1_placeOf_27 (by decide) ?_
  exact hQ _ _ _ _ _ () dX1_placeOf_28 rfl (congrArg nI (by rfl)) hP hD hS
set_option maxHeartbeats 4000000 in
set_option maxRecDepth 100000 in
theorem k_X1_letterOfEight_x (l : Launch) (D : va_G) (h1 bc bf bg : Nat) (cyI : ClassId) (ts : List (ClassId × FieldType)) (th yr mo da : Int32) (mk wr : Nat) (rc ff gg : Nat → Nat) (x : Int32) (hy0 : x.toInt < 0 ∨ 1095749 < x.toInt) : pz_I l yX1_letterOfEight wsX1_letterOfEight ({ frames := 4, cells := 0, slots := 0, locals := 85 } : Room) D ((cyI, .int) :: ts) [.ref h1, .int x] [(h1, .inr (1, [.int th, .int yr, .int mo, .int da, .int (nI mk), .ref bc, .ref bf, .ref bg, .int (nI wr)])), (bc, .inl (cyI, 366, .inl (pz_ar rc))), (bf, .inl (cyI, 3001, .inl (pz_ar ff))), (bg, .inl (cyI, 3001, .inl (pz_ar gg)))] (S := Unit) (fun r _ => r = nI 0) (fun _ => [(h1, .inr (1, [.int (nI 1), .int yr, .int mo, .int da, .int (nI mk), .ref bc, .ref bf, .ref bg, .int (nI wr)])), (bc, .inl (cyI, 366, .inl (pz_ar rc))), (bf, .inl (cyI, 3001, .inl (pz_ar ff))), (bg, .inl (cyI, 3001, .inl (pz_ar gg)))]) := by
  refine pz_I_of (cc := cX1_letterOfEight) (maxL := 2) (ty := .int) (own := RX1) (by decide) rfl rfl (Nat.le_of_ble_eq_true rfl) ?_
  intro p e s m below meth c A ls Q hx hb hml hown hts hK hP hD hS hA hl hQ
  have hl : lv_has ls 2 [(0, .ref h1), (1, .int x)] := hl
  refine lv_aload_n hx hb dX1_letterOfEight_0 rfl (lv_at hl 0 rfl) ?_
  refine lv_iload_n hx hb dX1_letterOfEight_1 rfl (lv_at hl 1 rfl) ?_
  refine pz_SR (rest := [.ref h1]) ⟨hx, hb, hml, hown, hts⟩ (k_X1_isDay_x l D ((cyI, .int) :: ts) x (by omega)) (va_cwS 1 hts gX1_letterOfEight_X1_isDay rfl rfl rfl (by decide +kernel) ⟨Nat.le_of_ble_eq_true rfl, Nat.le_of_ble_eq_true rfl⟩) hK hP (hD.weaken (fun _ _ _ _ => trivial)) hS hA [] rfl rfl rfl rfl hl.1 rfl (lv_room (Nat.le_of_ble_eq_true rfl)) dX1_letterOfEight_2 ⟨Nat.le_of_ble_eq_true rfl, Nat.le_of_ble_eq_true rfl⟩ (fun r H locs hr hP hS => ?_)
  obtain rfl : r = (nI 0) := hr
  refine pn_if_eq (tgt := 12) hx hb (by omega) dX1_letterOfEight_5 (by decide) (fun _ => ?_) (fun c_2 => absurd c_2 (by decide))
  refine lv_iconst (v := nI 1) hx hb dX1_letterOfEight_12 (by decide) ?_
  refine pz_VI (rest := []) (wr := []) ⟨hx, hb, hml, hown, hts⟩ (k_X1_isFine_k l D h1 bc bf bg cyI ts th yr mo da mk wr rc ff gg 1 (by omega) (by omega)) (cwV 1 hts gX1_letterOfEight_X1_isFine rfl rfl rfl (by decide +kernel) ⟨Nat.le_of_ble_eq_true rfl, Nat.le_of_ble_eq_true rfl⟩) hK hP hD hS hA [0, 1, 2, 3] [] rfl rfl rfl rfl rfl (by decide) 0 1 rfl rfl rfl hl.1 rfl (lv_room (Nat.le_of_ble_eq_true rfl)) dX1_letterOfEight_13 ⟨Nat.le_of_ble_eq_true rfl, Nat.le_of_ble_eq_true rfl⟩ (fun r u H locs hr hP hD hS => ?_)
  have hP : va_P D vwCl [(h1, .inr (1, [.int (nI 1), .int yr, .int mo, .int da, .int (nI mk), .ref bc, .ref bf, .ref bg, .int (nI wr)])), (bc, .inl (cyI, 366, .inl (pz_ar rc))), (bf, .inl (cyI, 3001, .inl (pz_ar ff))), (bg, .inl (cyI, 3001, .inl (pz_ar gg)))] H := hP
  have hD : va_D A [(h1, .inr (1, [.int (nI 1), .int yr, .int mo, .int da, .int (nI mk), .ref bc, .ref bf, .ref bg, .int (nI wr)])), (bc, .inl (cyI, 366, .inl (pz_ar rc))), (bf, .inl (cyI, 3001, .inl (pz_ar ff))), (bg, .inl (cyI, 3001, .inl (pz_ar gg)))] := hD
  obtain rfl : r = (nI 0) := hr
  refine pn_if_eq (tgt := 32) hx hb (by omega) dX1_letterOfEight_16 (by decide) (fun _ => ?_) (fun c_4 => absurd c_4 (by decide))
  refine lv_iconst (v := nI 0) hx hb dX1_letterOfEight_32 (by decide) ?_
  exact hQ _ _ _ _ _ () dX1_letterOfEight_33 rfl (congrArg nI (by rfl)) hP hD hS
set_option maxHeartbeats 4000000 in
set_option maxRecDepth 100000 in
theorem k_X1_letterOfSeven_x (l : Launch) (D : va_G) (h1 bc bf bg : Nat) (cyI : ClassId) (ts : List (ClassId × FieldType)) (th yr mo da : Int32) (mk wr : Nat) (rc ff gg : Nat → Nat) (x : Int32) (hy0 : x.toInt < 0 ∨ 1095749 < x.toInt) : pz_I l yX1_letterOfSeven wsX1_letterOfSeven ({ frames := 4, cells := 0, slots := 0, locals := 85 } : Room) D ((cyI, .int) :: ts) [.ref h1, .int x] [(h1, .inr (1, [.int th, .int yr, .int mo, .int da, .int (nI mk), .ref bc, .ref bf, .ref bg, .int (nI wr)])), (bc, .inl (cyI, 366, .inl (pz_ar rc))), (bf, .inl (cyI, 3001, .inl (pz_ar ff))), (bg, .inl (cyI, 3001, .inl (pz_ar gg)))] (S := Unit) (fun r _ => r = nI 0) (fun _ => [(h1, .inr (1, [.int (nI 1), .int yr, .int mo, .int da, .int (nI mk), .ref bc, .ref bf, .ref bg, .int (nI wr)])), (bc, .inl (cyI, 366, .inl (pz_ar rc))), (bf, .inl (cyI, 3001, .inl (pz_ar ff))), (bg, .inl (cyI, 3001, .inl (pz_ar gg)))]) := by
  refine pz_I_of (cc := cX1_letterOfSeven) (maxL := 2) (ty := .int) (own := RX1) (by decide) rfl rfl (Nat.le_of_ble_eq_true rfl) ?_
  intro p e s m below meth c A ls Q hx hb hml hown hts hK hP hD hS hA hl hQ
  have hl : lv_has ls 2 [(0, .ref h1), (1, .int x)] := hl
  refine lv_aload_n hx hb dX1_letterOfSeven_0 rfl (lv_at hl 0 rfl) ?_
  refine lv_iload_n hx hb dX1_letterOfSeven_1 rfl (lv_at hl 1 rfl) ?_
  refine pz_SR (rest := [.ref h1]) ⟨hx, hb, hml, hown, hts⟩ (k_X1_isDay_x l D ((cyI, .int) :: ts) x (by omega)) (va_cwS 1 hts gX1_letterOfSeven_X1_isDay rfl rfl rfl (by decide +kernel) ⟨Nat.le_of_ble_eq_true rfl, Nat.le_of_ble_eq_true rfl⟩) hK hP (hD.weaken (fun _ _ _ _ => trivial)) hS hA [] rfl rfl rfl rfl hl.1 rfl (lv_room (Nat.le_of_ble_eq_true rfl)) dX1_letterOfSeven_2 ⟨Nat.le_of_ble_eq_true rfl, Nat.le_of_ble_eq_true rfl⟩ (fun r H locs hr hP hS => ?_)
  obtain rfl : r = (nI 0) := hr
  refine pn_if_eq (tgt := 12) hx hb (by omega) dX1_letterOfSeven_5 (by decide) (fun _ => ?_) (fun c_2 => absurd c_2 (by decide))
  refine lv_iconst (v := nI 1) hx hb dX1_letterOfSeven_12 (by decide) ?_
  refine pz_VI (rest := []) (wr := []) ⟨hx, hb, hml, hown, hts⟩ (k_X1_isFine_k l D h1 bc bf bg cyI ts th yr mo da mk wr rc ff gg 1 (by omega) (by omega)) (cwV 1 hts gX1_letterOfSeven_X1_isFine rfl rfl rfl (by decide +kernel) ⟨Nat.le_of_ble_eq_true rfl, Nat.le_of_ble_eq_true rfl⟩) hK hP hD hS hA [0, 1, 2, 3] [] rfl rfl rfl rfl rfl (by decide) 0 1 rfl rfl rfl hl.1 rfl (lv_room (Nat.le_of_ble_eq_true rfl)) dX1_letterOfSeven_13 ⟨Nat.le_of_ble_eq_true rfl, Nat.le_of_ble_eq_true rfl⟩ (fun r u H locs hr hP hD hS => ?_)
  have hP : va_P D vwCl [(h1, .inr (1, [.int (nI 1), .int yr, .int mo, .int da, .int (nI mk), .ref bc, .ref bf, .ref bg, .int (nI wr)])), (bc, .inl (cyI, 366, .inl (pz_ar rc))), (bf, .inl (cyI, 3001, .inl (pz_ar ff))), (bg, .inl (cyI, 3001, .inl (pz_ar gg)))] H := hP
  have hD : va_D A [(h1, .inr (1, [.int (nI 1), .int yr, .int mo, .int da, .int (nI mk), .ref bc, .ref bf, .ref bg, .int (nI wr)])), (bc, .inl (cyI, 366, .inl (pz_ar rc))), (bf, .inl (cyI, 3001, .inl (pz_ar ff))), (bg, .inl (cyI, 3001, .inl (pz_ar gg)))] := hD
  obtain rfl : r = (nI 0) := hr
  refine pn_if_eq (tgt := 32) hx hb (by omega) dX1_letterOfSeven_16 (by decide) (fun _ => ?_) (fun c_4 => absurd c_4 (by decide))
  refine lv_iconst (v := nI 0) hx hb dX1_letterOfSeven_32 (by decide) ?_
  exact hQ _ _ _ _ _ () dX1_letterOfSeven_33 rfl (congrArg nI (by rfl)) hP hD hS
set_option maxHeartbeats 4000000 in
set_option maxRecDepth 100000 in
theorem k_X1_setMarketDay_x (l : Launch) (D : va_G) (h1 bc bf bg : Nat) (cyI : ClassId) (ts : List (ClassId × FieldType)) (th yr mo da : Int32) (mk wr : Nat) (rc ff gg : Nat → Nat) (x : Int32) (hy0 : x.toInt < 0 ∨ 1095749 < x.toInt) : pz_I l yX1_setMarketDay wsX1_setMarketDay ({ frames := 2, cells := 0, slots := 0, locals := 42 } : Room) D ((cyI, .int) :: ts) [.ref h1, .int x] [(h1, .inr (1, [.int th, .int yr, .int mo, .int da, .int (nI mk), .ref bc, .ref bf, .ref bg, .int (nI wr)])), (bc, .inl (cyI, 366, .inl (pz_ar rc))), (bf, .inl (cyI, 3001, .inl (pz_ar ff))), (bg, .inl (cyI, 3001, .inl (pz_ar gg)))] (S := Unit) (fun r _ => r = nI 0) (fun _ => [(h1, .inr (1, [.int (nI 1), .int yr, .int mo, .int da, .int (nI mk), .ref bc, .ref bf, .ref bg, .int (nI wr)])), (bc, .inl (cyI, 366, .inl (pz_ar rc))), (bf, .inl (cyI, 3001, .inl (pz_ar ff))), (bg, .inl (cyI, 3001, .inl (pz_ar gg)))]) := by
  refine pz_I_of (cc := cX1_setMarketDay) (maxL := 3) (ty := .int) (own := RX1) (by decide) rfl rfl (Nat.le_of_ble_eq_true rfl) ?_
  intro p e s m below meth c A ls Q hx hb hml hown hts hK hP hD hS hA hl hQ
  have hl : lv_has ls 3 [(0, .ref h1), (1, .int x)] := hl
  have hin : ∀ w ∈ u_ws RX1 TX1 9, w ∈ wsX1_setMarketDay := by decide +kernel
  refine lv_aload_n hx hb dX1_setMarketDay_0 rfl (lv_at hl 0 rfl) ?_
  refine lv_iload_n hx hb dX1_setMarketDay_1 rfl (lv_at hl 1 rfl) ?_
  refine pz_SR (rest := [.ref h1]) ⟨hx, hb, hml, hown, hts⟩ (k_X1_isDay_x l D ((cyI, .int) :: ts) x (by omega)) (va_cwS 1 hts gX1_setMarketDay_X1_isDay rfl rfl rfl (by decide +kernel) ⟨Nat.le_of_ble_eq_true rfl, Nat.le_of_ble_eq_true rfl⟩) hK hP (hD.weaken (fun _ _ _ _ => trivial)) hS hA [] rfl rfl rfl rfl hl.1 rfl (lv_room (Nat.le_of_ble_eq_true rfl)) dX1_setMarketDay_2 ⟨Nat.le_of_ble_eq_true rfl, Nat.le_of_ble_eq_true rfl⟩ (fun r H locs hr hP hS => ?_)
  obtain rfl : r = (nI 0) := hr
  refine pn_if_eq (tgt := 12) hx hb (by omega) dX1_setMarketDay_5 (by decide) (fun _ => ?_) (fun c_2 => absurd c_2 (by decide))
  refine lv_iconst (v := nI 1) hx hb dX1_setMarketDay_12 (by decide) ?_
  refine pz_VI (rest := []) (wr := []) ⟨hx, hb, hml, hown, hts⟩ (k_X1_isFine_k l D h1 bc bf bg cyI ts th yr mo da mk wr rc ff gg 1 (by omega) (by omega)) (cwV 1 hts gX1_setMarketDay_X1_isFine rfl rfl rfl (by decide +kernel) ⟨Nat.le_of_ble_eq_true rfl, Nat.le_of_ble_eq_true rfl⟩) hK hP hD hS hA [0, 1, 2, 3] [] rfl rfl rfl rfl rfl (by decide) 0 1 rfl rfl rfl hl.1 rfl (lv_room (Nat.le_of_ble_eq_true rfl)) dX1_setMarketDay_13 ⟨Nat.le_of_ble_eq_true rfl, Nat.le_of_ble_eq_true rfl⟩ (fun r u H locs hr hP hD hS => ?_)
  have hP : va_P D vwCl [(h1, .inr (1, [.int (nI 1), .int yr, .int mo, .int da, .int (nI mk), .ref bc, .ref bf, .ref bg, .int (nI wr)])), (bc, .inl (cyI, 366, .inl (pz_ar rc))), (bf, .inl (cyI, 3001, .inl (pz_ar ff))), (bg, .inl (cyI, 3001, .inl (pz_ar gg)))] H := hP
  have hD : va_D A [(h1, .inr (1, [.int (nI 1), .int yr, .int mo, .int da, .int (nI mk), .ref bc, .ref bf, .ref bg, .int (nI wr)])), (bc, .inl (cyI, 366, .inl (pz_ar rc))), (bf, .inl (cyI, 3001, .inl (pz_ar ff))), (bg, .inl (cyI, 3001, .inl (pz_ar gg)))] := hD
  obtain rfl : r = (nI 0) := hr
  refine pn_if_ne (tgt := 21) hx hb (by omega) dX1_setMarketDay_16 (by decide) (fun c_4 => absurd c_4 (by decide)) (fun _ => ?_)
  refine lv_iconst (v := nI 0) hx hb dX1_setMarketDay_19 (by decide) ?_
  exact hQ _ _ _ _ _ () dX1_setMarketDay_20 rfl (congrArg nI (by rfl)) hP hD hS
set_option maxHeartbeats 4000000 in
set_option maxRecDepth 100000 in
theorem k_X1_isMarket_x (l : Launch) (D : va_G) (h1 bc bf bg : Nat) (cyI : ClassId) (ts : List (ClassId × FieldType)) (th yr mo da : Int32) (mk wr : Nat) (rc ff gg : Nat → Nat) (x : Int32) (hy0 : x.toInt < 0 ∨ 1095749 < x.toInt) : pz_I l yX1_isMarket wsX1_isMarket ({ frames := 2, cells := 0, slots := 0, locals := 42 } : Room) D ((cyI, .int) :: ts) [.ref h1, .int x] [(h1, .inr (1, [.int th, .int yr, .int mo, .int da, .int (nI mk), .ref bc, .ref bf, .ref bg, .int (nI wr)])), (bc, .inl (cyI, 366, .inl (pz_ar rc))), (bf, .inl (cyI, 3001, .inl (pz_ar ff))), (bg, .inl (cyI, 3001, .inl (pz_ar gg)))] (S := Unit) (fun r _ => r = nI 0) (fun _ => [(h1, .inr (1, [.int (nI 1), .int yr, .int mo, .int da, .int (nI mk), .ref bc, .ref bf, .ref bg, .int (nI wr)])), (bc, .inl (cyI, 366, .inl (pz_ar rc))), (bf, .inl (cyI, 3001, .inl (pz_ar ff))), (bg, .inl (cyI, 3001, .inl (pz_ar gg)))]) := by
  refine pz_I_of (cc := cX1_isMarket) (maxL := 2) (ty := .boolean) (own := RX1) (by decide) rfl rfl (Nat.le_of_ble_eq_true rfl) ?_
  intro p e s m below meth c A ls Q hx hb hml hown hts hK hP hD hS hA hl hQ
  have hl : lv_has ls 2 [(0, .ref h1), (1, .int x)] := hl
  have hin : ∀ w ∈ u_ws RX1 TX1 9, w ∈ wsX1_isMarket := by decide +kernel
  refine lv_aload_n hx hb dX1_isMarket_0 rfl (lv_at hl 0 rfl) ?_
  refine lv_iload_n hx hb dX1_isMarket_1 rfl (lv_at hl 1 rfl) ?_
  refine pz_SR (rest := [.ref h1]) ⟨hx, hb, hml, hown, hts⟩ (k_X1_isDay_x l D ((cyI, .int) :: ts) x (by omega)) (va_cwS 1 hts gX1_isMarket_X1_isDay rfl rfl rfl (by decide +kernel) ⟨Nat.le_of_ble_eq_true rfl, Nat.le_of_ble_eq_true rfl⟩) hK hP (hD.weaken (fun _ _ _ _ => trivial)) hS hA [] rfl rfl rfl rfl hl.1 rfl (lv_room (Nat.le_of_ble_eq_true rfl)) dX1_isMarket_2 ⟨Nat.le_of_ble_eq_true rfl, Nat.le_of_ble_eq_true rfl⟩ (fun r H locs hr hP hS => ?_)
  obtain rfl : r = (nI 0) := hr
  refine pn_if_eq (tgt := 12) hx hb (by omega) dX1_isMarket_5 (by decide) (fun _ => ?_) (fun c_2 => absurd c_2 (by decide))
  refine lv_iconst (v := nI 1) hx hb dX1_isMarket_12 (by decide) ?_
  refine pz_VI (rest := []) (wr := []) ⟨hx, hb, hml, hown, hts⟩ (k_X1_isFine_k l D h1 bc bf bg cyI ts th yr mo da mk wr rc ff gg 1 (by omega) (by omega)) (cwV 1 hts gX1_isMarket_X1_isFine rfl rfl rfl (by decide +kernel) ⟨Nat.le_of_ble_eq_true rfl, Nat.le_of_ble_eq_true rfl⟩) hK hP hD hS hA [0, 1, 2, 3] [] rfl rfl rfl rfl rfl (by decide) 0 1 rfl rfl rfl hl.1 rfl (lv_room (Nat.le_of_ble_eq_true rfl)) dX1_isMarket_13 ⟨Nat.le_of_ble_eq_true rfl, Nat.le_of_ble_eq_true rfl⟩ (fun r u H locs hr hP hD hS => ?_)
  have hP : va_P D vwCl [(h1, .inr (1, [.int (nI 1), .int yr, .int mo, .int da, .int (nI mk), .ref bc, .ref bf, .ref bg, .int (nI wr)])), (bc, .inl (cyI, 366, .inl (pz_ar rc))), (bf, .inl (cyI, 3001, .inl (pz_ar ff))), (bg, .inl (cyI, 3001, .inl (pz_ar gg)))] H := hP
  have hD : va_D A [(h1, .inr (1, [.int (nI 1), .int yr, .int mo, .int da, .int (nI mk), .ref bc, .ref bf, .ref bg, .int (nI wr)])), (bc, .inl (cyI, 366, .inl (pz_ar rc))), (bf, .inl (cyI, 3001, .inl (pz_ar ff))), (bg, .inl (cyI, 3001, .inl (pz_ar gg)))] := hD
  obtain rfl : r = (nI 0) := hr
  refine pn_if_eq (tgt := 34) hx hb (by omega) dX1_isMarket_16 (by decide) (fun _ => ?_) (fun c_4 => absurd c_4 (by decide))
  refine lv_iconst (v := nI 0) hx hb dX1_isMarket_34 (by decide) ?_
  exact hQ _ _ _ _ _ () dX1_isMarket_35 (by decide) (congrArg nI (by rfl)) hP hD hS
set_option maxHeartbeats 4000000 in
set_option maxRecDepth 100000 in
theorem k_X1_characterOf_x (l : Launch) (D : va_G) (h1 bc bf bg : Nat) (cyI : ClassId) (ts : List (ClassId × FieldType)) (th yr mo da : Int32) (mk wr : Nat) (rc ff gg : Nat → Nat) (x : Int32) (hy0 : x.toInt < 0 ∨ 1095749 < x.toInt) : pz_I l yX1_characterOf wsX1_characterOf ({ frames := 4, cells := 0, slots := 0, locals := 85 } : Room) D ((cyI, .int) :: ts) [.ref h1, .int x] [(h1, .inr (1, [.int th, .int yr, .int mo, .int da, .int (nI mk), .ref bc, .ref bf, .ref bg, .int (nI wr)])), (bc, .inl (cyI, 366, .inl (pz_ar rc))), (bf, .inl (cyI, 3001, .inl (pz_ar ff))), (bg, .inl (cyI, 3001, .inl (pz_ar gg)))] (S := Unit) (fun r _ => r = nI 0) (fun _ => [(h1, .inr (1, [.int (nI 1), .int yr, .int mo, .int da, .int (nI mk), .ref bc, .ref bf, .ref bg, .int (nI wr)])), (bc, .inl (cyI, 366, .inl (pz_ar rc))), (bf, .inl (cyI, 3001, .inl (pz_ar ff))), (bg, .inl (cyI, 3001, .inl (pz_ar gg)))]) := by
  refine pz_I_of (cc := cX1_characterOf) (maxL := 2) (ty := .int) (own := RX1) (by decide) rfl rfl (Nat.le_of_ble_eq_true rfl) ?_
  intro p e s m below meth c A ls Q hx hb hml hown hts hK hP hD hS hA hl hQ
  have hl : lv_has ls 2 [(0, .ref h1), (1, .int x)] := hl
  have hin : ∀ w ∈ u_ws RX1 TX1 9, w ∈ wsX1_characterOf := by decide +kernel
  refine lv_aload_n hx hb dX1_characterOf_0 rfl (lv_at hl 0 rfl) ?_
  refine lv_iload_n hx hb dX1_characterOf_1 rfl (lv_at hl 1 rfl) ?_
  refine pz_SR (rest := [.ref h1]) ⟨hx, hb, hml, hown, hts⟩ (k_X1_isDay_x l D ((cyI, .int) :: ts) x (by omega)) (va_cwS 1 hts gX1_characterOf_X1_isDay rfl rfl rfl (by decide +kernel) ⟨Nat.le_of_ble_eq_true rfl, Nat.le_of_ble_eq_true rfl⟩) hK hP (hD.weaken (fun _ _ _ _ => trivial)) hS hA [] rfl rfl rfl rfl hl.1 rfl (lv_room (Nat.le_of_ble_eq_true rfl)) dX1_characterOf_2 ⟨Nat.le_of_ble_eq_true rfl, Nat.le_of_ble_eq_true rfl⟩ (fun r H locs hr hP hS => ?_)
  obtain rfl : r = (nI 0) := hr
  refine pn_if_eq (tgt := 12) hx hb (by omega) dX1_characterOf_5 (by decide) (fun _ => ?_) (fun c_2 => absurd c_2 (by decide))
  refine lv_iconst (v := nI 1) hx hb dX1_characterOf_12 (by decide) ?_
  refine pz_VI (rest := []) (wr := []) ⟨hx, hb, hml, hown, hts⟩ (k_X1_isFine_k l D h1 bc bf bg cyI ts th yr mo da mk wr rc ff gg 1 (by omega) (by omega)) (cwV 1 hts gX1_characterOf_X1_isFine rfl rfl rfl (by decide +kernel) ⟨Nat.le_of_ble_eq_true rfl, Nat.le_of_ble_eq_true rfl⟩) hK hP hD hS hA [0, 1, 2, 3] [] rfl rfl rfl rfl rfl (by decide) 0 1 rfl rfl rfl hl.1 rfl (lv_room (Nat.le_of_ble_eq_true rfl)) dX1_characterOf_13 ⟨Nat.le_of_ble_eq_true rfl, Nat.le_of_ble_eq_true rfl⟩ (fun r u H locs hr hP hD hS => ?_)
  have hP : va_P D vwCl [(h1, .inr (1, [.int (nI 1), .int yr, .int mo, .int da, .int (nI mk), .ref bc, .ref bf, .ref bg, .int (nI wr)])), (bc, .inl (cyI, 366, .inl (pz_ar rc))), (bf, .inl (cyI, 3001, .inl (pz_ar ff))), (bg, .inl (cyI, 3001, .inl (pz_ar gg)))] H := hP
  have hD : va_D A [(h1, .inr (1, [.int (nI 1), .int yr, .int mo, .int da, .int (nI mk), .ref bc, .ref bf, .ref bg, .int (nI wr)])), (bc, .inl (cyI, 366, .inl (pz_ar rc))), (bf, .inl (cyI, 3001, .inl (pz_ar ff))), (bg, .inl (cyI, 3001, .inl (pz_ar gg)))] := hD
  obtain rfl : r = (nI 0) := hr
  refine pn_if_eq (tgt := 32) hx hb (by omega) dX1_characterOf_16 (by decide) (fun _ => ?_) (fun c_4 => absurd c_4 (by decide))
  refine lv_iconst (v := nI 0) hx hb dX1_characterOf_32 (by decide) ?_
  exact hQ _ _ _ _ _ () dX1_characterOf_33 rfl (congrArg nI (by rfl)) hP hD hS
set_option maxHeartbeats 4000000 in
set_option maxRecDepth 100000 in
theorem k_X1_canVote_x (l : Launch) (D : va_G) (h1 bc bf bg : Nat) (cyI : ClassId) (ts : List (ClassId × FieldType)) (th yr mo da : Int32) (mk wr : Nat) (rc ff gg : Nat → Nat) (x : Int32) (hy0 : x.toInt < 0 ∨ 1095749 < x.toInt) : pz_I l yX1_canVote wsX1_canVote ({ frames := 5, cells := 0, slots := 0, locals := 106 } : Room) D ((cyI, .int) :: ts) [.ref h1, .int x] [(h1, .inr (1, [.int th, .int yr, .int mo, .int da, .int (nI mk), .ref bc, .ref bf, .ref bg, .int (nI wr)])), (bc, .inl (cyI, 366, .inl (pz_ar rc))), (bf, .inl (cyI, 3001, .inl (pz_ar ff))), (bg, .inl (cyI, 3001, .inl (pz_ar gg)))] (S := Unit) (fun r _ => r = nI 0) (fun _ => [(h1, .inr (1, [.int (nI 1), .int yr, .int mo, .int da, .int (nI mk), .ref bc, .ref bf, .ref bg, .int (nI wr)])), (bc, .inl (cyI, 366, .inl (pz_ar rc))), (bf, .inl (cyI, 3001, .inl (pz_ar ff))), (bg, .inl (cyI, 3001, .inl (pz_ar gg)))]) := by
  refine pz_I_of (cc := cX1_canVote) (maxL := 2) (ty := .boolean) (own := RX1) (by decide) rfl rfl (Nat.le_of_ble_eq_true rfl) ?_
  intro p e s m below meth c A ls Q hx hb hml hown hts hK hP hD hS hA hl hQ
  have hl : lv_has ls 2 [(0, .ref h1), (1, .int x)] := hl
  refine lv_aload_n hx hb dX1_canVote_0 rfl (lv_at hl 0 rfl) ?_
  refine lv_iload_n hx hb dX1_canVote_1 rfl (lv_at hl 1 rfl) ?_
  refine pz_SR (rest := [.ref h1]) ⟨hx, hb, hml, hown, hts⟩ (k_X1_isDay_x l D ((cyI, .int) :: ts) x (by omega)) (va_cwS 1 hts gX1_canVote_X1_isDay rfl rfl rfl (by decide +kernel) ⟨Nat.le_of_ble_eq_true rfl, Nat.le_of_ble_eq_true rfl⟩) hK hP (hD.weaken (fun _ _ _ _ => trivial)) hS hA [] rfl rfl rfl rfl hl.1 rfl (lv_room (Nat.le_of_ble_eq_true rfl)) dX1_canVote_2 ⟨Nat.le_of_ble_eq_true rfl, Nat.le_of_ble_eq_true rfl⟩ (fun r H locs hr hP hS => ?_)
  obtain rfl : r = (nI 0) := hr
  refine pn_if_eq (tgt := 12) hx hb (by omega) dX1_canVote_5 (by decide) (fun _ => ?_) (fun c_2 => absurd c_2 (by decide))
  refine lv_iconst (v := nI 1) hx hb dX1_canVote_12 (by decide) ?_
  refine pz_VI (rest := []) (wr := []) ⟨hx, hb, hml, hown, hts⟩ (k_X1_isFine_k l D h1 bc bf bg cyI ts th yr mo da mk wr rc ff gg 1 (by omega) (by omega)) (cwV 1 hts gX1_canVote_X1_isFine rfl rfl rfl (by decide +kernel) ⟨Nat.le_of_ble_eq_true rfl, Nat.le_of_ble_eq_true rfl⟩) hK hP hD hS hA [0, 1, 2, 3] [] rfl rfl rfl rfl rfl (by decide) 0 1 rfl rfl rfl hl.1 rfl (lv_room (Nat.le_of_ble_eq_true rfl)) dX1_canVote_13 ⟨Nat.le_of_ble_eq_true rfl, Nat.le_of_ble_eq_true rfl⟩ (fun r u H locs hr hP hD hS => ?_)
  have hP : va_P D vwCl [(h1, .inr (1, [.int (nI 1), .int yr, .int mo, .int da, .int (nI mk), .ref bc, .ref bf, .ref bg, .int (nI wr)])), (bc, .inl (cyI, 366, .inl (pz_ar rc))), (bf, .inl (cyI, 3001, .inl (pz_ar ff))), (bg, .inl (cyI, 3001, .inl (pz_ar gg)))] H := hP
  have hD : va_D A [(h1, .inr (1, [.int (nI 1), .int yr, .int mo, .int da, .int (nI mk), .ref bc, .ref bf, .ref bg, .int (nI wr)])), (bc, .inl (cyI, 366, .inl (pz_ar rc))), (bf, .inl (cyI, 3001, .inl (pz_ar ff))), (bg, .inl (cyI, 3001, .inl (pz_ar gg)))] := hD
  obtain rfl : r = (nI 0) := hr
  refine pn_if_eq (tgt := 31) hx hb (by omega) dX1_canVote_16 (by decide) (fun _ => ?_) (fun c_4 => absurd c_4 (by decide))
  refine lv_iconst (v := nI 0) hx hb dX1_canVote_31 (by decide) ?_
  exact hQ _ _ _ _ _ () dX1_canVote_32 (by decide) (congrArg nI (by rfl)) hP hD hS
set_option maxHeartbeats 4000000 in
set_option maxRecDepth 100000 in
theorem k_X1_nextCourt_x (l : Launch) (D : va_G) (h1 bc bf bg : Nat) (cyI : ClassId) (ts : List (ClassId × FieldType)) (th yr mo da : Int32) (mk wr : Nat) (rc ff gg : Nat → Nat) (x : Int32) (hy0 : x.toInt < 0 ∨ 1095749 < x.toInt) : pz_I l yX1_nextCourt wsX1_nextCourt ({ frames := 4, cells := 0, slots := 0, locals := 85 } : Room) D ((cyI, .int) :: ts) [.ref h1, .int x] [(h1, .inr (1, [.int th, .int yr, .int mo, .int da, .int (nI mk), .ref bc, .ref bf, .ref bg, .int (nI wr)])), (bc, .inl (cyI, 366, .inl (pz_ar rc))), (bf, .inl (cyI, 3001, .inl (pz_ar ff))), (bg, .inl (cyI, 3001, .inl (pz_ar gg)))] (S := Unit) (fun r _ => r = nI 0) (fun _ => [(h1, .inr (1, [.int (nI 1), .int yr, .int mo, .int da, .int (nI mk), .ref bc, .ref bf, .ref bg, .int (nI wr)])), (bc, .inl (cyI, 366, .inl (pz_ar rc))), (bf, .inl (cyI, 3001, .inl (pz_ar ff))), (bg, .inl (cyI, 3001, .inl (pz_ar gg)))]) := by
  refine pz_I_of (cc := cX1_nextCourt) (maxL := 4) (ty := .int) (own := RX1) (by decide) rfl rfl (Nat.le_of_ble_eq_true rfl) ?_
  intro p e s m below meth c A ls Q hx hb hml hown hts hK hP hD hS hA hl hQ
  have hl : lv_has ls 4 [(0, .ref h1), (1, .int x)] := hl
  have hin : ∀ w ∈ u_ws RX1 TX1 9, w ∈ wsX1_nextCourt := by decide +kernel
  refine lv_aload_n hx hb dX1_nextCourt_0 rfl (lv_at hl 0 rfl) ?_
  refine lv_iload_n hx hb dX1_nextCourt_1 rfl (lv_at hl 1 rfl) ?_
  refine pz_SR (rest := [.ref h1]) ⟨hx, hb, hml, hown, hts⟩ (k_X1_isDay_x l D ((cyI, .int) :: ts) x (by omega)) (va_cwS 1 hts gX1_nextCourt_X1_isDay rfl rfl rfl (by decide +kernel) ⟨Nat.le_of_ble_eq_true rfl, Nat.le_of_ble_eq_true rfl⟩) hK hP (hD.weaken (fun _ _ _ _ => trivial)) hS hA [] rfl rfl rfl rfl hl.1 rfl (lv_room (Nat.le_of_ble_eq_true rfl)) dX1_nextCourt_2 ⟨Nat.le_of_ble_eq_true rfl, Nat.le_of_ble_eq_true rfl⟩ (fun r H locs hr hP hS => ?_)
  obtain rfl : r = (nI 0) := hr
  refine pn_if_eq (tgt := 12) hx hb (by omega) dX1_nextCourt_5 (by decide) (fun _ => ?_) (fun c_2 => absurd c_2 (by decide))
  refine lv_iconst (v := nI 1) hx hb dX1_nextCourt_12 (by decide) ?_
  refine pz_VI (rest := []) (wr := []) ⟨hx, hb, hml, hown, hts⟩ (k_X1_isFine_k l D h1 bc bf bg cyI ts th yr mo da mk wr rc ff gg 1 (by omega) (by omega)) (cwV 1 hts gX1_nextCourt_X1_isFine rfl rfl rfl (by decide +kernel) ⟨Nat.le_of_ble_eq_true rfl, Nat.le_of_ble_eq_true rfl⟩) hK hP hD hS hA [0, 1, 2, 3] [] rfl rfl rfl rfl rfl (by decide) 0 1 rfl rfl rfl hl.1 rfl (lv_room (Nat.le_of_ble_eq_true rfl)) dX1_nextCourt_13 ⟨Nat.le_of_ble_eq_true rfl, Nat.le_of_ble_eq_true rfl⟩ (fun r u H locs hr hP hD hS => ?_)
  have hP : va_P D vwCl [(h1, .inr (1, [.int (nI 1), .int yr, .int mo, .int da, .int (nI mk), .ref bc, .ref bf, .ref bg, .int (nI wr)])), (bc, .inl (cyI, 366, .inl (pz_ar rc))), (bf, .inl (cyI, 3001, .inl (pz_ar ff))), (bg, .inl (cyI, 3001, .inl (pz_ar gg)))] H := hP
  have hD : va_D A [(h1, .inr (1, [.int (nI 1), .int yr, .int mo, .int da, .int (nI mk), .ref bc, .ref bf, .ref bg, .int (nI wr)])), (bc, .inl (cyI, 366, .inl (pz_ar rc))), (bf, .inl (cyI, 3001, .inl (pz_ar ff))), (bg, .inl (cyI, 3001, .inl (pz_ar gg)))] := hD
  obtain rfl : r = (nI 0) := hr
  refine pn_if_ne (tgt := 21) hx hb (by omega) dX1_nextCourt_16 (by decide) (fun c_4 => absurd c_4 (by decide)) (fun _ => ?_)
  refine lv_iconst (v := nI 0) hx hb dX1_nextCourt_19 (by decide) ?_
  exact hQ _ _ _ _ _ () dX1_nextCourt_20 rfl (congrArg nI (by rfl)) hP hD hS
set_option maxHeartbeats 4000000 in
set_option maxRecDepth 100000 in
theorem k_X1_marketLetters_x (l : Launch) (D : va_G) (h1 bc bf bg : Nat) (cyI : ClassId) (ts : List (ClassId × FieldType)) (th yr mo da : Int32) (mk wr : Nat) (rc ff gg : Nat → Nat) (x : Int32) (hy0 : x.toInt < 1 ∨ 3000 < x.toInt) : pz_I l yX1_marketLetters wsX1_marketLetters ({ frames := 5, cells := 0, slots := 0, locals := 110 } : Room) D ((cyI, .int) :: ts) [.ref h1, .int x] [(h1, .inr (1, [.int th, .int yr, .int mo, .int da, .int (nI mk), .ref bc, .ref bf, .ref bg, .int (nI wr)])), (bc, .inl (cyI, 366, .inl (pz_ar rc))), (bf, .inl (cyI, 3001, .inl (pz_ar ff))), (bg, .inl (cyI, 3001, .inl (pz_ar gg)))] (S := Unit) (fun r _ => r = nI 0) (fun _ => [(h1, .inr (1, [.int (nI 1), .int yr, .int mo, .int da, .int (nI mk), .ref bc, .ref bf, .ref bg, .int (nI wr)])), (bc, .inl (cyI, 366, .inl (pz_ar rc))), (bf, .inl (cyI, 3001, .inl (pz_ar ff))), (bg, .inl (cyI, 3001, .inl (pz_ar gg)))]) := by
  refine pz_I_of (cc := cX1_marketLetters) (maxL := 2) (ty := .int) (own := RX1) (by decide) rfl rfl (Nat.le_of_ble_eq_true rfl) ?_
  intro p e s m below meth c A ls Q hx hb hml hown hts hK hP hD hS hA hl hQ
  have hl : lv_has ls 2 [(0, .ref h1), (1, .int x)] := hl
  have hin : ∀ w ∈ u_ws RX1 TX1 9, w ∈ wsX1_marketLetters := by decide +kernel
  refine lv_aload_n hx hb dX1_marketLetters_0 rfl (lv_at hl 0 rfl) ?_
  refine lv_iload_n hx hb dX1_marketLetters_1 rfl (lv_at hl 1 rfl) ?_
  refine pz_SR (rest := [.ref h1]) ⟨hx, hb, hml, hown, hts⟩ (k_X1_isYear_x l D ((cyI, .int) :: ts) x (by omega)) (va_cwS 1 hts gX1_marketLetters_X1_isYear rfl rfl rfl (by decide +kernel) ⟨Nat.le_of_ble_eq_true rfl, Nat.le_of_ble_eq_true rfl⟩) hK hP (hD.weaken (fun _ _ _ _ => trivial)) hS hA [] rfl rfl rfl rfl hl.1 rfl (lv_room (Nat.le_of_ble_eq_true rfl)) dX1_marketLetters_2 ⟨Nat.le_of_ble_eq_true rfl, Nat.le_of_ble_eq_true rfl⟩ (fun r H locs hr hP hS => ?_)
  obtain rfl : r = (nI 0) := hr
  refine pn_if_eq (tgt := 12) hx hb (by omega) dX1_marketLetters_5 (by decide) (fun _ => ?_) (fun c_2 => absurd c_2 (by decide))
  refine lv_iconst (v := nI 1) hx hb dX1_marketLetters_12 (by decide) ?_
  refine pz_VI (rest := []) (wr := []) ⟨hx, hb, hml, hown, hts⟩ (k_X1_isFine_k l D h1 bc bf bg cyI ts th yr mo da mk wr rc ff gg 1 (by omega) (by omega)) (cwV 1 hts gX1_marketLetters_X1_isFine rfl rfl rfl (by decide +kernel) ⟨Nat.le_of_ble_eq_true rfl, Nat.le_of_ble_eq_true rfl⟩) hK hP hD hS hA [0, 1, 2, 3] [] rfl rfl rfl rfl rfl (by decide) 0 1 rfl rfl rfl hl.1 rfl (lv_room (Nat.le_of_ble_eq_true rfl)) dX1_marketLetters_13 ⟨Nat.le_of_ble_eq_true rfl, Nat.le_of_ble_eq_true rfl⟩ (fun r u H locs hr hP hD hS => ?_)
  have hP : va_P D vwCl [(h1, .inr (1, [.int (nI 1), .int yr, .int mo, .int da, .int (nI mk), .ref bc, .ref bf, .ref bg, .int (nI wr)])), (bc, .inl (cyI, 366, .inl (pz_ar rc))), (bf, .inl (cyI, 3001, .inl (pz_ar ff))), (bg, .inl (cyI, 3001, .inl (pz_ar gg)))] H := hP
  have hD : va_D A [(h1, .inr (1, [.int (nI 1), .int yr, .int mo, .int da, .int (nI mk), .ref bc, .ref bf, .ref bg, .int (nI wr)])), (bc, .inl (cyI, 366, .inl (pz_ar rc))), (bf, .inl (cyI, 3001, .inl (pz_ar ff))), (bg, .inl (cyI, 3001, .inl (pz_ar gg)))] := hD
  obtain rfl : r = (nI 0) := hr
  refine pn_if_eq (tgt := 33) hx hb (by omega) dX1_marketLetters_16 (by decide) (fun _ => ?_) (fun c_4 => absurd c_4 (by decide))
  refine lv_iconst (v := nI 0) hx hb dX1_marketLetters_33 (by decide) ?_
  exact hQ _ _ _ _ _ () dX1_marketLetters_34 rfl (congrArg nI (by rfl)) hP hD hS
set_option maxHeartbeats 4000000 in
set_option maxRecDepth 100000 in
theorem k_X1_sundayLetters_x (l : Launch) (D : va_G) (h1 bc bf bg : Nat) (cyI : ClassId) (ts : List (ClassId × FieldType)) (th yr mo da : Int32) (mk wr : Nat) (rc ff gg : Nat → Nat) (x : Int32) (hy0 : x.toInt < 1 ∨ 3000 < x.toInt) : pz_I l yX1_sundayLetters wsX1_sundayLetters ({ frames := 5, cells := 0, slots := 0, locals := 110 } : Room) D ((cyI, .int) :: ts) [.ref h1, .int x] [(h1, .inr (1, [.int th, .int yr, .int mo, .int da, .int (nI mk), .ref bc, .ref bf, .ref bg, .int (nI wr)])), (bc, .inl (cyI, 366, .inl (pz_ar rc))), (bf, .inl (cyI, 3001, .inl (pz_ar ff))), (bg, .inl (cyI, 3001, .inl (pz_ar gg)))] (S := Unit) (fun r _ => r = nI 0) (fun _ => [(h1, .inr (1, [.int (nI 1), .int yr, .int mo, .int da, .int (nI mk), .ref bc, .ref bf, .ref bg, .int (nI wr)])), (bc, .inl (cyI, 366, .inl (pz_ar rc))), (bf, .inl (cyI, 3001, .inl (pz_ar ff))), (bg, .inl (cyI, 3001, .inl (pz_ar gg)))]) := by
  refine pz_I_of (cc := cX1_sundayLetters) (maxL := 2) (ty := .int) (own := RX1) (by decide) rfl rfl (Nat.le_of_ble_eq_true rfl) ?_
  intro p e s m below meth c A ls Q hx hb hml hown hts hK hP hD hS hA hl hQ
  have hl : lv_has ls 2 [(0, .ref h1), (1, .int x)] := hl
  refine lv_aload_n hx hb dX1_sundayLetters_0 rfl (lv_at hl 0 rfl) ?_
  refine lv_iload_n hx hb dX1_sundayLetters_1 rfl (lv_at hl 1 rfl) ?_
  refine pz_SR (rest := [.ref h1]) ⟨hx, hb, hml, hown, hts⟩ (k_X1_isYear_x l D ((cyI, .int) :: ts) x (by omega)) (va_cwS 1 hts gX1_sundayLetters_X1_isYear rfl rfl rfl (by decide +kernel) ⟨Nat.le_of_ble_eq_true rfl, Nat.le_of_ble_eq_true rfl⟩) hK hP (hD.weaken (fun _ _ _ _ => trivial)) hS hA [] rfl rfl rfl rfl hl.1 rfl (lv_room (Nat.le_of_ble_eq_true rfl)) dX1_sundayLetters_2 ⟨Nat.le_of_ble_eq_true rfl, Nat.le_of_ble_eq_true rfl⟩ (fun r H locs hr hP hS => ?_)
  obtain rfl : r = (nI 0) := hr
  refine pn_if_eq (tgt := 12) hx hb (by omega) dX1_sundayLetters_5 (by decide) (fun _ => ?_) (fun c_2 => absurd c_2 (by decide))
  refine lv_iconst (v := nI 1) hx hb dX1_sundayLetters_12 (by decide) ?_
  refine pz_VI (rest := []) (wr := []) ⟨hx, hb, hml, hown, hts⟩ (k_X1_isFine_k l D h1 bc bf bg cyI ts th yr mo da mk wr rc ff gg 1 (by omega) (by omega)) (cwV 1 hts gX1_sundayLetters_X1_isFine rfl rfl rfl (by decide +kernel) ⟨Nat.le_of_ble_eq_true rfl, Nat.le_of_ble_eq_true rfl⟩) hK hP hD hS hA [0, 1, 2, 3] [] rfl rfl rfl rfl rfl (by decide) 0 1 rfl rfl rfl hl.1 rfl (lv_room (Nat.le_of_ble_eq_true rfl)) dX1_sundayLetters_13 ⟨Nat.le_of_ble_eq_true rfl, Nat.le_of_ble_eq_true rfl⟩ (fun r u H locs hr hP hD hS => ?_)
  have hP : va_P D vwCl [(h1, .inr (1, [.int (nI 1), .int yr, .int mo, .int da, .int (nI mk), .ref bc, .ref bf, .ref bg, .int (nI wr)])), (bc, .inl (cyI, 366, .inl (pz_ar rc))), (bf, .inl (cyI, 3001, .inl (pz_ar ff))), (bg, .inl (cyI, 3001, .inl (pz_ar gg)))] H := hP
  have hD : va_D A [(h1, .inr (1, [.int (nI 1), .int yr, .int mo, .int da, .int (nI mk), .ref bc, .ref bf, .ref bg, .int (nI wr)])), (bc, .inl (cyI, 366, .inl (pz_ar rc))), (bf, .inl (cyI, 3001, .inl (pz_ar ff))), (bg, .inl (cyI, 3001, .inl (pz_ar gg)))] := hD
  obtain rfl : r = (nI 0) := hr
  refine pn_if_eq (tgt := 30) hx hb (by omega) dX1_sundayLetters_16 (by decide) (fun _ => ?_) (fun c_4 => absurd c_4 (by decide))
  refine lv_iconst (v := nI 0) hx hb dX1_sundayLetters_30 (by decide) ?_
  exact hQ _ _ _ _ _ () dX1_sundayLetters_31 rfl (congrArg nI (by rfl)) hP hD hS
set_option maxHeartbeats 4000000 in
set_option maxRecDepth 100000 in
theorem k_X1_consulsOf_x (l : Launch) (D : va_G) (h1 bc bf bg : Nat) (cyI : ClassId) (ts : List (ClassId × FieldType)) (th yr mo da : Int32) (mk wr : Nat) (rc ff gg : Nat → Nat) (x : Int32) (hy0 : x.toInt < 1 ∨ 3000 < x.toInt) : pz_I l yX1_consulsOf wsX1_consulsOf ({ frames := 2, cells := 0, slots := 0, locals := 42 } : Room) D ((cyI, .int) :: ts) [.ref h1, .int x] [(h1, .inr (1, [.int th, .int yr, .int mo, .int da, .int (nI mk), .ref bc, .ref bf, .ref bg, .int (nI wr)])), (bc, .inl (cyI, 366, .inl (pz_ar rc))), (bf, .inl (cyI, 3001, .inl (pz_ar ff))), (bg, .inl (cyI, 3001, .inl (pz_ar gg)))] (S := Unit) (fun r _ => r = nI 0) (fun _ => [(h1, .inr (1, [.int (nI 1), .int yr, .int mo, .int da, .int (nI mk), .ref bc, .ref bf, .ref bg, .int (nI wr)])), (bc, .inl (cyI, 366, .inl (pz_ar rc))), (bf, .inl (cyI, 3001, .inl (pz_ar ff))), (bg, .inl (cyI, 3001, .inl (pz_ar gg)))]) := by
  refine pz_I_of (cc := cX1_consulsOf) (maxL := 2) (ty := .int) (own := RX1) (by decide) rfl rfl (Nat.le_of_ble_eq_true rfl) ?_
  intro p e s m below meth c A ls Q hx hb hml hown hts hK hP hD hS hA hl hQ
  have hl : lv_has ls 2 [(0, .ref h1), (1, .int x)] := hl
  have hin : ∀ w ∈ u_ws RX1 TX1 9, w ∈ wsX1_consulsOf := by decide +kernel
  refine lv_aload_n hx hb dX1_consulsOf_0 rfl (lv_at hl 0 rfl) ?_
  refine lv_iload_n hx hb dX1_consulsOf_1 rfl (lv_at hl 1 rfl) ?_
  refine pz_SR (rest := [.ref h1]) ⟨hx, hb, hml, hown, hts⟩ (k_X1_isYear_x l D ((cyI, .int) :: ts) x (by omega)) (va_cwS 1 hts gX1_consulsOf_X1_isYear rfl rfl rfl (by decide +kernel) ⟨Nat.le_of_ble_eq_true rfl, Nat.le_of_ble_eq_true rfl⟩) hK hP (hD.weaken (fun _ _ _ _ => trivial)) hS hA [] rfl rfl rfl rfl hl.1 rfl (lv_room (Nat.le_of_ble_eq_true rfl)) dX1_consulsOf_2 ⟨Nat.le_of_ble_eq_true rfl, Nat.le_of_ble_eq_true rfl⟩ (fun r H locs hr hP hS => ?_)
  obtain rfl : r = (nI 0) := hr
  refine pn_if_eq (tgt := 12) hx hb (by omega) dX1_consulsOf_5 (by decide) (fun _ => ?_) (fun c_2 => absurd c_2 (by decide))
  refine lv_iconst (v := nI 1) hx hb dX1_consulsOf_12 (by decide) ?_
  refine pz_VI (rest := []) (wr := []) ⟨hx, hb, hml, hown, hts⟩ (k_X1_isFine_k l D h1 bc bf bg cyI ts th yr mo da mk wr rc ff gg 1 (by omega) (by omega)) (cwV 1 hts gX1_consulsOf_X1_isFine rfl rfl rfl (by decide +kernel) ⟨Nat.le_of_ble_eq_true rfl, Nat.le_of_ble_eq_true rfl⟩) hK hP hD hS hA [0, 1, 2, 3] [] rfl rfl rfl rfl rfl (by decide) 0 1 rfl rfl rfl hl.1 rfl (lv_room (Nat.le_of_ble_eq_true rfl)) dX1_consulsOf_13 ⟨Nat.le_of_ble_eq_true rfl, Nat.le_of_ble_eq_true rfl⟩ (fun r u H locs hr hP hD hS => ?_)
  have hP : va_P D vwCl [(h1, .inr (1, [.int (nI 1), .int yr, .int mo, .int da, .int (nI mk), .ref bc, .ref bf, .ref bg, .int (nI wr)])), (bc, .inl (cyI, 366, .inl (pz_ar rc))), (bf, .inl (cyI, 3001, .inl (pz_ar ff))), (bg, .inl (cyI, 3001, .inl (pz_ar gg)))] H := hP
  have hD : va_D A [(h1, .inr (1, [.int (nI 1), .int yr, .int mo, .int da, .int (nI mk), .ref bc, .ref bf, .ref bg, .int (nI wr)])), (bc, .inl (cyI, 366, .inl (pz_ar rc))), (bf, .inl (cyI, 3001, .inl (pz_ar ff))), (bg, .inl (cyI, 3001, .inl (pz_ar gg)))] := hD
  obtain rfl : r = (nI 0) := hr
  refine pn_if_ne (tgt := 21) hx hb (by omega) dX1_consulsOf_16 (by decide) (fun c_4 => absurd c_4 (by decide)) (fun _ => ?_)
  refine lv_iconst (v := nI 0) hx hb dX1_consulsOf_19 (by decide) ?_
  exact hQ _ _ _ _ _ () dX1_consulsOf_20 rfl (congrArg nI (by rfl)) hP hD hS
set_option maxHeartbeats 4000000 in
set_option maxRecDepth 100000 in
theorem k_X1_afterConsuls_x (l : Launch) (D : va_G) (h1 bc bf bg : Nat) (cyI : ClassId) (ts : List (ClassId × FieldType)) (th yr mo da : Int32) (mk wr : Nat) (rc ff gg : Nat → Nat) (x : Int32) (hy0 : x.toInt < 1 ∨ 3000 < x.toInt) : pz_I l yX1_afterConsuls wsX1_afterConsuls ({ frames := 2, cells := 0, slots := 0, locals := 42 } : Room) D ((cyI, .int) :: ts) [.ref h1, .int x] [(h1, .inr (1, [.int th, .int yr, .int mo, .int da, .int (nI mk), .ref bc, .ref bf, .ref bg, .int (nI wr)])), (bc, .inl (cyI, 366, .inl (pz_ar rc))), (bf, .inl (cyI, 3001, .inl (pz_ar ff))), (bg, .inl (cyI, 3001, .inl (pz_ar gg)))] (S := Unit) (fun r _ => r = nI 0) (fun _ => [(h1, .inr (1, [.int (nI 1), .int yr, .int mo, .int da, .int (nI mk), .ref bc, .ref bf, .ref bg, .int (nI wr)])), (bc, .inl (cyI, 366, .inl (pz_ar rc))), (bf, .inl (cyI, 3001, .inl (pz_ar ff))), (bg, .inl (cyI, 3001, .inl (pz_ar gg)))]) := by
  refine pz_I_of (cc := cX1_afterConsuls) (maxL := 3) (ty := .int) (own := RX1) (by decide) rfl rfl (Nat.le_of_ble_eq_true rfl) ?_
  intro p e s m below meth c A ls Q hx hb hml hown hts hK hP hD hS hA hl hQ
  have hl : lv_has ls 3 [(0, .ref h1), (1, .int x)] := hl
  have hin : ∀ w ∈ u_ws RX1 TX1 9, w ∈ wsX1_afterConsuls := by decide +kernel
  refine lv_aload_n hx hb dX1_afterConsuls_0 rfl (lv_at hl 0 rfl) ?_
  refine lv_iload_n hx hb dX1_afterConsuls_1 rfl (lv_at hl 1 rfl) ?_
  refine pz_SR (rest := [.ref h1]) ⟨hx, hb, hml, hown, hts⟩ (k_X1_isYear_x l D ((cyI, .int) :: ts) x (by omega)) (va_cwS 1 hts gX1_afterConsuls_X1_isYear rfl rfl rfl (by decide +kernel) ⟨Nat.le_of_ble_eq_true rfl, Nat.le_of_ble_eq_true rfl⟩) hK hP (hD.weaken (fun _ _ _ _ => trivial)) hS hA [] rfl rfl rfl rfl hl.1 rfl (lv_room (Nat.le_of_ble_eq_true rfl)) dX1_afterConsuls_2 ⟨Nat.le_of_ble_eq_true rfl, Nat.le_of_ble_eq_true rfl⟩ (fun r H locs hr hP hS => ?_)
  obtain rfl : r = (nI 0) := hr
  refine pn_if_eq (tgt := 12) hx hb (by omega) dX1_afterConsuls_5 (by decide) (fun _ => ?_) (fun c_2 => absurd c_2 (by decide))
  refine lv_iconst (v := nI 1) hx hb dX1_afterConsuls_12 (by decide) ?_
  refine pz_VI (rest := []) (wr := []) ⟨hx, hb, hml, hown, hts⟩ (k_X1_isFine_k l D h1 bc bf bg cyI ts th yr mo da mk wr rc ff gg 1 (by omega) (by omega)) (cwV 1 hts gX1_afterConsuls_X1_isFine rfl rfl rfl (by decide +kernel) ⟨Nat.le_of_ble_eq_true rfl, Nat.le_of_ble_eq_true rfl⟩) hK hP hD hS hA [0, 1, 2, 3] [] rfl rfl rfl rfl rfl (by decide) 0 1 rfl rfl rfl hl.1 rfl (lv_room (Nat.le_of_ble_eq_true rfl)) dX1_afterConsuls_13 ⟨Nat.le_of_ble_eq_true rfl, Nat.le_of_ble_eq_true rfl⟩ (fun r u H locs hr hP hD hS => ?_)
  have hP : va_P D vwCl [(h1, .inr (1, [.int (nI 1), .int yr, .int mo, .int da, .int (nI mk), .ref bc, .ref bf, .ref bg, .int (nI wr)])), (bc, .inl (cyI, 366, .inl (pz_ar rc))), (bf, .inl (cyI, 3001, .inl (pz_ar ff))), (bg, .inl (cyI, 3001, .inl (pz_ar gg)))] H := hP
  have hD : va_D A [(h1, .inr (1, [.int (nI 1), .int yr, .int mo, .int da, .int (nI mk), .ref bc, .ref bf, .ref bg, .int (nI wr)])), (bc, .inl (cyI, 366, .inl (pz_ar rc))), (bf, .inl (cyI, 3001, .inl (pz_ar ff))), (bg, .inl (cyI, 3001, .inl (pz_ar gg)))] := hD
  obtain rfl : r = (nI 0) := hr
  refine pn_if_ne (tgt := 21) hx hb (by omega) dX1_afterConsuls_16 (by decide) (fun c_4 => absurd c_4 (by decide)) (fun _ => ?_)
  refine lv_iconst (v := nI 0) hx hb dX1_afterConsuls_19 (by decide) ?_
  exact hQ _ _ _ _ _ () dX1_afterConsuls_20 rfl (congrArg nI (by rfl)) hP hD hS
set_option maxHeartbeats 4000000 in
set_option maxRecDepth 100000 in
theorem k_X1_votes_x (l : Launch) (D : va_G) (h1 bc bf bg : Nat) (cyI : ClassId) (ts : List (ClassId × FieldType)) (th yr mo da : Int32) (mk wr : Nat) (rc ff gg : Nat → Nat) (x : Int32) (hy0 : x.toInt < 1 ∨ 3000 < x.toInt) : pz_I l yX1_votes wsX1_votes ({ frames := 5, cells := 0, slots := 0, locals := 106 } : Room) D ((cyI, .int) :: ts) [.ref h1, .int x] [(h1, .inr (1, [.int th, .int yr, .int mo, .int da, .int (nI mk), .ref bc, .ref bf, .ref bg, .int (nI wr)])), (bc, .inl (cyI, 366, .inl (pz_ar rc))), (bf, .inl (cyI, 3001, .inl (pz_ar ff))), (bg, .inl (cyI, 3001, .inl (pz_ar gg)))] (S := Unit) (fun r _ => r = nI 0) (fun _ => [(h1, .inr (1, [.int (nI 1), .int yr, .int mo, .int da, .int (nI mk), .ref bc, .ref bf, .ref bg, .int (nI wr)])), (bc, .inl (cyI, 366, .inl (pz_ar rc))), (bf, .inl (cyI, 3001, .inl (pz_ar ff))), (bg, .inl (cyI, 3001, .inl (pz_ar gg)))]) := by
  refine pz_I_of (cc := cX1_votes) (maxL := 4) (ty := .int) (own := RX1) (by decide) rfl rfl (Nat.le_of_ble_eq_true rfl) ?_
  intro p e s m below meth c A ls Q hx hb hml hown hts hK hP hD hS hA hl hQ
  have hl : lv_has ls 4 [(0, .ref h1), (1, .int x)] := hl
  refine lv_aload_n hx hb dX1_votes_0 rfl (lv_at hl 0 rfl) ?_
  refine lv_iload_n hx hb dX1_votes_1 rfl (lv_at hl 1 rfl) ?_
  refine pz_SR (rest := [.ref h1]) ⟨hx, hb, hml, hown, hts⟩ (k_X1_isYear_x l D ((cyI, .int) :: ts) x (by omega)) (va_cwS 1 hts gX1_votes_X1_isYear rfl rfl rfl (by decide +kernel) ⟨Nat.le_of_ble_eq_true rfl, Nat.le_of_ble_eq_true rfl⟩) hK hP (hD.weaken (fun _ _ _ _ => trivial)) hS hA [] rfl rfl rfl rfl hl.1 rfl (lv_room (Nat.le_of_ble_eq_true rfl)) dX1_votes_2 ⟨Nat.le_of_ble_eq_true rfl, Nat.le_of_ble_eq_true rfl⟩ (fun r H locs hr hP hS => ?_)
  obtain rfl : r = (nI 0) := hr
  refine pn_if_eq (tgt := 12) hx hb (by omega) dX1_votes_5 (by decide) (fun _ => ?_) (fun c_2 => absurd c_2 (by decide))
  refine lv_iconst (v := nI 1) hx hb dX1_votes_12 (by decide) ?_
  refine pz_VI (rest := []) (wr := []) ⟨hx, hb, hml, hown, hts⟩ (k_X1_isFine_k l D h1 bc bf bg cyI ts th yr mo da mk wr rc ff gg 1 (by omega) (by omega)) (cwV 1 hts gX1_votes_X1_isFine rfl rfl rfl (by decide +kernel) ⟨Nat.le_of_ble_eq_true rfl, Nat.le_of_ble_eq_true rfl⟩) hK hP hD hS hA [0, 1, 2, 3] [] rfl rfl rfl rfl rfl (by decide) 0 1 rfl rfl rfl hl.1 rfl (lv_room (Nat.le_of_ble_eq_true rfl)) dX1_votes_13 ⟨Nat.le_of_ble_eq_true rfl, Nat.le_of_ble_eq_true rfl⟩ (fun r u H locs hr hP hD hS => ?_)
  have hP : va_P D vwCl [(h1, .inr (1, [.int (nI 1), .int yr, .int mo, .int da, .int (nI mk), .ref bc, .ref bf, .ref bg, .int (nI wr)])), (bc, .inl (cyI, 366, .inl (pz_ar rc))), (bf, .inl (cyI, 3001, .inl (pz_ar ff))), (bg, .inl (cyI, 3001, .inl (pz_ar gg)))] H := hP
  have hD : va_D A [(h1, .inr (1, [.int (nI 1), .int yr, .int mo, .int da, .int (nI mk), .ref bc, .ref bf, .ref bg, .int (nI wr)])), (bc, .inl (cyI, 366, .inl (pz_ar rc))), (bf, .inl (cyI, 3001, .inl (pz_ar ff))), (bg, .inl (cyI, 3001, .inl (pz_ar gg)))] := hD
  obtain rfl : r = (nI 0) := hr
  refine pn_if_ne (tgt := 21) hx hb (by omega) dX1_votes_16 (by decide) (fun c_4 => absurd c_4 (by decide)) (fun _ => ?_)
  refine lv_iconst (v := nI 0) hx hb dX1_votes_19 (by decide) ?_
  exact hQ _ _ _ _ _ () dX1_votes_20 rfl (congrArg nI (by rfl)) hP hD hS
set_option maxHeartbeats 4000000 in
set_option maxRecDepth 100000 in
theorem k_X1_strikeConsuls_x (l : Launch) (D : va_G) (h1 bc bf bg : Nat) (cyI : ClassId) (ts : List (ClassId × FieldType)) (th yr mo da : Int32) (mk wr : Nat) (rc ff gg : Nat → Nat) (x : Int32) (hy0 : x.toInt < 1 ∨ 3000 < x.toInt) : pz_I l yX1_strikeConsuls wsX1_strikeConsuls ({ frames := 2, cells := 0, slots := 0, locals := 42 } : Room) D ((cyI, .int) :: ts) [.ref h1, .int x] [(h1, .inr (1, [.int th, .int yr, .int mo, .int da, .int (nI mk), .ref bc, .ref bf, .ref bg, .int (nI wr)])), (bc, .inl (cyI, 366, .inl (pz_ar rc))), (bf, .inl (cyI, 3001, .inl (pz_ar ff))), (bg, .inl (cyI, 3001, .inl (pz_ar gg)))] (S := Unit) (fun r _ => r = nI 0) (fun _ => [(h1, .inr (1, [.int (nI 1), .int yr, .int mo, .int da, .int (nI mk), .ref bc, .ref bf, .ref bg, .int (nI wr)])), (bc, .inl (cyI, 366, .inl (pz_ar rc))), (bf, .inl (cyI, 3001, .inl (pz_ar ff))), (bg, .inl (cyI, 3001, .inl (pz_ar gg)))]) := by
  refine pz_I_of (cc := cX1_strikeConsuls) (maxL := 2) (ty := .int) (own := RX1) (by decide) rfl rfl (Nat.le_of_ble_eq_true rfl) ?_
  intro p e s m below meth c A ls Q hx hb hml hown hts hK hP hD hS hA hl hQ
  have hl : lv_has ls 2 [(0, .ref h1), (1, .int x)] := hl
  have hin : ∀ w ∈ u_ws RX1 TX1 9, w ∈ wsX1_strikeConsuls := by decide +kernel
  refine lv_aload_n hx hb dX1_strikeConsuls_0 rfl (lv_at hl 0 rfl) ?_
  refine lv_iload_n hx hb dX1_strikeConsuls_1 rfl (lv_at hl 1 rfl) ?_
  refine pz_SR (rest := [.ref h1]) ⟨hx, hb, hml, hown, hts⟩ (k_X1_isYear_x l D ((cyI, .int) :: ts) x (by omega)) (va_cwS 1 hts gX1_strikeConsuls_X1_isYear rfl rfl rfl (by decide +kernel) ⟨Nat.le_of_ble_eq_true rfl, Nat.le_of_ble_eq_true rfl⟩) hK hP (hD.weaken (fun _ _ _ _ => trivial)) hS hA [] rfl rfl rfl rfl hl.1 rfl (lv_room (Nat.le_of_ble_eq_true rfl)) dX1_strikeConsuls_2 ⟨Nat.le_of_ble_eq_true rfl, Nat.le_of_ble_eq_true rfl⟩ (fun r H locs hr hP hS => ?_)
  obtain rfl : r = (nI 0) := hr
  refine pn_if_ne (tgt := 12) hx hb (by omega) dX1_strikeConsuls_5 (by decide) (fun c_2 => absurd c_2 (by decide)) (fun _ => ?_)
  refine lv_iconst (v := nI 1) hx hb dX1_strikeConsuls_8 (by decide) ?_
  refine lv_goto (tgt := 26) hx hb dX1_strikeConsuls_9 (by decide) ?_
  refine pz_VI (rest := []) (wr := []) ⟨hx, hb, hml, hown, hts⟩ (k_X1_isFine_k l D h1 bc bf bg cyI ts th yr mo da mk wr rc ff gg 1 (by omega) (by omega)) (cwV 1 hts gX1_strikeConsuls_X1_isFine rfl rfl rfl (by decide +kernel) ⟨Nat.le_of_ble_eq_true rfl, Nat.le_of_ble_eq_true rfl⟩) hK hP hD hS hA [0, 1, 2, 3] [] rfl rfl rfl rfl rfl (by decide) 0 1 rfl rfl rfl hl.1 rfl (lv_room (Nat.le_of_ble_eq_true rfl)) dX1_strikeConsuls_26 ⟨Nat.le_of_ble_eq_true rfl, Nat.le_of_ble_eq_true rfl⟩ (fun r u H locs hr hP hD hS => ?_)
  have hP : va_P D vwCl [(h1, .inr (1, [.int (nI 1), .int yr, .int mo, .int da, .int (nI mk), .ref bc, .ref bf, .ref bg, .int (nI wr)])), (bc, .inl (cyI, 366, .inl (pz_ar rc))), (bf, .inl (cyI, 3001, .inl (pz_ar ff))), (bg, .inl (cyI, 3001, .inl (pz_ar gg)))] H := hP
  have hD : va_D A [(h1, .inr (1, [.int (nI 1), .int yr, .int mo, .int da, .int (nI mk), .ref bc, .ref bf, .ref bg, .int (nI wr)])), (bc, .inl (cyI, 366, .inl (pz_ar rc))), (bf, .inl (cyI, 3001, .inl (pz_ar ff))), (bg, .inl (cyI, 3001, .inl (pz_ar gg)))] := hD
  obtain rfl : r = (nI 0) := hr
  refine pn_if_ne (tgt := 34) hx hb (by omega) dX1_strikeConsuls_29 (by decide) (fun c_4 => absurd c_4 (by decide)) (fun _ => ?_)
  refine lv_iconst (v := nI 0) hx hb dX1_strikeConsuls_32 (by decide) ?_
  exact hQ _ _ _ _ _ () dX1_strikeConsuls_33 rfl (congrArg nI (by rfl)) hP hD hS
set_option maxHeartbeats 4000000 in
set_option maxRecDepth 100000 in
theorem k_X1_setConsuls_x (l : Launch) (D : va_G) (h1 bc bf bg : Nat) (cyI : ClassId) (ts : List (ClassId × FieldType)) (th yr mo da : Int32) (mk wr : Nat) (rc ff gg : Nat → Nat) (x x2 x3 : Int32) (hy0 : x.toInt < 1 ∨ 3000 < x.toInt) : pz_I l yX1_setConsuls wsX1_setConsuls ({ frames := 2, cells := 0, slots := 0, locals := 42 } : Room) D ((cyI, .int) :: ts) [.ref h1, .int x, .int x2, .int x3] [(h1, .inr (1, [.int th, .int yr, .int mo, .int da, .int (nI mk), .ref bc, .ref bf, .ref bg, .int (nI wr)])), (bc, .inl (cyI, 366, .inl (pz_ar rc))), (bf, .inl (cyI, 3001, .inl (pz_ar ff))), (bg, .inl (cyI, 3001, .inl (pz_ar gg)))] (S := Unit) (fun r _ => r = nI 0) (fun _ => [(h1, .inr (1, [.int (nI 1), .int yr, .int mo, .int da, .int (nI mk), .ref bc, .ref bf, .ref bg, .int (nI wr)])), (bc, .inl (cyI, 366, .inl (pz_ar rc))), (bf, .inl (cyI, 3001, .inl (pz_ar ff))), (bg, .inl (cyI, 3001, .inl (pz_ar gg)))]) := by
  refine pz_I_of (cc := cX1_setConsuls) (maxL := 5) (ty := .int) (own := RX1) (by decide) rfl rfl (Nat.le_of_ble_eq_true rfl) ?_
  intro p e s m below meth c A ls Q hx hb hml hown hts hK hP hD hS hA hl hQ
  have hl : lv_has ls 5 [(0, .ref h1), (1, .int x), (2, .int x2), (3, .int x3)] := hl
  have hin : ∀ w ∈ u_ws RX1 TX1 9, w ∈ wsX1_setConsuls := by decide +kernel
  refine lv_iload_n hx hb dX1_setConsuls_0 rfl (lv_at hl 2 rfl) ?_
  refine lv_iconst (v := nI 1) hx hb dX1_setConsuls_1 (by decide) ?_
  refine lv_sipush (v := nI 999) hx hb dX1_setConsuls_2 (by decide) ?_
  rcases pz_rng x2 1 999 (by decide) with ⟨fa, hl_fa, hh_fa, rfl⟩ | hb_x2
  · -- in range
    have ei_fa : (nI fa).toInt = (fa : Int) := nI_toInt (by omega)
    refine pz_SR (rest := []) ⟨hx, hb, hml, hown, hts⟩ (k_X1_isIn_a l D ((cyI, .int) :: ts) fa 1 999 (by omega) (by omega) (by omega)) (va_cwS 3 hts gX1_setConsuls_X1_isIn rfl rfl rfl (by decide +kernel) ⟨Nat.le_of_ble_eq_true rfl, Nat.le_of_ble_eq_true rfl⟩) hK hP (hD.weaken (fun _ _ _ _ => trivial)) hS hA [] rfl rfl rfl rfl hl.1 rfl (lv_room (Nat.le_of_ble_eq_true rfl)) dX1_setConsuls_5 ⟨Nat.le_of_ble_eq_true rfl, Nat.le_of_ble_eq_true rfl⟩ (fun r H locs hr hP hS => ?_)
    obtain rfl : r = (nI 1) := hr
    refine pn_if_eq (tgt := 31) hx hb (by omega) dX1_setConsuls_8 (by decide) (fun c_2 => absurd c_2 (by decide)) (fun _ => ?_)
    refine lv_iload_n hx hb dX1_setConsuls_11 rfl (lv_at hl 3 rfl) ?_
    refine lv_iconst (v := nI 1) hx hb dX1_setConsuls_12 (by decide) ?_
    refine lv_sipush (v := nI 999) hx hb dX1_setConsuls_13 (by decide) ?_
    rcases pz_rng x3 1 999 (by decide) with ⟨se, hl_se, hh_se, rfl⟩ | hb_x3
    · -- in range
      have ei_se : (nI se).toInt = (se : Int) := nI_toInt (by omega)
      refine pz_SR (rest := []) ⟨hx, hb, hml, hown, hts⟩ (k_X1_isIn_a l D ((cyI, .int) :: ts) se 1 999 (by omega) (by omega) (by omega)) (va_cwS 3 hts gX1_setConsuls_X1_isIn rfl rfl rfl (by decide +kernel) ⟨Nat.le_of_ble_eq_true rfl, Nat.le_of_ble_eq_true rfl⟩) hK hP (hD.weaken (fun _ _ _ _ => trivial)) hS hA [] rfl rfl rfl rfl hl.1 rfl (lv_room (Nat.le_of_ble_eq_true rfl)) dX1_setConsuls_16 ⟨Nat.le_of_ble_eq_true rfl, Nat.le_of_ble_eq_true rfl⟩ (fun r H locs hr hP hS => ?_)
      obtain rfl : r = (nI 1) := hr
      refine pn_if_eq (tgt := 31) hx hb (by omega) dX1_setConsuls_19 (by decide) (fun c_4 => absurd c_4 (by decide)) (fun _ => ?_)
      refine lv_iload_n hx hb dX1_setConsuls_22 rfl (lv_at hl 2 rfl) ?_
      refine lv_iload_n hx hb dX1_setConsuls_23 rfl (lv_at hl 3 rfl) ?_
      refine pn_icmp_eq (tgt := 31) hx hb (by omega) (by omega) dX1_setConsuls_24 (by decide) (fun c_5 => ?_) (fun c_5 => ?_)
      · -- 24 yes
        refine lv_iconst (v := nI 0) hx hb dX1_setConsuls_31 (by decide) ?_
        refine lv_istore (lv' := [(4, .int (nI 0)), (0, .ref h1), (1, .int x), (2, .int (nI fa)), (3, .int (nI se))]) hx hb dX1_setConsuls_32 hl (by decide) rfl (fun ls hl => ?_)
        refine lv_aload_n hx hb dX1_setConsuls_34 rfl (lv_at hl 1 rfl) ?_
        refine lv_iload_n hx hb dX1_setConsuls_35 rfl (lv_at hl 2 rfl) ?_
        refine pz_SR (rest := [.ref h1]) ⟨hx, hb, hml, hown, hts⟩ (k_X1_isYear_x l D ((cyI, .int) :: ts) x (by omega)) (va_cwS 1 hts gX1_setConsuls_X1_isYear rfl rfl rfl (by decide +kernel) ⟨Nat.le_of_ble_eq_true rfl, Nat.le_of_ble_eq_true rfl⟩) hK hP (hD.weaken (fun _ _ _ _ => trivial)) hS hA [] rfl rfl rfl rfl hl.1 rfl (lv_room (Nat.le_of_ble_eq_true rfl)) dX1_setConsuls_36 ⟨Nat.le_of_ble_eq_true rfl, Nat.le_of_ble_eq_true rfl⟩ (fun r H locs hr hP hS => ?_)
        obtain rfl : r = (nI 0) := hr
        refine pn_if_ne (tgt := 46) hx hb (by omega) dX1_setConsuls_39 (by decide) (fun c_7 => absurd c_7 (by decide)) (fun _ => ?_)
        refine lv_iconst (v := nI 1) hx hb dX1_setConsuls_42 (by decide) ?_
        refine lv_goto (tgt := 78) hx hb dX1_setConsuls_43 (by decide) ?_
        refine pz_VI (rest := []) (wr := []) ⟨hx, hb, hml, hown, hts⟩ (k_X1_isFine_k l D h1 bc bf bg cyI ts th yr mo da mk wr rc ff gg 1 (by omega) (by omega)) (cwV 1 hts gX1_setConsuls_X1_isFine rfl rfl rfl (by decide +kernel) ⟨Nat.le_of_ble_eq_true rfl, Nat.le_of_ble_eq_true rfl⟩) hK hP hD hS hA [0, 1, 2, 3] [] rfl rfl rfl rfl rfl (by decide) 0 1 rfl rfl rfl hl.1 rfl (lv_room (Nat.le_of_ble_eq_true rfl)) dX1_setConsuls_78 ⟨Nat.le_of_ble_eq_true rfl, Nat.le_of_ble_eq_true rfl⟩ (fun r u H locs hr hP hD hS => ?_)
        have hP : va_P D vwCl [(h1, .inr (1, [.int (nI 1), .int yr, .int mo, .int da, .int (nI mk), .ref bc, .ref bf, .ref bg, .int (nI wr)])), (bc, .inl (cyI, 366, .inl (pz_ar rc))), (bf, .inl (cyI, 3001, .inl (pz_ar ff))), (bg, .inl (cyI, 3001, .inl (pz_ar gg)))] H := hP
        have hD : va_D A [(h1, .inr (1, [.int (nI 1), .int yr, .int mo, .int da, .int (nI mk), .ref bc, .ref bf, .ref bg, .int (nI wr)])), (bc, .inl (cyI, 366, .inl (pz_ar rc))), (bf, .inl (cyI, 3001, .inl (pz_ar ff))), (bg, .inl (cyI, 3001, .inl (pz_ar gg)))] := hD
        obtain rfl : r = (nI 0) := hr
        refine pn_if_ne (tgt := 86) hx hb (by omega) dX1_setConsuls_81 (by decide) (fun c_9 => absurd c_9 (by decide)) (fun _ => ?_)
        refine lv_iconst (v := nI 0) hx hb dX1_setConsuls_84 (by decide) ?_
        exact hQ _ _ _ _ _ () dX1_setConsuls_85 rfl (congrArg nI (by rfl)) hP hD hS
      · -- 24 no
        refine lv_iconst (v := nI 1) hx hb dX1_setConsuls_27 (by decide) ?_
        refine lv_goto (tgt := 32) hx hb dX1_setConsuls_28 (by decide) ?_
        refine lv_istore (lv' := [(4, .int (nI 1)), (0, .ref h1), (1, .int x), (2, .int (nI fa)), (3, .int (nI se))]) hx hb dX1_setConsuls_32 hl (by decide) rfl (fun ls hl => ?_)
        refine lv_aload_n hx hb dX1_setConsuls_34 rfl (lv_at hl 1 rfl) ?_
        refine lv_iload_n hx hb dX1_setConsuls_35 rfl (lv_at hl 2 rfl) ?_
        refine pz_SR (rest := [.ref h1]) ⟨hx, hb, hml, hown, hts⟩ (k_X1_isYear_x l D ((cyI, .int) :: ts) x (by omega)) (va_cwS 1 hts gX1_setConsuls_X1_isYear rfl rfl rfl (by decide +kernel) ⟨Nat.le_of_ble_eq_true rfl, Nat.le_of_ble_eq_true rfl⟩) hK hP (hD.weaken (fun _ _ _ _ => trivial)) hS hA [] rfl rfl rfl rfl hl.1 rfl (lv_room (Nat.le_of_ble_eq_true rfl)) dX1_setConsuls_36 ⟨Nat.le_of_ble_eq_true rfl, Nat.le_of_ble_eq_true rfl⟩ (fun r H locs hr hP hS => ?_)
        obtain rfl : r = (nI 0) := hr
        refine pn_if_ne (tgt := 46) hx hb (by omega) dX1_setConsuls_39 (by decide) (fun c_11 => absurd c_11 (by decide)) (fun _ => ?_)
        refine lv_iconst (v := nI 1) hx hb dX1_setConsuls_42 (by decide) ?_
        refine lv_goto (tgt := 78) hx hb dX1_setConsuls_43 (by decide) ?_
        refine pz_VI (rest := []) (wr := []) ⟨hx, hb, hml, hown, hts⟩ (k_X1_isFine_k l D h1 bc bf bg cyI ts th yr mo da mk wr rc ff gg 1 (by omega) (by omega)) (cwV 1 hts gX1_setConsuls_X1_isFine rfl rfl rfl (by decide +kernel) ⟨Nat.le_of_ble_eq_true rfl, Nat.le_of_ble_eq_true rfl⟩) hK hP hD hS hA [0, 1, 2, 3] [] rfl rfl rfl rfl rfl (by decide) 0 1 rfl rfl rfl hl.1 rfl (lv_room (Nat.le_of_ble_eq_true rfl)) dX1_setConsuls_78 ⟨Nat.le_of_ble_eq_true rfl, Nat.le_of_ble_eq_true rfl⟩ (fun r u H locs hr hP hD hS => ?_)
        have hP : va_P D vwCl [(h1, .inr (1, [.int (nI 1), .int yr, .int mo, .int da, .int (nI mk), .ref bc, .ref bf, .ref bg, .int (nI wr)])), (bc, .inl (cyI, 366, .inl (pz_ar rc))), (bf, .inl (cyI, 3001, .inl (pz_ar ff))), (bg, .inl (cyI, 3001, .inl (pz_ar gg)))] H := hP
        have hD : va_D A [(h1, .inr (1, [.int (nI 1), .int yr, .int mo, .int da, .int (nI mk), .ref bc, .ref bf, .ref bg, .int (nI wr)])), (bc, .inl (cyI, 366, .inl (pz_ar rc))), (bf, .inl (cyI, 3001, .inl (pz_ar ff))), (bg, .inl (cyI, 3001, .inl (pz_ar gg)))] := hD
        obtain rfl : r = (nI 0) := hr
        refine pn_if_ne (tgt := 86) hx hb (by omega) dX1_setConsuls_81 (by decide) (fun c_13 => absurd c_13 (by decide)) (fun _ => ?_)
        refine lv_iconst (v := nI 0) hx hb dX1_setConsuls_84 (by decide) ?_
        exact hQ _ _ _ _ _ () dX1_setConsuls_85 rfl (congrArg nI (by rfl)) hP hD hS
    · -- outside
      refine pz_SR (rest := []) ⟨hx, hb, hml, hown, hts⟩ (k_X1_isIn_x l D ((cyI, .int) :: ts) x3 1 999 (by omega) (by omega) (by omega)) (va_cwS 3 hts gX1_setConsuls_X1_isIn rfl rfl rfl (by decide +kernel) ⟨Nat.le_of_ble_eq_true rfl, Nat.le_of_ble_eq_true rfl⟩) hK hP (hD.weaken (fun _ _ _ _ => trivial)) hS hA [] rfl rfl rfl rfl hl.1 rfl (lv_room (Nat.le_of_ble_eq_true rfl)) dX1_setConsuls_16 ⟨Nat.le_of_ble_eq_true rfl, Nat.le_of_ble_eq_true rfl⟩ (fun r H locs hr hP hS => ?_)
      obtain rfl : r = (nI 0) := hr
      refine pn_if_eq (tgt := 31) hx hb (by omega) dX1_setConsuls_19 (by decide) (fun _ => ?_) (fun c_15 => absurd c_15 (by decide))
      refine lv_iconst (v := nI 0) hx hb dX1_setConsuls_31 (by decide) ?_
      refine lv_istore (lv' := [(4, .int (nI 0)), (0, .ref h1), (1, .int x), (2, .int (nI fa)), (3, .int x3)]) hx hb dX1_setConsuls_32 hl (by decide) rfl (fun ls hl => ?_)
      refine lv_aload_n hx hb dX1_setConsuls_34 rfl (lv_at hl 1 rfl) ?_
      refine lv_iload_n hx hb dX1_setConsuls_35 rfl (lv_at hl 2 rfl) ?_
      refine pz_SR (rest := [.ref h1]) ⟨hx, hb, hml, hown, hts⟩ (k_X1_isYear_x l D ((cyI, .int) :: ts) x (by omega)) (va_cwS 1 hts gX1_setConsuls_X1_isYear rfl rfl rfl (by decide +kernel) ⟨Nat.le_of_ble_eq_true rfl, Nat.le_of_ble_eq_true rfl⟩) hK hP (hD.weaken (fun _ _ _ _ => trivial)) hS hA [] rfl rfl rfl rfl hl.1 rfl (lv_room (Nat.le_of_ble_eq_true rfl)) dX1_setConsuls_36 ⟨Nat.le_of_ble_eq_true rfl, Nat.le_of_ble_eq_true rfl⟩ (fun r H locs hr hP hS => ?_)
      obtain rfl : r = (nI 0) := hr
      refine pn_if_ne (tgt := 46) hx hb (by omega) dX1_setConsuls_39 (by decide) (fun c_17 => absurd c_17 (by decide)) (fun _ => ?_)
      refine lv_iconst (v := nI 1) hx hb dX1_setConsuls_42 (by decide) ?_
      refine lv_goto (tgt := 78) hx hb dX1_setConsuls_43 (by decide) ?_
      refine pz_VI (rest := []) (wr := []) ⟨hx, hb, hml, hown, hts⟩ (k_X1_isFine_k l D h1 bc bf bg cyI ts th yr mo da mk wr rc ff gg 1 (by omega) (by omega)) (cwV 1 hts gX1_setConsuls_X1_isFine rfl rfl rfl (by decide +kernel) ⟨Nat.le_of_ble_eq_true rfl, Nat.le_of_ble_eq_true rfl⟩) hK hP hD hS hA [0, 1, 2, 3] [] rfl rfl rfl rfl rfl (by decide) 0 1 rfl rfl rfl hl.1 rfl (lv_room (Nat.le_of_ble_eq_true rfl)) dX1_setConsuls_78 ⟨Nat.le_of_ble_eq_true rfl, Nat.le_of_ble_eq_true rfl⟩ (fun r u H locs hr hP hD hS => ?_)
      have hP : va_P D vwCl [(h1, .inr (1, [.int (nI 1), .int yr, .int mo, .int da, .int (nI mk), .ref bc, .ref bf, .ref bg, .int (nI wr)])), (bc, .inl (cyI, 366, .inl (pz_ar rc))), (bf, .inl (cyI, 3001, .inl (pz_ar ff))), (bg, .inl (cyI, 3001, .inl (pz_ar gg)))] H := hP
      have hD : va_D A [(h1, .inr (1, [.int (nI 1), .int yr, .int mo, .int da, .int (nI mk), .ref bc, .ref bf, .ref bg, .int (nI wr)])), (bc, .inl (cyI, 366, .inl (pz_ar rc))), (bf, .inl (cyI, 3001, .inl (pz_ar ff))), (bg, .inl (cyI, 3001, .inl (pz_ar gg)))] := hD
      obtain rfl : r = (nI 0) := hr
      refine pn_if_ne (tgt := 86) hx hb (by omega) dX1_setConsuls_81 (by decide) (fun c_19 => absurd c_19 (by decide)) (fun _ => ?_)
      refine lv_iconst (v := nI 0) hx hb dX1_setConsuls_84 (by decide) ?_
      exact hQ _ _ _ _ _ () dX1_setConsuls_85 rfl (congrArg nI (by rfl)) hP hD hS
  · -- outside
    refine pz_SR (rest := []) ⟨hx, hb, hml, hown, hts⟩ (k_X1_isIn_x l D ((cyI, .int) :: ts) x2 1 999 (by omega) (by omega) (by omega)) (va_cwS 3 hts gX1_setConsuls_X1_isIn rfl rfl rfl (by decide +kernel) ⟨Nat.le_of_ble_eq_true rfl, Nat.le_of_ble_eq_true rfl⟩) hK hP (hD.weaken (fun _ _ _ _ => trivial)) hS hA [] rfl rfl rfl rfl hl.1 rfl (lv_room (Nat.le_of_ble_eq_true rfl)) dX1_setConsuls_5 ⟨Nat.le_of_ble_eq_true rfl, Nat.le_of_ble_eq_true rfl⟩ (fun r H locs hr hP hS => ?_)
    obtain rfl : r = (nI 0) := hr
    refine pn_if_eq (tgt := 31) hx hb (by omega) dX1_setConsuls_8 (by decide) (fun _ => ?_) (fun c_21 => absurd c_21 (by decide))
    refine lv_iconst (v := nI 0) hx hb dX1_setConsuls_31 (by decide) ?_
    refine lv_istore (lv' := [(4, .int (nI 0)), (0, .ref h1), (1, .int x), (2, .int x2), (3, .int x3)]) hx hb dX1_setConsuls_32 hl (by decide) rfl (fun ls hl => ?_)
    refine lv_aload_n hx hb dX1_setConsuls_34 rfl (lv_at hl 1 rfl) ?_
    refine lv_iload_n hx hb dX1_setConsuls_35 rfl (lv_at hl 2 rfl) ?_
    refine pz_SR (rest := [.ref h1]) ⟨hx, hb, hml, hown, hts⟩ (k_X1_isYear_x l D ((cyI, .int) :: ts) x (by omega)) (va_cwS 1 hts gX1_setConsuls_X1_isYear rfl rfl rfl (by decide +kernel) ⟨Nat.le_of_ble_eq_true rfl, Nat.le_of_ble_eq_true rfl⟩) hK hP (hD.weaken (fun _ _ _ _ => trivial)) hS hA [] rfl rfl rfl rfl hl.1 rfl (lv_room (Nat.le_of_ble_eq_true rfl)) dX1_setConsuls_36 ⟨Nat.le_of_ble_eq_true rfl, Nat.le_of_ble_eq_true rfl⟩ (fun r H locs hr hP hS => ?_)
    obtain rfl : r = (nI 0) := hr
    refine pn_if_ne (tgt := 46) hx hb (by omega) dX1_setConsuls_39 (by decide) (fun c_23 => absurd c_23 (by decide)) (fun _ => ?_)
    refine lv_iconst (v := nI 1) hx hb dX1_setConsuls_42 (by decide) ?_
    refine lv_goto (tgt := 78) hx hb dX1_setConsuls_43 (by decide) ?_
    refine pz_VI (rest := []) (wr := []) ⟨hx, hb, hml, hown, hts⟩ (k_X1_isFine_k l D h1 bc bf bg cyI ts th yr mo da mk wr rc ff gg 1 (by omega) (by omega)) (cwV 1 hts gX1_setConsuls_X1_isFine rfl rfl rfl (by decide +kernel) ⟨Nat.le_of_ble_eq_true rfl, Nat.le_of_ble_eq_true rfl⟩) hK hP hD hS hA [0, 1, 2, 3] [] rfl rfl rfl rfl rfl (by decide) 0 1 rfl rfl rfl hl.1 rfl (lv_room (Nat.le_of_ble_eq_true rfl)) dX1_setConsuls_78 ⟨Nat.le_of_ble_eq_true rfl, Nat.le_of_ble_eq_true rfl⟩ (fun r u H locs hr hP hD hS => ?_)
    have hP : va_P D vwCl [(h1, .inr (1, [.int (nI 1), .int yr, .int mo, .int da, .int (nI mk), .ref bc, .ref bf, .ref bg, .int (nI wr)])), (bc, .inl (cyI, 366, .inl (pz_ar rc))), (bf, .inl (cyI, 3001, .inl (pz_ar ff))), (bg, .inl (cyI, 3001, .inl (pz_ar gg)))] H := hP
    have hD : va_D A [(h1, .inr (1, [.int (nI 1), .int yr, .int mo, .int da, .int (nI mk), .ref bc, .ref bf, .ref bg, .int (nI wr)])), (bc, .inl (cyI, 366, .inl (pz_ar rc))), (bf, .inl (cyI, 3001, .inl (pz_ar ff))), (bg, .inl (cyI, 3001, .inl (pz_ar gg)))] := hD
    obtain rfl : r = (nI 0) := hr
    refine pn_if_ne (tgt := 86) hx hb (by omega) dX1_setConsuls_81 (by decide) (fun c_25 => absurd c_25 (by decide)) (fun _ => ?_)
    refine lv_iconst (v := nI 0) hx hb dX1_setConsuls_84 (by decide) ?_
    exact hQ _ _ _ _ _ () dX1_setConsuls_85 rfl (congrArg nI (by rfl)) hP hD hS
set_option maxHeartbeats 4000000 in
set_option maxRecDepth 100000 in
theorem k_X1_setMarketDay_a (l : Launch) (D : va_G) (h1 bc bf bg : Nat) (cyI : ClassId) (ts : List (ClassId × FieldType)) (th yr mo da : Int32) (mk wr : Nat) (rc ff gg : Nat → Nat) (n : Nat) (hy0 : n < 1095750) : pz_I l yX1_setMarketDay wsX1_setMarketDay ({ frames := 2, cells := 0, slots := 0, locals := 42 } : Room) D ((cyI, .int) :: ts) [.ref h1, .int (nI n)] [(h1, .inr (1, [.int th, .int yr, .int mo, .int da, .int (nI mk), .ref bc, .ref bf, .ref bg, .int (nI wr)])), (bc, .inl (cyI, 366, .inl (pz_ar rc))), (bf, .inl (cyI, 3001, .inl (pz_ar ff))), (bg, .inl (cyI, 3001, .inl (pz_ar gg)))] (S := Unit) (fun r _ => r = nI mk) (fun _ => [(h1, .inr (1, [.int (nI 0), .int yr, .int mo, .int da, .int (nI (n % 8)), .ref bc, .ref bf, .ref bg, .int (nI wr)])), (bc, .inl (cyI, 366, .inl (pz_ar rc))), (bf, .inl (cyI, 3001, .inl (pz_ar ff))), (bg, .inl (cyI, 3001, .inl (pz_ar gg)))]) := by
  refine pz_I_of (cc := cX1_setMarketDay) (maxL := 3) (ty := .int) (own := RX1) (by decide) rfl rfl (Nat.le_of_ble_eq_true rfl) ?_
  intro p e s m below meth c A ls Q hx hb hml hown hts hK hP hD hS hA hl hQ
  have hl : lv_has ls 3 [(0, .ref h1), (1, .int (nI n))] := hl
  have hin : ∀ w ∈ u_ws RX1 TX1 9, w ∈ wsX1_setMarketDay := by decide +kernel
  refine lv_aload_n hx hb dX1_setMarketDay_0 rfl (lv_at hl 0 rfl) ?_
  refine lv_iload_n hx hb dX1_setMarketDay_1 rfl (lv_at hl 1 rfl) ?_
  refine pz_SR (rest := [.ref h1]) ⟨hx, hb, hml, hown, hts⟩ (k_X1_isDay_a l D ((cyI, .int) :: ts) n (by omega)) (va_cwS 1 hts gX1_setMarketDay_X1_isDay rfl rfl rfl (by decide +kernel) ⟨Nat.le_of_ble_eq_true rfl, Nat.le_of_ble_eq_true rfl⟩) hK hP (hD.weaken (fun _ _ _ _ => trivial)) hS hA [] rfl rfl rfl rfl hl.1 rfl (lv_room (Nat.le_of_ble_eq_true rfl)) dX1_setMarketDay_2 ⟨Nat.le_of_ble_eq_true rfl, Nat.le_of_ble_eq_true rfl⟩ (fun r H locs hr hP hS => ?_)
  obtain rfl : r = (nI 1) := hr
  refine pn_if_eq (tgt := 12) hx hb (by omega) dX1_setMarketDay_5 (by decide) (fun c_2 => absurd c_2 (by decide)) (fun _ => ?_)
  refine lv_iconst (v := nI 0) hx hb dX1_setMarketDay_8 (by decide) ?_
  refine lv_goto (tgt := 13) hx hb dX1_setMarketDay_9 (by decide) ?_
  refine pz_VI (rest := []) (wr := []) ⟨hx, hb, hml, hown, hts⟩ (k_X1_isFine_0 l D h1 bc bf bg cyI ts th yr mo da mk wr rc ff gg  ) (cwV 1 hts gX1_setMarketDay_X1_isFine rfl rfl rfl (by decide +kernel) ⟨Nat.le_of_ble_eq_true rfl, Nat.le_of_ble_eq_true rfl⟩) hK hP hD hS hA [0, 1, 2, 3] [] rfl rfl rfl rfl rfl (by decide) 0 1 rfl rfl rfl hl.1 rfl (lv_room (Nat.le_of_ble_eq_true rfl)) dX1_setMarketDay_13 ⟨Nat.le_of_ble_eq_true rfl, Nat.le_of_ble_eq_true rfl⟩ (fun r u H locs hr hP hD hS => ?_)
  have hP : va_P D vwCl [(h1, .inr (1, [.int (nI 0), .int yr, .int mo, .int da, .int (nI mk), .ref bc, .ref bf, .ref bg, .int (nI wr)])), (bc, .inl (cyI, 366, .inl (pz_ar rc))), (bf, .inl (cyI, 3001, .inl (pz_ar ff))), (bg, .inl (cyI, 3001, .inl (pz_ar gg)))] H := hP
  have hD : va_D A [(h1, .inr (1, [.int (nI 0), .int yr, .int mo, .int da, .int (nI mk), .ref bc, .ref bf, .ref bg, .int (nI wr)])), (bc, .inl (cyI, 366, .inl (pz_ar rc))), (bf, .inl (cyI, 3001, .inl (pz_ar ff))), (bg, .inl (cyI, 3001, .inl (pz_ar gg)))] := hD
  obtain rfl : r = (nI 1) := hr
  refine pn_if_ne (tgt := 21) hx hb (by omega) dX1_setMarketDay_16 (by decide) (fun _ => ?_) (fun c_4 => absurd c_4 (by decide))
  refine lv_aload_n hx hb dX1_setMarketDay_21 rfl (lv_at hl 0 rfl) ?_
  refine va_get (D := D) (ci := 1) (v := .int (nI mk)) (C := RX1) (T := TX1) (N := 9) hx hb hts hin hown hK hP 0 rfl rfl 4 (by decide) (hts (.fieldLink RX1 104 "RomanCalendarModel" "market" "I") (by decide +kernel)) (fun _ h9 => h9) rfl dX1_setMarketDay_22 ?_
  refine lv_istore_n (lv' := [(2, .int (nI mk)), (0, .ref h1), (1, .int (nI n))]) hx hb dX1_setMarketDay_25 rfl hl (by decide) rfl (fun ls hl => ?_)
  refine lv_aload_n hx hb dX1_setMarketDay_26 rfl (lv_at hl 1 rfl) ?_
  refine lv_iload_n hx hb dX1_setMarketDay_27 rfl (lv_at hl 2 rfl) ?_
  refine lv_bipush (v := nI 8) hx hb dX1_setMarketDay_28 (by decide) ?_
  refine pn_irem hx hb (by omega) (by omega) (by omega) dX1_setMarketDay_30 ?_
  refine va_put (D := D) (ci := 1) (v := .int (nI (n % 8))) (ty := .int) (C := RX1) (T := TX1) (N := 9) hx hb hts hin tyX1 tyX1_ok nmX1 hown hK hP hD hS 0 rfl rfl 4 (by decide) (hts (.fieldLink RX1 104 "RomanCalendarModel" "market" "I") (by decide +kernel)) (fun _ h9 => h9) rfl (by decide +kernel) rfl rfl (Nat.le_of_ble_eq_true rfl) dX1_setMarketDay_31 (fun H locs hP hD hS => ?_)
  have hP : va_P D vwCl [(h1, .inr (1, [.int (nI 0), .int yr, .int mo, .int da, .int (nI (n % 8)), .ref bc, .ref bf, .ref bg, .int (nI wr)])), (bc, .inl (cyI, 366, .inl (pz_ar rc))), (bf, .inl (cyI, 3001, .inl (pz_ar ff))), (bg, .inl (cyI, 3001, .inl (pz_ar gg)))] H := hP
  have hD : va_D A [(h1, .inr (1, [.int (nI 0), .int yr, .int mo, .int da, .int (nI (n % 8)), .ref bc, .ref bf, .ref bg, .int (nI wr)])), (bc, .inl (cyI, 366, .inl (pz_ar rc))), (bf, .inl (cyI, 3001, .inl (pz_ar ff))), (bg, .inl (cyI, 3001, .inl (pz_ar gg)))] := hD
  refine lv_iload_n hx hb dX1_setMarketDay_34 rfl (lv_at hl 0 rfl) ?_
  exact hQ _ _ _ _ _ () dX1_setMarketDay_35 rfl (congrArg nI (by rfl)) hP hD hS
set_option maxHeartbeats 4000000 in
set_option maxRecDepth 100000 in
theorem k_X1_isMarket_a (l : Launch) (D : va_G) (h1 bc bf bg : Nat) (cyI : ClassId) (ts : List (ClassId × FieldType)) (th yr mo da : Int32) (mk wr : Nat) (rc ff gg : Nat → Nat) (n : Nat) (hy0 : n < 1095750) (hmk : mk < 8) : pz_I l yX1_isMarket wsX1_isMarket ({ frames := 2, cells := 0, slots := 0, locals := 42 } : Room) D ((cyI, .int) :: ts) [.ref h1, .int (nI n)] [(h1, .inr (1, [.int th, .int yr, .int mo, .int da, .int (nI mk), .ref bc, .ref bf, .ref bg, .int (nI wr)])), (bc, .inl (cyI, 366, .inl (pz_ar rc))), (bf, .inl (cyI, 3001, .inl (pz_ar ff))), (bg, .inl (cyI, 3001, .inl (pz_ar gg)))] (S := Unit) (fun r _ => r = pz_b (n % 8 = mk)) (fun _ => [(h1, .inr (1, [.int (nI 0), .int yr, .int mo, .int da, .int (nI mk), .ref bc, .ref bf, .ref bg, .int (nI wr)])), (bc, .inl (cyI, 366, .inl (pz_ar rc))), (bf, .inl (cyI, 3001, .inl (pz_ar ff))), (bg, .inl (cyI, 3001, .inl (pz_ar gg)))]) := by
  refine pz_I_of (cc := cX1_isMarket) (maxL := 2) (ty := .boolean) (own := RX1) (by decide) rfl rfl (Nat.le_of_ble_eq_true rfl) ?_
  intro p e s m below meth c A ls Q hx hb hml hown hts hK hP hD hS hA hl hQ
  have hl : lv_has ls 2 [(0, .ref h1), (1, .int (nI n))] := hl
  have hin : ∀ w ∈ u_ws RX1 TX1 9, w ∈ wsX1_isMarket := by decide +kernel
  refine lv_aload_n hx hb dX1_isMarket_0 rfl (lv_at hl 0 rfl) ?_
  refine lv_iload_n hx hb dX1_isMarket_1 rfl (lv_at hl 1 rfl) ?_
  refine pz_SR (rest := [.ref h1]) ⟨hx, hb, hml, hown, hts⟩ (k_X1_isDay_a l D ((cyI, .int) :: ts) n (by omega)) (va_cwS 1 hts gX1_isMarket_X1_isDay rfl rfl rfl (by decide +kernel) ⟨Nat.le_of_ble_eq_true rfl, Nat.le_of_ble_eq_true rfl⟩) hK hP (hD.weaken (fun _ _ _ _ => trivial)) hS hA [] rfl rfl rfl rfl hl.1 rfl (lv_room (Nat.le_of_ble_eq_true rfl)) dX1_isMarket_2 ⟨Nat.le_of_ble_eq_true rfl, Nat.le_of_ble_eq_true rfl⟩ (fun r H locs hr hP hS => ?_)
  obtain rfl : r = (nI 1) := hr
  refine pn_if_eq (tgt := 12) hx hb (by omega) dX1_isMarket_5 (by decide) (fun c_2 => absurd c_2 (by decide)) (fun _ => ?_)
  refine lv_iconst (v := nI 0) hx hb dX1_isMarket_8 (by decide) ?_
  refine lv_goto (tgt := 13) hx hb dX1_isMarket_9 (by decide) ?_
  refine pz_VI (rest := []) (wr := []) ⟨hx, hb, hml, hown, hts⟩ (k_X1_isFine_0 l D h1 bc bf bg cyI ts th yr mo da mk wr rc ff gg  ) (cwV 1 hts gX1_isMarket_X1_isFine rfl rfl rfl (by decide +kernel) ⟨Nat.le_of_ble_eq_true rfl, Nat.le_of_ble_eq_true rfl⟩) hK hP hD hS hA [0, 1, 2, 3] [] rfl rfl rfl rfl rfl (by decide) 0 1 rfl rfl rfl hl.1 rfl (lv_room (Nat.le_of_ble_eq_true rfl)) dX1_isMarket_13 ⟨Nat.le_of_ble_eq_true rfl, Nat.le_of_ble_eq_true rfl⟩ (fun r u H locs hr hP hD hS => ?_)
  have hP : va_P D vwCl [(h1, .inr (1, [.int (nI 0), .int yr, .int mo, .int da, .int (nI mk), .ref bc, .ref bf, .ref bg, .int (nI wr)])), (bc, .inl (cyI, 366, .inl (pz_ar rc))), (bf, .inl (cyI, 3001, .inl (pz_ar ff))), (bg, .inl (cyI, 3001, .inl (pz_ar gg)))] H := hP
  have hD : va_D A [(h1, .inr (1, [.int (nI 0), .int yr, .int mo, .int da, .int (nI mk), .ref bc, .ref bf, .ref bg, .int (nI wr)])), (bc, .inl (cyI, 366, .inl (pz_ar rc))), (bf, .inl (cyI, 3001, .inl (pz_ar ff))), (bg, .inl (cyI, 3001, .inl (pz_ar gg)))] := hD
  obtain rfl : r = (nI 1) := hr
  refine pn_if_eq (tgt := 34) hx hb (by omega) dX1_isMarket_16 (by decide) (fun c_4 => absurd c_4 (by decide)) (fun _ => ?_)
  refine lv_iload_n hx hb dX1_isMarket_19 rfl (lv_at hl 1 rfl) ?_
  refine lv_bipush (v := nI 8) hx hb dX1_isMarket_20 (by decide) ?_
  refine pn_irem hx hb (by omega) (by omega) (by omega) dX1_isMarket_22 ?_
  refine lv_aload_n hx hb dX1_isMarket_23 rfl (lv_at hl 0 rfl) ?_
  refine va_get (D := D) (ci := 1) (v := .int (nI mk)) (C := RX1) (T := TX1) (N := 9) hx hb hts hin hown hK hP 0 rfl rfl 4 (by decide) (hts (.fieldLink RX1 104 "RomanCalendarModel" "market" "I") (by decide +kernel)) (fun _ h9 => h9) rfl dX1_isMarket_24 ?_
  refine pn_icmp_ne (tgt := 34) hx hb (by omega) (by omega) dX1_isMarket_27 (by decide) (fun c_5 => ?_) (fun c_5 => ?_)
  · -- 27 yes
    refine lv_iconst (v := nI 0) hx hb dX1_isMarket_34 (by decide) ?_
    exact hQ _ _ _ _ _ () dX1_isMarket_35 (by decide) (pz_bf (by omega)) hP hD hS
  · -- 27 no
    refine lv_iconst (v := nI 1) hx hb dX1_isMarket_30 (by decide) ?_
    refine lv_goto (tgt := 35) hx hb dX1_isMarket_31 (by decide) ?_
    exact hQ _ _ _ _ _ () dX1_isMarket_35 (by decide) (pz_bt (by omega)) hP hD hS
set_option maxHeartbeats 4000000 in
set_option maxRecDepth 100000 in
theorem k_X1_told_a (l : Launch) (D : va_G) (h1 bc bf bg : Nat) (cyI : ClassId) (ts : List (ClassId × FieldType)) (th yr mo da : Int32) (mk wr : Nat) (rc ff gg : Nat → Nat) (y mm a k bd R0 : Nat) (hy0 : 1 ≤ y) (hy1 : y ≤ 3000) (hy2 : 1 ≤ mm) (hy3 : mm ≤ 12) (hy4 : a ≤ 2) (hy5 : k < 2147483648) (hy6 : bd ≤ 1) (hy7 : pm_fd y ≤ R0) (hy8 : R0 < pm_fd (y + 1)) (hT1 : pm_td mm a k bd R0) (hT2 : ∀ z, pm_fd y ≤ z → z < R0 → ¬ pm_td mm a k bd z) : pz_I l yX1_told wsX1_told ({ frames := 3, cells := 0, slots := 0, locals := 63 } : Room) D ((cyI, .int) :: ts) [.ref h1, .int (nI y), .int (nI mm), .int (nI a), .int (nI k), .int (nI bd)] [(h1, .inr (1, [.int th, .int yr, .int mo, .int da, .int (nI mk), .ref bc, .ref bf, .ref bg, .int (nI wr)])), (bc, .inl (cyI, 366, .inl (pz_ar rc))), (bf, .inl (cyI, 3001, .inl (pz_ar ff))), (bg, .inl (cyI, 3001, .inl (pz_ar gg)))] (S := Int32 × Int32 × Int32) (fun r _ => r = nI R0) (fun u => [(h1, .inr (1, [.int th, .int u.1, .int u.2.1, .int u.2.2, .int (nI mk), .ref bc, .ref bf, .ref bg, .int (nI wr)])), (bc, .inl (cyI, 366, .inl (pz_ar rc))), (bf, .inl (cyI, 3001, .inl (pz_ar ff))), (bg, .inl (cyI, 3001, .inl (pz_ar gg)))]) := by
  refine pz_I_of (cc := cX1_told) (maxL := 7) (ty := .int) (own := RX1) (by decide) rfl rfl (Nat.le_of_ble_eq_true rfl) ?_
  intro p e s m below meth c A ls Q hx hb hml hown hts hK hP hD hS hA hl hQ
  have hl : lv_has ls 7 [(0, .ref h1), (1, .int (nI y)), (2, .int (nI mm)), (3, .int (nI a)), (4, .int (nI k)), (5, .int (nI bd))] := hl
  have hf1 := pm_fd_e y
  have hf2 := pm_fd_e (y + 1)
  refine lv_iload_n hx hb dX1_told_0 rfl (lv_at hl 1 rfl) ?_
  refine pz_SR (rest := []) ⟨hx, hb, hml, hown, hts⟩ (k_X1_begin l D ((cyI, .int) :: ts) y (by omega) (by omega)) (va_cwS 1 hts gX1_told_X1_begin rfl rfl rfl (by decide +kernel) ⟨Nat.le_of_ble_eq_true rfl, Nat.le_of_ble_eq_true rfl⟩) hK hP (hD.weaken (fun _ _ _ _ => trivial)) hS hA [] rfl rfl rfl rfl hl.1 rfl (lv_room (Nat.le_of_ble_eq_true rfl)) dX1_told_1 ⟨Nat.le_of_ble_eq_true rfl, Nat.le_of_ble_eq_true rfl⟩ (fun r H locs hr hP hS => ?_)
  obtain rfl : r = (nI (pm_fd y)) := hr
  have hf_2 := pm_fd_e y
  refine lv_istore (lv' := [(6, .int (nI (pm_fd y))), (0, .ref h1), (1, .int (nI y)), (2, .int (nI mm)), (3, .int (nI a)), (4, .int (nI k)), (5, .int (nI bd))]) hx hb dX1_told_4 hl (by decide) rfl (fun ls hl => ?_)
  have LP6 : ∀ (N : Nat) (z : Nat) (y2 : Int32) (m2 : Int32) (d2 : Int32) (H : Heap) (locs : List Loc) (ls : Array Slot), pm_fd (y + 1) - z < N → (pm_fd y ≤ z) → (z ≤ R0) → va_P D vwCl [(h1, .inr (1, [.int th, .int y2, .int m2, .int d2, .int (nI mk), .ref bc, .ref bf, .ref bg, .int (nI wr)])), (bc, .inl (cyI, 366, .inl (pz_ar rc))), (bf, .inl (cyI, 3001, .inl (pz_ar ff))), (bg, .inl (cyI, 3001, .inl (pz_ar gg)))] H → va_D A [(h1, .inr (1, [.int th, .int y2, .int m2, .int d2, .int (nI mk), .ref bc, .ref bf, .ref bg, .int (nI wr)])), (bc, .inl (cyI, 366, .inl (pz_ar rc))), (bf, .inl (cyI, 3001, .inl (pz_ar ff))), (bg, .inl (cyI, 3001, .inl (pz_ar gg)))] → va_S A s.heap H locs → lv_has ls 7 [(6, .int (nI z)), (0, .ref h1), (1, .int (nI y)), (2, .int (nI mm)), (3, .int (nI a)), (4, .int (nI k)), (5, .int (nI bd))] → W p l e ({ frames := 3, cells := 0, slots := 0, locals := 63 } : Room) s m ([.ref h1, .int (nI y), .int (nI mm), .int (nI a), .int (nI k), .int (nI bd)] : List Value).toArray below meth c H locs 0 0 Q (F0 m 6 ls []) := by
    intro N
    induction N with
    | zero => intro z y2 m2 d2 H locs ls hN; exact absurd hN (Nat.not_lt_zero _)
    | succ N ih =>
      intro z y2 m2 d2 H locs ls hN hi6_0 hi6_1 hP hD hS hl
      have hz_0 : z < R0 → ¬ pm_td mm a k bd z := hT2 z hi6_0
      unfold pm_td at hz_0
      have ih6 := ih
      refine lv_iload hx hb dX1_told_6 (lv_at hl 0 rfl) ?_
      refine lv_iload_n hx hb dX1_told_8 rfl (lv_at hl 2 rfl) ?_
      refine lv_iconst (v := nI 1) hx hb dX1_told_9 (by decide) ?_
      refine pn_iadd hx hb dX1_told_10 ?_
      refine pz_SR (rest := [.int (nI z)]) ⟨hx, hb, hml, hown, hts⟩ (k_X1_begin l D ((cyI, .int) :: ts) (y + 1) (by omega) (by omega)) (va_cwS 1 hts gX1_told_X1_begin rfl rfl rfl (by decide +kernel) ⟨Nat.le_of_ble_eq_true rfl, Nat.le_of_ble_eq_true rfl⟩) hK hP (hD.weaken (fun _ _ _ _ => trivial)) hS hA [] rfl rfl rfl rfl hl.1 rfl (lv_room (Nat.le_of_ble_eq_true rfl)) dX1_told_11 ⟨Nat.le_of_ble_eq_true rfl, Nat.le_of_ble_eq_true rfl⟩ (fun r H locs hr hP hS => ?_)
      obtain rfl : r = (nI (pm_fd (y + 1))) := hr
      have hf_4 := pm_fd_e (y + 1)
      refine pn_icmp_ge (tgt := 66) hx hb (by omega) (by omega) dX1_told_14 (by decide) (fun c_5 => ?_) (fun c_5 => ?_)
      · -- 14 yes
        exfalso; omega
      · -- 14 no
        refine lv_aload_n hx hb dX1_told_17 rfl (lv_at hl 1 rfl) ?_
        refine lv_iload hx hb dX1_told_18 (lv_at hl 0 rfl) ?_
        refine pz_VV (rest := []) (wr := []) ⟨hx, hb, hml, hown, hts⟩ (k_X1_splits l D h1 bc bf bg cyI ts th y2 m2 d2 mk wr rc ff gg z (by omega)) (cwV 1 hts gX1_told_X1_splits rfl rfl rfl (by decide +kernel) ⟨Nat.le_of_ble_eq_true rfl, Nat.le_of_ble_eq_true rfl⟩) hK hP hD hS hA [0, 1, 2, 3] [] rfl rfl rfl rfl rfl (by decide) 0 1 rfl rfl rfl hl.1 rfl (lv_room (Nat.le_of_ble_eq_true rfl)) dX1_told_20 ⟨Nat.le_of_ble_eq_true rfl, Nat.le_of_ble_eq_true rfl⟩ (fun u H locs hr hP hD hS => ?_)
        have hP : va_P D vwCl [(h1, .inr (1, [.int th, .int (nI (pm_yr z)), .int (nI (pm_mo z)), .int (nI (pm_da z)), .int (nI mk), .ref bc, .ref bf, .ref bg, .int (nI wr)])), (bc, .inl (cyI, 366, .inl (pz_ar rc))), (bf, .inl (cyI, 3001, .inl (pz_ar ff))), (bg, .inl (cyI, 3001, .inl (pz_ar gg)))] H := hP
        have hD : va_D A [(h1, .inr (1, [.int th, .int (nI (pm_yr z)), .int (nI (pm_mo z)), .int (nI (pm_da z)), .int (nI mk), .ref bc, .ref bf, .ref bg, .int (nI wr)])), (bc, .inl (cyI, 366, .inl (pz_ar rc))), (bf, .inl (cyI, 3001, .inl (pz_ar ff))), (bg, .inl (cyI, 3001, .inl (pz_ar gg)))] := hD
        have hr_6 := hr
        refine lv_aload_n hx hb dX1_told_23 rfl (lv_at hl 1 rfl) ?_
        refine pz_VR (rest := []) ⟨hx, hb, hml, hown, hts⟩ (k_X1_anchorNow l D h1 bc bf bg cyI ts th mk wr rc ff gg z (by omega)) (cwV 0 hts gX1_told_X1_anchorNow rfl rfl rfl (by decide +kernel) ⟨Nat.le_of_ble_eq_true rfl, Nat.le_of_ble_eq_true rfl⟩) hK hP (hD.weaken (fun _ _ _ _ => trivial)) hS hA [0, 1, 2, 3] rfl rfl rfl 0 1 rfl rfl rfl hl.1 rfl (lv_room (Nat.le_of_ble_eq_true rfl)) dX1_told_24 ⟨Nat.le_of_ble_eq_true rfl, Nat.le_of_ble_eq_true rfl⟩ (fun r H locs hr hP hS => ?_)
        obtain rfl : r = (nI (pm_ap (pm_pl z))) := hr
        have hf_8 := pm_ap_b (pm_pl z)
        refine lv_iload_n hx hb dX1_told_27 rfl (lv_at hl 4 rfl) ?_
        refine pn_icmp_ne (tgt := 60) hx hb (by omega) (by omega) dX1_told_28 (by decide) (fun c_9 => ?_) (fun c_9 => ?_)
        · -- 28 yes
          refine lv_iinc (v := (nI (z + 1))) (lv' := [(6, .int (nI (z + 1))), (0, .ref h1), (1, .int (nI y)), (2, .int (nI mm)), (3, .int (nI a)), (4, .int (nI k)), (5, .int (nI bd))]) hx hb dX1_told_60 hl (k := 0) rfl (by exact nI_add _ 1) (by decide) rfl (fun ls hl => ?_)
          refine lv_goto (tgt := 6) hx hb dX1_told_63 (by decide) ?_
          exact ih6 (z + 1) (nI (pm_yr z)) (nI (pm_mo z)) (nI (pm_da z)) _ _ _ (by omega) (by omega) (by first | assumption | (rcases Nat.lt_or_ge z R0 with h9 | h9; (exact h9); (have h8 : z = R0 := by omega); subst h8; exfalso; unfold pm_td at hT1; omega)) hP hD hS (lv_sub hl [0, 1, 2, 3, 4, 5, 6] rfl)
        · -- 28 no
          refine lv_aload_n hx hb dX1_told_31 rfl (lv_at hl 1 rfl) ?_
          refine pz_VR (rest := []) ⟨hx, hb, hml, hown, hts⟩ (k_X1_anchorMonthNow l D h1 bc bf bg cyI ts th mk wr rc ff gg z (by omega)) (cwV 0 hts gX1_told_X1_anchorMonthNow rfl rfl rfl (by decide +kernel) ⟨Nat.le_of_ble_eq_true rfl, Nat.le_of_ble_eq_true rfl⟩) hK hP (hD.weaken (fun _ _ _ _ => trivial)) hS hA [0, 1, 2, 3] rfl rfl rfl 0 1 rfl rfl rfl hl.1 rfl (lv_room (Nat.le_of_ble_eq_true rfl)) dX1_told_32 ⟨Nat.le_of_ble_eq_true rfl, Nat.le_of_ble_eq_true rfl⟩ (fun r H locs hr hP hS => ?_)
          obtain rfl : r = (nI (pm_am (pm_pl z))) := hr
          have hf_11 := pm_am_b (pm_pl z)
          refine lv_iload_n hx hb dX1_told_35 rfl (lv_at hl 3 rfl) ?_
          refine pn_icmp_ne (tgt := 60) hx hb (by omega) (by omega) dX1_told_36 (by decide) (fun c_12 => ?_) (fun c_12 => ?_)
          · -- 36 yes
            refine lv_iinc (v := (nI (z + 1))) (lv' := [(6, .int (nI (z + 1))), (0, .ref h1), (1, .int (nI y)), (2, .int (nI mm)), (3, .int (nI a)), (4, .int (nI k)), (5, .int (nI bd))]) hx hb dX1_told_60 hl (k := 0) rfl (by exact nI_add _ 1) (by decide) rfl (fun ls hl => ?_)
            refine lv_goto (tgt := 6) hx hb dX1_told_63 (by decide) ?_
            exact ih6 (z + 1) (nI (pm_yr z)) (nI (pm_mo z)) (nI (pm_da z)) _ _ _ (by omega) (by omega) (by first | assumption | (rcases Nat.lt_or_ge z R0 with h9 | h9; (exact h9); (have h8 : z = R0 := by omega); subst h8; exfalso; unfold pm_td at hT1; omega)) hP hD hS (lv_sub hl [0, 1, 2, 3, 4, 5, 6] rfl)
          · -- 36 no
            refine lv_aload_n hx hb dX1_told_39 rfl (lv_at hl 1 rfl) ?_
            refine pz_VR (rest := []) ⟨hx, hb, hml, hown, hts⟩ (k_X1_countNow l D h1 bc bf bg cyI ts th mk wr rc ff gg z (by omega)) (cwV 0 hts gX1_told_X1_countNow rfl rfl rfl (by decide +kernel) ⟨Nat.le_of_ble_eq_true rfl, Nat.le_of_ble_eq_true rfl⟩) hK hP (hD.weaken (fun _ _ _ _ => trivial)) hS hA [0, 1, 2, 3] rfl rfl rfl 0 1 rfl rfl rfl hl.1 rfl (lv_room (Nat.le_of_ble_eq_true rfl)) dX1_told_40 ⟨Nat.le_of_ble_eq_true rfl, Nat.le_of_ble_eq_true rfl⟩ (fun r H locs hr hP hS => ?_)
            obtain rfl : r = (nI (pm_ct (pm_pl z))) := hr
            have hf_14 := pm_ct_b2 z
            refine lv_iload hx hb dX1_told_43 (lv_at hl 5 rfl) ?_
            refine pn_icmp_ne (tgt := 60) hx hb (by omega) (by omega) dX1_told_45 (by decide) (fun c_15 => ?_) (fun c_15 => ?_)
            · -- 45 yes
              refine lv_iinc (v := (nI (z + 1))) (lv' := [(6, .int (nI (z + 1))), (0, .ref h1), (1, .int (nI y)), (2, .int (nI mm)), (3, .int (nI a)), (4, .int (nI k)), (5, .int (nI bd))]) hx hb dX1_told_60 hl (k := 0) rfl (by exact nI_add _ 1) (by decide) rfl (fun ls hl => ?_)
              refine lv_goto (tgt := 6) hx hb dX1_told_63 (by decide) ?_
              exact ih6 (z + 1) (nI (pm_yr z)) (nI (pm_mo z)) (nI (pm_da z)) _ _ _ (by omega) (by omega) (by first | assumption | (rcases Nat.lt_or_ge z R0 with h9 | h9; (exact h9); (have h8 : z = R0 := by omega); subst h8; exfalso; unfold pm_td at hT1; omega)) hP hD hS (lv_sub hl [0, 1, 2, 3, 4, 5, 6] rfl)
            · -- 45 no
              refine lv_aload_n hx hb dX1_told_48 rfl (lv_at hl 1 rfl) ?_
              refine pz_VR (rest := []) ⟨hx, hb, hml, hown, hts⟩ (k_X1_isDoubledNow l D h1 bc bf bg cyI ts th mk wr rc ff gg z (by omega)) (cwV 0 hts gX1_told_X1_isDoubledNow rfl rfl rfl (by decide +kernel) ⟨Nat.le_of_ble_eq_true rfl, Nat.le_of_ble_eq_true rfl⟩) hK hP (hD.weaken (fun _ _ _ _ => trivial)) hS hA [0, 1, 2, 3] rfl rfl rfl 0 1 rfl rfl rfl hl.1 rfl (lv_room (Nat.le_of_ble_eq_true rfl)) dX1_told_49 ⟨Nat.le_of_ble_eq_true rfl, Nat.le_of_ble_eq_true rfl⟩ (fun r H locs hr hP hS => ?_)
              obtain rfl : r = (nI (pm_dl z)) := hr
              have hf_17 := pm_dl_b z
              refine lv_iload hx hb dX1_told_52 (lv_at hl 6 rfl) ?_
              refine pn_icmp_ne (tgt := 60) hx hb (by omega) (by omega) dX1_told_54 (by decide) (fun c_18 => ?_) (fun c_18 => ?_)
              · -- 54 yes
                refine lv_iinc (v := (nI (z + 1))) (lv' := [(6, .int (nI (z + 1))), (0, .ref h1), (1, .int (nI y)), (2, .int (nI mm)), (3, .int (nI a)), (4, .int (nI k)), (5, .int (nI bd))]) hx hb dX1_told_60 hl (k := 0) rfl (by exact nI_add _ 1) (by decide) rfl (fun ls hl => ?_)
                refine lv_goto (tgt := 6) hx hb dX1_told_63 (by decide) ?_
                exact ih6 (z + 1) (nI (pm_yr z)) (nI (pm_mo z)) (nI (pm_da z)) _ _ _ (by omega) (by omega) (by first | assumption | (rcases Nat.lt_or_ge z R0 with h9 | h9; (exact h9); (have h8 : z = R0 := by omega); subst h8; exfalso; unfold pm_td at hT1; omega)) hP hD hS (lv_sub hl [0, 1, 2, 3, 4, 5, 6] rfl)
              · -- 54 no
                refine lv_iload hx hb dX1_told_57 (lv_at hl 0 rfl) ?_
                exact hQ _ _ _ _ _ ((nI (pm_yr z)), (nI (pm_mo z)), (nI (pm_da z))) dX1_told_59 rfl (congrArg nI (by first | omega | (rcases Nat.lt_or_ge z R0 with h9 | h9; (exfalso; exact hz_0 h9 ⟨by omega, by omega, by omega, by omega⟩); omega))) hP hD hS
  exact LP6 _ (pm_fd y) yr mo da _ _ _ (Nat.lt_succ_self _) (by omega) (by first | assumption | (rcases Nat.lt_or_ge z R0 with h9 | h9; (exact h9); (have h8 : z = R0 := by omega); subst h8; exfalso; unfold pm_td at hT1; omega)) hP hD hS (lv_sub hl [0, 1, 2, 3, 4, 5, 6] rfl)
set_option maxHeartbeats 4000000 in
set_option maxRecDepth 100000 in
theorem k_X1_told_n (l : Launch) (D : va_G) (h1 bc bf bg : Nat) (cyI : ClassId) (ts : List (ClassId × FieldType)) (th yr mo da : Int32) (mk wr : Nat) (rc ff gg : Nat → Nat) (y mm a k bd : Nat) (hy0 : 1 ≤ y) (hy1 : y ≤ 3000) (hy2 : 1 ≤ mm) (hy3 : mm ≤ 12) (hy4 : a ≤ 2) (hy5 : k < 2147483648) (hy6 : bd ≤ 1) (hT2 : ∀ z, pm_fd y ≤ z → z < pm_fd (y + 1) → ¬ pm_td mm a k bd z) : pz_I l yX1_told wsX1_told ({ frames := 3, cells := 0, slots := 0, locals := 63 } : Room) D ((cyI, .int) :: ts) [.ref h1, .int (nI y), .int (nI mm), .int (nI a), .int (nI k), .int (nI bd)] [(h1, .inr (1, [.int th, .int yr, .int mo, .int da, .int (nI mk), .ref bc, .ref bf, .ref bg, .int (nI wr)])), (bc, .inl (cyI, 366, .inl (pz_ar rc))), (bf, .inl (cyI, 3001, .inl (pz_ar ff))), (bg, .inl (cyI, 3001, .inl (pz_ar gg)))] (S := Int32 × Int32 × Int32) (fun r _ => r = (-1 : Int32)) (fun u => [(h1, .inr (1, [.int th, .int u.1, .int u.2.1, .int u.2.2, .int (nI mk), .ref bc, .ref bf, .ref bg, .int (nI wr)])), (bc, .inl (cyI, 366, .inl (pz_ar rc))), (bf, .inl (cyI, 3001, .inl (pz_ar ff))), (bg, .inl (cyI, 3001, .inl (pz_ar gg)))]) := by
  refine pz_I_of (cc := cX1_told) (maxL := 7) (ty := .int) (own := RX1) (by decide) rfl rfl (Nat.le_of_ble_eq_true rfl) ?_
  intro p e s m below meth c A ls Q hx hb hml hown hts hK hP hD hS hA hl hQ
  have hl : lv_has ls 7 [(0, .ref h1), (1, .int (nI y)), (2, .int (nI mm)), (3, .int (nI a)), (4, .int (nI k)), (5, .int (nI bd))] := hl
  have hf1 := pm_fd_e y
  have hf2 := pm_fd_e (y + 1)
  refine lv_iload_n hx hb dX1_told_0 rfl (lv_at hl 1 rfl) ?_
  refine pz_SR (rest := []) ⟨hx, hb, hml, hown, hts⟩ (k_X1_begin l D ((cyI, .int) :: ts) y (by omega) (by omega)) (va_cwS 1 hts gX1_told_X1_begin rfl rfl rfl (by decide +kernel) ⟨Nat.le_of_ble_eq_true rfl, Nat.le_of_ble_eq_true rfl⟩) hK hP (hD.weaken (fun _ _ _ _ => trivial)) hS hA [] rfl rfl rfl rfl hl.1 rfl (lv_room (Nat.le_of_ble_eq_true rfl)) dX1_told_1 ⟨Nat.le_of_ble_eq_true rfl, Nat.le_of_ble_eq_true rfl⟩ (fun r H locs hr hP hS => ?_)
  obtain rfl : r = (nI (pm_fd y)) := hr
  have hf_2 := pm_fd_e y
  refine lv_istore (lv' := [(6, .int (nI (pm_fd y))), (0, .ref h1), (1, .int (nI y)), (2, .int (nI mm)), (3, .int (nI a)), (4, .int (nI k)), (5, .int (nI bd))]) hx hb dX1_told_4 hl (by decide) rfl (fun ls hl => ?_)
  have LP6 : ∀ (N : Nat) (z : Nat) (y2 : Int32) (m2 : Int32) (d2 : Int32) (H : Heap) (locs : List Loc) (ls : Array Slot), pm_fd (y + 1) - z < N → (pm_fd y ≤ z) → (z ≤ pm_fd (y + 1)) → va_P D vwCl [(h1, .inr (1, [.int th, .int y2, .int m2, .int d2, .int (nI mk), .ref bc, .ref bf, .ref bg, .int (nI wr)])), (bc, .inl (cyI, 366, .inl (pz_ar rc))), (bf, .inl (cyI, 3001, .inl (pz_ar ff))), (bg, .inl (cyI, 3001, .inl (pz_ar gg)))] H → va_D A [(h1, .inr (1, [.int th, .int y2, .int m2, .int d2, .int (nI mk), .ref bc, .ref bf, .ref bg, .int (nI wr)])), (bc, .inl (cyI, 366, .inl (pz_ar rc))), (bf, .inl (cyI, 3001, .inl (pz_ar ff))), (bg, .inl (cyI, 3001, .inl (pz_ar gg)))] → va_S A s.heap H locs → lv_has ls 7 [(6, .int (nI z)), (0, .ref h1), (1, .int (nI y)), (2, .int (nI mm)), (3, .int (nI a)), (4, .int (nI k)), (5, .int (nI bd))] → W p l e ({ frames := 3, cells := 0, slots := 0, locals := 63 } : Room) s m ([.ref h1, .int (nI y), .int (nI mm), .int (nI a), .int (nI k), .int (nI bd)] : List Value).toArray below meth c H locs 0 0 Q (F0 m 6 ls []) := by
    intro N
    induction N with
    | zero => intro z y2 m2 d2 H locs ls hN; exact absurd hN (Nat.not_lt_zero _)
    | succ N ih =>
      intro z y2 m2 d2 H locs ls hN hi6_0 hi6_1 hP hD hS hl
      have hz_0 : z < pm_fd (y + 1) → ¬ pm_td mm a k bd z := hT2 z hi6_0
      unfold pm_td at hz_0
      have ih6 := ih
      refine lv_iload hx hb dX1_told_6 (lv_at hl 0 rfl) ?_
      refine lv_iload_n hx hb dX1_told_8 rfl (lv_at hl 2 rfl) ?_
      refine lv_iconst (v := nI 1) hx hb dX1_told_9 (by decide) ?_
      refine pn_iadd hx hb dX1_told_10 ?_
      refine pz_SR (rest := [.int (nI z)]) ⟨hx, hb, hml, hown, hts⟩ (k_X1_begin l D ((cyI, .int) :: ts) (y + 1) (by omega) (by omega)) (va_cwS 1 hts gX1_told_X1_begin rfl rfl rfl (by decide +kernel) ⟨Nat.le_of_ble_eq_true rfl, Nat.le_of_ble_eq_true rfl⟩) hK hP (hD.weaken (fun _ _ _ _ => trivial)) hS hA [] rfl rfl rfl rfl hl.1 rfl (lv_room (Nat.le_of_ble_eq_true rfl)) dX1_told_11 ⟨Nat.le_of_ble_eq_true rfl, Nat.le_of_ble_eq_true rfl⟩ (fun r H locs hr hP hS => ?_)
      obtain rfl : r = (nI (pm_fd (y + 1))) := hr
      have hf_4 := pm_fd_e (y + 1)
      refine pn_icmp_ge (tgt := 66) hx hb (by omega) (by omega) dX1_told_14 (by decide) (fun c_5 => ?_) (fun c_5 => ?_)
      · -- 14 yes
        refine lv_iconst (v := (-1 : Int32)) hx hb dX1_told_66 (by decide) ?_
        exact hQ _ _ _ _ _ (y2, m2, d2) dX1_told_67 rfl (by rfl) hP hD hS
      · -- 14 no
        refine lv_aload_n hx hb dX1_told_17 rfl (lv_at hl 1 rfl) ?_
        refine lv_iload hx hb dX1_told_18 (lv_at hl 0 rfl) ?_
        refine pz_VV (rest := []) (wr := []) ⟨hx, hb, hml, hown, hts⟩ (k_X1_splits l D h1 bc bf bg cyI ts th y2 m2 d2 mk wr rc ff gg z (by omega)) (cwV 1 hts gX1_told_X1_splits rfl rfl rfl (by decide +kernel) ⟨Nat.le_of_ble_eq_true rfl, Nat.le_of_ble_eq_true rfl⟩) hK hP hD hS hA [0, 1, 2, 3] [] rfl rfl rfl rfl rfl (by decide) 0 1 rfl rfl rfl hl.1 rfl (lv_room (Nat.le_of_ble_eq_true rfl)) dX1_told_20 ⟨Nat.le_of_ble_eq_true rfl, Nat.le_of_ble_eq_true rfl⟩ (fun u H locs hr hP hD hS => ?_)
        have hP : va_P D vwCl [(h1, .inr (1, [.int th, .int (nI (pm_yr z)), .int (nI (pm_mo z)), .int (nI (pm_da z)), .int (nI mk), .ref bc, .ref bf, .ref bg, .int (nI wr)])), (bc, .inl (cyI, 366, .inl (pz_ar rc))), (bf, .inl (cyI, 3001, .inl (pz_ar ff))), (bg, .inl (cyI, 3001, .inl (pz_ar gg)))] H := hP
        have hD : va_D A [(h1, .inr (1, [.int th, .int (nI (pm_yr z)), .int (nI (pm_mo z)), .int (nI (pm_da z)), .int (nI mk), .ref bc, .ref bf, .ref bg, .int (nI wr)])), (bc, .inl (cyI, 366, .inl (pz_ar rc))), (bf, .inl (cyI, 3001, .inl (pz_ar ff))), (bg, .inl (cyI, 3001, .inl (pz_ar gg)))] := hD
        have hr_6 := hr
        refine lv_aload_n hx hb dX1_told_23 rfl (lv_at hl 1 rfl) ?_
        refine pz_VR (rest := []) ⟨hx, hb, hml, hown, hts⟩ (k_X1_anchorNow l D h1 bc bf bg cyI ts th mk wr rc ff gg z (by omega)) (cwV 0 hts gX1_told_X1_anchorNow rfl rfl rfl (by decide +kernel) ⟨Nat.le_of_ble_eq_true rfl, Nat.le_of_ble_eq_true rfl⟩) hK hP (hD.weaken (fun _ _ _ _ => trivial)) hS hA [0, 1, 2, 3] rfl rfl rfl 0 1 rfl rfl rfl hl.1 rfl (lv_room (Nat.le_of_ble_eq_true rfl)) dX1_told_24 ⟨Nat.le_of_ble_eq_true rfl, Nat.le_of_ble_eq_true rfl⟩ (fun r H locs hr hP hS => ?_)
        obtain rfl : r = (nI (pm_ap (pm_pl z))) := hr
        have hf_8 := pm_ap_b (pm_pl z)
        refine lv_iload_n hx hb dX1_told_27 rfl (lv_at hl 4 rfl) ?_
        refine pn_icmp_ne (tgt := 60) hx hb (by omega) (by omega) dX1_told_28 (by decide) (fun c_9 => ?_) (fun c_9 => ?_)
        · -- 28 yes
          refine lv_iinc (v := (nI (z + 1))) (lv' := [(6, .int (nI (z + 1))), (0, .ref h1), (1, .int (nI y)), (2, .int (nI mm)), (3, .int (nI a)), (4, .int (nI k)), (5, .int (nI bd))]) hx hb dX1_told_60 hl (k := 0) rfl (by exact nI_add _ 1) (by decide) rfl (fun ls hl => ?_)
          refine lv_goto (tgt := 6) hx hb dX1_told_63 (by decide) ?_
          exact ih6 (z + 1) (nI (pm_yr z)) (nI (pm_mo z)) (nI (pm_da z)) _ _ _ (by omega) (by omega) (by omega) hP hD hS (lv_sub hl [0, 1, 2, 3, 4, 5, 6] rfl)
        · -- 28 no
          refine lv_aload_n hx hb dX1_told_31 rfl (lv_at hl 1 rfl) ?_
          refine pz_VR (rest := []) ⟨hx, hb, hml, hown, hts⟩ (k_X1_anchorMonthNow l D h1 bc bf bg cyI ts th mk wr rc ff gg z (by omega)) (cwV 0 hts gX1_told_X1_anchorMonthNow rfl rfl rfl (by decide +kernel) ⟨Nat.le_of_ble_eq_true rfl, Nat.le_of_ble_eq_true rfl⟩) hK hP (hD.weaken (fun _ _ _ _ => trivial)) hS hA [0, 1, 2, 3] rfl rfl rfl 0 1 rfl rfl rfl hl.1 rfl (lv_room (Nat.le_of_ble_eq_true rfl)) dX1_told_32 ⟨Nat.le_of_ble_eq_true rfl, Nat.le_of_ble_eq_true rfl⟩ (fun r H locs hr hP hS => ?_)
          obtain rfl : r = (nI (pm_am (pm_pl z))) := hr
          have hf_11 := pm_am_b (pm_pl z)
          refine lv_iload_n hx hb dX1_told_35 rfl (lv_at hl 3 rfl) ?_
          refine pn_icmp_ne (tgt := 60) hx hb (by omega) (by omega) dX1_told_36 (by decide) (fun c_12 => ?_) (fun c_12 => ?_)
          · -- 36 yes
            refine lv_iinc (v := (nI (z + 1))) (lv' := [(6, .int (nI (z + 1))), (0, .ref h1), (1, .int (nI y)), (2, .int (nI mm)), (3, .int (nI a)), (4, .int (nI k)), (5, .int (nI bd))]) hx hb dX1_told_60 hl (k := 0) rfl (by exact nI_add _ 1) (by decide) rfl (fun ls hl => ?_)
            refine lv_goto (tgt := 6) hx hb dX1_told_63 (by decide) ?_
            exact ih6 (z + 1) (nI (pm_yr z)) (nI (pm_mo z)) (nI (pm_da z)) _ _ _ (by omega) (by omega) (by omega) hP hD hS (lv_sub hl [0, 1, 2, 3, 4, 5, 6] rfl)
          · -- 36 no
            refine lv_aload_n hx hb dX1_told_39 rfl (lv_at hl 1 rfl) ?_
            refine pz_VR (rest := []) ⟨hx, hb, hml, hown, hts⟩ (k_X1_countNow l D h1 bc bf bg cyI ts th mk wr rc ff gg z (by omega)) (cwV 0 hts gX1_told_X1_countNow rfl rfl rfl (by decide +kernel) ⟨Nat.le_of_ble_eq_true rfl, Nat.le_of_ble_eq_true rfl⟩) hK hP (hD.weaken (fun _ _ _ _ => trivial)) hS hA [0, 1, 2, 3] rfl rfl rfl 0 1 rfl rfl rfl hl.1 rfl (lv_room (Nat.le_of_ble_eq_true rfl)) dX1_told_40 ⟨Nat.le_of_ble_eq_true rfl, Nat.le_of_ble_eq_true rfl⟩ (fun r H locs hr hP hS => ?_)
            obtain rfl : r = (nI (pm_ct (pm_pl z))) := hr
            have hf_14 := pm_ct_b2 z
            refine lv_iload hx hb dX1_told_43 (lv_at hl 5 rfl) ?_
            refine pn_icmp_ne (tgt := 60) hx hb (by omega) (by omega) dX1_told_45 (by decide) (fun c_15 => ?_) (fun c_15 => ?_)
            · -- 45 yes
              refine lv_iinc (v := (nI (z + 1))) (lv' := [(6, .int (nI (z + 1))), (0, .ref h1), (1, .int (nI y)), (2, .int (nI mm)), (3, .int (nI a)), (4, .int (nI k)), (5, .int (nI bd))]) hx hb dX1_told_60 hl (k := 0) rfl (by exact nI_add _ 1) (by decide) rfl (fun ls hl => ?_)
              refine lv_goto (tgt := 6) hx hb dX1_told_63 (by decide) ?_
              exact ih6 (z + 1) (nI (pm_yr z)) (nI (pm_mo z)) (nI (pm_da z)) _ _ _ (by omega) (by omega) (by omega) hP hD hS (lv_sub hl [0, 1, 2, 3, 4, 5, 6] rfl)
            · -- 45 no
              refine lv_aload_n hx hb dX1_told_48 rfl (lv_at hl 1 rfl) ?_
              refine pz_VR (rest := []) ⟨hx, hb, hml, hown, hts⟩ (k_X1_isDoubledNow l D h1 bc bf bg cyI ts th mk wr rc ff gg z (by omega)) (cwV 0 hts gX1_told_X1_isDoubledNow rfl rfl rfl (by decide +kernel) ⟨Nat.le_of_ble_eq_true rfl, Nat.le_of_ble_eq_true rfl⟩) hK hP (hD.weaken (fun _ _ _ _ => trivial)) hS hA [0, 1, 2, 3] rfl rfl rfl 0 1 rfl rfl rfl hl.1 rfl (lv_room (Nat.le_of_ble_eq_true rfl)) dX1_told_49 ⟨Nat.le_of_ble_eq_true rfl, Nat.le_of_ble_eq_true rfl⟩ (fun r H locs hr hP hS => ?_)
              obtain rfl : r = (nI (pm_dl z)) := hr
              have hf_17 := pm_dl_b z
              refine lv_iload hx hb dX1_told_52 (lv_at hl 6 rfl) ?_
              refine pn_icmp_ne (tgt := 60) hx hb (by omega) (by omega) dX1_told_54 (by decide) (fun c_18 => ?_) (fun c_18 => ?_)
              · -- 54 yes
                refine lv_iinc (v := (nI (z + 1))) (lv' := [(6, .int (nI (z + 1))), (0, .ref h1), (1, .int (nI y)), (2, .int (nI mm)), (3, .int (nI a)), (4, .int (nI k)), (5, .int (nI bd))]) hx hb dX1_told_60 hl (k := 0) rfl (by exact nI_add _ 1) (by decide) rfl (fun ls hl => ?_)
                refine lv_goto (tgt := 6) hx hb dX1_told_63 (by decide) ?_
                exact ih6 (z + 1) (nI (pm_yr z)) (nI (pm_mo z)) (nI (pm_da z)) _ _ _ (by omega) (by omega) (by omega) hP hD hS (lv_sub hl [0, 1, 2, 3, 4, 5, 6] rfl)
              · -- 54 no
                exfalso; exact hz_0 (by omega) ⟨by omega, by omega, by omega, by omega⟩
  exact LP6 _ (pm_fd y) yr mo da _ _ _ (Nat.lt_succ_self _) (by omega) (by omega) hP hD hS (lv_sub hl [0, 1, 2, 3, 4, 5, 6] rfl)
set_option maxHeartbeats 4000000 in
set_option maxRecDepth 100000 in
theorem k_X1_fromCount_a (l : Launch) (D : va_G) (h1 bc bf bg : Nat) (cyI : ClassId) (ts : List (ClassId × FieldType)) (th yr mo da : Int32) (mk wr : Nat) (rc ff gg : Nat → Nat) (y mm a k bd R0 : Nat) (hy0 : 1 ≤ y) (hy1 : y ≤ 3000) (hy2 : 1 ≤ mm) (hy3 : mm ≤ 12) (hy4 : a ≤ 2) (hy5 : 1 ≤ k) (hy6 : k < 2147483648) (hy7 : bd ≤ 1) (hy8 : pm_fd y ≤ R0) (hy9 : R0 < pm_fd (y + 1)) (hT1 : pm_td mm a k bd R0) (hT2 : ∀ z, pm_fd y ≤ z → z < R0 → ¬ pm_td mm a k bd z) : pz_I l yX1_fromCount wsX1_fromCount ({ frames := 4, cells := 0, slots := 0, locals := 89 } : Room) D ((cyI, .int) :: ts) [.ref h1, .int (nI y), .int (nI mm), .int (nI a), .int (nI k), .int (nI bd)] [(h1, .inr (1, [.int th, .int yr, .int mo, .int da, .int (nI mk), .ref bc, .ref bf, .ref bg, .int (nI wr)])), (bc, .inl (cyI, 366, .inl (pz_ar rc))), (bf, .inl (cyI, 3001, .inl (pz_ar ff))), (bg, .inl (cyI, 3001, .inl (pz_ar gg)))] (S := Int32 × Int32 × Int32) (fun r _ => r = nI R0) (fun u => [(h1, .inr (1, [.int (nI 0), .int u.1, .int u.2.1, .int u.2.2, .int (nI mk), .ref bc, .ref bf, .ref bg, .int (nI wr)])), (bc, .inl (cyI, 366, .inl (pz_ar rc))), (bf, .inl (cyI, 3001, .inl (pz_ar ff))), (bg, .inl (cyI, 3001, .inl (pz_ar gg)))]) := by
  refine pz_I_of (cc := cX1_fromCount) (maxL := 9) (ty := .int) (own := RX1) (by decide) rfl rfl (Nat.le_of_ble_eq_true rfl) ?_
  intro p e s m below meth c A ls Q hx hb hml hown hts hK hP hD hS hA hl hQ
  have hl : lv_has ls 9 [(0, .ref h1), (1, .int (nI y)), (2, .int (nI mm)), (3, .int (nI a)), (4, .int (nI k)), (5, .int (nI bd))] := hl
  have hf2 := pm_fd_e (y + 1)
  refine lv_iload_n hx hb dX1_fromCount_0 rfl (lv_at hl 1 rfl) ?_
  refine pz_SR (rest := []) ⟨hx, hb, hml, hown, hts⟩ (k_X1_isYear_a l D ((cyI, .int) :: ts) y (by omega) (by omega)) (va_cwS 1 hts gX1_fromCount_X1_isYear rfl rfl rfl (by decide +kernel) ⟨Nat.le_of_ble_eq_true rfl, Nat.le_of_ble_eq_true rfl⟩) hK hP (hD.weaken (fun _ _ _ _ => trivial)) hS hA [] rfl rfl rfl rfl hl.1 rfl (lv_room (Nat.le_of_ble_eq_true rfl)) dX1_fromCount_1 ⟨Nat.le_of_ble_eq_true rfl, Nat.le_of_ble_eq_true rfl⟩ (fun r H locs hr hP hS => ?_)
  obtain rfl : r = (nI 1) := hr
  refine pn_if_eq (tgt := 21) hx hb (by omega) dX1_fromCount_4 (by decide) (fun c_2 => absurd c_2 (by decide)) (fun _ => ?_)
  refine lv_iload_n hx hb dX1_fromCount_7 rfl (lv_at hl 2 rfl) ?_
  refine lv_iconst (v := nI 1) hx hb dX1_fromCount_8 (by decide) ?_
  refine lv_bipush (v := nI 12) hx hb dX1_fromCount_9 (by decide) ?_
  refine pz_SR (rest := []) ⟨hx, hb, hml, hown, hts⟩ (k_X1_isIn_a l D ((cyI, .int) :: ts) mm 1 12 (by omega) (by omega) (by omega)) (va_cwS 3 hts gX1_fromCount_X1_isIn rfl rfl rfl (by decide +kernel) ⟨Nat.le_of_ble_eq_true rfl, Nat.le_of_ble_eq_true rfl⟩) hK hP (hD.weaken (fun _ _ _ _ => trivial)) hS hA [] rfl rfl rfl rfl hl.1 rfl (lv_room (Nat.le_of_ble_eq_true rfl)) dX1_fromCount_11 ⟨Nat.le_of_ble_eq_true rfl, Nat.le_of_ble_eq_true rfl⟩ (fun r H locs hr hP hS => ?_)
  obtain rfl : r = (nI 1) := hr
  refine pn_if_eq (tgt := 21) hx hb (by omega) dX1_fromCount_14 (by decide) (fun c_4 => absurd c_4 (by decide)) (fun _ => ?_)
  refine lv_iconst (v := nI 1) hx hb dX1_fromCount_17 (by decide) ?_
  refine lv_goto (tgt := 22) hx hb dX1_fromCount_18 (by decide) ?_
  refine lv_istore (lv' := [(6, .int (nI 1)), (0, .ref h1), (1, .int (nI y)), (2, .int (nI mm)), (3, .int (nI a)), (4, .int (nI k)), (5, .int (nI bd))]) hx hb dX1_fromCount_22 hl (by decide) rfl (fun ls hl => ?_)
  refine lv_iload_n hx hb dX1_fromCount_24 rfl (lv_at hl 4 rfl) ?_
  refine lv_iconst (v := nI 0) hx hb dX1_fromCount_25 (by decide) ?_
  refine lv_iconst (v := nI 2) hx hb dX1_fromCount_26 (by decide) ?_
  refine pz_SR (rest := []) ⟨hx, hb, hml, hown, hts⟩ (k_X1_isIn_a l D ((cyI, .int) :: ts) a 0 2 (by omega) (by omega) (by omega)) (va_cwS 3 hts gX1_fromCount_X1_isIn rfl rfl rfl (by decide +kernel) ⟨Nat.le_of_ble_eq_true rfl, Nat.le_of_ble_eq_true rfl⟩) hK hP (hD.weaken (fun _ _ _ _ => trivial)) hS hA [] rfl rfl rfl rfl hl.1 rfl (lv_room (Nat.le_of_ble_eq_true rfl)) dX1_fromCount_27 ⟨Nat.le_of_ble_eq_true rfl, Nat.le_of_ble_eq_true rfl⟩ (fun r H locs hr hP hS => ?_)
  obtain rfl : r = (nI 1) := hr
  refine pn_if_eq (tgt := 43) hx hb (by omega) dX1_fromCount_30 (by decide) (fun c_6 => absurd c_6 (by decide)) (fun _ => ?_)
  refine lv_iload hx hb dX1_fromCount_33 (lv_at hl 5 rfl) ?_
  refine lv_iconst (v := nI 1) hx hb dX1_fromCount_35 (by decide) ?_
  refine pn_icmp_lt (tgt := 43) hx hb (by omega) (by omega) dX1_fromCount_36 (by decide) (fun c_7 => ?_) (fun c_7 => ?_)
  · -- 36 yes
    exfalso; omega
  · -- 36 no
    refine lv_iconst (v := nI 1) hx hb dX1_fromCount_39 (by decide) ?_
    refine lv_goto (tgt := 44) hx hb dX1_fromCount_40 (by decide) ?_
    refine lv_istore (lv' := [(7, .int (nI 1)), (6, .int (nI 1)), (0, .ref h1), (1, .int (nI y)), (2, .int (nI mm)), (3, .int (nI a)), (4, .int (nI k)), (5, .int (nI bd))]) hx hb dX1_fromCount_44 hl (by decide) rfl (fun ls hl => ?_)
    refine lv_iload hx hb dX1_fromCount_46 (lv_at hl 1 rfl) ?_
    refine pn_if_eq (tgt := 70) hx hb (by omega) dX1_fromCount_48 (by decide) (fun c_8 => absurd c_8 (by decide)) (fun _ => ?_)
    refine lv_iload hx hb dX1_fromCount_51 (lv_at hl 0 rfl) ?_
    refine pn_if_eq (tgt := 70) hx hb (by omega) dX1_fromCount_53 (by decide) (fun c_9 => absurd c_9 (by decide)) (fun _ => ?_)
    refine lv_aload_n hx hb dX1_fromCount_56 rfl (lv_at hl 2 rfl) ?_
    refine lv_iload_n hx hb dX1_fromCount_57 rfl (lv_at hl 3 rfl) ?_
    refine lv_iload_n hx hb dX1_fromCount_58 rfl (lv_at hl 4 rfl) ?_
    refine lv_iload_n hx hb dX1_fromCount_59 rfl (lv_at hl 5 rfl) ?_
    refine lv_iload hx hb dX1_fromCount_60 (lv_at hl 6 rfl) ?_
    refine lv_iload hx hb dX1_fromCount_62 (lv_at hl 7 rfl) ?_
    refine pz_VI (rest := []) (wr := []) ⟨hx, hb, hml, hown, hts⟩ (k_X1_told_a l D h1 bc bf bg cyI ts th yr mo da mk wr rc ff gg y mm a k bd R0 (by omega) (by omega) (by omega) (by omega) (by omega) (by omega) (by omega) (by omega) (by omega) (by exact hT1) (by exact hT2)) (cwV 5 hts gX1_fromCount_X1_told rfl rfl rfl (by decide +kernel) ⟨Nat.le_of_ble_eq_true rfl, Nat.le_of_ble_eq_true rfl⟩) hK hP hD hS hA [0, 1, 2, 3] [] rfl rfl rfl rfl rfl (by decide) 0 1 rfl rfl rfl hl.1 rfl (lv_room (Nat.le_of_ble_eq_true rfl)) dX1_fromCount_64 ⟨Nat.le_of_ble_eq_true rfl, Nat.le_of_ble_eq_true rfl⟩ (fun r u H locs hr hP hD hS => ?_)
    obtain ⟨yv_10, mv_10, dv_10⟩ := u
    have hP : va_P D vwCl [(h1, .inr (1, [.int th, .int yv_10, .int mv_10, .int dv_10, .int (nI mk), .ref bc, .ref bf, .ref bg, .int (nI wr)])), (bc, .inl (cyI, 366, .inl (pz_ar rc))), (bf, .inl (cyI, 3001, .inl (pz_ar ff))), (bg, .inl (cyI, 3001, .inl (pz_ar gg)))] H := hP
    have hD : va_D A [(h1, .inr (1, [.int th, .int yv_10, .int mv_10, .int dv_10, .int (nI mk), .ref bc, .ref bf, .ref bg, .int (nI wr)])), (bc, .inl (cyI, 366, .inl (pz_ar rc))), (bf, .inl (cyI, 3001, .inl (pz_ar ff))), (bg, .inl (cyI, 3001, .inl (pz_ar gg)))] := hD
    obtain rfl : r = (nI R0) := hr
    refine lv_goto (tgt := 71) hx hb dX1_fromCount_67 (by decide) ?_
    refine lv_istore (lv' := [(8, .int (nI R0)), (7, .int (nI 1)), (6, .int (nI 1)), (0, .ref h1), (1, .int (nI y)), (2, .int (nI mm)), (3, .int (nI a)), (4, .int (nI k)), (5, .int (nI bd))]) hx hb dX1_fromCount_71 hl (by decide) rfl (fun ls hl => ?_)
    refine lv_aload_n hx hb dX1_fromCount_73 rfl (lv_at hl 3 rfl) ?_
    refine lv_iload hx hb dX1_fromCount_74 (lv_at hl 2 rfl) ?_
    refine pn_if_ne (tgt := 83) hx hb (by omega) dX1_fromCount_76 (by decide) (fun _ => ?_) (fun c_11 => absurd c_11 (by decide))
    refine lv_iload hx hb dX1_fromCount_83 (lv_at hl 1 rfl) ?_
    refine pn_if_ne (tgt := 92) hx hb (by omega) dX1_fromCount_85 (by decide) (fun _ => ?_) (fun c_12 => absurd c_12 (by decide))
    refine lv_iload hx hb dX1_fromCount_92 (lv_at hl 0 rfl) ?_
    refine lv_iconst (v := (-1 : Int32)) hx hb dX1_fromCount_94 (by decide) ?_
    refine pi_icmp_ne (tgt := 102) (a := ((R0 : Nat) : Int)) (b := (-1)) hx hb (nI_toInt (by omega)) (by decide) dX1_fromCount_95 (by decide) (fun c_13 => ?_) (fun c_13 => ?_)
    · -- 95 yes
      refine lv_iconst (v := nI 0) hx hb dX1_fromCount_102 (by decide) ?_
      refine pz_VI (rest := []) (wr := []) ⟨hx, hb, hml, hown, hts⟩ (k_X1_isFine_0 l D h1 bc bf bg cyI ts th yv_10 mv_10 dv_10 mk wr rc ff gg  ) (cwV 1 hts gX1_fromCount_X1_isFine rfl rfl rfl (by decide +kernel) ⟨Nat.le_of_ble_eq_true rfl, Nat.le_of_ble_eq_true rfl⟩) hK hP hD hS hA [0, 1, 2, 3] [] rfl rfl rfl rfl rfl (by decide) 0 1 rfl rfl rfl hl.1 rfl (lv_room (Nat.le_of_ble_eq_true rfl)) dX1_fromCount_103 ⟨Nat.le_of_ble_eq_true rfl, Nat.le_of_ble_eq_true rfl⟩ (fun r u H locs hr hP hD hS => ?_)
      have hP : va_P D vwCl [(h1, .inr (1, [.int (nI 0), .int yv_10, .int mv_10, .int dv_10, .int (nI mk), .ref bc, .ref bf, .ref bg, .int (nI wr)])), (bc, .inl (cyI, 366, .inl (pz_ar rc))), (bf, .inl (cyI, 3001, .inl (pz_ar ff))), (bg, .inl (cyI, 3001, .inl (pz_ar gg)))] H := hP
      have hD : va_D A [(h1, .inr (1, [.int (nI 0), .int yv_10, .int mv_10, .int dv_10, .int (nI mk), .ref bc, .ref bf, .ref bg, .int (nI wr)])), (bc, .inl (cyI, 366, .inl (pz_ar rc))), (bf, .inl (cyI, 3001, .inl (pz_ar ff))), (bg, .inl (cyI, 3001, .inl (pz_ar gg)))] := hD
      obtain rfl : r = (nI 1) := hr
      refine pn_if_eq (tgt := 114) hx hb (by omega) dX1_fromCount_106 (by decide) (fun c_15 => absurd c_15 (by decide)) (fun _ => ?_)
      refine lv_iload hx hb dX1_fromCount_109 (lv_at hl 0 rfl) ?_
      refine lv_goto (tgt := 115) hx hb dX1_fromCount_111 (by decide) ?_
      exact hQ _ _ _ _ _ (yv_10, mv_10, dv_10) dX1_fromCount_115 rfl (congrArg nI (by rfl)) hP hD hS
    · -- 95 no
      exfalso; omega
set_option maxHeartbeats 4000000 in
set_option maxRecDepth 100000 in
theorem k_X1_fromCount_x3 (l : Launch) (D : va_G) (h1 bc bf bg : Nat) (cyI : ClassId) (ts : List (ClassId × FieldType)) (th yr mo da : Int32) (mk wr : Nat) (rc ff gg : Nat → Nat) (y mm a k bd : Nat) (hy0 : 1 ≤ y) (hy1 : y ≤ 3000) (hy2 : 1 ≤ mm) (hy3 : mm ≤ 12) (hy4 : a ≤ 2) (hy5 : 1 ≤ k) (hy6 : k < 2147483648) (hy7 : bd ≤ 1) (hT2 : ∀ z, pm_fd y ≤ z → z < pm_fd (y + 1) → ¬ pm_td mm a k bd z) : pz_I l yX1_fromCount wsX1_fromCount ({ frames := 4, cells := 0, slots := 0, locals := 89 } : Room) D ((cyI, .int) :: ts) [.ref h1, .int (nI y), .int (nI mm), .int (nI a), .int (nI k), .int (nI bd)] [(h1, .inr (1, [.int th, .int yr, .int mo, .int da, .int (nI mk), .ref bc, .ref bf, .ref bg, .int (nI wr)])), (bc, .inl (cyI, 366, .inl (pz_ar rc))), (bf, .inl (cyI, 3001, .inl (pz_ar ff))), (bg, .inl (cyI, 3001, .inl (pz_ar gg)))] (S := Int32 × Int32 × Int32) (fun r _ => r = nI 0) (fun u => [(h1, .inr (1, [.int (nI 3), .int u.1, .int u.2.1, .int u.2.2, .int (nI mk), .ref bc, .ref bf, .ref bg, .int (nI wr)])), (bc, .inl (cyI, 366, .inl (pz_ar rc))), (bf, .inl (cyI, 3001, .inl (pz_ar ff))), (bg, .inl (cyI, 3001, .inl (pz_ar gg)))]) := by
  refine pz_I_of (cc := cX1_fromCount) (maxL := 9) (ty := .int) (own := RX1) (by decide) rfl rfl (Nat.le_of_ble_eq_true rfl) ?_
  intro p e s m below meth c A ls Q hx hb hml hown hts hK hP hD hS hA hl hQ
  have hl : lv_has ls 9 [(0, .ref h1), (1, .int (nI y)), (2, .int (nI mm)), (3, .int (nI a)), (4, .int (nI k)), (5, .int (nI bd))] := hl
  refine lv_iload_n hx hb dX1_fromCount_0 rfl (lv_at hl 1 rfl) ?_
  refine pz_SR (rest := []) ⟨hx, hb, hml, hown, hts⟩ (k_X1_isYear_a l D ((cyI, .int) :: ts) y (by omega) (by omega)) (va_cwS 1 hts gX1_fromCount_X1_isYear rfl rfl rfl (by decide +kernel) ⟨Nat.le_of_ble_eq_true rfl, Nat.le_of_ble_eq_true rfl⟩) hK hP (hD.weaken (fun _ _ _ _ => trivial)) hS hA [] rfl rfl rfl rfl hl.1 rfl (lv_room (Nat.le_of_ble_eq_true rfl)) dX1_fromCount_1 ⟨Nat.le_of_ble_eq_true rfl, Nat.le_of_ble_eq_true rfl⟩ (fun r H locs hr hP hS => ?_)
  obtain rfl : r = (nI 1) := hr
  refine pn_if_eq (tgt := 21) hx hb (by omega) dX1_fromCount_4 (by decide) (fun c_2 => absurd c_2 (by decide)) (fun _ => ?_)
  refine lv_iload_n hx hb dX1_fromCount_7 rfl (lv_at hl 2 rfl) ?_
  refine lv_iconst (v := nI 1) hx hb dX1_fromCount_8 (by decide) ?_
  refine lv_bipush (v := nI 12) hx hb dX1_fromCount_9 (by decide) ?_
  refine pz_SR (rest := []) ⟨hx, hb, hml, hown, hts⟩ (k_X1_isIn_a l D ((cyI, .int) :: ts) mm 1 12 (by omega) (by omega) (by omega)) (va_cwS 3 hts gX1_fromCount_X1_isIn rfl rfl rfl (by decide +kernel) ⟨Nat.le_of_ble_eq_true rfl, Nat.le_of_ble_eq_true rfl⟩) hK hP (hD.weaken (fun _ _ _ _ => trivial)) hS hA [] rfl rfl rfl rfl hl.1 rfl (lv_room (Nat.le_of_ble_eq_true rfl)) dX1_fromCount_11 ⟨Nat.le_of_ble_eq_true rfl, Nat.le_of_ble_eq_true rfl⟩ (fun r H locs hr hP hS => ?_)
  obtain rfl : r = (nI 1) := hr
  refine pn_if_eq (tgt := 21) hx hb (by omega) dX1_fromCount_14 (by decide) (fun c_4 => absurd c_4 (by decide)) (fun _ => ?_)
  refine lv_iconst (v := nI 1) hx hb dX1_fromCount_17 (by decide) ?_
  refine lv_goto (tgt := 22) hx hb dX1_fromCount_18 (by decide) ?_
  refine lv_istore (lv' := [(6, .int (nI 1)), (0, .ref h1), (1, .int (nI y)), (2, .int (nI mm)), (3, .int (nI a)), (4, .int (nI k)), (5, .int (nI bd))]) hx hb dX1_fromCount_22 hl (by decide) rfl (fun ls hl => ?_)
  refine lv_iload_n hx hb dX1_fromCount_24 rfl (lv_at hl 4 rfl) ?_
  refine lv_iconst (v := nI 0) hx hb dX1_fromCount_25 (by decide) ?_
  refine lv_iconst (v := nI 2) hx hb dX1_fromCount_26 (by decide) ?_
  refine pz_SR (rest := []) ⟨hx, hb, hml, hown, hts⟩ (k_X1_isIn_a l D ((cyI, .int) :: ts) a 0 2 (by omega) (by omega) (by omega)) (va_cwS 3 hts gX1_fromCount_X1_isIn rfl rfl rfl (by decide +kernel) ⟨Nat.le_of_ble_eq_true rfl, Nat.le_of_ble_eq_true rfl⟩) hK hP (hD.weaken (fun _ _ _ _ => trivial)) hS hA [] rfl rfl rfl rfl hl.1 rfl (lv_room (Nat.le_of_ble_eq_true rfl)) dX1_fromCount_27 ⟨Nat.le_of_ble_eq_true rfl, Nat.le_of_ble_eq_true rfl⟩ (fun r H locs hr hP hS => ?_)
  obtain rfl : r = (nI 1) := hr
  refine pn_if_eq (tgt := 43) hx hb (by omega) dX1_fromCount_30 (by decide) (fun c_6 => absurd c_6 (by decide)) (fun _ => ?_)
  refine lv_iload hx hb dX1_fromCount_33 (lv_at hl 5 rfl) ?_
  refine lv_iconst (v := nI 1) hx hb dX1_fromCount_35 (by decide) ?_
  refine pn_icmp_lt (tgt := 43) hx hb (by omega) (by omega) dX1_fromCount_36 (by decide) (fun c_7 => ?_) (fun c_7 => ?_)
  · -- 36 yes
    exfalso; omega
  · -- 36 no
    refine lv_iconst (v := nI 1) hx hb dX1_fromCount_39 (by decide) ?_
    refine lv_goto (tgt := 44) hx hb dX1_fromCount_40 (by decide) ?_
    refine lv_istore (lv' := [(7, .int (nI 1)), (6, .int (nI 1)), (0, .ref h1), (1, .int (nI y)), (2, .int (nI mm)), (3, .int (nI a)), (4, .int (nI k)), (5, .int (nI bd))]) hx hb dX1_fromCount_44 hl (by decide) rfl (fun ls hl => ?_)
    refine lv_iload hx hb dX1_fromCount_46 (lv_at hl 1 rfl) ?_
    refine pn_if_eq (tgt := 70) hx hb (by omega) dX1_fromCount_48 (by decide) (fun c_8 => absurd c_8 (by decide)) (fun _ => ?_)
    refine lv_iload hx hb dX1_fromCount_51 (lv_at hl 0 rfl) ?_
    refine pn_if_eq (tgt := 70) hx hb (by omega) dX1_fromCount_53 (by decide) (fun c_9 => absurd c_9 (by decide)) (fun _ => ?_)
    refine lv_aload_n hx hb dX1_fromCount_56 rfl (lv_at hl 2 rfl) ?_
    refine lv_iload_n hx hb dX1_fromCount_57 rfl (lv_at hl 3 rfl) ?_
    refine lv_iload_n hx hb dX1_fromCount_58 rfl (lv_at hl 4 rfl) ?_
    refine lv_iload_n hx hb dX1_fromCount_59 rfl (lv_at hl 5 rfl) ?_
    refine lv_iload hx hb dX1_fromCount_60 (lv_at hl 6 rfl) ?_
    refine lv_iload hx hb dX1_fromCount_62 (lv_at hl 7 rfl) ?_
    refine pz_VI (rest := []) (wr := []) ⟨hx, hb, hml, hown, hts⟩ (k_X1_told_n l D h1 bc bf bg cyI ts th yr mo da mk wr rc ff gg y mm a k bd (by omega) (by omega) (by omega) (by omega) (by omega) (by omega) (by omega) (by exact hT2)) (cwV 5 hts gX1_fromCount_X1_told rfl rfl rfl (by decide +kernel) ⟨Nat.le_of_ble_eq_true rfl, Nat.le_of_ble_eq_true rfl⟩) hK hP hD hS hA [0, 1, 2, 3] [] rfl rfl rfl rfl rfl (by decide) 0 1 rfl rfl rfl hl.1 rfl (lv_room (Nat.le_of_ble_eq_true rfl)) dX1_fromCount_64 ⟨Nat.le_of_ble_eq_true rfl, Nat.le_of_ble_eq_true rfl⟩ (fun r u H locs hr hP hD hS => ?_)
    obtain ⟨yv_10, mv_10, dv_10⟩ := u
    have hP : va_P D vwCl [(h1, .inr (1, [.int th, .int yv_10, .int mv_10, .int dv_10, .int (nI mk), .ref bc, .ref bf, .ref bg, .int (nI wr)])), (bc, .inl (cyI, 366, .inl (pz_ar rc))), (bf, .inl (cyI, 3001, .inl (pz_ar ff))), (bg, .inl (cyI, 3001, .inl (pz_ar gg)))] H := hP
    have hD : va_D A [(h1, .inr (1, [.int th, .int yv_10, .int mv_10, .int dv_10, .int (nI mk), .ref bc, .ref bf, .ref bg, .int (nI wr)])), (bc, .inl (cyI, 366, .inl (pz_ar rc))), (bf, .inl (cyI, 3001, .inl (pz_ar ff))), (bg, .inl (cyI, 3001, .inl (pz_ar gg)))] := hD
    obtain rfl : r = (-1 : Int32) := hr
    refine lv_goto (tgt := 71) hx hb dX1_fromCount_67 (by decide) ?_
    refine lv_istore (lv' := [(8, .int (-1 : Int32)), (7, .int (nI 1)), (6, .int (nI 1)), (0, .ref h1), (1, .int (nI y)), (2, .int (nI mm)), (3, .int (nI a)), (4, .int (nI k)), (5, .int (nI bd))]) hx hb dX1_fromCount_71 hl (by decide) rfl (fun ls hl => ?_)
    refine lv_aload_n hx hb dX1_fromCount_73 rfl (lv_at hl 3 rfl) ?_
    refine lv_iload hx hb dX1_fromCount_74 (lv_at hl 2 rfl) ?_
    refine pn_if_ne (tgt := 83) hx hb (by omega) dX1_fromCount_76 (by decide) (fun _ => ?_) (fun c_11 => absurd c_11 (by decide))
    refine lv_iload hx hb dX1_fromCount_83 (lv_at hl 1 rfl) ?_
    refine pn_if_ne (tgt := 92) hx hb (by omega) dX1_fromCount_85 (by decide) (fun _ => ?_) (fun c_12 => absurd c_12 (by decide))
    refine lv_iload hx hb dX1_fromCount_92 (lv_at hl 0 rfl) ?_
    refine lv_iconst (v := (-1 : Int32)) hx hb dX1_fromCount_94 (by decide) ?_
    refine pi_icmp_ne (tgt := 102) (a := (-1)) (b := (-1)) hx hb (by decide) (by decide) dX1_fromCount_95 (by decide) (fun c_13 => ?_) (fun c_13 => ?_)
    · -- 95 yes
      exfalso; omega
    · -- 95 no
      refine lv_iconst (v := nI 3) hx hb dX1_fromCount_98 (by decide) ?_
      refine lv_goto (tgt := 103) hx hb dX1_fromCount_99 (by decide) ?_
      refine pz_VI (rest := []) (wr := []) ⟨hx, hb, hml, hown, hts⟩ (k_X1_isFine_k l D h1 bc bf bg cyI ts th yv_10 mv_10 dv_10 mk wr rc ff gg 3 (by omega) (by omega)) (cwV 1 hts gX1_fromCount_X1_isFine rfl rfl rfl (by decide +kernel) ⟨Nat.le_of_ble_eq_true rfl, Nat.le_of_ble_eq_true rfl⟩) hK hP hD hS hA [0, 1, 2, 3] [] rfl rfl rfl rfl rfl (by decide) 0 1 rfl rfl rfl hl.1 rfl (lv_room (Nat.le_of_ble_eq_true rfl)) dX1_fromCount_103 ⟨Nat.le_of_ble_eq_true rfl, Nat.le_of_ble_eq_true rfl⟩ (fun r u H locs hr hP hD hS => ?_)
      have hP : va_P D vwCl [(h1, .inr (1, [.int (nI 3), .int yv_10, .int mv_10, .int dv_10, .int (nI mk), .ref bc, .ref bf, .ref bg, .int (nI wr)])), (bc, .inl (cyI, 366, .inl (pz_ar rc))), (bf, .inl (cyI, 3001, .inl (pz_ar ff))), (bg, .inl (cyI, 3001, .inl (pz_ar gg)))] H := hP
      have hD : va_D A [(h1, .inr (1, [.int (nI 3), .int yv_10, .int mv_10, .int dv_10, .int (nI mk), .ref bc, .ref bf, .ref bg, .int (nI wr)])), (bc, .inl (cyI, 366, .inl (pz_ar rc))), (bf, .inl (cyI, 3001, .inl (pz_ar ff))), (bg, .inl (cyI, 3001, .inl (pz_ar gg)))] := hD
      obtain rfl : r = (nI 0) := hr
      refine pn_if_eq (tgt := 114) hx hb (by omega) dX1_fromCount_106 (by decide) (fun _ => ?_) (fun c_15 => absurd c_15 (by decide))
      refine lv_iconst (v := nI 0) hx hb dX1_fromCount_114 (by decide) ?_
      exact hQ _ _ _ _ _ (yv_10, mv_10, dv_10) dX1_fromCount_115 rfl (congrArg nI (by rfl)) hP hD hS
set_option maxHeartbeats 4000000 in
set_option maxRecDepth 100000 in
theorem k_X1_fromCount_x (l : Launch) (D : va_G) (h1 bc bf bg : Nat) (cyI : ClassId) (ts : List (ClassId × FieldType)) (th yr mo da : Int32) (mk wr : Nat) (rc ff gg : Nat → Nat) (x1 x2 x3 x4 x5 : Int32) (hy0 : ¬ (1 ≤ x1.toInt ∧ x1.toInt ≤ 3000 ∧ 1 ≤ x2.toInt ∧ x2.toInt ≤ 12)) : pz_I l yX1_fromCount wsX1_fromCount ({ frames := 4, cells := 0, slots := 0, locals := 89 } : Room) D ((cyI, .int) :: ts) [.ref h1, .int x1, .int x2, .int x3, .int x4, .int x5] [(h1, .inr (1, [.int th, .int yr, .int mo, .int da, .int (nI mk), .ref bc, .ref bf, .ref bg, .int (nI wr)])), (bc, .inl (cyI, 366, .inl (pz_ar rc))), (bf, .inl (cyI, 3001, .inl (pz_ar ff))), (bg, .inl (cyI, 3001, .inl (pz_ar gg)))] (S := Unit) (fun r _ => r = nI 0) (fun _ => [(h1, .inr (1, [.int (nI 1), .int yr, .int mo, .int da, .int (nI mk), .ref bc, .ref bf, .ref bg, .int (nI wr)])), (bc, .inl (cyI, 366, .inl (pz_ar rc))), (bf, .inl (cyI, 3001, .inl (pz_ar ff))), (bg, .inl (cyI, 3001, .inl (pz_ar gg)))]) := by
  refine pz_I_of (cc := cX1_fromCount) (maxL := 9) (ty := .int) (own := RX1) (by decide) rfl rfl (Nat.le_of_ble_eq_true rfl) ?_
  intro p e s m below meth c A ls Q hx hb hml hown hts hK hP hD hS hA hl hQ
  have hl : lv_has ls 9 [(0, .ref h1), (1, .int x1), (2, .int x2), (3, .int x3), (4, .int x4), (5, .int x5)] := hl
  refine lv_iload_n hx hb dX1_fromCount_0 rfl (lv_at hl 1 rfl) ?_
  rcases pz_rng x1 1 3000 (by decide) with ⟨y, hl_y, hh_y, rfl⟩ | hb_x1
  · -- in range
    have ei_y : (nI y).toInt = (y : Int) := nI_toInt (by omega)
    simp only [ei_y, Int.toNat_natCast] at hy0
    refine pz_SR (rest := []) ⟨hx, hb, hml, hown, hts⟩ (k_X1_isYear_a l D ((cyI, .int) :: ts) y (by omega) (by omega)) (va_cwS 1 hts gX1_fromCount_X1_isYear rfl rfl rfl (by decide +kernel) ⟨Nat.le_of_ble_eq_true rfl, Nat.le_of_ble_eq_true rfl⟩) hK hP (hD.weaken (fun _ _ _ _ => trivial)) hS hA [] rfl rfl rfl rfl hl.1 rfl (lv_room (Nat.le_of_ble_eq_true rfl)) dX1_fromCount_1 ⟨Nat.le_of_ble_eq_true rfl, Nat.le_of_ble_eq_true rfl⟩ (fun r H locs hr hP hS => ?_)
    obtain rfl : r = (nI 1) := hr
    refine pn_if_eq (tgt := 21) hx hb (by omega) dX1_fromCount_4 (by decide) (fun c_2 => absurd c_2 (by decide)) (fun _ => ?_)
    refine lv_iload_n hx hb dX1_fromCount_7 rfl (lv_at hl 2 rfl) ?_
    refine lv_iconst (v := nI 1) hx hb dX1_fromCount_8 (by decide) ?_
    refine lv_bipush (v := nI 12) hx hb dX1_fromCount_9 (by decide) ?_
    rcases pz_rng x2 1 12 (by decide) with ⟨mm, hl_mm, hh_mm, rfl⟩ | hb_x2
    · -- in range
      have ei_mm : (nI mm).toInt = (mm : Int) := nI_toInt (by omega)
      simp only [ei_mm, Int.toNat_natCast] at hy0
      refine pz_SR (rest := []) ⟨hx, hb, hml, hown, hts⟩ (k_X1_isIn_a l D ((cyI, .int) :: ts) mm 1 12 (by omega) (by omega) (by omega)) (va_cwS 3 hts gX1_fromCount_X1_isIn rfl rfl rfl (by decide +kernel) ⟨Nat.le_of_ble_eq_true rfl, Nat.le_of_ble_eq_true rfl⟩) hK hP (hD.weaken (fun _ _ _ _ => trivial)) hS hA [] rfl rfl rfl rfl hl.1 rfl (lv_room (Nat.le_of_ble_eq_true rfl)) dX1_fromCount_11 ⟨Nat.le_of_ble_eq_true rfl, Nat.le_of_ble_eq_true rfl⟩ (fun r H locs hr hP hS => ?_)
      obtain rfl : r = (nI 1) := hr
      refine pn_if_eq (tgt := 21) hx hb (by omega) dX1_fromCount_14 (by decide) (fun c_4 => absurd c_4 (by decide)) (fun _ => ?_)
      exfalso; omega
    · -- outside
      refine pz_SR (rest := []) ⟨hx, hb, hml, hown, hts⟩ (k_X1_isIn_x l D ((cyI, .int) :: ts) x2 1 12 (by omega) (by omega) (by omega)) (va_cwS 3 hts gX1_fromCount_X1_isIn rfl rfl rfl (by decide +kernel) ⟨Nat.le_of_ble_eq_true rfl, Nat.le_of_ble_eq_true rfl⟩) hK hP (hD.weaken (fun _ _ _ _ => trivial)) hS hA [] rfl rfl rfl rfl hl.1 rfl (lv_room (Nat.le_of_ble_eq_true rfl)) dX1_fromCount_11 ⟨Nat.le_of_ble_eq_true rfl, Nat.le_of_ble_eq_true rfl⟩ (fun r H locs hr hP hS => ?_)
      obtain rfl : r = (nI 0) := hr
      refine pn_if_eq (tgt := 21) hx hb (by omega) dX1_fromCount_14 (by decide) (fun _ => ?_) (fun c_6 => absurd c_6 (by decide))
      refine lv_iconst (v := nI 0) hx hb dX1_fromCount_21 (by decide) ?_
      refine lv_istore (lv' := [(6, .int (nI 0)), (0, .ref h1), (1, .int (nI y)), (2, .int x2), (3, .int x3), (4, .int x4), (5, .int x5)]) hx hb dX1_fromCount_22 hl (by decide) rfl (fun ls hl => ?_)
      refine lv_iload_n hx hb dX1_fromCount_24 rfl (lv_at hl 4 rfl) ?_
      refine lv_iconst (v := nI 0) hx hb dX1_fromCount_25 (by decide) ?_
      refine lv_iconst (v := nI 2) hx hb dX1_fromCount_26 (by decide) ?_
      rcases pz_rng x3 0 2 (by decide) with ⟨a, hl_a, hh_a, rfl⟩ | hb_x3
      · -- in range
        have ei_a : (nI a).toInt = (a : Int) := nI_toInt (by omega)
        refine pz_SR (rest := []) ⟨hx, hb, hml, hown, hts⟩ (k_X1_isIn_a l D ((cyI, .int) :: ts) a 0 2 (by omega) (by omega) (by omega)) (va_cwS 3 hts gX1_fromCount_X1_isIn rfl rfl rfl (by decide +kernel) ⟨Nat.le_of_ble_eq_true rfl, Nat.le_of_ble_eq_true rfl⟩) hK hP (hD.weaken (fun _ _ _ _ => trivial)) hS hA [] rfl rfl rfl rfl hl.1 rfl (lv_room (Nat.le_of_ble_eq_true rfl)) dX1_fromCount_27 ⟨Nat.le_of_ble_eq_true rfl, Nat.le_of_ble_eq_true rfl⟩ (fun r H locs hr hP hS => ?_)
        obtain rfl : r = (nI 1) := hr
        refine pn_if_eq (tgt := 43) hx hb (by omega) dX1_fromCount_30 (by decide) (fun c_8 => absurd c_8 (by decide)) (fun _ => ?_)
        refine lv_iload hx hb dX1_fromCount_33 (lv_at hl 5 rfl) ?_
        refine lv_iconst (v := nI 1) hx hb dX1_fromCount_35 (by decide) ?_
        refine pi_icmp_lt (tgt := 43) (a := (x4).toInt) (b := ((1 : Nat) : Int)) hx hb rfl (nI_toInt (by omega)) dX1_fromCount_36 (by decide) (fun c_9 => ?_) (fun c_9 => ?_)
        · -- 36 yes
          refine lv_iconst (v := nI 0) hx hb dX1_fromCount_43 (by decide) ?_
          refine lv_istore (lv' := [(7, .int (nI 0)), (6, .int (nI 0)), (0, .ref h1), (1, .int (nI y)), (2, .int x2), (3, .int (nI a)), (4, .int x4), (5, .int x5)]) hx hb dX1_fromCount_44 hl (by decide) rfl (fun ls hl => ?_)
          refine lv_iload hx hb dX1_fromCount_46 (lv_at hl 1 rfl) ?_
          refine pn_if_eq (tgt := 70) hx hb (by omega) dX1_fromCount_48 (by decide) (fun _ => ?_) (fun c_10 => absurd c_10 (by decide))
          refine lv_iconst (v := (-1 : Int32)) hx hb dX1_fromCount_70 (by decide) ?_
          refine lv_istore (lv' := [(8, .int (-1 : Int32)), (7, .int (nI 0)), (6, .int (nI 0)), (0, .ref h1), (1, .int (nI y)), (2, .int x2), (3, .int (nI a)), (4, .int x4), (5, .int x5)]) hx hb dX1_fromCount_71 hl (by decide) rfl (fun ls hl => ?_)
          refine lv_aload_n hx hb dX1_fromCount_73 rfl (lv_at hl 3 rfl) ?_
          refine lv_iload hx hb dX1_fromCount_74 (lv_at hl 2 rfl) ?_
          refine pn_if_ne (tgt := 83) hx hb (by omega) dX1_fromCount_76 (by decide) (fun c_11 => absurd c_11 (by decide)) (fun _ => ?_)
          refine lv_iconst (v := nI 1) hx hb dX1_fromCount_79 (by decide) ?_
          refine lv_goto (tgt := 103) hx hb dX1_fromCount_80 (by decide) ?_
          refine pz_VI (rest := []) (wr := []) ⟨hx, hb, hml, hown, hts⟩ (k_X1_isFine_k l D h1 bc bf bg cyI ts th yr mo da mk wr rc ff gg 1 (by omega) (by omega)) (cwV 1 hts gX1_fromCount_X1_isFine rfl rfl rfl (by decide +kernel) ⟨Nat.le_of_ble_eq_true rfl, Nat.le_of_ble_eq_true rfl⟩) hK hP hD hS hA [0, 1, 2, 3] [] rfl rfl rfl rfl rfl (by decide) 0 1 rfl rfl rfl hl.1 rfl (lv_room (Nat.le_of_ble_eq_true rfl)) dX1_fromCount_103 ⟨Nat.le_of_ble_eq_true rfl, Nat.le_of_ble_eq_true rfl⟩ (fun r u H locs hr hP hD hS => ?_)
          have hP : va_P D vwCl [(h1, .inr (1, [.int (nI 1), .int yr, .int mo, .int da, .int (nI mk), .ref bc, .ref bf, .ref bg, .int (nI wr)])), (bc, .inl (cyI, 366, .inl (pz_ar rc))), (bf, .inl (cyI, 3001, .inl (pz_ar ff))), (bg, .inl (cyI, 3001, .inl (pz_ar gg)))] H := hP
          have hD : va_D A [(h1, .inr (1, [.int (nI 1), .int yr, .int mo, .int da, .int (nI mk), .ref bc, .ref bf, .ref bg, .int (nI wr)])), (bc, .inl (cyI, 366, .inl (pz_ar rc))), (bf, .inl (cyI, 3001, .inl (pz_ar ff))), (bg, .inl (cyI, 3001, .inl (pz_ar gg)))] := hD
          obtain rfl : r = (nI 0) := hr
          refine pn_if_eq (tgt := 114) hx hb (by omega) dX1_fromCount_106 (by decide) (fun _ => ?_) (fun c_13 => absurd c_13 (by decide))
          refine lv_iconst (v := nI 0) hx hb dX1_fromCount_114 (by decide) ?_
          exact hQ _ _ _ _ _ () dX1_fromCount_115 rfl (congrArg nI (by rfl)) hP hD hS
        · -- 36 no
          refine lv_iconst (v := nI 1) hx hb dX1_fromCount_39 (by decide) ?_
          refine lv_goto (tgt := 44) hx hb dX1_fromCount_40 (by decide) ?_
          refine lv_istore (lv' := [(7, .int (nI 1)), (6, .int (nI 0)), (0, .ref h1), (1, .int (nI y)), (2, .int x2), (3, .int (nI a)), (4, .int x4), (5, .int x5)]) hx hb dX1_fromCount_44 hl (by decide) rfl (fun ls hl => ?_)
          refine lv_iload hx hb dX1_fromCount_46 (lv_at hl 1 rfl) ?_
          refine pn_if_eq (tgt := 70) hx hb (by omega) dX1_fromCount_48 (by decide) (fun _ => ?_) (fun c_14 => absurd c_14 (by decide))
          refine lv_iconst (v := (-1 : Int32)) hx hb dX1_fromCount_70 (by decide) ?_
          refine lv_istore (lv' := [(8, .int (-1 : Int32)), (7, .int (nI 1)), (6, .int (nI 0)), (0, .ref h1), (1, .int (nI y)), (2, .int x2), (3, .int (nI a)), (4, .int x4), (5, .int x5)]) hx hb dX1_fromCount_71 hl (by decide) rfl (fun ls hl => ?_)
          refine lv_aload_n hx hb dX1_fromCount_73 rfl (lv_at hl 3 rfl) ?_
          refine lv_iload hx hb dX1_fromCount_74 (lv_at hl 2 rfl) ?_
          refine pn_if_ne (tgt := 83) hx hb (by omega) dX1_fromCount_76 (by decide) (fun c_15 => absurd c_15 (by decide)) (fun _ => ?_)
          refine lv_iconst (v := nI 1) hx hb dX1_fromCount_79 (by decide) ?_
          refine lv_goto (tgt := 103) hx hb dX1_fromCount_80 (by decide) ?_
          refine pz_VI (rest := []) (wr := []) ⟨hx, hb, hml, hown, hts⟩ (k_X1_isFine_k l D h1 bc bf bg cyI ts th yr mo da mk wr rc ff gg 1 (by omega) (by omega)) (cwV 1 hts gX1_fromCount_X1_isFine rfl rfl rfl (by decide +kernel) ⟨Nat.le_of_ble_eq_true rfl, Nat.le_of_ble_eq_true rfl⟩) hK hP hD hS hA [0, 1, 2, 3] [] rfl rfl rfl rfl rfl (by decide) 0 1 rfl rfl rfl hl.1 rfl (lv_room (Nat.le_of_ble_eq_true rfl)) dX1_fromCount_103 ⟨Nat.le_of_ble_eq_true rfl, Nat.le_of_ble_eq_true rfl⟩ (fun r u H locs hr hP hD hS => ?_)
          have hP : va_P D vwCl [(h1, .inr (1, [.int (nI 1), .int yr, .int mo, .int da, .int (nI mk), .ref bc, .ref bf, .ref bg, .int (nI wr)])), (bc, .inl (cyI, 366, .inl (pz_ar rc))), (bf, .inl (cyI, 3001, .inl (pz_ar ff))), (bg, .inl (cyI, 3001, .inl (pz_ar gg)))] H := hP
          have hD : va_D A [(h1, .inr (1, [.int (nI 1), .int yr, .int mo, .int da, .int (nI mk), .ref bc, .ref bf, .ref bg, .int (nI wr)])), (bc, .inl (cyI, 366, .inl (pz_ar rc))), (bf, .inl (cyI, 3001, .inl (pz_ar ff))), (bg, .inl (cyI, 3001, .inl (pz_ar gg)))] := hD
          obtain rfl : r = (nI 0) := hr
          refine pn_if_eq (tgt := 114) hx hb (by omega) dX1_fromCount_106 (by decide) (fun _ => ?_) (fun c_17 => absurd c_17 (by decide))
          refine lv_iconst (v := nI 0) hx hb dX1_fromCount_114 (by decide) ?_
          exact hQ _ _ _ _ _ () dX1_fromCount_115 rfl (congrArg nI (by rfl)) hP hD hS
      · -- outside
        refine pz_SR (rest := []) ⟨hx, hb, hml, hown, hts⟩ (k_X1_isIn_x l D ((cyI, .int) :: ts) x3 0 2 (by omega) (by omega) (by omega)) (va_cwS 3 hts gX1_fromCount_X1_isIn rfl rfl rfl (by decide +kernel) ⟨Nat.le_of_ble_eq_true rfl, Nat.le_of_ble_eq_true rfl⟩) hK hP (hD.weaken (fun _ _ _ _ => trivial)) hS hA [] rfl rfl rfl rfl hl.1 rfl (lv_room (Nat.le_of_ble_eq_true rfl)) dX1_fromCount_27 ⟨Nat.le_of_ble_eq_true rfl, Nat.le_of_ble_eq_true rfl⟩ (fun r H locs hr hP hS => ?_)
        obtain rfl : r = (nI 0) := hr
        refine pn_if_eq (tgt := 43) hx hb (by omega) dX1_fromCount_30 (by decide) (fun _ => ?_) (fun c_19 => absurd c_19 (by decide))
        refine lv_iconst (v := nI 0) hx hb dX1_fromCount_43 (by decide) ?_
        refine lv_istore (lv' := [(7, .int (nI 0)), (6, .int (nI 0)), (0, .ref h1), (1, .int (nI y)), (2, .int x2), (3, .int x3), (4, .int x4), (5, .int x5)]) hx hb dX1_fromCount_44 hl (by decide) rfl (fun ls hl => ?_)
        refine lv_iload hx hb dX1_fromCount_46 (lv_at hl 1 rfl) ?_
        refine pn_if_eq (tgt := 70) hx hb (by omega) dX1_fromCount_48 (by decide) (fun _ => ?_) (fun c_20 => absurd c_20 (by decide))
        refine lv_iconst (v := (-1 : Int32)) hx hb dX1_fromCount_70 (by decide) ?_
        refine lv_istore (lv' := [(8, .int (-1 : Int32)), (7, .int (nI 0)), (6, .int (nI 0)), (0, .ref h1), (1, .int (nI y)), (2, .int x2), (3, .int x3), (4, .int x4), (5, .int x5)]) hx hb dX1_fromCount_71 hl (by decide) rfl (fun ls hl => ?_)
        refine lv_aload_n hx hb dX1_fromCount_73 rfl (lv_at hl 3 rfl) ?_
        refine lv_iload hx hb dX1_fromCount_74 (lv_at hl 2 rfl) ?_
        refine pn_if_ne (tgt := 83) hx hb (by omega) dX1_fromCount_76 (by decide) (fun c_21 => absurd c_21 (by decide)) (fun _ => ?_)
        refine lv_iconst (v := nI 1) hx hb dX1_fromCount_79 (by decide) ?_
        refine lv_goto (tgt := 103) hx hb dX1_fromCount_80 (by decide) ?_
        refine pz_VI (rest := []) (wr := []) ⟨hx, hb, hml, hown, hts⟩ (k_X1_isFine_k l D h1 bc bf bg cyI ts th yr mo da mk wr rc ff gg 1 (by omega) (by omega)) (cwV 1 hts gX1_fromCount_X1_isFine rfl rfl rfl (by decide +kernel) ⟨Nat.le_of_ble_eq_true rfl, Nat.le_of_ble_eq_true rfl⟩) hK hP hD hS hA [0, 1, 2, 3] [] rfl rfl rfl rfl rfl (by decide) 0 1 rfl rfl rfl hl.1 rfl (lv_room (Nat.le_of_ble_eq_true rfl)) dX1_fromCount_103 ⟨Nat.le_of_ble_eq_true rfl, Nat.le_of_ble_eq_true rfl⟩ (fun r u H locs hr hP hD hS => ?_)
        have hP : va_P D vwCl [(h1, .inr (1, [.int (nI 1), .int yr, .int mo, .int da, .int (nI mk), .ref bc, .ref bf, .ref bg, .int (nI wr)])), (bc, .inl (cyI, 366, .inl (pz_ar rc))), (bf, .inl (cyI, 3001, .inl (pz_ar ff))), (bg, .inl (cyI, 3001, .inl (pz_ar gg)))] H := hP
        have hD : va_D A [(h1, .inr (1, [.int (nI 1), .int yr, .int mo, .int da, .int (nI mk), .ref bc, .ref bf, .ref bg, .int (nI wr)])), (bc, .inl (cyI, 366, .inl (pz_ar rc))), (bf, .inl (cyI, 3001, .inl (pz_ar ff))), (bg, .inl (cyI, 3001, .inl (pz_ar gg)))] := hD
        obtain rfl : r = (nI 0) := hr
        refine pn_if_eq (tgt := 114) hx hb (by omega) dX1_fromCount_106 (by decide) (fun _ => ?_) (fun c_23 => absurd c_23 (by decide))
        refine lv_iconst (v := nI 0) hx hb dX1_fromCount_114 (by decide) ?_
        exact hQ _ _ _ _ _ () dX1_fromCount_115 rfl (congrArg nI (by rfl)) hP hD hS
  · -- outside
    refine pz_SR (rest := []) ⟨hx, hb, hml, hown, hts⟩ (k_X1_isYear_x l D ((cyI, .int) :: ts) x1 (by omega)) (va_cwS 1 hts gX1_fromCount_X1_isYear rfl rfl rfl (by decide +kernel) ⟨Nat.le_of_ble_eq_true rfl, Nat.le_of_ble_eq_true rfl⟩) hK hP (hD.weaken (fun _ _ _ _ => trivial)) hS hA [] rfl rfl rfl rfl hl.1 rfl (lv_room (Nat.le_of_ble_eq_true rfl)) dX1_fromCount_1 ⟨Nat.le_of_ble_eq_true rfl, Nat.le_of_ble_eq_true rfl⟩ (fun r H locs hr hP hS => ?_)
    obtain rfl : r = (nI 0) := hr
    refine pn_if_eq (tgt := 21) hx hb (by omega) dX1_fromCount_4 (by decide) (fun _ => ?_) (fun c_25 => absurd c_25 (by decide))
    refine lv_iconst (v := nI 0) hx hb dX1_fromCount_21 (by decide) ?_
    refine lv_istore (lv' := [(6, .int (nI 0)), (0, .ref h1), (1, .int x1), (2, .int x2), (3, .int x3), (4, .int x4), (5, .int x5)]) hx hb dX1_fromCount_22 hl (by decide) rfl (fun ls hl => ?_)
    refine lv_iload_n hx hb dX1_fromCount_24 rfl (lv_at hl 4 rfl) ?_
    refine lv_iconst (v := nI 0) hx hb dX1_fromCount_25 (by decide) ?_
    refine lv_iconst (v := nI 2) hx hb dX1_fromCount_26 (by decide) ?_
    rcases pz_rng x3 0 2 (by decide) with ⟨a, hl_a, hh_a, rfl⟩ | hb_x3
    · -- in range
      have ei_a : (nI a).toInt = (a : Int) := nI_toInt (by omega)
      refine pz_SR (rest := []) ⟨hx, hb, hml, hown, hts⟩ (k_X1_isIn_a l D ((cyI, .int) :: ts) a 0 2 (by omega) (by omega) (by omega)) (va_cwS 3 hts gX1_fromCount_X1_isIn rfl rfl rfl (by decide +kernel) ⟨Nat.le_of_ble_eq_true rfl, Nat.le_of_ble_eq_true rfl⟩) hK hP (hD.weaken (fun _ _ _ _ => trivial)) hS hA [] rfl rfl rfl rfl hl.1 rfl (lv_room (Nat.le_of_ble_eq_true rfl)) dX1_fromCount_27 ⟨Nat.le_of_ble_eq_true rfl, Nat.le_of_ble_eq_true rfl⟩ (fun r H locs hr hP hS => ?_)
      obtain rfl : r = (nI 1) := hr
      refine pn_if_eq (tgt := 43) hx hb (by omega) dX1_fromCount_30 (by decide) (fun c_27 => absurd c_27 (by decide)) (fun _ => ?_)
      refine lv_iload hx hb dX1_fromCount_33 (lv_at hl 5 rfl) ?_
      refine lv_iconst (v := nI 1) hx hb dX1_fromCount_35 (by decide) ?_
      refine pi_icmp_lt (tgt := 43) (a := (x4).toInt) (b := ((1 : Nat) : Int)) hx hb rfl (nI_toInt (by omega)) dX1_fromCount_36 (by decide) (fun c_28 => ?_) (fun c_28 => ?_)
      · -- 36 yes
        refine lv_iconst (v := nI 0) hx hb dX1_fromCount_43 (by decide) ?_
        refine lv_istore (lv' := [(7, .int (nI 0)), (6, .int (nI 0)), (0, .ref h1), (1, .int x1), (2, .int x2), (3, .int (nI a)), (4, .int x4), (5, .int x5)]) hx hb dX1_fromCount_44 hl (by decide) rfl (fun ls hl => ?_)
        refine lv_iload hx hb dX1_fromCount_46 (lv_at hl 1 rfl) ?_
        refine pn_if_eq (tgt := 70) hx hb (by omega) dX1_fromCount_48 (by decide) (fun _ => ?_) (fun c_29 => absurd c_29 (by decide))
        refine lv_iconst (v := (-1 : Int32)) hx hb dX1_fromCount_70 (by decide) ?_
        refine lv_istore (lv' := [(8, .int (-1 : Int32)), (7, .int (nI 0)), (6, .int (nI 0)), (0, .ref h1), (1, .int x1), (2, .int x2), (3, .int (nI a)), (4, .int x4), (5, .int x5)]) hx hb dX1_fromCount_71 hl (by decide) rfl (fun ls hl => ?_)
        refine lv_aload_n hx hb dX1_fromCount_73 rfl (lv_at hl 3 rfl) ?_
        refine lv_iload hx hb dX1_fromCount_74 (lv_at hl 2 rfl) ?_
        refine pn_if_ne (tgt := 83) hx hb (by omega) dX1_fromCount_76 (by decide) (fun c_30 => absurd c_30 (by decide)) (fun _ => ?_)
        refine lv_iconst (v := nI 1) hx hb dX1_fromCount_79 (by decide) ?_
        refine lv_goto (tgt := 103) hx hb dX1_fromCount_80 (by decide) ?_
        refine pz_VI (rest := []) (wr := []) ⟨hx, hb, hml, hown, hts⟩ (k_X1_isFine_k l D h1 bc bf bg cyI ts th yr mo da mk wr rc ff gg 1 (by omega) (by omega)) (cwV 1 hts gX1_fromCount_X1_isFine rfl rfl rfl (by decide +kernel) ⟨Nat.le_of_ble_eq_true rfl, Nat.le_of_ble_eq_true rfl⟩) hK hP hD hS hA [0, 1, 2, 3] [] rfl rfl rfl rfl rfl (by decide) 0 1 rfl rfl rfl hl.1 rfl (lv_room (Nat.le_of_ble_eq_true rfl)) dX1_fromCount_103 ⟨Nat.le_of_ble_eq_true rfl, Nat.le_of_ble_eq_true rfl⟩ (fun r u H locs hr hP hD hS => ?_)
        have hP : va_P D vwCl [(h1, .inr (1, [.int (nI 1), .int yr, .int mo, .int da, .int (nI mk), .ref bc, .ref bf, .ref bg, .int (nI wr)])), (bc, .inl (cyI, 366, .inl (pz_ar rc))), (bf, .inl (cyI, 3001, .inl (pz_ar ff))), (bg, .inl (cyI, 3001, .inl (pz_ar gg)))] H := hP
        have hD : va_D A [(h1, .inr (1, [.int (nI 1), .int yr, .int mo, .int da, .int (nI mk), .ref bc, .ref bf, .ref bg, .int (nI wr)])), (bc, .inl (cyI, 366, .inl (pz_ar rc))), (bf, .inl (cyI, 3001, .inl (pz_ar ff))), (bg, .inl (cyI, 3001, .inl (pz_ar gg)))] := hD
        obtain rfl : r = (nI 0) := hr
        refine pn_if_eq (tgt := 114) hx hb (by omega) dX1_fromCount_106 (by decide) (fun _ => ?_) (fun c_32 => absurd c_32 (by decide))
        refine lv_iconst (v := nI 0) hx hb dX1_fromCount_114 (by decide) ?_
        exact hQ _ _ _ _ _ () dX1_fromCount_115 rfl (congrArg nI (by rfl)) hP hD hS
      · -- 36 no
        refine lv_iconst (v := nI 1) hx hb dX1_fromCount_39 (by decide) ?_
        refine lv_goto (tgt := 44) hx hb dX1_fromCount_40 (by decide) ?_
        refine lv_istore (lv' := [(7, .int (nI 1)), (6, .int (nI 0)), (0, .ref h1), (1, .int x1), (2, .int x2), (3, .int (nI a)), (4, .int x4), (5, .int x5)]) hx hb dX1_fromCount_44 hl (by decide) rfl (fun ls hl => ?_)
        refine lv_iload hx hb dX1_fromCount_46 (lv_at hl 1 rfl) ?_
        refine pn_if_eq (tgt := 70) hx hb (by omega) dX1_fromCount_48 (by decide) (fun _ => ?_) (fun c_33 => absurd c_33 (by decide))
        refine lv_iconst (v := (-1 : Int32)) hx hb dX1_fromCount_70 (by decide) ?_
        refine lv_istore (lv' := [(8, .int (-1 : Int32)), (7, .int (nI 1)), (6, .int (nI 0)), (0, .ref h1), (1, .int x1), (2, .int x2), (3, .int (nI a)), (4, .int x4), (5, .int x5)]) hx hb dX1_fromCount_71 hl (by decide) rfl (fun ls hl => ?_)
        refine lv_aload_n hx hb dX1_fromCount_73 rfl (lv_at hl 3 rfl) ?_
        refine lv_iload hx hb dX1_fromCount_74 (lv_at hl 2 rfl) ?_
        refine pn_if_ne (tgt := 83) hx hb (by omega) dX1_fromCount_76 (by decide) (fun c_34 => absurd c_34 (by decide)) (fun _ => ?_)
        refine lv_iconst (v := nI 1) hx hb dX1_fromCount_79 (by decide) ?_
        refine lv_goto (tgt := 103) hx hb dX1_fromCount_80 (by decide) ?_
        refine pz_VI (rest := []) (wr := []) ⟨hx, hb, hml, hown, hts⟩ (k_X1_isFine_k l D h1 bc bf bg cyI ts th yr mo da mk wr rc ff gg 1 (by omega) (by omega)) (cwV 1 hts gX1_fromCount_X1_isFine rfl rfl rfl (by decide +kernel) ⟨Nat.le_of_ble_eq_true rfl, Nat.le_of_ble_eq_true rfl⟩) hK hP hD hS hA [0, 1, 2, 3] [] rfl rfl rfl rfl rfl (by decide) 0 1 rfl rfl rfl hl.1 rfl (lv_room (Nat.le_of_ble_eq_true rfl)) dX1_fromCount_103 ⟨Nat.le_of_ble_eq_true rfl, Nat.le_of_ble_eq_true rfl⟩ (fun r u H locs hr hP hD hS => ?_)
        have hP : va_P D vwCl [(h1, .inr (1, [.int (nI 1), .int yr, .int mo, .int da, .int (nI mk), .ref bc, .ref bf, .ref bg, .int (nI wr)])), (bc, .inl (cyI, 366, .inl (pz_ar rc))), (bf, .inl (cyI, 3001, .inl (pz_ar ff))), (bg, .inl (cyI, 3001, .inl (pz_ar gg)))] H := hP
        have hD : va_D A [(h1, .inr (1, [.int (nI 1), .int yr, .int mo, .int da, .int (nI mk), .ref bc, .ref bf, .ref bg, .int (nI wr)])), (bc, .inl (cyI, 366, .inl (pz_ar rc))), (bf, .inl (cyI, 3001, .inl (pz_ar ff))), (bg, .inl (cyI, 3001, .inl (pz_ar gg)))] := hD
        obtain rfl : r = (nI 0) := hr
        refine pn_if_eq (tgt := 114) hx hb (by omega) dX1_fromCount_106 (by decide) (fun _ => ?_) (fun c_36 => absurd c_36 (by decide))
        refine lv_iconst (v := nI 0) hx hb dX1_fromCount_114 (by decide) ?_
        exact hQ _ _ _ _ _ () dX1_fromCount_115 rfl (congrArg nI (by rfl)) hP hD hS
    · -- outside
      refine pz_SR (rest := []) ⟨hx, hb, hml, hown, hts⟩ (k_X1_isIn_x l D ((cyI, .int) :: ts) x3 0 2 (by omega) (by omega) (by omega)) (va_cwS 3 hts gX1_fromCount_X1_isIn rfl rfl rfl (by decide +kernel) ⟨Nat.le_of_ble_eq_true rfl, Nat.le_of_ble_eq_true rfl⟩) hK hP (hD.weaken (fun _ _ _ _ => trivial)) hS hA [] rfl rfl rfl rfl hl.1 rfl (lv_room (Nat.le_of_ble_eq_true rfl)) dX1_fromCount_27 ⟨Nat.le_of_ble_eq_true rfl, Nat.le_of_ble_eq_true rfl⟩ (fun r H locs hr hP hS => ?_)
      obtain rfl : r = (nI 0) := hr
      refine pn_if_eq (tgt := 43) hx hb (by omega) dX1_fromCount_30 (by decide) (fun _ => ?_) (fun c_38 => absurd c_38 (by decide))
      refine lv_iconst (v := nI 0) hx hb dX1_fromCount_43 (by decide) ?_
      refine lv_istore (lv' := [(7, .int (nI 0)), (6, .int (nI 0)), (0, .ref h1), (1, .int x1), (2, .int x2), (3, .int x3), (4, .int x4), (5, .int x5)]) hx hb dX1_fromCount_44 hl (by decide) rfl (fun ls hl => ?_)
      refine lv_iload hx hb dX1_fromCount_46 (lv_at hl 1 rfl) ?_
      refine pn_if_eq (tgt := 70) hx hb (by omega) dX1_fromCount_48 (by decide) (fun _ => ?_) (fun c_39 => absurd c_39 (by decide))
      refine lv_iconst (v := (-1 : Int32)) hx hb dX1_fromCount_70 (by decide) ?_
      refine lv_istore (lv' := [(8, .int (-1 : Int32)), (7, .int (nI 0)), (6, .int (nI 0)), (0, .ref h1), (1, .int x1), (2, .int x2), (3, .int x3), (4, .int x4), (5, .int x5)]) hx hb dX1_fromCount_71 hl (by decide) rfl (fun ls hl => ?_)
      refine lv_aload_n hx hb dX1_fromCount_73 rfl (lv_at hl 3 rfl) ?_
      refine lv_iload hx hb dX1_fromCount_74 (lv_at hl 2 rfl) ?_
      refine pn_if_ne (tgt := 83) hx hb (by omega) dX1_fromCount_76 (by decide) (fun c_40 => absurd c_40 (by decide)) (fun _ => ?_)
      refine lv_iconst (v := nI 1) hx hb dX1_fromCount_79 (by decide) ?_
      refine lv_goto (tgt := 103) hx hb dX1_fromCount_80 (by decide) ?_
      refine pz_VI (rest := []) (wr := []) ⟨hx, hb, hml, hown, hts⟩ (k_X1_isFine_k l D h1 bc bf bg cyI ts th yr mo da mk wr rc ff gg 1 (by omega) (by omega)) (cwV 1 hts gX1_fromCount_X1_isFine rfl rfl rfl (by decide +kernel) ⟨Nat.le_of_ble_eq_true rfl, Nat.le_of_ble_eq_true rfl⟩) hK hP hD hS hA [0, 1, 2, 3] [] rfl rfl rfl rfl rfl (by decide) 0 1 rfl rfl rfl hl.1 rfl (lv_room (Nat.le_of_ble_eq_true rfl)) dX1_fromCount_103 ⟨Nat.le_of_ble_eq_true rfl, Nat.le_of_ble_eq_true rfl⟩ (fun r u H locs hr hP hD hS => ?_)
      have hP : va_P D vwCl [(h1, .inr (1, [.int (nI 1), .int yr, .int mo, .int da, .int (nI mk), .ref bc, .ref bf, .ref bg, .int (nI wr)])), (bc, .inl (cyI, 366, .inl (pz_ar rc))), (bf, .inl (cyI, 3001, .inl (pz_ar ff))), (bg, .inl (cyI, 3001, .inl (pz_ar gg)))] H := hP
      have hD : va_D A [(h1, .inr (1, [.int (nI 1), .int yr, .int mo, .int da, .int (nI mk), .ref bc, .ref bf, .ref bg, .int (nI wr)])), (bc, .inl (cyI, 366, .inl (pz_ar rc))), (bf, .inl (cyI, 3001, .inl (pz_ar ff))), (bg, .inl (cyI, 3001, .inl (pz_ar gg)))] := hD
      obtain rfl : r = (nI 0) := hr
      refine pn_if_eq (tgt := 114) hx hb (by omega) dX1_fromCount_106 (by decide) (fun _ => ?_) (fun c_42 => absurd c_42 (by decide))
      refine lv_iconst (v := nI 0) hx hb dX1_fromCount_114 (by decide) ?_
      exact hQ _ _ _ _ _ () dX1_fromCount_115 rfl (congrArg nI (by rfl)) hP hD hS
set_option maxHeartbeats 4000000 in
set_option maxRecDepth 100000 in
theorem k_X1_fromCount_x2 (l : Launch) (D : va_G) (h1 bc bf bg : Nat) (cyI : ClassId) (ts : List (ClassId × FieldType)) (th yr mo da : Int32) (mk wr : Nat) (rc ff gg : Nat → Nat) (y mm : Nat) (x3 x4 x5 : Int32) (hy0 : ¬ (0 ≤ x3.toInt ∧ x3.toInt ≤ 2 ∧ 1 ≤ x4.toInt)) (hy1 : 1 ≤ y) (hy2 : y ≤ 3000) (hy3 : 1 ≤ mm) (hy4 : mm ≤ 12) : pz_I l yX1_fromCount wsX1_fromCount ({ frames := 4, cells := 0, slots := 0, locals := 89 } : Room) D ((cyI, .int) :: ts) [.ref h1, .int (nI y), .int (nI mm), .int x3, .int x4, .int x5] [(h1, .inr (1, [.int th, .int yr, .int mo, .int da, .int (nI mk), .ref bc, .ref bf, .ref bg, .int (nI wr)])), (bc, .inl (cyI, 366, .inl (pz_ar rc))), (bf, .inl (cyI, 3001, .inl (pz_ar ff))), (bg, .inl (cyI, 3001, .inl (pz_ar gg)))] (S := Unit) (fun r _ => r = nI 0) (fun _ => [(h1, .inr (1, [.int (nI 2), .int yr, .int mo, .int da, .int (nI mk), .ref bc, .ref bf, .ref bg, .int (nI wr)])), (bc, .inl (cyI, 366, .inl (pz_ar rc))), (bf, .inl (cyI, 3001, .inl (pz_ar ff))), (bg, .inl (cyI, 3001, .inl (pz_ar gg)))]) := by
  refine pz_I_of (cc := cX1_fromCount) (maxL := 9) (ty := .int) (own := RX1) (by decide) rfl rfl (Nat.le_of_ble_eq_true rfl) ?_
  intro p e s m below meth c A ls Q hx hb hml hown hts hK hP hD hS hA hl hQ
  have hl : lv_has ls 9 [(0, .ref h1), (1, .int (nI y)), (2, .int (nI mm)), (3, .int x3), (4, .int x4), (5, .int x5)] := hl
  refine lv_iload_n hx hb dX1_fromCount_0 rfl (lv_at hl 1 rfl) ?_
  refine pz_SR (rest := []) ⟨hx, hb, hml, hown, hts⟩ (k_X1_isYear_a l D ((cyI, .int) :: ts) y (by omega) (by omega)) (va_cwS 1 hts gX1_fromCount_X1_isYear rfl rfl rfl (by decide +kernel) ⟨Nat.le_of_ble_eq_true rfl, Nat.le_of_ble_eq_true rfl⟩) hK hP (hD.weaken (fun _ _ _ _ => trivial)) hS hA [] rfl rfl rfl rfl hl.1 rfl (lv_room (Nat.le_of_ble_eq_true rfl)) dX1_fromCount_1 ⟨Nat.le_of_ble_eq_true rfl, Nat.le_of_ble_eq_true rfl⟩ (fun r H locs hr hP hS => ?_)
  obtain rfl : r = (nI 1) := hr
  refine pn_if_eq (tgt := 21) hx hb (by omega) dX1_fromCount_4 (by decide) (fun c_2 => absurd c_2 (by decide)) (fun _ => ?_)
  refine lv_iload_n hx hb dX1_fromCount_7 rfl (lv_at hl 2 rfl) ?_
  refine lv_iconst (v := nI 1) hx hb dX1_fromCount_8 (by decide) ?_
  refine lv_bipush (v := nI 12) hx hb dX1_fromCount_9 (by decide) ?_
  refine pz_SR (rest := []) ⟨hx, hb, hml, hown, hts⟩ (k_X1_isIn_a l D ((cyI, .int) :: ts) mm 1 12 (by omega) (by omega) (by omega)) (va_cwS 3 hts gX1_fromCount_X1_isIn rfl rfl rfl (by decide +kernel) ⟨Nat.le_of_ble_eq_true rfl, Nat.le_of_ble_eq_true rfl⟩) hK hP (hD.weaken (fun _ _ _ _ => trivial)) hS hA [] rfl rfl rfl rfl hl.1 rfl (lv_room (Nat.le_of_ble_eq_true rfl)) dX1_fromCount_11 ⟨Nat.le_of_ble_eq_true rfl, Nat.le_of_ble_eq_true rfl⟩ (fun r H locs hr hP hS => ?_)
  obtain rfl : r = (nI 1) := hr
  refine pn_if_eq (tgt := 21) hx hb (by omega) dX1_fromCount_14 (by decide) (fun c_4 => absurd c_4 (by decide)) (fun _ => ?_)
  refine lv_iconst (v := nI 1) hx hb dX1_fromCount_17 (by decide) ?_
  refine lv_goto (tgt := 22) hx hb dX1_fromCount_18 (by decide) ?_
  refine lv_istore (lv' := [(6, .int (nI 1)), (0, .ref h1), (1, .int (nI y)), (2, .int (nI mm)), (3, .int x3), (4, .int x4), (5, .int x5)]) hx hb dX1_fromCount_22 hl (by decide) rfl (fun ls hl => ?_)
  refine lv_iload_n hx hb dX1_fromCount_24 rfl (lv_at hl 4 rfl) ?_
  refine lv_iconst (v := nI 0) hx hb dX1_fromCount_25 (by decide) ?_
  refine lv_iconst (v := nI 2) hx hb dX1_fromCount_26 (by decide) ?_
  rcases pz_rng x3 0 2 (by decide) with ⟨a, hl_a, hh_a, rfl⟩ | hb_x3
  · -- in range
    have ei_a : (nI a).toInt = (a : Int) := nI_toInt (by omega)
    simp only [ei_a, Int.toNat_natCast] at hy0
    refine pz_SR (rest := []) ⟨hx, hb, hml, hown, hts⟩ (k_X1_isIn_a l D ((cyI, .int) :: ts) a 0 2 (by omega) (by omega) (by omega)) (va_cwS 3 hts gX1_fromCount_X1_isIn rfl rfl rfl (by decide +kernel) ⟨Nat.le_of_ble_eq_true rfl, Nat.le_of_ble_eq_true rfl⟩) hK hP (hD.weaken (fun _ _ _ _ => trivial)) hS hA [] rfl rfl rfl rfl hl.1 rfl (lv_room (Nat.le_of_ble_eq_true rfl)) dX1_fromCount_27 ⟨Nat.le_of_ble_eq_true rfl, Nat.le_of_ble_eq_true rfl⟩ (fun r H locs hr hP hS => ?_)
    obtain rfl : r = (nI 1) := hr
    refine pn_if_eq (tgt := 43) hx hb (by omega) dX1_fromCount_30 (by decide) (fun c_6 => absurd c_6 (by decide)) (fun _ => ?_)
    refine lv_iload hx hb dX1_fromCount_33 (lv_at hl 5 rfl) ?_
    refine lv_iconst (v := nI 1) hx hb dX1_fromCount_35 (by decide) ?_
    refine pi_icmp_lt (tgt := 43) (a := (x4).toInt) (b := ((1 : Nat) : Int)) hx hb rfl (nI_toInt (by omega)) dX1_fromCount_36 (by decide) (fun c_7 => ?_) (fun c_7 => ?_)
    · -- 36 yes
      refine lv_iconst (v := nI 0) hx hb dX1_fromCount_43 (by decide) ?_
      refine lv_istore (lv' := [(7, .int (nI 0)), (6, .int (nI 1)), (0, .ref h1), (1, .int (nI y)), (2, .int (nI mm)), (3, .int (nI a)), (4, .int x4), (5, .int x5)]) hx hb dX1_fromCount_44 hl (by decide) rfl (fun ls hl => ?_)
      refine lv_iload hx hb dX1_fromCount_46 (lv_at hl 1 rfl) ?_
      refine pn_if_eq (tgt := 70) hx hb (by omega) dX1_fromCount_48 (by decide) (fun c_8 => absurd c_8 (by decide)) (fun _ => ?_)
      refine lv_iload hx hb dX1_fromCount_51 (lv_at hl 0 rfl) ?_
      refine pn_if_eq (tgt := 70) hx hb (by omega) dX1_fromCount_53 (by decide) (fun _ => ?_) (fun c_9 => absurd c_9 (by decide))
      refine lv_iconst (v := (-1 : Int32)) hx hb dX1_fromCount_70 (by decide) ?_
      refine lv_istore (lv' := [(8, .int (-1 : Int32)), (7, .int (nI 0)), (6, .int (nI 1)), (0, .ref h1), (1, .int (nI y)), (2, .int (nI mm)), (3, .int (nI a)), (4, .int x4), (5, .int x5)]) hx hb dX1_fromCount_71 hl (by decide) rfl (fun ls hl => ?_)
      refine lv_aload_n hx hb dX1_fromCount_73 rfl (lv_at hl 3 rfl) ?_
      refine lv_iload hx hb dX1_fromCount_74 (lv_at hl 2 rfl) ?_
      refine pn_if_ne (tgt := 83) hx hb (by omega) dX1_fromCount_76 (by decide) (fun _ => ?_) (fun c_10 => absurd c_10 (by decide))
      refine lv_iload hx hb dX1_fromCount_83 (lv_at hl 1 rfl) ?_
      refine pn_if_ne (tgt := 92) hx hb (by omega) dX1_fromCount_85 (by decide) (fun c_11 => absurd c_11 (by decide)) (fun _ => ?_)
      refine lv_iconst (v := nI 2) hx hb dX1_fromCount_88 (by decide) ?_
      refine lv_goto (tgt := 103) hx hb dX1_fromCount_89 (by decide) ?_
      refine pz_VI (rest := []) (wr := []) ⟨hx, hb, hml, hown, hts⟩ (k_X1_isFine_k l D h1 bc bf bg cyI ts th yr mo da mk wr rc ff gg 2 (by omega) (by omega)) (cwV 1 hts gX1_fromCount_X1_isFine rfl rfl rfl (by decide +kernel) ⟨Nat.le_of_ble_eq_true rfl, Nat.le_of_ble_eq_true rfl⟩) hK hP hD hS hA [0, 1, 2, 3] [] rfl rfl rfl rfl rfl (by decide) 0 1 rfl rfl rfl hl.1 rfl (lv_room (Nat.le_of_ble_eq_true rfl)) dX1_fromCount_103 ⟨Nat.le_of_ble_eq_true rfl, Nat.le_of_ble_eq_true rfl⟩ (fun r u H locs hr hP hD hS => ?_)
      have hP : va_P D vwCl [(h1, .inr (1, [.int (nI 2), .int yr, .int mo, .int da, .int (nI mk), .ref bc, .ref bf, .ref bg, .int (nI wr)])), (bc, .inl (cyI, 366, .inl (pz_ar rc))), (bf, .inl (cyI, 3001, .inl (pz_ar ff))), (bg, .inl (cyI, 3001, .inl (pz_ar gg)))] H := hP
      have hD : va_D A [(h1, .inr (1, [.int (nI 2), .int yr, .int mo, .int da, .int (nI mk), .ref bc, .ref bf, .ref bg, .int (nI wr)])), (bc, .inl (cyI, 366, .inl (pz_ar rc))), (bf, .inl (cyI, 3001, .inl (pz_ar ff))), (bg, .inl (cyI, 3001, .inl (pz_ar gg)))] := hD
      obtain rfl : r = (nI 0) := hr
      refine pn_if_eq (tgt := 114) hx hb (by omega) dX1_fromCount_106 (by decide) (fun _ => ?_) (fun c_13 => absurd c_13 (by decide))
      refine lv_iconst (v := nI 0) hx hb dX1_fromCount_114 (by decide) ?_
      exact hQ _ _ _ _ _ () dX1_fromCount_115 rfl (congrArg nI (by rfl)) hP hD hS
    · -- 36 no
      exfalso; omega
  · -- outside
    refine pz_SR (rest := []) ⟨hx, hb, hml, hown, hts⟩ (k_X1_isIn_x l D ((cyI, .int) :: ts) x3 0 2 (by omega) (by omega) (by omega)) (va_cwS 3 hts gX1_fromCount_X1_isIn rfl rfl rfl (by decide +kernel) ⟨Nat.le_of_ble_eq_true rfl, Nat.le_of_ble_eq_true rfl⟩) hK hP (hD.weaken (fun _ _ _ _ => trivial)) hS hA [] rfl rfl rfl rfl hl.1 rfl (lv_room (Nat.le_of_ble_eq_true rfl)) dX1_fromCount_27 ⟨Nat.le_of_ble_eq_true rfl, Nat.le_of_ble_eq_true rfl⟩ (fun r H locs hr hP hS => ?_)
    obtain rfl : r = (nI 0) := hr
    refine pn_if_eq (tgt := 43) hx hb (by omega) dX1_fromCount_30 (by decide) (fun _ => ?_) (fun c_15 => absurd c_15 (by decide))
    refine lv_iconst (v := nI 0) hx hb dX1_fromCount_43 (by decide) ?_
    refine lv_istore (lv' := [(7, .int (nI 0)), (6, .int (nI 1)), (0, .ref h1), (1, .int (nI y)), (2, .int (nI mm)), (3, .int x3), (4, .int x4), (5, .int x5)]) hx hb dX1_fromCount_44 hl (by decide) rfl (fun ls hl => ?_)
    refine lv_iload hx hb dX1_fromCount_46 (lv_at hl 1 rfl) ?_
    refine pn_if_eq (tgt := 70) hx hb (by omega) dX1_fromCount_48 (by decide) (fun c_16 => absurd c_16 (by decide)) (fun _ => ?_)
    refine lv_iload hx hb dX1_fromCount_51 (lv_at hl 0 rfl) ?_
    refine pn_if_eq (tgt := 70) hx hb (by omega) dX1_fromCount_53 (by decide) (fun _ => ?_) (fun c_17 => absurd c_17 (by decide))
    refine lv_iconst (v := (-1 : Int32)) hx hb dX1_fromCount_70 (by decide) ?_
    refine lv_istore (lv' := [(8, .int (-1 : Int32)), (7, .int (nI 0)), (6, .int (nI 1)), (0, .ref h1), (1, .int (nI y)), (2, .int (nI mm)), (3, .int x3), (4, .int x4), (5, .int x5)]) hx hb dX1_fromCount_71 hl (by decide) rfl (fun ls hl => ?_)
    refine lv_aload_n hx hb dX1_fromCount_73 rfl (lv_at hl 3 rfl) ?_
    refine lv_iload hx hb dX1_fromCount_74 (lv_at hl 2 rfl) ?_
    refine pn_if_ne (tgt := 83) hx hb (by omega) dX1_fromCount_76 (by decide) (fun _ => ?_) (fun c_18 => absurd c_18 (by decide))
    refine lv_iload hx hb dX1_fromCount_83 (lv_at hl 1 rfl) ?_
    refine pn_if_ne (tgt := 92) hx hb (by omega) dX1_fromCount_85 (by decide) (fun c_19 => absurd c_19 (by decide)) (fun _ => ?_)
    refine lv_iconst (v := nI 2) hx hb dX1_fromCount_88 (by decide) ?_
    refine lv_goto (tgt := 103) hx hb dX1_fromCount_89 (by decide) ?_
    refine pz_VI (rest := []) (wr := []) ⟨hx, hb, hml, hown, hts⟩ (k_X1_isFine_k l D h1 bc bf bg cyI ts th yr mo da mk wr rc ff gg 2 (by omega) (by omega)) (cwV 1 hts gX1_fromCount_X1_isFine rfl rfl rfl (by decide +kernel) ⟨Nat.le_of_ble_eq_true rfl, Nat.le_of_ble_eq_true rfl⟩) hK hP hD hS hA [0, 1, 2, 3] [] rfl rfl rfl rfl rfl (by decide) 0 1 rfl rfl rfl hl.1 rfl (lv_room (Nat.le_of_ble_eq_true rfl)) dX1_fromCount_103 ⟨Nat.le_of_ble_eq_true rfl, Nat.le_of_ble_eq_true rfl⟩ (fun r u H locs hr hP hD hS => ?_)
    have hP : va_P D vwCl [(h1, .inr (1, [.int (nI 2), .int yr, .int mo, .int da, .int (nI mk), .ref bc, .ref bf, .ref bg, .int (nI wr)])), (bc, .inl (cyI, 366, .inl (pz_ar rc))), (bf, .inl (cyI, 3001, .inl (pz_ar ff))), (bg, .inl (cyI, 3001, .inl (pz_ar gg)))] H := hP
    have hD : va_D A [(h1, .inr (1, [.int (nI 2), .int yr, .int mo, .int da, .int (nI mk), .ref bc, .ref bf, .ref bg, .int (nI wr)])), (bc, .inl (cyI, 366, .inl (pz_ar rc))), (bf, .inl (cyI, 3001, .inl (pz_ar ff))), (bg, .inl (cyI, 3001, .inl (pz_ar gg)))] := hD
    obtain rfl : r = (nI 0) := hr
    refine pn_if_eq (tgt := 114) hx hb (by omega) dX1_fromCount_106 (by decide) (fun _ => ?_) (fun c_21 => absurd c_21 (by decide))
    refine lv_iconst (v := nI 0) hx hb dX1_fromCount_114 (by decide) ?_
    exact hQ _ _ _ _ _ () dX1_fromCount_115 rfl (congrArg nI (by rfl)) hP hD hS
set_option maxHeartbeats 4000000 in
set_option maxRecDepth 100000 in
theorem k_X1_greatestCount_a (l : Launch) (D : va_G) (h1 bc bf bg : Nat) (cyI : ClassId) (ts : List (ClassId × FieldType)) (th yr mo da : Int32) (mk wr : Nat) (rc ff gg : Nat → Nat) (y mm a G z0 : Nat) (hy0 : 1 ≤ y) (hy1 : y ≤ 3000) (hy2 : 1 ≤ mm) (hy3 : mm ≤ 12) (hy4 : a ≤ 2) (hy5 : G ≤ 400) (hG1 : ∀ z, pm_fd y ≤ z → z < pm_fd (y + 1) → pm_ap (pm_pl z) = a → pm_am (pm_pl z) = mm → pm_ct (pm_pl z) ≤ G) (hy7 : pm_fd y ≤ z0) (hy8 : z0 < pm_fd (y + 1)) (hy9 : pm_ap (pm_pl z0) = a) (hy10 : pm_am (pm_pl z0) = mm) (hy11 : pm_ct (pm_pl z0) = G) : pz_I l yX1_greatestCount wsX1_greatestCount ({ frames := 3, cells := 0, slots := 0, locals := 63 } : Room) D ((cyI, .int) :: ts) [.ref h1, .int (nI y), .int (nI mm), .int (nI a)] [(h1, .inr (1, [.int th, .int yr, .int mo, .int da, .int (nI mk), .ref bc, .ref bf, .ref bg, .int (nI wr)])), (bc, .inl (cyI, 366, .inl (pz_ar rc))), (bf, .inl (cyI, 3001, .inl (pz_ar ff))), (bg, .inl (cyI, 3001, .inl (pz_ar gg)))] (S := Int32 × Int32 × Int32) (fun r _ => r = nI G) (fun u => [(h1, .inr (1, [.int (nI 0), .int u.1, .int u.2.1, .int u.2.2, .int (nI mk), .ref bc, .ref bf, .ref bg, .int (nI wr)])), (bc, .inl (cyI, 366, .inl (pz_ar rc))), (bf, .inl (cyI, 3001, .inl (pz_ar ff))), (bg, .inl (cyI, 3001, .inl (pz_ar gg)))]) := by
  refine pz_I_of (cc := cX1_greatestCount) (maxL := 6) (ty := .int) (own := RX1) (by decide) rfl rfl (Nat.le_of_ble_eq_true rfl) ?_
  intro p e s m below meth c A ls Q hx hb hml hown hts hK hP hD hS hA hl hQ
  have hl : lv_has ls 6 [(0, .ref h1), (1, .int (nI y)), (2, .int (nI mm)), (3, .int (nI a))] := hl
  have hf1 := pm_fd_e y
  have hf2 := pm_fd_e (y + 1)
  refine lv_aload_n hx hb dX1_greatestCount_0 rfl (lv_at hl 0 rfl) ?_
  refine lv_iload_n hx hb dX1_greatestCount_1 rfl (lv_at hl 1 rfl) ?_
  refine pz_SR (rest := [.ref h1]) ⟨hx, hb, hml, hown, hts⟩ (k_X1_isYear_a l D ((cyI, .int) :: ts) y (by omega) (by omega)) (va_cwS 1 hts gX1_greatestCount_X1_isYear rfl rfl rfl (by decide +kernel) ⟨Nat.le_of_ble_eq_true rfl, Nat.le_of_ble_eq_true rfl⟩) hK hP (hD.weaken (fun _ _ _ _ => trivial)) hS hA [] rfl rfl rfl rfl hl.1 rfl (lv_room (Nat.le_of_ble_eq_true rfl)) dX1_greatestCount_2 ⟨Nat.le_of_ble_eq_true rfl, Nat.le_of_ble_eq_true rfl⟩ (fun r H locs hr hP hS => ?_)
  obtain rfl : r = (nI 1) := hr
  refine pn_if_eq (tgt := 18) hx hb (by omega) dX1_greatestCount_5 (by decide) (fun c_2 => absurd c_2 (by decide)) (fun _ => ?_)
  refine lv_iload_n hx hb dX1_greatestCount_8 rfl (lv_at hl 2 rfl) ?_
  refine lv_iconst (v := nI 1) hx hb dX1_greatestCount_9 (by decide) ?_
  refine lv_bipush (v := nI 12) hx hb dX1_greatestCount_10 (by decide) ?_
  refine pz_SR (rest := [.ref h1]) ⟨hx, hb, hml, hown, hts⟩ (k_X1_isIn_a l D ((cyI, .int) :: ts) mm 1 12 (by omega) (by omega) (by omega)) (va_cwS 3 hts gX1_greatestCount_X1_isIn rfl rfl rfl (by decide +kernel) ⟨Nat.le_of_ble_eq_true rfl, Nat.le_of_ble_eq_true rfl⟩) hK hP (hD.weaken (fun _ _ _ _ => trivial)) hS hA [] rfl rfl rfl rfl hl.1 rfl (lv_room (Nat.le_of_ble_eq_true rfl)) dX1_greatestCount_12 ⟨Nat.le_of_ble_eq_true rfl, Nat.le_of_ble_eq_true rfl⟩ (fun r H locs hr hP hS => ?_)
  obtain rfl : r = (nI 1) := hr
  refine pn_if_ne (tgt := 22) hx hb (by omega) dX1_greatestCount_15 (by decide) (fun _ => ?_) (fun c_4 => absurd c_4 (by decide))
  refine lv_iload_n hx hb dX1_greatestCount_22 rfl (lv_at hl 3 rfl) ?_
  refine lv_iconst (v := nI 0) hx hb dX1_greatestCount_23 (by decide) ?_
  refine lv_iconst (v := nI 2) hx hb dX1_greatestCount_24 (by decide) ?_
  refine pz_SR (rest := [.ref h1]) ⟨hx, hb, hml, hown, hts⟩ (k_X1_isIn_a l D ((cyI, .int) :: ts) a 0 2 (by omega) (by omega) (by omega)) (va_cwS 3 hts gX1_greatestCount_X1_isIn rfl rfl rfl (by decide +kernel) ⟨Nat.le_of_ble_eq_true rfl, Nat.le_of_ble_eq_true rfl⟩) hK hP (hD.weaken (fun _ _ _ _ => trivial)) hS hA [] rfl rfl rfl rfl hl.1 rfl (lv_room (Nat.le_of_ble_eq_true rfl)) dX1_greatestCount_25 ⟨Nat.le_of_ble_eq_true rfl, Nat.le_of_ble_eq_true rfl⟩ (fun r H locs hr hP hS => ?_)
  obtain rfl : r = (nI 1) := hr
  refine pn_if_ne (tgt := 35) hx hb (by omega) dX1_greatestCount_28 (by decide) (fun _ => ?_) (fun c_6 => absurd c_6 (by decide))
  refine lv_iconst (v := nI 0) hx hb dX1_greatestCount_35 (by decide) ?_
  refine pz_VI (rest := []) (wr := []) ⟨hx, hb, hml, hown, hts⟩ (k_X1_isFine_0 l D h1 bc bf bg cyI ts th yr mo da mk wr rc ff gg  ) (cwV 1 hts gX1_greatestCount_X1_isFine rfl rfl rfl (by decide +kernel) ⟨Nat.le_of_ble_eq_true rfl, Nat.le_of_ble_eq_true rfl⟩) hK hP hD hS hA [0, 1, 2, 3] [] rfl rfl rfl rfl rfl (by decide) 0 1 rfl rfl rfl hl.1 rfl (lv_room (Nat.le_of_ble_eq_true rfl)) dX1_greatestCount_36 ⟨Nat.le_of_ble_eq_true rfl, Nat.le_of_ble_eq_true rfl⟩ (fun r u H locs hr hP hD hS => ?_)
  have hP : va_P D vwCl [(h1, .inr (1, [.int (nI 0), .int yr, .int mo, .int da, .int (nI mk), .ref bc, .ref bf, .ref bg, .int (nI wr)])), (bc, .inl (cyI, 366, .inl (pz_ar rc))), (bf, .inl (cyI, 3001, .inl (pz_ar ff))), (bg, .inl (cyI, 3001, .inl (pz_ar gg)))] H := hP
  have hD : va_D A [(h1, .inr (1, [.int (nI 0), .int yr, .int mo, .int da, .int (nI mk), .ref bc, .ref bf, .ref bg, .int (nI wr)])), (bc, .inl (cyI, 366, .inl (pz_ar rc))), (bf, .inl (cyI, 3001, .inl (pz_ar ff))), (bg, .inl (cyI, 3001, .inl (pz_ar gg)))] := hD
  obtain rfl : r = (nI 1) := hr
  refine pn_if_ne (tgt := 44) hx hb (by omega) dX1_greatestCount_39 (by decide) (fun _ => ?_) (fun c_8 => absurd c_8 (by decide))
  refine lv_iconst (v := nI 0) hx hb dX1_greatestCount_44 (by decide) ?_
  refine lv_istore (lv' := [(4, .int (nI 0)), (0, .ref h1), (1, .int (nI y)), (2, .int (nI mm)), (3, .int (nI a))]) hx hb dX1_greatestCount_45 hl (by decide) rfl (fun ls hl => ?_)
  refine lv_iload_n hx hb dX1_greatestCount_47 rfl (lv_at hl 2 rfl) ?_
  refine pz_SR (rest := []) ⟨hx, hb, hml, hown, hts⟩ (k_X1_begin l D ((cyI, .int) :: ts) y (by omega) (by omega)) (va_cwS 1 hts gX1_greatestCount_X1_begin rfl rfl rfl (by decide +kernel) ⟨Nat.le_of_ble_eq_true rfl, Nat.le_of_ble_eq_true rfl⟩) hK hP (hD.weaken (fun _ _ _ _ => trivial)) hS hA [] rfl rfl rfl rfl hl.1 rfl (lv_room (Nat.le_of_ble_eq_true rfl)) dX1_greatestCount_48 ⟨Nat.le_of_ble_eq_true rfl, Nat.le_of_ble_eq_true rfl⟩ (fun r H locs hr hP hS => ?_)
  obtain rfl : r = (nI (pm_fd y)) := hr
  have hf_10 := pm_fd_e y
  refine lv_istore (lv' := [(5, .int (nI (pm_fd y))), (4, .int (nI 0)), (0, .ref h1), (1, .int (nI y)), (2, .int (nI mm)), (3, .int (nI a))]) hx hb dX1_greatestCount_51 hl (by decide) rfl (fun ls hl => ?_)
  have LP53 : ∀ (N : Nat) (z : Nat) (q : Nat) (y2 : Int32) (m2 : Int32) (d2 : Int32) (H : Heap) (locs : List Loc) (ls : Array Slot), pm_fd (y + 1) - z < N → (pm_fd y ≤ z) → (z ≤ pm_fd (y + 1)) → (q ≤ G) → (z0 < z → G ≤ q) → va_P D vwCl [(h1, .inr (1, [.int (nI 0), .int y2, .int m2, .int d2, .int (nI mk), .ref bc, .ref bf, .ref bg, .int (nI wr)])), (bc, .inl (cyI, 366, .inl (pz_ar rc))), (bf, .inl (cyI, 3001, .inl (pz_ar ff))), (bg, .inl (cyI, 3001, .inl (pz_ar gg)))] H → va_D A [(h1, .inr (1, [.int (nI 0), .int y2, .int m2, .int d2, .int (nI mk), .ref bc, .ref bf, .ref bg, .int (nI wr)])), (bc, .inl (cyI, 366, .inl (pz_ar rc))), (bf, .inl (cyI, 3001, .inl (pz_ar ff))), (bg, .inl (cyI, 3001, .inl (pz_ar gg)))] → va_S A s.heap H locs → lv_has ls 6 [(4, .int (nI q)), (5, .int (nI z)), (0, .ref h1), (1, .int (nI y)), (2, .int (nI mm)), (3, .int (nI a))] → W p l e ({ frames := 3, cells := 0, slots := 0, locals := 63 } : Room) s m ([.ref h1, .int (nI y), .int (nI mm), .int (nI a)] : List Value).toArray below meth c H locs 0 0 Q (F0 m 53 ls []) := by
    intro N
    induction N with
    | zero => intro z q y2 m2 d2 H locs ls hN; exact absurd hN (Nat.not_lt_zero _)
    | succ N ih =>
      intro z q y2 m2 d2 H locs ls hN hi53_0 hi53_1 hi53_2 hi53_3 hP hD hS hl
      have hz_0 : z < pm_fd (y + 1) → pm_ap (pm_pl z) = a → pm_am (pm_pl z) = mm → pm_ct (pm_pl z) ≤ G := hG1 z hi53_0
      have he_0 : z = z0 → pm_ap (pm_pl z) = a ∧ pm_am (pm_pl z) = mm ∧ pm_ct (pm_pl z) = G := fun h9 => by rw [h9]; exact ⟨by assumption, by assumption, by assumption⟩
      have ih53 := ih
      refine lv_iload hx hb dX1_greatestCount_53 (lv_at hl 1 rfl) ?_
      refine lv_iload_n hx hb dX1_greatestCount_55 rfl (lv_at hl 3 rfl) ?_
      refine lv_iconst (v := nI 1) hx hb dX1_greatestCount_56 (by decide) ?_
      refine pn_iadd hx hb dX1_greatestCount_57 ?_
      refine pz_SR (rest := [.int (nI z)]) ⟨hx, hb, hml, hown, hts⟩ (k_X1_begin l D ((cyI, .int) :: ts) (y + 1) (by omega) (by omega)) (va_cwS 1 hts gX1_greatestCount_X1_begin rfl rfl rfl (by decide +kernel) ⟨Nat.le_of_ble_eq_true rfl, Nat.le_of_ble_eq_true rfl⟩) hK hP (hD.weaken (fun _ _ _ _ => trivial)) hS hA [] rfl rfl rfl rfl hl.1 rfl (lv_room (Nat.le_of_ble_eq_true rfl)) dX1_greatestCount_58 ⟨Nat.le_of_ble_eq_true rfl, Nat.le_of_ble_eq_true rfl⟩ (fun r H locs hr hP hS => ?_)
      obtain rfl : r = (nI (pm_fd (y + 1))) := hr
      have hf_12 := pm_fd_e (y + 1)
      refine pn_icmp_ge (tgt := 112) hx hb (by omega) (by omega) dX1_greatestCount_61 (by decide) (fun c_13 => ?_) (fun c_13 => ?_)
      · -- 61 yes
        refine lv_iload hx hb dX1_greatestCount_112 (lv_at hl 0 rfl) ?_
        exact hQ _ _ _ _ _ (y2, m2, d2) dX1_greatestCount_114 rfl (congrArg nI (by omega)) hP hD hS
      · -- 61 no
        refine lv_aload_n hx hb dX1_greatestCount_64 rfl (lv_at hl 2 rfl) ?_
        refine lv_iload hx hb dX1_greatestCount_65 (lv_at hl 1 rfl) ?_
        refine pz_VV (rest := []) (wr := []) ⟨hx, hb, hml, hown, hts⟩ (k_X1_splits l D h1 bc bf bg cyI ts (nI 0) y2 m2 d2 mk wr rc ff gg z (by omega)) (cwV 1 hts gX1_greatestCount_X1_splits rfl rfl rfl (by decide +kernel) ⟨Nat.le_of_ble_eq_true rfl, Nat.le_of_ble_eq_true rfl⟩) hK hP hD hS hA [0, 1, 2, 3] [] rfl rfl rfl rfl rfl (by decide) 0 1 rfl rfl rfl hl.1 rfl (lv_room (Nat.le_of_ble_eq_true rfl)) dX1_greatestCount_67 ⟨Nat.le_of_ble_eq_true rfl, Nat.le_of_ble_eq_true rfl⟩ (fun u H locs hr hP hD hS => ?_)
        have hP : va_P D vwCl [(h1, .inr (1, [.int (nI 0), .int (nI (pm_yr z)), .int (nI (pm_mo z)), .int (nI (pm_da z)), .int (nI mk), .ref bc, .ref bf, .ref bg, .int (nI wr)])), (bc, .inl (cyI, 366, .inl (pz_ar rc))), (bf, .inl (cyI, 3001, .inl (pz_ar ff))), (bg, .inl (cyI, 3001, .inl (pz_ar gg)))] H := hP
        have hD : va_D A [(h1, .inr (1, [.int (nI 0), .int (nI (pm_yr z)), .int (nI (pm_mo z)), .int (nI (pm_da z)), .int (nI mk), .ref bc, .ref bf, .ref bg, .int (nI wr)])), (bc, .inl (cyI, 366, .inl (pz_ar rc))), (bf, .inl (cyI, 3001, .inl (pz_ar ff))), (bg, .inl (cyI, 3001, .inl (pz_ar gg)))] := hD
        have hr_14 := hr
        refine lv_aload_n hx hb dX1_greatestCount_70 rfl (lv_at hl 2 rfl) ?_
        refine pz_VR (rest := []) ⟨hx, hb, hml, hown, hts⟩ (k_X1_anchorNow l D h1 bc bf bg cyI ts (nI 0) mk wr rc ff gg z (by omega)) (cwV 0 hts gX1_greatestCount_X1_anchorNow rfl rfl rfl (by decide +kernel) ⟨Nat.le_of_ble_eq_true rfl, Nat.le_of_ble_eq_true rfl⟩) hK hP (hD.weaken (fun _ _ _ _ => trivial)) hS hA [0, 1, 2, 3] rfl rfl rfl 0 1 rfl rfl rfl hl.1 rfl (lv_room (Nat.le_of_ble_eq_true rfl)) dX1_greatestCount_71 ⟨Nat.le_of_ble_eq_true rfl, Nat.le_of_ble_eq_true rfl⟩ (fun r H locs hr hP hS => ?_)
        obtain rfl : r = (nI (pm_ap (pm_pl z))) := hr
        have hf_16 := pm_ap_b (pm_pl z)
        refine lv_iload_n hx hb dX1_greatestCount_74 rfl (lv_at hl 5 rfl) ?_
        refine pn_icmp_ne (tgt := 102) hx hb (by omega) (by omega) dX1_greatestCount_75 (by decide) (fun c_17 => ?_) (fun c_17 => ?_)
        · -- 75 yes
          refine lv_iload hx hb dX1_greatestCount_102 (lv_at hl 0 rfl) ?_
          refine lv_istore (lv' := [(4, .int (nI q)), (5, .int (nI z)), (0, .ref h1), (1, .int (nI y)), (2, .int (nI mm)), (3, .int (nI a))]) hx hb dX1_greatestCount_104 hl (by decide) rfl (fun ls hl => ?_)
          refine lv_iinc (v := (nI (z + 1))) (lv' := [(5, .int (nI (z + 1))), (4, .int (nI q)), (0, .ref h1), (1, .int (nI y)), (2, .int (nI mm)), (3, .int (nI a))]) hx hb dX1_greatestCount_106 hl (k := 1) rfl (by exact nI_add _ 1) (by decide) rfl (fun ls hl => ?_)
          refine lv_goto (tgt := 53) hx hb dX1_greatestCount_109 (by decide) ?_
          exact ih53 (z + 1) q (nI (pm_yr z)) (nI (pm_mo z)) (nI (pm_da z)) _ _ _ (by omega) (by omega) (by omega) (by omega) (by omega) hP hD hS (lv_sub hl [1, 0, 2, 3, 4, 5] rfl)
        · -- 75 no
          refine lv_aload_n hx hb dX1_greatestCount_78 rfl (lv_at hl 2 rfl) ?_
          refine pz_VR (rest := []) ⟨hx, hb, hml, hown, hts⟩ (k_X1_anchorMonthNow l D h1 bc bf bg cyI ts (nI 0) mk wr rc ff gg z (by omega)) (cwV 0 hts gX1_greatestCount_X1_anchorMonthNow rfl rfl rfl (by decide +kernel) ⟨Nat.le_of_ble_eq_true rfl, Nat.le_of_ble_eq_true rfl⟩) hK hP (hD.weaken (fun _ _ _ _ => trivial)) hS hA [0, 1, 2, 3] rfl rfl rfl 0 1 rfl rfl rfl hl.1 rfl (lv_room (Nat.le_of_ble_eq_true rfl)) dX1_greatestCount_79 ⟨Nat.le_of_ble_eq_true rfl, Nat.le_of_ble_eq_true rfl⟩ (fun r H locs hr hP hS => ?_)
          obtain rfl : r = (nI (pm_am (pm_pl z))) := hr
          have hf_19 := pm_am_b (pm_pl z)
          refine lv_iload_n hx hb dX1_greatestCount_82 rfl (lv_at hl 4 rfl) ?_
          refine pn_icmp_ne (tgt := 102) hx hb (by omega) (by omega) dX1_greatestCount_83 (by decide) (fun c_20 => ?_) (fun c_20 => ?_)
          · -- 83 yes
            refine lv_iload hx hb dX1_greatestCount_102 (lv_at hl 0 rfl) ?_
            refine lv_istore (lv' := [(4, .int (nI q)), (5, .int (nI z)), (0, .ref h1), (1, .int (nI y)), (2, .int (nI mm)), (3, .int (nI a))]) hx hb dX1_greatestCount_104 hl (by decide) rfl (fun ls hl => ?_)
            refine lv_iinc (v := (nI (z + 1))) (lv' := [(5, .int (nI (z + 1))), (4, .int (nI q)), (0, .ref h1), (1, .int (nI y)), (2, .int (nI mm)), (3, .int (nI a))]) hx hb dX1_greatestCount_106 hl (k := 1) rfl (by exact nI_add _ 1) (by decide) rfl (fun ls hl => ?_)
            refine lv_goto (tgt := 53) hx hb dX1_greatestCount_109 (by decide) ?_
            exact ih53 (z + 1) q (nI (pm_yr z)) (nI (pm_mo z)) (nI (pm_da z)) _ _ _ (by omega) (by omega) (by omega) (by omega) (by omega) hP hD hS (lv_sub hl [1, 0, 2, 3, 4, 5] rfl)
          · -- 83 no
            refine lv_aload_n hx hb dX1_greatestCount_86 rfl (lv_at hl 2 rfl) ?_
            refine pz_VR (rest := []) ⟨hx, hb, hml, hown, hts⟩ (k_X1_countNow l D h1 bc bf bg cyI ts (nI 0) mk wr rc ff gg z (by omega)) (cwV 0 hts gX1_greatestCount_X1_countNow rfl rfl rfl (by decide +kernel) ⟨Nat.le_of_ble_eq_true rfl, Nat.le_of_ble_eq_true rfl⟩) hK hP (hD.weaken (fun _ _ _ _ => trivial)) hS hA [0, 1, 2, 3] rfl rfl rfl 0 1 rfl rfl rfl hl.1 rfl (lv_room (Nat.le_of_ble_eq_true rfl)) dX1_greatestCount_87 ⟨Nat.le_of_ble_eq_true rfl, Nat.le_of_ble_eq_true rfl⟩ (fun r H locs hr hP hS => ?_)
            obtain rfl : r = (nI (pm_ct (pm_pl z))) := hr
            have hf_22 := pm_ct_b2 z
            refine lv_iload hx hb dX1_greatestCount_90 (lv_at hl 0 rfl) ?_
            refine pn_icmp_le (tgt := 102) hx hb (by omega) (by omega) dX1_greatestCount_92 (by decide) (fun c_23 => ?_) (fun c_23 => ?_)
            · -- 92 yes
              refine lv_iload hx hb dX1_greatestCount_102 (lv_at hl 0 rfl) ?_
              refine lv_istore (lv' := [(4, .int (nI q)), (5, .int (nI z)), (0, .ref h1), (1, .int (nI y)), (2, .int (nI mm)), (3, .int (nI a))]) hx hb dX1_greatestCount_104 hl (by decide) rfl (fun ls hl => ?_)
              refine lv_iinc (v := (nI (z + 1))) (lv' := [(5, .int (nI (z + 1))), (4, .int (nI q)), (0, .ref h1), (1, .int (nI y)), (2, .int (nI mm)), (3, .int (nI a))]) hx hb dX1_greatestCount_106 hl (k := 1) rfl (by exact nI_add _ 1) (by decide) rfl (fun ls hl => ?_)
              refine lv_goto (tgt := 53) hx hb dX1_greatestCount_109 (by decide) ?_
              exact ih53 (z + 1) q (nI (pm_yr z)) (nI (pm_mo z)) (nI (pm_da z)) _ _ _ (by omega) (by omega) (by omega) (by omega) (by omega) hP hD hS (lv_sub hl [1, 0, 2, 3, 4, 5] rfl)
            · -- 92 no
              refine lv_aload_n hx hb dX1_greatestCount_95 rfl (lv_at hl 2 rfl) ?_
              refine pz_VR (rest := []) ⟨hx, hb, hml, hown, hts⟩ (k_X1_countNow l D h1 bc bf bg cyI ts (nI 0) mk wr rc ff gg z (by omega)) (cwV 0 hts gX1_greatestCount_X1_countNow rfl rfl rfl (by decide +kernel) ⟨Nat.le_of_ble_eq_true rfl, Nat.le_of_ble_eq_true rfl⟩) hK hP (hD.weaken (fun _ _ _ _ => trivial)) hS hA [0, 1, 2, 3] rfl rfl rfl 0 1 rfl rfl rfl hl.1 rfl (lv_room (Nat.le_of_ble_eq_true rfl)) dX1_greatestCount_96 ⟨Nat.le_of_ble_eq_true rfl, Nat.le_of_ble_eq_true rfl⟩ (fun r H locs hr hP hS => ?_)
              obtain rfl : r = (nI (pm_ct (pm_pl z))) := hr
              have hf_25 := pm_ct_b2 z
              refine lv_goto (tgt := 104) hx hb dX1_greatestCount_99 (by decide) ?_
              refine lv_istore (lv' := [(4, .int (nI (pm_ct (pm_pl z)))), (5, .int (nI z)), (0, .ref h1), (1, .int (nI y)), (2, .int (nI mm)), (3, .int (nI a))]) hx hb dX1_greatestCount_104 hl (by decide) rfl (fun ls hl => ?_)
              refine lv_iinc (v := (nI (z + 1))) (lv' := [(5, .int (nI (z + 1))), (4, .int (nI (pm_ct (pm_pl z)))), (0, .ref h1), (1, .int (nI y)), (2, .int (nI mm)), (3, .int (nI a))]) hx hb dX1_greatestCount_106 hl (k := 1) rfl (by exact nI_add _ 1) (by decide) rfl (fun ls hl => ?_)
              refine lv_goto (tgt := 53) hx hb dX1_greatestCount_109 (by decide) ?_
              exact ih53 (z + 1) (pm_ct (pm_pl z)) (nI (pm_yr z)) (nI (pm_mo z)) (nI (pm_da z)) _ _ _ (by omega) (by omega) (by omega) (by omega) (by omega) hP hD hS (lv_sub hl [1, 0, 2, 3, 4, 5] rfl)
  exact LP53 _ (pm_fd y) 0 yr mo da _ _ _ (Nat.lt_succ_self _) (by omega) (by omega) (by omega) (by omega) hP hD hS (lv_sub hl [1, 0, 2, 3, 4, 5] rfl)
set_option maxHeartbeats 4000000 in
set_option maxRecDepth 100000 in
theorem k_X1_greatestCount_x (l : Launch) (D : va_G) (h1 bc bf bg : Nat) (cyI : ClassId) (ts : List (ClassId × FieldType)) (th yr mo da : Int32) (mk wr : Nat) (rc ff gg : Nat → Nat) (x1 x2 x3 : Int32) (hy0 : ¬ (1 ≤ x1.toInt ∧ x1.toInt ≤ 3000 ∧ 1 ≤ x2.toInt ∧ x2.toInt ≤ 12)) : pz_I l yX1_greatestCount wsX1_greatestCount ({ frames := 3, cells := 0, slots := 0, locals := 63 } : Room) D ((cyI, .int) :: ts) [.ref h1, .int x1, .int x2, .int x3] [(h1, .inr (1, [.int th, .int yr, .int mo, .int da, .int (nI mk), .ref bc, .ref bf, .ref bg, .int (nI wr)])), (bc, .inl (cyI, 366, .inl (pz_ar rc))), (bf, .inl (cyI, 3001, .inl (pz_ar ff))), (bg, .inl (cyI, 3001, .inl (pz_ar gg)))] (S := Unit) (fun r _ => r = nI 0) (fun _ => [(h1, .inr (1, [.int (nI 1), .int yr, .int mo, .int da, .int (nI mk), .ref bc, .ref bf, .ref bg, .int (nI wr)])), (bc, .inl (cyI, 366, .inl (pz_ar rc))), (bf, .inl (cyI, 3001, .inl (pz_ar ff))), (bg, .inl (cyI, 3001, .inl (pz_ar gg)))]) := by
  refine pz_I_of (cc := cX1_greatestCount) (maxL := 6) (ty := .int) (own := RX1) (by decide) rfl rfl (Nat.le_of_ble_eq_true rfl) ?_
  intro p e s m below meth c A ls Q hx hb hml hown hts hK hP hD hS hA hl hQ
  have hl : lv_has ls 6 [(0, .ref h1), (1, .int x1), (2, .int x2), (3, .int x3)] := hl
  refine lv_aload_n hx hb dX1_greatestCount_0 rfl (lv_at hl 0 rfl) ?_
  refine lv_iload_n hx hb dX1_greatestCount_1 rfl (lv_at hl 1 rfl) ?_
  rcases pz_rng x1 1 3000 (by decide) with ⟨y, hl_y, hh_y, rfl⟩ | hb_x1
  · -- in range
    have ei_y : (nI y).toInt = (y : Int) := nI_toInt (by omega)
    simp only [ei_y, Int.toNat_natCast] at hy0
    refine pz_SR (rest := [.ref h1]) ⟨hx, hb, hml, hown, hts⟩ (k_X1_isYear_a l D ((cyI, .int) :: ts) y (by omega) (by omega)) (va_cwS 1 hts gX1_greatestCount_X1_isYear rfl rfl rfl (by decide +kernel) ⟨Nat.le_of_ble_eq_true rfl, Nat.le_of_ble_eq_true rfl⟩) hK hP (hD.weaken (fun _ _ _ _ => trivial)) hS hA [] rfl rfl rfl rfl hl.1 rfl (lv_room (Nat.le_of_ble_eq_true rfl)) dX1_greatestCount_2 ⟨Nat.le_of_ble_eq_true rfl, Nat.le_of_ble_eq_true rfl⟩ (fun r H locs hr hP hS => ?_)
    obtain rfl : r = (nI 1) := hr
    refine pn_if_eq (tgt := 18) hx hb (by omega) dX1_greatestCount_5 (by decide) (fun c_2 => absurd c_2 (by decide)) (fun _ => ?_)
    refine lv_iload_n hx hb dX1_greatestCount_8 rfl (lv_at hl 2 rfl) ?_
    refine lv_iconst (v := nI 1) hx hb dX1_greatestCount_9 (by decide) ?_
    refine lv_bipush (v := nI 12) hx hb dX1_greatestCount_10 (by decide) ?_
    refine pz_SR (rest := [.ref h1]) ⟨hx, hb, hml, hown, hts⟩ (k_X1_isIn_x l D ((cyI, .int) :: ts) x2 1 12 (by omega) (by omega) (by omega)) (va_cwS 3 hts gX1_greatestCount_X1_isIn rfl rfl rfl (by decide +kernel) ⟨Nat.le_of_ble_eq_true rfl, Nat.le_of_ble_eq_true rfl⟩) hK hP (hD.weaken (fun _ _ _ _ => trivial)) hS hA [] rfl rfl rfl rfl hl.1 rfl (lv_room (Nat.le_of_ble_eq_true rfl)) dX1_greatestCount_12 ⟨Nat.le_of_ble_eq_true rfl, Nat.le_of_ble_eq_true rfl⟩ (fun r H locs hr hP hS => ?_)
    obtain rfl : r = (nI 0) := hr
    refine pn_if_ne (tgt := 22) hx hb (by omega) dX1_greatestCount_15 (by decide) (fun c_4 => absurd c_4 (by decide)) (fun _ => ?_)
    refine lv_iconst (v := nI 1) hx hb dX1_greatestCount_18 (by decide) ?_
    refine lv_goto (tgt := 36) hx hb dX1_greatestCount_19 (by decide) ?_
    refine pz_VI (rest := []) (wr := []) ⟨hx, hb, hml, hown, hts⟩ (k_X1_isFine_k l D h1 bc bf bg cyI ts th yr mo da mk wr rc ff gg 1 (by omega) (by omega)) (cwV 1 hts gX1_greatestCount_X1_isFine rfl rfl rfl (by decide +kernel) ⟨Nat.le_of_ble_eq_true rfl, Nat.le_of_ble_eq_true rfl⟩) hK hP hD hS hA [0, 1, 2, 3] [] rfl rfl rfl rfl rfl (by decide) 0 1 rfl rfl rfl hl.1 rfl (lv_room (Nat.le_of_ble_eq_true rfl)) dX1_greatestCount_36 ⟨Nat.le_of_ble_eq_true rfl, Nat.le_of_ble_eq_true rfl⟩ (fun r u H locs hr hP hD hS => ?_)
    have hP : va_P D vwCl [(h1, .inr (1, [.int (nI 1), .int yr, .int mo, .int da, .int (nI mk), .ref bc, .ref bf, .ref bg, .int (nI wr)])), (bc, .inl (cyI, 366, .inl (pz_ar rc))), (bf, .inl (cyI, 3001, .inl (pz_ar ff))), (bg, .inl (cyI, 3001, .inl (pz_ar gg)))] H := hP
    have hD : va_D A [(h1, .inr (1, [.int (nI 1), .int yr, .int mo, .int da, .int (nI mk), .ref bc, .ref bf, .ref bg, .int (nI wr)])), (bc, .inl (cyI, 366, .inl (pz_ar rc))), (bf, .inl (cyI, 3001, .inl (pz_ar ff))), (bg, .inl (cyI, 3001, .inl (pz_ar gg)))] := hD
    obtain rfl : r = (nI 0) := hr
    refine pn_if_ne (tgt := 44) hx hb (by omega) dX1_greatestCount_39 (by decide) (fun c_6 => absurd c_6 (by decide)) (fun _ => ?_)
    refine lv_iconst (v := nI 0) hx hb dX1_greatestCount_42 (by decide) ?_
    exact hQ _ _ _ _ _ () dX1_greatestCount_43 rfl (congrArg nI (by rfl)) hP hD hS
  · -- outside
    refine pz_SR (rest := [.ref h1]) ⟨hx, hb, hml, hown, hts⟩ (k_X1_isYear_x l D ((cyI, .int) :: ts) x1 (by omega)) (va_cwS 1 hts gX1_greatestCount_X1_isYear rfl rfl rfl (by decide +kernel) ⟨Nat.le_of_ble_eq_true rfl, Nat.le_of_ble_eq_true rfl⟩) hK hP (hD.weaken (fun _ _ _ _ => trivial)) hS hA [] rfl rfl rfl rfl hl.1 rfl (lv_room (Nat.le_of_ble_eq_true rfl)) dX1_greatestCount_2 ⟨Nat.le_of_ble_eq_true rfl, Nat.le_of_ble_eq_true rfl⟩ (fun r H locs hr hP hS => ?_)
    obtain rfl : r = (nI 0) := hr
    refine pn_if_eq (tgt := 18) hx hb (by omega) dX1_greatestCount_5 (by decide) (fun _ => ?_) (fun c_8 => absurd c_8 (by decide))
    refine lv_iconst (v := nI 1) hx hb dX1_greatestCount_18 (by decide) ?_
    refine lv_goto (tgt := 36) hx hb dX1_greatestCount_19 (by decide) ?_
    refine pz_VI (rest := []) (wr := []) ⟨hx, hb, hml, hown, hts⟩ (k_X1_isFine_k l D h1 bc bf bg cyI ts th yr mo da mk wr rc ff gg 1 (by omega) (by omega)) (cwV 1 hts gX1_greatestCount_X1_isFine rfl rfl rfl (by decide +kernel) ⟨Nat.le_of_ble_eq_true rfl, Nat.le_of_ble_eq_true rfl⟩) hK hP hD hS hA [0, 1, 2, 3] [] rfl rfl rfl rfl rfl (by decide) 0 1 rfl rfl rfl hl.1 rfl (lv_room (Nat.le_of_ble_eq_true rfl)) dX1_greatestCount_36 ⟨Nat.le_of_ble_eq_true rfl, Nat.le_of_ble_eq_true rfl⟩ (fun r u H locs hr hP hD hS => ?_)
    have hP : va_P D vwCl [(h1, .inr (1, [.int (nI 1), .int yr, .int mo, .int da, .int (nI mk), .ref bc, .ref bf, .ref bg, .int (nI wr)])), (bc, .inl (cyI, 366, .inl (pz_ar rc))), (bf, .inl (cyI, 3001, .inl (pz_ar ff))), (bg, .inl (cyI, 3001, .inl (pz_ar gg)))] H := hP
    have hD : va_D A [(h1, .inr (1, [.int (nI 1), .int yr, .int mo, .int da, .int (nI mk), .ref bc, .ref bf, .ref bg, .int (nI wr)])), (bc, .inl (cyI, 366, .inl (pz_ar rc))), (bf, .inl (cyI, 3001, .inl (pz_ar ff))), (bg, .inl (cyI, 3001, .inl (pz_ar gg)))] := hD
    obtain rfl : r = (nI 0) := hr
    refine pn_if_ne (tgt := 44) hx hb (by omega) dX1_greatestCount_39 (by decide) (fun c_10 => absurd c_10 (by decide)) (fun _ => ?_)
    refine lv_iconst (v := nI 0) hx hb dX1_greatestCount_42 (by decide) ?_
    exact hQ _ _ _ _ _ () dX1_greatestCount_43 rfl (congrArg nI (by rfl)) hP hD hS
set_option maxHeartbeats 4000000 in
set_option maxRecDepth 100000 in
theorem k_X1_greatestCount_x2 (l : Launch) (D : va_G) (h1 bc bf bg : Nat) (cyI : ClassId) (ts : List (ClassId × FieldType)) (th yr mo da : Int32) (mk wr : Nat) (rc ff gg : Nat → Nat) (y mm : Nat) (x : Int32) (hy0 : 1 ≤ y) (hy1 : y ≤ 3000) (hy2 : 1 ≤ mm) (hy3 : mm ≤ 12) (hy4 : x.toInt < 0 ∨ 2 < x.toInt) : pz_I l yX1_greatestCount wsX1_greatestCount ({ frames := 3, cells := 0, slots := 0, locals := 63 } : Room) D ((cyI, .int) :: ts) [.ref h1, .int (nI y), .int (nI mm), .int x] [(h1, .inr (1, [.int th, .int yr, .int mo, .int da, .int (nI mk), .ref bc, .ref bf, .ref bg, .int (nI wr)])), (bc, .inl (cyI, 366, .inl (pz_ar rc))), (bf, .inl (cyI, 3001, .inl (pz_ar ff))), (bg, .inl (cyI, 3001, .inl (pz_ar gg)))] (S := Unit) (fun r _ => r = nI 0) (fun _ => [(h1, .inr (1, [.int (nI 2), .int yr, .int mo, .int da, .int (nI mk), .ref bc, .ref bf, .ref bg, .int (nI wr)])), (bc, .inl (cyI, 366, .inl (pz_ar rc))), (bf, .inl (cyI, 3001, .inl (pz_ar ff))), (bg, .inl (cyI, 3001, .inl (pz_ar gg)))]) := by
  refine pz_I_of (cc := cX1_greatestCount) (maxL := 6) (ty := .int) (own := RX1) (by decide) rfl rfl (Nat.le_of_ble_eq_true rfl) ?_
  intro p e s m below meth c A ls Q hx hb hml hown hts hK hP hD hS hA hl hQ
  have hl : lv_has ls 6 [(0, .ref h1), (1, .int (nI y)), (2, .int (nI mm)), (3, .int x)] := hl
  refine lv_aload_n hx hb dX1_greatestCount_0 rfl (lv_at hl 0 rfl) ?_
  refine lv_iload_n hx hb dX1_greatestCount_1 rfl (lv_at hl 1 rfl) ?_
  refine pz_SR (rest := [.ref h1]) ⟨hx, hb, hml, hown, hts⟩ (k_X1_isYear_a l D ((cyI, .int) :: ts) y (by omega) (by omega)) (va_cwS 1 hts gX1_greatestCount_X1_isYear rfl rfl rfl (by decide +kernel) ⟨Nat.le_of_ble_eq_true rfl, Nat.le_of_ble_eq_true rfl⟩) hK hP (hD.weaken (fun _ _ _ _ => trivial)) hS hA [] rfl rfl rfl rfl hl.1 rfl (lv_room (Nat.le_of_ble_eq_true rfl)) dX1_greatestCount_2 ⟨Nat.le_of_ble_eq_true rfl, Nat.le_of_ble_eq_true rfl⟩ (fun r H locs hr hP hS => ?_)
  obtain rfl : r = (nI 1) := hr
  refine pn_if_eq (tgt := 18) hx hb (by omega) dX1_greatestCount_5 (by decide) (fun c_2 => absurd c_2 (by decide)) (fun _ => ?_)
  refine lv_iload_n hx hb dX1_greatestCount_8 rfl (lv_at hl 2 rfl) ?_
  refine lv_iconst (v := nI 1) hx hb dX1_greatestCount_9 (by decide) ?_
  refine lv_bipush (v := nI 12) hx hb dX1_greatestCount_10 (by decide) ?_
  refine pz_SR (rest := [.ref h1]) ⟨hx, hb, hml, hown, hts⟩ (k_X1_isIn_a l D ((cyI, .int) :: ts) mm 1 12 (by omega) (by omega) (by omega)) (va_cwS 3 hts gX1_greatestCount_X1_isIn rfl rfl rfl (by decide +kernel) ⟨Nat.le_of_ble_eq_true rfl, Nat.le_of_ble_eq_true rfl⟩) hK hP (hD.weaken (fun _ _ _ _ => trivial)) hS hA [] rfl rfl rfl rfl hl.1 rfl (lv_room (Nat.le_of_ble_eq_true rfl)) dX1_greatestCount_12 ⟨Nat.le_of_ble_eq_true rfl, Nat.le_of_ble_eq_true rfl⟩ (fun r H locs hr hP hS => ?_)
  obtain rfl : r = (nI 1) := hr
  refine pn_if_ne (tgt := 22) hx hb (by omega) dX1_greatestCount_15 (by decide) (fun _ => ?_) (fun c_4 => absurd c_4 (by decide))
  refine lv_iload_n hx hb dX1_greatestCount_22 rfl (lv_at hl 3 rfl) ?_
  refine lv_iconst (v := nI 0) hx hb dX1_greatestCount_23 (by decide) ?_
  refine lv_iconst (v := nI 2) hx hb dX1_greatestCount_24 (by decide) ?_
  refine pz_SR (rest := [.ref h1]) ⟨hx, hb, hml, hown, hts⟩ (k_X1_isIn_x l D ((cyI, .int) :: ts) x 0 2 (by omega) (by omega) (by omega)) (va_cwS 3 hts gX1_greatestCount_X1_isIn rfl rfl rfl (by decide +kernel) ⟨Nat.le_of_ble_eq_true rfl, Nat.le_of_ble_eq_true rfl⟩) hK hP (hD.weaken (fun _ _ _ _ => trivial)) hS hA [] rfl rfl rfl rfl hl.1 rfl (lv_room (Nat.le_of_ble_eq_true rfl)) dX1_greatestCount_25 ⟨Nat.le_of_ble_eq_true rfl, Nat.le_of_ble_eq_true rfl⟩ (fun r H locs hr hP hS => ?_)
  obtain rfl : r = (nI 0) := hr
  refine pn_if_ne (tgt := 35) hx hb (by omega) dX1_greatestCount_28 (by decide) (fun c_6 => absurd c_6 (by decide)) (fun _ => ?_)
  refine lv_iconst (v := nI 2) hx hb dX1_greatestCount_31 (by decide) ?_
  refine lv_goto (tgt := 36) hx hb dX1_greatestCount_32 (by decide) ?_
  refine pz_VI (rest := []) (wr := []) ⟨hx, hb, hml, hown, hts⟩ (k_X1_isFine_k l D h1 bc bf bg cyI ts th yr mo da mk wr rc ff gg 2 (by omega) (by omega)) (cwV 1 hts gX1_greatestCount_X1_isFine rfl rfl rfl (by decide +kernel) ⟨Nat.le_of_ble_eq_true rfl, Nat.le_of_ble_eq_true rfl⟩) hK hP hD hS hA [0, 1, 2, 3] [] rfl rfl rfl rfl rfl (by decide) 0 1 rfl rfl rfl hl.1 rfl (lv_room (Nat.le_of_ble_eq_true rfl)) dX1_greatestCount_36 ⟨Nat.le_of_ble_eq_true rfl, Nat.le_of_ble_eq_true rfl⟩ (fun r u H locs hr hP hD hS => ?_)
  have hP : va_P D vwCl [(h1, .inr (1, [.int (nI 2), .int yr, .int mo, .int da, .int (nI mk), .ref bc, .ref bf, .ref bg, .int (nI wr)])), (bc, .inl (cyI, 366, .inl (pz_ar rc))), (bf, .inl (cyI, 3001, .inl (pz_ar ff))), (bg, .inl (cyI, 3001, .inl (pz_ar gg)))] H := hP
  have hD : va_D A [(h1, .inr (1, [.int (nI 2), .int yr, .int mo, .int da, .int (nI mk), .ref bc, .ref bf, .ref bg, .int (nI wr)])), (bc, .inl (cyI, 366, .inl (pz_ar rc))), (bf, .inl (cyI, 3001, .inl (pz_ar ff))), (bg, .inl (cyI, 3001, .inl (pz_ar gg)))] := hD
  obtain rfl : r = (nI 0) := hr
  refine pn_if_ne (tgt := 44) hx hb (by omega) dX1_greatestCount_39 (by decide) (fun c_8 => absurd c_8 (by decide)) (fun _ => ?_)
  refine lv_iconst (v := nI 0) hx hb dX1_greatestCount_42 (by decide) ?_
  exact hQ _ _ _ _ _ () dX1_greatestCount_43 rfl (congrArg nI (by rfl)) hP hD hS
end PZ7
