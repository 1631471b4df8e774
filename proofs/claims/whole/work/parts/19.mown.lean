section PZ6
set_option maxHeartbeats 4000000 in
set_option maxRecDepth 100000 in
theorem k_X1_isIn (l : Launch) (D : va_G) (ts : List (ClassId × FieldType)) (x : Int32) (lo hi : Nat) (hy0 : lo < 2147483648) (hy1 : hi < 2147483648) : pz_R l yX1_isIn wsX1_isIn ({ frames := 0, cells := 0, slots := 0, locals := 0 } : Room) D ts [.int x, .int (nI lo), .int (nI hi)] [] (fun r => r = pz_b ((lo : Int) ≤ x.toInt ∧ x.toInt ≤ (hi : Int))) := by
  refine pz_R_of (cc := cX1_isIn) (maxL := 3) (ty := .boolean) (own := RX1) (by decide) rfl rfl (Nat.le_of_ble_eq_true rfl) ?_
  intro p e s m below meth c A ls Q hx hb hml hown hts hK hP hD hS hA hl hQ
  have hl : lv_has ls 3 [(0, .int x), (1, .int (nI lo)), (2, .int (nI hi))] := hl
  refine lv_iload_n hx hb dX1_isIn_0 rfl (lv_at hl 0 rfl) ?_
  refine lv_iload_n hx hb dX1_isIn_1 rfl (lv_at hl 1 rfl) ?_
  refine pi_icmp_lt (tgt := 14) (a := (x).toInt) (b := ((lo : Nat) : Int)) hx hb rfl (nI_toInt (by omega)) dX1_isIn_2 (by decide) (fun c_1 => ?_) (fun c_1 => ?_)
  · -- 2 yes
    refine lv_iconst (v := nI 0) hx hb dX1_isIn_14 (by decide) ?_
    exact hQ _ _ _ _ _ dX1_isIn_15 (by decide) (pz_bf (by omega)) hS
  · -- 2 no
    refine lv_iload_n hx hb dX1_isIn_5 rfl (lv_at hl 0 rfl) ?_
    refine lv_iload_n hx hb dX1_isIn_6 rfl (lv_at hl 2 rfl) ?_
    refine pi_icmp_gt (tgt := 14) (a := (x).toInt) (b := ((hi : Nat) : Int)) hx hb rfl (nI_toInt (by omega)) dX1_isIn_7 (by decide) (fun c_2 => ?_) (fun c_2 => ?_)
    · -- 7 yes
      refine lv_iconst (v := nI 0) hx hb dX1_isIn_14 (by decide) ?_
      exact hQ _ _ _ _ _ dX1_isIn_15 (by decide) (pz_bf (by omega)) hS
    · -- 7 no
      refine lv_iconst (v := nI 1) hx hb dX1_isIn_10 (by decide) ?_
      refine lv_goto (tgt := 15) hx hb dX1_isIn_11 (by decide) ?_
      exact hQ _ _ _ _ _ dX1_isIn_15 (by decide) (pz_bt (by omega)) hS
set_option maxHeartbeats 4000000 in
set_option maxRecDepth 100000 in
theorem k_X1_isIn_a (l : Launch) (D : va_G) (ts : List (ClassId × FieldType)) (v lo hi : Nat) (hy0 : lo ≤ v) (hy1 : v ≤ hi) (hy2 : hi < 2147483648) : pz_R l yX1_isIn wsX1_isIn ({ frames := 0, cells := 0, slots := 0, locals := 0 } : Room) D ts [.int (nI v), .int (nI lo), .int (nI hi)] [] (fun r => r = nI 1) := by
  refine pz_R_of (cc := cX1_isIn) (maxL := 3) (ty := .boolean) (own := RX1) (by decide) rfl rfl (Nat.le_of_ble_eq_true rfl) ?_
  intro p e s m below meth c A ls Q hx hb hml hown hts hK hP hD hS hA hl hQ
  have hl : lv_has ls 3 [(0, .int (nI v)), (1, .int (nI lo)), (2, .int (nI hi))] := hl
  refine lv_iload_n hx hb dX1_isIn_0 rfl (lv_at hl 0 rfl) ?_
  refine lv_iload_n hx hb dX1_isIn_1 rfl (lv_at hl 1 rfl) ?_
  refine pn_icmp_lt (tgt := 14) hx hb (by omega) (by omega) dX1_isIn_2 (by decide) (fun c_1 => ?_) (fun c_1 => ?_)
  · -- 2 yes
    refine lv_iconst (v := nI 0) hx hb dX1_isIn_14 (by decide) ?_
    exact hQ _ _ _ _ _ dX1_isIn_15 (by decide) (congrArg nI (by first | rfl | (exfalso; omega))) hS
  · -- 2 no
    refine lv_iload_n hx hb dX1_isIn_5 rfl (lv_at hl 0 rfl) ?_
    refine lv_iload_n hx hb dX1_isIn_6 rfl (lv_at hl 2 rfl) ?_
    refine pn_icmp_gt (tgt := 14) hx hb (by omega) (by omega) dX1_isIn_7 (by decide) (fun c_2 => ?_) (fun c_2 => ?_)
    · -- 7 yes
      refine lv_iconst (v := nI 0) hx hb dX1_isIn_14 (by decide) ?_
      exact hQ _ _ _ _ _ dX1_isIn_15 (by decide) (congrArg nI (by first | rfl | (exfalso; omega))) hS
    · -- 7 no
      refine lv_iconst (v := nI 1) hx hb dX1_isIn_10 (by decide) ?_
      refine lv_goto (tgt := 15) hx hb dX1_isIn_11 (by decide) ?_
      exact hQ _ _ _ _ _ dX1_isIn_15 (by decide) (congrArg nI (by first | rfl | (exfalso; omega))) hS
set_option maxHeartbeats 4000000 in
set_option maxRecDepth 100000 in
theorem k_X1_isIn_x (l : Launch) (D : va_G) (ts : List (ClassId × FieldType)) (x : Int32) (lo hi : Nat) (hy0 : x.toInt < (lo : Int) ∨ (hi : Int) < x.toInt) (hy1 : lo < 2147483648) (hy2 : hi < 2147483648) : pz_R l yX1_isIn wsX1_isIn ({ frames := 0, cells := 0, slots := 0, locals := 0 } : Room) D ts [.int x, .int (nI lo), .int (nI hi)] [] (fun r => r = nI 0) := by
  refine pz_R_of (cc := cX1_isIn) (maxL := 3) (ty := .boolean) (own := RX1) (by decide) rfl rfl (Nat.le_of_ble_eq_true rfl) ?_
  intro p e s m below meth c A ls Q hx hb hml hown hts hK hP hD hS hA hl hQ
  have hl : lv_has ls 3 [(0, .int x), (1, .int (nI lo)), (2, .int (nI hi))] := hl
  refine lv_iload_n hx hb dX1_isIn_0 rfl (lv_at hl 0 rfl) ?_
  refine lv_iload_n hx hb dX1_isIn_1 rfl (lv_at hl 1 rfl) ?_
  refine pi_icmp_lt (tgt := 14) (a := (x).toInt) (b := ((lo : Nat) : Int)) hx hb rfl (nI_toInt (by omega)) dX1_isIn_2 (by decide) (fun c_1 => ?_) (fun c_1 => ?_)
  · -- 2 yes
    refine lv_iconst (v := nI 0) hx hb dX1_isIn_14 (by decide) ?_
    exact hQ _ _ _ _ _ dX1_isIn_15 (by decide) (congrArg nI (by first | rfl | (exfalso; omega))) hS
  · -- 2 no
    refine lv_iload_n hx hb dX1_isIn_5 rfl (lv_at hl 0 rfl) ?_
    refine lv_iload_n hx hb dX1_isIn_6 rfl (lv_at hl 2 rfl) ?_
    refine pi_icmp_gt (tgt := 14) (a := (x).toInt) (b := ((hi : Nat) : Int)) hx hb rfl (nI_toInt (by omega)) dX1_isIn_7 (by decide) (fun c_2 => ?_) (fun c_2 => ?_)
    · -- 7 yes
      refine lv_iconst (v := nI 0) hx hb dX1_isIn_14 (by decide) ?_
      exact hQ _ _ _ _ _ dX1_isIn_15 (by decide) (congrArg nI (by first | rfl | (exfalso; omega))) hS
    · -- 7 no
      refine lv_iconst (v := nI 1) hx hb dX1_isIn_10 (by decide) ?_
      refine lv_goto (tgt := 15) hx hb dX1_isIn_11 (by decide) ?_
      exact hQ _ _ _ _ _ dX1_isIn_15 (by decide) (congrArg nI (by first | rfl | (exfalso; omega))) hS
set_option maxHeartbeats 4000000 in
set_option maxRecDepth 100000 in
theorem k_X1_isYear_a (l : Launch) (D : va_G) (ts : List (ClassId × FieldType)) (y : Nat) (hy0 : 1 ≤ y) (hy1 : y ≤ 3000) : pz_R l yX1_isYear wsX1_isYear ({ frames := 1, cells := 0, slots := 0, locals := 22 } : Room) D ts [.int (nI y)] [] (fun r => r = nI 1) := by
  refine pz_R_of (cc := cX1_isYear) (maxL := 1) (ty := .boolean) (own := RX1) (by decide) rfl rfl (Nat.le_of_ble_eq_true rfl) ?_
  intro p e s m below meth c A ls Q hx hb hml hown hts hK hP hD hS hA hl hQ
  have hl : lv_has ls 1 [(0, .int (nI y))] := hl
  refine lv_iload_n hx hb dX1_isYear_0 rfl (lv_at hl 0 rfl) ?_
  refine lv_iconst (v := nI 1) hx hb dX1_isYear_1 (by decide) ?_
  refine lv_sipush (v := nI 3000) hx hb dX1_isYear_2 (by decide) ?_
  refine pz_SR (rest := []) ⟨hx, hb, hml, hown, hts⟩ (k_X1_isIn_a l D ts y 1 3000 (by omega) (by omega) (by omega)) (va_cwS 3 hts gX1_isYear_X1_isIn rfl rfl rfl (by decide +kernel) ⟨Nat.le_of_ble_eq_true rfl, Nat.le_of_ble_eq_true rfl⟩) hK hP hD hS hA [] rfl rfl rfl rfl hl.1 rfl (lv_room (Nat.le_of_ble_eq_true rfl)) dX1_isYear_5 ⟨Nat.le_of_ble_eq_true rfl, Nat.le_of_ble_eq_true rfl⟩ (fun r H locs hr hP hS => ?_)
  obtain rfl : r = (nI 1) := hr
  exact hQ _ _ _ _ _ dX1_isYear_8 (by decide) (congrArg nI (by rfl)) hS
set_option maxHeartbeats 4000000 in
set_option maxRecDepth 100000 in
theorem k_X1_isYear_x (l : Launch) (D : va_G) (ts : List (ClassId × FieldType)) (x : Int32) (hy0 : x.toInt < 1 ∨ 3000 < x.toInt) : pz_R l yX1_isYear wsX1_isYear ({ frames := 1, cells := 0, slots := 0, locals := 22 } : Room) D ts [.int x] [] (fun r => r = nI 0) := by
  refine pz_R_of (cc := cX1_isYear) (maxL := 1) (ty := .boolean) (own := RX1) (by decide) rfl rfl (Nat.le_of_ble_eq_true rfl) ?_
  intro p e s m below meth c A ls Q hx hb hml hown hts hK hP hD hS hA hl hQ
  have hl : lv_has ls 1 [(0, .int x)] := hl
  refine lv_iload_n hx hb dX1_isYear_0 rfl (lv_at hl 0 rfl) ?_
  refine lv_iconst (v := nI 1) hx hb dX1_isYear_1 (by decide) ?_
  refine lv_sipush (v := nI 3000) hx hb dX1_isYear_2 (by decide) ?_
  refine pz_SR (rest := []) ⟨hx, hb, hml, hown, hts⟩ (k_X1_isIn_x l D ts x 1 3000 (by omega) (by omega) (by omega)) (va_cwS 3 hts gX1_isYear_X1_isIn rfl rfl rfl (by decide +kernel) ⟨Nat.le_of_ble_eq_true rfl, Nat.le_of_ble_eq_true rfl⟩) hK hP hD hS hA [] rfl rfl rfl rfl hl.1 rfl (lv_room (Nat.le_of_ble_eq_true rfl)) dX1_isYear_5 ⟨Nat.le_of_ble_eq_true rfl, Nat.le_of_ble_eq_true rfl⟩ (fun r H locs hr hP hS => ?_)
  obtain rfl : r = (nI 0) := hr
  exact hQ _ _ _ _ _ dX1_isYear_8 (by decide) (congrArg nI (by rfl)) hS
set_option maxHeartbeats 4000000 in
set_option maxRecDepth 100000 in
theorem k_X1_isDay_a (l : Launch) (D : va_G) (ts : List (ClassId × FieldType)) (n : Nat) (hy0 : n < 1095750) : pz_R l yX1_isDay wsX1_isDay ({ frames := 1, cells := 0, slots := 0, locals := 22 } : Room) D ts [.int (nI n)] [] (fun r => r = nI 1) := by
  refine pz_R_of (cc := cX1_isDay) (maxL := 1) (ty := .boolean) (own := RX1) (by decide) rfl rfl (Nat.le_of_ble_eq_true rfl) ?_
  intro p e s m below meth c A ls Q hx hb hml hown hts hK hP hD hS hA hl hQ
  have hl : lv_has ls 1 [(0, .int (nI n))] := hl
  refine lv_iload_n hx hb dX1_isDay_0 rfl (lv_at hl 0 rfl) ?_
  refine lv_iconst (v := nI 0) hx hb dX1_isDay_1 (by decide) ?_
  refine lv_ldc (v := nI 1095749) hx hb hown (hts (.constant RX1 44 (1095749)) (by decide +kernel)) dX1_isDay_2 ?_
  refine pz_SR (rest := []) ⟨hx, hb, hml, hown, hts⟩ (k_X1_isIn_a l D ts n 0 1095749 (by omega) (by omega) (by omega)) (va_cwS 3 hts gX1_isDay_X1_isIn rfl rfl rfl (by decide +kernel) ⟨Nat.le_of_ble_eq_true rfl, Nat.le_of_ble_eq_true rfl⟩) hK hP hD hS hA [] rfl rfl rfl rfl hl.1 rfl (lv_room (Nat.le_of_ble_eq_true rfl)) dX1_isDay_4 ⟨Nat.le_of_ble_eq_true rfl, Nat.le_of_ble_eq_true rfl⟩ (fun r H locs hr hP hS => ?_)
  obtain rfl : r = (nI 1) := hr
  exact hQ _ _ _ _ _ dX1_isDay_7 (by decide) (congrArg nI (by rfl)) hS
set_option maxHeartbeats 4000000 in
set_option maxRecDepth 100000 in
theorem k_X1_isDay_x (l : Launch) (D : va_G) (ts : List (ClassId × FieldType)) (x : Int32) (hy0 : x.toInt < 0 ∨ 1095749 < x.toInt) : pz_R l yX1_isDay wsX1_isDay ({ frames := 1, cells := 0, slots := 0, locals := 22 } : Room) D ts [.int x] [] (fun r => r = nI 0) := by
  refine pz_R_of (cc := cX1_isDay) (maxL := 1) (ty := .boolean) (own := RX1) (by decide) rfl rfl (Nat.le_of_ble_eq_true rfl) ?_
  intro p e s m below meth c A ls Q hx hb hml hown hts hK hP hD hS hA hl hQ
  have hl : lv_has ls 1 [(0, .int x)] := hl
  refine lv_iload_n hx hb dX1_isDay_0 rfl (lv_at hl 0 rfl) ?_
  refine lv_iconst (v := nI 0) hx hb dX1_isDay_1 (by decide) ?_
  refine lv_ldc (v := nI 1095749) hx hb hown (hts (.constant RX1 44 (1095749)) (by decide +kernel)) dX1_isDay_2 ?_
  refine pz_SR (rest := []) ⟨hx, hb, hml, hown, hts⟩ (k_X1_isIn_x l D ts x 0 1095749 (by omega) (by omega) (by omega)) (va_cwS 3 hts gX1_isDay_X1_isIn rfl rfl rfl (by decide +kernel) ⟨Nat.le_of_ble_eq_true rfl, Nat.le_of_ble_eq_true rfl⟩) hK hP hD hS hA [] rfl rfl rfl rfl hl.1 rfl (lv_room (Nat.le_of_ble_eq_true rfl)) dX1_isDay_4 ⟨Nat.le_of_ble_eq_true rfl, Nat.le_of_ble_eq_true rfl⟩ (fun r H locs hr hP hS => ?_)
  obtain rfl : r = (nI 0) := hr
  exact hQ _ _ _ _ _ dX1_isDay_7 (by decide) (congrArg nI (by rfl)) hS
set_option maxHeartbeats 4000000 in
set_option maxRecDepth 100000 in
theorem k_X1_isLeap (l : Launch) (D : va_G) (ts : List (ClassId × FieldType)) (y : Nat) (hy0 : y ≤ 4000) : pz_R l yX1_isLeap wsX1_isLeap ({ frames := 0, cells := 0, slots := 0, locals := 0 } : Room) D ts [.int (nI y)] [] (fun r => r = pz_b (y % 4 = 0)) := by
  refine pz_R_of (cc := cX1_isLeap) (maxL := 1) (ty := .boolean) (own := RX1) (by decide) rfl rfl (Nat.le_of_ble_eq_true rfl) ?_
  intro p e s m below meth c A ls Q hx hb hml hown hts hK hP hD hS hA hl hQ
  have hl : lv_has ls 1 [(0, .int (nI y))] := hl
  refine lv_iload_n hx hb dX1_isLeap_0 rfl (lv_at hl 0 rfl) ?_
  refine lv_iconst (v := nI 4) hx hb dX1_isLeap_1 (by decide) ?_
  refine pn_irem hx hb (by omega) (by omega) (by omega) dX1_isLeap_2 ?_
  refine pn_if_ne (tgt := 10) hx hb (by omega) dX1_isLeap_3 (by decide) (fun c_1 => ?_) (fun c_1 => ?_)
  · -- 3 yes
    refine lv_iconst (v := nI 0) hx hb dX1_isLeap_10 (by decide) ?_
    exact hQ _ _ _ _ _ dX1_isLeap_11 (by decide) (pz_bf (by omega)) hS
  · -- 3 no
    refine lv_iconst (v := nI 1) hx hb dX1_isLeap_6 (by decide) ?_
    refine lv_goto (tgt := 11) hx hb dX1_isLeap_7 (by decide) ?_
    exact hQ _ _ _ _ _ dX1_isLeap_11 (by decide) (pz_bt (by omega)) hS
set_option maxHeartbeats 4000000 in
set_option maxRecDepth 100000 in
theorem k_X1_length (l : Launch) (D : va_G) (ts : List (ClassId × FieldType)) (y mm : Nat) (hy0 : y ≤ 4000) (hy1 : mm ≤ 13) : pz_R l yX1_length wsX1_length ({ frames := 1, cells := 0, slots := 0, locals := 20 } : Room) D ts [.int (nI y), .int (nI mm)] [] (fun r => r = nI (pm_ln y mm)) := by
  refine pz_R_of (cc := cX1_length) (maxL := 2) (ty := .int) (own := RX1) (by decide) rfl rfl (Nat.le_of_ble_eq_true rfl) ?_
  intro p e s m below meth c A ls Q hx hb hml hown hts hK hP hD hS hA hl hQ
  have hl : lv_has ls 2 [(0, .int (nI y)), (1, .int (nI mm))] := hl
  refine lv_iload_n hx hb dX1_length_0 rfl (lv_at hl 1 rfl) ?_
  refine lv_iconst (v := nI 2) hx hb dX1_length_1 (by decide) ?_
  refine pn_icmp_ne (tgt := 20) hx hb (by omega) (by omega) dX1_length_2 (by decide) (fun c_1 => ?_) (fun c_1 => ?_)
  · -- 2 yes
    refine lv_iload_n hx hb dX1_length_20 rfl (lv_at hl 1 rfl) ?_
    refine lv_iconst (v := nI 4) hx hb dX1_length_21 (by decide) ?_
    refine pn_icmp_eq (tgt := 43) hx hb (by omega) (by omega) dX1_length_22 (by decide) (fun c_2 => ?_) (fun c_2 => ?_)
    · -- 22 yes
      refine lv_bipush (v := nI 30) hx hb dX1_length_43 (by decide) ?_
      refine lv_goto (tgt := 50) hx hb dX1_length_45 (by decide) ?_
      exact hQ _ _ _ _ _ dX1_length_50 rfl (congrArg nI (by unfold pm_ln pm_cl; (repeat' split) <;> omega)) hS
    · -- 22 no
      refine lv_iload_n hx hb dX1_length_25 rfl (lv_at hl 1 rfl) ?_
      refine lv_bipush (v := nI 6) hx hb dX1_length_26 (by decide) ?_
      refine pn_icmp_eq (tgt := 43) hx hb (by omega) (by omega) dX1_length_28 (by decide) (fun c_3 => ?_) (fun c_3 => ?_)
      · -- 28 yes
        refine lv_bipush (v := nI 30) hx hb dX1_length_43 (by decide) ?_
        refine lv_goto (tgt := 50) hx hb dX1_length_45 (by decide) ?_
        exact hQ _ _ _ _ _ dX1_length_50 rfl (congrArg nI (by unfold pm_ln pm_cl; (repeat' split) <;> omega)) hS
      · -- 28 no
        refine lv_iload_n hx hb dX1_length_31 rfl (lv_at hl 1 rfl) ?_
        refine lv_bipush (v := nI 9) hx hb dX1_length_32 (by decide) ?_
        refine pn_icmp_eq (tgt := 43) hx hb (by omega) (by omega) dX1_length_34 (by decide) (fun c_4 => ?_) (fun c_4 => ?_)
        · -- 34 yes
          refine lv_bipush (v := nI 30) hx hb dX1_length_43 (by decide) ?_
          refine lv_goto (tgt := 50) hx hb dX1_length_45 (by decide) ?_
          exact hQ _ _ _ _ _ dX1_length_50 rfl (congrArg nI (by unfold pm_ln pm_cl; (repeat' split) <;> omega)) hS
        · -- 34 no
          refine lv_iload_n hx hb dX1_length_37 rfl (lv_at hl 1 rfl) ?_
          refine lv_bipush (v := nI 11) hx hb dX1_length_38 (by decide) ?_
          refine pn_icmp_ne (tgt := 48) hx hb (by omega) (by omega) dX1_length_40 (by decide) (fun c_5 => ?_) (fun c_5 => ?_)
          · -- 40 yes
            refine lv_bipush (v := nI 31) hx hb dX1_length_48 (by decide) ?_
            exact hQ _ _ _ _ _ dX1_length_50 rfl (congrArg nI (by unfold pm_ln pm_cl; (repeat' split) <;> omega)) hS
          · -- 40 no
            refine lv_bipush (v := nI 30) hx hb dX1_length_43 (by decide) ?_
            refine lv_goto (tgt := 50) hx hb dX1_length_45 (by decide) ?_
            exact hQ _ _ _ _ _ dX1_length_50 rfl (congrArg nI (by unfold pm_ln pm_cl; (repeat' split) <;> omega)) hS
  · -- 2 no
    refine lv_iload_n hx hb dX1_length_5 rfl (lv_at hl 0 rfl) ?_
    refine pz_SR (rest := []) ⟨hx, hb, hml, hown, hts⟩ (k_X1_isLeap l D ts y (by omega)) (va_cwS 1 hts gX1_length_X1_isLeap rfl rfl rfl (by decide +kernel) ⟨Nat.le_of_ble_eq_true rfl, Nat.le_of_ble_eq_true rfl⟩) hK hP hD hS hA [] rfl rfl rfl rfl hl.1 rfl (lv_room (Nat.le_of_ble_eq_true rfl)) dX1_length_6 ⟨Nat.le_of_ble_eq_true rfl, Nat.le_of_ble_eq_true rfl⟩ (fun r H locs hr hP hS => ?_)
    obtain rfl : r = (pz_b (y % 4 = 0)) := hr
    refine pb_if_eq (tgt := 17) hx hb dX1_length_9 (by decide) (fun c_7 => ?_) (fun c_7 => ?_)
    · -- 9 yes
      refine lv_bipush (v := nI 28) hx hb dX1_length_17 (by decide) ?_
      exact hQ _ _ _ _ _ dX1_length_19 rfl (congrArg nI (by unfold pm_ln pm_cl; (repeat' split) <;> omega)) hS
    · -- 9 no
      refine lv_bipush (v := nI 29) hx hb dX1_length_12 (by decide) ?_
      refine lv_goto (tgt := 19) hx hb dX1_length_14 (by decide) ?_
      exact hQ _ _ _ _ _ dX1_length_19 rfl (congrArg nI (by unfold pm_ln pm_cl; (repeat' split) <;> omega)) hS
set_option maxHeartbeats 4000000 in
set_option maxRecDepth 100000 in
theorem k_X1_begin (l : Launch) (D : va_G) (ts : List (ClassId × FieldType)) (y : Nat) (hy0 : 1 ≤ y) (hy1 : y ≤ 3001) : pz_R l yX1_begin wsX1_begin ({ frames := 0, cells := 0, slots := 0, locals := 0 } : Room) D ts [.int (nI y)] [] (fun r => r = nI (pm_fd y)) := by
  refine pz_R_of (cc := cX1_begin) (maxL := 1) (ty := .int) (own := RX1) (by decide) rfl rfl (Nat.le_of_ble_eq_true rfl) ?_
  intro p e s m below meth c A ls Q hx hb hml hown hts hK hP hD hS hA hl hQ
  have hl : lv_has ls 1 [(0, .int (nI y))] := hl
  refine lv_sipush (v := nI 365) hx hb dX1_begin_0 (by decide) ?_
  refine lv_iload_n hx hb dX1_begin_3 rfl (lv_at hl 0 rfl) ?_
  refine lv_iconst (v := nI 1) hx hb dX1_begin_4 (by decide) ?_
  refine pn_isub hx hb (by omega) dX1_begin_5 ?_
  refine pn_imul hx hb dX1_begin_6 ?_
  refine lv_iload_n hx hb dX1_begin_7 rfl (lv_at hl 0 rfl) ?_
  refine lv_iconst (v := nI 1) hx hb dX1_begin_8 (by decide) ?_
  refine pn_isub hx hb (by omega) dX1_begin_9 ?_
  refine lv_iconst (v := nI 4) hx hb dX1_begin_10 (by decide) ?_
  refine pn_idiv hx hb (by omega) (by omega) (by omega) dX1_begin_11 ?_
  refine pn_iadd hx hb dX1_begin_12 ?_
  exact hQ _ _ _ _ _ dX1_begin_13 rfl (congrArg nI (by unfold pm_fd; omega)) hS
set_option maxHeartbeats 4000000 in
set_option maxRecDepth 100000 in
theorem k_X1_numberFor (l : Launch) (D : va_G) (ts : List (ClassId × FieldType)) (y mm dy : Nat) (hy0 : 1 ≤ y) (hy1 : y ≤ 3000) (hy2 : 1 ≤ mm) (hy3 : mm ≤ 12) (hy4 : 1 ≤ dy) (hy5 : dy ≤ 31) : pz_R l yX1_numberFor wsX1_numberFor ({ frames := 2, cells := 0, slots := 0, locals := 41 } : Room) D ts [.int (nI y), .int (nI mm), .int (nI dy)] [] (fun r => r = nI (pm_fd y + pm_db y mm + dy - 1)) := by
  refine pz_R_of (cc := cX1_numberFor) (maxL := 5) (ty := .int) (own := RX1) (by decide) rfl rfl (Nat.le_of_ble_eq_true rfl) ?_
  intro p e s m below meth c A ls Q hx hb hml hown hts hK hP hD hS hA hl hQ
  have hl : lv_has ls 5 [(0, .int (nI y)), (1, .int (nI mm)), (2, .int (nI dy))] := hl
  have hdb := pm_db_b y mm (by omega)
  refine lv_iload_n hx hb dX1_numberFor_0 rfl (lv_at hl 0 rfl) ?_
  refine pz_SR (rest := []) ⟨hx, hb, hml, hown, hts⟩ (k_X1_begin l D ts y (by omega) (by omega)) (va_cwS 1 hts gX1_numberFor_X1_begin rfl rfl rfl (by decide +kernel) ⟨Nat.le_of_ble_eq_true rfl, Nat.le_of_ble_eq_true rfl⟩) hK hP hD hS hA [] rfl rfl rfl rfl hl.1 rfl (lv_room (Nat.le_of_ble_eq_true rfl)) dX1_numberFor_1 ⟨Nat.le_of_ble_eq_true rfl, Nat.le_of_ble_eq_true rfl⟩ (fun r H locs hr hP hS => ?_)
  obtain rfl : r = (nI (pm_fd y)) := hr
  have hf_2 := pm_fd_e y
  refine lv_iload_n hx hb dX1_numberFor_4 rfl (lv_at hl 2 rfl) ?_
  refine pn_iadd hx hb dX1_numberFor_5 ?_
  refine lv_iconst (v := nI 1) hx hb dX1_numberFor_6 (by decide) ?_
  refine pn_isub hx hb (by omega) dX1_numberFor_7 ?_
  refine lv_istore_n (lv' := [(3, .int (nI (((pm_fd y) + dy) - 1))), (0, .int (nI y)), (1, .int (nI mm)), (2, .int (nI dy))]) hx hb dX1_numberFor_8 rfl hl (by decide) rfl (fun ls hl => ?_)
  refine lv_iconst (v := nI 1) hx hb dX1_numberFor_9 (by decide) ?_
  refine lv_istore (lv' := [(4, .int (nI 1)), (3, .int (nI (((pm_fd y) + dy) - 1))), (0, .int (nI y)), (1, .int (nI mm)), (2, .int (nI dy))]) hx hb dX1_numberFor_10 hl (by decide) rfl (fun ls hl => ?_)
  have LP12 : ∀ (N : Nat) (k : Nat) (H : Heap) (locs : List Loc) (ls : Array Slot), mm - k < N → (1 ≤ k) → (k ≤ mm) → va_P D vwCl [] H → va_S A s.heap H locs → lv_has ls 5 [(3, .int (nI (pm_fd y + pm_db y k + dy - 1))), (4, .int (nI k)), (0, .int (nI y)), (1, .int (nI mm)), (2, .int (nI dy))] → W p l e ({ frames := 2, cells := 0, slots := 0, locals := 41 } : Room) s m ([.int (nI y), .int (nI mm), .int (nI dy)] : List Value).toArray below meth c H locs 0 0 Q (F0 m 12 ls []) := by
    intro N
    induction N with
    | zero => intro k H locs ls hN; exact absurd hN (Nat.not_lt_zero _)
    | succ N ih =>
      intro k H locs ls hN hi12_0 hi12_1 hP hS hl
      have hdk_0 := pm_db_b y k (by omega)
      have hsk_0 := pm_db_s y k (by omega)
      have ih12 := ih
      refine lv_iload hx hb dX1_numberFor_12 (lv_at hl 1 rfl) ?_
      refine lv_iload_n hx hb dX1_numberFor_14 rfl (lv_at hl 3 rfl) ?_
      refine pn_icmp_ge (tgt := 33) hx hb (by omega) (by omega) dX1_numberFor_15 (by decide) (fun c_3 => ?_) (fun c_3 => ?_)
      · -- 15 yes
        refine lv_iload_n hx hb dX1_numberFor_33 rfl (lv_at hl 0 rfl) ?_
        exact hQ _ _ _ _ _ dX1_numberFor_34 rfl (congrArg nI (by (have h9 : k = mm := by omega); rw [h9])) hS
      · -- 15 no
        refine lv_iload_n hx hb dX1_numberFor_18 rfl (lv_at hl 0 rfl) ?_
        refine lv_iload_n hx hb dX1_numberFor_19 rfl (lv_at hl 2 rfl) ?_
        refine lv_iload hx hb dX1_numberFor_20 (lv_at hl 1 rfl) ?_
        refine pz_SR (rest := [.int (nI (pm_fd y + pm_db y k + dy - 1))]) ⟨hx, hb, hml, hown, hts⟩ (k_X1_length l D ts y k (by omega) (by omega)) (va_cwS 2 hts gX1_numberFor_X1_length rfl rfl rfl (by decide +kernel) ⟨Nat.le_of_ble_eq_true rfl, Nat.le_of_ble_eq_true rfl⟩) hK hP hD hS hA [] rfl rfl rfl rfl hl.1 rfl (lv_room (Nat.le_of_ble_eq_true rfl)) dX1_numberFor_22 ⟨Nat.le_of_ble_eq_true rfl, Nat.le_of_ble_eq_true rfl⟩ (fun r H locs hr hP hS => ?_)
        obtain rfl : r = (nI (pm_ln y k)) := hr
        have hf_5 := pm_ln_b y k
        refine pn_iadd hx hb dX1_numberFor_25 ?_
        refine lv_istore_n (lv' := [(3, .int (nI ((pm_fd y + pm_db y k + dy - 1) + (pm_ln y k)))), (4, .int (nI k)), (0, .int (nI y)), (1, .int (nI mm)), (2, .int (nI dy))]) hx hb dX1_numberFor_26 rfl hl (by decide) rfl (fun ls hl => ?_)
        refine lv_iinc (v := (nI (k + 1))) (lv' := [(4, .int (nI (k + 1))), (3, .int (nI ((pm_fd y + pm_db y k + dy - 1) + (pm_ln y k)))), (0, .int (nI y)), (1, .int (nI mm)), (2, .int (nI dy))]) hx hb dX1_numberFor_27 hl (k := 1) rfl (by exact nI_add _ 1) (by decide) rfl (fun ls hl => ?_)
        refine lv_goto (tgt := 12) hx hb dX1_numberFor_30 (by decide) ?_
        have hq6 : (pm_fd y + pm_db y k + dy - 1) + (pm_ln y k) = pm_fd y + pm_db y (k + 1) + dy - 1 := by first | (rw [pm_db_1]; omega) | omega
        exact ih12 (k + 1) _ _ _ (by omega) (by omega) (by omega) hP hS (by rw [← hq6]; exact lv_sub hl [1, 0, 2, 3, 4] rfl)
  have hq7 : ((pm_fd y) + dy) - 1 = pm_fd y + pm_db y 1 + dy - 1 := by first | (rw [pm_db_1]; omega) | omega
  exact LP12 _ 1 _ _ _ (Nat.lt_succ_self _) (by omega) (by omega) hP hS (by rw [← hq7]; exact lv_sub hl [1, 0, 2, 3, 4] rfl)
set_option maxHeartbeats 4000000 in
set_option maxRecDepth 100000 in
theorem k_X1_nones (l : Launch) (D : va_G) (ts : List (ClassId × FieldType)) (mm : Nat) (hy0 : mm ≤ 13) : pz_R l yX1_nones wsX1_nones ({ frames := 0, cells := 0, slots := 0, locals := 0 } : Room) D ts [.int (nI mm)] [] (fun r => r = nI (pm_nn mm)) := by
  refine pz_R_of (cc := cX1_nones) (maxL := 1) (ty := .int) (own := RX1) (by decide) rfl rfl (Nat.le_of_ble_eq_true rfl) ?_
  intro p e s m below meth c A ls Q hx hb hml hown hts hK hP hD hS hA hl hQ
  have hl : lv_has ls 1 [(0, .int (nI mm))] := hl
  refine lv_iload_n hx hb dX1_nones_0 rfl (lv_at hl 0 rfl) ?_
  refine lv_iconst (v := nI 3) hx hb dX1_nones_1 (by decide) ?_
  refine pn_icmp_eq (tgt := 22) hx hb (by omega) (by omega) dX1_nones_2 (by decide) (fun c_1 => ?_) (fun c_1 => ?_)
  · -- 2 yes
    refine lv_bipush (v := nI 7) hx hb dX1_nones_22 (by decide) ?_
    refine lv_goto (tgt := 28) hx hb dX1_nones_24 (by decide) ?_
    exact hQ _ _ _ _ _ dX1_nones_28 rfl (congrArg nI (by first | (subst_vars; decide) | (unfold pm_nn; split <;> omega))) hS
  · -- 2 no
    refine lv_iload_n hx hb dX1_nones_5 rfl (lv_at hl 0 rfl) ?_
    refine lv_iconst (v := nI 5) hx hb dX1_nones_6 (by decide) ?_
    refine pn_icmp_eq (tgt := 22) hx hb (by omega) (by omega) dX1_nones_7 (by decide) (fun c_2 => ?_) (fun c_2 => ?_)
    · -- 7 yes
      refine lv_bipush (v := nI 7) hx hb dX1_nones_22 (by decide) ?_
      refine lv_goto (tgt := 28) hx hb dX1_nones_24 (by decide) ?_
      exact hQ _ _ _ _ _ dX1_nones_28 rfl (congrArg nI (by first | (subst_vars; decide) | (unfold pm_nn; split <;> omega))) hS
    · -- 7 no
      refine lv_iload_n hx hb dX1_nones_10 rfl (lv_at hl 0 rfl) ?_
      refine lv_bipush (v := nI 7) hx hb dX1_nones_11 (by decide) ?_
      refine pn_icmp_eq (tgt := 22) hx hb (by omega) (by omega) dX1_nones_13 (by decide) (fun c_3 => ?_) (fun c_3 => ?_)
      · -- 13 yes
        refine lv_bipush (v := nI 7) hx hb dX1_nones_22 (by decide) ?_
        refine lv_goto (tgt := 28) hx hb dX1_nones_24 (by decide) ?_
        exact hQ _ _ _ _ _ dX1_nones_28 rfl (congrArg nI (by first | (subst_vars; decide) | (unfold pm_nn; split <;> omega))) hS
      · -- 13 no
        refine lv_iload_n hx hb dX1_nones_16 rfl (lv_at hl 0 rfl) ?_
        refine lv_bipush (v := nI 10) hx hb dX1_nones_17 (by decide) ?_
        refine pn_icmp_ne (tgt := 27) hx hb (by omega) (by omega) dX1_nones_19 (by decide) (fun c_4 => ?_) (fun c_4 => ?_)
        · -- 19 yes
          refine lv_iconst (v := nI 5) hx hb dX1_nones_27 (by decide) ?_
          exact hQ _ _ _ _ _ dX1_nones_28 rfl (congrArg nI (by first | (subst_vars; decide) | (unfold pm_nn; split <;> omega))) hS
        · -- 19 no
          refine lv_bipush (v := nI 7) hx hb dX1_nones_22 (by decide) ?_
          refine lv_goto (tgt := 28) hx hb dX1_nones_24 (by decide) ?_
          exact hQ _ _ _ _ _ dX1_nones_28 rfl (congrArg nI (by first | (subst_vars; decide) | (unfold pm_nn; split <;> omega))) hS
set_option maxHeartbeats 4000000 in
set_option maxRecDepth 100000 in
theorem k_X1_ides (l : Launch) (D : va_G) (ts : List (ClassId × FieldType)) (mm : Nat) (hy0 : mm ≤ 13) : pz_R l yX1_ides wsX1_ides ({ frames := 1, cells := 0, slots := 0, locals := 20 } : Room) D ts [.int (nI mm)] [] (fun r => r = nI (pm_nn mm + 8)) := by
  refine pz_R_of (cc := cX1_ides) (maxL := 1) (ty := .int) (own := RX1) (by decide) rfl rfl (Nat.le_of_ble_eq_true rfl) ?_
  intro p e s m below meth c A ls Q hx hb hml hown hts hK hP hD hS hA hl hQ
  have hl : lv_has ls 1 [(0, .int (nI mm))] := hl
  refine lv_iload_n hx hb dX1_ides_0 rfl (lv_at hl 0 rfl) ?_
  refine pz_SR (rest := []) ⟨hx, hb, hml, hown, hts⟩ (k_X1_nones l D ts mm (by omega)) (va_cwS 1 hts gX1_ides_X1_nones rfl rfl rfl (by decide +kernel) ⟨Nat.le_of_ble_eq_true rfl, Nat.le_of_ble_eq_true rfl⟩) hK hP hD hS hA [] rfl rfl rfl rfl hl.1 rfl (lv_room (Nat.le_of_ble_eq_true rfl)) dX1_ides_1 ⟨Nat.le_of_ble_eq_true rfl, Nat.le_of_ble_eq_true rfl⟩ (fun r H locs hr hP hS => ?_)
  obtain rfl : r = (nI (pm_nn mm)) := hr
  have hf_2 := pm_nn_b mm
  refine lv_bipush (v := nI 8) hx hb dX1_ides_4 (by decide) ?_
  refine pn_iadd hx hb dX1_ides_6 ?_
  exact hQ _ _ _ _ _ dX1_ides_7 rfl (congrArg nI (by rfl)) hS
set_option maxHeartbeats 4000000 in
set_option maxRecDepth 100000 in
theorem k_X1_thrown (l : Launch) (D : va_G) (h1 bc bf bg : Nat) (cyI : ClassId) (ts : List (ClassId × FieldType)) (th yr mo da : Int32) (mk wr : Nat) (rc ff gg : Nat → Nat)   : pz_R l yX1_thrown wsX1_thrown ({ frames := 0, cells := 0, slots := 0, locals := 0 } : Room) D ((cyI, .int) :: ts) [.ref h1] [(h1, .inr (1, [.int th, .int yr, .int mo, .int da, .int (nI mk), .ref bc, .ref bf, .ref bg, .int (nI wr)])), (bc, .inl (cyI, 366, .inl (pz_ar rc))), (bf, .inl (cyI, 3001, .inl (pz_ar ff))), (bg, .inl (cyI, 3001, .inl (pz_ar gg)))] (fun r => r = th) := by
  refine pz_R_of (cc := cX1_thrown) (maxL := 1) (ty := .int) (own := RX1) (by decide) rfl rfl (Nat.le_of_ble_eq_true rfl) ?_
  intro p e s m below meth c A ls Q hx hb hml hown hts hK hP hD hS hA hl hQ
  have hl : lv_has ls 1 [(0, .ref h1)] := hl
  have hin : ∀ w ∈ u_ws RX1 TX1 9, w ∈ wsX1_thrown := by decide +kernel
  refine lv_aload_n hx hb dX1_thrown_0 rfl (lv_at hl 0 rfl) ?_
  refine va_get (D := D) (ci := 1) (v := .int th) (C := RX1) (T := TX1) (N := 9) hx hb hts hin hown hK hP 0 rfl rfl 0 (by decide) (hts (.fieldLink RX1 37 "RomanCalendarModel" "thrown" "I") (by decide +kernel)) (fun _ h9 => h9) rfl dX1_thrown_1 ?_
  exact hQ _ _ _ _ _ dX1_thrown_4 rfl (by rfl) hS
set_option maxHeartbeats 4000000 in
set_option maxRecDepth 100000 in
theorem k_X1_isFine_0 (l : Launch) (D : va_G) (h1 bc bf bg : Nat) (cyI : ClassId) (ts : List (ClassId × FieldType)) (th yr mo da : Int32) (mk wr : Nat) (rc ff gg : Nat → Nat)   : pz_I l yX1_isFine wsX1_isFine ({ frames := 0, cells := 0, slots := 0, locals := 0 } : Room) D ((cyI, .int) :: ts) [.ref h1, .int (nI 0)] [(h1, .inr (1, [.int th, .int yr, .int mo, .int da, .int (nI mk), .ref bc, .ref bf, .ref bg, .int (nI wr)])), (bc, .inl (cyI, 366, .inl (pz_ar rc))), (bf, .inl (cyI, 3001, .inl (pz_ar ff))), (bg, .inl (cyI, 3001, .inl (pz_ar gg)))] (S := Unit) (fun r _ => r = nI 1) (fun _ => [(h1, .inr (1, [.int (nI 0), .int yr, .int mo, .int da, .int (nI mk), .ref bc, .ref bf, .ref bg, .int (nI wr)])), (bc, .inl (cyI, 366, .inl (pz_ar rc))), (bf, .inl (cyI, 3001, .inl (pz_ar ff))), (bg, .inl (cyI, 3001, .inl (pz_ar gg)))]) := by
  refine pz_I_of (cc := cX1_isFine) (maxL := 2) (ty := .boolean) (own := RX1) (by decide) rfl rfl (Nat.le_of_ble_eq_true rfl) ?_
  intro p e s m below meth c A ls Q hx hb hml hown hts hK hP hD hS hA hl hQ
  have hl : lv_has ls 2 [(0, .ref h1), (1, .int (nI 0))] := hl
  have hin : ∀ w ∈ u_ws RX1 TX1 9, w ∈ wsX1_isFine := by decide +kernel
  refine lv_aload_n hx hb dX1_isFine_0 rfl (lv_at hl 0 rfl) ?_
  refine lv_iload_n hx hb dX1_isFine_1 rfl (lv_at hl 1 rfl) ?_
  refine va_put (D := D) (ci := 1) (v := .int (nI 0)) (ty := .int) (C := RX1) (T := TX1) (N := 9) hx hb hts hin tyX1 tyX1_ok nmX1 hown hK hP hD hS 0 rfl rfl 0 (by decide) (hts (.fieldLink RX1 37 "RomanCalendarModel" "thrown" "I") (by decide +kernel)) (fun _ h9 => h9) rfl (by decide +kernel) rfl rfl (Nat.le_of_ble_eq_true rfl) dX1_isFine_2 (fun H locs hP hD hS => ?_)
  have hP : va_P D vwCl [(h1, .inr (1, [.int (nI 0), .int yr, .int mo, .int da, .int (nI mk), .ref bc, .ref bf, .ref bg, .int (nI wr)])), (bc, .inl (cyI, 366, .inl (pz_ar rc))), (bf, .inl (cyI, 3001, .inl (pz_ar ff))), (bg, .inl (cyI, 3001, .inl (pz_ar gg)))] H := hP
  have hD : va_D A [(h1, .inr (1, [.int (nI 0), .int yr, .int mo, .int da, .int (nI mk), .ref bc, .ref bf, .ref bg, .int (nI wr)])), (bc, .inl (cyI, 366, .inl (pz_ar rc))), (bf, .inl (cyI, 3001, .inl (pz_ar ff))), (bg, .inl (cyI, 3001, .inl (pz_ar gg)))] := hD
  refine lv_iload_n hx hb dX1_isFine_5 rfl (lv_at hl 1 rfl) ?_
  refine pn_if_ne (tgt := 13) hx hb (by omega) dX1_isFine_6 (by decide) (fun c_1 => absurd c_1 (by decide)) (fun _ => ?_)
  refine lv_iconst (v := nI 1) hx hb dX1_isFine_9 (by decide) ?_
  refine lv_goto (tgt := 14) hx hb dX1_isFine_10 (by decide) ?_
  exact hQ _ _ _ _ _ () dX1_isFine_14 (by decide) (congrArg nI (by rfl)) hP hD hS
set_option maxHeartbeats 4000000 in
set_option maxRecDepth 100000 in
theorem k_X1_isFine_k (l : Launch) (D : va_G) (h1 bc bf bg : Nat) (cyI : ClassId) (ts : List (ClassId × FieldType)) (th yr mo da : Int32) (mk wr : Nat) (rc ff gg : Nat → Nat) (k : Nat) (hy0 : 0 < k) (hy1 : k < 10) : pz_I l yX1_isFine wsX1_isFine ({ frames := 0, cells := 0, slots := 0, locals := 0 } : Room) D ((cyI, .int) :: ts) [.ref h1, .int (nI k)] [(h1, .inr (1, [.int th, .int yr, .int mo, .int da, .int (nI mk), .ref bc, .ref bf, .ref bg, .int (nI wr)])), (bc, .inl (cyI, 366, .inl (pz_ar rc))), (bf, .inl (cyI, 3001, .inl (pz_ar ff))), (bg, .inl (cyI, 3001, .inl (pz_ar gg)))] (S := Unit) (fun r _ => r = nI 0) (fun _ => [(h1, .inr (1, [.int (nI k), .int yr, .int mo, .int da, .int (nI mk), .ref bc, .ref bf, .ref bg, .int (nI wr)])), (bc, .inl (cyI, 366, .inl (pz_ar rc))), (bf, .inl (cyI, 3001, .inl (pz_ar ff))), (bg, .inl (cyI, 3001, .inl (pz_ar gg)))]) := by
  refine pz_I_of (cc := cX1_isFine) (maxL := 2) (ty := .boolean) (own := RX1) (by decide) rfl rfl (Nat.le_of_ble_eq_true rfl) ?_
  intro p e s m below meth c A ls Q hx hb hml hown hts hK hP hD hS hA hl hQ
  have hl : lv_has ls 2 [(0, .ref h1), (1, .int (nI k))] := hl
  have hin : ∀ w ∈ u_ws RX1 TX1 9, w ∈ wsX1_isFine := by decide +kernel
  refine lv_aload_n hx hb dX1_isFine_0 rfl (lv_at hl 0 rfl) ?_
  refine lv_iload_n hx hb dX1_isFine_1 rfl (lv_at hl 1 rfl) ?_
  refine va_put (D := D) (ci := 1) (v := .int (nI k)) (ty := .int) (C := RX1) (T := TX1) (N := 9) hx hb hts hin tyX1 tyX1_ok nmX1 hown hK hP hD hS 0 rfl rfl 0 (by decide) (hts (.fieldLink RX1 37 "RomanCalendarModel" "thrown" "I") (by decide +kernel)) (fun _ h9 => h9) rfl (by decide +kernel) rfl rfl (Nat.le_of_ble_eq_true rfl) dX1_isFine_2 (fun H locs hP hD hS => ?_)
  have hP : va_P D vwCl [(h1, .inr (1, [.int (nI k), .int yr, .int mo, .int da, .int (nI mk), .ref bc, .ref bf, .ref bg, .int (nI wr)])), (bc, .inl (cyI, 366, .inl (pz_ar rc))), (bf, .inl (cyI, 3001, .inl (pz_ar ff))), (bg, .inl (cyI, 3001, .inl (pz_ar gg)))] H := hP
  have hD : va_D A [(h1, .inr (1, [.int (nI k), .int yr, .int mo, .int da, .int (nI mk), .ref bc, .ref bf, .ref bg, .int (nI wr)])), (bc, .inl (cyI, 366, .inl (pz_ar rc))), (bf, .inl (cyI, 3001, .inl (pz_ar ff))), (bg, .inl (cyI, 3001, .inl (pz_ar gg)))] := hD
  refine lv_iload_n hx hb dX1_isFine_5 rfl (lv_at hl 1 rfl) ?_
  refine pn_if_ne (tgt := 13) hx hb (by omega) dX1_isFine_6 (by decide) (fun c_1 => ?_) (fun c_1 => ?_)
  · -- 6 yes
    refine lv_iconst (v := nI 0) hx hb dX1_isFine_13 (by decide) ?_
    exact hQ _ _ _ _ _ () dX1_isFine_14 (by decide) (congrArg nI (by first | rfl | (exfalso; omega))) hP hD hS
  · -- 6 no
    refine lv_iconst (v := nI 1) hx hb dX1_isFine_9 (by decide) ?_
    refine lv_goto (tgt := 14) hx hb dX1_isFine_10 (by decide) ?_
    exact hQ _ _ _ _ _ () dX1_isFine_14 (by decide) (congrArg nI (by first | rfl | (exfalso; omega))) hP hD hS
set_option maxHeartbeats 4000000 in
set_option maxRecDepth 100000 in
theorem k_X1_splits (l : Launch) (D : va_G) (h1 bc bf bg : Nat) (cyI : ClassId) (ts : List (ClassId × FieldType)) (th yr mo da : Int32) (mk wr : Nat) (rc ff gg : Nat → Nat) (n : Nat) (hy0 : n < 1095750) : pz_V l yX1_splits wsX1_splits ({ frames := 2, cells := 0, slots := 0, locals := 41 } : Room) D ((cyI, .int) :: ts) [.ref h1, .int (nI n)] [(h1, .inr (1, [.int th, .int yr, .int mo, .int da, .int (nI mk), .ref bc, .ref bf, .ref bg, .int (nI wr)])), (bc, .inl (cyI, 366, .inl (pz_ar rc))), (bf, .inl (cyI, 3001, .inl (pz_ar ff))), (bg, .inl (cyI, 3001, .inl (pz_ar gg)))] (S := Unit) (fun _ => True) (fun _ => [(h1, .inr (1, [.int th, .int (nI (pm_yr n)), .int (nI (pm_mo n)), .int (nI (pm_da n)), .int (nI mk), .ref bc, .ref bf, .ref bg, .int (nI wr)])), (bc, .inl (cyI, 366, .inl (pz_ar rc))), (bf, .inl (cyI, 3001, .inl (pz_ar ff))), (bg, .inl (cyI, 3001, .inl (pz_ar gg)))]) := by
  refine pz_V_of (cc := cX1_splits) (maxL := 3) (own := RX1) (by decide) rfl rfl (Nat.le_of_ble_eq_true rfl) ?_
  intro p e s m below meth c A ls Q hx hb hml hown hts hK hP hD hS hA hl hQ
  have hl : lv_has ls 3 [(0, .ref h1), (1, .int (nI n))] := hl
  have hin : ∀ w ∈ u_ws RX1 TX1 9, w ∈ wsX1_splits := by decide +kernel
  have hd0 := pm_day2 n
  have hy0b := pm_yr_b hy0
  have hm0 := pm_mo_b n
  have hdb0 := pm_db_b (pm_yr n) (pm_mo n) (by omega)
  have hln0 := pm_ln_b (pm_yr n) (pm_mo n)
  refine lv_iload_n hx hb dX1_splits_0 rfl (lv_at hl 1 rfl) ?_
  refine lv_sipush (v := nI 1461) hx hb dX1_splits_1 (by decide) ?_
  refine pn_irem hx hb (by omega) (by omega) (by omega) dX1_splits_4 ?_
  refine lv_istore_n (lv' := [(2, .int (nI (n % 1461))), (0, .ref h1), (1, .int (nI n))]) hx hb dX1_splits_5 rfl hl (by decide) rfl (fun ls hl => ?_)
  refine lv_aload_n hx hb dX1_splits_6 rfl (lv_at hl 1 rfl) ?_
  refine lv_iconst (v := nI 4) hx hb dX1_splits_7 (by decide) ?_
  refine lv_iload_n hx hb dX1_splits_8 rfl (lv_at hl 2 rfl) ?_
  refine lv_sipush (v := nI 1461) hx hb dX1_splits_9 (by decide) ?_
  refine pn_idiv hx hb (by omega) (by omega) (by omega) dX1_splits_12 ?_
  refine pn_imul hx hb dX1_splits_13 ?_
  refine lv_iconst (v := nI 1) hx hb dX1_splits_14 (by decide) ?_
  refine pn_iadd hx hb dX1_splits_15 ?_
  refine lv_iload_n hx hb dX1_splits_16 rfl (lv_at hl 0 rfl) ?_
  refine lv_sipush (v := nI 365) hx hb dX1_splits_17 (by decide) ?_
  refine pn_idiv hx hb (by omega) (by omega) (by omega) dX1_splits_20 ?_
  refine lv_iconst (v := nI 3) hx hb dX1_splits_21 (by decide) ?_
  refine pn_icmp_le (tgt := 29) hx hb (by omega) (by omega) dX1_splits_22 (by decide) (fun c_1 => ?_) (fun c_1 => ?_)
  · -- 22 yes
    refine lv_iload_n hx hb dX1_splits_29 rfl (lv_at hl 0 rfl) ?_
    refine lv_sipush (v := nI 365) hx hb dX1_splits_30 (by decide) ?_
    refine pn_idiv hx hb (by omega) (by omega) (by omega) dX1_splits_33 ?_
    refine pn_iadd hx hb dX1_splits_34 ?_
    refine va_put (D := D) (ci := 1) (v := .int (nI (((4 * (n / 1461)) + 1) + ((n % 1461) / 365)))) (ty := .int) (C := RX1) (T := TX1) (N := 9) hx hb hts hin tyX1 tyX1_ok nmX1 hown hK hP hD hS 0 rfl rfl 1 (by decide) (hts (.fieldLink RX1 56 "RomanCalendarModel" "year" "I") (by decide +kernel)) (fun _ h9 => h9) rfl (by decide +kernel) rfl rfl (Nat.le_of_ble_eq_true rfl) dX1_splits_35 (fun H locs hP hD hS => ?_)
    have hP : va_P D vwCl [(h1, .inr (1, [.int th, .int (nI (((4 * (n / 1461)) + 1) + ((n % 1461) / 365))), .int mo, .int da, .int (nI mk), .ref bc, .ref bf, .ref bg, .int (nI wr)])), (bc, .inl (cyI, 366, .inl (pz_ar rc))), (bf, .inl (cyI, 3001, .inl (pz_ar ff))), (bg, .inl (cyI, 3001, .inl (pz_ar gg)))] H := hP
    have hD : va_D A [(h1, .inr (1, [.int th, .int (nI (((4 * (n / 1461)) + 1) + ((n % 1461) / 365))), .int mo, .int da, .int (nI mk), .ref bc, .ref bf, .ref bg, .int (nI wr)])), (bc, .inl (cyI, 366, .inl (pz_ar rc))), (bf, .inl (cyI, 3001, .inl (pz_ar ff))), (bg, .inl (cyI, 3001, .inl (pz_ar gg)))] := hD
    have hq2 : ((4 * (n / 1461)) + 1) + ((n % 1461) / 365) = pm_yr n := by unfold pm_yr; omega
    have hP : va_P D vwCl [(h1, .inr (1, [.int th, .int (nI (pm_yr n)), .int mo, .int da, .int (nI mk), .ref bc, .ref bf, .ref bg, .int (nI wr)])), (bc, .inl (cyI, 366, .inl (pz_ar rc))), (bf, .inl (cyI, 3001, .inl (pz_ar ff))), (bg, .inl (cyI, 3001, .inl (pz_ar gg)))] H := by rw [← hq2]; exact hP
    have hD : va_D A [(h1, .inr (1, [.int th, .int (nI (pm_yr n)), .int mo, .int da, .int (nI mk), .ref bc, .ref bf, .ref bg, .int (nI wr)])), (bc, .inl (cyI, 366, .inl (pz_ar rc))), (bf, .inl (cyI, 3001, .inl (pz_ar ff))), (bg, .inl (cyI, 3001, .inl (pz_ar gg)))] := by rw [← hq2]; exact hD
    refine lv_aload_n hx hb dX1_splits_38 rfl (lv_at hl 1 rfl) ?_
    refine lv_iconst (v := nI 1) hx hb dX1_splits_39 (by decide) ?_
    refine va_put (D := D) (ci := 1) (v := .int (nI 1)) (ty := .int) (C := RX1) (T := TX1) (N := 9) hx hb hts hin tyX1 tyX1_ok nmX1 hown hK hP hD hS 0 rfl rfl 2 (by decide) (hts (.fieldLink RX1 27 "RomanCalendarModel" "month" "I") (by decide +kernel)) (fun _ h9 => h9) rfl (by decide +kernel) rfl rfl (Nat.le_of_ble_eq_true rfl) dX1_splits_40 (fun H locs hP hD hS => ?_)
    have hP : va_P D vwCl [(h1, .inr (1, [.int th, .int (nI (pm_yr n)), .int (nI 1), .int da, .int (nI mk), .ref bc, .ref bf, .ref bg, .int (nI wr)])), (bc, .inl (cyI, 366, .inl (pz_ar rc))), (bf, .inl (cyI, 3001, .inl (pz_ar ff))), (bg, .inl (cyI, 3001, .inl (pz_ar gg)))] H := hP
    have hD : va_D A [(h1, .inr (1, [.int th, .int (nI (pm_yr n)), .int (nI 1), .int da, .int (nI mk), .ref bc, .ref bf, .ref bg, .int (nI wr)])), (bc, .inl (cyI, 366, .inl (pz_ar rc))), (bf, .inl (cyI, 3001, .inl (pz_ar ff))), (bg, .inl (cyI, 3001, .inl (pz_ar gg)))] := hD
    refine lv_aload_n hx hb dX1_splits_43 rfl (lv_at hl 1 rfl) ?_
    refine lv_iload_n hx hb dX1_splits_44 rfl (lv_at hl 2 rfl) ?_
    refine lv_aload_n hx hb dX1_splits_45 rfl (lv_at hl 1 rfl) ?_
    refine va_get (D := D) (ci := 1) (v := .int (nI (pm_yr n))) (C := RX1) (T := TX1) (N := 9) hx hb hts hin hown hK hP 0 rfl rfl 1 (by decide) (hts (.fieldLink RX1 56 "RomanCalendarModel" "year" "I") (by decide +kernel)) (fun _ h9 => h9) rfl dX1_splits_46 ?_
    refine pz_SR (rest := [.int (nI n), .ref h1]) ⟨hx, hb, hml, hown, hts⟩ (k_X1_begin l D ((cyI, .int) :: ts) (pm_yr n) (by omega) (by omega)) (va_cwS 1 hts gX1_splits_X1_begin rfl rfl rfl (by decide +kernel) ⟨Nat.le_of_ble_eq_true rfl, Nat.le_of_ble_eq_true rfl⟩) hK hP (hD.weaken (fun _ _ _ _ => trivial)) hS hA [] rfl rfl rfl rfl hl.1 rfl (lv_room (Nat.le_of_ble_eq_true rfl)) dX1_splits_49 ⟨Nat.le_of_ble_eq_true rfl, Nat.le_of_ble_eq_true rfl⟩ (fun r H locs hr hP hS => ?_)
    obtain rfl : r = (nI (pm_fd (pm_yr n))) := hr
    have hf_4 := pm_fd_e (pm_yr n)
    refine pn_isub hx hb (by omega) dX1_splits_52 ?_
    refine lv_iconst (v := nI 1) hx hb dX1_splits_53 (by decide) ?_
    refine pn_iadd hx hb dX1_splits_54 ?_
    refine va_put (D := D) (ci := 1) (v := .int (nI ((n - (pm_fd (pm_yr n))) + 1))) (ty := .int) (C := RX1) (T := TX1) (N := 9) hx hb hts hin tyX1 tyX1_ok nmX1 hown hK hP hD hS 0 rfl rfl 3 (by decide) (hts (.fieldLink RX1 23 "RomanCalendarModel" "day" "I") (by decide +kernel)) (fun _ h9 => h9) rfl (by decide +kernel) rfl rfl (Nat.le_of_ble_eq_true rfl) dX1_splits_55 (fun H locs hP hD hS => ?_)
    have hP : va_P D vwCl [(h1, .inr (1, [.int th, .int (nI (pm_yr n)), .int (nI 1), .int (nI ((n - (pm_fd (pm_yr n))) + 1)), .int (nI mk), .ref bc, .ref bf, .ref bg, .int (nI wr)])), (bc, .inl (cyI, 366, .inl (pz_ar rc))), (bf, .inl (cyI, 3001, .inl (pz_ar ff))), (bg, .inl (cyI, 3001, .inl (pz_ar gg)))] H := hP
    have hD : va_D A [(h1, .inr (1, [.int th, .int (nI (pm_yr n)), .int (nI 1), .int (nI ((n - (pm_fd (pm_yr n))) + 1)), .int (nI mk), .ref bc, .ref bf, .ref bg, .int (nI wr)])), (bc, .inl (cyI, 366, .inl (pz_ar rc))), (bf, .inl (cyI, 3001, .inl (pz_ar ff))), (bg, .inl (cyI, 3001, .inl (pz_ar gg)))] := hD
    have LP58 : ∀ (N : Nat) (k : Nat) (H : Heap) (locs : List Loc) (ls : Array Slot), pm_mo n - k < N → (1 ≤ k) → (k ≤ pm_mo n) → va_P D vwCl [(h1, .inr (1, [.int th, .int (nI (pm_yr n)), .int (nI k), .int (nI (n - pm_fd (pm_yr n) + 1 - pm_db (pm_yr n) k)), .int (nI mk), .ref bc, .ref bf, .ref bg, .int (nI wr)])), (bc, .inl (cyI, 366, .inl (pz_ar rc))), (bf, .inl (cyI, 3001, .inl (pz_ar ff))), (bg, .inl (cyI, 3001, .inl (pz_ar gg)))] H → va_D A [(h1, .inr (1, [.int th, .int (nI (pm_yr n)), .int (nI k), .int (nI (n - pm_fd (pm_yr n) + 1 - pm_db (pm_yr n) k)), .int (nI mk), .ref bc, .ref bf, .ref bg, .int (nI wr)])), (bc, .inl (cyI, 366, .inl (pz_ar rc))), (bf, .inl (cyI, 3001, .inl (pz_ar ff))), (bg, .inl (cyI, 3001, .inl (pz_ar gg)))] → va_S A s.heap H locs → lv_has ls 3 [(2, .int (nI (n % 1461))), (0, .ref h1), (1, .int (nI n))] → W p l e ({ frames := 2, cells := 0, slots := 0, locals := 41 } : Room) s m ([.ref h1, .int (nI n)] : List Value).toArray below meth c H locs 0 0 Q (F0 m 58 ls []) := by
      intro N
      induction N with
      | zero => intro k H locs ls hN; exact absurd hN (Nat.not_lt_zero _)
      | succ N ih =>
        intro k H locs ls hN hi58_0 hi58_1 hP hD hS hl
        have hsk_0 := pm_db_s (pm_yr n) k (by omega)
        have hdk_0 := pm_db_b (pm_yr n) k (by omega)
        have hmk_0 := pm_db_m (y := pm_yr n) (a := k) (b := pm_mo n) (by omega) (by omega) (by omega)
        have hlk_0 := pm_ln_b (pm_yr n) k
        have hnx_0 := pm_splk (n := n) hi58_1
        have ih58 := ih
        refine lv_aload_n hx hb dX1_splits_58 rfl (lv_at hl 1 rfl) ?_
        refine va_get (D := D) (ci := 1) (v := .int (nI (n - pm_fd (pm_yr n) + 1 - pm_db (pm_yr n) k))) (C := RX1) (T := TX1) (N := 9) hx hb hts hin hown hK hP 0 rfl rfl 3 (by decide) (hts (.fieldLink RX1 23 "RomanCalendarModel" "day" "I") (by decide +kernel)) (fun _ h9 => h9) rfl dX1_splits_59 ?_
        refine lv_aload_n hx hb dX1_splits_62 rfl (lv_at hl 1 rfl) ?_
        refine va_get (D := D) (ci := 1) (v := .int (nI (pm_yr n))) (C := RX1) (T := TX1) (N := 9) hx hb hts hin hown hK hP 0 rfl rfl 1 (by decide) (hts (.fieldLink RX1 56 "RomanCalendarModel" "year" "I") (by decide +kernel)) (fun _ h9 => h9) rfl dX1_splits_63 ?_
        refine lv_aload_n hx hb dX1_splits_66 rfl (lv_at hl 1 rfl) ?_
        refine va_get (D := D) (ci := 1) (v := .int (nI k)) (C := RX1) (T := TX1) (N := 9) hx hb hts hin hown hK hP 0 rfl rfl 2 (by decide) (hts (.fieldLink RX1 27 "RomanCalendarModel" "month" "I") (by decide +kernel)) (fun _ h9 => h9) rfl dX1_splits_67 ?_
        refine pz_SR (rest := [.int (nI (n - pm_fd (pm_yr n) + 1 - pm_db (pm_yr n) k))]) ⟨hx, hb, hml, hown, hts⟩ (k_X1_length l D ((cyI, .int) :: ts) (pm_yr n) k (by omega) (by omega)) (va_cwS 2 hts gX1_splits_X1_length rfl rfl rfl (by decide +kernel) ⟨Nat.le_of_ble_eq_true rfl, Nat.le_of_ble_eq_true rfl⟩) hK hP (hD.weaken (fun _ _ _ _ => trivial)) hS hA [] rfl rfl rfl rfl hl.1 rfl (lv_room (Nat.le_of_ble_eq_true rfl)) dX1_splits_70 ⟨Nat.le_of_ble_eq_true rfl, Nat.le_of_ble_eq_true rfl⟩ (fun r H locs hr hP hS => ?_)
        obtain rfl : r = (nI (pm_ln (pm_yr n) k)) := hr
        have hf_6 := pm_ln_b (pm_yr n) k
        refine pn_icmp_le (tgt := 109) hx hb (by omega) (by omega) dX1_splits_73 (by decide) (fun c_7 => ?_) (fun c_7 => ?_)
        · -- 73 yes
          have hkm : k = pm_mo n := by
            rcases Nat.lt_or_ge k (pm_mo n) with h9 | h9
            · have h8 := pm_db_m (y := pm_yr n) (a := k + 1) (b := pm_mo n) (by omega) (by omega) (by omega)
              omega
            · omega
          subst hkm
          have hq8 : n - pm_fd (pm_yr n) + 1 - pm_db (pm_yr n) (pm_mo n) = pm_da n := by unfold pm_da; omega
          have hP : va_P D vwCl [(h1, .inr (1, [.int th, .int (nI (pm_yr n)), .int (nI (pm_mo n)), .int (nI (pm_da n)), .int (nI mk), .ref bc, .ref bf, .ref bg, .int (nI wr)])), (bc, .inl (cyI, 366, .inl (pz_ar rc))), (bf, .inl (cyI, 3001, .inl (pz_ar ff))), (bg, .inl (cyI, 3001, .inl (pz_ar gg)))] H := by rw [← hq8]; exact hP
          have hD : va_D A [(h1, .inr (1, [.int th, .int (nI (pm_yr n)), .int (nI (pm_mo n)), .int (nI (pm_da n)), .int (nI mk), .ref bc, .ref bf, .ref bg, .int (nI wr)])), (bc, .inl (cyI, 366, .inl (pz_ar rc))), (bf, .inl (cyI, 3001, .inl (pz_ar ff))), (bg, .inl (cyI, 3001, .inl (pz_ar gg)))] := by rw [← hq8]; exact hD
          exact hQ _ _ _ _ () dX1_splits_109 (by trivial) hP hD hS
        · -- 73 no
          refine lv_aload_n hx hb dX1_splits_76 rfl (lv_at hl 1 rfl) ?_
          refine lv_dup hx hb dX1_splits_77 rfl ?_
          refine va_get (D := D) (ci := 1) (v := .int (nI (n - pm_fd (pm_yr n) + 1 - pm_db (pm_yr n) k))) (C := RX1) (T := TX1) (N := 9) hx hb hts hin hown hK hP 0 rfl rfl 3 (by decide) (hts (.fieldLink RX1 23 "RomanCalendarModel" "day" "I") (by decide +kernel)) (fun _ h9 => h9) rfl dX1_splits_78 ?_
          refine lv_aload_n hx hb dX1_splits_81 rfl (lv_at hl 1 rfl) ?_
          refine va_get (D := D) (ci := 1) (v := .int (nI (pm_yr n))) (C := RX1) (T := TX1) (N := 9) hx hb hts hin hown hK hP 0 rfl rfl 1 (by decide) (hts (.fieldLink RX1 56 "RomanCalendarModel" "year" "I") (by decide +kernel)) (fun _ h9 => h9) rfl dX1_splits_82 ?_
          refine lv_aload_n hx hb dX1_splits_85 rfl (lv_at hl 1 rfl) ?_
          refine va_get (D := D) (ci := 1) (v := .int (nI k)) (C := RX1) (T := TX1) (N := 9) hx hb hts hin hown hK hP 0 rfl rfl 2 (by decide) (hts (.fieldLink RX1 27 "RomanCalendarModel" "month" "I") (by decide +kernel)) (fun _ h9 => h9) rfl dX1_splits_86 ?_
          refine pz_SR (rest := [.int (nI (n - pm_fd (pm_yr n) + 1 - pm_db (pm_yr n) k)), .ref h1]) ⟨hx, hb, hml, hown, hts⟩ (k_X1_length l D ((cyI, .int) :: ts) (pm_yr n) k (by omega) (by omega)) (va_cwS 2 hts gX1_splits_X1_length rfl rfl rfl (by decide +kernel) ⟨Nat.le_of_ble_eq_true rfl, Nat.le_of_ble_eq_true rfl⟩) hK hP (hD.weaken (fun _ _ _ _ => trivial)) hS hA [] rfl rfl rfl rfl hl.1 rfl (lv_room (Nat.le_of_ble_eq_true rfl)) dX1_splits_89 ⟨Nat.le_of_ble_eq_true rfl, Nat.le_of_ble_eq_true rfl⟩ (fun r H locs hr hP hS => ?_)
          obtain rfl : r = (nI (pm_ln (pm_yr n) k)) := hr
          have hf_10 := pm_ln_b (pm_yr n) k
          refine pn_isub hx hb (by omega) dX1_splits_92 ?_
          refine va_put (D := D) (ci := 1) (v := .int (nI ((n - pm_fd (pm_yr n) + 1 - pm_db (pm_yr n) k) - (pm_ln (pm_yr n) k)))) (ty := .int) (C := RX1) (T := TX1) (N := 9) hx hb hts hin tyX1 tyX1_ok nmX1 hown hK hP hD hS 0 rfl rfl 3 (by decide) (hts (.fieldLink RX1 23 "RomanCalendarModel" "day" "I") (by decide +kernel)) (fun _ h9 => h9) rfl (by decide +kernel) rfl rfl (Nat.le_of_ble_eq_true rfl) dX1_splits_93 (fun H locs hP hD hS => ?_)
          have hP : va_P D vwCl [(h1, .inr (1, [.int th, .int (nI (pm_yr n)), .int (nI k), .int (nI ((n - pm_fd (pm_yr n) + 1 - pm_db (pm_yr n) k) - (pm_ln (pm_yr n) k))), .int (nI mk), .ref bc, .ref bf, .ref bg, .int (nI wr)])), (bc, .inl (cyI, 366, .inl (pz_ar rc))), (bf, .inl (cyI, 3001, .inl (pz_ar ff))), (bg, .inl (cyI, 3001, .inl (pz_ar gg)))] H := hP
          have hD : va_D A [(h1, .inr (1, [.int th, .int (nI (pm_yr n)), .int (nI k), .int (nI ((n - pm_fd (pm_yr n) + 1 - pm_db (pm_yr n) k) - (pm_ln (pm_yr n) k))), .int (nI mk), .ref bc, .ref bf, .ref bg, .int (nI wr)])), (bc, .inl (cyI, 366, .inl (pz_ar rc))), (bf, .inl (cyI, 3001, .inl (pz_ar ff))), (bg, .inl (cyI, 3001, .inl (pz_ar gg)))] := hD
          refine lv_aload_n hx hb dX1_splits_96 rfl (lv_at hl 1 rfl) ?_
          refine lv_dup hx hb dX1_splits_97 rfl ?_
          refine va_get (D := D) (ci := 1) (v := .int (nI k)) (C := RX1) (T := TX1) (N := 9) hx hb hts hin hown hK hP 0 rfl rfl 2 (by decide) (hts (.fieldLink RX1 27 "RomanCalendarModel" "month" "I") (by decide +kernel)) (fun _ h9 => h9) rfl dX1_splits_98 ?_
          refine lv_iconst (v := nI 1) hx hb dX1_splits_101 (by decide) ?_
          refine pn_iadd hx hb dX1_splits_102 ?_
          refine va_put (D := D) (ci := 1) (v := .int (nI (k + 1))) (ty := .int) (C := RX1) (T := TX1) (N := 9) hx hb hts hin tyX1 tyX1_ok nmX1 hown hK hP hD hS 0 rfl rfl 2 (by decide) (hts (.fieldLink RX1 27 "RomanCalendarModel" "month" "I") (by decide +kernel)) (fun _ h9 => h9) rfl (by decide +kernel) rfl rfl (Nat.le_of_ble_eq_true rfl) dX1_splits_103 (fun H locs hP hD hS => ?_)
          have hP : va_P D vwCl [(h1, .inr (1, [.int th, .int (nI (pm_yr n)), .int (nI (k + 1)), .int (nI ((n - pm_fd (pm_yr n) + 1 - pm_db (pm_yr n) k) - (pm_ln (pm_yr n) k))), .int (nI mk), .ref bc, .ref bf, .ref bg, .int (nI wr)])), (bc, .inl (cyI, 366, .inl (pz_ar rc))), (bf, .inl (cyI, 3001, .inl (pz_ar ff))), (bg, .inl (cyI, 3001, .inl (pz_ar gg)))] H := hP
          have hD : va_D A [(h1, .inr (1, [.int th, .int (nI (pm_yr n)), .int (nI (k + 1)), .int (nI ((n - pm_fd (pm_yr n) + 1 - pm_db (pm_yr n) k) - (pm_ln (pm_yr n) k))), .int (nI mk), .ref bc, .ref bf, .ref bg, .int (nI wr)])), (bc, .inl (cyI, 366, .inl (pz_ar rc))), (bf, .inl (cyI, 3001, .inl (pz_ar ff))), (bg, .inl (cyI, 3001, .inl (pz_ar gg)))] := hD
          refine lv_goto (tgt := 58) hx hb dX1_splits_106 (by decide) ?_
          have hq11 : (n - pm_fd (pm_yr n) + 1 - pm_db (pm_yr n) k) - (pm_ln (pm_yr n) k) = n - pm_fd (pm_yr n) + 1 - pm_db (pm_yr n) (k + 1) := by first | (rw [pm_db_1]; omega) | omega
          have hP : va_P D vwCl [(h1, .inr (1, [.int th, .int (nI (pm_yr n)), .int (nI (k + 1)), .int (nI (n - pm_fd (pm_yr n) + 1 - pm_db (pm_yr n) (k + 1))), .int (nI mk), .ref bc, .ref bf, .ref bg, .int (nI wr)])), (bc, .inl (cyI, 366, .inl (pz_ar rc))), (bf, .inl (cyI, 3001, .inl (pz_ar ff))), (bg, .inl (cyI, 3001, .inl (pz_ar gg)))] H := by rw [← hq11]; exact hP
          have hD : va_D A [(h1, .inr (1, [.int th, .int (nI (pm_yr n)), .int (nI (k + 1)), .int (nI (n - pm_fd (pm_yr n) + 1 - pm_db (pm_yr n) (k + 1))), .int (nI mk), .ref bc, .ref bf, .ref bg, .int (nI wr)])), (bc, .inl (cyI, 366, .inl (pz_ar rc))), (bf, .inl (cyI, 3001, .inl (pz_ar ff))), (bg, .inl (cyI, 3001, .inl (pz_ar gg)))] := by rw [← hq11]; exact hD
          exact ih58 (k + 1) _ _ _ (by omega) (by omega) (by omega) hP hD hS (lv_sub hl [0, 1, 2] rfl)
    have hq12 : (n - (pm_fd (pm_yr n))) + 1 = n - pm_fd (pm_yr n) + 1 - pm_db (pm_yr n) 1 := by first | (rw [pm_db_1]; omega) | omega
    have hP : va_P D vwCl [(h1, .inr (1, [.int th, .int (nI (pm_yr n)), .int (nI 1), .int (nI (n - pm_fd (pm_yr n) + 1 - pm_db (pm_yr n) 1)), .int (nI mk), .ref bc, .ref bf, .ref bg, .int (nI wr)])), (bc, .inl (cyI, 366, .inl (pz_ar rc))), (bf, .inl (cyI, 3001, .inl (pz_ar ff))), (bg, .inl (cyI, 3001, .inl (pz_ar gg)))] H := by rw [← hq12]; exact hP
    have hD : va_D A [(h1, .inr (1, [.int th, .int (nI (pm_yr n)), .int (nI 1), .int (nI (n - pm_fd (pm_yr n) + 1 - pm_db (pm_yr n) 1)), .int (nI mk), .ref bc, .ref bf, .ref bg, .int (nI wr)])), (bc, .inl (cyI, 366, .inl (pz_ar rc))), (bf, .inl (cyI, 3001, .inl (pz_ar ff))), (bg, .inl (cyI, 3001, .inl (pz_ar gg)))] := by rw [← hq12]; exact hD
    exact LP58 _ 1 _ _ _ (Nat.lt_succ_self _) (by omega) (by omega) hP hD hS (lv_sub hl [0, 1, 2] rfl)
  · -- 22 no
    refine lv_iconst (v := nI 3) hx hb dX1_splits_25 (by decide) ?_
    refine lv_goto (tgt := 34) hx hb dX1_splits_26 (by decide) ?_
    refine pn_iadd hx hb dX1_splits_34 ?_
    refine va_put (D := D) (ci := 1) (v := .int (nI (((4 * (n / 1461)) + 1) + 3))) (ty := .int) (C := RX1) (T := TX1) (N := 9) hx hb hts hin tyX1 tyX1_ok nmX1 hown hK hP hD hS 0 rfl rfl 1 (by decide) (hts (.fieldLink RX1 56 "RomanCalendarModel" "year" "I") (by decide +kernel)) (fun _ h9 => h9) rfl (by decide +kernel) rfl rfl (Nat.le_of_ble_eq_true rfl) dX1_splits_35 (fun H locs hP hD hS => ?_)
    have hP : va_P D vwCl [(h1, .inr (1, [.int th, .int (nI (((4 * (n / 1461)) + 1) + 3)), .int mo, .int da, .int (nI mk), .ref bc, .ref bf, .ref bg, .int (nI wr)])), (bc, .inl (cyI, 366, .inl (pz_ar rc))), (bf, .inl (cyI, 3001, .inl (pz_ar ff))), (bg, .inl (cyI, 3001, .inl (pz_ar gg)))] H := hP
    have hD : va_D A [(h1, .inr (1, [.int th, .int (nI (((4 * (n / 1461)) + 1) + 3)), .int mo, .int da, .int (nI mk), .ref bc, .ref bf, .ref bg, .int (nI wr)])), (bc, .inl (cyI, 366, .inl (pz_ar rc))), (bf, .inl (cyI, 3001, .inl (pz_ar ff))), (bg, .inl (cyI, 3001, .inl (pz_ar gg)))] := hD
    have hq13 : ((4 * (n / 1461)) + 1) + 3 = pm_yr n := by unfold pm_yr; omega
    have hP : va_P D vwCl [(h1, .inr (1, [.int th, .int (nI (pm_yr n)), .int mo, .int da, .int (nI mk), .ref bc, .ref bf, .ref bg, .int (nI wr)])), (bc, .inl (cyI, 366, .inl (pz_ar rc))), (bf, .inl (cyI, 3001, .inl (pz_ar ff))), (bg, .inl (cyI, 3001, .inl (pz_ar gg)))] H := by rw [← hq13]; exact hP
    have hD : va_D A [(h1, .inr (1, [.int th, .int (nI (pm_yr n)), .int mo, .int da, .int (nI mk), .ref bc, .ref bf, .ref bg, .int (nI wr)])), (bc, .inl (cyI, 366, .inl (pz_ar rc))), (bf, .inl (cyI, 3001, .inl (pz_ar ff))), (bg, .inl (cyI, 3001, .inl (pz_ar gg)))] := by rw [← hq13]; exact hD
    refine lv_aload_n hx hb dX1_splits_38 rfl (lv_at hl 1 rfl) ?_
    refine lv_iconst (v := nI 1) hx hb dX1_splits_39 (by decide) ?_
    refine va_put (D := D) (ci := 1) (v := .int (nI 1)) (ty := .int) (C := RX1) (T := TX1) (N := 9) hx hb hts hin tyX1 tyX1_ok nmX1 hown hK hP hD hS 0 rfl rfl 2 (by decide) (hts (.fieldLink RX1 27 "RomanCalendarModel" "month" "I") (by decide +kernel)) (fun _ h9 => h9) rfl (by decide +kernel) rfl rfl (Nat.le_of_ble_eq_true rfl) dX1_splits_40 (fun H locs hP hD hS => ?_)
    have hP : va_P D vwCl [(h1, .inr (1, [.int th, .int (nI (pm_yr n)), .int (nI 1), .int da, .int (nI mk), .ref bc, .ref bf, .ref bg, .int (nI wr)])), (bc, .inl (cyI, 366, .inl (pz_ar rc))), (bf, .inl (cyI, 3001, .inl (pz_ar ff))), (bg, .inl (cyI, 3001, .inl (pz_ar gg)))] H := hP
    have hD : va_D A [(h1, .inr (1, [.int th, .int (nI (pm_yr n)), .int (nI 1), .int da, .int (nI mk), .ref bc, .ref bf, .ref bg, .int (nI wr)])), (bc, .inl (cyI, 366, .inl (pz_ar rc))), (bf, .inl (cyI, 3001, .inl (pz_ar ff))), (bg, .inl (cyI, 3001, .inl (pz_ar gg)))] := hD
    refine lv_aload_n hx hb dX1_splits_43 rfl (lv_at hl 1 rfl) ?_
    refine lv_iload_n hx hb dX1_splits_44 rfl (lv_at hl 2 rfl) ?_
    refine lv_aload_n hx hb dX1_splits_45 rfl (lv_at hl 1 rfl) ?_
    refine va_get (D := D) (ci := 1) (v := .int (nI (pm_yr n))) (C := RX1) (T := TX1) (N := 9) hx hb hts hin hown hK hP 0 rfl rfl 1 (by decide) (hts (.fieldLink RX1 56 "RomanCalendarModel" "year" "I") (by decide +kernel)) (fun _ h9 => h9) rfl dX1_splits_46 ?_
    refine pz_SR (rest := [.int (nI n), .ref h1]) ⟨hx, hb, hml, hown, hts⟩ (k_X1_begin l D ((cyI, .int) :: ts) (pm_yr n) (by omega) (by omega)) (va_cwS 1 hts gX1_splits_X1_begin rfl rfl rfl (by decide +kernel) ⟨Nat.le_of_ble_eq_true rfl, Nat.le_of_ble_eq_true rfl⟩) hK hP (hD.weaken (fun _ _ _ _ => trivial)) hS hA [] rfl rfl rfl rfl hl.1 rfl (lv_room (Nat.le_of_ble_eq_true rfl)) dX1_splits_49 ⟨Nat.le_of_ble_eq_true rfl, Nat.le_of_ble_eq_true rfl⟩ (fun r H locs hr hP hS => ?_)
    obtain rfl : r = (nI (pm_fd (pm_yr n))) := hr
    have hf_15 := pm_fd_e (pm_yr n)
    refine pn_isub hx hb (by omega) dX1_splits_52 ?_
    refine lv_iconst (v := nI 1) hx hb dX1_splits_53 (by decide) ?_
    refine pn_iadd hx hb dX1_splits_54 ?_
    refine va_put (D := D) (ci := 1) (v := .int (nI ((n - (pm_fd (pm_yr n))) + 1))) (ty := .int) (C := RX1) (T := TX1) (N := 9) hx hb hts hin tyX1 tyX1_ok nmX1 hown hK hP hD hS 0 rfl rfl 3 (by decide) (hts (.fieldLink RX1 23 "RomanCalendarModel" "day" "I") (by decide +kernel)) (fun _ h9 => h9) rfl (by decide +kernel) rfl rfl (Nat.le_of_ble_eq_true rfl) dX1_splits_55 (fun H locs hP hD hS => ?_)
    have hP : va_P D vwCl [(h1, .inr (1, [.int th, .int (nI (pm_yr n)), .int (nI 1), .int (nI ((n - (pm_fd (pm_yr n))) + 1)), .int (nI mk), .ref bc, .ref bf, .ref bg, .int (nI wr)])), (bc, .inl (cyI, 366, .inl (pz_ar rc))), (bf, .inl (cyI, 3001, .inl (pz_ar ff))), (bg, .inl (cyI, 3001, .inl (pz_ar gg)))] H := hP
    have hD : va_D A [(h1, .inr (1, [.int th, .int (nI (pm_yr n)), .int (nI 1), .int (nI ((n - (pm_fd (pm_yr n))) + 1)), .int (nI mk), .ref bc, .ref bf, .ref bg, .int (nI wr)])), (bc, .inl (cyI, 366, .inl (pz_ar rc))), (bf, .inl (cyI, 3001, .inl (pz_ar ff))), (bg, .inl (cyI, 3001, .inl (pz_ar gg)))] := hD
    have LP58 : ∀ (N : Nat) (k : Nat) (H : Heap) (locs : List Loc) (ls : Array Slot), pm_mo n - k < N → (1 ≤ k) → (k ≤ pm_mo n) → va_P D vwCl [(h1, .inr (1, [.int th, .int (nI (pm_yr n)), .int (nI k), .int (nI (n - pm_fd (pm_yr n) + 1 - pm_db (pm_yr n) k)), .int (nI mk), .ref bc, .ref bf, .ref bg, .int (nI wr)])), (bc, .inl (cyI, 366, .inl (pz_ar rc))), (bf, .inl (cyI, 3001, .inl (pz_ar ff))), (bg, .inl (cyI, 3001, .inl (pz_ar gg)))] H → va_D A [(h1, .inr (1, [.int th, .int (nI (pm_yr n)), .int (nI k), .int (nI (n - pm_fd (pm_yr n) + 1 - pm_db (pm_yr n) k)), .int (nI mk), .ref bc, .ref bf, .ref bg, .int (nI wr)])), (bc, .inl (cyI, 366, .inl (pz_ar rc))), (bf, .inl (cyI, 3001, .inl (pz_ar ff))), (bg, .inl (cyI, 3001, .inl (pz_ar gg)))] → va_S A s.heap H locs → lv_has ls 3 [(2, .int (nI (n % 1461))), (0, .ref h1), (1, .int (nI n))] → W p l e ({ frames := 2, cells := 0, slots := 0, locals := 41 } : Room) s m ([.ref h1, .int (nI n)] : List Value).toArray below meth c H locs 0 0 Q (F0 m 58 ls []) := by
      intro N
      induction N with
      | zero => intro k H locs ls hN; exact absurd hN (Nat.not_lt_zero _)
      | succ N ih =>
        intro k H locs ls hN hi58_0 hi58_1 hP hD hS hl
        have hsk_0 := pm_db_s (pm_yr n) k (by omega)
        have hdk_0 := pm_db_b (pm_yr n) k (by omega)
        have hmk_0 := pm_db_m (y := pm_yr n) (a := k) (b := pm_mo n) (by omega) (by omega) (by omega)
        have hlk_0 := pm_ln_b (pm_yr n) k
        have hnx_0 := pm_splk (n := n) hi58_1
        have ih58 := ih
        refine lv_aload_n hx hb dX1_splits_58 rfl (lv_at hl 1 rfl) ?_
        refine va_get (D := D) (ci := 1) (v := .int (nI (n - pm_fd (pm_yr n) + 1 - pm_db (pm_yr n) k))) (C := RX1) (T := TX1) (N := 9) hx hb hts hin hown hK hP 0 rfl rfl 3 (by decide) (hts (.fieldLink RX1 23 "RomanCalendarModel" "day" "I") (by decide +kernel)) (fun _ h9 => h9) rfl dX1_splits_59 ?_
        refine lv_aload_n hx hb dX1_splits_62 rfl (lv_at hl 1 rfl) ?_
        refine va_get (D := D) (ci := 1) (v := .int (nI (pm_yr n))) (C := RX1) (T := TX1) (N := 9) hx hb hts hin hown hK hP 0 rfl rfl 1 (by decide) (hts (.fieldLink RX1 56 "RomanCalendarModel" "year" "I") (by decide +kernel)) (fun _ h9 => h9) rfl dX1_splits_63 ?_
        refine lv_aload_n hx hb dX1_splits_66 rfl (lv_at hl 1 rfl) ?_
        refine va_get (D := D) (ci := 1) (v := .int (nI k)) (C := RX1) (T := TX1) (N := 9) hx hb hts hin hown hK hP 0 rfl rfl 2 (by decide) (hts (.fieldLink RX1 27 "RomanCalendarModel" "month" "I") (by decide +kernel)) (fun _ h9 => h9) rfl dX1_splits_67 ?_
        refine pz_SR (rest := [.int (nI (n - pm_fd (pm_yr n) + 1 - pm_db (pm_yr n) k))]) ⟨hx, hb, hml, hown, hts⟩ (k_X1_length l D ((cyI, .int) :: ts) (pm_yr n) k (by omega) (by omega)) (va_cwS 2 hts gX1_splits_X1_length rfl rfl rfl (by decide +kernel) ⟨Nat.le_of_ble_eq_true rfl, Nat.le_of_ble_eq_true rfl⟩) hK hP (hD.weaken (fun _ _ _ _ => trivial)) hS hA [] rfl rfl rfl rfl hl.1 rfl (lv_room (Nat.le_of_ble_eq_true rfl)) dX1_splits_70 ⟨Nat.le_of_ble_eq_true rfl, Nat.le_of_ble_eq_true rfl⟩ (fun r H locs hr hP hS => ?_)
        obtain rfl : r = (nI (pm_ln (pm_yr n) k)) := hr
        have hf_17 := pm_ln_b (pm_yr n) k
        refine pn_icmp_le (tgt := 109) hx hb (by omega) (by omega) dX1_splits_73 (by decide) (fun c_18 => ?_) (fun c_18 => ?_)
        · -- 73 yes
          have hkm : k = pm_mo n := by
            rcases Nat.lt_or_ge k (pm_mo n) with h9 | h9
            · have h8 := pm_db_m (y := pm_yr n) (a := k + 1) (b := pm_mo n) (by omega) (by omega) (by omega)
              omega
            · omega
          subst hkm
          have hq19 : n - pm_fd (pm_yr n) + 1 - pm_db (pm_yr n) (pm_mo n) = pm_da n := by unfold pm_da; omega
          have hP : va_P D vwCl [(h1, .inr (1, [.int th, .int (nI (pm_yr n)), .int (nI (pm_mo n)), .int (nI (pm_da n)), .int (nI mk), .ref bc, .ref bf, .ref bg, .int (nI wr)])), (bc, .inl (cyI, 366, .inl (pz_ar rc))), (bf, .inl (cyI, 3001, .inl (pz_ar ff))), (bg, .inl (cyI, 3001, .inl (pz_ar gg)))] H := by rw [← hq19]; exact hP
          have hD : va_D A [(h1, .inr (1, [.int th, .int (nI (pm_yr n)), .int (nI (pm_mo n)), .int (nI (pm_da n)), .int (nI mk), .ref bc, .ref bf, .ref bg, .int (nI wr)])), (bc, .inl (cyI, 366, .inl (pz_ar rc))), (bf, .inl (cyI, 3001, .inl (pz_ar ff))), (bg, .inl (cyI, 3001, .inl (pz_ar gg)))] := by rw [← hq19]; exact hD
          exact hQ _ _ _ _ () dX1_splits_109 (by trivial) hP hD hS
        · -- 73 no
          refine lv_aload_n hx hb dX1_splits_76 rfl (lv_at hl 1 rfl) ?_
          refine lv_dup hx hb dX1_splits_77 rfl ?_
          refine va_get (D := D) (ci := 1) (v := .int (nI (n - pm_fd (pm_yr n) + 1 - pm_db (pm_yr n) k))) (C := RX1) (T := TX1) (N := 9) hx hb hts hin hown hK hP 0 rfl rfl 3 (by decide) (hts (.fieldLink RX1 23 "RomanCalendarModel" "day" "I") (by decide +kernel)) (fun _ h9 => h9) rfl dX1_splits_78 ?_
          refine lv_aload_n hx hb dX1_splits_81 rfl (lv_at hl 1 rfl) ?_
          refine va_get (D := D) (ci := 1) (v := .int (nI (pm_yr n))) (C := RX1) (T := TX1) (N := 9) hx hb hts hin hown hK hP 0 rfl rfl 1 (by decide) (hts (.fieldLink RX1 56 "RomanCalendarModel" "year" "I") (by decide +kernel)) (fun _ h9 => h9) rfl dX1_splits_82 ?_
          refine lv_aload_n hx hb dX1_splits_85 rfl (lv_at hl 1 rfl) ?_
          refine va_get (D := D) (ci := 1) (v := .int (nI k)) (C := RX1) (T := TX1) (N := 9) hx hb hts hin hown hK hP 0 rfl rfl 2 (by decide) (hts (.fieldLink RX1 27 "RomanCalendarModel" "month" "I") (by decide +kernel)) (fun _ h9 => h9) rfl dX1_splits_86 ?_
          refine pz_SR (rest := [.int (nI (n - pm_fd (pm_yr n) + 1 - pm_db (pm_yr n) k)), .ref h1]) ⟨hx, hb, hml, hown, hts⟩ (k_X1_length l D ((cyI, .int) :: ts) (pm_yr n) k (by omega) (by omega)) (va_cwS 2 hts gX1_splits_X1_length rfl rfl rfl (by decide +kernel) ⟨Nat.le_of_ble_eq_true rfl, Nat.le_of_ble_eq_true rfl⟩) hK hP (hD.weaken (fun _ _ _ _ => trivial)) hS hA [] rfl rfl rfl rfl hl.1 rfl (lv_room (Nat.le_of_ble_eq_true rfl)) dX1_splits_89 ⟨Nat.le_of_ble_eq_true rfl, Nat.le_of_ble_eq_true rfl⟩ (fun r H locs hr hP hS => ?_)
          obtain rfl : r = (nI (pm_ln (pm_yr n) k)) := hr
          have hf_21 := pm_ln_b (pm_yr n) k
          refine pn_isub hx hb (by omega) dX1_splits_92 ?_
          refine va_put (D := D) (ci := 1) (v := .int (nI ((n - pm_fd (pm_yr n) + 1 - pm_db (pm_yr n) k) - (pm_ln (pm_yr n) k)))) (ty := .int) (C := RX1) (T := TX1) (N := 9) hx hb hts hin tyX1 tyX1_ok nmX1 hown hK hP hD hS 0 rfl rfl 3 (by decide) (hts (.fieldLink RX1 23 "RomanCalendarModel" "day" "I") (by decide +kernel)) (fun _ h9 => h9) rfl (by decide +kernel) rfl rfl (Nat.le_of_ble_eq_true rfl) dX1_splits_93 (fun H locs hP hD hS => ?_)
          have hP : va_P D vwCl [(h1, .inr (1, [.int th, .int (nI (pm_yr n)), .int (nI k), .int (nI ((n - pm_fd (pm_yr n) + 1 - pm_db (pm_yr n) k) - (pm_ln (pm_yr n) k))), .int (nI mk), .ref bc, .ref bf, .ref bg, .int (nI wr)])), (bc, .inl (cyI, 366, .inl (pz_ar rc))), (bf, .inl (cyI, 3001, .inl (pz_ar ff))), (bg, .inl (cyI, 3001, .inl (pz_ar gg)))] H := hP
          have hD : va_D A [(h1, .inr (1, [.int th, .int (nI (pm_yr n)), .int (nI k), .int (nI ((n - pm_fd (pm_yr n) + 1 - pm_db (pm_yr n) k) - (pm_ln (pm_yr n) k))), .int (nI mk), .ref bc, .ref bf, .ref bg, .int (nI wr)])), (bc, .inl (cyI, 366, .inl (pz_ar rc))), (bf, .inl (cyI, 3001, .inl (pz_ar ff))), (bg, .inl (cyI, 3001, .inl (pz_ar gg)))] := hD
          refine lv_aload_n hx hb dX1_splits_96 rfl (lv_at hl 1 rfl) ?_
          refine lv_dup hx hb dX1_splits_97 rfl ?_
          refine va_get (D := D) (ci := 1) (v := .int (nI k)) (C := RX1) (T := TX1) (N := 9) hx hb hts hin hown hK hP 0 rfl rfl 2 (by decide) (hts (.fieldLink RX1 27 "RomanCalendarModel" "month" "I") (by decide +kernel)) (fun _ h9 => h9) rfl dX1_splits_98 ?_
          refine lv_iconst (v := nI 1) hx hb dX1_splits_101 (by decide) ?_
          refine pn_iadd hx hb dX1_splits_102 ?_
          refine va_put (D := D) (ci := 1) (v := .int (nI (k + 1))) (ty := .int) (C := RX1) (T := TX1) (N := 9) hx hb hts hin tyX1 tyX1_ok nmX1 hown hK hP hD hS 0 rfl rfl 2 (by decide) (hts (.fieldLink RX1 27 "RomanCalendarModel" "month" "I") (by decide +kernel)) (fun _ h9 => h9) rfl (by decide +kernel) rfl rfl (Nat.le_of_ble_eq_true rfl) dX1_splits_103 (fun H locs hP hD hS => ?_)
          have hP : va_P D vwCl [(h1, .inr (1, [.int th, .int (nI (pm_yr n)), .int (nI (k + 1)), .int (nI ((n - pm_fd (pm_yr n) + 1 - pm_db (pm_yr n) k) - (pm_ln (pm_yr n) k))), .int (nI mk), .ref bc, .ref bf, .ref bg, .int (nI wr)])), (bc, .inl (cyI, 366, .inl (pz_ar rc))), (bf, .inl (cyI, 3001, .inl (pz_ar ff))), (bg, .inl (cyI, 3001, .inl (pz_ar gg)))] H := hP
          have hD : va_D A [(h1, .inr (1, [.int th, .int (nI (pm_yr n)), .int (nI (k + 1)), .int (nI ((n - pm_fd (pm_yr n) + 1 - pm_db (pm_yr n) k) - (pm_ln (pm_yr n) k))), .int (nI mk), .ref bc, .ref bf, .ref bg, .int (nI wr)])), (bc, .inl (cyI, 366, .inl (pz_ar rc))), (bf, .inl (cyI, 3001, .inl (pz_ar ff))), (bg, .inl (cyI, 3001, .inl (pz_ar gg)))] := hD
          refine lv_goto (tgt := 58) hx hb dX1_splits_106 (by decide) ?_
          have hq22 : (n - pm_fd (pm_yr n) + 1 - pm_db (pm_yr n) k) - (pm_ln (pm_yr n) k) = n - pm_fd (pm_yr n) + 1 - pm_db (pm_yr n) (k + 1) := by first | (rw [pm_db_1]; omega) | omega
          have hP : va_P D vwCl [(h1, .inr (1, [.int th, .int (nI (pm_yr n)), .int (nI (k + 1)), .int (nI (n - pm_fd (pm_yr n) + 1 - pm_db (pm_yr n) (k + 1))), .int (nI mk), .ref bc, .ref bf, .ref bg, .int (nI wr)])), (bc, .inl (cyI, 366, .inl (pz_ar rc))), (bf, .inl (cyI, 3001, .inl (pz_ar ff))), (bg, .inl (cyI, 3001, .inl (pz_ar gg)))] H := by rw [← hq22]; exact hP
          have hD : va_D A [(h1, .inr (1, [.int th, .int (nI (pm_yr n)), .int (nI (k + 1)), .int (nI (n - pm_fd (pm_yr n) + 1 - pm_db (pm_yr n) (k + 1))), .int (nI mk), .ref bc, .ref bf, .ref bg, .int (nI wr)])), (bc, .inl (cyI, 366, .inl (pz_ar rc))), (bf, .inl (cyI, 3001, .inl (pz_ar ff))), (bg, .inl (cyI, 3001, .inl (pz_ar gg)))] := by rw [← hq22]; exact hD
          exact ih58 (k + 1) _ _ _ (by omega) (by omega) (by omega) hP hD hS (lv_sub hl [0, 1, 2] rfl)
    have hq23 : (n - (pm_fd (pm_yr n))) + 1 = n - pm_fd (pm_yr n) + 1 - pm_db (pm_yr n) 1 := by first | (rw [pm_db_1]; omega) | omega
    have hP : va_P D vwCl [(h1, .inr (1, [.int th, .int (nI (pm_yr n)), .int (nI 1), .int (nI (n - pm_fd (pm_yr n) + 1 - pm_db (pm_yr n) 1)), .int (nI mk), .ref bc, .ref bf, .ref bg, .int (nI wr)])), (bc, .inl (cyI, 366, .inl (pz_ar rc))), (bf, .inl (cyI, 3001, .inl (pz_ar ff))), (bg, .inl (cyI, 3001, .inl (pz_ar gg)))] H := by rw [← hq23]; exact hP
    have hD : va_D A [(h1, .inr (1, [.int th, .int (nI (pm_yr n)), .int (nI 1), .int (nI (n - pm_fd (pm_yr n) + 1 - pm_db (pm_yr n) 1)), .int (nI mk), .ref bc, .ref bf, .ref bg, .int (nI wr)])), (bc, .inl (cyI, 366, .inl (pz_ar rc))), (bf, .inl (cyI, 3001, .inl (pz_ar ff))), (bg, .inl (cyI, 3001, .inl (pz_ar gg)))] := by rw [← hq23]; exact hD
    exact LP58 _ 1 _ _ _ (Nat.lt_succ_self _) (by omega) (by omega) hP hD hS (lv_sub hl [0, 1, 2] rfl)
set_option maxHeartbeats 4000000 in
set_option maxRecDepth 100000 in
theorem k_X1_isAsked_a (l : Launch) (D : va_G) (h1 bc bf bg : Nat) (cyI : ClassId) (ts : List (ClassId × FieldType)) (th yr mo da : Int32) (mk wr : Nat) (rc ff gg : Nat → Nat) (n : Nat) (hy0 : n < 1095750) : pz_I l yX1_isAsked wsX1_isAsked ({ frames := 3, cells := 0, slots := 0, locals := 63 } : Room) D ((cyI, .int) :: ts) [.ref h1, .int (nI n)] [(h1, .inr (1, [.int th, .int yr, .int mo, .int da, .int (nI mk), .ref bc, .ref bf, .ref bg, .int (nI wr)])), (bc, .inl (cyI, 366, .inl (pz_ar rc))), (bf, .inl (cyI, 3001, .inl (pz_ar ff))), (bg, .inl (cyI, 3001, .inl (pz_ar gg)))] (S := Unit) (fun r _ => r = nI 1) (fun _ => [(h1, .inr (1, [.int (nI 0), .int (nI (pm_yr n)), .int (nI (pm_mo n)), .int (nI (pm_da n)), .int (nI mk), .ref bc, .ref bf, .ref bg, .int (nI wr)])), (bc, .inl (cyI, 366, .inl (pz_ar rc))), (bf, .inl (cyI, 3001, .inl (pz_ar ff))), (bg, .inl (cyI, 3001, .inl (pz_ar gg)))]) := by
  refine pz_I_of (cc := cX1_isAsked) (maxL := 3) (ty := .boolean) (own := RX1) (by decide) rfl rfl (Nat.le_of_ble_eq_true rfl) ?_
  intro p e s m below meth c A ls Q hx hb hml hown hts hK hP hD hS hA hl hQ
  have hl : lv_has ls 3 [(0, .ref h1), (1, .int (nI n))] := hl
  refine lv_aload_n hx hb dX1_isAsked_0 rfl (lv_at hl 0 rfl) ?_
  refine lv_iload_n hx hb dX1_isAsked_1 rfl (lv_at hl 1 rfl) ?_
  refine pz_SR (rest := [.ref h1]) ⟨hx, hb, hml, hown, hts⟩ (k_X1_isDay_a l D ((cyI, .int) :: ts) n (by omega)) (va_cwS 1 hts gX1_isAsked_X1_isDay rfl rfl rfl (by decide +kernel) ⟨Nat.le_of_ble_eq_true rfl, Nat.le_of_ble_eq_true rfl⟩) hK hP (hD.weaken (fun _ _ _ _ => trivial)) hS hA [] rfl rfl rfl rfl hl.1 rfl (lv_room (Nat.le_of_ble_eq_true rfl)) dX1_isAsked_2 ⟨Nat.le_of_ble_eq_true rfl, Nat.le_of_ble_eq_true rfl⟩ (fun r H locs hr hP hS => ?_)
  obtain rfl : r = (nI 1) := hr
  refine pn_if_eq (tgt := 12) hx hb (by omega) dX1_isAsked_5 (by decide) (fun c_2 => absurd c_2 (by decide)) (fun _ => ?_)
  refine lv_iconst (v := nI 0) hx hb dX1_isAsked_8 (by decide) ?_
  refine lv_goto (tgt := 13) hx hb dX1_isAsked_9 (by decide) ?_
  refine pz_VI (rest := []) (wr := []) ⟨hx, hb, hml, hown, hts⟩ (k_X1_isFine_0 l D h1 bc bf bg cyI ts th yr mo da mk wr rc ff gg  ) (cwV 1 hts gX1_isAsked_X1_isFine rfl rfl rfl (by decide +kernel) ⟨Nat.le_of_ble_eq_true rfl, Nat.le_of_ble_eq_true rfl⟩) hK hP hD hS hA [0, 1, 2, 3] [] rfl rfl rfl rfl rfl (by decide) 0 1 rfl rfl rfl hl.1 rfl (lv_room (Nat.le_of_ble_eq_true rfl)) dX1_isAsked_13 ⟨Nat.le_of_ble_eq_true rfl, Nat.le_of_ble_eq_true rfl⟩ (fun r u H locs hr hP hD hS => ?_)
  have hP : va_P D vwCl [(h1, .inr (1, [.int (nI 0), .int yr, .int mo, .int da, .int (nI mk), .ref bc, .ref bf, .ref bg, .int (nI wr)])), (bc, .inl (cyI, 366, .inl (pz_ar rc))), (bf, .inl (cyI, 3001, .inl (pz_ar ff))), (bg, .inl (cyI, 3001, .inl (pz_ar gg)))] H := hP
  have hD : va_D A [(h1, .inr (1, [.int (nI 0), .int yr, .int mo, .int da, .int (nI mk), .ref bc, .ref bf, .ref bg, .int (nI wr)])), (bc, .inl (cyI, 366, .inl (pz_ar rc))), (bf, .inl (cyI, 3001, .inl (pz_ar ff))), (bg, .inl (cyI, 3001, .inl (pz_ar gg)))] := hD
  obtain rfl : r = (nI 1) := hr
  refine lv_istore_n (lv' := [(2, .int (nI 1)), (0, .ref h1), (1, .int (nI n))]) hx hb dX1_isAsked_16 rfl hl (by decide) rfl (fun ls hl => ?_)
  refine lv_iload_n hx hb dX1_isAsked_17 rfl (lv_at hl 0 rfl) ?_
  refine pn_if_eq (tgt := 26) hx hb (by omega) dX1_isAsked_18 (by decide) (fun c_4 => absurd c_4 (by decide)) (fun _ => ?_)
  refine lv_aload_n hx hb dX1_isAsked_21 rfl (lv_at hl 1 rfl) ?_
  refine lv_iload_n hx hb dX1_isAsked_22 rfl (lv_at hl 2 rfl) ?_
  refine pz_VV (rest := []) (wr := []) ⟨hx, hb, hml, hown, hts⟩ (k_X1_splits l D h1 bc bf bg cyI ts (nI 0) yr mo da mk wr rc ff gg n (by omega)) (cwV 1 hts gX1_isAsked_X1_splits rfl rfl rfl (by decide +kernel) ⟨Nat.le_of_ble_eq_true rfl, Nat.le_of_ble_eq_true rfl⟩) hK hP hD hS hA [0, 1, 2, 3] [] rfl rfl rfl rfl rfl (by decide) 0 1 rfl rfl rfl hl.1 rfl (lv_room (Nat.le_of_ble_eq_true rfl)) dX1_isAsked_23 ⟨Nat.le_of_ble_eq_true rfl, Nat.le_of_ble_eq_true rfl⟩ (fun u H locs hr hP hD hS => ?_)
  have hP : va_P D vwCl [(h1, .inr (1, [.int (nI 0), .int (nI (pm_yr n)), .int (nI (pm_mo n)), .int (nI (pm_da n)), .int (nI mk), .ref bc, .ref bf, .ref bg, .int (nI wr)])), (bc, .inl (cyI, 366, .inl (pz_ar rc))), (bf, .inl (cyI, 3001, .inl (pz_ar ff))), (bg, .inl (cyI, 3001, .inl (pz_ar gg)))] H := hP
  have hD : va_D A [(h1, .inr (1, [.int (nI 0), .int (nI (pm_yr n)), .int (nI (pm_mo n)), .int (nI (pm_da n)), .int (nI mk), .ref bc, .ref bf, .ref bg, .int (nI wr)])), (bc, .inl (cyI, 366, .inl (pz_ar rc))), (bf, .inl (cyI, 3001, .inl (pz_ar ff))), (bg, .inl (cyI, 3001, .inl (pz_ar gg)))] := hD
  have hr_5 := hr
  refine lv_iload_n hx hb dX1_isAsked_26 rfl (lv_at hl 0 rfl) ?_
  exact hQ _ _ _ _ _ () dX1_isAsked_27 (by decide) (congrArg nI (by rfl)) hP hD hS
set_option maxHeartbeats 4000000 in
set_option maxRecDepth 100000 in
theorem k_X1_isAsked_x (l : Launch) (D : va_G) (h1 bc bf bg : Nat) (cyI : ClassId) (ts : List (ClassId × FieldType)) (th yr mo da : Int32) (mk wr : Nat) (rc ff gg : Nat → Nat) (x : Int32) (hy0 : x.toInt < 0 ∨ 1095749 < x.toInt) : pz_I l yX1_isAsked wsX1_isAsked ({ frames := 3, cells := 0, slots := 0, locals := 63 } : Room) D ((cyI, .int) :: ts) [.ref h1, .int x] [(h1, .inr (1, [.int th, .int yr, .int mo, .int da, .int (nI mk), .ref bc, .ref bf, .ref bg, .int (nI wr)])), (bc, .inl (cyI, 366, .inl (pz_ar rc))), (bf, .inl (cyI, 3001, .inl (pz_ar ff))), (bg, .inl (cyI, 3001, .inl (pz_ar gg)))] (S := Unit) (fun r _ => r = nI 0) (fun _ => [(h1, .inr (1, [.int (nI 1), .int yr, .int mo, .int da, .int (nI mk), .ref bc, .ref bf, .ref bg, .int (nI wr)])), (bc, .inl (cyI, 366, .inl (pz_ar rc))), (bf, .inl (cyI, 3001, .inl (pz_ar ff))), (bg, .inl (cyI, 3001, .inl (pz_ar gg)))]) := by
  refine pz_I_of (cc := cX1_isAsked) (maxL := 3) (ty := .boolean) (own := RX1) (by decide) rfl rfl (Nat.le_of_ble_eq_true rfl) ?_
  intro p e s m below meth c A ls Q hx hb hml hown hts hK hP hD hS hA hl hQ
  have hl : lv_has ls 3 [(0, .ref h1), (1, .int x)] := hl
  refine lv_aload_n hx hb dX1_isAsked_0 rfl (lv_at hl 0 rfl) ?_
  refine lv_iload_n hx hb dX1_isAsked_1 rfl (lv_at hl 1 rfl) ?_
  refine pz_SR (rest := [.ref h1]) ⟨hx, hb, hml, hown, hts⟩ (k_X1_isDay_x l D ((cyI, .int) :: ts) x (by omega)) (va_cwS 1 hts gX1_isAsked_X1_isDay rfl rfl rfl (by decide +kernel) ⟨Nat.le_of_ble_eq_true rfl, Nat.le_of_ble_eq_true rfl⟩) hK hP (hD.weaken (fun _ _ _ _ => trivial)) hS hA [] rfl rfl rfl rfl hl.1 rfl (lv_room (Nat.le_of_ble_eq_true rfl)) dX1_isAsked_2 ⟨Nat.le_of_ble_eq_true rfl, Nat.le_of_ble_eq_true rfl⟩ (fun r H locs hr hP hS => ?_)
  obtain rfl : r = (nI 0) := hr
  refine pn_if_eq (tgt := 12) hx hb (by omega) dX1_isAsked_5 (by decide) (fun _ => ?_) (fun c_2 => absurd c_2 (by decide))
  refine lv_iconst (v := nI 1) hx hb dX1_isAsked_12 (by decide) ?_
  refine pz_VI (rest := []) (wr := []) ⟨hx, hb, hml, hown, hts⟩ (k_X1_isFine_k l D h1 bc bf bg cyI ts th yr mo da mk wr rc ff gg 1 (by omega) (by omega)) (cwV 1 hts gX1_isAsked_X1_isFine rfl rfl rfl (by decide +kernel) ⟨Nat.le_of_ble_eq_true rfl, Nat.le_of_ble_eq_true rfl⟩) hK hP hD hS hA [0, 1, 2, 3] [] rfl rfl rfl rfl rfl (by decide) 0 1 rfl rfl rfl hl.1 rfl (lv_room (Nat.le_of_ble_eq_true rfl)) dX1_isAsked_13 ⟨Nat.le_of_ble_eq_true rfl, Nat.le_of_ble_eq_true rfl⟩ (fun r u H locs hr hP hD hS => ?_)
  have hP : va_P D vwCl [(h1, .inr (1, [.int (nI 1), .int yr, .int mo, .int da, .int (nI mk), .ref bc, .ref bf, .ref bg, .int (nI wr)])), (bc, .inl (cyI, 366, .inl (pz_ar rc))), (bf, .inl (cyI, 3001, .inl (pz_ar ff))), (bg, .inl (cyI, 3001, .inl (pz_ar gg)))] H := hP
  have hD : va_D A [(h1, .inr (1, [.int (nI 1), .int yr, .int mo, .int da, .int (nI mk), .ref bc, .ref bf, .ref bg, .int (nI wr)])), (bc, .inl (cyI, 366, .inl (pz_ar rc))), (bf, .inl (cyI, 3001, .inl (pz_ar ff))), (bg, .inl (cyI, 3001, .inl (pz_ar gg)))] := hD
  obtain rfl : r = (nI 0) := hr
  refine lv_istore_n (lv' := [(2, .int (nI 0)), (0, .ref h1), (1, .int x)]) hx hb dX1_isAsked_16 rfl hl (by decide) rfl (fun ls hl => ?_)
  refine lv_iload_n hx hb dX1_isAsked_17 rfl (lv_at hl 0 rfl) ?_
  refine pn_if_eq (tgt := 26) hx hb (by omega) dX1_isAsked_18 (by decide) (fun _ => ?_) (fun c_4 => absurd c_4 (by decide))
  refine lv_iload_n hx hb dX1_isAsked_26 rfl (lv_at hl 0 rfl) ?_
  exact hQ _ _ _ _ _ () dX1_isAsked_27 (by decide) (congrArg nI (by rfl)) hP hD hS
set_option maxHeartbeats 4000000 in
set_option maxRecDepth 100000 in
theorem k_X1_isDoubledNow (l : Launch) (D : va_G) (h1 bc bf bg : Nat) (cyI : ClassId) (ts : List (ClassId × FieldType)) (th : Int32) (mk wr : Nat) (rc ff gg : Nat → Nat) (n : Nat) (hy0 : n < 1095750) : pz_R l yX1_isDoubledNow wsX1_isDoubledNow ({ frames := 1, cells := 0, slots := 0, locals := 20 } : Room) D ((cyI, .int) :: ts) [.ref h1] [(h1, .inr (1, [.int th, .int (nI (pm_yr n)), .int (nI (pm_mo n)), .int (nI (pm_da n)), .int (nI mk), .ref bc, .ref bf, .ref bg, .int (nI wr)])), (bc, .inl (cyI, 366, .inl (pz_ar rc))), (bf, .inl (cyI, 3001, .inl (pz_ar ff))), (bg, .inl (cyI, 3001, .inl (pz_ar gg)))] (fun r => r = nI (pm_dl n)) := by
  refine pz_R_of (cc := cX1_isDoubledNow) (maxL := 1) (ty := .boolean) (own := RX1) (by decide) rfl rfl (Nat.le_of_ble_eq_true rfl) ?_
  intro p e s m below meth c A ls Q hx hb hml hown hts hK hP hD hS hA hl hQ
  have hl : lv_has ls 1 [(0, .ref h1)] := hl
  have hin : ∀ w ∈ u_ws RX1 TX1 9, w ∈ wsX1_isDoubledNow := by decide +kernel
  have hw0 := pm_now n
  have hm0 := pm_mo_b n
  have hda0 := pm_da_b n
  have hln0 := pm_ln_b (pm_yr n) (pm_mo n)
  have hy0b := pm_yr_b hy0
  refine lv_aload_n hx hb dX1_isDoubledNow_0 rfl (lv_at hl 0 rfl) ?_
  refine va_get (D := D) (ci := 1) (v := .int (nI (pm_yr n))) (C := RX1) (T := TX1) (N := 9) hx hb hts hin hown hK hP 0 rfl rfl 1 (by decide) (hts (.fieldLink RX1 56 "RomanCalendarModel" "year" "I") (by decide +kernel)) (fun _ h9 => h9) rfl dX1_isDoubledNow_1 ?_
  refine pz_SR (rest := []) ⟨hx, hb, hml, hown, hts⟩ (k_X1_isLeap l D ((cyI, .int) :: ts) (pm_yr n) (by omega)) (va_cwS 1 hts gX1_isDoubledNow_X1_isLeap rfl rfl rfl (by decide +kernel) ⟨Nat.le_of_ble_eq_true rfl, Nat.le_of_ble_eq_true rfl⟩) hK hP hD hS hA [] rfl rfl rfl rfl hl.1 rfl (lv_room (Nat.le_of_ble_eq_true rfl)) dX1_isDoubledNow_4 ⟨Nat.le_of_ble_eq_true rfl, Nat.le_of_ble_eq_true rfl⟩ (fun r H locs hr hP hS => ?_)
  obtain rfl : r = (pz_b ((pm_yr n) % 4 = 0)) := hr
  refine pb_if_eq (tgt := 31) hx hb dX1_isDoubledNow_7 (by decide) (fun c_2 => ?_) (fun c_2 => ?_)
  · -- 7 yes
    refine lv_iconst (v := nI 0) hx hb dX1_isDoubledNow_31 (by decide) ?_
    exact hQ _ _ _ _ _ dX1_isDoubledNow_32 (by decide) (congrArg nI (by first | exact pm_dl_1 ⟨by omega, by omega, by omega⟩ | exact pm_dl_0 (by omega))) hS
  · -- 7 no
    refine lv_aload_n hx hb dX1_isDoubledNow_10 rfl (lv_at hl 0 rfl) ?_
    refine va_get (D := D) (ci := 1) (v := .int (nI (pm_mo n))) (C := RX1) (T := TX1) (N := 9) hx hb hts hin hown hK hP 0 rfl rfl 2 (by decide) (hts (.fieldLink RX1 27 "RomanCalendarModel" "month" "I") (by decide +kernel)) (fun _ h9 => h9) rfl dX1_isDoubledNow_11 ?_
    refine lv_iconst (v := nI 2) hx hb dX1_isDoubledNow_14 (by decide) ?_
    refine pn_icmp_ne (tgt := 31) hx hb (by omega) (by omega) dX1_isDoubledNow_15 (by decide) (fun c_3 => ?_) (fun c_3 => ?_)
    · -- 15 yes
      refine lv_iconst (v := nI 0) hx hb dX1_isDoubledNow_31 (by decide) ?_
      exact hQ _ _ _ _ _ dX1_isDoubledNow_32 (by decide) (congrArg nI (by first | exact pm_dl_1 ⟨by omega, by omega, by omega⟩ | exact pm_dl_0 (by omega))) hS
    · -- 15 no
      refine lv_aload_n hx hb dX1_isDoubledNow_18 rfl (lv_at hl 0 rfl) ?_
      refine va_get (D := D) (ci := 1) (v := .int (nI (pm_da n))) (C := RX1) (T := TX1) (N := 9) hx hb hts hin hown hK hP 0 rfl rfl 3 (by decide) (hts (.fieldLink RX1 23 "RomanCalendarModel" "day" "I") (by decide +kernel)) (fun _ h9 => h9) rfl dX1_isDoubledNow_19 ?_
      refine lv_bipush (v := nI 24) hx hb dX1_isDoubledNow_22 (by decide) ?_
      refine pn_icmp_ne (tgt := 31) hx hb (by omega) (by omega) dX1_isDoubledNow_24 (by decide) (fun c_4 => ?_) (fun c_4 => ?_)
      · -- 24 yes
        refine lv_iconst (v := nI 0) hx hb dX1_isDoubledNow_31 (by decide) ?_
        exact hQ _ _ _ _ _ dX1_isDoubledNow_32 (by decide) (congrArg nI (by first | exact pm_dl_1 ⟨by omega, by omega, by omega⟩ | exact pm_dl_0 (by omega))) hS
      · -- 24 no
        refine lv_iconst (v := nI 1) hx hb dX1_isDoubledNow_27 (by decide) ?_
        refine lv_goto (tgt := 32) hx hb dX1_isDoubledNow_28 (by decide) ?_
        exact hQ _ _ _ _ _ dX1_isDoubledNow_32 (by decide) (congrArg nI (by first | exact pm_dl_1 ⟨by omega, by omega, by omega⟩ | exact pm_dl_0 (by omega))) hS
set_option maxHeartbeats 4000000 in
set_option maxRecDepth 100000 in
theorem k_X1_anchorNow (l : Launch) (D : va_G) (h1 bc bf bg : Nat) (cyI : ClassId) (ts : List (ClassId × FieldType)) (th : Int32) (mk wr : Nat) (rc ff gg : Nat → Nat) (n : Nat) (hy0 : n < 1095750) : pz_R l yX1_anchorNow wsX1_anchorNow ({ frames := 2, cells := 0, slots := 0, locals := 40 } : Room) D ((cyI, .int) :: ts) [.ref h1] [(h1, .inr (1, [.int th, .int (nI (pm_yr n)), .int (nI (pm_mo n)), .int (nI (pm_da n)), .int (nI mk), .ref bc, .ref bf, .ref bg, .int (nI wr)])), (bc, .inl (cyI, 366, .inl (pz_ar rc))), (bf, .inl (cyI, 3001, .inl (pz_ar ff))), (bg, .inl (cyI, 3001, .inl (pz_ar gg)))] (fun r => r = nI (pm_ap (pm_pl n))) := by
  refine pz_R_of (cc := cX1_anchorNow) (maxL := 1) (ty := .int) (own := RX1) (by decide) rfl rfl (Nat.le_of_ble_eq_true rfl) ?_
  intro p e s m below meth c A ls Q hx hb hml hown hts hK hP hD hS hA hl hQ
  have hl : lv_has ls 1 [(0, .ref h1)] := hl
  have hin : ∀ w ∈ u_ws RX1 TX1 9, w ∈ wsX1_anchorNow := by decide +kernel
  have hw0 := pm_now n
  have hm0 := pm_mo_b n
  have hda0 := pm_da_b n
  have hln0 := pm_ln_b (pm_yr n) (pm_mo n)
  have hy0b := pm_yr_b hy0
  refine lv_aload_n hx hb dX1_anchorNow_0 rfl (lv_at hl 0 rfl) ?_
  refine va_get (D := D) (ci := 1) (v := .int (nI (pm_da n))) (C := RX1) (T := TX1) (N := 9) hx hb hts hin hown hK hP 0 rfl rfl 3 (by decide) (hts (.fieldLink RX1 23 "RomanCalendarModel" "day" "I") (by decide +kernel)) (fun _ h9 => h9) rfl dX1_anchorNow_1 ?_
  refine lv_iconst (v := nI 1) hx hb dX1_anchorNow_4 (by decide) ?_
  refine pn_icmp_eq (tgt := 22) hx hb (by omega) (by omega) dX1_anchorNow_5 (by decide) (fun c_1 => ?_) (fun c_1 => ?_)
  · -- 5 yes
    refine lv_iconst (v := nI 0) hx hb dX1_anchorNow_22 (by decide) ?_
    refine lv_goto (tgt := 45) hx hb dX1_anchorNow_23 (by decide) ?_
    exact hQ _ _ _ _ _ dX1_anchorNow_45 rfl (congrArg nI (by rw [← hw0.1]; unfold pm_nw; (repeat' split) <;> omega)) hS
  · -- 5 no
    refine lv_aload_n hx hb dX1_anchorNow_8 rfl (lv_at hl 0 rfl) ?_
    refine va_get (D := D) (ci := 1) (v := .int (nI (pm_da n))) (C := RX1) (T := TX1) (N := 9) hx hb hts hin hown hK hP 0 rfl rfl 3 (by decide) (hts (.fieldLink RX1 23 "RomanCalendarModel" "day" "I") (by decide +kernel)) (fun _ h9 => h9) rfl dX1_anchorNow_9 ?_
    refine lv_aload_n hx hb dX1_anchorNow_12 rfl (lv_at hl 0 rfl) ?_
    refine va_get (D := D) (ci := 1) (v := .int (nI (pm_mo n))) (C := RX1) (T := TX1) (N := 9) hx hb hts hin hown hK hP 0 rfl rfl 2 (by decide) (hts (.fieldLink RX1 27 "RomanCalendarModel" "month" "I") (by decide +kernel)) (fun _ h9 => h9) rfl dX1_anchorNow_13 ?_
    refine pz_SR (rest := [.int (nI (pm_da n))]) ⟨hx, hb, hml, hown, hts⟩ (k_X1_ides l D ((cyI, .int) :: ts) (pm_mo n) (by omega)) (va_cwS 1 hts gX1_anchorNow_X1_ides rfl rfl rfl (by decide +kernel) ⟨Nat.le_of_ble_eq_true rfl, Nat.le_of_ble_eq_true rfl⟩) hK hP hD hS hA [] rfl rfl rfl rfl hl.1 rfl (lv_room (Nat.le_of_ble_eq_true rfl)) dX1_anchorNow_16 ⟨Nat.le_of_ble_eq_true rfl, Nat.le_of_ble_eq_true rfl⟩ (fun r H locs hr hP hS => ?_)
    obtain rfl : r = (nI (pm_nn (pm_mo n) + 8)) := hr
    have hf_3 := pm_nn_b (pm_mo n)
    refine pn_icmp_le (tgt := 26) hx hb (by omega) (by omega) dX1_anchorNow_19 (by decide) (fun c_4 => ?_) (fun c_4 => ?_)
    · -- 19 yes
      refine lv_aload_n hx hb dX1_anchorNow_26 rfl (lv_at hl 0 rfl) ?_
      refine va_get (D := D) (ci := 1) (v := .int (nI (pm_da n))) (C := RX1) (T := TX1) (N := 9) hx hb hts hin hown hK hP 0 rfl rfl 3 (by decide) (hts (.fieldLink RX1 23 "RomanCalendarModel" "day" "I") (by decide +kernel)) (fun _ h9 => h9) rfl dX1_anchorNow_27 ?_
      refine lv_aload_n hx hb dX1_anchorNow_30 rfl (lv_at hl 0 rfl) ?_
      refine va_get (D := D) (ci := 1) (v := .int (nI (pm_mo n))) (C := RX1) (T := TX1) (N := 9) hx hb hts hin hown hK hP 0 rfl rfl 2 (by decide) (hts (.fieldLink RX1 27 "RomanCalendarModel" "month" "I") (by decide +kernel)) (fun _ h9 => h9) rfl dX1_anchorNow_31 ?_
      refine pz_SR (rest := [.int (nI (pm_da n))]) ⟨hx, hb, hml, hown, hts⟩ (k_X1_nones l D ((cyI, .int) :: ts) (pm_mo n) (by omega)) (va_cwS 1 hts gX1_anchorNow_X1_nones rfl rfl rfl (by decide +kernel) ⟨Nat.le_of_ble_eq_true rfl, Nat.le_of_ble_eq_true rfl⟩) hK hP hD hS hA [] rfl rfl rfl rfl hl.1 rfl (lv_room (Nat.le_of_ble_eq_true rfl)) dX1_anchorNow_34 ⟨Nat.le_of_ble_eq_true rfl, Nat.le_of_ble_eq_true rfl⟩ (fun r H locs hr hP hS => ?_)
      obtain rfl : r = (nI (pm_nn (pm_mo n))) := hr
      have hf_6 := pm_nn_b (pm_mo n)
      refine pn_icmp_gt (tgt := 44) hx hb (by omega) (by omega) dX1_anchorNow_37 (by decide) (fun c_7 => ?_) (fun c_7 => ?_)
      · -- 37 yes
        refine lv_iconst (v := nI 2) hx hb dX1_anchorNow_44 (by decide) ?_
        exact hQ _ _ _ _ _ dX1_anchorNow_45 rfl (congrArg nI (by rw [← hw0.1]; unfold pm_nw; (repeat' split) <;> omega)) hS
      · -- 37 no
        refine lv_iconst (v := nI 1) hx hb dX1_anchorNow_40 (by decide) ?_
        refine lv_goto (tgt := 45) hx hb dX1_anchorNow_41 (by decide) ?_
        exact hQ _ _ _ _ _ dX1_anchorNow_45 rfl (congrArg nI (by rw [← hw0.1]; unfold pm_nw; (repeat' split) <;> omega)) hS
    · -- 19 no
      refine lv_iconst (v := nI 0) hx hb dX1_anchorNow_22 (by decide) ?_
      refine lv_goto (tgt := 45) hx hb dX1_anchorNow_23 (by decide) ?_
      exact hQ _ _ _ _ _ dX1_anchorNow_45 rfl (congrArg nI (by rw [← hw0.1]; unfold pm_nw; (repeat' split) <;> omega)) hS
set_option maxHeartbeats 4000000 in
set_option maxRecDepth 100000 in
theorem k_X1_anchorMonthNow (l : Launch) (D : va_G) (h1 bc bf bg : Nat) (cyI : ClassId) (ts : List (ClassId × FieldType)) (th : Int32) (mk wr : Nat) (rc ff gg : Nat → Nat) (n : Nat) (hy0 : n < 1095750) : pz_R l yX1_anchorMonthNow wsX1_anchorMonthNow ({ frames := 2, cells := 0, slots := 0, locals := 40 } : Room) D ((cyI, .int) :: ts) [.ref h1] [(h1, .inr (1, [.int th, .int (nI (pm_yr n)), .int (nI (pm_mo n)), .int (nI (pm_da n)), .int (nI mk), .ref bc, .ref bf, .ref bg, .int (nI wr)])), (bc, .inl (cyI, 366, .inl (pz_ar rc))), (bf, .inl (cyI, 3001, .inl (pz_ar ff))), (bg, .inl (cyI, 3001, .inl (pz_ar gg)))] (fun r => r = nI (pm_am (pm_pl n))) := by
  refine pz_R_of (cc := cX1_anchorMonthNow) (maxL := 1) (ty := .int) (own := RX1) (by decide) rfl rfl (Nat.le_of_ble_eq_true rfl) ?_
  intro p e s m below meth c A ls Q hx hb hml hown hts hK hP hD hS hA hl hQ
  have hl : lv_has ls 1 [(0, .ref h1)] := hl
  have hin : ∀ w ∈ u_ws RX1 TX1 9, w ∈ wsX1_anchorMonthNow := by decide +kernel
  have hw0 := pm_now n
  have hm0 := pm_mo_b n
  have hda0 := pm_da_b n
  have hln0 := pm_ln_b (pm_yr n) (pm_mo n)
  have hy0b := pm_yr_b hy0
  refine lv_aload_n hx hb dX1_anchorMonthNow_0 rfl (lv_at hl 0 rfl) ?_
  refine va_get (D := D) (ci := 1) (v := .int (nI (pm_da n))) (C := RX1) (T := TX1) (N := 9) hx hb hts hin hown hK hP 0 rfl rfl 3 (by decide) (hts (.fieldLink RX1 23 "RomanCalendarModel" "day" "I") (by decide +kernel)) (fun _ h9 => h9) rfl dX1_anchorMonthNow_1 ?_
  refine lv_aload_n hx hb dX1_anchorMonthNow_4 rfl (lv_at hl 0 rfl) ?_
  refine va_get (D := D) (ci := 1) (v := .int (nI (pm_mo n))) (C := RX1) (T := TX1) (N := 9) hx hb hts hin hown hK hP 0 rfl rfl 2 (by decide) (hts (.fieldLink RX1 27 "RomanCalendarModel" "month" "I") (by decide +kernel)) (fun _ h9 => h9) rfl dX1_anchorMonthNow_5 ?_
  refine pz_SR (rest := [.int (nI (pm_da n))]) ⟨hx, hb, hml, hown, hts⟩ (k_X1_ides l D ((cyI, .int) :: ts) (pm_mo n) (by omega)) (va_cwS 1 hts gX1_anchorMonthNow_X1_ides rfl rfl rfl (by decide +kernel) ⟨Nat.le_of_ble_eq_true rfl, Nat.le_of_ble_eq_true rfl⟩) hK hP hD hS hA [] rfl rfl rfl rfl hl.1 rfl (lv_room (Nat.le_of_ble_eq_true rfl)) dX1_anchorMonthNow_8 ⟨Nat.le_of_ble_eq_true rfl, Nat.le_of_ble_eq_true rfl⟩ (fun r H locs hr hP hS => ?_)
  obtain rfl : r = (nI (pm_nn (pm_mo n) + 8)) := hr
  have hf_2 := pm_nn_b (pm_mo n)
  refine pn_icmp_le (tgt := 26) hx hb (by omega) (by omega) dX1_anchorMonthNow_11 (by decide) (fun c_3 => ?_) (fun c_3 => ?_)
  · -- 11 yes
    refine lv_aload_n hx hb dX1_anchorMonthNow_26 rfl (lv_at hl 0 rfl) ?_
    refine va_get (D := D) (ci := 1) (v := .int (nI (pm_mo n))) (C := RX1) (T := TX1) (N := 9) hx hb hts hin hown hK hP 0 rfl rfl 2 (by decide) (hts (.fieldLink RX1 27 "RomanCalendarModel" "month" "I") (by decide +kernel)) (fun _ h9 => h9) rfl dX1_anchorMonthNow_27 ?_
    exact hQ _ _ _ _ _ dX1_anchorMonthNow_30 rfl (congrArg nI (by rw [← hw0.2.1]; unfold pm_nm; (repeat' split) <;> omega)) hS
  · -- 11 no
    refine lv_aload_n hx hb dX1_anchorMonthNow_14 rfl (lv_at hl 0 rfl) ?_
    refine va_get (D := D) (ci := 1) (v := .int (nI (pm_mo n))) (C := RX1) (T := TX1) (N := 9) hx hb hts hin hown hK hP 0 rfl rfl 2 (by decide) (hts (.fieldLink RX1 27 "RomanCalendarModel" "month" "I") (by decide +kernel)) (fun _ h9 => h9) rfl dX1_anchorMonthNow_15 ?_
    refine lv_bipush (v := nI 12) hx hb dX1_anchorMonthNow_18 (by decide) ?_
    refine pn_irem hx hb (by omega) (by omega) (by omega) dX1_anchorMonthNow_20 ?_
    refine lv_iconst (v := nI 1) hx hb dX1_anchorMonthNow_21 (by decide) ?_
    refine pn_iadd hx hb dX1_anchorMonthNow_22 ?_
    refine lv_goto (tgt := 30) hx hb dX1_anchorMonthNow_23 (by decide) ?_
    exact hQ _ _ _ _ _ dX1_anchorMonthNow_30 rfl (congrArg nI (by rw [← hw0.2.1]; unfold pm_nm; (repeat' split) <;> omega)) hS
set_option maxHeartbeats 4000000 in
set_option maxRecDepth 100000 in
theorem k_X1_countNow (l : Launch) (D : va_G) (h1 bc bf bg : Nat) (cyI : ClassId) (ts : List (ClassId × FieldType)) (th : Int32) (mk wr : Nat) (rc ff gg : Nat → Nat) (n : Nat) (hy0 : n < 1095750) : pz_R l yX1_countNow wsX1_countNow ({ frames := 2, cells := 0, slots := 0, locals := 41 } : Room) D ((cyI, .int) :: ts) [.ref h1] [(h1, .inr (1, [.int th, .int (nI (pm_yr n)), .int (nI (pm_mo n)), .int (nI (pm_da n)), .int (nI mk), .ref bc, .ref bf, .ref bg, .int (nI wr)])), (bc, .inl (cyI, 366, .inl (pz_ar rc))), (bf, .inl (cyI, 3001, .inl (pz_ar ff))), (bg, .inl (cyI, 3001, .inl (pz_ar gg)))] (fun r => r = nI (pm_ct (pm_pl n))) := by
  refine pz_R_of (cc := cX1_countNow) (maxL := 2) (ty := .int) (own := RX1) (by decide) rfl rfl (Nat.le_of_ble_eq_true rfl) ?_
  intro p e s m below meth c A ls Q hx hb hml hown hts hK hP hD hS hA hl hQ
  have hl : lv_has ls 2 [(0, .ref h1)] := hl
  have hin : ∀ w ∈ u_ws RX1 TX1 9, w ∈ wsX1_countNow := by decide +kernel
  have hw0 := pm_now n
  have hm0 := pm_mo_b n
  have hda0 := pm_da_b n
  have hln0 := pm_ln_b (pm_yr n) (pm_mo n)
  have hy0b := pm_yr_b hy0
  refine lv_aload_n hx hb dX1_countNow_0 rfl (lv_at hl 0 rfl) ?_
  refine va_get (D := D) (ci := 1) (v := .int (nI (pm_da n))) (C := RX1) (T := TX1) (N := 9) hx hb hts hin hown hK hP 0 rfl rfl 3 (by decide) (hts (.fieldLink RX1 23 "RomanCalendarModel" "day" "I") (by decide +kernel)) (fun _ h9 => h9) rfl dX1_countNow_1 ?_
  refine lv_iconst (v := nI 1) hx hb dX1_countNow_4 (by decide) ?_
  refine pn_icmp_ne (tgt := 10) hx hb (by omega) (by omega) dX1_countNow_5 (by decide) (fun c_1 => ?_) (fun c_1 => ?_)
  · -- 5 yes
    refine lv_aload_n hx hb dX1_countNow_10 rfl (lv_at hl 0 rfl) ?_
    refine va_get (D := D) (ci := 1) (v := .int (nI (pm_da n))) (C := RX1) (T := TX1) (N := 9) hx hb hts hin hown hK hP 0 rfl rfl 3 (by decide) (hts (.fieldLink RX1 23 "RomanCalendarModel" "day" "I") (by decide +kernel)) (fun _ h9 => h9) rfl dX1_countNow_11 ?_
    refine lv_aload_n hx hb dX1_countNow_14 rfl (lv_at hl 0 rfl) ?_
    refine va_get (D := D) (ci := 1) (v := .int (nI (pm_mo n))) (C := RX1) (T := TX1) (N := 9) hx hb hts hin hown hK hP 0 rfl rfl 2 (by decide) (hts (.fieldLink RX1 27 "RomanCalendarModel" "month" "I") (by decide +kernel)) (fun _ h9 => h9) rfl dX1_countNow_15 ?_
    refine pz_SR (rest := [.int (nI (pm_da n))]) ⟨hx, hb, hml, hown, hts⟩ (k_X1_ides l D ((cyI, .int) :: ts) (pm_mo n) (by omega)) (va_cwS 1 hts gX1_countNow_X1_ides rfl rfl rfl (by decide +kernel) ⟨Nat.le_of_ble_eq_true rfl, Nat.le_of_ble_eq_true rfl⟩) hK hP hD hS hA [] rfl rfl rfl rfl hl.1 rfl (lv_room (Nat.le_of_ble_eq_true rfl)) dX1_countNow_18 ⟨Nat.le_of_ble_eq_true rfl, Nat.le_of_ble_eq_true rfl⟩ (fun r H locs hr hP hS => ?_)
    obtain rfl : r = (nI (pm_nn (pm_mo n) + 8)) := hr
    have hf_3 := pm_nn_b (pm_mo n)
    refine pn_icmp_gt (tgt := 63) hx hb (by omega) (by omega) dX1_countNow_21 (by decide) (fun c_4 => ?_) (fun c_4 => ?_)
    · -- 21 yes
      refine lv_aload_n hx hb dX1_countNow_63 rfl (lv_at hl 0 rfl) ?_
      refine va_get (D := D) (ci := 1) (v := .int (nI (pm_mo n))) (C := RX1) (T := TX1) (N := 9) hx hb hts hin hown hK hP 0 rfl rfl 2 (by decide) (hts (.fieldLink RX1 27 "RomanCalendarModel" "month" "I") (by decide +kernel)) (fun _ h9 => h9) rfl dX1_countNow_64 ?_
      refine lv_iconst (v := nI 2) hx hb dX1_countNow_67 (by decide) ?_
      refine pn_icmp_ne (tgt := 85) hx hb (by omega) (by omega) dX1_countNow_68 (by decide) (fun c_5 => ?_) (fun c_5 => ?_)
      · -- 68 yes
        refine lv_aload_n hx hb dX1_countNow_85 rfl (lv_at hl 0 rfl) ?_
        refine va_get (D := D) (ci := 1) (v := .int (nI (pm_yr n))) (C := RX1) (T := TX1) (N := 9) hx hb hts hin hown hK hP 0 rfl rfl 1 (by decide) (hts (.fieldLink RX1 56 "RomanCalendarModel" "year" "I") (by decide +kernel)) (fun _ h9 => h9) rfl dX1_countNow_86 ?_
        refine lv_aload_n hx hb dX1_countNow_89 rfl (lv_at hl 0 rfl) ?_
        refine va_get (D := D) (ci := 1) (v := .int (nI (pm_mo n))) (C := RX1) (T := TX1) (N := 9) hx hb hts hin hown hK hP 0 rfl rfl 2 (by decide) (hts (.fieldLink RX1 27 "RomanCalendarModel" "month" "I") (by decide +kernel)) (fun _ h9 => h9) rfl dX1_countNow_90 ?_
        refine pz_SR (rest := []) ⟨hx, hb, hml, hown, hts⟩ (k_X1_length l D ((cyI, .int) :: ts) (pm_yr n) (pm_mo n) (by omega) (by omega)) (va_cwS 2 hts gX1_countNow_X1_length rfl rfl rfl (by decide +kernel) ⟨Nat.le_of_ble_eq_true rfl, Nat.le_of_ble_eq_true rfl⟩) hK hP hD hS hA [] rfl rfl rfl rfl hl.1 rfl (lv_room (Nat.le_of_ble_eq_true rfl)) dX1_countNow_93 ⟨Nat.le_of_ble_eq_true rfl, Nat.le_of_ble_eq_true rfl⟩ (fun r H locs hr hP hS => ?_)
        obtain rfl : r = (nI (pm_ln (pm_yr n) (pm_mo n))) := hr
        have hf_7 := pm_ln_b (pm_yr n) (pm_mo n)
        refine lv_istore_n (lv' := [(1, .int (nI (pm_ln (pm_yr n) (pm_mo n)))), (0, .ref h1)]) hx hb dX1_countNow_96 rfl hl (by decide) rfl (fun ls hl => ?_)
        refine lv_iload_n hx hb dX1_countNow_97 rfl (lv_at hl 0 rfl) ?_
        refine lv_aload_n hx hb dX1_countNow_98 rfl (lv_at hl 1 rfl) ?_
        refine va_get (D := D) (ci := 1) (v := .int (nI (pm_da n))) (C := RX1) (T := TX1) (N := 9) hx hb hts hin hown hK hP 0 rfl rfl 3 (by decide) (hts (.fieldLink RX1 23 "RomanCalendarModel" "day" "I") (by decide +kernel)) (fun _ h9 => h9) rfl dX1_countNow_99 ?_
        refine pn_isub hx hb (by omega) dX1_countNow_102 ?_
        refine lv_iconst (v := nI 2) hx hb dX1_countNow_103 (by decide) ?_
        refine pn_iadd hx hb dX1_countNow_104 ?_
        exact hQ _ _ _ _ _ dX1_countNow_105 rfl (congrArg nI (by rw [← hw0.2.2.1]; unfold pm_nc; (repeat' split) <;> omega)) hS
      · -- 68 no
        refine lv_aload_n hx hb dX1_countNow_71 rfl (lv_at hl 0 rfl) ?_
        refine va_get (D := D) (ci := 1) (v := .int (nI (pm_da n))) (C := RX1) (T := TX1) (N := 9) hx hb hts hin hown hK hP 0 rfl rfl 3 (by decide) (hts (.fieldLink RX1 23 "RomanCalendarModel" "day" "I") (by decide +kernel)) (fun _ h9 => h9) rfl dX1_countNow_72 ?_
        refine lv_bipush (v := nI 24) hx hb dX1_countNow_75 (by decide) ?_
        refine pn_icmp_gt (tgt := 85) hx hb (by omega) (by omega) dX1_countNow_77 (by decide) (fun c_8 => ?_) (fun c_8 => ?_)
        · -- 77 yes
          refine lv_aload_n hx hb dX1_countNow_85 rfl (lv_at hl 0 rfl) ?_
          refine va_get (D := D) (ci := 1) (v := .int (nI (pm_yr n))) (C := RX1) (T := TX1) (N := 9) hx hb hts hin hown hK hP 0 rfl rfl 1 (by decide) (hts (.fieldLink RX1 56 "RomanCalendarModel" "year" "I") (by decide +kernel)) (fun _ h9 => h9) rfl dX1_countNow_86 ?_
          refine lv_aload_n hx hb dX1_countNow_89 rfl (lv_at hl 0 rfl) ?_
          refine va_get (D := D) (ci := 1) (v := .int (nI (pm_mo n))) (C := RX1) (T := TX1) (N := 9) hx hb hts hin hown hK hP 0 rfl rfl 2 (by decide) (hts (.fieldLink RX1 27 "RomanCalendarModel" "month" "I") (by decide +kernel)) (fun _ h9 => h9) rfl dX1_countNow_90 ?_
          refine pz_SR (rest := []) ⟨hx, hb, hml, hown, hts⟩ (k_X1_length l D ((cyI, .int) :: ts) (pm_yr n) (pm_mo n) (by omega) (by omega)) (va_cwS 2 hts gX1_countNow_X1_length rfl rfl rfl (by decide +kernel) ⟨Nat.le_of_ble_eq_true rfl, Nat.le_of_ble_eq_true rfl⟩) hK hP hD hS hA [] rfl rfl rfl rfl hl.1 rfl (lv_room (Nat.le_of_ble_eq_true rfl)) dX1_countNow_93 ⟨Nat.le_of_ble_eq_true rfl, Nat.le_of_ble_eq_true rfl⟩ (fun r H locs hr hP hS => ?_)
          obtain rfl : r = (nI (pm_ln (pm_yr n) (pm_mo n))) := hr
          have hf_10 := pm_ln_b (pm_yr n) (pm_mo n)
          refine lv_istore_n (lv' := [(1, .int (nI (pm_ln (pm_yr n) (pm_mo n)))), (0, .ref h1)]) hx hb dX1_countNow_96 rfl hl (by decide) rfl (fun ls hl => ?_)
          refine lv_iload_n hx hb dX1_countNow_97 rfl (lv_at hl 0 rfl) ?_
          refine lv_aload_n hx hb dX1_countNow_98 rfl (lv_at hl 1 rfl) ?_
          refine va_get (D := D) (ci := 1) (v := .int (nI (pm_da n))) (C := RX1) (T := TX1) (N := 9) hx hb hts hin hown hK hP 0 rfl rfl 3 (by decide) (hts (.fieldLink RX1 23 "RomanCalendarModel" "day" "I") (by decide +kernel)) (fun _ h9 => h9) rfl dX1_countNow_99 ?_
          refine pn_isub hx hb (by omega) dX1_countNow_102 ?_
          refine lv_iconst (v := nI 2) hx hb dX1_countNow_103 (by decide) ?_
          refine pn_iadd hx hb dX1_countNow_104 ?_
          exact hQ _ _ _ _ _ dX1_countNow_105 rfl (congrArg nI (by rw [← hw0.2.2.1]; unfold pm_nc; (repeat' split) <;> omega)) hS
        · -- 77 no
          refine lv_bipush (v := nI 28) hx hb dX1_countNow_80 (by decide) ?_
          refine lv_goto (tgt := 96) hx hb dX1_countNow_82 (by decide) ?_
          refine lv_istore_n (lv' := [(1, .int (nI 28)), (0, .ref h1)]) hx hb dX1_countNow_96 rfl hl (by decide) rfl (fun ls hl => ?_)
          refine lv_iload_n hx hb dX1_countNow_97 rfl (lv_at hl 0 rfl) ?_
          refine lv_aload_n hx hb dX1_countNow_98 rfl (lv_at hl 1 rfl) ?_
          refine va_get (D := D) (ci := 1) (v := .int (nI (pm_da n))) (C := RX1) (T := TX1) (N := 9) hx hb hts hin hown hK hP 0 rfl rfl 3 (by decide) (hts (.fieldLink RX1 23 "RomanCalendarModel" "day" "I") (by decide +kernel)) (fun _ h9 => h9) rfl dX1_countNow_99 ?_
          refine pn_isub hx hb (by omega) dX1_countNow_102 ?_
          refine lv_iconst (v := nI 2) hx hb dX1_countNow_103 (by decide) ?_
          refine pn_iadd hx hb dX1_countNow_104 ?_
          exact hQ _ _ _ _ _ dX1_countNow_105 rfl (congrArg nI (by rw [← hw0.2.2.1]; unfold pm_nc; (repeat' split) <;> omega)) hS
    · -- 21 no
      refine lv_aload_n hx hb dX1_countNow_24 rfl (lv_at hl 0 rfl) ?_
      refine va_get (D := D) (ci := 1) (v := .int (nI (pm_da n))) (C := RX1) (T := TX1) (N := 9) hx hb hts hin hown hK hP 0 rfl rfl 3 (by decide) (hts (.fieldLink RX1 23 "RomanCalendarModel" "day" "I") (by decide +kernel)) (fun _ h9 => h9) rfl dX1_countNow_25 ?_
      refine lv_aload_n hx hb dX1_countNow_28 rfl (lv_at hl 0 rfl) ?_
      refine va_get (D := D) (ci := 1) (v := .int (nI (pm_mo n))) (C := RX1) (T := TX1) (N := 9) hx hb hts hin hown hK hP 0 rfl rfl 2 (by decide) (hts (.fieldLink RX1 27 "RomanCalendarModel" "month" "I") (by decide +kernel)) (fun _ h9 => h9) rfl dX1_countNow_29 ?_
      refine pz_SR (rest := [.int (nI (pm_da n))]) ⟨hx, hb, hml, hown, hts⟩ (k_X1_nones l D ((cyI, .int) :: ts) (pm_mo n) (by omega)) (va_cwS 1 hts gX1_countNow_X1_nones rfl rfl rfl (by decide +kernel) ⟨Nat.le_of_ble_eq_true rfl, Nat.le_of_ble_eq_true rfl⟩) hK hP hD hS hA [] rfl rfl rfl rfl hl.1 rfl (lv_room (Nat.le_of_ble_eq_true rfl)) dX1_countNow_32 ⟨Nat.le_of_ble_eq_true rfl, Nat.le_of_ble_eq_true rfl⟩ (fun r H locs hr hP hS => ?_)
      obtain rfl : r = (nI (pm_nn (pm_mo n))) := hr
      have hf_12 := pm_nn_b (pm_mo n)
      refine pn_icmp_gt (tgt := 48) hx hb (by omega) (by omega) dX1_countNow_35 (by decide) (fun c_13 => ?_) (fun c_13 => ?_)
      · -- 35 yes
        refine lv_aload_n hx hb dX1_countNow_48 rfl (lv_at hl 0 rfl) ?_
        refine va_get (D := D) (ci := 1) (v := .int (nI (pm_mo n))) (C := RX1) (T := TX1) (N := 9) hx hb hts hin hown hK hP 0 rfl rfl 2 (by decide) (hts (.fieldLink RX1 27 "RomanCalendarModel" "month" "I") (by decide +kernel)) (fun _ h9 => h9) rfl dX1_countNow_49 ?_
        refine pz_SR (rest := []) ⟨hx, hb, hml, hown, hts⟩ (k_X1_ides l D ((cyI, .int) :: ts) (pm_mo n) (by omega)) (va_cwS 1 hts gX1_countNow_X1_ides rfl rfl rfl (by decide +kernel) ⟨Nat.le_of_ble_eq_true rfl, Nat.le_of_ble_eq_true rfl⟩) hK hP hD hS hA [] rfl rfl rfl rfl hl.1 rfl (lv_room (Nat.le_of_ble_eq_true rfl)) dX1_countNow_52 ⟨Nat.le_of_ble_eq_true rfl, Nat.le_of_ble_eq_true rfl⟩ (fun r H locs hr hP hS => ?_)
        obtain rfl : r = (nI (pm_nn (pm_mo n) + 8)) := hr
        have hf_15 := pm_nn_b (pm_mo n)
        refine lv_aload_n hx hb dX1_countNow_55 rfl (lv_at hl 0 rfl) ?_
        refine va_get (D := D) (ci := 1) (v := .int (nI (pm_da n))) (C := RX1) (T := TX1) (N := 9) hx hb hts hin hown hK hP 0 rfl rfl 3 (by decide) (hts (.fieldLink RX1 23 "RomanCalendarModel" "day" "I") (by decide +kernel)) (fun _ h9 => h9) rfl dX1_countNow_56 ?_
        refine pn_isub hx hb (by omega) dX1_countNow_59 ?_
        refine lv_iconst (v := nI 1) hx hb dX1_countNow_60 (by decide) ?_
        refine pn_iadd hx hb dX1_countNow_61 ?_
        exact hQ _ _ _ _ _ dX1_countNow_62 rfl (congrArg nI (by rw [← hw0.2.2.1]; unfold pm_nc; (repeat' split) <;> omega)) hS
      · -- 35 no
        refine lv_aload_n hx hb dX1_countNow_38 rfl (lv_at hl 0 rfl) ?_
        refine va_get (D := D) (ci := 1) (v := .int (nI (pm_mo n))) (C := RX1) (T := TX1) (N := 9) hx hb hts hin hown hK hP 0 rfl rfl 2 (by decide) (hts (.fieldLink RX1 27 "RomanCalendarModel" "month" "I") (by decide +kernel)) (fun _ h9 => h9) rfl dX1_countNow_39 ?_
        refine pz_SR (rest := []) ⟨hx, hb, hml, hown, hts⟩ (k_X1_nones l D ((cyI, .int) :: ts) (pm_mo n) (by omega)) (va_cwS 1 hts gX1_countNow_X1_nones rfl rfl rfl (by decide +kernel) ⟨Nat.le_of_ble_eq_true rfl, Nat.le_of_ble_eq_true rfl⟩) hK hP hD hS hA [] rfl rfl rfl rfl hl.1 rfl (lv_room (Nat.le_of_ble_eq_true rfl)) dX1_countNow_42 ⟨Nat.le_of_ble_eq_true rfl, Nat.le_of_ble_eq_true rfl⟩ (fun r H locs hr hP hS => ?_)
        obtain rfl : r = (nI (pm_nn (pm_mo n))) := hr
        have hf_17 := pm_nn_b (pm_mo n)
        refine lv_goto (tgt := 55) hx hb dX1_countNow_45 (by decide) ?_
        refine lv_aload_n hx hb dX1_countNow_55 rfl (lv_at hl 0 rfl) ?_
        refine va_get (D := D) (ci := 1) (v := .int (nI (pm_da n))) (C := RX1) (T := TX1) (N := 9) hx hb hts hin hown hK hP 0 rfl rfl 3 (by decide) (hts (.fieldLink RX1 23 "RomanCalendarModel" "day" "I") (by decide +kernel)) (fun _ h9 => h9) rfl dX1_countNow_56 ?_
        refine pn_isub hx hb (by omega) dX1_countNow_59 ?_
        refine lv_iconst (v := nI 1) hx hb dX1_countNow_60 (by decide) ?_
        refine pn_iadd hx hb dX1_countNow_61 ?_
        exact hQ _ _ _ _ _ dX1_countNow_62 rfl (congrArg nI (by rw [← hw0.2.2.1]; unfold pm_nc; (repeat' split) <;> omega)) hS
  · -- 5 no
    refine lv_iconst (v := nI 1) hx hb dX1_countNow_8 (by decide) ?_
    exact hQ _ _ _ _ _ dX1_countNow_9 rfl (congrArg nI (by rw [← hw0.2.2.1]; unfold pm_nc; (repeat' split) <;> omega)) hS
set_option maxHeartbeats 4000000 in
set_option maxRecDepth 100000 in
theorem k_X1_lawful (l : Launch) (D : va_G) (h1 bc bf bg : Nat) (cyI : ClassId) (ts : List (ClassId × FieldType)) (th yr mo da : Int32) (mk wr : Nat) (rc ff gg : Nat → Nat) (n : Nat) (hy0 : n < 1095750) : pz_I l yX1_lawful wsX1_lawful ({ frames := 3, cells := 0, slots := 0, locals := 63 } : Room) D ((cyI, .int) :: ts) [.ref h1, .int (nI n)] [(h1, .inr (1, [.int th, .int yr, .int mo, .int da, .int (nI mk), .ref bc, .ref bf, .ref bg, .int (nI wr)])), (bc, .inl (cyI, 366, .inl (pz_ar rc))), (bf, .inl (cyI, 3001, .inl (pz_ar ff))), (bg, .inl (cyI, 3001, .inl (pz_ar gg)))] (S := Unit) (fun r _ => r = nI (pm_lw n)) (fun _ => [(h1, .inr (1, [.int th, .int (nI (pm_yr n)), .int (nI (pm_mo n)), .int (nI (pm_da n)), .int (nI mk), .ref bc, .ref bf, .ref bg, .int (nI wr)])), (bc, .inl (cyI, 366, .inl (pz_ar rc))), (bf, .inl (cyI, 3001, .inl (pz_ar ff))), (bg, .inl (cyI, 3001, .inl (pz_ar gg)))]) := by
  refine pz_I_of (cc := cX1_lawful) (maxL := 3) (ty := .int) (own := RX1) (by decide) rfl rfl (Nat.le_of_ble_eq_true rfl) ?_
  intro p e s m below meth c A ls Q hx hb hml hown hts hK hP hD hS hA hl hQ
  have hl : lv_has ls 3 [(0, .ref h1), (1, .int (nI n))] := hl
  have hin : ∀ w ∈ u_ws RX1 TX1 9, w ∈ wsX1_lawful := by decide +kernel
  have hs0 := pm_sp n
  have hm0 := pm_mo_b n
  have hda0 := pm_da_b n
  have hln0 := pm_ln_b (pm_yr n) (pm_mo n)
  have hy0b := pm_yr_b hy0
  have hbd : pm_bd n = if pm_yr n % 4 = 0 ∧ (2 < pm_mo n ∨ (pm_mo n = 2 ∧ 24 < pm_da n)) then 1 else 0 := rfl
  refine lv_aload_n hx hb dX1_lawful_0 rfl (lv_at hl 0 rfl) ?_
  refine lv_iload_n hx hb dX1_lawful_1 rfl (lv_at hl 1 rfl) ?_
  refine pz_VV (rest := []) (wr := []) ⟨hx, hb, hml, hown, hts⟩ (k_X1_splits l D h1 bc bf bg cyI ts th yr mo da mk wr rc ff gg n (by split at hbd <;> omega)) (cwV 1 hts gX1_lawful_X1_splits rfl rfl rfl (by decide +kernel) ⟨Nat.le_of_ble_eq_true rfl, Nat.le_of_ble_eq_true rfl⟩) hK hP hD hS hA [0, 1, 2, 3] [] rfl rfl rfl rfl rfl (by decide) 0 1 rfl rfl rfl hl.1 rfl (lv_room (Nat.le_of_ble_eq_true rfl)) dX1_lawful_2 ⟨Nat.le_of_ble_eq_true rfl, Nat.le_of_ble_eq_true rfl⟩ (fun u H locs hr hP hD hS => ?_)
  have hP : va_P D vwCl [(h1, .inr (1, [.int th, .int (nI (pm_yr n)), .int (nI (pm_mo n)), .int (nI (pm_da n)), .int (nI mk), .ref bc, .ref bf, .ref bg, .int (nI wr)])), (bc, .inl (cyI, 366, .inl (pz_ar rc))), (bf, .inl (cyI, 3001, .inl (pz_ar ff))), (bg, .inl (cyI, 3001, .inl (pz_ar gg)))] H := hP
  have hD : va_D A [(h1, .inr (1, [.int th, .int (nI (pm_yr n)), .int (nI (pm_mo n)), .int (nI (pm_da n)), .int (nI mk), .ref bc, .ref bf, .ref bg, .int (nI wr)])), (bc, .inl (cyI, 366, .inl (pz_ar rc))), (bf, .inl (cyI, 3001, .inl (pz_ar ff))), (bg, .inl (cyI, 3001, .inl (pz_ar gg)))] := hD
  have hr_1 := hr
  refine lv_aload_n hx hb dX1_lawful_5 rfl (lv_at hl 0 rfl) ?_
  refine va_get (D := D) (ci := 1) (v := .int (nI (pm_yr n))) (C := RX1) (T := TX1) (N := 9) hx hb hts hin hown hK hP 0 rfl rfl 1 (by decide) (hts (.fieldLink RX1 56 "RomanCalendarModel" "year" "I") (by decide +kernel)) (fun _ h9 => h9) rfl dX1_lawful_6 ?_
  refine pz_SR (rest := []) ⟨hx, hb, hml, hown, hts⟩ (k_X1_isLeap l D ((cyI, .int) :: ts) (pm_yr n) (by split at hbd <;> omega)) (va_cwS 1 hts gX1_lawful_X1_isLeap rfl rfl rfl (by decide +kernel) ⟨Nat.le_of_ble_eq_true rfl, Nat.le_of_ble_eq_true rfl⟩) hK hP (hD.weaken (fun _ _ _ _ => trivial)) hS hA [] rfl rfl rfl rfl hl.1 rfl (lv_room (Nat.le_of_ble_eq_true rfl)) dX1_lawful_9 ⟨Nat.le_of_ble_eq_true rfl, Nat.le_of_ble_eq_true rfl⟩ (fun r H locs hr hP hS => ?_)
  obtain rfl : r = (pz_b ((pm_yr n) % 4 = 0)) := hr
  refine pb_if_eq (tgt := 44) hx hb dX1_lawful_12 (by decide) (fun c_3 => ?_) (fun c_3 => ?_)
  · -- 12 yes
    refine lv_iconst (v := nI 0) hx hb dX1_lawful_44 (by decide) ?_
    refine lv_istore_n (lv' := [(2, .int (nI 0)), (0, .ref h1), (1, .int (nI n))]) hx hb dX1_lawful_45 rfl hl (by decide) rfl (fun ls hl => ?_)
    refine lv_iload_n hx hb dX1_lawful_46 rfl (lv_at hl 2 rfl) ?_
    refine lv_aload_n hx hb dX1_lawful_47 rfl (lv_at hl 1 rfl) ?_
    refine va_get (D := D) (ci := 1) (v := .int (nI (pm_yr n))) (C := RX1) (T := TX1) (N := 9) hx hb hts hin hown hK hP 0 rfl rfl 1 (by decide) (hts (.fieldLink RX1 56 "RomanCalendarModel" "year" "I") (by decide +kernel)) (fun _ h9 => h9) rfl dX1_lawful_48 ?_
    refine lv_iconst (v := nI 1) hx hb dX1_lawful_51 (by decide) ?_
    refine pn_isub hx hb (by split at hbd <;> omega) dX1_lawful_52 ?_
    refine lv_iconst (v := nI 4) hx hb dX1_lawful_53 (by decide) ?_
    refine pn_idiv hx hb (by split at hbd <;> omega) (by split at hbd <;> omega) (by split at hbd <;> omega) dX1_lawful_54 ?_
    refine pn_isub hx hb (by split at hbd <;> omega) dX1_lawful_55 ?_
    refine lv_iload_n hx hb dX1_lawful_56 rfl (lv_at hl 0 rfl) ?_
    refine pn_if_eq (tgt := 64) hx hb (by split at hbd <;> omega) dX1_lawful_57 (by decide) (fun _ => ?_) (fun c_4 => absurd c_4 (by decide))
    refine lv_iconst (v := nI 0) hx hb dX1_lawful_64 (by decide) ?_
    refine pn_isub hx hb (by split at hbd <;> omega) dX1_lawful_65 ?_
    exact hQ _ _ _ _ _ () dX1_lawful_66 rfl (congrArg nI (by split at hbd <;> omega)) hP hD hS
  · -- 12 no
    refine lv_aload_n hx hb dX1_lawful_15 rfl (lv_at hl 0 rfl) ?_
    refine va_get (D := D) (ci := 1) (v := .int (nI (pm_mo n))) (C := RX1) (T := TX1) (N := 9) hx hb hts hin hown hK hP 0 rfl rfl 2 (by decide) (hts (.fieldLink RX1 27 "RomanCalendarModel" "month" "I") (by decide +kernel)) (fun _ h9 => h9) rfl dX1_lawful_16 ?_
    refine lv_iconst (v := nI 2) hx hb dX1_lawful_19 (by decide) ?_
    refine pn_icmp_gt (tgt := 40) hx hb (by split at hbd <;> omega) (by split at hbd <;> omega) dX1_lawful_20 (by decide) (fun c_5 => ?_) (fun c_5 => ?_)
    · -- 20 yes
      refine lv_iconst (v := nI 1) hx hb dX1_lawful_40 (by decide) ?_
      refine lv_goto (tgt := 45) hx hb dX1_lawful_41 (by decide) ?_
      refine lv_istore_n (lv' := [(2, .int (nI 1)), (0, .ref h1), (1, .int (nI n))]) hx hb dX1_lawful_45 rfl hl (by decide) rfl (fun ls hl => ?_)
      refine lv_iload_n hx hb dX1_lawful_46 rfl (lv_at hl 2 rfl) ?_
      refine lv_aload_n hx hb dX1_lawful_47 rfl (lv_at hl 1 rfl) ?_
      refine va_get (D := D) (ci := 1) (v := .int (nI (pm_yr n))) (C := RX1) (T := TX1) (N := 9) hx hb hts hin hown hK hP 0 rfl rfl 1 (by decide) (hts (.fieldLink RX1 56 "RomanCalendarModel" "year" "I") (by decide +kernel)) (fun _ h9 => h9) rfl dX1_lawful_48 ?_
      refine lv_iconst (v := nI 1) hx hb dX1_lawful_51 (by decide) ?_
      refine pn_isub hx hb (by split at hbd <;> omega) dX1_lawful_52 ?_
      refine lv_iconst (v := nI 4) hx hb dX1_lawful_53 (by decide) ?_
      refine pn_idiv hx hb (by split at hbd <;> omega) (by split at hbd <;> omega) (by split at hbd <;> omega) dX1_lawful_54 ?_
      refine pn_isub hx hb (by split at hbd <;> omega) dX1_lawful_55 ?_
      refine lv_iload_n hx hb dX1_lawful_56 rfl (lv_at hl 0 rfl) ?_
      refine pn_if_eq (tgt := 64) hx hb (by split at hbd <;> omega) dX1_lawful_57 (by decide) (fun c_6 => absurd c_6 (by decide)) (fun _ => ?_)
      refine lv_iconst (v := nI 1) hx hb dX1_lawful_60 (by decide) ?_
      refine lv_goto (tgt := 65) hx hb dX1_lawful_61 (by decide) ?_
      refine pn_isub hx hb (by split at hbd <;> omega) dX1_lawful_65 ?_
      exact hQ _ _ _ _ _ () dX1_lawful_66 rfl (congrArg nI (by split at hbd <;> omega)) hP hD hS
    · -- 20 no
      refine lv_aload_n hx hb dX1_lawful_23 rfl (lv_at hl 0 rfl) ?_
      refine va_get (D := D) (ci := 1) (v := .int (nI (pm_mo n))) (C := RX1) (T := TX1) (N := 9) hx hb hts hin hown hK hP 0 rfl rfl 2 (by decide) (hts (.fieldLink RX1 27 "RomanCalendarModel" "month" "I") (by decide +kernel)) (fun _ h9 => h9) rfl dX1_lawful_24 ?_
      refine lv_iconst (v := nI 2) hx hb dX1_lawful_27 (by decide) ?_
      refine pn_icmp_ne (tgt := 44) hx hb (by split at hbd <;> omega) (by split at hbd <;> omega) dX1_lawful_28 (by decide) (fun c_7 => ?_) (fun c_7 => ?_)
      · -- 28 yes
        refine lv_iconst (v := nI 0) hx hb dX1_lawful_44 (by decide) ?_
        refine lv_istore_n (lv' := [(2, .int (nI 0)), (0, .ref h1), (1, .int (nI n))]) hx hb dX1_lawful_45 rfl hl (by decide) rfl (fun ls hl => ?_)
        refine lv_iload_n hx hb dX1_lawful_46 rfl (lv_at hl 2 rfl) ?_
        refine lv_aload_n hx hb dX1_lawful_47 rfl (lv_at hl 1 rfl) ?_
        refine va_get (D := D) (ci := 1) (v := .int (nI (pm_yr n))) (C := RX1) (T := TX1) (N := 9) hx hb hts hin hown hK hP 0 rfl rfl 1 (by decide) (hts (.fieldLink RX1 56 "RomanCalendarModel" "year" "I") (by decide +kernel)) (fun _ h9 => h9) rfl dX1_lawful_48 ?_
        refine lv_iconst (v := nI 1) hx hb dX1_lawful_51 (by decide) ?_
        refine pn_isub hx hb (by split at hbd <;> omega) dX1_lawful_52 ?_
        refine lv_iconst (v := nI 4) hx hb dX1_lawful_53 (by decide) ?_
        refine pn_idiv hx hb (by split at hbd <;> omega) (by split at hbd <;> omega) (by split at hbd <;> omega) dX1_lawful_54 ?_
        refine pn_isub hx hb (by split at hbd <;> omega) dX1_lawful_55 ?_
        refine lv_iload_n hx hb dX1_lawful_56 rfl (lv_at hl 0 rfl) ?_
        refine pn_if_eq (tgt := 64) hx hb (by split at hbd <;> omega) dX1_lawful_57 (by decide) (fun _ => ?_) (fun c_8 => absurd c_8 (by decide))
        refine lv_iconst (v := nI 0) hx hb dX1_lawful_64 (by decide) ?_
        refine pn_isub hx hb (by split at hbd <;> omega) dX1_lawful_65 ?_
        exact hQ _ _ _ _ _ () dX1_lawful_66 rfl (congrArg nI (by split at hbd <;> omega)) hP hD hS
      · -- 28 no
        refine lv_aload_n hx hb dX1_lawful_31 rfl (lv_at hl 0 rfl) ?_
        refine va_get (D := D) (ci := 1) (v := .int (nI (pm_da n))) (C := RX1) (T := TX1) (N := 9) hx hb hts hin hown hK hP 0 rfl rfl 3 (by decide) (hts (.fieldLink RX1 23 "RomanCalendarModel" "day" "I") (by decide +kernel)) (fun _ h9 => h9) rfl dX1_lawful_32 ?_
        refine lv_bipush (v := nI 24) hx hb dX1_lawful_35 (by decide) ?_
        refine pn_icmp_le (tgt := 44) hx hb (by split at hbd <;> omega) (by split at hbd <;> omega) dX1_lawful_37 (by decide) (fun c_9 => ?_) (fun c_9 => ?_)
        · -- 37 yes
          refine lv_iconst (v := nI 0) hx hb dX1_lawful_44 (by decide) ?_
          refine lv_istore_n (lv' := [(2, .int (nI 0)), (0, .ref h1), (1, .int (nI n))]) hx hb dX1_lawful_45 rfl hl (by decide) rfl (fun ls hl => ?_)
          refine lv_iload_n hx hb dX1_lawful_46 rfl (lv_at hl 2 rfl) ?_
          refine lv_aload_n hx hb dX1_lawful_47 rfl (lv_at hl 1 rfl) ?_
          refine va_get (D := D) (ci := 1) (v := .int (nI (pm_yr n))) (C := RX1) (T := TX1) (N := 9) hx hb hts hin hown hK hP 0 rfl rfl 1 (by decide) (hts (.fieldLink RX1 56 "RomanCalendarModel" "year" "I") (by decide +kernel)) (fun _ h9 => h9) rfl dX1_lawful_48 ?_
          refine lv_iconst (v := nI 1) hx hb dX1_lawful_51 (by decide) ?_
          refine pn_isub hx hb (by split at hbd <;> omega) dX1_lawful_52 ?_
          refine lv_iconst (v := nI 4) hx hb dX1_lawful_53 (by decide) ?_
          refine pn_idiv hx hb (by split at hbd <;> omega) (by split at hbd <;> omega) (by split at hbd <;> omega) dX1_lawful_54 ?_
          refine pn_isub hx hb (by split at hbd <;> omega) dX1_lawful_55 ?_
          refine lv_iload_n hx hb dX1_lawful_56 rfl (lv_at hl 0 rfl) ?_
          refine pn_if_eq (tgt := 64) hx hb (by split at hbd <;> omega) dX1_lawful_57 (by decide) (fun _ => ?_) (fun c_10 => absurd c_10 (by decide))
          refine lv_iconst (v := nI 0) hx hb dX1_lawful_64 (by decide) ?_
          refine pn_isub hx hb (by split at hbd <;> omega) dX1_lawful_65 ?_
          exact hQ _ _ _ _ _ () dX1_lawful_66 rfl (congrArg nI (by split at hbd <;> omega)) hP hD hS
        · -- 37 no
          refine lv_iconst (v := nI 1) hx hb dX1_lawful_40 (by decide) ?_
          refine lv_goto (tgt := 45) hx hb dX1_lawful_41 (by decide) ?_
          refine lv_istore_n (lv' := [(2, .int (nI 1)), (0, .ref h1), (1, .int (nI n))]) hx hb dX1_lawful_45 rfl hl (by decide) rfl (fun ls hl => ?_)
          refine lv_iload_n hx hb dX1_lawful_46 rfl (lv_at hl 2 rfl) ?_
          refine lv_aload_n hx hb dX1_lawful_47 rfl (lv_at hl 1 rfl) ?_
          refine va_get (D := D) (ci := 1) (v := .int (nI (pm_yr n))) (C := RX1) (T := TX1) (N := 9) hx hb hts hin hown hK hP 0 rfl rfl 1 (by decide) (hts (.fieldLink RX1 56 "RomanCalendarModel" "year" "I") (by decide +kernel)) (fun _ h9 => h9) rfl dX1_lawful_48 ?_
          refine lv_iconst (v := nI 1) hx hb dX1_lawful_51 (by decide) ?_
          refine pn_isub hx hb (by split at hbd <;> omega) dX1_lawful_52 ?_
          refine lv_iconst (v := nI 4) hx hb dX1_lawful_53 (by decide) ?_
          refine pn_idiv hx hb (by split at hbd <;> omega) (by split at hbd <;> omega) (by split at hbd <;> omega) dX1_lawful_54 ?_
          refine pn_isub hx hb (by split at hbd <;> omega) dX1_lawful_55 ?_
          refine lv_iload_n hx hb dX1_lawful_56 rfl (lv_at hl 0 rfl) ?_
          refine pn_if_eq (tgt := 64) hx hb (by split at hbd <;> omega) dX1_lawful_57 (by decide) (fun c_11 => absurd c_11 (by decide)) (fun _ => ?_)
          refine lv_iconst (v := nI 1) hx hb dX1_lawful_60 (by decide) ?_
          refine lv_goto (tgt := 65) hx hb dX1_lawful_61 (by decide) ?_
          refine pn_isub hx hb (by split at hbd <;> omega) dX1_lawful_65 ?_
          exact hQ _ _ _ _ _ () dX1_lawful_66 rfl (congrArg nI (by split at hbd <;> omega)) hP hD hS
set_option maxHeartbeats 4000000 in
set_option maxRecDepth 100000 in
theorem k_X1_placed (l : Launch) (D : va_G) (h1 bc bf bg : Nat) (cyI : ClassId) (ts : List (ClassId × FieldType)) (th yr mo da : Int32) (mk wr : Nat) (rc ff gg : Nat → Nat) (n : Nat) (hy0 : n < 1095750) : pz_I l yX1_placed wsX1_placed ({ frames := 3, cells := 0, slots := 0, locals := 63 } : Room) D ((cyI, .int) :: ts) [.ref h1, .int (nI n)] [(h1, .inr (1, [.int th, .int yr, .int mo, .int da, .int (nI mk), .ref bc, .ref bf, .ref bg, .int (nI wr)])), (bc, .inl (cyI, 366, .inl (pz_ar rc))), (bf, .inl (cyI, 3001, .inl (pz_ar ff))), (bg, .inl (cyI, 3001, .inl (pz_ar gg)))] (S := Unit) (fun r _ => r = nI (pm_pl n)) (fun _ => [(h1, .inr (1, [.int th, .int (nI (pm_yr n)), .int (nI (pm_mo n)), .int (nI (pm_da n)), .int (nI mk), .ref bc, .ref bf, .ref bg, .int (nI wr)])), (bc, .inl (cyI, 366, .inl (pz_ar rc))), (bf, .inl (cyI, 3001, .inl (pz_ar ff))), (bg, .inl (cyI, 3001, .inl (pz_ar gg)))]) := by
  refine pz_I_of (cc := cX1_placed) (maxL := 3) (ty := .int) (own := RX1) (by decide) rfl rfl (Nat.le_of_ble_eq_true rfl) ?_
  intro p e s m below meth c A ls Q hx hb hml hown hts hK hP hD hS hA hl hQ
  have hl : lv_has ls 3 [(0, .ref h1), (1, .int (nI n))] := hl
  have hin : ∀ w ∈ u_ws RX1 TX1 9, w ∈ wsX1_placed := by decide +kernel
  have hs0 := pm_sp n
  have hm0 := pm_mo_b n
  have hda0 := pm_da_b n
  have hln0 := pm_ln_b (pm_yr n) (pm_mo n)
  have hy0b := pm_yr_b hy0
  have hd0 := pm_day2 n
  have hbd : pm_bd n = if pm_yr n % 4 = 0 ∧ (2 < pm_mo n ∨ (pm_mo n = 2 ∧ 24 < pm_da n)) then 1 else 0 := rfl
  refine lv_aload_n hx hb dX1_placed_0 rfl (lv_at hl 0 rfl) ?_
  refine lv_iload_n hx hb dX1_placed_1 rfl (lv_at hl 1 rfl) ?_
  refine pz_VV (rest := []) (wr := []) ⟨hx, hb, hml, hown, hts⟩ (k_X1_splits l D h1 bc bf bg cyI ts th yr mo da mk wr rc ff gg n (by split at hbd <;> omega)) (cwV 1 hts gX1_placed_X1_splits rfl rfl rfl (by decide +kernel) ⟨Nat.le_of_ble_eq_true rfl, Nat.le_of_ble_eq_true rfl⟩) hK hP hD hS hA [0, 1, 2, 3] [] rfl rfl rfl rfl rfl (by decide) 0 1 rfl rfl rfl hl.1 rfl (lv_room (Nat.le_of_ble_eq_true rfl)) dX1_placed_2 ⟨Nat.le_of_ble_eq_true rfl, Nat.le_of_ble_eq_true rfl⟩ (fun u H locs hr hP hD hS => ?_)
  have hP : va_P D vwCl [(h1, .inr (1, [.int th, .int (nI (pm_yr n)), .int (nI (pm_mo n)), .int (nI (pm_da n)), .int (nI mk), .ref bc, .ref bf, .ref bg, .int (nI wr)])), (bc, .inl (cyI, 366, .inl (pz_ar rc))), (bf, .inl (cyI, 3001, .inl (pz_ar ff))), (bg, .inl (cyI, 3001, .inl (pz_ar gg)))] H := hP
  have hD : va_D A [(h1, .inr (1, [.int th, .int (nI (pm_yr n)), .int (nI (pm_mo n)), .int (nI (pm_da n)), .int (nI mk), .ref bc, .ref bf, .ref bg, .int (nI wr)])), (bc, .inl (cyI, 366, .inl (pz_ar rc))), (bf, .inl (cyI, 3001, .inl (pz_ar ff))), (bg, .inl (cyI, 3001, .inl (pz_ar gg)))] := hD
  have hr_1 := hr
  refine lv_aload_n hx hb dX1_placed_5 rfl (lv_at hl 0 rfl) ?_
  refine va_get (D := D) (ci := 1) (v := .int (nI (pm_yr n))) (C := RX1) (T := TX1) (N := 9) hx hb hts hin hown hK hP 0 rfl rfl 1 (by decide) (hts (.fieldLink RX1 56 "RomanCalendarModel" "year" "I") (by decide +kernel)) (fun _ h9 => h9) rfl dX1_placed_6 ?_
  refine pz_SR (rest := []) ⟨hx, hb, hml, hown, hts⟩ (k_X1_isLeap l D ((cyI, .int) :: ts) (pm_yr n) (by split at hbd <;> omega)) (va_cwS 1 hts gX1_placed_X1_isLeap rfl rfl rfl (by decide +kernel) ⟨Nat.le_of_ble_eq_true rfl, Nat.le_of_ble_eq_true rfl⟩) hK hP (hD.weaken (fun _ _ _ _ => trivial)) hS hA [] rfl rfl rfl rfl hl.1 rfl (lv_room (Nat.le_of_ble_eq_true rfl)) dX1_placed_9 ⟨Nat.le_of_ble_eq_true rfl, Nat.le_of_ble_eq_true rfl⟩ (fun r H locs hr hP hS => ?_)
  obtain rfl : r = (pz_b ((pm_yr n) % 4 = 0)) := hr
  refine pb_if_eq (tgt := 44) hx hb dX1_placed_12 (by decide) (fun c_3 => ?_) (fun c_3 => ?_)
  · -- 12 yes
    refine lv_iconst (v := nI 0) hx hb dX1_placed_44 (by decide) ?_
    refine lv_istore_n (lv' := [(2, .int (nI 0)), (0, .ref h1), (1, .int (nI n))]) hx hb dX1_placed_45 rfl hl (by decide) rfl (fun ls hl => ?_)
    refine lv_iload_n hx hb dX1_placed_46 rfl (lv_at hl 2 rfl) ?_
    refine lv_aload_n hx hb dX1_placed_47 rfl (lv_at hl 1 rfl) ?_
    refine va_get (D := D) (ci := 1) (v := .int (nI (pm_yr n))) (C := RX1) (T := TX1) (N := 9) hx hb hts hin hown hK hP 0 rfl rfl 1 (by decide) (hts (.fieldLink RX1 56 "RomanCalendarModel" "year" "I") (by decide +kernel)) (fun _ h9 => h9) rfl dX1_placed_48 ?_
    refine pz_SR (rest := [.int (nI n)]) ⟨hx, hb, hml, hown, hts⟩ (k_X1_begin l D ((cyI, .int) :: ts) (pm_yr n) (by split at hbd <;> omega) (by split at hbd <;> omega)) (va_cwS 1 hts gX1_placed_X1_begin rfl rfl rfl (by decide +kernel) ⟨Nat.le_of_ble_eq_true rfl, Nat.le_of_ble_eq_true rfl⟩) hK hP (hD.weaken (fun _ _ _ _ => trivial)) hS hA [] rfl rfl rfl rfl hl.1 rfl (lv_room (Nat.le_of_ble_eq_true rfl)) dX1_placed_51 ⟨Nat.le_of_ble_eq_true rfl, Nat.le_of_ble_eq_true rfl⟩ (fun r H locs hr hP hS => ?_)
    obtain rfl : r = (nI (pm_fd (pm_yr n))) := hr
    have hf_5 := pm_fd_e (pm_yr n)
    refine pn_isub hx hb (by split at hbd <;> omega) dX1_placed_54 ?_
    refine lv_iconst (v := nI 1) hx hb dX1_placed_55 (by decide) ?_
    refine pn_iadd hx hb dX1_placed_56 ?_
    refine lv_iload_n hx hb dX1_placed_57 rfl (lv_at hl 0 rfl) ?_
    refine pn_if_eq (tgt := 65) hx hb (by split at hbd <;> omega) dX1_placed_58 (by decide) (fun _ => ?_) (fun c_6 => absurd c_6 (by decide))
    refine lv_iconst (v := nI 0) hx hb dX1_placed_65 (by decide) ?_
    refine pn_isub hx hb (by split at hbd <;> omega) dX1_placed_66 ?_
    exact hQ _ _ _ _ _ () dX1_placed_67 rfl (congrArg nI (by split at hbd <;> omega)) hP hD hS
  · -- 12 no
    refine lv_aload_n hx hb dX1_placed_15 rfl (lv_at hl 0 rfl) ?_
    refine va_get (D := D) (ci := 1) (v := .int (nI (pm_mo n))) (C := RX1) (T := TX1) (N := 9) hx hb hts hin hown hK hP 0 rfl rfl 2 (by decide) (hts (.fieldLink RX1 27 "RomanCalendarModel" "month" "I") (by decide +kernel)) (fun _ h9 => h9) rfl dX1_placed_16 ?_
    refine lv_iconst (v := nI 2) hx hb dX1_placed_19 (by decide) ?_
    refine pn_icmp_gt (tgt := 40) hx hb (by split at hbd <;> omega) (by split at hbd <;> omega) dX1_placed_20 (by decide) (fun c_7 => ?_) (fun c_7 => ?_)
    · -- 20 yes
      refine lv_iconst (v := nI 1) hx hb dX1_placed_40 (by decide) ?_
      refine lv_goto (tgt := 45) hx hb dX1_placed_41 (by decide) ?_
      refine lv_istore_n (lv' := [(2, .int (nI 1)), (0, .ref h1), (1, .int (nI n))]) hx hb dX1_placed_45 rfl hl (by decide) rfl (fun ls hl => ?_)
      refine lv_iload_n hx hb dX1_placed_46 rfl (lv_at hl 2 rfl) ?_
      refine lv_aload_n hx hb dX1_placed_47 rfl (lv_at hl 1 rfl) ?_
      refine va_get (D := D) (ci := 1) (v := .int (nI (pm_yr n))) (C := RX1) (T := TX1) (N := 9) hx hb hts hin hown hK hP 0 rfl rfl 1 (by decide) (hts (.fieldLink RX1 56 "RomanCalendarModel" "year" "I") (by decide +kernel)) (fun _ h9 => h9) rfl dX1_placed_48 ?_
      refine pz_SR (rest := [.int (nI n)]) ⟨hx, hb, hml, hown, hts⟩ (k_X1_begin l D ((cyI, .int) :: ts) (pm_yr n) (by split at hbd <;> omega) (by split at hbd <;> omega)) (va_cwS 1 hts gX1_placed_X1_begin rfl rfl rfl (by decide +kernel) ⟨Nat.le_of_ble_eq_true rfl, Nat.le_of_ble_eq_true rfl⟩) hK hP (hD.weaken (fun _ _ _ _ => trivial)) hS hA [] rfl rfl rfl rfl hl.1 rfl (lv_room (Nat.le_of_ble_eq_true rfl)) dX1_placed_51 ⟨Nat.le_of_ble_eq_true rfl, Nat.le_of_ble_eq_true rfl⟩ (fun r H locs hr hP hS => ?_)
      obtain rfl : r = (nI (pm_fd (pm_yr n))) := hr
      have hf_9 := pm_fd_e (pm_yr n)
      refine pn_isub hx hb (by split at hbd <;> omega) dX1_placed_54 ?_
      refine lv_iconst (v := nI 1) hx hb dX1_placed_55 (by decide) ?_
      refine pn_iadd hx hb dX1_placed_56 ?_
      refine lv_iload_n hx hb dX1_placed_57 rfl (lv_at hl 0 rfl) ?_
      refine pn_if_eq (tgt := 65) hx hb (by split at hbd <;> omega) dX1_placed_58 (by decide) (fun c_10 => absurd c_10 (by decide)) (fun _ => ?_)
      refine lv_iconst (v := nI 1) hx hb dX1_placed_61 (by decide) ?_
      refine lv_goto (tgt := 66) hx hb dX1_placed_62 (by decide) ?_
      refine pn_isub hx hb (by split at hbd <;> omega) dX1_placed_66 ?_
      exact hQ _ _ _ _ _ () dX1_placed_67 rfl (congrArg nI (by split at hbd <;> omega)) hP hD hS
    · -- 20 no
      refine lv_aload_n hx hb dX1_placed_23 rfl (lv_at hl 0 rfl) ?_
      refine va_get (D := D) (ci := 1) (v := .int (nI (pm_mo n))) (C := RX1) (T := TX1) (N := 9) hx hb hts hin hown hK hP 0 rfl rfl 2 (by decide) (hts (.fieldLink RX1 27 "RomanCalendarModel" "month" "I") (by decide +kernel)) (fun _ h9 => h9) rfl dX1_placed_24 ?_
      refine lv_iconst (v := nI 2) hx hb dX1_placed_27 (by decide) ?_
      refine pn_icmp_ne (tgt := 44) hx hb (by split at hbd <;> omega) (by split at hbd <;> omega) dX1_placed_28 (by decide) (fun c_11 => ?_) (fun c_11 => ?_)
      · -- 28 yes
        refine lv_iconst (v := nI 0) hx hb dX1_placed_44 (by decide) ?_
        refine lv_istore_n (lv' := [(2, .int (nI 0)), (0, .ref h1), (1, .int (nI n))]) hx hb dX1_placed_45 rfl hl (by decide) rfl (fun ls hl => ?_)
        refine lv_iload_n hx hb dX1_placed_46 rfl (lv_at hl 2 rfl) ?_
        refine lv_aload_n hx hb dX1_placed_47 rfl (lv_at hl 1 rfl) ?_
        refine va_get (D := D) (ci := 1) (v := .int (nI (pm_yr n))) (C := RX1) (T := TX1) (N := 9) hx hb hts hin hown hK hP 0 rfl rfl 1 (by decide) (hts (.fieldLink RX1 56 "RomanCalendarModel" "year" "I") (by decide +kernel)) (fun _ h9 => h9) rfl dX1_placed_48 ?_
        refine pz_SR (rest := [.int (nI n)]) ⟨hx, hb, hml, hown, hts⟩ (k_X1_begin l D ((cyI, .int) :: ts) (pm_yr n) (by split at hbd <;> omega) (by split at hbd <;> omega)) (va_cwS 1 hts gX1_placed_X1_begin rfl rfl rfl (by decide +kernel) ⟨Nat.le_of_ble_eq_true rfl, Nat.le_of_ble_eq_true rfl⟩) hK hP (hD.weaken (fun _ _ _ _ => trivial)) hS hA [] rfl rfl rfl rfl hl.1 rfl (lv_room (Nat.le_of_ble_eq_true rfl)) dX1_placed_51 ⟨Nat.le_of_ble_eq_true rfl, Nat.le_of_ble_eq_true rfl⟩ (fun r H locs hr hP hS => ?_)
        obtain rfl : r = (nI (pm_fd (pm_yr n))) := hr
        have hf_13 := pm_fd_e (pm_yr n)
        refine pn_isub hx hb (by split at hbd <;> omega) dX1_placed_54 ?_
        refine lv_iconst (v := nI 1) hx hb dX1_placed_55 (by decide) ?_
        refine pn_iadd hx hb dX1_placed_56 ?_
        refine lv_iload_n hx hb dX1_placed_57 rfl (lv_at hl 0 rfl) ?_
        refine pn_if_eq (tgt := 65) hx hb (by split at hbd <;> omega) dX1_placed_58 (by decide) (fun _ => ?_) (fun c_14 => absurd c_14 (by decide))
        refine lv_iconst (v := nI 0) hx hb dX1_placed_65 (by decide) ?_
        refine pn_isub hx hb (by split at hbd <;> omega) dX1_placed_66 ?_
        exact hQ _ _ _ _ _ () dX1_placed_67 rfl (congrArg nI (by split at hbd <;> omega)) hP hD hS
      · -- 28 no
        refine lv_aload_n hx hb dX1_placed_31 rfl (lv_at hl 0 rfl) ?_
        refine va_get (D := D) (ci := 1) (v := .int (nI (pm_da n))) (C := RX1) (T := TX1) (N := 9) hx hb hts hin hown hK hP 0 rfl rfl 3 (by decide) (hts (.fieldLink RX1 23 "RomanCalendarModel" "day" "I") (by decide +kernel)) (fun _ h9 => h9) rfl dX1_placed_32 ?_
        refine lv_bipush (v := nI 24) hx hb dX1_placed_35 (by decide) ?_
        refine pn_icmp_le (tgt := 44) hx hb (by split at hbd <;> omega) (by split at hbd <;> omega) dX1_placed_37 (by decide) (fun c_15 => ?_) (fun c_15 => ?_)
        · -- 37 yes
          refine lv_iconst (v := nI 0) hx hb dX1_placed_44 (by decide) ?_
          refine lv_istore_n (lv' := [(2, .int (nI 0)), (0, .ref h1), (1, .int (nI n))]) hx hb dX1_placed_45 rfl hl (by decide) rfl (fun ls hl => ?_)
          refine lv_iload_n hx hb dX1_placed_46 rfl (lv_at hl 2 rfl) ?_
          refine lv_aload_n hx hb dX1_placed_47 rfl (lv_at hl 1 rfl) ?_
          refine va_get (D := D) (ci := 1) (v := .int (nI (pm_yr n))) (C := RX1) (T := TX1) (N := 9) hx hb hts hin hown hK hP 0 rfl rfl 1 (by decide) (hts (.fieldLink RX1 56 "RomanCalendarModel" "year" "I") (by decide +kernel)) (fun _ h9 => h9) rfl dX1_placed_48 ?_
          refine pz_SR (rest := [.int (nI n)]) ⟨hx, hb, hml, hown, hts⟩ (k_X1_begin l D ((cyI, .int) :: ts) (pm_yr n) (by split at hbd <;> omega) (by split at hbd <;> omega)) (va_cwS 1 hts gX1_placed_X1_begin rfl rfl rfl (by decide +kernel) ⟨Nat.le_of_ble_eq_true rfl, Nat.le_of_ble_eq_true rfl⟩) hK hP (hD.weaken (fun _ _ _ _ => trivial)) hS hA [] rfl rfl rfl rfl hl.1 rfl (lv_room (Nat.le_of_ble_eq_true rfl)) dX1_placed_51 ⟨Nat.le_of_ble_eq_true rfl, Nat.le_of_ble_eq_true rfl⟩ (fun r H locs hr hP hS => ?_)
          obtain rfl : r = (nI (pm_fd (pm_yr n))) := hr
          have hf_17 := pm_fd_e (pm_yr n)
          refine pn_isub hx hb (by split at hbd <;> omega) dX1_placed_54 ?_
          refine lv_iconst (v := nI 1) hx hb dX1_placed_55 (by decide) ?_
          refine pn_iadd hx hb dX1_placed_56 ?_
          refine lv_iload_n hx hb dX1_placed_57 rfl (lv_at hl 0 rfl) ?_
          refine pn_if_eq (tgt := 65) hx hb (by split at hbd <;> omega) dX1_placed_58 (by decide) (fun _ => ?_) (fun c_18 => absurd c_18 (by decide))
          refine lv_iconst (v := nI 0) hx hb dX1_placed_65 (by decide) ?_
          refine pn_isub hx hb (by split at hbd <;> omega) dX1_placed_66 ?_
          exact hQ _ _ _ _ _ () dX1_placed_67 rfl (congrArg nI (by split at hbd <;> omega)) hP hD hS
        · -- 37 no
          refine lv_iconst (v := nI 1) hx hb dX1_placed_40 (by decide) ?_
          refine lv_goto (tgt := 45) hx hb dX1_placed_41 (by decide) ?_
          refine lv_istore_n (lv' := [(2, .int (nI 1)), (0, .ref h1), (1, .int (nI n))]) hx hb dX1_placed_45 rfl hl (by decide) rfl (fun ls hl => ?_)
          refine lv_iload_n hx hb dX1_placed_46 rfl (lv_at hl 2 rfl) ?_
          refine lv_aload_n hx hb dX1_placed_47 rfl (lv_at hl 1 rfl) ?_
          refine va_get (D := D) (ci := 1) (v := .int (nI (pm_yr n))) (C := RX1) (T := TX1) (N := 9) hx hb hts hin hown hK hP 0 rfl rfl 1 (by decide) (hts (.fieldLink RX1 56 "RomanCalendarModel" "year" "I") (by decide +kernel)) (fun _ h9 => h9) rfl dX1_placed_48 ?_
          refine pz_SR (rest := [.int (nI n)]) ⟨hx, hb, hml, hown, hts⟩ (k_X1_begin l D ((cyI, .int) :: ts) (pm_yr n) (by split at hbd <;> omega) (by split at hbd <;> omega)) (va_cwS 1 hts gX1_placed_X1_begin rfl rfl rfl (by decide +kernel) ⟨Nat.le_of_ble_eq_true rfl, Nat.le_of_ble_eq_true rfl⟩) hK hP (hD.weaken (fun _ _ _ _ => trivial)) hS hA [] rfl rfl rfl rfl hl.1 rfl (lv_room (Nat.le_of_ble_eq_true rfl)) dX1_placed_51 ⟨Nat.le_of_ble_eq_true rfl, Nat.le_of_ble_eq_true rfl⟩ (fun r H locs hr hP hS => ?_)
          obtain rfl : r = (nI (pm_fd (pm_yr n))) := hr
          have hf_20 := pm_fd_e (pm_yr n)
          refine pn_isub hx hb (by split at hbd <;> omega) dX1_placed_54 ?_
          refine lv_iconst (v := nI 1) hx hb dX1_placed_55 (by decide) ?_
          refine pn_iadd hx hb dX1_placed_56 ?_
          refine lv_iload_n hx hb dX1_placed_57 rfl (lv_at hl 0 rfl) ?_
          refine pn_if_eq (tgt := 65) hx hb (by split at hbd <;> omega) dX1_placed_58 (by decide) (fun c_21 => absurd c_21 (by decide)) (fun _ => ?_)
          refine lv_iconst (v := nI 1) hx hb dX1_placed_61 (by decide) ?_
          refine lv_goto (tgt := 66) hx hb dX1_placed_62 (by decide) ?_
          refine pn_isub hx hb (by split at hbd <;> omega) dX1_placed_66 ?_
          exact hQ _ _ _ _ _ () dX1_placed_67 rfl (congrArg nI (by split at hbd <;> omega)) hP hD hS
end PZ6
