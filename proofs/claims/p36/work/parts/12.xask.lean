section PZ2
set_option maxHeartbeats 4000000 in
set_option maxRecDepth 100000 in
theorem k_X0_checkYear (l : Launch) (D : va_G) (ts : List (ClassId × FieldType)) (y : Nat) (hy0 : 1 ≤ y) (hy1 : y ≤ 3000) : pz_RV l yX0_checkYear wsX0_checkYear ({ frames := 0, cells := 0, slots := 0, locals := 0 } : Room) D ts [.int (nI y)] [] := by
  refine pz_RV_of (cc := cX0_checkYear) (maxL := 1) (own := RX0) (by decide) rfl rfl (Nat.le_of_ble_eq_true rfl) ?_
  intro p e s m below meth c A ls Q hx hb hml hown hts hK hP hD hS hA hl hQ
  have hl : lv_has ls 1 [(0, .int (nI y))] := hl
  refine lv_iload_n hx hb dX0_checkYear_0 rfl (lv_at hl 0 rfl) ?_
  refine lv_iconst (v := nI 1) hx hb dX0_checkYear_1 (by decide) ?_
  refine pn_icmp_lt (tgt := 12) hx hb (by omega) (by omega) dX0_checkYear_2 (by decide) (fun c_1 => ?_) (fun c_1 => ?_)
  · -- 2 yes
    exfalso; omega
  · -- 2 no
    refine lv_iload_n hx hb dX0_checkYear_5 rfl (lv_at hl 0 rfl) ?_
    refine lv_sipush (v := nI 3000) hx hb dX0_checkYear_6 (by decide) ?_
    refine pn_icmp_le (tgt := 22) hx hb (by omega) (by omega) dX0_checkYear_9 (by decide) (fun c_2 => ?_) (fun c_2 => ?_)
    · -- 9 yes
      exact hQ _ _ _ _ dX0_checkYear_22 hS
    · -- 9 no
      exfalso; omega
set_option maxHeartbeats 4000000 in
set_option maxRecDepth 100000 in
theorem k_X0_checkYear_x (l : Launch) (hfl : l.stackTraces = false) (D : va_G) (ts : List (ClassId × FieldType)) (x : Int32) (hy0 : x.toInt < 1 ∨ 3000 < x.toInt) : pz_X l yX0_checkYear wsX0_checkYear ({ frames := 6, cells := 1, slots := 6, locals := 84 } : Room) D ts [.int x] [] "java/lang/IndexOutOfBoundsException" := by
  refine pz_X_of (cc := cX0_checkYear) (maxL := 1) (ret := none) (own := RX0) (by decide) rfl rfl (Nat.le_of_ble_eq_true rfl) ?_
  intro p e s m below meth c ls hx hb hml hown hts hK hP hD hS hA hl hth htb hlk
  have hl : lv_has ls 1 [(0, .int x)] := hl
  refine lv_iload_n hx hb dX0_checkYear_0 rfl (lv_at hl 0 rfl) ?_
  refine lv_iconst (v := nI 1) hx hb dX0_checkYear_1 (by decide) ?_
  refine pi_icmp_lt (tgt := 12) (a := (x).toInt) (b := ((1 : Nat) : Int)) hx hb rfl (nI_toInt (by omega)) dX0_checkYear_2 (by decide) (fun c_1 => ?_) (fun c_1 => ?_)
  · -- 2 yes
    exact pz_throw (E := "java/lang/IndexOutOfBoundsException") (text := "no such year") hx hb hfl hown hts (by decide +kernel) (by decide +kernel) (by decide +kernel) (by decide +kernel) (by decide +kernel) (by decide +kernel) (hts (.classLink RX0 153 "java/lang/IndexOutOfBoundsException") (by decide +kernel)) (hts (.initialized "java/lang/IndexOutOfBoundsException") (by decide +kernel)) hS hth hl.1 hml htb hlk dX0_checkYear_12 dX0_checkYear_15 dX0_checkYear_16 dX0_checkYear_18 dX0_checkYear_21 (Nat.le_of_ble_eq_true rfl) (Nat.le_of_ble_eq_true rfl) (Nat.le_of_ble_eq_true rfl) (Nat.le_of_ble_eq_true rfl)
  · -- 2 no
    refine lv_iload_n hx hb dX0_checkYear_5 rfl (lv_at hl 0 rfl) ?_
    refine lv_sipush (v := nI 3000) hx hb dX0_checkYear_6 (by decide) ?_
    refine pi_icmp_le (tgt := 22) (a := (x).toInt) (b := ((3000 : Nat) : Int)) hx hb rfl (nI_toInt (by omega)) dX0_checkYear_9 (by decide) (fun c_2 => ?_) (fun c_2 => ?_)
    · -- 9 yes
      exfalso; omega
    · -- 9 no
      exact pz_throw (E := "java/lang/IndexOutOfBoundsException") (text := "no such year") hx hb hfl hown hts (by decide +kernel) (by decide +kernel) (by decide +kernel) (by decide +kernel) (by decide +kernel) (by decide +kernel) (hts (.classLink RX0 153 "java/lang/IndexOutOfBoundsException") (by decide +kernel)) (hts (.initialized "java/lang/IndexOutOfBoundsException") (by decide +kernel)) hS hth hl.1 hml htb hlk dX0_checkYear_12 dX0_checkYear_15 dX0_checkYear_16 dX0_checkYear_18 dX0_checkYear_21 (Nat.le_of_ble_eq_true rfl) (Nat.le_of_ble_eq_true rfl) (Nat.le_of_ble_eq_true rfl) (Nat.le_of_ble_eq_true rfl)
set_option maxHeartbeats 4000000 in
set_option maxRecDepth 100000 in
theorem k_X0_checkMonth (l : Launch) (D : va_G) (ts : List (ClassId × FieldType)) (mm : Nat) (hy0 : 1 ≤ mm) (hy1 : mm ≤ 12) : pz_RV l yX0_checkMonth wsX0_checkMonth ({ frames := 0, cells := 0, slots := 0, locals := 0 } : Room) D ts [.int (nI mm)] [] := by
  refine pz_RV_of (cc := cX0_checkMonth) (maxL := 1) (own := RX0) (by decide) rfl rfl (Nat.le_of_ble_eq_true rfl) ?_
  intro p e s m below meth c A ls Q hx hb hml hown hts hK hP hD hS hA hl hQ
  have hl : lv_has ls 1 [(0, .int (nI mm))] := hl
  refine lv_iload_n hx hb dX0_checkMonth_0 rfl (lv_at hl 0 rfl) ?_
  refine lv_iconst (v := nI 1) hx hb dX0_checkMonth_1 (by decide) ?_
  refine pn_icmp_lt (tgt := 11) hx hb (by omega) (by omega) dX0_checkMonth_2 (by decide) (fun c_1 => ?_) (fun c_1 => ?_)
  · -- 2 yes
    exfalso; omega
  · -- 2 no
    refine lv_iload_n hx hb dX0_checkMonth_5 rfl (lv_at hl 0 rfl) ?_
    refine lv_bipush (v := nI 12) hx hb dX0_checkMonth_6 (by decide) ?_
    refine pn_icmp_le (tgt := 21) hx hb (by omega) (by omega) dX0_checkMonth_8 (by decide) (fun c_2 => ?_) (fun c_2 => ?_)
    · -- 8 yes
      exact hQ _ _ _ _ dX0_checkMonth_21 hS
    · -- 8 no
      exfalso; omega
set_option maxHeartbeats 4000000 in
set_option maxRecDepth 100000 in
theorem k_X0_checkMonth_x (l : Launch) (hfl : l.stackTraces = false) (D : va_G) (ts : List (ClassId × FieldType)) (x : Int32) (hy0 : x.toInt < 1 ∨ 12 < x.toInt) : pz_X l yX0_checkMonth wsX0_checkMonth ({ frames := 6, cells := 1, slots := 6, locals := 84 } : Room) D ts [.int x] [] "java/lang/IndexOutOfBoundsException" := by
  refine pz_X_of (cc := cX0_checkMonth) (maxL := 1) (ret := none) (own := RX0) (by decide) rfl rfl (Nat.le_of_ble_eq_true rfl) ?_
  intro p e s m below meth c ls hx hb hml hown hts hK hP hD hS hA hl hth htb hlk
  have hl : lv_has ls 1 [(0, .int x)] := hl
  refine lv_iload_n hx hb dX0_checkMonth_0 rfl (lv_at hl 0 rfl) ?_
  refine lv_iconst (v := nI 1) hx hb dX0_checkMonth_1 (by decide) ?_
  refine pi_icmp_lt (tgt := 11) (a := (x).toInt) (b := ((1 : Nat) : Int)) hx hb rfl (nI_toInt (by omega)) dX0_checkMonth_2 (by decide) (fun c_1 => ?_) (fun c_1 => ?_)
  · -- 2 yes
    exact pz_throw (E := "java/lang/IndexOutOfBoundsException") (text := "no such month") hx hb hfl hown hts (by decide +kernel) (by decide +kernel) (by decide +kernel) (by decide +kernel) (by decide +kernel) (by decide +kernel) (hts (.classLink RX0 153 "java/lang/IndexOutOfBoundsException") (by decide +kernel)) (hts (.initialized "java/lang/IndexOutOfBoundsException") (by decide +kernel)) hS hth hl.1 hml htb hlk dX0_checkMonth_11 dX0_checkMonth_14 dX0_checkMonth_15 dX0_checkMonth_17 dX0_checkMonth_20 (Nat.le_of_ble_eq_true rfl) (Nat.le_of_ble_eq_true rfl) (Nat.le_of_ble_eq_true rfl) (Nat.le_of_ble_eq_true rfl)
  · -- 2 no
    refine lv_iload_n hx hb dX0_checkMonth_5 rfl (lv_at hl 0 rfl) ?_
    refine lv_bipush (v := nI 12) hx hb dX0_checkMonth_6 (by decide) ?_
    refine pi_icmp_le (tgt := 21) (a := (x).toInt) (b := ((12 : Nat) : Int)) hx hb rfl (nI_toInt (by omega)) dX0_checkMonth_8 (by decide) (fun c_2 => ?_) (fun c_2 => ?_)
    · -- 8 yes
      exfalso; omega
    · -- 8 no
      exact pz_throw (E := "java/lang/IndexOutOfBoundsException") (text := "no such month") hx hb hfl hown hts (by decide +kernel) (by decide +kernel) (by decide +kernel) (by decide +kernel) (by decide +kernel) (by decide +kernel) (hts (.classLink RX0 153 "java/lang/IndexOutOfBoundsException") (by decide +kernel)) (hts (.initialized "java/lang/IndexOutOfBoundsException") (by decide +kernel)) hS hth hl.1 hml htb hlk dX0_checkMonth_11 dX0_checkMonth_14 dX0_checkMonth_15 dX0_checkMonth_17 dX0_checkMonth_20 (Nat.le_of_ble_eq_true rfl) (Nat.le_of_ble_eq_true rfl) (Nat.le_of_ble_eq_true rfl) (Nat.le_of_ble_eq_true rfl)
set_option maxHeartbeats 4000000 in
set_option maxRecDepth 100000 in
theorem k_X0_checkNumber (l : Launch) (D : va_G) (ts : List (ClassId × FieldType)) (n : Nat) (hy0 : n < 1095750) : pz_RV l yX0_checkNumber wsX0_checkNumber ({ frames := 0, cells := 0, slots := 0, locals := 0 } : Room) D ts [.int (nI n)] [] := by
  refine pz_RV_of (cc := cX0_checkNumber) (maxL := 1) (own := RX0) (by decide) rfl rfl (Nat.le_of_ble_eq_true rfl) ?_
  intro p e s m below meth c A ls Q hx hb hml hown hts hK hP hD hS hA hl hQ
  have hl : lv_has ls 1 [(0, .int (nI n))] := hl
  refine lv_iload_n hx hb dX0_checkNumber_0 rfl (lv_at hl 0 rfl) ?_
  refine pn_if_lt (tgt := 10) hx hb (by omega) dX0_checkNumber_1 (by decide) ?_
  refine lv_iload_n hx hb dX0_checkNumber_4 rfl (lv_at hl 0 rfl) ?_
  refine lv_ldc (v := nI 1095750) hx hb hown (hts (.constant RX0 31 (1095750)) (by decide +kernel)) dX0_checkNumber_5 ?_
  refine pn_icmp_lt (tgt := 20) hx hb (by omega) (by omega) dX0_checkNumber_7 (by decide) (fun c_2 => ?_) (fun c_2 => ?_)
  · -- 7 yes
    exact hQ _ _ _ _ dX0_checkNumber_20 hS
  · -- 7 no
    exfalso; omega
set_option maxHeartbeats 4000000 in
set_option maxRecDepth 100000 in
theorem k_X0_checkNumber_x (l : Launch) (hfl : l.stackTraces = false) (D : va_G) (ts : List (ClassId × FieldType)) (x : Int32) (hy0 : x.toInt < 0 ∨ 1095749 < x.toInt) : pz_X l yX0_checkNumber wsX0_checkNumber ({ frames := 6, cells := 1, slots := 6, locals := 84 } : Room) D ts [.int x] [] "java/lang/IndexOutOfBoundsException" := by
  refine pz_X_of (cc := cX0_checkNumber) (maxL := 1) (ret := none) (own := RX0) (by decide) rfl rfl (Nat.le_of_ble_eq_true rfl) ?_
  intro p e s m below meth c ls hx hb hml hown hts hK hP hD hS hA hl hth htb hlk
  have hl : lv_has ls 1 [(0, .int x)] := hl
  refine lv_iload_n hx hb dX0_checkNumber_0 rfl (lv_at hl 0 rfl) ?_
  refine pi_if_lt (tgt := 10) (a := (x).toInt) hx hb rfl dX0_checkNumber_1 (by decide) (fun c_1 => ?_) (fun c_1 => ?_)
  · -- 1 yes
    exact pz_throw (E := "java/lang/IndexOutOfBoundsException") (text := "no such day number") hx hb hfl hown hts (by decide +kernel) (by decide +kernel) (by decide +kernel) (by decide +kernel) (by decide +kernel) (by decide +kernel) (hts (.classLink RX0 153 "java/lang/IndexOutOfBoundsException") (by decide +kernel)) (hts (.initialized "java/lang/IndexOutOfBoundsException") (by decide +kernel)) hS hth hl.1 hml htb hlk dX0_checkNumber_10 dX0_checkNumber_13 dX0_checkNumber_14 dX0_checkNumber_16 dX0_checkNumber_19 (Nat.le_of_ble_eq_true rfl) (Nat.le_of_ble_eq_true rfl) (Nat.le_of_ble_eq_true rfl) (Nat.le_of_ble_eq_true rfl)
  · -- 1 no
    refine lv_iload_n hx hb dX0_checkNumber_4 rfl (lv_at hl 0 rfl) ?_
    refine lv_ldc (v := nI 1095750) hx hb hown (hts (.constant RX0 31 (1095750)) (by decide +kernel)) dX0_checkNumber_5 ?_
    refine pi_icmp_lt (tgt := 20) (a := (x).toInt) (b := ((1095750 : Nat) : Int)) hx hb rfl (nI_toInt (by omega)) dX0_checkNumber_7 (by decide) (fun c_2 => ?_) (fun c_2 => ?_)
    · -- 7 yes
      exfalso; omega
    · -- 7 no
      exact pz_throw (E := "java/lang/IndexOutOfBoundsException") (text := "no such day number") hx hb hfl hown hts (by decide +kernel) (by decide +kernel) (by decide +kernel) (by decide +kernel) (by decide +kernel) (by decide +kernel) (hts (.classLink RX0 153 "java/lang/IndexOutOfBoundsException") (by decide +kernel)) (hts (.initialized "java/lang/IndexOutOfBoundsException") (by decide +kernel)) hS hth hl.1 hml htb hlk dX0_checkNumber_10 dX0_checkNumber_13 dX0_checkNumber_14 dX0_checkNumber_16 dX0_checkNumber_19 (Nat.le_of_ble_eq_true rfl) (Nat.le_of_ble_eq_true rfl) (Nat.le_of_ble_eq_true rfl) (Nat.le_of_ble_eq_true rfl)
set_option maxHeartbeats 4000000 in
set_option maxRecDepth 100000 in
theorem k_X0_checkAnchor (l : Launch) (D : va_G) (ts : List (ClassId × FieldType)) (a : Nat) (hy0 : a ≤ 2) : pz_RV l yX0_checkAnchor wsX0_checkAnchor ({ frames := 0, cells := 0, slots := 0, locals := 0 } : Room) D ts [.int (nI a)] [] := by
  refine pz_RV_of (cc := cX0_checkAnchor) (maxL := 1) (own := RX0) (by decide) rfl rfl (Nat.le_of_ble_eq_true rfl) ?_
  intro p e s m below meth c A ls Q hx hb hml hown hts hK hP hD hS hA hl hQ
  have hl : lv_has ls 1 [(0, .int (nI a))] := hl
  refine lv_iload_n hx hb dX0_checkAnchor_0 rfl (lv_at hl 0 rfl) ?_
  refine pn_if_lt (tgt := 9) hx hb (by omega) dX0_checkAnchor_1 (by decide) ?_
  refine lv_iload_n hx hb dX0_checkAnchor_4 rfl (lv_at hl 0 rfl) ?_
  refine lv_iconst (v := nI 2) hx hb dX0_checkAnchor_5 (by decide) ?_
  refine pn_icmp_le (tgt := 19) hx hb (by omega) (by omega) dX0_checkAnchor_6 (by decide) (fun c_2 => ?_) (fun c_2 => ?_)
  · -- 6 yes
    exact hQ _ _ _ _ dX0_checkAnchor_19 hS
  · -- 6 no
    exfalso; omega
set_option maxHeartbeats 4000000 in
set_option maxRecDepth 100000 in
theorem k_X0_checkAnchor_x (l : Launch) (hfl : l.stackTraces = false) (D : va_G) (ts : List (ClassId × FieldType)) (x : Int32) (hy0 : x.toInt < 0 ∨ 2 < x.toInt) : pz_X l yX0_checkAnchor wsX0_checkAnchor ({ frames := 6, cells := 1, slots := 6, locals := 84 } : Room) D ts [.int x] [] "java/lang/IllegalArgumentException" := by
  refine pz_X_of (cc := cX0_checkAnchor) (maxL := 1) (ret := none) (own := RX0) (by decide) rfl rfl (Nat.le_of_ble_eq_true rfl) ?_
  intro p e s m below meth c ls hx hb hml hown hts hK hP hD hS hA hl hth htb hlk
  have hl : lv_has ls 1 [(0, .int x)] := hl
  refine lv_iload_n hx hb dX0_checkAnchor_0 rfl (lv_at hl 0 rfl) ?_
  refine pi_if_lt (tgt := 9) (a := (x).toInt) hx hb rfl dX0_checkAnchor_1 (by decide) (fun c_1 => ?_) (fun c_1 => ?_)
  · -- 1 yes
    exact pz_throw (E := "java/lang/IllegalArgumentException") (text := "no such anchor") hx hb hfl hown hts (by decide +kernel) (by decide +kernel) (by decide +kernel) (by decide +kernel) (by decide +kernel) (by decide +kernel) (hts (.classLink RX0 75 "java/lang/IllegalArgumentException") (by decide +kernel)) (hts (.initialized "java/lang/IllegalArgumentException") (by decide +kernel)) hS hth hl.1 hml htb hlk dX0_checkAnchor_9 dX0_checkAnchor_12 dX0_checkAnchor_13 dX0_checkAnchor_15 dX0_checkAnchor_18 (Nat.le_of_ble_eq_true rfl) (Nat.le_of_ble_eq_true rfl) (Nat.le_of_ble_eq_true rfl) (Nat.le_of_ble_eq_true rfl)
  · -- 1 no
    refine lv_iload_n hx hb dX0_checkAnchor_4 rfl (lv_at hl 0 rfl) ?_
    refine lv_iconst (v := nI 2) hx hb dX0_checkAnchor_5 (by decide) ?_
    refine pi_icmp_le (tgt := 19) (a := (x).toInt) (b := ((2 : Nat) : Int)) hx hb rfl (nI_toInt (by omega)) dX0_checkAnchor_6 (by decide) (fun c_2 => ?_) (fun c_2 => ?_)
    · -- 6 yes
      exfalso; omega
    · -- 6 no
      exact pz_throw (E := "java/lang/IllegalArgumentException") (text := "no such anchor") hx hb hfl hown hts (by decide +kernel) (by decide +kernel) (by decide +kernel) (by decide +kernel) (by decide +kernel) (by decide +kernel) (hts (.classLink RX0 75 "java/lang/IllegalArgumentException") (by decide +kernel)) (hts (.initialized "java/lang/IllegalArgumentException") (by decide +kernel)) hS hth hl.1 hml htb hlk dX0_checkAnchor_9 dX0_checkAnchor_12 dX0_checkAnchor_13 dX0_checkAnchor_15 dX0_checkAnchor_18 (Nat.le_of_ble_eq_true rfl) (Nat.le_of_ble_eq_true rfl) (Nat.le_of_ble_eq_true rfl) (Nat.le_of_ble_eq_true rfl)
set_option maxHeartbeats 4000000 in
set_option maxRecDepth 100000 in
theorem k_X0_checkDate (l : Launch) (D : va_G) (ts : List (ClassId × FieldType)) (y mm dy : Nat) (hy0 : 1 ≤ y) (hy1 : y ≤ 3000) (hy2 : 1 ≤ mm) (hy3 : mm ≤ 12) (hy4 : 1 ≤ dy) (hy5 : dy ≤ pm_ln y mm) : pz_RV l yX0_checkDate wsX0_checkDate ({ frames := 2, cells := 0, slots := 0, locals := 42 } : Room) D ts [.int (nI y), .int (nI mm), .int (nI dy)] [] := by
  refine pz_RV_of (cc := cX0_checkDate) (maxL := 3) (own := RX0) (by decide) rfl rfl (Nat.le_of_ble_eq_true rfl) ?_
  intro p e s m below meth c A ls Q hx hb hml hown hts hK hP hD hS hA hl hQ
  have hl : lv_has ls 3 [(0, .int (nI y)), (1, .int (nI mm)), (2, .int (nI dy))] := hl
  have hln := pm_ln_b y mm
  refine lv_iload_n hx hb dX0_checkDate_0 rfl (lv_at hl 0 rfl) ?_
  refine pz_SRV (rest := []) ⟨hx, hb, hml, hown, hts⟩ (k_X0_checkYear l D ts y (by omega) (by omega)) (va_cwS 1 hts gX0_checkDate_X0_checkYear rfl rfl rfl (by decide +kernel) ⟨Nat.le_of_ble_eq_true rfl, Nat.le_of_ble_eq_true rfl⟩) hK hP hD hS hA [] rfl rfl rfl rfl hl.1 rfl (lv_room (Nat.le_of_ble_eq_true rfl)) dX0_checkDate_1 ⟨Nat.le_of_ble_eq_true rfl, Nat.le_of_ble_eq_true rfl⟩ (fun H locs hP hS => ?_)
  refine lv_iload_n hx hb dX0_checkDate_4 rfl (lv_at hl 1 rfl) ?_
  refine pz_SRV (rest := []) ⟨hx, hb, hml, hown, hts⟩ (k_X0_checkMonth l D ts mm (by omega) (by omega)) (va_cwS 1 hts gX0_checkDate_X0_checkMonth rfl rfl rfl (by decide +kernel) ⟨Nat.le_of_ble_eq_true rfl, Nat.le_of_ble_eq_true rfl⟩) hK hP hD hS hA [] rfl rfl rfl rfl hl.1 rfl (lv_room (Nat.le_of_ble_eq_true rfl)) dX0_checkDate_5 ⟨Nat.le_of_ble_eq_true rfl, Nat.le_of_ble_eq_true rfl⟩ (fun H locs hP hS => ?_)
  refine lv_iload_n hx hb dX0_checkDate_8 rfl (lv_at hl 2 rfl) ?_
  refine lv_iconst (v := nI 1) hx hb dX0_checkDate_9 (by decide) ?_
  refine pn_icmp_lt (tgt := 22) hx hb (by omega) (by omega) dX0_checkDate_10 (by decide) (fun c_3 => ?_) (fun c_3 => ?_)
  · -- 10 yes
    exfalso; omega
  · -- 10 no
    refine lv_iload_n hx hb dX0_checkDate_13 rfl (lv_at hl 2 rfl) ?_
    refine lv_iload_n hx hb dX0_checkDate_14 rfl (lv_at hl 0 rfl) ?_
    refine lv_iload_n hx hb dX0_checkDate_15 rfl (lv_at hl 1 rfl) ?_
    refine pz_SR (rest := [.int (nI dy)]) ⟨hx, hb, hml, hown, hts⟩ (k_X0_lengthOf l D ts y mm (by omega) (by omega)) (va_cwS 2 hts gX0_checkDate_X0_lengthOf rfl rfl rfl (by decide +kernel) ⟨Nat.le_of_ble_eq_true rfl, Nat.le_of_ble_eq_true rfl⟩) hK hP hD hS hA [] rfl rfl rfl rfl hl.1 rfl (lv_room (Nat.le_of_ble_eq_true rfl)) dX0_checkDate_16 ⟨Nat.le_of_ble_eq_true rfl, Nat.le_of_ble_eq_true rfl⟩ (fun r H locs hr hP hS => ?_)
    obtain rfl : r = (nI (pm_ln y mm)) := hr
    have hf_5 := pm_ln_b y mm
    refine pn_icmp_le (tgt := 32) hx hb (by omega) (by omega) dX0_checkDate_19 (by decide) (fun c_6 => ?_) (fun c_6 => ?_)
    · -- 19 yes
      exact hQ _ _ _ _ dX0_checkDate_32 hS
    · -- 19 no
      exfalso; omega
set_option maxHeartbeats 4000000 in
set_option maxRecDepth 100000 in
theorem k_X0_checkDate_x (l : Launch) (hfl : l.stackTraces = false) (D : va_G) (ts : List (ClassId × FieldType)) (x1 x2 x3 : Int32) (hy0 : ¬ (1 ≤ x1.toInt ∧ x1.toInt ≤ 3000 ∧ 1 ≤ x2.toInt ∧ x2.toInt ≤ 12 ∧ 1 ≤ x3.toInt ∧ x3.toInt ≤ pm_ln x1.toInt.toNat x2.toInt.toNat)) : pz_X l yX0_checkDate wsX0_checkDate ({ frames := 7, cells := 1, slots := 6, locals := 104 } : Room) D ts [.int x1, .int x2, .int x3] [] "java/lang/IndexOutOfBoundsException" := by
  refine pz_X_of (cc := cX0_checkDate) (maxL := 3) (ret := none) (own := RX0) (by decide) rfl rfl (Nat.le_of_ble_eq_true rfl) ?_
  intro p e s m below meth c ls hx hb hml hown hts hK hP hD hS hA hl hth htb hlk
  have hl : lv_has ls 3 [(0, .int x1), (1, .int x2), (2, .int x3)] := hl
  refine lv_iload_n hx hb dX0_checkDate_0 rfl (lv_at hl 0 rfl) ?_
  rcases pz_rng x1 1 3000 (by decide) with ⟨y, hl_y, hh_y, rfl⟩ | hb_x1
  · -- in range
    have ei_y : (nI y).toInt = (y : Int) := nI_toInt (by omega)
    simp only [ei_y, Int.toNat_natCast] at hy0
    refine pz_SRV (rest := []) ⟨hx, hb, hml, hown, hts⟩ (k_X0_checkYear l D ts y (by omega) (by omega)) (va_cwS 1 hts gX0_checkDate_X0_checkYear rfl rfl rfl (by decide +kernel) ⟨Nat.le_of_ble_eq_true rfl, Nat.le_of_ble_eq_true rfl⟩) hK hP hD hS hA [] rfl rfl rfl rfl hl.1 rfl (lv_room (Nat.le_of_ble_eq_true rfl)) dX0_checkDate_1 ⟨Nat.le_of_ble_eq_true rfl, Nat.le_of_ble_eq_true rfl⟩ (fun H locs hP hS => ?_)
    refine lv_iload_n hx hb dX0_checkDate_4 rfl (lv_at hl 1 rfl) ?_
    rcases pz_rng x2 1 12 (by decide) with ⟨mm, hl_mm, hh_mm, rfl⟩ | hb_x2
    · -- in range
      have ei_mm : (nI mm).toInt = (mm : Int) := nI_toInt (by omega)
      simp only [ei_mm, Int.toNat_natCast] at hy0
      refine pz_SRV (rest := []) ⟨hx, hb, hml, hown, hts⟩ (k_X0_checkMonth l D ts mm (by omega) (by omega)) (va_cwS 1 hts gX0_checkDate_X0_checkMonth rfl rfl rfl (by decide +kernel) ⟨Nat.le_of_ble_eq_true rfl, Nat.le_of_ble_eq_true rfl⟩) hK hP hD hS hA [] rfl rfl rfl rfl hl.1 rfl (lv_room (Nat.le_of_ble_eq_true rfl)) dX0_checkDate_5 ⟨Nat.le_of_ble_eq_true rfl, Nat.le_of_ble_eq_true rfl⟩ (fun H locs hP hS => ?_)
      refine lv_iload_n hx hb dX0_checkDate_8 rfl (lv_at hl 2 rfl) ?_
      refine lv_iconst (v := nI 1) hx hb dX0_checkDate_9 (by decide) ?_
      refine pi_icmp_lt (tgt := 22) (a := (x3).toInt) (b := ((1 : Nat) : Int)) hx hb rfl (nI_toInt (by omega)) dX0_checkDate_10 (by decide) (fun c_3 => ?_) (fun c_3 => ?_)
      · -- 10 yes
        exact pz_throw (E := "java/lang/IndexOutOfBoundsException") (text := "no such day") hx hb hfl hown hts (by decide +kernel) (by decide +kernel) (by decide +kernel) (by decide +kernel) (by decide +kernel) (by decide +kernel) (hts (.classLink RX0 153 "java/lang/IndexOutOfBoundsException") (by decide +kernel)) (hts (.initialized "java/lang/IndexOutOfBoundsException") (by decide +kernel)) hS hth hl.1 hml htb hlk dX0_checkDate_22 dX0_checkDate_25 dX0_checkDate_26 dX0_checkDate_28 dX0_checkDate_31 (Nat.le_of_ble_eq_true rfl) (Nat.le_of_ble_eq_true rfl) (Nat.le_of_ble_eq_true rfl) (Nat.le_of_ble_eq_true rfl)
      · -- 10 no
        refine lv_iload_n hx hb dX0_checkDate_13 rfl (lv_at hl 2 rfl) ?_
        refine lv_iload_n hx hb dX0_checkDate_14 rfl (lv_at hl 0 rfl) ?_
        refine lv_iload_n hx hb dX0_checkDate_15 rfl (lv_at hl 1 rfl) ?_
        refine pz_SR (rest := [.int x3]) ⟨hx, hb, hml, hown, hts⟩ (k_X0_lengthOf l D ts y mm (by omega) (by omega)) (va_cwS 2 hts gX0_checkDate_X0_lengthOf rfl rfl rfl (by decide +kernel) ⟨Nat.le_of_ble_eq_true rfl, Nat.le_of_ble_eq_true rfl⟩) hK hP hD hS hA [] rfl rfl rfl rfl hl.1 rfl (lv_room (Nat.le_of_ble_eq_true rfl)) dX0_checkDate_16 ⟨Nat.le_of_ble_eq_true rfl, Nat.le_of_ble_eq_true rfl⟩ (fun r H locs hr hP hS => ?_)
        obtain rfl : r = (nI (pm_ln y mm)) := hr
        have hf_5 := pm_ln_b y mm
        refine pi_icmp_le (tgt := 32) (a := (x3).toInt) (b := ((pm_ln y mm : Nat) : Int)) hx hb rfl (nI_toInt (by omega)) dX0_checkDate_19 (by decide) (fun c_6 => ?_) (fun c_6 => ?_)
        · -- 19 yes
          exfalso; omega
        · -- 19 no
          exact pz_throw (E := "java/lang/IndexOutOfBoundsException") (text := "no such day") hx hb hfl hown hts (by decide +kernel) (by decide +kernel) (by decide +kernel) (by decide +kernel) (by decide +kernel) (by decide +kernel) (hts (.classLink RX0 153 "java/lang/IndexOutOfBoundsException") (by decide +kernel)) (hts (.initialized "java/lang/IndexOutOfBoundsException") (by decide +kernel)) hS hth hl.1 hml htb hlk dX0_checkDate_22 dX0_checkDate_25 dX0_checkDate_26 dX0_checkDate_28 dX0_checkDate_31 (Nat.le_of_ble_eq_true rfl) (Nat.le_of_ble_eq_true rfl) (Nat.le_of_ble_eq_true rfl) (Nat.le_of_ble_eq_true rfl)
    · -- outside
      exact pz_SX (rest := []) ⟨hx, hb, hml, hown, hts⟩ (k_X0_checkMonth_x l hfl D ts x2 (by omega)) (va_cwS 1 hts gX0_checkDate_X0_checkMonth rfl rfl rfl (by decide +kernel) ⟨Nat.le_of_ble_eq_true rfl, Nat.le_of_ble_eq_true rfl⟩) hK hP hD hS hth htb hlk [] rfl rfl rfl rfl hl.1 rfl (lv_room (Nat.le_of_ble_eq_true rfl)) dX0_checkDate_5 ⟨Nat.le_of_ble_eq_true rfl, Nat.le_of_ble_eq_true rfl⟩
  · -- outside
    exact pz_SX (rest := []) ⟨hx, hb, hml, hown, hts⟩ (k_X0_checkYear_x l hfl D ts x1 (by omega)) (va_cwS 1 hts gX0_checkDate_X0_checkYear rfl rfl rfl (by decide +kernel) ⟨Nat.le_of_ble_eq_true rfl, Nat.le_of_ble_eq_true rfl⟩) hK hP hD hS hth htb hlk [] rfl rfl rfl rfl hl.1 rfl (lv_room (Nat.le_of_ble_eq_true rfl)) dX0_checkDate_1 ⟨Nat.le_of_ble_eq_true rfl, Nat.le_of_ble_eq_true rfl⟩
set_option maxHeartbeats 4000000 in
set_option maxRecDepth 100000 in
theorem k_X0_days (l : Launch) (D : va_G) (h0 ac ay ap : Nat) (cyI : ClassId) (ts : List (ClassId × FieldType)) (mk : Nat) (ch fy fp : Nat → Nat)   : pz_R l yX0_days wsX0_days ({ frames := 0, cells := 0, slots := 0, locals := 0 } : Room) D ((cyI, .int) :: ts) [.ref h0] [(h0, .inr (0, [.ref ac, .ref ay, .ref ap, .int (nI mk)])), (ac, .inl (cyI, 365, .inl (pz_ar ch))), (ay, .inl (cyI, 60, .inl (pz_ar fy))), (ap, .inl (cyI, 60, .inl (pz_ar fp)))] (fun r => r = nI 1095750) := by
  refine pz_R_of (cc := cX0_days) (maxL := 1) (ty := .int) (own := RX0) (by decide) rfl rfl (Nat.le_of_ble_eq_true rfl) ?_
  intro p e s m below meth c A ls Q hx hb hml hown hts hK hP hD hS hA hl hQ
  have hl : lv_has ls 1 [(0, .ref h0)] := hl
  refine lv_ldc (v := nI 1095750) hx hb hown (hts (.constant RX0 31 (1095750)) (by decide +kernel)) dX0_days_0 ?_
  exact hQ _ _ _ _ _ dX0_days_2 rfl (congrArg nI (by rfl)) hS
set_option maxHeartbeats 4000000 in
set_option maxRecDepth 100000 in
theorem k_X0_number (l : Launch) (D : va_G) (h0 ac ay ap : Nat) (cyI : ClassId) (ts : List (ClassId × FieldType)) (mk : Nat) (ch fy fp : Nat → Nat) (y mm dy : Nat) (hy0 : 1 ≤ y) (hy1 : y ≤ 3000) (hy2 : 1 ≤ mm) (hy3 : mm ≤ 12) (hy4 : 1 ≤ dy) (hy5 : dy ≤ pm_ln y mm) : pz_R l yX0_number wsX0_number ({ frames := 3, cells := 0, slots := 0, locals := 64 } : Room) D ((cyI, .int) :: ts) [.ref h0, .int (nI y), .int (nI mm), .int (nI dy)] [(h0, .inr (0, [.ref ac, .ref ay, .ref ap, .int (nI mk)])), (ac, .inl (cyI, 365, .inl (pz_ar ch))), (ay, .inl (cyI, 60, .inl (pz_ar fy))), (ap, .inl (cyI, 60, .inl (pz_ar fp)))] (fun r => r = nI (pm_fd y + pm_db y mm + dy - 1)) := by
  refine pz_R_of (cc := cX0_number) (maxL := 4) (ty := .int) (own := RX0) (by decide) rfl rfl (Nat.le_of_ble_eq_true rfl) ?_
  intro p e s m below meth c A ls Q hx hb hml hown hts hK hP hD hS hA hl hQ
  have hl : lv_has ls 4 [(0, .ref h0), (1, .int (nI y)), (2, .int (nI mm)), (3, .int (nI dy))] := hl
  refine lv_iload_n hx hb dX0_number_0 rfl (lv_at hl 1 rfl) ?_
  refine lv_iload_n hx hb dX0_number_1 rfl (lv_at hl 2 rfl) ?_
  refine lv_iload_n hx hb dX0_number_2 rfl (lv_at hl 3 rfl) ?_
  refine pz_SRV (rest := []) ⟨hx, hb, hml, hown, hts⟩ (k_X0_checkDate l D ((cyI, .int) :: ts) y mm dy (by omega) (by omega) (by omega) (by omega) (by omega) (by omega)) (va_cwS 3 hts gX0_number_X0_checkDate rfl rfl rfl (by decide +kernel) ⟨Nat.le_of_ble_eq_true rfl, Nat.le_of_ble_eq_true rfl⟩) hK hP hD hS hA [] rfl rfl rfl rfl hl.1 rfl (lv_room (Nat.le_of_ble_eq_true rfl)) dX0_number_3 ⟨Nat.le_of_ble_eq_true rfl, Nat.le_of_ble_eq_true rfl⟩ (fun H locs hP hS => ?_)
  refine lv_iload_n hx hb dX0_number_6 rfl (lv_at hl 1 rfl) ?_
  refine pz_SR (rest := []) ⟨hx, hb, hml, hown, hts⟩ (k_X0_firstDayOf l D ((cyI, .int) :: ts) y (by omega) (by omega)) (va_cwS 1 hts gX0_number_X0_firstDayOf rfl rfl rfl (by decide +kernel) ⟨Nat.le_of_ble_eq_true rfl, Nat.le_of_ble_eq_true rfl⟩) hK hP hD hS hA [] rfl rfl rfl rfl hl.1 rfl (lv_room (Nat.le_of_ble_eq_true rfl)) dX0_number_7 ⟨Nat.le_of_ble_eq_true rfl, Nat.le_of_ble_eq_true rfl⟩ (fun r H locs hr hP hS => ?_)
  obtain rfl : r = (nI (pm_fd y)) := hr
  have hf_3 := pm_fd_e y
  refine lv_iload_n hx hb dX0_number_10 rfl (lv_at hl 1 rfl) ?_
  refine lv_iload_n hx hb dX0_number_11 rfl (lv_at hl 2 rfl) ?_
  refine pz_SR (rest := [.int (nI (pm_fd y))]) ⟨hx, hb, hml, hown, hts⟩ (k_X0_daysBefore l D ((cyI, .int) :: ts) y mm (by omega) (by omega) (by omega)) (va_cwS 2 hts gX0_number_X0_daysBefore rfl rfl rfl (by decide +kernel) ⟨Nat.le_of_ble_eq_true rfl, Nat.le_of_ble_eq_true rfl⟩) hK hP hD hS hA [] rfl rfl rfl rfl hl.1 rfl (lv_room (Nat.le_of_ble_eq_true rfl)) dX0_number_12 ⟨Nat.le_of_ble_eq_true rfl, Nat.le_of_ble_eq_true rfl⟩ (fun r H locs hr hP hS => ?_)
  obtain rfl : r = (nI (pm_db y mm)) := hr
  have hf_5 := pm_db_b y mm (by omega)
  refine pn_iadd hx hb dX0_number_15 ?_
  refine lv_iload_n hx hb dX0_number_16 rfl (lv_at hl 3 rfl) ?_
  refine pn_iadd hx hb dX0_number_17 ?_
  refine lv_iconst (v := nI 1) hx hb dX0_number_18 (by decide) ?_
  refine pn_isub hx hb (by omega) dX0_number_19 ?_
  exact hQ _ _ _ _ _ dX0_number_20 rfl (congrArg nI (by rfl)) hS
set_option maxHeartbeats 4000000 in
set_option maxRecDepth 100000 in
theorem k_X0_number_x (l : Launch) (hfl : l.stackTraces = false) (D : va_G) (h0 ac ay ap : Nat) (cyI : ClassId) (ts : List (ClassId × FieldType)) (mk : Nat) (ch fy fp : Nat → Nat) (x1 x2 x3 : Int32) (hy0 : ¬ (1 ≤ x1.toInt ∧ x1.toInt ≤ 3000 ∧ 1 ≤ x2.toInt ∧ x2.toInt ≤ 12 ∧ 1 ≤ x3.toInt ∧ x3.toInt ≤ pm_ln x1.toInt.toNat x2.toInt.toNat)) : pz_X l yX0_number wsX0_number ({ frames := 8, cells := 1, slots := 6, locals := 126 } : Room) D ((cyI, .int) :: ts) [.ref h0, .int x1, .int x2, .int x3] [(h0, .inr (0, [.ref ac, .ref ay, .ref ap, .int (nI mk)])), (ac, .inl (cyI, 365, .inl (pz_ar ch))), (ay, .inl (cyI, 60, .inl (pz_ar fy))), (ap, .inl (cyI, 60, .inl (pz_ar fp)))] "java/lang/IndexOutOfBoundsException" := by
  refine pz_X_of (cc := cX0_number) (maxL := 4) (ret := (some .int)) (own := RX0) (by decide) rfl rfl (Nat.le_of_ble_eq_true rfl) ?_
  intro p e s m below meth c ls hx hb hml hown hts hK hP hD hS hA hl hth htb hlk
  have hl : lv_has ls 4 [(0, .ref h0), (1, .int x1), (2, .int x2), (3, .int x3)] := hl
  refine lv_iload_n hx hb dX0_number_0 rfl (lv_at hl 1 rfl) ?_
  refine lv_iload_n hx hb dX0_number_1 rfl (lv_at hl 2 rfl) ?_
  refine lv_iload_n hx hb dX0_number_2 rfl (lv_at hl 3 rfl) ?_
  exact pz_SX (rest := []) ⟨hx, hb, hml, hown, hts⟩ (k_X0_checkDate_x l hfl D ((cyI, .int) :: ts) x1 x2 x3 (by omega)) (va_cwS 3 hts gX0_number_X0_checkDate rfl rfl rfl (by decide +kernel) ⟨Nat.le_of_ble_eq_true rfl, Nat.le_of_ble_eq_true rfl⟩) hK hP hD hS hth htb hlk [] rfl rfl rfl rfl hl.1 rfl (lv_room (Nat.le_of_ble_eq_true rfl)) dX0_number_3 ⟨Nat.le_of_ble_eq_true rfl, Nat.le_of_ble_eq_true rfl⟩
set_option maxHeartbeats 4000000 in
set_option maxRecDepth 100000 in
theorem k_X0_yearOf (l : Launch) (D : va_G) (h0 ac ay ap : Nat) (cyI : ClassId) (ts : List (ClassId × FieldType)) (mk : Nat) (ch fy fp : Nat → Nat) (n : Nat) (hy0 : n < 1095750) : pz_R l yX0_yearOf wsX0_yearOf ({ frames := 2, cells := 0, slots := 0, locals := 42 } : Room) D ((cyI, .int) :: ts) [.ref h0, .int (nI n)] [(h0, .inr (0, [.ref ac, .ref ay, .ref ap, .int (nI mk)])), (ac, .inl (cyI, 365, .inl (pz_ar ch))), (ay, .inl (cyI, 60, .inl (pz_ar fy))), (ap, .inl (cyI, 60, .inl (pz_ar fp)))] (fun r => r = nI (pm_yr n)) := by
  refine pz_R_of (cc := cX0_yearOf) (maxL := 2) (ty := .int) (own := RX0) (by decide) rfl rfl (Nat.le_of_ble_eq_true rfl) ?_
  intro p e s m below meth c A ls Q hx hb hml hown hts hK hP hD hS hA hl hQ
  have hl : lv_has ls 2 [(0, .ref h0), (1, .int (nI n))] := hl
  refine lv_iload_n hx hb dX0_yearOf_0 rfl (lv_at hl 1 rfl) ?_
  refine pz_SRV (rest := []) ⟨hx, hb, hml, hown, hts⟩ (k_X0_checkNumber l D ((cyI, .int) :: ts) n (by omega)) (va_cwS 1 hts gX0_yearOf_X0_checkNumber rfl rfl rfl (by decide +kernel) ⟨Nat.le_of_ble_eq_true rfl, Nat.le_of_ble_eq_true rfl⟩) hK hP hD hS hA [] rfl rfl rfl rfl hl.1 rfl (lv_room (Nat.le_of_ble_eq_true rfl)) dX0_yearOf_1 ⟨Nat.le_of_ble_eq_true rfl, Nat.le_of_ble_eq_true rfl⟩ (fun H locs hP hS => ?_)
  refine lv_iload_n hx hb dX0_yearOf_4 rfl (lv_at hl 1 rfl) ?_
  refine pz_SR (rest := []) ⟨hx, hb, hml, hown, hts⟩ (k_X0_yearAt l D ((cyI, .int) :: ts) n (by omega)) (va_cwS 1 hts gX0_yearOf_X0_yearAt rfl rfl rfl (by decide +kernel) ⟨Nat.le_of_ble_eq_true rfl, Nat.le_of_ble_eq_true rfl⟩) hK hP hD hS hA [] rfl rfl rfl rfl hl.1 rfl (lv_room (Nat.le_of_ble_eq_true rfl)) dX0_yearOf_5 ⟨Nat.le_of_ble_eq_true rfl, Nat.le_of_ble_eq_true rfl⟩ (fun r H locs hr hP hS => ?_)
  obtain rfl : r = (nI (pm_yr n)) := hr
  have hf_3 := pm_yr_b (n := n) (by omega)
  exact hQ _ _ _ _ _ dX0_yearOf_8 rfl (congrArg nI (by rfl)) hS
set_option maxHeartbeats 4000000 in
set_option maxRecDepth 100000 in
theorem k_X0_yearOf_x (l : Launch) (hfl : l.stackTraces = false) (D : va_G) (h0 ac ay ap : Nat) (cyI : ClassId) (ts : List (ClassId × FieldType)) (mk : Nat) (ch fy fp : Nat → Nat) (x : Int32) (hy0 : x.toInt < 0 ∨ 1095749 < x.toInt) : pz_X l yX0_yearOf wsX0_yearOf ({ frames := 7, cells := 1, slots := 6, locals := 104 } : Room) D ((cyI, .int) :: ts) [.ref h0, .int x] [(h0, .inr (0, [.ref ac, .ref ay, .ref ap, .int (nI mk)])), (ac, .inl (cyI, 365, .inl (pz_ar ch))), (ay, .inl (cyI, 60, .inl (pz_ar fy))), (ap, .inl (cyI, 60, .inl (pz_ar fp)))] "java/lang/IndexOutOfBoundsException" := by
  refine pz_X_of (cc := cX0_yearOf) (maxL := 2) (ret := (some .int)) (own := RX0) (by decide) rfl rfl (Nat.le_of_ble_eq_true rfl) ?_
  intro p e s m below meth c ls hx hb hml hown hts hK hP hD hS hA hl hth htb hlk
  have hl : lv_has ls 2 [(0, .ref h0), (1, .int x)] := hl
  refine lv_iload_n hx hb dX0_yearOf_0 rfl (lv_at hl 1 rfl) ?_
  exact pz_SX (rest := []) ⟨hx, hb, hml, hown, hts⟩ (k_X0_checkNumber_x l hfl D ((cyI, .int) :: ts) x (by omega)) (va_cwS 1 hts gX0_yearOf_X0_checkNumber rfl rfl rfl (by decide +kernel) ⟨Nat.le_of_ble_eq_true rfl, Nat.le_of_ble_eq_true rfl⟩) hK hP hD hS hth htb hlk [] rfl rfl rfl rfl hl.1 rfl (lv_room (Nat.le_of_ble_eq_true rfl)) dX0_yearOf_1 ⟨Nat.le_of_ble_eq_true rfl, Nat.le_of_ble_eq_true rfl⟩
set_option maxHeartbeats 4000000 in
set_option maxRecDepth 100000 in
theorem k_X0_monthOf (l : Launch) (D : va_G) (h0 ac ay ap : Nat) (cyI : ClassId) (ts : List (ClassId × FieldType)) (mk : Nat) (ch fy fp : Nat → Nat) (n : Nat) (hy0 : n < 1095750) : pz_R l yX0_monthOf wsX0_monthOf ({ frames := 3, cells := 0, slots := 0, locals := 60 } : Room) D ((cyI, .int) :: ts) [.ref h0, .int (nI n)] [(h0, .inr (0, [.ref ac, .ref ay, .ref ap, .int (nI mk)])), (ac, .inl (cyI, 365, .inl (pz_ar ch))), (ay, .inl (cyI, 60, .inl (pz_ar fy))), (ap, .inl (cyI, 60, .inl (pz_ar fp)))] (fun r => r = nI (pm_mo n)) := by
  refine pz_R_of (cc := cX0_monthOf) (maxL := 2) (ty := .int) (own := RX0) (by decide) rfl rfl (Nat.le_of_ble_eq_true rfl) ?_
  intro p e s m below meth c A ls Q hx hb hml hown hts hK hP hD hS hA hl hQ
  have hl : lv_has ls 2 [(0, .ref h0), (1, .int (nI n))] := hl
  refine lv_iload_n hx hb dX0_monthOf_0 rfl (lv_at hl 1 rfl) ?_
  refine pz_SRV (rest := []) ⟨hx, hb, hml, hown, hts⟩ (k_X0_checkNumber l D ((cyI, .int) :: ts) n (by omega)) (va_cwS 1 hts gX0_monthOf_X0_checkNumber rfl rfl rfl (by decide +kernel) ⟨Nat.le_of_ble_eq_true rfl, Nat.le_of_ble_eq_true rfl⟩) hK hP hD hS hA [] rfl rfl rfl rfl hl.1 rfl (lv_room (Nat.le_of_ble_eq_true rfl)) dX0_monthOf_1 ⟨Nat.le_of_ble_eq_true rfl, Nat.le_of_ble_eq_true rfl⟩ (fun H locs hP hS => ?_)
  refine lv_iload_n hx hb dX0_monthOf_4 rfl (lv_at hl 1 rfl) ?_
  refine pz_SR (rest := []) ⟨hx, hb, hml, hown, hts⟩ (k_X0_placeAt l D ((cyI, .int) :: ts) n (by omega)) (va_cwS 1 hts gX0_monthOf_X0_placeAt rfl rfl rfl (by decide +kernel) ⟨Nat.le_of_ble_eq_true rfl, Nat.le_of_ble_eq_true rfl⟩) hK hP hD hS hA [] rfl rfl rfl rfl hl.1 rfl (lv_room (Nat.le_of_ble_eq_true rfl)) dX0_monthOf_5 ⟨Nat.le_of_ble_eq_true rfl, Nat.le_of_ble_eq_true rfl⟩ (fun r H locs hr hP hS => ?_)
  obtain rfl : r = (nI (pm_pl n)) := hr
  have hf_3 := pm_pl_b n
  refine pz_SR (rest := []) ⟨hx, hb, hml, hown, hts⟩ (k_X0_monthOfPlace l D ((cyI, .int) :: ts) (pm_pl n) (by omega)) (va_cwS 1 hts gX0_monthOf_X0_monthOfPlace rfl rfl rfl (by decide +kernel) ⟨Nat.le_of_ble_eq_true rfl, Nat.le_of_ble_eq_true rfl⟩) hK hP hD hS hA [] rfl rfl rfl rfl hl.1 rfl (lv_room (Nat.le_of_ble_eq_true rfl)) dX0_monthOf_8 ⟨Nat.le_of_ble_eq_true rfl, Nat.le_of_ble_eq_true rfl⟩ (fun r H locs hr hP hS => ?_)
  obtain rfl : r = (nI (pm_mp (pm_pl n))) := hr
  have hf_5 := pm_mp_b (pm_pl n)
  exact hQ _ _ _ _ _ dX0_monthOf_11 rfl (congrArg nI (by rfl)) hS
set_option maxHeartbeats 4000000 in
set_option maxRecDepth 100000 in
theorem k_X0_monthOf_x (l : Launch) (hfl : l.stackTraces = false) (D : va_G) (h0 ac ay ap : Nat) (cyI : ClassId) (ts : List (ClassId × FieldType)) (mk : Nat) (ch fy fp : Nat → Nat) (x : Int32) (hy0 : x.toInt < 0 ∨ 1095749 < x.toInt) : pz_X l yX0_monthOf wsX0_monthOf ({ frames := 7, cells := 1, slots := 6, locals := 104 } : Room) D ((cyI, .int) :: ts) [.ref h0, .int x] [(h0, .inr (0, [.ref ac, .ref ay, .ref ap, .int (nI mk)])), (ac, .inl (cyI, 365, .inl (pz_ar ch))), (ay, .inl (cyI, 60, .inl (pz_ar fy))), (ap, .inl (cyI, 60, .inl (pz_ar fp)))] "java/lang/IndexOutOfBoundsException" := by
  refine pz_X_of (cc := cX0_monthOf) (maxL := 2) (ret := (some .int)) (own := RX0) (by decide) rfl rfl (Nat.le_of_ble_eq_true rfl) ?_
  intro p e s m below meth c ls hx hb hml hown hts hK hP hD hS hA hl hth htb hlk
  have hl : lv_has ls 2 [(0, .ref h0), (1, .int x)] := hl
  refine lv_iload_n hx hb dX0_monthOf_0 rfl (lv_at hl 1 rfl) ?_
  exact pz_SX (rest := []) ⟨hx, hb, hml, hown, hts⟩ (k_X0_checkNumber_x l hfl D ((cyI, .int) :: ts) x (by omega)) (va_cwS 1 hts gX0_monthOf_X0_checkNumber rfl rfl rfl (by decide +kernel) ⟨Nat.le_of_ble_eq_true rfl, Nat.le_of_ble_eq_true rfl⟩) hK hP hD hS hth htb hlk [] rfl rfl rfl rfl hl.1 rfl (lv_room (Nat.le_of_ble_eq_true rfl)) dX0_monthOf_1 ⟨Nat.le_of_ble_eq_true rfl, Nat.le_of_ble_eq_true rfl⟩
set_option maxHeartbeats 4000000 in
set_option maxRecDepth 100000 in
theorem k_X0_dayOf (l : Launch) (D : va_G) (h0 ac ay ap : Nat) (cyI : ClassId) (ts : List (ClassId × FieldType)) (mk : Nat) (ch fy fp : Nat → Nat) (n : Nat) (hy0 : n < 1095750) : pz_R l yX0_dayOf wsX0_dayOf ({ frames := 3, cells := 0, slots := 0, locals := 64 } : Room) D ((cyI, .int) :: ts) [.ref h0, .int (nI n)] [(h0, .inr (0, [.ref ac, .ref ay, .ref ap, .int (nI mk)])), (ac, .inl (cyI, 365, .inl (pz_ar ch))), (ay, .inl (cyI, 60, .inl (pz_ar fy))), (ap, .inl (cyI, 60, .inl (pz_ar fp)))] (fun r => r = nI (pm_da n)) := by
  refine pz_R_of (cc := cX0_dayOf) (maxL := 4) (ty := .int) (own := RX0) (by decide) rfl rfl (Nat.le_of_ble_eq_true rfl) ?_
  intro p e s m below meth c A ls Q hx hb hml hown hts hK hP hD hS hA hl hQ
  have hl : lv_has ls 4 [(0, .ref h0), (1, .int (nI n))] := hl
  have hd0 := pm_day n
  unfold pm_mo at hd0
  refine lv_iload_n hx hb dX0_dayOf_0 rfl (lv_at hl 1 rfl) ?_
  refine pz_SRV (rest := []) ⟨hx, hb, hml, hown, hts⟩ (k_X0_checkNumber l D ((cyI, .int) :: ts) n (by omega)) (va_cwS 1 hts gX0_dayOf_X0_checkNumber rfl rfl rfl (by decide +kernel) ⟨Nat.le_of_ble_eq_true rfl, Nat.le_of_ble_eq_true rfl⟩) hK hP hD hS hA [] rfl rfl rfl rfl hl.1 rfl (lv_room (Nat.le_of_ble_eq_true rfl)) dX0_dayOf_1 ⟨Nat.le_of_ble_eq_true rfl, Nat.le_of_ble_eq_true rfl⟩ (fun H locs hP hS => ?_)
  refine lv_iload_n hx hb dX0_dayOf_4 rfl (lv_at hl 1 rfl) ?_
  refine pz_SR (rest := []) ⟨hx, hb, hml, hown, hts⟩ (k_X0_yearAt l D ((cyI, .int) :: ts) n (by omega)) (va_cwS 1 hts gX0_dayOf_X0_yearAt rfl rfl rfl (by decide +kernel) ⟨Nat.le_of_ble_eq_true rfl, Nat.le_of_ble_eq_true rfl⟩) hK hP hD hS hA [] rfl rfl rfl rfl hl.1 rfl (lv_room (Nat.le_of_ble_eq_true rfl)) dX0_dayOf_5 ⟨Nat.le_of_ble_eq_true rfl, Nat.le_of_ble_eq_true rfl⟩ (fun r H locs hr hP hS => ?_)
  obtain rfl : r = (nI (pm_yr n)) := hr
  have hf_3 := pm_yr_b (n := n) (by omega)
  refine lv_istore_n (lv' := [(2, .int (nI (pm_yr n))), (0, .ref h0), (1, .int (nI n))]) hx hb dX0_dayOf_8 rfl hl (by decide) rfl (fun ls hl => ?_)
  refine lv_iload_n hx hb dX0_dayOf_9 rfl (lv_at hl 2 rfl) ?_
  refine pz_SR (rest := []) ⟨hx, hb, hml, hown, hts⟩ (k_X0_placeAt l D ((cyI, .int) :: ts) n (by omega)) (va_cwS 1 hts gX0_dayOf_X0_placeAt rfl rfl rfl (by decide +kernel) ⟨Nat.le_of_ble_eq_true rfl, Nat.le_of_ble_eq_true rfl⟩) hK hP hD hS hA [] rfl rfl rfl rfl hl.1 rfl (lv_room (Nat.le_of_ble_eq_true rfl)) dX0_dayOf_10 ⟨Nat.le_of_ble_eq_true rfl, Nat.le_of_ble_eq_true rfl⟩ (fun r H locs hr hP hS => ?_)
  obtain rfl : r = (nI (pm_pl n)) := hr
  have hf_5 := pm_pl_b n
  refine pz_SR (rest := []) ⟨hx, hb, hml, hown, hts⟩ (k_X0_monthOfPlace l D ((cyI, .int) :: ts) (pm_pl n) (by omega)) (va_cwS 1 hts gX0_dayOf_X0_monthOfPlace rfl rfl rfl (by decide +kernel) ⟨Nat.le_of_ble_eq_true rfl, Nat.le_of_ble_eq_true rfl⟩) hK hP hD hS hA [] rfl rfl rfl rfl hl.1 rfl (lv_room (Nat.le_of_ble_eq_true rfl)) dX0_dayOf_13 ⟨Nat.le_of_ble_eq_true rfl, Nat.le_of_ble_eq_true rfl⟩ (fun r H locs hr hP hS => ?_)
  obtain rfl : r = (nI (pm_mp (pm_pl n))) := hr
  have hf_7 := pm_mp_b (pm_pl n)
  refine lv_istore_n (lv' := [(3, .int (nI (pm_mp (pm_pl n)))), (2, .int (nI (pm_yr n))), (0, .ref h0), (1, .int (nI n))]) hx hb dX0_dayOf_16 rfl hl (by decide) rfl (fun ls hl => ?_)
  refine lv_iload_n hx hb dX0_dayOf_17 rfl (lv_at hl 3 rfl) ?_
  refine lv_iload_n hx hb dX0_dayOf_18 rfl (lv_at hl 1 rfl) ?_
  refine pz_SR (rest := [.int (nI n)]) ⟨hx, hb, hml, hown, hts⟩ (k_X0_firstDayOf l D ((cyI, .int) :: ts) (pm_yr n) (by omega) (by omega)) (va_cwS 1 hts gX0_dayOf_X0_firstDayOf rfl rfl rfl (by decide +kernel) ⟨Nat.le_of_ble_eq_true rfl, Nat.le_of_ble_eq_true rfl⟩) hK hP hD hS hA [] rfl rfl rfl rfl hl.1 rfl (lv_room (Nat.le_of_ble_eq_true rfl)) dX0_dayOf_19 ⟨Nat.le_of_ble_eq_true rfl, Nat.le_of_ble_eq_true rfl⟩ (fun r H locs hr hP hS => ?_)
  obtain rfl : r = (nI (pm_fd (pm_yr n))) := hr
  have hf_9 := pm_fd_e (pm_yr n)
  refine pn_isub hx hb (by omega) dX0_dayOf_22 ?_
  refine lv_iload_n hx hb dX0_dayOf_23 rfl (lv_at hl 1 rfl) ?_
  refine lv_iload_n hx hb dX0_dayOf_24 rfl (lv_at hl 0 rfl) ?_
  refine pz_SR (rest := [.int (nI (n - (pm_fd (pm_yr n))))]) ⟨hx, hb, hml, hown, hts⟩ (k_X0_daysBefore l D ((cyI, .int) :: ts) (pm_yr n) (pm_mp (pm_pl n)) (by omega) (by omega) (by omega)) (va_cwS 2 hts gX0_dayOf_X0_daysBefore rfl rfl rfl (by decide +kernel) ⟨Nat.le_of_ble_eq_true rfl, Nat.le_of_ble_eq_true rfl⟩) hK hP hD hS hA [] rfl rfl rfl rfl hl.1 rfl (lv_room (Nat.le_of_ble_eq_true rfl)) dX0_dayOf_25 ⟨Nat.le_of_ble_eq_true rfl, Nat.le_of_ble_eq_true rfl⟩ (fun r H locs hr hP hS => ?_)
  obtain rfl : r = (nI (pm_db (pm_yr n) (pm_mp (pm_pl n)))) := hr
  have hf_11 := pm_db_b (pm_yr n) (pm_mp (pm_pl n)) (by omega)
  refine pn_isub hx hb (by omega) dX0_dayOf_28 ?_
  refine lv_iconst (v := nI 1) hx hb dX0_dayOf_29 (by decide) ?_
  refine pn_iadd hx hb dX0_dayOf_30 ?_
  exact hQ _ _ _ _ _ dX0_dayOf_31 rfl (congrArg nI (by rfl)) hS
set_option maxHeartbeats 4000000 in
set_option maxRecDepth 100000 in
theorem k_X0_dayOf_x (l : Launch) (hfl : l.stackTraces = false) (D : va_G) (h0 ac ay ap : Nat) (cyI : ClassId) (ts : List (ClassId × FieldType)) (mk : Nat) (ch fy fp : Nat → Nat) (x : Int32) (hy0 : x.toInt < 0 ∨ 1095749 < x.toInt) : pz_X l yX0_dayOf wsX0_dayOf ({ frames := 7, cells := 1, slots := 6, locals := 104 } : Room) D ((cyI, .int) :: ts) [.ref h0, .int x] [(h0, .inr (0, [.ref ac, .ref ay, .ref ap, .int (nI mk)])), (ac, .inl (cyI, 365, .inl (pz_ar ch))), (ay, .inl (cyI, 60, .inl (pz_ar fy))), (ap, .inl (cyI, 60, .inl (pz_ar fp)))] "java/lang/IndexOutOfBoundsException" := by
  refine pz_X_of (cc := cX0_dayOf) (maxL := 4) (ret := (some .int)) (own := RX0) (by decide) rfl rfl (Nat.le_of_ble_eq_true rfl) ?_
  intro p e s m below meth c ls hx hb hml hown hts hK hP hD hS hA hl hth htb hlk
  have hl : lv_has ls 4 [(0, .ref h0), (1, .int x)] := hl
  refine lv_iload_n hx hb dX0_dayOf_0 rfl (lv_at hl 1 rfl) ?_
  exact pz_SX (rest := []) ⟨hx, hb, hml, hown, hts⟩ (k_X0_checkNumber_x l hfl D ((cyI, .int) :: ts) x (by omega)) (va_cwS 1 hts gX0_dayOf_X0_checkNumber rfl rfl rfl (by decide +kernel) ⟨Nat.le_of_ble_eq_true rfl, Nat.le_of_ble_eq_true rfl⟩) hK hP hD hS hth htb hlk [] rfl rfl rfl rfl hl.1 rfl (lv_room (Nat.le_of_ble_eq_true rfl)) dX0_dayOf_1 ⟨Nat.le_of_ble_eq_true rfl, Nat.le_of_ble_eq_true rfl⟩
set_option maxHeartbeats 4000000 in
set_option maxRecDepth 100000 in
theorem k_X0_weekdayOf (l : Launch) (D : va_G) (h0 ac ay ap : Nat) (cyI : ClassId) (ts : List (ClassId × FieldType)) (mk : Nat) (ch fy fp : Nat → Nat) (n : Nat) (hy0 : n < 1095750) : pz_R l yX0_weekdayOf wsX0_weekdayOf ({ frames := 1, cells := 0, slots := 0, locals := 20 } : Room) D ((cyI, .int) :: ts) [.ref h0, .int (nI n)] [(h0, .inr (0, [.ref ac, .ref ay, .ref ap, .int (nI mk)])), (ac, .inl (cyI, 365, .inl (pz_ar ch))), (ay, .inl (cyI, 60, .inl (pz_ar fy))), (ap, .inl (cyI, 60, .inl (pz_ar fp)))] (fun r => r = nI ((n + 6) % 7)) := by
  refine pz_R_of (cc := cX0_weekdayOf) (maxL := 2) (ty := .int) (own := RX0) (by decide) rfl rfl (Nat.le_of_ble_eq_true rfl) ?_
  intro p e s m below meth c A ls Q hx hb hml hown hts hK hP hD hS hA hl hQ
  have hl : lv_has ls 2 [(0, .ref h0), (1, .int (nI n))] := hl
  refine lv_iload_n hx hb dX0_weekdayOf_0 rfl (lv_at hl 1 rfl) ?_
  refine pz_SRV (rest := []) ⟨hx, hb, hml, hown, hts⟩ (k_X0_checkNumber l D ((cyI, .int) :: ts) n (by omega)) (va_cwS 1 hts gX0_weekdayOf_X0_checkNumber rfl rfl rfl (by decide +kernel) ⟨Nat.le_of_ble_eq_true rfl, Nat.le_of_ble_eq_true rfl⟩) hK hP hD hS hA [] rfl rfl rfl rfl hl.1 rfl (lv_room (Nat.le_of_ble_eq_true rfl)) dX0_weekdayOf_1 ⟨Nat.le_of_ble_eq_true rfl, Nat.le_of_ble_eq_true rfl⟩ (fun H locs hP hS => ?_)
  refine lv_iload_n hx hb dX0_weekdayOf_4 rfl (lv_at hl 1 rfl) ?_
  refine lv_bipush (v := nI 7) hx hb dX0_weekdayOf_5 (by decide) ?_
  refine pn_iadd hx hb dX0_weekdayOf_7 ?_
  refine lv_iconst (v := nI 1) hx hb dX0_weekdayOf_8 (by decide) ?_
  refine pn_isub hx hb (by omega) dX0_weekdayOf_9 ?_
  refine lv_bipush (v := nI 7) hx hb dX0_weekdayOf_10 (by decide) ?_
  refine pn_irem hx hb (by omega) (by omega) (by omega) dX0_weekdayOf_12 ?_
  exact hQ _ _ _ _ _ dX0_weekdayOf_13 rfl (congrArg nI (by omega)) hS
set_option maxHeartbeats 4000000 in
set_option maxRecDepth 100000 in
theorem k_X0_weekdayOf_x (l : Launch) (hfl : l.stackTraces = false) (D : va_G) (h0 ac ay ap : Nat) (cyI : ClassId) (ts : List (ClassId × FieldType)) (mk : Nat) (ch fy fp : Nat → Nat) (x : Int32) (hy0 : x.toInt < 0 ∨ 1095749 < x.toInt) : pz_X l yX0_weekdayOf wsX0_weekdayOf ({ frames := 7, cells := 1, slots := 6, locals := 104 } : Room) D ((cyI, .int) :: ts) [.ref h0, .int x] [(h0, .inr (0, [.ref ac, .ref ay, .ref ap, .int (nI mk)])), (ac, .inl (cyI, 365, .inl (pz_ar ch))), (ay, .inl (cyI, 60, .inl (pz_ar fy))), (ap, .inl (cyI, 60, .inl (pz_ar fp)))] "java/lang/IndexOutOfBoundsException" := by
  refine pz_X_of (cc := cX0_weekdayOf) (maxL := 2) (ret := (some .int)) (own := RX0) (by decide) rfl rfl (Nat.le_of_ble_eq_true rfl) ?_
  intro p e s m below meth c ls hx hb hml hown hts hK hP hD hS hA hl hth htb hlk
  have hl : lv_has ls 2 [(0, .ref h0), (1, .int x)] := hl
  refine lv_iload_n hx hb dX0_weekdayOf_0 rfl (lv_at hl 1 rfl) ?_
  exact pz_SX (rest := []) ⟨hx, hb, hml, hown, hts⟩ (k_X0_checkNumber_x l hfl D ((cyI, .int) :: ts) x (by omega)) (va_cwS 1 hts gX0_weekdayOf_X0_checkNumber rfl rfl rfl (by decide +kernel) ⟨Nat.le_of_ble_eq_true rfl, Nat.le_of_ble_eq_true rfl⟩) hK hP hD hS hth htb hlk [] rfl rfl rfl rfl hl.1 rfl (lv_room (Nat.le_of_ble_eq_true rfl)) dX0_weekdayOf_1 ⟨Nat.le_of_ble_eq_true rfl, Nat.le_of_ble_eq_true rfl⟩
set_option maxHeartbeats 4000000 in
set_option maxRecDepth 100000 in
theorem k_X0_anchorOf (l : Launch) (D : va_G) (h0 ac ay ap : Nat) (cyI : ClassId) (ts : List (ClassId × FieldType)) (mk : Nat) (ch fy fp : Nat → Nat) (n : Nat) (hy0 : n < 1095750) : pz_R l yX0_anchorOf wsX0_anchorOf ({ frames := 5, cells := 0, slots := 0, locals := 106 } : Room) D ((cyI, .int) :: ts) [.ref h0, .int (nI n)] [(h0, .inr (0, [.ref ac, .ref ay, .ref ap, .int (nI mk)])), (ac, .inl (cyI, 365, .inl (pz_ar ch))), (ay, .inl (cyI, 60, .inl (pz_ar fy))), (ap, .inl (cyI, 60, .inl (pz_ar fp)))] (fun r => r = nI (pm_ap (pm_pl n))) := by
  refine pz_R_of (cc := cX0_anchorOf) (maxL := 2) (ty := .int) (own := RX0) (by decide) rfl rfl (Nat.le_of_ble_eq_true rfl) ?_
  intro p e s m below meth c A ls Q hx hb hml hown hts hK hP hD hS hA hl hQ
  have hl : lv_has ls 2 [(0, .ref h0), (1, .int (nI n))] := hl
  refine lv_iload_n hx hb dX0_anchorOf_0 rfl (lv_at hl 1 rfl) ?_
  refine pz_SRV (rest := []) ⟨hx, hb, hml, hown, hts⟩ (k_X0_checkNumber l D ((cyI, .int) :: ts) n (by omega)) (va_cwS 1 hts gX0_anchorOf_X0_checkNumber rfl rfl rfl (by decide +kernel) ⟨Nat.le_of_ble_eq_true rfl, Nat.le_of_ble_eq_true rfl⟩) hK hP hD hS hA [] rfl rfl rfl rfl hl.1 rfl (lv_room (Nat.le_of_ble_eq_true rfl)) dX0_anchorOf_1 ⟨Nat.le_of_ble_eq_true rfl, Nat.le_of_ble_eq_true rfl⟩ (fun H locs hP hS => ?_)
  refine lv_iload_n hx hb dX0_anchorOf_4 rfl (lv_at hl 1 rfl) ?_
  refine pz_SR (rest := []) ⟨hx, hb, hml, hown, hts⟩ (k_X0_placeAt l D ((cyI, .int) :: ts) n (by omega)) (va_cwS 1 hts gX0_anchorOf_X0_placeAt rfl rfl rfl (by decide +kernel) ⟨Nat.le_of_ble_eq_true rfl, Nat.le_of_ble_eq_true rfl⟩) hK hP hD hS hA [] rfl rfl rfl rfl hl.1 rfl (lv_room (Nat.le_of_ble_eq_true rfl)) dX0_anchorOf_5 ⟨Nat.le_of_ble_eq_true rfl, Nat.le_of_ble_eq_true rfl⟩ (fun r H locs hr hP hS => ?_)
  obtain rfl : r = (nI (pm_pl n)) := hr
  have hf_3 := pm_pl_b n
  refine pz_SR (rest := []) ⟨hx, hb, hml, hown, hts⟩ (k_X0_anchorOfPlace l D ((cyI, .int) :: ts) (pm_pl n) (by omega)) (va_cwS 1 hts gX0_anchorOf_X0_anchorOfPlace rfl rfl rfl (by decide +kernel) ⟨Nat.le_of_ble_eq_true rfl, Nat.le_of_ble_eq_true rfl⟩) hK hP hD hS hA [] rfl rfl rfl rfl hl.1 rfl (lv_room (Nat.le_of_ble_eq_true rfl)) dX0_anchorOf_8 ⟨Nat.le_of_ble_eq_true rfl, Nat.le_of_ble_eq_true rfl⟩ (fun r H locs hr hP hS => ?_)
  obtain rfl : r = (nI (pm_ap (pm_pl n))) := hr
  have hf_5 := pm_ap_b (pm_pl n)
  exact hQ _ _ _ _ _ dX0_anchorOf_11 rfl (congrArg nI (by rfl)) hS
set_option maxHeartbeats 4000000 in
set_option maxRecDepth 100000 in
theorem k_X0_anchorOf_x (l : Launch) (hfl : l.stackTraces = false) (D : va_G) (h0 ac ay ap : Nat) (cyI : ClassId) (ts : List (ClassId × FieldType)) (mk : Nat) (ch fy fp : Nat → Nat) (x : Int32) (hy0 : x.toInt < 0 ∨ 1095749 < x.toInt) : pz_X l yX0_anchorOf wsX0_anchorOf ({ frames := 7, cells := 1, slots := 6, locals := 106 } : Room) D ((cyI, .int) :: ts) [.ref h0, .int x] [(h0, .inr (0, [.ref ac, .ref ay, .ref ap, .int (nI mk)])), (ac, .inl (cyI, 365, .inl (pz_ar ch))), (ay, .inl (cyI, 60, .inl (pz_ar fy))), (ap, .inl (cyI, 60, .inl (pz_ar fp)))] "java/lang/IndexOutOfBoundsException" := by
  refine pz_X_of (cc := cX0_anchorOf) (maxL := 2) (ret := (some .int)) (own := RX0) (by decide) rfl rfl (Nat.le_of_ble_eq_true rfl) ?_
  intro p e s m below meth c ls hx hb hml hown hts hK hP hD hS hA hl hth htb hlk
  have hl : lv_has ls 2 [(0, .ref h0), (1, .int x)] := hl
  refine lv_iload_n hx hb dX0_anchorOf_0 rfl (lv_at hl 1 rfl) ?_
  exact pz_SX (rest := []) ⟨hx, hb, hml, hown, hts⟩ (k_X0_checkNumber_x l hfl D ((cyI, .int) :: ts) x (by omega)) (va_cwS 1 hts gX0_anchorOf_X0_checkNumber rfl rfl rfl (by decide +kernel) ⟨Nat.le_of_ble_eq_true rfl, Nat.le_of_ble_eq_true rfl⟩) hK hP hD hS hth htb hlk [] rfl rfl rfl rfl hl.1 rfl (lv_room (Nat.le_of_ble_eq_true rfl)) dX0_anchorOf_1 ⟨Nat.le_of_ble_eq_true rfl, Nat.le_of_ble_eq_true rfl⟩
set_option maxHeartbeats 4000000 in
set_option maxRecDepth 100000 in
theorem k_X0_anchorMonthOf (l : Launch) (D : va_G) (h0 ac ay ap : Nat) (cyI : ClassId) (ts : List (ClassId × FieldType)) (mk : Nat) (ch fy fp : Nat → Nat) (n : Nat) (hy0 : n < 1095750) : pz_R l yX0_anchorMonthOf wsX0_anchorMonthOf ({ frames := 4, cells := 0, slots := 0, locals := 85 } : Room) D ((cyI, .int) :: ts) [.ref h0, .int (nI n)] [(h0, .inr (0, [.ref ac, .ref ay, .ref ap, .int (nI mk)])), (ac, .inl (cyI, 365, .inl (pz_ar ch))), (ay, .inl (cyI, 60, .inl (pz_ar fy))), (ap, .inl (cyI, 60, .inl (pz_ar fp)))] (fun r => r = nI (pm_am (pm_pl n))) := by
  refine pz_R_of (cc := cX0_anchorMonthOf) (maxL := 4) (ty := .int) (own := RX0) (by decide) rfl rfl (Nat.le_of_ble_eq_true rfl) ?_
  intro p e s m below meth c A ls Q hx hb hml hown hts hK hP hD hS hA hl hQ
  have hl : lv_has ls 4 [(0, .ref h0), (1, .int (nI n))] := hl
  refine lv_iload_n hx hb dX0_anchorMonthOf_0 rfl (lv_at hl 1 rfl) ?_
  refine pz_SRV (rest := []) ⟨hx, hb, hml, hown, hts⟩ (k_X0_checkNumber l D ((cyI, .int) :: ts) n (by omega)) (va_cwS 1 hts gX0_anchorMonthOf_X0_checkNumber rfl rfl rfl (by decide +kernel) ⟨Nat.le_of_ble_eq_true rfl, Nat.le_of_ble_eq_true rfl⟩) hK hP hD hS hA [] rfl rfl rfl rfl hl.1 rfl (lv_room (Nat.le_of_ble_eq_true rfl)) dX0_anchorMonthOf_1 ⟨Nat.le_of_ble_eq_true rfl, Nat.le_of_ble_eq_true rfl⟩ (fun H locs hP hS => ?_)
  refine lv_iload_n hx hb dX0_anchorMonthOf_4 rfl (lv_at hl 1 rfl) ?_
  refine pz_SR (rest := []) ⟨hx, hb, hml, hown, hts⟩ (k_X0_placeAt l D ((cyI, .int) :: ts) n (by omega)) (va_cwS 1 hts gX0_anchorMonthOf_X0_placeAt rfl rfl rfl (by decide +kernel) ⟨Nat.le_of_ble_eq_true rfl, Nat.le_of_ble_eq_true rfl⟩) hK hP hD hS hA [] rfl rfl rfl rfl hl.1 rfl (lv_room (Nat.le_of_ble_eq_true rfl)) dX0_anchorMonthOf_5 ⟨Nat.le_of_ble_eq_true rfl, Nat.le_of_ble_eq_true rfl⟩ (fun r H locs hr hP hS => ?_)
  obtain rfl : r = (nI (pm_pl n)) := hr
  have hf_3 := pm_pl_b n
  refine lv_istore_n (lv' := [(2, .int (nI (pm_pl n))), (0, .ref h0), (1, .int (nI n))]) hx hb dX0_anchorMonthOf_8 rfl hl (by decide) rfl (fun ls hl => ?_)
  refine lv_iload_n hx hb dX0_anchorMonthOf_9 rfl (lv_at hl 0 rfl) ?_
  refine pz_SR (rest := []) ⟨hx, hb, hml, hown, hts⟩ (k_X0_monthOfPlace l D ((cyI, .int) :: ts) (pm_pl n) (by omega)) (va_cwS 1 hts gX0_anchorMonthOf_X0_monthOfPlace rfl rfl rfl (by decide +kernel) ⟨Nat.le_of_ble_eq_true rfl, Nat.le_of_ble_eq_true rfl⟩) hK hP hD hS hA [] rfl rfl rfl rfl hl.1 rfl (lv_room (Nat.le_of_ble_eq_true rfl)) dX0_anchorMonthOf_10 ⟨Nat.le_of_ble_eq_true rfl, Nat.le_of_ble_eq_true rfl⟩ (fun r H locs hr hP hS => ?_)
  obtain rfl : r = (nI (pm_mp (pm_pl n))) := hr
  have hf_5 := pm_mp_b (pm_pl n)
  refine lv_istore_n (lv' := [(3, .int (nI (pm_mp (pm_pl n)))), (2, .int (nI (pm_pl n))), (0, .ref h0), (1, .int (nI n))]) hx hb dX0_anchorMonthOf_13 rfl hl (by decide) rfl (fun ls hl => ?_)
  refine lv_iload_n hx hb dX0_anchorMonthOf_14 rfl (lv_at hl 1 rfl) ?_
  refine pz_SR (rest := []) ⟨hx, hb, hml, hown, hts⟩ (k_X0_isBehindIdes l D ((cyI, .int) :: ts) (pm_pl n) (by omega)) (va_cwS 1 hts gX0_anchorMonthOf_X0_isBehindIdes rfl rfl rfl (by decide +kernel) ⟨Nat.le_of_ble_eq_true rfl, Nat.le_of_ble_eq_true rfl⟩) hK hP hD hS hA [] rfl rfl rfl rfl hl.1 rfl (lv_room (Nat.le_of_ble_eq_true rfl)) dX0_anchorMonthOf_15 ⟨Nat.le_of_ble_eq_true rfl, Nat.le_of_ble_eq_true rfl⟩ (fun r H locs hr hP hS => ?_)
  obtain rfl : r = (pz_b (pm_an (pm_mp (pm_pl n)) 2 < (pm_pl n))) := hr
  refine pb_if_eq (tgt := 30) hx hb dX0_anchorMonthOf_18 (by decide) (fun c_7 => ?_) (fun c_7 => ?_)
  · -- 18 yes
    refine lv_iload_n hx hb dX0_anchorMonthOf_30 rfl (lv_at hl 0 rfl) ?_
    exact hQ _ _ _ _ _ dX0_anchorMonthOf_31 rfl (congrArg nI (by unfold pm_am; split <;> first | rfl | contradiction)) hS
  · -- 18 no
    refine lv_iload_n hx hb dX0_anchorMonthOf_21 rfl (lv_at hl 0 rfl) ?_
    refine lv_bipush (v := nI 12) hx hb dX0_anchorMonthOf_22 (by decide) ?_
    refine pn_irem hx hb (by omega) (by omega) (by omega) dX0_anchorMonthOf_24 ?_
    refine lv_iconst (v := nI 1) hx hb dX0_anchorMonthOf_25 (by decide) ?_
    refine pn_iadd hx hb dX0_anchorMonthOf_26 ?_
    refine lv_goto (tgt := 31) hx hb dX0_anchorMonthOf_27 (by decide) ?_
    exact hQ _ _ _ _ _ dX0_anchorMonthOf_31 rfl (congrArg nI (by unfold pm_am; split <;> first | rfl | contradiction)) hS
set_option maxHeartbeats 4000000 in
set_option maxRecDepth 100000 in
theorem k_X0_anchorMonthOf_x (l : Launch) (hfl : l.stackTraces = false) (D : va_G) (h0 ac ay ap : Nat) (cyI : ClassId) (ts : List (ClassId × FieldType)) (mk : Nat) (ch fy fp : Nat → Nat) (x : Int32) (hy0 : x.toInt < 0 ∨ 1095749 < x.toInt) : pz_X l yX0_anchorMonthOf wsX0_anchorMonthOf ({ frames := 7, cells := 1, slots := 6, locals := 104 } : Room) D ((cyI, .int) :: ts) [.ref h0, .int x] [(h0, .inr (0, [.ref ac, .ref ay, .ref ap, .int (nI mk)])), (ac, .inl (cyI, 365, .inl (pz_ar ch))), (ay, .inl (cyI, 60, .inl (pz_ar fy))), (ap, .inl (cyI, 60, .inl (pz_ar fp)))] "java/lang/IndexOutOfBoundsException" := by
  refine pz_X_of (cc := cX0_anchorMonthOf) (maxL := 4) (ret := (some .int)) (own := RX0) (by decide) rfl rfl (Nat.le_of_ble_eq_true rfl) ?_
  intro p e s m below meth c ls hx hb hml hown hts hK hP hD hS hA hl hth htb hlk
  have hl : lv_has ls 4 [(0, .ref h0), (1, .int x)] := hl
  refine lv_iload_n hx hb dX0_anchorMonthOf_0 rfl (lv_at hl 1 rfl) ?_
  exact pz_SX (rest := []) ⟨hx, hb, hml, hown, hts⟩ (k_X0_checkNumber_x l hfl D ((cyI, .int) :: ts) x (by omega)) (va_cwS 1 hts gX0_anchorMonthOf_X0_checkNumber rfl rfl rfl (by decide +kernel) ⟨Nat.le_of_ble_eq_true rfl, Nat.le_of_ble_eq_true rfl⟩) hK hP hD hS hth htb hlk [] rfl rfl rfl rfl hl.1 rfl (lv_room (Nat.le_of_ble_eq_true rfl)) dX0_anchorMonthOf_1 ⟨Nat.le_of_ble_eq_true rfl, Nat.le_of_ble_eq_true rfl⟩
set_option maxHeartbeats 4000000 in
set_option maxRecDepth 100000 in
theorem k_X0_countOf (l : Launch) (D : va_G) (h0 ac ay ap : Nat) (cyI : ClassId) (ts : List (ClassId × FieldType)) (mk : Nat) (ch fy fp : Nat → Nat) (n : Nat) (hy0 : n < 1095750) : pz_R l yX0_countOf wsX0_countOf ({ frames := 5, cells := 0, slots := 0, locals := 106 } : Room) D ((cyI, .int) :: ts) [.ref h0, .int (nI n)] [(h0, .inr (0, [.ref ac, .ref ay, .ref ap, .int (nI mk)])), (ac, .inl (cyI, 365, .inl (pz_ar ch))), (ay, .inl (cyI, 60, .inl (pz_ar fy))), (ap, .inl (cyI, 60, .inl (pz_ar fp)))] (fun r => r = nI (pm_ct (pm_pl n))) := by
  refine pz_R_of (cc := cX0_countOf) (maxL := 5) (ty := .int) (own := RX0) (by decide) rfl rfl (Nat.le_of_ble_eq_true rfl) ?_
  intro p e s m below meth c A ls Q hx hb hml hown hts hK hP hD hS hA hl hQ
  have hl : lv_has ls 5 [(0, .ref h0), (1, .int (nI n))] := hl
  have hp0 := pm_pl_b n
  have hc0 := pm_cp_b (pm_pl n) (by omega) (by omega)
  unfold pm_cp at hc0
  refine lv_iload_n hx hb dX0_countOf_0 rfl (lv_at hl 1 rfl) ?_
  refine pz_SRV (rest := []) ⟨hx, hb, hml, hown, hts⟩ (k_X0_checkNumber l D ((cyI, .int) :: ts) n (by omega)) (va_cwS 1 hts gX0_countOf_X0_checkNumber rfl rfl rfl (by decide +kernel) ⟨Nat.le_of_ble_eq_true rfl, Nat.le_of_ble_eq_true rfl⟩) hK hP hD hS hA [] rfl rfl rfl rfl hl.1 rfl (lv_room (Nat.le_of_ble_eq_true rfl)) dX0_countOf_1 ⟨Nat.le_of_ble_eq_true rfl, Nat.le_of_ble_eq_true rfl⟩ (fun H locs hP hS => ?_)
  refine lv_iload_n hx hb dX0_countOf_4 rfl (lv_at hl 1 rfl) ?_
  refine pz_SR (rest := []) ⟨hx, hb, hml, hown, hts⟩ (k_X0_placeAt l D ((cyI, .int) :: ts) n (by omega)) (va_cwS 1 hts gX0_countOf_X0_placeAt rfl rfl rfl (by decide +kernel) ⟨Nat.le_of_ble_eq_true rfl, Nat.le_of_ble_eq_true rfl⟩) hK hP hD hS hA [] rfl rfl rfl rfl hl.1 rfl (lv_room (Nat.le_of_ble_eq_true rfl)) dX0_countOf_5 ⟨Nat.le_of_ble_eq_true rfl, Nat.le_of_ble_eq_true rfl⟩ (fun r H locs hr hP hS => ?_)
  obtain rfl : r = (nI (pm_pl n)) := hr
  have hf_3 := pm_pl_b n
  refine lv_istore_n (lv' := [(2, .int (nI (pm_pl n))), (0, .ref h0), (1, .int (nI n))]) hx hb dX0_countOf_8 rfl hl (by decide) rfl (fun ls hl => ?_)
  refine lv_iload_n hx hb dX0_countOf_9 rfl (lv_at hl 0 rfl) ?_
  refine pz_SR (rest := []) ⟨hx, hb, hml, hown, hts⟩ (k_X0_monthOfPlace l D ((cyI, .int) :: ts) (pm_pl n) (by omega)) (va_cwS 1 hts gX0_countOf_X0_monthOfPlace rfl rfl rfl (by decide +kernel) ⟨Nat.le_of_ble_eq_true rfl, Nat.le_of_ble_eq_true rfl⟩) hK hP hD hS hA [] rfl rfl rfl rfl hl.1 rfl (lv_room (Nat.le_of_ble_eq_true rfl)) dX0_countOf_10 ⟨Nat.le_of_ble_eq_true rfl, Nat.le_of_ble_eq_true rfl⟩ (fun r H locs hr hP hS => ?_)
  obtain rfl : r = (nI (pm_mp (pm_pl n))) := hr
  have hf_5 := pm_mp_b (pm_pl n)
  refine lv_istore_n (lv' := [(3, .int (nI (pm_mp (pm_pl n)))), (2, .int (nI (pm_pl n))), (0, .ref h0), (1, .int (nI n))]) hx hb dX0_countOf_13 rfl hl (by decide) rfl (fun ls hl => ?_)
  refine lv_iload_n hx hb dX0_countOf_14 rfl (lv_at hl 1 rfl) ?_
  refine pz_SR (rest := []) ⟨hx, hb, hml, hown, hts⟩ (k_X0_isBehindIdes l D ((cyI, .int) :: ts) (pm_pl n) (by omega)) (va_cwS 1 hts gX0_countOf_X0_isBehindIdes rfl rfl rfl (by decide +kernel) ⟨Nat.le_of_ble_eq_true rfl, Nat.le_of_ble_eq_true rfl⟩) hK hP hD hS hA [] rfl rfl rfl rfl hl.1 rfl (lv_room (Nat.le_of_ble_eq_true rfl)) dX0_countOf_15 ⟨Nat.le_of_ble_eq_true rfl, Nat.le_of_ble_eq_true rfl⟩ (fun r H locs hr hP hS => ?_)
  obtain rfl : r = (pz_b (pm_an (pm_mp (pm_pl n)) 2 < (pm_pl n))) := hr
  refine pb_if_eq (tgt := 31) hx hb dX0_countOf_18 (by decide) (fun c_7 => ?_) (fun c_7 => ?_)
  · -- 18 yes
    refine lv_iload_n hx hb dX0_countOf_31 rfl (lv_at hl 0 rfl) ?_
    refine lv_iload_n hx hb dX0_countOf_32 rfl (lv_at hl 1 rfl) ?_
    refine pz_SR (rest := [.int (nI (pm_mp (pm_pl n)))]) ⟨hx, hb, hml, hown, hts⟩ (k_X0_anchorOfPlace l D ((cyI, .int) :: ts) (pm_pl n) (by omega)) (va_cwS 1 hts gX0_countOf_X0_anchorOfPlace rfl rfl rfl (by decide +kernel) ⟨Nat.le_of_ble_eq_true rfl, Nat.le_of_ble_eq_true rfl⟩) hK hP hD hS hA [] rfl rfl rfl rfl hl.1 rfl (lv_room (Nat.le_of_ble_eq_true rfl)) dX0_countOf_33 ⟨Nat.le_of_ble_eq_true rfl, Nat.le_of_ble_eq_true rfl⟩ (fun r H locs hr hP hS => ?_)
    obtain rfl : r = (nI (pm_ap (pm_pl n))) := hr
    have hf_9 := pm_ap_b (pm_pl n)
    refine pz_SR (rest := []) ⟨hx, hb, hml, hown, hts⟩ (k_X0_placeOfAnchor l D ((cyI, .int) :: ts) (pm_mp (pm_pl n)) (pm_ap (pm_pl n)) (by omega) (by omega) (by omega)) (va_cwS 2 hts gX0_countOf_X0_placeOfAnchor rfl rfl rfl (by decide +kernel) ⟨Nat.le_of_ble_eq_true rfl, Nat.le_of_ble_eq_true rfl⟩) hK hP hD hS hA [] rfl rfl rfl rfl hl.1 rfl (lv_room (Nat.le_of_ble_eq_true rfl)) dX0_countOf_36 ⟨Nat.le_of_ble_eq_true rfl, Nat.le_of_ble_eq_true rfl⟩ (fun r H locs hr hP hS => ?_)
    obtain rfl : r = (nI (pm_an (pm_mp (pm_pl n)) (pm_ap (pm_pl n)))) := hr
    have hf_11 := pm_an_b (pm_mp (pm_pl n)) (pm_ap (pm_pl n)) (by omega)
    have hf_12 := pm_cb_b (pm_mp (pm_pl n)) (by omega)
    refine lv_istore (lv' := [(4, .int (nI (pm_an (pm_mp (pm_pl n)) (pm_ap (pm_pl n))))), (3, .int (nI (pm_mp (pm_pl n)))), (2, .int (nI (pm_pl n))), (0, .ref h0), (1, .int (nI n))]) hx hb dX0_countOf_39 hl (by decide) rfl (fun ls hl => ?_)
    refine lv_iload hx hb dX0_countOf_41 (lv_at hl 0 rfl) ?_
    refine lv_iload_n hx hb dX0_countOf_43 rfl (lv_at hl 2 rfl) ?_
    refine pn_isub hx hb (by split at hc0 <;> first | assumption | contradiction) dX0_countOf_44 ?_
    refine lv_iconst (v := nI 1) hx hb dX0_countOf_45 (by decide) ?_
    refine pn_iadd hx hb dX0_countOf_46 ?_
    exact hQ _ _ _ _ _ dX0_countOf_47 rfl (congrArg nI (by unfold pm_ct pm_cp; split <;> first | rfl | contradiction)) hS
  · -- 18 no
    refine lv_iload_n hx hb dX0_countOf_21 rfl (lv_at hl 0 rfl) ?_
    refine lv_iconst (v := nI 1) hx hb dX0_countOf_22 (by decide) ?_
    refine pn_iadd hx hb dX0_countOf_23 ?_
    refine lv_iconst (v := nI 0) hx hb dX0_countOf_24 (by decide) ?_
    refine pz_SR (rest := []) ⟨hx, hb, hml, hown, hts⟩ (k_X0_placeOfAnchor l D ((cyI, .int) :: ts) ((pm_mp (pm_pl n)) + 1) 0 (by omega) (by omega) (by omega)) (va_cwS 2 hts gX0_countOf_X0_placeOfAnchor rfl rfl rfl (by decide +kernel) ⟨Nat.le_of_ble_eq_true rfl, Nat.le_of_ble_eq_true rfl⟩) hK hP hD hS hA [] rfl rfl rfl rfl hl.1 rfl (lv_room (Nat.le_of_ble_eq_true rfl)) dX0_countOf_25 ⟨Nat.le_of_ble_eq_true rfl, Nat.le_of_ble_eq_true rfl⟩ (fun r H locs hr hP hS => ?_)
    obtain rfl : r = (nI (pm_an ((pm_mp (pm_pl n)) + 1) 0)) := hr
    have hf_14 := pm_an_b ((pm_mp (pm_pl n)) + 1) 0 (by omega)
    have hf_15 := pm_cb_b ((pm_mp (pm_pl n)) + 1) (by omega)
    refine lv_goto (tgt := 39) hx hb dX0_countOf_28 (by decide) ?_
    refine lv_istore (lv' := [(4, .int (nI (pm_an ((pm_mp (pm_pl n)) + 1) 0))), (3, .int (nI (pm_mp (pm_pl n)))), (2, .int (nI (pm_pl n))), (0, .ref h0), (1, .int (nI n))]) hx hb dX0_countOf_39 hl (by decide) rfl (fun ls hl => ?_)
    refine lv_iload hx hb dX0_countOf_41 (lv_at hl 0 rfl) ?_
    refine lv_iload_n hx hb dX0_countOf_43 rfl (lv_at hl 2 rfl) ?_
    refine pn_isub hx hb (by split at hc0 <;> first | assumption | contradiction) dX0_countOf_44 ?_
    refine lv_iconst (v := nI 1) hx hb dX0_countOf_45 (by decide) ?_
    refine pn_iadd hx hb dX0_countOf_46 ?_
    exact hQ _ _ _ _ _ dX0_countOf_47 rfl (congrArg nI (by unfold pm_ct pm_cp; split <;> first | rfl | contradiction)) hS
set_option maxHeartbeats 4000000 in
set_option maxRecDepth 100000 in
theorem k_X0_countOf_x (l : Launch) (hfl : l.stackTraces = false) (D : va_G) (h0 ac ay ap : Nat) (cyI : ClassId) (ts : List (ClassId × FieldType)) (mk : Nat) (ch fy fp : Nat → Nat) (x : Int32) (hy0 : x.toInt < 0 ∨ 1095749 < x.toInt) : pz_X l yX0_countOf wsX0_countOf ({ frames := 7, cells := 1, slots := 6, locals := 106 } : Room) D ((cyI, .int) :: ts) [.ref h0, .int x] [(h0, .inr (0, [.ref ac, .ref ay, .ref ap, .int (nI mk)])), (ac, .inl (cyI, 365, .inl (pz_ar ch))), (ay, .inl (cyI, 60, .inl (pz_ar fy))), (ap, .inl (cyI, 60, .inl (pz_ar fp)))] "java/lang/IndexOutOfBoundsException" := by
  refine pz_X_of (cc := cX0_countOf) (maxL := 5) (ret := (some .int)) (own := RX0) (by decide) rfl rfl (Nat.le_of_ble_eq_true rfl) ?_
  intro p e s m below meth c ls hx hb hml hown hts hK hP hD hS hA hl hth htb hlk
  have hl : lv_has ls 5 [(0, .ref h0), (1, .int x)] := hl
  refine lv_iload_n hx hb dX0_countOf_0 rfl (lv_at hl 1 rfl) ?_
  exact pz_SX (rest := []) ⟨hx, hb, hml, hown, hts⟩ (k_X0_checkNumber_x l hfl D ((cyI, .int) :: ts) x (by omega)) (va_cwS 1 hts gX0_countOf_X0_checkNumber rfl rfl rfl (by decide +kernel) ⟨Nat.le_of_ble_eq_true rfl, Nat.le_of_ble_eq_true rfl⟩) hK hP hD hS hth htb hlk [] rfl rfl rfl rfl hl.1 rfl (lv_room (Nat.le_of_ble_eq_true rfl)) dX0_countOf_1 ⟨Nat.le_of_ble_eq_true rfl, Nat.le_of_ble_eq_true rfl⟩
set_option maxHeartbeats 4000000 in
set_option maxRecDepth 100000 in
theorem k_X0_isDoubled (l : Launch) (D : va_G) (h0 ac ay ap : Nat) (cyI : ClassId) (ts : List (ClassId × FieldType)) (mk : Nat) (ch fy fp : Nat → Nat) (n : Nat) (hy0 : n < 1095750) : pz_R l yX0_isDoubled wsX0_isDoubled ({ frames := 1, cells := 0, slots := 0, locals := 20 } : Room) D ((cyI, .int) :: ts) [.ref h0, .int (nI n)] [(h0, .inr (0, [.ref ac, .ref ay, .ref ap, .int (nI mk)])), (ac, .inl (cyI, 365, .inl (pz_ar ch))), (ay, .inl (cyI, 60, .inl (pz_ar fy))), (ap, .inl (cyI, 60, .inl (pz_ar fp)))] (fun r => r = pz_b (n % 1461 = 1149)) := by
  refine pz_R_of (cc := cX0_isDoubled) (maxL := 2) (ty := .boolean) (own := RX0) (by decide) rfl rfl (Nat.le_of_ble_eq_true rfl) ?_
  intro p e s m below meth c A ls Q hx hb hml hown hts hK hP hD hS hA hl hQ
  have hl : lv_has ls 2 [(0, .ref h0), (1, .int (nI n))] := hl
  refine lv_iload_n hx hb dX0_isDoubled_0 rfl (lv_at hl 1 rfl) ?_
  refine pz_SRV (rest := []) ⟨hx, hb, hml, hown, hts⟩ (k_X0_checkNumber l D ((cyI, .int) :: ts) n (by omega)) (va_cwS 1 hts gX0_isDoubled_X0_checkNumber rfl rfl rfl (by decide +kernel) ⟨Nat.le_of_ble_eq_true rfl, Nat.le_of_ble_eq_true rfl⟩) hK hP hD hS hA [] rfl rfl rfl rfl hl.1 rfl (lv_room (Nat.le_of_ble_eq_true rfl)) dX0_isDoubled_1 ⟨Nat.le_of_ble_eq_true rfl, Nat.le_of_ble_eq_true rfl⟩ (fun H locs hP hS => ?_)
  refine lv_iload_n hx hb dX0_isDoubled_4 rfl (lv_at hl 1 rfl) ?_
  refine lv_sipush (v := nI 1461) hx hb dX0_isDoubled_5 (by decide) ?_
  refine pn_irem hx hb (by omega) (by omega) (by omega) dX0_isDoubled_8 ?_
  refine lv_sipush (v := nI 1149) hx hb dX0_isDoubled_9 (by decide) ?_
  refine pn_icmp_ne (tgt := 19) hx hb (by omega) (by omega) dX0_isDoubled_12 (by decide) (fun c_2 => ?_) (fun c_2 => ?_)
  · -- 12 yes
    refine lv_iconst (v := nI 0) hx hb dX0_isDoubled_19 (by decide) ?_
    exact hQ _ _ _ _ _ dX0_isDoubled_20 (by decide) (pz_bf (by omega)) hS
  · -- 12 no
    refine lv_iconst (v := nI 1) hx hb dX0_isDoubled_15 (by decide) ?_
    refine lv_goto (tgt := 20) hx hb dX0_isDoubled_16 (by decide) ?_
    exact hQ _ _ _ _ _ dX0_isDoubled_20 (by decide) (pz_bt (by omega)) hS
set_option maxHeartbeats 4000000 in
set_option maxRecDepth 100000 in
theorem k_X0_isDoubled_x (l : Launch) (hfl : l.stackTraces = false) (D : va_G) (h0 ac ay ap : Nat) (cyI : ClassId) (ts : List (ClassId × FieldType)) (mk : Nat) (ch fy fp : Nat → Nat) (x : Int32) (hy0 : x.toInt < 0 ∨ 1095749 < x.toInt) : pz_X l yX0_isDoubled wsX0_isDoubled ({ frames := 7, cells := 1, slots := 6, locals := 104 } : Room) D ((cyI, .int) :: ts) [.ref h0, .int x] [(h0, .inr (0, [.ref ac, .ref ay, .ref ap, .int (nI mk)])), (ac, .inl (cyI, 365, .inl (pz_ar ch))), (ay, .inl (cyI, 60, .inl (pz_ar fy))), (ap, .inl (cyI, 60, .inl (pz_ar fp)))] "java/lang/IndexOutOfBoundsException" := by
  refine pz_X_of (cc := cX0_isDoubled) (maxL := 2) (ret := (some .boolean)) (own := RX0) (by decide) rfl rfl (Nat.le_of_ble_eq_true rfl) ?_
  intro p e s m below meth c ls hx hb hml hown hts hK hP hD hS hA hl hth htb hlk
  have hl : lv_has ls 2 [(0, .ref h0), (1, .int x)] := hl
  refine lv_iload_n hx hb dX0_isDoubled_0 rfl (lv_at hl 1 rfl) ?_
  exact pz_SX (rest := []) ⟨hx, hb, hml, hown, hts⟩ (k_X0_checkNumber_x l hfl D ((cyI, .int) :: ts) x (by omega)) (va_cwS 1 hts gX0_isDoubled_X0_checkNumber rfl rfl rfl (by decide +kernel) ⟨Nat.le_of_ble_eq_true rfl, Nat.le_of_ble_eq_true rfl⟩) hK hP hD hS hth htb hlk [] rfl rfl rfl rfl hl.1 rfl (lv_room (Nat.le_of_ble_eq_true rfl)) dX0_isDoubled_1 ⟨Nat.le_of_ble_eq_true rfl, Nat.le_of_ble_eq_true rfl⟩
set_option maxHeartbeats 4000000 in
set_option maxRecDepth 100000 in
theorem k_X0_greatestCount (l : Launch) (D : va_G) (h0 ac ay ap : Nat) (cyI : ClassId) (ts : List (ClassId × FieldType)) (mk : Nat) (ch fy fp : Nat → Nat) (y mm a : Nat) (hy0 : 1 ≤ y) (hy1 : y ≤ 3000) (hy2 : 1 ≤ mm) (hy3 : mm ≤ 12) (hy4 : a ≤ 2) : pz_R l yX0_greatestCount wsX0_greatestCount ({ frames := 2, cells := 0, slots := 0, locals := 43 } : Room) D ((cyI, .int) :: ts) [.ref h0, .int (nI y), .int (nI mm), .int (nI a)] [(h0, .inr (0, [.ref ac, .ref ay, .ref ap, .int (nI mk)])), (ac, .inl (cyI, 365, .inl (pz_ar ch))), (ay, .inl (cyI, 60, .inl (pz_ar fy))), (ap, .inl (cyI, 60, .inl (pz_ar fp)))] (fun r => r = nI (pm_gc mm a)) := by
  refine pz_R_of (cc := cX0_greatestCount) (maxL := 4) (ty := .int) (own := RX0) (by decide) rfl rfl (Nat.le_of_ble_eq_true rfl) ?_
  intro p e s m below meth c A ls Q hx hb hml hown hts hK hP hD hS hA hl hQ
  have hl : lv_has ls 4 [(0, .ref h0), (1, .int (nI y)), (2, .int (nI mm)), (3, .int (nI a))] := hl
  refine lv_iload_n hx hb dX0_greatestCount_0 rfl (lv_at hl 1 rfl) ?_
  refine pz_SRV (rest := []) ⟨hx, hb, hml, hown, hts⟩ (k_X0_checkYear l D ((cyI, .int) :: ts) y (by omega) (by omega)) (va_cwS 1 hts gX0_greatestCount_X0_checkYear rfl rfl rfl (by decide +kernel) ⟨Nat.le_of_ble_eq_true rfl, Nat.le_of_ble_eq_true rfl⟩) hK hP hD hS hA [] rfl rfl rfl rfl hl.1 rfl (lv_room (Nat.le_of_ble_eq_true rfl)) dX0_greatestCount_1 ⟨Nat.le_of_ble_eq_true rfl, Nat.le_of_ble_eq_true rfl⟩ (fun H locs hP hS => ?_)
  refine lv_iload_n hx hb dX0_greatestCount_4 rfl (lv_at hl 2 rfl) ?_
  refine pz_SRV (rest := []) ⟨hx, hb, hml, hown, hts⟩ (k_X0_checkMonth l D ((cyI, .int) :: ts) mm (by omega) (by omega)) (va_cwS 1 hts gX0_greatestCount_X0_checkMonth rfl rfl rfl (by decide +kernel) ⟨Nat.le_of_ble_eq_true rfl, Nat.le_of_ble_eq_true rfl⟩) hK hP hD hS hA [] rfl rfl rfl rfl hl.1 rfl (lv_room (Nat.le_of_ble_eq_true rfl)) dX0_greatestCount_5 ⟨Nat.le_of_ble_eq_true rfl, Nat.le_of_ble_eq_true rfl⟩ (fun H locs hP hS => ?_)
  refine lv_iload_n hx hb dX0_greatestCount_8 rfl (lv_at hl 3 rfl) ?_
  refine pz_SRV (rest := []) ⟨hx, hb, hml, hown, hts⟩ (k_X0_checkAnchor l D ((cyI, .int) :: ts) a (by omega)) (va_cwS 1 hts gX0_greatestCount_X0_checkAnchor rfl rfl rfl (by decide +kernel) ⟨Nat.le_of_ble_eq_true rfl, Nat.le_of_ble_eq_true rfl⟩) hK hP hD hS hA [] rfl rfl rfl rfl hl.1 rfl (lv_room (Nat.le_of_ble_eq_true rfl)) dX0_greatestCount_9 ⟨Nat.le_of_ble_eq_true rfl, Nat.le_of_ble_eq_true rfl⟩ (fun H locs hP hS => ?_)
  refine lv_iload_n hx hb dX0_greatestCount_12 rfl (lv_at hl 2 rfl) ?_
  refine lv_iload_n hx hb dX0_greatestCount_13 rfl (lv_at hl 3 rfl) ?_
  refine pz_SR (rest := []) ⟨hx, hb, hml, hown, hts⟩ (k_X0_greatestCountTo l D ((cyI, .int) :: ts) mm a (by omega) (by omega) (by omega)) (va_cwS 2 hts gX0_greatestCount_X0_greatestCountTo rfl rfl rfl (by decide +kernel) ⟨Nat.le_of_ble_eq_true rfl, Nat.le_of_ble_eq_true rfl⟩) hK hP hD hS hA [] rfl rfl rfl rfl hl.1 rfl (lv_room (Nat.le_of_ble_eq_true rfl)) dX0_greatestCount_14 ⟨Nat.le_of_ble_eq_true rfl, Nat.le_of_ble_eq_true rfl⟩ (fun r H locs hr hP hS => ?_)
  obtain rfl : r = (nI (pm_gc mm a)) := hr
  have hf_5 := pm_gc_b mm a
  exact hQ _ _ _ _ _ dX0_greatestCount_17 rfl (congrArg nI (by rfl)) hS
set_option maxHeartbeats 4000000 in
set_option maxRecDepth 100000 in
theorem k_X0_greatestCount_x (l : Launch) (hfl : l.stackTraces = false) (D : va_G) (h0 ac ay ap : Nat) (cyI : ClassId) (ts : List (ClassId × FieldType)) (mk : Nat) (ch fy fp : Nat → Nat) (x1 x2 x3 : Int32) (hy0 : ¬ (1 ≤ x1.toInt ∧ x1.toInt ≤ 3000 ∧ 1 ≤ x2.toInt ∧ x2.toInt ≤ 12)) : pz_X l yX0_greatestCount wsX0_greatestCount ({ frames := 7, cells := 1, slots := 6, locals := 104 } : Room) D ((cyI, .int) :: ts) [.ref h0, .int x1, .int x2, .int x3] [(h0, .inr (0, [.ref ac, .ref ay, .ref ap, .int (nI mk)])), (ac, .inl (cyI, 365, .inl (pz_ar ch))), (ay, .inl (cyI, 60, .inl (pz_ar fy))), (ap, .inl (cyI, 60, .inl (pz_ar fp)))] "java/lang/IndexOutOfBoundsException" := by
  refine pz_X_of (cc := cX0_greatestCount) (maxL := 4) (ret := (some .int)) (own := RX0) (by decide) rfl rfl (Nat.le_of_ble_eq_true rfl) ?_
  intro p e s m below meth c ls hx hb hml hown hts hK hP hD hS hA hl hth htb hlk
  have hl : lv_has ls 4 [(0, .ref h0), (1, .int x1), (2, .int x2), (3, .int x3)] := hl
  refine lv_iload_n hx hb dX0_greatestCount_0 rfl (lv_at hl 1 rfl) ?_
  rcases pz_rng x1 1 3000 (by decide) with ⟨y, hl_y, hh_y, rfl⟩ | hb_x1
  · -- in range
    have ei_y : (nI y).toInt = (y : Int) := nI_toInt (by omega)
    simp only [ei_y, Int.toNat_natCast] at hy0
    refine pz_SRV (rest := []) ⟨hx, hb, hml, hown, hts⟩ (k_X0_checkYear l D ((cyI, .int) :: ts) y (by omega) (by omega)) (va_cwS 1 hts gX0_greatestCount_X0_checkYear rfl rfl rfl (by decide +kernel) ⟨Nat.le_of_ble_eq_true rfl, Nat.le_of_ble_eq_true rfl⟩) hK hP hD hS hA [] rfl rfl rfl rfl hl.1 rfl (lv_room (Nat.le_of_ble_eq_true rfl)) dX0_greatestCount_1 ⟨Nat.le_of_ble_eq_true rfl, Nat.le_of_ble_eq_true rfl⟩ (fun H locs hP hS => ?_)
    refine lv_iload_n hx hb dX0_greatestCount_4 rfl (lv_at hl 2 rfl) ?_
    exact pz_SX (rest := []) ⟨hx, hb, hml, hown, hts⟩ (k_X0_checkMonth_x l hfl D ((cyI, .int) :: ts) x2 (by omega)) (va_cwS 1 hts gX0_greatestCount_X0_checkMonth rfl rfl rfl (by decide +kernel) ⟨Nat.le_of_ble_eq_true rfl, Nat.le_of_ble_eq_true rfl⟩) hK hP hD hS hth htb hlk [] rfl rfl rfl rfl hl.1 rfl (lv_room (Nat.le_of_ble_eq_true rfl)) dX0_greatestCount_5 ⟨Nat.le_of_ble_eq_true rfl, Nat.le_of_ble_eq_true rfl⟩
  · -- outside
    exact pz_SX (rest := []) ⟨hx, hb, hml, hown, hts⟩ (k_X0_checkYear_x l hfl D ((cyI, .int) :: ts) x1 (by omega)) (va_cwS 1 hts gX0_greatestCount_X0_checkYear rfl rfl rfl (by decide +kernel) ⟨Nat.le_of_ble_eq_true rfl, Nat.le_of_ble_eq_true rfl⟩) hK hP hD hS hth htb hlk [] rfl rfl rfl rfl hl.1 rfl (lv_room (Nat.le_of_ble_eq_true rfl)) dX0_greatestCount_1 ⟨Nat.le_of_ble_eq_true rfl, Nat.le_of_ble_eq_true rfl⟩
set_option maxHeartbeats 4000000 in
set_option maxRecDepth 100000 in
theorem k_X0_greatestCount_x2 (l : Launch) (hfl : l.stackTraces = false) (D : va_G) (h0 ac ay ap : Nat) (cyI : ClassId) (ts : List (ClassId × FieldType)) (mk : Nat) (ch fy fp : Nat → Nat) (y mm : Nat) (x : Int32) (hy0 : 1 ≤ y) (hy1 : y ≤ 3000) (hy2 : 1 ≤ mm) (hy3 : mm ≤ 12) (hy4 : x.toInt < 0 ∨ 2 < x.toInt) : pz_X l yX0_greatestCount wsX0_greatestCount ({ frames := 7, cells := 1, slots := 6, locals := 104 } : Room) D ((cyI, .int) :: ts) [.ref h0, .int (nI y), .int (nI mm), .int x] [(h0, .inr (0, [.ref ac, .ref ay, .ref ap, .int (nI mk)])), (ac, .inl (cyI, 365, .inl (pz_ar ch))), (ay, .inl (cyI, 60, .inl (pz_ar fy))), (ap, .inl (cyI, 60, .inl (pz_ar fp)))] "java/lang/IllegalArgumentException" := by
  refine pz_X_of (cc := cX0_greatestCount) (maxL := 4) (ret := (some .int)) (own := RX0) (by decide) rfl rfl (Nat.le_of_ble_eq_true rfl) ?_
  intro p e s m below meth c ls hx hb hml hown hts hK hP hD hS hA hl hth htb hlk
  have hl : lv_has ls 4 [(0, .ref h0), (1, .int (nI y)), (2, .int (nI mm)), (3, .int x)] := hl
  refine lv_iload_n hx hb dX0_greatestCount_0 rfl (lv_at hl 1 rfl) ?_
  refine pz_SRV (rest := []) ⟨hx, hb, hml, hown, hts⟩ (k_X0_checkYear l D ((cyI, .int) :: ts) y (by omega) (by omega)) (va_cwS 1 hts gX0_greatestCount_X0_checkYear rfl rfl rfl (by decide +kernel) ⟨Nat.le_of_ble_eq_true rfl, Nat.le_of_ble_eq_true rfl⟩) hK hP hD hS hA [] rfl rfl rfl rfl hl.1 rfl (lv_room (Nat.le_of_ble_eq_true rfl)) dX0_greatestCount_1 ⟨Nat.le_of_ble_eq_true rfl, Nat.le_of_ble_eq_true rfl⟩ (fun H locs hP hS => ?_)
  refine lv_iload_n hx hb dX0_greatestCount_4 rfl (lv_at hl 2 rfl) ?_
  refine pz_SRV (rest := []) ⟨hx, hb, hml, hown, hts⟩ (k_X0_checkMonth l D ((cyI, .int) :: ts) mm (by omega) (by omega)) (va_cwS 1 hts gX0_greatestCount_X0_checkMonth rfl rfl rfl (by decide +kernel) ⟨Nat.le_of_ble_eq_true rfl, Nat.le_of_ble_eq_true rfl⟩) hK hP hD hS hA [] rfl rfl rfl rfl hl.1 rfl (lv_room (Nat.le_of_ble_eq_true rfl)) dX0_greatestCount_5 ⟨Nat.le_of_ble_eq_true rfl, Nat.le_of_ble_eq_true rfl⟩ (fun H locs hP hS => ?_)
  refine lv_iload_n hx hb dX0_greatestCount_8 rfl (lv_at hl 3 rfl) ?_
  exact pz_SX (rest := []) ⟨hx, hb, hml, hown, hts⟩ (k_X0_checkAnchor_x l hfl D ((cyI, .int) :: ts) x (by omega)) (va_cwS 1 hts gX0_greatestCount_X0_checkAnchor rfl rfl rfl (by decide +kernel) ⟨Nat.le_of_ble_eq_true rfl, Nat.le_of_ble_eq_true rfl⟩) hK hP hD hS hth htb hlk [] rfl rfl rfl rfl hl.1 rfl (lv_room (Nat.le_of_ble_eq_true rfl)) dX0_greatestCount_9 ⟨Nat.le_of_ble_eq_true rfl, Nat.le_of_ble_eq_true rfl⟩
set_option maxHeartbeats 4000000 in
set_option maxRecDepth 100000 in
theorem k_X0_lawNumber (l : Launch) (D : va_G) (h0 ac ay ap : Nat) (cyI : ClassId) (ts : List (ClassId × FieldType)) (mk : Nat) (ch fy fp : Nat → Nat) (n : Nat) (hy0 : n < 1095750) : pz_R l yX0_lawNumber wsX0_lawNumber ({ frames := 2, cells := 0, slots := 0, locals := 40 } : Room) D ((cyI, .int) :: ts) [.ref h0, .int (nI n)] [(h0, .inr (0, [.ref ac, .ref ay, .ref ap, .int (nI mk)])), (ac, .inl (cyI, 365, .inl (pz_ar ch))), (ay, .inl (cyI, 60, .inl (pz_ar fy))), (ap, .inl (cyI, 60, .inl (pz_ar fp)))] (fun r => r = nI (pm_lw n)) := by
  refine pz_R_of (cc := cX0_lawNumber) (maxL := 2) (ty := .int) (own := RX0) (by decide) rfl rfl (Nat.le_of_ble_eq_true rfl) ?_
  intro p e s m below meth c A ls Q hx hb hml hown hts hK hP hD hS hA hl hQ
  have hl : lv_has ls 2 [(0, .ref h0), (1, .int (nI n))] := hl
  refine lv_iload_n hx hb dX0_lawNumber_0 rfl (lv_at hl 1 rfl) ?_
  refine pz_SRV (rest := []) ⟨hx, hb, hml, hown, hts⟩ (k_X0_checkNumber l D ((cyI, .int) :: ts) n (by omega)) (va_cwS 1 hts gX0_lawNumber_X0_checkNumber rfl rfl rfl (by decide +kernel) ⟨Nat.le_of_ble_eq_true rfl, Nat.le_of_ble_eq_true rfl⟩) hK hP hD hS hA [] rfl rfl rfl rfl hl.1 rfl (lv_room (Nat.le_of_ble_eq_true rfl)) dX0_lawNumber_1 ⟨Nat.le_of_ble_eq_true rfl, Nat.le_of_ble_eq_true rfl⟩ (fun H locs hP hS => ?_)
  refine lv_iload_n hx hb dX0_lawNumber_4 rfl (lv_at hl 1 rfl) ?_
  refine pz_SR (rest := []) ⟨hx, hb, hml, hown, hts⟩ (k_X0_lawNumberAt l D ((cyI, .int) :: ts) n (by omega)) (va_cwS 1 hts gX0_lawNumber_X0_lawNumberAt rfl rfl rfl (by decide +kernel) ⟨Nat.le_of_ble_eq_true rfl, Nat.le_of_ble_eq_true rfl⟩) hK hP hD hS hA [] rfl rfl rfl rfl hl.1 rfl (lv_room (Nat.le_of_ble_eq_true rfl)) dX0_lawNumber_5 ⟨Nat.le_of_ble_eq_true rfl, Nat.le_of_ble_eq_true rfl⟩ (fun r H locs hr hP hS => ?_)
  obtain rfl : r = (nI (pm_lw n)) := hr
  have hf_3 := pm_lw_b n
  exact hQ _ _ _ _ _ dX0_lawNumber_8 rfl (congrArg nI (by rfl)) hS
set_option maxHeartbeats 4000000 in
set_option maxRecDepth 100000 in
theorem k_X0_lawNumber_x (l : Launch) (hfl : l.stackTraces = false) (D : va_G) (h0 ac ay ap : Nat) (cyI : ClassId) (ts : List (ClassId × FieldType)) (mk : Nat) (ch fy fp : Nat → Nat) (x : Int32) (hy0 : x.toInt < 0 ∨ 1095749 < x.toInt) : pz_X l yX0_lawNumber wsX0_lawNumber ({ frames := 7, cells := 1, slots := 6, locals := 104 } : Room) D ((cyI, .int) :: ts) [.ref h0, .int x] [(h0, .inr (0, [.ref ac, .ref ay, .ref ap, .int (nI mk)])), (ac, .inl (cyI, 365, .inl (pz_ar ch))), (ay, .inl (cyI, 60, .inl (pz_ar fy))), (ap, .inl (cyI, 60, .inl (pz_ar fp)))] "java/lang/IndexOutOfBoundsException" := by
  refine pz_X_of (cc := cX0_lawNumber) (maxL := 2) (ret := (some .int)) (own := RX0) (by decide) rfl rfl (Nat.le_of_ble_eq_true rfl) ?_
  intro p e s m below meth c ls hx hb hml hown hts hK hP hD hS hA hl hth htb hlk
  have hl : lv_has ls 2 [(0, .ref h0), (1, .int x)] := hl
  refine lv_iload_n hx hb dX0_lawNumber_0 rfl (lv_at hl 1 rfl) ?_
  exact pz_SX (rest := []) ⟨hx, hb, hml, hown, hts⟩ (k_X0_checkNumber_x l hfl D ((cyI, .int) :: ts) x (by omega)) (va_cwS 1 hts gX0_lawNumber_X0_checkNumber rfl rfl rfl (by decide +kernel) ⟨Nat.le_of_ble_eq_true rfl, Nat.le_of_ble_eq_true rfl⟩) hK hP hD hS hth htb hlk [] rfl rfl rfl rfl hl.1 rfl (lv_room (Nat.le_of_ble_eq_true rfl)) dX0_lawNumber_1 ⟨Nat.le_of_ble_eq_true rfl, Nat.le_of_ble_eq_true rfl⟩
set_option maxHeartbeats 4000000 in
set_option maxRecDepth 100000 in
theorem k_X0_placeOf (l : Launch) (D : va_G) (h0 ac ay ap : Nat) (cyI : ClassId) (ts : List (ClassId × FieldType)) (mk : Nat) (ch fy fp : Nat → Nat) (n : Nat) (hy0 : n < 1095750) : pz_R l yX0_placeOf wsX0_placeOf ({ frames := 3, cells := 0, slots := 0, locals := 60 } : Room) D ((cyI, .int) :: ts) [.ref h0, .int (nI n)] [(h0, .inr (0, [.ref ac, .ref ay, .ref ap, .int (nI mk)])), (ac, .inl (cyI, 365, .inl (pz_ar ch))), (ay, .inl (cyI, 60, .inl (pz_ar fy))), (ap, .inl (cyI, 60, .inl (pz_ar fp)))] (fun r => r = nI (pm_pl n)) := by
  refine pz_R_of (cc := cX0_placeOf) (maxL := 2) (ty := .int) (own := RX0) (by decide) rfl rfl (Nat.le_of_ble_eq_true rfl) ?_
  intro p e s m below meth c A ls Q hx hb hml hown hts hK hP hD hS hA hl hQ
  have hl : lv_has ls 2 [(0, .ref h0), (1, .int (nI n))] := hl
  refine lv_iload_n hx hb dX0_placeOf_0 rfl (lv_at hl 1 rfl) ?_
  refine pz_SRV (rest := []) ⟨hx, hb, hml, hown, hts⟩ (k_X0_checkNumber l D ((cyI, .int) :: ts) n (by omega)) (va_cwS 1 hts gX0_placeOf_X0_checkNumber rfl rfl rfl (by decide +kernel) ⟨Nat.le_of_ble_eq_true rfl, Nat.le_of_ble_eq_true rfl⟩) hK hP hD hS hA [] rfl rfl rfl rfl hl.1 rfl (lv_room (Nat.le_of_ble_eq_true rfl)) dX0_placeOf_1 ⟨Nat.le_of_ble_eq_true rfl, Nat.le_of_ble_eq_true rfl⟩ (fun H locs hP hS => ?_)
  refine lv_iload_n hx hb dX0_placeOf_4 rfl (lv_at hl 1 rfl) ?_
  refine pz_SR (rest := []) ⟨hx, hb, hml, hown, hts⟩ (k_X0_placeAt l D ((cyI, .int) :: ts) n (by omega)) (va_cwS 1 hts gX0_placeOf_X0_placeAt rfl rfl rfl (by decide +kernel) ⟨Nat.le_of_ble_eq_true rfl, Nat.le_of_ble_eq_true rfl⟩) hK hP hD hS hA [] rfl rfl rfl rfl hl.1 rfl (lv_room (Nat.le_of_ble_eq_true rfl)) dX0_placeOf_5 ⟨Nat.le_of_ble_eq_true rfl, Nat.le_of_ble_eq_true rfl⟩ (fun r H locs hr hP hS => ?_)
  obtain rfl : r = (nI (pm_pl n)) := hr
  have hf_3 := pm_pl_b n
  exact hQ _ _ _ _ _ dX0_placeOf_8 rfl (congrArg nI (by rfl)) hS
set_option maxHeartbeats 4000000 in
set_option maxRecDepth 100000 in
theorem k_X0_placeOf_x (l : Launch) (hfl : l.stackTraces = false) (D : va_G) (h0 ac ay ap : Nat) (cyI : ClassId) (ts : List (ClassId × FieldType)) (mk : Nat) (ch fy fp : Nat → Nat) (x : Int32) (hy0 : x.toInt < 0 ∨ 1095749 < x.toInt) : pz_X l yX0_placeOf wsX0_placeOf ({ frames := 7, cells := 1, slots := 6, locals := 104 } : Room) D ((cyI, .int) :: ts) [.ref h0, .int x] [(h0, .inr (0, [.ref ac, .ref ay, .ref ap, .int (nI mk)])), (ac, .inl (cyI, 365, .inl (pz_ar ch))), (ay, .inl (cyI, 60, .inl (pz_ar fy))), (ap, .inl (cyI, 60, .inl (pz_ar fp)))] "java/lang/IndexOutOfBoundsException" := by
  refine pz_X_of (cc := cX0_placeOf) (maxL := 2) (ret := (some .int)) (own := RX0) (by decide) rfl rfl (Nat.le_of_ble_eq_true rfl) ?_
  intro p e s m below meth c ls hx hb hml hown hts hK hP hD hS hA hl hth htb hlk
  have hl : lv_has ls 2 [(0, .ref h0), (1, .int x)] := hl
  refine lv_iload_n hx hb dX0_placeOf_0 rfl (lv_at hl 1 rfl) ?_
  exact pz_SX (rest := []) ⟨hx, hb, hml, hown, hts⟩ (k_X0_checkNumber_x l hfl D ((cyI, .int) :: ts) x (by omega)) (va_cwS 1 hts gX0_placeOf_X0_checkNumber rfl rfl rfl (by decide +kernel) ⟨Nat.le_of_ble_eq_true rfl, Nat.le_of_ble_eq_true rfl⟩) hK hP hD hS hth htb hlk [] rfl rfl rfl rfl hl.1 rfl (lv_room (Nat.le_of_ble_eq_true rfl)) dX0_placeOf_1 ⟨Nat.le_of_ble_eq_true rfl, Nat.le_of_ble_eq_true rfl⟩
set_option maxHeartbeats 4000000 in
set_option maxRecDepth 100000 in
theorem k_X0_letterOfEight (l : Launch) (D : va_G) (h0 ac ay ap : Nat) (cyI : ClassId) (ts : List (ClassId × FieldType)) (mk : Nat) (ch fy fp : Nat → Nat) (n : Nat) (hy0 : n < 1095750) : pz_R l yX0_letterOfEight wsX0_letterOfEight ({ frames := 4, cells := 0, slots := 0, locals := 80 } : Room) D ((cyI, .int) :: ts) [.ref h0, .int (nI n)] [(h0, .inr (0, [.ref ac, .ref ay, .ref ap, .int (nI mk)])), (ac, .inl (cyI, 365, .inl (pz_ar ch))), (ay, .inl (cyI, 60, .inl (pz_ar fy))), (ap, .inl (cyI, 60, .inl (pz_ar fp)))] (fun r => r = nI ((pm_pl n - 1) % 8)) := by
  refine pz_R_of (cc := cX0_letterOfEight) (maxL := 2) (ty := .int) (own := RX0) (by decide) rfl rfl (Nat.le_of_ble_eq_true rfl) ?_
  intro p e s m below meth c A ls Q hx hb hml hown hts hK hP hD hS hA hl hQ
  have hl : lv_has ls 2 [(0, .ref h0), (1, .int (nI n))] := hl
  refine lv_iload_n hx hb dX0_letterOfEight_0 rfl (lv_at hl 1 rfl) ?_
  refine pz_SRV (rest := []) ⟨hx, hb, hml, hown, hts⟩ (k_X0_checkNumber l D ((cyI, .int) :: ts) n (by omega)) (va_cwS 1 hts gX0_letterOfEight_X0_checkNumber rfl rfl rfl (by decide +kernel) ⟨Nat.le_of_ble_eq_true rfl, Nat.le_of_ble_eq_true rfl⟩) hK hP hD hS hA [] rfl rfl rfl rfl hl.1 rfl (lv_room (Nat.le_of_ble_eq_true rfl)) dX0_letterOfEight_1 ⟨Nat.le_of_ble_eq_true rfl, Nat.le_of_ble_eq_true rfl⟩ (fun H locs hP hS => ?_)
  refine lv_iload_n hx hb dX0_letterOfEight_4 rfl (lv_at hl 1 rfl) ?_
  refine pz_SR (rest := []) ⟨hx, hb, hml, hown, hts⟩ (k_X0_eightLetterAt l D ((cyI, .int) :: ts) n (by omega)) (va_cwS 1 hts gX0_letterOfEight_X0_eightLetterAt rfl rfl rfl (by decide +kernel) ⟨Nat.le_of_ble_eq_true rfl, Nat.le_of_ble_eq_true rfl⟩) hK hP hD hS hA [] rfl rfl rfl rfl hl.1 rfl (lv_room (Nat.le_of_ble_eq_true rfl)) dX0_letterOfEight_5 ⟨Nat.le_of_ble_eq_true rfl, Nat.le_of_ble_eq_true rfl⟩ (fun r H locs hr hP hS => ?_)
  obtain rfl : r = (nI ((pm_pl n - 1) % 8)) := hr
  exact hQ _ _ _ _ _ dX0_letterOfEight_8 rfl (congrArg nI (by rfl)) hS
set_option maxHeartbeats 4000000 in
set_option maxRecDepth 100000 in
theorem k_X0_letterOfEight_x (l : Launch) (hfl : l.stackTraces = false) (D : va_G) (h0 ac ay ap : Nat) (cyI : ClassId) (ts : List (ClassId × FieldType)) (mk : Nat) (ch fy fp : Nat → Nat) (x : Int32) (hy0 : x.toInt < 0 ∨ 1095749 < x.toInt) : pz_X l yX0_letterOfEight wsX0_letterOfEight ({ frames := 7, cells := 1, slots := 6, locals := 104 } : Room) D ((cyI, .int) :: ts) [.ref h0, .int x] [(h0, .inr (0, [.ref ac, .ref ay, .ref ap, .int (nI mk)])), (ac, .inl (cyI, 365, .inl (pz_ar ch))), (ay, .inl (cyI, 60, .inl (pz_ar fy))), (ap, .inl (cyI, 60, .inl (pz_ar fp)))] "java/lang/IndexOutOfBoundsException" := by
  refine pz_X_of (cc := cX0_letterOfEight) (maxL := 2) (ret := (some .int)) (own := RX0) (by decide) rfl rfl (Nat.le_of_ble_eq_true rfl) ?_
  intro p e s m below meth c ls hx hb hml hown hts hK hP hD hS hA hl hth htb hlk
  have hl : lv_has ls 2 [(0, .ref h0), (1, .int x)] := hl
  refine lv_iload_n hx hb dX0_letterOfEight_0 rfl (lv_at hl 1 rfl) ?_
  exact pz_SX (rest := []) ⟨hx, hb, hml, hown, hts⟩ (k_X0_checkNumber_x l hfl D ((cyI, .int) :: ts) x (by omega)) (va_cwS 1 hts gX0_letterOfEight_X0_checkNumber rfl rfl rfl (by decide +kernel) ⟨Nat.le_of_ble_eq_true rfl, Nat.le_of_ble_eq_true rfl⟩) hK hP hD hS hth htb hlk [] rfl rfl rfl rfl hl.1 rfl (lv_room (Nat.le_of_ble_eq_true rfl)) dX0_letterOfEight_1 ⟨Nat.le_of_ble_eq_true rfl, Nat.le_of_ble_eq_true rfl⟩
set_option maxHeartbeats 4000000 in
set_option maxRecDepth 100000 in
theorem k_X0_letterOfSeven (l : Launch) (D : va_G) (h0 ac ay ap : Nat) (cyI : ClassId) (ts : List (ClassId × FieldType)) (mk : Nat) (ch fy fp : Nat → Nat) (n : Nat) (hy0 : n < 1095750) : pz_R l yX0_letterOfSeven wsX0_letterOfSeven ({ frames := 4, cells := 0, slots := 0, locals := 80 } : Room) D ((cyI, .int) :: ts) [.ref h0, .int (nI n)] [(h0, .inr (0, [.ref ac, .ref ay, .ref ap, .int (nI mk)])), (ac, .inl (cyI, 365, .inl (pz_ar ch))), (ay, .inl (cyI, 60, .inl (pz_ar fy))), (ap, .inl (cyI, 60, .inl (pz_ar fp)))] (fun r => r = nI ((pm_pl n - 1) % 7)) := by
  refine pz_R_of (cc := cX0_letterOfSeven) (maxL := 2) (ty := .int) (own := RX0) (by decide) rfl rfl (Nat.le_of_ble_eq_true rfl) ?_
  intro p e s m below meth c A ls Q hx hb hml hown hts hK hP hD hS hA hl hQ
  have hl : lv_has ls 2 [(0, .ref h0), (1, .int (nI n))] := hl
  refine lv_iload_n hx hb dX0_letterOfSeven_0 rfl (lv_at hl 1 rfl) ?_
  refine pz_SRV (rest := []) ⟨hx, hb, hml, hown, hts⟩ (k_X0_checkNumber l D ((cyI, .int) :: ts) n (by omega)) (va_cwS 1 hts gX0_letterOfSeven_X0_checkNumber rfl rfl rfl (by decide +kernel) ⟨Nat.le_of_ble_eq_true rfl, Nat.le_of_ble_eq_true rfl⟩) hK hP hD hS hA [] rfl rfl rfl rfl hl.1 rfl (lv_room (Nat.le_of_ble_eq_true rfl)) dX0_letterOfSeven_1 ⟨Nat.le_of_ble_eq_true rfl, Nat.le_of_ble_eq_true rfl⟩ (fun H locs hP hS => ?_)
  refine lv_iload_n hx hb dX0_letterOfSeven_4 rfl (lv_at hl 1 rfl) ?_
  refine pz_SR (rest := []) ⟨hx, hb, hml, hown, hts⟩ (k_X0_sevenLetterAt l D ((cyI, .int) :: ts) n (by omega)) (va_cwS 1 hts gX0_letterOfSeven_X0_sevenLetterAt rfl rfl rfl (by decide +kernel) ⟨Nat.le_of_ble_eq_true rfl, Nat.le_of_ble_eq_true rfl⟩) hK hP hD hS hA [] rfl rfl rfl rfl hl.1 rfl (lv_room (Nat.le_of_ble_eq_true rfl)) dX0_letterOfSeven_5 ⟨Nat.le_of_ble_eq_true rfl, Nat.le_of_ble_eq_true rfl⟩ (fun r H locs hr hP hS => ?_)
  obtain rfl : r = (nI ((pm_pl n - 1) % 7)) := hr
  exact hQ _ _ _ _ _ dX0_letterOfSeven_8 rfl (congrArg nI (by rfl)) hS
set_option maxHeartbeats 4000000 in
set_option maxRecDepth 100000 in
theorem k_X0_letterOfSeven_x (l : Launch) (hfl : l.stackTraces = false) (D : va_G) (h0 ac ay ap : Nat) (cyI : ClassId) (ts : List (ClassId × FieldType)) (mk : Nat) (ch fy fp : Nat → Nat) (x : Int32) (hy0 : x.toInt < 0 ∨ 1095749 < x.toInt) : pz_X l yX0_letterOfSeven wsX0_letterOfSeven ({ frames := 7, cells := 1, slots := 6, locals := 104 } : Room) D ((cyI, .int) :: ts) [.ref h0, .int x] [(h0, .inr (0, [.ref ac, .ref ay, .ref ap, .int (nI mk)])), (ac, .inl (cyI, 365, .inl (pz_ar ch))), (ay, .inl (cyI, 60, .inl (pz_ar fy))), (ap, .inl (cyI, 60, .inl (pz_ar fp)))] "java/lang/IndexOutOfBoundsException" := by
  refine pz_X_of (cc := cX0_letterOfSeven) (maxL := 2) (ret := (some .int)) (own := RX0) (by decide) rfl rfl (Nat.le_of_ble_eq_true rfl) ?_
  intro p e s m below meth c ls hx hb hml hown hts hK hP hD hS hA hl hth htb hlk
  have hl : lv_has ls 2 [(0, .ref h0), (1, .int x)] := hl
  refine lv_iload_n hx hb dX0_letterOfSeven_0 rfl (lv_at hl 1 rfl) ?_
  exact pz_SX (rest := []) ⟨hx, hb, hml, hown, hts⟩ (k_X0_checkNumber_x l hfl D ((cyI, .int) :: ts) x (by omega)) (va_cwS 1 hts gX0_letterOfSeven_X0_checkNumber rfl rfl rfl (by decide +kernel) ⟨Nat.le_of_ble_eq_true rfl, Nat.le_of_ble_eq_true rfl⟩) hK hP hD hS hth htb hlk [] rfl rfl rfl rfl hl.1 rfl (lv_room (Nat.le_of_ble_eq_true rfl)) dX0_letterOfSeven_1 ⟨Nat.le_of_ble_eq_true rfl, Nat.le_of_ble_eq_true rfl⟩
set_option maxHeartbeats 4000000 in
set_option maxRecDepth 100000 in
theorem k_X0_setMarketDay_x (l : Launch) (hfl : l.stackTraces = false) (D : va_G) (h0 ac ay ap : Nat) (cyI : ClassId) (ts : List (ClassId × FieldType)) (mk : Nat) (ch fy fp : Nat → Nat) (x : Int32) (hy0 : x.toInt < 0 ∨ 1095749 < x.toInt) : pz_X l yX0_setMarketDay wsX0_setMarketDay ({ frames := 7, cells := 1, slots := 6, locals := 104 } : Room) D ((cyI, .int) :: ts) [.ref h0, .int x] [(h0, .inr (0, [.ref ac, .ref ay, .ref ap, .int (nI mk)])), (ac, .inl (cyI, 365, .inl (pz_ar ch))), (ay, .inl (cyI, 60, .inl (pz_ar fy))), (ap, .inl (cyI, 60, .inl (pz_ar fp)))] "java/lang/IndexOutOfBoundsException" := by
  refine pz_X_of (cc := cX0_setMarketDay) (maxL := 3) (ret := (some .int)) (own := RX0) (by decide) rfl rfl (Nat.le_of_ble_eq_true rfl) ?_
  intro p e s m below meth c ls hx hb hml hown hts hK hP hD hS hA hl hth htb hlk
  have hl : lv_has ls 3 [(0, .ref h0), (1, .int x)] := hl
  have hin : ∀ w ∈ u_ws RX0 TX0 4, w ∈ wsX0_setMarketDay := by decide +kernel
  refine lv_iload_n hx hb dX0_setMarketDay_0 rfl (lv_at hl 1 rfl) ?_
  exact pz_SX (rest := []) ⟨hx, hb, hml, hown, hts⟩ (k_X0_checkNumber_x l hfl D ((cyI, .int) :: ts) x (by omega)) (va_cwS 1 hts gX0_setMarketDay_X0_checkNumber rfl rfl rfl (by decide +kernel) ⟨Nat.le_of_ble_eq_true rfl, Nat.le_of_ble_eq_true rfl⟩) hK hP hD hS hth htb hlk [] rfl rfl rfl rfl hl.1 rfl (lv_room (Nat.le_of_ble_eq_true rfl)) dX0_setMarketDay_1 ⟨Nat.le_of_ble_eq_true rfl, Nat.le_of_ble_eq_true rfl⟩
set_option maxHeartbeats 4000000 in
set_option maxRecDepth 100000 in
theorem k_X0_isMarket_x (l : Launch) (hfl : l.stackTraces = false) (D : va_G) (h0 ac ay ap : Nat) (cyI : ClassId) (ts : List (ClassId × FieldType)) (mk : Nat) (ch fy fp : Nat → Nat) (x : Int32) (hy0 : x.toInt < 0 ∨ 1095749 < x.toInt) : pz_X l yX0_isMarket wsX0_isMarket ({ frames := 7, cells := 1, slots := 6, locals := 104 } : Room) D ((cyI, .int) :: ts) [.ref h0, .int x] [(h0, .inr (0, [.ref ac, .ref ay, .ref ap, .int (nI mk)])), (ac, .inl (cyI, 365, .inl (pz_ar ch))), (ay, .inl (cyI, 60, .inl (pz_ar fy))), (ap, .inl (cyI, 60, .inl (pz_ar fp)))] "java/lang/IndexOutOfBoundsException" := by
  refine pz_X_of (cc := cX0_isMarket) (maxL := 2) (ret := (some .boolean)) (own := RX0) (by decide) rfl rfl (Nat.le_of_ble_eq_true rfl) ?_
  intro p e s m below meth c ls hx hb hml hown hts hK hP hD hS hA hl hth htb hlk
  have hl : lv_has ls 2 [(0, .ref h0), (1, .int x)] := hl
  refine lv_iload_n hx hb dX0_isMarket_0 rfl (lv_at hl 1 rfl) ?_
  exact pz_SX (rest := []) ⟨hx, hb, hml, hown, hts⟩ (k_X0_checkNumber_x l hfl D ((cyI, .int) :: ts) x (by omega)) (va_cwS 1 hts gX0_isMarket_X0_checkNumber rfl rfl rfl (by decide +kernel) ⟨Nat.le_of_ble_eq_true rfl, Nat.le_of_ble_eq_true rfl⟩) hK hP hD hS hth htb hlk [] rfl rfl rfl rfl hl.1 rfl (lv_room (Nat.le_of_ble_eq_true rfl)) dX0_isMarket_1 ⟨Nat.le_of_ble_eq_true rfl, Nat.le_of_ble_eq_true rfl⟩
set_option maxHeartbeats 4000000 in
set_option maxRecDepth 100000 in
theorem k_X0_characterOf_x (l : Launch) (hfl : l.stackTraces = false) (D : va_G) (h0 ac ay ap : Nat) (cyI : ClassId) (ts : List (ClassId × FieldType)) (mk : Nat) (ch fy fp : Nat → Nat) (x : Int32) (hy0 : x.toInt < 0 ∨ 1095749 < x.toInt) : pz_X l yX0_characterOf wsX0_characterOf ({ frames := 7, cells := 1, slots := 6, locals := 104 } : Room) D ((cyI, .int) :: ts) [.ref h0, .int x] [(h0, .inr (0, [.ref ac, .ref ay, .ref ap, .int (nI mk)])), (ac, .inl (cyI, 365, .inl (pz_ar ch))), (ay, .inl (cyI, 60, .inl (pz_ar fy))), (ap, .inl (cyI, 60, .inl (pz_ar fp)))] "java/lang/IndexOutOfBoundsException" := by
  refine pz_X_of (cc := cX0_characterOf) (maxL := 2) (ret := (some .int)) (own := RX0) (by decide) rfl rfl (Nat.le_of_ble_eq_true rfl) ?_
  intro p e s m below meth c ls hx hb hml hown hts hK hP hD hS hA hl hth htb hlk
  have hl : lv_has ls 2 [(0, .ref h0), (1, .int x)] := hl
  refine lv_iload_n hx hb dX0_characterOf_0 rfl (lv_at hl 1 rfl) ?_
  exact pz_SX (rest := []) ⟨hx, hb, hml, hown, hts⟩ (k_X0_checkNumber_x l hfl D ((cyI, .int) :: ts) x (by omega)) (va_cwS 1 hts gX0_characterOf_X0_checkNumber rfl rfl rfl (by decide +kernel) ⟨Nat.le_of_ble_eq_true rfl, Nat.le_of_ble_eq_true rfl⟩) hK hP hD hS hth htb hlk [] rfl rfl rfl rfl hl.1 rfl (lv_room (Nat.le_of_ble_eq_true rfl)) dX0_characterOf_1 ⟨Nat.le_of_ble_eq_true rfl, Nat.le_of_ble_eq_true rfl⟩
set_option maxHeartbeats 4000000 in
set_option maxRecDepth 100000 in
theorem k_X0_canVote_x (l : Launch) (hfl : l.stackTraces = false) (D : va_G) (h0 ac ay ap : Nat) (cyI : ClassId) (ts : List (ClassId × FieldType)) (mk : Nat) (ch fy fp : Nat → Nat) (x : Int32) (hy0 : x.toInt < 0 ∨ 1095749 < x.toInt) : pz_X l yX0_canVote wsX0_canVote ({ frames := 7, cells := 1, slots := 6, locals := 104 } : Room) D ((cyI, .int) :: ts) [.ref h0, .int x] [(h0, .inr (0, [.ref ac, .ref ay, .ref ap, .int (nI mk)])), (ac, .inl (cyI, 365, .inl (pz_ar ch))), (ay, .inl (cyI, 60, .inl (pz_ar fy))), (ap, .inl (cyI, 60, .inl (pz_ar fp)))] "java/lang/IndexOutOfBoundsException" := by
  refine pz_X_of (cc := cX0_canVote) (maxL := 2) (ret := (some .boolean)) (own := RX0) (by decide) rfl rfl (Nat.le_of_ble_eq_true rfl) ?_
  intro p e s m below meth c ls hx hb hml hown hts hK hP hD hS hA hl hth htb hlk
  have hl : lv_has ls 2 [(0, .ref h0), (1, .int x)] := hl
  refine lv_iload_n hx hb dX0_canVote_0 rfl (lv_at hl 1 rfl) ?_
  exact pz_SX (rest := []) ⟨hx, hb, hml, hown, hts⟩ (k_X0_checkNumber_x l hfl D ((cyI, .int) :: ts) x (by omega)) (va_cwS 1 hts gX0_canVote_X0_checkNumber rfl rfl rfl (by decide +kernel) ⟨Nat.le_of_ble_eq_true rfl, Nat.le_of_ble_eq_true rfl⟩) hK hP hD hS hth htb hlk [] rfl rfl rfl rfl hl.1 rfl (lv_room (Nat.le_of_ble_eq_true rfl)) dX0_canVote_1 ⟨Nat.le_of_ble_eq_true rfl, Nat.le_of_ble_eq_true rfl⟩
set_option maxHeartbeats 4000000 in
set_option maxRecDepth 100000 in
theorem k_X0_nextCourt_x (l : Launch) (hfl : l.stackTraces = false) (D : va_G) (h0 ac ay ap : Nat) (cyI : ClassId) (ts : List (ClassId × FieldType)) (mk : Nat) (ch fy fp : Nat → Nat) (x : Int32) (hy0 : x.toInt < 0 ∨ 1095749 < x.toInt) : pz_X l yX0_nextCourt wsX0_nextCourt ({ frames := 7, cells := 1, slots := 6, locals := 104 } : Room) D ((cyI, .int) :: ts) [.ref h0, .int x] [(h0, .inr (0, [.ref ac, .ref ay, .ref ap, .int (nI mk)])), (ac, .inl (cyI, 365, .inl (pz_ar ch))), (ay, .inl (cyI, 60, .inl (pz_ar fy))), (ap, .inl (cyI, 60, .inl (pz_ar fp)))] "java/lang/IndexOutOfBoundsException" := by
  refine pz_X_of (cc := cX0_nextCourt) (maxL := 5) (ret := (some .int)) (own := RX0) (by decide) rfl rfl (Nat.le_of_ble_eq_true rfl) ?_
  intro p e s m below meth c ls hx hb hml hown hts hK hP hD hS hA hl hth htb hlk
  have hl : lv_has ls 5 [(0, .ref h0), (1, .int x)] := hl
  refine lv_iload_n hx hb dX0_nextCourt_0 rfl (lv_at hl 1 rfl) ?_
  exact pz_SX (rest := []) ⟨hx, hb, hml, hown, hts⟩ (k_X0_checkNumber_x l hfl D ((cyI, .int) :: ts) x (by omega)) (va_cwS 1 hts gX0_nextCourt_X0_checkNumber rfl rfl rfl (by decide +kernel) ⟨Nat.le_of_ble_eq_true rfl, Nat.le_of_ble_eq_true rfl⟩) hK hP hD hS hth htb hlk [] rfl rfl rfl rfl hl.1 rfl (lv_room (Nat.le_of_ble_eq_true rfl)) dX0_nextCourt_1 ⟨Nat.le_of_ble_eq_true rfl, Nat.le_of_ble_eq_true rfl⟩
set_option maxHeartbeats 4000000 in
set_option maxRecDepth 100000 in
theorem k_X0_marketLetters_x (l : Launch) (hfl : l.stackTraces = false) (D : va_G) (h0 ac ay ap : Nat) (cyI : ClassId) (ts : List (ClassId × FieldType)) (mk : Nat) (ch fy fp : Nat → Nat) (x : Int32) (hy0 : x.toInt < 1 ∨ 3000 < x.toInt) : pz_X l yX0_marketLetters wsX0_marketLetters ({ frames := 7, cells := 1, slots := 6, locals := 104 } : Room) D ((cyI, .int) :: ts) [.ref h0, .int x] [(h0, .inr (0, [.ref ac, .ref ay, .ref ap, .int (nI mk)])), (ac, .inl (cyI, 365, .inl (pz_ar ch))), (ay, .inl (cyI, 60, .inl (pz_ar fy))), (ap, .inl (cyI, 60, .inl (pz_ar fp)))] "java/lang/IndexOutOfBoundsException" := by
  refine pz_X_of (cc := cX0_marketLetters) (maxL := 6) (ret := (some .int)) (own := RX0) (by decide) rfl rfl (Nat.le_of_ble_eq_true rfl) ?_
  intro p e s m below meth c ls hx hb hml hown hts hK hP hD hS hA hl hth htb hlk
  have hl : lv_has ls 6 [(0, .ref h0), (1, .int x)] := hl
  have hin : ∀ w ∈ u_ws RX0 TX0 4, w ∈ wsX0_marketLetters := by decide +kernel
  refine lv_iload_n hx hb dX0_marketLetters_0 rfl (lv_at hl 1 rfl) ?_
  exact pz_SX (rest := []) ⟨hx, hb, hml, hown, hts⟩ (k_X0_checkYear_x l hfl D ((cyI, .int) :: ts) x (by omega)) (va_cwS 1 hts gX0_marketLetters_X0_checkYear rfl rfl rfl (by decide +kernel) ⟨Nat.le_of_ble_eq_true rfl, Nat.le_of_ble_eq_true rfl⟩) hK hP hD hS hth htb hlk [] rfl rfl rfl rfl hl.1 rfl (lv_room (Nat.le_of_ble_eq_true rfl)) dX0_marketLetters_1 ⟨Nat.le_of_ble_eq_true rfl, Nat.le_of_ble_eq_true rfl⟩
set_option maxHeartbeats 4000000 in
set_option maxRecDepth 100000 in
theorem k_X0_sundayLetters_x (l : Launch) (hfl : l.stackTraces = false) (D : va_G) (h0 ac ay ap : Nat) (cyI : ClassId) (ts : List (ClassId × FieldType)) (mk : Nat) (ch fy fp : Nat → Nat) (x : Int32) (hy0 : x.toInt < 1 ∨ 3000 < x.toInt) : pz_X l yX0_sundayLetters wsX0_sundayLetters ({ frames := 7, cells := 1, slots := 6, locals := 104 } : Room) D ((cyI, .int) :: ts) [.ref h0, .int x] [(h0, .inr (0, [.ref ac, .ref ay, .ref ap, .int (nI mk)])), (ac, .inl (cyI, 365, .inl (pz_ar ch))), (ay, .inl (cyI, 60, .inl (pz_ar fy))), (ap, .inl (cyI, 60, .inl (pz_ar fp)))] "java/lang/IndexOutOfBoundsException" := by
  refine pz_X_of (cc := cX0_sundayLetters) (maxL := 6) (ret := (some .int)) (own := RX0) (by decide) rfl rfl (Nat.le_of_ble_eq_true rfl) ?_
  intro p e s m below meth c ls hx hb hml hown hts hK hP hD hS hA hl hth htb hlk
  have hl : lv_has ls 6 [(0, .ref h0), (1, .int x)] := hl
  refine lv_iload_n hx hb dX0_sundayLetters_0 rfl (lv_at hl 1 rfl) ?_
  exact pz_SX (rest := []) ⟨hx, hb, hml, hown, hts⟩ (k_X0_checkYear_x l hfl D ((cyI, .int) :: ts) x (by omega)) (va_cwS 1 hts gX0_sundayLetters_X0_checkYear rfl rfl rfl (by decide +kernel) ⟨Nat.le_of_ble_eq_true rfl, Nat.le_of_ble_eq_true rfl⟩) hK hP hD hS hth htb hlk [] rfl rfl rfl rfl hl.1 rfl (lv_room (Nat.le_of_ble_eq_true rfl)) dX0_sundayLetters_1 ⟨Nat.le_of_ble_eq_true rfl, Nat.le_of_ble_eq_true rfl⟩
set_option maxHeartbeats 4000000 in
set_option maxRecDepth 100000 in
theorem k_X0_consulsOf_x (l : Launch) (hfl : l.stackTraces = false) (D : va_G) (h0 ac ay ap : Nat) (cyI : ClassId) (ts : List (ClassId × FieldType)) (mk : Nat) (ch fy fp : Nat → Nat) (x : Int32) (hy0 : x.toInt < 1 ∨ 3000 < x.toInt) : pz_X l yX0_consulsOf wsX0_consulsOf ({ frames := 7, cells := 1, slots := 6, locals := 104 } : Room) D ((cyI, .int) :: ts) [.ref h0, .int x] [(h0, .inr (0, [.ref ac, .ref ay, .ref ap, .int (nI mk)])), (ac, .inl (cyI, 365, .inl (pz_ar ch))), (ay, .inl (cyI, 60, .inl (pz_ar fy))), (ap, .inl (cyI, 60, .inl (pz_ar fp)))] "java/lang/IndexOutOfBoundsException" := by
  refine pz_X_of (cc := cX0_consulsOf) (maxL := 3) (ret := (some .int)) (own := RX0) (by decide) rfl rfl (Nat.le_of_ble_eq_true rfl) ?_
  intro p e s m below meth c ls hx hb hml hown hts hK hP hD hS hA hl hth htb hlk
  have hl : lv_has ls 3 [(0, .ref h0), (1, .int x)] := hl
  have hin : ∀ w ∈ u_ws RX0 TX0 4, w ∈ wsX0_consulsOf := by decide +kernel
  refine lv_iload_n hx hb dX0_consulsOf_0 rfl (lv_at hl 1 rfl) ?_
  exact pz_SX (rest := []) ⟨hx, hb, hml, hown, hts⟩ (k_X0_checkYear_x l hfl D ((cyI, .int) :: ts) x (by omega)) (va_cwS 1 hts gX0_consulsOf_X0_checkYear rfl rfl rfl (by decide +kernel) ⟨Nat.le_of_ble_eq_true rfl, Nat.le_of_ble_eq_true rfl⟩) hK hP hD hS hth htb hlk [] rfl rfl rfl rfl hl.1 rfl (lv_room (Nat.le_of_ble_eq_true rfl)) dX0_consulsOf_1 ⟨Nat.le_of_ble_eq_true rfl, Nat.le_of_ble_eq_true rfl⟩
set_option maxHeartbeats 4000000 in
set_option maxRecDepth 100000 in
theorem k_X0_afterConsuls_x (l : Launch) (hfl : l.stackTraces = false) (D : va_G) (h0 ac ay ap : Nat) (cyI : ClassId) (ts : List (ClassId × FieldType)) (mk : Nat) (ch fy fp : Nat → Nat) (x : Int32) (hy0 : x.toInt < 1 ∨ 3000 < x.toInt) : pz_X l yX0_afterConsuls wsX0_afterConsuls ({ frames := 7, cells := 1, slots := 6, locals := 104 } : Room) D ((cyI, .int) :: ts) [.ref h0, .int x] [(h0, .inr (0, [.ref ac, .ref ay, .ref ap, .int (nI mk)])), (ac, .inl (cyI, 365, .inl (pz_ar ch))), (ay, .inl (cyI, 60, .inl (pz_ar fy))), (ap, .inl (cyI, 60, .inl (pz_ar fp)))] "java/lang/IndexOutOfBoundsException" := by
  refine pz_X_of (cc := cX0_afterConsuls) (maxL := 5) (ret := (some .int)) (own := RX0) (by decide) rfl rfl (Nat.le_of_ble_eq_true rfl) ?_
  intro p e s m below meth c ls hx hb hml hown hts hK hP hD hS hA hl hth htb hlk
  have hl : lv_has ls 5 [(0, .ref h0), (1, .int x)] := hl
  have hin : ∀ w ∈ u_ws RX0 TX0 4, w ∈ wsX0_afterConsuls := by decide +kernel
  refine lv_iload_n hx hb dX0_afterConsuls_0 rfl (lv_at hl 1 rfl) ?_
  exact pz_SX (rest := []) ⟨hx, hb, hml, hown, hts⟩ (k_X0_checkYear_x l hfl D ((cyI, .int) :: ts) x (by omega)) (va_cwS 1 hts gX0_afterConsuls_X0_checkYear rfl rfl rfl (by decide +kernel) ⟨Nat.le_of_ble_eq_true rfl, Nat.le_of_ble_eq_true rfl⟩) hK hP hD hS hth htb hlk [] rfl rfl rfl rfl hl.1 rfl (lv_room (Nat.le_of_ble_eq_true rfl)) dX0_afterConsuls_1 ⟨Nat.le_of_ble_eq_true rfl, Nat.le_of_ble_eq_true rfl⟩
set_option maxHeartbeats 4000000 in
set_option maxRecDepth 100000 in
theorem k_X0_votes_x (l : Launch) (hfl : l.stackTraces = false) (D : va_G) (h0 ac ay ap : Nat) (cyI : ClassId) (ts : List (ClassId × FieldType)) (mk : Nat) (ch fy fp : Nat → Nat) (x : Int32) (hy0 : x.toInt < 1 ∨ 3000 < x.toInt) : pz_X l yX0_votes wsX0_votes ({ frames := 7, cells := 1, slots := 6, locals := 104 } : Room) D ((cyI, .int) :: ts) [.ref h0, .int x] [(h0, .inr (0, [.ref ac, .ref ay, .ref ap, .int (nI mk)])), (ac, .inl (cyI, 365, .inl (pz_ar ch))), (ay, .inl (cyI, 60, .inl (pz_ar fy))), (ap, .inl (cyI, 60, .inl (pz_ar fp)))] "java/lang/IndexOutOfBoundsException" := by
  refine pz_X_of (cc := cX0_votes) (maxL := 5) (ret := (some .int)) (own := RX0) (by decide) rfl rfl (Nat.le_of_ble_eq_true rfl) ?_
  intro p e s m below meth c ls hx hb hml hown hts hK hP hD hS hA hl hth htb hlk
  have hl : lv_has ls 5 [(0, .ref h0), (1, .int x)] := hl
  refine lv_iload_n hx hb dX0_votes_0 rfl (lv_at hl 1 rfl) ?_
  exact pz_SX (rest := []) ⟨hx, hb, hml, hown, hts⟩ (k_X0_checkYear_x l hfl D ((cyI, .int) :: ts) x (by omega)) (va_cwS 1 hts gX0_votes_X0_checkYear rfl rfl rfl (by decide +kernel) ⟨Nat.le_of_ble_eq_true rfl, Nat.le_of_ble_eq_true rfl⟩) hK hP hD hS hth htb hlk [] rfl rfl rfl rfl hl.1 rfl (lv_room (Nat.le_of_ble_eq_true rfl)) dX0_votes_1 ⟨Nat.le_of_ble_eq_true rfl, Nat.le_of_ble_eq_true rfl⟩
set_option maxHeartbeats 4000000 in
set_option maxRecDepth 100000 in
theorem k_X0_strikeConsuls_x (l : Launch) (hfl : l.stackTraces = false) (D : va_G) (h0 ac ay ap : Nat) (cyI : ClassId) (ts : List (ClassId × FieldType)) (mk : Nat) (ch fy fp : Nat → Nat) (x : Int32) (hy0 : x.toInt < 1 ∨ 3000 < x.toInt) : pz_X l yX0_strikeConsuls wsX0_strikeConsuls ({ frames := 7, cells := 1, slots := 6, locals := 104 } : Room) D ((cyI, .int) :: ts) [.ref h0, .int x] [(h0, .inr (0, [.ref ac, .ref ay, .ref ap, .int (nI mk)])), (ac, .inl (cyI, 365, .inl (pz_ar ch))), (ay, .inl (cyI, 60, .inl (pz_ar fy))), (ap, .inl (cyI, 60, .inl (pz_ar fp)))] "java/lang/IndexOutOfBoundsException" := by
  refine pz_X_of (cc := cX0_strikeConsuls) (maxL := 3) (ret := (some .int)) (own := RX0) (by decide) rfl rfl (Nat.le_of_ble_eq_true rfl) ?_
  intro p e s m below meth c ls hx hb hml hown hts hK hP hD hS hA hl hth htb hlk
  have hl : lv_has ls 3 [(0, .ref h0), (1, .int x)] := hl
  have hin : ∀ w ∈ u_ws RX0 TX0 4, w ∈ wsX0_strikeConsuls := by decide +kernel
  refine lv_iload_n hx hb dX0_strikeConsuls_0 rfl (lv_at hl 1 rfl) ?_
  exact pz_SX (rest := []) ⟨hx, hb, hml, hown, hts⟩ (k_X0_checkYear_x l hfl D ((cyI, .int) :: ts) x (by omega)) (va_cwS 1 hts gX0_strikeConsuls_X0_checkYear rfl rfl rfl (by decide +kernel) ⟨Nat.le_of_ble_eq_true rfl, Nat.le_of_ble_eq_true rfl⟩) hK hP hD hS hth htb hlk [] rfl rfl rfl rfl hl.1 rfl (lv_room (Nat.le_of_ble_eq_true rfl)) dX0_strikeConsuls_1 ⟨Nat.le_of_ble_eq_true rfl, Nat.le_of_ble_eq_true rfl⟩
set_option maxHeartbeats 4000000 in
set_option maxRecDepth 100000 in
theorem k_X0_setConsuls_x (l : Launch) (hfl : l.stackTraces = false) (D : va_G) (h0 ac ay ap : Nat) (cyI : ClassId) (ts : List (ClassId × FieldType)) (mk : Nat) (ch fy fp : Nat → Nat) (x x2 x3 : Int32) (hy0 : x.toInt < 1 ∨ 3000 < x.toInt) : pz_X l yX0_setConsuls wsX0_setConsuls ({ frames := 7, cells := 1, slots := 6, locals := 104 } : Room) D ((cyI, .int) :: ts) [.ref h0, .int x, .int x2, .int x3] [(h0, .inr (0, [.ref ac, .ref ay, .ref ap, .int (nI mk)])), (ac, .inl (cyI, 365, .inl (pz_ar ch))), (ay, .inl (cyI, 60, .inl (pz_ar fy))), (ap, .inl (cyI, 60, .inl (pz_ar fp)))] "java/lang/IndexOutOfBoundsException" := by
  refine pz_X_of (cc := cX0_setConsuls) (maxL := 5) (ret := (some .int)) (own := RX0) (by decide) rfl rfl (Nat.le_of_ble_eq_true rfl) ?_
  intro p e s m below meth c ls hx hb hml hown hts hK hP hD hS hA hl hth htb hlk
  have hl : lv_has ls 5 [(0, .ref h0), (1, .int x), (2, .int x2), (3, .int x3)] := hl
  have hin : ∀ w ∈ u_ws RX0 TX0 4, w ∈ wsX0_setConsuls := by decide +kernel
  refine lv_iload_n hx hb dX0_setConsuls_0 rfl (lv_at hl 1 rfl) ?_
  exact pz_SX (rest := []) ⟨hx, hb, hml, hown, hts⟩ (k_X0_checkYear_x l hfl D ((cyI, .int) :: ts) x (by omega)) (va_cwS 1 hts gX0_setConsuls_X0_checkYear rfl rfl rfl (by decide +kernel) ⟨Nat.le_of_ble_eq_true rfl, Nat.le_of_ble_eq_true rfl⟩) hK hP hD hS hth htb hlk [] rfl rfl rfl rfl hl.1 rfl (lv_room (Nat.le_of_ble_eq_true rfl)) dX0_setConsuls_1 ⟨Nat.le_of_ble_eq_true rfl, Nat.le_of_ble_eq_true rfl⟩
set_option maxHeartbeats 4000000 in
set_option maxRecDepth 100000 in
theorem k_X0_numberByCounting_x (l : Launch) (hfl : l.stackTraces = false) (D : va_G) (h0 ac ay ap : Nat) (cyI : ClassId) (ts : List (ClassId × FieldType)) (mk : Nat) (ch fy fp : Nat → Nat) (x1 x2 x3 : Int32) (hy0 : ¬ (1 ≤ x1.toInt ∧ x1.toInt ≤ 3000 ∧ 1 ≤ x2.toInt ∧ x2.toInt ≤ 12 ∧ 1 ≤ x3.toInt ∧ x3.toInt ≤ pm_ln x1.toInt.toNat x2.toInt.toNat)) : pz_X l yX0_numberByCounting wsX0_numberByCounting ({ frames := 8, cells := 1, slots := 6, locals := 126 } : Room) D ((cyI, .int) :: ts) [.ref h0, .int x1, .int x2, .int x3] [(h0, .inr (0, [.ref ac, .ref ay, .ref ap, .int (nI mk)])), (ac, .inl (cyI, 365, .inl (pz_ar ch))), (ay, .inl (cyI, 60, .inl (pz_ar fy))), (ap, .inl (cyI, 60, .inl (pz_ar fp)))] "java/lang/IndexOutOfBoundsException" := by
  refine pz_X_of (cc := cX0_numberByCounting) (maxL := 8) (ret := (some .int)) (own := RX0) (by decide) rfl rfl (Nat.le_of_ble_eq_true rfl) ?_
  intro p e s m below meth c ls hx hb hml hown hts hK hP hD hS hA hl hth htb hlk
  have hl : lv_has ls 8 [(0, .ref h0), (1, .int x1), (2, .int x2), (3, .int x3)] := hl
  refine lv_iload_n hx hb dX0_numberByCounting_0 rfl (lv_at hl 1 rfl) ?_
  refine lv_iload_n hx hb dX0_numberByCounting_1 rfl (lv_at hl 2 rfl) ?_
  refine lv_iload_n hx hb dX0_numberByCounting_2 rfl (lv_at hl 3 rfl) ?_
  exact pz_SX (rest := []) ⟨hx, hb, hml, hown, hts⟩ (k_X0_checkDate_x l hfl D ((cyI, .int) :: ts) x1 x2 x3 (by omega)) (va_cwS 3 hts gX0_numberByCounting_X0_checkDate rfl rfl rfl (by decide +kernel) ⟨Nat.le_of_ble_eq_true rfl, Nat.le_of_ble_eq_true rfl⟩) hK hP hD hS hth htb hlk [] rfl rfl rfl rfl hl.1 rfl (lv_room (Nat.le_of_ble_eq_true rfl)) dX0_numberByCounting_3 ⟨Nat.le_of_ble_eq_true rfl, Nat.le_of_ble_eq_true rfl⟩
set_option maxHeartbeats 4000000 in
set_option maxRecDepth 100000 in
theorem k_X0_fromCount_x (l : Launch) (hfl : l.stackTraces = false) (D : va_G) (h0 ac ay ap : Nat) (cyI : ClassId) (ts : List (ClassId × FieldType)) (mk : Nat) (ch fy fp : Nat → Nat) (x1 x2 x3 x4 x5 : Int32) (hy0 : ¬ (1 ≤ x1.toInt ∧ x1.toInt ≤ 3000 ∧ 1 ≤ x2.toInt ∧ x2.toInt ≤ 12)) : pz_X l yX0_fromCount wsX0_fromCount ({ frames := 7, cells := 1, slots := 6, locals := 104 } : Room) D ((cyI, .int) :: ts) [.ref h0, .int x1, .int x2, .int x3, .int x4, .int x5] [(h0, .inr (0, [.ref ac, .ref ay, .ref ap, .int (nI mk)])), (ac, .inl (cyI, 365, .inl (pz_ar ch))), (ay, .inl (cyI, 60, .inl (pz_ar fy))), (ap, .inl (cyI, 60, .inl (pz_ar fp)))] "java/lang/IndexOutOfBoundsException" := by
  refine pz_X_of (cc := cX0_fromCount) (maxL := 8) (ret := (some .int)) (own := RX0) (by decide) rfl rfl (Nat.le_of_ble_eq_true rfl) ?_
  intro p e s m below meth c ls hx hb hml hown hts hK hP hD hS hA hl hth htb hlk
  have hl : lv_has ls 8 [(0, .ref h0), (1, .int x1), (2, .int x2), (3, .int x3), (4, .int x4), (5, .int x5)] := hl
  refine lv_iload_n hx hb dX0_fromCount_0 rfl (lv_at hl 1 rfl) ?_
  rcases pz_rng x1 1 3000 (by decide) with ⟨y, hl_y, hh_y, rfl⟩ | hb_x1
  · -- in range
    have ei_y : (nI y).toInt = (y : Int) := nI_toInt (by omega)
    simp only [ei_y, Int.toNat_natCast] at hy0
    refine pz_SRV (rest := []) ⟨hx, hb, hml, hown, hts⟩ (k_X0_checkYear l D ((cyI, .int) :: ts) y (by omega) (by omega)) (va_cwS 1 hts gX0_fromCount_X0_checkYear rfl rfl rfl (by decide +kernel) ⟨Nat.le_of_ble_eq_true rfl, Nat.le_of_ble_eq_true rfl⟩) hK hP hD hS hA [] rfl rfl rfl rfl hl.1 rfl (lv_room (Nat.le_of_ble_eq_true rfl)) dX0_fromCount_1 ⟨Nat.le_of_ble_eq_true rfl, Nat.le_of_ble_eq_true rfl⟩ (fun H locs hP hS => ?_)
    refine lv_iload_n hx hb dX0_fromCount_4 rfl (lv_at hl 2 rfl) ?_
    exact pz_SX (rest := []) ⟨hx, hb, hml, hown, hts⟩ (k_X0_checkMonth_x l hfl D ((cyI, .int) :: ts) x2 (by omega)) (va_cwS 1 hts gX0_fromCount_X0_checkMonth rfl rfl rfl (by decide +kernel) ⟨Nat.le_of_ble_eq_true rfl, Nat.le_of_ble_eq_true rfl⟩) hK hP hD hS hth htb hlk [] rfl rfl rfl rfl hl.1 rfl (lv_room (Nat.le_of_ble_eq_true rfl)) dX0_fromCount_5 ⟨Nat.le_of_ble_eq_true rfl, Nat.le_of_ble_eq_true rfl⟩
  · -- outside
    exact pz_SX (rest := []) ⟨hx, hb, hml, hown, hts⟩ (k_X0_checkYear_x l hfl D ((cyI, .int) :: ts) x1 (by omega)) (va_cwS 1 hts gX0_fromCount_X0_checkYear rfl rfl rfl (by decide +kernel) ⟨Nat.le_of_ble_eq_true rfl, Nat.le_of_ble_eq_true rfl⟩) hK hP hD hS hth htb hlk [] rfl rfl rfl rfl hl.1 rfl (lv_room (Nat.le_of_ble_eq_true rfl)) dX0_fromCount_1 ⟨Nat.le_of_ble_eq_true rfl, Nat.le_of_ble_eq_true rfl⟩
set_option maxHeartbeats 4000000 in
set_option maxRecDepth 100000 in
theorem k_X0_termEnd_x (l : Launch) (hfl : l.stackTraces = false) (D : va_G) (h0 ac ay ap : Nat) (cyI : ClassId) (ts : List (ClassId × FieldType)) (mk : Nat) (ch fy fp : Nat → Nat) (x x2 : Int32) (hy0 : x.toInt < 0 ∨ 1095749 < x.toInt) : pz_X l yX0_termEnd wsX0_termEnd ({ frames := 7, cells := 1, slots := 6, locals := 104 } : Room) D ((cyI, .int) :: ts) [.ref h0, .int x, .int x2] [(h0, .inr (0, [.ref ac, .ref ay, .ref ap, .int (nI mk)])), (ac, .inl (cyI, 365, .inl (pz_ar ch))), (ay, .inl (cyI, 60, .inl (pz_ar fy))), (ap, .inl (cyI, 60, .inl (pz_ar fp)))] "java/lang/IndexOutOfBoundsException" := by
  refine pz_X_of (cc := cX0_termEnd) (maxL := 4) (ret := (some .int)) (own := RX0) (by decide) rfl rfl (Nat.le_of_ble_eq_true rfl) ?_
  intro p e s m below meth c ls hx hb hml hown hts hK hP hD hS hA hl hth htb hlk
  have hl : lv_has ls 4 [(0, .ref h0), (1, .int x), (2, .int x2)] := hl
  refine lv_iload_n hx hb dX0_termEnd_0 rfl (lv_at hl 1 rfl) ?_
  exact pz_SX (rest := []) ⟨hx, hb, hml, hown, hts⟩ (k_X0_checkNumber_x l hfl D ((cyI, .int) :: ts) x (by omega)) (va_cwS 1 hts gX0_termEnd_X0_checkNumber rfl rfl rfl (by decide +kernel) ⟨Nat.le_of_ble_eq_true rfl, Nat.le_of_ble_eq_true rfl⟩) hK hP hD hS hth htb hlk [] rfl rfl rfl rfl hl.1 rfl (lv_room (Nat.le_of_ble_eq_true rfl)) dX0_termEnd_1 ⟨Nat.le_of_ble_eq_true rfl, Nat.le_of_ble_eq_true rfl⟩
set_option maxHeartbeats 4000000 in
set_option maxRecDepth 100000 in
theorem k_X0_termEnd_x2 (l : Launch) (hfl : l.stackTraces = false) (D : va_G) (h0 ac ay ap : Nat) (cyI : ClassId) (ts : List (ClassId × FieldType)) (mk : Nat) (ch fy fp : Nat → Nat) (n : Nat) (x : Int32) (hy0 : n < 1095750) (hy1 : x.toInt < 0 ∨ 100000 < x.toInt) : pz_X l yX0_termEnd wsX0_termEnd ({ frames := 7, cells := 1, slots := 6, locals := 104 } : Room) D ((cyI, .int) :: ts) [.ref h0, .int (nI n), .int x] [(h0, .inr (0, [.ref ac, .ref ay, .ref ap, .int (nI mk)])), (ac, .inl (cyI, 365, .inl (pz_ar ch))), (ay, .inl (cyI, 60, .inl (pz_ar fy))), (ap, .inl (cyI, 60, .inl (pz_ar fp)))] "java/lang/IllegalArgumentException" := by
  refine pz_X_of (cc := cX0_termEnd) (maxL := 4) (ret := (some .int)) (own := RX0) (by decide) rfl rfl (Nat.le_of_ble_eq_true rfl) ?_
  intro p e s m below meth c ls hx hb hml hown hts hK hP hD hS hA hl hth htb hlk
  have hl : lv_has ls 4 [(0, .ref h0), (1, .int (nI n)), (2, .int x)] := hl
  refine lv_iload_n hx hb dX0_termEnd_0 rfl (lv_at hl 1 rfl) ?_
  refine pz_SRV (rest := []) ⟨hx, hb, hml, hown, hts⟩ (k_X0_checkNumber l D ((cyI, .int) :: ts) n (by omega)) (va_cwS 1 hts gX0_termEnd_X0_checkNumber rfl rfl rfl (by decide +kernel) ⟨Nat.le_of_ble_eq_true rfl, Nat.le_of_ble_eq_true rfl⟩) hK hP hD hS hA [] rfl rfl rfl rfl hl.1 rfl (lv_room (Nat.le_of_ble_eq_true rfl)) dX0_termEnd_1 ⟨Nat.le_of_ble_eq_true rfl, Nat.le_of_ble_eq_true rfl⟩ (fun H locs hP hS => ?_)
  refine lv_iload_n hx hb dX0_termEnd_4 rfl (lv_at hl 2 rfl) ?_
  refine pi_if_lt (tgt := 14) (a := (x).toInt) hx hb rfl dX0_termEnd_5 (by decide) (fun c_2 => ?_) (fun c_2 => ?_)
  · -- 5 yes
    exact pz_throw (E := "java/lang/IllegalArgumentException") (text := "days is out of range") hx hb hfl hown hts (by decide +kernel) (by decide +kernel) (by decide +kernel) (by decide +kernel) (by decide +kernel) (by decide +kernel) (hts (.classLink RX0 75 "java/lang/IllegalArgumentException") (by decide +kernel)) (hts (.initialized "java/lang/IllegalArgumentException") (by decide +kernel)) hS hth hl.1 hml htb hlk dX0_termEnd_14 dX0_termEnd_17 dX0_termEnd_18 dX0_termEnd_20 dX0_termEnd_23 (Nat.le_of_ble_eq_true rfl) (Nat.le_of_ble_eq_true rfl) (Nat.le_of_ble_eq_true rfl) (Nat.le_of_ble_eq_true rfl)
  · -- 5 no
    refine lv_iload_n hx hb dX0_termEnd_8 rfl (lv_at hl 2 rfl) ?_
    refine lv_ldc (v := nI 100000) hx hb hown (hts (.constant RX0 102 (100000)) (by decide +kernel)) dX0_termEnd_9 ?_
    refine pi_icmp_le (tgt := 24) (a := (x).toInt) (b := ((100000 : Nat) : Int)) hx hb rfl (nI_toInt (by omega)) dX0_termEnd_11 (by decide) (fun c_3 => ?_) (fun c_3 => ?_)
    · -- 11 yes
      exfalso; omega
    · -- 11 no
      exact pz_throw (E := "java/lang/IllegalArgumentException") (text := "days is out of range") hx hb hfl hown hts (by decide +kernel) (by decide +kernel) (by decide +kernel) (by decide +kernel) (by decide +kernel) (by decide +kernel) (hts (.classLink RX0 75 "java/lang/IllegalArgumentException") (by decide +kernel)) (hts (.initialized "java/lang/IllegalArgumentException") (by decide +kernel)) hS hth hl.1 hml htb hlk dX0_termEnd_14 dX0_termEnd_17 dX0_termEnd_18 dX0_termEnd_20 dX0_termEnd_23 (Nat.le_of_ble_eq_true rfl) (Nat.le_of_ble_eq_true rfl) (Nat.le_of_ble_eq_true rfl) (Nat.le_of_ble_eq_true rfl)
set_option maxHeartbeats 4000000 in
set_option maxRecDepth 100000 in
theorem k_X0_lawDays_x (l : Launch) (hfl : l.stackTraces = false) (D : va_G) (h0 ac ay ap : Nat) (cyI : ClassId) (ts : List (ClassId × FieldType)) (mk : Nat) (ch fy fp : Nat → Nat) (x1 x2 : Int32) (hy0 : ¬ (0 ≤ x1.toInt ∧ x1.toInt ≤ 1095749 ∧ 0 ≤ x2.toInt ∧ x2.toInt ≤ 1095749)) : pz_X l yX0_lawDays wsX0_lawDays ({ frames := 7, cells := 1, slots := 6, locals := 104 } : Room) D ((cyI, .int) :: ts) [.ref h0, .int x1, .int x2] [(h0, .inr (0, [.ref ac, .ref ay, .ref ap, .int (nI mk)])), (ac, .inl (cyI, 365, .inl (pz_ar ch))), (ay, .inl (cyI, 60, .inl (pz_ar fy))), (ap, .inl (cyI, 60, .inl (pz_ar fp)))] "java/lang/IndexOutOfBoundsException" := by
  refine pz_X_of (cc := cX0_lawDays) (maxL := 3) (ret := (some .int)) (own := RX0) (by decide) rfl rfl (Nat.le_of_ble_eq_true rfl) ?_
  intro p e s m below meth c ls hx hb hml hown hts hK hP hD hS hA hl hth htb hlk
  have hl : lv_has ls 3 [(0, .ref h0), (1, .int x1), (2, .int x2)] := hl
  refine lv_iload_n hx hb dX0_lawDays_0 rfl (lv_at hl 1 rfl) ?_
  rcases pz_rng x1 0 1095749 (by decide) with ⟨n, hl_n, hh_n, rfl⟩ | hb_x1
  · -- in range
    have ei_n : (nI n).toInt = (n : Int) := nI_toInt (by omega)
    simp only [ei_n, Int.toNat_natCast] at hy0
    refine pz_SRV (rest := []) ⟨hx, hb, hml, hown, hts⟩ (k_X0_checkNumber l D ((cyI, .int) :: ts) n (by omega)) (va_cwS 1 hts gX0_lawDays_X0_checkNumber rfl rfl rfl (by decide +kernel) ⟨Nat.le_of_ble_eq_true rfl, Nat.le_of_ble_eq_true rfl⟩) hK hP hD hS hA [] rfl rfl rfl rfl hl.1 rfl (lv_room (Nat.le_of_ble_eq_true rfl)) dX0_lawDays_1 ⟨Nat.le_of_ble_eq_true rfl, Nat.le_of_ble_eq_true rfl⟩ (fun H locs hP hS => ?_)
    refine lv_iload_n hx hb dX0_lawDays_4 rfl (lv_at hl 2 rfl) ?_
    exact pz_SX (rest := []) ⟨hx, hb, hml, hown, hts⟩ (k_X0_checkNumber_x l hfl D ((cyI, .int) :: ts) x2 (by omega)) (va_cwS 1 hts gX0_lawDays_X0_checkNumber rfl rfl rfl (by decide +kernel) ⟨Nat.le_of_ble_eq_true rfl, Nat.le_of_ble_eq_true rfl⟩) hK hP hD hS hth htb hlk [] rfl rfl rfl rfl hl.1 rfl (lv_room (Nat.le_of_ble_eq_true rfl)) dX0_lawDays_5 ⟨Nat.le_of_ble_eq_true rfl, Nat.le_of_ble_eq_true rfl⟩
  · -- outside
    exact pz_SX (rest := []) ⟨hx, hb, hml, hown, hts⟩ (k_X0_checkNumber_x l hfl D ((cyI, .int) :: ts) x1 (by omega)) (va_cwS 1 hts gX0_lawDays_X0_checkNumber rfl rfl rfl (by decide +kernel) ⟨Nat.le_of_ble_eq_true rfl, Nat.le_of_ble_eq_true rfl⟩) hK hP hD hS hth htb hlk [] rfl rfl rfl rfl hl.1 rfl (lv_room (Nat.le_of_ble_eq_true rfl)) dX0_lawDays_1 ⟨Nat.le_of_ble_eq_true rfl, Nat.le_of_ble_eq_true rfl⟩
set_option maxHeartbeats 4000000 in
set_option maxRecDepth 100000 in
theorem k_X0_yearOfConsuls_x (l : Launch) (hfl : l.stackTraces = false) (D : va_G) (h0 ac ay ap : Nat) (cyI : ClassId) (ts : List (ClassId × FieldType)) (mk : Nat) (ch fy fp : Nat → Nat) (x1 x2 x3 : Int32) (hy0 : x3.toInt < 1) : pz_X l yX0_yearOfConsuls wsX0_yearOfConsuls ({ frames := 6, cells := 1, slots := 6, locals := 84 } : Room) D ((cyI, .int) :: ts) [.ref h0, .int x1, .int x2, .int x3] [(h0, .inr (0, [.ref ac, .ref ay, .ref ap, .int (nI mk)])), (ac, .inl (cyI, 365, .inl (pz_ar ch))), (ay, .inl (cyI, 60, .inl (pz_ar fy))), (ap, .inl (cyI, 60, .inl (pz_ar fp)))] "java/lang/IllegalArgumentException" := by
  refine pz_X_of (cc := cX0_yearOfConsuls) (maxL := 6) (ret := (some .int)) (own := RX0) (by decide) rfl rfl (Nat.le_of_ble_eq_true rfl) ?_
  intro p e s m below meth c ls hx hb hml hown hts hK hP hD hS hA hl hth htb hlk
  have hl : lv_has ls 6 [(0, .ref h0), (1, .int x1), (2, .int x2), (3, .int x3)] := hl
  refine lv_iload_n hx hb dX0_yearOfConsuls_0 rfl (lv_at hl 3 rfl) ?_
  refine lv_iconst (v := nI 1) hx hb dX0_yearOfConsuls_1 (by decide) ?_
  refine pi_icmp_ge (tgt := 15) (a := (x3).toInt) (b := ((1 : Nat) : Int)) hx hb rfl (nI_toInt (by omega)) dX0_yearOfConsuls_2 (by decide) (fun c_1 => ?_) (fun c_1 => ?_)
  · -- 2 yes
    exfalso; omega
  · -- 2 no
    exact pz_throw (E := "java/lang/IllegalArgumentException") (text := "time is below 1") hx hb hfl hown hts (by decide +kernel) (by decide +kernel) (by decide +kernel) (by decide +kernel) (by decide +kernel) (by decide +kernel) (hts (.classLink RX0 75 "java/lang/IllegalArgumentException") (by decide +kernel)) (hts (.initialized "java/lang/IllegalArgumentException") (by decide +kernel)) hS hth hl.1 hml htb hlk dX0_yearOfConsuls_5 dX0_yearOfConsuls_8 dX0_yearOfConsuls_9 dX0_yearOfConsuls_11 dX0_yearOfConsuls_14 (Nat.le_of_ble_eq_true rfl) (Nat.le_of_ble_eq_true rfl) (Nat.le_of_ble_eq_true rfl) (Nat.le_of_ble_eq_true rfl)
set_option maxHeartbeats 4000000 in
set_option maxRecDepth 100000 in
theorem k_X0_setCharacter_x (l : Launch) (hfl : l.stackTraces = false) (D : va_G) (h0 ac ay ap : Nat) (cyI : ClassId) (ts : List (ClassId × FieldType)) (mk : Nat) (ch fy fp : Nat → Nat) (x1 x2 : Int32) (hy0 : x1.toInt < 1 ∨ 365 < x1.toInt) : pz_X l yX0_setCharacter wsX0_setCharacter ({ frames := 6, cells := 1, slots := 6, locals := 84 } : Room) D ((cyI, .int) :: ts) [.ref h0, .int x1, .int x2] [(h0, .inr (0, [.ref ac, .ref ay, .ref ap, .int (nI mk)])), (ac, .inl (cyI, 365, .inl (pz_ar ch))), (ay, .inl (cyI, 60, .inl (pz_ar fy))), (ap, .inl (cyI, 60, .inl (pz_ar fp)))] "java/lang/IndexOutOfBoundsException" := by
  refine pz_X_of (cc := cX0_setCharacter) (maxL := 4) (ret := (some .int)) (own := RX0) (by decide) rfl rfl (Nat.le_of_ble_eq_true rfl) ?_
  intro p e s m below meth c ls hx hb hml hown hts hK hP hD hS hA hl hth htb hlk
  have hl : lv_has ls 4 [(0, .ref h0), (1, .int x1), (2, .int x2)] := hl
  refine lv_iload_n hx hb dX0_setCharacter_0 rfl (lv_at hl 1 rfl) ?_
  refine pz_SR (rest := []) ⟨hx, hb, hml, hown, hts⟩ (k_X0_isPlace l D ((cyI, .int) :: ts) x1 ) (va_cwS 1 hts gX0_setCharacter_X0_isPlace rfl rfl rfl (by decide +kernel) ⟨Nat.le_of_ble_eq_true rfl, Nat.le_of_ble_eq_true rfl⟩) hK hP hD hS hA [] rfl rfl rfl rfl hl.1 rfl (lv_room (Nat.le_of_ble_eq_true rfl)) dX0_setCharacter_1 ⟨Nat.le_of_ble_eq_true rfl, Nat.le_of_ble_eq_true rfl⟩ (fun r H locs hr hP hS => ?_)
  obtain rfl : r = (pz_b (1 ≤ x1.toInt ∧ x1.toInt ≤ 365)) := hr
  refine pb_if_ne (tgt := 17) hx hb dX0_setCharacter_4 (by decide) (fun c_2 => ?_) (fun c_2 => ?_)
  · -- 4 yes
    exfalso; omega
  · -- 4 no
    exact pz_throw (E := "java/lang/IndexOutOfBoundsException") (text := "no such place") hx hb hfl hown hts (by decide +kernel) (by decide +kernel) (by decide +kernel) (by decide +kernel) (by decide +kernel) (by decide +kernel) (hts (.classLink RX0 153 "java/lang/IndexOutOfBoundsException") (by decide +kernel)) (hts (.initialized "java/lang/IndexOutOfBoundsException") (by decide +kernel)) hS hth hl.1 hml htb hlk dX0_setCharacter_7 dX0_setCharacter_10 dX0_setCharacter_11 dX0_setCharacter_13 dX0_setCharacter_16 (Nat.le_of_ble_eq_true rfl) (Nat.le_of_ble_eq_true rfl) (Nat.le_of_ble_eq_true rfl) (Nat.le_of_ble_eq_true rfl)
set_option maxHeartbeats 4000000 in
set_option maxRecDepth 100000 in
theorem k_X0_setCharacter_x2 (l : Launch) (hfl : l.stackTraces = false) (D : va_G) (h0 ac ay ap : Nat) (cyI : ClassId) (ts : List (ClassId × FieldType)) (mk : Nat) (ch fy fp : Nat → Nat) (x1 x2 : Int32) (hy0 : 1 ≤ x1.toInt) (hy1 : x1.toInt ≤ 365) (hy2 : x2.toInt < 0 ∨ 3 < x2.toInt) : pz_X l yX0_setCharacter wsX0_setCharacter ({ frames := 6, cells := 1, slots := 6, locals := 84 } : Room) D ((cyI, .int) :: ts) [.ref h0, .int x1, .int x2] [(h0, .inr (0, [.ref ac, .ref ay, .ref ap, .int (nI mk)])), (ac, .inl (cyI, 365, .inl (pz_ar ch))), (ay, .inl (cyI, 60, .inl (pz_ar fy))), (ap, .inl (cyI, 60, .inl (pz_ar fp)))] "java/lang/IllegalArgumentException" := by
  refine pz_X_of (cc := cX0_setCharacter) (maxL := 4) (ret := (some .int)) (own := RX0) (by decide) rfl rfl (Nat.le_of_ble_eq_true rfl) ?_
  intro p e s m below meth c ls hx hb hml hown hts hK hP hD hS hA hl hth htb hlk
  have hl : lv_has ls 4 [(0, .ref h0), (1, .int x1), (2, .int x2)] := hl
  refine lv_iload_n hx hb dX0_setCharacter_0 rfl (lv_at hl 1 rfl) ?_
  refine pz_SR (rest := []) ⟨hx, hb, hml, hown, hts⟩ (k_X0_isPlace l D ((cyI, .int) :: ts) x1 ) (va_cwS 1 hts gX0_setCharacter_X0_isPlace rfl rfl rfl (by decide +kernel) ⟨Nat.le_of_ble_eq_true rfl, Nat.le_of_ble_eq_true rfl⟩) hK hP hD hS hA [] rfl rfl rfl rfl hl.1 rfl (lv_room (Nat.le_of_ble_eq_true rfl)) dX0_setCharacter_1 ⟨Nat.le_of_ble_eq_true rfl, Nat.le_of_ble_eq_true rfl⟩ (fun r H locs hr hP hS => ?_)
  obtain rfl : r = (pz_b (1 ≤ x1.toInt ∧ x1.toInt ≤ 365)) := hr
  refine pb_if_ne (tgt := 17) hx hb dX0_setCharacter_4 (by decide) (fun c_2 => ?_) (fun c_2 => ?_)
  · -- 4 yes
    refine lv_iload_n hx hb dX0_setCharacter_17 rfl (lv_at hl 2 rfl) ?_
    refine pi_if_lt (tgt := 26) (a := (x2).toInt) hx hb rfl dX0_setCharacter_18 (by decide) (fun c_3 => ?_) (fun c_3 => ?_)
    · -- 18 yes
      exact pz_throw (E := "java/lang/IllegalArgumentException") (text := "no such character") hx hb hfl hown hts (by decide +kernel) (by decide +kernel) (by decide +kernel) (by decide +kernel) (by decide +kernel) (by decide +kernel) (hts (.classLink RX0 75 "java/lang/IllegalArgumentException") (by decide +kernel)) (hts (.initialized "java/lang/IllegalArgumentException") (by decide +kernel)) hS hth hl.1 hml htb hlk dX0_setCharacter_26 dX0_setCharacter_29 dX0_setCharacter_30 dX0_setCharacter_32 dX0_setCharacter_35 (Nat.le_of_ble_eq_true rfl) (Nat.le_of_ble_eq_true rfl) (Nat.le_of_ble_eq_true rfl) (Nat.le_of_ble_eq_true rfl)
    · -- 18 no
      refine lv_iload_n hx hb dX0_setCharacter_21 rfl (lv_at hl 2 rfl) ?_
      refine lv_iconst (v := nI 3) hx hb dX0_setCharacter_22 (by decide) ?_
      refine pi_icmp_le (tgt := 36) (a := (x2).toInt) (b := ((3 : Nat) : Int)) hx hb rfl (nI_toInt (by omega)) dX0_setCharacter_23 (by decide) (fun c_4 => ?_) (fun c_4 => ?_)
      · -- 23 yes
        exfalso; omega
      · -- 23 no
        exact pz_throw (E := "java/lang/IllegalArgumentException") (text := "no such character") hx hb hfl hown hts (by decide +kernel) (by decide +kernel) (by decide +kernel) (by decide +kernel) (by decide +kernel) (by decide +kernel) (hts (.classLink RX0 75 "java/lang/IllegalArgumentException") (by decide +kernel)) (hts (.initialized "java/lang/IllegalArgumentException") (by decide +kernel)) hS hth hl.1 hml htb hlk dX0_setCharacter_26 dX0_setCharacter_29 dX0_setCharacter_30 dX0_setCharacter_32 dX0_setCharacter_35 (Nat.le_of_ble_eq_true rfl) (Nat.le_of_ble_eq_true rfl) (Nat.le_of_ble_eq_true rfl) (Nat.le_of_ble_eq_true rfl)
  · -- 4 no
    exfalso; omega
end PZ2
