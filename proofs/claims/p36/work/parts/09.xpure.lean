section PZ1
set_option maxHeartbeats 4000000 in
set_option maxRecDepth 100000 in
theorem k_X0_isPlace (l : Launch) (D : va_G) (ts : List (ClassId × FieldType)) (x : Int32)  : pz_R l yX0_isPlace wsX0_isPlace ({ frames := 0, cells := 0, slots := 0, locals := 0 } : Room) D ts [.int x] [] (fun r => r = pz_b (1 ≤ x.toInt ∧ x.toInt ≤ 365)) := by
  refine pz_R_of (cc := cX0_isPlace) (maxL := 1) (ty := .boolean) (own := RX0) (by decide) rfl rfl (Nat.le_of_ble_eq_true rfl) ?_
  intro p e s m below meth c A ls Q hx hb hml hown hts hK hP hD hS hA hl hQ
  have hl : lv_has ls 1 [(0, .int x)] := hl
  refine lv_iload_n hx hb dX0_isPlace_0 rfl (lv_at hl 0 rfl) ?_
  refine lv_iconst (v := nI 1) hx hb dX0_isPlace_1 (by decide) ?_
  refine pi_icmp_lt (tgt := 16) (a := (x).toInt) (b := ((1 : Nat) : Int)) hx hb rfl (nI_toInt (by omega)) dX0_isPlace_2 (by decide) (fun c_1 => ?_) (fun c_1 => ?_)
  · -- 2 yes
    refine lv_iconst (v := nI 0) hx hb dX0_isPlace_16 (by decide) ?_
    exact hQ _ _ _ _ _ dX0_isPlace_17 (by decide) (pz_bf (by omega)) hS
  · -- 2 no
    refine lv_iload_n hx hb dX0_isPlace_5 rfl (lv_at hl 0 rfl) ?_
    refine lv_sipush (v := nI 365) hx hb dX0_isPlace_6 (by decide) ?_
    refine pi_icmp_gt (tgt := 16) (a := (x).toInt) (b := ((365 : Nat) : Int)) hx hb rfl (nI_toInt (by omega)) dX0_isPlace_9 (by decide) (fun c_2 => ?_) (fun c_2 => ?_)
    · -- 9 yes
      refine lv_iconst (v := nI 0) hx hb dX0_isPlace_16 (by decide) ?_
      exact hQ _ _ _ _ _ dX0_isPlace_17 (by decide) (pz_bf (by omega)) hS
    · -- 9 no
      refine lv_iconst (v := nI 1) hx hb dX0_isPlace_12 (by decide) ?_
      refine lv_goto (tgt := 17) hx hb dX0_isPlace_13 (by decide) ?_
      exact hQ _ _ _ _ _ dX0_isPlace_17 (by decide) (pz_bt (by omega)) hS
set_option maxHeartbeats 4000000 in
set_option maxRecDepth 100000 in
theorem k_X0_isConsul (l : Launch) (D : va_G) (ts : List (ClassId × FieldType)) (x : Int32)  : pz_R l yX0_isConsul wsX0_isConsul ({ frames := 0, cells := 0, slots := 0, locals := 0 } : Room) D ts [.int x] [] (fun r => r = pz_b (1 ≤ x.toInt ∧ x.toInt ≤ 999)) := by
  refine pz_R_of (cc := cX0_isConsul) (maxL := 1) (ty := .boolean) (own := RX0) (by decide) rfl rfl (Nat.le_of_ble_eq_true rfl) ?_
  intro p e s m below meth c A ls Q hx hb hml hown hts hK hP hD hS hA hl hQ
  have hl : lv_has ls 1 [(0, .int x)] := hl
  refine lv_iload_n hx hb dX0_isConsul_0 rfl (lv_at hl 0 rfl) ?_
  refine lv_iconst (v := nI 1) hx hb dX0_isConsul_1 (by decide) ?_
  refine pi_icmp_lt (tgt := 16) (a := (x).toInt) (b := ((1 : Nat) : Int)) hx hb rfl (nI_toInt (by omega)) dX0_isConsul_2 (by decide) (fun c_1 => ?_) (fun c_1 => ?_)
  · -- 2 yes
    refine lv_iconst (v := nI 0) hx hb dX0_isConsul_16 (by decide) ?_
    exact hQ _ _ _ _ _ dX0_isConsul_17 (by decide) (pz_bf (by omega)) hS
  · -- 2 no
    refine lv_iload_n hx hb dX0_isConsul_5 rfl (lv_at hl 0 rfl) ?_
    refine lv_sipush (v := nI 999) hx hb dX0_isConsul_6 (by decide) ?_
    refine pi_icmp_gt (tgt := 16) (a := (x).toInt) (b := ((999 : Nat) : Int)) hx hb rfl (nI_toInt (by omega)) dX0_isConsul_9 (by decide) (fun c_2 => ?_) (fun c_2 => ?_)
    · -- 9 yes
      refine lv_iconst (v := nI 0) hx hb dX0_isConsul_16 (by decide) ?_
      exact hQ _ _ _ _ _ dX0_isConsul_17 (by decide) (pz_bf (by omega)) hS
    · -- 9 no
      refine lv_iconst (v := nI 1) hx hb dX0_isConsul_12 (by decide) ?_
      refine lv_goto (tgt := 17) hx hb dX0_isConsul_13 (by decide) ?_
      exact hQ _ _ _ _ _ dX0_isConsul_17 (by decide) (pz_bt (by omega)) hS
set_option maxHeartbeats 4000000 in
set_option maxRecDepth 100000 in
theorem k_X0_isSlot (l : Launch) (D : va_G) (ts : List (ClassId × FieldType)) (x : Int32)  : pz_R l yX0_isSlot wsX0_isSlot ({ frames := 0, cells := 0, slots := 0, locals := 0 } : Room) D ts [.int x] [] (fun r => r = pz_b (0 ≤ x.toInt ∧ x.toInt < 60)) := by
  refine pz_R_of (cc := cX0_isSlot) (maxL := 1) (ty := .boolean) (own := RX0) (by decide) rfl rfl (Nat.le_of_ble_eq_true rfl) ?_
  intro p e s m below meth c A ls Q hx hb hml hown hts hK hP hD hS hA hl hQ
  have hl : lv_has ls 1 [(0, .int x)] := hl
  refine lv_iload_n hx hb dX0_isSlot_0 rfl (lv_at hl 0 rfl) ?_
  refine pi_if_lt (tgt := 14) (a := (x).toInt) hx hb rfl dX0_isSlot_1 (by decide) (fun c_1 => ?_) (fun c_1 => ?_)
  · -- 1 yes
    refine lv_iconst (v := nI 0) hx hb dX0_isSlot_14 (by decide) ?_
    exact hQ _ _ _ _ _ dX0_isSlot_15 (by decide) (pz_bf (by omega)) hS
  · -- 1 no
    refine lv_iload_n hx hb dX0_isSlot_4 rfl (lv_at hl 0 rfl) ?_
    refine lv_bipush (v := nI 60) hx hb dX0_isSlot_5 (by decide) ?_
    refine pi_icmp_ge (tgt := 14) (a := (x).toInt) (b := ((60 : Nat) : Int)) hx hb rfl (nI_toInt (by omega)) dX0_isSlot_7 (by decide) (fun c_2 => ?_) (fun c_2 => ?_)
    · -- 7 yes
      refine lv_iconst (v := nI 0) hx hb dX0_isSlot_14 (by decide) ?_
      exact hQ _ _ _ _ _ dX0_isSlot_15 (by decide) (pz_bf (by omega)) hS
    · -- 7 no
      refine lv_iconst (v := nI 1) hx hb dX0_isSlot_10 (by decide) ?_
      refine lv_goto (tgt := 15) hx hb dX0_isSlot_11 (by decide) ?_
      exact hQ _ _ _ _ _ dX0_isSlot_15 (by decide) (pz_bt (by omega)) hS
set_option maxHeartbeats 4000000 in
set_option maxRecDepth 100000 in
theorem k_X0_isLeap (l : Launch) (D : va_G) (ts : List (ClassId × FieldType)) (y : Nat) (hy0 : y ≤ 4000) : pz_R l yX0_isLeap wsX0_isLeap ({ frames := 0, cells := 0, slots := 0, locals := 0 } : Room) D ts [.int (nI y)] [] (fun r => r = pz_b (y % 4 = 0)) := by
  refine pz_R_of (cc := cX0_isLeap) (maxL := 1) (ty := .boolean) (own := RX0) (by decide) rfl rfl (Nat.le_of_ble_eq_true rfl) ?_
  intro p e s m below meth c A ls Q hx hb hml hown hts hK hP hD hS hA hl hQ
  have hl : lv_has ls 1 [(0, .int (nI y))] := hl
  refine lv_iload_n hx hb dX0_isLeap_0 rfl (lv_at hl 0 rfl) ?_
  refine lv_iconst (v := nI 4) hx hb dX0_isLeap_1 (by decide) ?_
  refine pn_irem hx hb (by omega) (by omega) (by omega) dX0_isLeap_2 ?_
  refine pn_if_ne (tgt := 10) hx hb (by omega) dX0_isLeap_3 (by decide) (fun c_1 => ?_) (fun c_1 => ?_)
  · -- 3 yes
    refine lv_iconst (v := nI 0) hx hb dX0_isLeap_10 (by decide) ?_
    exact hQ _ _ _ _ _ dX0_isLeap_11 (by decide) (pz_bf (by omega)) hS
  · -- 3 no
    refine lv_iconst (v := nI 1) hx hb dX0_isLeap_6 (by decide) ?_
    refine lv_goto (tgt := 11) hx hb dX0_isLeap_7 (by decide) ?_
    exact hQ _ _ _ _ _ dX0_isLeap_11 (by decide) (pz_bt (by omega)) hS
set_option maxHeartbeats 4000000 in
set_option maxRecDepth 100000 in
theorem k_X0_firstDayOf (l : Launch) (D : va_G) (ts : List (ClassId × FieldType)) (y : Nat) (hy0 : 1 ≤ y) (hy1 : y ≤ 3001) : pz_R l yX0_firstDayOf wsX0_firstDayOf ({ frames := 0, cells := 0, slots := 0, locals := 0 } : Room) D ts [.int (nI y)] [] (fun r => r = nI (pm_fd y)) := by
  refine pz_R_of (cc := cX0_firstDayOf) (maxL := 1) (ty := .int) (own := RX0) (by decide) rfl rfl (Nat.le_of_ble_eq_true rfl) ?_
  intro p e s m below meth c A ls Q hx hb hml hown hts hK hP hD hS hA hl hQ
  have hl : lv_has ls 1 [(0, .int (nI y))] := hl
  refine lv_iload_n hx hb dX0_firstDayOf_0 rfl (lv_at hl 0 rfl) ?_
  refine lv_iconst (v := nI 1) hx hb dX0_firstDayOf_1 (by decide) ?_
  refine pn_isub hx hb (by omega) dX0_firstDayOf_2 ?_
  refine lv_sipush (v := nI 365) hx hb dX0_firstDayOf_3 (by decide) ?_
  refine pn_imul hx hb dX0_firstDayOf_6 ?_
  refine lv_iload_n hx hb dX0_firstDayOf_7 rfl (lv_at hl 0 rfl) ?_
  refine lv_iconst (v := nI 1) hx hb dX0_firstDayOf_8 (by decide) ?_
  refine pn_isub hx hb (by omega) dX0_firstDayOf_9 ?_
  refine lv_iconst (v := nI 4) hx hb dX0_firstDayOf_10 (by decide) ?_
  refine pn_idiv hx hb (by omega) (by omega) (by omega) dX0_firstDayOf_11 ?_
  refine pn_iadd hx hb dX0_firstDayOf_12 ?_
  exact hQ _ _ _ _ _ dX0_firstDayOf_13 rfl (congrArg nI (by rfl)) hS
set_option maxHeartbeats 4000000 in
set_option maxRecDepth 100000 in
theorem k_X0_lastDayOf (l : Launch) (D : va_G) (ts : List (ClassId × FieldType)) (y : Nat) (hy0 : 1 ≤ y) (hy1 : y ≤ 3000) : pz_R l yX0_lastDayOf wsX0_lastDayOf ({ frames := 1, cells := 0, slots := 0, locals := 20 } : Room) D ts [.int (nI y)] [] (fun r => r = nI (pm_fd (y + 1) - 1)) := by
  refine pz_R_of (cc := cX0_lastDayOf) (maxL := 1) (ty := .int) (own := RX0) (by decide) rfl rfl (Nat.le_of_ble_eq_true rfl) ?_
  intro p e s m below meth c A ls Q hx hb hml hown hts hK hP hD hS hA hl hQ
  have hl : lv_has ls 1 [(0, .int (nI y))] := hl
  refine lv_iload_n hx hb dX0_lastDayOf_0 rfl (lv_at hl 0 rfl) ?_
  refine lv_iconst (v := nI 1) hx hb dX0_lastDayOf_1 (by decide) ?_
  refine pn_iadd hx hb dX0_lastDayOf_2 ?_
  refine pz_SR (rest := []) ⟨hx, hb, hml, hown, hts⟩ (k_X0_firstDayOf l D ts (y + 1) (by omega) (by omega)) (va_cwS 1 hts gX0_lastDayOf_X0_firstDayOf rfl rfl rfl (by decide +kernel) ⟨Nat.le_of_ble_eq_true rfl, Nat.le_of_ble_eq_true rfl⟩) hK hP hD hS hA [] rfl rfl rfl rfl hl.1 rfl (lv_room (Nat.le_of_ble_eq_true rfl)) dX0_lastDayOf_3 ⟨Nat.le_of_ble_eq_true rfl, Nat.le_of_ble_eq_true rfl⟩ (fun r H locs hr hP hS => ?_)
  obtain rfl : r = (nI (pm_fd (y + 1))) := hr
  have hf_2 := pm_fd_e (y + 1)
  refine lv_iconst (v := nI 1) hx hb dX0_lastDayOf_6 (by decide) ?_
  refine pn_isub hx hb (by omega) dX0_lastDayOf_7 ?_
  exact hQ _ _ _ _ _ dX0_lastDayOf_8 rfl (congrArg nI (by rfl)) hS
set_option maxHeartbeats 4000000 in
set_option maxRecDepth 100000 in
theorem k_X0_yearAt (l : Launch) (D : va_G) (ts : List (ClassId × FieldType)) (n : Nat) (hy0 : n < 1095750) : pz_R l yX0_yearAt wsX0_yearAt ({ frames := 1, cells := 0, slots := 0, locals := 21 } : Room) D ts [.int (nI n)] [] (fun r => r = nI (pm_yr n)) := by
  refine pz_R_of (cc := cX0_yearAt) (maxL := 2) (ty := .int) (own := RX0) (by decide) rfl rfl (Nat.le_of_ble_eq_true rfl) ?_
  intro p e s m below meth c A ls Q hx hb hml hown hts hK hP hD hS hA hl hQ
  have hl : lv_has ls 2 [(0, .int (nI n))] := hl
  refine lv_iload_n hx hb dX0_yearAt_0 rfl (lv_at hl 0 rfl) ?_
  refine lv_sipush (v := nI 1461) hx hb dX0_yearAt_1 (by decide) ?_
  refine pn_irem hx hb (by omega) (by omega) (by omega) dX0_yearAt_4 ?_
  refine lv_sipush (v := nI 365) hx hb dX0_yearAt_5 (by decide) ?_
  refine pn_idiv hx hb (by omega) (by omega) (by omega) dX0_yearAt_8 ?_
  refine lv_iconst (v := nI 3) hx hb dX0_yearAt_9 (by decide) ?_
  refine pn_min hx hb (by rw [hml]; exact hl.1.symm) hown (hts (.methodLink RX0 166 Lib.Math.min.name) (by decide +kernel)) (hts (.static Lib.Math.min.name) (by decide +kernel)) (hts (.initialized "java/lang/Math") (by decide +kernel)) (hts (.code Lib.Math.min.name Lib.Math.min.code 2 (some .int)) (by decide +kernel)) (Nat.le_of_ble_eq_true rfl) (Nat.le_of_ble_eq_true rfl) (Nat.zero_le _) (Nat.zero_le _) (by omega) (by omega) dX0_yearAt_10 ?_
  refine lv_istore_n (lv' := [(1, .int (nI (min ((n % 1461) / 365) 3))), (0, .int (nI n))]) hx hb dX0_yearAt_13 rfl hl (by decide) rfl (fun ls hl => ?_)
  refine lv_iload_n hx hb dX0_yearAt_14 rfl (lv_at hl 1 rfl) ?_
  refine lv_sipush (v := nI 1461) hx hb dX0_yearAt_15 (by decide) ?_
  refine pn_idiv hx hb (by omega) (by omega) (by omega) dX0_yearAt_18 ?_
  refine lv_iconst (v := nI 4) hx hb dX0_yearAt_19 (by decide) ?_
  refine pn_imul hx hb dX0_yearAt_20 ?_
  refine lv_iload_n hx hb dX0_yearAt_21 rfl (lv_at hl 0 rfl) ?_
  refine pn_iadd hx hb dX0_yearAt_22 ?_
  refine lv_iconst (v := nI 1) hx hb dX0_yearAt_23 (by decide) ?_
  refine pn_iadd hx hb dX0_yearAt_24 ?_
  exact hQ _ _ _ _ _ dX0_yearAt_25 rfl (congrArg nI (by rfl)) hS
set_option maxHeartbeats 4000000 in
set_option maxRecDepth 100000 in
theorem k_X0_commonLengthOf (l : Launch) (D : va_G) (ts : List (ClassId × FieldType)) (mm : Nat) (hy0 : mm ≤ 13) : pz_R l yX0_commonLengthOf wsX0_commonLengthOf ({ frames := 0, cells := 0, slots := 0, locals := 0 } : Room) D ts [.int (nI mm)] [] (fun r => r = nI (pm_cl mm)) := by
  refine pz_R_of (cc := cX0_commonLengthOf) (maxL := 1) (ty := .int) (own := RX0) (by decide) rfl rfl (Nat.le_of_ble_eq_true rfl) ?_
  intro p e s m below meth c A ls Q hx hb hml hown hts hK hP hD hS hA hl hQ
  have hl : lv_has ls 1 [(0, .int (nI mm))] := hl
  refine lv_iload_n hx hb dX0_commonLengthOf_0 rfl (lv_at hl 0 rfl) ?_
  rcases (by omega : mm = 2 ∨ mm = 3 ∨ mm = 4 ∨ mm = 5 ∨ mm = 6 ∨ mm = 7 ∨ mm = 8 ∨ mm = 9 ∨ mm = 10 ∨ mm = 11 ∨ (mm < 2 ∨ 11 < mm)) with rfl | rfl | rfl | rfl | rfl | rfl | rfl | rfl | rfl | rfl | hsw
  · -- case 2
    refine pn_tin (off := 55) (tgt := 56) hx hb (by decide) dX0_commonLengthOf_1 (by decide) (by decide) (by decide) (by decide) ?_
    refine lv_bipush (v := nI 28) hx hb dX0_commonLengthOf_56 (by decide) ?_
    exact hQ _ _ _ _ _ dX0_commonLengthOf_58 rfl (congrArg nI (by first | decide | (unfold pm_cl; (repeat' split) <;> omega))) hS
  · -- case 3
    refine pn_tin (off := 61) (tgt := 62) hx hb (by decide) dX0_commonLengthOf_1 (by decide) (by decide) (by decide) (by decide) ?_
    refine lv_bipush (v := nI 31) hx hb dX0_commonLengthOf_62 (by decide) ?_
    exact hQ _ _ _ _ _ dX0_commonLengthOf_64 rfl (congrArg nI (by first | decide | (unfold pm_cl; (repeat' split) <;> omega))) hS
  · -- case 4
    refine pn_tin (off := 58) (tgt := 59) hx hb (by decide) dX0_commonLengthOf_1 (by decide) (by decide) (by decide) (by decide) ?_
    refine lv_bipush (v := nI 30) hx hb dX0_commonLengthOf_59 (by decide) ?_
    exact hQ _ _ _ _ _ dX0_commonLengthOf_61 rfl (congrArg nI (by first | decide | (unfold pm_cl; (repeat' split) <;> omega))) hS
  · -- case 5
    refine pn_tin (off := 61) (tgt := 62) hx hb (by decide) dX0_commonLengthOf_1 (by decide) (by decide) (by decide) (by decide) ?_
    refine lv_bipush (v := nI 31) hx hb dX0_commonLengthOf_62 (by decide) ?_
    exact hQ _ _ _ _ _ dX0_commonLengthOf_64 rfl (congrArg nI (by first | decide | (unfold pm_cl; (repeat' split) <;> omega))) hS
  · -- case 6
    refine pn_tin (off := 58) (tgt := 59) hx hb (by decide) dX0_commonLengthOf_1 (by decide) (by decide) (by decide) (by decide) ?_
    refine lv_bipush (v := nI 30) hx hb dX0_commonLengthOf_59 (by decide) ?_
    exact hQ _ _ _ _ _ dX0_commonLengthOf_61 rfl (congrArg nI (by first | decide | (unfold pm_cl; (repeat' split) <;> omega))) hS
  · -- case 7
    refine pn_tin (off := 61) (tgt := 62) hx hb (by decide) dX0_commonLengthOf_1 (by decide) (by decide) (by decide) (by decide) ?_
    refine lv_bipush (v := nI 31) hx hb dX0_commonLengthOf_62 (by decide) ?_
    exact hQ _ _ _ _ _ dX0_commonLengthOf_64 rfl (congrArg nI (by first | decide | (unfold pm_cl; (repeat' split) <;> omega))) hS
  · -- case 8
    refine pn_tin (off := 61) (tgt := 62) hx hb (by decide) dX0_commonLengthOf_1 (by decide) (by decide) (by decide) (by decide) ?_
    refine lv_bipush (v := nI 31) hx hb dX0_commonLengthOf_62 (by decide) ?_
    exact hQ _ _ _ _ _ dX0_commonLengthOf_64 rfl (congrArg nI (by first | decide | (unfold pm_cl; (repeat' split) <;> omega))) hS
  · -- case 9
    refine pn_tin (off := 58) (tgt := 59) hx hb (by decide) dX0_commonLengthOf_1 (by decide) (by decide) (by decide) (by decide) ?_
    refine lv_bipush (v := nI 30) hx hb dX0_commonLengthOf_59 (by decide) ?_
    exact hQ _ _ _ _ _ dX0_commonLengthOf_61 rfl (congrArg nI (by first | decide | (unfold pm_cl; (repeat' split) <;> omega))) hS
  · -- case 10
    refine pn_tin (off := 61) (tgt := 62) hx hb (by decide) dX0_commonLengthOf_1 (by decide) (by decide) (by decide) (by decide) ?_
    refine lv_bipush (v := nI 31) hx hb dX0_commonLengthOf_62 (by decide) ?_
    exact hQ _ _ _ _ _ dX0_commonLengthOf_64 rfl (congrArg nI (by first | decide | (unfold pm_cl; (repeat' split) <;> omega))) hS
  · -- case 11
    refine pn_tin (off := 58) (tgt := 59) hx hb (by decide) dX0_commonLengthOf_1 (by decide) (by decide) (by decide) (by decide) ?_
    refine lv_bipush (v := nI 30) hx hb dX0_commonLengthOf_59 (by decide) ?_
    exact hQ _ _ _ _ _ dX0_commonLengthOf_61 rfl (congrArg nI (by first | decide | (unfold pm_cl; (repeat' split) <;> omega))) hS
  · -- default
    refine pn_tout (tgt := 62) hx hb (by omega) dX0_commonLengthOf_1 (by omega) (by decide) ?_
    refine lv_bipush (v := nI 31) hx hb dX0_commonLengthOf_62 (by decide) ?_
    exact hQ _ _ _ _ _ dX0_commonLengthOf_64 rfl (congrArg nI (by first | decide | (unfold pm_cl; (repeat' split) <;> omega))) hS
set_option maxHeartbeats 4000000 in
set_option maxRecDepth 100000 in
theorem k_X0_nonesDayOf (l : Launch) (D : va_G) (ts : List (ClassId × FieldType)) (mm : Nat) (hy0 : mm ≤ 13) : pz_R l yX0_nonesDayOf wsX0_nonesDayOf ({ frames := 0, cells := 0, slots := 0, locals := 0 } : Room) D ts [.int (nI mm)] [] (fun r => r = nI (pm_nn mm)) := by
  refine pz_R_of (cc := cX0_nonesDayOf) (maxL := 1) (ty := .int) (own := RX0) (by decide) rfl rfl (Nat.le_of_ble_eq_true rfl) ?_
  intro p e s m below meth c A ls Q hx hb hml hown hts hK hP hD hS hA hl hQ
  have hl : lv_has ls 1 [(0, .int (nI mm))] := hl
  refine lv_iload_n hx hb dX0_nonesDayOf_0 rfl (lv_at hl 0 rfl) ?_
  rcases (by omega : mm = 3 ∨ mm = 4 ∨ mm = 5 ∨ mm = 6 ∨ mm = 7 ∨ mm = 8 ∨ mm = 9 ∨ mm = 10 ∨ (mm < 3 ∨ 10 < mm)) with rfl | rfl | rfl | rfl | rfl | rfl | rfl | rfl | hsw
  · -- case 3
    refine pn_tin (off := 47) (tgt := 48) hx hb (by decide) dX0_nonesDayOf_1 (by decide) (by decide) (by decide) (by decide) ?_
    refine lv_bipush (v := nI 7) hx hb dX0_nonesDayOf_48 (by decide) ?_
    exact hQ _ _ _ _ _ dX0_nonesDayOf_50 rfl (congrArg nI (by first | decide | (unfold pm_nn; (repeat' split) <;> omega))) hS
  · -- case 4
    refine pn_tin (off := 50) (tgt := 51) hx hb (by decide) dX0_nonesDayOf_1 (by decide) (by decide) (by decide) (by decide) ?_
    refine lv_iconst (v := nI 5) hx hb dX0_nonesDayOf_51 (by decide) ?_
    exact hQ _ _ _ _ _ dX0_nonesDayOf_52 rfl (congrArg nI (by first | decide | (unfold pm_nn; (repeat' split) <;> omega))) hS
  · -- case 5
    refine pn_tin (off := 47) (tgt := 48) hx hb (by decide) dX0_nonesDayOf_1 (by decide) (by decide) (by decide) (by decide) ?_
    refine lv_bipush (v := nI 7) hx hb dX0_nonesDayOf_48 (by decide) ?_
    exact hQ _ _ _ _ _ dX0_nonesDayOf_50 rfl (congrArg nI (by first | decide | (unfold pm_nn; (repeat' split) <;> omega))) hS
  · -- case 6
    refine pn_tin (off := 50) (tgt := 51) hx hb (by decide) dX0_nonesDayOf_1 (by decide) (by decide) (by decide) (by decide) ?_
    refine lv_iconst (v := nI 5) hx hb dX0_nonesDayOf_51 (by decide) ?_
    exact hQ _ _ _ _ _ dX0_nonesDayOf_52 rfl (congrArg nI (by first | decide | (unfold pm_nn; (repeat' split) <;> omega))) hS
  · -- case 7
    refine pn_tin (off := 47) (tgt := 48) hx hb (by decide) dX0_nonesDayOf_1 (by decide) (by decide) (by decide) (by decide) ?_
    refine lv_bipush (v := nI 7) hx hb dX0_nonesDayOf_48 (by decide) ?_
    exact hQ _ _ _ _ _ dX0_nonesDayOf_50 rfl (congrArg nI (by first | decide | (unfold pm_nn; (repeat' split) <;> omega))) hS
  · -- case 8
    refine pn_tin (off := 50) (tgt := 51) hx hb (by decide) dX0_nonesDayOf_1 (by decide) (by decide) (by decide) (by decide) ?_
    refine lv_iconst (v := nI 5) hx hb dX0_nonesDayOf_51 (by decide) ?_
    exact hQ _ _ _ _ _ dX0_nonesDayOf_52 rfl (congrArg nI (by first | decide | (unfold pm_nn; (repeat' split) <;> omega))) hS
  · -- case 9
    refine pn_tin (off := 50) (tgt := 51) hx hb (by decide) dX0_nonesDayOf_1 (by decide) (by decide) (by decide) (by decide) ?_
    refine lv_iconst (v := nI 5) hx hb dX0_nonesDayOf_51 (by decide) ?_
    exact hQ _ _ _ _ _ dX0_nonesDayOf_52 rfl (congrArg nI (by first | decide | (unfold pm_nn; (repeat' split) <;> omega))) hS
  · -- case 10
    refine pn_tin (off := 47) (tgt := 48) hx hb (by decide) dX0_nonesDayOf_1 (by decide) (by decide) (by decide) (by decide) ?_
    refine lv_bipush (v := nI 7) hx hb dX0_nonesDayOf_48 (by decide) ?_
    exact hQ _ _ _ _ _ dX0_nonesDayOf_50 rfl (congrArg nI (by first | decide | (unfold pm_nn; (repeat' split) <;> omega))) hS
  · -- default
    refine pn_tout (tgt := 51) hx hb (by omega) dX0_nonesDayOf_1 (by omega) (by decide) ?_
    refine lv_iconst (v := nI 5) hx hb dX0_nonesDayOf_51 (by decide) ?_
    exact hQ _ _ _ _ _ dX0_nonesDayOf_52 rfl (congrArg nI (by first | decide | (unfold pm_nn; (repeat' split) <;> omega))) hS
set_option maxHeartbeats 4000000 in
set_option maxRecDepth 100000 in
theorem k_X0_lengthOf (l : Launch) (D : va_G) (ts : List (ClassId × FieldType)) (y mm : Nat) (hy0 : y ≤ 4000) (hy1 : mm ≤ 13) : pz_R l yX0_lengthOf wsX0_lengthOf ({ frames := 1, cells := 0, slots := 0, locals := 20 } : Room) D ts [.int (nI y), .int (nI mm)] [] (fun r => r = nI (pm_ln y mm)) := by
  refine pz_R_of (cc := cX0_lengthOf) (maxL := 3) (ty := .int) (own := RX0) (by decide) rfl rfl (Nat.le_of_ble_eq_true rfl) ?_
  intro p e s m below meth c A ls Q hx hb hml hown hts hK hP hD hS hA hl hQ
  have hl : lv_has ls 3 [(0, .int (nI y)), (1, .int (nI mm))] := hl
  refine lv_iload_n hx hb dX0_lengthOf_0 rfl (lv_at hl 1 rfl) ?_
  refine lv_iconst (v := nI 2) hx hb dX0_lengthOf_1 (by decide) ?_
  refine pn_icmp_ne (tgt := 16) hx hb (by omega) (by omega) dX0_lengthOf_2 (by decide) (fun c_1 => ?_) (fun c_1 => ?_)
  · -- 2 yes
    refine lv_iconst (v := nI 0) hx hb dX0_lengthOf_16 (by decide) ?_
    refine lv_istore_n (lv' := [(2, .int (nI 0)), (0, .int (nI y)), (1, .int (nI mm))]) hx hb dX0_lengthOf_17 rfl hl (by decide) rfl (fun ls hl => ?_)
    refine lv_iload_n hx hb dX0_lengthOf_18 rfl (lv_at hl 0 rfl) ?_
    refine pn_if_eq (tgt := 31) hx hb (by omega) dX0_lengthOf_19 (by decide) (fun _ => ?_) (fun c_2 => absurd c_2 (by decide))
    refine lv_iload_n hx hb dX0_lengthOf_31 rfl (lv_at hl 2 rfl) ?_
    refine pz_SR (rest := []) ⟨hx, hb, hml, hown, hts⟩ (k_X0_commonLengthOf l D ts mm (by omega)) (va_cwS 1 hts gX0_lengthOf_X0_commonLengthOf rfl rfl rfl (by decide +kernel) ⟨Nat.le_of_ble_eq_true rfl, Nat.le_of_ble_eq_true rfl⟩) hK hP hD hS hA [] rfl rfl rfl rfl hl.1 rfl (lv_room (Nat.le_of_ble_eq_true rfl)) dX0_lengthOf_32 ⟨Nat.le_of_ble_eq_true rfl, Nat.le_of_ble_eq_true rfl⟩ (fun r H locs hr hP hS => ?_)
    obtain rfl : r = (nI (pm_cl mm)) := hr
    have hf_4 := pm_cl_b mm
    exact hQ _ _ _ _ _ dX0_lengthOf_35 rfl (congrArg nI (by unfold pm_ln; split <;> first | omega | (have h9 : pm_cl 2 = 28 := rfl; simp_all))) hS
  · -- 2 no
    refine lv_iload_n hx hb dX0_lengthOf_5 rfl (lv_at hl 0 rfl) ?_
    refine pz_SR (rest := []) ⟨hx, hb, hml, hown, hts⟩ (k_X0_isLeap l D ts y (by omega)) (va_cwS 1 hts gX0_lengthOf_X0_isLeap rfl rfl rfl (by decide +kernel) ⟨Nat.le_of_ble_eq_true rfl, Nat.le_of_ble_eq_true rfl⟩) hK hP hD hS hA [] rfl rfl rfl rfl hl.1 rfl (lv_room (Nat.le_of_ble_eq_true rfl)) dX0_lengthOf_6 ⟨Nat.le_of_ble_eq_true rfl, Nat.le_of_ble_eq_true rfl⟩ (fun r H locs hr hP hS => ?_)
    obtain rfl : r = (pz_b (y % 4 = 0)) := hr
    refine pb_if_eq (tgt := 16) hx hb dX0_lengthOf_9 (by decide) (fun c_6 => ?_) (fun c_6 => ?_)
    · -- 9 yes
      refine lv_iconst (v := nI 0) hx hb dX0_lengthOf_16 (by decide) ?_
      refine lv_istore_n (lv' := [(2, .int (nI 0)), (0, .int (nI y)), (1, .int (nI mm))]) hx hb dX0_lengthOf_17 rfl hl (by decide) rfl (fun ls hl => ?_)
      refine lv_iload_n hx hb dX0_lengthOf_18 rfl (lv_at hl 0 rfl) ?_
      refine pn_if_eq (tgt := 31) hx hb (by omega) dX0_lengthOf_19 (by decide) (fun _ => ?_) (fun c_7 => absurd c_7 (by decide))
      refine lv_iload_n hx hb dX0_lengthOf_31 rfl (lv_at hl 2 rfl) ?_
      refine pz_SR (rest := []) ⟨hx, hb, hml, hown, hts⟩ (k_X0_commonLengthOf l D ts mm (by omega)) (va_cwS 1 hts gX0_lengthOf_X0_commonLengthOf rfl rfl rfl (by decide +kernel) ⟨Nat.le_of_ble_eq_true rfl, Nat.le_of_ble_eq_true rfl⟩) hK hP hD hS hA [] rfl rfl rfl rfl hl.1 rfl (lv_room (Nat.le_of_ble_eq_true rfl)) dX0_lengthOf_32 ⟨Nat.le_of_ble_eq_true rfl, Nat.le_of_ble_eq_true rfl⟩ (fun r H locs hr hP hS => ?_)
      obtain rfl : r = (nI (pm_cl mm)) := hr
      have hf_9 := pm_cl_b mm
      exact hQ _ _ _ _ _ dX0_lengthOf_35 rfl (congrArg nI (by unfold pm_ln; split <;> first | omega | (have h9 : pm_cl 2 = 28 := rfl; simp_all))) hS
    · -- 9 no
      refine lv_iconst (v := nI 1) hx hb dX0_lengthOf_12 (by decide) ?_
      refine lv_goto (tgt := 17) hx hb dX0_lengthOf_13 (by decide) ?_
      refine lv_istore_n (lv' := [(2, .int (nI 1)), (0, .int (nI y)), (1, .int (nI mm))]) hx hb dX0_lengthOf_17 rfl hl (by decide) rfl (fun ls hl => ?_)
      refine lv_iload_n hx hb dX0_lengthOf_18 rfl (lv_at hl 0 rfl) ?_
      refine pn_if_eq (tgt := 31) hx hb (by omega) dX0_lengthOf_19 (by decide) (fun c_10 => absurd c_10 (by decide)) (fun _ => ?_)
      refine lv_iload_n hx hb dX0_lengthOf_22 rfl (lv_at hl 2 rfl) ?_
      refine pz_SR (rest := []) ⟨hx, hb, hml, hown, hts⟩ (k_X0_commonLengthOf l D ts mm (by omega)) (va_cwS 1 hts gX0_lengthOf_X0_commonLengthOf rfl rfl rfl (by decide +kernel) ⟨Nat.le_of_ble_eq_true rfl, Nat.le_of_ble_eq_true rfl⟩) hK hP hD hS hA [] rfl rfl rfl rfl hl.1 rfl (lv_room (Nat.le_of_ble_eq_true rfl)) dX0_lengthOf_23 ⟨Nat.le_of_ble_eq_true rfl, Nat.le_of_ble_eq_true rfl⟩ (fun r H locs hr hP hS => ?_)
      obtain rfl : r = (nI (pm_cl mm)) := hr
      have hf_12 := pm_cl_b mm
      refine lv_iconst (v := nI 1) hx hb dX0_lengthOf_26 (by decide) ?_
      refine pn_iadd hx hb dX0_lengthOf_27 ?_
      refine lv_goto (tgt := 35) hx hb dX0_lengthOf_28 (by decide) ?_
      exact hQ _ _ _ _ _ dX0_lengthOf_35 rfl (congrArg nI (by unfold pm_ln; split <;> first | omega | (have h9 : pm_cl 2 = 28 := rfl; simp_all))) hS
set_option maxHeartbeats 4000000 in
set_option maxRecDepth 100000 in
theorem k_X0_commonDaysBefore (l : Launch) (D : va_G) (ts : List (ClassId × FieldType)) (mm : Nat) (hy0 : 1 ≤ mm) (hy1 : mm ≤ 13) : pz_R l yX0_commonDaysBefore wsX0_commonDaysBefore ({ frames := 1, cells := 0, slots := 0, locals := 20 } : Room) D ts [.int (nI mm)] [] (fun r => r = nI (pm_cb mm)) := by
  refine pz_R_of (cc := cX0_commonDaysBefore) (maxL := 3) (ty := .int) (own := RX0) (by decide) rfl rfl (Nat.le_of_ble_eq_true rfl) ?_
  intro p e s m below meth c A ls Q hx hb hml hown hts hK hP hD hS hA hl hQ
  have hl : lv_has ls 3 [(0, .int (nI mm))] := hl
  refine lv_iconst (v := nI 0) hx hb dX0_commonDaysBefore_0 (by decide) ?_
  refine lv_istore_n (lv' := [(1, .int (nI 0)), (0, .int (nI mm))]) hx hb dX0_commonDaysBefore_1 rfl hl (by decide) rfl (fun ls hl => ?_)
  refine lv_iconst (v := nI 1) hx hb dX0_commonDaysBefore_2 (by decide) ?_
  refine lv_istore_n (lv' := [(2, .int (nI 1)), (1, .int (nI 0)), (0, .int (nI mm))]) hx hb dX0_commonDaysBefore_3 rfl hl (by decide) rfl (fun ls hl => ?_)
  have LP4 : ∀ (N : Nat) (k : Nat) (H : Heap) (locs : List Loc) (ls : Array Slot), mm - k < N → (1 ≤ k) → (k ≤ mm) → va_P D vwCl [] H → va_S A s.heap H locs → lv_has ls 3 [(1, .int (nI (pm_cb k))), (2, .int (nI k)), (0, .int (nI mm))] → W p l e ({ frames := 1, cells := 0, slots := 0, locals := 20 } : Room) s m ([.int (nI mm)] : List Value).toArray below meth c H locs 0 0 Q (F0 m 4 ls []) := by
    intro N
    induction N with
    | zero => intro k H locs ls hN; exact absurd hN (Nat.not_lt_zero _)
    | succ N ih =>
      intro k H locs ls hN hi4_0 hi4_1 hP hS hl
      have ih4 := ih
      refine lv_iload_n hx hb dX0_commonDaysBefore_4 rfl (lv_at hl 1 rfl) ?_
      refine lv_iload_n hx hb dX0_commonDaysBefore_5 rfl (lv_at hl 2 rfl) ?_
      refine pn_icmp_ge (tgt := 22) hx hb (by omega) (by omega) dX0_commonDaysBefore_6 (by decide) (fun c_1 => ?_) (fun c_1 => ?_)
      · -- 6 yes
        refine lv_iload_n hx hb dX0_commonDaysBefore_22 rfl (lv_at hl 0 rfl) ?_
        exact hQ _ _ _ _ _ dX0_commonDaysBefore_23 rfl (congrArg nI (by (have h9 : k = mm := by omega); rw [h9])) hS
      · -- 6 no
        refine lv_iload_n hx hb dX0_commonDaysBefore_9 rfl (lv_at hl 0 rfl) ?_
        refine lv_iload_n hx hb dX0_commonDaysBefore_10 rfl (lv_at hl 1 rfl) ?_
        refine pz_SR (rest := [.int (nI (pm_cb k))]) ⟨hx, hb, hml, hown, hts⟩ (k_X0_commonLengthOf l D ts k (by omega)) (va_cwS 1 hts gX0_commonDaysBefore_X0_commonLengthOf rfl rfl rfl (by decide +kernel) ⟨Nat.le_of_ble_eq_true rfl, Nat.le_of_ble_eq_true rfl⟩) hK hP hD hS hA [] rfl rfl rfl rfl hl.1 rfl (lv_room (Nat.le_of_ble_eq_true rfl)) dX0_commonDaysBefore_11 ⟨Nat.le_of_ble_eq_true rfl, Nat.le_of_ble_eq_true rfl⟩ (fun r H locs hr hP hS => ?_)
        obtain rfl : r = (nI (pm_cl k)) := hr
        have hf_3 := pm_cl_b k
        have h9_2 := pm_cb_s hi4_0
        have h8_2 := pm_cb_b k (by omega)
        refine pn_iadd hx hb dX0_commonDaysBefore_14 ?_
        refine lv_istore_n (lv' := [(1, .int (nI ((pm_cb k) + (pm_cl k)))), (2, .int (nI k)), (0, .int (nI mm))]) hx hb dX0_commonDaysBefore_15 rfl hl (by decide) rfl (fun ls hl => ?_)
        refine lv_iinc (v := (nI (k + 1))) (lv' := [(2, .int (nI (k + 1))), (1, .int (nI ((pm_cb k) + (pm_cl k)))), (0, .int (nI mm))]) hx hb dX0_commonDaysBefore_16 hl (k := 1) rfl (by exact nI_add _ 1) (by decide) rfl (fun ls hl => ?_)
        refine lv_goto (tgt := 4) hx hb dX0_commonDaysBefore_19 (by decide) ?_
        have hq4 : (pm_cb k) + (pm_cl k) = pm_cb (k + 1) := by first | exact pm_cb_1.symm | omega
        exact ih4 (k + 1) _ _ _ (by omega) (by omega) (by omega) hP hS (by rw [← hq4]; exact lv_sub hl [1, 0, 2] rfl)
  have hq5 : 0 = pm_cb 1 := by first | exact pm_cb_1.symm | omega
  exact LP4 _ 1 _ _ _ (Nat.lt_succ_self _) (by omega) (by omega) hP hS (by rw [← hq5]; exact lv_sub hl [1, 0, 2] rfl)
set_option maxHeartbeats 4000000 in
set_option maxRecDepth 100000 in
theorem k_X0_daysBefore (l : Launch) (D : va_G) (ts : List (ClassId × FieldType)) (y mm : Nat) (hy0 : y ≤ 4000) (hy1 : 1 ≤ mm) (hy2 : mm ≤ 13) : pz_R l yX0_daysBefore wsX0_daysBefore ({ frames := 2, cells := 0, slots := 0, locals := 42 } : Room) D ts [.int (nI y), .int (nI mm)] [] (fun r => r = nI (pm_db y mm)) := by
  refine pz_R_of (cc := cX0_daysBefore) (maxL := 3) (ty := .int) (own := RX0) (by decide) rfl rfl (Nat.le_of_ble_eq_true rfl) ?_
  intro p e s m below meth c A ls Q hx hb hml hown hts hK hP hD hS hA hl hQ
  have hl : lv_has ls 3 [(0, .int (nI y)), (1, .int (nI mm))] := hl
  refine lv_iload_n hx hb dX0_daysBefore_0 rfl (lv_at hl 1 rfl) ?_
  refine lv_iconst (v := nI 2) hx hb dX0_daysBefore_1 (by decide) ?_
  refine pn_icmp_le (tgt := 16) hx hb (by omega) (by omega) dX0_daysBefore_2 (by decide) (fun c_1 => ?_) (fun c_1 => ?_)
  · -- 2 yes
    refine lv_iconst (v := nI 0) hx hb dX0_daysBefore_16 (by decide) ?_
    refine lv_istore_n (lv' := [(2, .int (nI 0)), (0, .int (nI y)), (1, .int (nI mm))]) hx hb dX0_daysBefore_17 rfl hl (by decide) rfl (fun ls hl => ?_)
    refine lv_iload_n hx hb dX0_daysBefore_18 rfl (lv_at hl 0 rfl) ?_
    refine pn_if_eq (tgt := 31) hx hb (by omega) dX0_daysBefore_19 (by decide) (fun _ => ?_) (fun c_2 => absurd c_2 (by decide))
    refine lv_iload_n hx hb dX0_daysBefore_31 rfl (lv_at hl 2 rfl) ?_
    refine pz_SR (rest := []) ⟨hx, hb, hml, hown, hts⟩ (k_X0_commonDaysBefore l D ts mm (by omega) (by omega)) (va_cwS 1 hts gX0_daysBefore_X0_commonDaysBefore rfl rfl rfl (by decide +kernel) ⟨Nat.le_of_ble_eq_true rfl, Nat.le_of_ble_eq_true rfl⟩) hK hP hD hS hA [] rfl rfl rfl rfl hl.1 rfl (lv_room (Nat.le_of_ble_eq_true rfl)) dX0_daysBefore_32 ⟨Nat.le_of_ble_eq_true rfl, Nat.le_of_ble_eq_true rfl⟩ (fun r H locs hr hP hS => ?_)
    obtain rfl : r = (nI (pm_cb mm)) := hr
    have hf_4 := pm_cb_b mm (by omega)
    exact hQ _ _ _ _ _ dX0_daysBefore_35 rfl (congrArg nI (by unfold pm_db; split <;> omega)) hS
  · -- 2 no
    refine lv_iload_n hx hb dX0_daysBefore_5 rfl (lv_at hl 0 rfl) ?_
    refine pz_SR (rest := []) ⟨hx, hb, hml, hown, hts⟩ (k_X0_isLeap l D ts y (by omega)) (va_cwS 1 hts gX0_daysBefore_X0_isLeap rfl rfl rfl (by decide +kernel) ⟨Nat.le_of_ble_eq_true rfl, Nat.le_of_ble_eq_true rfl⟩) hK hP hD hS hA [] rfl rfl rfl rfl hl.1 rfl (lv_room (Nat.le_of_ble_eq_true rfl)) dX0_daysBefore_6 ⟨Nat.le_of_ble_eq_true rfl, Nat.le_of_ble_eq_true rfl⟩ (fun r H locs hr hP hS => ?_)
    obtain rfl : r = (pz_b (y % 4 = 0)) := hr
    refine pb_if_eq (tgt := 16) hx hb dX0_daysBefore_9 (by decide) (fun c_6 => ?_) (fun c_6 => ?_)
    · -- 9 yes
      refine lv_iconst (v := nI 0) hx hb dX0_daysBefore_16 (by decide) ?_
      refine lv_istore_n (lv' := [(2, .int (nI 0)), (0, .int (nI y)), (1, .int (nI mm))]) hx hb dX0_daysBefore_17 rfl hl (by decide) rfl (fun ls hl => ?_)
      refine lv_iload_n hx hb dX0_daysBefore_18 rfl (lv_at hl 0 rfl) ?_
      refine pn_if_eq (tgt := 31) hx hb (by omega) dX0_daysBefore_19 (by decide) (fun _ => ?_) (fun c_7 => absurd c_7 (by decide))
      refine lv_iload_n hx hb dX0_daysBefore_31 rfl (lv_at hl 2 rfl) ?_
      refine pz_SR (rest := []) ⟨hx, hb, hml, hown, hts⟩ (k_X0_commonDaysBefore l D ts mm (by omega) (by omega)) (va_cwS 1 hts gX0_daysBefore_X0_commonDaysBefore rfl rfl rfl (by decide +kernel) ⟨Nat.le_of_ble_eq_true rfl, Nat.le_of_ble_eq_true rfl⟩) hK hP hD hS hA [] rfl rfl rfl rfl hl.1 rfl (lv_room (Nat.le_of_ble_eq_true rfl)) dX0_daysBefore_32 ⟨Nat.le_of_ble_eq_true rfl, Nat.le_of_ble_eq_true rfl⟩ (fun r H locs hr hP hS => ?_)
      obtain rfl : r = (nI (pm_cb mm)) := hr
      have hf_9 := pm_cb_b mm (by omega)
      exact hQ _ _ _ _ _ dX0_daysBefore_35 rfl (congrArg nI (by unfold pm_db; split <;> omega)) hS
    · -- 9 no
      refine lv_iconst (v := nI 1) hx hb dX0_daysBefore_12 (by decide) ?_
      refine lv_goto (tgt := 17) hx hb dX0_daysBefore_13 (by decide) ?_
      refine lv_istore_n (lv' := [(2, .int (nI 1)), (0, .int (nI y)), (1, .int (nI mm))]) hx hb dX0_daysBefore_17 rfl hl (by decide) rfl (fun ls hl => ?_)
      refine lv_iload_n hx hb dX0_daysBefore_18 rfl (lv_at hl 0 rfl) ?_
      refine pn_if_eq (tgt := 31) hx hb (by omega) dX0_daysBefore_19 (by decide) (fun c_10 => absurd c_10 (by decide)) (fun _ => ?_)
      refine lv_iload_n hx hb dX0_daysBefore_22 rfl (lv_at hl 2 rfl) ?_
      refine pz_SR (rest := []) ⟨hx, hb, hml, hown, hts⟩ (k_X0_commonDaysBefore l D ts mm (by omega) (by omega)) (va_cwS 1 hts gX0_daysBefore_X0_commonDaysBefore rfl rfl rfl (by decide +kernel) ⟨Nat.le_of_ble_eq_true rfl, Nat.le_of_ble_eq_true rfl⟩) hK hP hD hS hA [] rfl rfl rfl rfl hl.1 rfl (lv_room (Nat.le_of_ble_eq_true rfl)) dX0_daysBefore_23 ⟨Nat.le_of_ble_eq_true rfl, Nat.le_of_ble_eq_true rfl⟩ (fun r H locs hr hP hS => ?_)
      obtain rfl : r = (nI (pm_cb mm)) := hr
      have hf_12 := pm_cb_b mm (by omega)
      refine lv_iconst (v := nI 1) hx hb dX0_daysBefore_26 (by decide) ?_
      refine pn_iadd hx hb dX0_daysBefore_27 ?_
      refine lv_goto (tgt := 35) hx hb dX0_daysBefore_28 (by decide) ?_
      exact hQ _ _ _ _ _ dX0_daysBefore_35 rfl (congrArg nI (by unfold pm_db; split <;> omega)) hS
set_option maxHeartbeats 4000000 in
set_option maxRecDepth 100000 in
theorem k_X0_doubledDaysBefore (l : Launch) (D : va_G) (ts : List (ClassId × FieldType)) (n : Nat) (hy0 : n < 1095751) : pz_R l yX0_doubledDaysBefore wsX0_doubledDaysBefore ({ frames := 0, cells := 0, slots := 0, locals := 0 } : Room) D ts [.int (nI n)] [] (fun r => r = nI ((n + 311) / 1461)) := by
  refine pz_R_of (cc := cX0_doubledDaysBefore) (maxL := 1) (ty := .int) (own := RX0) (by decide) rfl rfl (Nat.le_of_ble_eq_true rfl) ?_
  intro p e s m below meth c A ls Q hx hb hml hown hts hK hP hD hS hA hl hQ
  have hl : lv_has ls 1 [(0, .int (nI n))] := hl
  refine lv_iload_n hx hb dX0_doubledDaysBefore_0 rfl (lv_at hl 0 rfl) ?_
  refine lv_sipush (v := nI 1461) hx hb dX0_doubledDaysBefore_1 (by decide) ?_
  refine pn_iadd hx hb dX0_doubledDaysBefore_4 ?_
  refine lv_iconst (v := nI 1) hx hb dX0_doubledDaysBefore_5 (by decide) ?_
  refine pn_isub hx hb (by omega) dX0_doubledDaysBefore_6 ?_
  refine lv_sipush (v := nI 1149) hx hb dX0_doubledDaysBefore_7 (by decide) ?_
  refine pn_isub hx hb (by omega) dX0_doubledDaysBefore_10 ?_
  refine lv_sipush (v := nI 1461) hx hb dX0_doubledDaysBefore_11 (by decide) ?_
  refine pn_idiv hx hb (by omega) (by omega) (by omega) dX0_doubledDaysBefore_14 ?_
  exact hQ _ _ _ _ _ dX0_doubledDaysBefore_15 rfl (congrArg nI (by omega)) hS
set_option maxHeartbeats 4000000 in
set_option maxRecDepth 100000 in
theorem k_X0_lawNumberAt (l : Launch) (D : va_G) (ts : List (ClassId × FieldType)) (n : Nat) (hy0 : n < 1095751) : pz_R l yX0_lawNumberAt wsX0_lawNumberAt ({ frames := 1, cells := 0, slots := 0, locals := 20 } : Room) D ts [.int (nI n)] [] (fun r => r = nI (pm_lw n)) := by
  refine pz_R_of (cc := cX0_lawNumberAt) (maxL := 1) (ty := .int) (own := RX0) (by decide) rfl rfl (Nat.le_of_ble_eq_true rfl) ?_
  intro p e s m below meth c A ls Q hx hb hml hown hts hK hP hD hS hA hl hQ
  have hl : lv_has ls 1 [(0, .int (nI n))] := hl
  refine lv_iload_n hx hb dX0_lawNumberAt_0 rfl (lv_at hl 0 rfl) ?_
  refine lv_iload_n hx hb dX0_lawNumberAt_1 rfl (lv_at hl 0 rfl) ?_
  refine pz_SR (rest := [.int (nI n)]) ⟨hx, hb, hml, hown, hts⟩ (k_X0_doubledDaysBefore l D ts n (by omega)) (va_cwS 1 hts gX0_lawNumberAt_X0_doubledDaysBefore rfl rfl rfl (by decide +kernel) ⟨Nat.le_of_ble_eq_true rfl, Nat.le_of_ble_eq_true rfl⟩) hK hP hD hS hA [] rfl rfl rfl rfl hl.1 rfl (lv_room (Nat.le_of_ble_eq_true rfl)) dX0_lawNumberAt_2 ⟨Nat.le_of_ble_eq_true rfl, Nat.le_of_ble_eq_true rfl⟩ (fun r H locs hr hP hS => ?_)
  obtain rfl : r = (nI ((n + 311) / 1461)) := hr
  refine pn_isub hx hb (by omega) dX0_lawNumberAt_5 ?_
  exact hQ _ _ _ _ _ dX0_lawNumberAt_6 rfl (congrArg nI (by rfl)) hS
set_option maxHeartbeats 4000000 in
set_option maxRecDepth 100000 in
theorem k_X0_placeAt (l : Launch) (D : va_G) (ts : List (ClassId × FieldType)) (n : Nat) (hy0 : n < 1095751) : pz_R l yX0_placeAt wsX0_placeAt ({ frames := 2, cells := 0, slots := 0, locals := 40 } : Room) D ts [.int (nI n)] [] (fun r => r = nI (pm_pl n)) := by
  refine pz_R_of (cc := cX0_placeAt) (maxL := 1) (ty := .int) (own := RX0) (by decide) rfl rfl (Nat.le_of_ble_eq_true rfl) ?_
  intro p e s m below meth c A ls Q hx hb hml hown hts hK hP hD hS hA hl hQ
  have hl : lv_has ls 1 [(0, .int (nI n))] := hl
  refine lv_iload_n hx hb dX0_placeAt_0 rfl (lv_at hl 0 rfl) ?_
  refine pz_SR (rest := []) ⟨hx, hb, hml, hown, hts⟩ (k_X0_lawNumberAt l D ts n (by omega)) (va_cwS 1 hts gX0_placeAt_X0_lawNumberAt rfl rfl rfl (by decide +kernel) ⟨Nat.le_of_ble_eq_true rfl, Nat.le_of_ble_eq_true rfl⟩) hK hP hD hS hA [] rfl rfl rfl rfl hl.1 rfl (lv_room (Nat.le_of_ble_eq_true rfl)) dX0_placeAt_1 ⟨Nat.le_of_ble_eq_true rfl, Nat.le_of_ble_eq_true rfl⟩ (fun r H locs hr hP hS => ?_)
  obtain rfl : r = (nI (pm_lw n)) := hr
  have hf_2 := pm_lw_b n
  refine lv_sipush (v := nI 365) hx hb dX0_placeAt_4 (by decide) ?_
  refine pn_irem hx hb (by omega) (by omega) (by omega) dX0_placeAt_7 ?_
  refine lv_iconst (v := nI 1) hx hb dX0_placeAt_8 (by decide) ?_
  refine pn_iadd hx hb dX0_placeAt_9 ?_
  exact hQ _ _ _ _ _ dX0_placeAt_10 rfl (congrArg nI (by rfl)) hS
set_option maxHeartbeats 4000000 in
set_option maxRecDepth 100000 in
theorem k_X0_lastDayOfPlace (l : Launch) (D : va_G) (ts : List (ClassId × FieldType)) (y pp : Nat) (hy0 : 1 ≤ y) (hy1 : y ≤ 3001) (hy2 : 1 ≤ pp) (hy3 : pp ≤ 365) : pz_R l yX0_lastDayOfPlace wsX0_lastDayOfPlace ({ frames := 1, cells := 0, slots := 0, locals := 20 } : Room) D ts [.int (nI y), .int (nI pp)] [] (fun r => r = nI (pm_ld y pp)) := by
  refine pz_R_of (cc := cX0_lastDayOfPlace) (maxL := 3) (ty := .int) (own := RX0) (by decide) rfl rfl (Nat.le_of_ble_eq_true rfl) ?_
  intro p e s m below meth c A ls Q hx hb hml hown hts hK hP hD hS hA hl hQ
  have hl : lv_has ls 3 [(0, .int (nI y)), (1, .int (nI pp))] := hl
  refine lv_iload_n hx hb dX0_lastDayOfPlace_0 rfl (lv_at hl 0 rfl) ?_
  refine pz_SR (rest := []) ⟨hx, hb, hml, hown, hts⟩ (k_X0_isLeap l D ts y (by omega)) (va_cwS 1 hts gX0_lastDayOfPlace_X0_isLeap rfl rfl rfl (by decide +kernel) ⟨Nat.le_of_ble_eq_true rfl, Nat.le_of_ble_eq_true rfl⟩) hK hP hD hS hA [] rfl rfl rfl rfl hl.1 rfl (lv_room (Nat.le_of_ble_eq_true rfl)) dX0_lastDayOfPlace_1 ⟨Nat.le_of_ble_eq_true rfl, Nat.le_of_ble_eq_true rfl⟩ (fun r H locs hr hP hS => ?_)
  obtain rfl : r = (pz_b (y % 4 = 0)) := hr
  refine pb_if_eq (tgt := 17) hx hb dX0_lastDayOfPlace_4 (by decide) (fun c_2 => ?_) (fun c_2 => ?_)
  · -- 4 yes
    refine lv_iconst (v := nI 0) hx hb dX0_lastDayOfPlace_17 (by decide) ?_
    refine lv_istore_n (lv' := [(2, .int (nI 0)), (0, .int (nI y)), (1, .int (nI pp))]) hx hb dX0_lastDayOfPlace_18 rfl hl (by decide) rfl (fun ls hl => ?_)
    refine lv_iload_n hx hb dX0_lastDayOfPlace_19 rfl (lv_at hl 1 rfl) ?_
    refine pz_SR (rest := []) ⟨hx, hb, hml, hown, hts⟩ (k_X0_firstDayOf l D ts y (by omega) (by omega)) (va_cwS 1 hts gX0_lastDayOfPlace_X0_firstDayOf rfl rfl rfl (by decide +kernel) ⟨Nat.le_of_ble_eq_true rfl, Nat.le_of_ble_eq_true rfl⟩) hK hP hD hS hA [] rfl rfl rfl rfl hl.1 rfl (lv_room (Nat.le_of_ble_eq_true rfl)) dX0_lastDayOfPlace_20 ⟨Nat.le_of_ble_eq_true rfl, Nat.le_of_ble_eq_true rfl⟩ (fun r H locs hr hP hS => ?_)
    obtain rfl : r = (nI (pm_fd y)) := hr
    have hf_4 := pm_fd_e y
    refine lv_iload_n hx hb dX0_lastDayOfPlace_23 rfl (lv_at hl 2 rfl) ?_
    refine pn_iadd hx hb dX0_lastDayOfPlace_24 ?_
    refine lv_iconst (v := nI 1) hx hb dX0_lastDayOfPlace_25 (by decide) ?_
    refine pn_isub hx hb (by omega) dX0_lastDayOfPlace_26 ?_
    refine lv_iload_n hx hb dX0_lastDayOfPlace_27 rfl (lv_at hl 0 rfl) ?_
    refine pn_if_eq (tgt := 35) hx hb (by omega) dX0_lastDayOfPlace_28 (by decide) (fun _ => ?_) (fun c_5 => absurd c_5 (by decide))
    refine lv_iconst (v := nI 0) hx hb dX0_lastDayOfPlace_35 (by decide) ?_
    refine pn_iadd hx hb dX0_lastDayOfPlace_36 ?_
    exact hQ _ _ _ _ _ dX0_lastDayOfPlace_37 rfl (congrArg nI (by unfold pm_ld; split <;> omega)) hS
  · -- 4 no
    refine lv_iload_n hx hb dX0_lastDayOfPlace_7 rfl (lv_at hl 1 rfl) ?_
    refine lv_bipush (v := nI 55) hx hb dX0_lastDayOfPlace_8 (by decide) ?_
    refine pn_icmp_lt (tgt := 17) hx hb (by omega) (by omega) dX0_lastDayOfPlace_10 (by decide) (fun c_6 => ?_) (fun c_6 => ?_)
    · -- 10 yes
      refine lv_iconst (v := nI 0) hx hb dX0_lastDayOfPlace_17 (by decide) ?_
      refine lv_istore_n (lv' := [(2, .int (nI 0)), (0, .int (nI y)), (1, .int (nI pp))]) hx hb dX0_lastDayOfPlace_18 rfl hl (by decide) rfl (fun ls hl => ?_)
      refine lv_iload_n hx hb dX0_lastDayOfPlace_19 rfl (lv_at hl 1 rfl) ?_
      refine pz_SR (rest := []) ⟨hx, hb, hml, hown, hts⟩ (k_X0_firstDayOf l D ts y (by omega) (by omega)) (va_cwS 1 hts gX0_lastDayOfPlace_X0_firstDayOf rfl rfl rfl (by decide +kernel) ⟨Nat.le_of_ble_eq_true rfl, Nat.le_of_ble_eq_true rfl⟩) hK hP hD hS hA [] rfl rfl rfl rfl hl.1 rfl (lv_room (Nat.le_of_ble_eq_true rfl)) dX0_lastDayOfPlace_20 ⟨Nat.le_of_ble_eq_true rfl, Nat.le_of_ble_eq_true rfl⟩ (fun r H locs hr hP hS => ?_)
      obtain rfl : r = (nI (pm_fd y)) := hr
      have hf_8 := pm_fd_e y
      refine lv_iload_n hx hb dX0_lastDayOfPlace_23 rfl (lv_at hl 2 rfl) ?_
      refine pn_iadd hx hb dX0_lastDayOfPlace_24 ?_
      refine lv_iconst (v := nI 1) hx hb dX0_lastDayOfPlace_25 (by decide) ?_
      refine pn_isub hx hb (by omega) dX0_lastDayOfPlace_26 ?_
      refine lv_iload_n hx hb dX0_lastDayOfPlace_27 rfl (lv_at hl 0 rfl) ?_
      refine pn_if_eq (tgt := 35) hx hb (by omega) dX0_lastDayOfPlace_28 (by decide) (fun _ => ?_) (fun c_9 => absurd c_9 (by decide))
      refine lv_iconst (v := nI 0) hx hb dX0_lastDayOfPlace_35 (by decide) ?_
      refine pn_iadd hx hb dX0_lastDayOfPlace_36 ?_
      exact hQ _ _ _ _ _ dX0_lastDayOfPlace_37 rfl (congrArg nI (by unfold pm_ld; split <;> omega)) hS
    · -- 10 no
      refine lv_iconst (v := nI 1) hx hb dX0_lastDayOfPlace_13 (by decide) ?_
      refine lv_goto (tgt := 18) hx hb dX0_lastDayOfPlace_14 (by decide) ?_
      refine lv_istore_n (lv' := [(2, .int (nI 1)), (0, .int (nI y)), (1, .int (nI pp))]) hx hb dX0_lastDayOfPlace_18 rfl hl (by decide) rfl (fun ls hl => ?_)
      refine lv_iload_n hx hb dX0_lastDayOfPlace_19 rfl (lv_at hl 1 rfl) ?_
      refine pz_SR (rest := []) ⟨hx, hb, hml, hown, hts⟩ (k_X0_firstDayOf l D ts y (by omega) (by omega)) (va_cwS 1 hts gX0_lastDayOfPlace_X0_firstDayOf rfl rfl rfl (by decide +kernel) ⟨Nat.le_of_ble_eq_true rfl, Nat.le_of_ble_eq_true rfl⟩) hK hP hD hS hA [] rfl rfl rfl rfl hl.1 rfl (lv_room (Nat.le_of_ble_eq_true rfl)) dX0_lastDayOfPlace_20 ⟨Nat.le_of_ble_eq_true rfl, Nat.le_of_ble_eq_true rfl⟩ (fun r H locs hr hP hS => ?_)
      obtain rfl : r = (nI (pm_fd y)) := hr
      have hf_11 := pm_fd_e y
      refine lv_iload_n hx hb dX0_lastDayOfPlace_23 rfl (lv_at hl 2 rfl) ?_
      refine pn_iadd hx hb dX0_lastDayOfPlace_24 ?_
      refine lv_iconst (v := nI 1) hx hb dX0_lastDayOfPlace_25 (by decide) ?_
      refine pn_isub hx hb (by omega) dX0_lastDayOfPlace_26 ?_
      refine lv_iload_n hx hb dX0_lastDayOfPlace_27 rfl (lv_at hl 0 rfl) ?_
      refine pn_if_eq (tgt := 35) hx hb (by omega) dX0_lastDayOfPlace_28 (by decide) (fun c_12 => absurd c_12 (by decide)) (fun _ => ?_)
      refine lv_iconst (v := nI 1) hx hb dX0_lastDayOfPlace_31 (by decide) ?_
      refine lv_goto (tgt := 36) hx hb dX0_lastDayOfPlace_32 (by decide) ?_
      refine pn_iadd hx hb dX0_lastDayOfPlace_36 ?_
      exact hQ _ _ _ _ _ dX0_lastDayOfPlace_37 rfl (congrArg nI (by unfold pm_ld; split <;> omega)) hS
set_option maxHeartbeats 4000000 in
set_option maxRecDepth 100000 in
theorem k_X0_monthOfPlace (l : Launch) (D : va_G) (ts : List (ClassId × FieldType)) (q : Nat) (hy0 : q ≤ 366) : pz_R l yX0_monthOfPlace wsX0_monthOfPlace ({ frames := 1, cells := 0, slots := 0, locals := 20 } : Room) D ts [.int (nI q)] [] (fun r => r = nI (pm_mp q)) := by
  refine pz_R_of (cc := cX0_monthOfPlace) (maxL := 3) (ty := .int) (own := RX0) (by decide) rfl rfl (Nat.le_of_ble_eq_true rfl) ?_
  intro p e s m below meth c A ls Q hx hb hml hown hts hK hP hD hS hA hl hQ
  have hl : lv_has ls 3 [(0, .int (nI q))] := hl
  refine lv_iconst (v := nI 1) hx hb dX0_monthOfPlace_0 (by decide) ?_
  refine lv_istore_n (lv' := [(1, .int (nI 1)), (0, .int (nI q))]) hx hb dX0_monthOfPlace_1 rfl hl (by decide) rfl (fun ls hl => ?_)
  refine lv_iload_n hx hb dX0_monthOfPlace_2 rfl (lv_at hl 0 rfl) ?_
  refine pz_SR (rest := []) ⟨hx, hb, hml, hown, hts⟩ (k_X0_commonLengthOf l D ts 1 (by omega)) (va_cwS 1 hts gX0_monthOfPlace_X0_commonLengthOf rfl rfl rfl (by decide +kernel) ⟨Nat.le_of_ble_eq_true rfl, Nat.le_of_ble_eq_true rfl⟩) hK hP hD hS hA [] rfl rfl rfl rfl hl.1 rfl (lv_room (Nat.le_of_ble_eq_true rfl)) dX0_monthOfPlace_3 ⟨Nat.le_of_ble_eq_true rfl, Nat.le_of_ble_eq_true rfl⟩ (fun r H locs hr hP hS => ?_)
  obtain rfl : r = (nI (pm_cl 1)) := hr
  have hf_2 := pm_cl_b 1
  refine lv_istore_n (lv' := [(2, .int (nI (pm_cl 1))), (1, .int (nI 1)), (0, .int (nI q))]) hx hb dX0_monthOfPlace_6 rfl hl (by decide) rfl (fun ls hl => ?_)
  have LP7 : ∀ (N : Nat) (k : Nat) (H : Heap) (locs : List Loc) (ls : Array Slot), 12 - k < N → (1 ≤ k) → (k ≤ pm_mp q) → va_P D vwCl [] H → va_S A s.heap H locs → lv_has ls 3 [(2, .int (nI (pm_cb (k + 1)))), (1, .int (nI k)), (0, .int (nI q))] → W p l e ({ frames := 1, cells := 0, slots := 0, locals := 20 } : Room) s m ([.int (nI q)] : List Value).toArray below meth c H locs 0 0 Q (F0 m 7 ls []) := by
    intro N
    induction N with
    | zero => intro k H locs ls hN; exact absurd hN (Nat.not_lt_zero _)
    | succ N ih =>
      intro k H locs ls hN hi7_0 hi7_1 hP hS hl
      have hb_0 := pm_mp_b q
      have hs_0 := pm_mp_s (p := q) (by omega) hi7_0 (by omega)
      have h8_0 := pm_cb_b (k + 1) (by omega)
      have ih7 := ih
      refine lv_iload_n hx hb dX0_monthOfPlace_7 rfl (lv_at hl 1 rfl) ?_
      refine lv_bipush (v := nI 12) hx hb dX0_monthOfPlace_8 (by decide) ?_
      refine pn_icmp_ge (tgt := 31) hx hb (by omega) (by omega) dX0_monthOfPlace_10 (by decide) (fun c_3 => ?_) (fun c_3 => ?_)
      · -- 10 yes
        refine lv_iload_n hx hb dX0_monthOfPlace_31 rfl (lv_at hl 1 rfl) ?_
        exact hQ _ _ _ _ _ dX0_monthOfPlace_32 rfl (congrArg nI (by omega)) hS
      · -- 10 no
        refine lv_iload_n hx hb dX0_monthOfPlace_13 rfl (lv_at hl 2 rfl) ?_
        refine lv_iload_n hx hb dX0_monthOfPlace_14 rfl (lv_at hl 0 rfl) ?_
        refine pn_icmp_le (tgt := 31) hx hb (by omega) (by omega) dX0_monthOfPlace_15 (by decide) (fun c_4 => ?_) (fun c_4 => ?_)
        · -- 15 yes
          refine lv_iload_n hx hb dX0_monthOfPlace_31 rfl (lv_at hl 1 rfl) ?_
          exact hQ _ _ _ _ _ dX0_monthOfPlace_32 rfl (congrArg nI (by omega)) hS
        · -- 15 no
          refine lv_iinc (v := (nI (k + 1))) (lv' := [(1, .int (nI (k + 1))), (2, .int (nI (pm_cb (k + 1)))), (0, .int (nI q))]) hx hb dX0_monthOfPlace_18 hl (k := 1) rfl (by exact nI_add _ 1) (by decide) rfl (fun ls hl => ?_)
          refine lv_iload_n hx hb dX0_monthOfPlace_21 rfl (lv_at hl 1 rfl) ?_
          refine lv_iload_n hx hb dX0_monthOfPlace_22 rfl (lv_at hl 0 rfl) ?_
          refine pz_SR (rest := [.int (nI (pm_cb (k + 1)))]) ⟨hx, hb, hml, hown, hts⟩ (k_X0_commonLengthOf l D ts (k + 1) (by omega)) (va_cwS 1 hts gX0_monthOfPlace_X0_commonLengthOf rfl rfl rfl (by decide +kernel) ⟨Nat.le_of_ble_eq_true rfl, Nat.le_of_ble_eq_true rfl⟩) hK hP hD hS hA [] rfl rfl rfl rfl hl.1 rfl (lv_room (Nat.le_of_ble_eq_true rfl)) dX0_monthOfPlace_23 ⟨Nat.le_of_ble_eq_true rfl, Nat.le_of_ble_eq_true rfl⟩ (fun r H locs hr hP hS => ?_)
          obtain rfl : r = (nI (pm_cl (k + 1))) := hr
          have hf_6 := pm_cl_b (k + 1)
          have h9_5 := pm_cb_s (m := k + 1) (by omega)
          refine pn_iadd hx hb dX0_monthOfPlace_26 ?_
          refine lv_istore_n (lv' := [(2, .int (nI ((pm_cb (k + 1)) + (pm_cl (k + 1))))), (1, .int (nI (k + 1))), (0, .int (nI q))]) hx hb dX0_monthOfPlace_27 rfl hl (by decide) rfl (fun ls hl => ?_)
          refine lv_goto (tgt := 7) hx hb dX0_monthOfPlace_28 (by decide) ?_
          have hq7 : (pm_cb (k + 1)) + (pm_cl (k + 1)) = pm_cb ((k + 1) + 1) := by first | decide | omega
          exact ih7 (k + 1) _ _ _ (by omega) (by omega) (by first | omega | exact (pm_mp_b q).1) hP hS (by rw [← hq7]; exact lv_sub hl [0, 1, 2] rfl)
  have hq8 : pm_cl 1 = pm_cb (1 + 1) := by first | decide | omega
  exact LP7 _ 1 _ _ _ (Nat.lt_succ_self _) (by omega) (by first | omega | exact (pm_mp_b q).1) hP hS (by rw [← hq8]; exact lv_sub hl [0, 1, 2] rfl)
set_option maxHeartbeats 4000000 in
set_option maxRecDepth 100000 in
theorem k_X0_placeOfAnchor (l : Launch) (D : va_G) (ts : List (ClassId × FieldType)) (mm a : Nat) (hy0 : 1 ≤ mm) (hy1 : mm ≤ 13) (hy2 : a ≤ 2) : pz_R l yX0_placeOfAnchor wsX0_placeOfAnchor ({ frames := 2, cells := 0, slots := 0, locals := 42 } : Room) D ts [.int (nI mm), .int (nI a)] [] (fun r => r = nI (pm_an mm a)) := by
  refine pz_R_of (cc := cX0_placeOfAnchor) (maxL := 4) (ty := .int) (own := RX0) (by decide) rfl rfl (Nat.le_of_ble_eq_true rfl) ?_
  intro p e s m below meth c A ls Q hx hb hml hown hts hK hP hD hS hA hl hQ
  have hl : lv_has ls 4 [(0, .int (nI mm)), (1, .int (nI a))] := hl
  refine lv_iload_n hx hb dX0_placeOfAnchor_0 rfl (lv_at hl 0 rfl) ?_
  refine pz_SR (rest := []) ⟨hx, hb, hml, hown, hts⟩ (k_X0_commonDaysBefore l D ts mm (by omega) (by omega)) (va_cwS 1 hts gX0_placeOfAnchor_X0_commonDaysBefore rfl rfl rfl (by decide +kernel) ⟨Nat.le_of_ble_eq_true rfl, Nat.le_of_ble_eq_true rfl⟩) hK hP hD hS hA [] rfl rfl rfl rfl hl.1 rfl (lv_room (Nat.le_of_ble_eq_true rfl)) dX0_placeOfAnchor_1 ⟨Nat.le_of_ble_eq_true rfl, Nat.le_of_ble_eq_true rfl⟩ (fun r H locs hr hP hS => ?_)
  obtain rfl : r = (nI (pm_cb mm)) := hr
  have hf_2 := pm_cb_b mm (by omega)
  refine lv_istore_n (lv' := [(2, .int (nI (pm_cb mm))), (0, .int (nI mm)), (1, .int (nI a))]) hx hb dX0_placeOfAnchor_4 rfl hl (by decide) rfl (fun ls hl => ?_)
  refine lv_iload_n hx hb dX0_placeOfAnchor_5 rfl (lv_at hl 2 rfl) ?_
  refine pn_if_ne (tgt := 13) hx hb (by omega) dX0_placeOfAnchor_6 (by decide) (fun c_3 => ?_) (fun c_3 => ?_)
  · -- 6 yes
    refine lv_iload_n hx hb dX0_placeOfAnchor_13 rfl (lv_at hl 0 rfl) ?_
    refine lv_iload_n hx hb dX0_placeOfAnchor_14 rfl (lv_at hl 1 rfl) ?_
    refine pz_SR (rest := [.int (nI (pm_cb mm))]) ⟨hx, hb, hml, hown, hts⟩ (k_X0_nonesDayOf l D ts mm (by omega)) (va_cwS 1 hts gX0_placeOfAnchor_X0_nonesDayOf rfl rfl rfl (by decide +kernel) ⟨Nat.le_of_ble_eq_true rfl, Nat.le_of_ble_eq_true rfl⟩) hK hP hD hS hA [] rfl rfl rfl rfl hl.1 rfl (lv_room (Nat.le_of_ble_eq_true rfl)) dX0_placeOfAnchor_15 ⟨Nat.le_of_ble_eq_true rfl, Nat.le_of_ble_eq_true rfl⟩ (fun r H locs hr hP hS => ?_)
    obtain rfl : r = (nI (pm_nn mm)) := hr
    have hf_5 := pm_nn_b mm
    refine pn_iadd hx hb dX0_placeOfAnchor_18 ?_
    refine lv_istore_n (lv' := [(3, .int (nI ((pm_cb mm) + (pm_nn mm)))), (2, .int (nI (pm_cb mm))), (0, .int (nI mm)), (1, .int (nI a))]) hx hb dX0_placeOfAnchor_19 rfl hl (by decide) rfl (fun ls hl => ?_)
    refine lv_iload_n hx hb dX0_placeOfAnchor_20 rfl (lv_at hl 3 rfl) ?_
    refine lv_iconst (v := nI 1) hx hb dX0_placeOfAnchor_21 (by decide) ?_
    refine pn_icmp_ne (tgt := 29) hx hb (by omega) (by omega) dX0_placeOfAnchor_22 (by decide) (fun c_6 => ?_) (fun c_6 => ?_)
    · -- 22 yes
      refine lv_iload_n hx hb dX0_placeOfAnchor_29 rfl (lv_at hl 0 rfl) ?_
      refine lv_bipush (v := nI 8) hx hb dX0_placeOfAnchor_30 (by decide) ?_
      refine pn_iadd hx hb dX0_placeOfAnchor_32 ?_
      exact hQ _ _ _ _ _ dX0_placeOfAnchor_33 rfl (congrArg nI (by unfold pm_an; (repeat' split) <;> omega)) hS
    · -- 22 no
      refine lv_iload_n hx hb dX0_placeOfAnchor_25 rfl (lv_at hl 0 rfl) ?_
      refine lv_goto (tgt := 33) hx hb dX0_placeOfAnchor_26 (by decide) ?_
      exact hQ _ _ _ _ _ dX0_placeOfAnchor_33 rfl (congrArg nI (by unfold pm_an; (repeat' split) <;> omega)) hS
  · -- 6 no
    refine lv_iload_n hx hb dX0_placeOfAnchor_9 rfl (lv_at hl 0 rfl) ?_
    refine lv_iconst (v := nI 1) hx hb dX0_placeOfAnchor_10 (by decide) ?_
    refine pn_iadd hx hb dX0_placeOfAnchor_11 ?_
    exact hQ _ _ _ _ _ dX0_placeOfAnchor_12 rfl (congrArg nI (by unfold pm_an; (repeat' split) <;> omega)) hS
set_option maxHeartbeats 4000000 in
set_option maxRecDepth 100000 in
theorem k_X0_isBehindIdes (l : Launch) (D : va_G) (ts : List (ClassId × FieldType)) (q : Nat) (hy0 : q ≤ 366) : pz_R l yX0_isBehindIdes wsX0_isBehindIdes ({ frames := 3, cells := 0, slots := 0, locals := 65 } : Room) D ts [.int (nI q)] [] (fun r => r = pz_b (pm_an (pm_mp q) 2 < q)) := by
  refine pz_R_of (cc := cX0_isBehindIdes) (maxL := 1) (ty := .boolean) (own := RX0) (by decide) rfl rfl (Nat.le_of_ble_eq_true rfl) ?_
  intro p e s m below meth c A ls Q hx hb hml hown hts hK hP hD hS hA hl hQ
  have hl : lv_has ls 1 [(0, .int (nI q))] := hl
  refine lv_iload_n hx hb dX0_isBehindIdes_0 rfl (lv_at hl 0 rfl) ?_
  refine lv_iload_n hx hb dX0_isBehindIdes_1 rfl (lv_at hl 0 rfl) ?_
  refine pz_SR (rest := [.int (nI q)]) ⟨hx, hb, hml, hown, hts⟩ (k_X0_monthOfPlace l D ts q (by omega)) (va_cwS 1 hts gX0_isBehindIdes_X0_monthOfPlace rfl rfl rfl (by decide +kernel) ⟨Nat.le_of_ble_eq_true rfl, Nat.le_of_ble_eq_true rfl⟩) hK hP hD hS hA [] rfl rfl rfl rfl hl.1 rfl (lv_room (Nat.le_of_ble_eq_true rfl)) dX0_isBehindIdes_2 ⟨Nat.le_of_ble_eq_true rfl, Nat.le_of_ble_eq_true rfl⟩ (fun r H locs hr hP hS => ?_)
  obtain rfl : r = (nI (pm_mp q)) := hr
  have hf_2 := pm_mp_b q
  refine lv_iconst (v := nI 2) hx hb dX0_isBehindIdes_5 (by decide) ?_
  refine pz_SR (rest := [.int (nI q)]) ⟨hx, hb, hml, hown, hts⟩ (k_X0_placeOfAnchor l D ts (pm_mp q) 2 (by omega) (by omega) (by omega)) (va_cwS 2 hts gX0_isBehindIdes_X0_placeOfAnchor rfl rfl rfl (by decide +kernel) ⟨Nat.le_of_ble_eq_true rfl, Nat.le_of_ble_eq_true rfl⟩) hK hP hD hS hA [] rfl rfl rfl rfl hl.1 rfl (lv_room (Nat.le_of_ble_eq_true rfl)) dX0_isBehindIdes_6 ⟨Nat.le_of_ble_eq_true rfl, Nat.le_of_ble_eq_true rfl⟩ (fun r H locs hr hP hS => ?_)
  obtain rfl : r = (nI (pm_an (pm_mp q) 2)) := hr
  have hf_4 := pm_an_b (pm_mp q) 2 (by omega)
  have hf_5 := pm_cb_b (pm_mp q) (by omega)
  refine pn_icmp_le (tgt := 16) hx hb (by omega) (by omega) dX0_isBehindIdes_9 (by decide) (fun c_6 => ?_) (fun c_6 => ?_)
  · -- 9 yes
    refine lv_iconst (v := nI 0) hx hb dX0_isBehindIdes_16 (by decide) ?_
    exact hQ _ _ _ _ _ dX0_isBehindIdes_17 (by decide) (pz_bf (by omega)) hS
  · -- 9 no
    refine lv_iconst (v := nI 1) hx hb dX0_isBehindIdes_12 (by decide) ?_
    refine lv_goto (tgt := 17) hx hb dX0_isBehindIdes_13 (by decide) ?_
    exact hQ _ _ _ _ _ dX0_isBehindIdes_17 (by decide) (pz_bt (by omega)) hS
set_option maxHeartbeats 4000000 in
set_option maxRecDepth 100000 in
theorem k_X0_anchorOfPlace (l : Launch) (D : va_G) (ts : List (ClassId × FieldType)) (q : Nat) (hy0 : q ≤ 366) : pz_R l yX0_anchorOfPlace wsX0_anchorOfPlace ({ frames := 4, cells := 0, slots := 0, locals := 85 } : Room) D ts [.int (nI q)] [] (fun r => r = nI (pm_ap q)) := by
  refine pz_R_of (cc := cX0_anchorOfPlace) (maxL := 2) (ty := .int) (own := RX0) (by decide) rfl rfl (Nat.le_of_ble_eq_true rfl) ?_
  intro p e s m below meth c A ls Q hx hb hml hown hts hK hP hD hS hA hl hQ
  have hl : lv_has ls 2 [(0, .int (nI q))] := hl
  refine lv_iload_n hx hb dX0_anchorOfPlace_0 rfl (lv_at hl 0 rfl) ?_
  refine pz_SR (rest := []) ⟨hx, hb, hml, hown, hts⟩ (k_X0_monthOfPlace l D ts q (by omega)) (va_cwS 1 hts gX0_anchorOfPlace_X0_monthOfPlace rfl rfl rfl (by decide +kernel) ⟨Nat.le_of_ble_eq_true rfl, Nat.le_of_ble_eq_true rfl⟩) hK hP hD hS hA [] rfl rfl rfl rfl hl.1 rfl (lv_room (Nat.le_of_ble_eq_true rfl)) dX0_anchorOfPlace_1 ⟨Nat.le_of_ble_eq_true rfl, Nat.le_of_ble_eq_true rfl⟩ (fun r H locs hr hP hS => ?_)
  obtain rfl : r = (nI (pm_mp q)) := hr
  have hf_2 := pm_mp_b q
  refine lv_istore_n (lv' := [(1, .int (nI (pm_mp q))), (0, .int (nI q))]) hx hb dX0_anchorOfPlace_4 rfl hl (by decide) rfl (fun ls hl => ?_)
  refine lv_iload_n hx hb dX0_anchorOfPlace_5 rfl (lv_at hl 1 rfl) ?_
  refine lv_iload_n hx hb dX0_anchorOfPlace_6 rfl (lv_at hl 0 rfl) ?_
  refine lv_iconst (v := nI 0) hx hb dX0_anchorOfPlace_7 (by decide) ?_
  refine pz_SR (rest := [.int (nI q)]) ⟨hx, hb, hml, hown, hts⟩ (k_X0_placeOfAnchor l D ts (pm_mp q) 0 (by omega) (by omega) (by omega)) (va_cwS 2 hts gX0_anchorOfPlace_X0_placeOfAnchor rfl rfl rfl (by decide +kernel) ⟨Nat.le_of_ble_eq_true rfl, Nat.le_of_ble_eq_true rfl⟩) hK hP hD hS hA [] rfl rfl rfl rfl hl.1 rfl (lv_room (Nat.le_of_ble_eq_true rfl)) dX0_anchorOfPlace_8 ⟨Nat.le_of_ble_eq_true rfl, Nat.le_of_ble_eq_true rfl⟩ (fun r H locs hr hP hS => ?_)
  obtain rfl : r = (nI (pm_an (pm_mp q) 0)) := hr
  have hf_4 := pm_an_b (pm_mp q) 0 (by omega)
  have hf_5 := pm_cb_b (pm_mp q) (by omega)
  refine pn_icmp_eq (tgt := 21) hx hb (by omega) (by omega) dX0_anchorOfPlace_11 (by decide) (fun c_6 => ?_) (fun c_6 => ?_)
  · -- 11 yes
    refine lv_iconst (v := nI 0) hx hb dX0_anchorOfPlace_21 (by decide) ?_
    exact hQ _ _ _ _ _ dX0_anchorOfPlace_22 rfl (congrArg nI (by unfold pm_ap; (repeat' split) <;> omega)) hS
  · -- 11 no
    refine lv_iload_n hx hb dX0_anchorOfPlace_14 rfl (lv_at hl 1 rfl) ?_
    refine pz_SR (rest := []) ⟨hx, hb, hml, hown, hts⟩ (k_X0_isBehindIdes l D ts q (by omega)) (va_cwS 1 hts gX0_anchorOfPlace_X0_isBehindIdes rfl rfl rfl (by decide +kernel) ⟨Nat.le_of_ble_eq_true rfl, Nat.le_of_ble_eq_true rfl⟩) hK hP hD hS hA [] rfl rfl rfl rfl hl.1 rfl (lv_room (Nat.le_of_ble_eq_true rfl)) dX0_anchorOfPlace_15 ⟨Nat.le_of_ble_eq_true rfl, Nat.le_of_ble_eq_true rfl⟩ (fun r H locs hr hP hS => ?_)
    obtain rfl : r = (pz_b (pm_an (pm_mp q) 2 < q)) := hr
    refine pb_if_eq (tgt := 23) hx hb dX0_anchorOfPlace_18 (by decide) (fun c_8 => ?_) (fun c_8 => ?_)
    · -- 18 yes
      refine lv_iload_n hx hb dX0_anchorOfPlace_23 rfl (lv_at hl 1 rfl) ?_
      refine lv_iload_n hx hb dX0_anchorOfPlace_24 rfl (lv_at hl 0 rfl) ?_
      refine lv_iconst (v := nI 1) hx hb dX0_anchorOfPlace_25 (by decide) ?_
      refine pz_SR (rest := [.int (nI q)]) ⟨hx, hb, hml, hown, hts⟩ (k_X0_placeOfAnchor l D ts (pm_mp q) 1 (by omega) (by omega) (by omega)) (va_cwS 2 hts gX0_anchorOfPlace_X0_placeOfAnchor rfl rfl rfl (by decide +kernel) ⟨Nat.le_of_ble_eq_true rfl, Nat.le_of_ble_eq_true rfl⟩) hK hP hD hS hA [] rfl rfl rfl rfl hl.1 rfl (lv_room (Nat.le_of_ble_eq_true rfl)) dX0_anchorOfPlace_26 ⟨Nat.le_of_ble_eq_true rfl, Nat.le_of_ble_eq_true rfl⟩ (fun r H locs hr hP hS => ?_)
      obtain rfl : r = (nI (pm_an (pm_mp q) 1)) := hr
      have hf_10 := pm_an_b (pm_mp q) 1 (by omega)
      have hf_11 := pm_cb_b (pm_mp q) (by omega)
      refine pn_icmp_gt (tgt := 36) hx hb (by omega) (by omega) dX0_anchorOfPlace_29 (by decide) (fun c_12 => ?_) (fun c_12 => ?_)
      · -- 29 yes
        refine lv_iconst (v := nI 2) hx hb dX0_anchorOfPlace_36 (by decide) ?_
        exact hQ _ _ _ _ _ dX0_anchorOfPlace_37 rfl (congrArg nI (by unfold pm_ap; (repeat' split) <;> omega)) hS
      · -- 29 no
        refine lv_iconst (v := nI 1) hx hb dX0_anchorOfPlace_32 (by decide) ?_
        refine lv_goto (tgt := 37) hx hb dX0_anchorOfPlace_33 (by decide) ?_
        exact hQ _ _ _ _ _ dX0_anchorOfPlace_37 rfl (congrArg nI (by unfold pm_ap; (repeat' split) <;> omega)) hS
    · -- 18 no
      refine lv_iconst (v := nI 0) hx hb dX0_anchorOfPlace_21 (by decide) ?_
      exact hQ _ _ _ _ _ dX0_anchorOfPlace_22 rfl (congrArg nI (by unfold pm_ap; (repeat' split) <;> omega)) hS
set_option maxHeartbeats 4000000 in
set_option maxRecDepth 100000 in
theorem k_X0_greatestCountTo (l : Launch) (D : va_G) (ts : List (ClassId × FieldType)) (mm a : Nat) (hy0 : 1 ≤ mm) (hy1 : mm ≤ 12) (hy2 : a ≤ 2) : pz_R l yX0_greatestCountTo wsX0_greatestCountTo ({ frames := 1, cells := 0, slots := 0, locals := 20 } : Room) D ts [.int (nI mm), .int (nI a)] [] (fun r => r = nI (pm_gc mm a)) := by
  refine pz_R_of (cc := cX0_greatestCountTo) (maxL := 4) (ty := .int) (own := RX0) (by decide) rfl rfl (Nat.le_of_ble_eq_true rfl) ?_
  intro p e s m below meth c A ls Q hx hb hml hown hts hK hP hD hS hA hl hQ
  have hl : lv_has ls 4 [(0, .int (nI mm)), (1, .int (nI a))] := hl
  refine lv_iload_n hx hb dX0_greatestCountTo_0 rfl (lv_at hl 1 rfl) ?_
  refine lv_iconst (v := nI 2) hx hb dX0_greatestCountTo_1 (by decide) ?_
  refine pn_icmp_ne (tgt := 8) hx hb (by omega) (by omega) dX0_greatestCountTo_2 (by decide) (fun c_1 => ?_) (fun c_1 => ?_)
  · -- 2 yes
    refine lv_iload_n hx hb dX0_greatestCountTo_8 rfl (lv_at hl 1 rfl) ?_
    refine lv_iconst (v := nI 1) hx hb dX0_greatestCountTo_9 (by decide) ?_
    refine pn_icmp_ne (tgt := 20) hx hb (by omega) (by omega) dX0_greatestCountTo_10 (by decide) (fun c_2 => ?_) (fun c_2 => ?_)
    · -- 10 yes
      refine lv_iload_n hx hb dX0_greatestCountTo_20 rfl (lv_at hl 0 rfl) ?_
      refine lv_iconst (v := nI 1) hx hb dX0_greatestCountTo_21 (by decide) ?_
      refine pn_icmp_ne (tgt := 30) hx hb (by omega) (by omega) dX0_greatestCountTo_22 (by decide) (fun c_3 => ?_) (fun c_3 => ?_)
      · -- 22 yes
        refine lv_iload_n hx hb dX0_greatestCountTo_30 rfl (lv_at hl 0 rfl) ?_
        refine lv_iconst (v := nI 1) hx hb dX0_greatestCountTo_31 (by decide) ?_
        refine pn_isub hx hb (by omega) dX0_greatestCountTo_32 ?_
        refine lv_istore_n (lv' := [(2, .int (nI (mm - 1))), (0, .int (nI mm)), (1, .int (nI a))]) hx hb dX0_greatestCountTo_33 rfl hl (by decide) rfl (fun ls hl => ?_)
        refine lv_iload_n hx hb dX0_greatestCountTo_34 rfl (lv_at hl 0 rfl) ?_
        refine pz_SR (rest := []) ⟨hx, hb, hml, hown, hts⟩ (k_X0_nonesDayOf l D ts (mm - 1) (by omega)) (va_cwS 1 hts gX0_greatestCountTo_X0_nonesDayOf rfl rfl rfl (by decide +kernel) ⟨Nat.le_of_ble_eq_true rfl, Nat.le_of_ble_eq_true rfl⟩) hK hP hD hS hA [] rfl rfl rfl rfl hl.1 rfl (lv_room (Nat.le_of_ble_eq_true rfl)) dX0_greatestCountTo_35 ⟨Nat.le_of_ble_eq_true rfl, Nat.le_of_ble_eq_true rfl⟩ (fun r H locs hr hP hS => ?_)
        obtain rfl : r = (nI (pm_nn (mm - 1))) := hr
        have hf_5 := pm_nn_b (mm - 1)
        refine lv_bipush (v := nI 8) hx hb dX0_greatestCountTo_38 (by decide) ?_
        refine pn_iadd hx hb dX0_greatestCountTo_40 ?_
        refine lv_istore_n (lv' := [(3, .int (nI ((pm_nn (mm - 1)) + 8))), (2, .int (nI (mm - 1))), (0, .int (nI mm)), (1, .int (nI a))]) hx hb dX0_greatestCountTo_41 rfl hl (by decide) rfl (fun ls hl => ?_)
        refine lv_iload_n hx hb dX0_greatestCountTo_42 rfl (lv_at hl 1 rfl) ?_
        refine pz_SR (rest := []) ⟨hx, hb, hml, hown, hts⟩ (k_X0_commonLengthOf l D ts (mm - 1) (by omega)) (va_cwS 1 hts gX0_greatestCountTo_X0_commonLengthOf rfl rfl rfl (by decide +kernel) ⟨Nat.le_of_ble_eq_true rfl, Nat.le_of_ble_eq_true rfl⟩) hK hP hD hS hA [] rfl rfl rfl rfl hl.1 rfl (lv_room (Nat.le_of_ble_eq_true rfl)) dX0_greatestCountTo_43 ⟨Nat.le_of_ble_eq_true rfl, Nat.le_of_ble_eq_true rfl⟩ (fun r H locs hr hP hS => ?_)
        obtain rfl : r = (nI (pm_cl (mm - 1))) := hr
        have hf_7 := pm_cl_b (mm - 1)
        refine lv_iload_n hx hb dX0_greatestCountTo_46 rfl (lv_at hl 0 rfl) ?_
        refine pn_isub hx hb (by omega) dX0_greatestCountTo_47 ?_
        refine lv_iconst (v := nI 1) hx hb dX0_greatestCountTo_48 (by decide) ?_
        refine pn_iadd hx hb dX0_greatestCountTo_49 ?_
        exact hQ _ _ _ _ _ dX0_greatestCountTo_50 rfl (congrArg nI (by unfold pm_gc; simp_all)) hS
      · -- 22 no
        refine lv_bipush (v := nI 12) hx hb dX0_greatestCountTo_25 (by decide) ?_
        refine lv_goto (tgt := 33) hx hb dX0_greatestCountTo_27 (by decide) ?_
        refine lv_istore_n (lv' := [(2, .int (nI 12)), (0, .int (nI mm)), (1, .int (nI a))]) hx hb dX0_greatestCountTo_33 rfl hl (by decide) rfl (fun ls hl => ?_)
        refine lv_iload_n hx hb dX0_greatestCountTo_34 rfl (lv_at hl 0 rfl) ?_
        refine pz_SR (rest := []) ⟨hx, hb, hml, hown, hts⟩ (k_X0_nonesDayOf l D ts 12 (by omega)) (va_cwS 1 hts gX0_greatestCountTo_X0_nonesDayOf rfl rfl rfl (by decide +kernel) ⟨Nat.le_of_ble_eq_true rfl, Nat.le_of_ble_eq_true rfl⟩) hK hP hD hS hA [] rfl rfl rfl rfl hl.1 rfl (lv_room (Nat.le_of_ble_eq_true rfl)) dX0_greatestCountTo_35 ⟨Nat.le_of_ble_eq_true rfl, Nat.le_of_ble_eq_true rfl⟩ (fun r H locs hr hP hS => ?_)
        obtain rfl : r = (nI (pm_nn 12)) := hr
        have hf_9 := pm_nn_b 12
        refine lv_bipush (v := nI 8) hx hb dX0_greatestCountTo_38 (by decide) ?_
        refine pn_iadd hx hb dX0_greatestCountTo_40 ?_
        refine lv_istore_n (lv' := [(3, .int (nI ((pm_nn 12) + 8))), (2, .int (nI 12)), (0, .int (nI mm)), (1, .int (nI a))]) hx hb dX0_greatestCountTo_41 rfl hl (by decide) rfl (fun ls hl => ?_)
        refine lv_iload_n hx hb dX0_greatestCountTo_42 rfl (lv_at hl 1 rfl) ?_
        refine pz_SR (rest := []) ⟨hx, hb, hml, hown, hts⟩ (k_X0_commonLengthOf l D ts 12 (by omega)) (va_cwS 1 hts gX0_greatestCountTo_X0_commonLengthOf rfl rfl rfl (by decide +kernel) ⟨Nat.le_of_ble_eq_true rfl, Nat.le_of_ble_eq_true rfl⟩) hK hP hD hS hA [] rfl rfl rfl rfl hl.1 rfl (lv_room (Nat.le_of_ble_eq_true rfl)) dX0_greatestCountTo_43 ⟨Nat.le_of_ble_eq_true rfl, Nat.le_of_ble_eq_true rfl⟩ (fun r H locs hr hP hS => ?_)
        obtain rfl : r = (nI (pm_cl 12)) := hr
        have hf_11 := pm_cl_b 12
        refine lv_iload_n hx hb dX0_greatestCountTo_46 rfl (lv_at hl 0 rfl) ?_
        refine pn_isub hx hb (by omega) dX0_greatestCountTo_47 ?_
        refine lv_iconst (v := nI 1) hx hb dX0_greatestCountTo_48 (by decide) ?_
        refine pn_iadd hx hb dX0_greatestCountTo_49 ?_
        exact hQ _ _ _ _ _ dX0_greatestCountTo_50 rfl (congrArg nI (by unfold pm_gc; simp_all)) hS
    · -- 10 no
      refine lv_iload_n hx hb dX0_greatestCountTo_13 rfl (lv_at hl 0 rfl) ?_
      refine pz_SR (rest := []) ⟨hx, hb, hml, hown, hts⟩ (k_X0_nonesDayOf l D ts mm (by omega)) (va_cwS 1 hts gX0_greatestCountTo_X0_nonesDayOf rfl rfl rfl (by decide +kernel) ⟨Nat.le_of_ble_eq_true rfl, Nat.le_of_ble_eq_true rfl⟩) hK hP hD hS hA [] rfl rfl rfl rfl hl.1 rfl (lv_room (Nat.le_of_ble_eq_true rfl)) dX0_greatestCountTo_14 ⟨Nat.le_of_ble_eq_true rfl, Nat.le_of_ble_eq_true rfl⟩ (fun r H locs hr hP hS => ?_)
      obtain rfl : r = (nI (pm_nn mm)) := hr
      have hf_13 := pm_nn_b mm
      refine lv_iconst (v := nI 1) hx hb dX0_greatestCountTo_17 (by decide) ?_
      refine pn_isub hx hb (by omega) dX0_greatestCountTo_18 ?_
      exact hQ _ _ _ _ _ dX0_greatestCountTo_19 rfl (congrArg nI (by unfold pm_gc; simp_all)) hS
  · -- 2 no
    refine lv_bipush (v := nI 8) hx hb dX0_greatestCountTo_5 (by decide) ?_
    exact hQ _ _ _ _ _ dX0_greatestCountTo_7 rfl (congrArg nI (by unfold pm_gc; simp_all)) hS
set_option maxHeartbeats 4000000 in
set_option maxRecDepth 100000 in
theorem k_X0_isToldAsDoubled (l : Launch) (D : va_G) (ts : List (ClassId × FieldType)) (y mm a k : Nat) (hy0 : y ≤ 4000) (hy1 : mm ≤ 13) (hy2 : a ≤ 2) (hy3 : k < 2147483648) : pz_R l yX0_isToldAsDoubled wsX0_isToldAsDoubled ({ frames := 1, cells := 0, slots := 0, locals := 20 } : Room) D ts [.int (nI y), .int (nI mm), .int (nI a), .int (nI k)] [] (fun r => r = pz_b (y % 4 = 0 ∧ mm = 3 ∧ a = 0 ∧ k = 6)) := by
  refine pz_R_of (cc := cX0_isToldAsDoubled) (maxL := 4) (ty := .boolean) (own := RX0) (by decide) rfl rfl (Nat.le_of_ble_eq_true rfl) ?_
  intro p e s m below meth c A ls Q hx hb hml hown hts hK hP hD hS hA hl hQ
  have hl : lv_has ls 4 [(0, .int (nI y)), (1, .int (nI mm)), (2, .int (nI a)), (3, .int (nI k))] := hl
  refine lv_iload_n hx hb dX0_isToldAsDoubled_0 rfl (lv_at hl 0 rfl) ?_
  refine pz_SR (rest := []) ⟨hx, hb, hml, hown, hts⟩ (k_X0_isLeap l D ts y (by omega)) (va_cwS 1 hts gX0_isToldAsDoubled_X0_isLeap rfl rfl rfl (by decide +kernel) ⟨Nat.le_of_ble_eq_true rfl, Nat.le_of_ble_eq_true rfl⟩) hK hP hD hS hA [] rfl rfl rfl rfl hl.1 rfl (lv_room (Nat.le_of_ble_eq_true rfl)) dX0_isToldAsDoubled_1 ⟨Nat.le_of_ble_eq_true rfl, Nat.le_of_ble_eq_true rfl⟩ (fun r H locs hr hP hS => ?_)
  obtain rfl : r = (pz_b (y % 4 = 0)) := hr
  refine pb_if_eq (tgt := 26) hx hb dX0_isToldAsDoubled_4 (by decide) (fun c_2 => ?_) (fun c_2 => ?_)
  · -- 4 yes
    refine lv_iconst (v := nI 0) hx hb dX0_isToldAsDoubled_26 (by decide) ?_
    exact hQ _ _ _ _ _ dX0_isToldAsDoubled_27 (by decide) (pz_bf (by omega)) hS
  · -- 4 no
    refine lv_iload_n hx hb dX0_isToldAsDoubled_7 rfl (lv_at hl 1 rfl) ?_
    refine lv_iconst (v := nI 3) hx hb dX0_isToldAsDoubled_8 (by decide) ?_
    refine pn_icmp_ne (tgt := 26) hx hb (by omega) (by omega) dX0_isToldAsDoubled_9 (by decide) (fun c_3 => ?_) (fun c_3 => ?_)
    · -- 9 yes
      refine lv_iconst (v := nI 0) hx hb dX0_isToldAsDoubled_26 (by decide) ?_
      exact hQ _ _ _ _ _ dX0_isToldAsDoubled_27 (by decide) (pz_bf (by omega)) hS
    · -- 9 no
      refine lv_iload_n hx hb dX0_isToldAsDoubled_12 rfl (lv_at hl 2 rfl) ?_
      refine pn_if_ne (tgt := 26) hx hb (by omega) dX0_isToldAsDoubled_13 (by decide) (fun c_4 => ?_) (fun c_4 => ?_)
      · -- 13 yes
        refine lv_iconst (v := nI 0) hx hb dX0_isToldAsDoubled_26 (by decide) ?_
        exact hQ _ _ _ _ _ dX0_isToldAsDoubled_27 (by decide) (pz_bf (by omega)) hS
      · -- 13 no
        refine lv_iload_n hx hb dX0_isToldAsDoubled_16 rfl (lv_at hl 3 rfl) ?_
        refine lv_bipush (v := nI 6) hx hb dX0_isToldAsDoubled_17 (by decide) ?_
        refine pn_icmp_ne (tgt := 26) hx hb (by omega) (by omega) dX0_isToldAsDoubled_19 (by decide) (fun c_5 => ?_) (fun c_5 => ?_)
        · -- 19 yes
          refine lv_iconst (v := nI 0) hx hb dX0_isToldAsDoubled_26 (by decide) ?_
          exact hQ _ _ _ _ _ dX0_isToldAsDoubled_27 (by decide) (pz_bf (by omega)) hS
        · -- 19 no
          refine lv_iconst (v := nI 1) hx hb dX0_isToldAsDoubled_22 (by decide) ?_
          refine lv_goto (tgt := 27) hx hb dX0_isToldAsDoubled_23 (by decide) ?_
          exact hQ _ _ _ _ _ dX0_isToldAsDoubled_27 (by decide) (pz_bt (by omega)) hS
set_option maxHeartbeats 4000000 in
set_option maxRecDepth 100000 in
theorem k_X0_eightLetterAt (l : Launch) (D : va_G) (ts : List (ClassId × FieldType)) (n : Nat) (hy0 : n < 1095751) : pz_R l yX0_eightLetterAt wsX0_eightLetterAt ({ frames := 3, cells := 0, slots := 0, locals := 60 } : Room) D ts [.int (nI n)] [] (fun r => r = nI ((pm_pl n - 1) % 8)) := by
  refine pz_R_of (cc := cX0_eightLetterAt) (maxL := 1) (ty := .int) (own := RX0) (by decide) rfl rfl (Nat.le_of_ble_eq_true rfl) ?_
  intro p e s m below meth c A ls Q hx hb hml hown hts hK hP hD hS hA hl hQ
  have hl : lv_has ls 1 [(0, .int (nI n))] := hl
  refine lv_iload_n hx hb dX0_eightLetterAt_0 rfl (lv_at hl 0 rfl) ?_
  refine pz_SR (rest := []) ⟨hx, hb, hml, hown, hts⟩ (k_X0_placeAt l D ts n (by omega)) (va_cwS 1 hts gX0_eightLetterAt_X0_placeAt rfl rfl rfl (by decide +kernel) ⟨Nat.le_of_ble_eq_true rfl, Nat.le_of_ble_eq_true rfl⟩) hK hP hD hS hA [] rfl rfl rfl rfl hl.1 rfl (lv_room (Nat.le_of_ble_eq_true rfl)) dX0_eightLetterAt_1 ⟨Nat.le_of_ble_eq_true rfl, Nat.le_of_ble_eq_true rfl⟩ (fun r H locs hr hP hS => ?_)
  obtain rfl : r = (nI (pm_pl n)) := hr
  have hf_2 := pm_pl_b n
  refine lv_iconst (v := nI 1) hx hb dX0_eightLetterAt_4 (by decide) ?_
  refine pn_isub hx hb (by omega) dX0_eightLetterAt_5 ?_
  refine lv_bipush (v := nI 8) hx hb dX0_eightLetterAt_6 (by decide) ?_
  refine pn_irem hx hb (by omega) (by omega) (by omega) dX0_eightLetterAt_8 ?_
  exact hQ _ _ _ _ _ dX0_eightLetterAt_9 rfl (congrArg nI (by rfl)) hS
set_option maxHeartbeats 4000000 in
set_option maxRecDepth 100000 in
theorem k_X0_sevenLetterAt (l : Launch) (D : va_G) (ts : List (ClassId × FieldType)) (n : Nat) (hy0 : n < 1095751) : pz_R l yX0_sevenLetterAt wsX0_sevenLetterAt ({ frames := 3, cells := 0, slots := 0, locals := 60 } : Room) D ts [.int (nI n)] [] (fun r => r = nI ((pm_pl n - 1) % 7)) := by
  refine pz_R_of (cc := cX0_sevenLetterAt) (maxL := 1) (ty := .int) (own := RX0) (by decide) rfl rfl (Nat.le_of_ble_eq_true rfl) ?_
  intro p e s m below meth c A ls Q hx hb hml hown hts hK hP hD hS hA hl hQ
  have hl : lv_has ls 1 [(0, .int (nI n))] := hl
  refine lv_iload_n hx hb dX0_sevenLetterAt_0 rfl (lv_at hl 0 rfl) ?_
  refine pz_SR (rest := []) ⟨hx, hb, hml, hown, hts⟩ (k_X0_placeAt l D ts n (by omega)) (va_cwS 1 hts gX0_sevenLetterAt_X0_placeAt rfl rfl rfl (by decide +kernel) ⟨Nat.le_of_ble_eq_true rfl, Nat.le_of_ble_eq_true rfl⟩) hK hP hD hS hA [] rfl rfl rfl rfl hl.1 rfl (lv_room (Nat.le_of_ble_eq_true rfl)) dX0_sevenLetterAt_1 ⟨Nat.le_of_ble_eq_true rfl, Nat.le_of_ble_eq_true rfl⟩ (fun r H locs hr hP hS => ?_)
  obtain rfl : r = (nI (pm_pl n)) := hr
  have hf_2 := pm_pl_b n
  refine lv_iconst (v := nI 1) hx hb dX0_sevenLetterAt_4 (by decide) ?_
  refine pn_isub hx hb (by omega) dX0_sevenLetterAt_5 ?_
  refine lv_bipush (v := nI 7) hx hb dX0_sevenLetterAt_6 (by decide) ?_
  refine pn_irem hx hb (by omega) (by omega) (by omega) dX0_sevenLetterAt_8 ?_
  exact hQ _ _ _ _ _ dX0_sevenLetterAt_9 rfl (congrArg nI (by rfl)) hS
end PZ1
