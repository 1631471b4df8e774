section PZ3
set_option maxHeartbeats 4000000 in
set_option maxRecDepth 100000 in
theorem k_J9_floorMod_7cf53_8 (l : Launch) (D : va_G) (ts : List (ClassId × FieldType)) (x : Int32)  : pz_R l yJ9_floorMod_7cf53 wsJ9_floorMod_7cf53 ({ frames := 0, cells := 0, slots := 0, locals := 0 } : Room) D ts [.int x, .int (nI 8)] [] (fun r => r = nI ((x.toInt % 8).toNat)) := by
  refine pz_R_ofF (cc := cJ9_floorMod_7cf53) (maxL := 3) (ty := .int) (own := RJ9) (by decide +kernel) rfl rfl (Nat.le_of_ble_eq_true rfl) ?_
  intro p e s m below meth c A ls Q hx hb hml hown hts hK hP hD hS hA hl hQ
  have hl : lv_has ls 3 [(0, .int x), (1, .int (nI 8))] := hl
  have hr0 := pz_rng32 x
  have ht0 := pz_tm x.toInt 8
  have ho0 : (Int32.ofInt (x.toInt.tmod 8)).toInt = x.toInt.tmod 8 := by rw [ht0]; split <;> exact pz_ofI (by omega) (by omega)
  have hxn := pz_xor_neg (x := x) (b := 8) (by decide)
  refine lv_iload_n hx hb dJ9_floorMod_7cf53_0 rfl (lv_at hl 0 rfl) ?_
  refine lv_iload_n hx hb dJ9_floorMod_7cf53_1 rfl (lv_at hl 1 rfl) ?_
  refine lv_irem hx hb dJ9_floorMod_7cf53_2 (by decide)  ?_
  refine pn_top (y := (Int32.ofInt (x.toInt.tmod 8))) (pz_irem8 x) ?_
  refine lv_istore_n (lv' := [(2, .int (Int32.ofInt (x.toInt.tmod 8))), (0, .int x), (1, .int (nI 8))]) hx hb dJ9_floorMod_7cf53_3 rfl hl (by decide) rfl (fun ls hl => ?_)
  refine lv_iload_n hx hb dJ9_floorMod_7cf53_4 rfl (lv_at hl 1 rfl) ?_
  refine lv_iload_n hx hb dJ9_floorMod_7cf53_5 rfl (lv_at hl 2 rfl) ?_
  refine lv_ixor hx hb dJ9_floorMod_7cf53_6 ?_
  refine pi_if_ge (tgt := 18) (a := ((x ^^^ (nI 8))).toInt) hx hb rfl dJ9_floorMod_7cf53_7 (by decide) (fun c_1 => ?_) (fun c_1 => ?_)
  · -- 7 yes
    refine lv_iload_n hx hb dJ9_floorMod_7cf53_18 rfl (lv_at hl 0 rfl) ?_
    exact hQ _ _ _ _ _ dJ9_floorMod_7cf53_19 rfl (by apply Int32.toInt_inj.mp; rw [nI_toInt (by omega)]; have hv := ho0.trans ht0; split at hv <;> omega) hS
  · -- 7 no
    refine lv_iload_n hx hb dJ9_floorMod_7cf53_10 rfl (lv_at hl 0 rfl) ?_
    refine pi_if_eq (tgt := 18) (a := ((Int32.ofInt (x.toInt.tmod 8))).toInt) hx hb rfl dJ9_floorMod_7cf53_11 (by decide) (fun c_2 => ?_) (fun c_2 => ?_)
    · -- 11 yes
      refine lv_iload_n hx hb dJ9_floorMod_7cf53_18 rfl (lv_at hl 0 rfl) ?_
      exact hQ _ _ _ _ _ dJ9_floorMod_7cf53_19 rfl (by apply Int32.toInt_inj.mp; rw [nI_toInt (by omega)]; have hv := ho0.trans ht0; split at hv <;> omega) hS
    · -- 11 no
      refine lv_iload_n hx hb dJ9_floorMod_7cf53_14 rfl (lv_at hl 0 rfl) ?_
      refine lv_iload_n hx hb dJ9_floorMod_7cf53_15 rfl (lv_at hl 2 rfl) ?_
      refine lv_iadd hx hb dJ9_floorMod_7cf53_16 ?_
      exact hQ _ _ _ _ _ dJ9_floorMod_7cf53_17 rfl (by have hz : ¬ 0 ≤ x.toInt := (by omega); have hv := ho0.trans ht0; rw [if_neg hz] at hv; apply Int32.toInt_inj.mp; rw [nI_toInt (by omega), Int32.toInt_add, hv, show (nI 8).toInt = 8 from by decide, pz_bm (by omega) (by omega)]; omega) hS
set_option maxHeartbeats 4000000 in
set_option maxRecDepth 100000 in
theorem k_J9_floorMod_7cf53_7 (l : Launch) (D : va_G) (ts : List (ClassId × FieldType)) (x : Int32)  : pz_R l yJ9_floorMod_7cf53 wsJ9_floorMod_7cf53 ({ frames := 0, cells := 0, slots := 0, locals := 0 } : Room) D ts [.int x, .int (nI 7)] [] (fun r => r = nI ((x.toInt % 7).toNat)) := by
  refine pz_R_ofF (cc := cJ9_floorMod_7cf53) (maxL := 3) (ty := .int) (own := RJ9) (by decide +kernel) rfl rfl (Nat.le_of_ble_eq_true rfl) ?_
  intro p e s m below meth c A ls Q hx hb hml hown hts hK hP hD hS hA hl hQ
  have hl : lv_has ls 3 [(0, .int x), (1, .int (nI 7))] := hl
  have hr0 := pz_rng32 x
  have ht0 := pz_tm x.toInt 7
  have ho0 : (Int32.ofInt (x.toInt.tmod 7)).toInt = x.toInt.tmod 7 := by rw [ht0]; split <;> exact pz_ofI (by omega) (by omega)
  have hxn := pz_xor_neg (x := x) (b := 7) (by decide)
  refine lv_iload_n hx hb dJ9_floorMod_7cf53_0 rfl (lv_at hl 0 rfl) ?_
  refine lv_iload_n hx hb dJ9_floorMod_7cf53_1 rfl (lv_at hl 1 rfl) ?_
  refine lv_irem hx hb dJ9_floorMod_7cf53_2 (by decide)  ?_
  refine pn_top (y := (Int32.ofInt (x.toInt.tmod 7))) (pz_irem7 x) ?_
  refine lv_istore_n (lv' := [(2, .int (Int32.ofInt (x.toInt.tmod 7))), (0, .int x), (1, .int (nI 7))]) hx hb dJ9_floorMod_7cf53_3 rfl hl (by decide) rfl (fun ls hl => ?_)
  refine lv_iload_n hx hb dJ9_floorMod_7cf53_4 rfl (lv_at hl 1 rfl) ?_
  refine lv_iload_n hx hb dJ9_floorMod_7cf53_5 rfl (lv_at hl 2 rfl) ?_
  refine lv_ixor hx hb dJ9_floorMod_7cf53_6 ?_
  refine pi_if_ge (tgt := 18) (a := ((x ^^^ (nI 7))).toInt) hx hb rfl dJ9_floorMod_7cf53_7 (by decide) (fun c_1 => ?_) (fun c_1 => ?_)
  · -- 7 yes
    refine lv_iload_n hx hb dJ9_floorMod_7cf53_18 rfl (lv_at hl 0 rfl) ?_
    exact hQ _ _ _ _ _ dJ9_floorMod_7cf53_19 rfl (by apply Int32.toInt_inj.mp; rw [nI_toInt (by omega)]; have hv := ho0.trans ht0; split at hv <;> omega) hS
  · -- 7 no
    refine lv_iload_n hx hb dJ9_floorMod_7cf53_10 rfl (lv_at hl 0 rfl) ?_
    refine pi_if_eq (tgt := 18) (a := ((Int32.ofInt (x.toInt.tmod 7))).toInt) hx hb rfl dJ9_floorMod_7cf53_11 (by decide) (fun c_2 => ?_) (fun c_2 => ?_)
    · -- 11 yes
      refine lv_iload_n hx hb dJ9_floorMod_7cf53_18 rfl (lv_at hl 0 rfl) ?_
      exact hQ _ _ _ _ _ dJ9_floorMod_7cf53_19 rfl (by apply Int32.toInt_inj.mp; rw [nI_toInt (by omega)]; have hv := ho0.trans ht0; split at hv <;> omega) hS
    · -- 11 no
      refine lv_iload_n hx hb dJ9_floorMod_7cf53_14 rfl (lv_at hl 0 rfl) ?_
      refine lv_iload_n hx hb dJ9_floorMod_7cf53_15 rfl (lv_at hl 2 rfl) ?_
      refine lv_iadd hx hb dJ9_floorMod_7cf53_16 ?_
      exact hQ _ _ _ _ _ dJ9_floorMod_7cf53_17 rfl (by have hz : ¬ 0 ≤ x.toInt := (by omega); have hv := ho0.trans ht0; rw [if_neg hz] at hv; apply Int32.toInt_inj.mp; rw [nI_toInt (by omega), Int32.toInt_add, hv, show (nI 7).toInt = 7 from by decide, pz_bm (by omega) (by omega)]; omega) hS
set_option maxHeartbeats 4000000 in
set_option maxRecDepth 100000 in
theorem k_X0_isMarketAt (l : Launch) (D : va_G) (h0 ac ay ap : Nat) (cyI : ClassId) (ts : List (ClassId × FieldType)) (mk : Nat) (ch fy fp : Nat → Nat) (n : Nat) (hy0 : n < 1095750) (hmk : mk < 8) : pz_R l yX0_isMarketAt wsX0_isMarketAt ({ frames := 0, cells := 0, slots := 0, locals := 0 } : Room) D ((cyI, .int) :: ts) [.ref h0, .int (nI n)] [(h0, .inr (0, [.ref ac, .ref ay, .ref ap, .int (nI mk)])), (ac, .inl (cyI, 365, .inl (pz_ar ch))), (ay, .inl (cyI, 60, .inl (pz_ar fy))), (ap, .inl (cyI, 60, .inl (pz_ar fp)))] (fun r => r = pz_b (n % 8 = mk)) := by
  refine pz_R_of (cc := cX0_isMarketAt) (maxL := 2) (ty := .boolean) (own := RX0) (by decide) rfl rfl (Nat.le_of_ble_eq_true rfl) ?_
  intro p e s m below meth c A ls Q hx hb hml hown hts hK hP hD hS hA hl hQ
  have hl : lv_has ls 2 [(0, .ref h0), (1, .int (nI n))] := hl
  have hin : ∀ w ∈ u_ws RX0 TX0 4, w ∈ wsX0_isMarketAt := by decide +kernel
  refine lv_iload_n hx hb dX0_isMarketAt_0 rfl (lv_at hl 1 rfl) ?_
  refine lv_bipush (v := nI 8) hx hb dX0_isMarketAt_1 (by decide) ?_
  refine pn_irem hx hb (by omega) (by omega) (by omega) dX0_isMarketAt_3 ?_
  refine lv_aload_n hx hb dX0_isMarketAt_4 rfl (lv_at hl 0 rfl) ?_
  refine va_get (D := D) (ci := 0) (v := .int (nI mk)) (C := RX0) (T := TX0) (N := 4) hx hb hts hin hown hK hP 0 rfl rfl 3 (by decide) (hts (.fieldLink RX0 19 "RomanCalendar" "marketRemainder" "I") (by decide +kernel)) (fun _ h9 => h9) rfl dX0_isMarketAt_5 ?_
  refine pn_icmp_ne (tgt := 15) hx hb (by omega) (by omega) dX0_isMarketAt_8 (by decide) (fun c_1 => ?_) (fun c_1 => ?_)
  · -- 8 yes
    refine lv_iconst (v := nI 0) hx hb dX0_isMarketAt_15 (by decide) ?_
    exact hQ _ _ _ _ _ dX0_isMarketAt_16 (by decide) (pz_bf (by omega)) hS
  · -- 8 no
    refine lv_iconst (v := nI 1) hx hb dX0_isMarketAt_11 (by decide) ?_
    refine lv_goto (tgt := 16) hx hb dX0_isMarketAt_12 (by decide) ?_
    exact hQ _ _ _ _ _ dX0_isMarketAt_16 (by decide) (pz_bt (by omega)) hS
set_option maxHeartbeats 4000000 in
set_option maxRecDepth 100000 in
theorem k_X0_isMarket (l : Launch) (D : va_G) (h0 ac ay ap : Nat) (cyI : ClassId) (ts : List (ClassId × FieldType)) (mk : Nat) (ch fy fp : Nat → Nat) (n : Nat) (hy0 : n < 1095750) (hmk : mk < 8) : pz_R l yX0_isMarket wsX0_isMarket ({ frames := 1, cells := 0, slots := 0, locals := 21 } : Room) D ((cyI, .int) :: ts) [.ref h0, .int (nI n)] [(h0, .inr (0, [.ref ac, .ref ay, .ref ap, .int (nI mk)])), (ac, .inl (cyI, 365, .inl (pz_ar ch))), (ay, .inl (cyI, 60, .inl (pz_ar fy))), (ap, .inl (cyI, 60, .inl (pz_ar fp)))] (fun r => r = pz_b (n % 8 = mk)) := by
  refine pz_R_of (cc := cX0_isMarket) (maxL := 2) (ty := .boolean) (own := RX0) (by decide) rfl rfl (Nat.le_of_ble_eq_true rfl) ?_
  intro p e s m below meth c A ls Q hx hb hml hown hts hK hP hD hS hA hl hQ
  have hl : lv_has ls 2 [(0, .ref h0), (1, .int (nI n))] := hl
  refine lv_iload_n hx hb dX0_isMarket_0 rfl (lv_at hl 1 rfl) ?_
  refine pz_SRV (rest := []) ⟨hx, hb, hml, hown, hts⟩ (k_X0_checkNumber l D ((cyI, .int) :: ts) n (by omega)) (va_cwS 1 hts gX0_isMarket_X0_checkNumber rfl rfl rfl (by decide +kernel) ⟨Nat.le_of_ble_eq_true rfl, Nat.le_of_ble_eq_true rfl⟩) hK hP hD hS hA [] rfl rfl rfl rfl hl.1 rfl (lv_room (Nat.le_of_ble_eq_true rfl)) dX0_isMarket_1 ⟨Nat.le_of_ble_eq_true rfl, Nat.le_of_ble_eq_true rfl⟩ (fun H locs hP hS => ?_)
  refine lv_aload_n hx hb dX0_isMarket_4 rfl (lv_at hl 0 rfl) ?_
  refine lv_iload_n hx hb dX0_isMarket_5 rfl (lv_at hl 1 rfl) ?_
  refine pz_VR (rest := []) ⟨hx, hb, hml, hown, hts⟩ (k_X0_isMarketAt l D h0 ac ay ap cyI ts mk ch fy fp n (by omega) (by omega)) (cwV 1 hts gX0_isMarket_X0_isMarketAt rfl rfl rfl (by decide +kernel) ⟨Nat.le_of_ble_eq_true rfl, Nat.le_of_ble_eq_true rfl⟩) hK hP hD hS hA [0, 1, 2, 3] rfl rfl rfl 0 0 rfl rfl rfl hl.1 rfl (lv_room (Nat.le_of_ble_eq_true rfl)) dX0_isMarket_6 ⟨Nat.le_of_ble_eq_true rfl, Nat.le_of_ble_eq_true rfl⟩ (fun r H locs hr hP hS => ?_)
  obtain rfl : r = (pz_b (n % 8 = mk)) := hr
  exact hQ _ _ _ _ _ dX0_isMarket_9 pz_nb (pz_bc (by omega)) hS
set_option maxHeartbeats 4000000 in
set_option maxRecDepth 100000 in
theorem k_X0_setMarketDay (l : Launch) (D : va_G) (h0 ac ay ap : Nat) (cyI : ClassId) (ts : List (ClassId × FieldType)) (mk : Nat) (ch fy fp : Nat → Nat) (n : Nat) (hy0 : n < 1095750) : pz_I l yX0_setMarketDay wsX0_setMarketDay ({ frames := 1, cells := 0, slots := 0, locals := 20 } : Room) D ((cyI, .int) :: ts) [.ref h0, .int (nI n)] [(h0, .inr (0, [.ref ac, .ref ay, .ref ap, .int (nI mk)])), (ac, .inl (cyI, 365, .inl (pz_ar ch))), (ay, .inl (cyI, 60, .inl (pz_ar fy))), (ap, .inl (cyI, 60, .inl (pz_ar fp)))] (S := Unit) (fun r _ => r = nI mk) (fun _ => [(h0, .inr (0, [.ref ac, .ref ay, .ref ap, .int (nI (n % 8))])), (ac, .inl (cyI, 365, .inl (pz_ar ch))), (ay, .inl (cyI, 60, .inl (pz_ar fy))), (ap, .inl (cyI, 60, .inl (pz_ar fp)))]) := by
  refine pz_I_of (cc := cX0_setMarketDay) (maxL := 3) (ty := .int) (own := RX0) (by decide) rfl rfl (Nat.le_of_ble_eq_true rfl) ?_
  intro p e s m below meth c A ls Q hx hb hml hown hts hK hP hD hS hA hl hQ
  have hl : lv_has ls 3 [(0, .ref h0), (1, .int (nI n))] := hl
  have hin : ∀ w ∈ u_ws RX0 TX0 4, w ∈ wsX0_setMarketDay := by decide +kernel
  refine lv_iload_n hx hb dX0_setMarketDay_0 rfl (lv_at hl 1 rfl) ?_
  refine pz_SRV (rest := []) ⟨hx, hb, hml, hown, hts⟩ (k_X0_checkNumber l D ((cyI, .int) :: ts) n (by omega)) (va_cwS 1 hts gX0_setMarketDay_X0_checkNumber rfl rfl rfl (by decide +kernel) ⟨Nat.le_of_ble_eq_true rfl, Nat.le_of_ble_eq_true rfl⟩) hK hP (hD.weaken (fun _ _ _ _ => trivial)) hS hA [] rfl rfl rfl rfl hl.1 rfl (lv_room (Nat.le_of_ble_eq_true rfl)) dX0_setMarketDay_1 ⟨Nat.le_of_ble_eq_true rfl, Nat.le_of_ble_eq_true rfl⟩ (fun H locs hP hS => ?_)
  refine lv_aload_n hx hb dX0_setMarketDay_4 rfl (lv_at hl 0 rfl) ?_
  refine va_get (D := D) (ci := 0) (v := .int (nI mk)) (C := RX0) (T := TX0) (N := 4) hx hb hts hin hown hK hP 0 rfl rfl 3 (by decide) (hts (.fieldLink RX0 19 "RomanCalendar" "marketRemainder" "I") (by decide +kernel)) (fun _ h9 => h9) rfl dX0_setMarketDay_5 ?_
  refine lv_istore_n (lv' := [(2, .int (nI mk)), (0, .ref h0), (1, .int (nI n))]) hx hb dX0_setMarketDay_8 rfl hl (by decide) rfl (fun ls hl => ?_)
  refine lv_aload_n hx hb dX0_setMarketDay_9 rfl (lv_at hl 1 rfl) ?_
  refine lv_iload_n hx hb dX0_setMarketDay_10 rfl (lv_at hl 2 rfl) ?_
  refine lv_bipush (v := nI 8) hx hb dX0_setMarketDay_11 (by decide) ?_
  refine pn_irem hx hb (by omega) (by omega) (by omega) dX0_setMarketDay_13 ?_
  refine va_put (D := D) (ci := 0) (v := .int (nI (n % 8))) (ty := .int) (C := RX0) (T := TX0) (N := 4) hx hb hts hin tyX0 tyX0_ok nmX0 hown hK hP hD hS 0 rfl rfl 3 (by decide) (hts (.fieldLink RX0 19 "RomanCalendar" "marketRemainder" "I") (by decide +kernel)) (fun _ h9 => h9) rfl (by decide +kernel) rfl rfl (Nat.le_of_ble_eq_true rfl) dX0_setMarketDay_14 (fun H locs hP hD hS => ?_)
  have hP : va_P D vwCl [(h0, .inr (0, [.ref ac, .ref ay, .ref ap, .int (nI (n % 8))])), (ac, .inl (cyI, 365, .inl (pz_ar ch))), (ay, .inl (cyI, 60, .inl (pz_ar fy))), (ap, .inl (cyI, 60, .inl (pz_ar fp)))] H := hP
  have hD : va_D A [(h0, .inr (0, [.ref ac, .ref ay, .ref ap, .int (nI (n % 8))])), (ac, .inl (cyI, 365, .inl (pz_ar ch))), (ay, .inl (cyI, 60, .inl (pz_ar fy))), (ap, .inl (cyI, 60, .inl (pz_ar fp)))] := hD
  refine lv_iload_n hx hb dX0_setMarketDay_17 rfl (lv_at hl 0 rfl) ?_
  exact hQ _ _ _ _ _ () dX0_setMarketDay_18 rfl (congrArg nI (by rfl)) hP hD hS
set_option maxHeartbeats 4000000 in
set_option maxRecDepth 100000 in
theorem k_X0_readCharacter (l : Launch) (D : va_G) (h0 ac ay ap : Nat) (cyI : ClassId) (ts : List (ClassId × FieldType)) (mk : Nat) (ch fy fp : Nat → Nat) (q : Nat) (hy0 : 1 ≤ q) (hy1 : q ≤ 365) : pz_R l yX0_readCharacter wsX0_readCharacter ({ frames := 1, cells := 0, slots := 0, locals := 20 } : Room) D ((cyI, .int) :: ts) [.ref h0, .int (nI q)] [(h0, .inr (0, [.ref ac, .ref ay, .ref ap, .int (nI mk)])), (ac, .inl (cyI, 365, .inl (pz_ar ch))), (ay, .inl (cyI, 60, .inl (pz_ar fy))), (ap, .inl (cyI, 60, .inl (pz_ar fp)))] (fun r => r = nI (ch (q - 1))) := by
  refine pz_R_of (cc := cX0_readCharacter) (maxL := 2) (ty := .int) (own := RX0) (by decide) rfl rfl (Nat.le_of_ble_eq_true rfl) ?_
  intro p e s m below meth c A ls Q hx hb hml hown hts hK hP hD hS hA hl hQ
  have hl : lv_has ls 2 [(0, .ref h0), (1, .int (nI q))] := hl
  have hin : ∀ w ∈ u_ws RX0 TX0 4, w ∈ wsX0_readCharacter := by decide +kernel
  have eq0 : (nI q).toInt = (q : Int) := nI_toInt (by omega)
  refine lv_iload_n hx hb dX0_readCharacter_0 rfl (lv_at hl 1 rfl) ?_
  refine pz_SR (rest := []) ⟨hx, hb, hml, hown, hts⟩ (k_X0_isPlace l D ((cyI, .int) :: ts) (nI q) ) (va_cwS 1 hts gX0_readCharacter_X0_isPlace rfl rfl rfl (by decide +kernel) ⟨Nat.le_of_ble_eq_true rfl, Nat.le_of_ble_eq_true rfl⟩) hK hP hD hS hA [] rfl rfl rfl rfl hl.1 rfl (lv_room (Nat.le_of_ble_eq_true rfl)) dX0_readCharacter_1 ⟨Nat.le_of_ble_eq_true rfl, Nat.le_of_ble_eq_true rfl⟩ (fun r H locs hr hP hS => ?_)
  obtain rfl : r = (pz_b (1 ≤ (nI q).toInt ∧ (nI q).toInt ≤ 365)) := hr
  refine pb_if_eq (tgt := 18) hx hb dX0_readCharacter_4 (by decide) (fun c_2 => ?_) (fun c_2 => ?_)
  · -- 4 yes
    exfalso; rw [eq0] at *; omega
  · -- 4 no
    refine lv_aload_n hx hb dX0_readCharacter_7 rfl (lv_at hl 0 rfl) ?_
    refine va_get (D := D) (ci := 0) (v := .ref ac) (C := RX0) (T := TX0) (N := 4) hx hb hts hin hown hK hP 0 rfl rfl 0 (by decide) (hts (.fieldLink RX0 9 "RomanCalendar" "characters" "[I") (by decide +kernel)) (fun _ h9 => h9) rfl dX0_readCharacter_8 ?_
    refine lv_iload_n hx hb dX0_readCharacter_11 rfl (lv_at hl 1 rfl) ?_
    refine lv_iconst (v := nI 1) hx hb dX0_readCharacter_12 (by decide) ?_
    refine pn_isub hx hb (by omega) dX0_readCharacter_13 ?_
    refine pn_iald hx hb hK hP 1 0 rfl rfl (by omega) (by decide) dX0_readCharacter_14 ?_
    refine lv_goto (tgt := 19) hx hb dX0_readCharacter_15 (by decide) ?_
    exact hQ _ _ _ _ _ dX0_readCharacter_19 rfl (congrArg nI (by rfl)) hS
set_option maxHeartbeats 4000000 in
set_option maxRecDepth 100000 in
theorem k_X0_writeCharacter (l : Launch) (D : va_G) (h0 ac ay ap : Nat) (cyI : ClassId) (ts : List (ClassId × FieldType)) (mk : Nat) (ch fy fp : Nat → Nat) (q v : Nat) (hy0 : 1 ≤ q) (hy1 : q ≤ 365) : pz_V l yX0_writeCharacter wsX0_writeCharacter ({ frames := 1, cells := 0, slots := 0, locals := 20 } : Room) D ((cyI, .int) :: ts) [.ref h0, .int (nI q), .int (nI v)] [(h0, .inr (0, [.ref ac, .ref ay, .ref ap, .int (nI mk)])), (ac, .inl (cyI, 365, .inl (pz_ar ch))), (ay, .inl (cyI, 60, .inl (pz_ar fy))), (ap, .inl (cyI, 60, .inl (pz_ar fp)))] (S := Unit) (fun _ => True) (fun _ => [(h0, .inr (0, [.ref ac, .ref ay, .ref ap, .int (nI mk)])), (ac, .inl (cyI, 365, .inl (pz_ar (pz_u ch (q - 1) v)))), (ay, .inl (cyI, 60, .inl (pz_ar fy))), (ap, .inl (cyI, 60, .inl (pz_ar fp)))]) := by
  refine pz_V_of (cc := cX0_writeCharacter) (maxL := 3) (own := RX0) (by decide) rfl rfl (Nat.le_of_ble_eq_true rfl) ?_
  intro p e s m below meth c A ls Q hx hb hml hown hts hK hP hD hS hA hl hQ
  have hl : lv_has ls 3 [(0, .ref h0), (1, .int (nI q)), (2, .int (nI v))] := hl
  have hin : ∀ w ∈ u_ws RX0 TX0 4, w ∈ wsX0_writeCharacter := by decide +kernel
  have eq0 : (nI q).toInt = (q : Int) := nI_toInt (by omega)
  refine lv_iload_n hx hb dX0_writeCharacter_0 rfl (lv_at hl 1 rfl) ?_
  refine pz_SR (rest := []) ⟨hx, hb, hml, hown, hts⟩ (k_X0_isPlace l D ((cyI, .int) :: ts) (nI q) ) (va_cwS 1 hts gX0_writeCharacter_X0_isPlace rfl rfl rfl (by decide +kernel) ⟨Nat.le_of_ble_eq_true rfl, Nat.le_of_ble_eq_true rfl⟩) hK hP (hD.weaken (fun _ _ _ _ => trivial)) hS hA [] rfl rfl rfl rfl hl.1 rfl (lv_room (Nat.le_of_ble_eq_true rfl)) dX0_writeCharacter_1 ⟨Nat.le_of_ble_eq_true rfl, Nat.le_of_ble_eq_true rfl⟩ (fun r H locs hr hP hS => ?_)
  obtain rfl : r = (pz_b (1 ≤ (nI q).toInt ∧ (nI q).toInt ≤ 365)) := hr
  refine pb_if_eq (tgt := 16) hx hb dX0_writeCharacter_4 (by decide) (fun c_2 => ?_) (fun c_2 => ?_)
  · -- 4 yes
    exfalso; rw [eq0] at *; omega
  · -- 4 no
    refine lv_aload_n hx hb dX0_writeCharacter_7 rfl (lv_at hl 0 rfl) ?_
    refine va_get (D := D) (ci := 0) (v := .ref ac) (C := RX0) (T := TX0) (N := 4) hx hb hts hin hown hK hP 0 rfl rfl 0 (by decide) (hts (.fieldLink RX0 9 "RomanCalendar" "characters" "[I") (by decide +kernel)) (fun _ h9 => h9) rfl dX0_writeCharacter_8 ?_
    refine lv_iload_n hx hb dX0_writeCharacter_11 rfl (lv_at hl 1 rfl) ?_
    refine lv_iconst (v := nI 1) hx hb dX0_writeCharacter_12 (by decide) ?_
    refine pn_isub hx hb (by omega) dX0_writeCharacter_13 ?_
    refine lv_iload_n hx hb dX0_writeCharacter_14 rfl (lv_at hl 2 rfl) ?_
    refine pn_iast hx hb hK hP hD hS 1 0 rfl rfl (by omega) (by decide) dX0_writeCharacter_15 (fun H locs hP hD hS => ?_)
    have hP : va_P D vwCl [(h0, .inr (0, [.ref ac, .ref ay, .ref ap, .int (nI mk)])), (ac, .inl (cyI, 365, .inl (pz_ar (pz_u ch (q - 1) v)))), (ay, .inl (cyI, 60, .inl (pz_ar fy))), (ap, .inl (cyI, 60, .inl (pz_ar fp)))] H := hP
    have hD : va_D A [(h0, .inr (0, [.ref ac, .ref ay, .ref ap, .int (nI mk)])), (ac, .inl (cyI, 365, .inl (pz_ar (pz_u ch (q - 1) v)))), (ay, .inl (cyI, 60, .inl (pz_ar fy))), (ap, .inl (cyI, 60, .inl (pz_ar fp)))] := hD
    exact hQ _ _ _ _ () dX0_writeCharacter_16 (by trivial) hP hD hS
set_option maxHeartbeats 4000000 in
set_option maxRecDepth 100000 in
theorem k_X0_isVotingDay (l : Launch) (D : va_G) (h0 ac ay ap : Nat) (cyI : ClassId) (ts : List (ClassId × FieldType)) (mk : Nat) (ch fy fp : Nat → Nat) (n : Nat) (hy0 : n < 1095750) (hch : ∀ j, j < 365 → ch j ≤ 3) (hmk : mk < 8) : pz_R l yX0_isVotingDay wsX0_isVotingDay ({ frames := 3, cells := 0, slots := 0, locals := 60 } : Room) D ((cyI, .int) :: ts) [.ref h0, .int (nI n)] [(h0, .inr (0, [.ref ac, .ref ay, .ref ap, .int (nI mk)])), (ac, .inl (cyI, 365, .inl (pz_ar ch))), (ay, .inl (cyI, 60, .inl (pz_ar fy))), (ap, .inl (cyI, 60, .inl (pz_ar fp)))] (fun r => r = pz_b (pm_vt (pm_sh ch) mk n)) := by
  refine pz_R_of (cc := cX0_isVotingDay) (maxL := 2) (ty := .boolean) (own := RX0) (by decide) rfl rfl (Nat.le_of_ble_eq_true rfl) ?_
  intro p e s m below meth c A ls Q hx hb hml hown hts hK hP hD hS hA hl hQ
  have hl : lv_has ls 2 [(0, .ref h0), (1, .int (nI n))] := hl
  have hp0 := pm_pl_b n
  have hc0 := hch (pm_pl n - 1) (by omega)
  refine lv_aload_n hx hb dX0_isVotingDay_0 rfl (lv_at hl 0 rfl) ?_
  refine lv_iload_n hx hb dX0_isVotingDay_1 rfl (lv_at hl 1 rfl) ?_
  refine pz_SR (rest := [.ref h0]) ⟨hx, hb, hml, hown, hts⟩ (k_X0_placeAt l D ((cyI, .int) :: ts) n (by omega)) (va_cwS 1 hts gX0_isVotingDay_X0_placeAt rfl rfl rfl (by decide +kernel) ⟨Nat.le_of_ble_eq_true rfl, Nat.le_of_ble_eq_true rfl⟩) hK hP hD hS hA [] rfl rfl rfl rfl hl.1 rfl (lv_room (Nat.le_of_ble_eq_true rfl)) dX0_isVotingDay_2 ⟨Nat.le_of_ble_eq_true rfl, Nat.le_of_ble_eq_true rfl⟩ (fun r H locs hr hP hS => ?_)
  obtain rfl : r = (nI (pm_pl n)) := hr
  have hf_2 := pm_pl_b n
  refine pz_VR (rest := []) ⟨hx, hb, hml, hown, hts⟩ (k_X0_readCharacter l D h0 ac ay ap cyI ts mk ch fy fp (pm_pl n) (by omega) (by omega)) (cwV 1 hts gX0_isVotingDay_X0_readCharacter rfl rfl rfl (by decide +kernel) ⟨Nat.le_of_ble_eq_true rfl, Nat.le_of_ble_eq_true rfl⟩) hK hP hD hS hA [0, 1, 2, 3] rfl rfl rfl 0 0 rfl rfl rfl hl.1 rfl (lv_room (Nat.le_of_ble_eq_true rfl)) dX0_isVotingDay_5 ⟨Nat.le_of_ble_eq_true rfl, Nat.le_of_ble_eq_true rfl⟩ (fun r H locs hr hP hS => ?_)
  obtain rfl : r = (nI (ch ((pm_pl n) - 1))) := hr
  refine lv_iconst (v := nI 2) hx hb dX0_isVotingDay_8 (by decide) ?_
  refine pn_icmp_ne (tgt := 24) hx hb (by omega) (by omega) dX0_isVotingDay_9 (by decide) (fun c_4 => ?_) (fun c_4 => ?_)
  · -- 9 yes
    refine lv_iconst (v := nI 0) hx hb dX0_isVotingDay_24 (by decide) ?_
    exact hQ _ _ _ _ _ dX0_isVotingDay_25 (by decide) (pz_bf (by first | exact fun h9 => absurd h9.1 (by assumption) | exact fun h9 => absurd (by assumption) h9.2 | exact ⟨by assumption, by assumption⟩)) hS
  · -- 9 no
    refine lv_aload_n hx hb dX0_isVotingDay_12 rfl (lv_at hl 0 rfl) ?_
    refine lv_iload_n hx hb dX0_isVotingDay_13 rfl (lv_at hl 1 rfl) ?_
    refine pz_VR (rest := []) ⟨hx, hb, hml, hown, hts⟩ (k_X0_isMarketAt l D h0 ac ay ap cyI ts mk ch fy fp n (by omega) (by exact hmk)) (cwV 1 hts gX0_isVotingDay_X0_isMarketAt rfl rfl rfl (by decide +kernel) ⟨Nat.le_of_ble_eq_true rfl, Nat.le_of_ble_eq_true rfl⟩) hK hP hD hS hA [0, 1, 2, 3] rfl rfl rfl 0 0 rfl rfl rfl hl.1 rfl (lv_room (Nat.le_of_ble_eq_true rfl)) dX0_isVotingDay_14 ⟨Nat.le_of_ble_eq_true rfl, Nat.le_of_ble_eq_true rfl⟩ (fun r H locs hr hP hS => ?_)
    obtain rfl : r = (pz_b (n % 8 = mk)) := hr
    refine pb_if_ne (tgt := 24) hx hb dX0_isVotingDay_17 (by decide) (fun c_6 => ?_) (fun c_6 => ?_)
    · -- 17 yes
      refine lv_iconst (v := nI 0) hx hb dX0_isVotingDay_24 (by decide) ?_
      exact hQ _ _ _ _ _ dX0_isVotingDay_25 (by decide) (pz_bf (by first | exact fun h9 => absurd h9.1 (by assumption) | exact fun h9 => absurd (by assumption) h9.2 | exact ⟨by assumption, by assumption⟩)) hS
    · -- 17 no
      refine lv_iconst (v := nI 1) hx hb dX0_isVotingDay_20 (by decide) ?_
      refine lv_goto (tgt := 25) hx hb dX0_isVotingDay_21 (by decide) ?_
      exact hQ _ _ _ _ _ dX0_isVotingDay_25 (by decide) (pz_bt (by first | exact fun h9 => absurd h9.1 (by assumption) | exact fun h9 => absurd (by assumption) h9.2 | exact ⟨by assumption, by assumption⟩)) hS
set_option maxHeartbeats 4000000 in
set_option maxRecDepth 100000 in
theorem k_X0_characterOf (l : Launch) (D : va_G) (h0 ac ay ap : Nat) (cyI : ClassId) (ts : List (ClassId × FieldType)) (mk : Nat) (ch fy fp : Nat → Nat) (n : Nat) (hy0 : n < 1095750) : pz_R l yX0_characterOf wsX0_characterOf ({ frames := 3, cells := 0, slots := 0, locals := 60 } : Room) D ((cyI, .int) :: ts) [.ref h0, .int (nI n)] [(h0, .inr (0, [.ref ac, .ref ay, .ref ap, .int (nI mk)])), (ac, .inl (cyI, 365, .inl (pz_ar ch))), (ay, .inl (cyI, 60, .inl (pz_ar fy))), (ap, .inl (cyI, 60, .inl (pz_ar fp)))] (fun r => r = nI (ch (pm_pl n - 1))) := by
  refine pz_R_of (cc := cX0_characterOf) (maxL := 2) (ty := .int) (own := RX0) (by decide) rfl rfl (Nat.le_of_ble_eq_true rfl) ?_
  intro p e s m below meth c A ls Q hx hb hml hown hts hK hP hD hS hA hl hQ
  have hl : lv_has ls 2 [(0, .ref h0), (1, .int (nI n))] := hl
  have hp0 := pm_pl_b n
  refine lv_iload_n hx hb dX0_characterOf_0 rfl (lv_at hl 1 rfl) ?_
  refine pz_SRV (rest := []) ⟨hx, hb, hml, hown, hts⟩ (k_X0_checkNumber l D ((cyI, .int) :: ts) n (by omega)) (va_cwS 1 hts gX0_characterOf_X0_checkNumber rfl rfl rfl (by decide +kernel) ⟨Nat.le_of_ble_eq_true rfl, Nat.le_of_ble_eq_true rfl⟩) hK hP hD hS hA [] rfl rfl rfl rfl hl.1 rfl (lv_room (Nat.le_of_ble_eq_true rfl)) dX0_characterOf_1 ⟨Nat.le_of_ble_eq_true rfl, Nat.le_of_ble_eq_true rfl⟩ (fun H locs hP hS => ?_)
  refine lv_aload_n hx hb dX0_characterOf_4 rfl (lv_at hl 0 rfl) ?_
  refine lv_iload_n hx hb dX0_characterOf_5 rfl (lv_at hl 1 rfl) ?_
  refine pz_SR (rest := [.ref h0]) ⟨hx, hb, hml, hown, hts⟩ (k_X0_placeAt l D ((cyI, .int) :: ts) n (by omega)) (va_cwS 1 hts gX0_characterOf_X0_placeAt rfl rfl rfl (by decide +kernel) ⟨Nat.le_of_ble_eq_true rfl, Nat.le_of_ble_eq_true rfl⟩) hK hP hD hS hA [] rfl rfl rfl rfl hl.1 rfl (lv_room (Nat.le_of_ble_eq_true rfl)) dX0_characterOf_6 ⟨Nat.le_of_ble_eq_true rfl, Nat.le_of_ble_eq_true rfl⟩ (fun r H locs hr hP hS => ?_)
  obtain rfl : r = (nI (pm_pl n)) := hr
  have hf_3 := pm_pl_b n
  refine pz_VR (rest := []) ⟨hx, hb, hml, hown, hts⟩ (k_X0_readCharacter l D h0 ac ay ap cyI ts mk ch fy fp (pm_pl n) (by omega) (by omega)) (cwV 1 hts gX0_characterOf_X0_readCharacter rfl rfl rfl (by decide +kernel) ⟨Nat.le_of_ble_eq_true rfl, Nat.le_of_ble_eq_true rfl⟩) hK hP hD hS hA [0, 1, 2, 3] rfl rfl rfl 0 0 rfl rfl rfl hl.1 rfl (lv_room (Nat.le_of_ble_eq_true rfl)) dX0_characterOf_9 ⟨Nat.le_of_ble_eq_true rfl, Nat.le_of_ble_eq_true rfl⟩ (fun r H locs hr hP hS => ?_)
  obtain rfl : r = (nI (ch ((pm_pl n) - 1))) := hr
  exact hQ _ _ _ _ _ dX0_characterOf_12 rfl (congrArg nI (by rfl)) hS
set_option maxHeartbeats 4000000 in
set_option maxRecDepth 100000 in
theorem k_X0_canVote (l : Launch) (D : va_G) (h0 ac ay ap : Nat) (cyI : ClassId) (ts : List (ClassId × FieldType)) (mk : Nat) (ch fy fp : Nat → Nat) (n : Nat) (hy0 : n < 1095750) (hch : ∀ j, j < 365 → ch j ≤ 3) (hmk : mk < 8) : pz_R l yX0_canVote wsX0_canVote ({ frames := 4, cells := 0, slots := 0, locals := 81 } : Room) D ((cyI, .int) :: ts) [.ref h0, .int (nI n)] [(h0, .inr (0, [.ref ac, .ref ay, .ref ap, .int (nI mk)])), (ac, .inl (cyI, 365, .inl (pz_ar ch))), (ay, .inl (cyI, 60, .inl (pz_ar fy))), (ap, .inl (cyI, 60, .inl (pz_ar fp)))] (fun r => r = pz_b (pm_vt (pm_sh ch) mk n)) := by
  refine pz_R_of (cc := cX0_canVote) (maxL := 2) (ty := .boolean) (own := RX0) (by decide) rfl rfl (Nat.le_of_ble_eq_true rfl) ?_
  intro p e s m below meth c A ls Q hx hb hml hown hts hK hP hD hS hA hl hQ
  have hl : lv_has ls 2 [(0, .ref h0), (1, .int (nI n))] := hl
  refine lv_iload_n hx hb dX0_canVote_0 rfl (lv_at hl 1 rfl) ?_
  refine pz_SRV (rest := []) ⟨hx, hb, hml, hown, hts⟩ (k_X0_checkNumber l D ((cyI, .int) :: ts) n (by omega)) (va_cwS 1 hts gX0_canVote_X0_checkNumber rfl rfl rfl (by decide +kernel) ⟨Nat.le_of_ble_eq_true rfl, Nat.le_of_ble_eq_true rfl⟩) hK hP hD hS hA [] rfl rfl rfl rfl hl.1 rfl (lv_room (Nat.le_of_ble_eq_true rfl)) dX0_canVote_1 ⟨Nat.le_of_ble_eq_true rfl, Nat.le_of_ble_eq_true rfl⟩ (fun H locs hP hS => ?_)
  refine lv_aload_n hx hb dX0_canVote_4 rfl (lv_at hl 0 rfl) ?_
  refine lv_iload_n hx hb dX0_canVote_5 rfl (lv_at hl 1 rfl) ?_
  refine pz_VR (rest := []) ⟨hx, hb, hml, hown, hts⟩ (k_X0_isVotingDay l D h0 ac ay ap cyI ts mk ch fy fp n (by omega) (by exact hch) (by exact hmk)) (cwV 1 hts gX0_canVote_X0_isVotingDay rfl rfl rfl (by decide +kernel) ⟨Nat.le_of_ble_eq_true rfl, Nat.le_of_ble_eq_true rfl⟩) hK hP hD hS hA [0, 1, 2, 3] rfl rfl rfl 0 0 rfl rfl rfl hl.1 rfl (lv_room (Nat.le_of_ble_eq_true rfl)) dX0_canVote_6 ⟨Nat.le_of_ble_eq_true rfl, Nat.le_of_ble_eq_true rfl⟩ (fun r H locs hr hP hS => ?_)
  obtain rfl : r = (pz_b (pm_vt (pm_sh ch) mk n)) := hr
  exact hQ _ _ _ _ _ dX0_canVote_9 pz_nb (pz_bc (by exact Iff.rfl)) hS
set_option maxHeartbeats 4000000 in
set_option maxRecDepth 100000 in
theorem k_X0_votes (l : Launch) (D : va_G) (h0 ac ay ap : Nat) (cyI : ClassId) (ts : List (ClassId × FieldType)) (mk : Nat) (ch fy fp : Nat → Nat) (y : Nat) (hy0 : 1 ≤ y) (hy1 : y ≤ 3000) (hch : ∀ j, j < 365 → ch j ≤ 3) (hmk : mk < 8) : pz_R l yX0_votes wsX0_votes ({ frames := 4, cells := 0, slots := 0, locals := 81 } : Room) D ((cyI, .int) :: ts) [.ref h0, .int (nI y)] [(h0, .inr (0, [.ref ac, .ref ay, .ref ap, .int (nI mk)])), (ac, .inl (cyI, 365, .inl (pz_ar ch))), (ay, .inl (cyI, 60, .inl (pz_ar fy))), (ap, .inl (cyI, 60, .inl (pz_ar fp)))] (fun r => r = nI (pm_vc (pm_sh ch) mk (pm_fd y) (pm_fd (y + 1) - pm_fd y))) := by
  refine pz_R_of (cc := cX0_votes) (maxL := 5) (ty := .int) (own := RX0) (by decide) rfl rfl (Nat.le_of_ble_eq_true rfl) ?_
  intro p e s m below meth c A ls Q hx hb hml hown hts hK hP hD hS hA hl hQ
  have hl : lv_has ls 5 [(0, .ref h0), (1, .int (nI y))] := hl
  have hf1 := pm_fd_e y
  have hf2 := pm_fd_e (y + 1)
  refine lv_iload_n hx hb dX0_votes_0 rfl (lv_at hl 1 rfl) ?_
  refine pz_SRV (rest := []) ⟨hx, hb, hml, hown, hts⟩ (k_X0_checkYear l D ((cyI, .int) :: ts) y (by omega) (by omega)) (va_cwS 1 hts gX0_votes_X0_checkYear rfl rfl rfl (by decide +kernel) ⟨Nat.le_of_ble_eq_true rfl, Nat.le_of_ble_eq_true rfl⟩) hK hP hD hS hA [] rfl rfl rfl rfl hl.1 rfl (lv_room (Nat.le_of_ble_eq_true rfl)) dX0_votes_1 ⟨Nat.le_of_ble_eq_true rfl, Nat.le_of_ble_eq_true rfl⟩ (fun H locs hP hS => ?_)
  refine lv_iload_n hx hb dX0_votes_4 rfl (lv_at hl 1 rfl) ?_
  refine pz_SR (rest := []) ⟨hx, hb, hml, hown, hts⟩ (k_X0_lastDayOf l D ((cyI, .int) :: ts) y (by omega) (by omega)) (va_cwS 1 hts gX0_votes_X0_lastDayOf rfl rfl rfl (by decide +kernel) ⟨Nat.le_of_ble_eq_true rfl, Nat.le_of_ble_eq_true rfl⟩) hK hP hD hS hA [] rfl rfl rfl rfl hl.1 rfl (lv_room (Nat.le_of_ble_eq_true rfl)) dX0_votes_5 ⟨Nat.le_of_ble_eq_true rfl, Nat.le_of_ble_eq_true rfl⟩ (fun r H locs hr hP hS => ?_)
  obtain rfl : r = (nI (pm_fd (y + 1) - 1)) := hr
  have hf_3 := pm_fd_e (y + 1)
  refine lv_istore_n (lv' := [(2, .int (nI (pm_fd (y + 1) - 1))), (0, .ref h0), (1, .int (nI y))]) hx hb dX0_votes_8 rfl hl (by decide) rfl (fun ls hl => ?_)
  refine lv_iconst (v := nI 0) hx hb dX0_votes_9 (by decide) ?_
  refine lv_istore_n (lv' := [(3, .int (nI 0)), (2, .int (nI (pm_fd (y + 1) - 1))), (0, .ref h0), (1, .int (nI y))]) hx hb dX0_votes_10 rfl hl (by decide) rfl (fun ls hl => ?_)
  refine lv_iload_n hx hb dX0_votes_11 rfl (lv_at hl 3 rfl) ?_
  refine pz_SR (rest := []) ⟨hx, hb, hml, hown, hts⟩ (k_X0_firstDayOf l D ((cyI, .int) :: ts) y (by omega) (by omega)) (va_cwS 1 hts gX0_votes_X0_firstDayOf rfl rfl rfl (by decide +kernel) ⟨Nat.le_of_ble_eq_true rfl, Nat.le_of_ble_eq_true rfl⟩) hK hP hD hS hA [] rfl rfl rfl rfl hl.1 rfl (lv_room (Nat.le_of_ble_eq_true rfl)) dX0_votes_12 ⟨Nat.le_of_ble_eq_true rfl, Nat.le_of_ble_eq_true rfl⟩ (fun r H locs hr hP hS => ?_)
  obtain rfl : r = (nI (pm_fd y)) := hr
  have hf_5 := pm_fd_e y
  refine lv_istore (lv' := [(4, .int (nI (pm_fd y))), (3, .int (nI 0)), (2, .int (nI (pm_fd (y + 1) - 1))), (0, .ref h0), (1, .int (nI y))]) hx hb dX0_votes_15 hl (by decide) rfl (fun ls hl => ?_)
  have LP17 : ∀ (N : Nat) (k : Nat) (H : Heap) (locs : List Loc) (ls : Array Slot), pm_fd (y + 1) - pm_fd y - k < N → (k ≤ pm_fd (y + 1) - pm_fd y) → va_P D vwCl [(h0, .inr (0, [.ref ac, .ref ay, .ref ap, .int (nI mk)])), (ac, .inl (cyI, 365, .inl (pz_ar ch))), (ay, .inl (cyI, 60, .inl (pz_ar fy))), (ap, .inl (cyI, 60, .inl (pz_ar fp)))] H → va_S A s.heap H locs → lv_has ls 5 [(3, .int (nI (pm_vc (pm_sh ch) mk (pm_fd y) k))), (4, .int (nI (pm_fd y + k))), (2, .int (nI (pm_fd (y + 1) - 1))), (0, .ref h0), (1, .int (nI y))] → W p l e ({ frames := 4, cells := 0, slots := 0, locals := 81 } : Room) s m ([.ref h0, .int (nI y)] : List Value).toArray below meth c H locs 0 0 Q (F0 m 17 ls []) := by
    intro N
    induction N with
    | zero => intro k H locs ls hN; exact absurd hN (Nat.not_lt_zero _)
    | succ N ih =>
      intro k H locs ls hN hi17_0 hP hS hl
      have hv_0 := pm_vc_b (pm_sh ch) mk (pm_fd y) k
      have ih17 := ih
      refine lv_iload hx hb dX0_votes_17 (lv_at hl 1 rfl) ?_
      refine lv_iload_n hx hb dX0_votes_19 rfl (lv_at hl 2 rfl) ?_
      refine pn_icmp_gt (tgt := 41) hx hb (by omega) (by omega) dX0_votes_20 (by decide) (fun c_6 => ?_) (fun c_6 => ?_)
      · -- 20 yes
        refine lv_iload_n hx hb dX0_votes_41 rfl (lv_at hl 0 rfl) ?_
        exact hQ _ _ _ _ _ dX0_votes_42 rfl (congrArg nI (by (have h9 : k = pm_fd (y + 1) - pm_fd y := by omega); rw [h9])) hS
      · -- 20 no
        refine lv_aload_n hx hb dX0_votes_23 rfl (lv_at hl 3 rfl) ?_
        refine lv_iload hx hb dX0_votes_24 (lv_at hl 1 rfl) ?_
        refine pz_VR (rest := []) ⟨hx, hb, hml, hown, hts⟩ (k_X0_isVotingDay l D h0 ac ay ap cyI ts mk ch fy fp (pm_fd y + k) (by omega) (by exact hch) (by exact hmk)) (cwV 1 hts gX0_votes_X0_isVotingDay rfl rfl rfl (by decide +kernel) ⟨Nat.le_of_ble_eq_true rfl, Nat.le_of_ble_eq_true rfl⟩) hK hP hD hS hA [0, 1, 2, 3] rfl rfl rfl 0 0 rfl rfl rfl hl.1 rfl (lv_room (Nat.le_of_ble_eq_true rfl)) dX0_votes_26 ⟨Nat.le_of_ble_eq_true rfl, Nat.le_of_ble_eq_true rfl⟩ (fun r H locs hr hP hS => ?_)
        obtain rfl : r = (pz_b (pm_vt (pm_sh ch) mk (pm_fd y + k))) := hr
        refine pb_if_eq (tgt := 35) hx hb dX0_votes_29 (by decide) (fun c_8 => ?_) (fun c_8 => ?_)
        · -- 29 yes
          refine lv_iinc (v := (nI (pm_fd y + k + 1))) (lv' := [(4, .int (nI (pm_fd y + k + 1))), (3, .int (nI (pm_vc (pm_sh ch) mk (pm_fd y) k))), (2, .int (nI (pm_fd (y + 1) - 1))), (0, .ref h0), (1, .int (nI y))]) hx hb dX0_votes_35 hl (k := 1) rfl (by exact nI_add _ 1) (by decide) rfl (fun ls hl => ?_)
          refine lv_goto (tgt := 17) hx hb dX0_votes_38 (by decide) ?_
          have hq9 : pm_fd y + k + 1 = pm_fd y + (k + 1) := by first | omega | rfl
          have hq10 : pm_vc (pm_sh ch) mk (pm_fd y) k = pm_vc (pm_sh ch) mk (pm_fd y) (k + 1) := by first | rfl | exact (pm_vc_1 (by assumption)).symm | exact (pm_vc_0 (by assumption)).symm
          exact ih17 (k + 1) _ _ _ (by omega) (by omega) hP hS (by rw [← hq9, ← hq10]; exact lv_sub hl [1, 0, 2, 3, 4] rfl)
        · -- 29 no
          refine lv_iinc (v := (nI (pm_vc (pm_sh ch) mk (pm_fd y) k + 1))) (lv' := [(3, .int (nI (pm_vc (pm_sh ch) mk (pm_fd y) k + 1))), (4, .int (nI (pm_fd y + k))), (2, .int (nI (pm_fd (y + 1) - 1))), (0, .ref h0), (1, .int (nI y))]) hx hb dX0_votes_32 hl (k := 0) rfl (by exact nI_add _ 1) (by decide) rfl (fun ls hl => ?_)
          refine lv_iinc (v := (nI (pm_fd y + k + 1))) (lv' := [(4, .int (nI (pm_fd y + k + 1))), (3, .int (nI (pm_vc (pm_sh ch) mk (pm_fd y) k + 1))), (2, .int (nI (pm_fd (y + 1) - 1))), (0, .ref h0), (1, .int (nI y))]) hx hb dX0_votes_35 hl (k := 1) rfl (by exact nI_add _ 1) (by decide) rfl (fun ls hl => ?_)
          refine lv_goto (tgt := 17) hx hb dX0_votes_38 (by decide) ?_
          have hq11 : pm_fd y + k + 1 = pm_fd y + (k + 1) := by first | omega | rfl
          have hq12 : pm_vc (pm_sh ch) mk (pm_fd y) k + 1 = pm_vc (pm_sh ch) mk (pm_fd y) (k + 1) := by first | rfl | exact (pm_vc_1 (by assumption)).symm | exact (pm_vc_0 (by assumption)).symm
          exact ih17 (k + 1) _ _ _ (by omega) (by omega) hP hS (by rw [← hq11, ← hq12]; exact lv_sub hl [1, 0, 2, 3, 4] rfl)
  have hq13 : pm_fd y = pm_fd y + 0 := by first | omega | rfl
  have hq14 : 0 = pm_vc (pm_sh ch) mk (pm_fd y) 0 := by first | rfl | exact (pm_vc_1 (by assumption)).symm | exact (pm_vc_0 (by assumption)).symm
  exact LP17 _ 0 _ _ _ (Nat.lt_succ_self _) (by omega) hP hS (by rw [← hq13, ← hq14]; exact lv_sub hl [1, 0, 2, 3, 4] rfl)
set_option maxHeartbeats 4000000 in
set_option maxRecDepth 100000 in
theorem k_X0_nextCourt (l : Launch) (D : va_G) (h0 ac ay ap : Nat) (cyI : ClassId) (ts : List (ClassId × FieldType)) (mk : Nat) (ch fy fp : Nat → Nat) (n : Nat) (hy0 : n < 1095750) (hch : ∀ j, j < 365 → ch j ≤ 3) : pz_R l yX0_nextCourt wsX0_nextCourt ({ frames := 3, cells := 0, slots := 0, locals := 60 } : Room) D ((cyI, .int) :: ts) [.ref h0, .int (nI n)] [(h0, .inr (0, [.ref ac, .ref ay, .ref ap, .int (nI mk)])), (ac, .inl (cyI, 365, .inl (pz_ar ch))), (ay, .inl (cyI, 60, .inl (pz_ar fy))), (ap, .inl (cyI, 60, .inl (pz_ar fp)))] (fun r => (∃ d, n ≤ d ∧ d < 1095750 ∧ d < n + 366 ∧ r = nI d ∧ (ch (pm_pl d - 1) = 0 ∨ ch (pm_pl d - 1) = 2) ∧ ∀ z, n ≤ z → z < d → ¬ (ch (pm_pl z - 1) = 0 ∨ ch (pm_pl z - 1) = 2)) ∨ (r = (-1) ∧ ∀ z, n ≤ z → z < 1095750 → z < n + 366 → ¬ (ch (pm_pl z - 1) = 0 ∨ ch (pm_pl z - 1) = 2))) := by
  refine pz_R_of (cc := cX0_nextCourt) (maxL := 5) (ty := .int) (own := RX0) (by decide) rfl rfl (Nat.le_of_ble_eq_true rfl) ?_
  intro p e s m below meth c A ls Q hx hb hml hown hts hK hP hD hS hA hl hQ
  have hl : lv_has ls 5 [(0, .ref h0), (1, .int (nI n))] := hl
  refine lv_iload_n hx hb dX0_nextCourt_0 rfl (lv_at hl 1 rfl) ?_
  refine pz_SRV (rest := []) ⟨hx, hb, hml, hown, hts⟩ (k_X0_checkNumber l D ((cyI, .int) :: ts) n (by omega)) (va_cwS 1 hts gX0_nextCourt_X0_checkNumber rfl rfl rfl (by decide +kernel) ⟨Nat.le_of_ble_eq_true rfl, Nat.le_of_ble_eq_true rfl⟩) hK hP hD hS hA [] rfl rfl rfl rfl hl.1 rfl (lv_room (Nat.le_of_ble_eq_true rfl)) dX0_nextCourt_1 ⟨Nat.le_of_ble_eq_true rfl, Nat.le_of_ble_eq_true rfl⟩ (fun H locs hP hS => ?_)
  refine lv_iload_n hx hb dX0_nextCourt_4 rfl (lv_at hl 1 rfl) ?_
  refine lv_sipush (v := nI 365) hx hb dX0_nextCourt_5 (by decide) ?_
  refine pn_iadd hx hb dX0_nextCourt_8 ?_
  refine lv_iconst (v := nI 1) hx hb dX0_nextCourt_9 (by decide) ?_
  refine pn_iadd hx hb dX0_nextCourt_10 ?_
  refine lv_ldc (v := nI 1095750) hx hb hown (hts (.constant RX0 31 (1095750)) (by decide +kernel)) dX0_nextCourt_11 ?_
  refine pn_min hx hb (by rw [hml]; exact hl.1.symm) hown (hts (.methodLink RX0 166 Lib.Math.min.name) (by decide +kernel)) (hts (.static Lib.Math.min.name) (by decide +kernel)) (hts (.initialized "java/lang/Math") (by decide +kernel)) (hts (.code Lib.Math.min.name Lib.Math.min.code 2 (some .int)) (by decide +kernel)) (Nat.le_of_ble_eq_true rfl) (Nat.le_of_ble_eq_true rfl) (Nat.zero_le _) (Nat.zero_le _) (by omega) (by omega) dX0_nextCourt_13 ?_
  refine lv_istore_n (lv' := [(2, .int (nI (min ((n + 365) + 1) 1095750))), (0, .ref h0), (1, .int (nI n))]) hx hb dX0_nextCourt_16 rfl hl (by decide) rfl (fun ls hl => ?_)
  refine lv_iload_n hx hb dX0_nextCourt_17 rfl (lv_at hl 2 rfl) ?_
  refine lv_istore_n (lv' := [(3, .int (nI n)), (2, .int (nI (min ((n + 365) + 1) 1095750))), (0, .ref h0), (1, .int (nI n))]) hx hb dX0_nextCourt_18 rfl hl (by decide) rfl (fun ls hl => ?_)
  have LP19 : ∀ (N : Nat) (d : Nat) (H : Heap) (locs : List Loc) (ls : Array Slot), min (n + 365 + 1) 1095750 - d < N → (n ≤ d) → (d ≤ min (n + 365 + 1) 1095750) → (∀ z, n ≤ z → z < d → ¬ (ch (pm_pl z - 1) = 0 ∨ ch (pm_pl z - 1) = 2)) → va_P D vwCl [(h0, .inr (0, [.ref ac, .ref ay, .ref ap, .int (nI mk)])), (ac, .inl (cyI, 365, .inl (pz_ar ch))), (ay, .inl (cyI, 60, .inl (pz_ar fy))), (ap, .inl (cyI, 60, .inl (pz_ar fp)))] H → va_S A s.heap H locs → lv_has ls 5 [(3, .int (nI d)), (2, .int (nI (min ((n + 365) + 1) 1095750))), (0, .ref h0), (1, .int (nI n))] → W p l e ({ frames := 3, cells := 0, slots := 0, locals := 60 } : Room) s m ([.ref h0, .int (nI n)] : List Value).toArray below meth c H locs 0 0 Q (F0 m 19 ls []) := by
    intro N
    induction N with
    | zero => intro d H locs ls hN; exact absurd hN (Nat.not_lt_zero _)
    | succ N ih =>
      intro d H locs ls hN hi19_0 hi19_1 hi19_2 hP hS hl
      have hp_0 := pm_pl_b d
      have ih19 := ih
      refine lv_iload_n hx hb dX0_nextCourt_19 rfl (lv_at hl 0 rfl) ?_
      refine lv_iload_n hx hb dX0_nextCourt_20 rfl (lv_at hl 1 rfl) ?_
      refine pn_icmp_ge (tgt := 53) hx hb (by omega) (by omega) dX0_nextCourt_21 (by decide) (fun c_2 => ?_) (fun c_2 => ?_)
      · -- 21 yes
        refine lv_iconst (v := (-1 : Int32)) hx hb dX0_nextCourt_53 (by decide) ?_
        exact hQ _ _ _ _ _ dX0_nextCourt_54 rfl (by exact Or.inr ⟨rfl, fun z h1 h2 h3 => hi19_2 z h1 (by omega)⟩) hS
      · -- 21 no
        refine lv_aload_n hx hb dX0_nextCourt_24 rfl (lv_at hl 2 rfl) ?_
        refine lv_iload_n hx hb dX0_nextCourt_25 rfl (lv_at hl 0 rfl) ?_
        refine pz_SR (rest := [.ref h0]) ⟨hx, hb, hml, hown, hts⟩ (k_X0_placeAt l D ((cyI, .int) :: ts) d (by omega)) (va_cwS 1 hts gX0_nextCourt_X0_placeAt rfl rfl rfl (by decide +kernel) ⟨Nat.le_of_ble_eq_true rfl, Nat.le_of_ble_eq_true rfl⟩) hK hP hD hS hA [] rfl rfl rfl rfl hl.1 rfl (lv_room (Nat.le_of_ble_eq_true rfl)) dX0_nextCourt_26 ⟨Nat.le_of_ble_eq_true rfl, Nat.le_of_ble_eq_true rfl⟩ (fun r H locs hr hP hS => ?_)
        obtain rfl : r = (nI (pm_pl d)) := hr
        have hf_4 := pm_pl_b d
        refine pz_VR (rest := []) ⟨hx, hb, hml, hown, hts⟩ (k_X0_readCharacter l D h0 ac ay ap cyI ts mk ch fy fp (pm_pl d) (by omega) (by omega)) (cwV 1 hts gX0_nextCourt_X0_readCharacter rfl rfl rfl (by decide +kernel) ⟨Nat.le_of_ble_eq_true rfl, Nat.le_of_ble_eq_true rfl⟩) hK hP hD hS hA [0, 1, 2, 3] rfl rfl rfl 0 0 rfl rfl rfl hl.1 rfl (lv_room (Nat.le_of_ble_eq_true rfl)) dX0_nextCourt_29 ⟨Nat.le_of_ble_eq_true rfl, Nat.le_of_ble_eq_true rfl⟩ (fun r H locs hr hP hS => ?_)
        obtain rfl : r = (nI (ch ((pm_pl d) - 1))) := hr
        have hb_5 := hch (pm_pl d - 1) (by omega)
        refine lv_istore (lv' := [(4, .int (nI (ch ((pm_pl d) - 1)))), (3, .int (nI d)), (2, .int (nI (min ((n + 365) + 1) 1095750))), (0, .ref h0), (1, .int (nI n))]) hx hb dX0_nextCourt_32 hl (by decide) rfl (fun ls hl => ?_)
        refine lv_iload hx hb dX0_nextCourt_34 (lv_at hl 0 rfl) ?_
        refine pn_if_eq (tgt := 45) hx hb (by omega) dX0_nextCourt_36 (by decide) (fun c_6 => ?_) (fun c_6 => ?_)
        · -- 36 yes
          refine lv_iload_n hx hb dX0_nextCourt_45 rfl (lv_at hl 1 rfl) ?_
          exact hQ _ _ _ _ _ dX0_nextCourt_46 rfl (by first | exact Or.inl ⟨d, by omega, by omega, by omega, rfl, by omega, hi19_2⟩) hS
        · -- 36 no
          refine lv_iload hx hb dX0_nextCourt_39 (lv_at hl 0 rfl) ?_
          refine lv_iconst (v := nI 2) hx hb dX0_nextCourt_41 (by decide) ?_
          refine pn_icmp_ne (tgt := 47) hx hb (by omega) (by omega) dX0_nextCourt_42 (by decide) (fun c_7 => ?_) (fun c_7 => ?_)
          · -- 42 yes
            refine lv_iinc (v := (nI (d + 1))) (lv' := [(3, .int (nI (d + 1))), (4, .int (nI (ch ((pm_pl d) - 1)))), (2, .int (nI (min ((n + 365) + 1) 1095750))), (0, .ref h0), (1, .int (nI n))]) hx hb dX0_nextCourt_47 hl (k := 1) rfl (by exact nI_add _ 1) (by decide) rfl (fun ls hl => ?_)
            refine lv_goto (tgt := 19) hx hb dX0_nextCourt_50 (by decide) ?_
            exact ih19 (d + 1) _ _ _ (by omega) (by omega) (by omega) (by first | (intro z h1 h2; exfalso; omega) | (intro z h1 h2; rcases Nat.lt_or_ge z d with h3 | h3; (exact hi19_2 z h1 h3); (have h4 : z = d := by omega); subst h4; omega)) hP hS (lv_sub hl [0, 2, 3, 4] rfl)
          · -- 42 no
            refine lv_iload_n hx hb dX0_nextCourt_45 rfl (lv_at hl 1 rfl) ?_
            exact hQ _ _ _ _ _ dX0_nextCourt_46 rfl (by first | exact Or.inl ⟨d, by omega, by omega, by omega, rfl, by omega, hi19_2⟩) hS
  exact LP19 _ n _ _ _ (Nat.lt_succ_self _) (by omega) (by omega) (by first | (intro z h1 h2; exfalso; omega) | (intro z h1 h2; rcases Nat.lt_or_ge z d with h3 | h3; (exact hi19_2 z h1 h3); (have h4 : z = d := by omega); subst h4; omega)) hP hS (lv_sub hl [0, 1, 2, 3] rfl)
set_option maxHeartbeats 4000000 in
set_option maxRecDepth 100000 in
theorem k_X0_slotOf (l : Launch) (D : va_G) (h0 ac ay ap : Nat) (cyI : ClassId) (ts : List (ClassId × FieldType)) (mk : Nat) (ch fy fp : Nat → Nat) (y : Nat) (hy0 : y ≤ 3000) (hfy : ∀ j, j < 60 → fy j ≤ 3000) : pz_R l yX0_slotOf wsX0_slotOf ({ frames := 0, cells := 0, slots := 0, locals := 0 } : Room) D ((cyI, .int) :: ts) [.ref h0, .int (nI y)] [(h0, .inr (0, [.ref ac, .ref ay, .ref ap, .int (nI mk)])), (ac, .inl (cyI, 365, .inl (pz_ar ch))), (ay, .inl (cyI, 60, .inl (pz_ar fy))), (ap, .inl (cyI, 60, .inl (pz_ar fp)))] (fun r => (r = (-1) ∧ ∀ j, j < 60 → ¬ fy j = y) ∨ (∃ i, i < 60 ∧ r = nI i ∧ fy i = y ∧ ∀ j, j < i → ¬ fy j = y)) := by
  refine pz_R_of (cc := cX0_slotOf) (maxL := 3) (ty := .int) (own := RX0) (by decide) rfl rfl (Nat.le_of_ble_eq_true rfl) ?_
  intro p e s m below meth c A ls Q hx hb hml hown hts hK hP hD hS hA hl hQ
  have hl : lv_has ls 3 [(0, .ref h0), (1, .int (nI y))] := hl
  have hin : ∀ w ∈ u_ws RX0 TX0 4, w ∈ wsX0_slotOf := by decide +kernel
  refine lv_iconst (v := nI 0) hx hb dX0_slotOf_0 (by decide) ?_
  refine lv_istore_n (lv' := [(2, .int (nI 0)), (0, .ref h0), (1, .int (nI y))]) hx hb dX0_slotOf_1 rfl hl (by decide) rfl (fun ls hl => ?_)
  have LP2 : ∀ (N : Nat) (k : Nat) (H : Heap) (locs : List Loc) (ls : Array Slot), 60 - k < N → (k ≤ 60) → (∀ j, j < k → ¬ fy j = y) → va_P D vwCl [(h0, .inr (0, [.ref ac, .ref ay, .ref ap, .int (nI mk)])), (ac, .inl (cyI, 365, .inl (pz_ar ch))), (ay, .inl (cyI, 60, .inl (pz_ar fy))), (ap, .inl (cyI, 60, .inl (pz_ar fp)))] H → va_S A s.heap H locs → lv_has ls 3 [(2, .int (nI k)), (0, .ref h0), (1, .int (nI y))] → W p l e ({ frames := 0, cells := 0, slots := 0, locals := 0 } : Room) s m ([.ref h0, .int (nI y)] : List Value).toArray below meth c H locs 0 0 Q (F0 m 2 ls []) := by
    intro N
    induction N with
    | zero => intro k H locs ls hN; exact absurd hN (Nat.not_lt_zero _)
    | succ N ih =>
      intro k H locs ls hN hi2_0 hi2_1 hP hS hl
      have ih2 := ih
      refine lv_iload_n hx hb dX0_slotOf_2 rfl (lv_at hl 0 rfl) ?_
      refine lv_bipush (v := nI 60) hx hb dX0_slotOf_3 (by decide) ?_
      refine pn_icmp_ge (tgt := 26) hx hb (by omega) (by omega) dX0_slotOf_5 (by decide) (fun c_1 => ?_) (fun c_1 => ?_)
      · -- 5 yes
        refine lv_iconst (v := (-1 : Int32)) hx hb dX0_slotOf_26 (by decide) ?_
        exact hQ _ _ _ _ _ dX0_slotOf_27 rfl (by exact Or.inl ⟨rfl, fun j h9 => hi2_1 j (by omega)⟩) hS
      · -- 5 no
        refine lv_aload_n hx hb dX0_slotOf_8 rfl (lv_at hl 1 rfl) ?_
        refine va_get (D := D) (ci := 0) (v := .ref ay) (C := RX0) (T := TX0) (N := 4) hx hb hts hin hown hK hP 0 rfl rfl 1 (by decide) (hts (.fieldLink RX0 13 "RomanCalendar" "consulYears" "[I") (by decide +kernel)) (fun _ h9 => h9) rfl dX0_slotOf_9 ?_
        refine lv_iload_n hx hb dX0_slotOf_12 rfl (lv_at hl 0 rfl) ?_
        refine pn_iald hx hb hK hP 2 0 rfl rfl (by omega) (by decide) dX0_slotOf_13 ?_
        have hb_0 := hfy k (by omega)
        refine lv_iload_n hx hb dX0_slotOf_14 rfl (lv_at hl 2 rfl) ?_
        refine pn_icmp_ne (tgt := 20) hx hb (by omega) (by omega) dX0_slotOf_15 (by decide) (fun c_2 => ?_) (fun c_2 => ?_)
        · -- 15 yes
          refine lv_iinc (v := (nI (k + 1))) (lv' := [(2, .int (nI (k + 1))), (0, .ref h0), (1, .int (nI y))]) hx hb dX0_slotOf_20 hl (k := 0) rfl (by exact nI_add _ 1) (by decide) rfl (fun ls hl => ?_)
          refine lv_goto (tgt := 2) hx hb dX0_slotOf_23 (by decide) ?_
          exact ih2 (k + 1) _ _ _ (by omega) (by omega) (by first | (intro j h1; exfalso; omega) | (intro j h1; rcases Nat.lt_or_ge j k with h3 | h3; (exact hi2_1 j h3); (have h4 : j = k := by omega); subst h4; assumption)) hP hS (lv_sub hl [0, 1, 2] rfl)
        · -- 15 no
          refine lv_iload_n hx hb dX0_slotOf_18 rfl (lv_at hl 0 rfl) ?_
          exact hQ _ _ _ _ _ dX0_slotOf_19 rfl (by exact Or.inr ⟨k, by omega, rfl, by assumption, hi2_1⟩) hS
  exact LP2 _ 0 _ _ _ (Nat.lt_succ_self _) (by omega) (by first | (intro j h1; exfalso; omega) | (intro j h1; rcases Nat.lt_or_ge j k with h3 | h3; (exact hi2_1 j h3); (have h4 : j = k := by omega); subst h4; assumption)) hP hS (lv_sub hl [0, 1, 2] rfl)
set_option maxHeartbeats 4000000 in
set_option maxRecDepth 100000 in
theorem k_X0_countConsulYears (l : Launch) (D : va_G) (h0 ac ay ap : Nat) (cyI : ClassId) (ts : List (ClassId × FieldType)) (mk : Nat) (ch fy fp : Nat → Nat)  (hfy : ∀ j, j < 60 → fy j ≤ 3000) : pz_R l yX0_countConsulYears wsX0_countConsulYears ({ frames := 0, cells := 0, slots := 0, locals := 0 } : Room) D ((cyI, .int) :: ts) [.ref h0] [(h0, .inr (0, [.ref ac, .ref ay, .ref ap, .int (nI mk)])), (ac, .inl (cyI, 365, .inl (pz_ar ch))), (ay, .inl (cyI, 60, .inl (pz_ar fy))), (ap, .inl (cyI, 60, .inl (pz_ar fp)))] (fun r => r = nI (pm_cc fy 60)) := by
  refine pz_R_of (cc := cX0_countConsulYears) (maxL := 3) (ty := .int) (own := RX0) (by decide) rfl rfl (Nat.le_of_ble_eq_true rfl) ?_
  intro p e s m below meth c A ls Q hx hb hml hown hts hK hP hD hS hA hl hQ
  have hl : lv_has ls 3 [(0, .ref h0)] := hl
  have hin : ∀ w ∈ u_ws RX0 TX0 4, w ∈ wsX0_countConsulYears := by decide +kernel
  refine lv_iconst (v := nI 0) hx hb dX0_countConsulYears_0 (by decide) ?_
  refine lv_istore_n (lv' := [(1, .int (nI 0)), (0, .ref h0)]) hx hb dX0_countConsulYears_1 rfl hl (by decide) rfl (fun ls hl => ?_)
  refine lv_iconst (v := nI 0) hx hb dX0_countConsulYears_2 (by decide) ?_
  refine lv_istore_n (lv' := [(2, .int (nI 0)), (1, .int (nI 0)), (0, .ref h0)]) hx hb dX0_countConsulYears_3 rfl hl (by decide) rfl (fun ls hl => ?_)
  have LP4 : ∀ (N : Nat) (k : Nat) (H : Heap) (locs : List Loc) (ls : Array Slot), 60 - k < N → (k ≤ 60) → va_P D vwCl [(h0, .inr (0, [.ref ac, .ref ay, .ref ap, .int (nI mk)])), (ac, .inl (cyI, 365, .inl (pz_ar ch))), (ay, .inl (cyI, 60, .inl (pz_ar fy))), (ap, .inl (cyI, 60, .inl (pz_ar fp)))] H → va_S A s.heap H locs → lv_has ls 3 [(1, .int (nI (pm_cc fy k))), (2, .int (nI k)), (0, .ref h0)] → W p l e ({ frames := 0, cells := 0, slots := 0, locals := 0 } : Room) s m ([.ref h0] : List Value).toArray below meth c H locs 0 0 Q (F0 m 4 ls []) := by
    intro N
    induction N with
    | zero => intro k H locs ls hN; exact absurd hN (Nat.not_lt_zero _)
    | succ N ih =>
      intro k H locs ls hN hi4_0 hP hS hl
      have hv_0 := pm_cc_b fy k
      have ih4 := ih
      refine lv_iload_n hx hb dX0_countConsulYears_4 rfl (lv_at hl 1 rfl) ?_
      refine lv_bipush (v := nI 60) hx hb dX0_countConsulYears_5 (by decide) ?_
      refine pn_icmp_ge (tgt := 28) hx hb (by omega) (by omega) dX0_countConsulYears_7 (by decide) (fun c_1 => ?_) (fun c_1 => ?_)
      · -- 7 yes
        refine lv_iload_n hx hb dX0_countConsulYears_28 rfl (lv_at hl 0 rfl) ?_
        exact hQ _ _ _ _ _ dX0_countConsulYears_29 rfl (congrArg nI (by (have h9 : k = 60 := by omega); rw [h9])) hS
      · -- 7 no
        refine lv_aload_n hx hb dX0_countConsulYears_10 rfl (lv_at hl 2 rfl) ?_
        refine va_get (D := D) (ci := 0) (v := .ref ay) (C := RX0) (T := TX0) (N := 4) hx hb hts hin hown hK hP 0 rfl rfl 1 (by decide) (hts (.fieldLink RX0 13 "RomanCalendar" "consulYears" "[I") (by decide +kernel)) (fun _ h9 => h9) rfl dX0_countConsulYears_11 ?_
        refine lv_iload_n hx hb dX0_countConsulYears_14 rfl (lv_at hl 1 rfl) ?_
        refine pn_iald hx hb hK hP 2 0 rfl rfl (by omega) (by decide) dX0_countConsulYears_15 ?_
        have hb_0 := hfy k (by omega)
        refine pn_if_eq (tgt := 22) hx hb (by omega) dX0_countConsulYears_16 (by decide) (fun c_2 => ?_) (fun c_2 => ?_)
        · -- 16 yes
          refine lv_iinc (v := (nI (k + 1))) (lv' := [(2, .int (nI (k + 1))), (1, .int (nI (pm_cc fy k))), (0, .ref h0)]) hx hb dX0_countConsulYears_22 hl (k := 1) rfl (by exact nI_add _ 1) (by decide) rfl (fun ls hl => ?_)
          refine lv_goto (tgt := 4) hx hb dX0_countConsulYears_25 (by decide) ?_
          have hq3 : pm_cc fy k = pm_cc fy (k + 1) := by first | rfl | exact (pm_cc_1 (by assumption)).symm | exact (pm_cc_0 (by assumption)).symm
          exact ih4 (k + 1) _ _ _ (by omega) (by omega) hP hS (by rw [← hq3]; exact lv_sub hl [1, 0, 2] rfl)
        · -- 16 no
          refine lv_iinc (v := (nI (pm_cc fy k + 1))) (lv' := [(1, .int (nI (pm_cc fy k + 1))), (2, .int (nI k)), (0, .ref h0)]) hx hb dX0_countConsulYears_19 hl (k := 0) rfl (by exact nI_add _ 1) (by decide) rfl (fun ls hl => ?_)
          refine lv_iinc (v := (nI (k + 1))) (lv' := [(2, .int (nI (k + 1))), (1, .int (nI (pm_cc fy k + 1))), (0, .ref h0)]) hx hb dX0_countConsulYears_22 hl (k := 1) rfl (by exact nI_add _ 1) (by decide) rfl (fun ls hl => ?_)
          refine lv_goto (tgt := 4) hx hb dX0_countConsulYears_25 (by decide) ?_
          have hq4 : pm_cc fy k + 1 = pm_cc fy (k + 1) := by first | rfl | exact (pm_cc_1 (by assumption)).symm | exact (pm_cc_0 (by assumption)).symm
          exact ih4 (k + 1) _ _ _ (by omega) (by omega) hP hS (by rw [← hq4]; exact lv_sub hl [1, 0, 2] rfl)
  have hq5 : 0 = pm_cc fy 0 := by first | rfl | exact (pm_cc_1 (by assumption)).symm | exact (pm_cc_0 (by assumption)).symm
  exact LP4 _ 0 _ _ _ (Nat.lt_succ_self _) (by omega) hP hS (by rw [← hq5]; exact lv_sub hl [1, 0, 2] rfl)
set_option maxHeartbeats 4000000 in
set_option maxRecDepth 100000 in
theorem k_X0_isPair (l : Launch) (D : va_G) (ts : List (ClassId × FieldType)) (pr : Nat) (x1 x2 : Int32) (hy0 : pr ≤ 1000000) : pz_R l yX0_isPair wsX0_isPair ({ frames := 0, cells := 0, slots := 0, locals := 0 } : Room) D ts [.int (nI pr), .int x1, .int x2] [] (fun r => r = pz_b (pm_mt x1 x2 pr)) := by
  refine pz_R_of (cc := cX0_isPair) (maxL := 5) (ty := .boolean) (own := RX0) (by decide) rfl rfl (Nat.le_of_ble_eq_true rfl) ?_
  intro p e s m below meth c A ls Q hx hb hml hown hts hK hP hD hS hA hl hQ
  have hl : lv_has ls 5 [(0, .int (nI pr)), (1, .int x1), (2, .int x2)] := hl
  refine lv_iload_n hx hb dX0_isPair_0 rfl (lv_at hl 0 rfl) ?_
  refine lv_sipush (v := nI 1000) hx hb dX0_isPair_1 (by decide) ?_
  refine pn_idiv hx hb (by omega) (by omega) (by omega) dX0_isPair_4 ?_
  refine lv_istore_n (lv' := [(3, .int (nI (pr / 1000))), (0, .int (nI pr)), (1, .int x1), (2, .int x2)]) hx hb dX0_isPair_5 rfl hl (by decide) rfl (fun ls hl => ?_)
  refine lv_iload_n hx hb dX0_isPair_6 rfl (lv_at hl 1 rfl) ?_
  refine lv_sipush (v := nI 1000) hx hb dX0_isPair_7 (by decide) ?_
  refine pn_irem hx hb (by omega) (by omega) (by omega) dX0_isPair_10 ?_
  refine lv_istore (lv' := [(4, .int (nI (pr % 1000))), (3, .int (nI (pr / 1000))), (0, .int (nI pr)), (1, .int x1), (2, .int x2)]) hx hb dX0_isPair_11 hl (by decide) rfl (fun ls hl => ?_)
  refine lv_iload_n hx hb dX0_isPair_13 rfl (lv_at hl 1 rfl) ?_
  refine lv_iload_n hx hb dX0_isPair_14 rfl (lv_at hl 3 rfl) ?_
  refine pi_icmp_ne (tgt := 24) (a := ((pr / 1000 : Nat) : Int)) (b := (x1).toInt) hx hb (nI_toInt (by omega)) rfl dX0_isPair_15 (by decide) (fun c_1 => ?_) (fun c_1 => ?_)
  · -- 15 yes
    refine lv_iload_n hx hb dX0_isPair_24 rfl (lv_at hl 1 rfl) ?_
    refine lv_iload_n hx hb dX0_isPair_25 rfl (lv_at hl 4 rfl) ?_
    refine pi_icmp_ne (tgt := 39) (a := ((pr / 1000 : Nat) : Int)) (b := (x2).toInt) hx hb (nI_toInt (by omega)) rfl dX0_isPair_26 (by decide) (fun c_2 => ?_) (fun c_2 => ?_)
    · -- 26 yes
      refine lv_iconst (v := nI 0) hx hb dX0_isPair_39 (by decide) ?_
      exact hQ _ _ _ _ _ dX0_isPair_40 (by decide) (pz_bf (by first | omega | (unfold pm_mt; omega))) hS
    · -- 26 no
      refine lv_iload hx hb dX0_isPair_29 (lv_at hl 0 rfl) ?_
      refine lv_iload_n hx hb dX0_isPair_31 rfl (lv_at hl 3 rfl) ?_
      refine pi_icmp_ne (tgt := 39) (a := ((pr % 1000 : Nat) : Int)) (b := (x1).toInt) hx hb (nI_toInt (by omega)) rfl dX0_isPair_32 (by decide) (fun c_3 => ?_) (fun c_3 => ?_)
      · -- 32 yes
        refine lv_iconst (v := nI 0) hx hb dX0_isPair_39 (by decide) ?_
        exact hQ _ _ _ _ _ dX0_isPair_40 (by decide) (pz_bf (by first | omega | (unfold pm_mt; omega))) hS
      · -- 32 no
        refine lv_iconst (v := nI 1) hx hb dX0_isPair_35 (by decide) ?_
        refine lv_goto (tgt := 40) hx hb dX0_isPair_36 (by decide) ?_
        exact hQ _ _ _ _ _ dX0_isPair_40 (by decide) (pz_bt (by first | omega | (unfold pm_mt; omega))) hS
  · -- 15 no
    refine lv_iload hx hb dX0_isPair_18 (lv_at hl 0 rfl) ?_
    refine lv_iload_n hx hb dX0_isPair_20 rfl (lv_at hl 4 rfl) ?_
    refine pi_icmp_eq (tgt := 35) (a := ((pr % 1000 : Nat) : Int)) (b := (x2).toInt) hx hb (nI_toInt (by omega)) rfl dX0_isPair_21 (by decide) (fun c_4 => ?_) (fun c_4 => ?_)
    · -- 21 yes
      refine lv_iconst (v := nI 1) hx hb dX0_isPair_35 (by decide) ?_
      refine lv_goto (tgt := 40) hx hb dX0_isPair_36 (by decide) ?_
      exact hQ _ _ _ _ _ dX0_isPair_40 (by decide) (pz_bt (by first | omega | (unfold pm_mt; omega))) hS
    · -- 21 no
      refine lv_iload_n hx hb dX0_isPair_24 rfl (lv_at hl 1 rfl) ?_
      refine lv_iload_n hx hb dX0_isPair_25 rfl (lv_at hl 4 rfl) ?_
      refine pi_icmp_ne (tgt := 39) (a := ((pr / 1000 : Nat) : Int)) (b := (x2).toInt) hx hb (nI_toInt (by omega)) rfl dX0_isPair_26 (by decide) (fun c_5 => ?_) (fun c_5 => ?_)
      · -- 26 yes
        refine lv_iconst (v := nI 0) hx hb dX0_isPair_39 (by decide) ?_
        exact hQ _ _ _ _ _ dX0_isPair_40 (by decide) (pz_bf (by first | omega | (unfold pm_mt; omega))) hS
      · -- 26 no
        refine lv_iload hx hb dX0_isPair_29 (lv_at hl 0 rfl) ?_
        refine lv_iload_n hx hb dX0_isPair_31 rfl (lv_at hl 3 rfl) ?_
        refine pi_icmp_ne (tgt := 39) (a := ((pr % 1000 : Nat) : Int)) (b := (x1).toInt) hx hb (nI_toInt (by omega)) rfl dX0_isPair_32 (by decide) (fun c_6 => ?_) (fun c_6 => ?_)
        · -- 32 yes
          refine lv_iconst (v := nI 0) hx hb dX0_isPair_39 (by decide) ?_
          exact hQ _ _ _ _ _ dX0_isPair_40 (by decide) (pz_bf (by first | omega | (unfold pm_mt; omega))) hS
        · -- 32 no
          refine lv_iconst (v := nI 1) hx hb dX0_isPair_35 (by decide) ?_
          refine lv_goto (tgt := 40) hx hb dX0_isPair_36 (by decide) ?_
          exact hQ _ _ _ _ _ dX0_isPair_40 (by decide) (pz_bt (by first | omega | (unfold pm_mt; omega))) hS
end PZ3
