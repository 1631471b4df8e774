section PZ9
set_option maxHeartbeats 4000000 in
set_option maxRecDepth 100000 in
theorem k_L_number (l : Launch) (D : va_G) (h0 ac ay ap oa : Nat) (cyI cyL : ClassId) (ts : List (ClassId × FieldType)) (mk : Nat) (ch fy fp : Nat → Nat) (og : Nat → Int64) (y mm dy : Nat) (hy0 : 1 ≤ y) (hy1 : y ≤ 3000) (hy2 : 1 ≤ mm) (hy3 : mm ≤ 12) (hy4 : 1 ≤ dy) (hy5 : dy ≤ pm_ln y mm) : pz_I l yL_number wsL_number ({ frames := 4, cells := 0, slots := 0, locals := 87 } : Room) D ((cyI, .int) :: (cyL, .long) :: ts) [.ref h0, .int (nI y), .int (nI mm), .int (nI dy), .ref oa] [(h0, .inr (0, [.ref ac, .ref ay, .ref ap, .int (nI mk)])), (ac, .inl (cyI, 365, .inl (pz_ar ch))), (ay, .inl (cyI, 60, .inl (pz_ar fy))), (ap, .inl (cyI, 60, .inl (pz_ar fp))), (oa, .inl (cyL, 1, .inr (.inl og)))] (S := Int32) (fun r u => r = nI 0 ∧ u = nI (pm_fd y + pm_db y mm + dy - 1)) (fun u => [(h0, .inr (0, [.ref ac, .ref ay, .ref ap, .int (nI mk)])), (ac, .inl (cyI, 365, .inl (pz_ar ch))), (ay, .inl (cyI, 60, .inl (pz_ar fy))), (ap, .inl (cyI, 60, .inl (pz_ar fp))), (oa, .inl (cyL, 1, .inr (.inl (vp_updL og 0 u.toInt64))))]) := by
  refine pz_I_ofH (cc := cL_number) (maxL := 6) (ty := .int) (own := RL) (hh := [(0, 12, 15, 13)]) (by decide) rfl rfl (Nat.le_of_ble_eq_true rfl) ?_
  intro p e s m below meth c A ls Q hx hb hml hown hts hK hP hD hS hA hl hQ
  have hl : lv_has ls 6 [(0, .ref h0), (1, .int (nI y)), (2, .int (nI mm)), (3, .int (nI dy)), (4, .ref oa)] := hl
  refine lv_aload hx hb dL_number_0 (lv_at hl 4 rfl) ?_
  refine lv_iconst (v := nI 0) hx hb dL_number_2 (by decide) ?_
  refine lv_aload_n hx hb dL_number_3 rfl (lv_at hl 0 rfl) ?_
  refine lv_iload_n hx hb dL_number_4 rfl (lv_at hl 1 rfl) ?_
  refine lv_iload_n hx hb dL_number_5 rfl (lv_at hl 2 rfl) ?_
  refine lv_iload_n hx hb dL_number_6 rfl (lv_at hl 3 rfl) ?_
  refine pz_VR (rest := [.int (nI 0), .ref oa]) ⟨hx, hb, hml, hown, hts⟩ (k_X0_number l D h0 ac ay ap cyI ((cyL, .long) :: ts) mk ch fy fp y mm dy (by exact hy0) (by exact hy1) (by exact hy2) (by exact hy3) (by exact hy4) (by exact hy5)) (cwV 3 hts gL_number_X0_number rfl rfl rfl (by decide +kernel) ⟨Nat.le_of_ble_eq_true rfl, Nat.le_of_ble_eq_true rfl⟩) hK hP (hD.weaken (fun _ _ _ _ => trivial)) hS hA [0, 1, 2, 3] rfl rfl rfl 0 0 rfl rfl rfl hl.1 rfl (lv_room (Nat.le_of_ble_eq_true rfl)) dL_number_7 ⟨Nat.le_of_ble_eq_true rfl, Nat.le_of_ble_eq_true rfl⟩ (fun r H locs hr hP hS => ?_)
  obtain rfl : r = (nI (pm_fd y + pm_db y mm + dy - 1)) := hr
  refine lv_i2l (v := ((nI (pm_fd y + pm_db y mm + dy - 1))).toInt64) hx hb dL_number_10 rfl ?_
  refine pn_last hx hb hK hP hD hS 4 1 rfl rfl (by decide) (by decide) dL_number_11 (fun H locs hP hD hS => ?_)
  have hP : va_P D vwCl [(h0, .inr (0, [.ref ac, .ref ay, .ref ap, .int (nI mk)])), (ac, .inl (cyI, 365, .inl (pz_ar ch))), (ay, .inl (cyI, 60, .inl (pz_ar fy))), (ap, .inl (cyI, 60, .inl (pz_ar fp))), (oa, .inl (cyL, 1, .inr (.inl (vp_updL og 0 (((nI (pm_fd y + pm_db y mm + dy - 1))).toInt64)))))] H := hP
  have hD : va_D A [(h0, .inr (0, [.ref ac, .ref ay, .ref ap, .int (nI mk)])), (ac, .inl (cyI, 365, .inl (pz_ar ch))), (ay, .inl (cyI, 60, .inl (pz_ar fy))), (ap, .inl (cyI, 60, .inl (pz_ar fp))), (oa, .inl (cyL, 1, .inr (.inl (vp_updL og 0 (((nI (pm_fd y + pm_db y mm + dy - 1))).toInt64)))))] := hD
  refine lv_goto (tgt := 19) hx hb dL_number_12 (by decide) ?_
  refine lv_iconst (v := nI 0) hx hb dL_number_19 (by decide) ?_
  exact hQ _ _ _ _ _ (nI (pm_fd y + pm_db y mm + dy - 1)) dL_number_20 rfl (by exact ⟨rfl, rfl⟩) hP hD hS
set_option maxHeartbeats 4000000 in
set_option maxRecDepth 100000 in
theorem k_L_number_x (l : Launch) (hfl : l.stackTraces = false) (D : va_G) (h0 ac ay ap oa : Nat) (cyI cyL : ClassId) (ts : List (ClassId × FieldType)) (mk : Nat) (ch fy fp : Nat → Nat) (og : Nat → Int64) (x1 x2 x3 : Int32) (hy0 : ¬ (1 ≤ x1.toInt ∧ x1.toInt ≤ 3000 ∧ 1 ≤ x2.toInt ∧ x2.toInt ≤ 12 ∧ 1 ≤ x3.toInt ∧ x3.toInt ≤ pm_ln x1.toInt.toNat x2.toInt.toNat)) : pz_RX l yL_number wsL_number ({ frames := 9, cells := 1, slots := 6, locals := 149 } : Room) D ((cyI, .int) :: (cyL, .long) :: ts) [.ref h0, .int x1, .int x2, .int x3, .ref oa] [(h0, .inr (0, [.ref ac, .ref ay, .ref ap, .int (nI mk)])), (ac, .inl (cyI, 365, .inl (pz_ar ch))), (ay, .inl (cyI, 60, .inl (pz_ar fy))), (ap, .inl (cyI, 60, .inl (pz_ar fp))), (oa, .inl (cyL, 1, .inr (.inl og)))] (fun r => r = nI 1) := by
  refine pz_RX_ofH (cc := cL_number) (maxL := 6) (ty := .int) (own := RL) (hh := [(0, 12, 15, 13)]) (by decide) rfl rfl (Nat.le_of_ble_eq_true rfl) ?_
  intro p e s m below meth c ls Q hx hb hml hown hts hK hP hD hS hl hth hnc htab hQ
  have hl : lv_has ls 6 [(0, .ref h0), (1, .int x1), (2, .int x2), (3, .int x3), (4, .ref oa)] := hl
  refine lv_aload hx hb dL_number_0 (lv_at hl 4 rfl) ?_
  refine lv_iconst (v := nI 0) hx hb dL_number_2 (by decide) ?_
  refine lv_aload_n hx hb dL_number_3 rfl (lv_at hl 0 rfl) ?_
  refine lv_iload_n hx hb dL_number_4 rfl (lv_at hl 1 rfl) ?_
  refine lv_iload_n hx hb dL_number_5 rfl (lv_at hl 2 rfl) ?_
  refine lv_iload_n hx hb dL_number_6 rfl (lv_at hl 3 rfl) ?_
  refine pz_VXK (E := "java/lang/IndexOutOfBoundsException") (rest := [.int (nI 0), .ref oa]) ⟨hx, hb, hml, hown, hts⟩ (k_X0_number_x l hfl D h0 ac ay ap cyI ((cyL, .long) :: ts) mk ch fy fp x1 x2 x3 (by exact hy0)) (cwV 3 hts gL_number_X0_number rfl rfl rfl (by decide +kernel) ⟨Nat.le_of_ble_eq_true rfl, Nat.le_of_ble_eq_true rfl⟩) hK hP hD hS hth [0, 1, 2, 3] rfl rfl rfl 0 0 rfl rfl rfl hl.1 rfl (lv_room (Nat.le_of_ble_eq_true rfl)) dL_number_7 ⟨Nat.le_of_ble_eq_true rfl, Nat.le_of_ble_eq_true rfl⟩ (fun ce q9 H locs hS hce hcv hcl => ?_)
  refine vx_catch (own := RL) (name := "java/lang/IndexOutOfBoundsException") hown [] ⟨0, 12, 15, 13⟩ [] (by rw [htab]; rfl) (fun z hz => nomatch hz) rfl (by decide) (hts (.classLink RL 13 "java/lang/IndexOutOfBoundsException") (by decide +kernel)) (va_Nw.use rfl (hth.2.2.2.1 "java/lang/IndexOutOfBoundsException" (by decide +kernel))) hce hcv hcl ?_
  refine lv_astore (lv' := [(5, .ref q9), (0, .ref h0), (1, .int x1), (2, .int x2), (3, .int x3), (4, .ref oa)]) hx hb dL_number_15 hl (by decide) rfl (fun ls hl => ?_)
  refine lv_iconst (v := nI 1) hx hb dL_number_17 (by decide) ?_
  exact hQ _ _ _ _ _ dL_number_18 rfl rfl hS
set_option maxHeartbeats 4000000 in
set_option maxRecDepth 100000 in
theorem k_L_numberByCounting_x (l : Launch) (hfl : l.stackTraces = false) (D : va_G) (h0 ac ay ap oa : Nat) (cyI cyL : ClassId) (ts : List (ClassId × FieldType)) (mk : Nat) (ch fy fp : Nat → Nat) (og : Nat → Int64) (x1 x2 x3 : Int32) (hy0 : ¬ (1 ≤ x1.toInt ∧ x1.toInt ≤ 3000 ∧ 1 ≤ x2.toInt ∧ x2.toInt ≤ 12 ∧ 1 ≤ x3.toInt ∧ x3.toInt ≤ pm_ln x1.toInt.toNat x2.toInt.toNat)) : pz_RX l yL_numberByCounting wsL_numberByCounting ({ frames := 9, cells := 1, slots := 6, locals := 153 } : Room) D ((cyI, .int) :: (cyL, .long) :: ts) [.ref h0, .int x1, .int x2, .int x3, .ref oa] [(h0, .inr (0, [.ref ac, .ref ay, .ref ap, .int (nI mk)])), (ac, .inl (cyI, 365, .inl (pz_ar ch))), (ay, .inl (cyI, 60, .inl (pz_ar fy))), (ap, .inl (cyI, 60, .inl (pz_ar fp))), (oa, .inl (cyL, 1, .inr (.inl og)))] (fun r => r = nI 1) := by
  refine pz_RX_ofH (cc := cL_numberByCounting) (maxL := 6) (ty := .int) (own := RL) (hh := [(0, 12, 15, 13)]) (by decide) rfl rfl (Nat.le_of_ble_eq_true rfl) ?_
  intro p e s m below meth c ls Q hx hb hml hown hts hK hP hD hS hl hth hnc htab hQ
  have hl : lv_has ls 6 [(0, .ref h0), (1, .int x1), (2, .int x2), (3, .int x3), (4, .ref oa)] := hl
  refine lv_aload hx hb dL_numberByCounting_0 (lv_at hl 4 rfl) ?_
  refine lv_iconst (v := nI 0) hx hb dL_numberByCounting_2 (by decide) ?_
  refine lv_aload_n hx hb dL_numberByCounting_3 rfl (lv_at hl 0 rfl) ?_
  refine lv_iload_n hx hb dL_numberByCounting_4 rfl (lv_at hl 1 rfl) ?_
  refine lv_iload_n hx hb dL_numberByCounting_5 rfl (lv_at hl 2 rfl) ?_
  refine lv_iload_n hx hb dL_numberByCounting_6 rfl (lv_at hl 3 rfl) ?_
  refine pz_VXK (E := "java/lang/IndexOutOfBoundsException") (rest := [.int (nI 0), .ref oa]) ⟨hx, hb, hml, hown, hts⟩ (k_X0_numberByCounting_x l hfl D h0 ac ay ap cyI ((cyL, .long) :: ts) mk ch fy fp x1 x2 x3 (by exact hy0)) (cwV 3 hts gL_numberByCounting_X0_numberByCounting rfl rfl rfl (by decide +kernel) ⟨Nat.le_of_ble_eq_true rfl, Nat.le_of_ble_eq_true rfl⟩) hK hP hD hS hth [0, 1, 2, 3] rfl rfl rfl 0 0 rfl rfl rfl hl.1 rfl (lv_room (Nat.le_of_ble_eq_true rfl)) dL_numberByCounting_7 ⟨Nat.le_of_ble_eq_true rfl, Nat.le_of_ble_eq_true rfl⟩ (fun ce q9 H locs hS hce hcv hcl => ?_)
  refine vx_catch (own := RL) (name := "java/lang/IndexOutOfBoundsException") hown [] ⟨0, 12, 15, 13⟩ [] (by rw [htab]; rfl) (fun z hz => nomatch hz) rfl (by decide) (hts (.classLink RL 13 "java/lang/IndexOutOfBoundsException") (by decide +kernel)) (va_Nw.use rfl (hth.2.2.2.1 "java/lang/IndexOutOfBoundsException" (by decide +kernel))) hce hcv hcl ?_
  refine lv_astore (lv' := [(5, .ref q9), (0, .ref h0), (1, .int x1), (2, .int x2), (3, .int x3), (4, .ref oa)]) hx hb dL_numberByCounting_15 hl (by decide) rfl (fun ls hl => ?_)
  refine lv_iconst (v := nI 1) hx hb dL_numberByCounting_17 (by decide) ?_
  exact hQ _ _ _ _ _ dL_numberByCounting_18 rfl rfl hS
set_option maxHeartbeats 4000000 in
set_option maxRecDepth 100000 in
theorem k_L_numberByCounting (l : Launch) (D : va_G) (h0 ac ay ap oa : Nat) (cyI cyL : ClassId) (ts : List (ClassId × FieldType)) (mk : Nat) (ch fy fp : Nat → Nat) (og : Nat → Int64) (y mm dy : Nat) (hy0 : 1 ≤ y) (hy1 : y ≤ 3000) (hy2 : 1 ≤ mm) (hy3 : mm ≤ 12) (hy4 : 1 ≤ dy) (hy5 : dy ≤ pm_ln y mm) : pz_I l yL_numberByCounting wsL_numberByCounting ({ frames := 4, cells := 0, slots := 0, locals := 91 } : Room) D ((cyI, .int) :: (cyL, .long) :: ts) [.ref h0, .int (nI y), .int (nI mm), .int (nI dy), .ref oa] [(h0, .inr (0, [.ref ac, .ref ay, .ref ap, .int (nI mk)])), (ac, .inl (cyI, 365, .inl (pz_ar ch))), (ay, .inl (cyI, 60, .inl (pz_ar fy))), (ap, .inl (cyI, 60, .inl (pz_ar fp))), (oa, .inl (cyL, 1, .inr (.inl og)))] (S := Int32) (fun r u => r = nI 0 ∧ u = nI (pm_fd y + pm_db y mm + dy - 1)) (fun u => [(h0, .inr (0, [.ref ac, .ref ay, .ref ap, .int (nI mk)])), (ac, .inl (cyI, 365, .inl (pz_ar ch))), (ay, .inl (cyI, 60, .inl (pz_ar fy))), (ap, .inl (cyI, 60, .inl (pz_ar fp))), (oa, .inl (cyL, 1, .inr (.inl (vp_updL og 0 u.toInt64))))]) := by
  refine pz_I_ofH (cc := cL_numberByCounting) (maxL := 6) (ty := .int) (own := RL) (hh := [(0, 12, 15, 13)]) (by decide) rfl rfl (Nat.le_of_ble_eq_true rfl) ?_
  intro p e s m below meth c A ls Q hx hb hml hown hts hK hP hD hS hA hl hQ
  have hl : lv_has ls 6 [(0, .ref h0), (1, .int (nI y)), (2, .int (nI mm)), (3, .int (nI dy)), (4, .ref oa)] := hl
  refine lv_aload hx hb dL_numberByCounting_0 (lv_at hl 4 rfl) ?_
  refine lv_iconst (v := nI 0) hx hb dL_numberByCounting_2 (by decide) ?_
  refine lv_aload_n hx hb dL_numberByCounting_3 rfl (lv_at hl 0 rfl) ?_
  refine lv_iload_n hx hb dL_numberByCounting_4 rfl (lv_at hl 1 rfl) ?_
  refine lv_iload_n hx hb dL_numberByCounting_5 rfl (lv_at hl 2 rfl) ?_
  refine lv_iload_n hx hb dL_numberByCounting_6 rfl (lv_at hl 3 rfl) ?_
  refine pz_VR (rest := [.int (nI 0), .ref oa]) ⟨hx, hb, hml, hown, hts⟩ (k_X0_numberByCounting l D h0 ac ay ap cyI ((cyL, .long) :: ts) mk ch fy fp y mm dy (by exact hy0) (by exact hy1) (by exact hy2) (by exact hy3) (by exact hy4) (by exact hy5)) (cwV 3 hts gL_numberByCounting_X0_numberByCounting rfl rfl rfl (by decide +kernel) ⟨Nat.le_of_ble_eq_true rfl, Nat.le_of_ble_eq_true rfl⟩) hK hP (hD.weaken (fun _ _ _ _ => trivial)) hS hA [0, 1, 2, 3] rfl rfl rfl 0 0 rfl rfl rfl hl.1 rfl (lv_room (Nat.le_of_ble_eq_true rfl)) dL_numberByCounting_7 ⟨Nat.le_of_ble_eq_true rfl, Nat.le_of_ble_eq_true rfl⟩ (fun r H locs hr hP hS => ?_)
  obtain rfl : r = (nI (pm_fd y + pm_db y mm + dy - 1)) := hr
  refine lv_i2l (v := ((nI (pm_fd y + pm_db y mm + dy - 1))).toInt64) hx hb dL_numberByCounting_10 rfl ?_
  refine pn_last hx hb hK hP hD hS 4 1 rfl rfl (by decide) (by decide) dL_numberByCounting_11 (fun H locs hP hD hS => ?_)
  have hP : va_P D vwCl [(h0, .inr (0, [.ref ac, .ref ay, .ref ap, .int (nI mk)])), (ac, .inl (cyI, 365, .inl (pz_ar ch))), (ay, .inl (cyI, 60, .inl (pz_ar fy))), (ap, .inl (cyI, 60, .inl (pz_ar fp))), (oa, .inl (cyL, 1, .inr (.inl (vp_updL og 0 (((nI (pm_fd y + pm_db y mm + dy - 1))).toInt64)))))] H := hP
  have hD : va_D A [(h0, .inr (0, [.ref ac, .ref ay, .ref ap, .int (nI mk)])), (ac, .inl (cyI, 365, .inl (pz_ar ch))), (ay, .inl (cyI, 60, .inl (pz_ar fy))), (ap, .inl (cyI, 60, .inl (pz_ar fp))), (oa, .inl (cyL, 1, .inr (.inl (vp_updL og 0 (((nI (pm_fd y + pm_db y mm + dy - 1))).toInt64)))))] := hD
  refine lv_goto (tgt := 19) hx hb dL_numberByCounting_12 (by decide) ?_
  refine lv_iconst (v := nI 0) hx hb dL_numberByCounting_19 (by decide) ?_
  exact hQ _ _ _ _ _ (nI (pm_fd y + pm_db y mm + dy - 1)) dL_numberByCounting_20 rfl (by exact ⟨rfl, rfl⟩) hP hD hS
set_option maxHeartbeats 4000000 in
set_option maxRecDepth 100000 in
theorem k_L_yearOf (l : Launch) (D : va_G) (h0 ac ay ap oa : Nat) (cyI cyL : ClassId) (ts : List (ClassId × FieldType)) (mk : Nat) (ch fy fp : Nat → Nat) (og : Nat → Int64) (n : Nat) (hy0 : n < 1095750) : pz_I l yL_yearOf wsL_yearOf ({ frames := 3, cells := 0, slots := 0, locals := 63 } : Room) D ((cyI, .int) :: (cyL, .long) :: ts) [.ref h0, .int (nI n), .ref oa] [(h0, .inr (0, [.ref ac, .ref ay, .ref ap, .int (nI mk)])), (ac, .inl (cyI, 365, .inl (pz_ar ch))), (ay, .inl (cyI, 60, .inl (pz_ar fy))), (ap, .inl (cyI, 60, .inl (pz_ar fp))), (oa, .inl (cyL, 1, .inr (.inl og)))] (S := Int32) (fun r u => r = nI 0 ∧ u = nI (pm_yr n)) (fun u => [(h0, .inr (0, [.ref ac, .ref ay, .ref ap, .int (nI mk)])), (ac, .inl (cyI, 365, .inl (pz_ar ch))), (ay, .inl (cyI, 60, .inl (pz_ar fy))), (ap, .inl (cyI, 60, .inl (pz_ar fp))), (oa, .inl (cyL, 1, .inr (.inl (vp_updL og 0 u.toInt64))))]) := by
  refine pz_I_ofH (cc := cL_yearOf) (maxL := 4) (ty := .int) (own := RL) (hh := [(0, 9, 12, 13)]) (by decide) rfl rfl (Nat.le_of_ble_eq_true rfl) ?_
  intro p e s m below meth c A ls Q hx hb hml hown hts hK hP hD hS hA hl hQ
  have hl : lv_has ls 4 [(0, .ref h0), (1, .int (nI n)), (2, .ref oa)] := hl
  refine lv_aload_n hx hb dL_yearOf_0 rfl (lv_at hl 2 rfl) ?_
  refine lv_iconst (v := nI 0) hx hb dL_yearOf_1 (by decide) ?_
  refine lv_aload_n hx hb dL_yearOf_2 rfl (lv_at hl 0 rfl) ?_
  refine lv_iload_n hx hb dL_yearOf_3 rfl (lv_at hl 1 rfl) ?_
  refine pz_VR (rest := [.int (nI 0), .ref oa]) ⟨hx, hb, hml, hown, hts⟩ (k_X0_yearOf l D h0 ac ay ap cyI ((cyL, .long) :: ts) mk ch fy fp n (by exact hy0)) (cwV 1 hts gL_yearOf_X0_yearOf rfl rfl rfl (by decide +kernel) ⟨Nat.le_of_ble_eq_true rfl, Nat.le_of_ble_eq_true rfl⟩) hK hP (hD.weaken (fun _ _ _ _ => trivial)) hS hA [0, 1, 2, 3] rfl rfl rfl 0 0 rfl rfl rfl hl.1 rfl (lv_room (Nat.le_of_ble_eq_true rfl)) dL_yearOf_4 ⟨Nat.le_of_ble_eq_true rfl, Nat.le_of_ble_eq_true rfl⟩ (fun r H locs hr hP hS => ?_)
  obtain rfl : r = (nI (pm_yr n)) := hr
  refine lv_i2l (v := ((nI (pm_yr n))).toInt64) hx hb dL_yearOf_7 rfl ?_
  refine pn_last hx hb hK hP hD hS 4 1 rfl rfl (by decide) (by decide) dL_yearOf_8 (fun H locs hP hD hS => ?_)
  have hP : va_P D vwCl [(h0, .inr (0, [.ref ac, .ref ay, .ref ap, .int (nI mk)])), (ac, .inl (cyI, 365, .inl (pz_ar ch))), (ay, .inl (cyI, 60, .inl (pz_ar fy))), (ap, .inl (cyI, 60, .inl (pz_ar fp))), (oa, .inl (cyL, 1, .inr (.inl (vp_updL og 0 (((nI (pm_yr n))).toInt64)))))] H := hP
  have hD : va_D A [(h0, .inr (0, [.ref ac, .ref ay, .ref ap, .int (nI mk)])), (ac, .inl (cyI, 365, .inl (pz_ar ch))), (ay, .inl (cyI, 60, .inl (pz_ar fy))), (ap, .inl (cyI, 60, .inl (pz_ar fp))), (oa, .inl (cyL, 1, .inr (.inl (vp_updL og 0 (((nI (pm_yr n))).toInt64)))))] := hD
  refine lv_goto (tgt := 15) hx hb dL_yearOf_9 (by decide) ?_
  refine lv_iconst (v := nI 0) hx hb dL_yearOf_15 (by decide) ?_
  exact hQ _ _ _ _ _ (nI (pm_yr n)) dL_yearOf_16 rfl (by exact ⟨rfl, rfl⟩) hP hD hS
set_option maxHeartbeats 4000000 in
set_option maxRecDepth 100000 in
theorem k_L_yearOf_x (l : Launch) (hfl : l.stackTraces = false) (D : va_G) (h0 ac ay ap oa : Nat) (cyI cyL : ClassId) (ts : List (ClassId × FieldType)) (mk : Nat) (ch fy fp : Nat → Nat) (og : Nat → Int64) (x : Int32) (hy0 : x.toInt < 0 ∨ 1095749 < x.toInt) : pz_RX l yL_yearOf wsL_yearOf ({ frames := 8, cells := 1, slots := 6, locals := 125 } : Room) D ((cyI, .int) :: (cyL, .long) :: ts) [.ref h0, .int x, .ref oa] [(h0, .inr (0, [.ref ac, .ref ay, .ref ap, .int (nI mk)])), (ac, .inl (cyI, 365, .inl (pz_ar ch))), (ay, .inl (cyI, 60, .inl (pz_ar fy))), (ap, .inl (cyI, 60, .inl (pz_ar fp))), (oa, .inl (cyL, 1, .inr (.inl og)))] (fun r => r = nI 1) := by
  refine pz_RX_ofH (cc := cL_yearOf) (maxL := 4) (ty := .int) (own := RL) (hh := [(0, 9, 12, 13)]) (by decide) rfl rfl (Nat.le_of_ble_eq_true rfl) ?_
  intro p e s m below meth c ls Q hx hb hml hown hts hK hP hD hS hl hth hnc htab hQ
  have hl : lv_has ls 4 [(0, .ref h0), (1, .int x), (2, .ref oa)] := hl
  refine lv_aload_n hx hb dL_yearOf_0 rfl (lv_at hl 2 rfl) ?_
  refine lv_iconst (v := nI 0) hx hb dL_yearOf_1 (by decide) ?_
  refine lv_aload_n hx hb dL_yearOf_2 rfl (lv_at hl 0 rfl) ?_
  refine lv_iload_n hx hb dL_yearOf_3 rfl (lv_at hl 1 rfl) ?_
  refine pz_VXK (E := "java/lang/IndexOutOfBoundsException") (rest := [.int (nI 0), .ref oa]) ⟨hx, hb, hml, hown, hts⟩ (k_X0_yearOf_x l hfl D h0 ac ay ap cyI ((cyL, .long) :: ts) mk ch fy fp x (by exact hy0)) (cwV 1 hts gL_yearOf_X0_yearOf rfl rfl rfl (by decide +kernel) ⟨Nat.le_of_ble_eq_true rfl, Nat.le_of_ble_eq_true rfl⟩) hK hP hD hS hth [0, 1, 2, 3] rfl rfl rfl 0 0 rfl rfl rfl hl.1 rfl (lv_room (Nat.le_of_ble_eq_true rfl)) dL_yearOf_4 ⟨Nat.le_of_ble_eq_true rfl, Nat.le_of_ble_eq_true rfl⟩ (fun ce q9 H locs hS hce hcv hcl => ?_)
  refine vx_catch (own := RL) (name := "java/lang/IndexOutOfBoundsException") hown [] ⟨0, 9, 12, 13⟩ [] (by rw [htab]; rfl) (fun z hz => nomatch hz) rfl (by decide) (hts (.classLink RL 13 "java/lang/IndexOutOfBoundsException") (by decide +kernel)) (va_Nw.use rfl (hth.2.2.2.1 "java/lang/IndexOutOfBoundsException" (by decide +kernel))) hce hcv hcl ?_
  refine lv_astore_n (lv' := [(3, .ref q9), (0, .ref h0), (1, .int x), (2, .ref oa)]) hx hb dL_yearOf_12 rfl hl (by decide) rfl (fun ls hl => ?_)
  refine lv_iconst (v := nI 1) hx hb dL_yearOf_13 (by decide) ?_
  exact hQ _ _ _ _ _ dL_yearOf_14 rfl rfl hS
set_option maxHeartbeats 4000000 in
set_option maxRecDepth 100000 in
theorem k_L_monthOf (l : Launch) (D : va_G) (h0 ac ay ap oa : Nat) (cyI cyL : ClassId) (ts : List (ClassId × FieldType)) (mk : Nat) (ch fy fp : Nat → Nat) (og : Nat → Int64) (n : Nat) (hy0 : n < 1095750) : pz_I l yL_monthOf wsL_monthOf ({ frames := 4, cells := 0, slots := 0, locals := 81 } : Room) D ((cyI, .int) :: (cyL, .long) :: ts) [.ref h0, .int (nI n), .ref oa] [(h0, .inr (0, [.ref ac, .ref ay, .ref ap, .int (nI mk)])), (ac, .inl (cyI, 365, .inl (pz_ar ch))), (ay, .inl (cyI, 60, .inl (pz_ar fy))), (ap, .inl (cyI, 60, .inl (pz_ar fp))), (oa, .inl (cyL, 1, .inr (.inl og)))] (S := Int32) (fun r u => r = nI 0 ∧ u = nI (pm_mo n)) (fun u => [(h0, .inr (0, [.ref ac, .ref ay, .ref ap, .int (nI mk)])), (ac, .inl (cyI, 365, .inl (pz_ar ch))), (ay, .inl (cyI, 60, .inl (pz_ar fy))), (ap, .inl (cyI, 60, .inl (pz_ar fp))), (oa, .inl (cyL, 1, .inr (.inl (vp_updL og 0 u.toInt64))))]) := by
  refine pz_I_ofH (cc := cL_monthOf) (maxL := 4) (ty := .int) (own := RL) (hh := [(0, 9, 12, 13)]) (by decide) rfl rfl (Nat.le_of_ble_eq_true rfl) ?_
  intro p e s m below meth c A ls Q hx hb hml hown hts hK hP hD hS hA hl hQ
  have hl : lv_has ls 4 [(0, .ref h0), (1, .int (nI n)), (2, .ref oa)] := hl
  refine lv_aload_n hx hb dL_monthOf_0 rfl (lv_at hl 2 rfl) ?_
  refine lv_iconst (v := nI 0) hx hb dL_monthOf_1 (by decide) ?_
  refine lv_aload_n hx hb dL_monthOf_2 rfl (lv_at hl 0 rfl) ?_
  refine lv_iload_n hx hb dL_monthOf_3 rfl (lv_at hl 1 rfl) ?_
  refine pz_VR (rest := [.int (nI 0), .ref oa]) ⟨hx, hb, hml, hown, hts⟩ (k_X0_monthOf l D h0 ac ay ap cyI ((cyL, .long) :: ts) mk ch fy fp n (by exact hy0)) (cwV 1 hts gL_monthOf_X0_monthOf rfl rfl rfl (by decide +kernel) ⟨Nat.le_of_ble_eq_true rfl, Nat.le_of_ble_eq_true rfl⟩) hK hP (hD.weaken (fun _ _ _ _ => trivial)) hS hA [0, 1, 2, 3] rfl rfl rfl 0 0 rfl rfl rfl hl.1 rfl (lv_room (Nat.le_of_ble_eq_true rfl)) dL_monthOf_4 ⟨Nat.le_of_ble_eq_true rfl, Nat.le_of_ble_eq_true rfl⟩ (fun r H locs hr hP hS => ?_)
  obtain rfl : r = (nI (pm_mo n)) := hr
  refine lv_i2l (v := ((nI (pm_mo n))).toInt64) hx hb dL_monthOf_7 rfl ?_
  refine pn_last hx hb hK hP hD hS 4 1 rfl rfl (by decide) (by decide) dL_monthOf_8 (fun H locs hP hD hS => ?_)
  have hP : va_P D vwCl [(h0, .inr (0, [.ref ac, .ref ay, .ref ap, .int (nI mk)])), (ac, .inl (cyI, 365, .inl (pz_ar ch))), (ay, .inl (cyI, 60, .inl (pz_ar fy))), (ap, .inl (cyI, 60, .inl (pz_ar fp))), (oa, .inl (cyL, 1, .inr (.inl (vp_updL og 0 (((nI (pm_mo n))).toInt64)))))] H := hP
  have hD : va_D A [(h0, .inr (0, [.ref ac, .ref ay, .ref ap, .int (nI mk)])), (ac, .inl (cyI, 365, .inl (pz_ar ch))), (ay, .inl (cyI, 60, .inl (pz_ar fy))), (ap, .inl (cyI, 60, .inl (pz_ar fp))), (oa, .inl (cyL, 1, .inr (.inl (vp_updL og 0 (((nI (pm_mo n))).toInt64)))))] := hD
  refine lv_goto (tgt := 15) hx hb dL_monthOf_9 (by decide) ?_
  refine lv_iconst (v := nI 0) hx hb dL_monthOf_15 (by decide) ?_
  exact hQ _ _ _ _ _ (nI (pm_mo n)) dL_monthOf_16 rfl (by exact ⟨rfl, rfl⟩) hP hD hS
set_option maxHeartbeats 4000000 in
set_option maxRecDepth 100000 in
theorem k_L_monthOf_x (l : Launch) (hfl : l.stackTraces = false) (D : va_G) (h0 ac ay ap oa : Nat) (cyI cyL : ClassId) (ts : List (ClassId × FieldType)) (mk : Nat) (ch fy fp : Nat → Nat) (og : Nat → Int64) (x : Int32) (hy0 : x.toInt < 0 ∨ 1095749 < x.toInt) : pz_RX l yL_monthOf wsL_monthOf ({ frames := 8, cells := 1, slots := 6, locals := 125 } : Room) D ((cyI, .int) :: (cyL, .long) :: ts) [.ref h0, .int x, .ref oa] [(h0, .inr (0, [.ref ac, .ref ay, .ref ap, .int (nI mk)])), (ac, .inl (cyI, 365, .inl (pz_ar ch))), (ay, .inl (cyI, 60, .inl (pz_ar fy))), (ap, .inl (cyI, 60, .inl (pz_ar fp))), (oa, .inl (cyL, 1, .inr (.inl og)))] (fun r => r = nI 1) := by
  refine pz_RX_ofH (cc := cL_monthOf) (maxL := 4) (ty := .int) (own := RL) (hh := [(0, 9, 12, 13)]) (by decide) rfl rfl (Nat.le_of_ble_eq_true rfl) ?_
  intro p e s m below meth c ls Q hx hb hml hown hts hK hP hD hS hl hth hnc htab hQ
  have hl : lv_has ls 4 [(0, .ref h0), (1, .int x), (2, .ref oa)] := hl
  refine lv_aload_n hx hb dL_monthOf_0 rfl (lv_at hl 2 rfl) ?_
  refine lv_iconst (v := nI 0) hx hb dL_monthOf_1 (by decide) ?_
  refine lv_aload_n hx hb dL_monthOf_2 rfl (lv_at hl 0 rfl) ?_
  refine lv_iload_n hx hb dL_monthOf_3 rfl (lv_at hl 1 rfl) ?_
  refine pz_VXK (E := "java/lang/IndexOutOfBoundsException") (rest := [.int (nI 0), .ref oa]) ⟨hx, hb, hml, hown, hts⟩ (k_X0_monthOf_x l hfl D h0 ac ay ap cyI ((cyL, .long) :: ts) mk ch fy fp x (by exact hy0)) (cwV 1 hts gL_monthOf_X0_monthOf rfl rfl rfl (by decide +kernel) ⟨Nat.le_of_ble_eq_true rfl, Nat.le_of_ble_eq_true rfl⟩) hK hP hD hS hth [0, 1, 2, 3] rfl rfl rfl 0 0 rfl rfl rfl hl.1 rfl (lv_room (Nat.le_of_ble_eq_true rfl)) dL_monthOf_4 ⟨Nat.le_of_ble_eq_true rfl, Nat.le_of_ble_eq_true rfl⟩ (fun ce q9 H locs hS hce hcv hcl => ?_)
  refine vx_catch (own := RL) (name := "java/lang/IndexOutOfBoundsException") hown [] ⟨0, 9, 12, 13⟩ [] (by rw [htab]; rfl) (fun z hz => nomatch hz) rfl (by decide) (hts (.classLink RL 13 "java/lang/IndexOutOfBoundsException") (by decide +kernel)) (va_Nw.use rfl (hth.2.2.2.1 "java/lang/IndexOutOfBoundsException" (by decide +kernel))) hce hcv hcl ?_
  refine lv_astore_n (lv' := [(3, .ref q9), (0, .ref h0), (1, .int x), (2, .ref oa)]) hx hb dL_monthOf_12 rfl hl (by decide) rfl (fun ls hl => ?_)
  refine lv_iconst (v := nI 1) hx hb dL_monthOf_13 (by decide) ?_
  exact hQ _ _ _ _ _ dL_monthOf_14 rfl rfl hS
set_option maxHeartbeats 4000000 in
set_option maxRecDepth 100000 in
theorem k_L_dayOf (l : Launch) (D : va_G) (h0 ac ay ap oa : Nat) (cyI cyL : ClassId) (ts : List (ClassId × FieldType)) (mk : Nat) (ch fy fp : Nat → Nat) (og : Nat → Int64) (n : Nat) (hy0 : n < 1095750) : pz_I l yL_dayOf wsL_dayOf ({ frames := 4, cells := 0, slots := 0, locals := 87 } : Room) D ((cyI, .int) :: (cyL, .long) :: ts) [.ref h0, .int (nI n), .ref oa] [(h0, .inr (0, [.ref ac, .ref ay, .ref ap, .int (nI mk)])), (ac, .inl (cyI, 365, .inl (pz_ar ch))), (ay, .inl (cyI, 60, .inl (pz_ar fy))), (ap, .inl (cyI, 60, .inl (pz_ar fp))), (oa, .inl (cyL, 1, .inr (.inl og)))] (S := Int32) (fun r u => r = nI 0 ∧ u = nI (pm_da n)) (fun u => [(h0, .inr (0, [.ref ac, .ref ay, .ref ap, .int (nI mk)])), (ac, .inl (cyI, 365, .inl (pz_ar ch))), (ay, .inl (cyI, 60, .inl (pz_ar fy))), (ap, .inl (cyI, 60, .inl (pz_ar fp))), (oa, .inl (cyL, 1, .inr (.inl (vp_updL og 0 u.toInt64))))]) := by
  refine pz_I_ofH (cc := cL_dayOf) (maxL := 4) (ty := .int) (own := RL) (hh := [(0, 9, 12, 13)]) (by decide) rfl rfl (Nat.le_of_ble_eq_true rfl) ?_
  intro p e s m below meth c A ls Q hx hb hml hown hts hK hP hD hS hA hl hQ
  have hl : lv_has ls 4 [(0, .ref h0), (1, .int (nI n)), (2, .ref oa)] := hl
  refine lv_aload_n hx hb dL_dayOf_0 rfl (lv_at hl 2 rfl) ?_
  refine lv_iconst (v := nI 0) hx hb dL_dayOf_1 (by decide) ?_
  refine lv_aload_n hx hb dL_dayOf_2 rfl (lv_at hl 0 rfl) ?_
  refine lv_iload_n hx hb dL_dayOf_3 rfl (lv_at hl 1 rfl) ?_
  refine pz_VR (rest := [.int (nI 0), .ref oa]) ⟨hx, hb, hml, hown, hts⟩ (k_X0_dayOf l D h0 ac ay ap cyI ((cyL, .long) :: ts) mk ch fy fp n (by exact hy0)) (cwV 1 hts gL_dayOf_X0_dayOf rfl rfl rfl (by decide +kernel) ⟨Nat.le_of_ble_eq_true rfl, Nat.le_of_ble_eq_true rfl⟩) hK hP (hD.weaken (fun _ _ _ _ => trivial)) hS hA [0, 1, 2, 3] rfl rfl rfl 0 0 rfl rfl rfl hl.1 rfl (lv_room (Nat.le_of_ble_eq_true rfl)) dL_dayOf_4 ⟨Nat.le_of_ble_eq_true rfl, Nat.le_of_ble_eq_true rfl⟩ (fun r H locs hr hP hS => ?_)
  obtain rfl : r = (nI (pm_da n)) := hr
  refine lv_i2l (v := ((nI (pm_da n))).toInt64) hx hb dL_dayOf_7 rfl ?_
  refine pn_last hx hb hK hP hD hS 4 1 rfl rfl (by decide) (by decide) dL_dayOf_8 (fun H locs hP hD hS => ?_)
  have hP : va_P D vwCl [(h0, .inr (0, [.ref ac, .ref ay, .ref ap, .int (nI mk)])), (ac, .inl (cyI, 365, .inl (pz_ar ch))), (ay, .inl (cyI, 60, .inl (pz_ar fy))), (ap, .inl (cyI, 60, .inl (pz_ar fp))), (oa, .inl (cyL, 1, .inr (.inl (vp_updL og 0 (((nI (pm_da n))).toInt64)))))] H := hP
  have hD : va_D A [(h0, .inr (0, [.ref ac, .ref ay, .ref ap, .int (nI mk)])), (ac, .inl (cyI, 365, .inl (pz_ar ch))), (ay, .inl (cyI, 60, .inl (pz_ar fy))), (ap, .inl (cyI, 60, .inl (pz_ar fp))), (oa, .inl (cyL, 1, .inr (.inl (vp_updL og 0 (((nI (pm_da n))).toInt64)))))] := hD
  refine lv_goto (tgt := 15) hx hb dL_dayOf_9 (by decide) ?_
  refine lv_iconst (v := nI 0) hx hb dL_dayOf_15 (by decide) ?_
  exact hQ _ _ _ _ _ (nI (pm_da n)) dL_dayOf_16 rfl (by exact ⟨rfl, rfl⟩) hP hD hS
set_option maxHeartbeats 4000000 in
set_option maxRecDepth 100000 in
theorem k_L_dayOf_x (l : Launch) (hfl : l.stackTraces = false) (D : va_G) (h0 ac ay ap oa : Nat) (cyI cyL : ClassId) (ts : List (ClassId × FieldType)) (mk : Nat) (ch fy fp : Nat → Nat) (og : Nat → Int64) (x : Int32) (hy0 : x.toInt < 0 ∨ 1095749 < x.toInt) : pz_RX l yL_dayOf wsL_dayOf ({ frames := 8, cells := 1, slots := 6, locals := 127 } : Room) D ((cyI, .int) :: (cyL, .long) :: ts) [.ref h0, .int x, .ref oa] [(h0, .inr (0, [.ref ac, .ref ay, .ref ap, .int (nI mk)])), (ac, .inl (cyI, 365, .inl (pz_ar ch))), (ay, .inl (cyI, 60, .inl (pz_ar fy))), (ap, .inl (cyI, 60, .inl (pz_ar fp))), (oa, .inl (cyL, 1, .inr (.inl og)))] (fun r => r = nI 1) := by
  refine pz_RX_ofH (cc := cL_dayOf) (maxL := 4) (ty := .int) (own := RL) (hh := [(0, 9, 12, 13)]) (by decide) rfl rfl (Nat.le_of_ble_eq_true rfl) ?_
  intro p e s m below meth c ls Q hx hb hml hown hts hK hP hD hS hl hth hnc htab hQ
  have hl : lv_has ls 4 [(0, .ref h0), (1, .int x), (2, .ref oa)] := hl
  refine lv_aload_n hx hb dL_dayOf_0 rfl (lv_at hl 2 rfl) ?_
  refine lv_iconst (v := nI 0) hx hb dL_dayOf_1 (by decide) ?_
  refine lv_aload_n hx hb dL_dayOf_2 rfl (lv_at hl 0 rfl) ?_
  refine lv_iload_n hx hb dL_dayOf_3 rfl (lv_at hl 1 rfl) ?_
  refine pz_VXK (E := "java/lang/IndexOutOfBoundsException") (rest := [.int (nI 0), .ref oa]) ⟨hx, hb, hml, hown, hts⟩ (k_X0_dayOf_x l hfl D h0 ac ay ap cyI ((cyL, .long) :: ts) mk ch fy fp x (by exact hy0)) (cwV 1 hts gL_dayOf_X0_dayOf rfl rfl rfl (by decide +kernel) ⟨Nat.le_of_ble_eq_true rfl, Nat.le_of_ble_eq_true rfl⟩) hK hP hD hS hth [0, 1, 2, 3] rfl rfl rfl 0 0 rfl rfl rfl hl.1 rfl (lv_room (Nat.le_of_ble_eq_true rfl)) dL_dayOf_4 ⟨Nat.le_of_ble_eq_true rfl, Nat.le_of_ble_eq_true rfl⟩ (fun ce q9 H locs hS hce hcv hcl => ?_)
  refine vx_catch (own := RL) (name := "java/lang/IndexOutOfBoundsException") hown [] ⟨0, 9, 12, 13⟩ [] (by rw [htab]; rfl) (fun z hz => nomatch hz) rfl (by decide) (hts (.classLink RL 13 "java/lang/IndexOutOfBoundsException") (by decide +kernel)) (va_Nw.use rfl (hth.2.2.2.1 "java/lang/IndexOutOfBoundsException" (by decide +kernel))) hce hcv hcl ?_
  refine lv_astore_n (lv' := [(3, .ref q9), (0, .ref h0), (1, .int x), (2, .ref oa)]) hx hb dL_dayOf_12 rfl hl (by decide) rfl (fun ls hl => ?_)
  refine lv_iconst (v := nI 1) hx hb dL_dayOf_13 (by decide) ?_
  exact hQ _ _ _ _ _ dL_dayOf_14 rfl rfl hS
set_option maxHeartbeats 4000000 in
set_option maxRecDepth 100000 in
theorem k_L_weekdayOf (l : Launch) (D : va_G) (h0 ac ay ap oa : Nat) (cyI cyL : ClassId) (ts : List (ClassId × FieldType)) (mk : Nat) (ch fy fp : Nat → Nat) (og : Nat → Int64) (n : Nat) (hy0 : n < 1095750) : pz_I l yL_weekdayOf wsL_weekdayOf ({ frames := 2, cells := 0, slots := 0, locals := 41 } : Room) D ((cyI, .int) :: (cyL, .long) :: ts) [.ref h0, .int (nI n), .ref oa] [(h0, .inr (0, [.ref ac, .ref ay, .ref ap, .int (nI mk)])), (ac, .inl (cyI, 365, .inl (pz_ar ch))), (ay, .inl (cyI, 60, .inl (pz_ar fy))), (ap, .inl (cyI, 60, .inl (pz_ar fp))), (oa, .inl (cyL, 1, .inr (.inl og)))] (S := Int32) (fun r u => r = nI 0 ∧ u = nI ((n + 6) % 7)) (fun u => [(h0, .inr (0, [.ref ac, .ref ay, .ref ap, .int (nI mk)])), (ac, .inl (cyI, 365, .inl (pz_ar ch))), (ay, .inl (cyI, 60, .inl (pz_ar fy))), (ap, .inl (cyI, 60, .inl (pz_ar fp))), (oa, .inl (cyL, 1, .inr (.inl (vp_updL og 0 u.toInt64))))]) := by
  refine pz_I_ofH (cc := cL_weekdayOf) (maxL := 4) (ty := .int) (own := RL) (hh := [(0, 9, 12, 13)]) (by decide) rfl rfl (Nat.le_of_ble_eq_true rfl) ?_
  intro p e s m below meth c A ls Q hx hb hml hown hts hK hP hD hS hA hl hQ
  have hl : lv_has ls 4 [(0, .ref h0), (1, .int (nI n)), (2, .ref oa)] := hl
  refine lv_aload_n hx hb dL_weekdayOf_0 rfl (lv_at hl 2 rfl) ?_
  refine lv_iconst (v := nI 0) hx hb dL_weekdayOf_1 (by decide) ?_
  refine lv_aload_n hx hb dL_weekdayOf_2 rfl (lv_at hl 0 rfl) ?_
  refine lv_iload_n hx hb dL_weekdayOf_3 rfl (lv_at hl 1 rfl) ?_
  refine pz_VR (rest := [.int (nI 0), .ref oa]) ⟨hx, hb, hml, hown, hts⟩ (k_X0_weekdayOf l D h0 ac ay ap cyI ((cyL, .long) :: ts) mk ch fy fp n (by exact hy0)) (cwV 1 hts gL_weekdayOf_X0_weekdayOf rfl rfl rfl (by decide +kernel) ⟨Nat.le_of_ble_eq_true rfl, Nat.le_of_ble_eq_true rfl⟩) hK hP (hD.weaken (fun _ _ _ _ => trivial)) hS hA [0, 1, 2, 3] rfl rfl rfl 0 0 rfl rfl rfl hl.1 rfl (lv_room (Nat.le_of_ble_eq_true rfl)) dL_weekdayOf_4 ⟨Nat.le_of_ble_eq_true rfl, Nat.le_of_ble_eq_true rfl⟩ (fun r H locs hr hP hS => ?_)
  obtain rfl : r = (nI ((n + 6) % 7)) := hr
  refine lv_i2l (v := ((nI ((n + 6) % 7))).toInt64) hx hb dL_weekdayOf_7 rfl ?_
  refine pn_last hx hb hK hP hD hS 4 1 rfl rfl (by decide) (by decide) dL_weekdayOf_8 (fun H locs hP hD hS => ?_)
  have hP : va_P D vwCl [(h0, .inr (0, [.ref ac, .ref ay, .ref ap, .int (nI mk)])), (ac, .inl (cyI, 365, .inl (pz_ar ch))), (ay, .inl (cyI, 60, .inl (pz_ar fy))), (ap, .inl (cyI, 60, .inl (pz_ar fp))), (oa, .inl (cyL, 1, .inr (.inl (vp_updL og 0 (((nI ((n + 6) % 7))).toInt64)))))] H := hP
  have hD : va_D A [(h0, .inr (0, [.ref ac, .ref ay, .ref ap, .int (nI mk)])), (ac, .inl (cyI, 365, .inl (pz_ar ch))), (ay, .inl (cyI, 60, .inl (pz_ar fy))), (ap, .inl (cyI, 60, .inl (pz_ar fp))), (oa, .inl (cyL, 1, .inr (.inl (vp_updL og 0 (((nI ((n + 6) % 7))).toInt64)))))] := hD
  refine lv_goto (tgt := 15) hx hb dL_weekdayOf_9 (by decide) ?_
  refine lv_iconst (v := nI 0) hx hb dL_weekdayOf_15 (by decide) ?_
  exact hQ _ _ _ _ _ (nI ((n + 6) % 7)) dL_weekdayOf_16 rfl (by exact ⟨rfl, rfl⟩) hP hD hS
set_option maxHeartbeats 4000000 in
set_option maxRecDepth 100000 in
theorem k_L_weekdayOf_x (l : Launch) (hfl : l.stackTraces = false) (D : va_G) (h0 ac ay ap oa : Nat) (cyI cyL : ClassId) (ts : List (ClassId × FieldType)) (mk : Nat) (ch fy fp : Nat → Nat) (og : Nat → Int64) (x : Int32) (hy0 : x.toInt < 0 ∨ 1095749 < x.toInt) : pz_RX l yL_weekdayOf wsL_weekdayOf ({ frames := 8, cells := 1, slots := 6, locals := 125 } : Room) D ((cyI, .int) :: (cyL, .long) :: ts) [.ref h0, .int x, .ref oa] [(h0, .inr (0, [.ref ac, .ref ay, .ref ap, .int (nI mk)])), (ac, .inl (cyI, 365, .inl (pz_ar ch))), (ay, .inl (cyI, 60, .inl (pz_ar fy))), (ap, .inl (cyI, 60, .inl (pz_ar fp))), (oa, .inl (cyL, 1, .inr (.inl og)))] (fun r => r = nI 1) := by
  refine pz_RX_ofH (cc := cL_weekdayOf) (maxL := 4) (ty := .int) (own := RL) (hh := [(0, 9, 12, 13)]) (by decide) rfl rfl (Nat.le_of_ble_eq_true rfl) ?_
  intro p e s m below meth c ls Q hx hb hml hown hts hK hP hD hS hl hth hnc htab hQ
  have hl : lv_has ls 4 [(0, .ref h0), (1, .int x), (2, .ref oa)] := hl
  refine lv_aload_n hx hb dL_weekdayOf_0 rfl (lv_at hl 2 rfl) ?_
  refine lv_iconst (v := nI 0) hx hb dL_weekdayOf_1 (by decide) ?_
  refine lv_aload_n hx hb dL_weekdayOf_2 rfl (lv_at hl 0 rfl) ?_
  refine lv_iload_n hx hb dL_weekdayOf_3 rfl (lv_at hl 1 rfl) ?_
  refine pz_VXK (E := "java/lang/IndexOutOfBoundsException") (rest := [.int (nI 0), .ref oa]) ⟨hx, hb, hml, hown, hts⟩ (k_X0_weekdayOf_x l hfl D h0 ac ay ap cyI ((cyL, .long) :: ts) mk ch fy fp x (by exact hy0)) (cwV 1 hts gL_weekdayOf_X0_weekdayOf rfl rfl rfl (by decide +kernel) ⟨Nat.le_of_ble_eq_true rfl, Nat.le_of_ble_eq_true rfl⟩) hK hP hD hS hth [0, 1, 2, 3] rfl rfl rfl 0 0 rfl rfl rfl hl.1 rfl (lv_room (Nat.le_of_ble_eq_true rfl)) dL_weekdayOf_4 ⟨Nat.le_of_ble_eq_true rfl, Nat.le_of_ble_eq_true rfl⟩ (fun ce q9 H locs hS hce hcv hcl => ?_)
  refine vx_catch (own := RL) (name := "java/lang/IndexOutOfBoundsException") hown [] ⟨0, 9, 12, 13⟩ [] (by rw [htab]; rfl) (fun z hz => nomatch hz) rfl (by decide) (hts (.classLink RL 13 "java/lang/IndexOutOfBoundsException") (by decide +kernel)) (va_Nw.use rfl (hth.2.2.2.1 "java/lang/IndexOutOfBoundsException" (by decide +kernel))) hce hcv hcl ?_
  refine lv_astore_n (lv' := [(3, .ref q9), (0, .ref h0), (1, .int x), (2, .ref oa)]) hx hb dL_weekdayOf_12 rfl hl (by decide) rfl (fun ls hl => ?_)
  refine lv_iconst (v := nI 1) hx hb dL_weekdayOf_13 (by decide) ?_
  exact hQ _ _ _ _ _ dL_weekdayOf_14 rfl rfl hS
set_option maxHeartbeats 4000000 in
set_option maxRecDepth 100000 in
theorem k_L_anchorOf (l : Launch) (D : va_G) (h0 ac ay ap oa : Nat) (cyI cyL : ClassId) (ts : List (ClassId × FieldType)) (mk : Nat) (ch fy fp : Nat → Nat) (og : Nat → Int64) (n : Nat) (hy0 : n < 1095750) : pz_I l yL_anchorOf wsL_anchorOf ({ frames := 6, cells := 0, slots := 0, locals := 127 } : Room) D ((cyI, .int) :: (cyL, .long) :: ts) [.ref h0, .int (nI n), .ref oa] [(h0, .inr (0, [.ref ac, .ref ay, .ref ap, .int (nI mk)])), (ac, .inl (cyI, 365, .inl (pz_ar ch))), (ay, .inl (cyI, 60, .inl (pz_ar fy))), (ap, .inl (cyI, 60, .inl (pz_ar fp))), (oa, .inl (cyL, 1, .inr (.inl og)))] (S := Int32) (fun r u => r = nI 0 ∧ u = nI (pm_ap (pm_pl n))) (fun u => [(h0, .inr (0, [.ref ac, .ref ay, .ref ap, .int (nI mk)])), (ac, .inl (cyI, 365, .inl (pz_ar ch))), (ay, .inl (cyI, 60, .inl (pz_ar fy))), (ap, .inl (cyI, 60, .inl (pz_ar fp))), (oa, .inl (cyL, 1, .inr (.inl (vp_updL og 0 u.toInt64))))]) := by
  refine pz_I_ofH (cc := cL_anchorOf) (maxL := 4) (ty := .int) (own := RL) (hh := [(0, 9, 12, 13)]) (by decide) rfl rfl (Nat.le_of_ble_eq_true rfl) ?_
  intro p e s m below meth c A ls Q hx hb hml hown hts hK hP hD hS hA hl hQ
  have hl : lv_has ls 4 [(0, .ref h0), (1, .int (nI n)), (2, .ref oa)] := hl
  refine lv_aload_n hx hb dL_anchorOf_0 rfl (lv_at hl 2 rfl) ?_
  refine lv_iconst (v := nI 0) hx hb dL_anchorOf_1 (by decide) ?_
  refine lv_aload_n hx hb dL_anchorOf_2 rfl (lv_at hl 0 rfl) ?_
  refine lv_iload_n hx hb dL_anchorOf_3 rfl (lv_at hl 1 rfl) ?_
  refine pz_VR (rest := [.int (nI 0), .ref oa]) ⟨hx, hb, hml, hown, hts⟩ (k_X0_anchorOf l D h0 ac ay ap cyI ((cyL, .long) :: ts) mk ch fy fp n (by exact hy0)) (cwV 1 hts gL_anchorOf_X0_anchorOf rfl rfl rfl (by decide +kernel) ⟨Nat.le_of_ble_eq_true rfl, Nat.le_of_ble_eq_true rfl⟩) hK hP (hD.weaken (fun _ _ _ _ => trivial)) hS hA [0, 1, 2, 3] rfl rfl rfl 0 0 rfl rfl rfl hl.1 rfl (lv_room (Nat.le_of_ble_eq_true rfl)) dL_anchorOf_4 ⟨Nat.le_of_ble_eq_true rfl, Nat.le_of_ble_eq_true rfl⟩ (fun r H locs hr hP hS => ?_)
  obtain rfl : r = (nI (pm_ap (pm_pl n))) := hr
  refine lv_i2l (v := ((nI (pm_ap (pm_pl n)))).toInt64) hx hb dL_anchorOf_7 rfl ?_
  refine pn_last hx hb hK hP hD hS 4 1 rfl rfl (by decide) (by decide) dL_anchorOf_8 (fun H locs hP hD hS => ?_)
  have hP : va_P D vwCl [(h0, .inr (0, [.ref ac, .ref ay, .ref ap, .int (nI mk)])), (ac, .inl (cyI, 365, .inl (pz_ar ch))), (ay, .inl (cyI, 60, .inl (pz_ar fy))), (ap, .inl (cyI, 60, .inl (pz_ar fp))), (oa, .inl (cyL, 1, .inr (.inl (vp_updL og 0 (((nI (pm_ap (pm_pl n)))).toInt64)))))] H := hP
  have hD : va_D A [(h0, .inr (0, [.ref ac, .ref ay, .ref ap, .int (nI mk)])), (ac, .inl (cyI, 365, .inl (pz_ar ch))), (ay, .inl (cyI, 60, .inl (pz_ar fy))), (ap, .inl (cyI, 60, .inl (pz_ar fp))), (oa, .inl (cyL, 1, .inr (.inl (vp_updL og 0 (((nI (pm_ap (pm_pl n)))).toInt64)))))] := hD
  refine lv_goto (tgt := 15) hx hb dL_anchorOf_9 (by decide) ?_
  refine lv_iconst (v := nI 0) hx hb dL_anchorOf_15 (by decide) ?_
  exact hQ _ _ _ _ _ (nI (pm_ap (pm_pl n))) dL_anchorOf_16 rfl (by exact ⟨rfl, rfl⟩) hP hD hS
set_option maxHeartbeats 4000000 in
set_option maxRecDepth 100000 in
theorem k_L_anchorOf_x (l : Launch) (hfl : l.stackTraces = false) (D : va_G) (h0 ac ay ap oa : Nat) (cyI cyL : ClassId) (ts : List (ClassId × FieldType)) (mk : Nat) (ch fy fp : Nat → Nat) (og : Nat → Int64) (x : Int32) (hy0 : x.toInt < 0 ∨ 1095749 < x.toInt) : pz_RX l yL_anchorOf wsL_anchorOf ({ frames := 8, cells := 1, slots := 6, locals := 127 } : Room) D ((cyI, .int) :: (cyL, .long) :: ts) [.ref h0, .int x, .ref oa] [(h0, .inr (0, [.ref ac, .ref ay, .ref ap, .int (nI mk)])), (ac, .inl (cyI, 365, .inl (pz_ar ch))), (ay, .inl (cyI, 60, .inl (pz_ar fy))), (ap, .inl (cyI, 60, .inl (pz_ar fp))), (oa, .inl (cyL, 1, .inr (.inl og)))] (fun r => r = nI 1) := by
  refine pz_RX_ofH (cc := cL_anchorOf) (maxL := 4) (ty := .int) (own := RL) (hh := [(0, 9, 12, 13)]) (by decide) rfl rfl (Nat.le_of_ble_eq_true rfl) ?_
  intro p e s m below meth c ls Q hx hb hml hown hts hK hP hD hS hl hth hnc htab hQ
  have hl : lv_has ls 4 [(0, .ref h0), (1, .int x), (2, .ref oa)] := hl
  refine lv_aload_n hx hb dL_anchorOf_0 rfl (lv_at hl 2 rfl) ?_
  refine lv_iconst (v := nI 0) hx hb dL_anchorOf_1 (by decide) ?_
  refine lv_aload_n hx hb dL_anchorOf_2 rfl (lv_at hl 0 rfl) ?_
  refine lv_iload_n hx hb dL_anchorOf_3 rfl (lv_at hl 1 rfl) ?_
  refine pz_VXK (E := "java/lang/IndexOutOfBoundsException") (rest := [.int (nI 0), .ref oa]) ⟨hx, hb, hml, hown, hts⟩ (k_X0_anchorOf_x l hfl D h0 ac ay ap cyI ((cyL, .long) :: ts) mk ch fy fp x (by exact hy0)) (cwV 1 hts gL_anchorOf_X0_anchorOf rfl rfl rfl (by decide +kernel) ⟨Nat.le_of_ble_eq_true rfl, Nat.le_of_ble_eq_true rfl⟩) hK hP hD hS hth [0, 1, 2, 3] rfl rfl rfl 0 0 rfl rfl rfl hl.1 rfl (lv_room (Nat.le_of_ble_eq_true rfl)) dL_anchorOf_4 ⟨Nat.le_of_ble_eq_true rfl, Nat.le_of_ble_eq_true rfl⟩ (fun ce q9 H locs hS hce hcv hcl => ?_)
  refine vx_catch (own := RL) (name := "java/lang/IndexOutOfBoundsException") hown [] ⟨0, 9, 12, 13⟩ [] (by rw [htab]; rfl) (fun z hz => nomatch hz) rfl (by decide) (hts (.classLink RL 13 "java/lang/IndexOutOfBoundsException") (by decide +kernel)) (va_Nw.use rfl (hth.2.2.2.1 "java/lang/IndexOutOfBoundsException" (by decide +kernel))) hce hcv hcl ?_
  refine lv_astore_n (lv' := [(3, .ref q9), (0, .ref h0), (1, .int x), (2, .ref oa)]) hx hb dL_anchorOf_12 rfl hl (by decide) rfl (fun ls hl => ?_)
  refine lv_iconst (v := nI 1) hx hb dL_anchorOf_13 (by decide) ?_
  exact hQ _ _ _ _ _ dL_anchorOf_14 rfl rfl hS
set_option maxHeartbeats 4000000 in
set_option maxRecDepth 100000 in
theorem k_L_anchorMonthOf (l : Launch) (D : va_G) (h0 ac ay ap oa : Nat) (cyI cyL : ClassId) (ts : List (ClassId × FieldType)) (mk : Nat) (ch fy fp : Nat → Nat) (og : Nat → Int64) (n : Nat) (hy0 : n < 1095750) : pz_I l yL_anchorMonthOf wsL_anchorMonthOf ({ frames := 5, cells := 0, slots := 0, locals := 108 } : Room) D ((cyI, .int) :: (cyL, .long) :: ts) [.ref h0, .int (nI n), .ref oa] [(h0, .inr (0, [.ref ac, .ref ay, .ref ap, .int (nI mk)])), (ac, .inl (cyI, 365, .inl (pz_ar ch))), (ay, .inl (cyI, 60, .inl (pz_ar fy))), (ap, .inl (cyI, 60, .inl (pz_ar fp))), (oa, .inl (cyL, 1, .inr (.inl og)))] (S := Int32) (fun r u => r = nI 0 ∧ u = nI (pm_am (pm_pl n))) (fun u => [(h0, .inr (0, [.ref ac, .ref ay, .ref ap, .int (nI mk)])), (ac, .inl (cyI, 365, .inl (pz_ar ch))), (ay, .inl (cyI, 60, .inl (pz_ar fy))), (ap, .inl (cyI, 60, .inl (pz_ar fp))), (oa, .inl (cyL, 1, .inr (.inl (vp_updL og 0 u.toInt64))))]) := by
  refine pz_I_ofH (cc := cL_anchorMonthOf) (maxL := 4) (ty := .int) (own := RL) (hh := [(0, 9, 12, 13)]) (by decide) rfl rfl (Nat.le_of_ble_eq_true rfl) ?_
  intro p e s m below meth c A ls Q hx hb hml hown hts hK hP hD hS hA hl hQ
  have hl : lv_has ls 4 [(0, .ref h0), (1, .int (nI n)), (2, .ref oa)] := hl
  refine lv_aload_n hx hb dL_anchorMonthOf_0 rfl (lv_at hl 2 rfl) ?_
  refine lv_iconst (v := nI 0) hx hb dL_anchorMonthOf_1 (by decide) ?_
  refine lv_aload_n hx hb dL_anchorMonthOf_2 rfl (lv_at hl 0 rfl) ?_
  refine lv_iload_n hx hb dL_anchorMonthOf_3 rfl (lv_at hl 1 rfl) ?_
  refine pz_VR (rest := [.int (nI 0), .ref oa]) ⟨hx, hb, hml, hown, hts⟩ (k_X0_anchorMonthOf l D h0 ac ay ap cyI ((cyL, .long) :: ts) mk ch fy fp n (by exact hy0)) (cwV 1 hts gL_anchorMonthOf_X0_anchorMonthOf rfl rfl rfl (by decide +kernel) ⟨Nat.le_of_ble_eq_true rfl, Nat.le_of_ble_eq_true rfl⟩) hK hP (hD.weaken (fun _ _ _ _ => trivial)) hS hA [0, 1, 2, 3] rfl rfl rfl 0 0 rfl rfl rfl hl.1 rfl (lv_room (Nat.le_of_ble_eq_true rfl)) dL_anchorMonthOf_4 ⟨Nat.le_of_ble_eq_true rfl, Nat.le_of_ble_eq_true rfl⟩ (fun r H locs hr hP hS => ?_)
  obtain rfl : r = (nI (pm_am (pm_pl n))) := hr
  refine lv_i2l (v := ((nI (pm_am (pm_pl n)))).toInt64) hx hb dL_anchorMonthOf_7 rfl ?_
  refine pn_last hx hb hK hP hD hS 4 1 rfl rfl (by decide) (by decide) dL_anchorMonthOf_8 (fun H locs hP hD hS => ?_)
  have hP : va_P D vwCl [(h0, .inr (0, [.ref ac, .ref ay, .ref ap, .int (nI mk)])), (ac, .inl (cyI, 365, .inl (pz_ar ch))), (ay, .inl (cyI, 60, .inl (pz_ar fy))), (ap, .inl (cyI, 60, .inl (pz_ar fp))), (oa, .inl (cyL, 1, .inr (.inl (vp_updL og 0 (((nI (pm_am (pm_pl n)))).toInt64)))))] H := hP
  have hD : va_D A [(h0, .inr (0, [.ref ac, .ref ay, .ref ap, .int (nI mk)])), (ac, .inl (cyI, 365, .inl (pz_ar ch))), (ay, .inl (cyI, 60, .inl (pz_ar fy))), (ap, .inl (cyI, 60, .inl (pz_ar fp))), (oa, .inl (cyL, 1, .inr (.inl (vp_updL og 0 (((nI (pm_am (pm_pl n)))).toInt64)))))] := hD
  refine lv_goto (tgt := 15) hx hb dL_anchorMonthOf_9 (by decide) ?_
  refine lv_iconst (v := nI 0) hx hb dL_anchorMonthOf_15 (by decide) ?_
  exact hQ _ _ _ _ _ (nI (pm_am (pm_pl n))) dL_anchorMonthOf_16 rfl (by exact ⟨rfl, rfl⟩) hP hD hS
set_option maxHeartbeats 4000000 in
set_option maxRecDepth 100000 in
theorem k_L_anchorMonthOf_x (l : Launch) (hfl : l.stackTraces = false) (D : va_G) (h0 ac ay ap oa : Nat) (cyI cyL : ClassId) (ts : List (ClassId × FieldType)) (mk : Nat) (ch fy fp : Nat → Nat) (og : Nat → Int64) (x : Int32) (hy0 : x.toInt < 0 ∨ 1095749 < x.toInt) : pz_RX l yL_anchorMonthOf wsL_anchorMonthOf ({ frames := 8, cells := 1, slots := 6, locals := 127 } : Room) D ((cyI, .int) :: (cyL, .long) :: ts) [.ref h0, .int x, .ref oa] [(h0, .inr (0, [.ref ac, .ref ay, .ref ap, .int (nI mk)])), (ac, .inl (cyI, 365, .inl (pz_ar ch))), (ay, .inl (cyI, 60, .inl (pz_ar fy))), (ap, .inl (cyI, 60, .inl (pz_ar fp))), (oa, .inl (cyL, 1, .inr (.inl og)))] (fun r => r = nI 1) := by
  refine pz_RX_ofH (cc := cL_anchorMonthOf) (maxL := 4) (ty := .int) (own := RL) (hh := [(0, 9, 12, 13)]) (by decide) rfl rfl (Nat.le_of_ble_eq_true rfl) ?_
  intro p e s m below meth c ls Q hx hb hml hown hts hK hP hD hS hl hth hnc htab hQ
  have hl : lv_has ls 4 [(0, .ref h0), (1, .int x), (2, .ref oa)] := hl
  refine lv_aload_n hx hb dL_anchorMonthOf_0 rfl (lv_at hl 2 rfl) ?_
  refine lv_iconst (v := nI 0) hx hb dL_anchorMonthOf_1 (by decide) ?_
  refine lv_aload_n hx hb dL_anchorMonthOf_2 rfl (lv_at hl 0 rfl) ?_
  refine lv_iload_n hx hb dL_anchorMonthOf_3 rfl (lv_at hl 1 rfl) ?_
  refine pz_VXK (E := "java/lang/IndexOutOfBoundsException") (rest := [.int (nI 0), .ref oa]) ⟨hx, hb, hml, hown, hts⟩ (k_X0_anchorMonthOf_x l hfl D h0 ac ay ap cyI ((cyL, .long) :: ts) mk ch fy fp x (by exact hy0)) (cwV 1 hts gL_anchorMonthOf_X0_anchorMonthOf rfl rfl rfl (by decide +kernel) ⟨Nat.le_of_ble_eq_true rfl, Nat.le_of_ble_eq_true rfl⟩) hK hP hD hS hth [0, 1, 2, 3] rfl rfl rfl 0 0 rfl rfl rfl hl.1 rfl (lv_room (Nat.le_of_ble_eq_true rfl)) dL_anchorMonthOf_4 ⟨Nat.le_of_ble_eq_true rfl, Nat.le_of_ble_eq_true rfl⟩ (fun ce q9 H locs hS hce hcv hcl => ?_)
  refine vx_catch (own := RL) (name := "java/lang/IndexOutOfBoundsException") hown [] ⟨0, 9, 12, 13⟩ [] (by rw [htab]; rfl) (fun z hz => nomatch hz) rfl (by decide) (hts (.classLink RL 13 "java/lang/IndexOutOfBoundsException") (by decide +kernel)) (va_Nw.use rfl (hth.2.2.2.1 "java/lang/IndexOutOfBoundsException" (by decide +kernel))) hce hcv hcl ?_
  refine lv_astore_n (lv' := [(3, .ref q9), (0, .ref h0), (1, .int x), (2, .ref oa)]) hx hb dL_anchorMonthOf_12 rfl hl (by decide) rfl (fun ls hl => ?_)
  refine lv_iconst (v := nI 1) hx hb dL_anchorMonthOf_13 (by decide) ?_
  exact hQ _ _ _ _ _ dL_anchorMonthOf_14 rfl rfl hS
set_option maxHeartbeats 4000000 in
set_option maxRecDepth 100000 in
theorem k_L_countOf (l : Launch) (D : va_G) (h0 ac ay ap oa : Nat) (cyI cyL : ClassId) (ts : List (ClassId × FieldType)) (mk : Nat) (ch fy fp : Nat → Nat) (og : Nat → Int64) (n : Nat) (hy0 : n < 1095750) : pz_I l yL_countOf wsL_countOf ({ frames := 6, cells := 0, slots := 0, locals := 130 } : Room) D ((cyI, .int) :: (cyL, .long) :: ts) [.ref h0, .int (nI n), .ref oa] [(h0, .inr (0, [.ref ac, .ref ay, .ref ap, .int (nI mk)])), (ac, .inl (cyI, 365, .inl (pz_ar ch))), (ay, .inl (cyI, 60, .inl (pz_ar fy))), (ap, .inl (cyI, 60, .inl (pz_ar fp))), (oa, .inl (cyL, 1, .inr (.inl og)))] (S := Int32) (fun r u => r = nI 0 ∧ u = nI (pm_ct (pm_pl n))) (fun u => [(h0, .inr (0, [.ref ac, .ref ay, .ref ap, .int (nI mk)])), (ac, .inl (cyI, 365, .inl (pz_ar ch))), (ay, .inl (cyI, 60, .inl (pz_ar fy))), (ap, .inl (cyI, 60, .inl (pz_ar fp))), (oa, .inl (cyL, 1, .inr (.inl (vp_updL og 0 u.toInt64))))]) := by
  refine pz_I_ofH (cc := cL_countOf) (maxL := 4) (ty := .int) (own := RL) (hh := [(0, 9, 12, 13)]) (by decide) rfl rfl (Nat.le_of_ble_eq_true rfl) ?_
  intro p e s m below meth c A ls Q hx hb hml hown hts hK hP hD hS hA hl hQ
  have hl : lv_has ls 4 [(0, .ref h0), (1, .int (nI n)), (2, .ref oa)] := hl
  refine lv_aload_n hx hb dL_countOf_0 rfl (lv_at hl 2 rfl) ?_
  refine lv_iconst (v := nI 0) hx hb dL_countOf_1 (by decide) ?_
  refine lv_aload_n hx hb dL_countOf_2 rfl (lv_at hl 0 rfl) ?_
  refine lv_iload_n hx hb dL_countOf_3 rfl (lv_at hl 1 rfl) ?_
  refine pz_VR (rest := [.int (nI 0), .ref oa]) ⟨hx, hb, hml, hown, hts⟩ (k_X0_countOf l D h0 ac ay ap cyI ((cyL, .long) :: ts) mk ch fy fp n (by exact hy0)) (cwV 1 hts gL_countOf_X0_countOf rfl rfl rfl (by decide +kernel) ⟨Nat.le_of_ble_eq_true rfl, Nat.le_of_ble_eq_true rfl⟩) hK hP (hD.weaken (fun _ _ _ _ => trivial)) hS hA [0, 1, 2, 3] rfl rfl rfl 0 0 rfl rfl rfl hl.1 rfl (lv_room (Nat.le_of_ble_eq_true rfl)) dL_countOf_4 ⟨Nat.le_of_ble_eq_true rfl, Nat.le_of_ble_eq_true rfl⟩ (fun r H locs hr hP hS => ?_)
  obtain rfl : r = (nI (pm_ct (pm_pl n))) := hr
  refine lv_i2l (v := ((nI (pm_ct (pm_pl n)))).toInt64) hx hb dL_countOf_7 rfl ?_
  refine pn_last hx hb hK hP hD hS 4 1 rfl rfl (by decide) (by decide) dL_countOf_8 (fun H locs hP hD hS => ?_)
  have hP : va_P D vwCl [(h0, .inr (0, [.ref ac, .ref ay, .ref ap, .int (nI mk)])), (ac, .inl (cyI, 365, .inl (pz_ar ch))), (ay, .inl (cyI, 60, .inl (pz_ar fy))), (ap, .inl (cyI, 60, .inl (pz_ar fp))), (oa, .inl (cyL, 1, .inr (.inl (vp_updL og 0 (((nI (pm_ct (pm_pl n)))).toInt64)))))] H := hP
  have hD : va_D A [(h0, .inr (0, [.ref ac, .ref ay, .ref ap, .int (nI mk)])), (ac, .inl (cyI, 365, .inl (pz_ar ch))), (ay, .inl (cyI, 60, .inl (pz_ar fy))), (ap, .inl (cyI, 60, .inl (pz_ar fp))), (oa, .inl (cyL, 1, .inr (.inl (vp_updL og 0 (((nI (pm_ct (pm_pl n)))).toInt64)))))] := hD
  refine lv_goto (tgt := 15) hx hb dL_countOf_9 (by decide) ?_
  refine lv_iconst (v := nI 0) hx hb dL_countOf_15 (by decide) ?_
  exact hQ _ _ _ _ _ (nI (pm_ct (pm_pl n))) dL_countOf_16 rfl (by exact ⟨rfl, rfl⟩) hP hD hS
set_option maxHeartbeats 4000000 in
set_option maxRecDepth 100000 in
theorem k_L_countOf_x (l : Launch) (hfl : l.stackTraces = false) (D : va_G) (h0 ac ay ap oa : Nat) (cyI cyL : ClassId) (ts : List (ClassId × FieldType)) (mk : Nat) (ch fy fp : Nat → Nat) (og : Nat → Int64) (x : Int32) (hy0 : x.toInt < 0 ∨ 1095749 < x.toInt) : pz_RX l yL_countOf wsL_countOf ({ frames := 8, cells := 1, slots := 6, locals := 130 } : Room) D ((cyI, .int) :: (cyL, .long) :: ts) [.ref h0, .int x, .ref oa] [(h0, .inr (0, [.ref ac, .ref ay, .ref ap, .int (nI mk)])), (ac, .inl (cyI, 365, .inl (pz_ar ch))), (ay, .inl (cyI, 60, .inl (pz_ar fy))), (ap, .inl (cyI, 60, .inl (pz_ar fp))), (oa, .inl (cyL, 1, .inr (.inl og)))] (fun r => r = nI 1) := by
  refine pz_RX_ofH (cc := cL_countOf) (maxL := 4) (ty := .int) (own := RL) (hh := [(0, 9, 12, 13)]) (by decide) rfl rfl (Nat.le_of_ble_eq_true rfl) ?_
  intro p e s m below meth c ls Q hx hb hml hown hts hK hP hD hS hl hth hnc htab hQ
  have hl : lv_has ls 4 [(0, .ref h0), (1, .int x), (2, .ref oa)] := hl
  refine lv_aload_n hx hb dL_countOf_0 rfl (lv_at hl 2 rfl) ?_
  refine lv_iconst (v := nI 0) hx hb dL_countOf_1 (by decide) ?_
  refine lv_aload_n hx hb dL_countOf_2 rfl (lv_at hl 0 rfl) ?_
  refine lv_iload_n hx hb dL_countOf_3 rfl (lv_at hl 1 rfl) ?_
  refine pz_VXK (E := "java/lang/IndexOutOfBoundsException") (rest := [.int (nI 0), .ref oa]) ⟨hx, hb, hml, hown, hts⟩ (k_X0_countOf_x l hfl D h0 ac ay ap cyI ((cyL, .long) :: ts) mk ch fy fp x (by exact hy0)) (cwV 1 hts gL_countOf_X0_countOf rfl rfl rfl (by decide +kernel) ⟨Nat.le_of_ble_eq_true rfl, Nat.le_of_ble_eq_true rfl⟩) hK hP hD hS hth [0, 1, 2, 3] rfl rfl rfl 0 0 rfl rfl rfl hl.1 rfl (lv_room (Nat.le_of_ble_eq_true rfl)) dL_countOf_4 ⟨Nat.le_of_ble_eq_true rfl, Nat.le_of_ble_eq_true rfl⟩ (fun ce q9 H locs hS hce hcv hcl => ?_)
  refine vx_catch (own := RL) (name := "java/lang/IndexOutOfBoundsException") hown [] ⟨0, 9, 12, 13⟩ [] (by rw [htab]; rfl) (fun z hz => nomatch hz) rfl (by decide) (hts (.classLink RL 13 "java/lang/IndexOutOfBoundsException") (by decide +kernel)) (va_Nw.use rfl (hth.2.2.2.1 "java/lang/IndexOutOfBoundsException" (by decide +kernel))) hce hcv hcl ?_
  refine lv_astore_n (lv' := [(3, .ref q9), (0, .ref h0), (1, .int x), (2, .ref oa)]) hx hb dL_countOf_12 rfl hl (by decide) rfl (fun ls hl => ?_)
  refine lv_iconst (v := nI 1) hx hb dL_countOf_13 (by decide) ?_
  exact hQ _ _ _ _ _ dL_countOf_14 rfl rfl hS
set_option maxHeartbeats 4000000 in
set_option maxRecDepth 100000 in
theorem k_L_isDoubled (l : Launch) (D : va_G) (h0 ac ay ap oa : Nat) (cyI cyL : ClassId) (ts : List (ClassId × FieldType)) (mk : Nat) (ch fy fp : Nat → Nat) (og : Nat → Int64) (n : Nat) (hy0 : n < 1095750) : pz_I l yL_isDoubled wsL_isDoubled ({ frames := 2, cells := 0, slots := 0, locals := 41 } : Room) D ((cyI, .int) :: (cyL, .long) :: ts) [.ref h0, .int (nI n), .ref oa] [(h0, .inr (0, [.ref ac, .ref ay, .ref ap, .int (nI mk)])), (ac, .inl (cyI, 365, .inl (pz_ar ch))), (ay, .inl (cyI, 60, .inl (pz_ar fy))), (ap, .inl (cyI, 60, .inl (pz_ar fp))), (oa, .inl (cyL, 1, .inr (.inl og)))] (S := Int32) (fun r u => r = nI 0 ∧ u = pz_b (n % 1461 = 1149)) (fun u => [(h0, .inr (0, [.ref ac, .ref ay, .ref ap, .int (nI mk)])), (ac, .inl (cyI, 365, .inl (pz_ar ch))), (ay, .inl (cyI, 60, .inl (pz_ar fy))), (ap, .inl (cyI, 60, .inl (pz_ar fp))), (oa, .inl (cyL, 1, .inr (.inl (vp_updL og 0 u.toInt64))))]) := by
  refine pz_I_ofH (cc := cL_isDoubled) (maxL := 4) (ty := .int) (own := RL) (hh := [(0, 16, 19, 13)]) (by decide) rfl rfl (Nat.le_of_ble_eq_true rfl) ?_
  intro p e s m below meth c A ls Q hx hb hml hown hts hK hP hD hS hA hl hQ
  have hl : lv_has ls 4 [(0, .ref h0), (1, .int (nI n)), (2, .ref oa)] := hl
  refine lv_aload_n hx hb dL_isDoubled_0 rfl (lv_at hl 2 rfl) ?_
  refine lv_iconst (v := nI 0) hx hb dL_isDoubled_1 (by decide) ?_
  refine lv_aload_n hx hb dL_isDoubled_2 rfl (lv_at hl 0 rfl) ?_
  refine lv_iload_n hx hb dL_isDoubled_3 rfl (lv_at hl 1 rfl) ?_
  refine pz_VR (rest := [.int (nI 0), .ref oa]) ⟨hx, hb, hml, hown, hts⟩ (k_X0_isDoubled l D h0 ac ay ap cyI ((cyL, .long) :: ts) mk ch fy fp n (by exact hy0)) (cwV 1 hts gL_isDoubled_X0_isDoubled rfl rfl rfl (by decide +kernel) ⟨Nat.le_of_ble_eq_true rfl, Nat.le_of_ble_eq_true rfl⟩) hK hP (hD.weaken (fun _ _ _ _ => trivial)) hS hA [0, 1, 2, 3] rfl rfl rfl 0 0 rfl rfl rfl hl.1 rfl (lv_room (Nat.le_of_ble_eq_true rfl)) dL_isDoubled_4 ⟨Nat.le_of_ble_eq_true rfl, Nat.le_of_ble_eq_true rfl⟩ (fun r H locs hr hP hS => ?_)
  obtain rfl : r = (pz_b (n % 1461 = 1149)) := hr
  refine pb_if_eq (tgt := 14) hx hb dL_isDoubled_7 (by decide) (fun c_2 => ?_) (fun c_2 => ?_)
  · -- 7 yes
    refine lv_lconst (v := 0) hx hb dL_isDoubled_14 (by decide) ?_
    refine pn_last hx hb hK hP hD hS 4 1 rfl rfl (by decide) (by decide) dL_isDoubled_15 (fun H locs hP hD hS => ?_)
    have hP : va_P D vwCl [(h0, .inr (0, [.ref ac, .ref ay, .ref ap, .int (nI mk)])), (ac, .inl (cyI, 365, .inl (pz_ar ch))), (ay, .inl (cyI, 60, .inl (pz_ar fy))), (ap, .inl (cyI, 60, .inl (pz_ar fp))), (oa, .inl (cyL, 1, .inr (.inl (vp_updL og 0 (0 : Int64)))))] H := hP
    have hD : va_D A [(h0, .inr (0, [.ref ac, .ref ay, .ref ap, .int (nI mk)])), (ac, .inl (cyI, 365, .inl (pz_ar ch))), (ay, .inl (cyI, 60, .inl (pz_ar fy))), (ap, .inl (cyI, 60, .inl (pz_ar fp))), (oa, .inl (cyL, 1, .inr (.inl (vp_updL og 0 (0 : Int64)))))] := hD
    have hq9 : vp_updL og 0 (0 : Int64) = vp_updL og 0 (pz_b (n % 1461 = 1149)).toInt64 := by rw [pz_bl0 (C := n % 1461 = 1149) (by assumption)]
    have hP : va_P D vwCl [(h0, .inr (0, [.ref ac, .ref ay, .ref ap, .int (nI mk)])), (ac, .inl (cyI, 365, .inl (pz_ar ch))), (ay, .inl (cyI, 60, .inl (pz_ar fy))), (ap, .inl (cyI, 60, .inl (pz_ar fp))), (oa, .inl (cyL, 1, .inr (.inl (vp_updL og 0 (pz_b (n % 1461 = 1149)).toInt64))))] H := by rw [← hq9]; exact hP
    have hD : va_D A [(h0, .inr (0, [.ref ac, .ref ay, .ref ap, .int (nI mk)])), (ac, .inl (cyI, 365, .inl (pz_ar ch))), (ay, .inl (cyI, 60, .inl (pz_ar fy))), (ap, .inl (cyI, 60, .inl (pz_ar fp))), (oa, .inl (cyL, 1, .inr (.inl (vp_updL og 0 (pz_b (n % 1461 = 1149)).toInt64))))] := by rw [← hq9]; exact hD
    refine lv_goto (tgt := 22) hx hb dL_isDoubled_16 (by decide) ?_
    refine lv_iconst (v := nI 0) hx hb dL_isDoubled_22 (by decide) ?_
    exact hQ _ _ _ _ _ (pz_b (n % 1461 = 1149)) dL_isDoubled_23 rfl (by exact ⟨rfl, rfl⟩) hP hD hS
  · -- 7 no
    refine lv_lconst (v := 1) hx hb dL_isDoubled_10 (by decide) ?_
    refine lv_goto (tgt := 15) hx hb dL_isDoubled_11 (by decide) ?_
    refine pn_last hx hb hK hP hD hS 4 1 rfl rfl (by decide) (by decide) dL_isDoubled_15 (fun H locs hP hD hS => ?_)
    have hP : va_P D vwCl [(h0, .inr (0, [.ref ac, .ref ay, .ref ap, .int (nI mk)])), (ac, .inl (cyI, 365, .inl (pz_ar ch))), (ay, .inl (cyI, 60, .inl (pz_ar fy))), (ap, .inl (cyI, 60, .inl (pz_ar fp))), (oa, .inl (cyL, 1, .inr (.inl (vp_updL og 0 (1 : Int64)))))] H := hP
    have hD : va_D A [(h0, .inr (0, [.ref ac, .ref ay, .ref ap, .int (nI mk)])), (ac, .inl (cyI, 365, .inl (pz_ar ch))), (ay, .inl (cyI, 60, .inl (pz_ar fy))), (ap, .inl (cyI, 60, .inl (pz_ar fp))), (oa, .inl (cyL, 1, .inr (.inl (vp_updL og 0 (1 : Int64)))))] := hD
    have hq9 : vp_updL og 0 (1 : Int64) = vp_updL og 0 (pz_b (n % 1461 = 1149)).toInt64 := by rw [pz_bl1 (C := n % 1461 = 1149) (by assumption)]
    have hP : va_P D vwCl [(h0, .inr (0, [.ref ac, .ref ay, .ref ap, .int (nI mk)])), (ac, .inl (cyI, 365, .inl (pz_ar ch))), (ay, .inl (cyI, 60, .inl (pz_ar fy))), (ap, .inl (cyI, 60, .inl (pz_ar fp))), (oa, .inl (cyL, 1, .inr (.inl (vp_updL og 0 (pz_b (n % 1461 = 1149)).toInt64))))] H := by rw [← hq9]; exact hP
    have hD : va_D A [(h0, .inr (0, [.ref ac, .ref ay, .ref ap, .int (nI mk)])), (ac, .inl (cyI, 365, .inl (pz_ar ch))), (ay, .inl (cyI, 60, .inl (pz_ar fy))), (ap, .inl (cyI, 60, .inl (pz_ar fp))), (oa, .inl (cyL, 1, .inr (.inl (vp_updL og 0 (pz_b (n % 1461 = 1149)).toInt64))))] := by rw [← hq9]; exact hD
    refine lv_goto (tgt := 22) hx hb dL_isDoubled_16 (by decide) ?_
    refine lv_iconst (v := nI 0) hx hb dL_isDoubled_22 (by decide) ?_
    exact hQ _ _ _ _ _ (pz_b (n % 1461 = 1149)) dL_isDoubled_23 rfl (by exact ⟨rfl, rfl⟩) hP hD hS
set_option maxHeartbeats 4000000 in
set_option maxRecDepth 100000 in
theorem k_L_isDoubled_x (l : Launch) (hfl : l.stackTraces = false) (D : va_G) (h0 ac ay ap oa : Nat) (cyI cyL : ClassId) (ts : List (ClassId × FieldType)) (mk : Nat) (ch fy fp : Nat → Nat) (og : Nat → Int64) (x : Int32) (hy0 : x.toInt < 0 ∨ 1095749 < x.toInt) : pz_RX l yL_isDoubled wsL_isDoubled ({ frames := 8, cells := 1, slots := 6, locals := 125 } : Room) D ((cyI, .int) :: (cyL, .long) :: ts) [.ref h0, .int x, .ref oa] [(h0, .inr (0, [.ref ac, .ref ay, .ref ap, .int (nI mk)])), (ac, .inl (cyI, 365, .inl (pz_ar ch))), (ay, .inl (cyI, 60, .inl (pz_ar fy))), (ap, .inl (cyI, 60, .inl (pz_ar fp))), (oa, .inl (cyL, 1, .inr (.inl og)))] (fun r => r = nI 1) := by
  refine pz_RX_ofH (cc := cL_isDoubled) (maxL := 4) (ty := .int) (own := RL) (hh := [(0, 16, 19, 13)]) (by decide) rfl rfl (Nat.le_of_ble_eq_true rfl) ?_
  intro p e s m below meth c ls Q hx hb hml hown hts hK hP hD hS hl hth hnc htab hQ
  have hl : lv_has ls 4 [(0, .ref h0), (1, .int x), (2, .ref oa)] := hl
  refine lv_aload_n hx hb dL_isDoubled_0 rfl (lv_at hl 2 rfl) ?_
  refine lv_iconst (v := nI 0) hx hb dL_isDoubled_1 (by decide) ?_
  refine lv_aload_n hx hb dL_isDoubled_2 rfl (lv_at hl 0 rfl) ?_
  refine lv_iload_n hx hb dL_isDoubled_3 rfl (lv_at hl 1 rfl) ?_
  refine pz_VXK (E := "java/lang/IndexOutOfBoundsException") (rest := [.int (nI 0), .ref oa]) ⟨hx, hb, hml, hown, hts⟩ (k_X0_isDoubled_x l hfl D h0 ac ay ap cyI ((cyL, .long) :: ts) mk ch fy fp x (by exact hy0)) (cwV 1 hts gL_isDoubled_X0_isDoubled rfl rfl rfl (by decide +kernel) ⟨Nat.le_of_ble_eq_true rfl, Nat.le_of_ble_eq_true rfl⟩) hK hP hD hS hth [0, 1, 2, 3] rfl rfl rfl 0 0 rfl rfl rfl hl.1 rfl (lv_room (Nat.le_of_ble_eq_true rfl)) dL_isDoubled_4 ⟨Nat.le_of_ble_eq_true rfl, Nat.le_of_ble_eq_true rfl⟩ (fun ce q9 H locs hS hce hcv hcl => ?_)
  refine vx_catch (own := RL) (name := "java/lang/IndexOutOfBoundsException") hown [] ⟨0, 16, 19, 13⟩ [] (by rw [htab]; rfl) (fun z hz => nomatch hz) rfl (by decide) (hts (.classLink RL 13 "java/lang/IndexOutOfBoundsException") (by decide +kernel)) (va_Nw.use rfl (hth.2.2.2.1 "java/lang/IndexOutOfBoundsException" (by decide +kernel))) hce hcv hcl ?_
  refine lv_astore_n (lv' := [(3, .ref q9), (0, .ref h0), (1, .int x), (2, .ref oa)]) hx hb dL_isDoubled_19 rfl hl (by decide) rfl (fun ls hl => ?_)
  refine lv_iconst (v := nI 1) hx hb dL_isDoubled_20 (by decide) ?_
  exact hQ _ _ _ _ _ dL_isDoubled_21 rfl rfl hS
set_option maxHeartbeats 4000000 in
set_option maxRecDepth 100000 in
theorem k_L_fromCount_x (l : Launch) (hfl : l.stackTraces = false) (D : va_G) (h0 ac ay ap oa : Nat) (cyI cyL : ClassId) (ts : List (ClassId × FieldType)) (mk : Nat) (ch fy fp : Nat → Nat) (og : Nat → Int64) (x1 x2 x3 x4 x5 : Int32) (hy0 : ¬ (1 ≤ x1.toInt ∧ x1.toInt ≤ 3000 ∧ 1 ≤ x2.toInt ∧ x2.toInt ≤ 12)) : pz_RX l yL_fromCount wsL_fromCount ({ frames := 8, cells := 1, slots := 6, locals := 131 } : Room) D ((cyI, .int) :: (cyL, .long) :: ts) [.ref h0, .int x1, .int x2, .int x3, .int x4, .int x5, .ref oa] [(h0, .inr (0, [.ref ac, .ref ay, .ref ap, .int (nI mk)])), (ac, .inl (cyI, 365, .inl (pz_ar ch))), (ay, .inl (cyI, 60, .inl (pz_ar fy))), (ap, .inl (cyI, 60, .inl (pz_ar fp))), (oa, .inl (cyL, 1, .inr (.inl og)))] (fun r => r = nI 1) := by
  refine pz_RX_ofH (cc := cL_fromCount) (maxL := 8) (ty := .int) (own := RL) (hh := [(0, 16, 19, 13), (0, 16, 23, 48), (0, 16, 27, 50)]) (by decide) rfl rfl (Nat.le_of_ble_eq_true rfl) ?_
  intro p e s m below meth c ls Q hx hb hml hown hts hK hP hD hS hl hth hnc htab hQ
  have hl : lv_has ls 8 [(0, .ref h0), (1, .int x1), (2, .int x2), (3, .int x3), (4, .int x4), (5, .int x5), (6, .ref oa)] := hl
  refine lv_aload hx hb dL_fromCount_0 (lv_at hl 6 rfl) ?_
  refine lv_iconst (v := nI 0) hx hb dL_fromCount_2 (by decide) ?_
  refine lv_aload_n hx hb dL_fromCount_3 rfl (lv_at hl 0 rfl) ?_
  refine lv_iload_n hx hb dL_fromCount_4 rfl (lv_at hl 1 rfl) ?_
  refine lv_iload_n hx hb dL_fromCount_5 rfl (lv_at hl 2 rfl) ?_
  refine lv_iload_n hx hb dL_fromCount_6 rfl (lv_at hl 3 rfl) ?_
  refine lv_iload hx hb dL_fromCount_7 (lv_at hl 4 rfl) ?_
  refine lv_iload hx hb dL_fromCount_9 (lv_at hl 5 rfl) ?_
  refine pz_VXK (E := "java/lang/IndexOutOfBoundsException") (rest := [.int (nI 0), .ref oa]) ⟨hx, hb, hml, hown, hts⟩ (k_X0_fromCount_x l hfl D h0 ac ay ap cyI ((cyL, .long) :: ts) mk ch fy fp x1 x2 x3 x4 x5 (by exact hy0)) (cwV 5 hts gL_fromCount_X0_fromCount rfl rfl rfl (by decide +kernel) ⟨Nat.le_of_ble_eq_true rfl, Nat.le_of_ble_eq_true rfl⟩) hK hP hD hS hth [0, 1, 2, 3] rfl rfl rfl 0 0 rfl rfl rfl hl.1 rfl (lv_room (Nat.le_of_ble_eq_true rfl)) dL_fromCount_11 ⟨Nat.le_of_ble_eq_true rfl, Nat.le_of_ble_eq_true rfl⟩ (fun ce q9 H locs hS hce hcv hcl => ?_)
  refine vx_catch (own := RL) (name := "java/lang/IndexOutOfBoundsException") hown [] ⟨0, 16, 19, 13⟩ [⟨0, 16, 23, 48⟩, ⟨0, 16, 27, 50⟩] (by rw [htab]; rfl) (fun z hz => nomatch hz) rfl (by decide) (hts (.classLink RL 13 "java/lang/IndexOutOfBoundsException") (by decide +kernel)) (va_Nw.use rfl (hth.2.2.2.1 "java/lang/IndexOutOfBoundsException" (by decide +kernel))) hce hcv hcl ?_
  refine lv_astore (lv' := [(7, .ref q9), (0, .ref h0), (1, .int x1), (2, .int x2), (3, .int x3), (4, .int x4), (5, .int x5), (6, .ref oa)]) hx hb dL_fromCount_19 hl (by decide) rfl (fun ls hl => ?_)
  refine lv_iconst (v := nI 1) hx hb dL_fromCount_21 (by decide) ?_
  exact hQ _ _ _ _ _ dL_fromCount_22 rfl rfl hS
set_option maxHeartbeats 4000000 in
set_option maxRecDepth 100000 in
theorem k_L_fromCount (l : Launch) (D : va_G) (h0 ac ay ap oa : Nat) (cyI cyL : ClassId) (ts : List (ClassId × FieldType)) (mk : Nat) (ch fy fp : Nat → Nat) (og : Nat → Int64) (y mm a k bd : Nat) (hy0 : 1 ≤ y) (hy1 : y ≤ 3000) (hy2 : 1 ≤ mm) (hy3 : mm ≤ 12) (hy4 : a ≤ 2) (hy5 : 1 ≤ k) (hy6 : k ≤ pm_gc mm a) (hy7 : bd ≤ 1) (hy8 : bd = 1 → (y % 4 = 0 ∧ mm = 3 ∧ a = 0 ∧ k = 6)) : pz_I l yL_fromCount wsL_fromCount ({ frames := 4, cells := 0, slots := 0, locals := 92 } : Room) D ((cyI, .int) :: (cyL, .long) :: ts) [.ref h0, .int (nI y), .int (nI mm), .int (nI a), .int (nI k), .int (nI bd), .ref oa] [(h0, .inr (0, [.ref ac, .ref ay, .ref ap, .int (nI mk)])), (ac, .inl (cyI, 365, .inl (pz_ar ch))), (ay, .inl (cyI, 60, .inl (pz_ar fy))), (ap, .inl (cyI, 60, .inl (pz_ar fp))), (oa, .inl (cyL, 1, .inr (.inl og)))] (S := Int32) (fun r u => r = nI 0 ∧ u = nI (pm_fc y mm a k bd)) (fun u => [(h0, .inr (0, [.ref ac, .ref ay, .ref ap, .int (nI mk)])), (ac, .inl (cyI, 365, .inl (pz_ar ch))), (ay, .inl (cyI, 60, .inl (pz_ar fy))), (ap, .inl (cyI, 60, .inl (pz_ar fp))), (oa, .inl (cyL, 1, .inr (.inl (vp_updL og 0 u.toInt64))))]) := by
  refine pz_I_ofH (cc := cL_fromCount) (maxL := 8) (ty := .int) (own := RL) (hh := [(0, 16, 19, 13), (0, 16, 23, 48), (0, 16, 27, 50)]) (by decide) rfl rfl (Nat.le_of_ble_eq_true rfl) ?_
  intro p e s m below meth c A ls Q hx hb hml hown hts hK hP hD hS hA hl hQ
  have hl : lv_has ls 8 [(0, .ref h0), (1, .int (nI y)), (2, .int (nI mm)), (3, .int (nI a)), (4, .int (nI k)), (5, .int (nI bd)), (6, .ref oa)] := hl
  refine lv_aload hx hb dL_fromCount_0 (lv_at hl 6 rfl) ?_
  refine lv_iconst (v := nI 0) hx hb dL_fromCount_2 (by decide) ?_
  refine lv_aload_n hx hb dL_fromCount_3 rfl (lv_at hl 0 rfl) ?_
  refine lv_iload_n hx hb dL_fromCount_4 rfl (lv_at hl 1 rfl) ?_
  refine lv_iload_n hx hb dL_fromCount_5 rfl (lv_at hl 2 rfl) ?_
  refine lv_iload_n hx hb dL_fromCount_6 rfl (lv_at hl 3 rfl) ?_
  refine lv_iload hx hb dL_fromCount_7 (lv_at hl 4 rfl) ?_
  refine lv_iload hx hb dL_fromCount_9 (lv_at hl 5 rfl) ?_
  refine pz_VR (rest := [.int (nI 0), .ref oa]) ⟨hx, hb, hml, hown, hts⟩ (k_X0_fromCount l D h0 ac ay ap cyI ((cyL, .long) :: ts) mk ch fy fp y mm a k bd (by exact hy0) (by exact hy1) (by exact hy2) (by exact hy3) (by exact hy4) (by exact hy5) (by exact hy6) (by exact hy7) (by exact hy8)) (cwV 5 hts gL_fromCount_X0_fromCount rfl rfl rfl (by decide +kernel) ⟨Nat.le_of_ble_eq_true rfl, Nat.le_of_ble_eq_true rfl⟩) hK hP (hD.weaken (fun _ _ _ _ => trivial)) hS hA [0, 1, 2, 3] rfl rfl rfl 0 0 rfl rfl rfl hl.1 rfl (lv_room (Nat.le_of_ble_eq_true rfl)) dL_fromCount_11 ⟨Nat.le_of_ble_eq_true rfl, Nat.le_of_ble_eq_true rfl⟩ (fun r H locs hr hP hS => ?_)
  obtain rfl : r = (nI (pm_fc y mm a k bd)) := hr
  refine lv_i2l (v := ((nI (pm_fc y mm a k bd))).toInt64) hx hb dL_fromCount_14 rfl ?_
  refine pn_last hx hb hK hP hD hS 4 1 rfl rfl (by decide) (by decide) dL_fromCount_15 (fun H locs hP hD hS => ?_)
  have hP : va_P D vwCl [(h0, .inr (0, [.ref ac, .ref ay, .ref ap, .int (nI mk)])), (ac, .inl (cyI, 365, .inl (pz_ar ch))), (ay, .inl (cyI, 60, .inl (pz_ar fy))), (ap, .inl (cyI, 60, .inl (pz_ar fp))), (oa, .inl (cyL, 1, .inr (.inl (vp_updL og 0 (((nI (pm_fc y mm a k bd))).toInt64)))))] H := hP
  have hD : va_D A [(h0, .inr (0, [.ref ac, .ref ay, .ref ap, .int (nI mk)])), (ac, .inl (cyI, 365, .inl (pz_ar ch))), (ay, .inl (cyI, 60, .inl (pz_ar fy))), (ap, .inl (cyI, 60, .inl (pz_ar fp))), (oa, .inl (cyL, 1, .inr (.inl (vp_updL og 0 (((nI (pm_fc y mm a k bd))).toInt64)))))] := hD
  refine lv_goto (tgt := 31) hx hb dL_fromCount_16 (by decide) ?_
  refine lv_iconst (v := nI 0) hx hb dL_fromCount_31 (by decide) ?_
  exact hQ _ _ _ _ _ (nI (pm_fc y mm a k bd)) dL_fromCount_32 rfl (by exact ⟨rfl, rfl⟩) hP hD hS
set_option maxHeartbeats 4000000 in
set_option maxRecDepth 100000 in
theorem k_L_fromCount_x2 (l : Launch) (hfl : l.stackTraces = false) (D : va_G) (h0 ac ay ap oa : Nat) (cyI cyL : ClassId) (ts : List (ClassId × FieldType)) (mk : Nat) (ch fy fp : Nat → Nat) (og : Nat → Int64) (y mm : Nat) (x3 x4 x5 : Int32) (hy0 : ¬ (0 ≤ x3.toInt ∧ x3.toInt ≤ 2 ∧ 1 ≤ x4.toInt)) (hy1 : 1 ≤ y) (hy2 : y ≤ 3000) (hy3 : 1 ≤ mm) (hy4 : mm ≤ 12) : pz_RX l yL_fromCount wsL_fromCount ({ frames := 8, cells := 1, slots := 6, locals := 131 } : Room) D ((cyI, .int) :: (cyL, .long) :: ts) [.ref h0, .int (nI y), .int (nI mm), .int x3, .int x4, .int x5, .ref oa] [(h0, .inr (0, [.ref ac, .ref ay, .ref ap, .int (nI mk)])), (ac, .inl (cyI, 365, .inl (pz_ar ch))), (ay, .inl (cyI, 60, .inl (pz_ar fy))), (ap, .inl (cyI, 60, .inl (pz_ar fp))), (oa, .inl (cyL, 1, .inr (.inl og)))] (fun r => r = nI 2) := by
  refine pz_RX_ofH (cc := cL_fromCount) (maxL := 8) (ty := .int) (own := RL) (hh := [(0, 16, 19, 13), (0, 16, 23, 48), (0, 16, 27, 50)]) (by decide) rfl rfl (Nat.le_of_ble_eq_true rfl) ?_
  intro p e s m below meth c ls Q hx hb hml hown hts hK hP hD hS hl hth hnc htab hQ
  have hl : lv_has ls 8 [(0, .ref h0), (1, .int (nI y)), (2, .int (nI mm)), (3, .int x3), (4, .int x4), (5, .int x5), (6, .ref oa)] := hl
  refine lv_aload hx hb dL_fromCount_0 (lv_at hl 6 rfl) ?_
  refine lv_iconst (v := nI 0) hx hb dL_fromCount_2 (by decide) ?_
  refine lv_aload_n hx hb dL_fromCount_3 rfl (lv_at hl 0 rfl) ?_
  refine lv_iload_n hx hb dL_fromCount_4 rfl (lv_at hl 1 rfl) ?_
  refine lv_iload_n hx hb dL_fromCount_5 rfl (lv_at hl 2 rfl) ?_
  refine lv_iload_n hx hb dL_fromCount_6 rfl (lv_at hl 3 rfl) ?_
  refine lv_iload hx hb dL_fromCount_7 (lv_at hl 4 rfl) ?_
  refine lv_iload hx hb dL_fromCount_9 (lv_at hl 5 rfl) ?_
  refine pz_VXK (E := "java/lang/IllegalArgumentException") (rest := [.int (nI 0), .ref oa]) ⟨hx, hb, hml, hown, hts⟩ (k_X0_fromCount_x2 l hfl D h0 ac ay ap cyI ((cyL, .long) :: ts) mk ch fy fp y mm x3 x4 x5 (by exact hy0) (by exact hy1) (by exact hy2) (by exact hy3) (by exact hy4)) (cwV 5 hts gL_fromCount_X0_fromCount rfl rfl rfl (by decide +kernel) ⟨Nat.le_of_ble_eq_true rfl, Nat.le_of_ble_eq_true rfl⟩) hK hP hD hS hth [0, 1, 2, 3] rfl rfl rfl 0 0 rfl rfl rfl hl.1 rfl (lv_room (Nat.le_of_ble_eq_true rfl)) dL_fromCount_11 ⟨Nat.le_of_ble_eq_true rfl, Nat.le_of_ble_eq_true rfl⟩ (fun ce q9 H locs hS hce hcv hcl => ?_)
  refine vx_catch (own := RL) (name := "java/lang/IllegalArgumentException") hown [⟨0, 16, 19, 13⟩] ⟨0, 16, 23, 48⟩ [⟨0, 16, 27, 50⟩] (by rw [htab]; rfl) (List.forall_mem_cons.mpr ⟨Or.inr ⟨by decide, "java/lang/IndexOutOfBoundsException", hts (.classLink RL 13 "java/lang/IndexOutOfBoundsException") (by decide +kernel), hnc.1⟩, (fun z hz => nomatch hz)⟩) rfl (by decide) (hts (.classLink RL 48 "java/lang/IllegalArgumentException") (by decide +kernel)) (va_Nw.use rfl (hth.2.2.2.1 "java/lang/IllegalArgumentException" (by decide +kernel))) hce hcv hcl ?_
  refine lv_astore (lv' := [(7, .ref q9), (0, .ref h0), (1, .int (nI y)), (2, .int (nI mm)), (3, .int x3), (4, .int x4), (5, .int x5), (6, .ref oa)]) hx hb dL_fromCount_23 hl (by decide) rfl (fun ls hl => ?_)
  refine lv_iconst (v := nI 2) hx hb dL_fromCount_25 (by decide) ?_
  exact hQ _ _ _ _ _ dL_fromCount_26 rfl rfl hS
set_option maxHeartbeats 4000000 in
set_option maxRecDepth 100000 in
theorem k_L_fromCount_x3 (l : Launch) (hfl : l.stackTraces = false) (D : va_G) (h0 ac ay ap oa : Nat) (cyI cyL : ClassId) (ts : List (ClassId × FieldType)) (mk : Nat) (ch fy fp : Nat → Nat) (og : Nat → Int64) (y mm a k bd : Nat) (hy0 : ¬ (k ≤ pm_gc mm a ∧ (bd = 1 → (y % 4 = 0 ∧ mm = 3 ∧ a = 0 ∧ k = 6)))) (hy1 : 1 ≤ y) (hy2 : y ≤ 3000) (hy3 : 1 ≤ mm) (hy4 : mm ≤ 12) (hy5 : a ≤ 2) (hy6 : 1 ≤ k) (hy7 : k < 2147483648) (hy8 : bd ≤ 1) : pz_RX l yL_fromCount wsL_fromCount ({ frames := 8, cells := 1, slots := 6, locals := 131 } : Room) D ((cyI, .int) :: (cyL, .long) :: ts) [.ref h0, .int (nI y), .int (nI mm), .int (nI a), .int (nI k), .int (nI bd), .ref oa] [(h0, .inr (0, [.ref ac, .ref ay, .ref ap, .int (nI mk)])), (ac, .inl (cyI, 365, .inl (pz_ar ch))), (ay, .inl (cyI, 60, .inl (pz_ar fy))), (ap, .inl (cyI, 60, .inl (pz_ar fp))), (oa, .inl (cyL, 1, .inr (.inl og)))] (fun r => r = nI 3) := by
  refine pz_RX_ofH (cc := cL_fromCount) (maxL := 8) (ty := .int) (own := RL) (hh := [(0, 16, 19, 13), (0, 16, 23, 48), (0, 16, 27, 50)]) (by decide) rfl rfl (Nat.le_of_ble_eq_true rfl) ?_
  intro p e s m below meth c ls Q hx hb hml hown hts hK hP hD hS hl hth hnc htab hQ
  have hl : lv_has ls 8 [(0, .ref h0), (1, .int (nI y)), (2, .int (nI mm)), (3, .int (nI a)), (4, .int (nI k)), (5, .int (nI bd)), (6, .ref oa)] := hl
  refine lv_aload hx hb dL_fromCount_0 (lv_at hl 6 rfl) ?_
  refine lv_iconst (v := nI 0) hx hb dL_fromCount_2 (by decide) ?_
  refine lv_aload_n hx hb dL_fromCount_3 rfl (lv_at hl 0 rfl) ?_
  refine lv_iload_n hx hb dL_fromCount_4 rfl (lv_at hl 1 rfl) ?_
  refine lv_iload_n hx hb dL_fromCount_5 rfl (lv_at hl 2 rfl) ?_
  refine lv_iload_n hx hb dL_fromCount_6 rfl (lv_at hl 3 rfl) ?_
  refine lv_iload hx hb dL_fromCount_7 (lv_at hl 4 rfl) ?_
  refine lv_iload hx hb dL_fromCount_9 (lv_at hl 5 rfl) ?_
  refine pz_VXK (E := "java/lang/IllegalStateException") (rest := [.int (nI 0), .ref oa]) ⟨hx, hb, hml, hown, hts⟩ (k_X0_fromCount_x3 l hfl D h0 ac ay ap cyI ((cyL, .long) :: ts) mk ch fy fp y mm a k bd (by exact hy0) (by exact hy1) (by exact hy2) (by exact hy3) (by exact hy4) (by exact hy5) (by exact hy6) (by exact hy7) (by exact hy8)) (cwV 5 hts gL_fromCount_X0_fromCount rfl rfl rfl (by decide +kernel) ⟨Nat.le_of_ble_eq_true rfl, Nat.le_of_ble_eq_true rfl⟩) hK hP hD hS hth [0, 1, 2, 3] rfl rfl rfl 0 0 rfl rfl rfl hl.1 rfl (lv_room (Nat.le_of_ble_eq_true rfl)) dL_fromCount_11 ⟨Nat.le_of_ble_eq_true rfl, Nat.le_of_ble_eq_true rfl⟩ (fun ce q9 H locs hS hce hcv hcl => ?_)
  refine vx_catch (own := RL) (name := "java/lang/IllegalStateException") hown [⟨0, 16, 19, 13⟩, ⟨0, 16, 23, 48⟩] ⟨0, 16, 27, 50⟩ [] (by rw [htab]; rfl) (List.forall_mem_cons.mpr ⟨Or.inr ⟨by decide, "java/lang/IndexOutOfBoundsException", hts (.classLink RL 13 "java/lang/IndexOutOfBoundsException") (by decide +kernel), hnc.2.1⟩, (List.forall_mem_cons.mpr ⟨Or.inr ⟨by decide, "java/lang/IllegalArgumentException", hts (.classLink RL 48 "java/lang/IllegalArgumentException") (by decide +kernel), hnc.2.2⟩, (fun z hz => nomatch hz)⟩)⟩) rfl (by decide) (hts (.classLink RL 50 "java/lang/IllegalStateException") (by decide +kernel)) (va_Nw.use rfl (hth.2.2.2.1 "java/lang/IllegalStateException" (by decide +kernel))) hce hcv hcl ?_
  refine lv_astore (lv' := [(7, .ref q9), (0, .ref h0), (1, .int (nI y)), (2, .int (nI mm)), (3, .int (nI a)), (4, .int (nI k)), (5, .int (nI bd)), (6, .ref oa)]) hx hb dL_fromCount_27 hl (by decide) rfl (fun ls hl => ?_)
  refine lv_iconst (v := nI 3) hx hb dL_fromCount_29 (by decide) ?_
  exact hQ _ _ _ _ _ dL_fromCount_30 rfl rfl hS
set_option maxHeartbeats 4000000 in
set_option maxRecDepth 100000 in
theorem k_L_greatestCount (l : Launch) (D : va_G) (h0 ac ay ap oa : Nat) (cyI cyL : ClassId) (ts : List (ClassId × FieldType)) (mk : Nat) (ch fy fp : Nat → Nat) (og : Nat → Int64) (y mm a : Nat) (hy0 : 1 ≤ y) (hy1 : y ≤ 3000) (hy2 : 1 ≤ mm) (hy3 : mm ≤ 12) (hy4 : a ≤ 2) : pz_I l yL_greatestCount wsL_greatestCount ({ frames := 3, cells := 0, slots := 0, locals := 66 } : Room) D ((cyI, .int) :: (cyL, .long) :: ts) [.ref h0, .int (nI y), .int (nI mm), .int (nI a), .ref oa] [(h0, .inr (0, [.ref ac, .ref ay, .ref ap, .int (nI mk)])), (ac, .inl (cyI, 365, .inl (pz_ar ch))), (ay, .inl (cyI, 60, .inl (pz_ar fy))), (ap, .inl (cyI, 60, .inl (pz_ar fp))), (oa, .inl (cyL, 1, .inr (.inl og)))] (S := Int32) (fun r u => r = nI 0 ∧ u = nI (pm_gc mm a)) (fun u => [(h0, .inr (0, [.ref ac, .ref ay, .ref ap, .int (nI mk)])), (ac, .inl (cyI, 365, .inl (pz_ar ch))), (ay, .inl (cyI, 60, .inl (pz_ar fy))), (ap, .inl (cyI, 60, .inl (pz_ar fp))), (oa, .inl (cyL, 1, .inr (.inl (vp_updL og 0 u.toInt64))))]) := by
  refine pz_I_ofH (cc := cL_greatestCount) (maxL := 6) (ty := .int) (own := RL) (hh := [(0, 12, 15, 13), (0, 12, 19, 48)]) (by decide) rfl rfl (Nat.le_of_ble_eq_true rfl) ?_
  intro p e s m below meth c A ls Q hx hb hml hown hts hK hP hD hS hA hl hQ
  have hl : lv_has ls 6 [(0, .ref h0), (1, .int (nI y)), (2, .int (nI mm)), (3, .int (nI a)), (4, .ref oa)] := hl
  refine lv_aload hx hb dL_greatestCount_0 (lv_at hl 4 rfl) ?_
  refine lv_iconst (v := nI 0) hx hb dL_greatestCount_2 (by decide) ?_
  refine lv_aload_n hx hb dL_greatestCount_3 rfl (lv_at hl 0 rfl) ?_
  refine lv_iload_n hx hb dL_greatestCount_4 rfl (lv_at hl 1 rfl) ?_
  refine lv_iload_n hx hb dL_greatestCount_5 rfl (lv_at hl 2 rfl) ?_
  refine lv_iload_n hx hb dL_greatestCount_6 rfl (lv_at hl 3 rfl) ?_
  refine pz_VR (rest := [.int (nI 0), .ref oa]) ⟨hx, hb, hml, hown, hts⟩ (k_X0_greatestCount l D h0 ac ay ap cyI ((cyL, .long) :: ts) mk ch fy fp y mm a (by exact hy0) (by exact hy1) (by exact hy2) (by exact hy3) (by exact hy4)) (cwV 3 hts gL_greatestCount_X0_greatestCount rfl rfl rfl (by decide +kernel) ⟨Nat.le_of_ble_eq_true rfl, Nat.le_of_ble_eq_true rfl⟩) hK hP (hD.weaken (fun _ _ _ _ => trivial)) hS hA [0, 1, 2, 3] rfl rfl rfl 0 0 rfl rfl rfl hl.1 rfl (lv_room (Nat.le_of_ble_eq_true rfl)) dL_greatestCount_7 ⟨Nat.le_of_ble_eq_true rfl, Nat.le_of_ble_eq_true rfl⟩ (fun r H locs hr hP hS => ?_)
  obtain rfl : r = (nI (pm_gc mm a)) := hr
  refine lv_i2l (v := ((nI (pm_gc mm a))).toInt64) hx hb dL_greatestCount_10 rfl ?_
  refine pn_last hx hb hK hP hD hS 4 1 rfl rfl (by decide) (by decide) dL_greatestCount_11 (fun H locs hP hD hS => ?_)
  have hP : va_P D vwCl [(h0, .inr (0, [.ref ac, .ref ay, .ref ap, .int (nI mk)])), (ac, .inl (cyI, 365, .inl (pz_ar ch))), (ay, .inl (cyI, 60, .inl (pz_ar fy))), (ap, .inl (cyI, 60, .inl (pz_ar fp))), (oa, .inl (cyL, 1, .inr (.inl (vp_updL og 0 (((nI (pm_gc mm a))).toInt64)))))] H := hP
  have hD : va_D A [(h0, .inr (0, [.ref ac, .ref ay, .ref ap, .int (nI mk)])), (ac, .inl (cyI, 365, .inl (pz_ar ch))), (ay, .inl (cyI, 60, .inl (pz_ar fy))), (ap, .inl (cyI, 60, .inl (pz_ar fp))), (oa, .inl (cyL, 1, .inr (.inl (vp_updL og 0 (((nI (pm_gc mm a))).toInt64)))))] := hD
  refine lv_goto (tgt := 23) hx hb dL_greatestCount_12 (by decide) ?_
  refine lv_iconst (v := nI 0) hx hb dL_greatestCount_23 (by decide) ?_
  exact hQ _ _ _ _ _ (nI (pm_gc mm a)) dL_greatestCount_24 rfl (by exact ⟨rfl, rfl⟩) hP hD hS
set_option maxHeartbeats 4000000 in
set_option maxRecDepth 100000 in
theorem k_L_greatestCount_x (l : Launch) (hfl : l.stackTraces = false) (D : va_G) (h0 ac ay ap oa : Nat) (cyI cyL : ClassId) (ts : List (ClassId × FieldType)) (mk : Nat) (ch fy fp : Nat → Nat) (og : Nat → Int64) (x1 x2 x3 : Int32) (hy0 : ¬ (1 ≤ x1.toInt ∧ x1.toInt ≤ 3000 ∧ 1 ≤ x2.toInt ∧ x2.toInt ≤ 12)) : pz_RX l yL_greatestCount wsL_greatestCount ({ frames := 8, cells := 1, slots := 6, locals := 127 } : Room) D ((cyI, .int) :: (cyL, .long) :: ts) [.ref h0, .int x1, .int x2, .int x3, .ref oa] [(h0, .inr (0, [.ref ac, .ref ay, .ref ap, .int (nI mk)])), (ac, .inl (cyI, 365, .inl (pz_ar ch))), (ay, .inl (cyI, 60, .inl (pz_ar fy))), (ap, .inl (cyI, 60, .inl (pz_ar fp))), (oa, .inl (cyL, 1, .inr (.inl og)))] (fun r => r = nI 1) := by
  refine pz_RX_ofH (cc := cL_greatestCount) (maxL := 6) (ty := .int) (own := RL) (hh := [(0, 12, 15, 13), (0, 12, 19, 48)]) (by decide) rfl rfl (Nat.le_of_ble_eq_true rfl) ?_
  intro p e s m below meth c ls Q hx hb hml hown hts hK hP hD hS hl hth hnc htab hQ
  have hl : lv_has ls 6 [(0, .ref h0), (1, .int x1), (2, .int x2), (3, .int x3), (4, .ref oa)] := hl
  refine lv_aload hx hb dL_greatestCount_0 (lv_at hl 4 rfl) ?_
  refine lv_iconst (v := nI 0) hx hb dL_greatestCount_2 (by decide) ?_
  refine lv_aload_n hx hb dL_greatestCount_3 rfl (lv_at hl 0 rfl) ?_
  refine lv_iload_n hx hb dL_greatestCount_4 rfl (lv_at hl 1 rfl) ?_
  refine lv_iload_n hx hb dL_greatestCount_5 rfl (lv_at hl 2 rfl) ?_
  refine lv_iload_n hx hb dL_greatestCount_6 rfl (lv_at hl 3 rfl) ?_
  refine pz_VXK (E := "java/lang/IndexOutOfBoundsException") (rest := [.int (nI 0), .ref oa]) ⟨hx, hb, hml, hown, hts⟩ (k_X0_greatestCount_x l hfl D h0 ac ay ap cyI ((cyL, .long) :: ts) mk ch fy fp x1 x2 x3 (by exact hy0)) (cwV 3 hts gL_greatestCount_X0_greatestCount rfl rfl rfl (by decide +kernel) ⟨Nat.le_of_ble_eq_true rfl, Nat.le_of_ble_eq_true rfl⟩) hK hP hD hS hth [0, 1, 2, 3] rfl rfl rfl 0 0 rfl rfl rfl hl.1 rfl (lv_room (Nat.le_of_ble_eq_true rfl)) dL_greatestCount_7 ⟨Nat.le_of_ble_eq_true rfl, Nat.le_of_ble_eq_true rfl⟩ (fun ce q9 H locs hS hce hcv hcl => ?_)
  refine vx_catch (own := RL) (name := "java/lang/IndexOutOfBoundsException") hown [] ⟨0, 12, 15, 13⟩ [⟨0, 12, 19, 48⟩] (by rw [htab]; rfl) (fun z hz => nomatch hz) rfl (by decide) (hts (.classLink RL 13 "java/lang/IndexOutOfBoundsException") (by decide +kernel)) (va_Nw.use rfl (hth.2.2.2.1 "java/lang/IndexOutOfBoundsException" (by decide +kernel))) hce hcv hcl ?_
  refine lv_astore (lv' := [(5, .ref q9), (0, .ref h0), (1, .int x1), (2, .int x2), (3, .int x3), (4, .ref oa)]) hx hb dL_greatestCount_15 hl (by decide) rfl (fun ls hl => ?_)
  refine lv_iconst (v := nI 1) hx hb dL_greatestCount_17 (by decide) ?_
  exact hQ _ _ _ _ _ dL_greatestCount_18 rfl rfl hS
set_option maxHeartbeats 4000000 in
set_option maxRecDepth 100000 in
theorem k_L_greatestCount_x2 (l : Launch) (hfl : l.stackTraces = false) (D : va_G) (h0 ac ay ap oa : Nat) (cyI cyL : ClassId) (ts : List (ClassId × FieldType)) (mk : Nat) (ch fy fp : Nat → Nat) (og : Nat → Int64) (y mm : Nat) (x : Int32) (hy0 : 1 ≤ y) (hy1 : y ≤ 3000) (hy2 : 1 ≤ mm) (hy3 : mm ≤ 12) (hy4 : x.toInt < 0 ∨ 2 < x.toInt) : pz_RX l yL_greatestCount wsL_greatestCount ({ frames := 8, cells := 1, slots := 6, locals := 127 } : Room) D ((cyI, .int) :: (cyL, .long) :: ts) [.ref h0, .int (nI y), .int (nI mm), .int x, .ref oa] [(h0, .inr (0, [.ref ac, .ref ay, .ref ap, .int (nI mk)])), (ac, .inl (cyI, 365, .inl (pz_ar ch))), (ay, .inl (cyI, 60, .inl (pz_ar fy))), (ap, .inl (cyI, 60, .inl (pz_ar fp))), (oa, .inl (cyL, 1, .inr (.inl og)))] (fun r => r = nI 2) := by
  refine pz_RX_ofH (cc := cL_greatestCount) (maxL := 6) (ty := .int) (own := RL) (hh := [(0, 12, 15, 13), (0, 12, 19, 48)]) (by decide) rfl rfl (Nat.le_of_ble_eq_true rfl) ?_
  intro p e s m below meth c ls Q hx hb hml hown hts hK hP hD hS hl hth hnc htab hQ
  have hl : lv_has ls 6 [(0, .ref h0), (1, .int (nI y)), (2, .int (nI mm)), (3, .int x), (4, .ref oa)] := hl
  refine lv_aload hx hb dL_greatestCount_0 (lv_at hl 4 rfl) ?_
  refine lv_iconst (v := nI 0) hx hb dL_greatestCount_2 (by decide) ?_
  refine lv_aload_n hx hb dL_greatestCount_3 rfl (lv_at hl 0 rfl) ?_
  refine lv_iload_n hx hb dL_greatestCount_4 rfl (lv_at hl 1 rfl) ?_
  refine lv_iload_n hx hb dL_greatestCount_5 rfl (lv_at hl 2 rfl) ?_
  refine lv_iload_n hx hb dL_greatestCount_6 rfl (lv_at hl 3 rfl) ?_
  refine pz_VXK (E := "java/lang/IllegalArgumentException") (rest := [.int (nI 0), .ref oa]) ⟨hx, hb, hml, hown, hts⟩ (k_X0_greatestCount_x2 l hfl D h0 ac ay ap cyI ((cyL, .long) :: ts) mk ch fy fp y mm x (by exact hy0) (by exact hy1) (by exact hy2) (by exact hy3) (by exact hy4)) (cwV 3 hts gL_greatestCount_X0_greatestCount rfl rfl rfl (by decide +kernel) ⟨Nat.le_of_ble_eq_true rfl, Nat.le_of_ble_eq_true rfl⟩) hK hP hD hS hth [0, 1, 2, 3] rfl rfl rfl 0 0 rfl rfl rfl hl.1 rfl (lv_room (Nat.le_of_ble_eq_true rfl)) dL_greatestCount_7 ⟨Nat.le_of_ble_eq_true rfl, Nat.le_of_ble_eq_true rfl⟩ (fun ce q9 H locs hS hce hcv hcl => ?_)
  refine vx_catch (own := RL) (name := "java/lang/IllegalArgumentException") hown [⟨0, 12, 15, 13⟩] ⟨0, 12, 19, 48⟩ [] (by rw [htab]; rfl) (List.forall_mem_cons.mpr ⟨Or.inr ⟨by decide, "java/lang/IndexOutOfBoundsException", hts (.classLink RL 13 "java/lang/IndexOutOfBoundsException") (by decide +kernel), hnc.1⟩, (fun z hz => nomatch hz)⟩) rfl (by decide) (hts (.classLink RL 48 "java/lang/IllegalArgumentException") (by decide +kernel)) (va_Nw.use rfl (hth.2.2.2.1 "java/lang/IllegalArgumentException" (by decide +kernel))) hce hcv hcl ?_
  refine lv_astore (lv' := [(5, .ref q9), (0, .ref h0), (1, .int (nI y)), (2, .int (nI mm)), (3, .int x), (4, .ref oa)]) hx hb dL_greatestCount_19 hl (by decide) rfl (fun ls hl => ?_)
  refine lv_iconst (v := nI 2) hx hb dL_greatestCount_21 (by decide) ?_
  exact hQ _ _ _ _ _ dL_greatestCount_22 rfl rfl hS
set_option maxHeartbeats 4000000 in
set_option maxRecDepth 100000 in
theorem k_L_lawNumber (l : Launch) (D : va_G) (h0 ac ay ap oa : Nat) (cyI cyL : ClassId) (ts : List (ClassId × FieldType)) (mk : Nat) (ch fy fp : Nat → Nat) (og : Nat → Int64) (n : Nat) (hy0 : n < 1095750) : pz_I l yL_lawNumber wsL_lawNumber ({ frames := 3, cells := 0, slots := 0, locals := 61 } : Room) D ((cyI, .int) :: (cyL, .long) :: ts) [.ref h0, .int (nI n), .ref oa] [(h0, .inr (0, [.ref ac, .ref ay, .ref ap, .int (nI mk)])), (ac, .inl (cyI, 365, .inl (pz_ar ch))), (ay, .inl (cyI, 60, .inl (pz_ar fy))), (ap, .inl (cyI, 60, .inl (pz_ar fp))), (oa, .inl (cyL, 1, .inr (.inl og)))] (S := Int32) (fun r u => r = nI 0 ∧ u = nI (pm_lw n)) (fun u => [(h0, .inr (0, [.ref ac, .ref ay, .ref ap, .int (nI mk)])), (ac, .inl (cyI, 365, .inl (pz_ar ch))), (ay, .inl (cyI, 60, .inl (pz_ar fy))), (ap, .inl (cyI, 60, .inl (pz_ar fp))), (oa, .inl (cyL, 1, .inr (.inl (vp_updL og 0 u.toInt64))))]) := by
  refine pz_I_ofH (cc := cL_lawNumber) (maxL := 4) (ty := .int) (own := RL) (hh := [(0, 9, 12, 13)]) (by decide) rfl rfl (Nat.le_of_ble_eq_true rfl) ?_
  intro p e s m below meth c A ls Q hx hb hml hown hts hK hP hD hS hA hl hQ
  have hl : lv_has ls 4 [(0, .ref h0), (1, .int (nI n)), (2, .ref oa)] := hl
  refine lv_aload_n hx hb dL_lawNumber_0 rfl (lv_at hl 2 rfl) ?_
  refine lv_iconst (v := nI 0) hx hb dL_lawNumber_1 (by decide) ?_
  refine lv_aload_n hx hb dL_lawNumber_2 rfl (lv_at hl 0 rfl) ?_
  refine lv_iload_n hx hb dL_lawNumber_3 rfl (lv_at hl 1 rfl) ?_
  refine pz_VR (rest := [.int (nI 0), .ref oa]) ⟨hx, hb, hml, hown, hts⟩ (k_X0_lawNumber l D h0 ac ay ap cyI ((cyL, .long) :: ts) mk ch fy fp n (by exact hy0)) (cwV 1 hts gL_lawNumber_X0_lawNumber rfl rfl rfl (by decide +kernel) ⟨Nat.le_of_ble_eq_true rfl, Nat.le_of_ble_eq_true rfl⟩) hK hP (hD.weaken (fun _ _ _ _ => trivial)) hS hA [0, 1, 2, 3] rfl rfl rfl 0 0 rfl rfl rfl hl.1 rfl (lv_room (Nat.le_of_ble_eq_true rfl)) dL_lawNumber_4 ⟨Nat.le_of_ble_eq_true rfl, Nat.le_of_ble_eq_true rfl⟩ (fun r H locs hr hP hS => ?_)
  obtain rfl : r = (nI (pm_lw n)) := hr
  refine lv_i2l (v := ((nI (pm_lw n))).toInt64) hx hb dL_lawNumber_7 rfl ?_
  refine pn_last hx hb hK hP hD hS 4 1 rfl rfl (by decide) (by decide) dL_lawNumber_8 (fun H locs hP hD hS => ?_)
  have hP : va_P D vwCl [(h0, .inr (0, [.ref ac, .ref ay, .ref ap, .int (nI mk)])), (ac, .inl (cyI, 365, .inl (pz_ar ch))), (ay, .inl (cyI, 60, .inl (pz_ar fy))), (ap, .inl (cyI, 60, .inl (pz_ar fp))), (oa, .inl (cyL, 1, .inr (.inl (vp_updL og 0 (((nI (pm_lw n))).toInt64)))))] H := hP
  have hD : va_D A [(h0, .inr (0, [.ref ac, .ref ay, .ref ap, .int (nI mk)])), (ac, .inl (cyI, 365, .inl (pz_ar ch))), (ay, .inl (cyI, 60, .inl (pz_ar fy))), (ap, .inl (cyI, 60, .inl (pz_ar fp))), (oa, .inl (cyL, 1, .inr (.inl (vp_updL og 0 (((nI (pm_lw n))).toInt64)))))] := hD
  refine lv_goto (tgt := 15) hx hb dL_lawNumber_9 (by decide) ?_
  refine lv_iconst (v := nI 0) hx hb dL_lawNumber_15 (by decide) ?_
  exact hQ _ _ _ _ _ (nI (pm_lw n)) dL_lawNumber_16 rfl (by exact ⟨rfl, rfl⟩) hP hD hS
set_option maxHeartbeats 4000000 in
set_option maxRecDepth 100000 in
theorem k_L_lawNumber_x (l : Launch) (hfl : l.stackTraces = false) (D : va_G) (h0 ac ay ap oa : Nat) (cyI cyL : ClassId) (ts : List (ClassId × FieldType)) (mk : Nat) (ch fy fp : Nat → Nat) (og : Nat → Int64) (x : Int32) (hy0 : x.toInt < 0 ∨ 1095749 < x.toInt) : pz_RX l yL_lawNumber wsL_lawNumber ({ frames := 8, cells := 1, slots := 6, locals := 125 } : Room) D ((cyI, .int) :: (cyL, .long) :: ts) [.ref h0, .int x, .ref oa] [(h0, .inr (0, [.ref ac, .ref ay, .ref ap, .int (nI mk)])), (ac, .inl (cyI, 365, .inl (pz_ar ch))), (ay, .inl (cyI, 60, .inl (pz_ar fy))), (ap, .inl (cyI, 60, .inl (pz_ar fp))), (oa, .inl (cyL, 1, .inr (.inl og)))] (fun r => r = nI 1) := by
  refine pz_RX_ofH (cc := cL_lawNumber) (maxL := 4) (ty := .int) (own := RL) (hh := [(0, 9, 12, 13)]) (by decide) rfl rfl (Nat.le_of_ble_eq_true rfl) ?_
  intro p e s m below meth c ls Q hx hb hml hown hts hK hP hD hS hl hth hnc htab hQ
  have hl : lv_has ls 4 [(0, .ref h0), (1, .int x), (2, .ref oa)] := hl
  refine lv_aload_n hx hb dL_lawNumber_0 rfl (lv_at hl 2 rfl) ?_
  refine lv_iconst (v := nI 0) hx hb dL_lawNumber_1 (by decide) ?_
  refine lv_aload_n hx hb dL_lawNumber_2 rfl (lv_at hl 0 rfl) ?_
  refine lv_iload_n hx hb dL_lawNumber_3 rfl (lv_at hl 1 rfl) ?_
  refine pz_VXK (E := "java/lang/IndexOutOfBoundsException") (rest := [.int (nI 0), .ref oa]) ⟨hx, hb, hml, hown, hts⟩ (k_X0_lawNumber_x l hfl D h0 ac ay ap cyI ((cyL, .long) :: ts) mk ch fy fp x (by exact hy0)) (cwV 1 hts gL_lawNumber_X0_lawNumber rfl rfl rfl (by decide +kernel) ⟨Nat.le_of_ble_eq_true rfl, Nat.le_of_ble_eq_true rfl⟩) hK hP hD hS hth [0, 1, 2, 3] rfl rfl rfl 0 0 rfl rfl rfl hl.1 rfl (lv_room (Nat.le_of_ble_eq_true rfl)) dL_lawNumber_4 ⟨Nat.le_of_ble_eq_true rfl, Nat.le_of_ble_eq_true rfl⟩ (fun ce q9 H locs hS hce hcv hcl => ?_)
  refine vx_catch (own := RL) (name := "java/lang/IndexOutOfBoundsException") hown [] ⟨0, 9, 12, 13⟩ [] (by rw [htab]; rfl) (fun z hz => nomatch hz) rfl (by decide) (hts (.classLink RL 13 "java/lang/IndexOutOfBoundsException") (by decide +kernel)) (va_Nw.use rfl (hth.2.2.2.1 "java/lang/IndexOutOfBoundsException" (by decide +kernel))) hce hcv hcl ?_
  refine lv_astore_n (lv' := [(3, .ref q9), (0, .ref h0), (1, .int x), (2, .ref oa)]) hx hb dL_lawNumber_12 rfl hl (by decide) rfl (fun ls hl => ?_)
  refine lv_iconst (v := nI 1) hx hb dL_lawNumber_13 (by decide) ?_
  exact hQ _ _ _ _ _ dL_lawNumber_14 rfl rfl hS
set_option maxHeartbeats 4000000 in
set_option maxRecDepth 100000 in
theorem k_L_termEnd_x (l : Launch) (hfl : l.stackTraces = false) (D : va_G) (h0 ac ay ap oa : Nat) (cyI cyL : ClassId) (ts : List (ClassId × FieldType)) (mk : Nat) (ch fy fp : Nat → Nat) (og : Nat → Int64) (x x2 : Int32) (hy0 : x.toInt < 0 ∨ 1095749 < x.toInt) : pz_RX l yL_termEnd wsL_termEnd ({ frames := 8, cells := 1, slots := 6, locals := 127 } : Room) D ((cyI, .int) :: (cyL, .long) :: ts) [.ref h0, .int x, .int x2, .ref oa] [(h0, .inr (0, [.ref ac, .ref ay, .ref ap, .int (nI mk)])), (ac, .inl (cyI, 365, .inl (pz_ar ch))), (ay, .inl (cyI, 60, .inl (pz_ar fy))), (ap, .inl (cyI, 60, .inl (pz_ar fp))), (oa, .inl (cyL, 1, .inr (.inl og)))] (fun r => r = nI 1) := by
  refine pz_RX_ofH (cc := cL_termEnd) (maxL := 5) (ty := .int) (own := RL) (hh := [(0, 10, 13, 13), (0, 10, 17, 48), (0, 10, 21, 50)]) (by decide) rfl rfl (Nat.le_of_ble_eq_true rfl) ?_
  intro p e s m below meth c ls Q hx hb hml hown hts hK hP hD hS hl hth hnc htab hQ
  have hl : lv_has ls 5 [(0, .ref h0), (1, .int x), (2, .int x2), (3, .ref oa)] := hl
  refine lv_aload_n hx hb dL_termEnd_0 rfl (lv_at hl 3 rfl) ?_
  refine lv_iconst (v := nI 0) hx hb dL_termEnd_1 (by decide) ?_
  refine lv_aload_n hx hb dL_termEnd_2 rfl (lv_at hl 0 rfl) ?_
  refine lv_iload_n hx hb dL_termEnd_3 rfl (lv_at hl 1 rfl) ?_
  refine lv_iload_n hx hb dL_termEnd_4 rfl (lv_at hl 2 rfl) ?_
  refine pz_VXK (E := "java/lang/IndexOutOfBoundsException") (rest := [.int (nI 0), .ref oa]) ⟨hx, hb, hml, hown, hts⟩ (k_X0_termEnd_x l hfl D h0 ac ay ap cyI ((cyL, .long) :: ts) mk ch fy fp x x2 (by exact hy0)) (cwV 2 hts gL_termEnd_X0_termEnd rfl rfl rfl (by decide +kernel) ⟨Nat.le_of_ble_eq_true rfl, Nat.le_of_ble_eq_true rfl⟩) hK hP hD hS hth [0, 1, 2, 3] rfl rfl rfl 0 0 rfl rfl rfl hl.1 rfl (lv_room (Nat.le_of_ble_eq_true rfl)) dL_termEnd_5 ⟨Nat.le_of_ble_eq_true rfl, Nat.le_of_ble_eq_true rfl⟩ (fun ce q9 H locs hS hce hcv hcl => ?_)
  refine vx_catch (own := RL) (name := "java/lang/IndexOutOfBoundsException") hown [] ⟨0, 10, 13, 13⟩ [⟨0, 10, 17, 48⟩, ⟨0, 10, 21, 50⟩] (by rw [htab]; rfl) (fun z hz => nomatch hz) rfl (by decide) (hts (.classLink RL 13 "java/lang/IndexOutOfBoundsException") (by decide +kernel)) (va_Nw.use rfl (hth.2.2.2.1 "java/lang/IndexOutOfBoundsException" (by decide +kernel))) hce hcv hcl ?_
  refine lv_astore (lv' := [(4, .ref q9), (0, .ref h0), (1, .int x), (2, .int x2), (3, .ref oa)]) hx hb dL_termEnd_13 hl (by decide) rfl (fun ls hl => ?_)
  refine lv_iconst (v := nI 1) hx hb dL_termEnd_15 (by decide) ?_
  exact hQ _ _ _ _ _ dL_termEnd_16 rfl rfl hS
set_option maxHeartbeats 4000000 in
set_option maxRecDepth 100000 in
theorem k_L_termEnd_x2 (l : Launch) (hfl : l.stackTraces = false) (D : va_G) (h0 ac ay ap oa : Nat) (cyI cyL : ClassId) (ts : List (ClassId × FieldType)) (mk : Nat) (ch fy fp : Nat → Nat) (og : Nat → Int64) (n : Nat) (x : Int32) (hy0 : n < 1095750) (hy1 : x.toInt < 0 ∨ 100000 < x.toInt) : pz_RX l yL_termEnd wsL_termEnd ({ frames := 8, cells := 1, slots := 6, locals := 127 } : Room) D ((cyI, .int) :: (cyL, .long) :: ts) [.ref h0, .int (nI n), .int x, .ref oa] [(h0, .inr (0, [.ref ac, .ref ay, .ref ap, .int (nI mk)])), (ac, .inl (cyI, 365, .inl (pz_ar ch))), (ay, .inl (cyI, 60, .inl (pz_ar fy))), (ap, .inl (cyI, 60, .inl (pz_ar fp))), (oa, .inl (cyL, 1, .inr (.inl og)))] (fun r => r = nI 2) := by
  refine pz_RX_ofH (cc := cL_termEnd) (maxL := 5) (ty := .int) (own := RL) (hh := [(0, 10, 13, 13), (0, 10, 17, 48), (0, 10, 21, 50)]) (by decide) rfl rfl (Nat.le_of_ble_eq_true rfl) ?_
  intro p e s m below meth c ls Q hx hb hml hown hts hK hP hD hS hl hth hnc htab hQ
  have hl : lv_has ls 5 [(0, .ref h0), (1, .int (nI n)), (2, .int x), (3, .ref oa)] := hl
  refine lv_aload_n hx hb dL_termEnd_0 rfl (lv_at hl 3 rfl) ?_
  refine lv_iconst (v := nI 0) hx hb dL_termEnd_1 (by decide) ?_
  refine lv_aload_n hx hb dL_termEnd_2 rfl (lv_at hl 0 rfl) ?_
  refine lv_iload_n hx hb dL_termEnd_3 rfl (lv_at hl 1 rfl) ?_
  refine lv_iload_n hx hb dL_termEnd_4 rfl (lv_at hl 2 rfl) ?_
  refine pz_VXK (E := "java/lang/IllegalArgumentException") (rest := [.int (nI 0), .ref oa]) ⟨hx, hb, hml, hown, hts⟩ (k_X0_termEnd_x2 l hfl D h0 ac ay ap cyI ((cyL, .long) :: ts) mk ch fy fp n x (by exact hy0) (by exact hy1)) (cwV 2 hts gL_termEnd_X0_termEnd rfl rfl rfl (by decide +kernel) ⟨Nat.le_of_ble_eq_true rfl, Nat.le_of_ble_eq_true rfl⟩) hK hP hD hS hth [0, 1, 2, 3] rfl rfl rfl 0 0 rfl rfl rfl hl.1 rfl (lv_room (Nat.le_of_ble_eq_true rfl)) dL_termEnd_5 ⟨Nat.le_of_ble_eq_true rfl, Nat.le_of_ble_eq_true rfl⟩ (fun ce q9 H locs hS hce hcv hcl => ?_)
  refine vx_catch (own := RL) (name := "java/lang/IllegalArgumentException") hown [⟨0, 10, 13, 13⟩] ⟨0, 10, 17, 48⟩ [⟨0, 10, 21, 50⟩] (by rw [htab]; rfl) (List.forall_mem_cons.mpr ⟨Or.inr ⟨by decide, "java/lang/IndexOutOfBoundsException", hts (.classLink RL 13 "java/lang/IndexOutOfBoundsException") (by decide +kernel), hnc.1⟩, (fun z hz => nomatch hz)⟩) rfl (by decide) (hts (.classLink RL 48 "java/lang/IllegalArgumentException") (by decide +kernel)) (va_Nw.use rfl (hth.2.2.2.1 "java/lang/IllegalArgumentException" (by decide +kernel))) hce hcv hcl ?_
  refine lv_astore (lv' := [(4, .ref q9), (0, .ref h0), (1, .int (nI n)), (2, .int x), (3, .ref oa)]) hx hb dL_termEnd_17 hl (by decide) rfl (fun ls hl => ?_)
  refine lv_iconst (v := nI 2) hx hb dL_termEnd_19 (by decide) ?_
  exact hQ _ _ _ _ _ dL_termEnd_20 rfl rfl hS
set_option maxHeartbeats 4000000 in
set_option maxRecDepth 100000 in
theorem k_L_termEnd (l : Launch) (D : va_G) (h0 ac ay ap oa : Nat) (cyI cyL : ClassId) (ts : List (ClassId × FieldType)) (mk : Nat) (ch fy fp : Nat → Nat) (og : Nat → Int64) (n dys : Nat) (hy0 : n < 1095750) (hy1 : dys ≤ 100000) (hy2 : pm_lw n + dys ≤ 1094999) : pz_I l yL_termEnd wsL_termEnd ({ frames := 3, cells := 0, slots := 0, locals := 65 } : Room) D ((cyI, .int) :: (cyL, .long) :: ts) [.ref h0, .int (nI n), .int (nI dys), .ref oa] [(h0, .inr (0, [.ref ac, .ref ay, .ref ap, .int (nI mk)])), (ac, .inl (cyI, 365, .inl (pz_ar ch))), (ay, .inl (cyI, 60, .inl (pz_ar fy))), (ap, .inl (cyI, 60, .inl (pz_ar fp))), (oa, .inl (cyL, 1, .inr (.inl og)))] (S := Int32) (fun r u => r = nI 0 ∧ u = nI (pm_ld ((pm_lw n + dys) / 365 + 1) ((pm_lw n + dys) % 365 + 1))) (fun u => [(h0, .inr (0, [.ref ac, .ref ay, .ref ap, .int (nI mk)])), (ac, .inl (cyI, 365, .inl (pz_ar ch))), (ay, .inl (cyI, 60, .inl (pz_ar fy))), (ap, .inl (cyI, 60, .inl (pz_ar fp))), (oa, .inl (cyL, 1, .inr (.inl (vp_updL og 0 u.toInt64))))]) := by
  refine pz_I_ofH (cc := cL_termEnd) (maxL := 5) (ty := .int) (own := RL) (hh := [(0, 10, 13, 13), (0, 10, 17, 48), (0, 10, 21, 50)]) (by decide) rfl rfl (Nat.le_of_ble_eq_true rfl) ?_
  intro p e s m below meth c A ls Q hx hb hml hown hts hK hP hD hS hA hl hQ
  have hl : lv_has ls 5 [(0, .ref h0), (1, .int (nI n)), (2, .int (nI dys)), (3, .ref oa)] := hl
  refine lv_aload_n hx hb dL_termEnd_0 rfl (lv_at hl 3 rfl) ?_
  refine lv_iconst (v := nI 0) hx hb dL_termEnd_1 (by decide) ?_
  refine lv_aload_n hx hb dL_termEnd_2 rfl (lv_at hl 0 rfl) ?_
  refine lv_iload_n hx hb dL_termEnd_3 rfl (lv_at hl 1 rfl) ?_
  refine lv_iload_n hx hb dL_termEnd_4 rfl (lv_at hl 2 rfl) ?_
  refine pz_VR (rest := [.int (nI 0), .ref oa]) ⟨hx, hb, hml, hown, hts⟩ (k_X0_termEnd l D h0 ac ay ap cyI ((cyL, .long) :: ts) mk ch fy fp n dys (by exact hy0) (by exact hy1) (by exact hy2)) (cwV 2 hts gL_termEnd_X0_termEnd rfl rfl rfl (by decide +kernel) ⟨Nat.le_of_ble_eq_true rfl, Nat.le_of_ble_eq_true rfl⟩) hK hP (hD.weaken (fun _ _ _ _ => trivial)) hS hA [0, 1, 2, 3] rfl rfl rfl 0 0 rfl rfl rfl hl.1 rfl (lv_room (Nat.le_of_ble_eq_true rfl)) dL_termEnd_5 ⟨Nat.le_of_ble_eq_true rfl, Nat.le_of_ble_eq_true rfl⟩ (fun r H locs hr hP hS => ?_)
  obtain rfl : r = (nI (pm_ld ((pm_lw n + dys) / 365 + 1) ((pm_lw n + dys) % 365 + 1))) := hr
  refine lv_i2l (v := ((nI (pm_ld ((pm_lw n + dys) / 365 + 1) ((pm_lw n + dys) % 365 + 1)))).toInt64) hx hb dL_termEnd_8 rfl ?_
  refine pn_last hx hb hK hP hD hS 4 1 rfl rfl (by decide) (by decide) dL_termEnd_9 (fun H locs hP hD hS => ?_)
  have hP : va_P D vwCl [(h0, .inr (0, [.ref ac, .ref ay, .ref ap, .int (nI mk)])), (ac, .inl (cyI, 365, .inl (pz_ar ch))), (ay, .inl (cyI, 60, .inl (pz_ar fy))), (ap, .inl (cyI, 60, .inl (pz_ar fp))), (oa, .inl (cyL, 1, .inr (.inl (vp_updL og 0 (((nI (pm_ld ((pm_lw n + dys) / 365 + 1) ((pm_lw n + dys) % 365 + 1)))).toInt64)))))] H := hP
  have hD : va_D A [(h0, .inr (0, [.ref ac, .ref ay, .ref ap, .int (nI mk)])), (ac, .inl (cyI, 365, .inl (pz_ar ch))), (ay, .inl (cyI, 60, .inl (pz_ar fy))), (ap, .inl (cyI, 60, .inl (pz_ar fp))), (oa, .inl (cyL, 1, .inr (.inl (vp_updL og 0 (((nI (pm_ld ((pm_lw n + dys) / 365 + 1) ((pm_lw n + dys) % 365 + 1)))).toInt64)))))] := hD
  refine lv_goto (tgt := 25) hx hb dL_termEnd_10 (by decide) ?_
  refine lv_iconst (v := nI 0) hx hb dL_termEnd_25 (by decide) ?_
  exact hQ _ _ _ _ _ (nI (pm_ld ((pm_lw n + dys) / 365 + 1) ((pm_lw n + dys) % 365 + 1))) dL_termEnd_26 rfl (by exact ⟨rfl, rfl⟩) hP hD hS
set_option maxHeartbeats 4000000 in
set_option maxRecDepth 100000 in
theorem k_L_termEnd_x3 (l : Launch) (hfl : l.stackTraces = false) (D : va_G) (h0 ac ay ap oa : Nat) (cyI cyL : ClassId) (ts : List (ClassId × FieldType)) (mk : Nat) (ch fy fp : Nat → Nat) (og : Nat → Int64) (n dys : Nat) (hy0 : n < 1095750) (hy1 : dys ≤ 100000) (hy2 : 1094999 < pm_lw n + dys) : pz_RX l yL_termEnd wsL_termEnd ({ frames := 8, cells := 1, slots := 6, locals := 127 } : Room) D ((cyI, .int) :: (cyL, .long) :: ts) [.ref h0, .int (nI n), .int (nI dys), .ref oa] [(h0, .inr (0, [.ref ac, .ref ay, .ref ap, .int (nI mk)])), (ac, .inl (cyI, 365, .inl (pz_ar ch))), (ay, .inl (cyI, 60, .inl (pz_ar fy))), (ap, .inl (cyI, 60, .inl (pz_ar fp))), (oa, .inl (cyL, 1, .inr (.inl og)))] (fun r => r = nI 3) := by
  refine pz_RX_ofH (cc := cL_termEnd) (maxL := 5) (ty := .int) (own := RL) (hh := [(0, 10, 13, 13), (0, 10, 17, 48), (0, 10, 21, 50)]) (by decide) rfl rfl (Nat.le_of_ble_eq_true rfl) ?_
  intro p e s m below meth c ls Q hx hb hml hown hts hK hP hD hS hl hth hnc htab hQ
  have hl : lv_has ls 5 [(0, .ref h0), (1, .int (nI n)), (2, .int (nI dys)), (3, .ref oa)] := hl
  refine lv_aload_n hx hb dL_termEnd_0 rfl (lv_at hl 3 rfl) ?_
  refine lv_iconst (v := nI 0) hx hb dL_termEnd_1 (by decide) ?_
  refine lv_aload_n hx hb dL_termEnd_2 rfl (lv_at hl 0 rfl) ?_
  refine lv_iload_n hx hb dL_termEnd_3 rfl (lv_at hl 1 rfl) ?_
  refine lv_iload_n hx hb dL_termEnd_4 rfl (lv_at hl 2 rfl) ?_
  refine pz_VXK (E := "java/lang/IllegalStateException") (rest := [.int (nI 0), .ref oa]) ⟨hx, hb, hml, hown, hts⟩ (k_X0_termEnd_x3 l hfl D h0 ac ay ap cyI ((cyL, .long) :: ts) mk ch fy fp n dys (by exact hy0) (by exact hy1) (by exact hy2)) (cwV 2 hts gL_termEnd_X0_termEnd rfl rfl rfl (by decide +kernel) ⟨Nat.le_of_ble_eq_true rfl, Nat.le_of_ble_eq_true rfl⟩) hK hP hD hS hth [0, 1, 2, 3] rfl rfl rfl 0 0 rfl rfl rfl hl.1 rfl (lv_room (Nat.le_of_ble_eq_true rfl)) dL_termEnd_5 ⟨Nat.le_of_ble_eq_true rfl, Nat.le_of_ble_eq_true rfl⟩ (fun ce q9 H locs hS hce hcv hcl => ?_)
  refine vx_catch (own := RL) (name := "java/lang/IllegalStateException") hown [⟨0, 10, 13, 13⟩, ⟨0, 10, 17, 48⟩] ⟨0, 10, 21, 50⟩ [] (by rw [htab]; rfl) (List.forall_mem_cons.mpr ⟨Or.inr ⟨by decide, "java/lang/IndexOutOfBoundsException", hts (.classLink RL 13 "java/lang/IndexOutOfBoundsException") (by decide +kernel), hnc.2.1⟩, (List.forall_mem_cons.mpr ⟨Or.inr ⟨by decide, "java/lang/IllegalArgumentException", hts (.classLink RL 48 "java/lang/IllegalArgumentException") (by decide +kernel), hnc.2.2⟩, (fun z hz => nomatch hz)⟩)⟩) rfl (by decide) (hts (.classLink RL 50 "java/lang/IllegalStateException") (by decide +kernel)) (va_Nw.use rfl (hth.2.2.2.1 "java/lang/IllegalStateException" (by decide +kernel))) hce hcv hcl ?_
  refine lv_astore (lv' := [(4, .ref q9), (0, .ref h0), (1, .int (nI n)), (2, .int (nI dys)), (3, .ref oa)]) hx hb dL_termEnd_21 hl (by decide) rfl (fun ls hl => ?_)
  refine lv_iconst (v := nI 3) hx hb dL_termEnd_23 (by decide) ?_
  exact hQ _ _ _ _ _ dL_termEnd_24 rfl rfl hS
set_option maxHeartbeats 4000000 in
set_option maxRecDepth 100000 in
theorem k_L_lawDays_x (l : Launch) (hfl : l.stackTraces = false) (D : va_G) (h0 ac ay ap oa : Nat) (cyI cyL : ClassId) (ts : List (ClassId × FieldType)) (mk : Nat) (ch fy fp : Nat → Nat) (og : Nat → Int64) (x1 x2 : Int32) (hy0 : ¬ (0 ≤ x1.toInt ∧ x1.toInt ≤ 1095749 ∧ 0 ≤ x2.toInt ∧ x2.toInt ≤ 1095749)) : pz_RX l yL_lawDays wsL_lawDays ({ frames := 8, cells := 1, slots := 6, locals := 126 } : Room) D ((cyI, .int) :: (cyL, .long) :: ts) [.ref h0, .int x1, .int x2, .ref oa] [(h0, .inr (0, [.ref ac, .ref ay, .ref ap, .int (nI mk)])), (ac, .inl (cyI, 365, .inl (pz_ar ch))), (ay, .inl (cyI, 60, .inl (pz_ar fy))), (ap, .inl (cyI, 60, .inl (pz_ar fp))), (oa, .inl (cyL, 1, .inr (.inl og)))] (fun r => r = nI 1) := by
  refine pz_RX_ofH (cc := cL_lawDays) (maxL := 5) (ty := .int) (own := RL) (hh := [(0, 10, 13, 13)]) (by decide) rfl rfl (Nat.le_of_ble_eq_true rfl) ?_
  intro p e s m below meth c ls Q hx hb hml hown hts hK hP hD hS hl hth hnc htab hQ
  have hl : lv_has ls 5 [(0, .ref h0), (1, .int x1), (2, .int x2), (3, .ref oa)] := hl
  refine lv_aload_n hx hb dL_lawDays_0 rfl (lv_at hl 3 rfl) ?_
  refine lv_iconst (v := nI 0) hx hb dL_lawDays_1 (by decide) ?_
  refine lv_aload_n hx hb dL_lawDays_2 rfl (lv_at hl 0 rfl) ?_
  refine lv_iload_n hx hb dL_lawDays_3 rfl (lv_at hl 1 rfl) ?_
  refine lv_iload_n hx hb dL_lawDays_4 rfl (lv_at hl 2 rfl) ?_
  refine pz_VXK (E := "java/lang/IndexOutOfBoundsException") (rest := [.int (nI 0), .ref oa]) ⟨hx, hb, hml, hown, hts⟩ (k_X0_lawDays_x l hfl D h0 ac ay ap cyI ((cyL, .long) :: ts) mk ch fy fp x1 x2 (by exact hy0)) (cwV 2 hts gL_lawDays_X0_lawDays rfl rfl rfl (by decide +kernel) ⟨Nat.le_of_ble_eq_true rfl, Nat.le_of_ble_eq_true rfl⟩) hK hP hD hS hth [0, 1, 2, 3] rfl rfl rfl 0 0 rfl rfl rfl hl.1 rfl (lv_room (Nat.le_of_ble_eq_true rfl)) dL_lawDays_5 ⟨Nat.le_of_ble_eq_true rfl, Nat.le_of_ble_eq_true rfl⟩ (fun ce q9 H locs hS hce hcv hcl => ?_)
  refine vx_catch (own := RL) (name := "java/lang/IndexOutOfBoundsException") hown [] ⟨0, 10, 13, 13⟩ [] (by rw [htab]; rfl) (fun z hz => nomatch hz) rfl (by decide) (hts (.classLink RL 13 "java/lang/IndexOutOfBoundsException") (by decide +kernel)) (va_Nw.use rfl (hth.2.2.2.1 "java/lang/IndexOutOfBoundsException" (by decide +kernel))) hce hcv hcl ?_
  refine lv_astore (lv' := [(4, .ref q9), (0, .ref h0), (1, .int x1), (2, .int x2), (3, .ref oa)]) hx hb dL_lawDays_13 hl (by decide) rfl (fun ls hl => ?_)
  refine lv_iconst (v := nI 1) hx hb dL_lawDays_15 (by decide) ?_
  exact hQ _ _ _ _ _ dL_lawDays_16 rfl rfl hS
set_option maxHeartbeats 4000000 in
set_option maxRecDepth 100000 in
theorem k_L_lawDays (l : Launch) (D : va_G) (h0 ac ay ap oa : Nat) (cyI cyL : ClassId) (ts : List (ClassId × FieldType)) (mk : Nat) (ch fy fp : Nat → Nat) (og : Nat → Int64) (n z : Nat) (hy0 : n < 1095750) (hy1 : z < 1095750) : pz_I l yL_lawDays wsL_lawDays ({ frames := 3, cells := 0, slots := 0, locals := 62 } : Room) D ((cyI, .int) :: (cyL, .long) :: ts) [.ref h0, .int (nI n), .int (nI z), .ref oa] [(h0, .inr (0, [.ref ac, .ref ay, .ref ap, .int (nI mk)])), (ac, .inl (cyI, 365, .inl (pz_ar ch))), (ay, .inl (cyI, 60, .inl (pz_ar fy))), (ap, .inl (cyI, 60, .inl (pz_ar fp))), (oa, .inl (cyL, 1, .inr (.inl og)))] (S := Int32) (fun r u => r = nI 0 ∧ u = nI (pm_lw z) - nI (pm_lw n)) (fun u => [(h0, .inr (0, [.ref ac, .ref ay, .ref ap, .int (nI mk)])), (ac, .inl (cyI, 365, .inl (pz_ar ch))), (ay, .inl (cyI, 60, .inl (pz_ar fy))), (ap, .inl (cyI, 60, .inl (pz_ar fp))), (oa, .inl (cyL, 1, .inr (.inl (vp_updL og 0 u.toInt64))))]) := by
  refine pz_I_ofH (cc := cL_lawDays) (maxL := 5) (ty := .int) (own := RL) (hh := [(0, 10, 13, 13)]) (by decide) rfl rfl (Nat.le_of_ble_eq_true rfl) ?_
  intro p e s m below meth c A ls Q hx hb hml hown hts hK hP hD hS hA hl hQ
  have hl : lv_has ls 5 [(0, .ref h0), (1, .int (nI n)), (2, .int (nI z)), (3, .ref oa)] := hl
  refine lv_aload_n hx hb dL_lawDays_0 rfl (lv_at hl 3 rfl) ?_
  refine lv_iconst (v := nI 0) hx hb dL_lawDays_1 (by decide) ?_
  refine lv_aload_n hx hb dL_lawDays_2 rfl (lv_at hl 0 rfl) ?_
  refine lv_iload_n hx hb dL_lawDays_3 rfl (lv_at hl 1 rfl) ?_
  refine lv_iload_n hx hb dL_lawDays_4 rfl (lv_at hl 2 rfl) ?_
  refine pz_VR (rest := [.int (nI 0), .ref oa]) ⟨hx, hb, hml, hown, hts⟩ (k_X0_lawDays l D h0 ac ay ap cyI ((cyL, .long) :: ts) mk ch fy fp n z (by exact hy0) (by exact hy1)) (cwV 2 hts gL_lawDays_X0_lawDays rfl rfl rfl (by decide +kernel) ⟨Nat.le_of_ble_eq_true rfl, Nat.le_of_ble_eq_true rfl⟩) hK hP (hD.weaken (fun _ _ _ _ => trivial)) hS hA [0, 1, 2, 3] rfl rfl rfl 0 0 rfl rfl rfl hl.1 rfl (lv_room (Nat.le_of_ble_eq_true rfl)) dL_lawDays_5 ⟨Nat.le_of_ble_eq_true rfl, Nat.le_of_ble_eq_true rfl⟩ (fun r H locs hr hP hS => ?_)
  obtain rfl : r = (nI (pm_lw z) - nI (pm_lw n)) := hr
  refine lv_i2l (v := ((nI (pm_lw z) - nI (pm_lw n))).toInt64) hx hb dL_lawDays_8 rfl ?_
  refine pn_last hx hb hK hP hD hS 4 1 rfl rfl (by decide) (by decide) dL_lawDays_9 (fun H locs hP hD hS => ?_)
  have hP : va_P D vwCl [(h0, .inr (0, [.ref ac, .ref ay, .ref ap, .int (nI mk)])), (ac, .inl (cyI, 365, .inl (pz_ar ch))), (ay, .inl (cyI, 60, .inl (pz_ar fy))), (ap, .inl (cyI, 60, .inl (pz_ar fp))), (oa, .inl (cyL, 1, .inr (.inl (vp_updL og 0 (((nI (pm_lw z) - nI (pm_lw n))).toInt64)))))] H := hP
  have hD : va_D A [(h0, .inr (0, [.ref ac, .ref ay, .ref ap, .int (nI mk)])), (ac, .inl (cyI, 365, .inl (pz_ar ch))), (ay, .inl (cyI, 60, .inl (pz_ar fy))), (ap, .inl (cyI, 60, .inl (pz_ar fp))), (oa, .inl (cyL, 1, .inr (.inl (vp_updL og 0 (((nI (pm_lw z) - nI (pm_lw n))).toInt64)))))] := hD
  refine lv_goto (tgt := 17) hx hb dL_lawDays_10 (by decide) ?_
  refine lv_iconst (v := nI 0) hx hb dL_lawDays_17 (by decide) ?_
  exact hQ _ _ _ _ _ (nI (pm_lw z) - nI (pm_lw n)) dL_lawDays_18 rfl (by exact ⟨rfl, rfl⟩) hP hD hS
set_option maxHeartbeats 4000000 in
set_option maxRecDepth 100000 in
theorem k_L_placeOf (l : Launch) (D : va_G) (h0 ac ay ap oa : Nat) (cyI cyL : ClassId) (ts : List (ClassId × FieldType)) (mk : Nat) (ch fy fp : Nat → Nat) (og : Nat → Int64) (n : Nat) (hy0 : n < 1095750) : pz_I l yL_placeOf wsL_placeOf ({ frames := 4, cells := 0, slots := 0, locals := 81 } : Room) D ((cyI, .int) :: (cyL, .long) :: ts) [.ref h0, .int (nI n), .ref oa] [(h0, .inr (0, [.ref ac, .ref ay, .ref ap, .int (nI mk)])), (ac, .inl (cyI, 365, .inl (pz_ar ch))), (ay, .inl (cyI, 60, .inl (pz_ar fy))), (ap, .inl (cyI, 60, .inl (pz_ar fp))), (oa, .inl (cyL, 1, .inr (.inl og)))] (S := Int32) (fun r u => r = nI 0 ∧ u = nI (pm_pl n)) (fun u => [(h0, .inr (0, [.ref ac, .ref ay, .ref ap, .int (nI mk)])), (ac, .inl (cyI, 365, .inl (pz_ar ch))), (ay, .inl (cyI, 60, .inl (pz_ar fy))), (ap, .inl (cyI, 60, .inl (pz_ar fp))), (oa, .inl (cyL, 1, .inr (.inl (vp_updL og 0 u.toInt64))))]) := by
  refine pz_I_ofH (cc := cL_placeOf) (maxL := 4) (ty := .int) (own := RL) (hh := [(0, 9, 12, 13)]) (by decide) rfl rfl (Nat.le_of_ble_eq_true rfl) ?_
  intro p e s m below meth c A ls Q hx hb hml hown hts hK hP hD hS hA hl hQ
  have hl : lv_has ls 4 [(0, .ref h0), (1, .int (nI n)), (2, .ref oa)] := hl
  refine lv_aload_n hx hb dL_placeOf_0 rfl (lv_at hl 2 rfl) ?_
  refine lv_iconst (v := nI 0) hx hb dL_placeOf_1 (by decide) ?_
  refine lv_aload_n hx hb dL_placeOf_2 rfl (lv_at hl 0 rfl) ?_
  refine lv_iload_n hx hb dL_placeOf_3 rfl (lv_at hl 1 rfl) ?_
  refine pz_VR (rest := [.int (nI 0), .ref oa]) ⟨hx, hb, hml, hown, hts⟩ (k_X0_placeOf l D h0 ac ay ap cyI ((cyL, .long) :: ts) mk ch fy fp n (by exact hy0)) (cwV 1 hts gL_placeOf_X0_placeOf rfl rfl rfl (by decide +kernel) ⟨Nat.le_of_ble_eq_true rfl, Nat.le_of_ble_eq_true rfl⟩) hK hP (hD.weaken (fun _ _ _ _ => trivial)) hS hA [0, 1, 2, 3] rfl rfl rfl 0 0 rfl rfl rfl hl.1 rfl (lv_room (Nat.le_of_ble_eq_true rfl)) dL_placeOf_4 ⟨Nat.le_of_ble_eq_true rfl, Nat.le_of_ble_eq_true rfl⟩ (fun r H locs hr hP hS => ?_)
  obtain rfl : r = (nI (pm_pl n)) := hr
  refine lv_i2l (v := ((nI (pm_pl n))).toInt64) hx hb dL_placeOf_7 rfl ?_
  refine pn_last hx hb hK hP hD hS 4 1 rfl rfl (by decide) (by decide) dL_placeOf_8 (fun H locs hP hD hS => ?_)
  have hP : va_P D vwCl [(h0, .inr (0, [.ref ac, .ref ay, .ref ap, .int (nI mk)])), (ac, .inl (cyI, 365, .inl (pz_ar ch))), (ay, .inl (cyI, 60, .inl (pz_ar fy))), (ap, .inl (cyI, 60, .inl (pz_ar fp))), (oa, .inl (cyL, 1, .inr (.inl (vp_updL og 0 (((nI (pm_pl n))).toInt64)))))] H := hP
  have hD : va_D A [(h0, .inr (0, [.ref ac, .ref ay, .ref ap, .int (nI mk)])), (ac, .inl (cyI, 365, .inl (pz_ar ch))), (ay, .inl (cyI, 60, .inl (pz_ar fy))), (ap, .inl (cyI, 60, .inl (pz_ar fp))), (oa, .inl (cyL, 1, .inr (.inl (vp_updL og 0 (((nI (pm_pl n))).toInt64)))))] := hD
  refine lv_goto (tgt := 15) hx hb dL_placeOf_9 (by decide) ?_
  refine lv_iconst (v := nI 0) hx hb dL_placeOf_15 (by decide) ?_
  exact hQ _ _ _ _ _ (nI (pm_pl n)) dL_placeOf_16 rfl (by exact ⟨rfl, rfl⟩) hP hD hS
set_option maxHeartbeats 4000000 in
set_option maxRecDepth 100000 in
theorem k_L_placeOf_x (l : Launch) (hfl : l.stackTraces = false) (D : va_G) (h0 ac ay ap oa : Nat) (cyI cyL : ClassId) (ts : List (ClassId × FieldType)) (mk : Nat) (ch fy fp : Nat → Nat) (og : Nat → Int64) (x : Int32) (hy0 : x.toInt < 0 ∨ 1095749 < x.toInt) : pz_RX l yL_placeOf wsL_placeOf ({ frames := 8, cells := 1, slots := 6, locals := 125 } : Room) D ((cyI, .int) :: (cyL, .long) :: ts) [.ref h0, .int x, .ref oa] [(h0, .inr (0, [.ref ac, .ref ay, .ref ap, .int (nI mk)])), (ac, .inl (cyI, 365, .inl (pz_ar ch))), (ay, .inl (cyI, 60, .inl (pz_ar fy))), (ap, .inl (cyI, 60, .inl (pz_ar fp))), (oa, .inl (cyL, 1, .inr (.inl og)))] (fun r => r = nI 1) := by
  refine pz_RX_ofH (cc := cL_placeOf) (maxL := 4) (ty := .int) (own := RL) (hh := [(0, 9, 12, 13)]) (by decide) rfl rfl (Nat.le_of_ble_eq_true rfl) ?_
  intro p e s m below meth c ls Q hx hb hml hown hts hK hP hD hS hl hth hnc htab hQ
  have hl : lv_has ls 4 [(0, .ref h0), (1, .int x), (2, .ref oa)] := hl
  refine lv_aload_n hx hb dL_placeOf_0 rfl (lv_at hl 2 rfl) ?_
  refine lv_iconst (v := nI 0) hx hb dL_placeOf_1 (by decide) ?_
  refine lv_aload_n hx hb dL_placeOf_2 rfl (lv_at hl 0 rfl) ?_
  refine lv_iload_n hx hb dL_placeOf_3 rfl (lv_at hl 1 rfl) ?_
  refine pz_VXK (E := "java/lang/IndexOutOfBoundsException") (rest := [.int (nI 0), .ref oa]) ⟨hx, hb, hml, hown, hts⟩ (k_X0_placeOf_x l hfl D h0 ac ay ap cyI ((cyL, .long) :: ts) mk ch fy fp x (by exact hy0)) (cwV 1 hts gL_placeOf_X0_placeOf rfl rfl rfl (by decide +kernel) ⟨Nat.le_of_ble_eq_true rfl, Nat.le_of_ble_eq_true rfl⟩) hK hP hD hS hth [0, 1, 2, 3] rfl rfl rfl 0 0 rfl rfl rfl hl.1 rfl (lv_room (Nat.le_of_ble_eq_true rfl)) dL_placeOf_4 ⟨Nat.le_of_ble_eq_true rfl, Nat.le_of_ble_eq_true rfl⟩ (fun ce q9 H locs hS hce hcv hcl => ?_)
  refine vx_catch (own := RL) (name := "java/lang/IndexOutOfBoundsException") hown [] ⟨0, 9, 12, 13⟩ [] (by rw [htab]; rfl) (fun z hz => nomatch hz) rfl (by decide) (hts (.classLink RL 13 "java/lang/IndexOutOfBoundsException") (by decide +kernel)) (va_Nw.use rfl (hth.2.2.2.1 "java/lang/IndexOutOfBoundsException" (by decide +kernel))) hce hcv hcl ?_
  refine lv_astore_n (lv' := [(3, .ref q9), (0, .ref h0), (1, .int x), (2, .ref oa)]) hx hb dL_placeOf_12 rfl hl (by decide) rfl (fun ls hl => ?_)
  refine lv_iconst (v := nI 1) hx hb dL_placeOf_13 (by decide) ?_
  exact hQ _ _ _ _ _ dL_placeOf_14 rfl rfl hS
set_option maxHeartbeats 4000000 in
set_option maxRecDepth 100000 in
theorem k_L_letterOfEight (l : Launch) (D : va_G) (h0 ac ay ap oa : Nat) (cyI cyL : ClassId) (ts : List (ClassId × FieldType)) (mk : Nat) (ch fy fp : Nat → Nat) (og : Nat → Int64) (n : Nat) (hy0 : n < 1095750) : pz_I l yL_letterOfEight wsL_letterOfEight ({ frames := 5, cells := 0, slots := 0, locals := 101 } : Room) D ((cyI, .int) :: (cyL, .long) :: ts) [.ref h0, .int (nI n), .ref oa] [(h0, .inr (0, [.ref ac, .ref ay, .ref ap, .int (nI mk)])), (ac, .inl (cyI, 365, .inl (pz_ar ch))), (ay, .inl (cyI, 60, .inl (pz_ar fy))), (ap, .inl (cyI, 60, .inl (pz_ar fp))), (oa, .inl (cyL, 1, .inr (.inl og)))] (S := Int32) (fun r u => r = nI 0 ∧ u = nI ((pm_pl n - 1) % 8)) (fun u => [(h0, .inr (0, [.ref ac, .ref ay, .ref ap, .int (nI mk)])), (ac, .inl (cyI, 365, .inl (pz_ar ch))), (ay, .inl (cyI, 60, .inl (pz_ar fy))), (ap, .inl (cyI, 60, .inl (pz_ar fp))), (oa, .inl (cyL, 1, .inr (.inl (vp_updL og 0 u.toInt64))))]) := by
  refine pz_I_ofH (cc := cL_letterOfEight) (maxL := 4) (ty := .int) (own := RL) (hh := [(0, 9, 12, 13)]) (by decide) rfl rfl (Nat.le_of_ble_eq_true rfl) ?_
  intro p e s m below meth c A ls Q hx hb hml hown hts hK hP hD hS hA hl hQ
  have hl : lv_has ls 4 [(0, .ref h0), (1, .int (nI n)), (2, .ref oa)] := hl
  refine lv_aload_n hx hb dL_letterOfEight_0 rfl (lv_at hl 2 rfl) ?_
  refine lv_iconst (v := nI 0) hx hb dL_letterOfEight_1 (by decide) ?_
  refine lv_aload_n hx hb dL_letterOfEight_2 rfl (lv_at hl 0 rfl) ?_
  refine lv_iload_n hx hb dL_letterOfEight_3 rfl (lv_at hl 1 rfl) ?_
  refine pz_VR (rest := [.int (nI 0), .ref oa]) ⟨hx, hb, hml, hown, hts⟩ (k_X0_letterOfEight l D h0 ac ay ap cyI ((cyL, .long) :: ts) mk ch fy fp n (by exact hy0)) (cwV 1 hts gL_letterOfEight_X0_letterOfEight rfl rfl rfl (by decide +kernel) ⟨Nat.le_of_ble_eq_true rfl, Nat.le_of_ble_eq_true rfl⟩) hK hP (hD.weaken (fun _ _ _ _ => trivial)) hS hA [0, 1, 2, 3] rfl rfl rfl 0 0 rfl rfl rfl hl.1 rfl (lv_room (Nat.le_of_ble_eq_true rfl)) dL_letterOfEight_4 ⟨Nat.le_of_ble_eq_true rfl, Nat.le_of_ble_eq_true rfl⟩ (fun r H locs hr hP hS => ?_)
  obtain rfl : r = (nI ((pm_pl n - 1) % 8)) := hr
  refine lv_i2l (v := ((nI ((pm_pl n - 1) % 8))).toInt64) hx hb dL_letterOfEight_7 rfl ?_
  refine pn_last hx hb hK hP hD hS 4 1 rfl rfl (by decide) (by decide) dL_letterOfEight_8 (fun H locs hP hD hS => ?_)
  have hP : va_P D vwCl [(h0, .inr (0, [.ref ac, .ref ay, .ref ap, .int (nI mk)])), (ac, .inl (cyI, 365, .inl (pz_ar ch))), (ay, .inl (cyI, 60, .inl (pz_ar fy))), (ap, .inl (cyI, 60, .inl (pz_ar fp))), (oa, .inl (cyL, 1, .inr (.inl (vp_updL og 0 (((nI ((pm_pl n - 1) % 8))).toInt64)))))] H := hP
  have hD : va_D A [(h0, .inr (0, [.ref ac, .ref ay, .ref ap, .int (nI mk)])), (ac, .inl (cyI, 365, .inl (pz_ar ch))), (ay, .inl (cyI, 60, .inl (pz_ar fy))), (ap, .inl (cyI, 60, .inl (pz_ar fp))), (oa, .inl (cyL, 1, .inr (.inl (vp_updL og 0 (((nI ((pm_pl n - 1) % 8))).toInt64)))))] := hD
  refine lv_goto (tgt := 15) hx hb dL_letterOfEight_9 (by decide) ?_
  refine lv_iconst (v := nI 0) hx hb dL_letterOfEight_15 (by decide) ?_
  exact hQ _ _ _ _ _ (nI ((pm_pl n - 1) % 8)) dL_letterOfEight_16 rfl (by exact ⟨rfl, rfl⟩) hP hD hS
set_option maxHeartbeats 4000000 in
set_option maxRecDepth 100000 in
theorem k_L_letterOfEight_x (l : Launch) (hfl : l.stackTraces = false) (D : va_G) (h0 ac ay ap oa : Nat) (cyI cyL : ClassId) (ts : List (ClassId × FieldType)) (mk : Nat) (ch fy fp : Nat → Nat) (og : Nat → Int64) (x : Int32) (hy0 : x.toInt < 0 ∨ 1095749 < x.toInt) : pz_RX l yL_letterOfEight wsL_letterOfEight ({ frames := 8, cells := 1, slots := 6, locals := 125 } : Room) D ((cyI, .int) :: (cyL, .long) :: ts) [.ref h0, .int x, .ref oa] [(h0, .inr (0, [.ref ac, .ref ay, .ref ap, .int (nI mk)])), (ac, .inl (cyI, 365, .inl (pz_ar ch))), (ay, .inl (cyI, 60, .inl (pz_ar fy))), (ap, .inl (cyI, 60, .inl (pz_ar fp))), (oa, .inl (cyL, 1, .inr (.inl og)))] (fun r => r = nI 1) := by
  refine pz_RX_ofH (cc := cL_letterOfEight) (maxL := 4) (ty := .int) (own := RL) (hh := [(0, 9, 12, 13)]) (by decide) rfl rfl (Nat.le_of_ble_eq_true rfl) ?_
  intro p e s m below meth c ls Q hx hb hml hown hts hK hP hD hS hl hth hnc htab hQ
  have hl : lv_has ls 4 [(0, .ref h0), (1, .int x), (2, .ref oa)] := hl
  refine lv_aload_n hx hb dL_letterOfEight_0 rfl (lv_at hl 2 rfl) ?_
  refine lv_iconst (v := nI 0) hx hb dL_letterOfEight_1 (by decide) ?_
  refine lv_aload_n hx hb dL_letterOfEight_2 rfl (lv_at hl 0 rfl) ?_
  refine lv_iload_n hx hb dL_letterOfEight_3 rfl (lv_at hl 1 rfl) ?_
  refine pz_VXK (E := "java/lang/IndexOutOfBoundsException") (rest := [.int (nI 0), .ref oa]) ⟨hx, hb, hml, hown, hts⟩ (k_X0_letterOfEight_x l hfl D h0 ac ay ap cyI ((cyL, .long) :: ts) mk ch fy fp x (by exact hy0)) (cwV 1 hts gL_letterOfEight_X0_letterOfEight rfl rfl rfl (by decide +kernel) ⟨Nat.le_of_ble_eq_true rfl, Nat.le_of_ble_eq_true rfl⟩) hK hP hD hS hth [0, 1, 2, 3] rfl rfl rfl 0 0 rfl rfl rfl hl.1 rfl (lv_room (Nat.le_of_ble_eq_true rfl)) dL_letterOfEight_4 ⟨Nat.le_of_ble_eq_true rfl, Nat.le_of_ble_eq_true rfl⟩ (fun ce q9 H locs hS hce hcv hcl => ?_)
  refine vx_catch (own := RL) (name := "java/lang/IndexOutOfBoundsException") hown [] ⟨0, 9, 12, 13⟩ [] (by rw [htab]; rfl) (fun z hz => nomatch hz) rfl (by decide) (hts (.classLink RL 13 "java/lang/IndexOutOfBoundsException") (by decide +kernel)) (va_Nw.use rfl (hth.2.2.2.1 "java/lang/IndexOutOfBoundsException" (by decide +kernel))) hce hcv hcl ?_
  refine lv_astore_n (lv' := [(3, .ref q9), (0, .ref h0), (1, .int x), (2, .ref oa)]) hx hb dL_letterOfEight_12 rfl hl (by decide) rfl (fun ls hl => ?_)
  refine lv_iconst (v := nI 1) hx hb dL_letterOfEight_13 (by decide) ?_
  exact hQ _ _ _ _ _ dL_letterOfEight_14 rfl rfl hS
set_option maxHeartbeats 4000000 in
set_option maxRecDepth 100000 in
theorem k_L_letterOfSeven (l : Launch) (D : va_G) (h0 ac ay ap oa : Nat) (cyI cyL : ClassId) (ts : List (ClassId × FieldType)) (mk : Nat) (ch fy fp : Nat → Nat) (og : Nat → Int64) (n : Nat) (hy0 : n < 1095750) : pz_I l yL_letterOfSeven wsL_letterOfSeven ({ frames := 5, cells := 0, slots := 0, locals := 101 } : Room) D ((cyI, .int) :: (cyL, .long) :: ts) [.ref h0, .int (nI n), .ref oa] [(h0, .inr (0, [.ref ac, .ref ay, .ref ap, .int (nI mk)])), (ac, .inl (cyI, 365, .inl (pz_ar ch))), (ay, .inl (cyI, 60, .inl (pz_ar fy))), (ap, .inl (cyI, 60, .inl (pz_ar fp))), (oa, .inl (cyL, 1, .inr (.inl og)))] (S := Int32) (fun r u => r = nI 0 ∧ u = nI ((pm_pl n - 1) % 7)) (fun u => [(h0, .inr (0, [.ref ac, .ref ay, .ref ap, .int (nI mk)])), (ac, .inl (cyI, 365, .inl (pz_ar ch))), (ay, .inl (cyI, 60, .inl (pz_ar fy))), (ap, .inl (cyI, 60, .inl (pz_ar fp))), (oa, .inl (cyL, 1, .inr (.inl (vp_updL og 0 u.toInt64))))]) := by
  refine pz_I_ofH (cc := cL_letterOfSeven) (maxL := 4) (ty := .int) (own := RL) (hh := [(0, 9, 12, 13)]) (by decide) rfl rfl (Nat.le_of_ble_eq_true rfl) ?_
  intro p e s m below meth c A ls Q hx hb hml hown hts hK hP hD hS hA hl hQ
  have hl : lv_has ls 4 [(0, .ref h0), (1, .int (nI n)), (2, .ref oa)] := hl
  refine lv_aload_n hx hb dL_letterOfSeven_0 rfl (lv_at hl 2 rfl) ?_
  refine lv_iconst (v := nI 0) hx hb dL_letterOfSeven_1 (by decide) ?_
  refine lv_aload_n hx hb dL_letterOfSeven_2 rfl (lv_at hl 0 rfl) ?_
  refine lv_iload_n hx hb dL_letterOfSeven_3 rfl (lv_at hl 1 rfl) ?_
  refine pz_VR (rest := [.int (nI 0), .ref oa]) ⟨hx, hb, hml, hown, hts⟩ (k_X0_letterOfSeven l D h0 ac ay ap cyI ((cyL, .long) :: ts) mk ch fy fp n (by exact hy0)) (cwV 1 hts gL_letterOfSeven_X0_letterOfSeven rfl rfl rfl (by decide +kernel) ⟨Nat.le_of_ble_eq_true rfl, Nat.le_of_ble_eq_true rfl⟩) hK hP (hD.weaken (fun _ _ _ _ => trivial)) hS hA [0, 1, 2, 3] rfl rfl rfl 0 0 rfl rfl rfl hl.1 rfl (lv_room (Nat.le_of_ble_eq_true rfl)) dL_letterOfSeven_4 ⟨Nat.le_of_ble_eq_true rfl, Nat.le_of_ble_eq_true rfl⟩ (fun r H locs hr hP hS => ?_)
  obtain rfl : r = (nI ((pm_pl n - 1) % 7)) := hr
  refine lv_i2l (v := ((nI ((pm_pl n - 1) % 7))).toInt64) hx hb dL_letterOfSeven_7 rfl ?_
  refine pn_last hx hb hK hP hD hS 4 1 rfl rfl (by decide) (by decide) dL_letterOfSeven_8 (fun H locs hP hD hS => ?_)
  have hP : va_P D vwCl [(h0, .inr (0, [.ref ac, .ref ay, .ref ap, .int (nI mk)])), (ac, .inl (cyI, 365, .inl (pz_ar ch))), (ay, .inl (cyI, 60, .inl (pz_ar fy))), (ap, .inl (cyI, 60, .inl (pz_ar fp))), (oa, .inl (cyL, 1, .inr (.inl (vp_updL og 0 (((nI ((pm_pl n - 1) % 7))).toInt64)))))] H := hP
  have hD : va_D A [(h0, .inr (0, [.ref ac, .ref ay, .ref ap, .int (nI mk)])), (ac, .inl (cyI, 365, .inl (pz_ar ch))), (ay, .inl (cyI, 60, .inl (pz_ar fy))), (ap, .inl (cyI, 60, .inl (pz_ar fp))), (oa, .inl (cyL, 1, .inr (.inl (vp_updL og 0 (((nI ((pm_pl n - 1) % 7))).toInt64)))))] := hD
  refine lv_goto (tgt := 15) hx hb dL_letterOfSeven_9 (by decide) ?_
  refine lv_iconst (v := nI 0) hx hb dL_letterOfSeven_15 (by decide) ?_
  exact hQ _ _ _ _ _ (nI ((pm_pl n - 1) % 7)) dL_letterOfSeven_16 rfl (by exact ⟨rfl, rfl⟩) hP hD hS
set_option maxHeartbeats 4000000 in
set_option maxRecDepth 100000 in
theorem k_L_letterOfSeven_x (l : Launch) (hfl : l.stackTraces = false) (D : va_G) (h0 ac ay ap oa : Nat) (cyI cyL : ClassId) (ts : List (ClassId × FieldType)) (mk : Nat) (ch fy fp : Nat → Nat) (og : Nat → Int64) (x : Int32) (hy0 : x.toInt < 0 ∨ 1095749 < x.toInt) : pz_RX l yL_letterOfSeven wsL_letterOfSeven ({ frames := 8, cells := 1, slots := 6, locals := 125 } : Room) D ((cyI, .int) :: (cyL, .long) :: ts) [.ref h0, .int x, .ref oa] [(h0, .inr (0, [.ref ac, .ref ay, .ref ap, .int (nI mk)])), (ac, .inl (cyI, 365, .inl (pz_ar ch))), (ay, .inl (cyI, 60, .inl (pz_ar fy))), (ap, .inl (cyI, 60, .inl (pz_ar fp))), (oa, .inl (cyL, 1, .inr (.inl og)))] (fun r => r = nI 1) := by
  refine pz_RX_ofH (cc := cL_letterOfSeven) (maxL := 4) (ty := .int) (own := RL) (hh := [(0, 9, 12, 13)]) (by decide) rfl rfl (Nat.le_of_ble_eq_true rfl) ?_
  intro p e s m below meth c ls Q hx hb hml hown hts hK hP hD hS hl hth hnc htab hQ
  have hl : lv_has ls 4 [(0, .ref h0), (1, .int x), (2, .ref oa)] := hl
  refine lv_aload_n hx hb dL_letterOfSeven_0 rfl (lv_at hl 2 rfl) ?_
  refine lv_iconst (v := nI 0) hx hb dL_letterOfSeven_1 (by decide) ?_
  refine lv_aload_n hx hb dL_letterOfSeven_2 rfl (lv_at hl 0 rfl) ?_
  refine lv_iload_n hx hb dL_letterOfSeven_3 rfl (lv_at hl 1 rfl) ?_
  refine pz_VXK (E := "java/lang/IndexOutOfBoundsException") (rest := [.int (nI 0), .ref oa]) ⟨hx, hb, hml, hown, hts⟩ (k_X0_letterOfSeven_x l hfl D h0 ac ay ap cyI ((cyL, .long) :: ts) mk ch fy fp x (by exact hy0)) (cwV 1 hts gL_letterOfSeven_X0_letterOfSeven rfl rfl rfl (by decide +kernel) ⟨Nat.le_of_ble_eq_true rfl, Nat.le_of_ble_eq_true rfl⟩) hK hP hD hS hth [0, 1, 2, 3] rfl rfl rfl 0 0 rfl rfl rfl hl.1 rfl (lv_room (Nat.le_of_ble_eq_true rfl)) dL_letterOfSeven_4 ⟨Nat.le_of_ble_eq_true rfl, Nat.le_of_ble_eq_true rfl⟩ (fun ce q9 H locs hS hce hcv hcl => ?_)
  refine vx_catch (own := RL) (name := "java/lang/IndexOutOfBoundsException") hown [] ⟨0, 9, 12, 13⟩ [] (by rw [htab]; rfl) (fun z hz => nomatch hz) rfl (by decide) (hts (.classLink RL 13 "java/lang/IndexOutOfBoundsException") (by decide +kernel)) (va_Nw.use rfl (hth.2.2.2.1 "java/lang/IndexOutOfBoundsException" (by decide +kernel))) hce hcv hcl ?_
  refine lv_astore_n (lv' := [(3, .ref q9), (0, .ref h0), (1, .int x), (2, .ref oa)]) hx hb dL_letterOfSeven_12 rfl hl (by decide) rfl (fun ls hl => ?_)
  refine lv_iconst (v := nI 1) hx hb dL_letterOfSeven_13 (by decide) ?_
  exact hQ _ _ _ _ _ dL_letterOfSeven_14 rfl rfl hS
set_option maxHeartbeats 4000000 in
set_option maxRecDepth 100000 in
theorem k_L_setMarketDay_x (l : Launch) (hfl : l.stackTraces = false) (D : va_G) (h0 ac ay ap oa : Nat) (cyI cyL : ClassId) (ts : List (ClassId × FieldType)) (mk : Nat) (ch fy fp : Nat → Nat) (og : Nat → Int64) (x : Int32) (hy0 : x.toInt < 0 ∨ 1095749 < x.toInt) : pz_RX l yL_setMarketDay wsL_setMarketDay ({ frames := 8, cells := 1, slots := 6, locals := 126 } : Room) D ((cyI, .int) :: (cyL, .long) :: ts) [.ref h0, .int x, .ref oa] [(h0, .inr (0, [.ref ac, .ref ay, .ref ap, .int (nI mk)])), (ac, .inl (cyI, 365, .inl (pz_ar ch))), (ay, .inl (cyI, 60, .inl (pz_ar fy))), (ap, .inl (cyI, 60, .inl (pz_ar fp))), (oa, .inl (cyL, 1, .inr (.inl og)))] (fun r => r = nI 1) := by
  refine pz_RX_ofH (cc := cL_setMarketDay) (maxL := 4) (ty := .int) (own := RL) (hh := [(0, 9, 12, 13)]) (by decide) rfl rfl (Nat.le_of_ble_eq_true rfl) ?_
  intro p e s m below meth c ls Q hx hb hml hown hts hK hP hD hS hl hth hnc htab hQ
  have hl : lv_has ls 4 [(0, .ref h0), (1, .int x), (2, .ref oa)] := hl
  refine lv_aload_n hx hb dL_setMarketDay_0 rfl (lv_at hl 2 rfl) ?_
  refine lv_iconst (v := nI 0) hx hb dL_setMarketDay_1 (by decide) ?_
  refine lv_aload_n hx hb dL_setMarketDay_2 rfl (lv_at hl 0 rfl) ?_
  refine lv_iload_n hx hb dL_setMarketDay_3 rfl (lv_at hl 1 rfl) ?_
  refine pz_VXK (E := "java/lang/IndexOutOfBoundsException") (rest := [.int (nI 0), .ref oa]) ⟨hx, hb, hml, hown, hts⟩ (k_X0_setMarketDay_x l hfl D h0 ac ay ap cyI ((cyL, .long) :: ts) mk ch fy fp x (by exact hy0)) (cwV 1 hts gL_setMarketDay_X0_setMarketDay rfl rfl rfl (by decide +kernel) ⟨Nat.le_of_ble_eq_true rfl, Nat.le_of_ble_eq_true rfl⟩) hK hP hD hS hth [0, 1, 2, 3] rfl rfl rfl 0 0 rfl rfl rfl hl.1 rfl (lv_room (Nat.le_of_ble_eq_true rfl)) dL_setMarketDay_4 ⟨Nat.le_of_ble_eq_true rfl, Nat.le_of_ble_eq_true rfl⟩ (fun ce q9 H locs hS hce hcv hcl => ?_)
  refine vx_catch (own := RL) (name := "java/lang/IndexOutOfBoundsException") hown [] ⟨0, 9, 12, 13⟩ [] (by rw [htab]; rfl) (fun z hz => nomatch hz) rfl (by decide) (hts (.classLink RL 13 "java/lang/IndexOutOfBoundsException") (by decide +kernel)) (va_Nw.use rfl (hth.2.2.2.1 "java/lang/IndexOutOfBoundsException" (by decide +kernel))) hce hcv hcl ?_
  refine lv_astore_n (lv' := [(3, .ref q9), (0, .ref h0), (1, .int x), (2, .ref oa)]) hx hb dL_setMarketDay_12 rfl hl (by decide) rfl (fun ls hl => ?_)
  refine lv_iconst (v := nI 1) hx hb dL_setMarketDay_13 (by decide) ?_
  exact hQ _ _ _ _ _ dL_setMarketDay_14 rfl rfl hS
set_option maxHeartbeats 4000000 in
set_option maxRecDepth 100000 in
theorem k_L_setMarketDay (l : Launch) (D : va_G) (h0 ac ay ap oa : Nat) (cyI cyL : ClassId) (ts : List (ClassId × FieldType)) (mk : Nat) (ch fy fp : Nat → Nat) (og : Nat → Int64) (n : Nat) (hy0 : n < 1095750) : pz_I l yL_setMarketDay wsL_setMarketDay ({ frames := 2, cells := 0, slots := 0, locals := 42 } : Room) D ((cyI, .int) :: (cyL, .long) :: ts) [.ref h0, .int (nI n), .ref oa] [(h0, .inr (0, [.ref ac, .ref ay, .ref ap, .int (nI mk)])), (ac, .inl (cyI, 365, .inl (pz_ar ch))), (ay, .inl (cyI, 60, .inl (pz_ar fy))), (ap, .inl (cyI, 60, .inl (pz_ar fp))), (oa, .inl (cyL, 1, .inr (.inl og)))] (S := Int32) (fun r u => r = nI 0 ∧ u = nI mk) (fun u => [(oa, .inl (cyL, 1, .inr (.inl (vp_updL og 0 u.toInt64)))), (h0, .inr (0, [.ref ac, .ref ay, .ref ap, .int (nI (n % 8))])), (ac, .inl (cyI, 365, .inl (pz_ar ch))), (ay, .inl (cyI, 60, .inl (pz_ar fy))), (ap, .inl (cyI, 60, .inl (pz_ar fp)))]) := by
  refine pz_I_ofH (cc := cL_setMarketDay) (maxL := 4) (ty := .int) (own := RL) (hh := [(0, 9, 12, 13)]) (by decide) rfl rfl (Nat.le_of_ble_eq_true rfl) ?_
  intro p e s m below meth c A ls Q hx hb hml hown hts hK hP hD hS hA hl hQ
  have hl : lv_has ls 4 [(0, .ref h0), (1, .int (nI n)), (2, .ref oa)] := hl
  refine lv_aload_n hx hb dL_setMarketDay_0 rfl (lv_at hl 2 rfl) ?_
  refine lv_iconst (v := nI 0) hx hb dL_setMarketDay_1 (by decide) ?_
  refine lv_aload_n hx hb dL_setMarketDay_2 rfl (lv_at hl 0 rfl) ?_
  refine lv_iload_n hx hb dL_setMarketDay_3 rfl (lv_at hl 1 rfl) ?_
  refine pz_VI (rest := [.int (nI 0), .ref oa]) (wr := [(oa, .inl (cyL, 1, .inr (.inl og)))]) ⟨hx, hb, hml, hown, hts⟩ (k_X0_setMarketDay l D h0 ac ay ap cyI ((cyL, .long) :: ts) mk ch fy fp n (by exact hy0)) (cwV 1 hts gL_setMarketDay_X0_setMarketDay rfl rfl rfl (by decide +kernel) ⟨Nat.le_of_ble_eq_true rfl, Nat.le_of_ble_eq_true rfl⟩) hK hP hD hS hA [0, 1, 2, 3] [4] rfl rfl rfl rfl rfl (by decide) 0 0 rfl rfl rfl hl.1 rfl (lv_room (Nat.le_of_ble_eq_true rfl)) dL_setMarketDay_4 ⟨Nat.le_of_ble_eq_true rfl, Nat.le_of_ble_eq_true rfl⟩ (fun r u H locs hr hP hD hS => ?_)
  have hP : va_P D vwCl [(oa, .inl (cyL, 1, .inr (.inl og))), (h0, .inr (0, [.ref ac, .ref ay, .ref ap, .int (nI (n % 8))])), (ac, .inl (cyI, 365, .inl (pz_ar ch))), (ay, .inl (cyI, 60, .inl (pz_ar fy))), (ap, .inl (cyI, 60, .inl (pz_ar fp)))] H := hP
  have hD : va_D A [(oa, .inl (cyL, 1, .inr (.inl og))), (h0, .inr (0, [.ref ac, .ref ay, .ref ap, .int (nI (n % 8))])), (ac, .inl (cyI, 365, .inl (pz_ar ch))), (ay, .inl (cyI, 60, .inl (pz_ar fy))), (ap, .inl (cyI, 60, .inl (pz_ar fp)))] := hD
  obtain rfl : r = (nI mk) := hr
  refine lv_i2l (v := ((nI mk)).toInt64) hx hb dL_setMarketDay_7 rfl ?_
  refine pn_last hx hb hK hP hD hS 0 1 rfl rfl (by decide) (by decide) dL_setMarketDay_8 (fun H locs hP hD hS => ?_)
  have hP : va_P D vwCl [(oa, .inl (cyL, 1, .inr (.inl (vp_updL og 0 (((nI mk)).toInt64))))), (h0, .inr (0, [.ref ac, .ref ay, .ref ap, .int (nI (n % 8))])), (ac, .inl (cyI, 365, .inl (pz_ar ch))), (ay, .inl (cyI, 60, .inl (pz_ar fy))), (ap, .inl (cyI, 60, .inl (pz_ar fp)))] H := hP
  have hD : va_D A [(oa, .inl (cyL, 1, .inr (.inl (vp_updL og 0 (((nI mk)).toInt64))))), (h0, .inr (0, [.ref ac, .ref ay, .ref ap, .int (nI (n % 8))])), (ac, .inl (cyI, 365, .inl (pz_ar ch))), (ay, .inl (cyI, 60, .inl (pz_ar fy))), (ap, .inl (cyI, 60, .inl (pz_ar fp)))] := hD
  refine lv_goto (tgt := 15) hx hb dL_setMarketDay_9 (by decide) ?_
  refine lv_iconst (v := nI 0) hx hb dL_setMarketDay_15 (by decide) ?_
  exact hQ _ _ _ _ _ (nI mk) dL_setMarketDay_16 rfl (by exact ⟨rfl, rfl⟩) hP hD hS
set_option maxHeartbeats 4000000 in
set_option maxRecDepth 100000 in
theorem k_L_isMarket_x (l : Launch) (hfl : l.stackTraces = false) (D : va_G) (h0 ac ay ap oa : Nat) (cyI cyL : ClassId) (ts : List (ClassId × FieldType)) (mk : Nat) (ch fy fp : Nat → Nat) (og : Nat → Int64) (x : Int32) (hy0 : x.toInt < 0 ∨ 1095749 < x.toInt) : pz_RX l yL_isMarket wsL_isMarket ({ frames := 8, cells := 1, slots := 6, locals := 125 } : Room) D ((cyI, .int) :: (cyL, .long) :: ts) [.ref h0, .int x, .ref oa] [(h0, .inr (0, [.ref ac, .ref ay, .ref ap, .int (nI mk)])), (ac, .inl (cyI, 365, .inl (pz_ar ch))), (ay, .inl (cyI, 60, .inl (pz_ar fy))), (ap, .inl (cyI, 60, .inl (pz_ar fp))), (oa, .inl (cyL, 1, .inr (.inl og)))] (fun r => r = nI 1) := by
  refine pz_RX_ofH (cc := cL_isMarket) (maxL := 4) (ty := .int) (own := RL) (hh := [(0, 16, 19, 13)]) (by decide) rfl rfl (Nat.le_of_ble_eq_true rfl) ?_
  intro p e s m below meth c ls Q hx hb hml hown hts hK hP hD hS hl hth hnc htab hQ
  have hl : lv_has ls 4 [(0, .ref h0), (1, .int x), (2, .ref oa)] := hl
  refine lv_aload_n hx hb dL_isMarket_0 rfl (lv_at hl 2 rfl) ?_
  refine lv_iconst (v := nI 0) hx hb dL_isMarket_1 (by decide) ?_
  refine lv_aload_n hx hb dL_isMarket_2 rfl (lv_at hl 0 rfl) ?_
  refine lv_iload_n hx hb dL_isMarket_3 rfl (lv_at hl 1 rfl) ?_
  refine pz_VXK (E := "java/lang/IndexOutOfBoundsException") (rest := [.int (nI 0), .ref oa]) ⟨hx, hb, hml, hown, hts⟩ (k_X0_isMarket_x l hfl D h0 ac ay ap cyI ((cyL, .long) :: ts) mk ch fy fp x (by exact hy0)) (cwV 1 hts gL_isMarket_X0_isMarket rfl rfl rfl (by decide +kernel) ⟨Nat.le_of_ble_eq_true rfl, Nat.le_of_ble_eq_true rfl⟩) hK hP hD hS hth [0, 1, 2, 3] rfl rfl rfl 0 0 rfl rfl rfl hl.1 rfl (lv_room (Nat.le_of_ble_eq_true rfl)) dL_isMarket_4 ⟨Nat.le_of_ble_eq_true rfl, Nat.le_of_ble_eq_true rfl⟩ (fun ce q9 H locs hS hce hcv hcl => ?_)
  refine vx_catch (own := RL) (name := "java/lang/IndexOutOfBoundsException") hown [] ⟨0, 16, 19, 13⟩ [] (by rw [htab]; rfl) (fun z hz => nomatch hz) rfl (by decide) (hts (.classLink RL 13 "java/lang/IndexOutOfBoundsException") (by decide +kernel)) (va_Nw.use rfl (hth.2.2.2.1 "java/lang/IndexOutOfBoundsException" (by decide +kernel))) hce hcv hcl ?_
  refine lv_astore_n (lv' := [(3, .ref q9), (0, .ref h0), (1, .int x), (2, .ref oa)]) hx hb dL_isMarket_19 rfl hl (by decide) rfl (fun ls hl => ?_)
  refine lv_iconst (v := nI 1) hx hb dL_isMarket_20 (by decide) ?_
  exact hQ _ _ _ _ _ dL_isMarket_21 rfl rfl hS
set_option maxHeartbeats 4000000 in
set_option maxRecDepth 100000 in
theorem k_L_isMarket (l : Launch) (D : va_G) (h0 ac ay ap oa : Nat) (cyI cyL : ClassId) (ts : List (ClassId × FieldType)) (mk : Nat) (ch fy fp : Nat → Nat) (og : Nat → Int64) (n : Nat) (hy0 : n < 1095750) (hmk : mk < 8) : pz_I l yL_isMarket wsL_isMarket ({ frames := 2, cells := 0, slots := 0, locals := 42 } : Room) D ((cyI, .int) :: (cyL, .long) :: ts) [.ref h0, .int (nI n), .ref oa] [(h0, .inr (0, [.ref ac, .ref ay, .ref ap, .int (nI mk)])), (ac, .inl (cyI, 365, .inl (pz_ar ch))), (ay, .inl (cyI, 60, .inl (pz_ar fy))), (ap, .inl (cyI, 60, .inl (pz_ar fp))), (oa, .inl (cyL, 1, .inr (.inl og)))] (S := Int32) (fun r u => r = nI 0 ∧ u = pz_b (n % 8 = mk)) (fun u => [(h0, .inr (0, [.ref ac, .ref ay, .ref ap, .int (nI mk)])), (ac, .inl (cyI, 365, .inl (pz_ar ch))), (ay, .inl (cyI, 60, .inl (pz_ar fy))), (ap, .inl (cyI, 60, .inl (pz_ar fp))), (oa, .inl (cyL, 1, .inr (.inl (vp_updL og 0 u.toInt64))))]) := by
  refine pz_I_ofH (cc := cL_isMarket) (maxL := 4) (ty := .int) (own := RL) (hh := [(0, 16, 19, 13)]) (by decide) rfl rfl (Nat.le_of_ble_eq_true rfl) ?_
  intro p e s m below meth c A ls Q hx hb hml hown hts hK hP hD hS hA hl hQ
  have hl : lv_has ls 4 [(0, .ref h0), (1, .int (nI n)), (2, .ref oa)] := hl
  refine lv_aload_n hx hb dL_isMarket_0 rfl (lv_at hl 2 rfl) ?_
  refine lv_iconst (v := nI 0) hx hb dL_isMarket_1 (by decide) ?_
  refine lv_aload_n hx hb dL_isMarket_2 rfl (lv_at hl 0 rfl) ?_
  refine lv_iload_n hx hb dL_isMarket_3 rfl (lv_at hl 1 rfl) ?_
  refine pz_VR (rest := [.int (nI 0), .ref oa]) ⟨hx, hb, hml, hown, hts⟩ (k_X0_isMarket l D h0 ac ay ap cyI ((cyL, .long) :: ts) mk ch fy fp n (by exact hy0) (by exact hmk)) (cwV 1 hts gL_isMarket_X0_isMarket rfl rfl rfl (by decide +kernel) ⟨Nat.le_of_ble_eq_true rfl, Nat.le_of_ble_eq_true rfl⟩) hK hP (hD.weaken (fun _ _ _ _ => trivial)) hS hA [0, 1, 2, 3] rfl rfl rfl 0 0 rfl rfl rfl hl.1 rfl (lv_room (Nat.le_of_ble_eq_true rfl)) dL_isMarket_4 ⟨Nat.le_of_ble_eq_true rfl, Nat.le_of_ble_eq_true rfl⟩ (fun r H locs hr hP hS => ?_)
  obtain rfl : r = (pz_b (n % 8 = mk)) := hr
  refine pb_if_eq (tgt := 14) hx hb dL_isMarket_7 (by decide) (fun c_2 => ?_) (fun c_2 => ?_)
  · -- 7 yes
    refine lv_lconst (v := 0) hx hb dL_isMarket_14 (by decide) ?_
    refine pn_last hx hb hK hP hD hS 4 1 rfl rfl (by decide) (by decide) dL_isMarket_15 (fun H locs hP hD hS => ?_)
    have hP : va_P D vwCl [(h0, .inr (0, [.ref ac, .ref ay, .ref ap, .int (nI mk)])), (ac, .inl (cyI, 365, .inl (pz_ar ch))), (ay, .inl (cyI, 60, .inl (pz_ar fy))), (ap, .inl (cyI, 60, .inl (pz_ar fp))), (oa, .inl (cyL, 1, .inr (.inl (vp_updL og 0 (0 : Int64)))))] H := hP
    have hD : va_D A [(h0, .inr (0, [.ref ac, .ref ay, .ref ap, .int (nI mk)])), (ac, .inl (cyI, 365, .inl (pz_ar ch))), (ay, .inl (cyI, 60, .inl (pz_ar fy))), (ap, .inl (cyI, 60, .inl (pz_ar fp))), (oa, .inl (cyL, 1, .inr (.inl (vp_updL og 0 (0 : Int64)))))] := hD
    have hq9 : vp_updL og 0 (0 : Int64) = vp_updL og 0 (pz_b (n % 8 = mk)).toInt64 := by rw [pz_bl0 (C := n % 8 = mk) (by assumption)]
    have hP : va_P D vwCl [(h0, .inr (0, [.ref ac, .ref ay, .ref ap, .int (nI mk)])), (ac, .inl (cyI, 365, .inl (pz_ar ch))), (ay, .inl (cyI, 60, .inl (pz_ar fy))), (ap, .inl (cyI, 60, .inl (pz_ar fp))), (oa, .inl (cyL, 1, .inr (.inl (vp_updL og 0 (pz_b (n % 8 = mk)).toInt64))))] H := by rw [← hq9]; exact hP
    have hD : va_D A [(h0, .inr (0, [.ref ac, .ref ay, .ref ap, .int (nI mk)])), (ac, .inl (cyI, 365, .inl (pz_ar ch))), (ay, .inl (cyI, 60, .inl (pz_ar fy))), (ap, .inl (cyI, 60, .inl (pz_ar fp))), (oa, .inl (cyL, 1, .inr (.inl (vp_updL og 0 (pz_b (n % 8 = mk)).toInt64))))] := by rw [← hq9]; exact hD
    refine lv_goto (tgt := 22) hx hb dL_isMarket_16 (by decide) ?_
    refine lv_iconst (v := nI 0) hx hb dL_isMarket_22 (by decide) ?_
    exact hQ _ _ _ _ _ (pz_b (n % 8 = mk)) dL_isMarket_23 rfl (by exact ⟨rfl, rfl⟩) hP hD hS
  · -- 7 no
    refine lv_lconst (v := 1) hx hb dL_isMarket_10 (by decide) ?_
    refine lv_goto (tgt := 15) hx hb dL_isMarket_11 (by decide) ?_
    refine pn_last hx hb hK hP hD hS 4 1 rfl rfl (by decide) (by decide) dL_isMarket_15 (fun H locs hP hD hS => ?_)
    have hP : va_P D vwCl [(h0, .inr (0, [.ref ac, .ref ay, .ref ap, .int (nI mk)])), (ac, .inl (cyI, 365, .inl (pz_ar ch))), (ay, .inl (cyI, 60, .inl (pz_ar fy))), (ap, .inl (cyI, 60, .inl (pz_ar fp))), (oa, .inl (cyL, 1, .inr (.inl (vp_updL og 0 (1 : Int64)))))] H := hP
    have hD : va_D A [(h0, .inr (0, [.ref ac, .ref ay, .ref ap, .int (nI mk)])), (ac, .inl (cyI, 365, .inl (pz_ar ch))), (ay, .inl (cyI, 60, .inl (pz_ar fy))), (ap, .inl (cyI, 60, .inl (pz_ar fp))), (oa, .inl (cyL, 1, .inr (.inl (vp_updL og 0 (1 : Int64)))))] := hD
    have hq9 : vp_updL og 0 (1 : Int64) = vp_updL og 0 (pz_b (n % 8 = mk)).toInt64 := by rw [pz_bl1 (C := n % 8 = mk) (by assumption)]
    have hP : va_P D vwCl [(h0, .inr (0, [.ref ac, .ref ay, .ref ap, .int (nI mk)])), (ac, .inl (cyI, 365, .inl (pz_ar ch))), (ay, .inl (cyI, 60, .inl (pz_ar fy))), (ap, .inl (cyI, 60, .inl (pz_ar fp))), (oa, .inl (cyL, 1, .inr (.inl (vp_updL og 0 (pz_b (n % 8 = mk)).toInt64))))] H := by rw [← hq9]; exact hP
    have hD : va_D A [(h0, .inr (0, [.ref ac, .ref ay, .ref ap, .int (nI mk)])), (ac, .inl (cyI, 365, .inl (pz_ar ch))), (ay, .inl (cyI, 60, .inl (pz_ar fy))), (ap, .inl (cyI, 60, .inl (pz_ar fp))), (oa, .inl (cyL, 1, .inr (.inl (vp_updL og 0 (pz_b (n % 8 = mk)).toInt64))))] := by rw [← hq9]; exact hD
    refine lv_goto (tgt := 22) hx hb dL_isMarket_16 (by decide) ?_
    refine lv_iconst (v := nI 0) hx hb dL_isMarket_22 (by decide) ?_
    exact hQ _ _ _ _ _ (pz_b (n % 8 = mk)) dL_isMarket_23 rfl (by exact ⟨rfl, rfl⟩) hP hD hS
set_option maxHeartbeats 4000000 in
set_option maxRecDepth 100000 in
theorem k_L_marketLetters_x (l : Launch) (hfl : l.stackTraces = false) (D : va_G) (h0 ac ay ap oa : Nat) (cyI cyL : ClassId) (ts : List (ClassId × FieldType)) (mk : Nat) (ch fy fp : Nat → Nat) (og : Nat → Int64) (x : Int32) (hy0 : x.toInt < 1 ∨ 3000 < x.toInt) : pz_RX l yL_marketLetters wsL_marketLetters ({ frames := 8, cells := 1, slots := 6, locals := 129 } : Room) D ((cyI, .int) :: (cyL, .long) :: ts) [.ref h0, .int x, .ref oa] [(h0, .inr (0, [.ref ac, .ref ay, .ref ap, .int (nI mk)])), (ac, .inl (cyI, 365, .inl (pz_ar ch))), (ay, .inl (cyI, 60, .inl (pz_ar fy))), (ap, .inl (cyI, 60, .inl (pz_ar fp))), (oa, .inl (cyL, 1, .inr (.inl og)))] (fun r => r = nI 1) := by
  refine pz_RX_ofH (cc := cL_marketLetters) (maxL := 4) (ty := .int) (own := RL) (hh := [(0, 9, 12, 13)]) (by decide) rfl rfl (Nat.le_of_ble_eq_true rfl) ?_
  intro p e s m below meth c ls Q hx hb hml hown hts hK hP hD hS hl hth hnc htab hQ
  have hl : lv_has ls 4 [(0, .ref h0), (1, .int x), (2, .ref oa)] := hl
  refine lv_aload_n hx hb dL_marketLetters_0 rfl (lv_at hl 2 rfl) ?_
  refine lv_iconst (v := nI 0) hx hb dL_marketLetters_1 (by decide) ?_
  refine lv_aload_n hx hb dL_marketLetters_2 rfl (lv_at hl 0 rfl) ?_
  refine lv_iload_n hx hb dL_marketLetters_3 rfl (lv_at hl 1 rfl) ?_
  refine pz_VXK (E := "java/lang/IndexOutOfBoundsException") (rest := [.int (nI 0), .ref oa]) ⟨hx, hb, hml, hown, hts⟩ (k_X0_marketLetters_x l hfl D h0 ac ay ap cyI ((cyL, .long) :: ts) mk ch fy fp x (by exact hy0)) (cwV 1 hts gL_marketLetters_X0_marketLetters rfl rfl rfl (by decide +kernel) ⟨Nat.le_of_ble_eq_true rfl, Nat.le_of_ble_eq_true rfl⟩) hK hP hD hS hth [0, 1, 2, 3] rfl rfl rfl 0 0 rfl rfl rfl hl.1 rfl (lv_room (Nat.le_of_ble_eq_true rfl)) dL_marketLetters_4 ⟨Nat.le_of_ble_eq_true rfl, Nat.le_of_ble_eq_true rfl⟩ (fun ce q9 H locs hS hce hcv hcl => ?_)
  refine vx_catch (own := RL) (name := "java/lang/IndexOutOfBoundsException") hown [] ⟨0, 9, 12, 13⟩ [] (by rw [htab]; rfl) (fun z hz => nomatch hz) rfl (by decide) (hts (.classLink RL 13 "java/lang/IndexOutOfBoundsException") (by decide +kernel)) (va_Nw.use rfl (hth.2.2.2.1 "java/lang/IndexOutOfBoundsException" (by decide +kernel))) hce hcv hcl ?_
  refine lv_astore_n (lv' := [(3, .ref q9), (0, .ref h0), (1, .int x), (2, .ref oa)]) hx hb dL_marketLetters_12 rfl hl (by decide) rfl (fun ls hl => ?_)
  refine lv_iconst (v := nI 1) hx hb dL_marketLetters_13 (by decide) ?_
  exact hQ _ _ _ _ _ dL_marketLetters_14 rfl rfl hS
set_option maxHeartbeats 4000000 in
set_option maxRecDepth 100000 in
theorem k_L_marketLetters (l : Launch) (D : va_G) (h0 ac ay ap oa : Nat) (cyI cyL : ClassId) (ts : List (ClassId × FieldType)) (mk : Nat) (ch fy fp : Nat → Nat) (og : Nat → Int64) (y : Nat) (hy0 : 1 ≤ y) (hy1 : y ≤ 3000) (hmk : mk < 8) : pz_I l yL_marketLetters wsL_marketLetters ({ frames := 5, cells := 0, slots := 0, locals := 105 } : Room) D ((cyI, .int) :: (cyL, .long) :: ts) [.ref h0, .int (nI y), .ref oa] [(h0, .inr (0, [.ref ac, .ref ay, .ref ap, .int (nI mk)])), (ac, .inl (cyI, 365, .inl (pz_ar ch))), (ay, .inl (cyI, 60, .inl (pz_ar fy))), (ap, .inl (cyI, 60, .inl (pz_ar fp))), (oa, .inl (cyL, 1, .inr (.inl og)))] (S := Int32) (fun r u => r = nI 0 ∧ u = nI (10 * ((pm_pl (pm_fd y + ((((mk : Nat) : Int) - ((pm_fd y : Nat) : Int)) % 8).toNat) - 1) % 8) + (pm_pl (pm_fd (y + 1) - 1 - ((((pm_fd (y + 1) - 1 : Nat) : Int) - ((mk : Nat) : Int)) % 8).toNat) - 1) % 8)) (fun u => [(h0, .inr (0, [.ref ac, .ref ay, .ref ap, .int (nI mk)])), (ac, .inl (cyI, 365, .inl (pz_ar ch))), (ay, .inl (cyI, 60, .inl (pz_ar fy))), (ap, .inl (cyI, 60, .inl (pz_ar fp))), (oa, .inl (cyL, 1, .inr (.inl (vp_updL og 0 u.toInt64))))]) := by
  refine pz_I_ofH (cc := cL_marketLetters) (maxL := 4) (ty := .int) (own := RL) (hh := [(0, 9, 12, 13)]) (by decide) rfl rfl (Nat.le_of_ble_eq_true rfl) ?_
  intro p e s m below meth c A ls Q hx hb hml hown hts hK hP hD hS hA hl hQ
  have hl : lv_has ls 4 [(0, .ref h0), (1, .int (nI y)), (2, .ref oa)] := hl
  refine lv_aload_n hx hb dL_marketLetters_0 rfl (lv_at hl 2 rfl) ?_
  refine lv_iconst (v := nI 0) hx hb dL_marketLetters_1 (by decide) ?_
  refine lv_aload_n hx hb dL_marketLetters_2 rfl (lv_at hl 0 rfl) ?_
  refine lv_iload_n hx hb dL_marketLetters_3 rfl (lv_at hl 1 rfl) ?_
  refine pz_VR (rest := [.int (nI 0), .ref oa]) ⟨hx, hb, hml, hown, hts⟩ (k_X0_marketLetters l D h0 ac ay ap cyI ((cyL, .long) :: ts) mk ch fy fp y (by exact hy0) (by exact hy1) (by exact hmk)) (cwV 1 hts gL_marketLetters_X0_marketLetters rfl rfl rfl (by decide +kernel) ⟨Nat.le_of_ble_eq_true rfl, Nat.le_of_ble_eq_true rfl⟩) hK hP (hD.weaken (fun _ _ _ _ => trivial)) hS hA [0, 1, 2, 3] rfl rfl rfl 0 0 rfl rfl rfl hl.1 rfl (lv_room (Nat.le_of_ble_eq_true rfl)) dL_marketLetters_4 ⟨Nat.le_of_ble_eq_true rfl, Nat.le_of_ble_eq_true rfl⟩ (fun r H locs hr hP hS => ?_)
  obtain rfl : r = (nI (10 * ((pm_pl (pm_fd y + ((((mk : Nat) : Int) - ((pm_fd y : Nat) : Int)) % 8).toNat) - 1) % 8) + (pm_pl (pm_fd (y + 1) - 1 - ((((pm_fd (y + 1) - 1 : Nat) : Int) - ((mk : Nat) : Int)) % 8).toNat) - 1) % 8)) := hr
  refine lv_i2l (v := ((nI (10 * ((pm_pl (pm_fd y + ((((mk : Nat) : Int) - ((pm_fd y : Nat) : Int)) % 8).toNat) - 1) % 8) + (pm_pl (pm_fd (y + 1) - 1 - ((((pm_fd (y + 1) - 1 : Nat) : Int) - ((mk : Nat) : Int)) % 8).toNat) - 1) % 8))).toInt64) hx hb dL_marketLetters_7 rfl ?_
  refine pn_last hx hb hK hP hD hS 4 1 rfl rfl (by decide) (by decide) dL_marketLetters_8 (fun H locs hP hD hS => ?_)
  have hP : va_P D vwCl [(h0, .inr (0, [.ref ac, .ref ay, .ref ap, .int (nI mk)])), (ac, .inl (cyI, 365, .inl (pz_ar ch))), (ay, .inl (cyI, 60, .inl (pz_ar fy))), (ap, .inl (cyI, 60, .inl (pz_ar fp))), (oa, .inl (cyL, 1, .inr (.inl (vp_updL og 0 (((nI (10 * ((pm_pl (pm_fd y + ((((mk : Nat) : Int) - ((pm_fd y : Nat) : Int)) % 8).toNat) - 1) % 8) + (pm_pl (pm_fd (y + 1) - 1 - ((((pm_fd (y + 1) - 1 : Nat) : Int) - ((mk : Nat) : Int)) % 8).toNat) - 1) % 8))).toInt64)))))] H := hP
  have hD : va_D A [(h0, .inr (0, [.ref ac, .ref ay, .ref ap, .int (nI mk)])), (ac, .inl (cyI, 365, .inl (pz_ar ch))), (ay, .inl (cyI, 60, .inl (pz_ar fy))), (ap, .inl (cyI, 60, .inl (pz_ar fp))), (oa, .inl (cyL, 1, .inr (.inl (vp_updL og 0 (((nI (10 * ((pm_pl (pm_fd y + ((((mk : Nat) : Int) - ((pm_fd y : Nat) : Int)) % 8).toNat) - 1) % 8) + (pm_pl (pm_fd (y + 1) - 1 - ((((pm_fd (y + 1) - 1 : Nat) : Int) - ((mk : Nat) : Int)) % 8).toNat) - 1) % 8))).toInt64)))))] := hD
  refine lv_goto (tgt := 15) hx hb dL_marketLetters_9 (by decide) ?_
  refine lv_iconst (v := nI 0) hx hb dL_marketLetters_15 (by decide) ?_
  exact hQ _ _ _ _ _ (nI (10 * ((pm_pl (pm_fd y + ((((mk : Nat) : Int) - ((pm_fd y : Nat) : Int)) % 8).toNat) - 1) % 8) + (pm_pl (pm_fd (y + 1) - 1 - ((((pm_fd (y + 1) - 1 : Nat) : Int) - ((mk : Nat) : Int)) % 8).toNat) - 1) % 8)) dL_marketLetters_16 rfl (by exact ⟨rfl, rfl⟩) hP hD hS
set_option maxHeartbeats 4000000 in
set_option maxRecDepth 100000 in
theorem k_L_sundayLetters_x (l : Launch) (hfl : l.stackTraces = false) (D : va_G) (h0 ac ay ap oa : Nat) (cyI cyL : ClassId) (ts : List (ClassId × FieldType)) (mk : Nat) (ch fy fp : Nat → Nat) (og : Nat → Int64) (x : Int32) (hy0 : x.toInt < 1 ∨ 3000 < x.toInt) : pz_RX l yL_sundayLetters wsL_sundayLetters ({ frames := 8, cells := 1, slots := 6, locals := 129 } : Room) D ((cyI, .int) :: (cyL, .long) :: ts) [.ref h0, .int x, .ref oa] [(h0, .inr (0, [.ref ac, .ref ay, .ref ap, .int (nI mk)])), (ac, .inl (cyI, 365, .inl (pz_ar ch))), (ay, .inl (cyI, 60, .inl (pz_ar fy))), (ap, .inl (cyI, 60, .inl (pz_ar fp))), (oa, .inl (cyL, 1, .inr (.inl og)))] (fun r => r = nI 1) := by
  refine pz_RX_ofH (cc := cL_sundayLetters) (maxL := 4) (ty := .int) (own := RL) (hh := [(0, 9, 12, 13)]) (by decide) rfl rfl (Nat.le_of_ble_eq_true rfl) ?_
  intro p e s m below meth c ls Q hx hb hml hown hts hK hP hD hS hl hth hnc htab hQ
  have hl : lv_has ls 4 [(0, .ref h0), (1, .int x), (2, .ref oa)] := hl
  refine lv_aload_n hx hb dL_sundayLetters_0 rfl (lv_at hl 2 rfl) ?_
  refine lv_iconst (v := nI 0) hx hb dL_sundayLetters_1 (by decide) ?_
  refine lv_aload_n hx hb dL_sundayLetters_2 rfl (lv_at hl 0 rfl) ?_
  refine lv_iload_n hx hb dL_sundayLetters_3 rfl (lv_at hl 1 rfl) ?_
  refine pz_VXK (E := "java/lang/IndexOutOfBoundsException") (rest := [.int (nI 0), .ref oa]) ⟨hx, hb, hml, hown, hts⟩ (k_X0_sundayLetters_x l hfl D h0 ac ay ap cyI ((cyL, .long) :: ts) mk ch fy fp x (by exact hy0)) (cwV 1 hts gL_sundayLetters_X0_sundayLetters rfl rfl rfl (by decide +kernel) ⟨Nat.le_of_ble_eq_true rfl, Nat.le_of_ble_eq_true rfl⟩) hK hP hD hS hth [0, 1, 2, 3] rfl rfl rfl 0 0 rfl rfl rfl hl.1 rfl (lv_room (Nat.le_of_ble_eq_true rfl)) dL_sundayLetters_4 ⟨Nat.le_of_ble_eq_true rfl, Nat.le_of_ble_eq_true rfl⟩ (fun ce q9 H locs hS hce hcv hcl => ?_)
  refine vx_catch (own := RL) (name := "java/lang/IndexOutOfBoundsException") hown [] ⟨0, 9, 12, 13⟩ [] (by rw [htab]; rfl) (fun z hz => nomatch hz) rfl (by decide) (hts (.classLink RL 13 "java/lang/IndexOutOfBoundsException") (by decide +kernel)) (va_Nw.use rfl (hth.2.2.2.1 "java/lang/IndexOutOfBoundsException" (by decide +kernel))) hce hcv hcl ?_
  refine lv_astore_n (lv' := [(3, .ref q9), (0, .ref h0), (1, .int x), (2, .ref oa)]) hx hb dL_sundayLetters_12 rfl hl (by decide) rfl (fun ls hl => ?_)
  refine lv_iconst (v := nI 1) hx hb dL_sundayLetters_13 (by decide) ?_
  exact hQ _ _ _ _ _ dL_sundayLetters_14 rfl rfl hS
set_option maxHeartbeats 4000000 in
set_option maxRecDepth 100000 in
theorem k_L_sundayLetters (l : Launch) (D : va_G) (h0 ac ay ap oa : Nat) (cyI cyL : ClassId) (ts : List (ClassId × FieldType)) (mk : Nat) (ch fy fp : Nat → Nat) (og : Nat → Int64) (y : Nat) (hy0 : 1 ≤ y) (hy1 : y ≤ 3000) : pz_I l yL_sundayLetters wsL_sundayLetters ({ frames := 5, cells := 0, slots := 0, locals := 105 } : Room) D ((cyI, .int) :: (cyL, .long) :: ts) [.ref h0, .int (nI y), .ref oa] [(h0, .inr (0, [.ref ac, .ref ay, .ref ap, .int (nI mk)])), (ac, .inl (cyI, 365, .inl (pz_ar ch))), (ay, .inl (cyI, 60, .inl (pz_ar fy))), (ap, .inl (cyI, 60, .inl (pz_ar fp))), (oa, .inl (cyL, 1, .inr (.inl og)))] (S := Int32) (fun r u => r = nI 0 ∧ u = nI (10 * ((pm_pl (pm_fd y + ((((1 : Nat) : Int) - ((pm_fd y : Nat) : Int)) % 7).toNat) - 1) % 7) + (pm_pl (pm_fd (y + 1) - 1 - ((((pm_fd (y + 1) - 1 : Nat) : Int) - ((1 : Nat) : Int)) % 7).toNat) - 1) % 7)) (fun u => [(h0, .inr (0, [.ref ac, .ref ay, .ref ap, .int (nI mk)])), (ac, .inl (cyI, 365, .inl (pz_ar ch))), (ay, .inl (cyI, 60, .inl (pz_ar fy))), (ap, .inl (cyI, 60, .inl (pz_ar fp))), (oa, .inl (cyL, 1, .inr (.inl (vp_updL og 0 u.toInt64))))]) := by
  refine pz_I_ofH (cc := cL_sundayLetters) (maxL := 4) (ty := .int) (own := RL) (hh := [(0, 9, 12, 13)]) (by decide) rfl rfl (Nat.le_of_ble_eq_true rfl) ?_
  intro p e s m below meth c A ls Q hx hb hml hown hts hK hP hD hS hA hl hQ
  have hl : lv_has ls 4 [(0, .ref h0), (1, .int (nI y)), (2, .ref oa)] := hl
  refine lv_aload_n hx hb dL_sundayLetters_0 rfl (lv_at hl 2 rfl) ?_
  refine lv_iconst (v := nI 0) hx hb dL_sundayLetters_1 (by decide) ?_
  refine lv_aload_n hx hb dL_sundayLetters_2 rfl (lv_at hl 0 rfl) ?_
  refine lv_iload_n hx hb dL_sundayLetters_3 rfl (lv_at hl 1 rfl) ?_
  refine pz_VR (rest := [.int (nI 0), .ref oa]) ⟨hx, hb, hml, hown, hts⟩ (k_X0_sundayLetters l D h0 ac ay ap cyI ((cyL, .long) :: ts) mk ch fy fp y (by exact hy0) (by exact hy1)) (cwV 1 hts gL_sundayLetters_X0_sundayLetters rfl rfl rfl (by decide +kernel) ⟨Nat.le_of_ble_eq_true rfl, Nat.le_of_ble_eq_true rfl⟩) hK hP (hD.weaken (fun _ _ _ _ => trivial)) hS hA [0, 1, 2, 3] rfl rfl rfl 0 0 rfl rfl rfl hl.1 rfl (lv_room (Nat.le_of_ble_eq_true rfl)) dL_sundayLetters_4 ⟨Nat.le_of_ble_eq_true rfl, Nat.le_of_ble_eq_true rfl⟩ (fun r H locs hr hP hS => ?_)
  obtain rfl : r = (nI (10 * ((pm_pl (pm_fd y + ((((1 : Nat) : Int) - ((pm_fd y : Nat) : Int)) % 7).toNat) - 1) % 7) + (pm_pl (pm_fd (y + 1) - 1 - ((((pm_fd (y + 1) - 1 : Nat) : Int) - ((1 : Nat) : Int)) % 7).toNat) - 1) % 7)) := hr
  refine lv_i2l (v := ((nI (10 * ((pm_pl (pm_fd y + ((((1 : Nat) : Int) - ((pm_fd y : Nat) : Int)) % 7).toNat) - 1) % 7) + (pm_pl (pm_fd (y + 1) - 1 - ((((pm_fd (y + 1) - 1 : Nat) : Int) - ((1 : Nat) : Int)) % 7).toNat) - 1) % 7))).toInt64) hx hb dL_sundayLetters_7 rfl ?_
  refine pn_last hx hb hK hP hD hS 4 1 rfl rfl (by decide) (by decide) dL_sundayLetters_8 (fun H locs hP hD hS => ?_)
  have hP : va_P D vwCl [(h0, .inr (0, [.ref ac, .ref ay, .ref ap, .int (nI mk)])), (ac, .inl (cyI, 365, .inl (pz_ar ch))), (ay, .inl (cyI, 60, .inl (pz_ar fy))), (ap, .inl (cyI, 60, .inl (pz_ar fp))), (oa, .inl (cyL, 1, .inr (.inl (vp_updL og 0 (((nI (10 * ((pm_pl (pm_fd y + ((((1 : Nat) : Int) - ((pm_fd y : Nat) : Int)) % 7).toNat) - 1) % 7) + (pm_pl (pm_fd (y + 1) - 1 - ((((pm_fd (y + 1) - 1 : Nat) : Int) - ((1 : Nat) : Int)) % 7).toNat) - 1) % 7))).toInt64)))))] H := hP
  have hD : va_D A [(h0, .inr (0, [.ref ac, .ref ay, .ref ap, .int (nI mk)])), (ac, .inl (cyI, 365, .inl (pz_ar ch))), (ay, .inl (cyI, 60, .inl (pz_ar fy))), (ap, .inl (cyI, 60, .inl (pz_ar fp))), (oa, .inl (cyL, 1, .inr (.inl (vp_updL og 0 (((nI (10 * ((pm_pl (pm_fd y + ((((1 : Nat) : Int) - ((pm_fd y : Nat) : Int)) % 7).toNat) - 1) % 7) + (pm_pl (pm_fd (y + 1) - 1 - ((((pm_fd (y + 1) - 1 : Nat) : Int) - ((1 : Nat) : Int)) % 7).toNat) - 1) % 7))).toInt64)))))] := hD
  refine lv_goto (tgt := 15) hx hb dL_sundayLetters_9 (by decide) ?_
  refine lv_iconst (v := nI 0) hx hb dL_sundayLetters_15 (by decide) ?_
  exact hQ _ _ _ _ _ (nI (10 * ((pm_pl (pm_fd y + ((((1 : Nat) : Int) - ((pm_fd y : Nat) : Int)) % 7).toNat) - 1) % 7) + (pm_pl (pm_fd (y + 1) - 1 - ((((pm_fd (y + 1) - 1 : Nat) : Int) - ((1 : Nat) : Int)) % 7).toNat) - 1) % 7)) dL_sundayLetters_16 rfl (by exact ⟨rfl, rfl⟩) hP hD hS
set_option maxHeartbeats 4000000 in
set_option maxRecDepth 100000 in
theorem k_L_setConsuls_x (l : Launch) (hfl : l.stackTraces = false) (D : va_G) (h0 ac ay ap oa : Nat) (cyI cyL : ClassId) (ts : List (ClassId × FieldType)) (mk : Nat) (ch fy fp : Nat → Nat) (og : Nat → Int64) (x x2 x3 : Int32) (hy0 : x.toInt < 1 ∨ 3000 < x.toInt) : pz_RX l yL_setConsuls wsL_setConsuls ({ frames := 8, cells := 1, slots := 6, locals := 128 } : Room) D ((cyI, .int) :: (cyL, .long) :: ts) [.ref h0, .int x, .int x2, .int x3, .ref oa] [(h0, .inr (0, [.ref ac, .ref ay, .ref ap, .int (nI mk)])), (ac, .inl (cyI, 365, .inl (pz_ar ch))), (ay, .inl (cyI, 60, .inl (pz_ar fy))), (ap, .inl (cyI, 60, .inl (pz_ar fp))), (oa, .inl (cyL, 1, .inr (.inl og)))] (fun r => r = nI 1) := by
  refine pz_RX_ofH (cc := cL_setConsuls) (maxL := 6) (ty := .int) (own := RL) (hh := [(0, 12, 15, 13), (0, 12, 19, 48), (0, 12, 23, 50)]) (by decide) rfl rfl (Nat.le_of_ble_eq_true rfl) ?_
  intro p e s m below meth c ls Q hx hb hml hown hts hK hP hD hS hl hth hnc htab hQ
  have hl : lv_has ls 6 [(0, .ref h0), (1, .int x), (2, .int x2), (3, .int x3), (4, .ref oa)] := hl
  refine lv_aload hx hb dL_setConsuls_0 (lv_at hl 4 rfl) ?_
  refine lv_iconst (v := nI 0) hx hb dL_setConsuls_2 (by decide) ?_
  refine lv_aload_n hx hb dL_setConsuls_3 rfl (lv_at hl 0 rfl) ?_
  refine lv_iload_n hx hb dL_setConsuls_4 rfl (lv_at hl 1 rfl) ?_
  refine lv_iload_n hx hb dL_setConsuls_5 rfl (lv_at hl 2 rfl) ?_
  refine lv_iload_n hx hb dL_setConsuls_6 rfl (lv_at hl 3 rfl) ?_
  refine pz_VXK (E := "java/lang/IndexOutOfBoundsException") (rest := [.int (nI 0), .ref oa]) ⟨hx, hb, hml, hown, hts⟩ (k_X0_setConsuls_x l hfl D h0 ac ay ap cyI ((cyL, .long) :: ts) mk ch fy fp x x2 x3 (by exact hy0)) (cwV 3 hts gL_setConsuls_X0_setConsuls rfl rfl rfl (by decide +kernel) ⟨Nat.le_of_ble_eq_true rfl, Nat.le_of_ble_eq_true rfl⟩) hK hP hD hS hth [0, 1, 2, 3] rfl rfl rfl 0 0 rfl rfl rfl hl.1 rfl (lv_room (Nat.le_of_ble_eq_true rfl)) dL_setConsuls_7 ⟨Nat.le_of_ble_eq_true rfl, Nat.le_of_ble_eq_true rfl⟩ (fun ce q9 H locs hS hce hcv hcl => ?_)
  refine vx_catch (own := RL) (name := "java/lang/IndexOutOfBoundsException") hown [] ⟨0, 12, 15, 13⟩ [⟨0, 12, 19, 48⟩, ⟨0, 12, 23, 50⟩] (by rw [htab]; rfl) (fun z hz => nomatch hz) rfl (by decide) (hts (.classLink RL 13 "java/lang/IndexOutOfBoundsException") (by decide +kernel)) (va_Nw.use rfl (hth.2.2.2.1 "java/lang/IndexOutOfBoundsException" (by decide +kernel))) hce hcv hcl ?_
  refine lv_astore (lv' := [(5, .ref q9), (0, .ref h0), (1, .int x), (2, .int x2), (3, .int x3), (4, .ref oa)]) hx hb dL_setConsuls_15 hl (by decide) rfl (fun ls hl => ?_)
  refine lv_iconst (v := nI 1) hx hb dL_setConsuls_17 (by decide) ?_
  exact hQ _ _ _ _ _ dL_setConsuls_18 rfl rfl hS
set_option maxHeartbeats 4000000 in
set_option maxRecDepth 100000 in
theorem k_L_setConsuls (l : Launch) (D : va_G) (h0 ac ay ap oa : Nat) (cyI cyL : ClassId) (ts : List (ClassId × FieldType)) (mk : Nat) (ch fy fp : Nat → Nat) (og : Nat → Int64) (y fa se : Nat) (hy0 : 1 ≤ y) (hy1 : y ≤ 3000) (hy2 : 1 ≤ fa) (hy3 : fa ≤ 999) (hy4 : 1 ≤ se) (hy5 : se ≤ 999) (hy6 : ¬ fa = se) (hfy : ∀ j, j < 60 → fy j ≤ 3000) (hav : (∃ i, i < 60 ∧ fy i = y) ∨ ∃ i, i < 60 ∧ fy i = 0) : pz_I l yL_setConsuls wsL_setConsuls ({ frames := 2, cells := 0, slots := 0, locals := 46 } : Room) D ((cyI, .int) :: (cyL, .long) :: ts) [.ref h0, .int (nI y), .int (nI fa), .int (nI se), .ref oa] [(h0, .inr (0, [.ref ac, .ref ay, .ref ap, .int (nI mk)])), (ac, .inl (cyI, 365, .inl (pz_ar ch))), (ay, .inl (cyI, 60, .inl (pz_ar fy))), (ap, .inl (cyI, 60, .inl (pz_ar fp))), (oa, .inl (cyL, 1, .inr (.inl og)))] (S := Int32 × Nat) (fun r u => r = nI 0 ∧ (fun r i => i < 60 ∧ r = nI (pm_cc (pz_u fy i y) 60) ∧ (fy i = y ∨ ((∀ j, j < 60 → ¬ fy j = y) ∧ fy i = 0))) u.1 u.2) (fun u => [(oa, .inl (cyL, 1, .inr (.inl (vp_updL og 0 u.1.toInt64)))), (h0, .inr (0, [.ref ac, .ref ay, .ref ap, .int (nI mk)])), (ac, .inl (cyI, 365, .inl (pz_ar ch))), (ay, .inl (cyI, 60, .inl (pz_ar (pz_u fy u.2 y)))), (ap, .inl (cyI, 60, .inl (pz_ar (pz_u fp u.2 (1000 * fa + se)))))]) := by
  refine pz_I_ofH (cc := cL_setConsuls) (maxL := 6) (ty := .int) (own := RL) (hh := [(0, 12, 15, 13), (0, 12, 19, 48), (0, 12, 23, 50)]) (by decide) rfl rfl (Nat.le_of_ble_eq_true rfl) ?_
  intro p e s m below meth c A ls Q hx hb hml hown hts hK hP hD hS hA hl hQ
  have hl : lv_has ls 6 [(0, .ref h0), (1, .int (nI y)), (2, .int (nI fa)), (3, .int (nI se)), (4, .ref oa)] := hl
  refine lv_aload hx hb dL_setConsuls_0 (lv_at hl 4 rfl) ?_
  refine lv_iconst (v := nI 0) hx hb dL_setConsuls_2 (by decide) ?_
  refine lv_aload_n hx hb dL_setConsuls_3 rfl (lv_at hl 0 rfl) ?_
  refine lv_iload_n hx hb dL_setConsuls_4 rfl (lv_at hl 1 rfl) ?_
  refine lv_iload_n hx hb dL_setConsuls_5 rfl (lv_at hl 2 rfl) ?_
  refine lv_iload_n hx hb dL_setConsuls_6 rfl (lv_at hl 3 rfl) ?_
  refine pz_VI (rest := [.int (nI 0), .ref oa]) (wr := [(oa, .inl (cyL, 1, .inr (.inl og)))]) ⟨hx, hb, hml, hown, hts⟩ (k_X0_setConsuls l D h0 ac ay ap cyI ((cyL, .long) :: ts) mk ch fy fp y fa se (by exact hy0) (by exact hy1) (by exact hy2) (by exact hy3) (by exact hy4) (by exact hy5) (by exact hy6) (by exact hfy) (by exact hav)) (cwV 3 hts gL_setConsuls_X0_setConsuls rfl rfl rfl (by decide +kernel) ⟨Nat.le_of_ble_eq_true rfl, Nat.le_of_ble_eq_true rfl⟩) hK hP hD hS hA [0, 1, 2, 3] [4] rfl rfl rfl rfl rfl (by decide) 0 0 rfl rfl rfl hl.1 rfl (lv_room (Nat.le_of_ble_eq_true rfl)) dL_setConsuls_7 ⟨Nat.le_of_ble_eq_true rfl, Nat.le_of_ble_eq_true rfl⟩ (fun r u H locs hr hP hD hS => ?_)
  obtain ⟨i_1, rfl⟩ : ∃ z, z = u := ⟨_, rfl⟩
  have hP : va_P D vwCl [(oa, .inl (cyL, 1, .inr (.inl og))), (h0, .inr (0, [.ref ac, .ref ay, .ref ap, .int (nI mk)])), (ac, .inl (cyI, 365, .inl (pz_ar ch))), (ay, .inl (cyI, 60, .inl (pz_ar (pz_u fy i_1 y)))), (ap, .inl (cyI, 60, .inl (pz_ar (pz_u fp i_1 (1000 * fa + se)))))] H := hP
  have hD : va_D A [(oa, .inl (cyL, 1, .inr (.inl og))), (h0, .inr (0, [.ref ac, .ref ay, .ref ap, .int (nI mk)])), (ac, .inl (cyI, 365, .inl (pz_ar ch))), (ay, .inl (cyI, 60, .inl (pz_ar (pz_u fy i_1 y)))), (ap, .inl (cyI, 60, .inl (pz_ar (pz_u fp i_1 (1000 * fa + se)))))] := hD
  have hr_1 := hr
  obtain ⟨r_1, er_1⟩ : ∃ z, z = r := ⟨_, rfl⟩
  subst er_1
  refine lv_i2l (v := (r_1).toInt64) hx hb dL_setConsuls_10 rfl ?_
  refine pn_last hx hb hK hP hD hS 0 1 rfl rfl (by decide) (by decide) dL_setConsuls_11 (fun H locs hP hD hS => ?_)
  have hP : va_P D vwCl [(oa, .inl (cyL, 1, .inr (.inl (vp_updL og 0 ((r_1).toInt64))))), (h0, .inr (0, [.ref ac, .ref ay, .ref ap, .int (nI mk)])), (ac, .inl (cyI, 365, .inl (pz_ar ch))), (ay, .inl (cyI, 60, .inl (pz_ar (pz_u fy i_1 y)))), (ap, .inl (cyI, 60, .inl (pz_ar (pz_u fp i_1 (1000 * fa + se)))))] H := hP
  have hD : va_D A [(oa, .inl (cyL, 1, .inr (.inl (vp_updL og 0 ((r_1).toInt64))))), (h0, .inr (0, [.ref ac, .ref ay, .ref ap, .int (nI mk)])), (ac, .inl (cyI, 365, .inl (pz_ar ch))), (ay, .inl (cyI, 60, .inl (pz_ar (pz_u fy i_1 y)))), (ap, .inl (cyI, 60, .inl (pz_ar (pz_u fp i_1 (1000 * fa + se)))))] := hD
  refine lv_goto (tgt := 27) hx hb dL_setConsuls_12 (by decide) ?_
  refine lv_iconst (v := nI 0) hx hb dL_setConsuls_27 (by decide) ?_
  exact hQ _ _ _ _ _ (r_1, i_1) dL_setConsuls_28 rfl (by exact ⟨rfl, by assumption⟩) hP hD hS
set_option maxHeartbeats 4000000 in
set_option maxRecDepth 100000 in
theorem k_L_setConsuls_x2 (l : Launch) (hfl : l.stackTraces = false) (D : va_G) (h0 ac ay ap oa : Nat) (cyI cyL : ClassId) (ts : List (ClassId × FieldType)) (mk : Nat) (ch fy fp : Nat → Nat) (og : Nat → Int64) (y : Nat) (x2 x3 : Int32) (hy0 : 1 ≤ y) (hy1 : y ≤ 3000) (hy2 : ¬ (1 ≤ x2.toInt ∧ x2.toInt ≤ 999 ∧ 1 ≤ x3.toInt ∧ x3.toInt ≤ 999 ∧ ¬ x2.toInt = x3.toInt)) : pz_RX l yL_setConsuls wsL_setConsuls ({ frames := 8, cells := 1, slots := 6, locals := 128 } : Room) D ((cyI, .int) :: (cyL, .long) :: ts) [.ref h0, .int (nI y), .int x2, .int x3, .ref oa] [(h0, .inr (0, [.ref ac, .ref ay, .ref ap, .int (nI mk)])), (ac, .inl (cyI, 365, .inl (pz_ar ch))), (ay, .inl (cyI, 60, .inl (pz_ar fy))), (ap, .inl (cyI, 60, .inl (pz_ar fp))), (oa, .inl (cyL, 1, .inr (.inl og)))] (fun r => r = nI 2) := by
  refine pz_RX_ofH (cc := cL_setConsuls) (maxL := 6) (ty := .int) (own := RL) (hh := [(0, 12, 15, 13), (0, 12, 19, 48), (0, 12, 23, 50)]) (by decide) rfl rfl (Nat.le_of_ble_eq_true rfl) ?_
  intro p e s m below meth c ls Q hx hb hml hown hts hK hP hD hS hl hth hnc htab hQ
  have hl : lv_has ls 6 [(0, .ref h0), (1, .int (nI y)), (2, .int x2), (3, .int x3), (4, .ref oa)] := hl
  refine lv_aload hx hb dL_setConsuls_0 (lv_at hl 4 rfl) ?_
  refine lv_iconst (v := nI 0) hx hb dL_setConsuls_2 (by decide) ?_
  refine lv_aload_n hx hb dL_setConsuls_3 rfl (lv_at hl 0 rfl) ?_
  refine lv_iload_n hx hb dL_setConsuls_4 rfl (lv_at hl 1 rfl) ?_
  refine lv_iload_n hx hb dL_setConsuls_5 rfl (lv_at hl 2 rfl) ?_
  refine lv_iload_n hx hb dL_setConsuls_6 rfl (lv_at hl 3 rfl) ?_
  refine pz_VXK (E := "java/lang/IllegalArgumentException") (rest := [.int (nI 0), .ref oa]) ⟨hx, hb, hml, hown, hts⟩ (k_X0_setConsuls_x2 l hfl D h0 ac ay ap cyI ((cyL, .long) :: ts) mk ch fy fp y x2 x3 (by exact hy0) (by exact hy1) (by exact hy2)) (cwV 3 hts gL_setConsuls_X0_setConsuls rfl rfl rfl (by decide +kernel) ⟨Nat.le_of_ble_eq_true rfl, Nat.le_of_ble_eq_true rfl⟩) hK hP hD hS hth [0, 1, 2, 3] rfl rfl rfl 0 0 rfl rfl rfl hl.1 rfl (lv_room (Nat.le_of_ble_eq_true rfl)) dL_setConsuls_7 ⟨Nat.le_of_ble_eq_true rfl, Nat.le_of_ble_eq_true rfl⟩ (fun ce q9 H locs hS hce hcv hcl => ?_)
  refine vx_catch (own := RL) (name := "java/lang/IllegalArgumentException") hown [⟨0, 12, 15, 13⟩] ⟨0, 12, 19, 48⟩ [⟨0, 12, 23, 50⟩] (by rw [htab]; rfl) (List.forall_mem_cons.mpr ⟨Or.inr ⟨by decide, "java/lang/IndexOutOfBoundsException", hts (.classLink RL 13 "java/lang/IndexOutOfBoundsException") (by decide +kernel), hnc.1⟩, (fun z hz => nomatch hz)⟩) rfl (by decide) (hts (.classLink RL 48 "java/lang/IllegalArgumentException") (by decide +kernel)) (va_Nw.use rfl (hth.2.2.2.1 "java/lang/IllegalArgumentException" (by decide +kernel))) hce hcv hcl ?_
  refine lv_astore (lv' := [(5, .ref q9), (0, .ref h0), (1, .int (nI y)), (2, .int x2), (3, .int x3), (4, .ref oa)]) hx hb dL_setConsuls_19 hl (by decide) rfl (fun ls hl => ?_)
  refine lv_iconst (v := nI 2) hx hb dL_setConsuls_21 (by decide) ?_
  exact hQ _ _ _ _ _ dL_setConsuls_22 rfl rfl hS
set_option maxHeartbeats 4000000 in
set_option maxRecDepth 100000 in
theorem k_L_setConsuls_x3 (l : Launch) (hfl : l.stackTraces = false) (D : va_G) (h0 ac ay ap oa : Nat) (cyI cyL : ClassId) (ts : List (ClassId × FieldType)) (mk : Nat) (ch fy fp : Nat → Nat) (og : Nat → Int64) (y fa se : Nat) (hy0 : 1 ≤ y) (hy1 : y ≤ 3000) (hy2 : 1 ≤ fa) (hy3 : fa ≤ 999) (hy4 : 1 ≤ se) (hy5 : se ≤ 999) (hy6 : ¬ fa = se) (hfy : ∀ j, j < 60 → fy j ≤ 3000) (hn1 : ∀ j, j < 60 → ¬ fy j = y) (hn2 : ∀ j, j < 60 → ¬ fy j = 0) : pz_RX l yL_setConsuls wsL_setConsuls ({ frames := 8, cells := 1, slots := 6, locals := 128 } : Room) D ((cyI, .int) :: (cyL, .long) :: ts) [.ref h0, .int (nI y), .int (nI fa), .int (nI se), .ref oa] [(h0, .inr (0, [.ref ac, .ref ay, .ref ap, .int (nI mk)])), (ac, .inl (cyI, 365, .inl (pz_ar ch))), (ay, .inl (cyI, 60, .inl (pz_ar fy))), (ap, .inl (cyI, 60, .inl (pz_ar fp))), (oa, .inl (cyL, 1, .inr (.inl og)))] (fun r => r = nI 3) := by
  refine pz_RX_ofH (cc := cL_setConsuls) (maxL := 6) (ty := .int) (own := RL) (hh := [(0, 12, 15, 13), (0, 12, 19, 48), (0, 12, 23, 50)]) (by decide) rfl rfl (Nat.le_of_ble_eq_true rfl) ?_
  intro p e s m below meth c ls Q hx hb hml hown hts hK hP hD hS hl hth hnc htab hQ
  have hl : lv_has ls 6 [(0, .ref h0), (1, .int (nI y)), (2, .int (nI fa)), (3, .int (nI se)), (4, .ref oa)] := hl
  refine lv_aload hx hb dL_setConsuls_0 (lv_at hl 4 rfl) ?_
  refine lv_iconst (v := nI 0) hx hb dL_setConsuls_2 (by decide) ?_
  refine lv_aload_n hx hb dL_setConsuls_3 rfl (lv_at hl 0 rfl) ?_
  refine lv_iload_n hx hb dL_setConsuls_4 rfl (lv_at hl 1 rfl) ?_
  refine lv_iload_n hx hb dL_setConsuls_5 rfl (lv_at hl 2 rfl) ?_
  refine lv_iload_n hx hb dL_setConsuls_6 rfl (lv_at hl 3 rfl) ?_
  refine pz_VXK (E := "java/lang/IllegalStateException") (rest := [.int (nI 0), .ref oa]) ⟨hx, hb, hml, hown, hts⟩ (k_X0_setConsuls_x3 l hfl D h0 ac ay ap cyI ((cyL, .long) :: ts) mk ch fy fp y fa se (by exact hy0) (by exact hy1) (by exact hy2) (by exact hy3) (by exact hy4) (by exact hy5) (by exact hy6) (by exact hfy) (by exact hn1) (by exact hn2)) (cwV 3 hts gL_setConsuls_X0_setConsuls rfl rfl rfl (by decide +kernel) ⟨Nat.le_of_ble_eq_true rfl, Nat.le_of_ble_eq_true rfl⟩) hK hP hD hS hth [0, 1, 2, 3] rfl rfl rfl 0 0 rfl rfl rfl hl.1 rfl (lv_room (Nat.le_of_ble_eq_true rfl)) dL_setConsuls_7 ⟨Nat.le_of_ble_eq_true rfl, Nat.le_of_ble_eq_true rfl⟩ (fun ce q9 H locs hS hce hcv hcl => ?_)
  refine vx_catch (own := RL) (name := "java/lang/IllegalStateException") hown [⟨0, 12, 15, 13⟩, ⟨0, 12, 19, 48⟩] ⟨0, 12, 23, 50⟩ [] (by rw [htab]; rfl) (List.forall_mem_cons.mpr ⟨Or.inr ⟨by decide, "java/lang/IndexOutOfBoundsException", hts (.classLink RL 13 "java/lang/IndexOutOfBoundsException") (by decide +kernel), hnc.2.1⟩, (List.forall_mem_cons.mpr ⟨Or.inr ⟨by decide, "java/lang/IllegalArgumentException", hts (.classLink RL 48 "java/lang/IllegalArgumentException") (by decide +kernel), hnc.2.2⟩, (fun z hz => nomatch hz)⟩)⟩) rfl (by decide) (hts (.classLink RL 50 "java/lang/IllegalStateException") (by decide +kernel)) (va_Nw.use rfl (hth.2.2.2.1 "java/lang/IllegalStateException" (by decide +kernel))) hce hcv hcl ?_
  refine lv_astore (lv' := [(5, .ref q9), (0, .ref h0), (1, .int (nI y)), (2, .int (nI fa)), (3, .int (nI se)), (4, .ref oa)]) hx hb dL_setConsuls_23 hl (by decide) rfl (fun ls hl => ?_)
  refine lv_iconst (v := nI 3) hx hb dL_setConsuls_25 (by decide) ?_
  exact hQ _ _ _ _ _ dL_setConsuls_26 rfl rfl hS
set_option maxHeartbeats 4000000 in
set_option maxRecDepth 100000 in
theorem k_L_strikeConsuls_x (l : Launch) (hfl : l.stackTraces = false) (D : va_G) (h0 ac ay ap oa : Nat) (cyI cyL : ClassId) (ts : List (ClassId × FieldType)) (mk : Nat) (ch fy fp : Nat → Nat) (og : Nat → Int64) (x : Int32) (hy0 : x.toInt < 1 ∨ 3000 < x.toInt) : pz_RX l yL_strikeConsuls wsL_strikeConsuls ({ frames := 8, cells := 1, slots := 6, locals := 126 } : Room) D ((cyI, .int) :: (cyL, .long) :: ts) [.ref h0, .int x, .ref oa] [(h0, .inr (0, [.ref ac, .ref ay, .ref ap, .int (nI mk)])), (ac, .inl (cyI, 365, .inl (pz_ar ch))), (ay, .inl (cyI, 60, .inl (pz_ar fy))), (ap, .inl (cyI, 60, .inl (pz_ar fp))), (oa, .inl (cyL, 1, .inr (.inl og)))] (fun r => r = nI 1) := by
  refine pz_RX_ofH (cc := cL_strikeConsuls) (maxL := 4) (ty := .int) (own := RL) (hh := [(0, 9, 12, 13), (0, 9, 15, 50)]) (by decide) rfl rfl (Nat.le_of_ble_eq_true rfl) ?_
  intro p e s m below meth c ls Q hx hb hml hown hts hK hP hD hS hl hth hnc htab hQ
  have hl : lv_has ls 4 [(0, .ref h0), (1, .int x), (2, .ref oa)] := hl
  refine lv_aload_n hx hb dL_strikeConsuls_0 rfl (lv_at hl 2 rfl) ?_
  refine lv_iconst (v := nI 0) hx hb dL_strikeConsuls_1 (by decide) ?_
  refine lv_aload_n hx hb dL_strikeConsuls_2 rfl (lv_at hl 0 rfl) ?_
  refine lv_iload_n hx hb dL_strikeConsuls_3 rfl (lv_at hl 1 rfl) ?_
  refine pz_VXK (E := "java/lang/IndexOutOfBoundsException") (rest := [.int (nI 0), .ref oa]) ⟨hx, hb, hml, hown, hts⟩ (k_X0_strikeConsuls_x l hfl D h0 ac ay ap cyI ((cyL, .long) :: ts) mk ch fy fp x (by exact hy0)) (cwV 1 hts gL_strikeConsuls_X0_strikeConsuls rfl rfl rfl (by decide +kernel) ⟨Nat.le_of_ble_eq_true rfl, Nat.le_of_ble_eq_true rfl⟩) hK hP hD hS hth [0, 1, 2, 3] rfl rfl rfl 0 0 rfl rfl rfl hl.1 rfl (lv_room (Nat.le_of_ble_eq_true rfl)) dL_strikeConsuls_4 ⟨Nat.le_of_ble_eq_true rfl, Nat.le_of_ble_eq_true rfl⟩ (fun ce q9 H locs hS hce hcv hcl => ?_)
  refine vx_catch (own := RL) (name := "java/lang/IndexOutOfBoundsException") hown [] ⟨0, 9, 12, 13⟩ [⟨0, 9, 15, 50⟩] (by rw [htab]; rfl) (fun z hz => nomatch hz) rfl (by decide) (hts (.classLink RL 13 "java/lang/IndexOutOfBoundsException") (by decide +kernel)) (va_Nw.use rfl (hth.2.2.2.1 "java/lang/IndexOutOfBoundsException" (by decide +kernel))) hce hcv hcl ?_
  refine lv_astore_n (lv' := [(3, .ref q9), (0, .ref h0), (1, .int x), (2, .ref oa)]) hx hb dL_strikeConsuls_12 rfl hl (by decide) rfl (fun ls hl => ?_)
  refine lv_iconst (v := nI 1) hx hb dL_strikeConsuls_13 (by decide) ?_
  exact hQ _ _ _ _ _ dL_strikeConsuls_14 rfl rfl hS
set_option maxHeartbeats 4000000 in
set_option maxRecDepth 100000 in
theorem k_L_strikeConsuls (l : Launch) (D : va_G) (h0 ac ay ap oa : Nat) (cyI cyL : ClassId) (ts : List (ClassId × FieldType)) (mk : Nat) (ch fy fp : Nat → Nat) (og : Nat → Int64) (y : Nat) (hy0 : 1 ≤ y) (hy1 : y ≤ 3000) (hfy : ∀ j, j < 60 → fy j ≤ 3000) (hav : ∃ i, i < 60 ∧ fy i = y) : pz_I l yL_strikeConsuls wsL_strikeConsuls ({ frames := 2, cells := 0, slots := 0, locals := 44 } : Room) D ((cyI, .int) :: (cyL, .long) :: ts) [.ref h0, .int (nI y), .ref oa] [(h0, .inr (0, [.ref ac, .ref ay, .ref ap, .int (nI mk)])), (ac, .inl (cyI, 365, .inl (pz_ar ch))), (ay, .inl (cyI, 60, .inl (pz_ar fy))), (ap, .inl (cyI, 60, .inl (pz_ar fp))), (oa, .inl (cyL, 1, .inr (.inl og)))] (S := Int32 × Nat) (fun r u => r = nI 0 ∧ (fun r i => i < 60 ∧ r = nI (pm_cc (pz_u fy i 0) 60) ∧ fy i = y) u.1 u.2) (fun u => [(oa, .inl (cyL, 1, .inr (.inl (vp_updL og 0 u.1.toInt64)))), (h0, .inr (0, [.ref ac, .ref ay, .ref ap, .int (nI mk)])), (ac, .inl (cyI, 365, .inl (pz_ar ch))), (ay, .inl (cyI, 60, .inl (pz_ar (pz_u fy u.2 0)))), (ap, .inl (cyI, 60, .inl (pz_ar fp)))]) := by
  refine pz_I_ofH (cc := cL_strikeConsuls) (maxL := 4) (ty := .int) (own := RL) (hh := [(0, 9, 12, 13), (0, 9, 15, 50)]) (by decide) rfl rfl (Nat.le_of_ble_eq_true rfl) ?_
  intro p e s m below meth c A ls Q hx hb hml hown hts hK hP hD hS hA hl hQ
  have hl : lv_has ls 4 [(0, .ref h0), (1, .int (nI y)), (2, .ref oa)] := hl
  refine lv_aload_n hx hb dL_strikeConsuls_0 rfl (lv_at hl 2 rfl) ?_
  refine lv_iconst (v := nI 0) hx hb dL_strikeConsuls_1 (by decide) ?_
  refine lv_aload_n hx hb dL_strikeConsuls_2 rfl (lv_at hl 0 rfl) ?_
  refine lv_iload_n hx hb dL_strikeConsuls_3 rfl (lv_at hl 1 rfl) ?_
  refine pz_VI (rest := [.int (nI 0), .ref oa]) (wr := [(oa, .inl (cyL, 1, .inr (.inl og)))]) ⟨hx, hb, hml, hown, hts⟩ (k_X0_strikeConsuls l D h0 ac ay ap cyI ((cyL, .long) :: ts) mk ch fy fp y (by exact hy0) (by exact hy1) (by exact hfy) (by exact hav)) (cwV 1 hts gL_strikeConsuls_X0_strikeConsuls rfl rfl rfl (by decide +kernel) ⟨Nat.le_of_ble_eq_true rfl, Nat.le_of_ble_eq_true rfl⟩) hK hP hD hS hA [0, 1, 2, 3] [4] rfl rfl rfl rfl rfl (by decide) 0 0 rfl rfl rfl hl.1 rfl (lv_room (Nat.le_of_ble_eq_true rfl)) dL_strikeConsuls_4 ⟨Nat.le_of_ble_eq_true rfl, Nat.le_of_ble_eq_true rfl⟩ (fun r u H locs hr hP hD hS => ?_)
  obtain ⟨i_1, rfl⟩ : ∃ z, z = u := ⟨_, rfl⟩
  have hP : va_P D vwCl [(oa, .inl (cyL, 1, .inr (.inl og))), (h0, .inr (0, [.ref ac, .ref ay, .ref ap, .int (nI mk)])), (ac, .inl (cyI, 365, .inl (pz_ar ch))), (ay, .inl (cyI, 60, .inl (pz_ar (pz_u fy i_1 0)))), (ap, .inl (cyI, 60, .inl (pz_ar fp)))] H := hP
  have hD : va_D A [(oa, .inl (cyL, 1, .inr (.inl og))), (h0, .inr (0, [.ref ac, .ref ay, .ref ap, .int (nI mk)])), (ac, .inl (cyI, 365, .inl (pz_ar ch))), (ay, .inl (cyI, 60, .inl (pz_ar (pz_u fy i_1 0)))), (ap, .inl (cyI, 60, .inl (pz_ar fp)))] := hD
  have hr_1 := hr
  obtain ⟨r_1, er_1⟩ : ∃ z, z = r := ⟨_, rfl⟩
  subst er_1
  refine lv_i2l (v := (r_1).toInt64) hx hb dL_strikeConsuls_7 rfl ?_
  refine pn_last hx hb hK hP hD hS 0 1 rfl rfl (by decide) (by decide) dL_strikeConsuls_8 (fun H locs hP hD hS => ?_)
  have hP : va_P D vwCl [(oa, .inl (cyL, 1, .inr (.inl (vp_updL og 0 ((r_1).toInt64))))), (h0, .inr (0, [.ref ac, .ref ay, .ref ap, .int (nI mk)])), (ac, .inl (cyI, 365, .inl (pz_ar ch))), (ay, .inl (cyI, 60, .inl (pz_ar (pz_u fy i_1 0)))), (ap, .inl (cyI, 60, .inl (pz_ar fp)))] H := hP
  have hD : va_D A [(oa, .inl (cyL, 1, .inr (.inl (vp_updL og 0 ((r_1).toInt64))))), (h0, .inr (0, [.ref ac, .ref ay, .ref ap, .int (nI mk)])), (ac, .inl (cyI, 365, .inl (pz_ar ch))), (ay, .inl (cyI, 60, .inl (pz_ar (pz_u fy i_1 0)))), (ap, .inl (cyI, 60, .inl (pz_ar fp)))] := hD
  refine lv_goto (tgt := 18) hx hb dL_strikeConsuls_9 (by decide) ?_
  refine lv_iconst (v := nI 0) hx hb dL_strikeConsuls_18 (by decide) ?_
  exact hQ _ _ _ _ _ (r_1, i_1) dL_strikeConsuls_19 rfl (by exact ⟨rfl, by assumption⟩) hP hD hS
set_option maxHeartbeats 4000000 in
set_option maxRecDepth 100000 in
theorem k_L_strikeConsuls_x2 (l : Launch) (hfl : l.stackTraces = false) (D : va_G) (h0 ac ay ap oa : Nat) (cyI cyL : ClassId) (ts : List (ClassId × FieldType)) (mk : Nat) (ch fy fp : Nat → Nat) (og : Nat → Int64) (y : Nat) (hy0 : 1 ≤ y) (hy1 : y ≤ 3000) (hfy : ∀ j, j < 60 → fy j ≤ 3000) (hn1 : ∀ j, j < 60 → ¬ fy j = y) : pz_RX l yL_strikeConsuls wsL_strikeConsuls ({ frames := 8, cells := 1, slots := 6, locals := 126 } : Room) D ((cyI, .int) :: (cyL, .long) :: ts) [.ref h0, .int (nI y), .ref oa] [(h0, .inr (0, [.ref ac, .ref ay, .ref ap, .int (nI mk)])), (ac, .inl (cyI, 365, .inl (pz_ar ch))), (ay, .inl (cyI, 60, .inl (pz_ar fy))), (ap, .inl (cyI, 60, .inl (pz_ar fp))), (oa, .inl (cyL, 1, .inr (.inl og)))] (fun r => r = nI 2) := by
  refine pz_RX_ofH (cc := cL_strikeConsuls) (maxL := 4) (ty := .int) (own := RL) (hh := [(0, 9, 12, 13), (0, 9, 15, 50)]) (by decide) rfl rfl (Nat.le_of_ble_eq_true rfl) ?_
  intro p e s m below meth c ls Q hx hb hml hown hts hK hP hD hS hl hth hnc htab hQ
  have hl : lv_has ls 4 [(0, .ref h0), (1, .int (nI y)), (2, .ref oa)] := hl
  refine lv_aload_n hx hb dL_strikeConsuls_0 rfl (lv_at hl 2 rfl) ?_
  refine lv_iconst (v := nI 0) hx hb dL_strikeConsuls_1 (by decide) ?_
  refine lv_aload_n hx hb dL_strikeConsuls_2 rfl (lv_at hl 0 rfl) ?_
  refine lv_iload_n hx hb dL_strikeConsuls_3 rfl (lv_at hl 1 rfl) ?_
  refine pz_VXK (E := "java/lang/IllegalStateException") (rest := [.int (nI 0), .ref oa]) ⟨hx, hb, hml, hown, hts⟩ (k_X0_strikeConsuls_x2 l hfl D h0 ac ay ap cyI ((cyL, .long) :: ts) mk ch fy fp y (by exact hy0) (by exact hy1) (by exact hfy) (by exact hn1)) (cwV 1 hts gL_strikeConsuls_X0_strikeConsuls rfl rfl rfl (by decide +kernel) ⟨Nat.le_of_ble_eq_true rfl, Nat.le_of_ble_eq_true rfl⟩) hK hP hD hS hth [0, 1, 2, 3] rfl rfl rfl 0 0 rfl rfl rfl hl.1 rfl (lv_room (Nat.le_of_ble_eq_true rfl)) dL_strikeConsuls_4 ⟨Nat.le_of_ble_eq_true rfl, Nat.le_of_ble_eq_true rfl⟩ (fun ce q9 H locs hS hce hcv hcl => ?_)
  refine vx_catch (own := RL) (name := "java/lang/IllegalStateException") hown [⟨0, 9, 12, 13⟩] ⟨0, 9, 15, 50⟩ [] (by rw [htab]; rfl) (List.forall_mem_cons.mpr ⟨Or.inr ⟨by decide, "java/lang/IndexOutOfBoundsException", hts (.classLink RL 13 "java/lang/IndexOutOfBoundsException") (by decide +kernel), hnc.2.1⟩, (fun z hz => nomatch hz)⟩) rfl (by decide) (hts (.classLink RL 50 "java/lang/IllegalStateException") (by decide +kernel)) (va_Nw.use rfl (hth.2.2.2.1 "java/lang/IllegalStateException" (by decide +kernel))) hce hcv hcl ?_
  refine lv_astore_n (lv' := [(3, .ref q9), (0, .ref h0), (1, .int (nI y)), (2, .ref oa)]) hx hb dL_strikeConsuls_15 rfl hl (by decide) rfl (fun ls hl => ?_)
  refine lv_iconst (v := nI 2) hx hb dL_strikeConsuls_16 (by decide) ?_
  exact hQ _ _ _ _ _ dL_strikeConsuls_17 rfl rfl hS
set_option maxHeartbeats 4000000 in
set_option maxRecDepth 100000 in
theorem k_L_consulsOf_x (l : Launch) (hfl : l.stackTraces = false) (D : va_G) (h0 ac ay ap oa : Nat) (cyI cyL : ClassId) (ts : List (ClassId × FieldType)) (mk : Nat) (ch fy fp : Nat → Nat) (og : Nat → Int64) (x : Int32) (hy0 : x.toInt < 1 ∨ 3000 < x.toInt) : pz_RX l yL_consulsOf wsL_consulsOf ({ frames := 8, cells := 1, slots := 6, locals := 126 } : Room) D ((cyI, .int) :: (cyL, .long) :: ts) [.ref h0, .int x, .ref oa] [(h0, .inr (0, [.ref ac, .ref ay, .ref ap, .int (nI mk)])), (ac, .inl (cyI, 365, .inl (pz_ar ch))), (ay, .inl (cyI, 60, .inl (pz_ar fy))), (ap, .inl (cyI, 60, .inl (pz_ar fp))), (oa, .inl (cyL, 1, .inr (.inl og)))] (fun r => r = nI 1) := by
  refine pz_RX_ofH (cc := cL_consulsOf) (maxL := 4) (ty := .int) (own := RL) (hh := [(0, 9, 12, 13)]) (by decide) rfl rfl (Nat.le_of_ble_eq_true rfl) ?_
  intro p e s m below meth c ls Q hx hb hml hown hts hK hP hD hS hl hth hnc htab hQ
  have hl : lv_has ls 4 [(0, .ref h0), (1, .int x), (2, .ref oa)] := hl
  refine lv_aload_n hx hb dL_consulsOf_0 rfl (lv_at hl 2 rfl) ?_
  refine lv_iconst (v := nI 0) hx hb dL_consulsOf_1 (by decide) ?_
  refine lv_aload_n hx hb dL_consulsOf_2 rfl (lv_at hl 0 rfl) ?_
  refine lv_iload_n hx hb dL_consulsOf_3 rfl (lv_at hl 1 rfl) ?_
  refine pz_VXK (E := "java/lang/IndexOutOfBoundsException") (rest := [.int (nI 0), .ref oa]) ⟨hx, hb, hml, hown, hts⟩ (k_X0_consulsOf_x l hfl D h0 ac ay ap cyI ((cyL, .long) :: ts) mk ch fy fp x (by exact hy0)) (cwV 1 hts gL_consulsOf_X0_consulsOf rfl rfl rfl (by decide +kernel) ⟨Nat.le_of_ble_eq_true rfl, Nat.le_of_ble_eq_true rfl⟩) hK hP hD hS hth [0, 1, 2, 3] rfl rfl rfl 0 0 rfl rfl rfl hl.1 rfl (lv_room (Nat.le_of_ble_eq_true rfl)) dL_consulsOf_4 ⟨Nat.le_of_ble_eq_true rfl, Nat.le_of_ble_eq_true rfl⟩ (fun ce q9 H locs hS hce hcv hcl => ?_)
  refine vx_catch (own := RL) (name := "java/lang/IndexOutOfBoundsException") hown [] ⟨0, 9, 12, 13⟩ [] (by rw [htab]; rfl) (fun z hz => nomatch hz) rfl (by decide) (hts (.classLink RL 13 "java/lang/IndexOutOfBoundsException") (by decide +kernel)) (va_Nw.use rfl (hth.2.2.2.1 "java/lang/IndexOutOfBoundsException" (by decide +kernel))) hce hcv hcl ?_
  refine lv_astore_n (lv' := [(3, .ref q9), (0, .ref h0), (1, .int x), (2, .ref oa)]) hx hb dL_consulsOf_12 rfl hl (by decide) rfl (fun ls hl => ?_)
  refine lv_iconst (v := nI 1) hx hb dL_consulsOf_13 (by decide) ?_
  exact hQ _ _ _ _ _ dL_consulsOf_14 rfl rfl hS
set_option maxHeartbeats 4000000 in
set_option maxRecDepth 100000 in
theorem k_L_consulsOf (l : Launch) (D : va_G) (h0 ac ay ap oa : Nat) (cyI cyL : ClassId) (ts : List (ClassId × FieldType)) (mk : Nat) (ch fy fp : Nat → Nat) (og : Nat → Int64) (y : Nat) (hy0 : 1 ≤ y) (hy1 : y ≤ 3000) (hfy : ∀ j, j < 60 → fy j ≤ 3000) (hfp : ∀ j, j < 60 → fp j ≤ 1000000) : pz_I l yL_consulsOf wsL_consulsOf ({ frames := 2, cells := 0, slots := 0, locals := 44 } : Room) D ((cyI, .int) :: (cyL, .long) :: ts) [.ref h0, .int (nI y), .ref oa] [(h0, .inr (0, [.ref ac, .ref ay, .ref ap, .int (nI mk)])), (ac, .inl (cyI, 365, .inl (pz_ar ch))), (ay, .inl (cyI, 60, .inl (pz_ar fy))), (ap, .inl (cyI, 60, .inl (pz_ar fp))), (oa, .inl (cyL, 1, .inr (.inl og)))] (S := Int32) (fun r u => r = nI 0 ∧ (fun r => (r = (-1) ∧ ∀ j, j < 60 → ¬ fy j = y) ∨ ∃ i, i < 60 ∧ r = nI (fp i) ∧ fy i = y) u) (fun u => [(h0, .inr (0, [.ref ac, .ref ay, .ref ap, .int (nI mk)])), (ac, .inl (cyI, 365, .inl (pz_ar ch))), (ay, .inl (cyI, 60, .inl (pz_ar fy))), (ap, .inl (cyI, 60, .inl (pz_ar fp))), (oa, .inl (cyL, 1, .inr (.inl (vp_updL og 0 u.toInt64))))]) := by
  refine pz_I_ofH (cc := cL_consulsOf) (maxL := 4) (ty := .int) (own := RL) (hh := [(0, 9, 12, 13)]) (by decide) rfl rfl (Nat.le_of_ble_eq_true rfl) ?_
  intro p e s m below meth c A ls Q hx hb hml hown hts hK hP hD hS hA hl hQ
  have hl : lv_has ls 4 [(0, .ref h0), (1, .int (nI y)), (2, .ref oa)] := hl
  refine lv_aload_n hx hb dL_consulsOf_0 rfl (lv_at hl 2 rfl) ?_
  refine lv_iconst (v := nI 0) hx hb dL_consulsOf_1 (by decide) ?_
  refine lv_aload_n hx hb dL_consulsOf_2 rfl (lv_at hl 0 rfl) ?_
  refine lv_iload_n hx hb dL_consulsOf_3 rfl (lv_at hl 1 rfl) ?_
  refine pz_VR (rest := [.int (nI 0), .ref oa]) ⟨hx, hb, hml, hown, hts⟩ (k_X0_consulsOf l D h0 ac ay ap cyI ((cyL, .long) :: ts) mk ch fy fp y (by exact hy0) (by exact hy1) (by exact hfy) (by exact hfp)) (cwV 1 hts gL_consulsOf_X0_consulsOf rfl rfl rfl (by decide +kernel) ⟨Nat.le_of_ble_eq_true rfl, Nat.le_of_ble_eq_true rfl⟩) hK hP (hD.weaken (fun _ _ _ _ => trivial)) hS hA [0, 1, 2, 3] rfl rfl rfl 0 0 rfl rfl rfl hl.1 rfl (lv_room (Nat.le_of_ble_eq_true rfl)) dL_consulsOf_4 ⟨Nat.le_of_ble_eq_true rfl, Nat.le_of_ble_eq_true rfl⟩ (fun r H locs hr hP hS => ?_)
  have hr_1 : (fun r => (r = (-1) ∧ ∀ j, j < 60 → ¬ fy j = y) ∨ ∃ i, i < 60 ∧ r = nI (fp i) ∧ fy i = y) r := hr
  obtain ⟨r_1, er_1⟩ : ∃ z, z = r := ⟨_, rfl⟩
  subst er_1
  refine lv_i2l (v := (r_1).toInt64) hx hb dL_consulsOf_7 rfl ?_
  refine pn_last hx hb hK hP hD hS 4 1 rfl rfl (by decide) (by decide) dL_consulsOf_8 (fun H locs hP hD hS => ?_)
  have hP : va_P D vwCl [(h0, .inr (0, [.ref ac, .ref ay, .ref ap, .int (nI mk)])), (ac, .inl (cyI, 365, .inl (pz_ar ch))), (ay, .inl (cyI, 60, .inl (pz_ar fy))), (ap, .inl (cyI, 60, .inl (pz_ar fp))), (oa, .inl (cyL, 1, .inr (.inl (vp_updL og 0 ((r_1).toInt64)))))] H := hP
  have hD : va_D A [(h0, .inr (0, [.ref ac, .ref ay, .ref ap, .int (nI mk)])), (ac, .inl (cyI, 365, .inl (pz_ar ch))), (ay, .inl (cyI, 60, .inl (pz_ar fy))), (ap, .inl (cyI, 60, .inl (pz_ar fp))), (oa, .inl (cyL, 1, .inr (.inl (vp_updL og 0 ((r_1).toInt64)))))] := hD
  refine lv_goto (tgt := 15) hx hb dL_consulsOf_9 (by decide) ?_
  refine lv_iconst (v := nI 0) hx hb dL_consulsOf_15 (by decide) ?_
  exact hQ _ _ _ _ _ r_1 dL_consulsOf_16 rfl (by exact ⟨rfl, by assumption⟩) hP hD hS
set_option maxHeartbeats 4000000 in
set_option maxRecDepth 100000 in
theorem k_L_afterConsuls_x (l : Launch) (hfl : l.stackTraces = false) (D : va_G) (h0 ac ay ap oa : Nat) (cyI cyL : ClassId) (ts : List (ClassId × FieldType)) (mk : Nat) (ch fy fp : Nat → Nat) (og : Nat → Int64) (x : Int32) (hy0 : x.toInt < 1 ∨ 3000 < x.toInt) : pz_RX l yL_afterConsuls wsL_afterConsuls ({ frames := 8, cells := 1, slots := 6, locals := 128 } : Room) D ((cyI, .int) :: (cyL, .long) :: ts) [.ref h0, .int x, .ref oa] [(h0, .inr (0, [.ref ac, .ref ay, .ref ap, .int (nI mk)])), (ac, .inl (cyI, 365, .inl (pz_ar ch))), (ay, .inl (cyI, 60, .inl (pz_ar fy))), (ap, .inl (cyI, 60, .inl (pz_ar fp))), (oa, .inl (cyL, 1, .inr (.inl og)))] (fun r => r = nI 1) := by
  refine pz_RX_ofH (cc := cL_afterConsuls) (maxL := 4) (ty := .int) (own := RL) (hh := [(0, 9, 12, 13)]) (by decide) rfl rfl (Nat.le_of_ble_eq_true rfl) ?_
  intro p e s m below meth c ls Q hx hb hml hown hts hK hP hD hS hl hth hnc htab hQ
  have hl : lv_has ls 4 [(0, .ref h0), (1, .int x), (2, .ref oa)] := hl
  refine lv_aload_n hx hb dL_afterConsuls_0 rfl (lv_at hl 2 rfl) ?_
  refine lv_iconst (v := nI 0) hx hb dL_afterConsuls_1 (by decide) ?_
  refine lv_aload_n hx hb dL_afterConsuls_2 rfl (lv_at hl 0 rfl) ?_
  refine lv_iload_n hx hb dL_afterConsuls_3 rfl (lv_at hl 1 rfl) ?_
  refine pz_VXK (E := "java/lang/IndexOutOfBoundsException") (rest := [.int (nI 0), .ref oa]) ⟨hx, hb, hml, hown, hts⟩ (k_X0_afterConsuls_x l hfl D h0 ac ay ap cyI ((cyL, .long) :: ts) mk ch fy fp x (by exact hy0)) (cwV 1 hts gL_afterConsuls_X0_afterConsuls rfl rfl rfl (by decide +kernel) ⟨Nat.le_of_ble_eq_true rfl, Nat.le_of_ble_eq_true rfl⟩) hK hP hD hS hth [0, 1, 2, 3] rfl rfl rfl 0 0 rfl rfl rfl hl.1 rfl (lv_room (Nat.le_of_ble_eq_true rfl)) dL_afterConsuls_4 ⟨Nat.le_of_ble_eq_true rfl, Nat.le_of_ble_eq_true rfl⟩ (fun ce q9 H locs hS hce hcv hcl => ?_)
  refine vx_catch (own := RL) (name := "java/lang/IndexOutOfBoundsException") hown [] ⟨0, 9, 12, 13⟩ [] (by rw [htab]; rfl) (fun z hz => nomatch hz) rfl (by decide) (hts (.classLink RL 13 "java/lang/IndexOutOfBoundsException") (by decide +kernel)) (va_Nw.use rfl (hth.2.2.2.1 "java/lang/IndexOutOfBoundsException" (by decide +kernel))) hce hcv hcl ?_
  refine lv_astore_n (lv' := [(3, .ref q9), (0, .ref h0), (1, .int x), (2, .ref oa)]) hx hb dL_afterConsuls_12 rfl hl (by decide) rfl (fun ls hl => ?_)
  refine lv_iconst (v := nI 1) hx hb dL_afterConsuls_13 (by decide) ?_
  exact hQ _ _ _ _ _ dL_afterConsuls_14 rfl rfl hS
set_option maxHeartbeats 4000000 in
set_option maxRecDepth 100000 in
theorem k_L_afterConsuls (l : Launch) (D : va_G) (h0 ac ay ap oa : Nat) (cyI cyL : ClassId) (ts : List (ClassId × FieldType)) (mk : Nat) (ch fy fp : Nat → Nat) (og : Nat → Int64) (y : Nat) (hy0 : 1 ≤ y) (hy1 : y ≤ 3000) (hfy : ∀ j, j < 60 → fy j ≤ 3000) : pz_I l yL_afterConsuls wsL_afterConsuls ({ frames := 2, cells := 0, slots := 0, locals := 44 } : Room) D ((cyI, .int) :: (cyL, .long) :: ts) [.ref h0, .int (nI y), .ref oa] [(h0, .inr (0, [.ref ac, .ref ay, .ref ap, .int (nI mk)])), (ac, .inl (cyI, 365, .inl (pz_ar ch))), (ay, .inl (cyI, 60, .inl (pz_ar fy))), (ap, .inl (cyI, 60, .inl (pz_ar fp))), (oa, .inl (cyL, 1, .inr (.inl og)))] (S := Int32) (fun r u => r = nI 0 ∧ (fun r => (r = (-1) ∧ ∀ j, j < 60 → fy j ≤ y → fy j = 0) ∨ ∃ i, i < 60 ∧ ¬ fy i = 0 ∧ fy i ≤ y ∧ r = nI (y - fy i) ∧ ∀ j, j < 60 → fy j ≤ y → fy j ≤ fy i) u) (fun u => [(h0, .inr (0, [.ref ac, .ref ay, .ref ap, .int (nI mk)])), (ac, .inl (cyI, 365, .inl (pz_ar ch))), (ay, .inl (cyI, 60, .inl (pz_ar fy))), (ap, .inl (cyI, 60, .inl (pz_ar fp))), (oa, .inl (cyL, 1, .inr (.inl (vp_updL og 0 u.toInt64))))]) := by
  refine pz_I_ofH (cc := cL_afterConsuls) (maxL := 4) (ty := .int) (own := RL) (hh := [(0, 9, 12, 13)]) (by decide) rfl rfl (Nat.le_of_ble_eq_true rfl) ?_
  intro p e s m below meth c A ls Q hx hb hml hown hts hK hP hD hS hA hl hQ
  have hl : lv_has ls 4 [(0, .ref h0), (1, .int (nI y)), (2, .ref oa)] := hl
  refine lv_aload_n hx hb dL_afterConsuls_0 rfl (lv_at hl 2 rfl) ?_
  refine lv_iconst (v := nI 0) hx hb dL_afterConsuls_1 (by decide) ?_
  refine lv_aload_n hx hb dL_afterConsuls_2 rfl (lv_at hl 0 rfl) ?_
  refine lv_iload_n hx hb dL_afterConsuls_3 rfl (lv_at hl 1 rfl) ?_
  refine pz_VR (rest := [.int (nI 0), .ref oa]) ⟨hx, hb, hml, hown, hts⟩ (k_X0_afterConsuls l D h0 ac ay ap cyI ((cyL, .long) :: ts) mk ch fy fp y (by exact hy0) (by exact hy1) (by exact hfy)) (cwV 1 hts gL_afterConsuls_X0_afterConsuls rfl rfl rfl (by decide +kernel) ⟨Nat.le_of_ble_eq_true rfl, Nat.le_of_ble_eq_true rfl⟩) hK hP (hD.weaken (fun _ _ _ _ => trivial)) hS hA [0, 1, 2, 3] rfl rfl rfl 0 0 rfl rfl rfl hl.1 rfl (lv_room (Nat.le_of_ble_eq_true rfl)) dL_afterConsuls_4 ⟨Nat.le_of_ble_eq_true rfl, Nat.le_of_ble_eq_true rfl⟩ (fun r H locs hr hP hS => ?_)
  have hr_1 : (fun r => (r = (-1) ∧ ∀ j, j < 60 → fy j ≤ y → fy j = 0) ∨ ∃ i, i < 60 ∧ ¬ fy i = 0 ∧ fy i ≤ y ∧ r = nI (y - fy i) ∧ ∀ j, j < 60 → fy j ≤ y → fy j ≤ fy i) r := hr
  obtain ⟨r_1, er_1⟩ : ∃ z, z = r := ⟨_, rfl⟩
  subst er_1
  refine lv_i2l (v := (r_1).toInt64) hx hb dL_afterConsuls_7 rfl ?_
  refine pn_last hx hb hK hP hD hS 4 1 rfl rfl (by decide) (by decide) dL_afterConsuls_8 (fun H locs hP hD hS => ?_)
  have hP : va_P D vwCl [(h0, .inr (0, [.ref ac, .ref ay, .ref ap, .int (nI mk)])), (ac, .inl (cyI, 365, .inl (pz_ar ch))), (ay, .inl (cyI, 60, .inl (pz_ar fy))), (ap, .inl (cyI, 60, .inl (pz_ar fp))), (oa, .inl (cyL, 1, .inr (.inl (vp_updL og 0 ((r_1).toInt64)))))] H := hP
  have hD : va_D A [(h0, .inr (0, [.ref ac, .ref ay, .ref ap, .int (nI mk)])), (ac, .inl (cyI, 365, .inl (pz_ar ch))), (ay, .inl (cyI, 60, .inl (pz_ar fy))), (ap, .inl (cyI, 60, .inl (pz_ar fp))), (oa, .inl (cyL, 1, .inr (.inl (vp_updL og 0 ((r_1).toInt64)))))] := hD
  refine lv_goto (tgt := 15) hx hb dL_afterConsuls_9 (by decide) ?_
  refine lv_iconst (v := nI 0) hx hb dL_afterConsuls_15 (by decide) ?_
  exact hQ _ _ _ _ _ r_1 dL_afterConsuls_16 rfl (by exact ⟨rfl, by assumption⟩) hP hD hS
set_option maxHeartbeats 4000000 in
set_option maxRecDepth 100000 in
theorem k_L_yearOfConsuls_x (l : Launch) (hfl : l.stackTraces = false) (D : va_G) (h0 ac ay ap oa : Nat) (cyI cyL : ClassId) (ts : List (ClassId × FieldType)) (mk : Nat) (ch fy fp : Nat → Nat) (og : Nat → Int64) (x1 x2 x3 : Int32) (hy0 : x3.toInt < 1) : pz_RX l yL_yearOfConsuls wsL_yearOfConsuls ({ frames := 7, cells := 1, slots := 6, locals := 109 } : Room) D ((cyI, .int) :: (cyL, .long) :: ts) [.ref h0, .int x1, .int x2, .int x3, .ref oa] [(h0, .inr (0, [.ref ac, .ref ay, .ref ap, .int (nI mk)])), (ac, .inl (cyI, 365, .inl (pz_ar ch))), (ay, .inl (cyI, 60, .inl (pz_ar fy))), (ap, .inl (cyI, 60, .inl (pz_ar fp))), (oa, .inl (cyL, 1, .inr (.inl og)))] (fun r => r = nI 1) := by
  refine pz_RX_ofH (cc := cL_yearOfConsuls) (maxL := 6) (ty := .int) (own := RL) (hh := [(0, 12, 15, 48)]) (by decide) rfl rfl (Nat.le_of_ble_eq_true rfl) ?_
  intro p e s m below meth c ls Q hx hb hml hown hts hK hP hD hS hl hth hnc htab hQ
  have hl : lv_has ls 6 [(0, .ref h0), (1, .int x1), (2, .int x2), (3, .int x3), (4, .ref oa)] := hl
  refine lv_aload hx hb dL_yearOfConsuls_0 (lv_at hl 4 rfl) ?_
  refine lv_iconst (v := nI 0) hx hb dL_yearOfConsuls_2 (by decide) ?_
  refine lv_aload_n hx hb dL_yearOfConsuls_3 rfl (lv_at hl 0 rfl) ?_
  refine lv_iload_n hx hb dL_yearOfConsuls_4 rfl (lv_at hl 1 rfl) ?_
  refine lv_iload_n hx hb dL_yearOfConsuls_5 rfl (lv_at hl 2 rfl) ?_
  refine lv_iload_n hx hb dL_yearOfConsuls_6 rfl (lv_at hl 3 rfl) ?_
  refine pz_VXK (E := "java/lang/IllegalArgumentException") (rest := [.int (nI 0), .ref oa]) ⟨hx, hb, hml, hown, hts⟩ (k_X0_yearOfConsuls_x l hfl D h0 ac ay ap cyI ((cyL, .long) :: ts) mk ch fy fp x1 x2 x3 (by exact hy0)) (cwV 3 hts gL_yearOfConsuls_X0_yearOfConsuls rfl rfl rfl (by decide +kernel) ⟨Nat.le_of_ble_eq_true rfl, Nat.le_of_ble_eq_true rfl⟩) hK hP hD hS hth [0, 1, 2, 3] rfl rfl rfl 0 0 rfl rfl rfl hl.1 rfl (lv_room (Nat.le_of_ble_eq_true rfl)) dL_yearOfConsuls_7 ⟨Nat.le_of_ble_eq_true rfl, Nat.le_of_ble_eq_true rfl⟩ (fun ce q9 H locs hS hce hcv hcl => ?_)
  refine vx_catch (own := RL) (name := "java/lang/IllegalArgumentException") hown [] ⟨0, 12, 15, 48⟩ [] (by rw [htab]; rfl) (fun z hz => nomatch hz) rfl (by decide) (hts (.classLink RL 48 "java/lang/IllegalArgumentException") (by decide +kernel)) (va_Nw.use rfl (hth.2.2.2.1 "java/lang/IllegalArgumentException" (by decide +kernel))) hce hcv hcl ?_
  refine lv_astore (lv' := [(5, .ref q9), (0, .ref h0), (1, .int x1), (2, .int x2), (3, .int x3), (4, .ref oa)]) hx hb dL_yearOfConsuls_15 hl (by decide) rfl (fun ls hl => ?_)
  refine lv_iconst (v := nI 1) hx hb dL_yearOfConsuls_17 (by decide) ?_
  exact hQ _ _ _ _ _ dL_yearOfConsuls_18 rfl rfl hS
set_option maxHeartbeats 4000000 in
set_option maxRecDepth 100000 in
theorem k_L_yearOfConsuls (l : Launch) (D : va_G) (h0 ac ay ap oa : Nat) (cyI cyL : ClassId) (ts : List (ClassId × FieldType)) (mk : Nat) (ch fy fp : Nat → Nat) (og : Nat → Int64) (x1 x2 : Int32) (t : Nat) (hy0 : 1 ≤ t) (hy1 : t < 2147483648) (hfy : ∀ j, j < 60 → fy j ≤ 3000) (hfp : ∀ j, j < 60 → fp j ≤ 1000000) : pz_I l yL_yearOfConsuls wsL_yearOfConsuls ({ frames := 3, cells := 0, slots := 0, locals := 76 } : Room) D ((cyI, .int) :: (cyL, .long) :: ts) [.ref h0, .int x1, .int x2, .int (nI t), .ref oa] [(h0, .inr (0, [.ref ac, .ref ay, .ref ap, .int (nI mk)])), (ac, .inl (cyI, 365, .inl (pz_ar ch))), (ay, .inl (cyI, 60, .inl (pz_ar fy))), (ap, .inl (cyI, 60, .inl (pz_ar fp))), (oa, .inl (cyL, 1, .inr (.inl og)))] (S := Int32) (fun r u => r = nI 0 ∧ (fun r => pm_kth (pm_M x1 x2 fy fp 60) t r) u) (fun u => [(h0, .inr (0, [.ref ac, .ref ay, .ref ap, .int (nI mk)])), (ac, .inl (cyI, 365, .inl (pz_ar ch))), (ay, .inl (cyI, 60, .inl (pz_ar fy))), (ap, .inl (cyI, 60, .inl (pz_ar fp))), (oa, .inl (cyL, 1, .inr (.inl (vp_updL og 0 u.toInt64))))]) := by
  refine pz_I_ofH (cc := cL_yearOfConsuls) (maxL := 6) (ty := .int) (own := RL) (hh := [(0, 12, 15, 48)]) (by decide) rfl rfl (Nat.le_of_ble_eq_true rfl) ?_
  intro p e s m below meth c A ls Q hx hb hml hown hts hK hP hD hS hA hl hQ
  have hl : lv_has ls 6 [(0, .ref h0), (1, .int x1), (2, .int x2), (3, .int (nI t)), (4, .ref oa)] := hl
  refine lv_aload hx hb dL_yearOfConsuls_0 (lv_at hl 4 rfl) ?_
  refine lv_iconst (v := nI 0) hx hb dL_yearOfConsuls_2 (by decide) ?_
  refine lv_aload_n hx hb dL_yearOfConsuls_3 rfl (lv_at hl 0 rfl) ?_
  refine lv_iload_n hx hb dL_yearOfConsuls_4 rfl (lv_at hl 1 rfl) ?_
  refine lv_iload_n hx hb dL_yearOfConsuls_5 rfl (lv_at hl 2 rfl) ?_
  refine lv_iload_n hx hb dL_yearOfConsuls_6 rfl (lv_at hl 3 rfl) ?_
  refine pz_VR (rest := [.int (nI 0), .ref oa]) ⟨hx, hb, hml, hown, hts⟩ (k_X0_yearOfConsuls l D h0 ac ay ap cyI ((cyL, .long) :: ts) mk ch fy fp x1 x2 t (by exact hy0) (by exact hy1) (by exact hfy) (by exact hfp)) (cwV 3 hts gL_yearOfConsuls_X0_yearOfConsuls rfl rfl rfl (by decide +kernel) ⟨Nat.le_of_ble_eq_true rfl, Nat.le_of_ble_eq_true rfl⟩) hK hP (hD.weaken (fun _ _ _ _ => trivial)) hS hA [0, 1, 2, 3] rfl rfl rfl 0 0 rfl rfl rfl hl.1 rfl (lv_room (Nat.le_of_ble_eq_true rfl)) dL_yearOfConsuls_7 ⟨Nat.le_of_ble_eq_true rfl, Nat.le_of_ble_eq_true rfl⟩ (fun r H locs hr hP hS => ?_)
  have hr_1 : (fun r => pm_kth (pm_M x1 x2 fy fp 60) t r) r := hr
  obtain ⟨r_1, er_1⟩ : ∃ z, z = r := ⟨_, rfl⟩
  subst er_1
  refine lv_i2l (v := (r_1).toInt64) hx hb dL_yearOfConsuls_10 rfl ?_
  refine pn_last hx hb hK hP hD hS 4 1 rfl rfl (by decide) (by decide) dL_yearOfConsuls_11 (fun H locs hP hD hS => ?_)
  have hP : va_P D vwCl [(h0, .inr (0, [.ref ac, .ref ay, .ref ap, .int (nI mk)])), (ac, .inl (cyI, 365, .inl (pz_ar ch))), (ay, .inl (cyI, 60, .inl (pz_ar fy))), (ap, .inl (cyI, 60, .inl (pz_ar fp))), (oa, .inl (cyL, 1, .inr (.inl (vp_updL og 0 ((r_1).toInt64)))))] H := hP
  have hD : va_D A [(h0, .inr (0, [.ref ac, .ref ay, .ref ap, .int (nI mk)])), (ac, .inl (cyI, 365, .inl (pz_ar ch))), (ay, .inl (cyI, 60, .inl (pz_ar fy))), (ap, .inl (cyI, 60, .inl (pz_ar fp))), (oa, .inl (cyL, 1, .inr (.inl (vp_updL og 0 ((r_1).toInt64)))))] := hD
  refine lv_goto (tgt := 19) hx hb dL_yearOfConsuls_12 (by decide) ?_
  refine lv_iconst (v := nI 0) hx hb dL_yearOfConsuls_19 (by decide) ?_
  exact hQ _ _ _ _ _ r_1 dL_yearOfConsuls_20 rfl (by exact ⟨rfl, by assumption⟩) hP hD hS
set_option maxHeartbeats 4000000 in
set_option maxRecDepth 100000 in
theorem k_L_setCharacter_x (l : Launch) (hfl : l.stackTraces = false) (D : va_G) (h0 ac ay ap oa : Nat) (cyI cyL : ClassId) (ts : List (ClassId × FieldType)) (mk : Nat) (ch fy fp : Nat → Nat) (og : Nat → Int64) (x1 x2 : Int32) (hy0 : x1.toInt < 1 ∨ 365 < x1.toInt) : pz_RX l yL_setCharacter wsL_setCharacter ({ frames := 7, cells := 1, slots := 6, locals := 107 } : Room) D ((cyI, .int) :: (cyL, .long) :: ts) [.ref h0, .int x1, .int x2, .ref oa] [(h0, .inr (0, [.ref ac, .ref ay, .ref ap, .int (nI mk)])), (ac, .inl (cyI, 365, .inl (pz_ar ch))), (ay, .inl (cyI, 60, .inl (pz_ar fy))), (ap, .inl (cyI, 60, .inl (pz_ar fp))), (oa, .inl (cyL, 1, .inr (.inl og)))] (fun r => r = nI 1) := by
  refine pz_RX_ofH (cc := cL_setCharacter) (maxL := 5) (ty := .int) (own := RL) (hh := [(0, 10, 13, 13), (0, 10, 17, 48)]) (by decide) rfl rfl (Nat.le_of_ble_eq_true rfl) ?_
  intro p e s m below meth c ls Q hx hb hml hown hts hK hP hD hS hl hth hnc htab hQ
  have hl : lv_has ls 5 [(0, .ref h0), (1, .int x1), (2, .int x2), (3, .ref oa)] := hl
  refine lv_aload_n hx hb dL_setCharacter_0 rfl (lv_at hl 3 rfl) ?_
  refine lv_iconst (v := nI 0) hx hb dL_setCharacter_1 (by decide) ?_
  refine lv_aload_n hx hb dL_setCharacter_2 rfl (lv_at hl 0 rfl) ?_
  refine lv_iload_n hx hb dL_setCharacter_3 rfl (lv_at hl 1 rfl) ?_
  refine lv_iload_n hx hb dL_setCharacter_4 rfl (lv_at hl 2 rfl) ?_
  refine pz_VXK (E := "java/lang/IndexOutOfBoundsException") (rest := [.int (nI 0), .ref oa]) ⟨hx, hb, hml, hown, hts⟩ (k_X0_setCharacter_x l hfl D h0 ac ay ap cyI ((cyL, .long) :: ts) mk ch fy fp x1 x2 (by exact hy0)) (cwV 2 hts gL_setCharacter_X0_setCharacter rfl rfl rfl (by decide +kernel) ⟨Nat.le_of_ble_eq_true rfl, Nat.le_of_ble_eq_true rfl⟩) hK hP hD hS hth [0, 1, 2, 3] rfl rfl rfl 0 0 rfl rfl rfl hl.1 rfl (lv_room (Nat.le_of_ble_eq_true rfl)) dL_setCharacter_5 ⟨Nat.le_of_ble_eq_true rfl, Nat.le_of_ble_eq_true rfl⟩ (fun ce q9 H locs hS hce hcv hcl => ?_)
  refine vx_catch (own := RL) (name := "java/lang/IndexOutOfBoundsException") hown [] ⟨0, 10, 13, 13⟩ [⟨0, 10, 17, 48⟩] (by rw [htab]; rfl) (fun z hz => nomatch hz) rfl (by decide) (hts (.classLink RL 13 "java/lang/IndexOutOfBoundsException") (by decide +kernel)) (va_Nw.use rfl (hth.2.2.2.1 "java/lang/IndexOutOfBoundsException" (by decide +kernel))) hce hcv hcl ?_
  refine lv_astore (lv' := [(4, .ref q9), (0, .ref h0), (1, .int x1), (2, .int x2), (3, .ref oa)]) hx hb dL_setCharacter_13 hl (by decide) rfl (fun ls hl => ?_)
  refine lv_iconst (v := nI 1) hx hb dL_setCharacter_15 (by decide) ?_
  exact hQ _ _ _ _ _ dL_setCharacter_16 rfl rfl hS
set_option maxHeartbeats 4000000 in
set_option maxRecDepth 100000 in
theorem k_L_setCharacter_x2 (l : Launch) (hfl : l.stackTraces = false) (D : va_G) (h0 ac ay ap oa : Nat) (cyI cyL : ClassId) (ts : List (ClassId × FieldType)) (mk : Nat) (ch fy fp : Nat → Nat) (og : Nat → Int64) (x1 x2 : Int32) (hy0 : 1 ≤ x1.toInt) (hy1 : x1.toInt ≤ 365) (hy2 : x2.toInt < 0 ∨ 3 < x2.toInt) : pz_RX l yL_setCharacter wsL_setCharacter ({ frames := 7, cells := 1, slots := 6, locals := 107 } : Room) D ((cyI, .int) :: (cyL, .long) :: ts) [.ref h0, .int x1, .int x2, .ref oa] [(h0, .inr (0, [.ref ac, .ref ay, .ref ap, .int (nI mk)])), (ac, .inl (cyI, 365, .inl (pz_ar ch))), (ay, .inl (cyI, 60, .inl (pz_ar fy))), (ap, .inl (cyI, 60, .inl (pz_ar fp))), (oa, .inl (cyL, 1, .inr (.inl og)))] (fun r => r = nI 2) := by
  refine pz_RX_ofH (cc := cL_setCharacter) (maxL := 5) (ty := .int) (own := RL) (hh := [(0, 10, 13, 13), (0, 10, 17, 48)]) (by decide) rfl rfl (Nat.le_of_ble_eq_true rfl) ?_
  intro p e s m below meth c ls Q hx hb hml hown hts hK hP hD hS hl hth hnc htab hQ
  have hl : lv_has ls 5 [(0, .ref h0), (1, .int x1), (2, .int x2), (3, .ref oa)] := hl
  refine lv_aload_n hx hb dL_setCharacter_0 rfl (lv_at hl 3 rfl) ?_
  refine lv_iconst (v := nI 0) hx hb dL_setCharacter_1 (by decide) ?_
  refine lv_aload_n hx hb dL_setCharacter_2 rfl (lv_at hl 0 rfl) ?_
  refine lv_iload_n hx hb dL_setCharacter_3 rfl (lv_at hl 1 rfl) ?_
  refine lv_iload_n hx hb dL_setCharacter_4 rfl (lv_at hl 2 rfl) ?_
  refine pz_VXK (E := "java/lang/IllegalArgumentException") (rest := [.int (nI 0), .ref oa]) ⟨hx, hb, hml, hown, hts⟩ (k_X0_setCharacter_x2 l hfl D h0 ac ay ap cyI ((cyL, .long) :: ts) mk ch fy fp x1 x2 (by exact hy0) (by exact hy1) (by exact hy2)) (cwV 2 hts gL_setCharacter_X0_setCharacter rfl rfl rfl (by decide +kernel) ⟨Nat.le_of_ble_eq_true rfl, Nat.le_of_ble_eq_true rfl⟩) hK hP hD hS hth [0, 1, 2, 3] rfl rfl rfl 0 0 rfl rfl rfl hl.1 rfl (lv_room (Nat.le_of_ble_eq_true rfl)) dL_setCharacter_5 ⟨Nat.le_of_ble_eq_true rfl, Nat.le_of_ble_eq_true rfl⟩ (fun ce q9 H locs hS hce hcv hcl => ?_)
  refine vx_catch (own := RL) (name := "java/lang/IllegalArgumentException") hown [⟨0, 10, 13, 13⟩] ⟨0, 10, 17, 48⟩ [] (by rw [htab]; rfl) (List.forall_mem_cons.mpr ⟨Or.inr ⟨by decide, "java/lang/IndexOutOfBoundsException", hts (.classLink RL 13 "java/lang/IndexOutOfBoundsException") (by decide +kernel), hnc.1⟩, (fun z hz => nomatch hz)⟩) rfl (by decide) (hts (.classLink RL 48 "java/lang/IllegalArgumentException") (by decide +kernel)) (va_Nw.use rfl (hth.2.2.2.1 "java/lang/IllegalArgumentException" (by decide +kernel))) hce hcv hcl ?_
  refine lv_astore (lv' := [(4, .ref q9), (0, .ref h0), (1, .int x1), (2, .int x2), (3, .ref oa)]) hx hb dL_setCharacter_17 hl (by decide) rfl (fun ls hl => ?_)
  refine lv_iconst (v := nI 2) hx hb dL_setCharacter_19 (by decide) ?_
  exact hQ _ _ _ _ _ dL_setCharacter_20 rfl rfl hS
set_option maxHeartbeats 4000000 in
set_option maxRecDepth 100000 in
theorem k_L_setCharacter (l : Launch) (D : va_G) (h0 ac ay ap oa : Nat) (cyI cyL : ClassId) (ts : List (ClassId × FieldType)) (mk : Nat) (ch fy fp : Nat → Nat) (og : Nat → Int64) (q v : Nat) (hy0 : 1 ≤ q) (hy1 : q ≤ 365) (hy2 : v ≤ 3) : pz_I l yL_setCharacter wsL_setCharacter ({ frames := 3, cells := 0, slots := 0, locals := 65 } : Room) D ((cyI, .int) :: (cyL, .long) :: ts) [.ref h0, .int (nI q), .int (nI v), .ref oa] [(h0, .inr (0, [.ref ac, .ref ay, .ref ap, .int (nI mk)])), (ac, .inl (cyI, 365, .inl (pz_ar ch))), (ay, .inl (cyI, 60, .inl (pz_ar fy))), (ap, .inl (cyI, 60, .inl (pz_ar fp))), (oa, .inl (cyL, 1, .inr (.inl og)))] (S := Int32) (fun r u => r = nI 0 ∧ u = nI (ch (q - 1))) (fun u => [(oa, .inl (cyL, 1, .inr (.inl (vp_updL og 0 u.toInt64)))), (h0, .inr (0, [.ref ac, .ref ay, .ref ap, .int (nI mk)])), (ac, .inl (cyI, 365, .inl (pz_ar (pz_u ch (q - 1) v)))), (ay, .inl (cyI, 60, .inl (pz_ar fy))), (ap, .inl (cyI, 60, .inl (pz_ar fp)))]) := by
  refine pz_I_ofH (cc := cL_setCharacter) (maxL := 5) (ty := .int) (own := RL) (hh := [(0, 10, 13, 13), (0, 10, 17, 48)]) (by decide) rfl rfl (Nat.le_of_ble_eq_true rfl) ?_
  intro p e s m below meth c A ls Q hx hb hml hown hts hK hP hD hS hA hl hQ
  have hl : lv_has ls 5 [(0, .ref h0), (1, .int (nI q)), (2, .int (nI v)), (3, .ref oa)] := hl
  refine lv_aload_n hx hb dL_setCharacter_0 rfl (lv_at hl 3 rfl) ?_
  refine lv_iconst (v := nI 0) hx hb dL_setCharacter_1 (by decide) ?_
  refine lv_aload_n hx hb dL_setCharacter_2 rfl (lv_at hl 0 rfl) ?_
  refine lv_iload_n hx hb dL_setCharacter_3 rfl (lv_at hl 1 rfl) ?_
  refine lv_iload_n hx hb dL_setCharacter_4 rfl (lv_at hl 2 rfl) ?_
  refine pz_VI (rest := [.int (nI 0), .ref oa]) (wr := [(oa, .inl (cyL, 1, .inr (.inl og)))]) ⟨hx, hb, hml, hown, hts⟩ (k_X0_setCharacter l D h0 ac ay ap cyI ((cyL, .long) :: ts) mk ch fy fp q v (by exact hy0) (by exact hy1) (by exact hy2)) (cwV 2 hts gL_setCharacter_X0_setCharacter rfl rfl rfl (by decide +kernel) ⟨Nat.le_of_ble_eq_true rfl, Nat.le_of_ble_eq_true rfl⟩) hK hP hD hS hA [0, 1, 2, 3] [4] rfl rfl rfl rfl rfl (by decide) 0 0 rfl rfl rfl hl.1 rfl (lv_room (Nat.le_of_ble_eq_true rfl)) dL_setCharacter_5 ⟨Nat.le_of_ble_eq_true rfl, Nat.le_of_ble_eq_true rfl⟩ (fun r u H locs hr hP hD hS => ?_)
  have hP : va_P D vwCl [(oa, .inl (cyL, 1, .inr (.inl og))), (h0, .inr (0, [.ref ac, .ref ay, .ref ap, .int (nI mk)])), (ac, .inl (cyI, 365, .inl (pz_ar (pz_u ch (q - 1) v)))), (ay, .inl (cyI, 60, .inl (pz_ar fy))), (ap, .inl (cyI, 60, .inl (pz_ar fp)))] H := hP
  have hD : va_D A [(oa, .inl (cyL, 1, .inr (.inl og))), (h0, .inr (0, [.ref ac, .ref ay, .ref ap, .int (nI mk)])), (ac, .inl (cyI, 365, .inl (pz_ar (pz_u ch (q - 1) v)))), (ay, .inl (cyI, 60, .inl (pz_ar fy))), (ap, .inl (cyI, 60, .inl (pz_ar fp)))] := hD
  obtain rfl : r = (nI (ch (q - 1))) := hr
  refine lv_i2l (v := ((nI (ch (q - 1)))).toInt64) hx hb dL_setCharacter_8 rfl ?_
  refine pn_last hx hb hK hP hD hS 0 1 rfl rfl (by decide) (by decide) dL_setCharacter_9 (fun H locs hP hD hS => ?_)
  have hP : va_P D vwCl [(oa, .inl (cyL, 1, .inr (.inl (vp_updL og 0 (((nI (ch (q - 1)))).toInt64))))), (h0, .inr (0, [.ref ac, .ref ay, .ref ap, .int (nI mk)])), (ac, .inl (cyI, 365, .inl (pz_ar (pz_u ch (q - 1) v)))), (ay, .inl (cyI, 60, .inl (pz_ar fy))), (ap, .inl (cyI, 60, .inl (pz_ar fp)))] H := hP
  have hD : va_D A [(oa, .inl (cyL, 1, .inr (.inl (vp_updL og 0 (((nI (ch (q - 1)))).toInt64))))), (h0, .inr (0, [.ref ac, .ref ay, .ref ap, .int (nI mk)])), (ac, .inl (cyI, 365, .inl (pz_ar (pz_u ch (q - 1) v)))), (ay, .inl (cyI, 60, .inl (pz_ar fy))), (ap, .inl (cyI, 60, .inl (pz_ar fp)))] := hD
  refine lv_goto (tgt := 21) hx hb dL_setCharacter_10 (by decide) ?_
  refine lv_iconst (v := nI 0) hx hb dL_setCharacter_21 (by decide) ?_
  exact hQ _ _ _ _ _ (nI (ch (q - 1))) dL_setCharacter_22 rfl (by exact ⟨rfl, rfl⟩) hP hD hS
set_option maxHeartbeats 4000000 in
set_option maxRecDepth 100000 in
theorem k_L_characterOf_x (l : Launch) (hfl : l.stackTraces = false) (D : va_G) (h0 ac ay ap oa : Nat) (cyI cyL : ClassId) (ts : List (ClassId × FieldType)) (mk : Nat) (ch fy fp : Nat → Nat) (og : Nat → Int64) (x : Int32) (hy0 : x.toInt < 0 ∨ 1095749 < x.toInt) : pz_RX l yL_characterOf wsL_characterOf ({ frames := 8, cells := 1, slots := 6, locals := 125 } : Room) D ((cyI, .int) :: (cyL, .long) :: ts) [.ref h0, .int x, .ref oa] [(h0, .inr (0, [.ref ac, .ref ay, .ref ap, .int (nI mk)])), (ac, .inl (cyI, 365, .inl (pz_ar ch))), (ay, .inl (cyI, 60, .inl (pz_ar fy))), (ap, .inl (cyI, 60, .inl (pz_ar fp))), (oa, .inl (cyL, 1, .inr (.inl og)))] (fun r => r = nI 1) := by
  refine pz_RX_ofH (cc := cL_characterOf) (maxL := 4) (ty := .int) (own := RL) (hh := [(0, 9, 12, 13)]) (by decide) rfl rfl (Nat.le_of_ble_eq_true rfl) ?_
  intro p e s m below meth c ls Q hx hb hml hown hts hK hP hD hS hl hth hnc htab hQ
  have hl : lv_has ls 4 [(0, .ref h0), (1, .int x), (2, .ref oa)] := hl
  refine lv_aload_n hx hb dL_characterOf_0 rfl (lv_at hl 2 rfl) ?_
  refine lv_iconst (v := nI 0) hx hb dL_characterOf_1 (by decide) ?_
  refine lv_aload_n hx hb dL_characterOf_2 rfl (lv_at hl 0 rfl) ?_
  refine lv_iload_n hx hb dL_characterOf_3 rfl (lv_at hl 1 rfl) ?_
  refine pz_VXK (E := "java/lang/IndexOutOfBoundsException") (rest := [.int (nI 0), .ref oa]) ⟨hx, hb, hml, hown, hts⟩ (k_X0_characterOf_x l hfl D h0 ac ay ap cyI ((cyL, .long) :: ts) mk ch fy fp x (by exact hy0)) (cwV 1 hts gL_characterOf_X0_characterOf rfl rfl rfl (by decide +kernel) ⟨Nat.le_of_ble_eq_true rfl, Nat.le_of_ble_eq_true rfl⟩) hK hP hD hS hth [0, 1, 2, 3] rfl rfl rfl 0 0 rfl rfl rfl hl.1 rfl (lv_room (Nat.le_of_ble_eq_true rfl)) dL_characterOf_4 ⟨Nat.le_of_ble_eq_true rfl, Nat.le_of_ble_eq_true rfl⟩ (fun ce q9 H locs hS hce hcv hcl => ?_)
  refine vx_catch (own := RL) (name := "java/lang/IndexOutOfBoundsException") hown [] ⟨0, 9, 12, 13⟩ [] (by rw [htab]; rfl) (fun z hz => nomatch hz) rfl (by decide) (hts (.classLink RL 13 "java/lang/IndexOutOfBoundsException") (by decide +kernel)) (va_Nw.use rfl (hth.2.2.2.1 "java/lang/IndexOutOfBoundsException" (by decide +kernel))) hce hcv hcl ?_
  refine lv_astore_n (lv' := [(3, .ref q9), (0, .ref h0), (1, .int x), (2, .ref oa)]) hx hb dL_characterOf_12 rfl hl (by decide) rfl (fun ls hl => ?_)
  refine lv_iconst (v := nI 1) hx hb dL_characterOf_13 (by decide) ?_
  exact hQ _ _ _ _ _ dL_characterOf_14 rfl rfl hS
set_option maxHeartbeats 4000000 in
set_option maxRecDepth 100000 in
theorem k_L_characterOf (l : Launch) (D : va_G) (h0 ac ay ap oa : Nat) (cyI cyL : ClassId) (ts : List (ClassId × FieldType)) (mk : Nat) (ch fy fp : Nat → Nat) (og : Nat → Int64) (n : Nat) (hy0 : n < 1095750) : pz_I l yL_characterOf wsL_characterOf ({ frames := 4, cells := 0, slots := 0, locals := 81 } : Room) D ((cyI, .int) :: (cyL, .long) :: ts) [.ref h0, .int (nI n), .ref oa] [(h0, .inr (0, [.ref ac, .ref ay, .ref ap, .int (nI mk)])), (ac, .inl (cyI, 365, .inl (pz_ar ch))), (ay, .inl (cyI, 60, .inl (pz_ar fy))), (ap, .inl (cyI, 60, .inl (pz_ar fp))), (oa, .inl (cyL, 1, .inr (.inl og)))] (S := Int32) (fun r u => r = nI 0 ∧ u = nI (ch (pm_pl n - 1))) (fun u => [(h0, .inr (0, [.ref ac, .ref ay, .ref ap, .int (nI mk)])), (ac, .inl (cyI, 365, .inl (pz_ar ch))), (ay, .inl (cyI, 60, .inl (pz_ar fy))), (ap, .inl (cyI, 60, .inl (pz_ar fp))), (oa, .inl (cyL, 1, .inr (.inl (vp_updL og 0 u.toInt64))))]) := by
  refine pz_I_ofH (cc := cL_characterOf) (maxL := 4) (ty := .int) (own := RL) (hh := [(0, 9, 12, 13)]) (by decide) rfl rfl (Nat.le_of_ble_eq_true rfl) ?_
  intro p e s m below meth c A ls Q hx hb hml hown hts hK hP hD hS hA hl hQ
  have hl : lv_has ls 4 [(0, .ref h0), (1, .int (nI n)), (2, .ref oa)] := hl
  refine lv_aload_n hx hb dL_characterOf_0 rfl (lv_at hl 2 rfl) ?_
  refine lv_iconst (v := nI 0) hx hb dL_characterOf_1 (by decide) ?_
  refine lv_aload_n hx hb dL_characterOf_2 rfl (lv_at hl 0 rfl) ?_
  refine lv_iload_n hx hb dL_characterOf_3 rfl (lv_at hl 1 rfl) ?_
  refine pz_VR (rest := [.int (nI 0), .ref oa]) ⟨hx, hb, hml, hown, hts⟩ (k_X0_characterOf l D h0 ac ay ap cyI ((cyL, .long) :: ts) mk ch fy fp n (by exact hy0)) (cwV 1 hts gL_characterOf_X0_characterOf rfl rfl rfl (by decide +kernel) ⟨Nat.le_of_ble_eq_true rfl, Nat.le_of_ble_eq_true rfl⟩) hK hP (hD.weaken (fun _ _ _ _ => trivial)) hS hA [0, 1, 2, 3] rfl rfl rfl 0 0 rfl rfl rfl hl.1 rfl (lv_room (Nat.le_of_ble_eq_true rfl)) dL_characterOf_4 ⟨Nat.le_of_ble_eq_true rfl, Nat.le_of_ble_eq_true rfl⟩ (fun r H locs hr hP hS => ?_)
  obtain rfl : r = (nI (ch (pm_pl n - 1))) := hr
  refine lv_i2l (v := ((nI (ch (pm_pl n - 1)))).toInt64) hx hb dL_characterOf_7 rfl ?_
  refine pn_last hx hb hK hP hD hS 4 1 rfl rfl (by decide) (by decide) dL_characterOf_8 (fun H locs hP hD hS => ?_)
  have hP : va_P D vwCl [(h0, .inr (0, [.ref ac, .ref ay, .ref ap, .int (nI mk)])), (ac, .inl (cyI, 365, .inl (pz_ar ch))), (ay, .inl (cyI, 60, .inl (pz_ar fy))), (ap, .inl (cyI, 60, .inl (pz_ar fp))), (oa, .inl (cyL, 1, .inr (.inl (vp_updL og 0 (((nI (ch (pm_pl n - 1)))).toInt64)))))] H := hP
  have hD : va_D A [(h0, .inr (0, [.ref ac, .ref ay, .ref ap, .int (nI mk)])), (ac, .inl (cyI, 365, .inl (pz_ar ch))), (ay, .inl (cyI, 60, .inl (pz_ar fy))), (ap, .inl (cyI, 60, .inl (pz_ar fp))), (oa, .inl (cyL, 1, .inr (.inl (vp_updL og 0 (((nI (ch (pm_pl n - 1)))).toInt64)))))] := hD
  refine lv_goto (tgt := 15) hx hb dL_characterOf_9 (by decide) ?_
  refine lv_iconst (v := nI 0) hx hb dL_characterOf_15 (by decide) ?_
  exact hQ _ _ _ _ _ (nI (ch (pm_pl n - 1))) dL_characterOf_16 rfl (by exact ⟨rfl, rfl⟩) hP hD hS
set_option maxHeartbeats 4000000 in
set_option maxRecDepth 100000 in
theorem k_L_canVote_x (l : Launch) (hfl : l.stackTraces = false) (D : va_G) (h0 ac ay ap oa : Nat) (cyI cyL : ClassId) (ts : List (ClassId × FieldType)) (mk : Nat) (ch fy fp : Nat → Nat) (og : Nat → Int64) (x : Int32) (hy0 : x.toInt < 0 ∨ 1095749 < x.toInt) : pz_RX l yL_canVote wsL_canVote ({ frames := 8, cells := 1, slots := 6, locals := 125 } : Room) D ((cyI, .int) :: (cyL, .long) :: ts) [.ref h0, .int x, .ref oa] [(h0, .inr (0, [.ref ac, .ref ay, .ref ap, .int (nI mk)])), (ac, .inl (cyI, 365, .inl (pz_ar ch))), (ay, .inl (cyI, 60, .inl (pz_ar fy))), (ap, .inl (cyI, 60, .inl (pz_ar fp))), (oa, .inl (cyL, 1, .inr (.inl og)))] (fun r => r = nI 1) := by
  refine pz_RX_ofH (cc := cL_canVote) (maxL := 4) (ty := .int) (own := RL) (hh := [(0, 16, 19, 13)]) (by decide) rfl rfl (Nat.le_of_ble_eq_true rfl) ?_
  intro p e s m below meth c ls Q hx hb hml hown hts hK hP hD hS hl hth hnc htab hQ
  have hl : lv_has ls 4 [(0, .ref h0), (1, .int x), (2, .ref oa)] := hl
  refine lv_aload_n hx hb dL_canVote_0 rfl (lv_at hl 2 rfl) ?_
  refine lv_iconst (v := nI 0) hx hb dL_canVote_1 (by decide) ?_
  refine lv_aload_n hx hb dL_canVote_2 rfl (lv_at hl 0 rfl) ?_
  refine lv_iload_n hx hb dL_canVote_3 rfl (lv_at hl 1 rfl) ?_
  refine pz_VXK (E := "java/lang/IndexOutOfBoundsException") (rest := [.int (nI 0), .ref oa]) ⟨hx, hb, hml, hown, hts⟩ (k_X0_canVote_x l hfl D h0 ac ay ap cyI ((cyL, .long) :: ts) mk ch fy fp x (by exact hy0)) (cwV 1 hts gL_canVote_X0_canVote rfl rfl rfl (by decide +kernel) ⟨Nat.le_of_ble_eq_true rfl, Nat.le_of_ble_eq_true rfl⟩) hK hP hD hS hth [0, 1, 2, 3] rfl rfl rfl 0 0 rfl rfl rfl hl.1 rfl (lv_room (Nat.le_of_ble_eq_true rfl)) dL_canVote_4 ⟨Nat.le_of_ble_eq_true rfl, Nat.le_of_ble_eq_true rfl⟩ (fun ce q9 H locs hS hce hcv hcl => ?_)
  refine vx_catch (own := RL) (name := "java/lang/IndexOutOfBoundsException") hown [] ⟨0, 16, 19, 13⟩ [] (by rw [htab]; rfl) (fun z hz => nomatch hz) rfl (by decide) (hts (.classLink RL 13 "java/lang/IndexOutOfBoundsException") (by decide +kernel)) (va_Nw.use rfl (hth.2.2.2.1 "java/lang/IndexOutOfBoundsException" (by decide +kernel))) hce hcv hcl ?_
  refine lv_astore_n (lv' := [(3, .ref q9), (0, .ref h0), (1, .int x), (2, .ref oa)]) hx hb dL_canVote_19 rfl hl (by decide) rfl (fun ls hl => ?_)
  refine lv_iconst (v := nI 1) hx hb dL_canVote_20 (by decide) ?_
  exact hQ _ _ _ _ _ dL_canVote_21 rfl rfl hS
set_option maxHeartbeats 4000000 in
set_option maxRecDepth 100000 in
theorem k_L_canVote (l : Launch) (D : va_G) (h0 ac ay ap oa : Nat) (cyI cyL : ClassId) (ts : List (ClassId × FieldType)) (mk : Nat) (ch fy fp : Nat → Nat) (og : Nat → Int64) (n : Nat) (hy0 : n < 1095750) (hch : ∀ j, j < 365 → ch j ≤ 3) (hmk : mk < 8) : pz_I l yL_canVote wsL_canVote ({ frames := 5, cells := 0, slots := 0, locals := 102 } : Room) D ((cyI, .int) :: (cyL, .long) :: ts) [.ref h0, .int (nI n), .ref oa] [(h0, .inr (0, [.ref ac, .ref ay, .ref ap, .int (nI mk)])), (ac, .inl (cyI, 365, .inl (pz_ar ch))), (ay, .inl (cyI, 60, .inl (pz_ar fy))), (ap, .inl (cyI, 60, .inl (pz_ar fp))), (oa, .inl (cyL, 1, .inr (.inl og)))] (S := Int32) (fun r u => r = nI 0 ∧ u = pz_b (pm_vt (pm_sh ch) mk n)) (fun u => [(h0, .inr (0, [.ref ac, .ref ay, .ref ap, .int (nI mk)])), (ac, .inl (cyI, 365, .inl (pz_ar ch))), (ay, .inl (cyI, 60, .inl (pz_ar fy))), (ap, .inl (cyI, 60, .inl (pz_ar fp))), (oa, .inl (cyL, 1, .inr (.inl (vp_updL og 0 u.toInt64))))]) := by
  refine pz_I_ofH (cc := cL_canVote) (maxL := 4) (ty := .int) (own := RL) (hh := [(0, 16, 19, 13)]) (by decide) rfl rfl (Nat.le_of_ble_eq_true rfl) ?_
  intro p e s m below meth c A ls Q hx hb hml hown hts hK hP hD hS hA hl hQ
  have hl : lv_has ls 4 [(0, .ref h0), (1, .int (nI n)), (2, .ref oa)] := hl
  refine lv_aload_n hx hb dL_canVote_0 rfl (lv_at hl 2 rfl) ?_
  refine lv_iconst (v := nI 0) hx hb dL_canVote_1 (by decide) ?_
  refine lv_aload_n hx hb dL_canVote_2 rfl (lv_at hl 0 rfl) ?_
  refine lv_iload_n hx hb dL_canVote_3 rfl (lv_at hl 1 rfl) ?_
  refine pz_VR (rest := [.int (nI 0), .ref oa]) ⟨hx, hb, hml, hown, hts⟩ (k_X0_canVote l D h0 ac ay ap cyI ((cyL, .long) :: ts) mk ch fy fp n (by exact hy0) (by exact hch) (by exact hmk)) (cwV 1 hts gL_canVote_X0_canVote rfl rfl rfl (by decide +kernel) ⟨Nat.le_of_ble_eq_true rfl, Nat.le_of_ble_eq_true rfl⟩) hK hP (hD.weaken (fun _ _ _ _ => trivial)) hS hA [0, 1, 2, 3] rfl rfl rfl 0 0 rfl rfl rfl hl.1 rfl (lv_room (Nat.le_of_ble_eq_true rfl)) dL_canVote_4 ⟨Nat.le_of_ble_eq_true rfl, Nat.le_of_ble_eq_true rfl⟩ (fun r H locs hr hP hS => ?_)
  obtain rfl : r = (pz_b (pm_vt (pm_sh ch) mk n)) := hr
  refine pb_if_eq (tgt := 14) hx hb dL_canVote_7 (by decide) (fun c_2 => ?_) (fun c_2 => ?_)
  · -- 7 yes
    refine lv_lconst (v := 0) hx hb dL_canVote_14 (by decide) ?_
    refine pn_last hx hb hK hP hD hS 4 1 rfl rfl (by decide) (by decide) dL_canVote_15 (fun H locs hP hD hS => ?_)
    have hP : va_P D vwCl [(h0, .inr (0, [.ref ac, .ref ay, .ref ap, .int (nI mk)])), (ac, .inl (cyI, 365, .inl (pz_ar ch))), (ay, .inl (cyI, 60, .inl (pz_ar fy))), (ap, .inl (cyI, 60, .inl (pz_ar fp))), (oa, .inl (cyL, 1, .inr (.inl (vp_updL og 0 (0 : Int64)))))] H := hP
    have hD : va_D A [(h0, .inr (0, [.ref ac, .ref ay, .ref ap, .int (nI mk)])), (ac, .inl (cyI, 365, .inl (pz_ar ch))), (ay, .inl (cyI, 60, .inl (pz_ar fy))), (ap, .inl (cyI, 60, .inl (pz_ar fp))), (oa, .inl (cyL, 1, .inr (.inl (vp_updL og 0 (0 : Int64)))))] := hD
    have hq9 : vp_updL og 0 (0 : Int64) = vp_updL og 0 (pz_b (pm_vt (pm_sh ch) mk n)).toInt64 := by rw [pz_bl0 (C := pm_vt (pm_sh ch) mk n) (by assumption)]
    have hP : va_P D vwCl [(h0, .inr (0, [.ref ac, .ref ay, .ref ap, .int (nI mk)])), (ac, .inl (cyI, 365, .inl (pz_ar ch))), (ay, .inl (cyI, 60, .inl (pz_ar fy))), (ap, .inl (cyI, 60, .inl (pz_ar fp))), (oa, .inl (cyL, 1, .inr (.inl (vp_updL og 0 (pz_b (pm_vt (pm_sh ch) mk n)).toInt64))))] H := by rw [← hq9]; exact hP
    have hD : va_D A [(h0, .inr (0, [.ref ac, .ref ay, .ref ap, .int (nI mk)])), (ac, .inl (cyI, 365, .inl (pz_ar ch))), (ay, .inl (cyI, 60, .inl (pz_ar fy))), (ap, .inl (cyI, 60, .inl (pz_ar fp))), (oa, .inl (cyL, 1, .inr (.inl (vp_updL og 0 (pz_b (pm_vt (pm_sh ch) mk n)).toInt64))))] := by rw [← hq9]; exact hD
    refine lv_goto (tgt := 22) hx hb dL_canVote_16 (by decide) ?_
    refine lv_iconst (v := nI 0) hx hb dL_canVote_22 (by decide) ?_
    exact hQ _ _ _ _ _ (pz_b (pm_vt (pm_sh ch) mk n)) dL_canVote_23 rfl (by exact ⟨rfl, rfl⟩) hP hD hS
  · -- 7 no
    refine lv_lconst (v := 1) hx hb dL_canVote_10 (by decide) ?_
    refine lv_goto (tgt := 15) hx hb dL_canVote_11 (by decide) ?_
    refine pn_last hx hb hK hP hD hS 4 1 rfl rfl (by decide) (by decide) dL_canVote_15 (fun H locs hP hD hS => ?_)
    have hP : va_P D vwCl [(h0, .inr (0, [.ref ac, .ref ay, .ref ap, .int (nI mk)])), (ac, .inl (cyI, 365, .inl (pz_ar ch))), (ay, .inl (cyI, 60, .inl (pz_ar fy))), (ap, .inl (cyI, 60, .inl (pz_ar fp))), (oa, .inl (cyL, 1, .inr (.inl (vp_updL og 0 (1 : Int64)))))] H := hP
    have hD : va_D A [(h0, .inr (0, [.ref ac, .ref ay, .ref ap, .int (nI mk)])), (ac, .inl (cyI, 365, .inl (pz_ar ch))), (ay, .inl (cyI, 60, .inl (pz_ar fy))), (ap, .inl (cyI, 60, .inl (pz_ar fp))), (oa, .inl (cyL, 1, .inr (.inl (vp_updL og 0 (1 : Int64)))))] := hD
    have hq9 : vp_updL og 0 (1 : Int64) = vp_updL og 0 (pz_b (pm_vt (pm_sh ch) mk n)).toInt64 := by rw [pz_bl1 (C := pm_vt (pm_sh ch) mk n) (by assumption)]
    have hP : va_P D vwCl [(h0, .inr (0, [.ref ac, .ref ay, .ref ap, .int (nI mk)])), (ac, .inl (cyI, 365, .inl (pz_ar ch))), (ay, .inl (cyI, 60, .inl (pz_ar fy))), (ap, .inl (cyI, 60, .inl (pz_ar fp))), (oa, .inl (cyL, 1, .inr (.inl (vp_updL og 0 (pz_b (pm_vt (pm_sh ch) mk n)).toInt64))))] H := by rw [← hq9]; exact hP
    have hD : va_D A [(h0, .inr (0, [.ref ac, .ref ay, .ref ap, .int (nI mk)])), (ac, .inl (cyI, 365, .inl (pz_ar ch))), (ay, .inl (cyI, 60, .inl (pz_ar fy))), (ap, .inl (cyI, 60, .inl (pz_ar fp))), (oa, .inl (cyL, 1, .inr (.inl (vp_updL og 0 (pz_b (pm_vt (pm_sh ch) mk n)).toInt64))))] := by rw [← hq9]; exact hD
    refine lv_goto (tgt := 22) hx hb dL_canVote_16 (by decide) ?_
    refine lv_iconst (v := nI 0) hx hb dL_canVote_22 (by decide) ?_
    exact hQ _ _ _ _ _ (pz_b (pm_vt (pm_sh ch) mk n)) dL_canVote_23 rfl (by exact ⟨rfl, rfl⟩) hP hD hS
set_option maxHeartbeats 4000000 in
set_option maxRecDepth 100000 in
theorem k_L_nextCourt_x (l : Launch) (hfl : l.stackTraces = false) (D : va_G) (h0 ac ay ap oa : Nat) (cyI cyL : ClassId) (ts : List (ClassId × FieldType)) (mk : Nat) (ch fy fp : Nat → Nat) (og : Nat → Int64) (x : Int32) (hy0 : x.toInt < 0 ∨ 1095749 < x.toInt) : pz_RX l yL_nextCourt wsL_nextCourt ({ frames := 8, cells := 1, slots := 6, locals := 128 } : Room) D ((cyI, .int) :: (cyL, .long) :: ts) [.ref h0, .int x, .ref oa] [(h0, .inr (0, [.ref ac, .ref ay, .ref ap, .int (nI mk)])), (ac, .inl (cyI, 365, .inl (pz_ar ch))), (ay, .inl (cyI, 60, .inl (pz_ar fy))), (ap, .inl (cyI, 60, .inl (pz_ar fp))), (oa, .inl (cyL, 1, .inr (.inl og)))] (fun r => r = nI 1) := by
  refine pz_RX_ofH (cc := cL_nextCourt) (maxL := 4) (ty := .int) (own := RL) (hh := [(0, 9, 12, 13)]) (by decide) rfl rfl (Nat.le_of_ble_eq_true rfl) ?_
  intro p e s m below meth c ls Q hx hb hml hown hts hK hP hD hS hl hth hnc htab hQ
  have hl : lv_has ls 4 [(0, .ref h0), (1, .int x), (2, .ref oa)] := hl
  refine lv_aload_n hx hb dL_nextCourt_0 rfl (lv_at hl 2 rfl) ?_
  refine lv_iconst (v := nI 0) hx hb dL_nextCourt_1 (by decide) ?_
  refine lv_aload_n hx hb dL_nextCourt_2 rfl (lv_at hl 0 rfl) ?_
  refine lv_iload_n hx hb dL_nextCourt_3 rfl (lv_at hl 1 rfl) ?_
  refine pz_VXK (E := "java/lang/IndexOutOfBoundsException") (rest := [.int (nI 0), .ref oa]) ⟨hx, hb, hml, hown, hts⟩ (k_X0_nextCourt_x l hfl D h0 ac ay ap cyI ((cyL, .long) :: ts) mk ch fy fp x (by exact hy0)) (cwV 1 hts gL_nextCourt_X0_nextCourt rfl rfl rfl (by decide +kernel) ⟨Nat.le_of_ble_eq_true rfl, Nat.le_of_ble_eq_true rfl⟩) hK hP hD hS hth [0, 1, 2, 3] rfl rfl rfl 0 0 rfl rfl rfl hl.1 rfl (lv_room (Nat.le_of_ble_eq_true rfl)) dL_nextCourt_4 ⟨Nat.le_of_ble_eq_true rfl, Nat.le_of_ble_eq_true rfl⟩ (fun ce q9 H locs hS hce hcv hcl => ?_)
  refine vx_catch (own := RL) (name := "java/lang/IndexOutOfBoundsException") hown [] ⟨0, 9, 12, 13⟩ [] (by rw [htab]; rfl) (fun z hz => nomatch hz) rfl (by decide) (hts (.classLink RL 13 "java/lang/IndexOutOfBoundsException") (by decide +kernel)) (va_Nw.use rfl (hth.2.2.2.1 "java/lang/IndexOutOfBoundsException" (by decide +kernel))) hce hcv hcl ?_
  refine lv_astore_n (lv' := [(3, .ref q9), (0, .ref h0), (1, .int x), (2, .ref oa)]) hx hb dL_nextCourt_12 rfl hl (by decide) rfl (fun ls hl => ?_)
  refine lv_iconst (v := nI 1) hx hb dL_nextCourt_13 (by decide) ?_
  exact hQ _ _ _ _ _ dL_nextCourt_14 rfl rfl hS
set_option maxHeartbeats 4000000 in
set_option maxRecDepth 100000 in
theorem k_L_nextCourt (l : Launch) (D : va_G) (h0 ac ay ap oa : Nat) (cyI cyL : ClassId) (ts : List (ClassId × FieldType)) (mk : Nat) (ch fy fp : Nat → Nat) (og : Nat → Int64) (n : Nat) (hy0 : n < 1095750) (hch : ∀ j, j < 365 → ch j ≤ 3) : pz_I l yL_nextCourt wsL_nextCourt ({ frames := 4, cells := 0, slots := 0, locals := 84 } : Room) D ((cyI, .int) :: (cyL, .long) :: ts) [.ref h0, .int (nI n), .ref oa] [(h0, .inr (0, [.ref ac, .ref ay, .ref ap, .int (nI mk)])), (ac, .inl (cyI, 365, .inl (pz_ar ch))), (ay, .inl (cyI, 60, .inl (pz_ar fy))), (ap, .inl (cyI, 60, .inl (pz_ar fp))), (oa, .inl (cyL, 1, .inr (.inl og)))] (S := Int32) (fun r u => r = nI 0 ∧ (fun r => (∃ d, n ≤ d ∧ d < 1095750 ∧ d < n + 366 ∧ r = nI d ∧ (ch (pm_pl d - 1) = 0 ∨ ch (pm_pl d - 1) = 2) ∧ ∀ z, n ≤ z → z < d → ¬ (ch (pm_pl z - 1) = 0 ∨ ch (pm_pl z - 1) = 2)) ∨ (r = (-1) ∧ ∀ z, n ≤ z → z < 1095750 → z < n + 366 → ¬ (ch (pm_pl z - 1) = 0 ∨ ch (pm_pl z - 1) = 2))) u) (fun u => [(h0, .inr (0, [.ref ac, .ref ay, .ref ap, .int (nI mk)])), (ac, .inl (cyI, 365, .inl (pz_ar ch))), (ay, .inl (cyI, 60, .inl (pz_ar fy))), (ap, .inl (cyI, 60, .inl (pz_ar fp))), (oa, .inl (cyL, 1, .inr (.inl (vp_updL og 0 u.toInt64))))]) := by
  refine pz_I_ofH (cc := cL_nextCourt) (maxL := 4) (ty := .int) (own := RL) (hh := [(0, 9, 12, 13)]) (by decide) rfl rfl (Nat.le_of_ble_eq_true rfl) ?_
  intro p e s m below meth c A ls Q hx hb hml hown hts hK hP hD hS hA hl hQ
  have hl : lv_has ls 4 [(0, .ref h0), (1, .int (nI n)), (2, .ref oa)] := hl
  refine lv_aload_n hx hb dL_nextCourt_0 rfl (lv_at hl 2 rfl) ?_
  refine lv_iconst (v := nI 0) hx hb dL_nextCourt_1 (by decide) ?_
  refine lv_aload_n hx hb dL_nextCourt_2 rfl (lv_at hl 0 rfl) ?_
  refine lv_iload_n hx hb dL_nextCourt_3 rfl (lv_at hl 1 rfl) ?_
  refine pz_VR (rest := [.int (nI 0), .ref oa]) ⟨hx, hb, hml, hown, hts⟩ (k_X0_nextCourt l D h0 ac ay ap cyI ((cyL, .long) :: ts) mk ch fy fp n (by exact hy0) (by exact hch)) (cwV 1 hts gL_nextCourt_X0_nextCourt rfl rfl rfl (by decide +kernel) ⟨Nat.le_of_ble_eq_true rfl, Nat.le_of_ble_eq_true rfl⟩) hK hP (hD.weaken (fun _ _ _ _ => trivial)) hS hA [0, 1, 2, 3] rfl rfl rfl 0 0 rfl rfl rfl hl.1 rfl (lv_room (Nat.le_of_ble_eq_true rfl)) dL_nextCourt_4 ⟨Nat.le_of_ble_eq_true rfl, Nat.le_of_ble_eq_true rfl⟩ (fun r H locs hr hP hS => ?_)
  have hr_1 : (fun r => (∃ d, n ≤ d ∧ d < 1095750 ∧ d < n + 366 ∧ r = nI d ∧ (ch (pm_pl d - 1) = 0 ∨ ch (pm_pl d - 1) = 2) ∧ ∀ z, n ≤ z → z < d → ¬ (ch (pm_pl z - 1) = 0 ∨ ch (pm_pl z - 1) = 2)) ∨ (r = (-1) ∧ ∀ z, n ≤ z → z < 1095750 → z < n + 366 → ¬ (ch (pm_pl z - 1) = 0 ∨ ch (pm_pl z - 1) = 2))) r := hr
  obtain ⟨r_1, er_1⟩ : ∃ z, z = r := ⟨_, rfl⟩
  subst er_1
  refine lv_i2l (v := (r_1).toInt64) hx hb dL_nextCourt_7 rfl ?_
  refine pn_last hx hb hK hP hD hS 4 1 rfl rfl (by decide) (by decide) dL_nextCourt_8 (fun H locs hP hD hS => ?_)
  have hP : va_P D vwCl [(h0, .inr (0, [.ref ac, .ref ay, .ref ap, .int (nI mk)])), (ac, .inl (cyI, 365, .inl (pz_ar ch))), (ay, .inl (cyI, 60, .inl (pz_ar fy))), (ap, .inl (cyI, 60, .inl (pz_ar fp))), (oa, .inl (cyL, 1, .inr (.inl (vp_updL og 0 ((r_1).toInt64)))))] H := hP
  have hD : va_D A [(h0, .inr (0, [.ref ac, .ref ay, .ref ap, .int (nI mk)])), (ac, .inl (cyI, 365, .inl (pz_ar ch))), (ay, .inl (cyI, 60, .inl (pz_ar fy))), (ap, .inl (cyI, 60, .inl (pz_ar fp))), (oa, .inl (cyL, 1, .inr (.inl (vp_updL og 0 ((r_1).toInt64)))))] := hD
  refine lv_goto (tgt := 15) hx hb dL_nextCourt_9 (by decide) ?_
  refine lv_iconst (v := nI 0) hx hb dL_nextCourt_15 (by decide) ?_
  exact hQ _ _ _ _ _ r_1 dL_nextCourt_16 rfl (by exact ⟨rfl, by assumption⟩) hP hD hS
set_option maxHeartbeats 4000000 in
set_option maxRecDepth 100000 in
theorem k_L_votes_x (l : Launch) (hfl : l.stackTraces = false) (D : va_G) (h0 ac ay ap oa : Nat) (cyI cyL : ClassId) (ts : List (ClassId × FieldType)) (mk : Nat) (ch fy fp : Nat → Nat) (og : Nat → Int64) (x : Int32) (hy0 : x.toInt < 1 ∨ 3000 < x.toInt) : pz_RX l yL_votes wsL_votes ({ frames := 8, cells := 1, slots := 6, locals := 128 } : Room) D ((cyI, .int) :: (cyL, .long) :: ts) [.ref h0, .int x, .ref oa] [(h0, .inr (0, [.ref ac, .ref ay, .ref ap, .int (nI mk)])), (ac, .inl (cyI, 365, .inl (pz_ar ch))), (ay, .inl (cyI, 60, .inl (pz_ar fy))), (ap, .inl (cyI, 60, .inl (pz_ar fp))), (oa, .inl (cyL, 1, .inr (.inl og)))] (fun r => r = nI 1) := by
  refine pz_RX_ofH (cc := cL_votes) (maxL := 4) (ty := .int) (own := RL) (hh := [(0, 9, 12, 13)]) (by decide) rfl rfl (Nat.le_of_ble_eq_true rfl) ?_
  intro p e s m below meth c ls Q hx hb hml hown hts hK hP hD hS hl hth hnc htab hQ
  have hl : lv_has ls 4 [(0, .ref h0), (1, .int x), (2, .ref oa)] := hl
  refine lv_aload_n hx hb dL_votes_0 rfl (lv_at hl 2 rfl) ?_
  refine lv_iconst (v := nI 0) hx hb dL_votes_1 (by decide) ?_
  refine lv_aload_n hx hb dL_votes_2 rfl (lv_at hl 0 rfl) ?_
  refine lv_iload_n hx hb dL_votes_3 rfl (lv_at hl 1 rfl) ?_
  refine pz_VXK (E := "java/lang/IndexOutOfBoundsException") (rest := [.int (nI 0), .ref oa]) ⟨hx, hb, hml, hown, hts⟩ (k_X0_votes_x l hfl D h0 ac ay ap cyI ((cyL, .long) :: ts) mk ch fy fp x (by exact hy0)) (cwV 1 hts gL_votes_X0_votes rfl rfl rfl (by decide +kernel) ⟨Nat.le_of_ble_eq_true rfl, Nat.le_of_ble_eq_true rfl⟩) hK hP hD hS hth [0, 1, 2, 3] rfl rfl rfl 0 0 rfl rfl rfl hl.1 rfl (lv_room (Nat.le_of_ble_eq_true rfl)) dL_votes_4 ⟨Nat.le_of_ble_eq_true rfl, Nat.le_of_ble_eq_true rfl⟩ (fun ce q9 H locs hS hce hcv hcl => ?_)
  refine vx_catch (own := RL) (name := "java/lang/IndexOutOfBoundsException") hown [] ⟨0, 9, 12, 13⟩ [] (by rw [htab]; rfl) (fun z hz => nomatch hz) rfl (by decide) (hts (.classLink RL 13 "java/lang/IndexOutOfBoundsException") (by decide +kernel)) (va_Nw.use rfl (hth.2.2.2.1 "java/lang/IndexOutOfBoundsException" (by decide +kernel))) hce hcv hcl ?_
  refine lv_astore_n (lv' := [(3, .ref q9), (0, .ref h0), (1, .int x), (2, .ref oa)]) hx hb dL_votes_12 rfl hl (by decide) rfl (fun ls hl => ?_)
  refine lv_iconst (v := nI 1) hx hb dL_votes_13 (by decide) ?_
  exact hQ _ _ _ _ _ dL_votes_14 rfl rfl hS
set_option maxHeartbeats 4000000 in
set_option maxRecDepth 100000 in
theorem k_L_votes (l : Launch) (D : va_G) (h0 ac ay ap oa : Nat) (cyI cyL : ClassId) (ts : List (ClassId × FieldType)) (mk : Nat) (ch fy fp : Nat → Nat) (og : Nat → Int64) (y : Nat) (hy0 : 1 ≤ y) (hy1 : y ≤ 3000) (hch : ∀ j, j < 365 → ch j ≤ 3) (hmk : mk < 8) : pz_I l yL_votes wsL_votes ({ frames := 5, cells := 0, slots := 0, locals := 105 } : Room) D ((cyI, .int) :: (cyL, .long) :: ts) [.ref h0, .int (nI y), .ref oa] [(h0, .inr (0, [.ref ac, .ref ay, .ref ap, .int (nI mk)])), (ac, .inl (cyI, 365, .inl (pz_ar ch))), (ay, .inl (cyI, 60, .inl (pz_ar fy))), (ap, .inl (cyI, 60, .inl (pz_ar fp))), (oa, .inl (cyL, 1, .inr (.inl og)))] (S := Int32) (fun r u => r = nI 0 ∧ u = nI (pm_vc (pm_sh ch) mk (pm_fd y) (pm_fd (y + 1) - pm_fd y))) (fun u => [(h0, .inr (0, [.ref ac, .ref ay, .ref ap, .int (nI mk)])), (ac, .inl (cyI, 365, .inl (pz_ar ch))), (ay, .inl (cyI, 60, .inl (pz_ar fy))), (ap, .inl (cyI, 60, .inl (pz_ar fp))), (oa, .inl (cyL, 1, .inr (.inl (vp_updL og 0 u.toInt64))))]) := by
  refine pz_I_ofH (cc := cL_votes) (maxL := 4) (ty := .int) (own := RL) (hh := [(0, 9, 12, 13)]) (by decide) rfl rfl (Nat.le_of_ble_eq_true rfl) ?_
  intro p e s m below meth c A ls Q hx hb hml hown hts hK hP hD hS hA hl hQ
  have hl : lv_has ls 4 [(0, .ref h0), (1, .int (nI y)), (2, .ref oa)] := hl
  refine lv_aload_n hx hb dL_votes_0 rfl (lv_at hl 2 rfl) ?_
  refine lv_iconst (v := nI 0) hx hb dL_votes_1 (by decide) ?_
  refine lv_aload_n hx hb dL_votes_2 rfl (lv_at hl 0 rfl) ?_
  refine lv_iload_n hx hb dL_votes_3 rfl (lv_at hl 1 rfl) ?_
  refine pz_VR (rest := [.int (nI 0), .ref oa]) ⟨hx, hb, hml, hown, hts⟩ (k_X0_votes l D h0 ac ay ap cyI ((cyL, .long) :: ts) mk ch fy fp y (by exact hy0) (by exact hy1) (by exact hch) (by exact hmk)) (cwV 1 hts gL_votes_X0_votes rfl rfl rfl (by decide +kernel) ⟨Nat.le_of_ble_eq_true rfl, Nat.le_of_ble_eq_true rfl⟩) hK hP (hD.weaken (fun _ _ _ _ => trivial)) hS hA [0, 1, 2, 3] rfl rfl rfl 0 0 rfl rfl rfl hl.1 rfl (lv_room (Nat.le_of_ble_eq_true rfl)) dL_votes_4 ⟨Nat.le_of_ble_eq_true rfl, Nat.le_of_ble_eq_true rfl⟩ (fun r H locs hr hP hS => ?_)
  obtain rfl : r = (nI (pm_vc (pm_sh ch) mk (pm_fd y) (pm_fd (y + 1) - pm_fd y))) := hr
  refine lv_i2l (v := ((nI (pm_vc (pm_sh ch) mk (pm_fd y) (pm_fd (y + 1) - pm_fd y)))).toInt64) hx hb dL_votes_7 rfl ?_
  refine pn_last hx hb hK hP hD hS 4 1 rfl rfl (by decide) (by decide) dL_votes_8 (fun H locs hP hD hS => ?_)
  have hP : va_P D vwCl [(h0, .inr (0, [.ref ac, .ref ay, .ref ap, .int (nI mk)])), (ac, .inl (cyI, 365, .inl (pz_ar ch))), (ay, .inl (cyI, 60, .inl (pz_ar fy))), (ap, .inl (cyI, 60, .inl (pz_ar fp))), (oa, .inl (cyL, 1, .inr (.inl (vp_updL og 0 (((nI (pm_vc (pm_sh ch) mk (pm_fd y) (pm_fd (y + 1) - pm_fd y)))).toInt64)))))] H := hP
  have hD : va_D A [(h0, .inr (0, [.ref ac, .ref ay, .ref ap, .int (nI mk)])), (ac, .inl (cyI, 365, .inl (pz_ar ch))), (ay, .inl (cyI, 60, .inl (pz_ar fy))), (ap, .inl (cyI, 60, .inl (pz_ar fp))), (oa, .inl (cyL, 1, .inr (.inl (vp_updL og 0 (((nI (pm_vc (pm_sh ch) mk (pm_fd y) (pm_fd (y + 1) - pm_fd y)))).toInt64)))))] := hD
  refine lv_goto (tgt := 15) hx hb dL_votes_9 (by decide) ?_
  refine lv_iconst (v := nI 0) hx hb dL_votes_15 (by decide) ?_
  exact hQ _ _ _ _ _ (nI (pm_vc (pm_sh ch) mk (pm_fd y) (pm_fd (y + 1) - pm_fd y))) dL_votes_16 rfl (by exact ⟨rfl, rfl⟩) hP hD hS
end PZ9
