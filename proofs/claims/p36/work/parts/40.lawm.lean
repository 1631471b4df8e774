section PZR
set_option maxHeartbeats 4000000 in
set_option maxRecDepth 100000 in
theorem k_L_counted_0 (l : Launch) (D : va_G) (h0 ac ay ap : Nat) (cyI : ClassId) (ts : List (ClassId × FieldType))   : pz_R l yL_counted wsL_counted ({ frames := 4, cells := 0, slots := 0, locals := 92 } : Room) D ((cyI, .int) :: ts) [.ref h0, .int (nI 1), .int (nI 1), .int (nI 0), .int (nI 1), .int (nI 0)] [(h0, .inr (0, [.ref ac, .ref ay, .ref ap, .int (nI 0)])), (ac, .inl (cyI, 365, .inl (pz_ar (pq_c 12)))), (ay, .inl (cyI, 60, .inl (pz_ar pq_z))), (ap, .inl (cyI, 60, .inl (pz_ar pq_z)))] (fun r => r = nI 0) := by
  refine pz_R_ofH (hh := [(0, 11, 12, 13)]) (cc := cL_counted) (maxL := 7) (ty := .int) (own := RL) (by decide) rfl rfl (Nat.le_of_ble_eq_true rfl) ?_
  intro p e s m below meth c A ls Q hx hb hml hown hts hK hP hD hS hA hl hQ
  have hl : lv_has ls 7 [(0, .ref h0), (1, .int (nI 1)), (2, .int (nI 1)), (3, .int (nI 0)), (4, .int (nI 1)), (5, .int (nI 0))] := hl
  refine lv_aload_n hx hb dL_counted_0 rfl (lv_at hl 0 rfl) ?_
  refine lv_iload_n hx hb dL_counted_1 rfl (lv_at hl 1 rfl) ?_
  refine lv_iload_n hx hb dL_counted_2 rfl (lv_at hl 2 rfl) ?_
  refine lv_iload_n hx hb dL_counted_3 rfl (lv_at hl 3 rfl) ?_
  refine lv_iload hx hb dL_counted_4 (lv_at hl 4 rfl) ?_
  refine lv_iload hx hb dL_counted_6 (lv_at hl 5 rfl) ?_
  refine pz_VR (rest := []) ⟨hx, hb, hml, hown, hts⟩ (k_X0_fromCount l D h0 ac ay ap cyI ts 0 (pq_c 12) pq_z pq_z 1 1 0 1 0 (by first | exact pq_c3 | decide | omega | decide +kernel) (by first | exact pq_c3 | decide | omega | decide +kernel) (by first | exact pq_c3 | decide | omega | decide +kernel) (by first | exact pq_c3 | decide | omega | decide +kernel) (by first | exact pq_c3 | decide | omega | decide +kernel) (by first | exact pq_c3 | decide | omega | decide +kernel) (by first | exact pq_c3 | decide | omega | decide +kernel) (by first | exact pq_c3 | decide | omega | decide +kernel) (by first | exact pq_c3 | decide | omega | decide +kernel)) (cwV 5 hts gL_counted_X0_fromCount rfl rfl rfl (by decide +kernel) ⟨Nat.le_of_ble_eq_true rfl, Nat.le_of_ble_eq_true rfl⟩) hK hP hD hS hA [0, 1, 2, 3] rfl rfl rfl 0 0 rfl rfl rfl hl.1 rfl (lv_room (Nat.le_of_ble_eq_true rfl)) dL_counted_8 ⟨Nat.le_of_ble_eq_true rfl, Nat.le_of_ble_eq_true rfl⟩ (fun r H locs hr hP hS => ?_)
  obtain rfl : r = (nI (pm_fc 1 1 0 1 0)) := hr
  refine pn_top (y := (nI 0)) (congrArg nI (by decide +kernel)) ?_
  exact hQ _ _ _ _ _ dL_counted_11 rfl (congrArg nI (by rfl)) hS
set_option maxHeartbeats 4000000 in
set_option maxRecDepth 100000 in
theorem k_L_counted_1095749 (l : Launch) (D : va_G) (h0 ac ay ap : Nat) (cyI : ClassId) (ts : List (ClassId × FieldType))   : pz_R l yL_counted wsL_counted ({ frames := 4, cells := 0, slots := 0, locals := 92 } : Room) D ((cyI, .int) :: ts) [.ref h0, .int (nI 3000), .int (nI 1), .int (nI 0), .int (nI 2), .int (nI 0)] [(h0, .inr (0, [.ref ac, .ref ay, .ref ap, .int (nI 0)])), (ac, .inl (cyI, 365, .inl (pz_ar (pq_c 12)))), (ay, .inl (cyI, 60, .inl (pz_ar pq_z))), (ap, .inl (cyI, 60, .inl (pz_ar pq_z)))] (fun r => r = nI 1095749) := by
  refine pz_R_ofH (hh := [(0, 11, 12, 13)]) (cc := cL_counted) (maxL := 7) (ty := .int) (own := RL) (by decide) rfl rfl (Nat.le_of_ble_eq_true rfl) ?_
  intro p e s m below meth c A ls Q hx hb hml hown hts hK hP hD hS hA hl hQ
  have hl : lv_has ls 7 [(0, .ref h0), (1, .int (nI 3000)), (2, .int (nI 1)), (3, .int (nI 0)), (4, .int (nI 2)), (5, .int (nI 0))] := hl
  refine lv_aload_n hx hb dL_counted_0 rfl (lv_at hl 0 rfl) ?_
  refine lv_iload_n hx hb dL_counted_1 rfl (lv_at hl 1 rfl) ?_
  refine lv_iload_n hx hb dL_counted_2 rfl (lv_at hl 2 rfl) ?_
  refine lv_iload_n hx hb dL_counted_3 rfl (lv_at hl 3 rfl) ?_
  refine lv_iload hx hb dL_counted_4 (lv_at hl 4 rfl) ?_
  refine lv_iload hx hb dL_counted_6 (lv_at hl 5 rfl) ?_
  refine pz_VR (rest := []) ⟨hx, hb, hml, hown, hts⟩ (k_X0_fromCount l D h0 ac ay ap cyI ts 0 (pq_c 12) pq_z pq_z 3000 1 0 2 0 (by first | exact pq_c3 | decide | omega | decide +kernel) (by first | exact pq_c3 | decide | omega | decide +kernel) (by first | exact pq_c3 | decide | omega | decide +kernel) (by first | exact pq_c3 | decide | omega | decide +kernel) (by first | exact pq_c3 | decide | omega | decide +kernel) (by first | exact pq_c3 | decide | omega | decide +kernel) (by first | exact pq_c3 | decide | omega | decide +kernel) (by first | exact pq_c3 | decide | omega | decide +kernel) (by first | exact pq_c3 | decide | omega | decide +kernel)) (cwV 5 hts gL_counted_X0_fromCount rfl rfl rfl (by decide +kernel) ⟨Nat.le_of_ble_eq_true rfl, Nat.le_of_ble_eq_true rfl⟩) hK hP hD hS hA [0, 1, 2, 3] rfl rfl rfl 0 0 rfl rfl rfl hl.1 rfl (lv_room (Nat.le_of_ble_eq_true rfl)) dL_counted_8 ⟨Nat.le_of_ble_eq_true rfl, Nat.le_of_ble_eq_true rfl⟩ (fun r H locs hr hP hS => ?_)
  obtain rfl : r = (nI (pm_fc 3000 1 0 2 0)) := hr
  refine pn_top (y := (nI 1095749)) (congrArg nI (by decide +kernel)) ?_
  exact hQ _ _ _ _ _ dL_counted_11 rfl (congrArg nI (by rfl)) hS
set_option maxHeartbeats 4000000 in
set_option maxRecDepth 100000 in
theorem k_L_isBack_0 (l : Launch) (D : va_G) (h0 ac ay ap : Nat) (cyI : ClassId) (ts : List (ClassId × FieldType))   : pz_R l yL_isBack wsL_isBack ({ frames := 6, cells := 0, slots := 0, locals := 130 } : Room) D ((cyI, .int) :: ts) [.ref h0, .int (nI 0)] [(h0, .inr (0, [.ref ac, .ref ay, .ref ap, .int (nI 0)])), (ac, .inl (cyI, 365, .inl (pz_ar (pq_c 12)))), (ay, .inl (cyI, 60, .inl (pz_ar pq_z))), (ap, .inl (cyI, 60, .inl (pz_ar pq_z)))] (fun r => r = nI 1) := by
  refine pz_R_of (cc := cL_isBack) (maxL := 8) (ty := .boolean) (own := RL) (by decide) rfl rfl (Nat.le_of_ble_eq_true rfl) ?_
  intro p e s m below meth c A ls Q hx hb hml hown hts hK hP hD hS hA hl hQ
  have hl : lv_has ls 8 [(0, .ref h0), (1, .int (nI 0))] := hl
  refine lv_aload_n hx hb dL_isBack_0 rfl (lv_at hl 0 rfl) ?_
  refine lv_iload_n hx hb dL_isBack_1 rfl (lv_at hl 1 rfl) ?_
  refine pz_VR (rest := []) ⟨hx, hb, hml, hown, hts⟩ (k_X0_yearOf l D h0 ac ay ap cyI ts 0 (pq_c 12) pq_z pq_z 0 (by first | exact pq_c3 | decide | omega | decide +kernel)) (cwV 1 hts gL_isBack_X0_yearOf rfl rfl rfl (by decide +kernel) ⟨Nat.le_of_ble_eq_true rfl, Nat.le_of_ble_eq_true rfl⟩) hK hP hD hS hA [0, 1, 2, 3] rfl rfl rfl 0 0 rfl rfl rfl hl.1 rfl (lv_room (Nat.le_of_ble_eq_true rfl)) dL_isBack_2 ⟨Nat.le_of_ble_eq_true rfl, Nat.le_of_ble_eq_true rfl⟩ (fun r H locs hr hP hS => ?_)
  obtain rfl : r = (nI (pm_yr 0)) := hr
  refine pn_top (y := (nI 1)) (congrArg nI (by decide +kernel)) ?_
  refine lv_istore_n (lv' := [(2, .int (nI 1)), (0, .ref h0), (1, .int (nI 0))]) hx hb dL_isBack_5 rfl hl (by decide) rfl (fun ls hl => ?_)
  refine lv_aload_n hx hb dL_isBack_6 rfl (lv_at hl 1 rfl) ?_
  refine lv_iload_n hx hb dL_isBack_7 rfl (lv_at hl 2 rfl) ?_
  refine pz_VR (rest := []) ⟨hx, hb, hml, hown, hts⟩ (k_X0_monthOf l D h0 ac ay ap cyI ts 0 (pq_c 12) pq_z pq_z 0 (by first | exact pq_c3 | decide | omega | decide +kernel)) (cwV 1 hts gL_isBack_X0_monthOf rfl rfl rfl (by decide +kernel) ⟨Nat.le_of_ble_eq_true rfl, Nat.le_of_ble_eq_true rfl⟩) hK hP hD hS hA [0, 1, 2, 3] rfl rfl rfl 0 0 rfl rfl rfl hl.1 rfl (lv_room (Nat.le_of_ble_eq_true rfl)) dL_isBack_8 ⟨Nat.le_of_ble_eq_true rfl, Nat.le_of_ble_eq_true rfl⟩ (fun r H locs hr hP hS => ?_)
  obtain rfl : r = (nI (pm_mo 0)) := hr
  refine pn_top (y := (nI 1)) (congrArg nI (by decide +kernel)) ?_
  refine lv_istore_n (lv' := [(3, .int (nI 1)), (2, .int (nI 1)), (0, .ref h0), (1, .int (nI 0))]) hx hb dL_isBack_11 rfl hl (by decide) rfl (fun ls hl => ?_)
  refine lv_aload_n hx hb dL_isBack_12 rfl (lv_at hl 2 rfl) ?_
  refine lv_iload_n hx hb dL_isBack_13 rfl (lv_at hl 3 rfl) ?_
  refine pz_VR (rest := []) ⟨hx, hb, hml, hown, hts⟩ (k_X0_dayOf l D h0 ac ay ap cyI ts 0 (pq_c 12) pq_z pq_z 0 (by first | exact pq_c3 | decide | omega | decide +kernel)) (cwV 1 hts gL_isBack_X0_dayOf rfl rfl rfl (by decide +kernel) ⟨Nat.le_of_ble_eq_true rfl, Nat.le_of_ble_eq_true rfl⟩) hK hP hD hS hA [0, 1, 2, 3] rfl rfl rfl 0 0 rfl rfl rfl hl.1 rfl (lv_room (Nat.le_of_ble_eq_true rfl)) dL_isBack_14 ⟨Nat.le_of_ble_eq_true rfl, Nat.le_of_ble_eq_true rfl⟩ (fun r H locs hr hP hS => ?_)
  obtain rfl : r = (nI (pm_da 0)) := hr
  refine pn_top (y := (nI 1)) (congrArg nI (by decide +kernel)) ?_
  refine lv_istore (lv' := [(4, .int (nI 1)), (3, .int (nI 1)), (2, .int (nI 1)), (0, .ref h0), (1, .int (nI 0))]) hx hb dL_isBack_17 hl (by decide) rfl (fun ls hl => ?_)
  refine lv_aload_n hx hb dL_isBack_19 rfl (lv_at hl 3 rfl) ?_
  refine lv_iload_n hx hb dL_isBack_20 rfl (lv_at hl 4 rfl) ?_
  refine pz_VR (rest := []) ⟨hx, hb, hml, hown, hts⟩ (k_X0_anchorOf l D h0 ac ay ap cyI ts 0 (pq_c 12) pq_z pq_z 0 (by first | exact pq_c3 | decide | omega | decide +kernel)) (cwV 1 hts gL_isBack_X0_anchorOf rfl rfl rfl (by decide +kernel) ⟨Nat.le_of_ble_eq_true rfl, Nat.le_of_ble_eq_true rfl⟩) hK hP hD hS hA [0, 1, 2, 3] rfl rfl rfl 0 0 rfl rfl rfl hl.1 rfl (lv_room (Nat.le_of_ble_eq_true rfl)) dL_isBack_21 ⟨Nat.le_of_ble_eq_true rfl, Nat.le_of_ble_eq_true rfl⟩ (fun r H locs hr hP hS => ?_)
  obtain rfl : r = (nI (pm_ap (pm_pl 0))) := hr
  refine pn_top (y := (nI 0)) (congrArg nI (by decide +kernel)) ?_
  refine lv_istore (lv' := [(5, .int (nI 0)), (4, .int (nI 1)), (3, .int (nI 1)), (2, .int (nI 1)), (0, .ref h0), (1, .int (nI 0))]) hx hb dL_isBack_24 hl (by decide) rfl (fun ls hl => ?_)
  refine lv_aload_n hx hb dL_isBack_26 rfl (lv_at hl 4 rfl) ?_
  refine lv_iload_n hx hb dL_isBack_27 rfl (lv_at hl 5 rfl) ?_
  refine pz_VR (rest := []) ⟨hx, hb, hml, hown, hts⟩ (k_X0_placeOf l D h0 ac ay ap cyI ts 0 (pq_c 12) pq_z pq_z 0 (by first | exact pq_c3 | decide | omega | decide +kernel)) (cwV 1 hts gL_isBack_X0_placeOf rfl rfl rfl (by decide +kernel) ⟨Nat.le_of_ble_eq_true rfl, Nat.le_of_ble_eq_true rfl⟩) hK hP hD hS hA [0, 1, 2, 3] rfl rfl rfl 0 0 rfl rfl rfl hl.1 rfl (lv_room (Nat.le_of_ble_eq_true rfl)) dL_isBack_28 ⟨Nat.le_of_ble_eq_true rfl, Nat.le_of_ble_eq_true rfl⟩ (fun r H locs hr hP hS => ?_)
  obtain rfl : r = (nI (pm_pl 0)) := hr
  refine pn_top (y := (nI 1)) (congrArg nI (by decide +kernel)) ?_
  refine lv_istore (lv' := [(6, .int (nI 1)), (5, .int (nI 0)), (4, .int (nI 1)), (3, .int (nI 1)), (2, .int (nI 1)), (0, .ref h0), (1, .int (nI 0))]) hx hb dL_isBack_31 hl (by decide) rfl (fun ls hl => ?_)
  refine lv_aload_n hx hb dL_isBack_33 rfl (lv_at hl 5 rfl) ?_
  refine lv_iload_n hx hb dL_isBack_34 rfl (lv_at hl 4 rfl) ?_
  refine lv_iload_n hx hb dL_isBack_35 rfl (lv_at hl 3 rfl) ?_
  refine lv_iload hx hb dL_isBack_36 (lv_at hl 2 rfl) ?_
  refine pz_VR (rest := []) ⟨hx, hb, hml, hown, hts⟩ (k_X0_number l D h0 ac ay ap cyI ts 0 (pq_c 12) pq_z pq_z 1 1 1 (by first | exact pq_c3 | decide | omega | decide +kernel) (by first | exact pq_c3 | decide | omega | decide +kernel) (by first | exact pq_c3 | decide | omega | decide +kernel) (by first | exact pq_c3 | decide | omega | decide +kernel) (by first | exact pq_c3 | decide | omega | decide +kernel) (by first | exact pq_c3 | decide | omega | decide +kernel)) (cwV 3 hts gL_isBack_X0_number rfl rfl rfl (by decide +kernel) ⟨Nat.le_of_ble_eq_true rfl, Nat.le_of_ble_eq_true rfl⟩) hK hP hD hS hA [0, 1, 2, 3] rfl rfl rfl 0 0 rfl rfl rfl hl.1 rfl (lv_room (Nat.le_of_ble_eq_true rfl)) dL_isBack_38 ⟨Nat.le_of_ble_eq_true rfl, Nat.le_of_ble_eq_true rfl⟩ (fun r H locs hr hP hS => ?_)
  obtain rfl : r = (nI (pm_fd 1 + pm_db 1 1 + 1 - 1)) := hr
  refine pn_top (y := (nI 0)) (congrArg nI (by decide +kernel)) ?_
  refine lv_iload_n hx hb dL_isBack_41 rfl (lv_at hl 6 rfl) ?_
  refine pi_icmp_ne (tgt := 116) (a := (0)) (b := (0)) hx hb (by decide +kernel) (by decide +kernel) dL_isBack_42 (by decide) (fun h9 => absurd h9 (by decide)) (fun _ => ?_)
  refine lv_aload_n hx hb dL_isBack_45 rfl (lv_at hl 5 rfl) ?_
  refine lv_iload_n hx hb dL_isBack_46 rfl (lv_at hl 4 rfl) ?_
  refine lv_iload_n hx hb dL_isBack_47 rfl (lv_at hl 3 rfl) ?_
  refine lv_iload hx hb dL_isBack_48 (lv_at hl 2 rfl) ?_
  refine pz_VR (rest := []) ⟨hx, hb, hml, hown, hts⟩ (k_X0_numberByCounting l D h0 ac ay ap cyI ts 0 (pq_c 12) pq_z pq_z 1 1 1 (by first | exact pq_c3 | decide | omega | decide +kernel) (by first | exact pq_c3 | decide | omega | decide +kernel) (by first | exact pq_c3 | decide | omega | decide +kernel) (by first | exact pq_c3 | decide | omega | decide +kernel) (by first | exact pq_c3 | decide | omega | decide +kernel) (by first | exact pq_c3 | decide | omega | decide +kernel)) (cwV 3 hts gL_isBack_X0_numberByCounting rfl rfl rfl (by decide +kernel) ⟨Nat.le_of_ble_eq_true rfl, Nat.le_of_ble_eq_true rfl⟩) hK hP hD hS hA [0, 1, 2, 3] rfl rfl rfl 0 0 rfl rfl rfl hl.1 rfl (lv_room (Nat.le_of_ble_eq_true rfl)) dL_isBack_50 ⟨Nat.le_of_ble_eq_true rfl, Nat.le_of_ble_eq_true rfl⟩ (fun r H locs hr hP hS => ?_)
  obtain rfl : r = (nI (pm_fd 1 + pm_db 1 1 + 1 - 1)) := hr
  refine pn_top (y := (nI 0)) (congrArg nI (by decide +kernel)) ?_
  refine lv_iload_n hx hb dL_isBack_53 rfl (lv_at hl 6 rfl) ?_
  refine pi_icmp_ne (tgt := 116) (a := (0)) (b := (0)) hx hb (by decide +kernel) (by decide +kernel) dL_isBack_54 (by decide) (fun h9 => absurd h9 (by decide)) (fun _ => ?_)
  refine lv_aload_n hx hb dL_isBack_57 rfl (lv_at hl 5 rfl) ?_
  refine lv_iload_n hx hb dL_isBack_58 rfl (lv_at hl 4 rfl) ?_
  refine lv_aload_n hx hb dL_isBack_59 rfl (lv_at hl 5 rfl) ?_
  refine lv_iload_n hx hb dL_isBack_60 rfl (lv_at hl 6 rfl) ?_
  refine pz_VR (rest := [.int (nI 1), .ref h0]) ⟨hx, hb, hml, hown, hts⟩ (k_X0_anchorMonthOf l D h0 ac ay ap cyI ts 0 (pq_c 12) pq_z pq_z 0 (by first | exact pq_c3 | decide | omega | decide +kernel)) (cwV 1 hts gL_isBack_X0_anchorMonthOf rfl rfl rfl (by decide +kernel) ⟨Nat.le_of_ble_eq_true rfl, Nat.le_of_ble_eq_true rfl⟩) hK hP hD hS hA [0, 1, 2, 3] rfl rfl rfl 0 0 rfl rfl rfl hl.1 rfl (lv_room (Nat.le_of_ble_eq_true rfl)) dL_isBack_61 ⟨Nat.le_of_ble_eq_true rfl, Nat.le_of_ble_eq_true rfl⟩ (fun r H locs hr hP hS => ?_)
  obtain rfl : r = (nI (pm_am (pm_pl 0))) := hr
  refine pn_top (y := (nI 1)) (congrArg nI (by decide +kernel)) ?_
  refine lv_iload hx hb dL_isBack_64 (lv_at hl 1 rfl) ?_
  refine lv_aload_n hx hb dL_isBack_66 rfl (lv_at hl 5 rfl) ?_
  refine lv_iload_n hx hb dL_isBack_67 rfl (lv_at hl 6 rfl) ?_
  refine pz_VR (rest := [.int (nI 0), .int (nI 1), .int (nI 1), .ref h0]) ⟨hx, hb, hml, hown, hts⟩ (k_X0_countOf l D h0 ac ay ap cyI ts 0 (pq_c 12) pq_z pq_z 0 (by first | exact pq_c3 | decide | omega | decide +kernel)) (cwV 1 hts gL_isBack_X0_countOf rfl rfl rfl (by decide +kernel) ⟨Nat.le_of_ble_eq_true rfl, Nat.le_of_ble_eq_true rfl⟩) hK hP hD hS hA [0, 1, 2, 3] rfl rfl rfl 0 0 rfl rfl rfl hl.1 rfl (lv_room (Nat.le_of_ble_eq_true rfl)) dL_isBack_68 ⟨Nat.le_of_ble_eq_true rfl, Nat.le_of_ble_eq_true rfl⟩ (fun r H locs hr hP hS => ?_)
  obtain rfl : r = (nI (pm_ct (pm_pl 0))) := hr
  refine pn_top (y := (nI 1)) (congrArg nI (by decide +kernel)) ?_
  refine lv_aload_n hx hb dL_isBack_71 rfl (lv_at hl 5 rfl) ?_
  refine lv_iload_n hx hb dL_isBack_72 rfl (lv_at hl 6 rfl) ?_
  refine pz_VR (rest := [.int (nI 1), .int (nI 0), .int (nI 1), .int (nI 1), .ref h0]) ⟨hx, hb, hml, hown, hts⟩ (k_X0_isDoubled l D h0 ac ay ap cyI ts 0 (pq_c 12) pq_z pq_z 0 (by first | exact pq_c3 | decide | omega | decide +kernel)) (cwV 1 hts gL_isBack_X0_isDoubled rfl rfl rfl (by decide +kernel) ⟨Nat.le_of_ble_eq_true rfl, Nat.le_of_ble_eq_true rfl⟩) hK hP hD hS hA [0, 1, 2, 3] rfl rfl rfl 0 0 rfl rfl rfl hl.1 rfl (lv_room (Nat.le_of_ble_eq_true rfl)) dL_isBack_73 ⟨Nat.le_of_ble_eq_true rfl, Nat.le_of_ble_eq_true rfl⟩ (fun r H locs hr hP hS => ?_)
  obtain rfl : r = (pz_b (0 % 1461 = 1149)) := hr
  refine pn_top (y := (nI 0)) (pz_bf (by decide +kernel)).symm ?_
  refine pz_SRW (rest := []) ⟨hx, hb, hml, hown, hts⟩ (k_L_counted_0 l D h0 ac ay ap cyI ts  ) (vx_cwSW 6 hts gL_isBack_L_counted rfl rfl rfl (by decide +kernel) ⟨Nat.le_of_ble_eq_true rfl, Nat.le_of_ble_eq_true rfl⟩) hK hP hD hS hA [0, 1, 2, 3] rfl rfl rfl rfl hl.1 rfl (lv_room (Nat.le_of_ble_eq_true rfl)) dL_isBack_76 ⟨Nat.le_of_ble_eq_true rfl, Nat.le_of_ble_eq_true rfl⟩ (fun r H locs hr hP hS => ?_)
  obtain rfl : r = (nI 0) := hr
  refine lv_iload_n hx hb dL_isBack_79 rfl (lv_at hl 6 rfl) ?_
  refine pi_icmp_ne (tgt := 116) (a := (0)) (b := (0)) hx hb (by decide +kernel) (by decide +kernel) dL_isBack_80 (by decide) (fun h9 => absurd h9 (by decide)) (fun _ => ?_)
  refine lv_aload_n hx hb dL_isBack_83 rfl (lv_at hl 5 rfl) ?_
  refine lv_iload_n hx hb dL_isBack_84 rfl (lv_at hl 6 rfl) ?_
  refine pz_VR (rest := []) ⟨hx, hb, hml, hown, hts⟩ (k_X0_countOf l D h0 ac ay ap cyI ts 0 (pq_c 12) pq_z pq_z 0 (by first | exact pq_c3 | decide | omega | decide +kernel)) (cwV 1 hts gL_isBack_X0_countOf rfl rfl rfl (by decide +kernel) ⟨Nat.le_of_ble_eq_true rfl, Nat.le_of_ble_eq_true rfl⟩) hK hP hD hS hA [0, 1, 2, 3] rfl rfl rfl 0 0 rfl rfl rfl hl.1 rfl (lv_room (Nat.le_of_ble_eq_true rfl)) dL_isBack_85 ⟨Nat.le_of_ble_eq_true rfl, Nat.le_of_ble_eq_true rfl⟩ (fun r H locs hr hP hS => ?_)
  obtain rfl : r = (nI (pm_ct (pm_pl 0))) := hr
  refine pn_top (y := (nI 1)) (congrArg nI (by decide +kernel)) ?_
  refine lv_iconst (v := (nI 1)) hx hb dL_isBack_88 (by decide) ?_
  refine pi_icmp_lt (tgt := 116) (a := (1)) (b := (1)) hx hb (by decide +kernel) (by decide +kernel) dL_isBack_89 (by decide) (fun h9 => absurd h9 (by decide)) (fun _ => ?_)
  refine lv_aload_n hx hb dL_isBack_92 rfl (lv_at hl 5 rfl) ?_
  refine lv_iload_n hx hb dL_isBack_93 rfl (lv_at hl 6 rfl) ?_
  refine pz_VR (rest := []) ⟨hx, hb, hml, hown, hts⟩ (k_X0_countOf l D h0 ac ay ap cyI ts 0 (pq_c 12) pq_z pq_z 0 (by first | exact pq_c3 | decide | omega | decide +kernel)) (cwV 1 hts gL_isBack_X0_countOf rfl rfl rfl (by decide +kernel) ⟨Nat.le_of_ble_eq_true rfl, Nat.le_of_ble_eq_true rfl⟩) hK hP hD hS hA [0, 1, 2, 3] rfl rfl rfl 0 0 rfl rfl rfl hl.1 rfl (lv_room (Nat.le_of_ble_eq_true rfl)) dL_isBack_94 ⟨Nat.le_of_ble_eq_true rfl, Nat.le_of_ble_eq_true rfl⟩ (fun r H locs hr hP hS => ?_)
  obtain rfl : r = (nI (pm_ct (pm_pl 0))) := hr
  refine pn_top (y := (nI 1)) (congrArg nI (by decide +kernel)) ?_
  refine lv_aload_n hx hb dL_isBack_97 rfl (lv_at hl 5 rfl) ?_
  refine lv_iload_n hx hb dL_isBack_98 rfl (lv_at hl 4 rfl) ?_
  refine lv_aload_n hx hb dL_isBack_99 rfl (lv_at hl 5 rfl) ?_
  refine lv_iload_n hx hb dL_isBack_100 rfl (lv_at hl 6 rfl) ?_
  refine pz_VR (rest := [.int (nI 1), .ref h0, .int (nI 1)]) ⟨hx, hb, hml, hown, hts⟩ (k_X0_anchorMonthOf l D h0 ac ay ap cyI ts 0 (pq_c 12) pq_z pq_z 0 (by first | exact pq_c3 | decide | omega | decide +kernel)) (cwV 1 hts gL_isBack_X0_anchorMonthOf rfl rfl rfl (by decide +kernel) ⟨Nat.le_of_ble_eq_true rfl, Nat.le_of_ble_eq_true rfl⟩) hK hP hD hS hA [0, 1, 2, 3] rfl rfl rfl 0 0 rfl rfl rfl hl.1 rfl (lv_room (Nat.le_of_ble_eq_true rfl)) dL_isBack_101 ⟨Nat.le_of_ble_eq_true rfl, Nat.le_of_ble_eq_true rfl⟩ (fun r H locs hr hP hS => ?_)
  obtain rfl : r = (nI (pm_am (pm_pl 0))) := hr
  refine pn_top (y := (nI 1)) (congrArg nI (by decide +kernel)) ?_
  refine lv_iload hx hb dL_isBack_104 (lv_at hl 1 rfl) ?_
  refine pz_VR (rest := [.int (nI 1)]) ⟨hx, hb, hml, hown, hts⟩ (k_X0_greatestCount l D h0 ac ay ap cyI ts 0 (pq_c 12) pq_z pq_z 1 1 0 (by first | exact pq_c3 | decide | omega | decide +kernel) (by first | exact pq_c3 | decide | omega | decide +kernel) (by first | exact pq_c3 | decide | omega | decide +kernel) (by first | exact pq_c3 | decide | omega | decide +kernel) (by first | exact pq_c3 | decide | omega | decide +kernel)) (cwV 3 hts gL_isBack_X0_greatestCount rfl rfl rfl (by decide +kernel) ⟨Nat.le_of_ble_eq_true rfl, Nat.le_of_ble_eq_true rfl⟩) hK hP hD hS hA [0, 1, 2, 3] rfl rfl rfl 0 0 rfl rfl rfl hl.1 rfl (lv_room (Nat.le_of_ble_eq_true rfl)) dL_isBack_106 ⟨Nat.le_of_ble_eq_true rfl, Nat.le_of_ble_eq_true rfl⟩ (fun r H locs hr hP hS => ?_)
  obtain rfl : r = (nI (pm_gc 1 0)) := hr
  refine pn_top (y := (nI 19)) (congrArg nI (by decide +kernel)) ?_
  refine pi_icmp_gt (tgt := 116) (a := (1)) (b := (19)) hx hb (by decide +kernel) (by decide +kernel) dL_isBack_109 (by decide) (fun h9 => absurd h9 (by decide)) (fun _ => ?_)
  refine lv_iconst (v := (nI 1)) hx hb dL_isBack_112 (by decide) ?_
  refine lv_goto (tgt := 117) hx hb dL_isBack_113 (by decide) ?_
  refine lv_istore (lv' := [(7, .int (nI 1)), (6, .int (nI 1)), (5, .int (nI 0)), (4, .int (nI 1)), (3, .int (nI 1)), (2, .int (nI 1)), (0, .ref h0), (1, .int (nI 0))]) hx hb dL_isBack_117 hl (by decide) rfl (fun ls hl => ?_)
  refine lv_iload hx hb dL_isBack_119 (lv_at hl 0 rfl) ?_
  refine pi_if_eq (tgt := 177) (a := (1)) hx hb (by decide +kernel) dL_isBack_121 (by decide) (fun h9 => absurd h9 (by decide)) (fun _ => ?_)
  refine lv_aload_n hx hb dL_isBack_124 rfl (lv_at hl 6 rfl) ?_
  refine lv_iload_n hx hb dL_isBack_125 rfl (lv_at hl 7 rfl) ?_
  refine pz_VR (rest := []) ⟨hx, hb, hml, hown, hts⟩ (k_X0_anchorMonthOf l D h0 ac ay ap cyI ts 0 (pq_c 12) pq_z pq_z 0 (by first | exact pq_c3 | decide | omega | decide +kernel)) (cwV 1 hts gL_isBack_X0_anchorMonthOf rfl rfl rfl (by decide +kernel) ⟨Nat.le_of_ble_eq_true rfl, Nat.le_of_ble_eq_true rfl⟩) hK hP hD hS hA [0, 1, 2, 3] rfl rfl rfl 0 0 rfl rfl rfl hl.1 rfl (lv_room (Nat.le_of_ble_eq_true rfl)) dL_isBack_126 ⟨Nat.le_of_ble_eq_true rfl, Nat.le_of_ble_eq_true rfl⟩ (fun r H locs hr hP hS => ?_)
  obtain rfl : r = (nI (pm_am (pm_pl 0))) := hr
  refine pn_top (y := (nI 1)) (congrArg nI (by decide +kernel)) ?_
  refine lv_iload_n hx hb dL_isBack_129 rfl (lv_at hl 4 rfl) ?_
  refine pi_icmp_ne (tgt := 147) (a := (1)) (b := (1)) hx hb (by decide +kernel) (by decide +kernel) dL_isBack_130 (by decide) (fun h9 => absurd h9 (by decide)) (fun _ => ?_)
  refine lv_iload hx hb dL_isBack_133 (lv_at hl 2 rfl) ?_
  refine pi_if_ne (tgt := 173) (a := (0)) hx hb (by decide +kernel) dL_isBack_135 (by decide) (fun h9 => absurd h9 (by decide)) (fun _ => ?_)
  refine lv_iload hx hb dL_isBack_138 (lv_at hl 3 rfl) ?_
  refine lv_iconst (v := (nI 1)) hx hb dL_isBack_140 (by decide) ?_
  refine pi_icmp_ne (tgt := 177) (a := (1)) (b := (1)) hx hb (by decide +kernel) (by decide +kernel) dL_isBack_141 (by decide) (fun h9 => absurd h9 (by decide)) (fun _ => ?_)
  refine lv_goto (tgt := 173) hx hb dL_isBack_144 (by decide) ?_
  refine lv_iconst (v := (nI 1)) hx hb dL_isBack_173 (by decide) ?_
  refine lv_goto (tgt := 178) hx hb dL_isBack_174 (by decide) ?_
  refine lv_istore (lv' := [(7, .int (nI 1)), (6, .int (nI 1)), (5, .int (nI 0)), (4, .int (nI 1)), (3, .int (nI 1)), (2, .int (nI 1)), (0, .ref h0), (1, .int (nI 0))]) hx hb dL_isBack_178 hl (by decide) rfl (fun ls hl => ?_)
  refine lv_iload hx hb dL_isBack_180 (lv_at hl 0 rfl) ?_
  refine pi_if_eq (tgt := 268) (a := (1)) hx hb (by decide +kernel) dL_isBack_182 (by decide) (fun h9 => absurd h9 (by decide)) (fun _ => ?_)
  refine lv_iload hx hb dL_isBack_185 (lv_at hl 1 rfl) ?_
  refine lv_iconst (v := (nI 1)) hx hb dL_isBack_187 (by decide) ?_
  refine pi_icmp_lt (tgt := 268) (a := (1)) (b := (1)) hx hb (by decide +kernel) (by decide +kernel) dL_isBack_188 (by decide) (fun h9 => absurd h9 (by decide)) (fun _ => ?_)
  refine lv_iload hx hb dL_isBack_191 (lv_at hl 1 rfl) ?_
  refine lv_sipush (v := (nI 365)) hx hb dL_isBack_193 (by decide) ?_
  refine pi_icmp_gt (tgt := 268) (a := (1)) (b := (365)) hx hb (by decide +kernel) (by decide +kernel) dL_isBack_196 (by decide) (fun h9 => absurd h9 (by decide)) (fun _ => ?_)
  refine lv_aload_n hx hb dL_isBack_199 rfl (lv_at hl 6 rfl) ?_
  refine lv_iload_n hx hb dL_isBack_200 rfl (lv_at hl 7 rfl) ?_
  refine pz_VR (rest := []) ⟨hx, hb, hml, hown, hts⟩ (k_X0_letterOfEight l D h0 ac ay ap cyI ts 0 (pq_c 12) pq_z pq_z 0 (by first | exact pq_c3 | decide | omega | decide +kernel)) (cwV 1 hts gL_isBack_X0_letterOfEight rfl rfl rfl (by decide +kernel) ⟨Nat.le_of_ble_eq_true rfl, Nat.le_of_ble_eq_true rfl⟩) hK hP hD hS hA [0, 1, 2, 3] rfl rfl rfl 0 0 rfl rfl rfl hl.1 rfl (lv_room (Nat.le_of_ble_eq_true rfl)) dL_isBack_201 ⟨Nat.le_of_ble_eq_true rfl, Nat.le_of_ble_eq_true rfl⟩ (fun r H locs hr hP hS => ?_)
  obtain rfl : r = (nI ((pm_pl 0 - 1) % 8)) := hr
  refine pn_top (y := (nI 0)) (congrArg nI (by decide +kernel)) ?_
  refine lv_iload hx hb dL_isBack_204 (lv_at hl 1 rfl) ?_
  refine lv_iconst (v := (nI 1)) hx hb dL_isBack_206 (by decide) ?_
  refine lv_isub hx hb dL_isBack_207 ?_
  refine pn_top (y := (nI 0)) (by decide +kernel) ?_
  refine lv_bipush (v := (nI 8)) hx hb dL_isBack_208 (by decide) ?_
  refine lv_irem hx hb dL_isBack_210 (by decide +kernel) ?_
  refine pn_top (y := (nI 0)) (by decide +kernel) ?_
  refine pi_icmp_ne (tgt := 268) (a := (0)) (b := (0)) hx hb (by decide +kernel) (by decide +kernel) dL_isBack_211 (by decide) (fun h9 => absurd h9 (by decide)) (fun _ => ?_)
  refine lv_aload_n hx hb dL_isBack_214 rfl (lv_at hl 6 rfl) ?_
  refine lv_iload_n hx hb dL_isBack_215 rfl (lv_at hl 7 rfl) ?_
  refine pz_VR (rest := []) ⟨hx, hb, hml, hown, hts⟩ (k_X0_letterOfSeven l D h0 ac ay ap cyI ts 0 (pq_c 12) pq_z pq_z 0 (by first | exact pq_c3 | decide | omega | decide +kernel)) (cwV 1 hts gL_isBack_X0_letterOfSeven rfl rfl rfl (by decide +kernel) ⟨Nat.le_of_ble_eq_true rfl, Nat.le_of_ble_eq_true rfl⟩) hK hP hD hS hA [0, 1, 2, 3] rfl rfl rfl 0 0 rfl rfl rfl hl.1 rfl (lv_room (Nat.le_of_ble_eq_true rfl)) dL_isBack_216 ⟨Nat.le_of_ble_eq_true rfl, Nat.le_of_ble_eq_true rfl⟩ (fun r H locs hr hP hS => ?_)
  obtain rfl : r = (nI ((pm_pl 0 - 1) % 7)) := hr
  refine pn_top (y := (nI 0)) (congrArg nI (by decide +kernel)) ?_
  refine lv_iload hx hb dL_isBack_219 (lv_at hl 1 rfl) ?_
  refine lv_iconst (v := (nI 1)) hx hb dL_isBack_221 (by decide) ?_
  refine lv_isub hx hb dL_isBack_222 ?_
  refine pn_top (y := (nI 0)) (by decide +kernel) ?_
  refine lv_bipush (v := (nI 7)) hx hb dL_isBack_223 (by decide) ?_
  refine lv_irem hx hb dL_isBack_225 (by decide +kernel) ?_
  refine pn_top (y := (nI 0)) (by decide +kernel) ?_
  refine pi_icmp_ne (tgt := 268) (a := (0)) (b := (0)) hx hb (by decide +kernel) (by decide +kernel) dL_isBack_226 (by decide) (fun h9 => absurd h9 (by decide)) (fun _ => ?_)
  refine lv_aload_n hx hb dL_isBack_229 rfl (lv_at hl 6 rfl) ?_
  refine lv_iload_n hx hb dL_isBack_230 rfl (lv_at hl 7 rfl) ?_
  refine pz_VR (rest := []) ⟨hx, hb, hml, hown, hts⟩ (k_X0_lawNumber l D h0 ac ay ap cyI ts 0 (pq_c 12) pq_z pq_z 0 (by first | exact pq_c3 | decide | omega | decide +kernel)) (cwV 1 hts gL_isBack_X0_lawNumber rfl rfl rfl (by decide +kernel) ⟨Nat.le_of_ble_eq_true rfl, Nat.le_of_ble_eq_true rfl⟩) hK hP hD hS hA [0, 1, 2, 3] rfl rfl rfl 0 0 rfl rfl rfl hl.1 rfl (lv_room (Nat.le_of_ble_eq_true rfl)) dL_isBack_231 ⟨Nat.le_of_ble_eq_true rfl, Nat.le_of_ble_eq_true rfl⟩ (fun r H locs hr hP hS => ?_)
  obtain rfl : r = (nI (pm_lw 0)) := hr
  refine pn_top (y := (nI 0)) (congrArg nI (by decide +kernel)) ?_
  refine lv_sipush (v := (nI 365)) hx hb dL_isBack_234 (by decide) ?_
  refine lv_iload_n hx hb dL_isBack_237 rfl (lv_at hl 5 rfl) ?_
  refine lv_iconst (v := (nI 1)) hx hb dL_isBack_238 (by decide) ?_
  refine lv_isub hx hb dL_isBack_239 ?_
  refine pn_top (y := (nI 0)) (by decide +kernel) ?_
  refine lv_imul hx hb dL_isBack_240 ?_
  refine pn_top (y := (nI 0)) (by decide +kernel) ?_
  refine lv_iload hx hb dL_isBack_241 (lv_at hl 1 rfl) ?_
  refine lv_iadd hx hb dL_isBack_243 ?_
  refine pn_top (y := (nI 1)) (by decide +kernel) ?_
  refine lv_iconst (v := (nI 1)) hx hb dL_isBack_244 (by decide) ?_
  refine lv_isub hx hb dL_isBack_245 ?_
  refine pn_top (y := (nI 0)) (by decide +kernel) ?_
  refine pi_icmp_ne (tgt := 268) (a := (0)) (b := (0)) hx hb (by decide +kernel) (by decide +kernel) dL_isBack_246 (by decide) (fun h9 => absurd h9 (by decide)) (fun _ => ?_)
  refine lv_aload_n hx hb dL_isBack_249 rfl (lv_at hl 6 rfl) ?_
  refine lv_iload_n hx hb dL_isBack_250 rfl (lv_at hl 7 rfl) ?_
  refine pz_VR (rest := []) ⟨hx, hb, hml, hown, hts⟩ (k_X0_weekdayOf l D h0 ac ay ap cyI ts 0 (pq_c 12) pq_z pq_z 0 (by first | exact pq_c3 | decide | omega | decide +kernel)) (cwV 1 hts gL_isBack_X0_weekdayOf rfl rfl rfl (by decide +kernel) ⟨Nat.le_of_ble_eq_true rfl, Nat.le_of_ble_eq_true rfl⟩) hK hP hD hS hA [0, 1, 2, 3] rfl rfl rfl 0 0 rfl rfl rfl hl.1 rfl (lv_room (Nat.le_of_ble_eq_true rfl)) dL_isBack_251 ⟨Nat.le_of_ble_eq_true rfl, Nat.le_of_ble_eq_true rfl⟩ (fun r H locs hr hP hS => ?_)
  obtain rfl : r = (nI ((0 + 6) % 7)) := hr
  refine pn_top (y := (nI 6)) (congrArg nI (by decide +kernel)) ?_
  refine lv_iload_n hx hb dL_isBack_254 rfl (lv_at hl 7 rfl) ?_
  refine lv_bipush (v := (nI 6)) hx hb dL_isBack_255 (by decide) ?_
  refine lv_iadd hx hb dL_isBack_257 ?_
  refine pn_top (y := (nI 6)) (by decide +kernel) ?_
  refine lv_bipush (v := (nI 7)) hx hb dL_isBack_258 (by decide) ?_
  refine lv_irem hx hb dL_isBack_260 (by decide +kernel) ?_
  refine pn_top (y := (nI 6)) (by decide +kernel) ?_
  refine pi_icmp_ne (tgt := 268) (a := (6)) (b := (6)) hx hb (by decide +kernel) (by decide +kernel) dL_isBack_261 (by decide) (fun h9 => absurd h9 (by decide)) (fun _ => ?_)
  refine lv_iconst (v := (nI 1)) hx hb dL_isBack_264 (by decide) ?_
  refine lv_goto (tgt := 269) hx hb dL_isBack_265 (by decide) ?_
  refine lv_istore (lv' := [(7, .int (nI 1)), (6, .int (nI 1)), (5, .int (nI 0)), (4, .int (nI 1)), (3, .int (nI 1)), (2, .int (nI 1)), (0, .ref h0), (1, .int (nI 0))]) hx hb dL_isBack_269 hl (by decide) rfl (fun ls hl => ?_)
  refine lv_iload hx hb dL_isBack_271 (lv_at hl 0 rfl) ?_
  refine pi_if_eq (tgt := 361) (a := (1)) hx hb (by decide +kernel) dL_isBack_273 (by decide) (fun h9 => absurd h9 (by decide)) (fun _ => ?_)
  refine lv_aload_n hx hb dL_isBack_276 rfl (lv_at hl 6 rfl) ?_
  refine lv_iload_n hx hb dL_isBack_277 rfl (lv_at hl 7 rfl) ?_
  refine pz_VR (rest := []) ⟨hx, hb, hml, hown, hts⟩ (k_X0_isDoubled l D h0 ac ay ap cyI ts 0 (pq_c 12) pq_z pq_z 0 (by first | exact pq_c3 | decide | omega | decide +kernel)) (cwV 1 hts gL_isBack_X0_isDoubled rfl rfl rfl (by decide +kernel) ⟨Nat.le_of_ble_eq_true rfl, Nat.le_of_ble_eq_true rfl⟩) hK hP hD hS hA [0, 1, 2, 3] rfl rfl rfl 0 0 rfl rfl rfl hl.1 rfl (lv_room (Nat.le_of_ble_eq_true rfl)) dL_isBack_278 ⟨Nat.le_of_ble_eq_true rfl, Nat.le_of_ble_eq_true rfl⟩ (fun r H locs hr hP hS => ?_)
  obtain rfl : r = (pz_b (0 % 1461 = 1149)) := hr
  refine pn_top (y := (nI 0)) (pz_bf (by decide +kernel)).symm ?_
  refine lv_iload_n hx hb dL_isBack_281 rfl (lv_at hl 5 rfl) ?_
  refine lv_iconst (v := (nI 4)) hx hb dL_isBack_282 (by decide) ?_
  refine lv_irem hx hb dL_isBack_283 (by decide +kernel) ?_
  refine pn_top (y := (nI 1)) (by decide +kernel) ?_
  refine pi_if_ne (tgt := 303) (a := (1)) hx hb (by decide +kernel) dL_isBack_284 (by decide) (fun _ => ?_) (fun h9 => absurd h9 (by decide))
  refine lv_iconst (v := (nI 0)) hx hb dL_isBack_303 (by decide) ?_
  refine pi_icmp_ne (tgt := 361) (a := (0)) (b := (0)) hx hb (by decide +kernel) (by decide +kernel) dL_isBack_304 (by decide) (fun h9 => absurd h9 (by decide)) (fun _ => ?_)
  refine lv_aload_n hx hb dL_isBack_307 rfl (lv_at hl 6 rfl) ?_
  refine lv_iload_n hx hb dL_isBack_308 rfl (lv_at hl 7 rfl) ?_
  refine pz_VR (rest := []) ⟨hx, hb, hml, hown, hts⟩ (k_X0_isDoubled l D h0 ac ay ap cyI ts 0 (pq_c 12) pq_z pq_z 0 (by first | exact pq_c3 | decide | omega | decide +kernel)) (cwV 1 hts gL_isBack_X0_isDoubled rfl rfl rfl (by decide +kernel) ⟨Nat.le_of_ble_eq_true rfl, Nat.le_of_ble_eq_true rfl⟩) hK hP hD hS hA [0, 1, 2, 3] rfl rfl rfl 0 0 rfl rfl rfl hl.1 rfl (lv_room (Nat.le_of_ble_eq_true rfl)) dL_isBack_309 ⟨Nat.le_of_ble_eq_true rfl, Nat.le_of_ble_eq_true rfl⟩ (fun r H locs hr hP hS => ?_)
  obtain rfl : r = (pz_b (0 % 1461 = 1149)) := hr
  refine pn_top (y := (nI 0)) (pz_bf (by decide +kernel)).symm ?_
  refine pi_if_eq (tgt := 330) (a := (0)) hx hb (by decide +kernel) dL_isBack_312 (by decide) (fun _ => ?_) (fun h9 => absurd h9 (by decide))
  refine lv_iload_n hx hb dL_isBack_330 rfl (lv_at hl 4 rfl) ?_
  refine lv_iconst (v := (nI 3)) hx hb dL_isBack_331 (by decide) ?_
  refine pi_icmp_lt (tgt := 348) (a := (1)) (b := (3)) hx hb (by decide +kernel) (by decide +kernel) dL_isBack_332 (by decide) (fun _ => ?_) (fun h9 => absurd h9 (by decide))
  refine lv_aload_n hx hb dL_isBack_348 rfl (lv_at hl 6 rfl) ?_
  refine lv_iload_n hx hb dL_isBack_349 rfl (lv_at hl 7 rfl) ?_
  refine lv_iload_n hx hb dL_isBack_350 rfl (lv_at hl 7 rfl) ?_
  refine pz_VR (rest := []) ⟨hx, hb, hml, hown, hts⟩ (k_X0_lawDays l D h0 ac ay ap cyI ts 0 (pq_c 12) pq_z pq_z 0 0 (by first | exact pq_c3 | decide | omega | decide +kernel) (by first | exact pq_c3 | decide | omega | decide +kernel)) (cwV 2 hts gL_isBack_X0_lawDays rfl rfl rfl (by decide +kernel) ⟨Nat.le_of_ble_eq_true rfl, Nat.le_of_ble_eq_true rfl⟩) hK hP hD hS hA [0, 1, 2, 3] rfl rfl rfl 0 0 rfl rfl rfl hl.1 rfl (lv_room (Nat.le_of_ble_eq_true rfl)) dL_isBack_351 ⟨Nat.le_of_ble_eq_true rfl, Nat.le_of_ble_eq_true rfl⟩ (fun r H locs hr hP hS => ?_)
  obtain rfl : r = (nI (pm_lw 0) - nI (pm_lw 0)) := hr
  refine pn_top (y := (nI 0)) (by decide +kernel) ?_
  refine pi_if_ne (tgt := 361) (a := (0)) hx hb (by decide +kernel) dL_isBack_354 (by decide) (fun h9 => absurd h9 (by decide)) (fun _ => ?_)
  refine lv_iconst (v := (nI 1)) hx hb dL_isBack_357 (by decide) ?_
  refine lv_goto (tgt := 362) hx hb dL_isBack_358 (by decide) ?_
  exact hQ _ _ _ _ _ dL_isBack_362 (by decide) (congrArg nI (by rfl)) hS
set_option maxHeartbeats 4000000 in
set_option maxRecDepth 100000 in
theorem k_L_isBack_1095749 (l : Launch) (D : va_G) (h0 ac ay ap : Nat) (cyI : ClassId) (ts : List (ClassId × FieldType))   : pz_R l yL_isBack wsL_isBack ({ frames := 6, cells := 0, slots := 0, locals := 130 } : Room) D ((cyI, .int) :: ts) [.ref h0, .int (nI 1095749)] [(h0, .inr (0, [.ref ac, .ref ay, .ref ap, .int (nI 0)])), (ac, .inl (cyI, 365, .inl (pz_ar (pq_c 12)))), (ay, .inl (cyI, 60, .inl (pz_ar pq_z))), (ap, .inl (cyI, 60, .inl (pz_ar pq_z)))] (fun r => r = nI 1) := by
  refine pz_R_of (cc := cL_isBack) (maxL := 8) (ty := .boolean) (own := RL) (by decide) rfl rfl (Nat.le_of_ble_eq_true rfl) ?_
  intro p e s m below meth c A ls Q hx hb hml hown hts hK hP hD hS hA hl hQ
  have hl : lv_has ls 8 [(0, .ref h0), (1, .int (nI 1095749))] := hl
  refine lv_aload_n hx hb dL_isBack_0 rfl (lv_at hl 0 rfl) ?_
  refine lv_iload_n hx hb dL_isBack_1 rfl (lv_at hl 1 rfl) ?_
  refine pz_VR (rest := []) ⟨hx, hb, hml, hown, hts⟩ (k_X0_yearOf l D h0 ac ay ap cyI ts 0 (pq_c 12) pq_z pq_z 1095749 (by first | exact pq_c3 | decide | omega | decide +kernel)) (cwV 1 hts gL_isBack_X0_yearOf rfl rfl rfl (by decide +kernel) ⟨Nat.le_of_ble_eq_true rfl, Nat.le_of_ble_eq_true rfl⟩) hK hP hD hS hA [0, 1, 2, 3] rfl rfl rfl 0 0 rfl rfl rfl hl.1 rfl (lv_room (Nat.le_of_ble_eq_true rfl)) dL_isBack_2 ⟨Nat.le_of_ble_eq_true rfl, Nat.le_of_ble_eq_true rfl⟩ (fun r H locs hr hP hS => ?_)
  obtain rfl : r = (nI (pm_yr 1095749)) := hr
  refine pn_top (y := (nI 3000)) (congrArg nI (by decide +kernel)) ?_
  refine lv_istore_n (lv' := [(2, .int (nI 3000)), (0, .ref h0), (1, .int (nI 1095749))]) hx hb dL_isBack_5 rfl hl (by decide) rfl (fun ls hl => ?_)
  refine lv_aload_n hx hb dL_isBack_6 rfl (lv_at hl 1 rfl) ?_
  refine lv_iload_n hx hb dL_isBack_7 rfl (lv_at hl 2 rfl) ?_
  refine pz_VR (rest := []) ⟨hx, hb, hml, hown, hts⟩ (k_X0_monthOf l D h0 ac ay ap cyI ts 0 (pq_c 12) pq_z pq_z 1095749 (by first | exact pq_c3 | decide | omega | decide +kernel)) (cwV 1 hts gL_isBack_X0_monthOf rfl rfl rfl (by decide +kernel) ⟨Nat.le_of_ble_eq_true rfl, Nat.le_of_ble_eq_true rfl⟩) hK hP hD hS hA [0, 1, 2, 3] rfl rfl rfl 0 0 rfl rfl rfl hl.1 rfl (lv_room (Nat.le_of_ble_eq_true rfl)) dL_isBack_8 ⟨Nat.le_of_ble_eq_true rfl, Nat.le_of_ble_eq_true rfl⟩ (fun r H locs hr hP hS => ?_)
  obtain rfl : r = (nI (pm_mo 1095749)) := hr
  refine pn_top (y := (nI 12)) (congrArg nI (by decide +kernel)) ?_
  refine lv_istore_n (lv' := [(3, .int (nI 12)), (2, .int (nI 3000)), (0, .ref h0), (1, .int (nI 1095749))]) hx hb dL_isBack_11 rfl hl (by decide) rfl (fun ls hl => ?_)
  refine lv_aload_n hx hb dL_isBack_12 rfl (lv_at hl 2 rfl) ?_
  refine lv_iload_n hx hb dL_isBack_13 rfl (lv_at hl 3 rfl) ?_
  refine pz_VR (rest := []) ⟨hx, hb, hml, hown, hts⟩ (k_X0_dayOf l D h0 ac ay ap cyI ts 0 (pq_c 12) pq_z pq_z 1095749 (by first | exact pq_c3 | decide | omega | decide +kernel)) (cwV 1 hts gL_isBack_X0_dayOf rfl rfl rfl (by decide +kernel) ⟨Nat.le_of_ble_eq_true rfl, Nat.le_of_ble_eq_true rfl⟩) hK hP hD hS hA [0, 1, 2, 3] rfl rfl rfl 0 0 rfl rfl rfl hl.1 rfl (lv_room (Nat.le_of_ble_eq_true rfl)) dL_isBack_14 ⟨Nat.le_of_ble_eq_true rfl, Nat.le_of_ble_eq_true rfl⟩ (fun r H locs hr hP hS => ?_)
  obtain rfl : r = (nI (pm_da 1095749)) := hr
  refine pn_top (y := (nI 31)) (congrArg nI (by decide +kernel)) ?_
  refine lv_istore (lv' := [(4, .int (nI 31)), (3, .int (nI 12)), (2, .int (nI 3000)), (0, .ref h0), (1, .int (nI 1095749))]) hx hb dL_isBack_17 hl (by decide) rfl (fun ls hl => ?_)
  refine lv_aload_n hx hb dL_isBack_19 rfl (lv_at hl 3 rfl) ?_
  refine lv_iload_n hx hb dL_isBack_20 rfl (lv_at hl 4 rfl) ?_
  refine pz_VR (rest := []) ⟨hx, hb, hml, hown, hts⟩ (k_X0_anchorOf l D h0 ac ay ap cyI ts 0 (pq_c 12) pq_z pq_z 1095749 (by first | exact pq_c3 | decide | omega | decide +kernel)) (cwV 1 hts gL_isBack_X0_anchorOf rfl rfl rfl (by decide +kernel) ⟨Nat.le_of_ble_eq_true rfl, Nat.le_of_ble_eq_true rfl⟩) hK hP hD hS hA [0, 1, 2, 3] rfl rfl rfl 0 0 rfl rfl rfl hl.1 rfl (lv_room (Nat.le_of_ble_eq_true rfl)) dL_isBack_21 ⟨Nat.le_of_ble_eq_true rfl, Nat.le_of_ble_eq_true rfl⟩ (fun r H locs hr hP hS => ?_)
  obtain rfl : r = (nI (pm_ap (pm_pl 1095749))) := hr
  refine pn_top (y := (nI 0)) (congrArg nI (by decide +kernel)) ?_
  refine lv_istore (lv' := [(5, .int (nI 0)), (4, .int (nI 31)), (3, .int (nI 12)), (2, .int (nI 3000)), (0, .ref h0), (1, .int (nI 1095749))]) hx hb dL_isBack_24 hl (by decide) rfl (fun ls hl => ?_)
  refine lv_aload_n hx hb dL_isBack_26 rfl (lv_at hl 4 rfl) ?_
  refine lv_iload_n hx hb dL_isBack_27 rfl (lv_at hl 5 rfl) ?_
  refine pz_VR (rest := []) ⟨hx, hb, hml, hown, hts⟩ (k_X0_placeOf l D h0 ac ay ap cyI ts 0 (pq_c 12) pq_z pq_z 1095749 (by first | exact pq_c3 | decide | omega | decide +kernel)) (cwV 1 hts gL_isBack_X0_placeOf rfl rfl rfl (by decide +kernel) ⟨Nat.le_of_ble_eq_true rfl, Nat.le_of_ble_eq_true rfl⟩) hK hP hD hS hA [0, 1, 2, 3] rfl rfl rfl 0 0 rfl rfl rfl hl.1 rfl (lv_room (Nat.le_of_ble_eq_true rfl)) dL_isBack_28 ⟨Nat.le_of_ble_eq_true rfl, Nat.le_of_ble_eq_true rfl⟩ (fun r H locs hr hP hS => ?_)
  obtain rfl : r = (nI (pm_pl 1095749)) := hr
  refine pn_top (y := (nI 365)) (congrArg nI (by decide +kernel)) ?_
  refine lv_istore (lv' := [(6, .int (nI 365)), (5, .int (nI 0)), (4, .int (nI 31)), (3, .int (nI 12)), (2, .int (nI 3000)), (0, .ref h0), (1, .int (nI 1095749))]) hx hb dL_isBack_31 hl (by decide) rfl (fun ls hl => ?_)
  refine lv_aload_n hx hb dL_isBack_33 rfl (lv_at hl 5 rfl) ?_
  refine lv_iload_n hx hb dL_isBack_34 rfl (lv_at hl 4 rfl) ?_
  refine lv_iload_n hx hb dL_isBack_35 rfl (lv_at hl 3 rfl) ?_
  refine lv_iload hx hb dL_isBack_36 (lv_at hl 2 rfl) ?_
  refine pz_VR (rest := []) ⟨hx, hb, hml, hown, hts⟩ (k_X0_number l D h0 ac ay ap cyI ts 0 (pq_c 12) pq_z pq_z 3000 12 31 (by first | exact pq_c3 | decide | omega | decide +kernel) (by first | exact pq_c3 | decide | omega | decide +kernel) (by first | exact pq_c3 | decide | omega | decide +kernel) (by first | exact pq_c3 | decide | omega | decide +kernel) (by first | exact pq_c3 | decide | omega | decide +kernel) (by first | exact pq_c3 | decide | omega | decide +kernel)) (cwV 3 hts gL_isBack_X0_number rfl rfl rfl (by decide +kernel) ⟨Nat.le_of_ble_eq_true rfl, Nat.le_of_ble_eq_true rfl⟩) hK hP hD hS hA [0, 1, 2, 3] rfl rfl rfl 0 0 rfl rfl rfl hl.1 rfl (lv_room (Nat.le_of_ble_eq_true rfl)) dL_isBack_38 ⟨Nat.le_of_ble_eq_true rfl, Nat.le_of_ble_eq_true rfl⟩ (fun r H locs hr hP hS => ?_)
  obtain rfl : r = (nI (pm_fd 3000 + pm_db 3000 12 + 31 - 1)) := hr
  refine pn_top (y := (nI 1095749)) (congrArg nI (by decide +kernel)) ?_
  refine lv_iload_n hx hb dL_isBack_41 rfl (lv_at hl 6 rfl) ?_
  refine pi_icmp_ne (tgt := 116) (a := (1095749)) (b := (1095749)) hx hb (by decide +kernel) (by decide +kernel) dL_isBack_42 (by decide) (fun h9 => absurd h9 (by decide)) (fun _ => ?_)
  refine lv_aload_n hx hb dL_isBack_45 rfl (lv_at hl 5 rfl) ?_
  refine lv_iload_n hx hb dL_isBack_46 rfl (lv_at hl 4 rfl) ?_
  refine lv_iload_n hx hb dL_isBack_47 rfl (lv_at hl 3 rfl) ?_
  refine lv_iload hx hb dL_isBack_48 (lv_at hl 2 rfl) ?_
  refine pz_VR (rest := []) ⟨hx, hb, hml, hown, hts⟩ (k_X0_numberByCounting l D h0 ac ay ap cyI ts 0 (pq_c 12) pq_z pq_z 3000 12 31 (by first | exact pq_c3 | decide | omega | decide +kernel) (by first | exact pq_c3 | decide | omega | decide +kernel) (by first | exact pq_c3 | decide | omega | decide +kernel) (by first | exact pq_c3 | decide | omega | decide +kernel) (by first | exact pq_c3 | decide | omega | decide +kernel) (by first | exact pq_c3 | decide | omega | decide +kernel)) (cwV 3 hts gL_isBack_X0_numberByCounting rfl rfl rfl (by decide +kernel) ⟨Nat.le_of_ble_eq_true rfl, Nat.le_of_ble_eq_true rfl⟩) hK hP hD hS hA [0, 1, 2, 3] rfl rfl rfl 0 0 rfl rfl rfl hl.1 rfl (lv_room (Nat.le_of_ble_eq_true rfl)) dL_isBack_50 ⟨Nat.le_of_ble_eq_true rfl, Nat.le_of_ble_eq_true rfl⟩ (fun r H locs hr hP hS => ?_)
  obtain rfl : r = (nI (pm_fd 3000 + pm_db 3000 12 + 31 - 1)) := hr
  refine pn_top (y := (nI 1095749)) (congrArg nI (by decide +kernel)) ?_
  refine lv_iload_n hx hb dL_isBack_53 rfl (lv_at hl 6 rfl) ?_
  refine pi_icmp_ne (tgt := 116) (a := (1095749)) (b := (1095749)) hx hb (by decide +kernel) (by decide +kernel) dL_isBack_54 (by decide) (fun h9 => absurd h9 (by decide)) (fun _ => ?_)
  refine lv_aload_n hx hb dL_isBack_57 rfl (lv_at hl 5 rfl) ?_
  refine lv_iload_n hx hb dL_isBack_58 rfl (lv_at hl 4 rfl) ?_
  refine lv_aload_n hx hb dL_isBack_59 rfl (lv_at hl 5 rfl) ?_
  refine lv_iload_n hx hb dL_isBack_60 rfl (lv_at hl 6 rfl) ?_
  refine pz_VR (rest := [.int (nI 3000), .ref h0]) ⟨hx, hb, hml, hown, hts⟩ (k_X0_anchorMonthOf l D h0 ac ay ap cyI ts 0 (pq_c 12) pq_z pq_z 1095749 (by first | exact pq_c3 | decide | omega | decide +kernel)) (cwV 1 hts gL_isBack_X0_anchorMonthOf rfl rfl rfl (by decide +kernel) ⟨Nat.le_of_ble_eq_true rfl, Nat.le_of_ble_eq_true rfl⟩) hK hP hD hS hA [0, 1, 2, 3] rfl rfl rfl 0 0 rfl rfl rfl hl.1 rfl (lv_room (Nat.le_of_ble_eq_true rfl)) dL_isBack_61 ⟨Nat.le_of_ble_eq_true rfl, Nat.le_of_ble_eq_true rfl⟩ (fun r H locs hr hP hS => ?_)
  obtain rfl : r = (nI (pm_am (pm_pl 1095749))) := hr
  refine pn_top (y := (nI 1)) (congrArg nI (by decide +kernel)) ?_
  refine lv_iload hx hb dL_isBack_64 (lv_at hl 1 rfl) ?_
  refine lv_aload_n hx hb dL_isBack_66 rfl (lv_at hl 5 rfl) ?_
  refine lv_iload_n hx hb dL_isBack_67 rfl (lv_at hl 6 rfl) ?_
  refine pz_VR (rest := [.int (nI 0), .int (nI 1), .int (nI 3000), .ref h0]) ⟨hx, hb, hml, hown, hts⟩ (k_X0_countOf l D h0 ac ay ap cyI ts 0 (pq_c 12) pq_z pq_z 1095749 (by first | exact pq_c3 | decide | omega | decide +kernel)) (cwV 1 hts gL_isBack_X0_countOf rfl rfl rfl (by decide +kernel) ⟨Nat.le_of_ble_eq_true rfl, Nat.le_of_ble_eq_true rfl⟩) hK hP hD hS hA [0, 1, 2, 3] rfl rfl rfl 0 0 rfl rfl rfl hl.1 rfl (lv_room (Nat.le_of_ble_eq_true rfl)) dL_isBack_68 ⟨Nat.le_of_ble_eq_true rfl, Nat.le_of_ble_eq_true rfl⟩ (fun r H locs hr hP hS => ?_)
  obtain rfl : r = (nI (pm_ct (pm_pl 1095749))) := hr
  refine pn_top (y := (nI 2)) (congrArg nI (by decide +kernel)) ?_
  refine lv_aload_n hx hb dL_isBack_71 rfl (lv_at hl 5 rfl) ?_
  refine lv_iload_n hx hb dL_isBack_72 rfl (lv_at hl 6 rfl) ?_
  refine pz_VR (rest := [.int (nI 2), .int (nI 0), .int (nI 1), .int (nI 3000), .ref h0]) ⟨hx, hb, hml, hown, hts⟩ (k_X0_isDoubled l D h0 ac ay ap cyI ts 0 (pq_c 12) pq_z pq_z 1095749 (by first | exact pq_c3 | decide | omega | decide +kernel)) (cwV 1 hts gL_isBack_X0_isDoubled rfl rfl rfl (by decide +kernel) ⟨Nat.le_of_ble_eq_true rfl, Nat.le_of_ble_eq_true rfl⟩) hK hP hD hS hA [0, 1, 2, 3] rfl rfl rfl 0 0 rfl rfl rfl hl.1 rfl (lv_room (Nat.le_of_ble_eq_true rfl)) dL_isBack_73 ⟨Nat.le_of_ble_eq_true rfl, Nat.le_of_ble_eq_true rfl⟩ (fun r H locs hr hP hS => ?_)
  obtain rfl : r = (pz_b (1095749 % 1461 = 1149)) := hr
  refine pn_top (y := (nI 0)) (pz_bf (by decide +kernel)).symm ?_
  refine pz_SRW (rest := []) ⟨hx, hb, hml, hown, hts⟩ (k_L_counted_1095749 l D h0 ac ay ap cyI ts  ) (vx_cwSW 6 hts gL_isBack_L_counted rfl rfl rfl (by decide +kernel) ⟨Nat.le_of_ble_eq_true rfl, Nat.le_of_ble_eq_true rfl⟩) hK hP hD hS hA [0, 1, 2, 3] rfl rfl rfl rfl hl.1 rfl (lv_room (Nat.le_of_ble_eq_true rfl)) dL_isBack_76 ⟨Nat.le_of_ble_eq_true rfl, Nat.le_of_ble_eq_true rfl⟩ (fun r H locs hr hP hS => ?_)
  obtain rfl : r = (nI 1095749) := hr
  refine lv_iload_n hx hb dL_isBack_79 rfl (lv_at hl 6 rfl) ?_
  refine pi_icmp_ne (tgt := 116) (a := (1095749)) (b := (1095749)) hx hb (by decide +kernel) (by decide +kernel) dL_isBack_80 (by decide) (fun h9 => absurd h9 (by decide)) (fun _ => ?_)
  refine lv_aload_n hx hb dL_isBack_83 rfl (lv_at hl 5 rfl) ?_
  refine lv_iload_n hx hb dL_isBack_84 rfl (lv_at hl 6 rfl) ?_
  refine pz_VR (rest := []) ⟨hx, hb, hml, hown, hts⟩ (k_X0_countOf l D h0 ac ay ap cyI ts 0 (pq_c 12) pq_z pq_z 1095749 (by first | exact pq_c3 | decide | omega | decide +kernel)) (cwV 1 hts gL_isBack_X0_countOf rfl rfl rfl (by decide +kernel) ⟨Nat.le_of_ble_eq_true rfl, Nat.le_of_ble_eq_true rfl⟩) hK hP hD hS hA [0, 1, 2, 3] rfl rfl rfl 0 0 rfl rfl rfl hl.1 rfl (lv_room (Nat.le_of_ble_eq_true rfl)) dL_isBack_85 ⟨Nat.le_of_ble_eq_true rfl, Nat.le_of_ble_eq_true rfl⟩ (fun r H locs hr hP hS => ?_)
  obtain rfl : r = (nI (pm_ct (pm_pl 1095749))) := hr
  refine pn_top (y := (nI 2)) (congrArg nI (by decide +kernel)) ?_
  refine lv_iconst (v := (nI 1)) hx hb dL_isBack_88 (by decide) ?_
  refine pi_icmp_lt (tgt := 116) (a := (2)) (b := (1)) hx hb (by decide +kernel) (by decide +kernel) dL_isBack_89 (by decide) (fun h9 => absurd h9 (by decide)) (fun _ => ?_)
  refine lv_aload_n hx hb dL_isBack_92 rfl (lv_at hl 5 rfl) ?_
  refine lv_iload_n hx hb dL_isBack_93 rfl (lv_at hl 6 rfl) ?_
  refine pz_VR (rest := []) ⟨hx, hb, hml, hown, hts⟩ (k_X0_countOf l D h0 ac ay ap cyI ts 0 (pq_c 12) pq_z pq_z 1095749 (by first | exact pq_c3 | decide | omega | decide +kernel)) (cwV 1 hts gL_isBack_X0_countOf rfl rfl rfl (by decide +kernel) ⟨Nat.le_of_ble_eq_true rfl, Nat.le_of_ble_eq_true rfl⟩) hK hP hD hS hA [0, 1, 2, 3] rfl rfl rfl 0 0 rfl rfl rfl hl.1 rfl (lv_room (Nat.le_of_ble_eq_true rfl)) dL_isBack_94 ⟨Nat.le_of_ble_eq_true rfl, Nat.le_of_ble_eq_true rfl⟩ (fun r H locs hr hP hS => ?_)
  obtain rfl : r = (nI (pm_ct (pm_pl 1095749))) := hr
  refine pn_top (y := (nI 2)) (congrArg nI (by decide +kernel)) ?_
  refine lv_aload_n hx hb dL_isBack_97 rfl (lv_at hl 5 rfl) ?_
  refine lv_iload_n hx hb dL_isBack_98 rfl (lv_at hl 4 rfl) ?_
  refine lv_aload_n hx hb dL_isBack_99 rfl (lv_at hl 5 rfl) ?_
  refine lv_iload_n hx hb dL_isBack_100 rfl (lv_at hl 6 rfl) ?_
  refine pz_VR (rest := [.int (nI 3000), .ref h0, .int (nI 2)]) ⟨hx, hb, hml, hown, hts⟩ (k_X0_anchorMonthOf l D h0 ac ay ap cyI ts 0 (pq_c 12) pq_z pq_z 1095749 (by first | exact pq_c3 | decide | omega | decide +kernel)) (cwV 1 hts gL_isBack_X0_anchorMonthOf rfl rfl rfl (by decide +kernel) ⟨Nat.le_of_ble_eq_true rfl, Nat.le_of_ble_eq_true rfl⟩) hK hP hD hS hA [0, 1, 2, 3] rfl rfl rfl 0 0 rfl rfl rfl hl.1 rfl (lv_room (Nat.le_of_ble_eq_true rfl)) dL_isBack_101 ⟨Nat.le_of_ble_eq_true rfl, Nat.le_of_ble_eq_true rfl⟩ (fun r H locs hr hP hS => ?_)
  obtain rfl : r = (nI (pm_am (pm_pl 1095749))) := hr
  refine pn_top (y := (nI 1)) (congrArg nI (by decide +kernel)) ?_
  refine lv_iload hx hb dL_isBack_104 (lv_at hl 1 rfl) ?_
  refine pz_VR (rest := [.int (nI 2)]) ⟨hx, hb, hml, hown, hts⟩ (k_X0_greatestCount l D h0 ac ay ap cyI ts 0 (pq_c 12) pq_z pq_z 3000 1 0 (by first | exact pq_c3 | decide | omega | decide +kernel) (by first | exact pq_c3 | decide | omega | decide +kernel) (by first | exact pq_c3 | decide | omega | decide +kernel) (by first | exact pq_c3 | decide | omega | decide +kernel) (by first | exact pq_c3 | decide | omega | decide +kernel)) (cwV 3 hts gL_isBack_X0_greatestCount rfl rfl rfl (by decide +kernel) ⟨Nat.le_of_ble_eq_true rfl, Nat.le_of_ble_eq_true rfl⟩) hK hP hD hS hA [0, 1, 2, 3] rfl rfl rfl 0 0 rfl rfl rfl hl.1 rfl (lv_room (Nat.le_of_ble_eq_true rfl)) dL_isBack_106 ⟨Nat.le_of_ble_eq_true rfl, Nat.le_of_ble_eq_true rfl⟩ (fun r H locs hr hP hS => ?_)
  obtain rfl : r = (nI (pm_gc 1 0)) := hr
  refine pn_top (y := (nI 19)) (congrArg nI (by decide +kernel)) ?_
  refine pi_icmp_gt (tgt := 116) (a := (2)) (b := (19)) hx hb (by decide +kernel) (by decide +kernel) dL_isBack_109 (by decide) (fun h9 => absurd h9 (by decide)) (fun _ => ?_)
  refine lv_iconst (v := (nI 1)) hx hb dL_isBack_112 (by decide) ?_
  refine lv_goto (tgt := 117) hx hb dL_isBack_113 (by decide) ?_
  refine lv_istore (lv' := [(7, .int (nI 1)), (6, .int (nI 365)), (5, .int (nI 0)), (4, .int (nI 31)), (3, .int (nI 12)), (2, .int (nI 3000)), (0, .ref h0), (1, .int (nI 1095749))]) hx hb dL_isBack_117 hl (by decide) rfl (fun ls hl => ?_)
  refine lv_iload hx hb dL_isBack_119 (lv_at hl 0 rfl) ?_
  refine pi_if_eq (tgt := 177) (a := (1)) hx hb (by decide +kernel) dL_isBack_121 (by decide) (fun h9 => absurd h9 (by decide)) (fun _ => ?_)
  refine lv_aload_n hx hb dL_isBack_124 rfl (lv_at hl 6 rfl) ?_
  refine lv_iload_n hx hb dL_isBack_125 rfl (lv_at hl 7 rfl) ?_
  refine pz_VR (rest := []) ⟨hx, hb, hml, hown, hts⟩ (k_X0_anchorMonthOf l D h0 ac ay ap cyI ts 0 (pq_c 12) pq_z pq_z 1095749 (by first | exact pq_c3 | decide | omega | decide +kernel)) (cwV 1 hts gL_isBack_X0_anchorMonthOf rfl rfl rfl (by decide +kernel) ⟨Nat.le_of_ble_eq_true rfl, Nat.le_of_ble_eq_true rfl⟩) hK hP hD hS hA [0, 1, 2, 3] rfl rfl rfl 0 0 rfl rfl rfl hl.1 rfl (lv_room (Nat.le_of_ble_eq_true rfl)) dL_isBack_126 ⟨Nat.le_of_ble_eq_true rfl, Nat.le_of_ble_eq_true rfl⟩ (fun r H locs hr hP hS => ?_)
  obtain rfl : r = (nI (pm_am (pm_pl 1095749))) := hr
  refine pn_top (y := (nI 1)) (congrArg nI (by decide +kernel)) ?_
  refine lv_iload_n hx hb dL_isBack_129 rfl (lv_at hl 4 rfl) ?_
  refine pi_icmp_ne (tgt := 147) (a := (1)) (b := (12)) hx hb (by decide +kernel) (by decide +kernel) dL_isBack_130 (by decide) (fun _ => ?_) (fun h9 => absurd h9 (by decide))
  refine lv_iload hx hb dL_isBack_147 (lv_at hl 2 rfl) ?_
  refine pi_if_ne (tgt := 177) (a := (0)) hx hb (by decide +kernel) dL_isBack_149 (by decide) (fun h9 => absurd h9 (by decide)) (fun _ => ?_)
  refine lv_aload_n hx hb dL_isBack_152 rfl (lv_at hl 6 rfl) ?_
  refine lv_iload_n hx hb dL_isBack_153 rfl (lv_at hl 7 rfl) ?_
  refine pz_VR (rest := []) ⟨hx, hb, hml, hown, hts⟩ (k_X0_anchorMonthOf l D h0 ac ay ap cyI ts 0 (pq_c 12) pq_z pq_z 1095749 (by first | exact pq_c3 | decide | omega | decide +kernel)) (cwV 1 hts gL_isBack_X0_anchorMonthOf rfl rfl rfl (by decide +kernel) ⟨Nat.le_of_ble_eq_true rfl, Nat.le_of_ble_eq_true rfl⟩) hK hP hD hS hA [0, 1, 2, 3] rfl rfl rfl 0 0 rfl rfl rfl hl.1 rfl (lv_room (Nat.le_of_ble_eq_true rfl)) dL_isBack_154 ⟨Nat.le_of_ble_eq_true rfl, Nat.le_of_ble_eq_true rfl⟩ (fun r H locs hr hP hS => ?_)
  obtain rfl : r = (nI (pm_am (pm_pl 1095749))) := hr
  refine pn_top (y := (nI 1)) (congrArg nI (by decide +kernel)) ?_
  refine lv_iload_n hx hb dL_isBack_157 rfl (lv_at hl 4 rfl) ?_
  refine lv_bipush (v := (nI 12)) hx hb dL_isBack_158 (by decide) ?_
  refine lv_irem hx hb dL_isBack_160 (by decide +kernel) ?_
  refine pn_top (y := (nI 0)) (by decide +kernel) ?_
  refine lv_iconst (v := (nI 1)) hx hb dL_isBack_161 (by decide) ?_
  refine lv_iadd hx hb dL_isBack_162 ?_
  refine pn_top (y := (nI 1)) (by decide +kernel) ?_
  refine pi_icmp_ne (tgt := 177) (a := (1)) (b := (1)) hx hb (by decide +kernel) (by decide +kernel) dL_isBack_163 (by decide) (fun h9 => absurd h9 (by decide)) (fun _ => ?_)
  refine lv_iload hx hb dL_isBack_166 (lv_at hl 3 rfl) ?_
  refine lv_bipush (v := (nI 13)) hx hb dL_isBack_168 (by decide) ?_
  refine pi_icmp_le (tgt := 177) (a := (31)) (b := (13)) hx hb (by decide +kernel) (by decide +kernel) dL_isBack_170 (by decide) (fun h9 => absurd h9 (by decide)) (fun _ => ?_)
  refine lv_iconst (v := (nI 1)) hx hb dL_isBack_173 (by decide) ?_
  refine lv_goto (tgt := 178) hx hb dL_isBack_174 (by decide) ?_
  refine lv_istore (lv' := [(7, .int (nI 1)), (6, .int (nI 365)), (5, .int (nI 0)), (4, .int (nI 31)), (3, .int (nI 12)), (2, .int (nI 3000)), (0, .ref h0), (1, .int (nI 1095749))]) hx hb dL_isBack_178 hl (by decide) rfl (fun ls hl => ?_)
  refine lv_iload hx hb dL_isBack_180 (lv_at hl 0 rfl) ?_
  refine pi_if_eq (tgt := 268) (a := (1)) hx hb (by decide +kernel) dL_isBack_182 (by decide) (fun h9 => absurd h9 (by decide)) (fun _ => ?_)
  refine lv_iload hx hb dL_isBack_185 (lv_at hl 1 rfl) ?_
  refine lv_iconst (v := (nI 1)) hx hb dL_isBack_187 (by decide) ?_
  refine pi_icmp_lt (tgt := 268) (a := (365)) (b := (1)) hx hb (by decide +kernel) (by decide +kernel) dL_isBack_188 (by decide) (fun h9 => absurd h9 (by decide)) (fun _ => ?_)
  refine lv_iload hx hb dL_isBack_191 (lv_at hl 1 rfl) ?_
  refine lv_sipush (v := (nI 365)) hx hb dL_isBack_193 (by decide) ?_
  refine pi_icmp_gt (tgt := 268) (a := (365)) (b := (365)) hx hb (by decide +kernel) (by decide +kernel) dL_isBack_196 (by decide) (fun h9 => absurd h9 (by decide)) (fun _ => ?_)
  refine lv_aload_n hx hb dL_isBack_199 rfl (lv_at hl 6 rfl) ?_
  refine lv_iload_n hx hb dL_isBack_200 rfl (lv_at hl 7 rfl) ?_
  refine pz_VR (rest := []) ⟨hx, hb, hml, hown, hts⟩ (k_X0_letterOfEight l D h0 ac ay ap cyI ts 0 (pq_c 12) pq_z pq_z 1095749 (by first | exact pq_c3 | decide | omega | decide +kernel)) (cwV 1 hts gL_isBack_X0_letterOfEight rfl rfl rfl (by decide +kernel) ⟨Nat.le_of_ble_eq_true rfl, Nat.le_of_ble_eq_true rfl⟩) hK hP hD hS hA [0, 1, 2, 3] rfl rfl rfl 0 0 rfl rfl rfl hl.1 rfl (lv_room (Nat.le_of_ble_eq_true rfl)) dL_isBack_201 ⟨Nat.le_of_ble_eq_true rfl, Nat.le_of_ble_eq_true rfl⟩ (fun r H locs hr hP hS => ?_)
  obtain rfl : r = (nI ((pm_pl 1095749 - 1) % 8)) := hr
  refine pn_top (y := (nI 4)) (congrArg nI (by decide +kernel)) ?_
  refine lv_iload hx hb dL_isBack_204 (lv_at hl 1 rfl) ?_
  refine lv_iconst (v := (nI 1)) hx hb dL_isBack_206 (by decide) ?_
  refine lv_isub hx hb dL_isBack_207 ?_
  refine pn_top (y := (nI 364)) (by decide +kernel) ?_
  refine lv_bipush (v := (nI 8)) hx hb dL_isBack_208 (by decide) ?_
  refine lv_irem hx hb dL_isBack_210 (by decide +kernel) ?_
  refine pn_top (y := (nI 4)) (by decide +kernel) ?_
  refine pi_icmp_ne (tgt := 268) (a := (4)) (b := (4)) hx hb (by decide +kernel) (by decide +kernel) dL_isBack_211 (by decide) (fun h9 => absurd h9 (by decide)) (fun _ => ?_)
  refine lv_aload_n hx hb dL_isBack_214 rfl (lv_at hl 6 rfl) ?_
  refine lv_iload_n hx hb dL_isBack_215 rfl (lv_at hl 7 rfl) ?_
  refine pz_VR (rest := []) ⟨hx, hb, hml, hown, hts⟩ (k_X0_letterOfSeven l D h0 ac ay ap cyI ts 0 (pq_c 12) pq_z pq_z 1095749 (by first | exact pq_c3 | decide | omega | decide +kernel)) (cwV 1 hts gL_isBack_X0_letterOfSeven rfl rfl rfl (by decide +kernel) ⟨Nat.le_of_ble_eq_true rfl, Nat.le_of_ble_eq_true rfl⟩) hK hP hD hS hA [0, 1, 2, 3] rfl rfl rfl 0 0 rfl rfl rfl hl.1 rfl (lv_room (Nat.le_of_ble_eq_true rfl)) dL_isBack_216 ⟨Nat.le_of_ble_eq_true rfl, Nat.le_of_ble_eq_true rfl⟩ (fun r H locs hr hP hS => ?_)
  obtain rfl : r = (nI ((pm_pl 1095749 - 1) % 7)) := hr
  refine pn_top (y := (nI 0)) (congrArg nI (by decide +kernel)) ?_
  refine lv_iload hx hb dL_isBack_219 (lv_at hl 1 rfl) ?_
  refine lv_iconst (v := (nI 1)) hx hb dL_isBack_221 (by decide) ?_
  refine lv_isub hx hb dL_isBack_222 ?_
  refine pn_top (y := (nI 364)) (by decide +kernel) ?_
  refine lv_bipush (v := (nI 7)) hx hb dL_isBack_223 (by decide) ?_
  refine lv_irem hx hb dL_isBack_225 (by decide +kernel) ?_
  refine pn_top (y := (nI 0)) (by decide +kernel) ?_
  refine pi_icmp_ne (tgt := 268) (a := (0)) (b := (0)) hx hb (by decide +kernel) (by decide +kernel) dL_isBack_226 (by decide) (fun h9 => absurd h9 (by decide)) (fun _ => ?_)
  refine lv_aload_n hx hb dL_isBack_229 rfl (lv_at hl 6 rfl) ?_
  refine lv_iload_n hx hb dL_isBack_230 rfl (lv_at hl 7 rfl) ?_
  refine pz_VR (rest := []) ⟨hx, hb, hml, hown, hts⟩ (k_X0_lawNumber l D h0 ac ay ap cyI ts 0 (pq_c 12) pq_z pq_z 1095749 (by first | exact pq_c3 | decide | omega | decide +kernel)) (cwV 1 hts gL_isBack_X0_lawNumber rfl rfl rfl (by decide +kernel) ⟨Nat.le_of_ble_eq_true rfl, Nat.le_of_ble_eq_true rfl⟩) hK hP hD hS hA [0, 1, 2, 3] rfl rfl rfl 0 0 rfl rfl rfl hl.1 rfl (lv_room (Nat.le_of_ble_eq_true rfl)) dL_isBack_231 ⟨Nat.le_of_ble_eq_true rfl, Nat.le_of_ble_eq_true rfl⟩ (fun r H locs hr hP hS => ?_)
  obtain rfl : r = (nI (pm_lw 1095749)) := hr
  refine pn_top (y := (nI 1094999)) (congrArg nI (by decide +kernel)) ?_
  refine lv_sipush (v := (nI 365)) hx hb dL_isBack_234 (by decide) ?_
  refine lv_iload_n hx hb dL_isBack_237 rfl (lv_at hl 5 rfl) ?_
  refine lv_iconst (v := (nI 1)) hx hb dL_isBack_238 (by decide) ?_
  refine lv_isub hx hb dL_isBack_239 ?_
  refine pn_top (y := (nI 2999)) (by decide +kernel) ?_
  refine lv_imul hx hb dL_isBack_240 ?_
  refine pn_top (y := (nI 1094635)) (by decide +kernel) ?_
  refine lv_iload hx hb dL_isBack_241 (lv_at hl 1 rfl) ?_
  refine lv_iadd hx hb dL_isBack_243 ?_
  refine pn_top (y := (nI 1095000)) (by decide +kernel) ?_
  refine lv_iconst (v := (nI 1)) hx hb dL_isBack_244 (by decide) ?_
  refine lv_isub hx hb dL_isBack_245 ?_
  refine pn_top (y := (nI 1094999)) (by decide +kernel) ?_
  refine pi_icmp_ne (tgt := 268) (a := (1094999)) (b := (1094999)) hx hb (by decide +kernel) (by decide +kernel) dL_isBack_246 (by decide) (fun h9 => absurd h9 (by decide)) (fun _ => ?_)
  refine lv_aload_n hx hb dL_isBack_249 rfl (lv_at hl 6 rfl) ?_
  refine lv_iload_n hx hb dL_isBack_250 rfl (lv_at hl 7 rfl) ?_
  refine pz_VR (rest := []) ⟨hx, hb, hml, hown, hts⟩ (k_X0_weekdayOf l D h0 ac ay ap cyI ts 0 (pq_c 12) pq_z pq_z 1095749 (by first | exact pq_c3 | decide | omega | decide +kernel)) (cwV 1 hts gL_isBack_X0_weekdayOf rfl rfl rfl (by decide +kernel) ⟨Nat.le_of_ble_eq_true rfl, Nat.le_of_ble_eq_true rfl⟩) hK hP hD hS hA [0, 1, 2, 3] rfl rfl rfl 0 0 rfl rfl rfl hl.1 rfl (lv_room (Nat.le_of_ble_eq_true rfl)) dL_isBack_251 ⟨Nat.le_of_ble_eq_true rfl, Nat.le_of_ble_eq_true rfl⟩ (fun r H locs hr hP hS => ?_)
  obtain rfl : r = (nI ((1095749 + 6) % 7)) := hr
  refine pn_top (y := (nI 3)) (congrArg nI (by decide +kernel)) ?_
  refine lv_iload_n hx hb dL_isBack_254 rfl (lv_at hl 7 rfl) ?_
  refine lv_bipush (v := (nI 6)) hx hb dL_isBack_255 (by decide) ?_
  refine lv_iadd hx hb dL_isBack_257 ?_
  refine pn_top (y := (nI 1095755)) (by decide +kernel) ?_
  refine lv_bipush (v := (nI 7)) hx hb dL_isBack_258 (by decide) ?_
  refine lv_irem hx hb dL_isBack_260 (by decide +kernel) ?_
  refine pn_top (y := (nI 3)) (by decide +kernel) ?_
  refine pi_icmp_ne (tgt := 268) (a := (3)) (b := (3)) hx hb (by decide +kernel) (by decide +kernel) dL_isBack_261 (by decide) (fun h9 => absurd h9 (by decide)) (fun _ => ?_)
  refine lv_iconst (v := (nI 1)) hx hb dL_isBack_264 (by decide) ?_
  refine lv_goto (tgt := 269) hx hb dL_isBack_265 (by decide) ?_
  refine lv_istore (lv' := [(7, .int (nI 1)), (6, .int (nI 365)), (5, .int (nI 0)), (4, .int (nI 31)), (3, .int (nI 12)), (2, .int (nI 3000)), (0, .ref h0), (1, .int (nI 1095749))]) hx hb dL_isBack_269 hl (by decide) rfl (fun ls hl => ?_)
  refine lv_iload hx hb dL_isBack_271 (lv_at hl 0 rfl) ?_
  refine pi_if_eq (tgt := 361) (a := (1)) hx hb (by decide +kernel) dL_isBack_273 (by decide) (fun h9 => absurd h9 (by decide)) (fun _ => ?_)
  refine lv_aload_n hx hb dL_isBack_276 rfl (lv_at hl 6 rfl) ?_
  refine lv_iload_n hx hb dL_isBack_277 rfl (lv_at hl 7 rfl) ?_
  refine pz_VR (rest := []) ⟨hx, hb, hml, hown, hts⟩ (k_X0_isDoubled l D h0 ac ay ap cyI ts 0 (pq_c 12) pq_z pq_z 1095749 (by first | exact pq_c3 | decide | omega | decide +kernel)) (cwV 1 hts gL_isBack_X0_isDoubled rfl rfl rfl (by decide +kernel) ⟨Nat.le_of_ble_eq_true rfl, Nat.le_of_ble_eq_true rfl⟩) hK hP hD hS hA [0, 1, 2, 3] rfl rfl rfl 0 0 rfl rfl rfl hl.1 rfl (lv_room (Nat.le_of_ble_eq_true rfl)) dL_isBack_278 ⟨Nat.le_of_ble_eq_true rfl, Nat.le_of_ble_eq_true rfl⟩ (fun r H locs hr hP hS => ?_)
  obtain rfl : r = (pz_b (1095749 % 1461 = 1149)) := hr
  refine pn_top (y := (nI 0)) (pz_bf (by decide +kernel)).symm ?_
  refine lv_iload_n hx hb dL_isBack_281 rfl (lv_at hl 5 rfl) ?_
  refine lv_iconst (v := (nI 4)) hx hb dL_isBack_282 (by decide) ?_
  refine lv_irem hx hb dL_isBack_283 (by decide +kernel) ?_
  refine pn_top (y := (nI 0)) (by decide +kernel) ?_
  refine pi_if_ne (tgt := 303) (a := (0)) hx hb (by decide +kernel) dL_isBack_284 (by decide) (fun h9 => absurd h9 (by decide)) (fun _ => ?_)
  refine lv_iload_n hx hb dL_isBack_287 rfl (lv_at hl 4 rfl) ?_
  refine lv_iconst (v := (nI 2)) hx hb dL_isBack_288 (by decide) ?_
  refine pi_icmp_ne (tgt := 303) (a := (12)) (b := (2)) hx hb (by decide +kernel) (by decide +kernel) dL_isBack_289 (by decide) (fun _ => ?_) (fun h9 => absurd h9 (by decide))
  refine lv_iconst (v := (nI 0)) hx hb dL_isBack_303 (by decide) ?_
  refine pi_icmp_ne (tgt := 361) (a := (0)) (b := (0)) hx hb (by decide +kernel) (by decide +kernel) dL_isBack_304 (by decide) (fun h9 => absurd h9 (by decide)) (fun _ => ?_)
  refine lv_aload_n hx hb dL_isBack_307 rfl (lv_at hl 6 rfl) ?_
  refine lv_iload_n hx hb dL_isBack_308 rfl (lv_at hl 7 rfl) ?_
  refine pz_VR (rest := []) ⟨hx, hb, hml, hown, hts⟩ (k_X0_isDoubled l D h0 ac ay ap cyI ts 0 (pq_c 12) pq_z pq_z 1095749 (by first | exact pq_c3 | decide | omega | decide +kernel)) (cwV 1 hts gL_isBack_X0_isDoubled rfl rfl rfl (by decide +kernel) ⟨Nat.le_of_ble_eq_true rfl, Nat.le_of_ble_eq_true rfl⟩) hK hP hD hS hA [0, 1, 2, 3] rfl rfl rfl 0 0 rfl rfl rfl hl.1 rfl (lv_room (Nat.le_of_ble_eq_true rfl)) dL_isBack_309 ⟨Nat.le_of_ble_eq_true rfl, Nat.le_of_ble_eq_true rfl⟩ (fun r H locs hr hP hS => ?_)
  obtain rfl : r = (pz_b (1095749 % 1461 = 1149)) := hr
  refine pn_top (y := (nI 0)) (pz_bf (by decide +kernel)).symm ?_
  refine pi_if_eq (tgt := 330) (a := (0)) hx hb (by decide +kernel) dL_isBack_312 (by decide) (fun _ => ?_) (fun h9 => absurd h9 (by decide))
  refine lv_iload_n hx hb dL_isBack_330 rfl (lv_at hl 4 rfl) ?_
  refine lv_iconst (v := (nI 3)) hx hb dL_isBack_331 (by decide) ?_
  refine pi_icmp_lt (tgt := 348) (a := (12)) (b := (3)) hx hb (by decide +kernel) (by decide +kernel) dL_isBack_332 (by decide) (fun h9 => absurd h9 (by decide)) (fun _ => ?_)
  refine lv_iload_n hx hb dL_isBack_335 rfl (lv_at hl 7 rfl) ?_
  refine lv_aload_n hx hb dL_isBack_336 rfl (lv_at hl 6 rfl) ?_
  refine lv_iload_n hx hb dL_isBack_337 rfl (lv_at hl 7 rfl) ?_
  refine pz_VR (rest := [.int (nI 1095749)]) ⟨hx, hb, hml, hown, hts⟩ (k_X0_lawNumber l D h0 ac ay ap cyI ts 0 (pq_c 12) pq_z pq_z 1095749 (by first | exact pq_c3 | decide | omega | decide +kernel)) (cwV 1 hts gL_isBack_X0_lawNumber rfl rfl rfl (by decide +kernel) ⟨Nat.le_of_ble_eq_true rfl, Nat.le_of_ble_eq_true rfl⟩) hK hP hD hS hA [0, 1, 2, 3] rfl rfl rfl 0 0 rfl rfl rfl hl.1 rfl (lv_room (Nat.le_of_ble_eq_true rfl)) dL_isBack_338 ⟨Nat.le_of_ble_eq_true rfl, Nat.le_of_ble_eq_true rfl⟩ (fun r H locs hr hP hS => ?_)
  obtain rfl : r = (nI (pm_lw 1095749)) := hr
  refine pn_top (y := (nI 1094999)) (congrArg nI (by decide +kernel)) ?_
  refine lv_isub hx hb dL_isBack_341 ?_
  refine pn_top (y := (nI 750)) (by decide +kernel) ?_
  refine lv_iload_n hx hb dL_isBack_342 rfl (lv_at hl 5 rfl) ?_
  refine lv_iconst (v := (nI 4)) hx hb dL_isBack_343 (by decide) ?_
  refine lv_idiv hx hb dL_isBack_344 (by decide +kernel) ?_
  refine pn_top (y := (nI 750)) (by decide +kernel) ?_
  refine pi_icmp_ne (tgt := 361) (a := (750)) (b := (750)) hx hb (by decide +kernel) (by decide +kernel) dL_isBack_345 (by decide) (fun h9 => absurd h9 (by decide)) (fun _ => ?_)
  refine lv_aload_n hx hb dL_isBack_348 rfl (lv_at hl 6 rfl) ?_
  refine lv_iload_n hx hb dL_isBack_349 rfl (lv_at hl 7 rfl) ?_
  refine lv_iload_n hx hb dL_isBack_350 rfl (lv_at hl 7 rfl) ?_
  refine pz_VR (rest := []) ⟨hx, hb, hml, hown, hts⟩ (k_X0_lawDays l D h0 ac ay ap cyI ts 0 (pq_c 12) pq_z pq_z 1095749 1095749 (by first | exact pq_c3 | decide | omega | decide +kernel) (by first | exact pq_c3 | decide | omega | decide +kernel)) (cwV 2 hts gL_isBack_X0_lawDays rfl rfl rfl (by decide +kernel) ⟨Nat.le_of_ble_eq_true rfl, Nat.le_of_ble_eq_true rfl⟩) hK hP hD hS hA [0, 1, 2, 3] rfl rfl rfl 0 0 rfl rfl rfl hl.1 rfl (lv_room (Nat.le_of_ble_eq_true rfl)) dL_isBack_351 ⟨Nat.le_of_ble_eq_true rfl, Nat.le_of_ble_eq_true rfl⟩ (fun r H locs hr hP hS => ?_)
  obtain rfl : r = (nI (pm_lw 1095749) - nI (pm_lw 1095749)) := hr
  refine pn_top (y := (nI 0)) (by decide +kernel) ?_
  refine pi_if_ne (tgt := 361) (a := (0)) hx hb (by decide +kernel) dL_isBack_354 (by decide) (fun h9 => absurd h9 (by decide)) (fun _ => ?_)
  refine lv_iconst (v := (nI 1)) hx hb dL_isBack_357 (by decide) ?_
  refine lv_goto (tgt := 362) hx hb dL_isBack_358 (by decide) ?_
  exact hQ _ _ _ _ _ dL_isBack_362 (by decide) (congrArg nI (by rfl)) hS
set_option maxHeartbeats 4000000 in
set_option maxRecDepth 100000 in
theorem k_L_isNext_0 (l : Launch) (D : va_G) (h0 ac ay ap : Nat) (cyI : ClassId) (ts : List (ClassId × FieldType))   : pz_R l yL_isNext wsL_isNext ({ frames := 6, cells := 0, slots := 0, locals := 130 } : Room) D ((cyI, .int) :: ts) [.ref h0, .int (nI 0)] [(h0, .inr (0, [.ref ac, .ref ay, .ref ap, .int (nI 0)])), (ac, .inl (cyI, 365, .inl (pz_ar (pq_c 12)))), (ay, .inl (cyI, 60, .inl (pz_ar pq_z))), (ap, .inl (cyI, 60, .inl (pz_ar pq_z)))] (fun r => r = nI 1) := by
  refine pz_R_of (cc := cL_isNext) (maxL := 5) (ty := .boolean) (own := RL) (by decide) rfl rfl (Nat.le_of_ble_eq_true rfl) ?_
  intro p e s m below meth c A ls Q hx hb hml hown hts hK hP hD hS hA hl hQ
  have hl : lv_has ls 5 [(0, .ref h0), (1, .int (nI 0))] := hl
  refine lv_aload_n hx hb dL_isNext_0 rfl (lv_at hl 0 rfl) ?_
  refine lv_iload_n hx hb dL_isNext_1 rfl (lv_at hl 1 rfl) ?_
  refine pz_VR (rest := []) ⟨hx, hb, hml, hown, hts⟩ (k_X0_isDoubled l D h0 ac ay ap cyI ts 0 (pq_c 12) pq_z pq_z 0 (by first | exact pq_c3 | decide | omega | decide +kernel)) (cwV 1 hts gL_isNext_X0_isDoubled rfl rfl rfl (by decide +kernel) ⟨Nat.le_of_ble_eq_true rfl, Nat.le_of_ble_eq_true rfl⟩) hK hP hD hS hA [0, 1, 2, 3] rfl rfl rfl 0 0 rfl rfl rfl hl.1 rfl (lv_room (Nat.le_of_ble_eq_true rfl)) dL_isNext_2 ⟨Nat.le_of_ble_eq_true rfl, Nat.le_of_ble_eq_true rfl⟩ (fun r H locs hr hP hS => ?_)
  obtain rfl : r = (pz_b (0 % 1461 = 1149)) := hr
  refine pn_top (y := (nI 0)) (pz_bf (by decide +kernel)).symm ?_
  refine lv_istore_n (lv' := [(2, .int (nI 0)), (0, .ref h0), (1, .int (nI 0))]) hx hb dL_isNext_5 rfl hl (by decide) rfl (fun ls hl => ?_)
  refine lv_aload_n hx hb dL_isNext_6 rfl (lv_at hl 1 rfl) ?_
  refine lv_iload_n hx hb dL_isNext_7 rfl (lv_at hl 2 rfl) ?_
  refine lv_iconst (v := (nI 1)) hx hb dL_isNext_8 (by decide) ?_
  refine lv_iadd hx hb dL_isNext_9 ?_
  refine pn_top (y := (nI 1)) (by decide +kernel) ?_
  refine pz_VR (rest := []) ⟨hx, hb, hml, hown, hts⟩ (k_X0_yearOf l D h0 ac ay ap cyI ts 0 (pq_c 12) pq_z pq_z 1 (by first | exact pq_c3 | decide | omega | decide +kernel)) (cwV 1 hts gL_isNext_X0_yearOf rfl rfl rfl (by decide +kernel) ⟨Nat.le_of_ble_eq_true rfl, Nat.le_of_ble_eq_true rfl⟩) hK hP hD hS hA [0, 1, 2, 3] rfl rfl rfl 0 0 rfl rfl rfl hl.1 rfl (lv_room (Nat.le_of_ble_eq_true rfl)) dL_isNext_10 ⟨Nat.le_of_ble_eq_true rfl, Nat.le_of_ble_eq_true rfl⟩ (fun r H locs hr hP hS => ?_)
  obtain rfl : r = (nI (pm_yr 1)) := hr
  refine pn_top (y := (nI 1)) (congrArg nI (by decide +kernel)) ?_
  refine lv_aload_n hx hb dL_isNext_13 rfl (lv_at hl 1 rfl) ?_
  refine lv_iload_n hx hb dL_isNext_14 rfl (lv_at hl 2 rfl) ?_
  refine pz_VR (rest := [.int (nI 1)]) ⟨hx, hb, hml, hown, hts⟩ (k_X0_yearOf l D h0 ac ay ap cyI ts 0 (pq_c 12) pq_z pq_z 0 (by first | exact pq_c3 | decide | omega | decide +kernel)) (cwV 1 hts gL_isNext_X0_yearOf rfl rfl rfl (by decide +kernel) ⟨Nat.le_of_ble_eq_true rfl, Nat.le_of_ble_eq_true rfl⟩) hK hP hD hS hA [0, 1, 2, 3] rfl rfl rfl 0 0 rfl rfl rfl hl.1 rfl (lv_room (Nat.le_of_ble_eq_true rfl)) dL_isNext_15 ⟨Nat.le_of_ble_eq_true rfl, Nat.le_of_ble_eq_true rfl⟩ (fun r H locs hr hP hS => ?_)
  obtain rfl : r = (nI (pm_yr 0)) := hr
  refine pn_top (y := (nI 1)) (congrArg nI (by decide +kernel)) ?_
  refine pi_icmp_eq (tgt := 25) (a := (1)) (b := (1)) hx hb (by decide +kernel) (by decide +kernel) dL_isNext_18 (by decide) (fun _ => ?_) (fun h9 => absurd h9 (by decide))
  refine lv_iconst (v := (nI 0)) hx hb dL_isNext_25 (by decide) ?_
  refine lv_istore_n (lv' := [(3, .int (nI 0)), (2, .int (nI 0)), (0, .ref h0), (1, .int (nI 0))]) hx hb dL_isNext_26 rfl hl (by decide) rfl (fun ls hl => ?_)
  refine lv_aload_n hx hb dL_isNext_27 rfl (lv_at hl 2 rfl) ?_
  refine lv_iload_n hx hb dL_isNext_28 rfl (lv_at hl 3 rfl) ?_
  refine lv_iconst (v := (nI 1)) hx hb dL_isNext_29 (by decide) ?_
  refine lv_iadd hx hb dL_isNext_30 ?_
  refine pn_top (y := (nI 1)) (by decide +kernel) ?_
  refine pz_VR (rest := []) ⟨hx, hb, hml, hown, hts⟩ (k_X0_weekdayOf l D h0 ac ay ap cyI ts 0 (pq_c 12) pq_z pq_z 1 (by first | exact pq_c3 | decide | omega | decide +kernel)) (cwV 1 hts gL_isNext_X0_weekdayOf rfl rfl rfl (by decide +kernel) ⟨Nat.le_of_ble_eq_true rfl, Nat.le_of_ble_eq_true rfl⟩) hK hP hD hS hA [0, 1, 2, 3] rfl rfl rfl 0 0 rfl rfl rfl hl.1 rfl (lv_room (Nat.le_of_ble_eq_true rfl)) dL_isNext_31 ⟨Nat.le_of_ble_eq_true rfl, Nat.le_of_ble_eq_true rfl⟩ (fun r H locs hr hP hS => ?_)
  obtain rfl : r = (nI ((1 + 6) % 7)) := hr
  refine pn_top (y := (nI 0)) (congrArg nI (by decide +kernel)) ?_
  refine lv_aload_n hx hb dL_isNext_34 rfl (lv_at hl 2 rfl) ?_
  refine lv_iload_n hx hb dL_isNext_35 rfl (lv_at hl 3 rfl) ?_
  refine pz_VR (rest := [.int (nI 0)]) ⟨hx, hb, hml, hown, hts⟩ (k_X0_weekdayOf l D h0 ac ay ap cyI ts 0 (pq_c 12) pq_z pq_z 0 (by first | exact pq_c3 | decide | omega | decide +kernel)) (cwV 1 hts gL_isNext_X0_weekdayOf rfl rfl rfl (by decide +kernel) ⟨Nat.le_of_ble_eq_true rfl, Nat.le_of_ble_eq_true rfl⟩) hK hP hD hS hA [0, 1, 2, 3] rfl rfl rfl 0 0 rfl rfl rfl hl.1 rfl (lv_room (Nat.le_of_ble_eq_true rfl)) dL_isNext_36 ⟨Nat.le_of_ble_eq_true rfl, Nat.le_of_ble_eq_true rfl⟩ (fun r H locs hr hP hS => ?_)
  obtain rfl : r = (nI ((0 + 6) % 7)) := hr
  refine pn_top (y := (nI 6)) (congrArg nI (by decide +kernel)) ?_
  refine lv_iconst (v := (nI 1)) hx hb dL_isNext_39 (by decide) ?_
  refine lv_iadd hx hb dL_isNext_40 ?_
  refine pn_top (y := (nI 7)) (by decide +kernel) ?_
  refine lv_bipush (v := (nI 7)) hx hb dL_isNext_41 (by decide) ?_
  refine lv_irem hx hb dL_isNext_43 (by decide +kernel) ?_
  refine pn_top (y := (nI 0)) (by decide +kernel) ?_
  refine pi_icmp_ne (tgt := 152) (a := (0)) (b := (0)) hx hb (by decide +kernel) (by decide +kernel) dL_isNext_44 (by decide) (fun h9 => absurd h9 (by decide)) (fun _ => ?_)
  refine lv_aload_n hx hb dL_isNext_47 rfl (lv_at hl 2 rfl) ?_
  refine lv_iload_n hx hb dL_isNext_48 rfl (lv_at hl 3 rfl) ?_
  refine lv_iload_n hx hb dL_isNext_49 rfl (lv_at hl 3 rfl) ?_
  refine lv_iconst (v := (nI 1)) hx hb dL_isNext_50 (by decide) ?_
  refine lv_iadd hx hb dL_isNext_51 ?_
  refine pn_top (y := (nI 1)) (by decide +kernel) ?_
  refine pz_VR (rest := []) ⟨hx, hb, hml, hown, hts⟩ (k_X0_lawDays l D h0 ac ay ap cyI ts 0 (pq_c 12) pq_z pq_z 0 1 (by first | exact pq_c3 | decide | omega | decide +kernel) (by first | exact pq_c3 | decide | omega | decide +kernel)) (cwV 2 hts gL_isNext_X0_lawDays rfl rfl rfl (by decide +kernel) ⟨Nat.le_of_ble_eq_true rfl, Nat.le_of_ble_eq_true rfl⟩) hK hP hD hS hA [0, 1, 2, 3] rfl rfl rfl 0 0 rfl rfl rfl hl.1 rfl (lv_room (Nat.le_of_ble_eq_true rfl)) dL_isNext_52 ⟨Nat.le_of_ble_eq_true rfl, Nat.le_of_ble_eq_true rfl⟩ (fun r H locs hr hP hS => ?_)
  obtain rfl : r = (nI (pm_lw 1) - nI (pm_lw 0)) := hr
  refine pn_top (y := (nI 1)) (by decide +kernel) ?_
  refine lv_iload_n hx hb dL_isNext_55 rfl (lv_at hl 1 rfl) ?_
  refine pi_if_eq (tgt := 63) (a := (0)) hx hb (by decide +kernel) dL_isNext_56 (by decide) (fun _ => ?_) (fun h9 => absurd h9 (by decide))
  refine lv_iconst (v := (nI 1)) hx hb dL_isNext_63 (by decide) ?_
  refine pi_icmp_ne (tgt := 152) (a := (1)) (b := (1)) hx hb (by decide +kernel) (by decide +kernel) dL_isNext_64 (by decide) (fun h9 => absurd h9 (by decide)) (fun _ => ?_)
  refine lv_iload_n hx hb dL_isNext_67 rfl (lv_at hl 0 rfl) ?_
  refine pi_if_eq (tgt := 123) (a := (0)) hx hb (by decide +kernel) dL_isNext_68 (by decide) (fun _ => ?_) (fun h9 => absurd h9 (by decide))
  refine lv_aload_n hx hb dL_isNext_123 rfl (lv_at hl 2 rfl) ?_
  refine lv_iload_n hx hb dL_isNext_124 rfl (lv_at hl 3 rfl) ?_
  refine lv_iconst (v := (nI 1)) hx hb dL_isNext_125 (by decide) ?_
  refine lv_iadd hx hb dL_isNext_126 ?_
  refine pn_top (y := (nI 1)) (by decide +kernel) ?_
  refine pz_VR (rest := []) ⟨hx, hb, hml, hown, hts⟩ (k_X0_placeOf l D h0 ac ay ap cyI ts 0 (pq_c 12) pq_z pq_z 1 (by first | exact pq_c3 | decide | omega | decide +kernel)) (cwV 1 hts gL_isNext_X0_placeOf rfl rfl rfl (by decide +kernel) ⟨Nat.le_of_ble_eq_true rfl, Nat.le_of_ble_eq_true rfl⟩) hK hP hD hS hA [0, 1, 2, 3] rfl rfl rfl 0 0 rfl rfl rfl hl.1 rfl (lv_room (Nat.le_of_ble_eq_true rfl)) dL_isNext_127 ⟨Nat.le_of_ble_eq_true rfl, Nat.le_of_ble_eq_true rfl⟩ (fun r H locs hr hP hS => ?_)
  obtain rfl : r = (nI (pm_pl 1)) := hr
  refine pn_top (y := (nI 2)) (congrArg nI (by decide +kernel)) ?_
  refine lv_aload_n hx hb dL_isNext_130 rfl (lv_at hl 2 rfl) ?_
  refine lv_iload_n hx hb dL_isNext_131 rfl (lv_at hl 3 rfl) ?_
  refine pz_VR (rest := [.int (nI 2)]) ⟨hx, hb, hml, hown, hts⟩ (k_X0_placeOf l D h0 ac ay ap cyI ts 0 (pq_c 12) pq_z pq_z 0 (by first | exact pq_c3 | decide | omega | decide +kernel)) (cwV 1 hts gL_isNext_X0_placeOf rfl rfl rfl (by decide +kernel) ⟨Nat.le_of_ble_eq_true rfl, Nat.le_of_ble_eq_true rfl⟩) hK hP hD hS hA [0, 1, 2, 3] rfl rfl rfl 0 0 rfl rfl rfl hl.1 rfl (lv_room (Nat.le_of_ble_eq_true rfl)) dL_isNext_132 ⟨Nat.le_of_ble_eq_true rfl, Nat.le_of_ble_eq_true rfl⟩ (fun r H locs hr hP hS => ?_)
  obtain rfl : r = (nI (pm_pl 0)) := hr
  refine pn_top (y := (nI 1)) (congrArg nI (by decide +kernel)) ?_
  refine lv_iload_n hx hb dL_isNext_135 rfl (lv_at hl 1 rfl) ?_
  refine pi_if_eq (tgt := 143) (a := (0)) hx hb (by decide +kernel) dL_isNext_136 (by decide) (fun _ => ?_) (fun h9 => absurd h9 (by decide))
  refine lv_iconst (v := (nI 1)) hx hb dL_isNext_143 (by decide) ?_
  refine lv_iadd hx hb dL_isNext_144 ?_
  refine pn_top (y := (nI 2)) (by decide +kernel) ?_
  refine pi_icmp_ne (tgt := 152) (a := (2)) (b := (2)) hx hb (by decide +kernel) (by decide +kernel) dL_isNext_145 (by decide) (fun h9 => absurd h9 (by decide)) (fun _ => ?_)
  refine lv_iconst (v := (nI 1)) hx hb dL_isNext_148 (by decide) ?_
  refine lv_goto (tgt := 153) hx hb dL_isNext_149 (by decide) ?_
  refine lv_istore (lv' := [(4, .int (nI 1)), (3, .int (nI 0)), (2, .int (nI 0)), (0, .ref h0), (1, .int (nI 0))]) hx hb dL_isNext_153 hl (by decide) rfl (fun ls hl => ?_)
  refine lv_iload hx hb dL_isNext_155 (lv_at hl 0 rfl) ?_
  refine pi_if_eq (tgt := 237) (a := (1)) hx hb (by decide +kernel) dL_isNext_157 (by decide) (fun h9 => absurd h9 (by decide)) (fun _ => ?_)
  refine lv_aload_n hx hb dL_isNext_160 rfl (lv_at hl 3 rfl) ?_
  refine lv_iload_n hx hb dL_isNext_161 rfl (lv_at hl 4 rfl) ?_
  refine lv_iconst (v := (nI 1)) hx hb dL_isNext_162 (by decide) ?_
  refine lv_iadd hx hb dL_isNext_163 ?_
  refine pn_top (y := (nI 1)) (by decide +kernel) ?_
  refine pz_VR (rest := []) ⟨hx, hb, hml, hown, hts⟩ (k_X0_dayOf l D h0 ac ay ap cyI ts 0 (pq_c 12) pq_z pq_z 1 (by first | exact pq_c3 | decide | omega | decide +kernel)) (cwV 1 hts gL_isNext_X0_dayOf rfl rfl rfl (by decide +kernel) ⟨Nat.le_of_ble_eq_true rfl, Nat.le_of_ble_eq_true rfl⟩) hK hP hD hS hA [0, 1, 2, 3] rfl rfl rfl 0 0 rfl rfl rfl hl.1 rfl (lv_room (Nat.le_of_ble_eq_true rfl)) dL_isNext_164 ⟨Nat.le_of_ble_eq_true rfl, Nat.le_of_ble_eq_true rfl⟩ (fun r H locs hr hP hS => ?_)
  obtain rfl : r = (nI (pm_da 1)) := hr
  refine pn_top (y := (nI 2)) (congrArg nI (by decide +kernel)) ?_
  refine lv_aload_n hx hb dL_isNext_167 rfl (lv_at hl 3 rfl) ?_
  refine lv_iload_n hx hb dL_isNext_168 rfl (lv_at hl 4 rfl) ?_
  refine pz_VR (rest := [.int (nI 2)]) ⟨hx, hb, hml, hown, hts⟩ (k_X0_dayOf l D h0 ac ay ap cyI ts 0 (pq_c 12) pq_z pq_z 0 (by first | exact pq_c3 | decide | omega | decide +kernel)) (cwV 1 hts gL_isNext_X0_dayOf rfl rfl rfl (by decide +kernel) ⟨Nat.le_of_ble_eq_true rfl, Nat.le_of_ble_eq_true rfl⟩) hK hP hD hS hA [0, 1, 2, 3] rfl rfl rfl 0 0 rfl rfl rfl hl.1 rfl (lv_room (Nat.le_of_ble_eq_true rfl)) dL_isNext_169 ⟨Nat.le_of_ble_eq_true rfl, Nat.le_of_ble_eq_true rfl⟩ (fun r H locs hr hP hS => ?_)
  obtain rfl : r = (nI (pm_da 0)) := hr
  refine pn_top (y := (nI 1)) (congrArg nI (by decide +kernel)) ?_
  refine lv_iconst (v := (nI 1)) hx hb dL_isNext_172 (by decide) ?_
  refine lv_iadd hx hb dL_isNext_173 ?_
  refine pn_top (y := (nI 2)) (by decide +kernel) ?_
  refine pi_icmp_ne (tgt := 192) (a := (2)) (b := (2)) hx hb (by decide +kernel) (by decide +kernel) dL_isNext_174 (by decide) (fun h9 => absurd h9 (by decide)) (fun _ => ?_)
  refine lv_aload_n hx hb dL_isNext_177 rfl (lv_at hl 3 rfl) ?_
  refine lv_iload_n hx hb dL_isNext_178 rfl (lv_at hl 4 rfl) ?_
  refine lv_iconst (v := (nI 1)) hx hb dL_isNext_179 (by decide) ?_
  refine lv_iadd hx hb dL_isNext_180 ?_
  refine pn_top (y := (nI 1)) (by decide +kernel) ?_
  refine pz_VR (rest := []) ⟨hx, hb, hml, hown, hts⟩ (k_X0_monthOf l D h0 ac ay ap cyI ts 0 (pq_c 12) pq_z pq_z 1 (by first | exact pq_c3 | decide | omega | decide +kernel)) (cwV 1 hts gL_isNext_X0_monthOf rfl rfl rfl (by decide +kernel) ⟨Nat.le_of_ble_eq_true rfl, Nat.le_of_ble_eq_true rfl⟩) hK hP hD hS hA [0, 1, 2, 3] rfl rfl rfl 0 0 rfl rfl rfl hl.1 rfl (lv_room (Nat.le_of_ble_eq_true rfl)) dL_isNext_181 ⟨Nat.le_of_ble_eq_true rfl, Nat.le_of_ble_eq_true rfl⟩ (fun r H locs hr hP hS => ?_)
  obtain rfl : r = (nI (pm_mo 1)) := hr
  refine pn_top (y := (nI 1)) (congrArg nI (by decide +kernel)) ?_
  refine lv_aload_n hx hb dL_isNext_184 rfl (lv_at hl 3 rfl) ?_
  refine lv_iload_n hx hb dL_isNext_185 rfl (lv_at hl 4 rfl) ?_
  refine pz_VR (rest := [.int (nI 1)]) ⟨hx, hb, hml, hown, hts⟩ (k_X0_monthOf l D h0 ac ay ap cyI ts 0 (pq_c 12) pq_z pq_z 0 (by first | exact pq_c3 | decide | omega | decide +kernel)) (cwV 1 hts gL_isNext_X0_monthOf rfl rfl rfl (by decide +kernel) ⟨Nat.le_of_ble_eq_true rfl, Nat.le_of_ble_eq_true rfl⟩) hK hP hD hS hA [0, 1, 2, 3] rfl rfl rfl 0 0 rfl rfl rfl hl.1 rfl (lv_room (Nat.le_of_ble_eq_true rfl)) dL_isNext_186 ⟨Nat.le_of_ble_eq_true rfl, Nat.le_of_ble_eq_true rfl⟩ (fun r H locs hr hP hS => ?_)
  obtain rfl : r = (nI (pm_mo 0)) := hr
  refine pn_top (y := (nI 1)) (congrArg nI (by decide +kernel)) ?_
  refine pi_icmp_eq (tgt := 233) (a := (1)) (b := (1)) hx hb (by decide +kernel) (by decide +kernel) dL_isNext_189 (by decide) (fun _ => ?_) (fun h9 => absurd h9 (by decide))
  refine lv_iconst (v := (nI 1)) hx hb dL_isNext_233 (by decide) ?_
  refine lv_goto (tgt := 238) hx hb dL_isNext_234 (by decide) ?_
  refine lv_istore (lv' := [(4, .int (nI 1)), (3, .int (nI 0)), (2, .int (nI 0)), (0, .ref h0), (1, .int (nI 0))]) hx hb dL_isNext_238 hl (by decide) rfl (fun ls hl => ?_)
  refine lv_iload hx hb dL_isNext_240 (lv_at hl 0 rfl) ?_
  refine pi_if_eq (tgt := 315) (a := (1)) hx hb (by decide +kernel) dL_isNext_242 (by decide) (fun h9 => absurd h9 (by decide)) (fun _ => ?_)
  refine lv_aload_n hx hb dL_isNext_245 rfl (lv_at hl 3 rfl) ?_
  refine lv_iload_n hx hb dL_isNext_246 rfl (lv_at hl 4 rfl) ?_
  refine pz_VR (rest := []) ⟨hx, hb, hml, hown, hts⟩ (k_X0_countOf l D h0 ac ay ap cyI ts 0 (pq_c 12) pq_z pq_z 0 (by first | exact pq_c3 | decide | omega | decide +kernel)) (cwV 1 hts gL_isNext_X0_countOf rfl rfl rfl (by decide +kernel) ⟨Nat.le_of_ble_eq_true rfl, Nat.le_of_ble_eq_true rfl⟩) hK hP hD hS hA [0, 1, 2, 3] rfl rfl rfl 0 0 rfl rfl rfl hl.1 rfl (lv_room (Nat.le_of_ble_eq_true rfl)) dL_isNext_247 ⟨Nat.le_of_ble_eq_true rfl, Nat.le_of_ble_eq_true rfl⟩ (fun r H locs hr hP hS => ?_)
  obtain rfl : r = (nI (pm_ct (pm_pl 0))) := hr
  refine pn_top (y := (nI 1)) (congrArg nI (by decide +kernel)) ?_
  refine lv_iconst (v := (nI 1)) hx hb dL_isNext_250 (by decide) ?_
  refine pi_icmp_ne (tgt := 268) (a := (1)) (b := (1)) hx hb (by decide +kernel) (by decide +kernel) dL_isNext_251 (by decide) (fun h9 => absurd h9 (by decide)) (fun _ => ?_)
  refine lv_aload_n hx hb dL_isNext_254 rfl (lv_at hl 3 rfl) ?_
  refine lv_iload_n hx hb dL_isNext_255 rfl (lv_at hl 4 rfl) ?_
  refine lv_iconst (v := (nI 1)) hx hb dL_isNext_256 (by decide) ?_
  refine lv_iadd hx hb dL_isNext_257 ?_
  refine pn_top (y := (nI 1)) (by decide +kernel) ?_
  refine pz_VR (rest := []) ⟨hx, hb, hml, hown, hts⟩ (k_X0_countOf l D h0 ac ay ap cyI ts 0 (pq_c 12) pq_z pq_z 1 (by first | exact pq_c3 | decide | omega | decide +kernel)) (cwV 1 hts gL_isNext_X0_countOf rfl rfl rfl (by decide +kernel) ⟨Nat.le_of_ble_eq_true rfl, Nat.le_of_ble_eq_true rfl⟩) hK hP hD hS hA [0, 1, 2, 3] rfl rfl rfl 0 0 rfl rfl rfl hl.1 rfl (lv_room (Nat.le_of_ble_eq_true rfl)) dL_isNext_258 ⟨Nat.le_of_ble_eq_true rfl, Nat.le_of_ble_eq_true rfl⟩ (fun r H locs hr hP hS => ?_)
  obtain rfl : r = (nI (pm_ct (pm_pl 1))) := hr
  refine pn_top (y := (nI 4)) (congrArg nI (by decide +kernel)) ?_
  refine lv_iconst (v := (nI 1)) hx hb dL_isNext_261 (by decide) ?_
  refine pi_icmp_le (tgt := 315) (a := (4)) (b := (1)) hx hb (by decide +kernel) (by decide +kernel) dL_isNext_262 (by decide) (fun h9 => absurd h9 (by decide)) (fun _ => ?_)
  refine lv_goto (tgt := 293) hx hb dL_isNext_265 (by decide) ?_
  refine lv_aload_n hx hb dL_isNext_293 rfl (lv_at hl 3 rfl) ?_
  refine lv_iload_n hx hb dL_isNext_294 rfl (lv_at hl 4 rfl) ?_
  refine pz_VR (rest := []) ⟨hx, hb, hml, hown, hts⟩ (k_X0_isMarket l D h0 ac ay ap cyI ts 0 (pq_c 12) pq_z pq_z 0 (by first | exact pq_c3 | decide | omega | decide +kernel) (by first | exact pq_c3 | decide | omega | decide +kernel)) (cwV 1 hts gL_isNext_X0_isMarket rfl rfl rfl (by decide +kernel) ⟨Nat.le_of_ble_eq_true rfl, Nat.le_of_ble_eq_true rfl⟩) hK hP hD hS hA [0, 1, 2, 3] rfl rfl rfl 0 0 rfl rfl rfl hl.1 rfl (lv_room (Nat.le_of_ble_eq_true rfl)) dL_isNext_295 ⟨Nat.le_of_ble_eq_true rfl, Nat.le_of_ble_eq_true rfl⟩ (fun r H locs hr hP hS => ?_)
  obtain rfl : r = (pz_b (0 % 8 = 0)) := hr
  refine pn_top (y := (nI 1)) (pz_bt (by decide +kernel)).symm ?_
  refine pi_if_eq (tgt := 311) (a := (1)) hx hb (by decide +kernel) dL_isNext_298 (by decide) (fun h9 => absurd h9 (by decide)) (fun _ => ?_)
  refine lv_aload_n hx hb dL_isNext_301 rfl (lv_at hl 3 rfl) ?_
  refine lv_iload_n hx hb dL_isNext_302 rfl (lv_at hl 4 rfl) ?_
  refine lv_iconst (v := (nI 1)) hx hb dL_isNext_303 (by decide) ?_
  refine lv_iadd hx hb dL_isNext_304 ?_
  refine pn_top (y := (nI 1)) (by decide +kernel) ?_
  refine pz_VR (rest := []) ⟨hx, hb, hml, hown, hts⟩ (k_X0_isMarket l D h0 ac ay ap cyI ts 0 (pq_c 12) pq_z pq_z 1 (by first | exact pq_c3 | decide | omega | decide +kernel) (by first | exact pq_c3 | decide | omega | decide +kernel)) (cwV 1 hts gL_isNext_X0_isMarket rfl rfl rfl (by decide +kernel) ⟨Nat.le_of_ble_eq_true rfl, Nat.le_of_ble_eq_true rfl⟩) hK hP hD hS hA [0, 1, 2, 3] rfl rfl rfl 0 0 rfl rfl rfl hl.1 rfl (lv_room (Nat.le_of_ble_eq_true rfl)) dL_isNext_305 ⟨Nat.le_of_ble_eq_true rfl, Nat.le_of_ble_eq_true rfl⟩ (fun r H locs hr hP hS => ?_)
  obtain rfl : r = (pz_b (1 % 8 = 0)) := hr
  refine pn_top (y := (nI 0)) (pz_bf (by decide +kernel)).symm ?_
  refine pi_if_ne (tgt := 315) (a := (0)) hx hb (by decide +kernel) dL_isNext_308 (by decide) (fun h9 => absurd h9 (by decide)) (fun _ => ?_)
  refine lv_iconst (v := (nI 1)) hx hb dL_isNext_311 (by decide) ?_
  refine lv_goto (tgt := 316) hx hb dL_isNext_312 (by decide) ?_
  exact hQ _ _ _ _ _ dL_isNext_316 (by decide) (congrArg nI (by rfl)) hS
set_option maxHeartbeats 4000000 in
set_option maxRecDepth 100000 in
theorem k_L_isKept_0 (l : Launch) (D : va_G) (h0 ac ay ap : Nat) (cyI : ClassId) (ts : List (ClassId × FieldType))   : pz_R l yL_isKept wsL_isKept ({ frames := 5, cells := 0, slots := 0, locals := 102 } : Room) D ((cyI, .int) :: ts) [.ref h0, .int (nI 0)] [(h0, .inr (0, [.ref ac, .ref ay, .ref ap, .int (nI 0)])), (ac, .inl (cyI, 365, .inl (pz_ar (pq_c 12)))), (ay, .inl (cyI, 60, .inl (pz_ar pq_z))), (ap, .inl (cyI, 60, .inl (pz_ar pq_z)))] (fun r => r = nI 1) := by
  refine pz_R_of (cc := cL_isKept) (maxL := 8) (ty := .boolean) (own := RL) (by decide) rfl rfl (Nat.le_of_ble_eq_true rfl) ?_
  intro p e s m below meth c A ls Q hx hb hml hown hts hK hP hD hS hA hl hQ
  have hl : lv_has ls 8 [(0, .ref h0), (1, .int (nI 0))] := hl
  refine lv_aload_n hx hb dL_isKept_0 rfl (lv_at hl 0 rfl) ?_
  refine lv_iload_n hx hb dL_isKept_1 rfl (lv_at hl 1 rfl) ?_
  refine pz_VR (rest := []) ⟨hx, hb, hml, hown, hts⟩ (k_X0_characterOf l D h0 ac ay ap cyI ts 0 (pq_c 12) pq_z pq_z 0 (by first | exact pq_c3 | decide | omega | decide +kernel)) (cwV 1 hts gL_isKept_X0_characterOf rfl rfl rfl (by decide +kernel) ⟨Nat.le_of_ble_eq_true rfl, Nat.le_of_ble_eq_true rfl⟩) hK hP hD hS hA [0, 1, 2, 3] rfl rfl rfl 0 0 rfl rfl rfl hl.1 rfl (lv_room (Nat.le_of_ble_eq_true rfl)) dL_isKept_2 ⟨Nat.le_of_ble_eq_true rfl, Nat.le_of_ble_eq_true rfl⟩ (fun r H locs hr hP hS => ?_)
  obtain rfl : r = (nI ((pq_c 12) (pm_pl 0 - 1))) := hr
  refine pn_top (y := (nI 0)) (congrArg nI (by decide +kernel)) ?_
  refine lv_istore_n (lv' := [(2, .int (nI 0)), (0, .ref h0), (1, .int (nI 0))]) hx hb dL_isKept_5 rfl hl (by decide) rfl (fun ls hl => ?_)
  refine lv_aload_n hx hb dL_isKept_6 rfl (lv_at hl 1 rfl) ?_
  refine lv_iload_n hx hb dL_isKept_7 rfl (lv_at hl 2 rfl) ?_
  refine pz_VR (rest := []) ⟨hx, hb, hml, hown, hts⟩ (k_X0_nextCourt l D h0 ac ay ap cyI ts 0 (pq_c 12) pq_z pq_z 0 (by first | exact pq_c3 | decide | omega | decide +kernel) (by first | exact pq_c3 | decide | omega | decide +kernel)) (cwV 1 hts gL_isKept_X0_nextCourt rfl rfl rfl (by decide +kernel) ⟨Nat.le_of_ble_eq_true rfl, Nat.le_of_ble_eq_true rfl⟩) hK hP hD hS hA [0, 1, 2, 3] rfl rfl rfl 0 0 rfl rfl rfl hl.1 rfl (lv_room (Nat.le_of_ble_eq_true rfl)) dL_isKept_8 ⟨Nat.le_of_ble_eq_true rfl, Nat.le_of_ble_eq_true rfl⟩ (fun r H locs hr hP hS => ?_)
  have hr_2 : (fun r => (∃ d, 0 ≤ d ∧ d < 1095750 ∧ d < 0 + 366 ∧ r = nI d ∧ ((pq_c 12) (pm_pl d - 1) = 0 ∨ (pq_c 12) (pm_pl d - 1) = 2) ∧ ∀ z, 0 ≤ z → z < d → ¬ ((pq_c 12) (pm_pl z - 1) = 0 ∨ (pq_c 12) (pm_pl z - 1) = 2)) ∨ (r = (-1) ∧ ∀ z, 0 ≤ z → z < 1095750 → z < 0 + 366 → ¬ ((pq_c 12) (pm_pl z - 1) = 0 ∨ (pq_c 12) (pm_pl z - 1) = 2))) r := hr
  obtain ⟨r_2, er_2⟩ : ∃ z, z = r := ⟨_, rfl⟩
  subst er_2
  obtain rfl : r_2 = nI 0 := by rcases hr_2 with ⟨d, h1, _, _, h4, _, h6⟩ | ⟨_, h⟩; (rcases Nat.lt_or_ge 0 d with h7 | h7; (exact absurd (by decide +kernel) (h6 0 (Nat.le_refl _) h7)); (have h8 : d = 0 := by omega); rw [h4, h8]); (exact absurd (by decide +kernel) (h 0 (Nat.le_refl _) (by decide) (by decide)))
  refine lv_istore_n (lv' := [(3, .int (nI 0)), (2, .int (nI 0)), (0, .ref h0), (1, .int (nI 0))]) hx hb dL_isKept_11 rfl hl (by decide) rfl (fun ls hl => ?_)
  refine lv_aload_n hx hb dL_isKept_12 rfl (lv_at hl 2 rfl) ?_
  refine lv_iload_n hx hb dL_isKept_13 rfl (lv_at hl 3 rfl) ?_
  refine pz_VR (rest := []) ⟨hx, hb, hml, hown, hts⟩ (k_X0_canVote l D h0 ac ay ap cyI ts 0 (pq_c 12) pq_z pq_z 0 (by first | exact pq_c3 | decide | omega | decide +kernel) (by first | exact pq_c3 | decide | omega | decide +kernel) (by first | exact pq_c3 | decide | omega | decide +kernel)) (cwV 1 hts gL_isKept_X0_canVote rfl rfl rfl (by decide +kernel) ⟨Nat.le_of_ble_eq_true rfl, Nat.le_of_ble_eq_true rfl⟩) hK hP hD hS hA [0, 1, 2, 3] rfl rfl rfl 0 0 rfl rfl rfl hl.1 rfl (lv_room (Nat.le_of_ble_eq_true rfl)) dL_isKept_14 ⟨Nat.le_of_ble_eq_true rfl, Nat.le_of_ble_eq_true rfl⟩ (fun r H locs hr hP hS => ?_)
  obtain rfl : r = (pz_b (pm_vt (pm_sh (pq_c 12)) 0 0)) := hr
  refine pn_top (y := (nI 0)) (pz_bf (by decide +kernel)).symm ?_
  refine lv_iload_n hx hb dL_isKept_17 rfl (lv_at hl 1 rfl) ?_
  refine lv_iconst (v := (nI 2)) hx hb dL_isKept_18 (by decide) ?_
  refine pi_icmp_ne (tgt := 34) (a := (0)) (b := (2)) hx hb (by decide +kernel) (by decide +kernel) dL_isKept_19 (by decide) (fun _ => ?_) (fun h9 => absurd h9 (by decide))
  refine lv_iconst (v := (nI 0)) hx hb dL_isKept_34 (by decide) ?_
  refine pi_icmp_ne (tgt := 69) (a := (0)) (b := (0)) hx hb (by decide +kernel) (by decide +kernel) dL_isKept_35 (by decide) (fun h9 => absurd h9 (by decide)) (fun _ => ?_)
  refine lv_iload_n hx hb dL_isKept_38 rfl (lv_at hl 3 rfl) ?_
  refine lv_bipush (v := (nI 8)) hx hb dL_isKept_39 (by decide) ?_
  refine pi_icmp_lt (tgt := 60) (a := (0)) (b := (8)) hx hb (by decide +kernel) (by decide +kernel) dL_isKept_41 (by decide) (fun _ => ?_) (fun h9 => absurd h9 (by decide))
  refine lv_iload_n hx hb dL_isKept_60 rfl (lv_at hl 0 rfl) ?_
  refine lv_iconst (v := (-1 : Int32)) hx hb dL_isKept_61 (by decide) ?_
  refine pi_icmp_lt (tgt := 69) (a := (0)) (b := (-1)) hx hb (by decide +kernel) (by decide +kernel) dL_isKept_62 (by decide) (fun h9 => absurd h9 (by decide)) (fun _ => ?_)
  refine lv_iconst (v := (nI 1)) hx hb dL_isKept_65 (by decide) ?_
  refine lv_goto (tgt := 70) hx hb dL_isKept_66 (by decide) ?_
  refine lv_istore (lv' := [(4, .int (nI 1)), (3, .int (nI 0)), (2, .int (nI 0)), (0, .ref h0), (1, .int (nI 0))]) hx hb dL_isKept_70 hl (by decide) rfl (fun ls hl => ?_)
  refine lv_iload_n hx hb dL_isKept_72 rfl (lv_at hl 4 rfl) ?_
  refine lv_istore (lv' := [(5, .int (nI 0)), (4, .int (nI 1)), (3, .int (nI 0)), (2, .int (nI 0)), (0, .ref h0), (1, .int (nI 0))]) hx hb dL_isKept_73 hl (by decide) rfl (fun ls hl => ?_)
  refine lv_iload hx hb dL_isKept_75 (lv_at hl 0 rfl) ?_
  refine lv_iload_n hx hb dL_isKept_77 rfl (lv_at hl 5 rfl) ?_
  refine lv_bipush (v := (nI 12)) hx hb dL_isKept_78 (by decide) ?_
  refine lv_iadd hx hb dL_isKept_80 ?_
  refine pn_top (y := (nI 12)) (by decide +kernel) ?_
  refine pi_icmp_ge (tgt := 185) (a := (0)) (b := (12)) hx hb (by decide +kernel) (by decide +kernel) dL_isKept_81 (by decide) (fun h9 => absurd h9 (by decide)) (fun _ => ?_)
  refine lv_iload hx hb dL_isKept_84 (lv_at hl 0 rfl) ?_
  refine lv_aload_n hx hb dL_isKept_86 rfl (lv_at hl 4 rfl) ?_
  refine pz_VR (rest := [.int (nI 0)]) ⟨hx, hb, hml, hown, hts⟩ (k_X0_days l D h0 ac ay ap cyI ts 0 (pq_c 12) pq_z pq_z  ) (cwV 0 hts gL_isKept_X0_days rfl rfl rfl (by decide +kernel) ⟨Nat.le_of_ble_eq_true rfl, Nat.le_of_ble_eq_true rfl⟩) hK hP hD hS hA [0, 1, 2, 3] rfl rfl rfl 0 0 rfl rfl rfl hl.1 rfl (lv_room (Nat.le_of_ble_eq_true rfl)) dL_isKept_87 ⟨Nat.le_of_ble_eq_true rfl, Nat.le_of_ble_eq_true rfl⟩ (fun r H locs hr hP hS => ?_)
  obtain rfl : r = (nI 1095750) := hr
  refine pi_icmp_ge (tgt := 185) (a := (0)) (b := (1095750)) hx hb (by decide +kernel) (by decide +kernel) dL_isKept_90 (by decide) (fun h9 => absurd h9 (by decide)) (fun _ => ?_)
  refine lv_iload hx hb dL_isKept_93 (lv_at hl 1 rfl) ?_
  refine pi_if_eq (tgt := 185) (a := (1)) hx hb (by decide +kernel) dL_isKept_95 (by decide) (fun h9 => absurd h9 (by decide)) (fun _ => ?_)
  refine lv_aload_n hx hb dL_isKept_98 rfl (lv_at hl 4 rfl) ?_
  refine lv_iload hx hb dL_isKept_99 (lv_at hl 0 rfl) ?_
  refine pz_VR (rest := []) ⟨hx, hb, hml, hown, hts⟩ (k_X0_characterOf l D h0 ac ay ap cyI ts 0 (pq_c 12) pq_z pq_z 0 (by first | exact pq_c3 | decide | omega | decide +kernel)) (cwV 1 hts gL_isKept_X0_characterOf rfl rfl rfl (by decide +kernel) ⟨Nat.le_of_ble_eq_true rfl, Nat.le_of_ble_eq_true rfl⟩) hK hP hD hS hA [0, 1, 2, 3] rfl rfl rfl 0 0 rfl rfl rfl hl.1 rfl (lv_room (Nat.le_of_ble_eq_true rfl)) dL_isKept_101 ⟨Nat.le_of_ble_eq_true rfl, Nat.le_of_ble_eq_true rfl⟩ (fun r H locs hr hP hS => ?_)
  obtain rfl : r = (nI ((pq_c 12) (pm_pl 0 - 1))) := hr
  refine pn_top (y := (nI 0)) (congrArg nI (by decide +kernel)) ?_
  refine lv_istore (lv' := [(6, .int (nI 0)), (5, .int (nI 0)), (4, .int (nI 1)), (3, .int (nI 0)), (2, .int (nI 0)), (0, .ref h0), (1, .int (nI 0))]) hx hb dL_isKept_104 hl (by decide) rfl (fun ls hl => ?_)
  refine lv_iload hx hb dL_isKept_106 (lv_at hl 0 rfl) ?_
  refine pi_if_eq (tgt := 117) (a := (0)) hx hb (by decide +kernel) dL_isKept_108 (by decide) (fun _ => ?_) (fun h9 => absurd h9 (by decide))
  refine lv_iconst (v := (nI 1)) hx hb dL_isKept_117 (by decide) ?_
  refine lv_goto (tgt := 122) hx hb dL_isKept_118 (by decide) ?_
  refine lv_istore (lv' := [(7, .int (nI 1)), (6, .int (nI 0)), (5, .int (nI 0)), (4, .int (nI 1)), (3, .int (nI 0)), (2, .int (nI 0)), (0, .ref h0), (1, .int (nI 0))]) hx hb dL_isKept_122 hl (by decide) rfl (fun ls hl => ?_)
  refine lv_iload_n hx hb dL_isKept_124 rfl (lv_at hl 4 rfl) ?_
  refine lv_iconst (v := (-1 : Int32)) hx hb dL_isKept_125 (by decide) ?_
  refine pi_icmp_ne (tgt := 142) (a := (0)) (b := (-1)) hx hb (by decide +kernel) (by decide +kernel) dL_isKept_126 (by decide) (fun _ => ?_) (fun h9 => absurd h9 (by decide))
  refine lv_iload hx hb dL_isKept_142 (lv_at hl 2 rfl) ?_
  refine lv_iload_n hx hb dL_isKept_144 rfl (lv_at hl 4 rfl) ?_
  refine pi_icmp_ge (tgt := 161) (a := (0)) (b := (0)) hx hb (by decide +kernel) (by decide +kernel) dL_isKept_145 (by decide) (fun _ => ?_) (fun h9 => absurd h9 (by decide))
  refine lv_iload hx hb dL_isKept_161 (lv_at hl 2 rfl) ?_
  refine lv_iload_n hx hb dL_isKept_163 rfl (lv_at hl 4 rfl) ?_
  refine pi_icmp_gt (tgt := 172) (a := (0)) (b := (0)) hx hb (by decide +kernel) (by decide +kernel) dL_isKept_164 (by decide) (fun h9 => absurd h9 (by decide)) (fun _ => ?_)
  refine lv_iload hx hb dL_isKept_167 (lv_at hl 0 rfl) ?_
  refine pi_if_eq (tgt := 176) (a := (1)) hx hb (by decide +kernel) dL_isKept_169 (by decide) (fun h9 => absurd h9 (by decide)) (fun _ => ?_)
  refine lv_iconst (v := (nI 1)) hx hb dL_isKept_172 (by decide) ?_
  refine lv_goto (tgt := 177) hx hb dL_isKept_173 (by decide) ?_
  refine lv_istore (lv' := [(4, .int (nI 1)), (7, .int (nI 1)), (6, .int (nI 0)), (5, .int (nI 0)), (3, .int (nI 0)), (2, .int (nI 0)), (0, .ref h0), (1, .int (nI 0))]) hx hb dL_isKept_177 hl (by decide) rfl (fun ls hl => ?_)
  refine lv_iinc (v := (nI 1)) (lv' := [(5, .int (nI 1)), (4, .int (nI 1)), (7, .int (nI 1)), (6, .int (nI 0)), (3, .int (nI 0)), (2, .int (nI 0)), (0, .ref h0), (1, .int (nI 0))]) hx hb dL_isKept_179 hl (k := 3) rfl (by decide +kernel) (by decide) rfl (fun ls hl => ?_)
  refine lv_goto (tgt := 75) hx hb dL_isKept_182 (by decide) ?_
  refine lv_iload hx hb dL_isKept_75 (lv_at hl 0 rfl) ?_
  refine lv_iload_n hx hb dL_isKept_77 rfl (lv_at hl 7 rfl) ?_
  refine lv_bipush (v := (nI 12)) hx hb dL_isKept_78 (by decide) ?_
  refine lv_iadd hx hb dL_isKept_80 ?_
  refine pn_top (y := (nI 12)) (by decide +kernel) ?_
  refine pi_icmp_ge (tgt := 185) (a := (1)) (b := (12)) hx hb (by decide +kernel) (by decide +kernel) dL_isKept_81 (by decide) (fun h9 => absurd h9 (by decide)) (fun _ => ?_)
  refine lv_iload hx hb dL_isKept_84 (lv_at hl 0 rfl) ?_
  refine lv_aload_n hx hb dL_isKept_86 rfl (lv_at hl 6 rfl) ?_
  refine pz_VR (rest := [.int (nI 1)]) ⟨hx, hb, hml, hown, hts⟩ (k_X0_days l D h0 ac ay ap cyI ts 0 (pq_c 12) pq_z pq_z  ) (cwV 0 hts gL_isKept_X0_days rfl rfl rfl (by decide +kernel) ⟨Nat.le_of_ble_eq_true rfl, Nat.le_of_ble_eq_true rfl⟩) hK hP hD hS hA [0, 1, 2, 3] rfl rfl rfl 0 0 rfl rfl rfl hl.1 rfl (lv_room (Nat.le_of_ble_eq_true rfl)) dL_isKept_87 ⟨Nat.le_of_ble_eq_true rfl, Nat.le_of_ble_eq_true rfl⟩ (fun r H locs hr hP hS => ?_)
  obtain rfl : r = (nI 1095750) := hr
  refine pi_icmp_ge (tgt := 185) (a := (1)) (b := (1095750)) hx hb (by decide +kernel) (by decide +kernel) dL_isKept_90 (by decide) (fun h9 => absurd h9 (by decide)) (fun _ => ?_)
  refine lv_iload hx hb dL_isKept_93 (lv_at hl 1 rfl) ?_
  refine pi_if_eq (tgt := 185) (a := (1)) hx hb (by decide +kernel) dL_isKept_95 (by decide) (fun h9 => absurd h9 (by decide)) (fun _ => ?_)
  refine lv_aload_n hx hb dL_isKept_98 rfl (lv_at hl 6 rfl) ?_
  refine lv_iload hx hb dL_isKept_99 (lv_at hl 0 rfl) ?_
  refine pz_VR (rest := []) ⟨hx, hb, hml, hown, hts⟩ (k_X0_characterOf l D h0 ac ay ap cyI ts 0 (pq_c 12) pq_z pq_z 1 (by first | exact pq_c3 | decide | omega | decide +kernel)) (cwV 1 hts gL_isKept_X0_characterOf rfl rfl rfl (by decide +kernel) ⟨Nat.le_of_ble_eq_true rfl, Nat.le_of_ble_eq_true rfl⟩) hK hP hD hS hA [0, 1, 2, 3] rfl rfl rfl 0 0 rfl rfl rfl hl.1 rfl (lv_room (Nat.le_of_ble_eq_true rfl)) dL_isKept_101 ⟨Nat.le_of_ble_eq_true rfl, Nat.le_of_ble_eq_true rfl⟩ (fun r H locs hr hP hS => ?_)
  obtain rfl : r = (nI ((pq_c 12) (pm_pl 1 - 1))) := hr
  refine pn_top (y := (nI 2)) (congrArg nI (by decide +kernel)) ?_
  refine lv_istore (lv' := [(6, .int (nI 2)), (5, .int (nI 1)), (4, .int (nI 1)), (7, .int (nI 1)), (3, .int (nI 0)), (2, .int (nI 0)), (0, .ref h0), (1, .int (nI 0))]) hx hb dL_isKept_104 hl (by decide) rfl (fun ls hl => ?_)
  refine lv_iload hx hb dL_isKept_106 (lv_at hl 0 rfl) ?_
  refine pi_if_eq (tgt := 117) (a := (2)) hx hb (by decide +kernel) dL_isKept_108 (by decide) (fun h9 => absurd h9 (by decide)) (fun _ => ?_)
  refine lv_iload hx hb dL_isKept_111 (lv_at hl 0 rfl) ?_
  refine lv_iconst (v := (nI 2)) hx hb dL_isKept_113 (by decide) ?_
  refine pi_icmp_ne (tgt := 121) (a := (2)) (b := (2)) hx hb (by decide +kernel) (by decide +kernel) dL_isKept_114 (by decide) (fun h9 => absurd h9 (by decide)) (fun _ => ?_)
  refine lv_iconst (v := (nI 1)) hx hb dL_isKept_117 (by decide) ?_
  refine lv_goto (tgt := 122) hx hb dL_isKept_118 (by decide) ?_
  refine lv_istore (lv' := [(7, .int (nI 1)), (6, .int (nI 2)), (5, .int (nI 1)), (4, .int (nI 1)), (3, .int (nI 0)), (2, .int (nI 0)), (0, .ref h0), (1, .int (nI 0))]) hx hb dL_isKept_122 hl (by decide) rfl (fun ls hl => ?_)
  refine lv_iload_n hx hb dL_isKept_124 rfl (lv_at hl 4 rfl) ?_
  refine lv_iconst (v := (-1 : Int32)) hx hb dL_isKept_125 (by decide) ?_
  refine pi_icmp_ne (tgt := 142) (a := (0)) (b := (-1)) hx hb (by decide +kernel) (by decide +kernel) dL_isKept_126 (by decide) (fun _ => ?_) (fun h9 => absurd h9 (by decide))
  refine lv_iload hx hb dL_isKept_142 (lv_at hl 2 rfl) ?_
  refine lv_iload_n hx hb dL_isKept_144 rfl (lv_at hl 4 rfl) ?_
  refine pi_icmp_ge (tgt := 161) (a := (1)) (b := (0)) hx hb (by decide +kernel) (by decide +kernel) dL_isKept_145 (by decide) (fun _ => ?_) (fun h9 => absurd h9 (by decide))
  refine lv_iload hx hb dL_isKept_161 (lv_at hl 2 rfl) ?_
  refine lv_iload_n hx hb dL_isKept_163 rfl (lv_at hl 4 rfl) ?_
  refine pi_icmp_gt (tgt := 172) (a := (1)) (b := (0)) hx hb (by decide +kernel) (by decide +kernel) dL_isKept_164 (by decide) (fun _ => ?_) (fun h9 => absurd h9 (by decide))
  refine lv_iconst (v := (nI 1)) hx hb dL_isKept_172 (by decide) ?_
  refine lv_goto (tgt := 177) hx hb dL_isKept_173 (by decide) ?_
  refine lv_istore (lv' := [(4, .int (nI 1)), (7, .int (nI 1)), (6, .int (nI 2)), (5, .int (nI 1)), (3, .int (nI 0)), (2, .int (nI 0)), (0, .ref h0), (1, .int (nI 0))]) hx hb dL_isKept_177 hl (by decide) rfl (fun ls hl => ?_)
  refine lv_iinc (v := (nI 2)) (lv' := [(5, .int (nI 2)), (4, .int (nI 1)), (7, .int (nI 1)), (6, .int (nI 2)), (3, .int (nI 0)), (2, .int (nI 0)), (0, .ref h0), (1, .int (nI 0))]) hx hb dL_isKept_179 hl (k := 3) rfl (by decide +kernel) (by decide) rfl (fun ls hl => ?_)
  refine lv_goto (tgt := 75) hx hb dL_isKept_182 (by decide) ?_
  refine lv_iload hx hb dL_isKept_75 (lv_at hl 0 rfl) ?_
  refine lv_iload_n hx hb dL_isKept_77 rfl (lv_at hl 7 rfl) ?_
  refine lv_bipush (v := (nI 12)) hx hb dL_isKept_78 (by decide) ?_
  refine lv_iadd hx hb dL_isKept_80 ?_
  refine pn_top (y := (nI 12)) (by decide +kernel) ?_
  refine pi_icmp_ge (tgt := 185) (a := (2)) (b := (12)) hx hb (by decide +kernel) (by decide +kernel) dL_isKept_81 (by decide) (fun h9 => absurd h9 (by decide)) (fun _ => ?_)
  refine lv_iload hx hb dL_isKept_84 (lv_at hl 0 rfl) ?_
  refine lv_aload_n hx hb dL_isKept_86 rfl (lv_at hl 6 rfl) ?_
  refine pz_VR (rest := [.int (nI 2)]) ⟨hx, hb, hml, hown, hts⟩ (k_X0_days l D h0 ac ay ap cyI ts 0 (pq_c 12) pq_z pq_z  ) (cwV 0 hts gL_isKept_X0_days rfl rfl rfl (by decide +kernel) ⟨Nat.le_of_ble_eq_true rfl, Nat.le_of_ble_eq_true rfl⟩) hK hP hD hS hA [0, 1, 2, 3] rfl rfl rfl 0 0 rfl rfl rfl hl.1 rfl (lv_room (Nat.le_of_ble_eq_true rfl)) dL_isKept_87 ⟨Nat.le_of_ble_eq_true rfl, Nat.le_of_ble_eq_true rfl⟩ (fun r H locs hr hP hS => ?_)
  obtain rfl : r = (nI 1095750) := hr
  refine pi_icmp_ge (tgt := 185) (a := (2)) (b := (1095750)) hx hb (by decide +kernel) (by decide +kernel) dL_isKept_90 (by decide) (fun h9 => absurd h9 (by decide)) (fun _ => ?_)
  refine lv_iload hx hb dL_isKept_93 (lv_at hl 1 rfl) ?_
  refine pi_if_eq (tgt := 185) (a := (1)) hx hb (by decide +kernel) dL_isKept_95 (by decide) (fun h9 => absurd h9 (by decide)) (fun _ => ?_)
  refine lv_aload_n hx hb dL_isKept_98 rfl (lv_at hl 6 rfl) ?_
  refine lv_iload hx hb dL_isKept_99 (lv_at hl 0 rfl) ?_
  refine pz_VR (rest := []) ⟨hx, hb, hml, hown, hts⟩ (k_X0_characterOf l D h0 ac ay ap cyI ts 0 (pq_c 12) pq_z pq_z 2 (by first | exact pq_c3 | decide | omega | decide +kernel)) (cwV 1 hts gL_isKept_X0_characterOf rfl rfl rfl (by decide +kernel) ⟨Nat.le_of_ble_eq_true rfl, Nat.le_of_ble_eq_true rfl⟩) hK hP hD hS hA [0, 1, 2, 3] rfl rfl rfl 0 0 rfl rfl rfl hl.1 rfl (lv_room (Nat.le_of_ble_eq_true rfl)) dL_isKept_101 ⟨Nat.le_of_ble_eq_true rfl, Nat.le_of_ble_eq_true rfl⟩ (fun r H locs hr hP hS => ?_)
  obtain rfl : r = (nI ((pq_c 12) (pm_pl 2 - 1))) := hr
  refine pn_top (y := (nI 2)) (congrArg nI (by decide +kernel)) ?_
  refine lv_istore (lv' := [(6, .int (nI 2)), (5, .int (nI 2)), (4, .int (nI 1)), (7, .int (nI 1)), (3, .int (nI 0)), (2, .int (nI 0)), (0, .ref h0), (1, .int (nI 0))]) hx hb dL_isKept_104 hl (by decide) rfl (fun ls hl => ?_)
  refine lv_iload hx hb dL_isKept_106 (lv_at hl 0 rfl) ?_
  refine pi_if_eq (tgt := 117) (a := (2)) hx hb (by decide +kernel) dL_isKept_108 (by decide) (fun h9 => absurd h9 (by decide)) (fun _ => ?_)
  refine lv_iload hx hb dL_isKept_111 (lv_at hl 0 rfl) ?_
  refine lv_iconst (v := (nI 2)) hx hb dL_isKept_113 (by decide) ?_
  refine pi_icmp_ne (tgt := 121) (a := (2)) (b := (2)) hx hb (by decide +kernel) (by decide +kernel) dL_isKept_114 (by decide) (fun h9 => absurd h9 (by decide)) (fun _ => ?_)
  refine lv_iconst (v := (nI 1)) hx hb dL_isKept_117 (by decide) ?_
  refine lv_goto (tgt := 122) hx hb dL_isKept_118 (by decide) ?_
  refine lv_istore (lv' := [(7, .int (nI 1)), (6, .int (nI 2)), (5, .int (nI 2)), (4, .int (nI 1)), (3, .int (nI 0)), (2, .int (nI 0)), (0, .ref h0), (1, .int (nI 0))]) hx hb dL_isKept_122 hl (by decide) rfl (fun ls hl => ?_)
  refine lv_iload_n hx hb dL_isKept_124 rfl (lv_at hl 4 rfl) ?_
  refine lv_iconst (v := (-1 : Int32)) hx hb dL_isKept_125 (by decide) ?_
  refine pi_icmp_ne (tgt := 142) (a := (0)) (b := (-1)) hx hb (by decide +kernel) (by decide +kernel) dL_isKept_126 (by decide) (fun _ => ?_) (fun h9 => absurd h9 (by decide))
  refine lv_iload hx hb dL_isKept_142 (lv_at hl 2 rfl) ?_
  refine lv_iload_n hx hb dL_isKept_144 rfl (lv_at hl 4 rfl) ?_
  refine pi_icmp_ge (tgt := 161) (a := (2)) (b := (0)) hx hb (by decide +kernel) (by decide +kernel) dL_isKept_145 (by decide) (fun _ => ?_) (fun h9 => absurd h9 (by decide))
  refine lv_iload hx hb dL_isKept_161 (lv_at hl 2 rfl) ?_
  refine lv_iload_n hx hb dL_isKept_163 rfl (lv_at hl 4 rfl) ?_
  refine pi_icmp_gt (tgt := 172) (a := (2)) (b := (0)) hx hb (by decide +kernel) (by decide +kernel) dL_isKept_164 (by decide) (fun _ => ?_) (fun h9 => absurd h9 (by decide))
  refine lv_iconst (v := (nI 1)) hx hb dL_isKept_172 (by decide) ?_
  refine lv_goto (tgt := 177) hx hb dL_isKept_173 (by decide) ?_
  refine lv_istore (lv' := [(4, .int (nI 1)), (7, .int (nI 1)), (6, .int (nI 2)), (5, .int (nI 2)), (3, .int (nI 0)), (2, .int (nI 0)), (0, .ref h0), (1, .int (nI 0))]) hx hb dL_isKept_177 hl (by decide) rfl (fun ls hl => ?_)
  refine lv_iinc (v := (nI 3)) (lv' := [(5, .int (nI 3)), (4, .int (nI 1)), (7, .int (nI 1)), (6, .int (nI 2)), (3, .int (nI 0)), (2, .int (nI 0)), (0, .ref h0), (1, .int (nI 0))]) hx hb dL_isKept_179 hl (k := 3) rfl (by decide +kernel) (by decide) rfl (fun ls hl => ?_)
  refine lv_goto (tgt := 75) hx hb dL_isKept_182 (by decide) ?_
  refine lv_iload hx hb dL_isKept_75 (lv_at hl 0 rfl) ?_
  refine lv_iload_n hx hb dL_isKept_77 rfl (lv_at hl 7 rfl) ?_
  refine lv_bipush (v := (nI 12)) hx hb dL_isKept_78 (by decide) ?_
  refine lv_iadd hx hb dL_isKept_80 ?_
  refine pn_top (y := (nI 12)) (by decide +kernel) ?_
  refine pi_icmp_ge (tgt := 185) (a := (3)) (b := (12)) hx hb (by decide +kernel) (by decide +kernel) dL_isKept_81 (by decide) (fun h9 => absurd h9 (by decide)) (fun _ => ?_)
  refine lv_iload hx hb dL_isKept_84 (lv_at hl 0 rfl) ?_
  refine lv_aload_n hx hb dL_isKept_86 rfl (lv_at hl 6 rfl) ?_
  refine pz_VR (rest := [.int (nI 3)]) ⟨hx, hb, hml, hown, hts⟩ (k_X0_days l D h0 ac ay ap cyI ts 0 (pq_c 12) pq_z pq_z  ) (cwV 0 hts gL_isKept_X0_days rfl rfl rfl (by decide +kernel) ⟨Nat.le_of_ble_eq_true rfl, Nat.le_of_ble_eq_true rfl⟩) hK hP hD hS hA [0, 1, 2, 3] rfl rfl rfl 0 0 rfl rfl rfl hl.1 rfl (lv_room (Nat.le_of_ble_eq_true rfl)) dL_isKept_87 ⟨Nat.le_of_ble_eq_true rfl, Nat.le_of_ble_eq_true rfl⟩ (fun r H locs hr hP hS => ?_)
  obtain rfl : r = (nI 1095750) := hr
  refine pi_icmp_ge (tgt := 185) (a := (3)) (b := (1095750)) hx hb (by decide +kernel) (by decide +kernel) dL_isKept_90 (by decide) (fun h9 => absurd h9 (by decide)) (fun _ => ?_)
  refine lv_iload hx hb dL_isKept_93 (lv_at hl 1 rfl) ?_
  refine pi_if_eq (tgt := 185) (a := (1)) hx hb (by decide +kernel) dL_isKept_95 (by decide) (fun h9 => absurd h9 (by decide)) (fun _ => ?_)
  refine lv_aload_n hx hb dL_isKept_98 rfl (lv_at hl 6 rfl) ?_
  refine lv_iload hx hb dL_isKept_99 (lv_at hl 0 rfl) ?_
  refine pz_VR (rest := []) ⟨hx, hb, hml, hown, hts⟩ (k_X0_characterOf l D h0 ac ay ap cyI ts 0 (pq_c 12) pq_z pq_z 3 (by first | exact pq_c3 | decide | omega | decide +kernel)) (cwV 1 hts gL_isKept_X0_characterOf rfl rfl rfl (by decide +kernel) ⟨Nat.le_of_ble_eq_true rfl, Nat.le_of_ble_eq_true rfl⟩) hK hP hD hS hA [0, 1, 2, 3] rfl rfl rfl 0 0 rfl rfl rfl hl.1 rfl (lv_room (Nat.le_of_ble_eq_true rfl)) dL_isKept_101 ⟨Nat.le_of_ble_eq_true rfl, Nat.le_of_ble_eq_true rfl⟩ (fun r H locs hr hP hS => ?_)
  obtain rfl : r = (nI ((pq_c 12) (pm_pl 3 - 1))) := hr
  refine pn_top (y := (nI 2)) (congrArg nI (by decide +kernel)) ?_
  refine lv_istore (lv' := [(6, .int (nI 2)), (5, .int (nI 3)), (4, .int (nI 1)), (7, .int (nI 1)), (3, .int (nI 0)), (2, .int (nI 0)), (0, .ref h0), (1, .int (nI 0))]) hx hb dL_isKept_104 hl (by decide) rfl (fun ls hl => ?_)
  refine lv_iload hx hb dL_isKept_106 (lv_at hl 0 rfl) ?_
  refine pi_if_eq (tgt := 117) (a := (2)) hx hb (by decide +kernel) dL_isKept_108 (by decide) (fun h9 => absurd h9 (by decide)) (fun _ => ?_)
  refine lv_iload hx hb dL_isKept_111 (lv_at hl 0 rfl) ?_
  refine lv_iconst (v := (nI 2)) hx hb dL_isKept_113 (by decide) ?_
  refine pi_icmp_ne (tgt := 121) (a := (2)) (b := (2)) hx hb (by decide +kernel) (by decide +kernel) dL_isKept_114 (by decide) (fun h9 => absurd h9 (by decide)) (fun _ => ?_)
  refine lv_iconst (v := (nI 1)) hx hb dL_isKept_117 (by decide) ?_
  refine lv_goto (tgt := 122) hx hb dL_isKept_118 (by decide) ?_
  refine lv_istore (lv' := [(7, .int (nI 1)), (6, .int (nI 2)), (5, .int (nI 3)), (4, .int (nI 1)), (3, .int (nI 0)), (2, .int (nI 0)), (0, .ref h0), (1, .int (nI 0))]) hx hb dL_isKept_122 hl (by decide) rfl (fun ls hl => ?_)
  refine lv_iload_n hx hb dL_isKept_124 rfl (lv_at hl 4 rfl) ?_
  refine lv_iconst (v := (-1 : Int32)) hx hb dL_isKept_125 (by decide) ?_
  refine pi_icmp_ne (tgt := 142) (a := (0)) (b := (-1)) hx hb (by decide +kernel) (by decide +kernel) dL_isKept_126 (by decide) (fun _ => ?_) (fun h9 => absurd h9 (by decide))
  refine lv_iload hx hb dL_isKept_142 (lv_at hl 2 rfl) ?_
  refine lv_iload_n hx hb dL_isKept_144 rfl (lv_at hl 4 rfl) ?_
  refine pi_icmp_ge (tgt := 161) (a := (3)) (b := (0)) hx hb (by decide +kernel) (by decide +kernel) dL_isKept_145 (by decide) (fun _ => ?_) (fun h9 => absurd h9 (by decide))
  refine lv_iload hx hb dL_isKept_161 (lv_at hl 2 rfl) ?_
  refine lv_iload_n hx hb dL_isKept_163 rfl (lv_at hl 4 rfl) ?_
  refine pi_icmp_gt (tgt := 172) (a := (3)) (b := (0)) hx hb (by decide +kernel) (by decide +kernel) dL_isKept_164 (by decide) (fun _ => ?_) (fun h9 => absurd h9 (by decide))
  refine lv_iconst (v := (nI 1)) hx hb dL_isKept_172 (by decide) ?_
  refine lv_goto (tgt := 177) hx hb dL_isKept_173 (by decide) ?_
  refine lv_istore (lv' := [(4, .int (nI 1)), (7, .int (nI 1)), (6, .int (nI 2)), (5, .int (nI 3)), (3, .int (nI 0)), (2, .int (nI 0)), (0, .ref h0), (1, .int (nI 0))]) hx hb dL_isKept_177 hl (by decide) rfl (fun ls hl => ?_)
  refine lv_iinc (v := (nI 4)) (lv' := [(5, .int (nI 4)), (4, .int (nI 1)), (7, .int (nI 1)), (6, .int (nI 2)), (3, .int (nI 0)), (2, .int (nI 0)), (0, .ref h0), (1, .int (nI 0))]) hx hb dL_isKept_179 hl (k := 3) rfl (by decide +kernel) (by decide) rfl (fun ls hl => ?_)
  refine lv_goto (tgt := 75) hx hb dL_isKept_182 (by decide) ?_
  refine lv_iload hx hb dL_isKept_75 (lv_at hl 0 rfl) ?_
  refine lv_iload_n hx hb dL_isKept_77 rfl (lv_at hl 7 rfl) ?_
  refine lv_bipush (v := (nI 12)) hx hb dL_isKept_78 (by decide) ?_
  refine lv_iadd hx hb dL_isKept_80 ?_
  refine pn_top (y := (nI 12)) (by decide +kernel) ?_
  refine pi_icmp_ge (tgt := 185) (a := (4)) (b := (12)) hx hb (by decide +kernel) (by decide +kernel) dL_isKept_81 (by decide) (fun h9 => absurd h9 (by decide)) (fun _ => ?_)
  refine lv_iload hx hb dL_isKept_84 (lv_at hl 0 rfl) ?_
  refine lv_aload_n hx hb dL_isKept_86 rfl (lv_at hl 6 rfl) ?_
  refine pz_VR (rest := [.int (nI 4)]) ⟨hx, hb, hml, hown, hts⟩ (k_X0_days l D h0 ac ay ap cyI ts 0 (pq_c 12) pq_z pq_z  ) (cwV 0 hts gL_isKept_X0_days rfl rfl rfl (by decide +kernel) ⟨Nat.le_of_ble_eq_true rfl, Nat.le_of_ble_eq_true rfl⟩) hK hP hD hS hA [0, 1, 2, 3] rfl rfl rfl 0 0 rfl rfl rfl hl.1 rfl (lv_room (Nat.le_of_ble_eq_true rfl)) dL_isKept_87 ⟨Nat.le_of_ble_eq_true rfl, Nat.le_of_ble_eq_true rfl⟩ (fun r H locs hr hP hS => ?_)
  obtain rfl : r = (nI 1095750) := hr
  refine pi_icmp_ge (tgt := 185) (a := (4)) (b := (1095750)) hx hb (by decide +kernel) (by decide +kernel) dL_isKept_90 (by decide) (fun h9 => absurd h9 (by decide)) (fun _ => ?_)
  refine lv_iload hx hb dL_isKept_93 (lv_at hl 1 rfl) ?_
  refine pi_if_eq (tgt := 185) (a := (1)) hx hb (by decide +kernel) dL_isKept_95 (by decide) (fun h9 => absurd h9 (by decide)) (fun _ => ?_)
  refine lv_aload_n hx hb dL_isKept_98 rfl (lv_at hl 6 rfl) ?_
  refine lv_iload hx hb dL_isKept_99 (lv_at hl 0 rfl) ?_
  refine pz_VR (rest := []) ⟨hx, hb, hml, hown, hts⟩ (k_X0_characterOf l D h0 ac ay ap cyI ts 0 (pq_c 12) pq_z pq_z 4 (by first | exact pq_c3 | decide | omega | decide +kernel)) (cwV 1 hts gL_isKept_X0_characterOf rfl rfl rfl (by decide +kernel) ⟨Nat.le_of_ble_eq_true rfl, Nat.le_of_ble_eq_true rfl⟩) hK hP hD hS hA [0, 1, 2, 3] rfl rfl rfl 0 0 rfl rfl rfl hl.1 rfl (lv_room (Nat.le_of_ble_eq_true rfl)) dL_isKept_101 ⟨Nat.le_of_ble_eq_true rfl, Nat.le_of_ble_eq_true rfl⟩ (fun r H locs hr hP hS => ?_)
  obtain rfl : r = (nI ((pq_c 12) (pm_pl 4 - 1))) := hr
  refine pn_top (y := (nI 0)) (congrArg nI (by decide +kernel)) ?_
  refine lv_istore (lv' := [(6, .int (nI 0)), (5, .int (nI 4)), (4, .int (nI 1)), (7, .int (nI 1)), (3, .int (nI 0)), (2, .int (nI 0)), (0, .ref h0), (1, .int (nI 0))]) hx hb dL_isKept_104 hl (by decide) rfl (fun ls hl => ?_)
  refine lv_iload hx hb dL_isKept_106 (lv_at hl 0 rfl) ?_
  refine pi_if_eq (tgt := 117) (a := (0)) hx hb (by decide +kernel) dL_isKept_108 (by decide) (fun _ => ?_) (fun h9 => absurd h9 (by decide))
  refine lv_iconst (v := (nI 1)) hx hb dL_isKept_117 (by decide) ?_
  refine lv_goto (tgt := 122) hx hb dL_isKept_118 (by decide) ?_
  refine lv_istore (lv' := [(7, .int (nI 1)), (6, .int (nI 0)), (5, .int (nI 4)), (4, .int (nI 1)), (3, .int (nI 0)), (2, .int (nI 0)), (0, .ref h0), (1, .int (nI 0))]) hx hb dL_isKept_122 hl (by decide) rfl (fun ls hl => ?_)
  refine lv_iload_n hx hb dL_isKept_124 rfl (lv_at hl 4 rfl) ?_
  refine lv_iconst (v := (-1 : Int32)) hx hb dL_isKept_125 (by decide) ?_
  refine pi_icmp_ne (tgt := 142) (a := (0)) (b := (-1)) hx hb (by decide +kernel) (by decide +kernel) dL_isKept_126 (by decide) (fun _ => ?_) (fun h9 => absurd h9 (by decide))
  refine lv_iload hx hb dL_isKept_142 (lv_at hl 2 rfl) ?_
  refine lv_iload_n hx hb dL_isKept_144 rfl (lv_at hl 4 rfl) ?_
  refine pi_icmp_ge (tgt := 161) (a := (4)) (b := (0)) hx hb (by decide +kernel) (by decide +kernel) dL_isKept_145 (by decide) (fun _ => ?_) (fun h9 => absurd h9 (by decide))
  refine lv_iload hx hb dL_isKept_161 (lv_at hl 2 rfl) ?_
  refine lv_iload_n hx hb dL_isKept_163 rfl (lv_at hl 4 rfl) ?_
  refine pi_icmp_gt (tgt := 172) (a := (4)) (b := (0)) hx hb (by decide +kernel) (by decide +kernel) dL_isKept_164 (by decide) (fun _ => ?_) (fun h9 => absurd h9 (by decide))
  refine lv_iconst (v := (nI 1)) hx hb dL_isKept_172 (by decide) ?_
  refine lv_goto (tgt := 177) hx hb dL_isKept_173 (by decide) ?_
  refine lv_istore (lv' := [(4, .int (nI 1)), (7, .int (nI 1)), (6, .int (nI 0)), (5, .int (nI 4)), (3, .int (nI 0)), (2, .int (nI 0)), (0, .ref h0), (1, .int (nI 0))]) hx hb dL_isKept_177 hl (by decide) rfl (fun ls hl => ?_)
  refine lv_iinc (v := (nI 5)) (lv' := [(5, .int (nI 5)), (4, .int (nI 1)), (7, .int (nI 1)), (6, .int (nI 0)), (3, .int (nI 0)), (2, .int (nI 0)), (0, .ref h0), (1, .int (nI 0))]) hx hb dL_isKept_179 hl (k := 3) rfl (by decide +kernel) (by decide) rfl (fun ls hl => ?_)
  refine lv_goto (tgt := 75) hx hb dL_isKept_182 (by decide) ?_
  refine lv_iload hx hb dL_isKept_75 (lv_at hl 0 rfl) ?_
  refine lv_iload_n hx hb dL_isKept_77 rfl (lv_at hl 7 rfl) ?_
  refine lv_bipush (v := (nI 12)) hx hb dL_isKept_78 (by decide) ?_
  refine lv_iadd hx hb dL_isKept_80 ?_
  refine pn_top (y := (nI 12)) (by decide +kernel) ?_
  refine pi_icmp_ge (tgt := 185) (a := (5)) (b := (12)) hx hb (by decide +kernel) (by decide +kernel) dL_isKept_81 (by decide) (fun h9 => absurd h9 (by decide)) (fun _ => ?_)
  refine lv_iload hx hb dL_isKept_84 (lv_at hl 0 rfl) ?_
  refine lv_aload_n hx hb dL_isKept_86 rfl (lv_at hl 6 rfl) ?_
  refine pz_VR (rest := [.int (nI 5)]) ⟨hx, hb, hml, hown, hts⟩ (k_X0_days l D h0 ac ay ap cyI ts 0 (pq_c 12) pq_z pq_z  ) (cwV 0 hts gL_isKept_X0_days rfl rfl rfl (by decide +kernel) ⟨Nat.le_of_ble_eq_true rfl, Nat.le_of_ble_eq_true rfl⟩) hK hP hD hS hA [0, 1, 2, 3] rfl rfl rfl 0 0 rfl rfl rfl hl.1 rfl (lv_room (Nat.le_of_ble_eq_true rfl)) dL_isKept_87 ⟨Nat.le_of_ble_eq_true rfl, Nat.le_of_ble_eq_true rfl⟩ (fun r H locs hr hP hS => ?_)
  obtain rfl : r = (nI 1095750) := hr
  refine pi_icmp_ge (tgt := 185) (a := (5)) (b := (1095750)) hx hb (by decide +kernel) (by decide +kernel) dL_isKept_90 (by decide) (fun h9 => absurd h9 (by decide)) (fun _ => ?_)
  refine lv_iload hx hb dL_isKept_93 (lv_at hl 1 rfl) ?_
  refine pi_if_eq (tgt := 185) (a := (1)) hx hb (by decide +kernel) dL_isKept_95 (by decide) (fun h9 => absurd h9 (by decide)) (fun _ => ?_)
  refine lv_aload_n hx hb dL_isKept_98 rfl (lv_at hl 6 rfl) ?_
  refine lv_iload hx hb dL_isKept_99 (lv_at hl 0 rfl) ?_
  refine pz_VR (rest := []) ⟨hx, hb, hml, hown, hts⟩ (k_X0_characterOf l D h0 ac ay ap cyI ts 0 (pq_c 12) pq_z pq_z 5 (by first | exact pq_c3 | decide | omega | decide +kernel)) (cwV 1 hts gL_isKept_X0_characterOf rfl rfl rfl (by decide +kernel) ⟨Nat.le_of_ble_eq_true rfl, Nat.le_of_ble_eq_true rfl⟩) hK hP hD hS hA [0, 1, 2, 3] rfl rfl rfl 0 0 rfl rfl rfl hl.1 rfl (lv_room (Nat.le_of_ble_eq_true rfl)) dL_isKept_101 ⟨Nat.le_of_ble_eq_true rfl, Nat.le_of_ble_eq_true rfl⟩ (fun r H locs hr hP hS => ?_)
  obtain rfl : r = (nI ((pq_c 12) (pm_pl 5 - 1))) := hr
  refine pn_top (y := (nI 2)) (congrArg nI (by decide +kernel)) ?_
  refine lv_istore (lv' := [(6, .int (nI 2)), (5, .int (nI 5)), (4, .int (nI 1)), (7, .int (nI 1)), (3, .int (nI 0)), (2, .int (nI 0)), (0, .ref h0), (1, .int (nI 0))]) hx hb dL_isKept_104 hl (by decide) rfl (fun ls hl => ?_)
  refine lv_iload hx hb dL_isKept_106 (lv_at hl 0 rfl) ?_
  refine pi_if_eq (tgt := 117) (a := (2)) hx hb (by decide +kernel) dL_isKept_108 (by decide) (fun h9 => absurd h9 (by decide)) (fun _ => ?_)
  refine lv_iload hx hb dL_isKept_111 (lv_at hl 0 rfl) ?_
  refine lv_iconst (v := (nI 2)) hx hb dL_isKept_113 (by decide) ?_
  refine pi_icmp_ne (tgt := 121) (a := (2)) (b := (2)) hx hb (by decide +kernel) (by decide +kernel) dL_isKept_114 (by decide) (fun h9 => absurd h9 (by decide)) (fun _ => ?_)
  refine lv_iconst (v := (nI 1)) hx hb dL_isKept_117 (by decide) ?_
  refine lv_goto (tgt := 122) hx hb dL_isKept_118 (by decide) ?_
  refine lv_istore (lv' := [(7, .int (nI 1)), (6, .int (nI 2)), (5, .int (nI 5)), (4, .int (nI 1)), (3, .int (nI 0)), (2, .int (nI 0)), (0, .ref h0), (1, .int (nI 0))]) hx hb dL_isKept_122 hl (by decide) rfl (fun ls hl => ?_)
  refine lv_iload_n hx hb dL_isKept_124 rfl (lv_at hl 4 rfl) ?_
  refine lv_iconst (v := (-1 : Int32)) hx hb dL_isKept_125 (by decide) ?_
  refine pi_icmp_ne (tgt := 142) (a := (0)) (b := (-1)) hx hb (by decide +kernel) (by decide +kernel) dL_isKept_126 (by decide) (fun _ => ?_) (fun h9 => absurd h9 (by decide))
  refine lv_iload hx hb dL_isKept_142 (lv_at hl 2 rfl) ?_
  refine lv_iload_n hx hb dL_isKept_144 rfl (lv_at hl 4 rfl) ?_
  refine pi_icmp_ge (tgt := 161) (a := (5)) (b := (0)) hx hb (by decide +kernel) (by decide +kernel) dL_isKept_145 (by decide) (fun _ => ?_) (fun h9 => absurd h9 (by decide))
  refine lv_iload hx hb dL_isKept_161 (lv_at hl 2 rfl) ?_
  refine lv_iload_n hx hb dL_isKept_163 rfl (lv_at hl 4 rfl) ?_
  refine pi_icmp_gt (tgt := 172) (a := (5)) (b := (0)) hx hb (by decide +kernel) (by decide +kernel) dL_isKept_164 (by decide) (fun _ => ?_) (fun h9 => absurd h9 (by decide))
  refine lv_iconst (v := (nI 1)) hx hb dL_isKept_172 (by decide) ?_
  refine lv_goto (tgt := 177) hx hb dL_isKept_173 (by decide) ?_
  refine lv_istore (lv' := [(4, .int (nI 1)), (7, .int (nI 1)), (6, .int (nI 2)), (5, .int (nI 5)), (3, .int (nI 0)), (2, .int (nI 0)), (0, .ref h0), (1, .int (nI 0))]) hx hb dL_isKept_177 hl (by decide) rfl (fun ls hl => ?_)
  refine lv_iinc (v := (nI 6)) (lv' := [(5, .int (nI 6)), (4, .int (nI 1)), (7, .int (nI 1)), (6, .int (nI 2)), (3, .int (nI 0)), (2, .int (nI 0)), (0, .ref h0), (1, .int (nI 0))]) hx hb dL_isKept_179 hl (k := 3) rfl (by decide +kernel) (by decide) rfl (fun ls hl => ?_)
  refine lv_goto (tgt := 75) hx hb dL_isKept_182 (by decide) ?_
  refine lv_iload hx hb dL_isKept_75 (lv_at hl 0 rfl) ?_
  refine lv_iload_n hx hb dL_isKept_77 rfl (lv_at hl 7 rfl) ?_
  refine lv_bipush (v := (nI 12)) hx hb dL_isKept_78 (by decide) ?_
  refine lv_iadd hx hb dL_isKept_80 ?_
  refine pn_top (y := (nI 12)) (by decide +kernel) ?_
  refine pi_icmp_ge (tgt := 185) (a := (6)) (b := (12)) hx hb (by decide +kernel) (by decide +kernel) dL_isKept_81 (by decide) (fun h9 => absurd h9 (by decide)) (fun _ => ?_)
  refine lv_iload hx hb dL_isKept_84 (lv_at hl 0 rfl) ?_
  refine lv_aload_n hx hb dL_isKept_86 rfl (lv_at hl 6 rfl) ?_
  refine pz_VR (rest := [.int (nI 6)]) ⟨hx, hb, hml, hown, hts⟩ (k_X0_days l D h0 ac ay ap cyI ts 0 (pq_c 12) pq_z pq_z  ) (cwV 0 hts gL_isKept_X0_days rfl rfl rfl (by decide +kernel) ⟨Nat.le_of_ble_eq_true rfl, Nat.le_of_ble_eq_true rfl⟩) hK hP hD hS hA [0, 1, 2, 3] rfl rfl rfl 0 0 rfl rfl rfl hl.1 rfl (lv_room (Nat.le_of_ble_eq_true rfl)) dL_isKept_87 ⟨Nat.le_of_ble_eq_true rfl, Nat.le_of_ble_eq_true rfl⟩ (fun r H locs hr hP hS => ?_)
  obtain rfl : r = (nI 1095750) := hr
  refine pi_icmp_ge (tgt := 185) (a := (6)) (b := (1095750)) hx hb (by decide +kernel) (by decide +kernel) dL_isKept_90 (by decide) (fun h9 => absurd h9 (by decide)) (fun _ => ?_)
  refine lv_iload hx hb dL_isKept_93 (lv_at hl 1 rfl) ?_
  refine pi_if_eq (tgt := 185) (a := (1)) hx hb (by decide +kernel) dL_isKept_95 (by decide) (fun h9 => absurd h9 (by decide)) (fun _ => ?_)
  refine lv_aload_n hx hb dL_isKept_98 rfl (lv_at hl 6 rfl) ?_
  refine lv_iload hx hb dL_isKept_99 (lv_at hl 0 rfl) ?_
  refine pz_VR (rest := []) ⟨hx, hb, hml, hown, hts⟩ (k_X0_characterOf l D h0 ac ay ap cyI ts 0 (pq_c 12) pq_z pq_z 6 (by first | exact pq_c3 | decide | omega | decide +kernel)) (cwV 1 hts gL_isKept_X0_characterOf rfl rfl rfl (by decide +kernel) ⟨Nat.le_of_ble_eq_true rfl, Nat.le_of_ble_eq_true rfl⟩) hK hP hD hS hA [0, 1, 2, 3] rfl rfl rfl 0 0 rfl rfl rfl hl.1 rfl (lv_room (Nat.le_of_ble_eq_true rfl)) dL_isKept_101 ⟨Nat.le_of_ble_eq_true rfl, Nat.le_of_ble_eq_true rfl⟩ (fun r H locs hr hP hS => ?_)
  obtain rfl : r = (nI ((pq_c 12) (pm_pl 6 - 1))) := hr
  refine pn_top (y := (nI 2)) (congrArg nI (by decide +kernel)) ?_
  refine lv_istore (lv' := [(6, .int (nI 2)), (5, .int (nI 6)), (4, .int (nI 1)), (7, .int (nI 1)), (3, .int (nI 0)), (2, .int (nI 0)), (0, .ref h0), (1, .int (nI 0))]) hx hb dL_isKept_104 hl (by decide) rfl (fun ls hl => ?_)
  refine lv_iload hx hb dL_isKept_106 (lv_at hl 0 rfl) ?_
  refine pi_if_eq (tgt := 117) (a := (2)) hx hb (by decide +kernel) dL_isKept_108 (by decide) (fun h9 => absurd h9 (by decide)) (fun _ => ?_)
  refine lv_iload hx hb dL_isKept_111 (lv_at hl 0 rfl) ?_
  refine lv_iconst (v := (nI 2)) hx hb dL_isKept_113 (by decide) ?_
  refine pi_icmp_ne (tgt := 121) (a := (2)) (b := (2)) hx hb (by decide +kernel) (by decide +kernel) dL_isKept_114 (by decide) (fun h9 => absurd h9 (by decide)) (fun _ => ?_)
  refine lv_iconst (v := (nI 1)) hx hb dL_isKept_117 (by decide) ?_
  refine lv_goto (tgt := 122) hx hb dL_isKept_118 (by decide) ?_
  refine lv_istore (lv' := [(7, .int (nI 1)), (6, .int (nI 2)), (5, .int (nI 6)), (4, .int (nI 1)), (3, .int (nI 0)), (2, .int (nI 0)), (0, .ref h0), (1, .int (nI 0))]) hx hb dL_isKept_122 hl (by decide) rfl (fun ls hl => ?_)
  refine lv_iload_n hx hb dL_isKept_124 rfl (lv_at hl 4 rfl) ?_
  refine lv_iconst (v := (-1 : Int32)) hx hb dL_isKept_125 (by decide) ?_
  refine pi_icmp_ne (tgt := 142) (a := (0)) (b := (-1)) hx hb (by decide +kernel) (by decide +kernel) dL_isKept_126 (by decide) (fun _ => ?_) (fun h9 => absurd h9 (by decide))
  refine lv_iload hx hb dL_isKept_142 (lv_at hl 2 rfl) ?_
  refine lv_iload_n hx hb dL_isKept_144 rfl (lv_at hl 4 rfl) ?_
  refine pi_icmp_ge (tgt := 161) (a := (6)) (b := (0)) hx hb (by decide +kernel) (by decide +kernel) dL_isKept_145 (by decide) (fun _ => ?_) (fun h9 => absurd h9 (by decide))
  refine lv_iload hx hb dL_isKept_161 (lv_at hl 2 rfl) ?_
  refine lv_iload_n hx hb dL_isKept_163 rfl (lv_at hl 4 rfl) ?_
  refine pi_icmp_gt (tgt := 172) (a := (6)) (b := (0)) hx hb (by decide +kernel) (by decide +kernel) dL_isKept_164 (by decide) (fun _ => ?_) (fun h9 => absurd h9 (by decide))
  refine lv_iconst (v := (nI 1)) hx hb dL_isKept_172 (by decide) ?_
  refine lv_goto (tgt := 177) hx hb dL_isKept_173 (by decide) ?_
  refine lv_istore (lv' := [(4, .int (nI 1)), (7, .int (nI 1)), (6, .int (nI 2)), (5, .int (nI 6)), (3, .int (nI 0)), (2, .int (nI 0)), (0, .ref h0), (1, .int (nI 0))]) hx hb dL_isKept_177 hl (by decide) rfl (fun ls hl => ?_)
  refine lv_iinc (v := (nI 7)) (lv' := [(5, .int (nI 7)), (4, .int (nI 1)), (7, .int (nI 1)), (6, .int (nI 2)), (3, .int (nI 0)), (2, .int (nI 0)), (0, .ref h0), (1, .int (nI 0))]) hx hb dL_isKept_179 hl (k := 3) rfl (by decide +kernel) (by decide) rfl (fun ls hl => ?_)
  refine lv_goto (tgt := 75) hx hb dL_isKept_182 (by decide) ?_
  refine lv_iload hx hb dL_isKept_75 (lv_at hl 0 rfl) ?_
  refine lv_iload_n hx hb dL_isKept_77 rfl (lv_at hl 7 rfl) ?_
  refine lv_bipush (v := (nI 12)) hx hb dL_isKept_78 (by decide) ?_
  refine lv_iadd hx hb dL_isKept_80 ?_
  refine pn_top (y := (nI 12)) (by decide +kernel) ?_
  refine pi_icmp_ge (tgt := 185) (a := (7)) (b := (12)) hx hb (by decide +kernel) (by decide +kernel) dL_isKept_81 (by decide) (fun h9 => absurd h9 (by decide)) (fun _ => ?_)
  refine lv_iload hx hb dL_isKept_84 (lv_at hl 0 rfl) ?_
  refine lv_aload_n hx hb dL_isKept_86 rfl (lv_at hl 6 rfl) ?_
  refine pz_VR (rest := [.int (nI 7)]) ⟨hx, hb, hml, hown, hts⟩ (k_X0_days l D h0 ac ay ap cyI ts 0 (pq_c 12) pq_z pq_z  ) (cwV 0 hts gL_isKept_X0_days rfl rfl rfl (by decide +kernel) ⟨Nat.le_of_ble_eq_true rfl, Nat.le_of_ble_eq_true rfl⟩) hK hP hD hS hA [0, 1, 2, 3] rfl rfl rfl 0 0 rfl rfl rfl hl.1 rfl (lv_room (Nat.le_of_ble_eq_true rfl)) dL_isKept_87 ⟨Nat.le_of_ble_eq_true rfl, Nat.le_of_ble_eq_true rfl⟩ (fun r H locs hr hP hS => ?_)
  obtain rfl : r = (nI 1095750) := hr
  refine pi_icmp_ge (tgt := 185) (a := (7)) (b := (1095750)) hx hb (by decide +kernel) (by decide +kernel) dL_isKept_90 (by decide) (fun h9 => absurd h9 (by decide)) (fun _ => ?_)
  refine lv_iload hx hb dL_isKept_93 (lv_at hl 1 rfl) ?_
  refine pi_if_eq (tgt := 185) (a := (1)) hx hb (by decide +kernel) dL_isKept_95 (by decide) (fun h9 => absurd h9 (by decide)) (fun _ => ?_)
  refine lv_aload_n hx hb dL_isKept_98 rfl (lv_at hl 6 rfl) ?_
  refine lv_iload hx hb dL_isKept_99 (lv_at hl 0 rfl) ?_
  refine pz_VR (rest := []) ⟨hx, hb, hml, hown, hts⟩ (k_X0_characterOf l D h0 ac ay ap cyI ts 0 (pq_c 12) pq_z pq_z 7 (by first | exact pq_c3 | decide | omega | decide +kernel)) (cwV 1 hts gL_isKept_X0_characterOf rfl rfl rfl (by decide +kernel) ⟨Nat.le_of_ble_eq_true rfl, Nat.le_of_ble_eq_true rfl⟩) hK hP hD hS hA [0, 1, 2, 3] rfl rfl rfl 0 0 rfl rfl rfl hl.1 rfl (lv_room (Nat.le_of_ble_eq_true rfl)) dL_isKept_101 ⟨Nat.le_of_ble_eq_true rfl, Nat.le_of_ble_eq_true rfl⟩ (fun r H locs hr hP hS => ?_)
  obtain rfl : r = (nI ((pq_c 12) (pm_pl 7 - 1))) := hr
  refine pn_top (y := (nI 2)) (congrArg nI (by decide +kernel)) ?_
  refine lv_istore (lv' := [(6, .int (nI 2)), (5, .int (nI 7)), (4, .int (nI 1)), (7, .int (nI 1)), (3, .int (nI 0)), (2, .int (nI 0)), (0, .ref h0), (1, .int (nI 0))]) hx hb dL_isKept_104 hl (by decide) rfl (fun ls hl => ?_)
  refine lv_iload hx hb dL_isKept_106 (lv_at hl 0 rfl) ?_
  refine pi_if_eq (tgt := 117) (a := (2)) hx hb (by decide +kernel) dL_isKept_108 (by decide) (fun h9 => absurd h9 (by decide)) (fun _ => ?_)
  refine lv_iload hx hb dL_isKept_111 (lv_at hl 0 rfl) ?_
  refine lv_iconst (v := (nI 2)) hx hb dL_isKept_113 (by decide) ?_
  refine pi_icmp_ne (tgt := 121) (a := (2)) (b := (2)) hx hb (by decide +kernel) (by decide +kernel) dL_isKept_114 (by decide) (fun h9 => absurd h9 (by decide)) (fun _ => ?_)
  refine lv_iconst (v := (nI 1)) hx hb dL_isKept_117 (by decide) ?_
  refine lv_goto (tgt := 122) hx hb dL_isKept_118 (by decide) ?_
  refine lv_istore (lv' := [(7, .int (nI 1)), (6, .int (nI 2)), (5, .int (nI 7)), (4, .int (nI 1)), (3, .int (nI 0)), (2, .int (nI 0)), (0, .ref h0), (1, .int (nI 0))]) hx hb dL_isKept_122 hl (by decide) rfl (fun ls hl => ?_)
  refine lv_iload_n hx hb dL_isKept_124 rfl (lv_at hl 4 rfl) ?_
  refine lv_iconst (v := (-1 : Int32)) hx hb dL_isKept_125 (by decide) ?_
  refine pi_icmp_ne (tgt := 142) (a := (0)) (b := (-1)) hx hb (by decide +kernel) (by decide +kernel) dL_isKept_126 (by decide) (fun _ => ?_) (fun h9 => absurd h9 (by decide))
  refine lv_iload hx hb dL_isKept_142 (lv_at hl 2 rfl) ?_
  refine lv_iload_n hx hb dL_isKept_144 rfl (lv_at hl 4 rfl) ?_
  refine pi_icmp_ge (tgt := 161) (a := (7)) (b := (0)) hx hb (by decide +kernel) (by decide +kernel) dL_isKept_145 (by decide) (fun _ => ?_) (fun h9 => absurd h9 (by decide))
  refine lv_iload hx hb dL_isKept_161 (lv_at hl 2 rfl) ?_
  refine lv_iload_n hx hb dL_isKept_163 rfl (lv_at hl 4 rfl) ?_
  refine pi_icmp_gt (tgt := 172) (a := (7)) (b := (0)) hx hb (by decide +kernel) (by decide +kernel) dL_isKept_164 (by decide) (fun _ => ?_) (fun h9 => absurd h9 (by decide))
  refine lv_iconst (v := (nI 1)) hx hb dL_isKept_172 (by decide) ?_
  refine lv_goto (tgt := 177) hx hb dL_isKept_173 (by decide) ?_
  refine lv_istore (lv' := [(4, .int (nI 1)), (7, .int (nI 1)), (6, .int (nI 2)), (5, .int (nI 7)), (3, .int (nI 0)), (2, .int (nI 0)), (0, .ref h0), (1, .int (nI 0))]) hx hb dL_isKept_177 hl (by decide) rfl (fun ls hl => ?_)
  refine lv_iinc (v := (nI 8)) (lv' := [(5, .int (nI 8)), (4, .int (nI 1)), (7, .int (nI 1)), (6, .int (nI 2)), (3, .int (nI 0)), (2, .int (nI 0)), (0, .ref h0), (1, .int (nI 0))]) hx hb dL_isKept_179 hl (k := 3) rfl (by decide +kernel) (by decide) rfl (fun ls hl => ?_)
  refine lv_goto (tgt := 75) hx hb dL_isKept_182 (by decide) ?_
  refine lv_iload hx hb dL_isKept_75 (lv_at hl 0 rfl) ?_
  refine lv_iload_n hx hb dL_isKept_77 rfl (lv_at hl 7 rfl) ?_
  refine lv_bipush (v := (nI 12)) hx hb dL_isKept_78 (by decide) ?_
  refine lv_iadd hx hb dL_isKept_80 ?_
  refine pn_top (y := (nI 12)) (by decide +kernel) ?_
  refine pi_icmp_ge (tgt := 185) (a := (8)) (b := (12)) hx hb (by decide +kernel) (by decide +kernel) dL_isKept_81 (by decide) (fun h9 => absurd h9 (by decide)) (fun _ => ?_)
  refine lv_iload hx hb dL_isKept_84 (lv_at hl 0 rfl) ?_
  refine lv_aload_n hx hb dL_isKept_86 rfl (lv_at hl 6 rfl) ?_
  refine pz_VR (rest := [.int (nI 8)]) ⟨hx, hb, hml, hown, hts⟩ (k_X0_days l D h0 ac ay ap cyI ts 0 (pq_c 12) pq_z pq_z  ) (cwV 0 hts gL_isKept_X0_days rfl rfl rfl (by decide +kernel) ⟨Nat.le_of_ble_eq_true rfl, Nat.le_of_ble_eq_true rfl⟩) hK hP hD hS hA [0, 1, 2, 3] rfl rfl rfl 0 0 rfl rfl rfl hl.1 rfl (lv_room (Nat.le_of_ble_eq_true rfl)) dL_isKept_87 ⟨Nat.le_of_ble_eq_true rfl, Nat.le_of_ble_eq_true rfl⟩ (fun r H locs hr hP hS => ?_)
  obtain rfl : r = (nI 1095750) := hr
  refine pi_icmp_ge (tgt := 185) (a := (8)) (b := (1095750)) hx hb (by decide +kernel) (by decide +kernel) dL_isKept_90 (by decide) (fun h9 => absurd h9 (by decide)) (fun _ => ?_)
  refine lv_iload hx hb dL_isKept_93 (lv_at hl 1 rfl) ?_
  refine pi_if_eq (tgt := 185) (a := (1)) hx hb (by decide +kernel) dL_isKept_95 (by decide) (fun h9 => absurd h9 (by decide)) (fun _ => ?_)
  refine lv_aload_n hx hb dL_isKept_98 rfl (lv_at hl 6 rfl) ?_
  refine lv_iload hx hb dL_isKept_99 (lv_at hl 0 rfl) ?_
  refine pz_VR (rest := []) ⟨hx, hb, hml, hown, hts⟩ (k_X0_characterOf l D h0 ac ay ap cyI ts 0 (pq_c 12) pq_z pq_z 8 (by first | exact pq_c3 | decide | omega | decide +kernel)) (cwV 1 hts gL_isKept_X0_characterOf rfl rfl rfl (by decide +kernel) ⟨Nat.le_of_ble_eq_true rfl, Nat.le_of_ble_eq_true rfl⟩) hK hP hD hS hA [0, 1, 2, 3] rfl rfl rfl 0 0 rfl rfl rfl hl.1 rfl (lv_room (Nat.le_of_ble_eq_true rfl)) dL_isKept_101 ⟨Nat.le_of_ble_eq_true rfl, Nat.le_of_ble_eq_true rfl⟩ (fun r H locs hr hP hS => ?_)
  obtain rfl : r = (nI ((pq_c 12) (pm_pl 8 - 1))) := hr
  refine pn_top (y := (nI 2)) (congrArg nI (by decide +kernel)) ?_
  refine lv_istore (lv' := [(6, .int (nI 2)), (5, .int (nI 8)), (4, .int (nI 1)), (7, .int (nI 1)), (3, .int (nI 0)), (2, .int (nI 0)), (0, .ref h0), (1, .int (nI 0))]) hx hb dL_isKept_104 hl (by decide) rfl (fun ls hl => ?_)
  refine lv_iload hx hb dL_isKept_106 (lv_at hl 0 rfl) ?_
  refine pi_if_eq (tgt := 117) (a := (2)) hx hb (by decide +kernel) dL_isKept_108 (by decide) (fun h9 => absurd h9 (by decide)) (fun _ => ?_)
  refine lv_iload hx hb dL_isKept_111 (lv_at hl 0 rfl) ?_
  refine lv_iconst (v := (nI 2)) hx hb dL_isKept_113 (by decide) ?_
  refine pi_icmp_ne (tgt := 121) (a := (2)) (b := (2)) hx hb (by decide +kernel) (by decide +kernel) dL_isKept_114 (by decide) (fun h9 => absurd h9 (by decide)) (fun _ => ?_)
  refine lv_iconst (v := (nI 1)) hx hb dL_isKept_117 (by decide) ?_
  refine lv_goto (tgt := 122) hx hb dL_isKept_118 (by decide) ?_
  refine lv_istore (lv' := [(7, .int (nI 1)), (6, .int (nI 2)), (5, .int (nI 8)), (4, .int (nI 1)), (3, .int (nI 0)), (2, .int (nI 0)), (0, .ref h0), (1, .int (nI 0))]) hx hb dL_isKept_122 hl (by decide) rfl (fun ls hl => ?_)
  refine lv_iload_n hx hb dL_isKept_124 rfl (lv_at hl 4 rfl) ?_
  refine lv_iconst (v := (-1 : Int32)) hx hb dL_isKept_125 (by decide) ?_
  refine pi_icmp_ne (tgt := 142) (a := (0)) (b := (-1)) hx hb (by decide +kernel) (by decide +kernel) dL_isKept_126 (by decide) (fun _ => ?_) (fun h9 => absurd h9 (by decide))
  refine lv_iload hx hb dL_isKept_142 (lv_at hl 2 rfl) ?_
  refine lv_iload_n hx hb dL_isKept_144 rfl (lv_at hl 4 rfl) ?_
  refine pi_icmp_ge (tgt := 161) (a := (8)) (b := (0)) hx hb (by decide +kernel) (by decide +kernel) dL_isKept_145 (by decide) (fun _ => ?_) (fun h9 => absurd h9 (by decide))
  refine lv_iload hx hb dL_isKept_161 (lv_at hl 2 rfl) ?_
  refine lv_iload_n hx hb dL_isKept_163 rfl (lv_at hl 4 rfl) ?_
  refine pi_icmp_gt (tgt := 172) (a := (8)) (b := (0)) hx hb (by decide +kernel) (by decide +kernel) dL_isKept_164 (by decide) (fun _ => ?_) (fun h9 => absurd h9 (by decide))
  refine lv_iconst (v := (nI 1)) hx hb dL_isKept_172 (by decide) ?_
  refine lv_goto (tgt := 177) hx hb dL_isKept_173 (by decide) ?_
  refine lv_istore (lv' := [(4, .int (nI 1)), (7, .int (nI 1)), (6, .int (nI 2)), (5, .int (nI 8)), (3, .int (nI 0)), (2, .int (nI 0)), (0, .ref h0), (1, .int (nI 0))]) hx hb dL_isKept_177 hl (by decide) rfl (fun ls hl => ?_)
  refine lv_iinc (v := (nI 9)) (lv' := [(5, .int (nI 9)), (4, .int (nI 1)), (7, .int (nI 1)), (6, .int (nI 2)), (3, .int (nI 0)), (2, .int (nI 0)), (0, .ref h0), (1, .int (nI 0))]) hx hb dL_isKept_179 hl (k := 3) rfl (by decide +kernel) (by decide) rfl (fun ls hl => ?_)
  refine lv_goto (tgt := 75) hx hb dL_isKept_182 (by decide) ?_
  refine lv_iload hx hb dL_isKept_75 (lv_at hl 0 rfl) ?_
  refine lv_iload_n hx hb dL_isKept_77 rfl (lv_at hl 7 rfl) ?_
  refine lv_bipush (v := (nI 12)) hx hb dL_isKept_78 (by decide) ?_
  refine lv_iadd hx hb dL_isKept_80 ?_
  refine pn_top (y := (nI 12)) (by decide +kernel) ?_
  refine pi_icmp_ge (tgt := 185) (a := (9)) (b := (12)) hx hb (by decide +kernel) (by decide +kernel) dL_isKept_81 (by decide) (fun h9 => absurd h9 (by decide)) (fun _ => ?_)
  refine lv_iload hx hb dL_isKept_84 (lv_at hl 0 rfl) ?_
  refine lv_aload_n hx hb dL_isKept_86 rfl (lv_at hl 6 rfl) ?_
  refine pz_VR (rest := [.int (nI 9)]) ⟨hx, hb, hml, hown, hts⟩ (k_X0_days l D h0 ac ay ap cyI ts 0 (pq_c 12) pq_z pq_z  ) (cwV 0 hts gL_isKept_X0_days rfl rfl rfl (by decide +kernel) ⟨Nat.le_of_ble_eq_true rfl, Nat.le_of_ble_eq_true rfl⟩) hK hP hD hS hA [0, 1, 2, 3] rfl rfl rfl 0 0 rfl rfl rfl hl.1 rfl (lv_room (Nat.le_of_ble_eq_true rfl)) dL_isKept_87 ⟨Nat.le_of_ble_eq_true rfl, Nat.le_of_ble_eq_true rfl⟩ (fun r H locs hr hP hS => ?_)
  obtain rfl : r = (nI 1095750) := hr
  refine pi_icmp_ge (tgt := 185) (a := (9)) (b := (1095750)) hx hb (by decide +kernel) (by decide +kernel) dL_isKept_90 (by decide) (fun h9 => absurd h9 (by decide)) (fun _ => ?_)
  refine lv_iload hx hb dL_isKept_93 (lv_at hl 1 rfl) ?_
  refine pi_if_eq (tgt := 185) (a := (1)) hx hb (by decide +kernel) dL_isKept_95 (by decide) (fun h9 => absurd h9 (by decide)) (fun _ => ?_)
  refine lv_aload_n hx hb dL_isKept_98 rfl (lv_at hl 6 rfl) ?_
  refine lv_iload hx hb dL_isKept_99 (lv_at hl 0 rfl) ?_
  refine pz_VR (rest := []) ⟨hx, hb, hml, hown, hts⟩ (k_X0_characterOf l D h0 ac ay ap cyI ts 0 (pq_c 12) pq_z pq_z 9 (by first | exact pq_c3 | decide | omega | decide +kernel)) (cwV 1 hts gL_isKept_X0_characterOf rfl rfl rfl (by decide +kernel) ⟨Nat.le_of_ble_eq_true rfl, Nat.le_of_ble_eq_true rfl⟩) hK hP hD hS hA [0, 1, 2, 3] rfl rfl rfl 0 0 rfl rfl rfl hl.1 rfl (lv_room (Nat.le_of_ble_eq_true rfl)) dL_isKept_101 ⟨Nat.le_of_ble_eq_true rfl, Nat.le_of_ble_eq_true rfl⟩ (fun r H locs hr hP hS => ?_)
  obtain rfl : r = (nI ((pq_c 12) (pm_pl 9 - 1))) := hr
  refine pn_top (y := (nI 2)) (congrArg nI (by decide +kernel)) ?_
  refine lv_istore (lv' := [(6, .int (nI 2)), (5, .int (nI 9)), (4, .int (nI 1)), (7, .int (nI 1)), (3, .int (nI 0)), (2, .int (nI 0)), (0, .ref h0), (1, .int (nI 0))]) hx hb dL_isKept_104 hl (by decide) rfl (fun ls hl => ?_)
  refine lv_iload hx hb dL_isKept_106 (lv_at hl 0 rfl) ?_
  refine pi_if_eq (tgt := 117) (a := (2)) hx hb (by decide +kernel) dL_isKept_108 (by decide) (fun h9 => absurd h9 (by decide)) (fun _ => ?_)
  refine lv_iload hx hb dL_isKept_111 (lv_at hl 0 rfl) ?_
  refine lv_iconst (v := (nI 2)) hx hb dL_isKept_113 (by decide) ?_
  refine pi_icmp_ne (tgt := 121) (a := (2)) (b := (2)) hx hb (by decide +kernel) (by decide +kernel) dL_isKept_114 (by decide) (fun h9 => absurd h9 (by decide)) (fun _ => ?_)
  refine lv_iconst (v := (nI 1)) hx hb dL_isKept_117 (by decide) ?_
  refine lv_goto (tgt := 122) hx hb dL_isKept_118 (by decide) ?_
  refine lv_istore (lv' := [(7, .int (nI 1)), (6, .int (nI 2)), (5, .int (nI 9)), (4, .int (nI 1)), (3, .int (nI 0)), (2, .int (nI 0)), (0, .ref h0), (1, .int (nI 0))]) hx hb dL_isKept_122 hl (by decide) rfl (fun ls hl => ?_)
  refine lv_iload_n hx hb dL_isKept_124 rfl (lv_at hl 4 rfl) ?_
  refine lv_iconst (v := (-1 : Int32)) hx hb dL_isKept_125 (by decide) ?_
  refine pi_icmp_ne (tgt := 142) (a := (0)) (b := (-1)) hx hb (by decide +kernel) (by decide +kernel) dL_isKept_126 (by decide) (fun _ => ?_) (fun h9 => absurd h9 (by decide))
  refine lv_iload hx hb dL_isKept_142 (lv_at hl 2 rfl) ?_
  refine lv_iload_n hx hb dL_isKept_144 rfl (lv_at hl 4 rfl) ?_
  refine pi_icmp_ge (tgt := 161) (a := (9)) (b := (0)) hx hb (by decide +kernel) (by decide +kernel) dL_isKept_145 (by decide) (fun _ => ?_) (fun h9 => absurd h9 (by decide))
  refine lv_iload hx hb dL_isKept_161 (lv_at hl 2 rfl) ?_
  refine lv_iload_n hx hb dL_isKept_163 rfl (lv_at hl 4 rfl) ?_
  refine pi_icmp_gt (tgt := 172) (a := (9)) (b := (0)) hx hb (by decide +kernel) (by decide +kernel) dL_isKept_164 (by decide) (fun _ => ?_) (fun h9 => absurd h9 (by decide))
  refine lv_iconst (v := (nI 1)) hx hb dL_isKept_172 (by decide) ?_
  refine lv_goto (tgt := 177) hx hb dL_isKept_173 (by decide) ?_
  refine lv_istore (lv' := [(4, .int (nI 1)), (7, .int (nI 1)), (6, .int (nI 2)), (5, .int (nI 9)), (3, .int (nI 0)), (2, .int (nI 0)), (0, .ref h0), (1, .int (nI 0))]) hx hb dL_isKept_177 hl (by decide) rfl (fun ls hl => ?_)
  refine lv_iinc (v := (nI 10)) (lv' := [(5, .int (nI 10)), (4, .int (nI 1)), (7, .int (nI 1)), (6, .int (nI 2)), (3, .int (nI 0)), (2, .int (nI 0)), (0, .ref h0), (1, .int (nI 0))]) hx hb dL_isKept_179 hl (k := 3) rfl (by decide +kernel) (by decide) rfl (fun ls hl => ?_)
  refine lv_goto (tgt := 75) hx hb dL_isKept_182 (by decide) ?_
  refine lv_iload hx hb dL_isKept_75 (lv_at hl 0 rfl) ?_
  refine lv_iload_n hx hb dL_isKept_77 rfl (lv_at hl 7 rfl) ?_
  refine lv_bipush (v := (nI 12)) hx hb dL_isKept_78 (by decide) ?_
  refine lv_iadd hx hb dL_isKept_80 ?_
  refine pn_top (y := (nI 12)) (by decide +kernel) ?_
  refine pi_icmp_ge (tgt := 185) (a := (10)) (b := (12)) hx hb (by decide +kernel) (by decide +kernel) dL_isKept_81 (by decide) (fun h9 => absurd h9 (by decide)) (fun _ => ?_)
  refine lv_iload hx hb dL_isKept_84 (lv_at hl 0 rfl) ?_
  refine lv_aload_n hx hb dL_isKept_86 rfl (lv_at hl 6 rfl) ?_
  refine pz_VR (rest := [.int (nI 10)]) ⟨hx, hb, hml, hown, hts⟩ (k_X0_days l D h0 ac ay ap cyI ts 0 (pq_c 12) pq_z pq_z  ) (cwV 0 hts gL_isKept_X0_days rfl rfl rfl (by decide +kernel) ⟨Nat.le_of_ble_eq_true rfl, Nat.le_of_ble_eq_true rfl⟩) hK hP hD hS hA [0, 1, 2, 3] rfl rfl rfl 0 0 rfl rfl rfl hl.1 rfl (lv_room (Nat.le_of_ble_eq_true rfl)) dL_isKept_87 ⟨Nat.le_of_ble_eq_true rfl, Nat.le_of_ble_eq_true rfl⟩ (fun r H locs hr hP hS => ?_)
  obtain rfl : r = (nI 1095750) := hr
  refine pi_icmp_ge (tgt := 185) (a := (10)) (b := (1095750)) hx hb (by decide +kernel) (by decide +kernel) dL_isKept_90 (by decide) (fun h9 => absurd h9 (by decide)) (fun _ => ?_)
  refine lv_iload hx hb dL_isKept_93 (lv_at hl 1 rfl) ?_
  refine pi_if_eq (tgt := 185) (a := (1)) hx hb (by decide +kernel) dL_isKept_95 (by decide) (fun h9 => absurd h9 (by decide)) (fun _ => ?_)
  refine lv_aload_n hx hb dL_isKept_98 rfl (lv_at hl 6 rfl) ?_
  refine lv_iload hx hb dL_isKept_99 (lv_at hl 0 rfl) ?_
  refine pz_VR (rest := []) ⟨hx, hb, hml, hown, hts⟩ (k_X0_characterOf l D h0 ac ay ap cyI ts 0 (pq_c 12) pq_z pq_z 10 (by first | exact pq_c3 | decide | omega | decide +kernel)) (cwV 1 hts gL_isKept_X0_characterOf rfl rfl rfl (by decide +kernel) ⟨Nat.le_of_ble_eq_true rfl, Nat.le_of_ble_eq_true rfl⟩) hK hP hD hS hA [0, 1, 2, 3] rfl rfl rfl 0 0 rfl rfl rfl hl.1 rfl (lv_room (Nat.le_of_ble_eq_true rfl)) dL_isKept_101 ⟨Nat.le_of_ble_eq_true rfl, Nat.le_of_ble_eq_true rfl⟩ (fun r H locs hr hP hS => ?_)
  obtain rfl : r = (nI ((pq_c 12) (pm_pl 10 - 1))) := hr
  refine pn_top (y := (nI 2)) (congrArg nI (by decide +kernel)) ?_
  refine lv_istore (lv' := [(6, .int (nI 2)), (5, .int (nI 10)), (4, .int (nI 1)), (7, .int (nI 1)), (3, .int (nI 0)), (2, .int (nI 0)), (0, .ref h0), (1, .int (nI 0))]) hx hb dL_isKept_104 hl (by decide) rfl (fun ls hl => ?_)
  refine lv_iload hx hb dL_isKept_106 (lv_at hl 0 rfl) ?_
  refine pi_if_eq (tgt := 117) (a := (2)) hx hb (by decide +kernel) dL_isKept_108 (by decide) (fun h9 => absurd h9 (by decide)) (fun _ => ?_)
  refine lv_iload hx hb dL_isKept_111 (lv_at hl 0 rfl) ?_
  refine lv_iconst (v := (nI 2)) hx hb dL_isKept_113 (by decide) ?_
  refine pi_icmp_ne (tgt := 121) (a := (2)) (b := (2)) hx hb (by decide +kernel) (by decide +kernel) dL_isKept_114 (by decide) (fun h9 => absurd h9 (by decide)) (fun _ => ?_)
  refine lv_iconst (v := (nI 1)) hx hb dL_isKept_117 (by decide) ?_
  refine lv_goto (tgt := 122) hx hb dL_isKept_118 (by decide) ?_
  refine lv_istore (lv' := [(7, .int (nI 1)), (6, .int (nI 2)), (5, .int (nI 10)), (4, .int (nI 1)), (3, .int (nI 0)), (2, .int (nI 0)), (0, .ref h0), (1, .int (nI 0))]) hx hb dL_isKept_122 hl (by decide) rfl (fun ls hl => ?_)
  refine lv_iload_n hx hb dL_isKept_124 rfl (lv_at hl 4 rfl) ?_
  refine lv_iconst (v := (-1 : Int32)) hx hb dL_isKept_125 (by decide) ?_
  refine pi_icmp_ne (tgt := 142) (a := (0)) (b := (-1)) hx hb (by decide +kernel) (by decide +kernel) dL_isKept_126 (by decide) (fun _ => ?_) (fun h9 => absurd h9 (by decide))
  refine lv_iload hx hb dL_isKept_142 (lv_at hl 2 rfl) ?_
  refine lv_iload_n hx hb dL_isKept_144 rfl (lv_at hl 4 rfl) ?_
  refine pi_icmp_ge (tgt := 161) (a := (10)) (b := (0)) hx hb (by decide +kernel) (by decide +kernel) dL_isKept_145 (by decide) (fun _ => ?_) (fun h9 => absurd h9 (by decide))
  refine lv_iload hx hb dL_isKept_161 (lv_at hl 2 rfl) ?_
  refine lv_iload_n hx hb dL_isKept_163 rfl (lv_at hl 4 rfl) ?_
  refine pi_icmp_gt (tgt := 172) (a := (10)) (b := (0)) hx hb (by decide +kernel) (by decide +kernel) dL_isKept_164 (by decide) (fun _ => ?_) (fun h9 => absurd h9 (by decide))
  refine lv_iconst (v := (nI 1)) hx hb dL_isKept_172 (by decide) ?_
  refine lv_goto (tgt := 177) hx hb dL_isKept_173 (by decide) ?_
  refine lv_istore (lv' := [(4, .int (nI 1)), (7, .int (nI 1)), (6, .int (nI 2)), (5, .int (nI 10)), (3, .int (nI 0)), (2, .int (nI 0)), (0, .ref h0), (1, .int (nI 0))]) hx hb dL_isKept_177 hl (by decide) rfl (fun ls hl => ?_)
  refine lv_iinc (v := (nI 11)) (lv' := [(5, .int (nI 11)), (4, .int (nI 1)), (7, .int (nI 1)), (6, .int (nI 2)), (3, .int (nI 0)), (2, .int (nI 0)), (0, .ref h0), (1, .int (nI 0))]) hx hb dL_isKept_179 hl (k := 3) rfl (by decide +kernel) (by decide) rfl (fun ls hl => ?_)
  refine lv_goto (tgt := 75) hx hb dL_isKept_182 (by decide) ?_
  refine lv_iload hx hb dL_isKept_75 (lv_at hl 0 rfl) ?_
  refine lv_iload_n hx hb dL_isKept_77 rfl (lv_at hl 7 rfl) ?_
  refine lv_bipush (v := (nI 12)) hx hb dL_isKept_78 (by decide) ?_
  refine lv_iadd hx hb dL_isKept_80 ?_
  refine pn_top (y := (nI 12)) (by decide +kernel) ?_
  refine pi_icmp_ge (tgt := 185) (a := (11)) (b := (12)) hx hb (by decide +kernel) (by decide +kernel) dL_isKept_81 (by decide) (fun h9 => absurd h9 (by decide)) (fun _ => ?_)
  refine lv_iload hx hb dL_isKept_84 (lv_at hl 0 rfl) ?_
  refine lv_aload_n hx hb dL_isKept_86 rfl (lv_at hl 6 rfl) ?_
  refine pz_VR (rest := [.int (nI 11)]) ⟨hx, hb, hml, hown, hts⟩ (k_X0_days l D h0 ac ay ap cyI ts 0 (pq_c 12) pq_z pq_z  ) (cwV 0 hts gL_isKept_X0_days rfl rfl rfl (by decide +kernel) ⟨Nat.le_of_ble_eq_true rfl, Nat.le_of_ble_eq_true rfl⟩) hK hP hD hS hA [0, 1, 2, 3] rfl rfl rfl 0 0 rfl rfl rfl hl.1 rfl (lv_room (Nat.le_of_ble_eq_true rfl)) dL_isKept_87 ⟨Nat.le_of_ble_eq_true rfl, Nat.le_of_ble_eq_true rfl⟩ (fun r H locs hr hP hS => ?_)
  obtain rfl : r = (nI 1095750) := hr
  refine pi_icmp_ge (tgt := 185) (a := (11)) (b := (1095750)) hx hb (by decide +kernel) (by decide +kernel) dL_isKept_90 (by decide) (fun h9 => absurd h9 (by decide)) (fun _ => ?_)
  refine lv_iload hx hb dL_isKept_93 (lv_at hl 1 rfl) ?_
  refine pi_if_eq (tgt := 185) (a := (1)) hx hb (by decide +kernel) dL_isKept_95 (by decide) (fun h9 => absurd h9 (by decide)) (fun _ => ?_)
  refine lv_aload_n hx hb dL_isKept_98 rfl (lv_at hl 6 rfl) ?_
  refine lv_iload hx hb dL_isKept_99 (lv_at hl 0 rfl) ?_
  refine pz_VR (rest := []) ⟨hx, hb, hml, hown, hts⟩ (k_X0_characterOf l D h0 ac ay ap cyI ts 0 (pq_c 12) pq_z pq_z 11 (by first | exact pq_c3 | decide | omega | decide +kernel)) (cwV 1 hts gL_isKept_X0_characterOf rfl rfl rfl (by decide +kernel) ⟨Nat.le_of_ble_eq_true rfl, Nat.le_of_ble_eq_true rfl⟩) hK hP hD hS hA [0, 1, 2, 3] rfl rfl rfl 0 0 rfl rfl rfl hl.1 rfl (lv_room (Nat.le_of_ble_eq_true rfl)) dL_isKept_101 ⟨Nat.le_of_ble_eq_true rfl, Nat.le_of_ble_eq_true rfl⟩ (fun r H locs hr hP hS => ?_)
  obtain rfl : r = (nI ((pq_c 12) (pm_pl 11 - 1))) := hr
  refine pn_top (y := (nI 2)) (congrArg nI (by decide +kernel)) ?_
  refine lv_istore (lv' := [(6, .int (nI 2)), (5, .int (nI 11)), (4, .int (nI 1)), (7, .int (nI 1)), (3, .int (nI 0)), (2, .int (nI 0)), (0, .ref h0), (1, .int (nI 0))]) hx hb dL_isKept_104 hl (by decide) rfl (fun ls hl => ?_)
  refine lv_iload hx hb dL_isKept_106 (lv_at hl 0 rfl) ?_
  refine pi_if_eq (tgt := 117) (a := (2)) hx hb (by decide +kernel) dL_isKept_108 (by decide) (fun h9 => absurd h9 (by decide)) (fun _ => ?_)
  refine lv_iload hx hb dL_isKept_111 (lv_at hl 0 rfl) ?_
  refine lv_iconst (v := (nI 2)) hx hb dL_isKept_113 (by decide) ?_
  refine pi_icmp_ne (tgt := 121) (a := (2)) (b := (2)) hx hb (by decide +kernel) (by decide +kernel) dL_isKept_114 (by decide) (fun h9 => absurd h9 (by decide)) (fun _ => ?_)
  refine lv_iconst (v := (nI 1)) hx hb dL_isKept_117 (by decide) ?_
  refine lv_goto (tgt := 122) hx hb dL_isKept_118 (by decide) ?_
  refine lv_istore (lv' := [(7, .int (nI 1)), (6, .int (nI 2)), (5, .int (nI 11)), (4, .int (nI 1)), (3, .int (nI 0)), (2, .int (nI 0)), (0, .ref h0), (1, .int (nI 0))]) hx hb dL_isKept_122 hl (by decide) rfl (fun ls hl => ?_)
  refine lv_iload_n hx hb dL_isKept_124 rfl (lv_at hl 4 rfl) ?_
  refine lv_iconst (v := (-1 : Int32)) hx hb dL_isKept_125 (by decide) ?_
  refine pi_icmp_ne (tgt := 142) (a := (0)) (b := (-1)) hx hb (by decide +kernel) (by decide +kernel) dL_isKept_126 (by decide) (fun _ => ?_) (fun h9 => absurd h9 (by decide))
  refine lv_iload hx hb dL_isKept_142 (lv_at hl 2 rfl) ?_
  refine lv_iload_n hx hb dL_isKept_144 rfl (lv_at hl 4 rfl) ?_
  refine pi_icmp_ge (tgt := 161) (a := (11)) (b := (0)) hx hb (by decide +kernel) (by decide +kernel) dL_isKept_145 (by decide) (fun _ => ?_) (fun h9 => absurd h9 (by decide))
  refine lv_iload hx hb dL_isKept_161 (lv_at hl 2 rfl) ?_
  refine lv_iload_n hx hb dL_isKept_163 rfl (lv_at hl 4 rfl) ?_
  refine pi_icmp_gt (tgt := 172) (a := (11)) (b := (0)) hx hb (by decide +kernel) (by decide +kernel) dL_isKept_164 (by decide) (fun _ => ?_) (fun h9 => absurd h9 (by decide))
  refine lv_iconst (v := (nI 1)) hx hb dL_isKept_172 (by decide) ?_
  refine lv_goto (tgt := 177) hx hb dL_isKept_173 (by decide) ?_
  refine lv_istore (lv' := [(4, .int (nI 1)), (7, .int (nI 1)), (6, .int (nI 2)), (5, .int (nI 11)), (3, .int (nI 0)), (2, .int (nI 0)), (0, .ref h0), (1, .int (nI 0))]) hx hb dL_isKept_177 hl (by decide) rfl (fun ls hl => ?_)
  refine lv_iinc (v := (nI 12)) (lv' := [(5, .int (nI 12)), (4, .int (nI 1)), (7, .int (nI 1)), (6, .int (nI 2)), (3, .int (nI 0)), (2, .int (nI 0)), (0, .ref h0), (1, .int (nI 0))]) hx hb dL_isKept_179 hl (k := 3) rfl (by decide +kernel) (by decide) rfl (fun ls hl => ?_)
  refine lv_goto (tgt := 75) hx hb dL_isKept_182 (by decide) ?_
  refine lv_iload hx hb dL_isKept_75 (lv_at hl 0 rfl) ?_
  refine lv_iload_n hx hb dL_isKept_77 rfl (lv_at hl 7 rfl) ?_
  refine lv_bipush (v := (nI 12)) hx hb dL_isKept_78 (by decide) ?_
  refine lv_iadd hx hb dL_isKept_80 ?_
  refine pn_top (y := (nI 12)) (by decide +kernel) ?_
  refine pi_icmp_ge (tgt := 185) (a := (12)) (b := (12)) hx hb (by decide +kernel) (by decide +kernel) dL_isKept_81 (by decide) (fun _ => ?_) (fun h9 => absurd h9 (by decide))
  refine lv_iload hx hb dL_isKept_185 (lv_at hl 1 rfl) ?_
  exact hQ _ _ _ _ _ dL_isKept_187 (by decide) (congrArg nI (by rfl)) hS
set_option maxHeartbeats 4000000 in
set_option maxRecDepth 100000 in
theorem k_L_isKept_1095749 (l : Launch) (D : va_G) (h0 ac ay ap : Nat) (cyI : ClassId) (ts : List (ClassId × FieldType))   : pz_R l yL_isKept wsL_isKept ({ frames := 5, cells := 0, slots := 0, locals := 102 } : Room) D ((cyI, .int) :: ts) [.ref h0, .int (nI 1095749)] [(h0, .inr (0, [.ref ac, .ref ay, .ref ap, .int (nI 0)])), (ac, .inl (cyI, 365, .inl (pz_ar (pq_c 12)))), (ay, .inl (cyI, 60, .inl (pz_ar pq_z))), (ap, .inl (cyI, 60, .inl (pz_ar pq_z)))] (fun r => r = nI 1) := by
  refine pz_R_of (cc := cL_isKept) (maxL := 8) (ty := .boolean) (own := RL) (by decide) rfl rfl (Nat.le_of_ble_eq_true rfl) ?_
  intro p e s m below meth c A ls Q hx hb hml hown hts hK hP hD hS hA hl hQ
  have hl : lv_has ls 8 [(0, .ref h0), (1, .int (nI 1095749))] := hl
  refine lv_aload_n hx hb dL_isKept_0 rfl (lv_at hl 0 rfl) ?_
  refine lv_iload_n hx hb dL_isKept_1 rfl (lv_at hl 1 rfl) ?_
  refine pz_VR (rest := []) ⟨hx, hb, hml, hown, hts⟩ (k_X0_characterOf l D h0 ac ay ap cyI ts 0 (pq_c 12) pq_z pq_z 1095749 (by first | exact pq_c3 | decide | omega | decide +kernel)) (cwV 1 hts gL_isKept_X0_characterOf rfl rfl rfl (by decide +kernel) ⟨Nat.le_of_ble_eq_true rfl, Nat.le_of_ble_eq_true rfl⟩) hK hP hD hS hA [0, 1, 2, 3] rfl rfl rfl 0 0 rfl rfl rfl hl.1 rfl (lv_room (Nat.le_of_ble_eq_true rfl)) dL_isKept_2 ⟨Nat.le_of_ble_eq_true rfl, Nat.le_of_ble_eq_true rfl⟩ (fun r H locs hr hP hS => ?_)
  obtain rfl : r = (nI ((pq_c 12) (pm_pl 1095749 - 1))) := hr
  refine pn_top (y := (nI 2)) (congrArg nI (by decide +kernel)) ?_
  refine lv_istore_n (lv' := [(2, .int (nI 2)), (0, .ref h0), (1, .int (nI 1095749))]) hx hb dL_isKept_5 rfl hl (by decide) rfl (fun ls hl => ?_)
  refine lv_aload_n hx hb dL_isKept_6 rfl (lv_at hl 1 rfl) ?_
  refine lv_iload_n hx hb dL_isKept_7 rfl (lv_at hl 2 rfl) ?_
  refine pz_VR (rest := []) ⟨hx, hb, hml, hown, hts⟩ (k_X0_nextCourt l D h0 ac ay ap cyI ts 0 (pq_c 12) pq_z pq_z 1095749 (by first | exact pq_c3 | decide | omega | decide +kernel) (by first | exact pq_c3 | decide | omega | decide +kernel)) (cwV 1 hts gL_isKept_X0_nextCourt rfl rfl rfl (by decide +kernel) ⟨Nat.le_of_ble_eq_true rfl, Nat.le_of_ble_eq_true rfl⟩) hK hP hD hS hA [0, 1, 2, 3] rfl rfl rfl 0 0 rfl rfl rfl hl.1 rfl (lv_room (Nat.le_of_ble_eq_true rfl)) dL_isKept_8 ⟨Nat.le_of_ble_eq_true rfl, Nat.le_of_ble_eq_true rfl⟩ (fun r H locs hr hP hS => ?_)
  have hr_2 : (fun r => (∃ d, 1095749 ≤ d ∧ d < 1095750 ∧ d < 1095749 + 366 ∧ r = nI d ∧ ((pq_c 12) (pm_pl d - 1) = 0 ∨ (pq_c 12) (pm_pl d - 1) = 2) ∧ ∀ z, 1095749 ≤ z → z < d → ¬ ((pq_c 12) (pm_pl z - 1) = 0 ∨ (pq_c 12) (pm_pl z - 1) = 2)) ∨ (r = (-1) ∧ ∀ z, 1095749 ≤ z → z < 1095750 → z < 1095749 + 366 → ¬ ((pq_c 12) (pm_pl z - 1) = 0 ∨ (pq_c 12) (pm_pl z - 1) = 2))) r := hr
  obtain ⟨r_2, er_2⟩ : ∃ z, z = r := ⟨_, rfl⟩
  subst er_2
  obtain rfl : r_2 = nI 1095749 := by rcases hr_2 with ⟨d, h1, _, _, h4, _, h6⟩ | ⟨_, h⟩; (rcases Nat.lt_or_ge 1095749 d with h7 | h7; (exact absurd (by decide +kernel) (h6 1095749 (Nat.le_refl _) h7)); (have h8 : d = 1095749 := by omega); rw [h4, h8]); (exact absurd (by decide +kernel) (h 1095749 (Nat.le_refl _) (by decide) (by decide)))
  refine lv_istore_n (lv' := [(3, .int (nI 1095749)), (2, .int (nI 2)), (0, .ref h0), (1, .int (nI 1095749))]) hx hb dL_isKept_11 rfl hl (by decide) rfl (fun ls hl => ?_)
  refine lv_aload_n hx hb dL_isKept_12 rfl (lv_at hl 2 rfl) ?_
  refine lv_iload_n hx hb dL_isKept_13 rfl (lv_at hl 3 rfl) ?_
  refine pz_VR (rest := []) ⟨hx, hb, hml, hown, hts⟩ (k_X0_canVote l D h0 ac ay ap cyI ts 0 (pq_c 12) pq_z pq_z 1095749 (by first | exact pq_c3 | decide | omega | decide +kernel) (by first | exact pq_c3 | decide | omega | decide +kernel) (by first | exact pq_c3 | decide | omega | decide +kernel)) (cwV 1 hts gL_isKept_X0_canVote rfl rfl rfl (by decide +kernel) ⟨Nat.le_of_ble_eq_true rfl, Nat.le_of_ble_eq_true rfl⟩) hK hP hD hS hA [0, 1, 2, 3] rfl rfl rfl 0 0 rfl rfl rfl hl.1 rfl (lv_room (Nat.le_of_ble_eq_true rfl)) dL_isKept_14 ⟨Nat.le_of_ble_eq_true rfl, Nat.le_of_ble_eq_true rfl⟩ (fun r H locs hr hP hS => ?_)
  obtain rfl : r = (pz_b (pm_vt (pm_sh (pq_c 12)) 0 1095749)) := hr
  refine pn_top (y := (nI 1)) (pz_bt (by decide +kernel)).symm ?_
  refine lv_iload_n hx hb dL_isKept_17 rfl (lv_at hl 1 rfl) ?_
  refine lv_iconst (v := (nI 2)) hx hb dL_isKept_18 (by decide) ?_
  refine pi_icmp_ne (tgt := 34) (a := (2)) (b := (2)) hx hb (by decide +kernel) (by decide +kernel) dL_isKept_19 (by decide) (fun h9 => absurd h9 (by decide)) (fun _ => ?_)
  refine lv_aload_n hx hb dL_isKept_22 rfl (lv_at hl 2 rfl) ?_
  refine lv_iload_n hx hb dL_isKept_23 rfl (lv_at hl 3 rfl) ?_
  refine pz_VR (rest := [.int (nI 1)]) ⟨hx, hb, hml, hown, hts⟩ (k_X0_isMarket l D h0 ac ay ap cyI ts 0 (pq_c 12) pq_z pq_z 1095749 (by first | exact pq_c3 | decide | omega | decide +kernel) (by first | exact pq_c3 | decide | omega | decide +kernel)) (cwV 1 hts gL_isKept_X0_isMarket rfl rfl rfl (by decide +kernel) ⟨Nat.le_of_ble_eq_true rfl, Nat.le_of_ble_eq_true rfl⟩) hK hP hD hS hA [0, 1, 2, 3] rfl rfl rfl 0 0 rfl rfl rfl hl.1 rfl (lv_room (Nat.le_of_ble_eq_true rfl)) dL_isKept_24 ⟨Nat.le_of_ble_eq_true rfl, Nat.le_of_ble_eq_true rfl⟩ (fun r H locs hr hP hS => ?_)
  obtain rfl : r = (pz_b (1095749 % 8 = 0)) := hr
  refine pn_top (y := (nI 0)) (pz_bf (by decide +kernel)).symm ?_
  refine pi_if_ne (tgt := 34) (a := (0)) hx hb (by decide +kernel) dL_isKept_27 (by decide) (fun h9 => absurd h9 (by decide)) (fun _ => ?_)
  refine lv_iconst (v := (nI 1)) hx hb dL_isKept_30 (by decide) ?_
  refine lv_goto (tgt := 35) hx hb dL_isKept_31 (by decide) ?_
  refine pi_icmp_ne (tgt := 69) (a := (1)) (b := (1)) hx hb (by decide +kernel) (by decide +kernel) dL_isKept_35 (by decide) (fun h9 => absurd h9 (by decide)) (fun _ => ?_)
  refine lv_iload_n hx hb dL_isKept_38 rfl (lv_at hl 3 rfl) ?_
  refine lv_bipush (v := (nI 8)) hx hb dL_isKept_39 (by decide) ?_
  refine pi_icmp_lt (tgt := 60) (a := (1095749)) (b := (8)) hx hb (by decide +kernel) (by decide +kernel) dL_isKept_41 (by decide) (fun h9 => absurd h9 (by decide)) (fun _ => ?_)
  refine lv_aload_n hx hb dL_isKept_44 rfl (lv_at hl 2 rfl) ?_
  refine lv_iload_n hx hb dL_isKept_45 rfl (lv_at hl 3 rfl) ?_
  refine pz_VR (rest := []) ⟨hx, hb, hml, hown, hts⟩ (k_X0_isMarket l D h0 ac ay ap cyI ts 0 (pq_c 12) pq_z pq_z 1095749 (by first | exact pq_c3 | decide | omega | decide +kernel) (by first | exact pq_c3 | decide | omega | decide +kernel)) (cwV 1 hts gL_isKept_X0_isMarket rfl rfl rfl (by decide +kernel) ⟨Nat.le_of_ble_eq_true rfl, Nat.le_of_ble_eq_true rfl⟩) hK hP hD hS hA [0, 1, 2, 3] rfl rfl rfl 0 0 rfl rfl rfl hl.1 rfl (lv_room (Nat.le_of_ble_eq_true rfl)) dL_isKept_46 ⟨Nat.le_of_ble_eq_true rfl, Nat.le_of_ble_eq_true rfl⟩ (fun r H locs hr hP hS => ?_)
  obtain rfl : r = (pz_b (1095749 % 8 = 0)) := hr
  refine pn_top (y := (nI 0)) (pz_bf (by decide +kernel)).symm ?_
  refine lv_aload_n hx hb dL_isKept_49 rfl (lv_at hl 2 rfl) ?_
  refine lv_iload_n hx hb dL_isKept_50 rfl (lv_at hl 3 rfl) ?_
  refine lv_bipush (v := (nI 8)) hx hb dL_isKept_51 (by decide) ?_
  refine lv_isub hx hb dL_isKept_53 ?_
  refine pn_top (y := (nI 1095741)) (by decide +kernel) ?_
  refine pz_VR (rest := [.int (nI 0)]) ⟨hx, hb, hml, hown, hts⟩ (k_X0_isMarket l D h0 ac ay ap cyI ts 0 (pq_c 12) pq_z pq_z 1095741 (by first | exact pq_c3 | decide | omega | decide +kernel) (by first | exact pq_c3 | decide | omega | decide +kernel)) (cwV 1 hts gL_isKept_X0_isMarket rfl rfl rfl (by decide +kernel) ⟨Nat.le_of_ble_eq_true rfl, Nat.le_of_ble_eq_true rfl⟩) hK hP hD hS hA [0, 1, 2, 3] rfl rfl rfl 0 0 rfl rfl rfl hl.1 rfl (lv_room (Nat.le_of_ble_eq_true rfl)) dL_isKept_54 ⟨Nat.le_of_ble_eq_true rfl, Nat.le_of_ble_eq_true rfl⟩ (fun r H locs hr hP hS => ?_)
  obtain rfl : r = (pz_b (1095741 % 8 = 0)) := hr
  refine pn_top (y := (nI 0)) (pz_bf (by decide +kernel)).symm ?_
  refine pi_icmp_ne (tgt := 69) (a := (0)) (b := (0)) hx hb (by decide +kernel) (by decide +kernel) dL_isKept_57 (by decide) (fun h9 => absurd h9 (by decide)) (fun _ => ?_)
  refine lv_iload_n hx hb dL_isKept_60 rfl (lv_at hl 0 rfl) ?_
  refine lv_iconst (v := (-1 : Int32)) hx hb dL_isKept_61 (by decide) ?_
  refine pi_icmp_lt (tgt := 69) (a := (1095749)) (b := (-1)) hx hb (by decide +kernel) (by decide +kernel) dL_isKept_62 (by decide) (fun h9 => absurd h9 (by decide)) (fun _ => ?_)
  refine lv_iconst (v := (nI 1)) hx hb dL_isKept_65 (by decide) ?_
  refine lv_goto (tgt := 70) hx hb dL_isKept_66 (by decide) ?_
  refine lv_istore (lv' := [(4, .int (nI 1)), (3, .int (nI 1095749)), (2, .int (nI 2)), (0, .ref h0), (1, .int (nI 1095749))]) hx hb dL_isKept_70 hl (by decide) rfl (fun ls hl => ?_)
  refine lv_iload_n hx hb dL_isKept_72 rfl (lv_at hl 4 rfl) ?_
  refine lv_istore (lv' := [(5, .int (nI 1095749)), (4, .int (nI 1)), (3, .int (nI 1095749)), (2, .int (nI 2)), (0, .ref h0), (1, .int (nI 1095749))]) hx hb dL_isKept_73 hl (by decide) rfl (fun ls hl => ?_)
  refine lv_iload hx hb dL_isKept_75 (lv_at hl 0 rfl) ?_
  refine lv_iload_n hx hb dL_isKept_77 rfl (lv_at hl 5 rfl) ?_
  refine lv_bipush (v := (nI 12)) hx hb dL_isKept_78 (by decide) ?_
  refine lv_iadd hx hb dL_isKept_80 ?_
  refine pn_top (y := (nI 1095761)) (by decide +kernel) ?_
  refine pi_icmp_ge (tgt := 185) (a := (1095749)) (b := (1095761)) hx hb (by decide +kernel) (by decide +kernel) dL_isKept_81 (by decide) (fun h9 => absurd h9 (by decide)) (fun _ => ?_)
  refine lv_iload hx hb dL_isKept_84 (lv_at hl 0 rfl) ?_
  refine lv_aload_n hx hb dL_isKept_86 rfl (lv_at hl 4 rfl) ?_
  refine pz_VR (rest := [.int (nI 1095749)]) ⟨hx, hb, hml, hown, hts⟩ (k_X0_days l D h0 ac ay ap cyI ts 0 (pq_c 12) pq_z pq_z  ) (cwV 0 hts gL_isKept_X0_days rfl rfl rfl (by decide +kernel) ⟨Nat.le_of_ble_eq_true rfl, Nat.le_of_ble_eq_true rfl⟩) hK hP hD hS hA [0, 1, 2, 3] rfl rfl rfl 0 0 rfl rfl rfl hl.1 rfl (lv_room (Nat.le_of_ble_eq_true rfl)) dL_isKept_87 ⟨Nat.le_of_ble_eq_true rfl, Nat.le_of_ble_eq_true rfl⟩ (fun r H locs hr hP hS => ?_)
  obtain rfl : r = (nI 1095750) := hr
  refine pi_icmp_ge (tgt := 185) (a := (1095749)) (b := (1095750)) hx hb (by decide +kernel) (by decide +kernel) dL_isKept_90 (by decide) (fun h9 => absurd h9 (by decide)) (fun _ => ?_)
  refine lv_iload hx hb dL_isKept_93 (lv_at hl 1 rfl) ?_
  refine pi_if_eq (tgt := 185) (a := (1)) hx hb (by decide +kernel) dL_isKept_95 (by decide) (fun h9 => absurd h9 (by decide)) (fun _ => ?_)
  refine lv_aload_n hx hb dL_isKept_98 rfl (lv_at hl 4 rfl) ?_
  refine lv_iload hx hb dL_isKept_99 (lv_at hl 0 rfl) ?_
  refine pz_VR (rest := []) ⟨hx, hb, hml, hown, hts⟩ (k_X0_characterOf l D h0 ac ay ap cyI ts 0 (pq_c 12) pq_z pq_z 1095749 (by first | exact pq_c3 | decide | omega | decide +kernel)) (cwV 1 hts gL_isKept_X0_characterOf rfl rfl rfl (by decide +kernel) ⟨Nat.le_of_ble_eq_true rfl, Nat.le_of_ble_eq_true rfl⟩) hK hP hD hS hA [0, 1, 2, 3] rfl rfl rfl 0 0 rfl rfl rfl hl.1 rfl (lv_room (Nat.le_of_ble_eq_true rfl)) dL_isKept_101 ⟨Nat.le_of_ble_eq_true rfl, Nat.le_of_ble_eq_true rfl⟩ (fun r H locs hr hP hS => ?_)
  obtain rfl : r = (nI ((pq_c 12) (pm_pl 1095749 - 1))) := hr
  refine pn_top (y := (nI 2)) (congrArg nI (by decide +kernel)) ?_
  refine lv_istore (lv' := [(6, .int (nI 2)), (5, .int (nI 1095749)), (4, .int (nI 1)), (3, .int (nI 1095749)), (2, .int (nI 2)), (0, .ref h0), (1, .int (nI 1095749))]) hx hb dL_isKept_104 hl (by decide) rfl (fun ls hl => ?_)
  refine lv_iload hx hb dL_isKept_106 (lv_at hl 0 rfl) ?_
  refine pi_if_eq (tgt := 117) (a := (2)) hx hb (by decide +kernel) dL_isKept_108 (by decide) (fun h9 => absurd h9 (by decide)) (fun _ => ?_)
  refine lv_iload hx hb dL_isKept_111 (lv_at hl 0 rfl) ?_
  refine lv_iconst (v := (nI 2)) hx hb dL_isKept_113 (by decide) ?_
  refine pi_icmp_ne (tgt := 121) (a := (2)) (b := (2)) hx hb (by decide +kernel) (by decide +kernel) dL_isKept_114 (by decide) (fun h9 => absurd h9 (by decide)) (fun _ => ?_)
  refine lv_iconst (v := (nI 1)) hx hb dL_isKept_117 (by decide) ?_
  refine lv_goto (tgt := 122) hx hb dL_isKept_118 (by decide) ?_
  refine lv_istore (lv' := [(7, .int (nI 1)), (6, .int (nI 2)), (5, .int (nI 1095749)), (4, .int (nI 1)), (3, .int (nI 1095749)), (2, .int (nI 2)), (0, .ref h0), (1, .int (nI 1095749))]) hx hb dL_isKept_122 hl (by decide) rfl (fun ls hl => ?_)
  refine lv_iload_n hx hb dL_isKept_124 rfl (lv_at hl 4 rfl) ?_
  refine lv_iconst (v := (-1 : Int32)) hx hb dL_isKept_125 (by decide) ?_
  refine pi_icmp_ne (tgt := 142) (a := (1095749)) (b := (-1)) hx hb (by decide +kernel) (by decide +kernel) dL_isKept_126 (by decide) (fun _ => ?_) (fun h9 => absurd h9 (by decide))
  refine lv_iload hx hb dL_isKept_142 (lv_at hl 2 rfl) ?_
  refine lv_iload_n hx hb dL_isKept_144 rfl (lv_at hl 4 rfl) ?_
  refine pi_icmp_ge (tgt := 161) (a := (1095749)) (b := (1095749)) hx hb (by decide +kernel) (by decide +kernel) dL_isKept_145 (by decide) (fun _ => ?_) (fun h9 => absurd h9 (by decide))
  refine lv_iload hx hb dL_isKept_161 (lv_at hl 2 rfl) ?_
  refine lv_iload_n hx hb dL_isKept_163 rfl (lv_at hl 4 rfl) ?_
  refine pi_icmp_gt (tgt := 172) (a := (1095749)) (b := (1095749)) hx hb (by decide +kernel) (by decide +kernel) dL_isKept_164 (by decide) (fun h9 => absurd h9 (by decide)) (fun _ => ?_)
  refine lv_iload hx hb dL_isKept_167 (lv_at hl 0 rfl) ?_
  refine pi_if_eq (tgt := 176) (a := (1)) hx hb (by decide +kernel) dL_isKept_169 (by decide) (fun h9 => absurd h9 (by decide)) (fun _ => ?_)
  refine lv_iconst (v := (nI 1)) hx hb dL_isKept_172 (by decide) ?_
  refine lv_goto (tgt := 177) hx hb dL_isKept_173 (by decide) ?_
  refine lv_istore (lv' := [(4, .int (nI 1)), (7, .int (nI 1)), (6, .int (nI 2)), (5, .int (nI 1095749)), (3, .int (nI 1095749)), (2, .int (nI 2)), (0, .ref h0), (1, .int (nI 1095749))]) hx hb dL_isKept_177 hl (by decide) rfl (fun ls hl => ?_)
  refine lv_iinc (v := (nI 1095750)) (lv' := [(5, .int (nI 1095750)), (4, .int (nI 1)), (7, .int (nI 1)), (6, .int (nI 2)), (3, .int (nI 1095749)), (2, .int (nI 2)), (0, .ref h0), (1, .int (nI 1095749))]) hx hb dL_isKept_179 hl (k := 3) rfl (by decide +kernel) (by decide) rfl (fun ls hl => ?_)
  refine lv_goto (tgt := 75) hx hb dL_isKept_182 (by decide) ?_
  refine lv_iload hx hb dL_isKept_75 (lv_at hl 0 rfl) ?_
  refine lv_iload_n hx hb dL_isKept_77 rfl (lv_at hl 7 rfl) ?_
  refine lv_bipush (v := (nI 12)) hx hb dL_isKept_78 (by decide) ?_
  refine lv_iadd hx hb dL_isKept_80 ?_
  refine pn_top (y := (nI 1095761)) (by decide +kernel) ?_
  refine pi_icmp_ge (tgt := 185) (a := (1095750)) (b := (1095761)) hx hb (by decide +kernel) (by decide +kernel) dL_isKept_81 (by decide) (fun h9 => absurd h9 (by decide)) (fun _ => ?_)
  refine lv_iload hx hb dL_isKept_84 (lv_at hl 0 rfl) ?_
  refine lv_aload_n hx hb dL_isKept_86 rfl (lv_at hl 6 rfl) ?_
  refine pz_VR (rest := [.int (nI 1095750)]) ⟨hx, hb, hml, hown, hts⟩ (k_X0_days l D h0 ac ay ap cyI ts 0 (pq_c 12) pq_z pq_z  ) (cwV 0 hts gL_isKept_X0_days rfl rfl rfl (by decide +kernel) ⟨Nat.le_of_ble_eq_true rfl, Nat.le_of_ble_eq_true rfl⟩) hK hP hD hS hA [0, 1, 2, 3] rfl rfl rfl 0 0 rfl rfl rfl hl.1 rfl (lv_room (Nat.le_of_ble_eq_true rfl)) dL_isKept_87 ⟨Nat.le_of_ble_eq_true rfl, Nat.le_of_ble_eq_true rfl⟩ (fun r H locs hr hP hS => ?_)
  obtain rfl : r = (nI 1095750) := hr
  refine pi_icmp_ge (tgt := 185) (a := (1095750)) (b := (1095750)) hx hb (by decide +kernel) (by decide +kernel) dL_isKept_90 (by decide) (fun _ => ?_) (fun h9 => absurd h9 (by decide))
  refine lv_iload hx hb dL_isKept_185 (lv_at hl 1 rfl) ?_
  exact hQ _ _ _ _ _ dL_isKept_187 (by decide) (congrArg nI (by rfl)) hS
set_option maxHeartbeats 4000000 in
set_option maxRecDepth 100000 in
theorem k_L_isYear_1 (l : Launch) (D : va_G) (h0 ac ay ap : Nat) (cyI : ClassId) (ts : List (ClassId × FieldType))   : pz_R l yL_isYear wsL_isYear ({ frames := 5, cells := 0, slots := 0, locals := 105 } : Room) D ((cyI, .int) :: ts) [.ref h0, .int (nI 1)] [(h0, .inr (0, [.ref ac, .ref ay, .ref ap, .int (nI 0)])), (ac, .inl (cyI, 365, .inl (pz_ar (pq_c 12)))), (ay, .inl (cyI, 60, .inl (pz_ar pq_z))), (ap, .inl (cyI, 60, .inl (pz_ar pq_z)))] (fun r => r = nI 1) := by
  refine pz_R_of (cc := cL_isYear) (maxL := 8) (ty := .boolean) (own := RL) (by decide) rfl rfl (Nat.le_of_ble_eq_true rfl) ?_
  intro p e s m below meth c A ls Q hx hb hml hown hts hK hP hD hS hA hl hQ
  have hl : lv_has ls 8 [(0, .ref h0), (1, .int (nI 1))] := hl
  refine lv_aload_n hx hb dL_isYear_0 rfl (lv_at hl 0 rfl) ?_
  refine lv_iload_n hx hb dL_isYear_1 rfl (lv_at hl 1 rfl) ?_
  refine pz_VR (rest := []) ⟨hx, hb, hml, hown, hts⟩ (k_X0_marketLetters l D h0 ac ay ap cyI ts 0 (pq_c 12) pq_z pq_z 1 (by first | exact pq_c3 | decide | omega | decide +kernel) (by first | exact pq_c3 | decide | omega | decide +kernel) (by first | exact pq_c3 | decide | omega | decide +kernel)) (cwV 1 hts gL_isYear_X0_marketLetters rfl rfl rfl (by decide +kernel) ⟨Nat.le_of_ble_eq_true rfl, Nat.le_of_ble_eq_true rfl⟩) hK hP hD hS hA [0, 1, 2, 3] rfl rfl rfl 0 0 rfl rfl rfl hl.1 rfl (lv_room (Nat.le_of_ble_eq_true rfl)) dL_isYear_2 ⟨Nat.le_of_ble_eq_true rfl, Nat.le_of_ble_eq_true rfl⟩ (fun r H locs hr hP hS => ?_)
  obtain rfl : r = (nI (10 * ((pm_pl (pm_fd 1 + ((((0 : Nat) : Int) - ((pm_fd 1 : Nat) : Int)) % 8).toNat) - 1) % 8) + (pm_pl (pm_fd (1 + 1) - 1 - ((((pm_fd (1 + 1) - 1 : Nat) : Int) - ((0 : Nat) : Int)) % 8).toNat) - 1) % 8)) := hr
  refine pn_top (y := (nI 0)) (congrArg nI (by decide +kernel)) ?_
  refine lv_istore_n (lv' := [(2, .int (nI 0)), (0, .ref h0), (1, .int (nI 1))]) hx hb dL_isYear_5 rfl hl (by decide) rfl (fun ls hl => ?_)
  refine lv_aload_n hx hb dL_isYear_6 rfl (lv_at hl 1 rfl) ?_
  refine lv_iload_n hx hb dL_isYear_7 rfl (lv_at hl 2 rfl) ?_
  refine pz_VR (rest := []) ⟨hx, hb, hml, hown, hts⟩ (k_X0_sundayLetters l D h0 ac ay ap cyI ts 0 (pq_c 12) pq_z pq_z 1 (by first | exact pq_c3 | decide | omega | decide +kernel) (by first | exact pq_c3 | decide | omega | decide +kernel)) (cwV 1 hts gL_isYear_X0_sundayLetters rfl rfl rfl (by decide +kernel) ⟨Nat.le_of_ble_eq_true rfl, Nat.le_of_ble_eq_true rfl⟩) hK hP hD hS hA [0, 1, 2, 3] rfl rfl rfl 0 0 rfl rfl rfl hl.1 rfl (lv_room (Nat.le_of_ble_eq_true rfl)) dL_isYear_8 ⟨Nat.le_of_ble_eq_true rfl, Nat.le_of_ble_eq_true rfl⟩ (fun r H locs hr hP hS => ?_)
  obtain rfl : r = (nI (10 * ((pm_pl (pm_fd 1 + ((((1 : Nat) : Int) - ((pm_fd 1 : Nat) : Int)) % 7).toNat) - 1) % 7) + (pm_pl (pm_fd (1 + 1) - 1 - ((((pm_fd (1 + 1) - 1 : Nat) : Int) - ((1 : Nat) : Int)) % 7).toNat) - 1) % 7)) := hr
  refine pn_top (y := (nI 11)) (congrArg nI (by decide +kernel)) ?_
  refine lv_istore_n (lv' := [(3, .int (nI 11)), (2, .int (nI 0)), (0, .ref h0), (1, .int (nI 1))]) hx hb dL_isYear_11 rfl hl (by decide) rfl (fun ls hl => ?_)
  refine lv_aload_n hx hb dL_isYear_12 rfl (lv_at hl 2 rfl) ?_
  refine lv_iload_n hx hb dL_isYear_13 rfl (lv_at hl 3 rfl) ?_
  refine pz_VR (rest := []) ⟨hx, hb, hml, hown, hts⟩ (k_X0_votes l D h0 ac ay ap cyI ts 0 (pq_c 12) pq_z pq_z 1 (by first | exact pq_c3 | decide | omega | decide +kernel) (by first | exact pq_c3 | decide | omega | decide +kernel) (by first | exact pq_c3 | decide | omega | decide +kernel) (by first | exact pq_c3 | decide | omega | decide +kernel)) (cwV 1 hts gL_isYear_X0_votes rfl rfl rfl (by decide +kernel) ⟨Nat.le_of_ble_eq_true rfl, Nat.le_of_ble_eq_true rfl⟩) hK hP hD hS hA [0, 1, 2, 3] rfl rfl rfl 0 0 rfl rfl rfl hl.1 rfl (lv_room (Nat.le_of_ble_eq_true rfl)) dL_isYear_14 ⟨Nat.le_of_ble_eq_true rfl, Nat.le_of_ble_eq_true rfl⟩ (fun r H locs hr hP hS => ?_)
  obtain rfl : r = (nI (pm_vc (pm_sh (pq_c 12)) 0 (pm_fd 1) (pm_fd (1 + 1) - pm_fd 1))) := hr
  refine pn_top (y := (nI 288)) (congrArg nI (by decide +kernel)) ?_
  refine lv_istore (lv' := [(4, .int (nI 288)), (3, .int (nI 11)), (2, .int (nI 0)), (0, .ref h0), (1, .int (nI 1))]) hx hb dL_isYear_17 hl (by decide) rfl (fun ls hl => ?_)
  refine lv_aload_n hx hb dL_isYear_19 rfl (lv_at hl 3 rfl) ?_
  refine lv_iload_n hx hb dL_isYear_20 rfl (lv_at hl 4 rfl) ?_
  refine pz_VR (rest := []) ⟨hx, hb, hml, hown, hts⟩ (k_X0_consulsOf l D h0 ac ay ap cyI ts 0 (pq_c 12) pq_z pq_z 1 (by first | exact pq_c3 | decide | omega | decide +kernel) (by first | exact pq_c3 | decide | omega | decide +kernel) (by first | exact pq_c3 | decide | omega | decide +kernel) (by first | exact pq_c3 | decide | omega | decide +kernel)) (cwV 1 hts gL_isYear_X0_consulsOf rfl rfl rfl (by decide +kernel) ⟨Nat.le_of_ble_eq_true rfl, Nat.le_of_ble_eq_true rfl⟩) hK hP hD hS hA [0, 1, 2, 3] rfl rfl rfl 0 0 rfl rfl rfl hl.1 rfl (lv_room (Nat.le_of_ble_eq_true rfl)) dL_isYear_21 ⟨Nat.le_of_ble_eq_true rfl, Nat.le_of_ble_eq_true rfl⟩ (fun r H locs hr hP hS => ?_)
  have hr_4 : (fun r => (r = (-1) ∧ ∀ j, j < 60 → ¬ pq_z j = 1) ∨ ∃ i, i < 60 ∧ r = nI (pq_z i) ∧ pq_z i = 1) r := hr
  obtain ⟨r_4, er_4⟩ : ∃ z, z = r := ⟨_, rfl⟩
  subst er_4
  obtain rfl : r_4 = (-1 : Int32) := by rcases hr_4 with ⟨h, _⟩ | ⟨i, _, _, h⟩; (exact h); (exact absurd (show (0 : Nat) = 1 from h) (by decide))
  refine lv_istore (lv' := [(5, .int (-1 : Int32)), (4, .int (nI 288)), (3, .int (nI 11)), (2, .int (nI 0)), (0, .ref h0), (1, .int (nI 1))]) hx hb dL_isYear_24 hl (by decide) rfl (fun ls hl => ?_)
  refine lv_aload_n hx hb dL_isYear_26 rfl (lv_at hl 4 rfl) ?_
  refine lv_iload_n hx hb dL_isYear_27 rfl (lv_at hl 5 rfl) ?_
  refine pz_VR (rest := []) ⟨hx, hb, hml, hown, hts⟩ (k_X0_afterConsuls l D h0 ac ay ap cyI ts 0 (pq_c 12) pq_z pq_z 1 (by first | exact pq_c3 | decide | omega | decide +kernel) (by first | exact pq_c3 | decide | omega | decide +kernel) (by first | exact pq_c3 | decide | omega | decide +kernel)) (cwV 1 hts gL_isYear_X0_afterConsuls rfl rfl rfl (by decide +kernel) ⟨Nat.le_of_ble_eq_true rfl, Nat.le_of_ble_eq_true rfl⟩) hK hP hD hS hA [0, 1, 2, 3] rfl rfl rfl 0 0 rfl rfl rfl hl.1 rfl (lv_room (Nat.le_of_ble_eq_true rfl)) dL_isYear_28 ⟨Nat.le_of_ble_eq_true rfl, Nat.le_of_ble_eq_true rfl⟩ (fun r H locs hr hP hS => ?_)
  have hr_5 : (fun r => (r = (-1) ∧ ∀ j, j < 60 → pq_z j ≤ 1 → pq_z j = 0) ∨ ∃ i, i < 60 ∧ ¬ pq_z i = 0 ∧ pq_z i ≤ 1 ∧ r = nI (1 - pq_z i) ∧ ∀ j, j < 60 → pq_z j ≤ 1 → pq_z j ≤ pq_z i) r := hr
  obtain ⟨r_5, er_5⟩ : ∃ z, z = r := ⟨_, rfl⟩
  subst er_5
  obtain rfl : r_5 = (-1 : Int32) := by rcases hr_5 with ⟨h, _⟩ | ⟨i, _, h, _⟩; (exact h); (exact absurd rfl h)
  refine lv_istore (lv' := [(6, .int (-1 : Int32)), (5, .int (-1 : Int32)), (4, .int (nI 288)), (3, .int (nI 11)), (2, .int (nI 0)), (0, .ref h0), (1, .int (nI 1))]) hx hb dL_isYear_31 hl (by decide) rfl (fun ls hl => ?_)
  refine lv_iload hx hb dL_isYear_33 (lv_at hl 1 rfl) ?_
  refine pi_if_ge (tgt := 42) (a := (-1)) hx hb (by decide +kernel) dL_isYear_35 (by decide) (fun h9 => absurd h9 (by decide)) (fun _ => ?_)
  refine lv_iconst (v := (-1 : Int32)) hx hb dL_isYear_38 (by decide) ?_
  refine lv_goto (tgt := 59) hx hb dL_isYear_39 (by decide) ?_
  refine lv_istore (lv' := [(7, .int (-1 : Int32)), (6, .int (-1 : Int32)), (5, .int (-1 : Int32)), (4, .int (nI 288)), (3, .int (nI 11)), (2, .int (nI 0)), (0, .ref h0), (1, .int (nI 1))]) hx hb dL_isYear_59 hl (by decide) rfl (fun ls hl => ?_)
  refine lv_iload_n hx hb dL_isYear_61 rfl (lv_at hl 5 rfl) ?_
  refine pi_if_lt (tgt := 201) (a := (0)) hx hb (by decide +kernel) dL_isYear_62 (by decide) (fun h9 => absurd h9 (by decide)) (fun _ => ?_)
  refine lv_iload_n hx hb dL_isYear_65 rfl (lv_at hl 5 rfl) ?_
  refine lv_bipush (v := (nI 77)) hx hb dL_isYear_66 (by decide) ?_
  refine pi_icmp_gt (tgt := 201) (a := (0)) (b := (77)) hx hb (by decide +kernel) (by decide +kernel) dL_isYear_68 (by decide) (fun h9 => absurd h9 (by decide)) (fun _ => ?_)
  refine lv_iload_n hx hb dL_isYear_71 rfl (lv_at hl 5 rfl) ?_
  refine lv_bipush (v := (nI 10)) hx hb dL_isYear_72 (by decide) ?_
  refine lv_irem hx hb dL_isYear_74 (by decide +kernel) ?_
  refine pn_top (y := (nI 0)) (by decide +kernel) ?_
  refine lv_bipush (v := (nI 8)) hx hb dL_isYear_75 (by decide) ?_
  refine pi_icmp_ge (tgt := 201) (a := (0)) (b := (8)) hx hb (by decide +kernel) (by decide +kernel) dL_isYear_77 (by decide) (fun h9 => absurd h9 (by decide)) (fun _ => ?_)
  refine lv_iload_n hx hb dL_isYear_80 rfl (lv_at hl 4 rfl) ?_
  refine pi_if_lt (tgt := 201) (a := (11)) hx hb (by decide +kernel) dL_isYear_81 (by decide) (fun h9 => absurd h9 (by decide)) (fun _ => ?_)
  refine lv_iload_n hx hb dL_isYear_84 rfl (lv_at hl 4 rfl) ?_
  refine lv_bipush (v := (nI 66)) hx hb dL_isYear_85 (by decide) ?_
  refine pi_icmp_gt (tgt := 201) (a := (11)) (b := (66)) hx hb (by decide +kernel) (by decide +kernel) dL_isYear_87 (by decide) (fun h9 => absurd h9 (by decide)) (fun _ => ?_)
  refine lv_iload_n hx hb dL_isYear_90 rfl (lv_at hl 4 rfl) ?_
  refine lv_bipush (v := (nI 10)) hx hb dL_isYear_91 (by decide) ?_
  refine lv_irem hx hb dL_isYear_93 (by decide +kernel) ?_
  refine pn_top (y := (nI 1)) (by decide +kernel) ?_
  refine lv_bipush (v := (nI 7)) hx hb dL_isYear_94 (by decide) ?_
  refine pi_icmp_ge (tgt := 201) (a := (1)) (b := (7)) hx hb (by decide +kernel) (by decide +kernel) dL_isYear_96 (by decide) (fun h9 => absurd h9 (by decide)) (fun _ => ?_)
  refine lv_iload hx hb dL_isYear_99 (lv_at hl 3 rfl) ?_
  refine pi_if_lt (tgt := 201) (a := (288)) hx hb (by decide +kernel) dL_isYear_101 (by decide) (fun h9 => absurd h9 (by decide)) (fun _ => ?_)
  refine lv_iload hx hb dL_isYear_104 (lv_at hl 3 rfl) ?_
  refine lv_sipush (v := (nI 321)) hx hb dL_isYear_106 (by decide) ?_
  refine pi_icmp_gt (tgt := 201) (a := (288)) (b := (321)) hx hb (by decide +kernel) (by decide +kernel) dL_isYear_109 (by decide) (fun h9 => absurd h9 (by decide)) (fun _ => ?_)
  refine lv_iload hx hb dL_isYear_112 (lv_at hl 1 rfl) ?_
  refine pi_if_ne (tgt := 121) (a := (-1)) hx hb (by decide +kernel) dL_isYear_114 (by decide) (fun _ => ?_) (fun h9 => absurd h9 (by decide))
  refine lv_iconst (v := (nI 0)) hx hb dL_isYear_121 (by decide) ?_
  refine lv_iload hx hb dL_isYear_122 (lv_at hl 2 rfl) ?_
  refine pi_if_le (tgt := 131) (a := (-1)) hx hb (by decide +kernel) dL_isYear_124 (by decide) (fun _ => ?_) (fun h9 => absurd h9 (by decide))
  refine lv_iconst (v := (nI 0)) hx hb dL_isYear_131 (by decide) ?_
  refine pi_icmp_ne (tgt := 201) (a := (0)) (b := (0)) hx hb (by decide +kernel) (by decide +kernel) dL_isYear_132 (by decide) (fun h9 => absurd h9 (by decide)) (fun _ => ?_)
  refine lv_iload hx hb dL_isYear_135 (lv_at hl 1 rfl) ?_
  refine lv_iconst (v := (nI 1)) hx hb dL_isYear_137 (by decide) ?_
  refine pi_icmp_lt (tgt := 180) (a := (-1)) (b := (1)) hx hb (by decide +kernel) (by decide +kernel) dL_isYear_138 (by decide) (fun _ => ?_) (fun h9 => absurd h9 (by decide))
  refine lv_iload hx hb dL_isYear_180 (lv_at hl 2 rfl) ?_
  refine pi_if_lt (tgt := 197) (a := (-1)) hx hb (by decide +kernel) dL_isYear_182 (by decide) (fun _ => ?_) (fun h9 => absurd h9 (by decide))
  refine lv_iconst (v := (nI 1)) hx hb dL_isYear_197 (by decide) ?_
  refine lv_goto (tgt := 202) hx hb dL_isYear_198 (by decide) ?_
  exact hQ _ _ _ _ _ dL_isYear_202 (by decide) (congrArg nI (by rfl)) hS
set_option maxHeartbeats 4000000 in
set_option maxRecDepth 100000 in
theorem k_L_strikes_x2 (l : Launch) (hfl : l.stackTraces = false) (D : va_G) (h0 ac ay ap : Nat) (cyI : ClassId) (ts : List (ClassId × FieldType))   : pz_RX l yL_strikes wsL_strikes ({ frames := 8, cells := 1, slots := 6, locals := 126 } : Room) D ((cyI, .int) :: ts) [.ref h0, .int (nI 1)] [(h0, .inr (0, [.ref ac, .ref ay, .ref ap, .int (nI 0)])), (ac, .inl (cyI, 365, .inl (pz_ar (pq_c 12)))), (ay, .inl (cyI, 60, .inl (pz_ar pq_z))), (ap, .inl (cyI, 60, .inl (pz_ar pq_z)))] (fun r => r = (-3 : Int32)) := by
  refine pz_RX_ofH (cc := cL_strikes) (maxL := 3) (ty := .int) (own := RL) (hh := [(0, 5, 6, 13)]) (by decide) rfl rfl (Nat.le_of_ble_eq_true rfl) ?_
  intro p e s m below meth c ls Q hx hb hml hown hts hK hP hD hS hl hth hnc htab hQ
  have hl : lv_has ls 3 [(0, .ref h0), (1, .int (nI 1))] := hl
  refine lv_aload_n hx hb dL_strikes_0 rfl (lv_at hl 0 rfl) ?_
  refine lv_iload_n hx hb dL_strikes_1 rfl (lv_at hl 1 rfl) ?_
  refine pz_VXK (E := "java/lang/IllegalStateException") (rest := []) ⟨hx, hb, hml, hown, hts⟩ (k_X0_strikeConsuls_x2 l hfl D h0 ac ay ap cyI ts 0 (pq_c 12) pq_z pq_z 1 (by first | exact pq_c3 | decide | omega | decide +kernel) (by first | exact pq_c3 | decide | omega | decide +kernel) (by first | exact pq_c3 | decide | omega | decide +kernel) (by first | exact pq_c3 | decide | omega | decide +kernel)) (cwV 1 hts gL_strikes_X0_strikeConsuls rfl rfl rfl (by decide +kernel) ⟨Nat.le_of_ble_eq_true rfl, Nat.le_of_ble_eq_true rfl⟩) hK hP hD hS hth [0, 1, 2, 3] rfl rfl rfl 0 0 rfl rfl rfl hl.1 rfl (lv_room (Nat.le_of_ble_eq_true rfl)) dL_strikes_2 ⟨Nat.le_of_ble_eq_true rfl, Nat.le_of_ble_eq_true rfl⟩ (fun ce q9 H locs hS hgr hce hcv hcl => ?_)
  refine vx_catch (own := RL) (name := "java/lang/IllegalStateException") hown [] ⟨0, 5, 6, 13⟩ [] (by rw [htab]; rfl) (fun z hz => nomatch hz) rfl (by decide) (hts (.classLink RL 13 "java/lang/IllegalStateException") (by decide +kernel)) (va_Nw.use rfl (hth.2.2.2.1 "java/lang/IllegalStateException" (by decide +kernel))) hce hcv hcl ?_
  refine lv_astore_n (lv' := [(2, .ref q9), (0, .ref h0), (1, .int (nI 1))]) hx hb dL_strikes_6 rfl hl (by decide) rfl (fun ls hl => ?_)
  refine lv_bipush (v := (-3 : Int32)) hx hb dL_strikes_7 (by decide) ?_
  exact hQ _ _ _ _ _ dL_strikes_9 rfl rfl hS hgr
end PZR
