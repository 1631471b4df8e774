section PZG
set_option maxHeartbeats 4000000 in
set_option maxRecDepth 100000 in
theorem k_L_counted (l : Launch) (D : va_G) (h0 ac ay ap : Nat) (cyI : ClassId) (ts : List (ClassId × FieldType)) (mk : Nat) (ch fy fp : Nat → Nat) (n : Nat) (hy0 : n < 1095750) : pz_R l yL_counted wsL_counted ({ frames := 4, cells := 0, slots := 0, locals := 92 } : Room) D ((cyI, .int) :: ts) [.ref h0, .int (nI (pm_yr n)), .int (nI (pm_am (pm_pl n))), .int (nI (pm_ap (pm_pl n))), .int (nI (pm_ct (pm_pl n))), .int (nI (pm_dl n))] [(h0, .inr (0, [.ref ac, .ref ay, .ref ap, .int (nI mk)])), (ac, .inl (cyI, 365, .inl (pz_ar ch))), (ay, .inl (cyI, 60, .inl (pz_ar fy))), (ap, .inl (cyI, 60, .inl (pz_ar fp)))] (fun r => r = nI n) := by
  refine pz_R_ofH (hh := [(0, 11, 12, 13)]) (cc := cL_counted) (maxL := 7) (ty := .int) (own := RL) (by decide) rfl rfl (Nat.le_of_ble_eq_true rfl) ?_
  intro p e s m below meth c A ls Q hx hb hml hown hts hK hP hD hS hA hl hQ
  have hl : lv_has ls 7 [(0, .ref h0), (1, .int (nI (pm_yr n))), (2, .int (nI (pm_am (pm_pl n)))), (3, .int (nI (pm_ap (pm_pl n)))), (4, .int (nI (pm_ct (pm_pl n)))), (5, .int (nI (pm_dl n)))] := hl
  have hB := pg_back n
  unfold pg_B at hB
  obtain ⟨hb1, hb2, hb3, hb4, hb5, hb6, hb7, hb8, hb9, hb10, hb11⟩ := hB
  have hy0_ := pm_yr_b (n := n) (by omega)
  have hm0_ := pm_mo_b n
  have hd0_ := pm_da_b n
  have hp0_ := pm_pl_b n
  have hln0_ := pm_ln_b (pm_yr n) (pm_mo n)
  have ha0_ := pm_ap_b (pm_pl n)
  have ham0_ := pm_am_b (pm_pl n)
  have hct0_ := pm_ct_b2 n
  have hdl0_ := pm_dl_b n
  have hlw0_ := pm_lw_b n
  have hgc_ := pm_gc_b (pm_am (pm_pl n)) (pm_ap (pm_pl n))
  refine lv_aload_n hx hb dL_counted_0 rfl (lv_at hl 0 rfl) ?_
  refine lv_iload_n hx hb dL_counted_1 rfl (lv_at hl 1 rfl) ?_
  refine lv_iload_n hx hb dL_counted_2 rfl (lv_at hl 2 rfl) ?_
  refine lv_iload_n hx hb dL_counted_3 rfl (lv_at hl 3 rfl) ?_
  refine lv_iload hx hb dL_counted_4 (lv_at hl 4 rfl) ?_
  refine lv_iload hx hb dL_counted_6 (lv_at hl 5 rfl) ?_
  refine pz_VR (rest := []) ⟨hx, hb, hml, hown, hts⟩ (k_X0_fromCount l D h0 ac ay ap cyI ts mk ch fy fp (pm_yr n) (pm_am (pm_pl n)) (pm_ap (pm_pl n)) (pm_ct (pm_pl n)) (pm_dl n) (by first | omega | exact hb5) (by first | omega | exact hb5) (by first | omega | exact hb5) (by first | omega | exact hb5) (by first | omega | exact hb5) (by first | omega | exact hb5) (by first | omega | exact hb5) (by first | omega | exact hb5) (by first | omega | exact hb5)) (cwV 5 hts gL_counted_X0_fromCount rfl rfl rfl (by decide +kernel) ⟨Nat.le_of_ble_eq_true rfl, Nat.le_of_ble_eq_true rfl⟩) hK hP hD hS hA [0, 1, 2, 3] rfl rfl rfl 0 0 rfl rfl rfl hl.1 rfl (lv_room (Nat.le_of_ble_eq_true rfl)) dL_counted_8 ⟨Nat.le_of_ble_eq_true rfl, Nat.le_of_ble_eq_true rfl⟩ (fun r H locs hr hP hS => ?_)
  obtain rfl : r = (nI (pm_fc (pm_yr n) (pm_am (pm_pl n)) (pm_ap (pm_pl n)) (pm_ct (pm_pl n)) (pm_dl n))) := hr
  exact hQ _ _ _ _ _ dL_counted_11 rfl (congrArg nI (by exact hb2)) hS
set_option maxHeartbeats 4000000 in
set_option maxRecDepth 100000 in
theorem k_L_isBack (l : Launch) (D : va_G) (h0 ac ay ap : Nat) (cyI : ClassId) (ts : List (ClassId × FieldType)) (mk : Nat) (ch fy fp : Nat → Nat) (n : Nat) (hy0 : n < 1095750) : pz_R l yL_isBack wsL_isBack ({ frames := 6, cells := 0, slots := 0, locals := 130 } : Room) D ((cyI, .int) :: ts) [.ref h0, .int (nI n)] [(h0, .inr (0, [.ref ac, .ref ay, .ref ap, .int (nI mk)])), (ac, .inl (cyI, 365, .inl (pz_ar ch))), (ay, .inl (cyI, 60, .inl (pz_ar fy))), (ap, .inl (cyI, 60, .inl (pz_ar fp)))] (fun r => r = nI 1) := by
  refine pz_R_of (cc := cL_isBack) (maxL := 8) (ty := .boolean) (own := RL) (by decide) rfl rfl (Nat.le_of_ble_eq_true rfl) ?_
  intro p e s m below meth c A ls Q hx hb hml hown hts hK hP hD hS hA hl hQ
  have hl : lv_has ls 8 [(0, .ref h0), (1, .int (nI n))] := hl
  have hB := pg_back n
  unfold pg_B at hB
  obtain ⟨hb1, hb2, hb3, hb4, hb5, hb6, hb7, hb8, hb9, hb10, hb11⟩ := hB
  have hy0_ := pm_yr_b (n := n) (by omega)
  have hm0_ := pm_mo_b n
  have hd0_ := pm_da_b n
  have hp0_ := pm_pl_b n
  have hln0_ := pm_ln_b (pm_yr n) (pm_mo n)
  have ha0_ := pm_ap_b (pm_pl n)
  have ham0_ := pm_am_b (pm_pl n)
  have hct0_ := pm_ct_b2 n
  have hdl0_ := pm_dl_b n
  have hlw0_ := pm_lw_b n
  have hgc_ := pm_gc_b (pm_am (pm_pl n)) (pm_ap (pm_pl n))
  have J348 : ∀ (H : Heap) (locs : List Loc) (ls : Array Slot), va_P D vwCl [(h0, .inr (0, [.ref ac, .ref ay, .ref ap, .int (nI mk)])), (ac, .inl (cyI, 365, .inl (pz_ar ch))), (ay, .inl (cyI, 60, .inl (pz_ar fy))), (ap, .inl (cyI, 60, .inl (pz_ar fp)))] H → va_S A s.heap H locs → lv_has ls 8 [(0, .ref h0), (1, .int (nI n)), (2, .int (nI (pm_yr n))), (3, .int (nI (pm_mo n))), (4, .int (nI (pm_da n))), (5, .int (nI (pm_ap (pm_pl n)))), (6, .int (nI (pm_pl n))), (7, .int (nI 1))] → W p l e ({ frames := 6, cells := 0, slots := 0, locals := 130 } : Room) s m ([.ref h0, .int (nI n)] : List Value).toArray below meth c H locs 0 0 Q (F0 m 348 ls []) := by
    intro H locs ls hP hS hl
    refine lv_aload_n hx hb dL_isBack_348 rfl (lv_at hl 0 rfl) ?_
    refine lv_iload_n hx hb dL_isBack_349 rfl (lv_at hl 1 rfl) ?_
    refine lv_iload_n hx hb dL_isBack_350 rfl (lv_at hl 1 rfl) ?_
    refine pz_VR (rest := []) ⟨hx, hb, hml, hown, hts⟩ (k_X0_lawDays l D h0 ac ay ap cyI ts mk ch fy fp n n (by first | omega | rfl) (by first | omega | rfl)) (cwV 2 hts gL_isBack_X0_lawDays rfl rfl rfl (by decide +kernel) ⟨Nat.le_of_ble_eq_true rfl, Nat.le_of_ble_eq_true rfl⟩) hK hP hD hS hA [0, 1, 2, 3] rfl rfl rfl 0 0 rfl rfl rfl hl.1 rfl (lv_room (Nat.le_of_ble_eq_true rfl)) dL_isBack_351 ⟨Nat.le_of_ble_eq_true rfl, Nat.le_of_ble_eq_true rfl⟩ (fun r H locs hr hP hS => ?_)
    obtain rfl : r = (nI (pm_lw n) - nI (pm_lw n)) := hr
    refine pn_top (y := nI ((pm_lw n) - (pm_lw n))) (pk_sub (by first | omega | rfl)) ?_
    refine pn_if_ne (tgt := 361) hx hb (by first | omega | rfl) dL_isBack_354 (by decide) (fun c_2 => ?_) (fun c_2 => ?_)
    · -- 354 yes
      exfalso; omega
    · -- 354 no
      refine lv_iconst (v := nI 1) hx hb dL_isBack_357 (by decide) ?_
      refine lv_goto (tgt := 362) hx hb dL_isBack_358 (by decide) ?_
      exact hQ _ _ _ _ _ dL_isBack_362 (by decide) (congrArg nI (by rfl)) hS
  have J330 : ∀ (H : Heap) (locs : List Loc) (ls : Array Slot), va_P D vwCl [(h0, .inr (0, [.ref ac, .ref ay, .ref ap, .int (nI mk)])), (ac, .inl (cyI, 365, .inl (pz_ar ch))), (ay, .inl (cyI, 60, .inl (pz_ar fy))), (ap, .inl (cyI, 60, .inl (pz_ar fp)))] H → va_S A s.heap H locs → lv_has ls 8 [(0, .ref h0), (1, .int (nI n)), (2, .int (nI (pm_yr n))), (3, .int (nI (pm_mo n))), (4, .int (nI (pm_da n))), (5, .int (nI (pm_ap (pm_pl n)))), (6, .int (nI (pm_pl n))), (7, .int (nI 1))] → W p l e ({ frames := 6, cells := 0, slots := 0, locals := 130 } : Room) s m ([.ref h0, .int (nI n)] : List Value).toArray below meth c H locs 0 0 Q (F0 m 330 ls []) := by
    intro H locs ls hP hS hl
    refine lv_iload_n hx hb dL_isBack_330 rfl (lv_at hl 3 rfl) ?_
    refine lv_iconst (v := nI 3) hx hb dL_isBack_331 (by decide) ?_
    refine pn_icmp_lt (tgt := 348) hx hb (by first | omega | rfl) (by first | omega | rfl) dL_isBack_332 (by decide) (fun c_3 => ?_) (fun c_3 => ?_)
    · -- 332 yes
      exact J348 H _ ls hP hS (lv_sub hl [0, 1, 2, 3, 4, 5, 6, 7] rfl)
    · -- 332 no
      refine lv_iload_n hx hb dL_isBack_335 rfl (lv_at hl 1 rfl) ?_
      refine lv_aload_n hx hb dL_isBack_336 rfl (lv_at hl 0 rfl) ?_
      refine lv_iload_n hx hb dL_isBack_337 rfl (lv_at hl 1 rfl) ?_
      refine pz_VR (rest := [.int (nI n)]) ⟨hx, hb, hml, hown, hts⟩ (k_X0_lawNumber l D h0 ac ay ap cyI ts mk ch fy fp n (by first | omega | rfl)) (cwV 1 hts gL_isBack_X0_lawNumber rfl rfl rfl (by decide +kernel) ⟨Nat.le_of_ble_eq_true rfl, Nat.le_of_ble_eq_true rfl⟩) hK hP hD hS hA [0, 1, 2, 3] rfl rfl rfl 0 0 rfl rfl rfl hl.1 rfl (lv_room (Nat.le_of_ble_eq_true rfl)) dL_isBack_338 ⟨Nat.le_of_ble_eq_true rfl, Nat.le_of_ble_eq_true rfl⟩ (fun r H locs hr hP hS => ?_)
      obtain rfl : r = (nI (pm_lw n)) := hr
      refine pn_isub hx hb (by first | omega | rfl) dL_isBack_341 ?_
      refine lv_iload_n hx hb dL_isBack_342 rfl (lv_at hl 2 rfl) ?_
      refine lv_iconst (v := nI 4) hx hb dL_isBack_343 (by decide) ?_
      refine pn_idiv hx hb (by first | omega | rfl) (by first | omega | rfl) (by first | omega | rfl) dL_isBack_344 ?_
      refine pn_icmp_ne (tgt := 361) hx hb (by first | omega | rfl) (by first | omega | rfl) dL_isBack_345 (by decide) (fun c_5 => ?_) (fun c_5 => ?_)
      · -- 345 yes
        exfalso; omega
      · -- 345 no
        exact J348 H _ ls hP hS (lv_sub hl [0, 1, 2, 3, 4, 5, 6, 7] rfl)
  have J307 : ∀ (H : Heap) (locs : List Loc) (ls : Array Slot), va_P D vwCl [(h0, .inr (0, [.ref ac, .ref ay, .ref ap, .int (nI mk)])), (ac, .inl (cyI, 365, .inl (pz_ar ch))), (ay, .inl (cyI, 60, .inl (pz_ar fy))), (ap, .inl (cyI, 60, .inl (pz_ar fp)))] H → va_S A s.heap H locs → lv_has ls 8 [(0, .ref h0), (1, .int (nI n)), (2, .int (nI (pm_yr n))), (3, .int (nI (pm_mo n))), (4, .int (nI (pm_da n))), (5, .int (nI (pm_ap (pm_pl n)))), (6, .int (nI (pm_pl n))), (7, .int (nI 1))] → W p l e ({ frames := 6, cells := 0, slots := 0, locals := 130 } : Room) s m ([.ref h0, .int (nI n)] : List Value).toArray below meth c H locs 0 0 Q (F0 m 307 ls []) := by
    intro H locs ls hP hS hl
    refine lv_aload_n hx hb dL_isBack_307 rfl (lv_at hl 0 rfl) ?_
    refine lv_iload_n hx hb dL_isBack_308 rfl (lv_at hl 1 rfl) ?_
    refine pz_VR (rest := []) ⟨hx, hb, hml, hown, hts⟩ (k_X0_isDoubled l D h0 ac ay ap cyI ts mk ch fy fp n (by first | omega | rfl)) (cwV 1 hts gL_isBack_X0_isDoubled rfl rfl rfl (by decide +kernel) ⟨Nat.le_of_ble_eq_true rfl, Nat.le_of_ble_eq_true rfl⟩) hK hP hD hS hA [0, 1, 2, 3] rfl rfl rfl 0 0 rfl rfl rfl hl.1 rfl (lv_room (Nat.le_of_ble_eq_true rfl)) dL_isBack_309 ⟨Nat.le_of_ble_eq_true rfl, Nat.le_of_ble_eq_true rfl⟩ (fun r H locs hr hP hS => ?_)
    obtain rfl : r = (pz_b (n % 1461 = 1149)) := hr
    refine pn_top (y := nI (pm_dl n)) (pg_dl n) ?_
    refine pn_if_eq (tgt := 330) hx hb (by first | omega | rfl) dL_isBack_312 (by decide) (fun c_7 => ?_) (fun c_7 => ?_)
    · -- 312 yes
      exact J330 H _ ls hP hS (lv_sub hl [0, 1, 2, 3, 4, 5, 6, 7] rfl)
    · -- 312 no
      refine lv_iload_n hx hb dL_isBack_315 rfl (lv_at hl 1 rfl) ?_
      refine lv_aload_n hx hb dL_isBack_316 rfl (lv_at hl 0 rfl) ?_
      refine lv_iload_n hx hb dL_isBack_317 rfl (lv_at hl 1 rfl) ?_
      refine pz_VR (rest := [.int (nI n)]) ⟨hx, hb, hml, hown, hts⟩ (k_X0_lawNumber l D h0 ac ay ap cyI ts mk ch fy fp n (by first | omega | rfl)) (cwV 1 hts gL_isBack_X0_lawNumber rfl rfl rfl (by decide +kernel) ⟨Nat.le_of_ble_eq_true rfl, Nat.le_of_ble_eq_true rfl⟩) hK hP hD hS hA [0, 1, 2, 3] rfl rfl rfl 0 0 rfl rfl rfl hl.1 rfl (lv_room (Nat.le_of_ble_eq_true rfl)) dL_isBack_318 ⟨Nat.le_of_ble_eq_true rfl, Nat.le_of_ble_eq_true rfl⟩ (fun r H locs hr hP hS => ?_)
      obtain rfl : r = (nI (pm_lw n)) := hr
      refine pn_isub hx hb (by first | omega | rfl) dL_isBack_321 ?_
      refine lv_iload_n hx hb dL_isBack_322 rfl (lv_at hl 2 rfl) ?_
      refine lv_iconst (v := nI 4) hx hb dL_isBack_323 (by decide) ?_
      refine pn_idiv hx hb (by first | omega | rfl) (by first | omega | rfl) (by first | omega | rfl) dL_isBack_324 ?_
      refine lv_iconst (v := nI 1) hx hb dL_isBack_325 (by decide) ?_
      refine pn_isub hx hb (by first | omega | rfl) dL_isBack_326 ?_
      refine pn_icmp_ne (tgt := 361) hx hb (by first | omega | rfl) (by first | omega | rfl) dL_isBack_327 (by decide) (fun c_9 => ?_) (fun c_9 => ?_)
      · -- 327 yes
        exfalso; omega
      · -- 327 no
        exact J330 H _ ls hP hS (lv_sub hl [0, 1, 2, 3, 4, 5, 6, 7] rfl)
  have J180 : ∀ (H : Heap) (locs : List Loc) (ls : Array Slot), va_P D vwCl [(h0, .inr (0, [.ref ac, .ref ay, .ref ap, .int (nI mk)])), (ac, .inl (cyI, 365, .inl (pz_ar ch))), (ay, .inl (cyI, 60, .inl (pz_ar fy))), (ap, .inl (cyI, 60, .inl (pz_ar fp)))] H → va_S A s.heap H locs → lv_has ls 8 [(0, .ref h0), (1, .int (nI n)), (2, .int (nI (pm_yr n))), (3, .int (nI (pm_mo n))), (4, .int (nI (pm_da n))), (5, .int (nI (pm_ap (pm_pl n)))), (6, .int (nI (pm_pl n))), (7, .int (nI 1))] → W p l e ({ frames := 6, cells := 0, slots := 0, locals := 130 } : Room) s m ([.ref h0, .int (nI n)] : List Value).toArray below meth c H locs 0 0 Q (F0 m 180 ls []) := by
    intro H locs ls hP hS hl
    refine lv_iload hx hb dL_isBack_180 (lv_at hl 7 rfl) ?_
    refine pn_if_eq (tgt := 268) hx hb (by first | omega | rfl) dL_isBack_182 (by decide) (fun c_10 => absurd c_10 (by decide)) (fun _ => ?_)
    refine lv_iload hx hb dL_isBack_185 (lv_at hl 6 rfl) ?_
    refine lv_iconst (v := nI 1) hx hb dL_isBack_187 (by decide) ?_
    refine pn_icmp_lt (tgt := 268) hx hb (by first | omega | rfl) (by first | omega | rfl) dL_isBack_188 (by decide) (fun c_11 => ?_) (fun c_11 => ?_)
    · -- 188 yes
      exfalso; omega
    · -- 188 no
      refine lv_iload hx hb dL_isBack_191 (lv_at hl 6 rfl) ?_
      refine lv_sipush (v := nI 365) hx hb dL_isBack_193 (by decide) ?_
      refine pn_icmp_gt (tgt := 268) hx hb (by first | omega | rfl) (by first | omega | rfl) dL_isBack_196 (by decide) (fun c_12 => ?_) (fun c_12 => ?_)
      · -- 196 yes
        exfalso; omega
      · -- 196 no
        refine lv_aload_n hx hb dL_isBack_199 rfl (lv_at hl 0 rfl) ?_
        refine lv_iload_n hx hb dL_isBack_200 rfl (lv_at hl 1 rfl) ?_
        refine pz_VR (rest := []) ⟨hx, hb, hml, hown, hts⟩ (k_X0_letterOfEight l D h0 ac ay ap cyI ts mk ch fy fp n (by first | omega | rfl)) (cwV 1 hts gL_isBack_X0_letterOfEight rfl rfl rfl (by decide +kernel) ⟨Nat.le_of_ble_eq_true rfl, Nat.le_of_ble_eq_true rfl⟩) hK hP hD hS hA [0, 1, 2, 3] rfl rfl rfl 0 0 rfl rfl rfl hl.1 rfl (lv_room (Nat.le_of_ble_eq_true rfl)) dL_isBack_201 ⟨Nat.le_of_ble_eq_true rfl, Nat.le_of_ble_eq_true rfl⟩ (fun r H locs hr hP hS => ?_)
        obtain rfl : r = (nI ((pm_pl n - 1) % 8)) := hr
        refine lv_iload hx hb dL_isBack_204 (lv_at hl 6 rfl) ?_
        refine lv_iconst (v := nI 1) hx hb dL_isBack_206 (by decide) ?_
        refine pn_isub hx hb (by first | omega | rfl) dL_isBack_207 ?_
        refine lv_bipush (v := nI 8) hx hb dL_isBack_208 (by decide) ?_
        refine pn_irem hx hb (by first | omega | rfl) (by first | omega | rfl) (by first | omega | rfl) dL_isBack_210 ?_
        refine pn_icmp_ne (tgt := 268) hx hb (by first | omega | rfl) (by first | omega | rfl) dL_isBack_211 (by decide) (fun c_14 => ?_) (fun c_14 => ?_)
        · -- 211 yes
          exfalso; omega
        · -- 211 no
          refine lv_aload_n hx hb dL_isBack_214 rfl (lv_at hl 0 rfl) ?_
          refine lv_iload_n hx hb dL_isBack_215 rfl (lv_at hl 1 rfl) ?_
          refine pz_VR (rest := []) ⟨hx, hb, hml, hown, hts⟩ (k_X0_letterOfSeven l D h0 ac ay ap cyI ts mk ch fy fp n (by first | omega | rfl)) (cwV 1 hts gL_isBack_X0_letterOfSeven rfl rfl rfl (by decide +kernel) ⟨Nat.le_of_ble_eq_true rfl, Nat.le_of_ble_eq_true rfl⟩) hK hP hD hS hA [0, 1, 2, 3] rfl rfl rfl 0 0 rfl rfl rfl hl.1 rfl (lv_room (Nat.le_of_ble_eq_true rfl)) dL_isBack_216 ⟨Nat.le_of_ble_eq_true rfl, Nat.le_of_ble_eq_true rfl⟩ (fun r H locs hr hP hS => ?_)
          obtain rfl : r = (nI ((pm_pl n - 1) % 7)) := hr
          refine lv_iload hx hb dL_isBack_219 (lv_at hl 6 rfl) ?_
          refine lv_iconst (v := nI 1) hx hb dL_isBack_221 (by decide) ?_
          refine pn_isub hx hb (by first | omega | rfl) dL_isBack_222 ?_
          refine lv_bipush (v := nI 7) hx hb dL_isBack_223 (by decide) ?_
          refine pn_irem hx hb (by first | omega | rfl) (by first | omega | rfl) (by first | omega | rfl) dL_isBack_225 ?_
          refine pn_icmp_ne (tgt := 268) hx hb (by first | omega | rfl) (by first | omega | rfl) dL_isBack_226 (by decide) (fun c_16 => ?_) (fun c_16 => ?_)
          · -- 226 yes
            exfalso; omega
          · -- 226 no
            refine lv_aload_n hx hb dL_isBack_229 rfl (lv_at hl 0 rfl) ?_
            refine lv_iload_n hx hb dL_isBack_230 rfl (lv_at hl 1 rfl) ?_
            refine pz_VR (rest := []) ⟨hx, hb, hml, hown, hts⟩ (k_X0_lawNumber l D h0 ac ay ap cyI ts mk ch fy fp n (by first | omega | rfl)) (cwV 1 hts gL_isBack_X0_lawNumber rfl rfl rfl (by decide +kernel) ⟨Nat.le_of_ble_eq_true rfl, Nat.le_of_ble_eq_true rfl⟩) hK hP hD hS hA [0, 1, 2, 3] rfl rfl rfl 0 0 rfl rfl rfl hl.1 rfl (lv_room (Nat.le_of_ble_eq_true rfl)) dL_isBack_231 ⟨Nat.le_of_ble_eq_true rfl, Nat.le_of_ble_eq_true rfl⟩ (fun r H locs hr hP hS => ?_)
            obtain rfl : r = (nI (pm_lw n)) := hr
            refine lv_sipush (v := nI 365) hx hb dL_isBack_234 (by decide) ?_
            refine lv_iload_n hx hb dL_isBack_237 rfl (lv_at hl 2 rfl) ?_
            refine lv_iconst (v := nI 1) hx hb dL_isBack_238 (by decide) ?_
            refine pn_isub hx hb (by first | omega | rfl) dL_isBack_239 ?_
            refine pn_imul hx hb dL_isBack_240 ?_
            refine lv_iload hx hb dL_isBack_241 (lv_at hl 6 rfl) ?_
            refine pn_iadd hx hb dL_isBack_243 ?_
            refine lv_iconst (v := nI 1) hx hb dL_isBack_244 (by decide) ?_
            refine pn_isub hx hb (by first | omega | rfl) dL_isBack_245 ?_
            refine pn_icmp_ne (tgt := 268) hx hb (by first | omega | rfl) (by first | omega | rfl) dL_isBack_246 (by decide) (fun c_18 => ?_) (fun c_18 => ?_)
            · -- 246 yes
              exfalso; omega
            · -- 246 no
              refine lv_aload_n hx hb dL_isBack_249 rfl (lv_at hl 0 rfl) ?_
              refine lv_iload_n hx hb dL_isBack_250 rfl (lv_at hl 1 rfl) ?_
              refine pz_VR (rest := []) ⟨hx, hb, hml, hown, hts⟩ (k_X0_weekdayOf l D h0 ac ay ap cyI ts mk ch fy fp n (by first | omega | rfl)) (cwV 1 hts gL_isBack_X0_weekdayOf rfl rfl rfl (by decide +kernel) ⟨Nat.le_of_ble_eq_true rfl, Nat.le_of_ble_eq_true rfl⟩) hK hP hD hS hA [0, 1, 2, 3] rfl rfl rfl 0 0 rfl rfl rfl hl.1 rfl (lv_room (Nat.le_of_ble_eq_true rfl)) dL_isBack_251 ⟨Nat.le_of_ble_eq_true rfl, Nat.le_of_ble_eq_true rfl⟩ (fun r H locs hr hP hS => ?_)
              obtain rfl : r = (nI ((n + 6) % 7)) := hr
              refine lv_iload_n hx hb dL_isBack_254 rfl (lv_at hl 1 rfl) ?_
              refine lv_bipush (v := nI 6) hx hb dL_isBack_255 (by decide) ?_
              refine pn_iadd hx hb dL_isBack_257 ?_
              refine lv_bipush (v := nI 7) hx hb dL_isBack_258 (by decide) ?_
              refine pn_irem hx hb (by first | omega | rfl) (by first | omega | rfl) (by first | omega | rfl) dL_isBack_260 ?_
              refine pn_icmp_ne (tgt := 268) hx hb (by first | omega | rfl) (by first | omega | rfl) dL_isBack_261 (by decide) (fun c_20 => ?_) (fun c_20 => ?_)
              · -- 261 yes
                exfalso; omega
              · -- 261 no
                refine lv_iconst (v := nI 1) hx hb dL_isBack_264 (by decide) ?_
                refine lv_goto (tgt := 269) hx hb dL_isBack_265 (by decide) ?_
                refine lv_istore (lv' := [(7, .int (nI 1)), (0, .ref h0), (1, .int (nI n)), (2, .int (nI (pm_yr n))), (3, .int (nI (pm_mo n))), (4, .int (nI (pm_da n))), (5, .int (nI (pm_ap (pm_pl n)))), (6, .int (nI (pm_pl n)))]) hx hb dL_isBack_269 hl (by decide) rfl (fun ls hl => ?_)
                refine lv_iload hx hb dL_isBack_271 (lv_at hl 0 rfl) ?_
                refine pn_if_eq (tgt := 361) hx hb (by first | omega | rfl) dL_isBack_273 (by decide) (fun c_21 => absurd c_21 (by decide)) (fun _ => ?_)
                refine lv_aload_n hx hb dL_isBack_276 rfl (lv_at hl 1 rfl) ?_
                refine lv_iload_n hx hb dL_isBack_277 rfl (lv_at hl 2 rfl) ?_
                refine pz_VR (rest := []) ⟨hx, hb, hml, hown, hts⟩ (k_X0_isDoubled l D h0 ac ay ap cyI ts mk ch fy fp n (by first | omega | rfl)) (cwV 1 hts gL_isBack_X0_isDoubled rfl rfl rfl (by decide +kernel) ⟨Nat.le_of_ble_eq_true rfl, Nat.le_of_ble_eq_true rfl⟩) hK hP hD hS hA [0, 1, 2, 3] rfl rfl rfl 0 0 rfl rfl rfl hl.1 rfl (lv_room (Nat.le_of_ble_eq_true rfl)) dL_isBack_278 ⟨Nat.le_of_ble_eq_true rfl, Nat.le_of_ble_eq_true rfl⟩ (fun r H locs hr hP hS => ?_)
                obtain rfl : r = (pz_b (n % 1461 = 1149)) := hr
                refine pn_top (y := nI (pm_dl n)) (pg_dl n) ?_
                refine lv_iload_n hx hb dL_isBack_281 rfl (lv_at hl 3 rfl) ?_
                refine lv_iconst (v := nI 4) hx hb dL_isBack_282 (by decide) ?_
                refine pn_irem hx hb (by first | omega | rfl) (by first | omega | rfl) (by first | omega | rfl) dL_isBack_283 ?_
                refine pn_if_ne (tgt := 303) hx hb (by first | omega | rfl) dL_isBack_284 (by decide) (fun c_23 => ?_) (fun c_23 => ?_)
                · -- 284 yes
                  refine lv_iconst (v := nI 0) hx hb dL_isBack_303 (by decide) ?_
                  refine pn_icmp_ne (tgt := 361) hx hb (by first | omega | rfl) (by first | omega | rfl) dL_isBack_304 (by decide) (fun c_24 => ?_) (fun c_24 => ?_)
                  · -- 304 yes
                    exfalso; omega
                  · -- 304 no
                    exact J307 H _ ls hP hS (lv_sub hl [1, 2, 3, 4, 5, 6, 7, 0] rfl)
                · -- 284 no
                  refine lv_iload_n hx hb dL_isBack_287 rfl (lv_at hl 4 rfl) ?_
                  refine lv_iconst (v := nI 2) hx hb dL_isBack_288 (by decide) ?_
                  refine pn_icmp_ne (tgt := 303) hx hb (by first | omega | rfl) (by first | omega | rfl) dL_isBack_289 (by decide) (fun c_25 => ?_) (fun c_25 => ?_)
                  · -- 289 yes
                    refine lv_iconst (v := nI 0) hx hb dL_isBack_303 (by decide) ?_
                    refine pn_icmp_ne (tgt := 361) hx hb (by first | omega | rfl) (by first | omega | rfl) dL_isBack_304 (by decide) (fun c_26 => ?_) (fun c_26 => ?_)
                    · -- 304 yes
                      exfalso; omega
                    · -- 304 no
                      exact J307 H _ ls hP hS (lv_sub hl [1, 2, 3, 4, 5, 6, 7, 0] rfl)
                  · -- 289 no
                    refine lv_iload hx hb dL_isBack_292 (lv_at hl 5 rfl) ?_
                    refine lv_bipush (v := nI 24) hx hb dL_isBack_294 (by decide) ?_
                    refine pn_icmp_ne (tgt := 303) hx hb (by first | omega | rfl) (by first | omega | rfl) dL_isBack_296 (by decide) (fun c_27 => ?_) (fun c_27 => ?_)
                    · -- 296 yes
                      refine lv_iconst (v := nI 0) hx hb dL_isBack_303 (by decide) ?_
                      refine pn_icmp_ne (tgt := 361) hx hb (by first | omega | rfl) (by first | omega | rfl) dL_isBack_304 (by decide) (fun c_28 => ?_) (fun c_28 => ?_)
                      · -- 304 yes
                        exfalso; omega
                      · -- 304 no
                        exact J307 H _ ls hP hS (lv_sub hl [1, 2, 3, 4, 5, 6, 7, 0] rfl)
                    · -- 296 no
                      refine lv_iconst (v := nI 1) hx hb dL_isBack_299 (by decide) ?_
                      refine lv_goto (tgt := 304) hx hb dL_isBack_300 (by decide) ?_
                      refine pn_icmp_ne (tgt := 361) hx hb (by first | omega | rfl) (by first | omega | rfl) dL_isBack_304 (by decide) (fun c_29 => ?_) (fun c_29 => ?_)
                      · -- 304 yes
                        exfalso; omega
                      · -- 304 no
                        exact J307 H _ ls hP hS (lv_sub hl [1, 2, 3, 4, 5, 6, 7, 0] rfl)
  refine lv_aload_n hx hb dL_isBack_0 rfl (lv_at hl 0 rfl) ?_
  refine lv_iload_n hx hb dL_isBack_1 rfl (lv_at hl 1 rfl) ?_
  refine pz_VR (rest := []) ⟨hx, hb, hml, hown, hts⟩ (k_X0_yearOf l D h0 ac ay ap cyI ts mk ch fy fp n (by first | omega | rfl)) (cwV 1 hts gL_isBack_X0_yearOf rfl rfl rfl (by decide +kernel) ⟨Nat.le_of_ble_eq_true rfl, Nat.le_of_ble_eq_true rfl⟩) hK hP hD hS hA [0, 1, 2, 3] rfl rfl rfl 0 0 rfl rfl rfl hl.1 rfl (lv_room (Nat.le_of_ble_eq_true rfl)) dL_isBack_2 ⟨Nat.le_of_ble_eq_true rfl, Nat.le_of_ble_eq_true rfl⟩ (fun r H locs hr hP hS => ?_)
  obtain rfl : r = (nI (pm_yr n)) := hr
  refine lv_istore_n (lv' := [(2, .int (nI (pm_yr n))), (0, .ref h0), (1, .int (nI n))]) hx hb dL_isBack_5 rfl hl (by decide) rfl (fun ls hl => ?_)
  refine lv_aload_n hx hb dL_isBack_6 rfl (lv_at hl 1 rfl) ?_
  refine lv_iload_n hx hb dL_isBack_7 rfl (lv_at hl 2 rfl) ?_
  refine pz_VR (rest := []) ⟨hx, hb, hml, hown, hts⟩ (k_X0_monthOf l D h0 ac ay ap cyI ts mk ch fy fp n (by first | omega | rfl)) (cwV 1 hts gL_isBack_X0_monthOf rfl rfl rfl (by decide +kernel) ⟨Nat.le_of_ble_eq_true rfl, Nat.le_of_ble_eq_true rfl⟩) hK hP hD hS hA [0, 1, 2, 3] rfl rfl rfl 0 0 rfl rfl rfl hl.1 rfl (lv_room (Nat.le_of_ble_eq_true rfl)) dL_isBack_8 ⟨Nat.le_of_ble_eq_true rfl, Nat.le_of_ble_eq_true rfl⟩ (fun r H locs hr hP hS => ?_)
  obtain rfl : r = (nI (pm_mo n)) := hr
  refine lv_istore_n (lv' := [(3, .int (nI (pm_mo n))), (2, .int (nI (pm_yr n))), (0, .ref h0), (1, .int (nI n))]) hx hb dL_isBack_11 rfl hl (by decide) rfl (fun ls hl => ?_)
  refine lv_aload_n hx hb dL_isBack_12 rfl (lv_at hl 2 rfl) ?_
  refine lv_iload_n hx hb dL_isBack_13 rfl (lv_at hl 3 rfl) ?_
  refine pz_VR (rest := []) ⟨hx, hb, hml, hown, hts⟩ (k_X0_dayOf l D h0 ac ay ap cyI ts mk ch fy fp n (by first | omega | rfl)) (cwV 1 hts gL_isBack_X0_dayOf rfl rfl rfl (by decide +kernel) ⟨Nat.le_of_ble_eq_true rfl, Nat.le_of_ble_eq_true rfl⟩) hK hP hD hS hA [0, 1, 2, 3] rfl rfl rfl 0 0 rfl rfl rfl hl.1 rfl (lv_room (Nat.le_of_ble_eq_true rfl)) dL_isBack_14 ⟨Nat.le_of_ble_eq_true rfl, Nat.le_of_ble_eq_true rfl⟩ (fun r H locs hr hP hS => ?_)
  obtain rfl : r = (nI (pm_da n)) := hr
  refine lv_istore (lv' := [(4, .int (nI (pm_da n))), (3, .int (nI (pm_mo n))), (2, .int (nI (pm_yr n))), (0, .ref h0), (1, .int (nI n))]) hx hb dL_isBack_17 hl (by decide) rfl (fun ls hl => ?_)
  refine lv_aload_n hx hb dL_isBack_19 rfl (lv_at hl 3 rfl) ?_
  refine lv_iload_n hx hb dL_isBack_20 rfl (lv_at hl 4 rfl) ?_
  refine pz_VR (rest := []) ⟨hx, hb, hml, hown, hts⟩ (k_X0_anchorOf l D h0 ac ay ap cyI ts mk ch fy fp n (by first | omega | rfl)) (cwV 1 hts gL_isBack_X0_anchorOf rfl rfl rfl (by decide +kernel) ⟨Nat.le_of_ble_eq_true rfl, Nat.le_of_ble_eq_true rfl⟩) hK hP hD hS hA [0, 1, 2, 3] rfl rfl rfl 0 0 rfl rfl rfl hl.1 rfl (lv_room (Nat.le_of_ble_eq_true rfl)) dL_isBack_21 ⟨Nat.le_of_ble_eq_true rfl, Nat.le_of_ble_eq_true rfl⟩ (fun r H locs hr hP hS => ?_)
  obtain rfl : r = (nI (pm_ap (pm_pl n))) := hr
  refine lv_istore (lv' := [(5, .int (nI (pm_ap (pm_pl n)))), (4, .int (nI (pm_da n))), (3, .int (nI (pm_mo n))), (2, .int (nI (pm_yr n))), (0, .ref h0), (1, .int (nI n))]) hx hb dL_isBack_24 hl (by decide) rfl (fun ls hl => ?_)
  refine lv_aload_n hx hb dL_isBack_26 rfl (lv_at hl 4 rfl) ?_
  refine lv_iload_n hx hb dL_isBack_27 rfl (lv_at hl 5 rfl) ?_
  refine pz_VR (rest := []) ⟨hx, hb, hml, hown, hts⟩ (k_X0_placeOf l D h0 ac ay ap cyI ts mk ch fy fp n (by first | omega | rfl)) (cwV 1 hts gL_isBack_X0_placeOf rfl rfl rfl (by decide +kernel) ⟨Nat.le_of_ble_eq_true rfl, Nat.le_of_ble_eq_true rfl⟩) hK hP hD hS hA [0, 1, 2, 3] rfl rfl rfl 0 0 rfl rfl rfl hl.1 rfl (lv_room (Nat.le_of_ble_eq_true rfl)) dL_isBack_28 ⟨Nat.le_of_ble_eq_true rfl, Nat.le_of_ble_eq_true rfl⟩ (fun r H locs hr hP hS => ?_)
  obtain rfl : r = (nI (pm_pl n)) := hr
  refine lv_istore (lv' := [(6, .int (nI (pm_pl n))), (5, .int (nI (pm_ap (pm_pl n)))), (4, .int (nI (pm_da n))), (3, .int (nI (pm_mo n))), (2, .int (nI (pm_yr n))), (0, .ref h0), (1, .int (nI n))]) hx hb dL_isBack_31 hl (by decide) rfl (fun ls hl => ?_)
  refine lv_aload_n hx hb dL_isBack_33 rfl (lv_at hl 5 rfl) ?_
  refine lv_iload_n hx hb dL_isBack_34 rfl (lv_at hl 4 rfl) ?_
  refine lv_iload_n hx hb dL_isBack_35 rfl (lv_at hl 3 rfl) ?_
  refine lv_iload hx hb dL_isBack_36 (lv_at hl 2 rfl) ?_
  refine pz_VR (rest := []) ⟨hx, hb, hml, hown, hts⟩ (k_X0_number l D h0 ac ay ap cyI ts mk ch fy fp (pm_yr n) (pm_mo n) (pm_da n) (by first | omega | rfl) (by first | omega | rfl) (by first | omega | rfl) (by first | omega | rfl) (by first | omega | rfl) (by first | omega | rfl)) (cwV 3 hts gL_isBack_X0_number rfl rfl rfl (by decide +kernel) ⟨Nat.le_of_ble_eq_true rfl, Nat.le_of_ble_eq_true rfl⟩) hK hP hD hS hA [0, 1, 2, 3] rfl rfl rfl 0 0 rfl rfl rfl hl.1 rfl (lv_room (Nat.le_of_ble_eq_true rfl)) dL_isBack_38 ⟨Nat.le_of_ble_eq_true rfl, Nat.le_of_ble_eq_true rfl⟩ (fun r H locs hr hP hS => ?_)
  obtain rfl : r = (nI (pm_fd (pm_yr n) + pm_db (pm_yr n) (pm_mo n) + (pm_da n) - 1)) := hr
  refine lv_iload_n hx hb dL_isBack_41 rfl (lv_at hl 6 rfl) ?_
  refine pn_icmp_ne (tgt := 116) hx hb (by first | omega | rfl) (by first | omega | rfl) dL_isBack_42 (by decide) (fun c_36 => ?_) (fun c_36 => ?_)
  · -- 42 yes
    exfalso; omega
  · -- 42 no
    refine lv_aload_n hx hb dL_isBack_45 rfl (lv_at hl 5 rfl) ?_
    refine lv_iload_n hx hb dL_isBack_46 rfl (lv_at hl 4 rfl) ?_
    refine lv_iload_n hx hb dL_isBack_47 rfl (lv_at hl 3 rfl) ?_
    refine lv_iload hx hb dL_isBack_48 (lv_at hl 2 rfl) ?_
    refine pz_VR (rest := []) ⟨hx, hb, hml, hown, hts⟩ (k_X0_numberByCounting l D h0 ac ay ap cyI ts mk ch fy fp (pm_yr n) (pm_mo n) (pm_da n) (by first | omega | rfl) (by first | omega | rfl) (by first | omega | rfl) (by first | omega | rfl) (by first | omega | rfl) (by first | omega | rfl)) (cwV 3 hts gL_isBack_X0_numberByCounting rfl rfl rfl (by decide +kernel) ⟨Nat.le_of_ble_eq_true rfl, Nat.le_of_ble_eq_true rfl⟩) hK hP hD hS hA [0, 1, 2, 3] rfl rfl rfl 0 0 rfl rfl rfl hl.1 rfl (lv_room (Nat.le_of_ble_eq_true rfl)) dL_isBack_50 ⟨Nat.le_of_ble_eq_true rfl, Nat.le_of_ble_eq_true rfl⟩ (fun r H locs hr hP hS => ?_)
    obtain rfl : r = (nI (pm_fd (pm_yr n) + pm_db (pm_yr n) (pm_mo n) + (pm_da n) - 1)) := hr
    refine lv_iload_n hx hb dL_isBack_53 rfl (lv_at hl 6 rfl) ?_
    refine pn_icmp_ne (tgt := 116) hx hb (by first | omega | rfl) (by first | omega | rfl) dL_isBack_54 (by decide) (fun c_38 => ?_) (fun c_38 => ?_)
    · -- 54 yes
      exfalso; omega
    · -- 54 no
      refine lv_aload_n hx hb dL_isBack_57 rfl (lv_at hl 5 rfl) ?_
      refine lv_iload_n hx hb dL_isBack_58 rfl (lv_at hl 4 rfl) ?_
      refine lv_aload_n hx hb dL_isBack_59 rfl (lv_at hl 5 rfl) ?_
      refine lv_iload_n hx hb dL_isBack_60 rfl (lv_at hl 6 rfl) ?_
      refine pz_VR (rest := [.int (nI (pm_yr n)), .ref h0]) ⟨hx, hb, hml, hown, hts⟩ (k_X0_anchorMonthOf l D h0 ac ay ap cyI ts mk ch fy fp n (by first | omega | rfl)) (cwV 1 hts gL_isBack_X0_anchorMonthOf rfl rfl rfl (by decide +kernel) ⟨Nat.le_of_ble_eq_true rfl, Nat.le_of_ble_eq_true rfl⟩) hK hP hD hS hA [0, 1, 2, 3] rfl rfl rfl 0 0 rfl rfl rfl hl.1 rfl (lv_room (Nat.le_of_ble_eq_true rfl)) dL_isBack_61 ⟨Nat.le_of_ble_eq_true rfl, Nat.le_of_ble_eq_true rfl⟩ (fun r H locs hr hP hS => ?_)
      obtain rfl : r = (nI (pm_am (pm_pl n))) := hr
      refine lv_iload hx hb dL_isBack_64 (lv_at hl 1 rfl) ?_
      refine lv_aload_n hx hb dL_isBack_66 rfl (lv_at hl 5 rfl) ?_
      refine lv_iload_n hx hb dL_isBack_67 rfl (lv_at hl 6 rfl) ?_
      refine pz_VR (rest := [.int (nI (pm_ap (pm_pl n))), .int (nI (pm_am (pm_pl n))), .int (nI (pm_yr n)), .ref h0]) ⟨hx, hb, hml, hown, hts⟩ (k_X0_countOf l D h0 ac ay ap cyI ts mk ch fy fp n (by first | omega | rfl)) (cwV 1 hts gL_isBack_X0_countOf rfl rfl rfl (by decide +kernel) ⟨Nat.le_of_ble_eq_true rfl, Nat.le_of_ble_eq_true rfl⟩) hK hP hD hS hA [0, 1, 2, 3] rfl rfl rfl 0 0 rfl rfl rfl hl.1 rfl (lv_room (Nat.le_of_ble_eq_true rfl)) dL_isBack_68 ⟨Nat.le_of_ble_eq_true rfl, Nat.le_of_ble_eq_true rfl⟩ (fun r H locs hr hP hS => ?_)
      obtain rfl : r = (nI (pm_ct (pm_pl n))) := hr
      refine lv_aload_n hx hb dL_isBack_71 rfl (lv_at hl 5 rfl) ?_
      refine lv_iload_n hx hb dL_isBack_72 rfl (lv_at hl 6 rfl) ?_
      refine pz_VR (rest := [.int (nI (pm_ct (pm_pl n))), .int (nI (pm_ap (pm_pl n))), .int (nI (pm_am (pm_pl n))), .int (nI (pm_yr n)), .ref h0]) ⟨hx, hb, hml, hown, hts⟩ (k_X0_isDoubled l D h0 ac ay ap cyI ts mk ch fy fp n (by first | omega | rfl)) (cwV 1 hts gL_isBack_X0_isDoubled rfl rfl rfl (by decide +kernel) ⟨Nat.le_of_ble_eq_true rfl, Nat.le_of_ble_eq_true rfl⟩) hK hP hD hS hA [0, 1, 2, 3] rfl rfl rfl 0 0 rfl rfl rfl hl.1 rfl (lv_room (Nat.le_of_ble_eq_true rfl)) dL_isBack_73 ⟨Nat.le_of_ble_eq_true rfl, Nat.le_of_ble_eq_true rfl⟩ (fun r H locs hr hP hS => ?_)
      obtain rfl : r = (pz_b (n % 1461 = 1149)) := hr
      refine pn_top (y := nI (pm_dl n)) (pg_dl n) ?_
      refine pz_SRW (rest := []) ⟨hx, hb, hml, hown, hts⟩ (k_L_counted l D h0 ac ay ap cyI ts mk ch fy fp n (by first | omega | rfl)) (vx_cwSW 6 hts gL_isBack_L_counted rfl rfl rfl (by decide +kernel) ⟨Nat.le_of_ble_eq_true rfl, Nat.le_of_ble_eq_true rfl⟩) hK hP hD hS hA [0, 1, 2, 3] rfl rfl rfl rfl hl.1 rfl (lv_room (Nat.le_of_ble_eq_true rfl)) dL_isBack_76 ⟨Nat.le_of_ble_eq_true rfl, Nat.le_of_ble_eq_true rfl⟩ (fun r H locs hr hP hS => ?_)
      obtain rfl : r = (nI n) := hr
      refine lv_iload_n hx hb dL_isBack_79 rfl (lv_at hl 6 rfl) ?_
      refine pn_icmp_ne (tgt := 116) hx hb (by first | omega | rfl) (by first | omega | rfl) dL_isBack_80 (by decide) (fun c_43 => ?_) (fun c_43 => ?_)
      · -- 80 yes
        exfalso; omega
      · -- 80 no
        refine lv_aload_n hx hb dL_isBack_83 rfl (lv_at hl 5 rfl) ?_
        refine lv_iload_n hx hb dL_isBack_84 rfl (lv_at hl 6 rfl) ?_
        refine pz_VR (rest := []) ⟨hx, hb, hml, hown, hts⟩ (k_X0_countOf l D h0 ac ay ap cyI ts mk ch fy fp n (by first | omega | rfl)) (cwV 1 hts gL_isBack_X0_countOf rfl rfl rfl (by decide +kernel) ⟨Nat.le_of_ble_eq_true rfl, Nat.le_of_ble_eq_true rfl⟩) hK hP hD hS hA [0, 1, 2, 3] rfl rfl rfl 0 0 rfl rfl rfl hl.1 rfl (lv_room (Nat.le_of_ble_eq_true rfl)) dL_isBack_85 ⟨Nat.le_of_ble_eq_true rfl, Nat.le_of_ble_eq_true rfl⟩ (fun r H locs hr hP hS => ?_)
        obtain rfl : r = (nI (pm_ct (pm_pl n))) := hr
        refine lv_iconst (v := nI 1) hx hb dL_isBack_88 (by decide) ?_
        refine pn_icmp_lt (tgt := 116) hx hb (by first | omega | rfl) (by first | omega | rfl) dL_isBack_89 (by decide) (fun c_45 => ?_) (fun c_45 => ?_)
        · -- 89 yes
          exfalso; omega
        · -- 89 no
          refine lv_aload_n hx hb dL_isBack_92 rfl (lv_at hl 5 rfl) ?_
          refine lv_iload_n hx hb dL_isBack_93 rfl (lv_at hl 6 rfl) ?_
          refine pz_VR (rest := []) ⟨hx, hb, hml, hown, hts⟩ (k_X0_countOf l D h0 ac ay ap cyI ts mk ch fy fp n (by first | omega | rfl)) (cwV 1 hts gL_isBack_X0_countOf rfl rfl rfl (by decide +kernel) ⟨Nat.le_of_ble_eq_true rfl, Nat.le_of_ble_eq_true rfl⟩) hK hP hD hS hA [0, 1, 2, 3] rfl rfl rfl 0 0 rfl rfl rfl hl.1 rfl (lv_room (Nat.le_of_ble_eq_true rfl)) dL_isBack_94 ⟨Nat.le_of_ble_eq_true rfl, Nat.le_of_ble_eq_true rfl⟩ (fun r H locs hr hP hS => ?_)
          obtain rfl : r = (nI (pm_ct (pm_pl n))) := hr
          refine lv_aload_n hx hb dL_isBack_97 rfl (lv_at hl 5 rfl) ?_
          refine lv_iload_n hx hb dL_isBack_98 rfl (lv_at hl 4 rfl) ?_
          refine lv_aload_n hx hb dL_isBack_99 rfl (lv_at hl 5 rfl) ?_
          refine lv_iload_n hx hb dL_isBack_100 rfl (lv_at hl 6 rfl) ?_
          refine pz_VR (rest := [.int (nI (pm_yr n)), .ref h0, .int (nI (pm_ct (pm_pl n)))]) ⟨hx, hb, hml, hown, hts⟩ (k_X0_anchorMonthOf l D h0 ac ay ap cyI ts mk ch fy fp n (by first | omega | rfl)) (cwV 1 hts gL_isBack_X0_anchorMonthOf rfl rfl rfl (by decide +kernel) ⟨Nat.le_of_ble_eq_true rfl, Nat.le_of_ble_eq_true rfl⟩) hK hP hD hS hA [0, 1, 2, 3] rfl rfl rfl 0 0 rfl rfl rfl hl.1 rfl (lv_room (Nat.le_of_ble_eq_true rfl)) dL_isBack_101 ⟨Nat.le_of_ble_eq_true rfl, Nat.le_of_ble_eq_true rfl⟩ (fun r H locs hr hP hS => ?_)
          obtain rfl : r = (nI (pm_am (pm_pl n))) := hr
          refine lv_iload hx hb dL_isBack_104 (lv_at hl 1 rfl) ?_
          refine pz_VR (rest := [.int (nI (pm_ct (pm_pl n)))]) ⟨hx, hb, hml, hown, hts⟩ (k_X0_greatestCount l D h0 ac ay ap cyI ts mk ch fy fp (pm_yr n) (pm_am (pm_pl n)) (pm_ap (pm_pl n)) (by first | omega | rfl) (by first | omega | rfl) (by first | omega | rfl) (by first | omega | rfl) (by first | omega | rfl)) (cwV 3 hts gL_isBack_X0_greatestCount rfl rfl rfl (by decide +kernel) ⟨Nat.le_of_ble_eq_true rfl, Nat.le_of_ble_eq_true rfl⟩) hK hP hD hS hA [0, 1, 2, 3] rfl rfl rfl 0 0 rfl rfl rfl hl.1 rfl (lv_room (Nat.le_of_ble_eq_true rfl)) dL_isBack_106 ⟨Nat.le_of_ble_eq_true rfl, Nat.le_of_ble_eq_true rfl⟩ (fun r H locs hr hP hS => ?_)
          obtain rfl : r = (nI (pm_gc (pm_am (pm_pl n)) (pm_ap (pm_pl n)))) := hr
          refine pn_icmp_gt (tgt := 116) hx hb (by first | omega | rfl) (by first | omega | rfl) dL_isBack_109 (by decide) (fun c_49 => ?_) (fun c_49 => ?_)
          · -- 109 yes
            exfalso; omega
          · -- 109 no
            refine lv_iconst (v := nI 1) hx hb dL_isBack_112 (by decide) ?_
            refine lv_goto (tgt := 117) hx hb dL_isBack_113 (by decide) ?_
            refine lv_istore (lv' := [(7, .int (nI 1)), (6, .int (nI (pm_pl n))), (5, .int (nI (pm_ap (pm_pl n)))), (4, .int (nI (pm_da n))), (3, .int (nI (pm_mo n))), (2, .int (nI (pm_yr n))), (0, .ref h0), (1, .int (nI n))]) hx hb dL_isBack_117 hl (by decide) rfl (fun ls hl => ?_)
            refine lv_iload hx hb dL_isBack_119 (lv_at hl 0 rfl) ?_
            refine pn_if_eq (tgt := 177) hx hb (by first | omega | rfl) dL_isBack_121 (by decide) (fun c_50 => absurd c_50 (by decide)) (fun _ => ?_)
            refine lv_aload_n hx hb dL_isBack_124 rfl (lv_at hl 6 rfl) ?_
            refine lv_iload_n hx hb dL_isBack_125 rfl (lv_at hl 7 rfl) ?_
            refine pz_VR (rest := []) ⟨hx, hb, hml, hown, hts⟩ (k_X0_anchorMonthOf l D h0 ac ay ap cyI ts mk ch fy fp n (by first | omega | rfl)) (cwV 1 hts gL_isBack_X0_anchorMonthOf rfl rfl rfl (by decide +kernel) ⟨Nat.le_of_ble_eq_true rfl, Nat.le_of_ble_eq_true rfl⟩) hK hP hD hS hA [0, 1, 2, 3] rfl rfl rfl 0 0 rfl rfl rfl hl.1 rfl (lv_room (Nat.le_of_ble_eq_true rfl)) dL_isBack_126 ⟨Nat.le_of_ble_eq_true rfl, Nat.le_of_ble_eq_true rfl⟩ (fun r H locs hr hP hS => ?_)
            obtain rfl : r = (nI (pm_am (pm_pl n))) := hr
            refine lv_iload_n hx hb dL_isBack_129 rfl (lv_at hl 4 rfl) ?_
            refine pn_icmp_ne (tgt := 147) hx hb (by first | omega | rfl) (by first | omega | rfl) dL_isBack_130 (by decide) (fun c_52 => ?_) (fun c_52 => ?_)
            · -- 130 yes
              refine lv_iload hx hb dL_isBack_147 (lv_at hl 2 rfl) ?_
              refine pn_if_ne (tgt := 177) hx hb (by first | omega | rfl) dL_isBack_149 (by decide) (fun c_53 => ?_) (fun c_53 => ?_)
              · -- 149 yes
                exfalso; omega
              · -- 149 no
                refine lv_aload_n hx hb dL_isBack_152 rfl (lv_at hl 6 rfl) ?_
                refine lv_iload_n hx hb dL_isBack_153 rfl (lv_at hl 7 rfl) ?_
                refine pz_VR (rest := []) ⟨hx, hb, hml, hown, hts⟩ (k_X0_anchorMonthOf l D h0 ac ay ap cyI ts mk ch fy fp n (by first | omega | rfl)) (cwV 1 hts gL_isBack_X0_anchorMonthOf rfl rfl rfl (by decide +kernel) ⟨Nat.le_of_ble_eq_true rfl, Nat.le_of_ble_eq_true rfl⟩) hK hP hD hS hA [0, 1, 2, 3] rfl rfl rfl 0 0 rfl rfl rfl hl.1 rfl (lv_room (Nat.le_of_ble_eq_true rfl)) dL_isBack_154 ⟨Nat.le_of_ble_eq_true rfl, Nat.le_of_ble_eq_true rfl⟩ (fun r H locs hr hP hS => ?_)
                obtain rfl : r = (nI (pm_am (pm_pl n))) := hr
                refine lv_iload_n hx hb dL_isBack_157 rfl (lv_at hl 4 rfl) ?_
                refine lv_bipush (v := nI 12) hx hb dL_isBack_158 (by decide) ?_
                refine pn_irem hx hb (by first | omega | rfl) (by first | omega | rfl) (by first | omega | rfl) dL_isBack_160 ?_
                refine lv_iconst (v := nI 1) hx hb dL_isBack_161 (by decide) ?_
                refine pn_iadd hx hb dL_isBack_162 ?_
                refine pn_icmp_ne (tgt := 177) hx hb (by first | omega | rfl) (by first | omega | rfl) dL_isBack_163 (by decide) (fun c_55 => ?_) (fun c_55 => ?_)
                · -- 163 yes
                  exfalso; omega
                · -- 163 no
                  refine lv_iload hx hb dL_isBack_166 (lv_at hl 3 rfl) ?_
                  refine lv_bipush (v := nI 13) hx hb dL_isBack_168 (by decide) ?_
                  refine pn_icmp_le (tgt := 177) hx hb (by first | omega | rfl) (by first | omega | rfl) dL_isBack_170 (by decide) (fun c_56 => ?_) (fun c_56 => ?_)
                  · -- 170 yes
                    exfalso; omega
                  · -- 170 no
                    refine lv_iconst (v := nI 1) hx hb dL_isBack_173 (by decide) ?_
                    refine lv_goto (tgt := 178) hx hb dL_isBack_174 (by decide) ?_
                    refine lv_istore (lv' := [(7, .int (nI 1)), (6, .int (nI (pm_pl n))), (5, .int (nI (pm_ap (pm_pl n)))), (4, .int (nI (pm_da n))), (3, .int (nI (pm_mo n))), (2, .int (nI (pm_yr n))), (0, .ref h0), (1, .int (nI n))]) hx hb dL_isBack_178 hl (by decide) rfl (fun ls hl => ?_)
                    exact J180 H _ ls hP hS (lv_sub hl [6, 7, 5, 4, 3, 2, 1, 0] rfl)
            · -- 130 no
              refine lv_iload hx hb dL_isBack_133 (lv_at hl 2 rfl) ?_
              refine pn_if_ne (tgt := 173) hx hb (by first | omega | rfl) dL_isBack_135 (by decide) (fun c_57 => ?_) (fun c_57 => ?_)
              · -- 135 yes
                refine lv_iconst (v := nI 1) hx hb dL_isBack_173 (by decide) ?_
                refine lv_goto (tgt := 178) hx hb dL_isBack_174 (by decide) ?_
                refine lv_istore (lv' := [(7, .int (nI 1)), (6, .int (nI (pm_pl n))), (5, .int (nI (pm_ap (pm_pl n)))), (4, .int (nI (pm_da n))), (3, .int (nI (pm_mo n))), (2, .int (nI (pm_yr n))), (0, .ref h0), (1, .int (nI n))]) hx hb dL_isBack_178 hl (by decide) rfl (fun ls hl => ?_)
                exact J180 H _ ls hP hS (lv_sub hl [6, 7, 5, 4, 3, 2, 1, 0] rfl)
              · -- 135 no
                refine lv_iload hx hb dL_isBack_138 (lv_at hl 3 rfl) ?_
                refine lv_iconst (v := nI 1) hx hb dL_isBack_140 (by decide) ?_
                refine pn_icmp_ne (tgt := 177) hx hb (by first | omega | rfl) (by first | omega | rfl) dL_isBack_141 (by decide) (fun c_58 => ?_) (fun c_58 => ?_)
                · -- 141 yes
                  exfalso; omega
                · -- 141 no
                  refine lv_goto (tgt := 173) hx hb dL_isBack_144 (by decide) ?_
                  refine lv_iconst (v := nI 1) hx hb dL_isBack_173 (by decide) ?_
                  refine lv_goto (tgt := 178) hx hb dL_isBack_174 (by decide) ?_
                  refine lv_istore (lv' := [(7, .int (nI 1)), (6, .int (nI (pm_pl n))), (5, .int (nI (pm_ap (pm_pl n)))), (4, .int (nI (pm_da n))), (3, .int (nI (pm_mo n))), (2, .int (nI (pm_yr n))), (0, .ref h0), (1, .int (nI n))]) hx hb dL_isBack_178 hl (by decide) rfl (fun ls hl => ?_)
                  exact J180 H _ ls hP hS (lv_sub hl [6, 7, 5, 4, 3, 2, 1, 0] rfl)
set_option maxHeartbeats 4000000 in
set_option maxRecDepth 100000 in
theorem k_L_isNext (l : Launch) (D : va_G) (h0 ac ay ap : Nat) (cyI : ClassId) (ts : List (ClassId × FieldType)) (mk : Nat) (ch fy fp : Nat → Nat) (n : Nat) (hy0 : n < 1095749) (hmk : mk < 8) : pz_R l yL_isNext wsL_isNext ({ frames := 6, cells := 0, slots := 0, locals := 130 } : Room) D ((cyI, .int) :: ts) [.ref h0, .int (nI n)] [(h0, .inr (0, [.ref ac, .ref ay, .ref ap, .int (nI mk)])), (ac, .inl (cyI, 365, .inl (pz_ar ch))), (ay, .inl (cyI, 60, .inl (pz_ar fy))), (ap, .inl (cyI, 60, .inl (pz_ar fp)))] (fun r => r = nI 1) := by
  refine pz_R_of (cc := cL_isNext) (maxL := 5) (ty := .boolean) (own := RL) (by decide) rfl rfl (Nat.le_of_ble_eq_true rfl) ?_
  intro p e s m below meth c A ls Q hx hb hml hown hts hK hP hD hS hA hl hQ
  have hl : lv_has ls 5 [(0, .ref h0), (1, .int (nI n))] := hl
  have hN := pg_next n
  unfold pg_N at hN
  obtain ⟨hn1, hn2, hn3, hn4, hn5, hn6, hn7⟩ := hN
  have hy0_ := pm_yr_b (n := n) (by omega)
  have hm0_ := pm_mo_b n
  have hd0_ := pm_da_b n
  have hp0_ := pm_pl_b n
  have hln0_ := pm_ln_b (pm_yr n) (pm_mo n)
  have ha0_ := pm_ap_b (pm_pl n)
  have ham0_ := pm_am_b (pm_pl n)
  have hct0_ := pm_ct_b2 n
  have hdl0_ := pm_dl_b n
  have hlw0_ := pm_lw_b n
  have hy1_ := pm_yr_b (n := (n + 1)) (by omega)
  have hm1_ := pm_mo_b (n + 1)
  have hd1_ := pm_da_b (n + 1)
  have hp1_ := pm_pl_b (n + 1)
  have hln1_ := pm_ln_b (pm_yr (n + 1)) (pm_mo (n + 1))
  have ha1_ := pm_ap_b (pm_pl (n + 1))
  have ham1_ := pm_am_b (pm_pl (n + 1))
  have hct1_ := pm_ct_b2 (n + 1)
  have hdl1_ := pm_dl_b (n + 1)
  have hlw1_ := pm_lw_b (n + 1)
  have hk0_ := pg_if (n % 8 = mk)
  have hk1_ := pg_if ((n + 1) % 8 = mk)
  have J293 : ∀ (H : Heap) (locs : List Loc) (ls : Array Slot), va_P D vwCl [(h0, .inr (0, [.ref ac, .ref ay, .ref ap, .int (nI mk)])), (ac, .inl (cyI, 365, .inl (pz_ar ch))), (ay, .inl (cyI, 60, .inl (pz_ar fy))), (ap, .inl (cyI, 60, .inl (pz_ar fp)))] H → va_S A s.heap H locs → lv_has ls 5 [(0, .ref h0), (1, .int (nI n)), (2, .int (nI (pm_dl n))), (4, .int (nI 1))] → W p l e ({ frames := 6, cells := 0, slots := 0, locals := 130 } : Room) s m ([.ref h0, .int (nI n)] : List Value).toArray below meth c H locs 0 0 Q (F0 m 293 ls []) := by
    intro H locs ls hP hS hl
    refine lv_aload_n hx hb dL_isNext_293 rfl (lv_at hl 0 rfl) ?_
    refine lv_iload_n hx hb dL_isNext_294 rfl (lv_at hl 1 rfl) ?_
    refine pz_VR (rest := []) ⟨hx, hb, hml, hown, hts⟩ (k_X0_isMarket l D h0 ac ay ap cyI ts mk ch fy fp n (by first | omega | rfl | exact hmk) (by first | omega | rfl | exact hmk)) (cwV 1 hts gL_isNext_X0_isMarket rfl rfl rfl (by decide +kernel) ⟨Nat.le_of_ble_eq_true rfl, Nat.le_of_ble_eq_true rfl⟩) hK hP hD hS hA [0, 1, 2, 3] rfl rfl rfl 0 0 rfl rfl rfl hl.1 rfl (lv_room (Nat.le_of_ble_eq_true rfl)) dL_isNext_295 ⟨Nat.le_of_ble_eq_true rfl, Nat.le_of_ble_eq_true rfl⟩ (fun r H locs hr hP hS => ?_)
    obtain rfl : r = (pz_b (n % 8 = mk)) := hr
    refine pn_top (y := nI (pg_i (n % 8 = mk))) (pg_ib (n % 8 = mk)) ?_
    refine pn_if_eq (tgt := 311) hx hb (by first | omega | rfl | exact hmk) dL_isNext_298 (by decide) (fun c_2 => ?_) (fun c_2 => ?_)
    · -- 298 yes
      refine lv_iconst (v := nI 1) hx hb dL_isNext_311 (by decide) ?_
      refine lv_goto (tgt := 316) hx hb dL_isNext_312 (by decide) ?_
      exact hQ _ _ _ _ _ dL_isNext_316 (by decide) (congrArg nI (by rfl)) hS
    · -- 298 no
      refine lv_aload_n hx hb dL_isNext_301 rfl (lv_at hl 0 rfl) ?_
      refine lv_iload_n hx hb dL_isNext_302 rfl (lv_at hl 1 rfl) ?_
      refine lv_iconst (v := nI 1) hx hb dL_isNext_303 (by decide) ?_
      refine pn_iadd hx hb dL_isNext_304 ?_
      refine pz_VR (rest := []) ⟨hx, hb, hml, hown, hts⟩ (k_X0_isMarket l D h0 ac ay ap cyI ts mk ch fy fp (n + 1) (by first | omega | rfl | exact hmk) (by first | omega | rfl | exact hmk)) (cwV 1 hts gL_isNext_X0_isMarket rfl rfl rfl (by decide +kernel) ⟨Nat.le_of_ble_eq_true rfl, Nat.le_of_ble_eq_true rfl⟩) hK hP hD hS hA [0, 1, 2, 3] rfl rfl rfl 0 0 rfl rfl rfl hl.1 rfl (lv_room (Nat.le_of_ble_eq_true rfl)) dL_isNext_305 ⟨Nat.le_of_ble_eq_true rfl, Nat.le_of_ble_eq_true rfl⟩ (fun r H locs hr hP hS => ?_)
      obtain rfl : r = (pz_b ((n + 1) % 8 = mk)) := hr
      refine pn_top (y := nI (pg_i ((n + 1) % 8 = mk))) (pg_ib ((n + 1) % 8 = mk)) ?_
      refine pn_if_ne (tgt := 315) hx hb (by first | omega | rfl | exact hmk) dL_isNext_308 (by decide) (fun c_4 => ?_) (fun c_4 => ?_)
      · -- 308 yes
        exfalso; omega
      · -- 308 no
        refine lv_iconst (v := nI 1) hx hb dL_isNext_311 (by decide) ?_
        refine lv_goto (tgt := 316) hx hb dL_isNext_312 (by decide) ?_
        exact hQ _ _ _ _ _ dL_isNext_316 (by decide) (congrArg nI (by rfl)) hS
  have J240 : ∀ (H : Heap) (locs : List Loc) (ls : Array Slot), va_P D vwCl [(h0, .inr (0, [.ref ac, .ref ay, .ref ap, .int (nI mk)])), (ac, .inl (cyI, 365, .inl (pz_ar ch))), (ay, .inl (cyI, 60, .inl (pz_ar fy))), (ap, .inl (cyI, 60, .inl (pz_ar fp)))] H → va_S A s.heap H locs → lv_has ls 5 [(0, .ref h0), (1, .int (nI n)), (2, .int (nI (pm_dl n))), (4, .int (nI 1))] → W p l e ({ frames := 6, cells := 0, slots := 0, locals := 130 } : Room) s m ([.ref h0, .int (nI n)] : List Value).toArray below meth c H locs 0 0 Q (F0 m 240 ls []) := by
    intro H locs ls hP hS hl
    refine lv_iload hx hb dL_isNext_240 (lv_at hl 3 rfl) ?_
    refine pn_if_eq (tgt := 315) hx hb (by first | omega | rfl | exact hmk) dL_isNext_242 (by decide) (fun c_5 => absurd c_5 (by decide)) (fun _ => ?_)
    refine lv_aload_n hx hb dL_isNext_245 rfl (lv_at hl 0 rfl) ?_
    refine lv_iload_n hx hb dL_isNext_246 rfl (lv_at hl 1 rfl) ?_
    refine pz_VR (rest := []) ⟨hx, hb, hml, hown, hts⟩ (k_X0_countOf l D h0 ac ay ap cyI ts mk ch fy fp n (by first | omega | rfl | exact hmk)) (cwV 1 hts gL_isNext_X0_countOf rfl rfl rfl (by decide +kernel) ⟨Nat.le_of_ble_eq_true rfl, Nat.le_of_ble_eq_true rfl⟩) hK hP hD hS hA [0, 1, 2, 3] rfl rfl rfl 0 0 rfl rfl rfl hl.1 rfl (lv_room (Nat.le_of_ble_eq_true rfl)) dL_isNext_247 ⟨Nat.le_of_ble_eq_true rfl, Nat.le_of_ble_eq_true rfl⟩ (fun r H locs hr hP hS => ?_)
    obtain rfl : r = (nI (pm_ct (pm_pl n))) := hr
    refine lv_iconst (v := nI 1) hx hb dL_isNext_250 (by decide) ?_
    refine pn_icmp_ne (tgt := 268) hx hb (by first | omega | rfl | exact hmk) (by first | omega | rfl | exact hmk) dL_isNext_251 (by decide) (fun c_7 => ?_) (fun c_7 => ?_)
    · -- 251 yes
      refine lv_aload_n hx hb dL_isNext_268 rfl (lv_at hl 0 rfl) ?_
      refine lv_iload_n hx hb dL_isNext_269 rfl (lv_at hl 1 rfl) ?_
      refine lv_iconst (v := nI 1) hx hb dL_isNext_270 (by decide) ?_
      refine pn_iadd hx hb dL_isNext_271 ?_
      refine pz_VR (rest := []) ⟨hx, hb, hml, hown, hts⟩ (k_X0_countOf l D h0 ac ay ap cyI ts mk ch fy fp (n + 1) (by first | omega | rfl | exact hmk)) (cwV 1 hts gL_isNext_X0_countOf rfl rfl rfl (by decide +kernel) ⟨Nat.le_of_ble_eq_true rfl, Nat.le_of_ble_eq_true rfl⟩) hK hP hD hS hA [0, 1, 2, 3] rfl rfl rfl 0 0 rfl rfl rfl hl.1 rfl (lv_room (Nat.le_of_ble_eq_true rfl)) dL_isNext_272 ⟨Nat.le_of_ble_eq_true rfl, Nat.le_of_ble_eq_true rfl⟩ (fun r H locs hr hP hS => ?_)
      obtain rfl : r = (nI (pm_ct (pm_pl (n + 1)))) := hr
      refine lv_aload_n hx hb dL_isNext_275 rfl (lv_at hl 0 rfl) ?_
      refine lv_iload_n hx hb dL_isNext_276 rfl (lv_at hl 1 rfl) ?_
      refine pz_VR (rest := [.int (nI (pm_ct (pm_pl (n + 1))))]) ⟨hx, hb, hml, hown, hts⟩ (k_X0_countOf l D h0 ac ay ap cyI ts mk ch fy fp n (by first | omega | rfl | exact hmk)) (cwV 1 hts gL_isNext_X0_countOf rfl rfl rfl (by decide +kernel) ⟨Nat.le_of_ble_eq_true rfl, Nat.le_of_ble_eq_true rfl⟩) hK hP hD hS hA [0, 1, 2, 3] rfl rfl rfl 0 0 rfl rfl rfl hl.1 rfl (lv_room (Nat.le_of_ble_eq_true rfl)) dL_isNext_277 ⟨Nat.le_of_ble_eq_true rfl, Nat.le_of_ble_eq_true rfl⟩ (fun r H locs hr hP hS => ?_)
      obtain rfl : r = (nI (pm_ct (pm_pl n))) := hr
      refine lv_iload_n hx hb dL_isNext_280 rfl (lv_at hl 2 rfl) ?_
      refine pn_if_eq (tgt := 288) hx hb (by first | omega | rfl | exact hmk) dL_isNext_281 (by decide) (fun c_10 => ?_) (fun c_10 => ?_)
      · -- 281 yes
        refine lv_iconst (v := nI 1) hx hb dL_isNext_288 (by decide) ?_
        refine pn_isub hx hb (by first | omega | rfl | exact hmk) dL_isNext_289 ?_
        refine pn_icmp_ne (tgt := 315) hx hb (by first | omega | rfl | exact hmk) (by first | omega | rfl | exact hmk) dL_isNext_290 (by decide) (fun c_11 => ?_) (fun c_11 => ?_)
        · -- 290 yes
          exfalso; omega
        · -- 290 no
          exact J293 H _ ls hP hS (lv_sub hl [0, 1, 2, 3] rfl)
      · -- 281 no
        refine lv_iconst (v := nI 0) hx hb dL_isNext_284 (by decide) ?_
        refine lv_goto (tgt := 289) hx hb dL_isNext_285 (by decide) ?_
        refine pn_isub hx hb (by first | omega | rfl | exact hmk) dL_isNext_289 ?_
        refine pn_icmp_ne (tgt := 315) hx hb (by first | omega | rfl | exact hmk) (by first | omega | rfl | exact hmk) dL_isNext_290 (by decide) (fun c_12 => ?_) (fun c_12 => ?_)
        · -- 290 yes
          exfalso; omega
        · -- 290 no
          exact J293 H _ ls hP hS (lv_sub hl [0, 1, 2, 3] rfl)
    · -- 251 no
      refine lv_aload_n hx hb dL_isNext_254 rfl (lv_at hl 0 rfl) ?_
      refine lv_iload_n hx hb dL_isNext_255 rfl (lv_at hl 1 rfl) ?_
      refine lv_iconst (v := nI 1) hx hb dL_isNext_256 (by decide) ?_
      refine pn_iadd hx hb dL_isNext_257 ?_
      refine pz_VR (rest := []) ⟨hx, hb, hml, hown, hts⟩ (k_X0_countOf l D h0 ac ay ap cyI ts mk ch fy fp (n + 1) (by first | omega | rfl | exact hmk)) (cwV 1 hts gL_isNext_X0_countOf rfl rfl rfl (by decide +kernel) ⟨Nat.le_of_ble_eq_true rfl, Nat.le_of_ble_eq_true rfl⟩) hK hP hD hS hA [0, 1, 2, 3] rfl rfl rfl 0 0 rfl rfl rfl hl.1 rfl (lv_room (Nat.le_of_ble_eq_true rfl)) dL_isNext_258 ⟨Nat.le_of_ble_eq_true rfl, Nat.le_of_ble_eq_true rfl⟩ (fun r H locs hr hP hS => ?_)
      obtain rfl : r = (nI (pm_ct (pm_pl (n + 1)))) := hr
      refine lv_iconst (v := nI 1) hx hb dL_isNext_261 (by decide) ?_
      refine pn_icmp_le (tgt := 315) hx hb (by first | omega | rfl | exact hmk) (by first | omega | rfl | exact hmk) dL_isNext_262 (by decide) (fun c_14 => ?_) (fun c_14 => ?_)
      · -- 262 yes
        exfalso; omega
      · -- 262 no
        refine lv_goto (tgt := 293) hx hb dL_isNext_265 (by decide) ?_
        exact J293 H _ ls hP hS (lv_sub hl [0, 1, 2, 3] rfl)
  have J155 : ∀ (H : Heap) (locs : List Loc) (ls : Array Slot), va_P D vwCl [(h0, .inr (0, [.ref ac, .ref ay, .ref ap, .int (nI mk)])), (ac, .inl (cyI, 365, .inl (pz_ar ch))), (ay, .inl (cyI, 60, .inl (pz_ar fy))), (ap, .inl (cyI, 60, .inl (pz_ar fp)))] H → va_S A s.heap H locs → lv_has ls 5 [(0, .ref h0), (1, .int (nI n)), (2, .int (nI (pm_dl n))), (4, .int (nI 1))] → W p l e ({ frames := 6, cells := 0, slots := 0, locals := 130 } : Room) s m ([.ref h0, .int (nI n)] : List Value).toArray below meth c H locs 0 0 Q (F0 m 155 ls []) := by
    intro H locs ls hP hS hl
    refine lv_iload hx hb dL_isNext_155 (lv_at hl 3 rfl) ?_
    refine pn_if_eq (tgt := 237) hx hb (by first | omega | rfl | exact hmk) dL_isNext_157 (by decide) (fun c_15 => absurd c_15 (by decide)) (fun _ => ?_)
    refine lv_aload_n hx hb dL_isNext_160 rfl (lv_at hl 0 rfl) ?_
    refine lv_iload_n hx hb dL_isNext_161 rfl (lv_at hl 1 rfl) ?_
    refine lv_iconst (v := nI 1) hx hb dL_isNext_162 (by decide) ?_
    refine pn_iadd hx hb dL_isNext_163 ?_
    refine pz_VR (rest := []) ⟨hx, hb, hml, hown, hts⟩ (k_X0_dayOf l D h0 ac ay ap cyI ts mk ch fy fp (n + 1) (by first | omega | rfl | exact hmk)) (cwV 1 hts gL_isNext_X0_dayOf rfl rfl rfl (by decide +kernel) ⟨Nat.le_of_ble_eq_true rfl, Nat.le_of_ble_eq_true rfl⟩) hK hP hD hS hA [0, 1, 2, 3] rfl rfl rfl 0 0 rfl rfl rfl hl.1 rfl (lv_room (Nat.le_of_ble_eq_true rfl)) dL_isNext_164 ⟨Nat.le_of_ble_eq_true rfl, Nat.le_of_ble_eq_true rfl⟩ (fun r H locs hr hP hS => ?_)
    obtain rfl : r = (nI (pm_da (n + 1))) := hr
    refine lv_aload_n hx hb dL_isNext_167 rfl (lv_at hl 0 rfl) ?_
    refine lv_iload_n hx hb dL_isNext_168 rfl (lv_at hl 1 rfl) ?_
    refine pz_VR (rest := [.int (nI (pm_da (n + 1)))]) ⟨hx, hb, hml, hown, hts⟩ (k_X0_dayOf l D h0 ac ay ap cyI ts mk ch fy fp n (by first | omega | rfl | exact hmk)) (cwV 1 hts gL_isNext_X0_dayOf rfl rfl rfl (by decide +kernel) ⟨Nat.le_of_ble_eq_true rfl, Nat.le_of_ble_eq_true rfl⟩) hK hP hD hS hA [0, 1, 2, 3] rfl rfl rfl 0 0 rfl rfl rfl hl.1 rfl (lv_room (Nat.le_of_ble_eq_true rfl)) dL_isNext_169 ⟨Nat.le_of_ble_eq_true rfl, Nat.le_of_ble_eq_true rfl⟩ (fun r H locs hr hP hS => ?_)
    obtain rfl : r = (nI (pm_da n)) := hr
    refine lv_iconst (v := nI 1) hx hb dL_isNext_172 (by decide) ?_
    refine pn_iadd hx hb dL_isNext_173 ?_
    refine pn_icmp_ne (tgt := 192) hx hb (by first | omega | rfl | exact hmk) (by first | omega | rfl | exact hmk) dL_isNext_174 (by decide) (fun c_18 => ?_) (fun c_18 => ?_)
    · -- 174 yes
      refine lv_aload_n hx hb dL_isNext_192 rfl (lv_at hl 0 rfl) ?_
      refine lv_iload_n hx hb dL_isNext_193 rfl (lv_at hl 1 rfl) ?_
      refine lv_iconst (v := nI 1) hx hb dL_isNext_194 (by decide) ?_
      refine pn_iadd hx hb dL_isNext_195 ?_
      refine pz_VR (rest := []) ⟨hx, hb, hml, hown, hts⟩ (k_X0_dayOf l D h0 ac ay ap cyI ts mk ch fy fp (n + 1) (by first | omega | rfl | exact hmk)) (cwV 1 hts gL_isNext_X0_dayOf rfl rfl rfl (by decide +kernel) ⟨Nat.le_of_ble_eq_true rfl, Nat.le_of_ble_eq_true rfl⟩) hK hP hD hS hA [0, 1, 2, 3] rfl rfl rfl 0 0 rfl rfl rfl hl.1 rfl (lv_room (Nat.le_of_ble_eq_true rfl)) dL_isNext_196 ⟨Nat.le_of_ble_eq_true rfl, Nat.le_of_ble_eq_true rfl⟩ (fun r H locs hr hP hS => ?_)
      obtain rfl : r = (nI (pm_da (n + 1))) := hr
      refine lv_iconst (v := nI 1) hx hb dL_isNext_199 (by decide) ?_
      refine pn_icmp_ne (tgt := 237) hx hb (by first | omega | rfl | exact hmk) (by first | omega | rfl | exact hmk) dL_isNext_200 (by decide) (fun c_20 => ?_) (fun c_20 => ?_)
      · -- 200 yes
        exfalso; omega
      · -- 200 no
        refine lv_aload_n hx hb dL_isNext_203 rfl (lv_at hl 0 rfl) ?_
        refine lv_iload_n hx hb dL_isNext_204 rfl (lv_at hl 1 rfl) ?_
        refine pz_VR (rest := []) ⟨hx, hb, hml, hown, hts⟩ (k_X0_dayOf l D h0 ac ay ap cyI ts mk ch fy fp n (by first | omega | rfl | exact hmk)) (cwV 1 hts gL_isNext_X0_dayOf rfl rfl rfl (by decide +kernel) ⟨Nat.le_of_ble_eq_true rfl, Nat.le_of_ble_eq_true rfl⟩) hK hP hD hS hA [0, 1, 2, 3] rfl rfl rfl 0 0 rfl rfl rfl hl.1 rfl (lv_room (Nat.le_of_ble_eq_true rfl)) dL_isNext_205 ⟨Nat.le_of_ble_eq_true rfl, Nat.le_of_ble_eq_true rfl⟩ (fun r H locs hr hP hS => ?_)
        obtain rfl : r = (nI (pm_da n)) := hr
        refine lv_bipush (v := nI 28) hx hb dL_isNext_208 (by decide) ?_
        refine pn_icmp_lt (tgt := 237) hx hb (by first | omega | rfl | exact hmk) (by first | omega | rfl | exact hmk) dL_isNext_210 (by decide) (fun c_22 => ?_) (fun c_22 => ?_)
        · -- 210 yes
          exfalso; omega
        · -- 210 no
          refine lv_aload_n hx hb dL_isNext_213 rfl (lv_at hl 0 rfl) ?_
          refine lv_iload_n hx hb dL_isNext_214 rfl (lv_at hl 1 rfl) ?_
          refine pz_VR (rest := []) ⟨hx, hb, hml, hown, hts⟩ (k_X0_countOf l D h0 ac ay ap cyI ts mk ch fy fp n (by first | omega | rfl | exact hmk)) (cwV 1 hts gL_isNext_X0_countOf rfl rfl rfl (by decide +kernel) ⟨Nat.le_of_ble_eq_true rfl, Nat.le_of_ble_eq_true rfl⟩) hK hP hD hS hA [0, 1, 2, 3] rfl rfl rfl 0 0 rfl rfl rfl hl.1 rfl (lv_room (Nat.le_of_ble_eq_true rfl)) dL_isNext_215 ⟨Nat.le_of_ble_eq_true rfl, Nat.le_of_ble_eq_true rfl⟩ (fun r H locs hr hP hS => ?_)
          obtain rfl : r = (nI (pm_ct (pm_pl n))) := hr
          refine lv_iconst (v := nI 2) hx hb dL_isNext_218 (by decide) ?_
          refine pn_icmp_ne (tgt := 237) hx hb (by first | omega | rfl | exact hmk) (by first | omega | rfl | exact hmk) dL_isNext_219 (by decide) (fun c_24 => ?_) (fun c_24 => ?_)
          · -- 219 yes
            exfalso; omega
          · -- 219 no
            refine lv_aload_n hx hb dL_isNext_222 rfl (lv_at hl 0 rfl) ?_
            refine lv_iload_n hx hb dL_isNext_223 rfl (lv_at hl 1 rfl) ?_
            refine lv_iconst (v := nI 1) hx hb dL_isNext_224 (by decide) ?_
            refine pn_iadd hx hb dL_isNext_225 ?_
            refine pz_VR (rest := []) ⟨hx, hb, hml, hown, hts⟩ (k_X0_countOf l D h0 ac ay ap cyI ts mk ch fy fp (n + 1) (by first | omega | rfl | exact hmk)) (cwV 1 hts gL_isNext_X0_countOf rfl rfl rfl (by decide +kernel) ⟨Nat.le_of_ble_eq_true rfl, Nat.le_of_ble_eq_true rfl⟩) hK hP hD hS hA [0, 1, 2, 3] rfl rfl rfl 0 0 rfl rfl rfl hl.1 rfl (lv_room (Nat.le_of_ble_eq_true rfl)) dL_isNext_226 ⟨Nat.le_of_ble_eq_true rfl, Nat.le_of_ble_eq_true rfl⟩ (fun r H locs hr hP hS => ?_)
            obtain rfl : r = (nI (pm_ct (pm_pl (n + 1)))) := hr
            refine lv_iconst (v := nI 1) hx hb dL_isNext_229 (by decide) ?_
            refine pn_icmp_ne (tgt := 237) hx hb (by first | omega | rfl | exact hmk) (by first | omega | rfl | exact hmk) dL_isNext_230 (by decide) (fun c_26 => ?_) (fun c_26 => ?_)
            · -- 230 yes
              exfalso; omega
            · -- 230 no
              refine lv_iconst (v := nI 1) hx hb dL_isNext_233 (by decide) ?_
              refine lv_goto (tgt := 238) hx hb dL_isNext_234 (by decide) ?_
              refine lv_istore (lv' := [(4, .int (nI 1)), (0, .ref h0), (1, .int (nI n)), (2, .int (nI (pm_dl n)))]) hx hb dL_isNext_238 hl (by decide) rfl (fun ls hl => ?_)
              exact J240 H _ ls hP hS (lv_sub hl [1, 2, 3, 0] rfl)
    · -- 174 no
      refine lv_aload_n hx hb dL_isNext_177 rfl (lv_at hl 0 rfl) ?_
      refine lv_iload_n hx hb dL_isNext_178 rfl (lv_at hl 1 rfl) ?_
      refine lv_iconst (v := nI 1) hx hb dL_isNext_179 (by decide) ?_
      refine pn_iadd hx hb dL_isNext_180 ?_
      refine pz_VR (rest := []) ⟨hx, hb, hml, hown, hts⟩ (k_X0_monthOf l D h0 ac ay ap cyI ts mk ch fy fp (n + 1) (by first | omega | rfl | exact hmk)) (cwV 1 hts gL_isNext_X0_monthOf rfl rfl rfl (by decide +kernel) ⟨Nat.le_of_ble_eq_true rfl, Nat.le_of_ble_eq_true rfl⟩) hK hP hD hS hA [0, 1, 2, 3] rfl rfl rfl 0 0 rfl rfl rfl hl.1 rfl (lv_room (Nat.le_of_ble_eq_true rfl)) dL_isNext_181 ⟨Nat.le_of_ble_eq_true rfl, Nat.le_of_ble_eq_true rfl⟩ (fun r H locs hr hP hS => ?_)
      obtain rfl : r = (nI (pm_mo (n + 1))) := hr
      refine lv_aload_n hx hb dL_isNext_184 rfl (lv_at hl 0 rfl) ?_
      refine lv_iload_n hx hb dL_isNext_185 rfl (lv_at hl 1 rfl) ?_
      refine pz_VR (rest := [.int (nI (pm_mo (n + 1)))]) ⟨hx, hb, hml, hown, hts⟩ (k_X0_monthOf l D h0 ac ay ap cyI ts mk ch fy fp n (by first | omega | rfl | exact hmk)) (cwV 1 hts gL_isNext_X0_monthOf rfl rfl rfl (by decide +kernel) ⟨Nat.le_of_ble_eq_true rfl, Nat.le_of_ble_eq_true rfl⟩) hK hP hD hS hA [0, 1, 2, 3] rfl rfl rfl 0 0 rfl rfl rfl hl.1 rfl (lv_room (Nat.le_of_ble_eq_true rfl)) dL_isNext_186 ⟨Nat.le_of_ble_eq_true rfl, Nat.le_of_ble_eq_true rfl⟩ (fun r H locs hr hP hS => ?_)
      obtain rfl : r = (nI (pm_mo n)) := hr
      refine pn_icmp_eq (tgt := 233) hx hb (by first | omega | rfl | exact hmk) (by first | omega | rfl | exact hmk) dL_isNext_189 (by decide) (fun c_29 => ?_) (fun c_29 => ?_)
      · -- 189 yes
        refine lv_iconst (v := nI 1) hx hb dL_isNext_233 (by decide) ?_
        refine lv_goto (tgt := 238) hx hb dL_isNext_234 (by decide) ?_
        refine lv_istore (lv' := [(4, .int (nI 1)), (0, .ref h0), (1, .int (nI n)), (2, .int (nI (pm_dl n)))]) hx hb dL_isNext_238 hl (by decide) rfl (fun ls hl => ?_)
        exact J240 H _ ls hP hS (lv_sub hl [1, 2, 3, 0] rfl)
      · -- 189 no
        refine lv_aload_n hx hb dL_isNext_192 rfl (lv_at hl 0 rfl) ?_
        refine lv_iload_n hx hb dL_isNext_193 rfl (lv_at hl 1 rfl) ?_
        refine lv_iconst (v := nI 1) hx hb dL_isNext_194 (by decide) ?_
        refine pn_iadd hx hb dL_isNext_195 ?_
        refine pz_VR (rest := []) ⟨hx, hb, hml, hown, hts⟩ (k_X0_dayOf l D h0 ac ay ap cyI ts mk ch fy fp (n + 1) (by first | omega | rfl | exact hmk)) (cwV 1 hts gL_isNext_X0_dayOf rfl rfl rfl (by decide +kernel) ⟨Nat.le_of_ble_eq_true rfl, Nat.le_of_ble_eq_true rfl⟩) hK hP hD hS hA [0, 1, 2, 3] rfl rfl rfl 0 0 rfl rfl rfl hl.1 rfl (lv_room (Nat.le_of_ble_eq_true rfl)) dL_isNext_196 ⟨Nat.le_of_ble_eq_true rfl, Nat.le_of_ble_eq_true rfl⟩ (fun r H locs hr hP hS => ?_)
        obtain rfl : r = (nI (pm_da (n + 1))) := hr
        refine lv_iconst (v := nI 1) hx hb dL_isNext_199 (by decide) ?_
        refine pn_icmp_ne (tgt := 237) hx hb (by first | omega | rfl | exact hmk) (by first | omega | rfl | exact hmk) dL_isNext_200 (by decide) (fun c_31 => ?_) (fun c_31 => ?_)
        · -- 200 yes
          exfalso; omega
        · -- 200 no
          refine lv_aload_n hx hb dL_isNext_203 rfl (lv_at hl 0 rfl) ?_
          refine lv_iload_n hx hb dL_isNext_204 rfl (lv_at hl 1 rfl) ?_
          refine pz_VR (rest := []) ⟨hx, hb, hml, hown, hts⟩ (k_X0_dayOf l D h0 ac ay ap cyI ts mk ch fy fp n (by first | omega | rfl | exact hmk)) (cwV 1 hts gL_isNext_X0_dayOf rfl rfl rfl (by decide +kernel) ⟨Nat.le_of_ble_eq_true rfl, Nat.le_of_ble_eq_true rfl⟩) hK hP hD hS hA [0, 1, 2, 3] rfl rfl rfl 0 0 rfl rfl rfl hl.1 rfl (lv_room (Nat.le_of_ble_eq_true rfl)) dL_isNext_205 ⟨Nat.le_of_ble_eq_true rfl, Nat.le_of_ble_eq_true rfl⟩ (fun r H locs hr hP hS => ?_)
          obtain rfl : r = (nI (pm_da n)) := hr
          refine lv_bipush (v := nI 28) hx hb dL_isNext_208 (by decide) ?_
          refine pn_icmp_lt (tgt := 237) hx hb (by first | omega | rfl | exact hmk) (by first | omega | rfl | exact hmk) dL_isNext_210 (by decide) (fun c_33 => ?_) (fun c_33 => ?_)
          · -- 210 yes
            exfalso; omega
          · -- 210 no
            refine lv_aload_n hx hb dL_isNext_213 rfl (lv_at hl 0 rfl) ?_
            refine lv_iload_n hx hb dL_isNext_214 rfl (lv_at hl 1 rfl) ?_
            refine pz_VR (rest := []) ⟨hx, hb, hml, hown, hts⟩ (k_X0_countOf l D h0 ac ay ap cyI ts mk ch fy fp n (by first | omega | rfl | exact hmk)) (cwV 1 hts gL_isNext_X0_countOf rfl rfl rfl (by decide +kernel) ⟨Nat.le_of_ble_eq_true rfl, Nat.le_of_ble_eq_true rfl⟩) hK hP hD hS hA [0, 1, 2, 3] rfl rfl rfl 0 0 rfl rfl rfl hl.1 rfl (lv_room (Nat.le_of_ble_eq_true rfl)) dL_isNext_215 ⟨Nat.le_of_ble_eq_true rfl, Nat.le_of_ble_eq_true rfl⟩ (fun r H locs hr hP hS => ?_)
            obtain rfl : r = (nI (pm_ct (pm_pl n))) := hr
            refine lv_iconst (v := nI 2) hx hb dL_isNext_218 (by decide) ?_
            refine pn_icmp_ne (tgt := 237) hx hb (by first | omega | rfl | exact hmk) (by first | omega | rfl | exact hmk) dL_isNext_219 (by decide) (fun c_35 => ?_) (fun c_35 => ?_)
            · -- 219 yes
              exfalso; omega
            · -- 219 no
              refine lv_aload_n hx hb dL_isNext_222 rfl (lv_at hl 0 rfl) ?_
              refine lv_iload_n hx hb dL_isNext_223 rfl (lv_at hl 1 rfl) ?_
              refine lv_iconst (v := nI 1) hx hb dL_isNext_224 (by decide) ?_
              refine pn_iadd hx hb dL_isNext_225 ?_
              refine pz_VR (rest := []) ⟨hx, hb, hml, hown, hts⟩ (k_X0_countOf l D h0 ac ay ap cyI ts mk ch fy fp (n + 1) (by first | omega | rfl | exact hmk)) (cwV 1 hts gL_isNext_X0_countOf rfl rfl rfl (by decide +kernel) ⟨Nat.le_of_ble_eq_true rfl, Nat.le_of_ble_eq_true rfl⟩) hK hP hD hS hA [0, 1, 2, 3] rfl rfl rfl 0 0 rfl rfl rfl hl.1 rfl (lv_room (Nat.le_of_ble_eq_true rfl)) dL_isNext_226 ⟨Nat.le_of_ble_eq_true rfl, Nat.le_of_ble_eq_true rfl⟩ (fun r H locs hr hP hS => ?_)
              obtain rfl : r = (nI (pm_ct (pm_pl (n + 1)))) := hr
              refine lv_iconst (v := nI 1) hx hb dL_isNext_229 (by decide) ?_
              refine pn_icmp_ne (tgt := 237) hx hb (by first | omega | rfl | exact hmk) (by first | omega | rfl | exact hmk) dL_isNext_230 (by decide) (fun c_37 => ?_) (fun c_37 => ?_)
              · -- 230 yes
                exfalso; omega
              · -- 230 no
                refine lv_iconst (v := nI 1) hx hb dL_isNext_233 (by decide) ?_
                refine lv_goto (tgt := 238) hx hb dL_isNext_234 (by decide) ?_
                refine lv_istore (lv' := [(4, .int (nI 1)), (0, .ref h0), (1, .int (nI n)), (2, .int (nI (pm_dl n)))]) hx hb dL_isNext_238 hl (by decide) rfl (fun ls hl => ?_)
                exact J240 H _ ls hP hS (lv_sub hl [1, 2, 3, 0] rfl)
  refine lv_aload_n hx hb dL_isNext_0 rfl (lv_at hl 0 rfl) ?_
  refine lv_iload_n hx hb dL_isNext_1 rfl (lv_at hl 1 rfl) ?_
  refine pz_VR (rest := []) ⟨hx, hb, hml, hown, hts⟩ (k_X0_isDoubled l D h0 ac ay ap cyI ts mk ch fy fp n (by first | omega | rfl | exact hmk)) (cwV 1 hts gL_isNext_X0_isDoubled rfl rfl rfl (by decide +kernel) ⟨Nat.le_of_ble_eq_true rfl, Nat.le_of_ble_eq_true rfl⟩) hK hP hD hS hA [0, 1, 2, 3] rfl rfl rfl 0 0 rfl rfl rfl hl.1 rfl (lv_room (Nat.le_of_ble_eq_true rfl)) dL_isNext_2 ⟨Nat.le_of_ble_eq_true rfl, Nat.le_of_ble_eq_true rfl⟩ (fun r H locs hr hP hS => ?_)
  obtain rfl : r = (pz_b (n % 1461 = 1149)) := hr
  refine pn_top (y := nI (pm_dl n)) (pg_dl n) ?_
  refine lv_istore_n (lv' := [(2, .int (nI (pm_dl n))), (0, .ref h0), (1, .int (nI n))]) hx hb dL_isNext_5 rfl hl (by decide) rfl (fun ls hl => ?_)
  refine lv_aload_n hx hb dL_isNext_6 rfl (lv_at hl 1 rfl) ?_
  refine lv_iload_n hx hb dL_isNext_7 rfl (lv_at hl 2 rfl) ?_
  refine lv_iconst (v := nI 1) hx hb dL_isNext_8 (by decide) ?_
  refine pn_iadd hx hb dL_isNext_9 ?_
  refine pz_VR (rest := []) ⟨hx, hb, hml, hown, hts⟩ (k_X0_yearOf l D h0 ac ay ap cyI ts mk ch fy fp (n + 1) (by first | omega | rfl | exact hmk)) (cwV 1 hts gL_isNext_X0_yearOf rfl rfl rfl (by decide +kernel) ⟨Nat.le_of_ble_eq_true rfl, Nat.le_of_ble_eq_true rfl⟩) hK hP hD hS hA [0, 1, 2, 3] rfl rfl rfl 0 0 rfl rfl rfl hl.1 rfl (lv_room (Nat.le_of_ble_eq_true rfl)) dL_isNext_10 ⟨Nat.le_of_ble_eq_true rfl, Nat.le_of_ble_eq_true rfl⟩ (fun r H locs hr hP hS => ?_)
  obtain rfl : r = (nI (pm_yr (n + 1))) := hr
  refine lv_aload_n hx hb dL_isNext_13 rfl (lv_at hl 1 rfl) ?_
  refine lv_iload_n hx hb dL_isNext_14 rfl (lv_at hl 2 rfl) ?_
  refine pz_VR (rest := [.int (nI (pm_yr (n + 1)))]) ⟨hx, hb, hml, hown, hts⟩ (k_X0_yearOf l D h0 ac ay ap cyI ts mk ch fy fp n (by first | omega | rfl | exact hmk)) (cwV 1 hts gL_isNext_X0_yearOf rfl rfl rfl (by decide +kernel) ⟨Nat.le_of_ble_eq_true rfl, Nat.le_of_ble_eq_true rfl⟩) hK hP hD hS hA [0, 1, 2, 3] rfl rfl rfl 0 0 rfl rfl rfl hl.1 rfl (lv_room (Nat.le_of_ble_eq_true rfl)) dL_isNext_15 ⟨Nat.le_of_ble_eq_true rfl, Nat.le_of_ble_eq_true rfl⟩ (fun r H locs hr hP hS => ?_)
  obtain rfl : r = (nI (pm_yr n)) := hr
  refine pn_icmp_eq (tgt := 25) hx hb (by first | omega | rfl | exact hmk) (by first | omega | rfl | exact hmk) dL_isNext_18 (by decide) (fun c_41 => ?_) (fun c_41 => ?_)
  · -- 18 yes
    refine lv_iconst (v := nI 0) hx hb dL_isNext_25 (by decide) ?_
    refine lv_istore_n (lv' := [(3, .int (nI 0)), (2, .int (nI (pm_dl n))), (0, .ref h0), (1, .int (nI n))]) hx hb dL_isNext_26 rfl hl (by decide) rfl (fun ls hl => ?_)
    refine lv_aload_n hx hb dL_isNext_27 rfl (lv_at hl 2 rfl) ?_
    refine lv_iload_n hx hb dL_isNext_28 rfl (lv_at hl 3 rfl) ?_
    refine lv_iconst (v := nI 1) hx hb dL_isNext_29 (by decide) ?_
    refine pn_iadd hx hb dL_isNext_30 ?_
    refine pz_VR (rest := []) ⟨hx, hb, hml, hown, hts⟩ (k_X0_weekdayOf l D h0 ac ay ap cyI ts mk ch fy fp (n + 1) (by first | omega | rfl | exact hmk)) (cwV 1 hts gL_isNext_X0_weekdayOf rfl rfl rfl (by decide +kernel) ⟨Nat.le_of_ble_eq_true rfl, Nat.le_of_ble_eq_true rfl⟩) hK hP hD hS hA [0, 1, 2, 3] rfl rfl rfl 0 0 rfl rfl rfl hl.1 rfl (lv_room (Nat.le_of_ble_eq_true rfl)) dL_isNext_31 ⟨Nat.le_of_ble_eq_true rfl, Nat.le_of_ble_eq_true rfl⟩ (fun r H locs hr hP hS => ?_)
    obtain rfl : r = (nI (((n + 1) + 6) % 7)) := hr
    refine lv_aload_n hx hb dL_isNext_34 rfl (lv_at hl 2 rfl) ?_
    refine lv_iload_n hx hb dL_isNext_35 rfl (lv_at hl 3 rfl) ?_
    refine pz_VR (rest := [.int (nI (((n + 1) + 6) % 7))]) ⟨hx, hb, hml, hown, hts⟩ (k_X0_weekdayOf l D h0 ac ay ap cyI ts mk ch fy fp n (by first | omega | rfl | exact hmk)) (cwV 1 hts gL_isNext_X0_weekdayOf rfl rfl rfl (by decide +kernel) ⟨Nat.le_of_ble_eq_true rfl, Nat.le_of_ble_eq_true rfl⟩) hK hP hD hS hA [0, 1, 2, 3] rfl rfl rfl 0 0 rfl rfl rfl hl.1 rfl (lv_room (Nat.le_of_ble_eq_true rfl)) dL_isNext_36 ⟨Nat.le_of_ble_eq_true rfl, Nat.le_of_ble_eq_true rfl⟩ (fun r H locs hr hP hS => ?_)
    obtain rfl : r = (nI ((n + 6) % 7)) := hr
    refine lv_iconst (v := nI 1) hx hb dL_isNext_39 (by decide) ?_
    refine pn_iadd hx hb dL_isNext_40 ?_
    refine lv_bipush (v := nI 7) hx hb dL_isNext_41 (by decide) ?_
    refine pn_irem hx hb (by first | omega | rfl | exact hmk) (by first | omega | rfl | exact hmk) (by first | omega | rfl | exact hmk) dL_isNext_43 ?_
    refine pn_icmp_ne (tgt := 152) hx hb (by first | omega | rfl | exact hmk) (by first | omega | rfl | exact hmk) dL_isNext_44 (by decide) (fun c_44 => ?_) (fun c_44 => ?_)
    · -- 44 yes
      exfalso; omega
    · -- 44 no
      refine lv_aload_n hx hb dL_isNext_47 rfl (lv_at hl 2 rfl) ?_
      refine lv_iload_n hx hb dL_isNext_48 rfl (lv_at hl 3 rfl) ?_
      refine lv_iload_n hx hb dL_isNext_49 rfl (lv_at hl 3 rfl) ?_
      refine lv_iconst (v := nI 1) hx hb dL_isNext_50 (by decide) ?_
      refine pn_iadd hx hb dL_isNext_51 ?_
      refine pz_VR (rest := []) ⟨hx, hb, hml, hown, hts⟩ (k_X0_lawDays l D h0 ac ay ap cyI ts mk ch fy fp n (n + 1) (by first | omega | rfl | exact hmk) (by first | omega | rfl | exact hmk)) (cwV 2 hts gL_isNext_X0_lawDays rfl rfl rfl (by decide +kernel) ⟨Nat.le_of_ble_eq_true rfl, Nat.le_of_ble_eq_true rfl⟩) hK hP hD hS hA [0, 1, 2, 3] rfl rfl rfl 0 0 rfl rfl rfl hl.1 rfl (lv_room (Nat.le_of_ble_eq_true rfl)) dL_isNext_52 ⟨Nat.le_of_ble_eq_true rfl, Nat.le_of_ble_eq_true rfl⟩ (fun r H locs hr hP hS => ?_)
      obtain rfl : r = (nI (pm_lw (n + 1)) - nI (pm_lw n)) := hr
      refine pn_top (y := nI ((pm_lw (n + 1)) - (pm_lw n))) (pk_sub (by first | omega | rfl | exact hmk)) ?_
      refine lv_iload_n hx hb dL_isNext_55 rfl (lv_at hl 1 rfl) ?_
      refine pn_if_eq (tgt := 63) hx hb (by first | omega | rfl | exact hmk) dL_isNext_56 (by decide) (fun c_46 => ?_) (fun c_46 => ?_)
      · -- 56 yes
        refine lv_iconst (v := nI 1) hx hb dL_isNext_63 (by decide) ?_
        refine pn_icmp_ne (tgt := 152) hx hb (by first | omega | rfl | exact hmk) (by first | omega | rfl | exact hmk) dL_isNext_64 (by decide) (fun c_47 => ?_) (fun c_47 => ?_)
        · -- 64 yes
          exfalso; omega
        · -- 64 no
          refine lv_iload_n hx hb dL_isNext_67 rfl (lv_at hl 0 rfl) ?_
          refine pn_if_eq (tgt := 123) hx hb (by first | omega | rfl | exact hmk) dL_isNext_68 (by decide) (fun _ => ?_) (fun c_48 => absurd c_48 (by decide))
          refine lv_aload_n hx hb dL_isNext_123 rfl (lv_at hl 2 rfl) ?_
          refine lv_iload_n hx hb dL_isNext_124 rfl (lv_at hl 3 rfl) ?_
          refine lv_iconst (v := nI 1) hx hb dL_isNext_125 (by decide) ?_
          refine pn_iadd hx hb dL_isNext_126 ?_
          refine pz_VR (rest := []) ⟨hx, hb, hml, hown, hts⟩ (k_X0_placeOf l D h0 ac ay ap cyI ts mk ch fy fp (n + 1) (by first | omega | rfl | exact hmk)) (cwV 1 hts gL_isNext_X0_placeOf rfl rfl rfl (by decide +kernel) ⟨Nat.le_of_ble_eq_true rfl, Nat.le_of_ble_eq_true rfl⟩) hK hP hD hS hA [0, 1, 2, 3] rfl rfl rfl 0 0 rfl rfl rfl hl.1 rfl (lv_room (Nat.le_of_ble_eq_true rfl)) dL_isNext_127 ⟨Nat.le_of_ble_eq_true rfl, Nat.le_of_ble_eq_true rfl⟩ (fun r H locs hr hP hS => ?_)
          obtain rfl : r = (nI (pm_pl (n + 1))) := hr
          refine lv_aload_n hx hb dL_isNext_130 rfl (lv_at hl 2 rfl) ?_
          refine lv_iload_n hx hb dL_isNext_131 rfl (lv_at hl 3 rfl) ?_
          refine pz_VR (rest := [.int (nI (pm_pl (n + 1)))]) ⟨hx, hb, hml, hown, hts⟩ (k_X0_placeOf l D h0 ac ay ap cyI ts mk ch fy fp n (by first | omega | rfl | exact hmk)) (cwV 1 hts gL_isNext_X0_placeOf rfl rfl rfl (by decide +kernel) ⟨Nat.le_of_ble_eq_true rfl, Nat.le_of_ble_eq_true rfl⟩) hK hP hD hS hA [0, 1, 2, 3] rfl rfl rfl 0 0 rfl rfl rfl hl.1 rfl (lv_room (Nat.le_of_ble_eq_true rfl)) dL_isNext_132 ⟨Nat.le_of_ble_eq_true rfl, Nat.le_of_ble_eq_true rfl⟩ (fun r H locs hr hP hS => ?_)
          obtain rfl : r = (nI (pm_pl n)) := hr
          refine lv_iload_n hx hb dL_isNext_135 rfl (lv_at hl 1 rfl) ?_
          refine pn_if_eq (tgt := 143) hx hb (by first | omega | rfl | exact hmk) dL_isNext_136 (by decide) (fun c_51 => ?_) (fun c_51 => ?_)
          · -- 136 yes
            refine lv_iconst (v := nI 1) hx hb dL_isNext_143 (by decide) ?_
            refine pn_iadd hx hb dL_isNext_144 ?_
            refine pn_icmp_ne (tgt := 152) hx hb (by first | omega | rfl | exact hmk) (by first | omega | rfl | exact hmk) dL_isNext_145 (by decide) (fun c_52 => ?_) (fun c_52 => ?_)
            · -- 145 yes
              exfalso; omega
            · -- 145 no
              refine lv_iconst (v := nI 1) hx hb dL_isNext_148 (by decide) ?_
              refine lv_goto (tgt := 153) hx hb dL_isNext_149 (by decide) ?_
              refine lv_istore (lv' := [(4, .int (nI 1)), (3, .int (nI 0)), (2, .int (nI (pm_dl n))), (0, .ref h0), (1, .int (nI n))]) hx hb dL_isNext_153 hl (by decide) rfl (fun ls hl => ?_)
              exact J155 H _ ls hP hS (lv_sub hl [3, 4, 2, 0] rfl)
          · -- 136 no
            refine lv_iconst (v := nI 0) hx hb dL_isNext_139 (by decide) ?_
            refine lv_goto (tgt := 144) hx hb dL_isNext_140 (by decide) ?_
            refine pn_iadd hx hb dL_isNext_144 ?_
            refine pn_icmp_ne (tgt := 152) hx hb (by first | omega | rfl | exact hmk) (by first | omega | rfl | exact hmk) dL_isNext_145 (by decide) (fun c_53 => ?_) (fun c_53 => ?_)
            · -- 145 yes
              exfalso; omega
            · -- 145 no
              refine lv_iconst (v := nI 1) hx hb dL_isNext_148 (by decide) ?_
              refine lv_goto (tgt := 153) hx hb dL_isNext_149 (by decide) ?_
              refine lv_istore (lv' := [(4, .int (nI 1)), (3, .int (nI 0)), (2, .int (nI (pm_dl n))), (0, .ref h0), (1, .int (nI n))]) hx hb dL_isNext_153 hl (by decide) rfl (fun ls hl => ?_)
              exact J155 H _ ls hP hS (lv_sub hl [3, 4, 2, 0] rfl)
      · -- 56 no
        refine lv_iconst (v := nI 0) hx hb dL_isNext_59 (by decide) ?_
        refine lv_goto (tgt := 64) hx hb dL_isNext_60 (by decide) ?_
        refine pn_icmp_ne (tgt := 152) hx hb (by first | omega | rfl | exact hmk) (by first | omega | rfl | exact hmk) dL_isNext_64 (by decide) (fun c_54 => ?_) (fun c_54 => ?_)
        · -- 64 yes
          exfalso; omega
        · -- 64 no
          refine lv_iload_n hx hb dL_isNext_67 rfl (lv_at hl 0 rfl) ?_
          refine pn_if_eq (tgt := 123) hx hb (by first | omega | rfl | exact hmk) dL_isNext_68 (by decide) (fun _ => ?_) (fun c_55 => absurd c_55 (by decide))
          refine lv_aload_n hx hb dL_isNext_123 rfl (lv_at hl 2 rfl) ?_
          refine lv_iload_n hx hb dL_isNext_124 rfl (lv_at hl 3 rfl) ?_
          refine lv_iconst (v := nI 1) hx hb dL_isNext_125 (by decide) ?_
          refine pn_iadd hx hb dL_isNext_126 ?_
          refine pz_VR (rest := []) ⟨hx, hb, hml, hown, hts⟩ (k_X0_placeOf l D h0 ac ay ap cyI ts mk ch fy fp (n + 1) (by first | omega | rfl | exact hmk)) (cwV 1 hts gL_isNext_X0_placeOf rfl rfl rfl (by decide +kernel) ⟨Nat.le_of_ble_eq_true rfl, Nat.le_of_ble_eq_true rfl⟩) hK hP hD hS hA [0, 1, 2, 3] rfl rfl rfl 0 0 rfl rfl rfl hl.1 rfl (lv_room (Nat.le_of_ble_eq_true rfl)) dL_isNext_127 ⟨Nat.le_of_ble_eq_true rfl, Nat.le_of_ble_eq_true rfl⟩ (fun r H locs hr hP hS => ?_)
          obtain rfl : r = (nI (pm_pl (n + 1))) := hr
          refine lv_aload_n hx hb dL_isNext_130 rfl (lv_at hl 2 rfl) ?_
          refine lv_iload_n hx hb dL_isNext_131 rfl (lv_at hl 3 rfl) ?_
          refine pz_VR (rest := [.int (nI (pm_pl (n + 1)))]) ⟨hx, hb, hml, hown, hts⟩ (k_X0_placeOf l D h0 ac ay ap cyI ts mk ch fy fp n (by first | omega | rfl | exact hmk)) (cwV 1 hts gL_isNext_X0_placeOf rfl rfl rfl (by decide +kernel) ⟨Nat.le_of_ble_eq_true rfl, Nat.le_of_ble_eq_true rfl⟩) hK hP hD hS hA [0, 1, 2, 3] rfl rfl rfl 0 0 rfl rfl rfl hl.1 rfl (lv_room (Nat.le_of_ble_eq_true rfl)) dL_isNext_132 ⟨Nat.le_of_ble_eq_true rfl, Nat.le_of_ble_eq_true rfl⟩ (fun r H locs hr hP hS => ?_)
          obtain rfl : r = (nI (pm_pl n)) := hr
          refine lv_iload_n hx hb dL_isNext_135 rfl (lv_at hl 1 rfl) ?_
          refine pn_if_eq (tgt := 143) hx hb (by first | omega | rfl | exact hmk) dL_isNext_136 (by decide) (fun c_58 => ?_) (fun c_58 => ?_)
          · -- 136 yes
            refine lv_iconst (v := nI 1) hx hb dL_isNext_143 (by decide) ?_
            refine pn_iadd hx hb dL_isNext_144 ?_
            refine pn_icmp_ne (tgt := 152) hx hb (by first | omega | rfl | exact hmk) (by first | omega | rfl | exact hmk) dL_isNext_145 (by decide) (fun c_59 => ?_) (fun c_59 => ?_)
            · -- 145 yes
              exfalso; omega
            · -- 145 no
              refine lv_iconst (v := nI 1) hx hb dL_isNext_148 (by decide) ?_
              refine lv_goto (tgt := 153) hx hb dL_isNext_149 (by decide) ?_
              refine lv_istore (lv' := [(4, .int (nI 1)), (3, .int (nI 0)), (2, .int (nI (pm_dl n))), (0, .ref h0), (1, .int (nI n))]) hx hb dL_isNext_153 hl (by decide) rfl (fun ls hl => ?_)
              exact J155 H _ ls hP hS (lv_sub hl [3, 4, 2, 0] rfl)
          · -- 136 no
            refine lv_iconst (v := nI 0) hx hb dL_isNext_139 (by decide) ?_
            refine lv_goto (tgt := 144) hx hb dL_isNext_140 (by decide) ?_
            refine pn_iadd hx hb dL_isNext_144 ?_
            refine pn_icmp_ne (tgt := 152) hx hb (by first | omega | rfl | exact hmk) (by first | omega | rfl | exact hmk) dL_isNext_145 (by decide) (fun c_60 => ?_) (fun c_60 => ?_)
            · -- 145 yes
              exfalso; omega
            · -- 145 no
              refine lv_iconst (v := nI 1) hx hb dL_isNext_148 (by decide) ?_
              refine lv_goto (tgt := 153) hx hb dL_isNext_149 (by decide) ?_
              refine lv_istore (lv' := [(4, .int (nI 1)), (3, .int (nI 0)), (2, .int (nI (pm_dl n))), (0, .ref h0), (1, .int (nI n))]) hx hb dL_isNext_153 hl (by decide) rfl (fun ls hl => ?_)
              exact J155 H _ ls hP hS (lv_sub hl [3, 4, 2, 0] rfl)
  · -- 18 no
    refine lv_iconst (v := nI 1) hx hb dL_isNext_21 (by decide) ?_
    refine lv_goto (tgt := 26) hx hb dL_isNext_22 (by decide) ?_
    refine lv_istore_n (lv' := [(3, .int (nI 1)), (2, .int (nI (pm_dl n))), (0, .ref h0), (1, .int (nI n))]) hx hb dL_isNext_26 rfl hl (by decide) rfl (fun ls hl => ?_)
    refine lv_aload_n hx hb dL_isNext_27 rfl (lv_at hl 2 rfl) ?_
    refine lv_iload_n hx hb dL_isNext_28 rfl (lv_at hl 3 rfl) ?_
    refine lv_iconst (v := nI 1) hx hb dL_isNext_29 (by decide) ?_
    refine pn_iadd hx hb dL_isNext_30 ?_
    refine pz_VR (rest := []) ⟨hx, hb, hml, hown, hts⟩ (k_X0_weekdayOf l D h0 ac ay ap cyI ts mk ch fy fp (n + 1) (by first | omega | rfl | exact hmk)) (cwV 1 hts gL_isNext_X0_weekdayOf rfl rfl rfl (by decide +kernel) ⟨Nat.le_of_ble_eq_true rfl, Nat.le_of_ble_eq_true rfl⟩) hK hP hD hS hA [0, 1, 2, 3] rfl rfl rfl 0 0 rfl rfl rfl hl.1 rfl (lv_room (Nat.le_of_ble_eq_true rfl)) dL_isNext_31 ⟨Nat.le_of_ble_eq_true rfl, Nat.le_of_ble_eq_true rfl⟩ (fun r H locs hr hP hS => ?_)
    obtain rfl : r = (nI (((n + 1) + 6) % 7)) := hr
    refine lv_aload_n hx hb dL_isNext_34 rfl (lv_at hl 2 rfl) ?_
    refine lv_iload_n hx hb dL_isNext_35 rfl (lv_at hl 3 rfl) ?_
    refine pz_VR (rest := [.int (nI (((n + 1) + 6) % 7))]) ⟨hx, hb, hml, hown, hts⟩ (k_X0_weekdayOf l D h0 ac ay ap cyI ts mk ch fy fp n (by first | omega | rfl | exact hmk)) (cwV 1 hts gL_isNext_X0_weekdayOf rfl rfl rfl (by decide +kernel) ⟨Nat.le_of_ble_eq_true rfl, Nat.le_of_ble_eq_true rfl⟩) hK hP hD hS hA [0, 1, 2, 3] rfl rfl rfl 0 0 rfl rfl rfl hl.1 rfl (lv_room (Nat.le_of_ble_eq_true rfl)) dL_isNext_36 ⟨Nat.le_of_ble_eq_true rfl, Nat.le_of_ble_eq_true rfl⟩ (fun r H locs hr hP hS => ?_)
    obtain rfl : r = (nI ((n + 6) % 7)) := hr
    refine lv_iconst (v := nI 1) hx hb dL_isNext_39 (by decide) ?_
    refine pn_iadd hx hb dL_isNext_40 ?_
    refine lv_bipush (v := nI 7) hx hb dL_isNext_41 (by decide) ?_
    refine pn_irem hx hb (by first | omega | rfl | exact hmk) (by first | omega | rfl | exact hmk) (by first | omega | rfl | exact hmk) dL_isNext_43 ?_
    refine pn_icmp_ne (tgt := 152) hx hb (by first | omega | rfl | exact hmk) (by first | omega | rfl | exact hmk) dL_isNext_44 (by decide) (fun c_63 => ?_) (fun c_63 => ?_)
    · -- 44 yes
      exfalso; omega
    · -- 44 no
      refine lv_aload_n hx hb dL_isNext_47 rfl (lv_at hl 2 rfl) ?_
      refine lv_iload_n hx hb dL_isNext_48 rfl (lv_at hl 3 rfl) ?_
      refine lv_iload_n hx hb dL_isNext_49 rfl (lv_at hl 3 rfl) ?_
      refine lv_iconst (v := nI 1) hx hb dL_isNext_50 (by decide) ?_
      refine pn_iadd hx hb dL_isNext_51 ?_
      refine pz_VR (rest := []) ⟨hx, hb, hml, hown, hts⟩ (k_X0_lawDays l D h0 ac ay ap cyI ts mk ch fy fp n (n + 1) (by first | omega | rfl | exact hmk) (by first | omega | rfl | exact hmk)) (cwV 2 hts gL_isNext_X0_lawDays rfl rfl rfl (by decide +kernel) ⟨Nat.le_of_ble_eq_true rfl, Nat.le_of_ble_eq_true rfl⟩) hK hP hD hS hA [0, 1, 2, 3] rfl rfl rfl 0 0 rfl rfl rfl hl.1 rfl (lv_room (Nat.le_of_ble_eq_true rfl)) dL_isNext_52 ⟨Nat.le_of_ble_eq_true rfl, Nat.le_of_ble_eq_true rfl⟩ (fun r H locs hr hP hS => ?_)
      obtain rfl : r = (nI (pm_lw (n + 1)) - nI (pm_lw n)) := hr
      refine pn_top (y := nI ((pm_lw (n + 1)) - (pm_lw n))) (pk_sub (by first | omega | rfl | exact hmk)) ?_
      refine lv_iload_n hx hb dL_isNext_55 rfl (lv_at hl 1 rfl) ?_
      refine pn_if_eq (tgt := 63) hx hb (by first | omega | rfl | exact hmk) dL_isNext_56 (by decide) (fun c_65 => ?_) (fun c_65 => ?_)
      · -- 56 yes
        refine lv_iconst (v := nI 1) hx hb dL_isNext_63 (by decide) ?_
        refine pn_icmp_ne (tgt := 152) hx hb (by first | omega | rfl | exact hmk) (by first | omega | rfl | exact hmk) dL_isNext_64 (by decide) (fun c_66 => ?_) (fun c_66 => ?_)
        · -- 64 yes
          exfalso; omega
        · -- 64 no
          refine lv_iload_n hx hb dL_isNext_67 rfl (lv_at hl 0 rfl) ?_
          refine pn_if_eq (tgt := 123) hx hb (by first | omega | rfl | exact hmk) dL_isNext_68 (by decide) (fun c_67 => absurd c_67 (by decide)) (fun _ => ?_)
          refine lv_aload_n hx hb dL_isNext_71 rfl (lv_at hl 2 rfl) ?_
          refine lv_iload_n hx hb dL_isNext_72 rfl (lv_at hl 3 rfl) ?_
          refine lv_iconst (v := nI 1) hx hb dL_isNext_73 (by decide) ?_
          refine pn_iadd hx hb dL_isNext_74 ?_
          refine pz_VR (rest := []) ⟨hx, hb, hml, hown, hts⟩ (k_X0_yearOf l D h0 ac ay ap cyI ts mk ch fy fp (n + 1) (by first | omega | rfl | exact hmk)) (cwV 1 hts gL_isNext_X0_yearOf rfl rfl rfl (by decide +kernel) ⟨Nat.le_of_ble_eq_true rfl, Nat.le_of_ble_eq_true rfl⟩) hK hP hD hS hA [0, 1, 2, 3] rfl rfl rfl 0 0 rfl rfl rfl hl.1 rfl (lv_room (Nat.le_of_ble_eq_true rfl)) dL_isNext_75 ⟨Nat.le_of_ble_eq_true rfl, Nat.le_of_ble_eq_true rfl⟩ (fun r H locs hr hP hS => ?_)
          obtain rfl : r = (nI (pm_yr (n + 1))) := hr
          refine lv_aload_n hx hb dL_isNext_78 rfl (lv_at hl 2 rfl) ?_
          refine lv_iload_n hx hb dL_isNext_79 rfl (lv_at hl 3 rfl) ?_
          refine pz_VR (rest := [.int (nI (pm_yr (n + 1)))]) ⟨hx, hb, hml, hown, hts⟩ (k_X0_yearOf l D h0 ac ay ap cyI ts mk ch fy fp n (by first | omega | rfl | exact hmk)) (cwV 1 hts gL_isNext_X0_yearOf rfl rfl rfl (by decide +kernel) ⟨Nat.le_of_ble_eq_true rfl, Nat.le_of_ble_eq_true rfl⟩) hK hP hD hS hA [0, 1, 2, 3] rfl rfl rfl 0 0 rfl rfl rfl hl.1 rfl (lv_room (Nat.le_of_ble_eq_true rfl)) dL_isNext_80 ⟨Nat.le_of_ble_eq_true rfl, Nat.le_of_ble_eq_true rfl⟩ (fun r H locs hr hP hS => ?_)
          obtain rfl : r = (nI (pm_yr n)) := hr
          refine lv_iconst (v := nI 1) hx hb dL_isNext_83 (by decide) ?_
          refine pn_iadd hx hb dL_isNext_84 ?_
          refine pn_icmp_ne (tgt := 152) hx hb (by first | omega | rfl | exact hmk) (by first | omega | rfl | exact hmk) dL_isNext_85 (by decide) (fun c_70 => ?_) (fun c_70 => ?_)
          · -- 85 yes
            exfalso; omega
          · -- 85 no
            refine lv_aload_n hx hb dL_isNext_88 rfl (lv_at hl 2 rfl) ?_
            refine lv_iload_n hx hb dL_isNext_89 rfl (lv_at hl 3 rfl) ?_
            refine lv_iconst (v := nI 1) hx hb dL_isNext_90 (by decide) ?_
            refine pn_iadd hx hb dL_isNext_91 ?_
            refine pz_VR (rest := []) ⟨hx, hb, hml, hown, hts⟩ (k_X0_placeOf l D h0 ac ay ap cyI ts mk ch fy fp (n + 1) (by first | omega | rfl | exact hmk)) (cwV 1 hts gL_isNext_X0_placeOf rfl rfl rfl (by decide +kernel) ⟨Nat.le_of_ble_eq_true rfl, Nat.le_of_ble_eq_true rfl⟩) hK hP hD hS hA [0, 1, 2, 3] rfl rfl rfl 0 0 rfl rfl rfl hl.1 rfl (lv_room (Nat.le_of_ble_eq_true rfl)) dL_isNext_92 ⟨Nat.le_of_ble_eq_true rfl, Nat.le_of_ble_eq_true rfl⟩ (fun r H locs hr hP hS => ?_)
            obtain rfl : r = (nI (pm_pl (n + 1))) := hr
            refine lv_iconst (v := nI 1) hx hb dL_isNext_95 (by decide) ?_
            refine pn_icmp_ne (tgt := 152) hx hb (by first | omega | rfl | exact hmk) (by first | omega | rfl | exact hmk) dL_isNext_96 (by decide) (fun c_72 => ?_) (fun c_72 => ?_)
            · -- 96 yes
              exfalso; omega
            · -- 96 no
              refine lv_aload_n hx hb dL_isNext_99 rfl (lv_at hl 2 rfl) ?_
              refine lv_iload_n hx hb dL_isNext_100 rfl (lv_at hl 3 rfl) ?_
              refine pz_VR (rest := []) ⟨hx, hb, hml, hown, hts⟩ (k_X0_placeOf l D h0 ac ay ap cyI ts mk ch fy fp n (by first | omega | rfl | exact hmk)) (cwV 1 hts gL_isNext_X0_placeOf rfl rfl rfl (by decide +kernel) ⟨Nat.le_of_ble_eq_true rfl, Nat.le_of_ble_eq_true rfl⟩) hK hP hD hS hA [0, 1, 2, 3] rfl rfl rfl 0 0 rfl rfl rfl hl.1 rfl (lv_room (Nat.le_of_ble_eq_true rfl)) dL_isNext_101 ⟨Nat.le_of_ble_eq_true rfl, Nat.le_of_ble_eq_true rfl⟩ (fun r H locs hr hP hS => ?_)
              obtain rfl : r = (nI (pm_pl n)) := hr
              refine lv_sipush (v := nI 365) hx hb dL_isNext_104 (by decide) ?_
              refine pn_icmp_ne (tgt := 152) hx hb (by first | omega | rfl | exact hmk) (by first | omega | rfl | exact hmk) dL_isNext_107 (by decide) (fun c_74 => ?_) (fun c_74 => ?_)
              · -- 107 yes
                exfalso; omega
              · -- 107 no
                refine lv_aload_n hx hb dL_isNext_110 rfl (lv_at hl 2 rfl) ?_
                refine lv_iload_n hx hb dL_isNext_111 rfl (lv_at hl 3 rfl) ?_
                refine pz_VR (rest := []) ⟨hx, hb, hml, hown, hts⟩ (k_X0_dayOf l D h0 ac ay ap cyI ts mk ch fy fp n (by first | omega | rfl | exact hmk)) (cwV 1 hts gL_isNext_X0_dayOf rfl rfl rfl (by decide +kernel) ⟨Nat.le_of_ble_eq_true rfl, Nat.le_of_ble_eq_true rfl⟩) hK hP hD hS hA [0, 1, 2, 3] rfl rfl rfl 0 0 rfl rfl rfl hl.1 rfl (lv_room (Nat.le_of_ble_eq_true rfl)) dL_isNext_112 ⟨Nat.le_of_ble_eq_true rfl, Nat.le_of_ble_eq_true rfl⟩ (fun r H locs hr hP hS => ?_)
                obtain rfl : r = (nI (pm_da n)) := hr
                refine lv_bipush (v := nI 31) hx hb dL_isNext_115 (by decide) ?_
                refine pn_icmp_ne (tgt := 152) hx hb (by first | omega | rfl | exact hmk) (by first | omega | rfl | exact hmk) dL_isNext_117 (by decide) (fun c_76 => ?_) (fun c_76 => ?_)
                · -- 117 yes
                  exfalso; omega
                · -- 117 no
                  refine lv_goto (tgt := 148) hx hb dL_isNext_120 (by decide) ?_
                  refine lv_iconst (v := nI 1) hx hb dL_isNext_148 (by decide) ?_
                  refine lv_goto (tgt := 153) hx hb dL_isNext_149 (by decide) ?_
                  refine lv_istore (lv' := [(4, .int (nI 1)), (3, .int (nI 1)), (2, .int (nI (pm_dl n))), (0, .ref h0), (1, .int (nI n))]) hx hb dL_isNext_153 hl (by decide) rfl (fun ls hl => ?_)
                  exact J155 H _ ls hP hS (lv_sub hl [3, 4, 2, 0] rfl)
      · -- 56 no
        refine lv_iconst (v := nI 0) hx hb dL_isNext_59 (by decide) ?_
        refine lv_goto (tgt := 64) hx hb dL_isNext_60 (by decide) ?_
        refine pn_icmp_ne (tgt := 152) hx hb (by first | omega | rfl | exact hmk) (by first | omega | rfl | exact hmk) dL_isNext_64 (by decide) (fun c_77 => ?_) (fun c_77 => ?_)
        · -- 64 yes
          exfalso; omega
        · -- 64 no
          refine lv_iload_n hx hb dL_isNext_67 rfl (lv_at hl 0 rfl) ?_
          refine pn_if_eq (tgt := 123) hx hb (by first | omega | rfl | exact hmk) dL_isNext_68 (by decide) (fun c_78 => absurd c_78 (by decide)) (fun _ => ?_)
          refine lv_aload_n hx hb dL_isNext_71 rfl (lv_at hl 2 rfl) ?_
          refine lv_iload_n hx hb dL_isNext_72 rfl (lv_at hl 3 rfl) ?_
          refine lv_iconst (v := nI 1) hx hb dL_isNext_73 (by decide) ?_
          refine pn_iadd hx hb dL_isNext_74 ?_
          refine pz_VR (rest := []) ⟨hx, hb, hml, hown, hts⟩ (k_X0_yearOf l D h0 ac ay ap cyI ts mk ch fy fp (n + 1) (by first | omega | rfl | exact hmk)) (cwV 1 hts gL_isNext_X0_yearOf rfl rfl rfl (by decide +kernel) ⟨Nat.le_of_ble_eq_true rfl, Nat.le_of_ble_eq_true rfl⟩) hK hP hD hS hA [0, 1, 2, 3] rfl rfl rfl 0 0 rfl rfl rfl hl.1 rfl (lv_room (Nat.le_of_ble_eq_true rfl)) dL_isNext_75 ⟨Nat.le_of_ble_eq_true rfl, Nat.le_of_ble_eq_true rfl⟩ (fun r H locs hr hP hS => ?_)
          obtain rfl : r = (nI (pm_yr (n + 1))) := hr
          refine lv_aload_n hx hb dL_isNext_78 rfl (lv_at hl 2 rfl) ?_
          refine lv_iload_n hx hb dL_isNext_79 rfl (lv_at hl 3 rfl) ?_
          refine pz_VR (rest := [.int (nI (pm_yr (n + 1)))]) ⟨hx, hb, hml, hown, hts⟩ (k_X0_yearOf l D h0 ac ay ap cyI ts mk ch fy fp n (by first | omega | rfl | exact hmk)) (cwV 1 hts gL_isNext_X0_yearOf rfl rfl rfl (by decide +kernel) ⟨Nat.le_of_ble_eq_true rfl, Nat.le_of_ble_eq_true rfl⟩) hK hP hD hS hA [0, 1, 2, 3] rfl rfl rfl 0 0 rfl rfl rfl hl.1 rfl (lv_room (Nat.le_of_ble_eq_true rfl)) dL_isNext_80 ⟨Nat.le_of_ble_eq_true rfl, Nat.le_of_ble_eq_true rfl⟩ (fun r H locs hr hP hS => ?_)
          obtain rfl : r = (nI (pm_yr n)) := hr
          refine lv_iconst (v := nI 1) hx hb dL_isNext_83 (by decide) ?_
          refine pn_iadd hx hb dL_isNext_84 ?_
          refine pn_icmp_ne (tgt := 152) hx hb (by first | omega | rfl | exact hmk) (by first | omega | rfl | exact hmk) dL_isNext_85 (by decide) (fun c_81 => ?_) (fun c_81 => ?_)
          · -- 85 yes
            exfalso; omega
          · -- 85 no
            refine lv_aload_n hx hb dL_isNext_88 rfl (lv_at hl 2 rfl) ?_
            refine lv_iload_n hx hb dL_isNext_89 rfl (lv_at hl 3 rfl) ?_
            refine lv_iconst (v := nI 1) hx hb dL_isNext_90 (by decide) ?_
            refine pn_iadd hx hb dL_isNext_91 ?_
            refine pz_VR (rest := []) ⟨hx, hb, hml, hown, hts⟩ (k_X0_placeOf l D h0 ac ay ap cyI ts mk ch fy fp (n + 1) (by first | omega | rfl | exact hmk)) (cwV 1 hts gL_isNext_X0_placeOf rfl rfl rfl (by decide +kernel) ⟨Nat.le_of_ble_eq_true rfl, Nat.le_of_ble_eq_true rfl⟩) hK hP hD hS hA [0, 1, 2, 3] rfl rfl rfl 0 0 rfl rfl rfl hl.1 rfl (lv_room (Nat.le_of_ble_eq_true rfl)) dL_isNext_92 ⟨Nat.le_of_ble_eq_true rfl, Nat.le_of_ble_eq_true rfl⟩ (fun r H locs hr hP hS => ?_)
            obtain rfl : r = (nI (pm_pl (n + 1))) := hr
            refine lv_iconst (v := nI 1) hx hb dL_isNext_95 (by decide) ?_
            refine pn_icmp_ne (tgt := 152) hx hb (by first | omega | rfl | exact hmk) (by first | omega | rfl | exact hmk) dL_isNext_96 (by decide) (fun c_83 => ?_) (fun c_83 => ?_)
            · -- 96 yes
              exfalso; omega
            · -- 96 no
              refine lv_aload_n hx hb dL_isNext_99 rfl (lv_at hl 2 rfl) ?_
              refine lv_iload_n hx hb dL_isNext_100 rfl (lv_at hl 3 rfl) ?_
              refine pz_VR (rest := []) ⟨hx, hb, hml, hown, hts⟩ (k_X0_placeOf l D h0 ac ay ap cyI ts mk ch fy fp n (by first | omega | rfl | exact hmk)) (cwV 1 hts gL_isNext_X0_placeOf rfl rfl rfl (by decide +kernel) ⟨Nat.le_of_ble_eq_true rfl, Nat.le_of_ble_eq_true rfl⟩) hK hP hD hS hA [0, 1, 2, 3] rfl rfl rfl 0 0 rfl rfl rfl hl.1 rfl (lv_room (Nat.le_of_ble_eq_true rfl)) dL_isNext_101 ⟨Nat.le_of_ble_eq_true rfl, Nat.le_of_ble_eq_true rfl⟩ (fun r H locs hr hP hS => ?_)
              obtain rfl : r = (nI (pm_pl n)) := hr
              refine lv_sipush (v := nI 365) hx hb dL_isNext_104 (by decide) ?_
              refine pn_icmp_ne (tgt := 152) hx hb (by first | omega | rfl | exact hmk) (by first | omega | rfl | exact hmk) dL_isNext_107 (by decide) (fun c_85 => ?_) (fun c_85 => ?_)
              · -- 107 yes
                exfalso; omega
              · -- 107 no
                refine lv_aload_n hx hb dL_isNext_110 rfl (lv_at hl 2 rfl) ?_
                refine lv_iload_n hx hb dL_isNext_111 rfl (lv_at hl 3 rfl) ?_
                refine pz_VR (rest := []) ⟨hx, hb, hml, hown, hts⟩ (k_X0_dayOf l D h0 ac ay ap cyI ts mk ch fy fp n (by first | omega | rfl | exact hmk)) (cwV 1 hts gL_isNext_X0_dayOf rfl rfl rfl (by decide +kernel) ⟨Nat.le_of_ble_eq_true rfl, Nat.le_of_ble_eq_true rfl⟩) hK hP hD hS hA [0, 1, 2, 3] rfl rfl rfl 0 0 rfl rfl rfl hl.1 rfl (lv_room (Nat.le_of_ble_eq_true rfl)) dL_isNext_112 ⟨Nat.le_of_ble_eq_true rfl, Nat.le_of_ble_eq_true rfl⟩ (fun r H locs hr hP hS => ?_)
                obtain rfl : r = (nI (pm_da n)) := hr
                refine lv_bipush (v := nI 31) hx hb dL_isNext_115 (by decide) ?_
                refine pn_icmp_ne (tgt := 152) hx hb (by first | omega | rfl | exact hmk) (by first | omega | rfl | exact hmk) dL_isNext_117 (by decide) (fun c_87 => ?_) (fun c_87 => ?_)
                · -- 117 yes
                  exfalso; omega
                · -- 117 no
                  refine lv_goto (tgt := 148) hx hb dL_isNext_120 (by decide) ?_
                  refine lv_iconst (v := nI 1) hx hb dL_isNext_148 (by decide) ?_
                  refine lv_goto (tgt := 153) hx hb dL_isNext_149 (by decide) ?_
                  refine lv_istore (lv' := [(4, .int (nI 1)), (3, .int (nI 1)), (2, .int (nI (pm_dl n))), (0, .ref h0), (1, .int (nI n))]) hx hb dL_isNext_153 hl (by decide) rfl (fun ls hl => ?_)
                  exact J155 H _ ls hP hS (lv_sub hl [3, 4, 2, 0] rfl)
end PZG
