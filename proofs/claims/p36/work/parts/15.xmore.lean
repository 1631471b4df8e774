section PZ4
set_option maxHeartbeats 4000000 in
set_option maxRecDepth 100000 in
theorem k_X0_numberByCounting (l : Launch) (D : va_G) (h0 ac ay ap : Nat) (cyI : ClassId) (ts : List (ClassId × FieldType)) (mk : Nat) (ch fy fp : Nat → Nat) (y mm dy : Nat) (hy0 : 1 ≤ y) (hy1 : y ≤ 3000) (hy2 : 1 ≤ mm) (hy3 : mm ≤ 12) (hy4 : 1 ≤ dy) (hy5 : dy ≤ pm_ln y mm) : pz_R l yX0_numberByCounting wsX0_numberByCounting ({ frames := 3, cells := 0, slots := 0, locals := 64 } : Room) D ((cyI, .int) :: ts) [.ref h0, .int (nI y), .int (nI mm), .int (nI dy)] [(h0, .inr (0, [.ref ac, .ref ay, .ref ap, .int (nI mk)])), (ac, .inl (cyI, 365, .inl (pz_ar ch))), (ay, .inl (cyI, 60, .inl (pz_ar fy))), (ap, .inl (cyI, 60, .inl (pz_ar fp)))] (fun r => r = nI (pm_fd y + pm_db y mm + dy - 1)) := by
  refine pz_R_of (cc := cX0_numberByCounting) (maxL := 8) (ty := .int) (own := RX0) (by decide) rfl rfl (Nat.le_of_ble_eq_true rfl) ?_
  intro p e s m below meth c A ls Q hx hb hml hown hts hK hP hD hS hA hl hQ
  have hl : lv_has ls 8 [(0, .ref h0), (1, .int (nI y)), (2, .int (nI mm)), (3, .int (nI dy))] := hl
  have hf1 := pm_fd_e y
  have hln := pm_ln_b y mm
  have hdb := pm_db_b y mm (by omega)
  refine lv_iload_n hx hb dX0_numberByCounting_0 rfl (lv_at hl 1 rfl) ?_
  refine lv_iload_n hx hb dX0_numberByCounting_1 rfl (lv_at hl 2 rfl) ?_
  refine lv_iload_n hx hb dX0_numberByCounting_2 rfl (lv_at hl 3 rfl) ?_
  refine pz_SRV (rest := []) ⟨hx, hb, hml, hown, hts⟩ (k_X0_checkDate l D ((cyI, .int) :: ts) y mm dy (by omega) (by omega) (by omega) (by omega) (by omega) (by omega)) (va_cwS 3 hts gX0_numberByCounting_X0_checkDate rfl rfl rfl (by decide +kernel) ⟨Nat.le_of_ble_eq_true rfl, Nat.le_of_ble_eq_true rfl⟩) hK hP hD hS hA [] rfl rfl rfl rfl hl.1 rfl (lv_room (Nat.le_of_ble_eq_true rfl)) dX0_numberByCounting_3 ⟨Nat.le_of_ble_eq_true rfl, Nat.le_of_ble_eq_true rfl⟩ (fun H locs hP hS => ?_)
  refine lv_iload_n hx hb dX0_numberByCounting_6 rfl (lv_at hl 1 rfl) ?_
  refine pz_SR (rest := []) ⟨hx, hb, hml, hown, hts⟩ (k_X0_firstDayOf l D ((cyI, .int) :: ts) y (by omega) (by omega)) (va_cwS 1 hts gX0_numberByCounting_X0_firstDayOf rfl rfl rfl (by decide +kernel) ⟨Nat.le_of_ble_eq_true rfl, Nat.le_of_ble_eq_true rfl⟩) hK hP hD hS hA [] rfl rfl rfl rfl hl.1 rfl (lv_room (Nat.le_of_ble_eq_true rfl)) dX0_numberByCounting_7 ⟨Nat.le_of_ble_eq_true rfl, Nat.le_of_ble_eq_true rfl⟩ (fun r H locs hr hP hS => ?_)
  obtain rfl : r = (nI (pm_fd y)) := hr
  have hf_3 := pm_fd_e y
  refine lv_istore (lv' := [(4, .int (nI (pm_fd y))), (0, .ref h0), (1, .int (nI y)), (2, .int (nI mm)), (3, .int (nI dy))]) hx hb dX0_numberByCounting_10 hl (by decide) rfl (fun ls hl => ?_)
  refine lv_iconst (v := nI 1) hx hb dX0_numberByCounting_12 (by decide) ?_
  refine lv_istore (lv' := [(5, .int (nI 1)), (4, .int (nI (pm_fd y))), (0, .ref h0), (1, .int (nI y)), (2, .int (nI mm)), (3, .int (nI dy))]) hx hb dX0_numberByCounting_13 hl (by decide) rfl (fun ls hl => ?_)
  have LP15 : ∀ (N : Nat) (k : Nat) (H : Heap) (locs : List Loc) (ls : Array Slot), mm - k < N → (1 ≤ k) → (k ≤ mm) → va_P D vwCl [(h0, .inr (0, [.ref ac, .ref ay, .ref ap, .int (nI mk)])), (ac, .inl (cyI, 365, .inl (pz_ar ch))), (ay, .inl (cyI, 60, .inl (pz_ar fy))), (ap, .inl (cyI, 60, .inl (pz_ar fp)))] H → va_S A s.heap H locs → lv_has ls 8 [(4, .int (nI (pm_fd y + pm_db y k))), (5, .int (nI k)), (0, .ref h0), (1, .int (nI y)), (2, .int (nI mm)), (3, .int (nI dy))] → W p l e ({ frames := 3, cells := 0, slots := 0, locals := 64 } : Room) s m ([.ref h0, .int (nI y), .int (nI mm), .int (nI dy)] : List Value).toArray below meth c H locs 0 0 Q (F0 m 15 ls []) := by
    intro N
    induction N with
    | zero => intro k H locs ls hN; exact absurd hN (Nat.not_lt_zero _)
    | succ N ih =>
      intro k H locs ls hN hi15_0 hi15_1 hP hS hl
      have hdk_0 := pm_db_b y k (by omega)
      have hsk_0 := pm_db_s y k (by omega)
      have hlk_0 := pm_ln_b y k
      have ih15 := ih
      refine lv_iload hx hb dX0_numberByCounting_15 (lv_at hl 1 rfl) ?_
      refine lv_iload_n hx hb dX0_numberByCounting_17 rfl (lv_at hl 4 rfl) ?_
      refine pn_icmp_ge (tgt := 54) hx hb (by omega) (by omega) dX0_numberByCounting_18 (by decide) (fun c_4 => ?_) (fun c_4 => ?_)
      · -- 18 yes
        refine lv_iconst (v := nI 1) hx hb dX0_numberByCounting_54 (by decide) ?_
        refine lv_istore (lv' := [(5, .int (nI 1)), (4, .int (nI (pm_fd y + pm_db y k))), (0, .ref h0), (1, .int (nI y)), (2, .int (nI mm)), (3, .int (nI dy))]) hx hb dX0_numberByCounting_55 hl (by decide) rfl (fun ls hl => ?_)
        have LP57 : ∀ (N : Nat) (j : Nat) (H : Heap) (locs : List Loc) (ls : Array Slot), dy - j < N → (1 ≤ j) → (j ≤ dy) → va_P D vwCl [(h0, .inr (0, [.ref ac, .ref ay, .ref ap, .int (nI mk)])), (ac, .inl (cyI, 365, .inl (pz_ar ch))), (ay, .inl (cyI, 60, .inl (pz_ar fy))), (ap, .inl (cyI, 60, .inl (pz_ar fp)))] H → va_S A s.heap H locs → lv_has ls 8 [(4, .int (nI (pm_fd y + pm_db y mm + j - 1))), (5, .int (nI j)), (0, .ref h0), (1, .int (nI y)), (2, .int (nI mm)), (3, .int (nI dy))] → W p l e ({ frames := 3, cells := 0, slots := 0, locals := 64 } : Room) s m ([.ref h0, .int (nI y), .int (nI mm), .int (nI dy)] : List Value).toArray below meth c H locs 0 0 Q (F0 m 57 ls []) := by
          intro N
          induction N with
          | zero => intro j H locs ls hN; exact absurd hN (Nat.not_lt_zero _)
          | succ N ih =>
            intro j H locs ls hN hi57_0 hi57_1 hP hS hl
            have ih57 := ih
            refine lv_iload hx hb dX0_numberByCounting_57 (lv_at hl 1 rfl) ?_
            refine lv_iload_n hx hb dX0_numberByCounting_59 rfl (lv_at hl 5 rfl) ?_
            refine pn_icmp_ge (tgt := 72) hx hb (by omega) (by omega) dX0_numberByCounting_60 (by decide) (fun c_5 => ?_) (fun c_5 => ?_)
            · -- 60 yes
              refine lv_iload hx hb dX0_numberByCounting_72 (lv_at hl 0 rfl) ?_
              exact hQ _ _ _ _ _ dX0_numberByCounting_74 rfl (congrArg nI (by (have h9 : j = dy := by omega); rw [h9])) hS
            · -- 60 no
              refine lv_iinc (v := (nI (pm_fd y + pm_db y mm + j - 1 + 1))) (lv' := [(4, .int (nI (pm_fd y + pm_db y mm + j - 1 + 1))), (5, .int (nI j)), (0, .ref h0), (1, .int (nI y)), (2, .int (nI mm)), (3, .int (nI dy))]) hx hb dX0_numberByCounting_63 hl (k := 0) rfl (by exact nI_add _ 1) (by decide) rfl (fun ls hl => ?_)
              refine lv_iinc (v := (nI (j + 1))) (lv' := [(5, .int (nI (j + 1))), (4, .int (nI (pm_fd y + pm_db y mm + j - 1 + 1))), (0, .ref h0), (1, .int (nI y)), (2, .int (nI mm)), (3, .int (nI dy))]) hx hb dX0_numberByCounting_66 hl (k := 1) rfl (by exact nI_add _ 1) (by decide) rfl (fun ls hl => ?_)
              refine lv_goto (tgt := 57) hx hb dX0_numberByCounting_69 (by decide) ?_
              have hq6 : pm_fd y + pm_db y mm + j - 1 + 1 = pm_fd y + pm_db y mm + (j + 1) - 1 := by (have h9 : k = mm := by omega); subst h9; omega
              exact ih57 (j + 1) _ _ _ (by omega) (by omega) (by omega) hP hS (by rw [← hq6]; exact lv_sub hl [1, 0, 2, 3, 4, 5] rfl)
        have hq7 : pm_fd y + pm_db y k = pm_fd y + pm_db y mm + 1 - 1 := by (have h9 : k = mm := by omega); subst h9; omega
        exact LP57 _ 1 _ _ _ (Nat.lt_succ_self _) (by omega) (by omega) hP hS (by rw [← hq7]; exact lv_sub hl [1, 0, 2, 3, 4, 5] rfl)
      · -- 18 no
        refine lv_iload_n hx hb dX0_numberByCounting_21 rfl (lv_at hl 3 rfl) ?_
        refine lv_iload hx hb dX0_numberByCounting_22 (lv_at hl 1 rfl) ?_
        refine pz_SR (rest := []) ⟨hx, hb, hml, hown, hts⟩ (k_X0_lengthOf l D ((cyI, .int) :: ts) y k (by omega) (by omega)) (va_cwS 2 hts gX0_numberByCounting_X0_lengthOf rfl rfl rfl (by decide +kernel) ⟨Nat.le_of_ble_eq_true rfl, Nat.le_of_ble_eq_true rfl⟩) hK hP hD hS hA [] rfl rfl rfl rfl hl.1 rfl (lv_room (Nat.le_of_ble_eq_true rfl)) dX0_numberByCounting_24 ⟨Nat.le_of_ble_eq_true rfl, Nat.le_of_ble_eq_true rfl⟩ (fun r H locs hr hP hS => ?_)
        obtain rfl : r = (nI (pm_ln y k)) := hr
        have hf_9 := pm_ln_b y k
        refine lv_istore (lv' := [(6, .int (nI (pm_ln y k))), (4, .int (nI (pm_fd y + pm_db y k))), (5, .int (nI k)), (0, .ref h0), (1, .int (nI y)), (2, .int (nI mm)), (3, .int (nI dy))]) hx hb dX0_numberByCounting_27 hl (by decide) rfl (fun ls hl => ?_)
        refine lv_iconst (v := nI 1) hx hb dX0_numberByCounting_29 (by decide) ?_
        refine lv_istore (lv' := [(7, .int (nI 1)), (6, .int (nI (pm_ln y k))), (4, .int (nI (pm_fd y + pm_db y k))), (5, .int (nI k)), (0, .ref h0), (1, .int (nI y)), (2, .int (nI mm)), (3, .int (nI dy))]) hx hb dX0_numberByCounting_30 hl (by decide) rfl (fun ls hl => ?_)
        have LP32 : ∀ (N : Nat) (j : Nat) (H : Heap) (locs : List Loc) (ls : Array Slot), pm_ln y k + 1 - j < N → (1 ≤ j) → (j ≤ pm_ln y k + 1) → va_P D vwCl [(h0, .inr (0, [.ref ac, .ref ay, .ref ap, .int (nI mk)])), (ac, .inl (cyI, 365, .inl (pz_ar ch))), (ay, .inl (cyI, 60, .inl (pz_ar fy))), (ap, .inl (cyI, 60, .inl (pz_ar fp)))] H → va_S A s.heap H locs → lv_has ls 8 [(4, .int (nI (pm_fd y + pm_db y k + j - 1))), (7, .int (nI j)), (6, .int (nI (pm_ln y k))), (5, .int (nI k)), (0, .ref h0), (1, .int (nI y)), (2, .int (nI mm)), (3, .int (nI dy))] → W p l e ({ frames := 3, cells := 0, slots := 0, locals := 64 } : Room) s m ([.ref h0, .int (nI y), .int (nI mm), .int (nI dy)] : List Value).toArray below meth c H locs 0 0 Q (F0 m 32 ls []) := by
          intro N
          induction N with
          | zero => intro j H locs ls hN; exact absurd hN (Nat.not_lt_zero _)
          | succ N ih =>
            intro j H locs ls hN hi32_0 hi32_1 hP hS hl
            have ih32 := ih
            refine lv_iload hx hb dX0_numberByCounting_32 (lv_at hl 1 rfl) ?_
            refine lv_iload hx hb dX0_numberByCounting_34 (lv_at hl 2 rfl) ?_
            refine pn_icmp_gt (tgt := 48) hx hb (by omega) (by omega) dX0_numberByCounting_36 (by decide) (fun c_10 => ?_) (fun c_10 => ?_)
            · -- 36 yes
              refine lv_iinc (v := (nI (k + 1))) (lv' := [(5, .int (nI (k + 1))), (4, .int (nI (pm_fd y + pm_db y k + j - 1))), (7, .int (nI j)), (6, .int (nI (pm_ln y k))), (0, .ref h0), (1, .int (nI y)), (2, .int (nI mm)), (3, .int (nI dy))]) hx hb dX0_numberByCounting_48 hl (k := 3) rfl (by exact nI_add _ 1) (by decide) rfl (fun ls hl => ?_)
              refine lv_goto (tgt := 15) hx hb dX0_numberByCounting_51 (by decide) ?_
              have hq11 : pm_fd y + pm_db y k + j - 1 = pm_fd y + pm_db y (k + 1) := by first | exact (pm_db_1 y).symm | (rw [pm_db_1]; omega) | omega
              exact ih15 (k + 1) _ _ _ (by omega) (by omega) (by omega) hP hS (by rw [← hq11]; exact lv_sub hl [1, 0, 4, 5, 6, 7] rfl)
            · -- 36 no
              refine lv_iinc (v := (nI (pm_fd y + pm_db y k + j - 1 + 1))) (lv' := [(4, .int (nI (pm_fd y + pm_db y k + j - 1 + 1))), (7, .int (nI j)), (6, .int (nI (pm_ln y k))), (5, .int (nI k)), (0, .ref h0), (1, .int (nI y)), (2, .int (nI mm)), (3, .int (nI dy))]) hx hb dX0_numberByCounting_39 hl (k := 0) rfl (by exact nI_add _ 1) (by decide) rfl (fun ls hl => ?_)
              refine lv_iinc (v := (nI (j + 1))) (lv' := [(7, .int (nI (j + 1))), (4, .int (nI (pm_fd y + pm_db y k + j - 1 + 1))), (6, .int (nI (pm_ln y k))), (5, .int (nI k)), (0, .ref h0), (1, .int (nI y)), (2, .int (nI mm)), (3, .int (nI dy))]) hx hb dX0_numberByCounting_42 hl (k := 1) rfl (by exact nI_add _ 1) (by decide) rfl (fun ls hl => ?_)
              refine lv_goto (tgt := 32) hx hb dX0_numberByCounting_45 (by decide) ?_
              have hq12 : pm_fd y + pm_db y k + j - 1 + 1 = pm_fd y + pm_db y k + (j + 1) - 1 := by omega
              exact ih32 (j + 1) _ _ _ (by omega) (by omega) (by omega) hP hS (by rw [← hq12]; exact lv_sub hl [1, 0, 2, 3, 4, 5, 6, 7] rfl)
        have hq13 : pm_fd y + pm_db y k = pm_fd y + pm_db y k + 1 - 1 := by omega
        exact LP32 _ 1 _ _ _ (Nat.lt_succ_self _) (by omega) (by omega) hP hS (by rw [← hq13]; exact lv_sub hl [2, 0, 1, 3, 4, 5, 6, 7] rfl)
  have hq14 : pm_fd y = pm_fd y + pm_db y 1 := by first | exact (pm_db_1 y).symm | (rw [pm_db_1]; omega) | omega
  exact LP15 _ 1 _ _ _ (Nat.lt_succ_self _) (by omega) (by omega) hP hS (by rw [← hq14]; exact lv_sub hl [1, 0, 2, 3, 4, 5] rfl)
set_option maxHeartbeats 4000000 in
set_option maxRecDepth 100000 in
theorem k_X0_fromCount (l : Launch) (D : va_G) (h0 ac ay ap : Nat) (cyI : ClassId) (ts : List (ClassId × FieldType)) (mk : Nat) (ch fy fp : Nat → Nat) (y mm a k bd : Nat) (hy0 : 1 ≤ y) (hy1 : y ≤ 3000) (hy2 : 1 ≤ mm) (hy3 : mm ≤ 12) (hy4 : a ≤ 2) (hy5 : 1 ≤ k) (hy6 : k ≤ pm_gc mm a) (hy7 : bd ≤ 1) (hy8 : bd = 1 → (y % 4 = 0 ∧ mm = 3 ∧ a = 0 ∧ k = 6)) : pz_R l yX0_fromCount wsX0_fromCount ({ frames := 3, cells := 0, slots := 0, locals := 65 } : Room) D ((cyI, .int) :: ts) [.ref h0, .int (nI y), .int (nI mm), .int (nI a), .int (nI k), .int (nI bd)] [(h0, .inr (0, [.ref ac, .ref ay, .ref ap, .int (nI mk)])), (ac, .inl (cyI, 365, .inl (pz_ar ch))), (ay, .inl (cyI, 60, .inl (pz_ar fy))), (ap, .inl (cyI, 60, .inl (pz_ar fp)))] (fun r => r = nI (pm_fc y mm a k bd)) := by
  refine pz_R_of (cc := cX0_fromCount) (maxL := 8) (ty := .int) (own := RX0) (by decide) rfl rfl (Nat.le_of_ble_eq_true rfl) ?_
  intro p e s m below meth c A ls Q hx hb hml hown hts hK hP hD hS hA hl hQ
  have hl : lv_has ls 8 [(0, .ref h0), (1, .int (nI y)), (2, .int (nI mm)), (3, .int (nI a)), (4, .int (nI k)), (5, .int (nI bd))] := hl
  have hgb := pm_gc_b mm a
  have hfb := pm_fp_b (mm := mm) (a := a) (k := k) (by omega) hy2 (by omega) hy5 hy6
  have hab := pm_an_b mm a (by omega)
  have hcb := pm_cb_b mm (by omega)
  have hle := pm_ld_g y (pm_fp mm a k) (by omega) (by omega)
  refine lv_iload_n hx hb dX0_fromCount_0 rfl (lv_at hl 1 rfl) ?_
  refine pz_SRV (rest := []) ⟨hx, hb, hml, hown, hts⟩ (k_X0_checkYear l D ((cyI, .int) :: ts) y (by omega) (by omega)) (va_cwS 1 hts gX0_fromCount_X0_checkYear rfl rfl rfl (by decide +kernel) ⟨Nat.le_of_ble_eq_true rfl, Nat.le_of_ble_eq_true rfl⟩) hK hP hD hS hA [] rfl rfl rfl rfl hl.1 rfl (lv_room (Nat.le_of_ble_eq_true rfl)) dX0_fromCount_1 ⟨Nat.le_of_ble_eq_true rfl, Nat.le_of_ble_eq_true rfl⟩ (fun H locs hP hS => ?_)
  refine lv_iload_n hx hb dX0_fromCount_4 rfl (lv_at hl 2 rfl) ?_
  refine pz_SRV (rest := []) ⟨hx, hb, hml, hown, hts⟩ (k_X0_checkMonth l D ((cyI, .int) :: ts) mm (by omega) (by omega)) (va_cwS 1 hts gX0_fromCount_X0_checkMonth rfl rfl rfl (by decide +kernel) ⟨Nat.le_of_ble_eq_true rfl, Nat.le_of_ble_eq_true rfl⟩) hK hP hD hS hA [] rfl rfl rfl rfl hl.1 rfl (lv_room (Nat.le_of_ble_eq_true rfl)) dX0_fromCount_5 ⟨Nat.le_of_ble_eq_true rfl, Nat.le_of_ble_eq_true rfl⟩ (fun H locs hP hS => ?_)
  refine lv_iload_n hx hb dX0_fromCount_8 rfl (lv_at hl 3 rfl) ?_
  refine pz_SRV (rest := []) ⟨hx, hb, hml, hown, hts⟩ (k_X0_checkAnchor l D ((cyI, .int) :: ts) a (by omega)) (va_cwS 1 hts gX0_fromCount_X0_checkAnchor rfl rfl rfl (by decide +kernel) ⟨Nat.le_of_ble_eq_true rfl, Nat.le_of_ble_eq_true rfl⟩) hK hP hD hS hA [] rfl rfl rfl rfl hl.1 rfl (lv_room (Nat.le_of_ble_eq_true rfl)) dX0_fromCount_9 ⟨Nat.le_of_ble_eq_true rfl, Nat.le_of_ble_eq_true rfl⟩ (fun H locs hP hS => ?_)
  refine lv_iload hx hb dX0_fromCount_12 (lv_at hl 4 rfl) ?_
  refine lv_iconst (v := nI 1) hx hb dX0_fromCount_14 (by decide) ?_
  refine pn_icmp_ge (tgt := 28) hx hb (by omega) (by omega) dX0_fromCount_15 (by decide) (fun c_4 => ?_) (fun c_4 => ?_)
  · -- 15 yes
    refine lv_iload hx hb dX0_fromCount_28 (lv_at hl 4 rfl) ?_
    refine lv_iload_n hx hb dX0_fromCount_30 rfl (lv_at hl 2 rfl) ?_
    refine lv_iload_n hx hb dX0_fromCount_31 rfl (lv_at hl 3 rfl) ?_
    refine pz_SR (rest := [.int (nI k)]) ⟨hx, hb, hml, hown, hts⟩ (k_X0_greatestCountTo l D ((cyI, .int) :: ts) mm a (by omega) (by omega) (by omega)) (va_cwS 2 hts gX0_fromCount_X0_greatestCountTo rfl rfl rfl (by decide +kernel) ⟨Nat.le_of_ble_eq_true rfl, Nat.le_of_ble_eq_true rfl⟩) hK hP hD hS hA [] rfl rfl rfl rfl hl.1 rfl (lv_room (Nat.le_of_ble_eq_true rfl)) dX0_fromCount_32 ⟨Nat.le_of_ble_eq_true rfl, Nat.le_of_ble_eq_true rfl⟩ (fun r H locs hr hP hS => ?_)
    obtain rfl : r = (nI (pm_gc mm a)) := hr
    have hf_6 := pm_gc_b mm a
    refine pn_icmp_le (tgt := 48) hx hb (by omega) (by omega) dX0_fromCount_35 (by decide) (fun c_7 => ?_) (fun c_7 => ?_)
    · -- 35 yes
      refine lv_iload hx hb dX0_fromCount_48 (lv_at hl 5 rfl) ?_
      refine pn_if_eq (tgt := 74) hx hb (by omega) dX0_fromCount_50 (by decide) (fun c_8 => ?_) (fun c_8 => ?_)
      · -- 50 yes
        refine lv_iload_n hx hb dX0_fromCount_74 rfl (lv_at hl 2 rfl) ?_
        refine lv_iload_n hx hb dX0_fromCount_75 rfl (lv_at hl 3 rfl) ?_
        refine pz_SR (rest := []) ⟨hx, hb, hml, hown, hts⟩ (k_X0_placeOfAnchor l D ((cyI, .int) :: ts) mm a (by omega) (by omega) (by omega)) (va_cwS 2 hts gX0_fromCount_X0_placeOfAnchor rfl rfl rfl (by decide +kernel) ⟨Nat.le_of_ble_eq_true rfl, Nat.le_of_ble_eq_true rfl⟩) hK hP hD hS hA [] rfl rfl rfl rfl hl.1 rfl (lv_room (Nat.le_of_ble_eq_true rfl)) dX0_fromCount_76 ⟨Nat.le_of_ble_eq_true rfl, Nat.le_of_ble_eq_true rfl⟩ (fun r H locs hr hP hS => ?_)
        obtain rfl : r = (nI (pm_an mm a)) := hr
        have hf_10 := pm_an_b mm a (by omega)
        have hf_11 := pm_cb_b mm (by omega)
        refine lv_iload hx hb dX0_fromCount_79 (lv_at hl 4 rfl) ?_
        rcases Nat.lt_or_ge (pm_an mm a) k with hlt | hge
        · -- behind the ides of December
          have hz1 := pz_sub1 (A := pm_an mm a) (k := k) (by omega) (by omega)
          have hz2 := pz_sub2 (A := pm_an mm a) (k := k) (by omega) (by omega) hlt (by omega)
          have hz3 : pm_fp mm a k = pm_an mm a + 366 - k := by unfold pm_fp; rw [if_neg (by omega)]
          refine lv_isub hx hb dX0_fromCount_81 ?_
          refine lv_iconst (v := nI 1) hx hb dX0_fromCount_82 (by decide) ?_
          refine lv_iadd hx hb dX0_fromCount_83 ?_
          refine lv_istore (lv' := [(6, .int (((nI (pm_an mm a)) - (nI k)) + (nI 1))), (0, .ref h0), (1, .int (nI y)), (2, .int (nI mm)), (3, .int (nI a)), (4, .int (nI k)), (5, .int (nI bd))]) hx hb dX0_fromCount_84 hl (by decide) rfl (fun ls hl => ?_)
          refine lv_iload hx hb dX0_fromCount_86 (lv_at hl 0 rfl) ?_
          refine lv_iconst (v := nI 1) hx hb dX0_fromCount_88 (by decide) ?_
          refine pi_icmp_ge (tgt := 98) (a := ((((nI (pm_an mm a)) - (nI k)) + (nI 1))).toInt) (b := ((1 : Nat) : Int)) hx hb rfl (nI_toInt (by omega)) dX0_fromCount_89 (by decide) (fun c_12 => ?_) (fun c_12 => ?_)
          · -- 89 yes
            exfalso; rw [hz1] at *; omega
          · -- 89 no
            refine lv_iincW (v := (nI (pm_an mm a + 366 - k))) (lv' := [(6, .int (nI (pm_an mm a + 366 - k))), (0, .ref h0), (1, .int (nI y)), (2, .int (nI mm)), (3, .int (nI a)), (4, .int (nI k)), (5, .int (nI bd))]) hx hb dX0_fromCount_92 hl (k := 0) rfl hz2 (by decide) rfl (fun ls hl => ?_)
            refine lv_iload_n hx hb dX0_fromCount_98 rfl (lv_at hl 2 rfl) ?_
            refine lv_iload hx hb dX0_fromCount_99 (lv_at hl 0 rfl) ?_
            refine pz_SR (rest := []) ⟨hx, hb, hml, hown, hts⟩ (k_X0_lastDayOfPlace l D ((cyI, .int) :: ts) y (pm_an mm a + 366 - k) (by omega) (by omega) (by omega) (by omega)) (va_cwS 2 hts gX0_fromCount_X0_lastDayOfPlace rfl rfl rfl (by decide +kernel) ⟨Nat.le_of_ble_eq_true rfl, Nat.le_of_ble_eq_true rfl⟩) hK hP hD hS hA [] rfl rfl rfl rfl hl.1 rfl (lv_room (Nat.le_of_ble_eq_true rfl)) dX0_fromCount_101 ⟨Nat.le_of_ble_eq_true rfl, Nat.le_of_ble_eq_true rfl⟩ (fun r H locs hr hP hS => ?_)
            obtain rfl : r = (nI (pm_ld y (pm_an mm a + 366 - k))) := hr
            have hf_14 := pm_ld_b y (pm_an mm a + 366 - k) (by omega) (by omega)
            refine lv_istore (lv' := [(7, .int (nI (pm_ld y (pm_an mm a + 366 - k)))), (6, .int (nI (pm_an mm a + 366 - k))), (0, .ref h0), (1, .int (nI y)), (2, .int (nI mm)), (3, .int (nI a)), (4, .int (nI k)), (5, .int (nI bd))]) hx hb dX0_fromCount_104 hl (by decide) rfl (fun ls hl => ?_)
            refine lv_iload hx hb dX0_fromCount_106 (lv_at hl 7 rfl) ?_
            refine pn_if_eq (tgt := 118) hx hb (by omega) dX0_fromCount_108 (by decide) (fun c_15 => ?_) (fun c_15 => ?_)
            · -- 108 yes
              refine lv_iload hx hb dX0_fromCount_118 (lv_at hl 0 rfl) ?_
              exact hQ _ _ _ _ _ dX0_fromCount_120 rfl (congrArg nI (by unfold pm_fc; rw [hz3]; omega)) hS
            · -- 108 no
              refine lv_iload hx hb dX0_fromCount_111 (lv_at hl 0 rfl) ?_
              refine lv_iconst (v := nI 1) hx hb dX0_fromCount_113 (by decide) ?_
              refine pn_isub hx hb (by rw [hz3] at hle; obtain ⟨h4, h5, h6, h7⟩ := hy8 (by omega); subst h5 h6 h7; have h8 : pm_an 3 0 = 60 := (by decide); omega) dX0_fromCount_114 ?_
              refine lv_goto (tgt := 120) hx hb dX0_fromCount_115 (by decide) ?_
              exact hQ _ _ _ _ _ dX0_fromCount_120 rfl (congrArg nI (by unfold pm_fc; rw [hz3]; omega)) hS
        · -- else
          have hz3 : pm_fp mm a k = pm_an mm a - k + 1 := by unfold pm_fp; rw [if_pos (by omega)]; omega
          refine pn_isub hx hb (by omega) dX0_fromCount_81 ?_
          refine lv_iconst (v := nI 1) hx hb dX0_fromCount_82 (by decide) ?_
          refine pn_iadd hx hb dX0_fromCount_83 ?_
          refine lv_istore (lv' := [(6, .int (nI (((pm_an mm a) - k) + 1))), (0, .ref h0), (1, .int (nI y)), (2, .int (nI mm)), (3, .int (nI a)), (4, .int (nI k)), (5, .int (nI bd))]) hx hb dX0_fromCount_84 hl (by decide) rfl (fun ls hl => ?_)
          refine lv_iload hx hb dX0_fromCount_86 (lv_at hl 0 rfl) ?_
          refine lv_iconst (v := nI 1) hx hb dX0_fromCount_88 (by decide) ?_
          refine pn_icmp_ge (tgt := 98) hx hb (by omega) (by omega) dX0_fromCount_89 (by decide) (fun c_16 => ?_) (fun c_16 => ?_)
          · -- 89 yes
            refine lv_iload_n hx hb dX0_fromCount_98 rfl (lv_at hl 2 rfl) ?_
            refine lv_iload hx hb dX0_fromCount_99 (lv_at hl 0 rfl) ?_
            refine pz_SR (rest := []) ⟨hx, hb, hml, hown, hts⟩ (k_X0_lastDayOfPlace l D ((cyI, .int) :: ts) y (((pm_an mm a) - k) + 1) (by omega) (by omega) (by omega) (by omega)) (va_cwS 2 hts gX0_fromCount_X0_lastDayOfPlace rfl rfl rfl (by decide +kernel) ⟨Nat.le_of_ble_eq_true rfl, Nat.le_of_ble_eq_true rfl⟩) hK hP hD hS hA [] rfl rfl rfl rfl hl.1 rfl (lv_room (Nat.le_of_ble_eq_true rfl)) dX0_fromCount_101 ⟨Nat.le_of_ble_eq_true rfl, Nat.le_of_ble_eq_true rfl⟩ (fun r H locs hr hP hS => ?_)
            obtain rfl : r = (nI (pm_ld y (((pm_an mm a) - k) + 1))) := hr
            have hf_18 := pm_ld_b y (((pm_an mm a) - k) + 1) (by omega) (by omega)
            refine lv_istore (lv' := [(7, .int (nI (pm_ld y (((pm_an mm a) - k) + 1)))), (6, .int (nI (((pm_an mm a) - k) + 1))), (0, .ref h0), (1, .int (nI y)), (2, .int (nI mm)), (3, .int (nI a)), (4, .int (nI k)), (5, .int (nI bd))]) hx hb dX0_fromCount_104 hl (by decide) rfl (fun ls hl => ?_)
            refine lv_iload hx hb dX0_fromCount_106 (lv_at hl 7 rfl) ?_
            refine pn_if_eq (tgt := 118) hx hb (by omega) dX0_fromCount_108 (by decide) (fun c_19 => ?_) (fun c_19 => ?_)
            · -- 108 yes
              refine lv_iload hx hb dX0_fromCount_118 (lv_at hl 0 rfl) ?_
              exact hQ _ _ _ _ _ dX0_fromCount_120 rfl (congrArg nI (by unfold pm_fc; rw [hz3]; omega)) hS
            · -- 108 no
              refine lv_iload hx hb dX0_fromCount_111 (lv_at hl 0 rfl) ?_
              refine lv_iconst (v := nI 1) hx hb dX0_fromCount_113 (by decide) ?_
              refine pn_isub hx hb (by rw [hz3] at hle; obtain ⟨h4, h5, h6, h7⟩ := hy8 (by omega); subst h5 h6 h7; have h8 : pm_an 3 0 = 60 := (by decide); omega) dX0_fromCount_114 ?_
              refine lv_goto (tgt := 120) hx hb dX0_fromCount_115 (by decide) ?_
              exact hQ _ _ _ _ _ dX0_fromCount_120 rfl (congrArg nI (by unfold pm_fc; rw [hz3]; omega)) hS
          · -- 89 no
            exfalso; omega
      · -- 50 no
        refine lv_iload_n hx hb dX0_fromCount_53 rfl (lv_at hl 1 rfl) ?_
        refine lv_iload_n hx hb dX0_fromCount_54 rfl (lv_at hl 2 rfl) ?_
        refine lv_iload_n hx hb dX0_fromCount_55 rfl (lv_at hl 3 rfl) ?_
        refine lv_iload hx hb dX0_fromCount_56 (lv_at hl 4 rfl) ?_
        refine pz_SR (rest := []) ⟨hx, hb, hml, hown, hts⟩ (k_X0_isToldAsDoubled l D ((cyI, .int) :: ts) y mm a k (by omega) (by omega) (by omega) (by omega)) (va_cwS 4 hts gX0_fromCount_X0_isToldAsDoubled rfl rfl rfl (by decide +kernel) ⟨Nat.le_of_ble_eq_true rfl, Nat.le_of_ble_eq_true rfl⟩) hK hP hD hS hA [] rfl rfl rfl rfl hl.1 rfl (lv_room (Nat.le_of_ble_eq_true rfl)) dX0_fromCount_58 ⟨Nat.le_of_ble_eq_true rfl, Nat.le_of_ble_eq_true rfl⟩ (fun r H locs hr hP hS => ?_)
        obtain rfl : r = (pz_b (y % 4 = 0 ∧ mm = 3 ∧ a = 0 ∧ k = 6)) := hr
        refine pb_if_ne (tgt := 74) hx hb dX0_fromCount_61 (by decide) (fun c_21 => ?_) (fun c_21 => ?_)
        · -- 61 yes
          refine lv_iload_n hx hb dX0_fromCount_74 rfl (lv_at hl 2 rfl) ?_
          refine lv_iload_n hx hb dX0_fromCount_75 rfl (lv_at hl 3 rfl) ?_
          refine pz_SR (rest := []) ⟨hx, hb, hml, hown, hts⟩ (k_X0_placeOfAnchor l D ((cyI, .int) :: ts) mm a (by omega) (by omega) (by omega)) (va_cwS 2 hts gX0_fromCount_X0_placeOfAnchor rfl rfl rfl (by decide +kernel) ⟨Nat.le_of_ble_eq_true rfl, Nat.le_of_ble_eq_true rfl⟩) hK hP hD hS hA [] rfl rfl rfl rfl hl.1 rfl (lv_room (Nat.le_of_ble_eq_true rfl)) dX0_fromCount_76 ⟨Nat.le_of_ble_eq_true rfl, Nat.le_of_ble_eq_true rfl⟩ (fun r H locs hr hP hS => ?_)
          obtain rfl : r = (nI (pm_an mm a)) := hr
          have hf_23 := pm_an_b mm a (by omega)
          have hf_24 := pm_cb_b mm (by omega)
          refine lv_iload hx hb dX0_fromCount_79 (lv_at hl 4 rfl) ?_
          rcases Nat.lt_or_ge (pm_an mm a) k with hlt | hge
          · -- behind the ides of December
            have hz1 := pz_sub1 (A := pm_an mm a) (k := k) (by omega) (by omega)
            have hz2 := pz_sub2 (A := pm_an mm a) (k := k) (by omega) (by omega) hlt (by omega)
            have hz3 : pm_fp mm a k = pm_an mm a + 366 - k := by unfold pm_fp; rw [if_neg (by omega)]
            refine lv_isub hx hb dX0_fromCount_81 ?_
            refine lv_iconst (v := nI 1) hx hb dX0_fromCount_82 (by decide) ?_
            refine lv_iadd hx hb dX0_fromCount_83 ?_
            refine lv_istore (lv' := [(6, .int (((nI (pm_an mm a)) - (nI k)) + (nI 1))), (0, .ref h0), (1, .int (nI y)), (2, .int (nI mm)), (3, .int (nI a)), (4, .int (nI k)), (5, .int (nI bd))]) hx hb dX0_fromCount_84 hl (by decide) rfl (fun ls hl => ?_)
            refine lv_iload hx hb dX0_fromCount_86 (lv_at hl 0 rfl) ?_
            refine lv_iconst (v := nI 1) hx hb dX0_fromCount_88 (by decide) ?_
            refine pi_icmp_ge (tgt := 98) (a := ((((nI (pm_an mm a)) - (nI k)) + (nI 1))).toInt) (b := ((1 : Nat) : Int)) hx hb rfl (nI_toInt (by omega)) dX0_fromCount_89 (by decide) (fun c_25 => ?_) (fun c_25 => ?_)
            · -- 89 yes
              exfalso; rw [hz1] at *; omega
            · -- 89 no
              refine lv_iincW (v := (nI (pm_an mm a + 366 - k))) (lv' := [(6, .int (nI (pm_an mm a + 366 - k))), (0, .ref h0), (1, .int (nI y)), (2, .int (nI mm)), (3, .int (nI a)), (4, .int (nI k)), (5, .int (nI bd))]) hx hb dX0_fromCount_92 hl (k := 0) rfl hz2 (by decide) rfl (fun ls hl => ?_)
              refine lv_iload_n hx hb dX0_fromCount_98 rfl (lv_at hl 2 rfl) ?_
              refine lv_iload hx hb dX0_fromCount_99 (lv_at hl 0 rfl) ?_
              refine pz_SR (rest := []) ⟨hx, hb, hml, hown, hts⟩ (k_X0_lastDayOfPlace l D ((cyI, .int) :: ts) y (pm_an mm a + 366 - k) (by omega) (by omega) (by omega) (by omega)) (va_cwS 2 hts gX0_fromCount_X0_lastDayOfPlace rfl rfl rfl (by decide +kernel) ⟨Nat.le_of_ble_eq_true rfl, Nat.le_of_ble_eq_true rfl⟩) hK hP hD hS hA [] rfl rfl rfl rfl hl.1 rfl (lv_room (Nat.le_of_ble_eq_true rfl)) dX0_fromCount_101 ⟨Nat.le_of_ble_eq_true rfl, Nat.le_of_ble_eq_true rfl⟩ (fun r H locs hr hP hS => ?_)
              obtain rfl : r = (nI (pm_ld y (pm_an mm a + 366 - k))) := hr
              have hf_27 := pm_ld_b y (pm_an mm a + 366 - k) (by omega) (by omega)
              refine lv_istore (lv' := [(7, .int (nI (pm_ld y (pm_an mm a + 366 - k)))), (6, .int (nI (pm_an mm a + 366 - k))), (0, .ref h0), (1, .int (nI y)), (2, .int (nI mm)), (3, .int (nI a)), (4, .int (nI k)), (5, .int (nI bd))]) hx hb dX0_fromCount_104 hl (by decide) rfl (fun ls hl => ?_)
              refine lv_iload hx hb dX0_fromCount_106 (lv_at hl 7 rfl) ?_
              refine pn_if_eq (tgt := 118) hx hb (by omega) dX0_fromCount_108 (by decide) (fun c_28 => ?_) (fun c_28 => ?_)
              · -- 108 yes
                refine lv_iload hx hb dX0_fromCount_118 (lv_at hl 0 rfl) ?_
                exact hQ _ _ _ _ _ dX0_fromCount_120 rfl (congrArg nI (by unfold pm_fc; rw [hz3]; omega)) hS
              · -- 108 no
                refine lv_iload hx hb dX0_fromCount_111 (lv_at hl 0 rfl) ?_
                refine lv_iconst (v := nI 1) hx hb dX0_fromCount_113 (by decide) ?_
                refine pn_isub hx hb (by rw [hz3] at hle; obtain ⟨h4, h5, h6, h7⟩ := hy8 (by omega); subst h5 h6 h7; have h8 : pm_an 3 0 = 60 := (by decide); omega) dX0_fromCount_114 ?_
                refine lv_goto (tgt := 120) hx hb dX0_fromCount_115 (by decide) ?_
                exact hQ _ _ _ _ _ dX0_fromCount_120 rfl (congrArg nI (by unfold pm_fc; rw [hz3]; omega)) hS
          · -- else
            have hz3 : pm_fp mm a k = pm_an mm a - k + 1 := by unfold pm_fp; rw [if_pos (by omega)]; omega
            refine pn_isub hx hb (by omega) dX0_fromCount_81 ?_
            refine lv_iconst (v := nI 1) hx hb dX0_fromCount_82 (by decide) ?_
            refine pn_iadd hx hb dX0_fromCount_83 ?_
            refine lv_istore (lv' := [(6, .int (nI (((pm_an mm a) - k) + 1))), (0, .ref h0), (1, .int (nI y)), (2, .int (nI mm)), (3, .int (nI a)), (4, .int (nI k)), (5, .int (nI bd))]) hx hb dX0_fromCount_84 hl (by decide) rfl (fun ls hl => ?_)
            refine lv_iload hx hb dX0_fromCount_86 (lv_at hl 0 rfl) ?_
            refine lv_iconst (v := nI 1) hx hb dX0_fromCount_88 (by decide) ?_
            refine pn_icmp_ge (tgt := 98) hx hb (by omega) (by omega) dX0_fromCount_89 (by decide) (fun c_29 => ?_) (fun c_29 => ?_)
            · -- 89 yes
              refine lv_iload_n hx hb dX0_fromCount_98 rfl (lv_at hl 2 rfl) ?_
              refine lv_iload hx hb dX0_fromCount_99 (lv_at hl 0 rfl) ?_
              refine pz_SR (rest := []) ⟨hx, hb, hml, hown, hts⟩ (k_X0_lastDayOfPlace l D ((cyI, .int) :: ts) y (((pm_an mm a) - k) + 1) (by omega) (by omega) (by omega) (by omega)) (va_cwS 2 hts gX0_fromCount_X0_lastDayOfPlace rfl rfl rfl (by decide +kernel) ⟨Nat.le_of_ble_eq_true rfl, Nat.le_of_ble_eq_true rfl⟩) hK hP hD hS hA [] rfl rfl rfl rfl hl.1 rfl (lv_room (Nat.le_of_ble_eq_true rfl)) dX0_fromCount_101 ⟨Nat.le_of_ble_eq_true rfl, Nat.le_of_ble_eq_true rfl⟩ (fun r H locs hr hP hS => ?_)
              obtain rfl : r = (nI (pm_ld y (((pm_an mm a) - k) + 1))) := hr
              have hf_31 := pm_ld_b y (((pm_an mm a) - k) + 1) (by omega) (by omega)
              refine lv_istore (lv' := [(7, .int (nI (pm_ld y (((pm_an mm a) - k) + 1)))), (6, .int (nI (((pm_an mm a) - k) + 1))), (0, .ref h0), (1, .int (nI y)), (2, .int (nI mm)), (3, .int (nI a)), (4, .int (nI k)), (5, .int (nI bd))]) hx hb dX0_fromCount_104 hl (by decide) rfl (fun ls hl => ?_)
              refine lv_iload hx hb dX0_fromCount_106 (lv_at hl 7 rfl) ?_
              refine pn_if_eq (tgt := 118) hx hb (by omega) dX0_fromCount_108 (by decide) (fun c_32 => ?_) (fun c_32 => ?_)
              · -- 108 yes
                refine lv_iload hx hb dX0_fromCount_118 (lv_at hl 0 rfl) ?_
                exact hQ _ _ _ _ _ dX0_fromCount_120 rfl (congrArg nI (by unfold pm_fc; rw [hz3]; omega)) hS
              · -- 108 no
                refine lv_iload hx hb dX0_fromCount_111 (lv_at hl 0 rfl) ?_
                refine lv_iconst (v := nI 1) hx hb dX0_fromCount_113 (by decide) ?_
                refine pn_isub hx hb (by rw [hz3] at hle; obtain ⟨h4, h5, h6, h7⟩ := hy8 (by omega); subst h5 h6 h7; have h8 : pm_an 3 0 = 60 := (by decide); omega) dX0_fromCount_114 ?_
                refine lv_goto (tgt := 120) hx hb dX0_fromCount_115 (by decide) ?_
                exact hQ _ _ _ _ _ dX0_fromCount_120 rfl (congrArg nI (by unfold pm_fc; rw [hz3]; omega)) hS
            · -- 89 no
              exfalso; omega
        · -- 61 no
          exfalso; omega
    · -- 35 no
      exfalso; omega
  · -- 15 no
    exfalso; omega
set_option maxHeartbeats 4000000 in
set_option maxRecDepth 100000 in
theorem k_X0_fromCount_x2 (l : Launch) (hfl : l.stackTraces = false) (D : va_G) (h0 ac ay ap : Nat) (cyI : ClassId) (ts : List (ClassId × FieldType)) (mk : Nat) (ch fy fp : Nat → Nat) (y mm : Nat) (x3 x4 x5 : Int32) (hy0 : ¬ (0 ≤ x3.toInt ∧ x3.toInt ≤ 2 ∧ 1 ≤ x4.toInt)) (hy1 : 1 ≤ y) (hy2 : y ≤ 3000) (hy3 : 1 ≤ mm) (hy4 : mm ≤ 12) : pz_X l yX0_fromCount wsX0_fromCount ({ frames := 7, cells := 1, slots := 6, locals := 104 } : Room) D ((cyI, .int) :: ts) [.ref h0, .int (nI y), .int (nI mm), .int x3, .int x4, .int x5] [(h0, .inr (0, [.ref ac, .ref ay, .ref ap, .int (nI mk)])), (ac, .inl (cyI, 365, .inl (pz_ar ch))), (ay, .inl (cyI, 60, .inl (pz_ar fy))), (ap, .inl (cyI, 60, .inl (pz_ar fp)))] "java/lang/IllegalArgumentException" := by
  refine pz_X_of (cc := cX0_fromCount) (maxL := 8) (ret := (some .int)) (own := RX0) (by decide) rfl rfl (Nat.le_of_ble_eq_true rfl) ?_
  intro p e s m below meth c ls hx hb hml hown hts hK hP hD hS hA hl hth htb hlk
  have hl : lv_has ls 8 [(0, .ref h0), (1, .int (nI y)), (2, .int (nI mm)), (3, .int x3), (4, .int x4), (5, .int x5)] := hl
  refine lv_iload_n hx hb dX0_fromCount_0 rfl (lv_at hl 1 rfl) ?_
  refine pz_SRV (rest := []) ⟨hx, hb, hml, hown, hts⟩ (k_X0_checkYear l D ((cyI, .int) :: ts) y (by omega) (by omega)) (va_cwS 1 hts gX0_fromCount_X0_checkYear rfl rfl rfl (by decide +kernel) ⟨Nat.le_of_ble_eq_true rfl, Nat.le_of_ble_eq_true rfl⟩) hK hP hD hS hA [] rfl rfl rfl rfl hl.1 rfl (lv_room (Nat.le_of_ble_eq_true rfl)) dX0_fromCount_1 ⟨Nat.le_of_ble_eq_true rfl, Nat.le_of_ble_eq_true rfl⟩ (fun H locs hP hS => ?_)
  refine lv_iload_n hx hb dX0_fromCount_4 rfl (lv_at hl 2 rfl) ?_
  refine pz_SRV (rest := []) ⟨hx, hb, hml, hown, hts⟩ (k_X0_checkMonth l D ((cyI, .int) :: ts) mm (by omega) (by omega)) (va_cwS 1 hts gX0_fromCount_X0_checkMonth rfl rfl rfl (by decide +kernel) ⟨Nat.le_of_ble_eq_true rfl, Nat.le_of_ble_eq_true rfl⟩) hK hP hD hS hA [] rfl rfl rfl rfl hl.1 rfl (lv_room (Nat.le_of_ble_eq_true rfl)) dX0_fromCount_5 ⟨Nat.le_of_ble_eq_true rfl, Nat.le_of_ble_eq_true rfl⟩ (fun H locs hP hS => ?_)
  refine lv_iload_n hx hb dX0_fromCount_8 rfl (lv_at hl 3 rfl) ?_
  rcases pz_rng x3 0 2 (by decide) with ⟨a, hl_a, hh_a, rfl⟩ | hb_x3
  · -- in range
    have ei_a : (nI a).toInt = (a : Int) := nI_toInt (by omega)
    simp only [ei_a, Int.toNat_natCast] at hy0
    refine pz_SRV (rest := []) ⟨hx, hb, hml, hown, hts⟩ (k_X0_checkAnchor l D ((cyI, .int) :: ts) a (by omega)) (va_cwS 1 hts gX0_fromCount_X0_checkAnchor rfl rfl rfl (by decide +kernel) ⟨Nat.le_of_ble_eq_true rfl, Nat.le_of_ble_eq_true rfl⟩) hK hP hD hS hA [] rfl rfl rfl rfl hl.1 rfl (lv_room (Nat.le_of_ble_eq_true rfl)) dX0_fromCount_9 ⟨Nat.le_of_ble_eq_true rfl, Nat.le_of_ble_eq_true rfl⟩ (fun H locs hP hS => ?_)
    refine lv_iload hx hb dX0_fromCount_12 (lv_at hl 4 rfl) ?_
    refine lv_iconst (v := nI 1) hx hb dX0_fromCount_14 (by decide) ?_
    refine pi_icmp_ge (tgt := 28) (a := (x4).toInt) (b := ((1 : Nat) : Int)) hx hb rfl (nI_toInt (by omega)) dX0_fromCount_15 (by decide) (fun c_4 => ?_) (fun c_4 => ?_)
    · -- 15 yes
      exfalso; omega
    · -- 15 no
      exact pz_throw (E := "java/lang/IllegalArgumentException") (text := "count is below 1") hx hb hfl hown hts (by decide +kernel) (by decide +kernel) (by decide +kernel) (by decide +kernel) (by decide +kernel) (by decide +kernel) (hts (.classLink RX0 75 "java/lang/IllegalArgumentException") (by decide +kernel)) (hts (.initialized "java/lang/IllegalArgumentException") (by decide +kernel)) hS hth hl.1 hml htb hlk dX0_fromCount_18 dX0_fromCount_21 dX0_fromCount_22 dX0_fromCount_24 dX0_fromCount_27 (Nat.le_of_ble_eq_true rfl) (Nat.le_of_ble_eq_true rfl) (Nat.le_of_ble_eq_true rfl) (Nat.le_of_ble_eq_true rfl)
  · -- outside
    exact pz_SX (rest := []) ⟨hx, hb, hml, hown, hts⟩ (k_X0_checkAnchor_x l hfl D ((cyI, .int) :: ts) x3 (by omega)) (va_cwS 1 hts gX0_fromCount_X0_checkAnchor rfl rfl rfl (by decide +kernel) ⟨Nat.le_of_ble_eq_true rfl, Nat.le_of_ble_eq_true rfl⟩) hK hP hD hS hth htb hlk [] rfl rfl rfl rfl hl.1 rfl (lv_room (Nat.le_of_ble_eq_true rfl)) dX0_fromCount_9 ⟨Nat.le_of_ble_eq_true rfl, Nat.le_of_ble_eq_true rfl⟩
set_option maxHeartbeats 4000000 in
set_option maxRecDepth 100000 in
theorem k_X0_fromCount_x3 (l : Launch) (hfl : l.stackTraces = false) (D : va_G) (h0 ac ay ap : Nat) (cyI : ClassId) (ts : List (ClassId × FieldType)) (mk : Nat) (ch fy fp : Nat → Nat) (y mm a k bd : Nat) (hy0 : ¬ (k ≤ pm_gc mm a ∧ (bd = 1 → (y % 4 = 0 ∧ mm = 3 ∧ a = 0 ∧ k = 6)))) (hy1 : 1 ≤ y) (hy2 : y ≤ 3000) (hy3 : 1 ≤ mm) (hy4 : mm ≤ 12) (hy5 : a ≤ 2) (hy6 : 1 ≤ k) (hy7 : k < 2147483648) (hy8 : bd ≤ 1) : pz_X l yX0_fromCount wsX0_fromCount ({ frames := 7, cells := 1, slots := 6, locals := 104 } : Room) D ((cyI, .int) :: ts) [.ref h0, .int (nI y), .int (nI mm), .int (nI a), .int (nI k), .int (nI bd)] [(h0, .inr (0, [.ref ac, .ref ay, .ref ap, .int (nI mk)])), (ac, .inl (cyI, 365, .inl (pz_ar ch))), (ay, .inl (cyI, 60, .inl (pz_ar fy))), (ap, .inl (cyI, 60, .inl (pz_ar fp)))] "java/lang/IllegalStateException" := by
  refine pz_X_of (cc := cX0_fromCount) (maxL := 8) (ret := (some .int)) (own := RX0) (by decide) rfl rfl (Nat.le_of_ble_eq_true rfl) ?_
  intro p e s m below meth c ls hx hb hml hown hts hK hP hD hS hA hl hth htb hlk
  have hl : lv_has ls 8 [(0, .ref h0), (1, .int (nI y)), (2, .int (nI mm)), (3, .int (nI a)), (4, .int (nI k)), (5, .int (nI bd))] := hl
  have hgb := pm_gc_b mm a
  refine lv_iload_n hx hb dX0_fromCount_0 rfl (lv_at hl 1 rfl) ?_
  refine pz_SRV (rest := []) ⟨hx, hb, hml, hown, hts⟩ (k_X0_checkYear l D ((cyI, .int) :: ts) y (by omega) (by omega)) (va_cwS 1 hts gX0_fromCount_X0_checkYear rfl rfl rfl (by decide +kernel) ⟨Nat.le_of_ble_eq_true rfl, Nat.le_of_ble_eq_true rfl⟩) hK hP hD hS hA [] rfl rfl rfl rfl hl.1 rfl (lv_room (Nat.le_of_ble_eq_true rfl)) dX0_fromCount_1 ⟨Nat.le_of_ble_eq_true rfl, Nat.le_of_ble_eq_true rfl⟩ (fun H locs hP hS => ?_)
  refine lv_iload_n hx hb dX0_fromCount_4 rfl (lv_at hl 2 rfl) ?_
  refine pz_SRV (rest := []) ⟨hx, hb, hml, hown, hts⟩ (k_X0_checkMonth l D ((cyI, .int) :: ts) mm (by omega) (by omega)) (va_cwS 1 hts gX0_fromCount_X0_checkMonth rfl rfl rfl (by decide +kernel) ⟨Nat.le_of_ble_eq_true rfl, Nat.le_of_ble_eq_true rfl⟩) hK hP hD hS hA [] rfl rfl rfl rfl hl.1 rfl (lv_room (Nat.le_of_ble_eq_true rfl)) dX0_fromCount_5 ⟨Nat.le_of_ble_eq_true rfl, Nat.le_of_ble_eq_true rfl⟩ (fun H locs hP hS => ?_)
  refine lv_iload_n hx hb dX0_fromCount_8 rfl (lv_at hl 3 rfl) ?_
  refine pz_SRV (rest := []) ⟨hx, hb, hml, hown, hts⟩ (k_X0_checkAnchor l D ((cyI, .int) :: ts) a (by omega)) (va_cwS 1 hts gX0_fromCount_X0_checkAnchor rfl rfl rfl (by decide +kernel) ⟨Nat.le_of_ble_eq_true rfl, Nat.le_of_ble_eq_true rfl⟩) hK hP hD hS hA [] rfl rfl rfl rfl hl.1 rfl (lv_room (Nat.le_of_ble_eq_true rfl)) dX0_fromCount_9 ⟨Nat.le_of_ble_eq_true rfl, Nat.le_of_ble_eq_true rfl⟩ (fun H locs hP hS => ?_)
  refine lv_iload hx hb dX0_fromCount_12 (lv_at hl 4 rfl) ?_
  refine lv_iconst (v := nI 1) hx hb dX0_fromCount_14 (by decide) ?_
  refine pn_icmp_ge (tgt := 28) hx hb (by omega) (by omega) dX0_fromCount_15 (by decide) (fun c_4 => ?_) (fun c_4 => ?_)
  · -- 15 yes
    refine lv_iload hx hb dX0_fromCount_28 (lv_at hl 4 rfl) ?_
    refine lv_iload_n hx hb dX0_fromCount_30 rfl (lv_at hl 2 rfl) ?_
    refine lv_iload_n hx hb dX0_fromCount_31 rfl (lv_at hl 3 rfl) ?_
    refine pz_SR (rest := [.int (nI k)]) ⟨hx, hb, hml, hown, hts⟩ (k_X0_greatestCountTo l D ((cyI, .int) :: ts) mm a (by omega) (by omega) (by omega)) (va_cwS 2 hts gX0_fromCount_X0_greatestCountTo rfl rfl rfl (by decide +kernel) ⟨Nat.le_of_ble_eq_true rfl, Nat.le_of_ble_eq_true rfl⟩) hK hP hD hS hA [] rfl rfl rfl rfl hl.1 rfl (lv_room (Nat.le_of_ble_eq_true rfl)) dX0_fromCount_32 ⟨Nat.le_of_ble_eq_true rfl, Nat.le_of_ble_eq_true rfl⟩ (fun r H locs hr hP hS => ?_)
    obtain rfl : r = (nI (pm_gc mm a)) := hr
    have hf_6 := pm_gc_b mm a
    refine pn_icmp_le (tgt := 48) hx hb (by omega) (by omega) dX0_fromCount_35 (by decide) (fun c_7 => ?_) (fun c_7 => ?_)
    · -- 35 yes
      refine lv_iload hx hb dX0_fromCount_48 (lv_at hl 5 rfl) ?_
      refine pn_if_eq (tgt := 74) hx hb (by omega) dX0_fromCount_50 (by decide) (fun c_8 => ?_) (fun c_8 => ?_)
      · -- 50 yes
        exfalso; omega
      · -- 50 no
        refine lv_iload_n hx hb dX0_fromCount_53 rfl (lv_at hl 1 rfl) ?_
        refine lv_iload_n hx hb dX0_fromCount_54 rfl (lv_at hl 2 rfl) ?_
        refine lv_iload_n hx hb dX0_fromCount_55 rfl (lv_at hl 3 rfl) ?_
        refine lv_iload hx hb dX0_fromCount_56 (lv_at hl 4 rfl) ?_
        refine pz_SR (rest := []) ⟨hx, hb, hml, hown, hts⟩ (k_X0_isToldAsDoubled l D ((cyI, .int) :: ts) y mm a k (by omega) (by omega) (by omega) (by omega)) (va_cwS 4 hts gX0_fromCount_X0_isToldAsDoubled rfl rfl rfl (by decide +kernel) ⟨Nat.le_of_ble_eq_true rfl, Nat.le_of_ble_eq_true rfl⟩) hK hP hD hS hA [] rfl rfl rfl rfl hl.1 rfl (lv_room (Nat.le_of_ble_eq_true rfl)) dX0_fromCount_58 ⟨Nat.le_of_ble_eq_true rfl, Nat.le_of_ble_eq_true rfl⟩ (fun r H locs hr hP hS => ?_)
        obtain rfl : r = (pz_b (y % 4 = 0 ∧ mm = 3 ∧ a = 0 ∧ k = 6)) := hr
        refine pb_if_ne (tgt := 74) hx hb dX0_fromCount_61 (by decide) (fun c_10 => ?_) (fun c_10 => ?_)
        · -- 61 yes
          exfalso; omega
        · -- 61 no
          exact pz_throw (E := "java/lang/IllegalStateException") (text := "no doubled day is told so") hx hb hfl hown hts (by decide +kernel) (by decide +kernel) (by decide +kernel) (by decide +kernel) (by decide +kernel) (by decide +kernel) (hts (.classLink RX0 85 "java/lang/IllegalStateException") (by decide +kernel)) (hts (.initialized "java/lang/IllegalStateException") (by decide +kernel)) hS hth hl.1 hml htb hlk dX0_fromCount_64 dX0_fromCount_67 dX0_fromCount_68 dX0_fromCount_70 dX0_fromCount_73 (Nat.le_of_ble_eq_true rfl) (Nat.le_of_ble_eq_true rfl) (Nat.le_of_ble_eq_true rfl) (Nat.le_of_ble_eq_true rfl)
    · -- 35 no
      exact pz_throw (E := "java/lang/IllegalStateException") (text := "no day has this count") hx hb hfl hown hts (by decide +kernel) (by decide +kernel) (by decide +kernel) (by decide +kernel) (by decide +kernel) (by decide +kernel) (hts (.classLink RX0 85 "java/lang/IllegalStateException") (by decide +kernel)) (hts (.initialized "java/lang/IllegalStateException") (by decide +kernel)) hS hth hl.1 hml htb hlk dX0_fromCount_38 dX0_fromCount_41 dX0_fromCount_42 dX0_fromCount_44 dX0_fromCount_47 (Nat.le_of_ble_eq_true rfl) (Nat.le_of_ble_eq_true rfl) (Nat.le_of_ble_eq_true rfl) (Nat.le_of_ble_eq_true rfl)
  · -- 15 no
    exfalso; omega
set_option maxHeartbeats 4000000 in
set_option maxRecDepth 100000 in
theorem k_X0_termEnd (l : Launch) (D : va_G) (h0 ac ay ap : Nat) (cyI : ClassId) (ts : List (ClassId × FieldType)) (mk : Nat) (ch fy fp : Nat → Nat) (n dys : Nat) (hy0 : n < 1095750) (hy1 : dys ≤ 100000) (hy2 : pm_lw n + dys ≤ 1094999) : pz_R l yX0_termEnd wsX0_termEnd ({ frames := 2, cells := 0, slots := 0, locals := 42 } : Room) D ((cyI, .int) :: ts) [.ref h0, .int (nI n), .int (nI dys)] [(h0, .inr (0, [.ref ac, .ref ay, .ref ap, .int (nI mk)])), (ac, .inl (cyI, 365, .inl (pz_ar ch))), (ay, .inl (cyI, 60, .inl (pz_ar fy))), (ap, .inl (cyI, 60, .inl (pz_ar fp)))] (fun r => r = nI (pm_ld ((pm_lw n + dys) / 365 + 1) ((pm_lw n + dys) % 365 + 1))) := by
  refine pz_R_of (cc := cX0_termEnd) (maxL := 4) (ty := .int) (own := RX0) (by decide) rfl rfl (Nat.le_of_ble_eq_true rfl) ?_
  intro p e s m below meth c A ls Q hx hb hml hown hts hK hP hD hS hA hl hQ
  have hl : lv_has ls 4 [(0, .ref h0), (1, .int (nI n)), (2, .int (nI dys))] := hl
  have hlb := pm_lw_b n
  have hlw : pm_lw 1095749 = 1094999 := by decide +kernel
  refine lv_iload_n hx hb dX0_termEnd_0 rfl (lv_at hl 1 rfl) ?_
  refine pz_SRV (rest := []) ⟨hx, hb, hml, hown, hts⟩ (k_X0_checkNumber l D ((cyI, .int) :: ts) n (by omega)) (va_cwS 1 hts gX0_termEnd_X0_checkNumber rfl rfl rfl (by decide +kernel) ⟨Nat.le_of_ble_eq_true rfl, Nat.le_of_ble_eq_true rfl⟩) hK hP hD hS hA [] rfl rfl rfl rfl hl.1 rfl (lv_room (Nat.le_of_ble_eq_true rfl)) dX0_termEnd_1 ⟨Nat.le_of_ble_eq_true rfl, Nat.le_of_ble_eq_true rfl⟩ (fun H locs hP hS => ?_)
  refine lv_iload_n hx hb dX0_termEnd_4 rfl (lv_at hl 2 rfl) ?_
  refine pn_if_lt (tgt := 14) hx hb (by omega) dX0_termEnd_5 (by decide) ?_
  refine lv_iload_n hx hb dX0_termEnd_8 rfl (lv_at hl 2 rfl) ?_
  refine lv_ldc (v := nI 100000) hx hb hown (hts (.constant RX0 102 (100000)) (by decide +kernel)) dX0_termEnd_9 ?_
  refine pn_icmp_le (tgt := 24) hx hb (by omega) (by omega) dX0_termEnd_11 (by decide) (fun c_3 => ?_) (fun c_3 => ?_)
  · -- 11 yes
    refine lv_iload_n hx hb dX0_termEnd_24 rfl (lv_at hl 1 rfl) ?_
    refine pz_SR (rest := []) ⟨hx, hb, hml, hown, hts⟩ (k_X0_lawNumberAt l D ((cyI, .int) :: ts) n (by omega)) (va_cwS 1 hts gX0_termEnd_X0_lawNumberAt rfl rfl rfl (by decide +kernel) ⟨Nat.le_of_ble_eq_true rfl, Nat.le_of_ble_eq_true rfl⟩) hK hP hD hS hA [] rfl rfl rfl rfl hl.1 rfl (lv_room (Nat.le_of_ble_eq_true rfl)) dX0_termEnd_25 ⟨Nat.le_of_ble_eq_true rfl, Nat.le_of_ble_eq_true rfl⟩ (fun r H locs hr hP hS => ?_)
    obtain rfl : r = (nI (pm_lw n)) := hr
    have hf_5 := pm_lw_b n
    refine lv_iload_n hx hb dX0_termEnd_28 rfl (lv_at hl 2 rfl) ?_
    refine pn_iadd hx hb dX0_termEnd_29 ?_
    refine lv_istore_n (lv' := [(3, .int (nI ((pm_lw n) + dys))), (0, .ref h0), (1, .int (nI n)), (2, .int (nI dys))]) hx hb dX0_termEnd_30 rfl hl (by decide) rfl (fun ls hl => ?_)
    refine lv_iload_n hx hb dX0_termEnd_31 rfl (lv_at hl 0 rfl) ?_
    refine lv_ldc (v := nI 1095749) hx hb hown (hts (.constant RX0 105 (1095749)) (by decide +kernel)) dX0_termEnd_32 ?_
    refine pz_SR (rest := [.int (nI ((pm_lw n) + dys))]) ⟨hx, hb, hml, hown, hts⟩ (k_X0_lawNumberAt l D ((cyI, .int) :: ts) 1095749 (by omega)) (va_cwS 1 hts gX0_termEnd_X0_lawNumberAt rfl rfl rfl (by decide +kernel) ⟨Nat.le_of_ble_eq_true rfl, Nat.le_of_ble_eq_true rfl⟩) hK hP hD hS hA [] rfl rfl rfl rfl hl.1 rfl (lv_room (Nat.le_of_ble_eq_true rfl)) dX0_termEnd_34 ⟨Nat.le_of_ble_eq_true rfl, Nat.le_of_ble_eq_true rfl⟩ (fun r H locs hr hP hS => ?_)
    obtain rfl : r = (nI (pm_lw 1095749)) := hr
    have hf_7 := pm_lw_b 1095749
    refine pn_icmp_le (tgt := 50) hx hb (by omega) (by omega) dX0_termEnd_37 (by decide) (fun c_8 => ?_) (fun c_8 => ?_)
    · -- 37 yes
      refine lv_iload_n hx hb dX0_termEnd_50 rfl (lv_at hl 0 rfl) ?_
      refine lv_sipush (v := nI 365) hx hb dX0_termEnd_51 (by decide) ?_
      refine pn_idiv hx hb (by omega) (by omega) (by omega) dX0_termEnd_54 ?_
      refine lv_iconst (v := nI 1) hx hb dX0_termEnd_55 (by decide) ?_
      refine pn_iadd hx hb dX0_termEnd_56 ?_
      refine lv_iload_n hx hb dX0_termEnd_57 rfl (lv_at hl 0 rfl) ?_
      refine lv_sipush (v := nI 365) hx hb dX0_termEnd_58 (by decide) ?_
      refine pn_irem hx hb (by omega) (by omega) (by omega) dX0_termEnd_61 ?_
      refine lv_iconst (v := nI 1) hx hb dX0_termEnd_62 (by decide) ?_
      refine pn_iadd hx hb dX0_termEnd_63 ?_
      refine pz_SR (rest := []) ⟨hx, hb, hml, hown, hts⟩ (k_X0_lastDayOfPlace l D ((cyI, .int) :: ts) ((((pm_lw n) + dys) / 365) + 1) ((((pm_lw n) + dys) % 365) + 1) (by omega) (by omega) (by omega) (by omega)) (va_cwS 2 hts gX0_termEnd_X0_lastDayOfPlace rfl rfl rfl (by decide +kernel) ⟨Nat.le_of_ble_eq_true rfl, Nat.le_of_ble_eq_true rfl⟩) hK hP hD hS hA [] rfl rfl rfl rfl hl.1 rfl (lv_room (Nat.le_of_ble_eq_true rfl)) dX0_termEnd_64 ⟨Nat.le_of_ble_eq_true rfl, Nat.le_of_ble_eq_true rfl⟩ (fun r H locs hr hP hS => ?_)
      obtain rfl : r = (nI (pm_ld ((((pm_lw n) + dys) / 365) + 1) ((((pm_lw n) + dys) % 365) + 1))) := hr
      have hf_10 := pm_ld_b ((((pm_lw n) + dys) / 365) + 1) ((((pm_lw n) + dys) % 365) + 1) (by omega) (by omega)
      exact hQ _ _ _ _ _ dX0_termEnd_67 rfl (congrArg nI (by rfl)) hS
    · -- 37 no
      exfalso; omega
  · -- 11 no
    exfalso; omega
set_option maxHeartbeats 4000000 in
set_option maxRecDepth 100000 in
theorem k_X0_termEnd_x3 (l : Launch) (hfl : l.stackTraces = false) (D : va_G) (h0 ac ay ap : Nat) (cyI : ClassId) (ts : List (ClassId × FieldType)) (mk : Nat) (ch fy fp : Nat → Nat) (n dys : Nat) (hy0 : n < 1095750) (hy1 : dys ≤ 100000) (hy2 : 1094999 < pm_lw n + dys) : pz_X l yX0_termEnd wsX0_termEnd ({ frames := 7, cells := 1, slots := 6, locals := 104 } : Room) D ((cyI, .int) :: ts) [.ref h0, .int (nI n), .int (nI dys)] [(h0, .inr (0, [.ref ac, .ref ay, .ref ap, .int (nI mk)])), (ac, .inl (cyI, 365, .inl (pz_ar ch))), (ay, .inl (cyI, 60, .inl (pz_ar fy))), (ap, .inl (cyI, 60, .inl (pz_ar fp)))] "java/lang/IllegalStateException" := by
  refine pz_X_of (cc := cX0_termEnd) (maxL := 4) (ret := (some .int)) (own := RX0) (by decide) rfl rfl (Nat.le_of_ble_eq_true rfl) ?_
  intro p e s m below meth c ls hx hb hml hown hts hK hP hD hS hA hl hth htb hlk
  have hl : lv_has ls 4 [(0, .ref h0), (1, .int (nI n)), (2, .int (nI dys))] := hl
  have hlb := pm_lw_b n
  have hlw : pm_lw 1095749 = 1094999 := by decide +kernel
  refine lv_iload_n hx hb dX0_termEnd_0 rfl (lv_at hl 1 rfl) ?_
  refine pz_SRV (rest := []) ⟨hx, hb, hml, hown, hts⟩ (k_X0_checkNumber l D ((cyI, .int) :: ts) n (by omega)) (va_cwS 1 hts gX0_termEnd_X0_checkNumber rfl rfl rfl (by decide +kernel) ⟨Nat.le_of_ble_eq_true rfl, Nat.le_of_ble_eq_true rfl⟩) hK hP hD hS hA [] rfl rfl rfl rfl hl.1 rfl (lv_room (Nat.le_of_ble_eq_true rfl)) dX0_termEnd_1 ⟨Nat.le_of_ble_eq_true rfl, Nat.le_of_ble_eq_true rfl⟩ (fun H locs hP hS => ?_)
  refine lv_iload_n hx hb dX0_termEnd_4 rfl (lv_at hl 2 rfl) ?_
  refine pn_if_lt (tgt := 14) hx hb (by omega) dX0_termEnd_5 (by decide) ?_
  refine lv_iload_n hx hb dX0_termEnd_8 rfl (lv_at hl 2 rfl) ?_
  refine lv_ldc (v := nI 100000) hx hb hown (hts (.constant RX0 102 (100000)) (by decide +kernel)) dX0_termEnd_9 ?_
  refine pn_icmp_le (tgt := 24) hx hb (by omega) (by omega) dX0_termEnd_11 (by decide) (fun c_3 => ?_) (fun c_3 => ?_)
  · -- 11 yes
    refine lv_iload_n hx hb dX0_termEnd_24 rfl (lv_at hl 1 rfl) ?_
    refine pz_SR (rest := []) ⟨hx, hb, hml, hown, hts⟩ (k_X0_lawNumberAt l D ((cyI, .int) :: ts) n (by omega)) (va_cwS 1 hts gX0_termEnd_X0_lawNumberAt rfl rfl rfl (by decide +kernel) ⟨Nat.le_of_ble_eq_true rfl, Nat.le_of_ble_eq_true rfl⟩) hK hP hD hS hA [] rfl rfl rfl rfl hl.1 rfl (lv_room (Nat.le_of_ble_eq_true rfl)) dX0_termEnd_25 ⟨Nat.le_of_ble_eq_true rfl, Nat.le_of_ble_eq_true rfl⟩ (fun r H locs hr hP hS => ?_)
    obtain rfl : r = (nI (pm_lw n)) := hr
    have hf_5 := pm_lw_b n
    refine lv_iload_n hx hb dX0_termEnd_28 rfl (lv_at hl 2 rfl) ?_
    refine pn_iadd hx hb dX0_termEnd_29 ?_
    refine lv_istore_n (lv' := [(3, .int (nI ((pm_lw n) + dys))), (0, .ref h0), (1, .int (nI n)), (2, .int (nI dys))]) hx hb dX0_termEnd_30 rfl hl (by decide) rfl (fun ls hl => ?_)
    refine lv_iload_n hx hb dX0_termEnd_31 rfl (lv_at hl 0 rfl) ?_
    refine lv_ldc (v := nI 1095749) hx hb hown (hts (.constant RX0 105 (1095749)) (by decide +kernel)) dX0_termEnd_32 ?_
    refine pz_SR (rest := [.int (nI ((pm_lw n) + dys))]) ⟨hx, hb, hml, hown, hts⟩ (k_X0_lawNumberAt l D ((cyI, .int) :: ts) 1095749 (by omega)) (va_cwS 1 hts gX0_termEnd_X0_lawNumberAt rfl rfl rfl (by decide +kernel) ⟨Nat.le_of_ble_eq_true rfl, Nat.le_of_ble_eq_true rfl⟩) hK hP hD hS hA [] rfl rfl rfl rfl hl.1 rfl (lv_room (Nat.le_of_ble_eq_true rfl)) dX0_termEnd_34 ⟨Nat.le_of_ble_eq_true rfl, Nat.le_of_ble_eq_true rfl⟩ (fun r H locs hr hP hS => ?_)
    obtain rfl : r = (nI (pm_lw 1095749)) := hr
    have hf_7 := pm_lw_b 1095749
    refine pn_icmp_le (tgt := 50) hx hb (by omega) (by omega) dX0_termEnd_37 (by decide) (fun c_8 => ?_) (fun c_8 => ?_)
    · -- 37 yes
      exfalso; omega
    · -- 37 no
      exact pz_throw (E := "java/lang/IllegalStateException") (text := "the term ends behind the last day") hx hb hfl hown hts (by decide +kernel) (by decide +kernel) (by decide +kernel) (by decide +kernel) (by decide +kernel) (by decide +kernel) (hts (.classLink RX0 85 "java/lang/IllegalStateException") (by decide +kernel)) (hts (.initialized "java/lang/IllegalStateException") (by decide +kernel)) hS hth hl.1 hml htb hlk dX0_termEnd_40 dX0_termEnd_43 dX0_termEnd_44 dX0_termEnd_46 dX0_termEnd_49 (Nat.le_of_ble_eq_true rfl) (Nat.le_of_ble_eq_true rfl) (Nat.le_of_ble_eq_true rfl) (Nat.le_of_ble_eq_true rfl)
  · -- 11 no
    exfalso; omega
set_option maxHeartbeats 4000000 in
set_option maxRecDepth 100000 in
theorem k_X0_lawDays (l : Launch) (D : va_G) (h0 ac ay ap : Nat) (cyI : ClassId) (ts : List (ClassId × FieldType)) (mk : Nat) (ch fy fp : Nat → Nat) (n z : Nat) (hy0 : n < 1095750) (hy1 : z < 1095750) : pz_R l yX0_lawDays wsX0_lawDays ({ frames := 2, cells := 0, slots := 0, locals := 40 } : Room) D ((cyI, .int) :: ts) [.ref h0, .int (nI n), .int (nI z)] [(h0, .inr (0, [.ref ac, .ref ay, .ref ap, .int (nI mk)])), (ac, .inl (cyI, 365, .inl (pz_ar ch))), (ay, .inl (cyI, 60, .inl (pz_ar fy))), (ap, .inl (cyI, 60, .inl (pz_ar fp)))] (fun r => r = nI (pm_lw z) - nI (pm_lw n)) := by
  refine pz_R_of (cc := cX0_lawDays) (maxL := 3) (ty := .int) (own := RX0) (by decide) rfl rfl (Nat.le_of_ble_eq_true rfl) ?_
  intro p e s m below meth c A ls Q hx hb hml hown hts hK hP hD hS hA hl hQ
  have hl : lv_has ls 3 [(0, .ref h0), (1, .int (nI n)), (2, .int (nI z))] := hl
  refine lv_iload_n hx hb dX0_lawDays_0 rfl (lv_at hl 1 rfl) ?_
  refine pz_SRV (rest := []) ⟨hx, hb, hml, hown, hts⟩ (k_X0_checkNumber l D ((cyI, .int) :: ts) n (by omega)) (va_cwS 1 hts gX0_lawDays_X0_checkNumber rfl rfl rfl (by decide +kernel) ⟨Nat.le_of_ble_eq_true rfl, Nat.le_of_ble_eq_true rfl⟩) hK hP hD hS hA [] rfl rfl rfl rfl hl.1 rfl (lv_room (Nat.le_of_ble_eq_true rfl)) dX0_lawDays_1 ⟨Nat.le_of_ble_eq_true rfl, Nat.le_of_ble_eq_true rfl⟩ (fun H locs hP hS => ?_)
  refine lv_iload_n hx hb dX0_lawDays_4 rfl (lv_at hl 2 rfl) ?_
  refine pz_SRV (rest := []) ⟨hx, hb, hml, hown, hts⟩ (k_X0_checkNumber l D ((cyI, .int) :: ts) z (by omega)) (va_cwS 1 hts gX0_lawDays_X0_checkNumber rfl rfl rfl (by decide +kernel) ⟨Nat.le_of_ble_eq_true rfl, Nat.le_of_ble_eq_true rfl⟩) hK hP hD hS hA [] rfl rfl rfl rfl hl.1 rfl (lv_room (Nat.le_of_ble_eq_true rfl)) dX0_lawDays_5 ⟨Nat.le_of_ble_eq_true rfl, Nat.le_of_ble_eq_true rfl⟩ (fun H locs hP hS => ?_)
  refine lv_iload_n hx hb dX0_lawDays_8 rfl (lv_at hl 2 rfl) ?_
  refine pz_SR (rest := []) ⟨hx, hb, hml, hown, hts⟩ (k_X0_lawNumberAt l D ((cyI, .int) :: ts) z (by omega)) (va_cwS 1 hts gX0_lawDays_X0_lawNumberAt rfl rfl rfl (by decide +kernel) ⟨Nat.le_of_ble_eq_true rfl, Nat.le_of_ble_eq_true rfl⟩) hK hP hD hS hA [] rfl rfl rfl rfl hl.1 rfl (lv_room (Nat.le_of_ble_eq_true rfl)) dX0_lawDays_9 ⟨Nat.le_of_ble_eq_true rfl, Nat.le_of_ble_eq_true rfl⟩ (fun r H locs hr hP hS => ?_)
  obtain rfl : r = (nI (pm_lw z)) := hr
  have hf_4 := pm_lw_b z
  refine lv_iload_n hx hb dX0_lawDays_12 rfl (lv_at hl 1 rfl) ?_
  refine pz_SR (rest := [.int (nI (pm_lw z))]) ⟨hx, hb, hml, hown, hts⟩ (k_X0_lawNumberAt l D ((cyI, .int) :: ts) n (by omega)) (va_cwS 1 hts gX0_lawDays_X0_lawNumberAt rfl rfl rfl (by decide +kernel) ⟨Nat.le_of_ble_eq_true rfl, Nat.le_of_ble_eq_true rfl⟩) hK hP hD hS hA [] rfl rfl rfl rfl hl.1 rfl (lv_room (Nat.le_of_ble_eq_true rfl)) dX0_lawDays_13 ⟨Nat.le_of_ble_eq_true rfl, Nat.le_of_ble_eq_true rfl⟩ (fun r H locs hr hP hS => ?_)
  obtain rfl : r = (nI (pm_lw n)) := hr
  have hf_6 := pm_lw_b n
  refine lv_isub hx hb dX0_lawDays_16 ?_
  exact hQ _ _ _ _ _ dX0_lawDays_17 rfl (by rfl) hS
set_option maxHeartbeats 4000000 in
set_option maxRecDepth 100000 in
theorem k_X0_marketLetters (l : Launch) (D : va_G) (h0 ac ay ap : Nat) (cyI : ClassId) (ts : List (ClassId × FieldType)) (mk : Nat) (ch fy fp : Nat → Nat) (y : Nat) (hy0 : 1 ≤ y) (hy1 : y ≤ 3000) (hmk : mk < 8) : pz_R l yX0_marketLetters wsX0_marketLetters ({ frames := 4, cells := 0, slots := 0, locals := 80 } : Room) D ((cyI, .int) :: ts) [.ref h0, .int (nI y)] [(h0, .inr (0, [.ref ac, .ref ay, .ref ap, .int (nI mk)])), (ac, .inl (cyI, 365, .inl (pz_ar ch))), (ay, .inl (cyI, 60, .inl (pz_ar fy))), (ap, .inl (cyI, 60, .inl (pz_ar fp)))] (fun r => r = nI (10 * ((pm_pl (pm_fd y + ((((mk : Nat) : Int) - ((pm_fd y : Nat) : Int)) % 8).toNat) - 1) % 8) + (pm_pl (pm_fd (y + 1) - 1 - ((((pm_fd (y + 1) - 1 : Nat) : Int) - ((mk : Nat) : Int)) % 8).toNat) - 1) % 8)) := by
  refine pz_R_of (cc := cX0_marketLetters) (maxL := 6) (ty := .int) (own := RX0) (by decide) rfl rfl (Nat.le_of_ble_eq_true rfl) ?_
  intro p e s m below meth c A ls Q hx hb hml hown hts hK hP hD hS hA hl hQ
  have hl : lv_has ls 6 [(0, .ref h0), (1, .int (nI y))] := hl
  have hin : ∀ w ∈ u_ws RX0 TX0 4, w ∈ wsX0_marketLetters := by decide +kernel
  have hf1 := pm_fd_e y
  have hf2 := pm_fd_e (y + 1)
  have he1 : ((nI mk - nI (pm_fd y)).toInt = ((mk : Nat) : Int) - ((pm_fd y : Nat) : Int)) := pk_sub_toInt (by omega) (by omega)
  have he2 : ((nI (pm_fd (y + 1) - 1) - nI mk).toInt = ((pm_fd (y + 1) - 1 : Nat) : Int) - ((mk : Nat) : Int)) := pk_sub_toInt (by omega) (by omega)
  refine lv_iload_n hx hb dX0_marketLetters_0 rfl (lv_at hl 1 rfl) ?_
  refine pz_SRV (rest := []) ⟨hx, hb, hml, hown, hts⟩ (k_X0_checkYear l D ((cyI, .int) :: ts) y (by omega) (by omega)) (va_cwS 1 hts gX0_marketLetters_X0_checkYear rfl rfl rfl (by decide +kernel) ⟨Nat.le_of_ble_eq_true rfl, Nat.le_of_ble_eq_true rfl⟩) hK hP hD hS hA [] rfl rfl rfl rfl hl.1 rfl (lv_room (Nat.le_of_ble_eq_true rfl)) dX0_marketLetters_1 ⟨Nat.le_of_ble_eq_true rfl, Nat.le_of_ble_eq_true rfl⟩ (fun H locs hP hS => ?_)
  refine lv_iload_n hx hb dX0_marketLetters_4 rfl (lv_at hl 1 rfl) ?_
  refine pz_SR (rest := []) ⟨hx, hb, hml, hown, hts⟩ (k_X0_firstDayOf l D ((cyI, .int) :: ts) y (by omega) (by omega)) (va_cwS 1 hts gX0_marketLetters_X0_firstDayOf rfl rfl rfl (by decide +kernel) ⟨Nat.le_of_ble_eq_true rfl, Nat.le_of_ble_eq_true rfl⟩) hK hP hD hS hA [] rfl rfl rfl rfl hl.1 rfl (lv_room (Nat.le_of_ble_eq_true rfl)) dX0_marketLetters_5 ⟨Nat.le_of_ble_eq_true rfl, Nat.le_of_ble_eq_true rfl⟩ (fun r H locs hr hP hS => ?_)
  obtain rfl : r = (nI (pm_fd y)) := hr
  have hf_3 := pm_fd_e y
  refine lv_istore_n (lv' := [(2, .int (nI (pm_fd y))), (0, .ref h0), (1, .int (nI y))]) hx hb dX0_marketLetters_8 rfl hl (by decide) rfl (fun ls hl => ?_)
  refine lv_iload_n hx hb dX0_marketLetters_9 rfl (lv_at hl 2 rfl) ?_
  refine pz_SR (rest := []) ⟨hx, hb, hml, hown, hts⟩ (k_X0_lastDayOf l D ((cyI, .int) :: ts) y (by omega) (by omega)) (va_cwS 1 hts gX0_marketLetters_X0_lastDayOf rfl rfl rfl (by decide +kernel) ⟨Nat.le_of_ble_eq_true rfl, Nat.le_of_ble_eq_true rfl⟩) hK hP hD hS hA [] rfl rfl rfl rfl hl.1 rfl (lv_room (Nat.le_of_ble_eq_true rfl)) dX0_marketLetters_10 ⟨Nat.le_of_ble_eq_true rfl, Nat.le_of_ble_eq_true rfl⟩ (fun r H locs hr hP hS => ?_)
  obtain rfl : r = (nI (pm_fd (y + 1) - 1)) := hr
  have hf_5 := pm_fd_e (y + 1)
  refine lv_istore_n (lv' := [(3, .int (nI (pm_fd (y + 1) - 1))), (2, .int (nI (pm_fd y))), (0, .ref h0), (1, .int (nI y))]) hx hb dX0_marketLetters_13 rfl hl (by decide) rfl (fun ls hl => ?_)
  refine lv_iload_n hx hb dX0_marketLetters_14 rfl (lv_at hl 1 rfl) ?_
  refine lv_aload_n hx hb dX0_marketLetters_15 rfl (lv_at hl 2 rfl) ?_
  refine va_get (D := D) (ci := 0) (v := .int (nI mk)) (C := RX0) (T := TX0) (N := 4) hx hb hts hin hown hK hP 0 rfl rfl 3 (by decide) (hts (.fieldLink RX0 19 "RomanCalendar" "marketRemainder" "I") (by decide +kernel)) (fun _ h9 => h9) rfl dX0_marketLetters_16 ?_
  refine lv_iload_n hx hb dX0_marketLetters_19 rfl (lv_at hl 1 rfl) ?_
  refine lv_isub hx hb dX0_marketLetters_20 ?_
  refine lv_bipush (v := nI 8) hx hb dX0_marketLetters_21 (by decide) ?_
  refine pz_SR (rest := [.int (nI (pm_fd y))]) ⟨hx, hb, hml, hown, hts⟩ (k_J9_floorMod_7cf53_8 l D ((cyI, .int) :: ts) ((nI mk) - (nI (pm_fd y))) ) (va_cwS 2 hts gX0_marketLetters_J9_floorMod_7cf53 rfl rfl rfl (by decide +kernel) ⟨Nat.le_of_ble_eq_true rfl, Nat.le_of_ble_eq_true rfl⟩) hK hP hD hS hA [] rfl rfl rfl rfl hl.1 rfl (lv_room (Nat.le_of_ble_eq_true rfl)) dX0_marketLetters_23 ⟨Nat.le_of_ble_eq_true rfl, Nat.le_of_ble_eq_true rfl⟩ (fun r H locs hr hP hS => ?_)
  obtain rfl : r = (nI ((((nI mk) - (nI (pm_fd y))).toInt % 8).toNat)) := hr
  rw [he1]
  refine pn_iadd hx hb dX0_marketLetters_26 ?_
  refine lv_istore (lv' := [(4, .int (nI ((pm_fd y) + (((((mk : Nat) : Int) - ((pm_fd y : Nat) : Int)) % 8).toNat)))), (3, .int (nI (pm_fd (y + 1) - 1))), (2, .int (nI (pm_fd y))), (0, .ref h0), (1, .int (nI y))]) hx hb dX0_marketLetters_27 hl (by decide) rfl (fun ls hl => ?_)
  refine lv_iload_n hx hb dX0_marketLetters_29 rfl (lv_at hl 1 rfl) ?_
  refine lv_iload_n hx hb dX0_marketLetters_30 rfl (lv_at hl 1 rfl) ?_
  refine lv_aload_n hx hb dX0_marketLetters_31 rfl (lv_at hl 3 rfl) ?_
  refine va_get (D := D) (ci := 0) (v := .int (nI mk)) (C := RX0) (T := TX0) (N := 4) hx hb hts hin hown hK hP 0 rfl rfl 3 (by decide) (hts (.fieldLink RX0 19 "RomanCalendar" "marketRemainder" "I") (by decide +kernel)) (fun _ h9 => h9) rfl dX0_marketLetters_32 ?_
  refine lv_isub hx hb dX0_marketLetters_35 ?_
  refine lv_bipush (v := nI 8) hx hb dX0_marketLetters_36 (by decide) ?_
  refine pz_SR (rest := [.int (nI (pm_fd (y + 1) - 1))]) ⟨hx, hb, hml, hown, hts⟩ (k_J9_floorMod_7cf53_8 l D ((cyI, .int) :: ts) ((nI (pm_fd (y + 1) - 1)) - (nI mk)) ) (va_cwS 2 hts gX0_marketLetters_J9_floorMod_7cf53 rfl rfl rfl (by decide +kernel) ⟨Nat.le_of_ble_eq_true rfl, Nat.le_of_ble_eq_true rfl⟩) hK hP hD hS hA [] rfl rfl rfl rfl hl.1 rfl (lv_room (Nat.le_of_ble_eq_true rfl)) dX0_marketLetters_38 ⟨Nat.le_of_ble_eq_true rfl, Nat.le_of_ble_eq_true rfl⟩ (fun r H locs hr hP hS => ?_)
  obtain rfl : r = (nI ((((nI (pm_fd (y + 1) - 1)) - (nI mk)).toInt % 8).toNat)) := hr
  rw [he2]
  refine pn_isub hx hb (by omega) dX0_marketLetters_41 ?_
  refine lv_istore (lv' := [(5, .int (nI ((pm_fd (y + 1) - 1) - (((((pm_fd (y + 1) - 1 : Nat) : Int) - ((mk : Nat) : Int)) % 8).toNat)))), (4, .int (nI ((pm_fd y) + (((((mk : Nat) : Int) - ((pm_fd y : Nat) : Int)) % 8).toNat)))), (3, .int (nI (pm_fd (y + 1) - 1))), (2, .int (nI (pm_fd y))), (0, .ref h0), (1, .int (nI y))]) hx hb dX0_marketLetters_42 hl (by decide) rfl (fun ls hl => ?_)
  refine lv_bipush (v := nI 10) hx hb dX0_marketLetters_44 (by decide) ?_
  refine lv_iload hx hb dX0_marketLetters_46 (lv_at hl 1 rfl) ?_
  refine pz_SR (rest := [.int (nI 10)]) ⟨hx, hb, hml, hown, hts⟩ (k_X0_eightLetterAt l D ((cyI, .int) :: ts) ((pm_fd y) + (((((mk : Nat) : Int) - ((pm_fd y : Nat) : Int)) % 8).toNat)) (by omega)) (va_cwS 1 hts gX0_marketLetters_X0_eightLetterAt rfl rfl rfl (by decide +kernel) ⟨Nat.le_of_ble_eq_true rfl, Nat.le_of_ble_eq_true rfl⟩) hK hP hD hS hA [] rfl rfl rfl rfl hl.1 rfl (lv_room (Nat.le_of_ble_eq_true rfl)) dX0_marketLetters_48 ⟨Nat.le_of_ble_eq_true rfl, Nat.le_of_ble_eq_true rfl⟩ (fun r H locs hr hP hS => ?_)
  obtain rfl : r = (nI ((pm_pl ((pm_fd y) + (((((mk : Nat) : Int) - ((pm_fd y : Nat) : Int)) % 8).toNat)) - 1) % 8)) := hr
  refine pn_imul hx hb dX0_marketLetters_51 ?_
  refine lv_iload hx hb dX0_marketLetters_52 (lv_at hl 0 rfl) ?_
  refine pz_SR (rest := [.int (nI (10 * ((pm_pl ((pm_fd y) + (((((mk : Nat) : Int) - ((pm_fd y : Nat) : Int)) % 8).toNat)) - 1) % 8)))]) ⟨hx, hb, hml, hown, hts⟩ (k_X0_eightLetterAt l D ((cyI, .int) :: ts) ((pm_fd (y + 1) - 1) - (((((pm_fd (y + 1) - 1 : Nat) : Int) - ((mk : Nat) : Int)) % 8).toNat)) (by omega)) (va_cwS 1 hts gX0_marketLetters_X0_eightLetterAt rfl rfl rfl (by decide +kernel) ⟨Nat.le_of_ble_eq_true rfl, Nat.le_of_ble_eq_true rfl⟩) hK hP hD hS hA [] rfl rfl rfl rfl hl.1 rfl (lv_room (Nat.le_of_ble_eq_true rfl)) dX0_marketLetters_54 ⟨Nat.le_of_ble_eq_true rfl, Nat.le_of_ble_eq_true rfl⟩ (fun r H locs hr hP hS => ?_)
  obtain rfl : r = (nI ((pm_pl ((pm_fd (y + 1) - 1) - (((((pm_fd (y + 1) - 1 : Nat) : Int) - ((mk : Nat) : Int)) % 8).toNat)) - 1) % 8)) := hr
  refine pn_iadd hx hb dX0_marketLetters_57 ?_
  exact hQ _ _ _ _ _ dX0_marketLetters_58 rfl (congrArg nI (by rfl)) hS
set_option maxHeartbeats 4000000 in
set_option maxRecDepth 100000 in
theorem k_X0_sundayLetters (l : Launch) (D : va_G) (h0 ac ay ap : Nat) (cyI : ClassId) (ts : List (ClassId × FieldType)) (mk : Nat) (ch fy fp : Nat → Nat) (y : Nat) (hy0 : 1 ≤ y) (hy1 : y ≤ 3000) : pz_R l yX0_sundayLetters wsX0_sundayLetters ({ frames := 4, cells := 0, slots := 0, locals := 80 } : Room) D ((cyI, .int) :: ts) [.ref h0, .int (nI y)] [(h0, .inr (0, [.ref ac, .ref ay, .ref ap, .int (nI mk)])), (ac, .inl (cyI, 365, .inl (pz_ar ch))), (ay, .inl (cyI, 60, .inl (pz_ar fy))), (ap, .inl (cyI, 60, .inl (pz_ar fp)))] (fun r => r = nI (10 * ((pm_pl (pm_fd y + ((((1 : Nat) : Int) - ((pm_fd y : Nat) : Int)) % 7).toNat) - 1) % 7) + (pm_pl (pm_fd (y + 1) - 1 - ((((pm_fd (y + 1) - 1 : Nat) : Int) - ((1 : Nat) : Int)) % 7).toNat) - 1) % 7)) := by
  refine pz_R_of (cc := cX0_sundayLetters) (maxL := 6) (ty := .int) (own := RX0) (by decide) rfl rfl (Nat.le_of_ble_eq_true rfl) ?_
  intro p e s m below meth c A ls Q hx hb hml hown hts hK hP hD hS hA hl hQ
  have hl : lv_has ls 6 [(0, .ref h0), (1, .int (nI y))] := hl
  have hf1 := pm_fd_e y
  have hf2 := pm_fd_e (y + 1)
  have he1 : ((nI 1 - nI (pm_fd y)).toInt = ((1 : Nat) : Int) - ((pm_fd y : Nat) : Int)) := pk_sub_toInt (by omega) (by omega)
  have he2 : ((nI (pm_fd (y + 1) - 1) - nI 1).toInt = ((pm_fd (y + 1) - 1 : Nat) : Int) - ((1 : Nat) : Int)) := pk_sub_toInt (by omega) (by omega)
  refine lv_iload_n hx hb dX0_sundayLetters_0 rfl (lv_at hl 1 rfl) ?_
  refine pz_SRV (rest := []) ⟨hx, hb, hml, hown, hts⟩ (k_X0_checkYear l D ((cyI, .int) :: ts) y (by omega) (by omega)) (va_cwS 1 hts gX0_sundayLetters_X0_checkYear rfl rfl rfl (by decide +kernel) ⟨Nat.le_of_ble_eq_true rfl, Nat.le_of_ble_eq_true rfl⟩) hK hP hD hS hA [] rfl rfl rfl rfl hl.1 rfl (lv_room (Nat.le_of_ble_eq_true rfl)) dX0_sundayLetters_1 ⟨Nat.le_of_ble_eq_true rfl, Nat.le_of_ble_eq_true rfl⟩ (fun H locs hP hS => ?_)
  refine lv_iload_n hx hb dX0_sundayLetters_4 rfl (lv_at hl 1 rfl) ?_
  refine pz_SR (rest := []) ⟨hx, hb, hml, hown, hts⟩ (k_X0_firstDayOf l D ((cyI, .int) :: ts) y (by omega) (by omega)) (va_cwS 1 hts gX0_sundayLetters_X0_firstDayOf rfl rfl rfl (by decide +kernel) ⟨Nat.le_of_ble_eq_true rfl, Nat.le_of_ble_eq_true rfl⟩) hK hP hD hS hA [] rfl rfl rfl rfl hl.1 rfl (lv_room (Nat.le_of_ble_eq_true rfl)) dX0_sundayLetters_5 ⟨Nat.le_of_ble_eq_true rfl, Nat.le_of_ble_eq_true rfl⟩ (fun r H locs hr hP hS => ?_)
  obtain rfl : r = (nI (pm_fd y)) := hr
  have hf_3 := pm_fd_e y
  refine lv_istore_n (lv' := [(2, .int (nI (pm_fd y))), (0, .ref h0), (1, .int (nI y))]) hx hb dX0_sundayLetters_8 rfl hl (by decide) rfl (fun ls hl => ?_)
  refine lv_iload_n hx hb dX0_sundayLetters_9 rfl (lv_at hl 2 rfl) ?_
  refine pz_SR (rest := []) ⟨hx, hb, hml, hown, hts⟩ (k_X0_lastDayOf l D ((cyI, .int) :: ts) y (by omega) (by omega)) (va_cwS 1 hts gX0_sundayLetters_X0_lastDayOf rfl rfl rfl (by decide +kernel) ⟨Nat.le_of_ble_eq_true rfl, Nat.le_of_ble_eq_true rfl⟩) hK hP hD hS hA [] rfl rfl rfl rfl hl.1 rfl (lv_room (Nat.le_of_ble_eq_true rfl)) dX0_sundayLetters_10 ⟨Nat.le_of_ble_eq_true rfl, Nat.le_of_ble_eq_true rfl⟩ (fun r H locs hr hP hS => ?_)
  obtain rfl : r = (nI (pm_fd (y + 1) - 1)) := hr
  have hf_5 := pm_fd_e (y + 1)
  refine lv_istore_n (lv' := [(3, .int (nI (pm_fd (y + 1) - 1))), (2, .int (nI (pm_fd y))), (0, .ref h0), (1, .int (nI y))]) hx hb dX0_sundayLetters_13 rfl hl (by decide) rfl (fun ls hl => ?_)
  refine lv_iload_n hx hb dX0_sundayLetters_14 rfl (lv_at hl 1 rfl) ?_
  refine lv_iconst (v := nI 1) hx hb dX0_sundayLetters_15 (by decide) ?_
  refine lv_iload_n hx hb dX0_sundayLetters_16 rfl (lv_at hl 1 rfl) ?_
  refine lv_isub hx hb dX0_sundayLetters_17 ?_
  refine lv_bipush (v := nI 7) hx hb dX0_sundayLetters_18 (by decide) ?_
  refine pz_SR (rest := [.int (nI (pm_fd y))]) ⟨hx, hb, hml, hown, hts⟩ (k_J9_floorMod_7cf53_7 l D ((cyI, .int) :: ts) ((nI 1) - (nI (pm_fd y))) ) (va_cwS 2 hts gX0_sundayLetters_J9_floorMod_7cf53 rfl rfl rfl (by decide +kernel) ⟨Nat.le_of_ble_eq_true rfl, Nat.le_of_ble_eq_true rfl⟩) hK hP hD hS hA [] rfl rfl rfl rfl hl.1 rfl (lv_room (Nat.le_of_ble_eq_true rfl)) dX0_sundayLetters_20 ⟨Nat.le_of_ble_eq_true rfl, Nat.le_of_ble_eq_true rfl⟩ (fun r H locs hr hP hS => ?_)
  obtain rfl : r = (nI ((((nI 1) - (nI (pm_fd y))).toInt % 7).toNat)) := hr
  rw [he1]
  refine pn_iadd hx hb dX0_sundayLetters_23 ?_
  refine lv_istore (lv' := [(4, .int (nI ((pm_fd y) + (((((1 : Nat) : Int) - ((pm_fd y : Nat) : Int)) % 7).toNat)))), (3, .int (nI (pm_fd (y + 1) - 1))), (2, .int (nI (pm_fd y))), (0, .ref h0), (1, .int (nI y))]) hx hb dX0_sundayLetters_24 hl (by decide) rfl (fun ls hl => ?_)
  refine lv_iload_n hx hb dX0_sundayLetters_26 rfl (lv_at hl 1 rfl) ?_
  refine lv_iload_n hx hb dX0_sundayLetters_27 rfl (lv_at hl 1 rfl) ?_
  refine lv_iconst (v := nI 1) hx hb dX0_sundayLetters_28 (by decide) ?_
  refine lv_isub hx hb dX0_sundayLetters_29 ?_
  refine lv_bipush (v := nI 7) hx hb dX0_sundayLetters_30 (by decide) ?_
  refine pz_SR (rest := [.int (nI (pm_fd (y + 1) - 1))]) ⟨hx, hb, hml, hown, hts⟩ (k_J9_floorMod_7cf53_7 l D ((cyI, .int) :: ts) ((nI (pm_fd (y + 1) - 1)) - (nI 1)) ) (va_cwS 2 hts gX0_sundayLetters_J9_floorMod_7cf53 rfl rfl rfl (by decide +kernel) ⟨Nat.le_of_ble_eq_true rfl, Nat.le_of_ble_eq_true rfl⟩) hK hP hD hS hA [] rfl rfl rfl rfl hl.1 rfl (lv_room (Nat.le_of_ble_eq_true rfl)) dX0_sundayLetters_32 ⟨Nat.le_of_ble_eq_true rfl, Nat.le_of_ble_eq_true rfl⟩ (fun r H locs hr hP hS => ?_)
  obtain rfl : r = (nI ((((nI (pm_fd (y + 1) - 1)) - (nI 1)).toInt % 7).toNat)) := hr
  rw [he2]
  refine pn_isub hx hb (by omega) dX0_sundayLetters_35 ?_
  refine lv_istore (lv' := [(5, .int (nI ((pm_fd (y + 1) - 1) - (((((pm_fd (y + 1) - 1 : Nat) : Int) - ((1 : Nat) : Int)) % 7).toNat)))), (4, .int (nI ((pm_fd y) + (((((1 : Nat) : Int) - ((pm_fd y : Nat) : Int)) % 7).toNat)))), (3, .int (nI (pm_fd (y + 1) - 1))), (2, .int (nI (pm_fd y))), (0, .ref h0), (1, .int (nI y))]) hx hb dX0_sundayLetters_36 hl (by decide) rfl (fun ls hl => ?_)
  refine lv_bipush (v := nI 10) hx hb dX0_sundayLetters_38 (by decide) ?_
  refine lv_iload hx hb dX0_sundayLetters_40 (lv_at hl 1 rfl) ?_
  refine pz_SR (rest := [.int (nI 10)]) ⟨hx, hb, hml, hown, hts⟩ (k_X0_sevenLetterAt l D ((cyI, .int) :: ts) ((pm_fd y) + (((((1 : Nat) : Int) - ((pm_fd y : Nat) : Int)) % 7).toNat)) (by omega)) (va_cwS 1 hts gX0_sundayLetters_X0_sevenLetterAt rfl rfl rfl (by decide +kernel) ⟨Nat.le_of_ble_eq_true rfl, Nat.le_of_ble_eq_true rfl⟩) hK hP hD hS hA [] rfl rfl rfl rfl hl.1 rfl (lv_room (Nat.le_of_ble_eq_true rfl)) dX0_sundayLetters_42 ⟨Nat.le_of_ble_eq_true rfl, Nat.le_of_ble_eq_true rfl⟩ (fun r H locs hr hP hS => ?_)
  obtain rfl : r = (nI ((pm_pl ((pm_fd y) + (((((1 : Nat) : Int) - ((pm_fd y : Nat) : Int)) % 7).toNat)) - 1) % 7)) := hr
  refine pn_imul hx hb dX0_sundayLetters_45 ?_
  refine lv_iload hx hb dX0_sundayLetters_46 (lv_at hl 0 rfl) ?_
  refine pz_SR (rest := [.int (nI (10 * ((pm_pl ((pm_fd y) + (((((1 : Nat) : Int) - ((pm_fd y : Nat) : Int)) % 7).toNat)) - 1) % 7)))]) ⟨hx, hb, hml, hown, hts⟩ (k_X0_sevenLetterAt l D ((cyI, .int) :: ts) ((pm_fd (y + 1) - 1) - (((((pm_fd (y + 1) - 1 : Nat) : Int) - ((1 : Nat) : Int)) % 7).toNat)) (by omega)) (va_cwS 1 hts gX0_sundayLetters_X0_sevenLetterAt rfl rfl rfl (by decide +kernel) ⟨Nat.le_of_ble_eq_true rfl, Nat.le_of_ble_eq_true rfl⟩) hK hP hD hS hA [] rfl rfl rfl rfl hl.1 rfl (lv_room (Nat.le_of_ble_eq_true rfl)) dX0_sundayLetters_48 ⟨Nat.le_of_ble_eq_true rfl, Nat.le_of_ble_eq_true rfl⟩ (fun r H locs hr hP hS => ?_)
  obtain rfl : r = (nI ((pm_pl ((pm_fd (y + 1) - 1) - (((((pm_fd (y + 1) - 1 : Nat) : Int) - ((1 : Nat) : Int)) % 7).toNat)) - 1) % 7)) := hr
  refine pn_iadd hx hb dX0_sundayLetters_51 ?_
  exact hQ _ _ _ _ _ dX0_sundayLetters_52 rfl (congrArg nI (by rfl)) hS
end PZ4
