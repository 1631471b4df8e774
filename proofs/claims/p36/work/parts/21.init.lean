section PZ10
set_option maxHeartbeats 4000000 in
set_option maxRecDepth 100000 in
theorem k_X0_init (l : Launch) (D : va_G) (h0 : Nat) : pz_N l yX0_init wsX0_init ({ frames := 3, cells := 3, slots := 485, locals := 65 } : Room) D [.ref h0] [(h0, .inr (0, [.null, .null, .null, .int (nI 0)]))] (S := (Nat × Nat × Nat × ClassId) × (Nat → Nat)) (fun u => ∀ j, j < 365 → u.2 j = pq_c 12 j) (fun u => [(h0, .inr (0, [.ref u.1.1, .ref u.1.2.1, .ref u.1.2.2.1, .int (nI 0)])), (u.1.1, .inl (u.1.2.2.2, 365, .inl (pz_ar u.2))), (u.1.2.1, .inl (u.1.2.2.2, 60, .inl (pz_ar (fun _ => 0)))), (u.1.2.2.1, .inl (u.1.2.2.2, 60, .inl (pz_ar (fun _ => 0))))]) (fun u => [(u.1.2.2.2, .int)]) 3 485 := by
  refine pz_N_of (cc := cX0_init) (maxL := 2) (own := RX0) (by decide) rfl rfl rfl (Nat.le_of_ble_eq_true rfl) ?_
  intro p e s m below meth c A ls Q hx hb hml hown hts hin2 hK hP hD hS hA hl hQ
  have hl : lv_has ls 2 [(0, .ref h0)] := hl
  have hin : ∀ w ∈ u_ws RX0 TX0 4, w ∈ wsX0_init := by decide +kernel
  refine lv_aload_n hx hb dX0_init_0 rfl (lv_at hl 0 rfl) ?_
  refine W.objInit hx hb hown (hts (.methodLink RX0 1 objectInit) (by decide +kernel)) (hts (.instanceMethod objectInit) (by decide +kernel)) (hts _ (List.mem_cons_of_mem _ (List.mem_append_left _ (List.mem_append_left _ (List.mem_of_getElem? (i := 2) rfl))))) rfl (by rw [hml]; exact hl.1) rfl dX0_init_1 (Nat.le_of_ble_eq_true rfl) (Nat.le_of_ble_eq_true rfl) ?_
  refine W.eq (g2 := F0 m 4 ls []) rfl ?_
  refine lv_aload_n hx hb dX0_init_4 rfl (lv_at hl 0 rfl) ?_
  refine lv_sipush (v := nI 365) hx hb dX0_init_5 (by decide) ?_
  refine va_newa (atype := .int) (ty := .int) (N' := 365) (a0 := (365, .inl (pz_ar (fun _ => 0)))) hx hb (hts (.arrayClass .int) (by decide +kernel)) rfl hK hP hD hS hA (fun cA => pz_nar cA) (by decide) (by decide +kernel) (Nat.le_of_ble_eq_true rfl) (Nat.le_of_ble_eq_true rfl) (Nat.le_of_ble_eq_true rfl) dX0_init_8 (fun ac cyI H hK hP hD hS => ?_)
  have hP : va_P D vwCl [(h0, .inr (0, [.null, .null, .null, .int (nI 0)])), (ac, .inl (cyI, 365, .inl (pz_ar (fun _ => 0))))] H := hP
  have hD : va_D A [(h0, .inr (0, [.null, .null, .null, .int (nI 0)])), (ac, .inl (cyI, 365, .inl (pz_ar (fun _ => 0))))] := hD
  refine va_putF (D := D) (ci := 0) (v := .ref ac) (ty := .array .int) (C := RX0) (T := TX0) (N := 4) hx hb hts hin tyX0 tyX0_ok nmX0 hown hK hP hD hS 0 rfl rfl 0 (by decide) (hts (.fieldLink RX0 9 "RomanCalendar" "characters" "[I") (by decide +kernel)) (fun _ h9 => h9) rfl hin2 rfl (by decide +kernel) rfl rfl (Nat.le_of_ble_eq_true rfl) dX0_init_10 (fun H locs hP hD hS => ?_)
  have hP : va_P D vwCl [(h0, .inr (0, [.ref ac, .null, .null, .int (nI 0)])), (ac, .inl (cyI, 365, .inl (pz_ar (fun _ => 0))))] H := hP
  have hD : va_D A [(h0, .inr (0, [.ref ac, .null, .null, .int (nI 0)])), (ac, .inl (cyI, 365, .inl (pz_ar (fun _ => 0))))] := hD
  refine lv_aload_n hx hb dX0_init_13 rfl (lv_at hl 0 rfl) ?_
  refine lv_bipush (v := nI 60) hx hb dX0_init_14 (by decide) ?_
  refine va_newa (atype := .int) (ty := .int) (N' := 60) (a0 := (60, .inl (pz_ar (fun _ => 0)))) hx hb (hts (.arrayClass .int) (by decide +kernel)) rfl hK hP hD hS hA (fun cA => pz_nar cA) (by decide) (by decide +kernel) (Nat.le_of_ble_eq_true rfl) (Nat.le_of_ble_eq_true rfl) (Nat.le_of_ble_eq_true rfl) dX0_init_16 (fun ay c1 H hK hP hD hS => ?_)
  have hP : va_P D vwCl [(h0, .inr (0, [.ref ac, .null, .null, .int (nI 0)])), (ac, .inl (cyI, 365, .inl (pz_ar (fun _ => 0)))), (ay, .inl (c1, 60, .inl (pz_ar (fun _ => 0))))] H := hP
  have hD : va_D A [(h0, .inr (0, [.ref ac, .null, .null, .int (nI 0)])), (ac, .inl (cyI, 365, .inl (pz_ar (fun _ => 0)))), (ay, .inl (c1, 60, .inl (pz_ar (fun _ => 0))))] := hD
  refine va_putF (D := D) (ci := 0) (v := .ref ay) (ty := .array .int) (C := RX0) (T := TX0) (N := 4) hx hb hts hin tyX0 tyX0_ok nmX0 hown hK hP hD hS 0 rfl rfl 1 (by decide) (hts (.fieldLink RX0 13 "RomanCalendar" "consulYears" "[I") (by decide +kernel)) (fun _ h9 => h9) rfl hin2 rfl (by decide +kernel) rfl rfl (Nat.le_of_ble_eq_true rfl) dX0_init_18 (fun H locs hP hD hS => ?_)
  have hP : va_P D vwCl [(h0, .inr (0, [.ref ac, .ref ay, .null, .int (nI 0)])), (ac, .inl (cyI, 365, .inl (pz_ar (fun _ => 0)))), (ay, .inl (c1, 60, .inl (pz_ar (fun _ => 0))))] H := hP
  have hD : va_D A [(h0, .inr (0, [.ref ac, .ref ay, .null, .int (nI 0)])), (ac, .inl (cyI, 365, .inl (pz_ar (fun _ => 0)))), (ay, .inl (c1, 60, .inl (pz_ar (fun _ => 0))))] := hD
  refine lv_aload_n hx hb dX0_init_21 rfl (lv_at hl 0 rfl) ?_
  refine lv_bipush (v := nI 60) hx hb dX0_init_22 (by decide) ?_
  refine va_newa (atype := .int) (ty := .int) (N' := 60) (a0 := (60, .inl (pz_ar (fun _ => 0)))) hx hb (hts (.arrayClass .int) (by decide +kernel)) rfl hK hP hD hS hA (fun cA => pz_nar cA) (by decide) (by decide +kernel) (Nat.le_of_ble_eq_true rfl) (Nat.le_of_ble_eq_true rfl) (Nat.le_of_ble_eq_true rfl) dX0_init_24 (fun ap c2 H hK hP hD hS => ?_)
  have hP : va_P D vwCl [(h0, .inr (0, [.ref ac, .ref ay, .null, .int (nI 0)])), (ac, .inl (cyI, 365, .inl (pz_ar (fun _ => 0)))), (ay, .inl (c1, 60, .inl (pz_ar (fun _ => 0)))), (ap, .inl (c2, 60, .inl (pz_ar (fun _ => 0))))] H := hP
  have hD : va_D A [(h0, .inr (0, [.ref ac, .ref ay, .null, .int (nI 0)])), (ac, .inl (cyI, 365, .inl (pz_ar (fun _ => 0)))), (ay, .inl (c1, 60, .inl (pz_ar (fun _ => 0)))), (ap, .inl (c2, 60, .inl (pz_ar (fun _ => 0))))] := hD
  refine va_putF (D := D) (ci := 0) (v := .ref ap) (ty := .array .int) (C := RX0) (T := TX0) (N := 4) hx hb hts hin tyX0 tyX0_ok nmX0 hown hK hP hD hS 0 rfl rfl 2 (by decide) (hts (.fieldLink RX0 16 "RomanCalendar" "consulPairs" "[I") (by decide +kernel)) (fun _ h9 => h9) rfl hin2 rfl (by decide +kernel) rfl rfl (Nat.le_of_ble_eq_true rfl) dX0_init_26 (fun H locs hP hD hS => ?_)
  have hP : va_P D vwCl [(h0, .inr (0, [.ref ac, .ref ay, .ref ap, .int (nI 0)])), (ac, .inl (cyI, 365, .inl (pz_ar (fun _ => 0)))), (ay, .inl (c1, 60, .inl (pz_ar (fun _ => 0)))), (ap, .inl (c2, 60, .inl (pz_ar (fun _ => 0))))] H := hP
  have hD : va_D A [(h0, .inr (0, [.ref ac, .ref ay, .ref ap, .int (nI 0)])), (ac, .inl (cyI, 365, .inl (pz_ar (fun _ => 0)))), (ay, .inl (c1, 60, .inl (pz_ar (fun _ => 0)))), (ap, .inl (c2, 60, .inl (pz_ar (fun _ => 0))))] := hD
  have hK : va_K D vwCl [(cyI, .int), (c1, .int), (c2, .int)] s := hK
  have e1 := pz_one hK (i := 0) (j := 1) rfl rfl
  have e2 := pz_one hK (i := 0) (j := 2) rfl rfl
  subst e1
  subst e2
  have hK := hK.sub (tys' := [(cyI, .int)]) [0] rfl
  refine W.widen (k := 3) (n := 485) (Nat.le_of_ble_eq_true rfl) (Nat.le_of_ble_eq_true rfl) ?_
  have hP : va_P D vwCl [(h0, .inr (0, [.ref ac, .ref ay, .ref ap, .int (nI 0)])), (ac, .inl (cyI, 365, .inl (pz_ar (fun _ => 0)))), (ay, .inl (cyI, 60, .inl (pz_ar (fun _ => 0)))), (ap, .inl (cyI, 60, .inl (pz_ar (fun _ => 0))))] H := hP
  have hD : va_D A [(h0, .inr (0, [.ref ac, .ref ay, .ref ap, .int (nI 0)])), (ac, .inl (cyI, 365, .inl (pz_ar (fun _ => 0)))), (ay, .inl (cyI, 60, .inl (pz_ar (fun _ => 0)))), (ap, .inl (cyI, 60, .inl (pz_ar (fun _ => 0))))] := hD
  refine lv_aload_n hx hb dX0_init_29 rfl (lv_at hl 0 rfl) ?_
  refine lv_iconst (v := nI 0) hx hb dX0_init_30 (by decide) ?_
  refine va_put (D := D) (ci := 0) (v := .int (nI 0)) (ty := .int) (C := RX0) (T := TX0) (N := 4) hx hb hts hin tyX0 tyX0_ok nmX0 hown hK hP hD hS 0 rfl rfl 3 (by decide) (hts (.fieldLink RX0 19 "RomanCalendar" "marketRemainder" "I") (by decide +kernel)) (fun _ h9 => h9) rfl (by decide +kernel) rfl rfl (Nat.le_of_ble_eq_true rfl) dX0_init_31 (fun H locs hP hD hS => ?_)
  have hP : va_P D vwCl [(h0, .inr (0, [.ref ac, .ref ay, .ref ap, .int (nI 0)])), (ac, .inl (cyI, 365, .inl (pz_ar (fun _ => 0)))), (ay, .inl (cyI, 60, .inl (pz_ar (fun _ => 0)))), (ap, .inl (cyI, 60, .inl (pz_ar (fun _ => 0))))] H := hP
  have hD : va_D A [(h0, .inr (0, [.ref ac, .ref ay, .ref ap, .int (nI 0)])), (ac, .inl (cyI, 365, .inl (pz_ar (fun _ => 0)))), (ay, .inl (cyI, 60, .inl (pz_ar (fun _ => 0)))), (ap, .inl (cyI, 60, .inl (pz_ar (fun _ => 0))))] := hD
  refine lv_iconst (v := nI 0) hx hb dX0_init_34 (by decide) ?_
  refine lv_istore_n (lv' := [(1, .int (nI 0)), (0, .ref h0)]) hx hb dX0_init_35 rfl hl (by decide) rfl (fun ls hl => ?_)
  have LP36 : ∀ (N : Nat) (k : Nat) (ch : Nat → Nat) (H : Heap) (locs : List Loc) (ls : Array Slot), 365 - k < N → (k ≤ 365) → (∀ j, j < k → ch j = 2) → va_P D vwCl [(h0, .inr (0, [.ref ac, .ref ay, .ref ap, .int (nI 0)])), (ac, .inl (cyI, 365, .inl (pz_ar ch))), (ay, .inl (cyI, 60, .inl (pz_ar (fun _ => 0)))), (ap, .inl (cyI, 60, .inl (pz_ar (fun _ => 0))))] H → va_D A [(h0, .inr (0, [.ref ac, .ref ay, .ref ap, .int (nI 0)])), (ac, .inl (cyI, 365, .inl (pz_ar ch))), (ay, .inl (cyI, 60, .inl (pz_ar (fun _ => 0)))), (ap, .inl (cyI, 60, .inl (pz_ar (fun _ => 0))))] → va_S A s.heap H locs → lv_has ls 2 [(1, .int (nI k)), (0, .ref h0)] → W p l e ({ frames := 3, cells := 3, slots := 485, locals := 65 } : Room) s m ([.ref h0] : List Value).toArray below meth c H locs 3 485 Q (F0 m 36 ls []) := by
    intro N
    induction N with
    | zero => intro k ch H locs ls hN; exact absurd hN (Nat.not_lt_zero _)
    | succ N ih =>
      intro k ch H locs ls hN hi36_0 hi36_1 hP hD hS hl
      have ih36 := ih
      refine lv_iload_n hx hb dX0_init_36 rfl (lv_at hl 0 rfl) ?_
      refine lv_sipush (v := nI 365) hx hb dX0_init_37 (by decide) ?_
      refine pn_icmp_ge (tgt := 56) hx hb (by omega) (by omega) dX0_init_40 (by decide) (fun c_1 => ?_) (fun c_1 => ?_)
      · -- 40 yes
        refine lv_iconst (v := nI 1) hx hb dX0_init_56 (by decide) ?_
        refine lv_istore_n (lv' := [(1, .int (nI 1)), (0, .ref h0)]) hx hb dX0_init_57 rfl hl (by decide) rfl (fun ls hl => ?_)
        have LP58 : ∀ (N : Nat) (k : Nat) (ch : Nat → Nat) (H : Heap) (locs : List Loc) (ls : Array Slot), 13 - k < N → (1 ≤ k) → (k ≤ 13) → (∀ j, j < 365 → ch j = pq_c (k - 1) j) → va_P D vwCl [(h0, .inr (0, [.ref ac, .ref ay, .ref ap, .int (nI 0)])), (ac, .inl (cyI, 365, .inl (pz_ar ch))), (ay, .inl (cyI, 60, .inl (pz_ar (fun _ => 0)))), (ap, .inl (cyI, 60, .inl (pz_ar (fun _ => 0))))] H → va_D A [(h0, .inr (0, [.ref ac, .ref ay, .ref ap, .int (nI 0)])), (ac, .inl (cyI, 365, .inl (pz_ar ch))), (ay, .inl (cyI, 60, .inl (pz_ar (fun _ => 0)))), (ap, .inl (cyI, 60, .inl (pz_ar (fun _ => 0))))] → va_S A s.heap H locs → lv_has ls 2 [(1, .int (nI k)), (0, .ref h0)] → W p l e ({ frames := 3, cells := 3, slots := 485, locals := 65 } : Room) s m ([.ref h0] : List Value).toArray below meth c H locs 3 485 Q (F0 m 58 ls []) := by
          intro N
          induction N with
          | zero => intro k ch H locs ls hN; exact absurd hN (Nat.not_lt_zero _)
          | succ N ih =>
            intro k ch H locs ls hN hi58_0 hi58_1 hi58_2 hP hD hS hl
            have hb0_0 : k ≤ 12 → 1 ≤ pm_an k 0 ∧ pm_an k 0 ≤ 365 := fun h9 => pq_b hi58_0 h9 (by decide)
            have hb1_0 : k ≤ 12 → 1 ≤ pm_an k 1 ∧ pm_an k 1 ≤ 365 := fun h9 => pq_b hi58_0 h9 (by decide)
            have hb2_0 : k ≤ 12 → 1 ≤ pm_an k 2 ∧ pm_an k 2 ≤ 365 := fun h9 => pq_b hi58_0 h9 (by decide)
            have ih58 := ih
            refine lv_iload_n hx hb dX0_init_58 rfl (lv_at hl 0 rfl) ?_
            refine lv_bipush (v := nI 12) hx hb dX0_init_59 (by decide) ?_
            refine pn_icmp_gt (tgt := 100) hx hb (by omega) (by omega) dX0_init_61 (by decide) (fun c_2 => ?_) (fun c_2 => ?_)
            · -- 61 yes
              exact hQ _ _ _ _ ((ac, ay, ap, cyI), ch) dX0_init_100 (by (have h9 : k = 13 := by omega); subst h9; exact hi58_2) hP hK hD hS
            · -- 61 no
              refine lv_aload_n hx hb dX0_init_64 rfl (lv_at hl 1 rfl) ?_
              refine lv_iload_n hx hb dX0_init_65 rfl (lv_at hl 0 rfl) ?_
              refine lv_iconst (v := nI 0) hx hb dX0_init_66 (by decide) ?_
              refine pz_SR (rest := [.ref h0]) ⟨hx, hb, hml, hown, hts⟩ (k_X0_placeOfAnchor l D [(cyI, .int)] k 0 (by omega) (by omega) (by omega)) (va_cwS 2 hts gX0_init_X0_placeOfAnchor rfl rfl rfl (by decide +kernel) ⟨Nat.le_of_ble_eq_true rfl, Nat.le_of_ble_eq_true rfl⟩) hK hP (hD.weaken (fun _ _ _ _ => trivial)) hS hA [] rfl rfl rfl rfl hl.1 rfl (lv_room (Nat.le_of_ble_eq_true rfl)) dX0_init_67 ⟨Nat.le_of_ble_eq_true rfl, Nat.le_of_ble_eq_true rfl⟩ (fun r H locs hr hP hS => ?_)
              obtain rfl : r = (nI (pm_an k 0)) := hr
              have hf_4 := pm_an_b k 0 (by omega)
              have hf_5 := pm_cb_b k (by omega)
              refine lv_iconst (v := nI 0) hx hb dX0_init_70 (by decide) ?_
              refine pz_VV (rest := []) (wr := []) ⟨hx, hb, hml, hown, hts⟩ (k_X0_writeCharacter l D h0 ac ay ap cyI ([]) 0 ch (fun _ => 0) (fun _ => 0) (pm_an k 0) 0 (by omega) (by omega)) (cwV 2 hts gX0_init_X0_writeCharacter rfl rfl rfl (by decide +kernel) ⟨Nat.le_of_ble_eq_true rfl, Nat.le_of_ble_eq_true rfl⟩) hK hP hD hS hA [0, 1, 2, 3] [] rfl rfl rfl rfl rfl (by decide) 0 0 rfl rfl rfl hl.1 rfl (lv_room (Nat.le_of_ble_eq_true rfl)) dX0_init_71 ⟨Nat.le_of_ble_eq_true rfl, Nat.le_of_ble_eq_true rfl⟩ (fun u H locs hr hP hD hS => ?_)
              have hP : va_P D vwCl [(h0, .inr (0, [.ref ac, .ref ay, .ref ap, .int (nI 0)])), (ac, .inl (cyI, 365, .inl (pz_ar (pz_u ch ((pm_an k 0) - 1) 0)))), (ay, .inl (cyI, 60, .inl (pz_ar (fun _ => 0)))), (ap, .inl (cyI, 60, .inl (pz_ar (fun _ => 0))))] H := hP
              have hD : va_D A [(h0, .inr (0, [.ref ac, .ref ay, .ref ap, .int (nI 0)])), (ac, .inl (cyI, 365, .inl (pz_ar (pz_u ch ((pm_an k 0) - 1) 0)))), (ay, .inl (cyI, 60, .inl (pz_ar (fun _ => 0)))), (ap, .inl (cyI, 60, .inl (pz_ar (fun _ => 0))))] := hD
              have hr_6 := hr
              refine lv_aload_n hx hb dX0_init_74 rfl (lv_at hl 1 rfl) ?_
              refine lv_iload_n hx hb dX0_init_75 rfl (lv_at hl 0 rfl) ?_
              refine lv_iconst (v := nI 1) hx hb dX0_init_76 (by decide) ?_
              refine pz_SR (rest := [.ref h0]) ⟨hx, hb, hml, hown, hts⟩ (k_X0_placeOfAnchor l D [(cyI, .int)] k 1 (by omega) (by omega) (by omega)) (va_cwS 2 hts gX0_init_X0_placeOfAnchor rfl rfl rfl (by decide +kernel) ⟨Nat.le_of_ble_eq_true rfl, Nat.le_of_ble_eq_true rfl⟩) hK hP (hD.weaken (fun _ _ _ _ => trivial)) hS hA [] rfl rfl rfl rfl hl.1 rfl (lv_room (Nat.le_of_ble_eq_true rfl)) dX0_init_77 ⟨Nat.le_of_ble_eq_true rfl, Nat.le_of_ble_eq_true rfl⟩ (fun r H locs hr hP hS => ?_)
              obtain rfl : r = (nI (pm_an k 1)) := hr
              have hf_8 := pm_an_b k 1 (by omega)
              have hf_9 := pm_cb_b k (by omega)
              refine lv_iconst (v := nI 0) hx hb dX0_init_80 (by decide) ?_
              refine pz_VV (rest := []) (wr := []) ⟨hx, hb, hml, hown, hts⟩ (k_X0_writeCharacter l D h0 ac ay ap cyI ([]) 0 (pz_u ch ((pm_an k 0) - 1) 0) (fun _ => 0) (fun _ => 0) (pm_an k 1) 0 (by omega) (by omega)) (cwV 2 hts gX0_init_X0_writeCharacter rfl rfl rfl (by decide +kernel) ⟨Nat.le_of_ble_eq_true rfl, Nat.le_of_ble_eq_true rfl⟩) hK hP hD hS hA [0, 1, 2, 3] [] rfl rfl rfl rfl rfl (by decide) 0 0 rfl rfl rfl hl.1 rfl (lv_room (Nat.le_of_ble_eq_true rfl)) dX0_init_81 ⟨Nat.le_of_ble_eq_true rfl, Nat.le_of_ble_eq_true rfl⟩ (fun u H locs hr hP hD hS => ?_)
              have hP : va_P D vwCl [(h0, .inr (0, [.ref ac, .ref ay, .ref ap, .int (nI 0)])), (ac, .inl (cyI, 365, .inl (pz_ar (pz_u (pz_u ch ((pm_an k 0) - 1) 0) ((pm_an k 1) - 1) 0)))), (ay, .inl (cyI, 60, .inl (pz_ar (fun _ => 0)))), (ap, .inl (cyI, 60, .inl (pz_ar (fun _ => 0))))] H := hP
              have hD : va_D A [(h0, .inr (0, [.ref ac, .ref ay, .ref ap, .int (nI 0)])), (ac, .inl (cyI, 365, .inl (pz_ar (pz_u (pz_u ch ((pm_an k 0) - 1) 0) ((pm_an k 1) - 1) 0)))), (ay, .inl (cyI, 60, .inl (pz_ar (fun _ => 0)))), (ap, .inl (cyI, 60, .inl (pz_ar (fun _ => 0))))] := hD
              have hr_10 := hr
              refine lv_aload_n hx hb dX0_init_84 rfl (lv_at hl 1 rfl) ?_
              refine lv_iload_n hx hb dX0_init_85 rfl (lv_at hl 0 rfl) ?_
              refine lv_iconst (v := nI 2) hx hb dX0_init_86 (by decide) ?_
              refine pz_SR (rest := [.ref h0]) ⟨hx, hb, hml, hown, hts⟩ (k_X0_placeOfAnchor l D [(cyI, .int)] k 2 (by omega) (by omega) (by omega)) (va_cwS 2 hts gX0_init_X0_placeOfAnchor rfl rfl rfl (by decide +kernel) ⟨Nat.le_of_ble_eq_true rfl, Nat.le_of_ble_eq_true rfl⟩) hK hP (hD.weaken (fun _ _ _ _ => trivial)) hS hA [] rfl rfl rfl rfl hl.1 rfl (lv_room (Nat.le_of_ble_eq_true rfl)) dX0_init_87 ⟨Nat.le_of_ble_eq_true rfl, Nat.le_of_ble_eq_true rfl⟩ (fun r H locs hr hP hS => ?_)
              obtain rfl : r = (nI (pm_an k 2)) := hr
              have hf_12 := pm_an_b k 2 (by omega)
              have hf_13 := pm_cb_b k (by omega)
              refine lv_iconst (v := nI 0) hx hb dX0_init_90 (by decide) ?_
              refine pz_VV (rest := []) (wr := []) ⟨hx, hb, hml, hown, hts⟩ (k_X0_writeCharacter l D h0 ac ay ap cyI ([]) 0 (pz_u (pz_u ch ((pm_an k 0) - 1) 0) ((pm_an k 1) - 1) 0) (fun _ => 0) (fun _ => 0) (pm_an k 2) 0 (by omega) (by omega)) (cwV 2 hts gX0_init_X0_writeCharacter rfl rfl rfl (by decide +kernel) ⟨Nat.le_of_ble_eq_true rfl, Nat.le_of_ble_eq_true rfl⟩) hK hP hD hS hA [0, 1, 2, 3] [] rfl rfl rfl rfl rfl (by decide) 0 0 rfl rfl rfl hl.1 rfl (lv_room (Nat.le_of_ble_eq_true rfl)) dX0_init_91 ⟨Nat.le_of_ble_eq_true rfl, Nat.le_of_ble_eq_true rfl⟩ (fun u H locs hr hP hD hS => ?_)
              have hP : va_P D vwCl [(h0, .inr (0, [.ref ac, .ref ay, .ref ap, .int (nI 0)])), (ac, .inl (cyI, 365, .inl (pz_ar (pz_u (pz_u (pz_u ch ((pm_an k 0) - 1) 0) ((pm_an k 1) - 1) 0) ((pm_an k 2) - 1) 0)))), (ay, .inl (cyI, 60, .inl (pz_ar (fun _ => 0)))), (ap, .inl (cyI, 60, .inl (pz_ar (fun _ => 0))))] H := hP
              have hD : va_D A [(h0, .inr (0, [.ref ac, .ref ay, .ref ap, .int (nI 0)])), (ac, .inl (cyI, 365, .inl (pz_ar (pz_u (pz_u (pz_u ch ((pm_an k 0) - 1) 0) ((pm_an k 1) - 1) 0) ((pm_an k 2) - 1) 0)))), (ay, .inl (cyI, 60, .inl (pz_ar (fun _ => 0)))), (ap, .inl (cyI, 60, .inl (pz_ar (fun _ => 0))))] := hD
              have hr_14 := hr
              refine lv_iinc (v := (nI (k + 1))) (lv' := [(1, .int (nI (k + 1))), (0, .ref h0)]) hx hb dX0_init_94 hl (k := 0) rfl (by exact nI_add _ 1) (by decide) rfl (fun ls hl => ?_)
              refine lv_goto (tgt := 58) hx hb dX0_init_97 (by decide) ?_
              exact ih58 (k + 1) (pz_u (pz_u (pz_u ch ((pm_an k 0) - 1) 0) ((pm_an k 1) - 1) 0) ((pm_an k 2) - 1) 0) _ _ _ (by omega) (by omega) (by omega) (by first | exact pq_s hi58_0 (by omega) hi58_2 | exact fun j h1 => (hi36_1 j (by omega)).trans rfl) hP hD hS (lv_sub hl [0, 1] rfl)
        exact LP58 _ 1 ch _ _ _ (Nat.lt_succ_self _) (by omega) (by omega) (by first | exact pq_s hi58_0 (by omega) hi58_2 | exact fun j h1 => (hi36_1 j (by omega)).trans rfl) hP hD hS (lv_sub hl [0, 1] rfl)
      · -- 40 no
        refine lv_aload_n hx hb dX0_init_43 rfl (lv_at hl 1 rfl) ?_
        refine va_get (D := D) (ci := 0) (v := .ref ac) (C := RX0) (T := TX0) (N := 4) hx hb hts hin hown hK hP 0 rfl rfl 0 (by decide) (hts (.fieldLink RX0 9 "RomanCalendar" "characters" "[I") (by decide +kernel)) (fun _ h9 => h9) rfl dX0_init_44 ?_
        refine lv_iload_n hx hb dX0_init_47 rfl (lv_at hl 0 rfl) ?_
        refine lv_iconst (v := nI 2) hx hb dX0_init_48 (by decide) ?_
        refine pn_iast hx hb hK hP hD hS 1 0 rfl rfl (by omega) (by decide) dX0_init_49 (fun H locs hP hD hS => ?_)
        have hP : va_P D vwCl [(h0, .inr (0, [.ref ac, .ref ay, .ref ap, .int (nI 0)])), (ac, .inl (cyI, 365, .inl (pz_ar (pz_u ch k 2)))), (ay, .inl (cyI, 60, .inl (pz_ar (fun _ => 0)))), (ap, .inl (cyI, 60, .inl (pz_ar (fun _ => 0))))] H := hP
        have hD : va_D A [(h0, .inr (0, [.ref ac, .ref ay, .ref ap, .int (nI 0)])), (ac, .inl (cyI, 365, .inl (pz_ar (pz_u ch k 2)))), (ay, .inl (cyI, 60, .inl (pz_ar (fun _ => 0)))), (ap, .inl (cyI, 60, .inl (pz_ar (fun _ => 0))))] := hD
        refine lv_iinc (v := (nI (k + 1))) (lv' := [(1, .int (nI (k + 1))), (0, .ref h0)]) hx hb dX0_init_50 hl (k := 0) rfl (by exact nI_add _ 1) (by decide) rfl (fun ls hl => ?_)
        refine lv_goto (tgt := 36) hx hb dX0_init_53 (by decide) ?_
        exact ih36 (k + 1) (pz_u ch k 2) _ _ _ (by omega) (by omega) (by first | (intro j h1; exfalso; omega) | (intro j h1; unfold pz_u; split; rfl; exact hi36_1 j (by omega))) hP hD hS (lv_sub hl [0, 1] rfl)
  exact LP36 _ 0 (fun _ => 0) _ _ _ (Nat.lt_succ_self _) (by omega) (by first | (intro j h1; exfalso; omega) | (intro j h1; unfold pz_u; split; rfl; exact hi36_1 j (by omega))) hP hD hS (lv_sub hl [0, 1] rfl)
end PZ10
