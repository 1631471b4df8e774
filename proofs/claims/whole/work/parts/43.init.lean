section PZ10
set_option maxHeartbeats 4000000 in
set_option maxRecDepth 100000 in
theorem k_X0_init (l : Launch) (D : va_G) (h0 : Nat) : pz_N l yX0_init wsX0_init ({ frames := 3, cells := 3, slots := 485, locals := 65 } : Room) D [.ref h0] [(h0, .inr (0, [.null, .null, .null, .int (nI 0)]))] (S := (Nat × Nat × Nat × ClassId) × (Nat → Nat)) (fun u => ∀ j, j < 365 → u.2 j = pq_c 12 j) (fun u => [(h0, .inr (0, [.ref u.1.1, .ref u.1.2.1, .ref u.1.2.2.1, .int (nI 0)])), (u.1.1, .inl (u.1.2.2.2, 365, .inl (pz_ar u.2))), (u.1.2.1, .inl (u.1.2.2.2, 60, .inl (pz_ar (fun _ => 0)))), (u.1.2.2.1, .inl (u.1.2.2.2, 60, .inl (pz_ar (fun _ => 0))))]) (fun u => [(u.1.2.2.2, .int)]) 3 485 := by
  refine pz_N_of (cc := cX0_init) (maxL := 2) (own := RX0) (by decide) rfl rfl rfl (Nat.le_of_ble_eq_true rfl) ?_
  intro p e s m below meth c A ls Q hx hb hml hown hts hin2 hK hP hD hS hA hl hQ
  have hl : lv_has ls 2 [(0, .ref h0)] := hl
  have hin : ∀ w ∈ u_ws RX0 TX0 4, w ∈ wsX0_init := by decide +kernel
  refine lv_aload_n hx hb dX0_init_0 rfl (lv_at hl 0 rfl) ?_
  refine W.objInit hx hb hown (hts (.methodLink RX0 1 objectInit) (by decide +kernel)) (hts (.instanceMethod objectInit) (by decide +kernel)) (hts _ (List.mem_cons_of_mem _ (List.mem_append_left _ (List.mem_append_left _ (List.mem_of_getElem? (i := 2) rfl))))) rfl (by rw [hml]; exact hl.1) rfl dX0_init_1 (Nat.le_of_ble_eq_true rfl) (Nat.le_of_ble_eq_true rfl) ?_
  refine W.eq (g2 := F0 m 4 ls []) rfl ?_
  refine lv_aload_n hx hb dX0_init_4 rfl (lv_at hl 0 rfl) ?_
  refine lv_sipush (v := nI 365) hx hb dX0_init_5 (by decide) ?_
  refine va_newa (atype := .int) (ty := .int) (N' := 365) (a0 := (365, .inl (pz_ar (fun _ => 0)))) hx hb (hts (.arrayClass .int) (by decide +kernel)) rfl hK hP hD hS hA (fun cA => pz_nar cA) (by decide) (by decide +kernel) (Nat.le_of_ble_eq_true rfl) (Nat.le_of_ble_eq_true rfl) (Nat.le_of_ble_eq_true rfl) dX0_init_8 (fun ac cyI H hK hP hD hS => ?_)
  have hP : va_P D vwCl [(h0, .inr (0, [.null, .null, .null, .int (nI 0)])), (ac, .inl (cyI, 365, .inl (pz_ar (fun _ => 0))))] H := hP
  have hD : va_D A [(h0, .inr (0, [.null, .null, .null, .int (nI 0)])), (ac, .inl (cyI, 365, .inl (pz_ar (fun _ => 0))))] := hD
  refine va_putF (D := D) (ci := 0) (v := .ref ac) (ty := .array .int) (C := RX0) (T := TX0) (N := 4) hx hb hts hin tyX0 tyX0_ok nmX0 hown hK hP hD hS 0 rfl rfl 0 (by decide) (hts (.fieldLink RX0 9 "RomanCalendar" "characters" "[I") (by decide +kernel)) (fun _ h9 => h9) rfl hin2 rfl (by decide +kernel) rfl rfl (Nat.le_of_ble_eq_true rfl) dX0_init_10 (fun H locs hP hD hS => ?_)
  have hP : va_P D vwCl [(h0, .inr (0, [.ref ac, .null, .null, .int (nI 0)])), (ac, .inl (cyI, 365, .inl (pz_ar (fun _ => 0))))] H := hP
  have hD : va_D A [(h0, .inr (0, [.ref ac, .null, .null, .int (nI 0)])), (ac, .inl (cyI, 365, .inl (pz_ar (fun _ => 0))))] := hD
  refine lv_aload_n hx hb dX0_init_13 rfl (lv_at hl 0 rfl) ?_
  refine lv_bipush (v := nI 60) hx hb dX0_init_14 (by decide) ?_
  refine va_newa (atype := .int) (ty := .int) (N' := 60) (a0 := (60, .inl (pz_ar (fun _ => 0)))) hx hb (hts (.arrayClass .int) (by decide +kernel)) rfl hK hP hD hS hA (fun cA => pz_nar cA) (by decide) (by decide +kernel) (Nat.le_of_ble_eq_true rfl) (Nat.le_of_ble_eq_true rfl) (Nat.le_of_ble_eq_true rfl) dX0_init_16 (fun ay c1 H hK hP hD hS => ?_)
  have hP : va_P D vwCl [(h0, .inr (0, [.ref ac, .null, .null, .int (nI 0)])), (ac, .inl (cyI, 365, .inl (pz_ar (fun _ => 0)))), (ay, .inl (c1, 60, .inl (pz_ar (fun _ => 0))))] H := hP
  have hD : va_D A [(h0, .inr (0, [.ref ac, .null, .null, .int (nI 0)])), (ac, .inl (cyI, 365, .inl (pz_ar (fun _ => 0)))), (ay, .inl (c1, 60, .inl (pz_ar (fun _ => 0))))] := hD
  refine va_putF (D := D) (ci := 0) (v := .ref ay) (ty := .array .int) (C := RX0) (T := TX0) (N := 4) hx hb hts hin tyX0 tyX0_ok nmX0 hown hK hP hD hS 0 rfl rfl 1 (by decide) (hts (.fieldLink RX0 13 "RomanCalendar" "consulYears" "[I") (by decide +kernel)) (fun _ h9 => h9) rfl hin2 rfl (by decide +kernel) rfl rfl (Nat.le_of_ble_eq_true rfl) dX0_init_18 (fun H locs hP hD hS => ?_)
  have hP : va_P D vwCl [(h0, .inr (0, [.ref ac, .ref ay, .null, .int (nI 0)])), (ac, .inl (cyI, 365, .inl (pz_ar (fun _ => 0)))), (ay, .inl (c1, 60, .inl (pz_ar (fun _ => 0))))] H := hP
  have hD : va_D A [(h0, .inr (0, [.ref ac, .ref ay, .null, .int (nI 0)])), (ac, .inl (cyI, 365, .inl (pz_ar (fun _ => 0)))), (ay, .inl (c1, 60, .inl (pz_ar (fun _ => 0))))] := hD
  refine lv_aload_n hx hb dX0_init_21 rfl (lv_at hl 0 rfl) ?_
  refine lv_bipush (v := nI 60) hx hb dX0_init_22 (by decide) ?_
  refine va_newa (atype := .int) (ty := .int) (N' := 60) (a0 := (60, .inl (pz_ar (fun _ => 0)))) hx hb (hts (.arrayClass .int) (by decide +kernel)) rfl hK hP hD hS hA (fun cA => pz_nar cA) (by decide) (by decide +kernel) (Nat.le_of_ble_eq_true rfl) (Nat.le_of_ble_eq_true rfl) (Nat.le_of_ble_eq_true rfl) dX0_init_24 (fun ap c2 H hK hP hD hS => ?_)
  have hP : va_P D vwCl [(h0, .inr (0, [.ref ac, .ref ay, .null, .int (nI 0)])), (ac, .inl (cyI, 365, .inl (pz_ar (fun _ => 0)))), (ay, .inl (c1, 60, .inl (pz_ar (fun _ => 0)))), (ap, .inl (c2, 60, .inl (pz_ar (fun _ => 0))))] H := hP
  have hD : va_D A [(h0, .inr (0, [.ref ac, .ref ay, .null, .int (nI 0)])), (ac, .inl (cyI, 365, .inl (pz_ar (fun _ => 0)))), (ay, .inl (c1, 60, .inl (pz_ar (fun _ => 0)))), (ap, .inl (c2, 60, .inl (pz_ar (fun _ => 0))))] := hD
  refine va_putF (D := D) (ci := 0) (v := .ref ap) (ty := .array .int) (C := RX0) (T := TX0) (N := 4) hx hb hts hin tyX0 tyX0_ok nmX0 hown hK hP hD hS 0 rfl rfl 2 (by decide) (hts (.fieldLink RX0 16 "RomanCalendar" "consulPairs" "[I") (by decide +kernel)) (fun _ h9 => h9) rfl hin2 rfl (by decide +kernel) rfl rfl (Nat.le_of_ble_eq_true rfl) dX0_init_26 (fun H locs hP hD hS => ?_)
  have hP : va_P D vwCl [(h0, .inr (0, [.ref ac, .ref ay, .ref ap, .int (nI 0)])), (ac, .inl (cyI, 365, .inl (pz_ar (fun _ => 0)))), (ay, .inl (c1, 60, .inl (pz_ar (fun _ => 0)))), (ap, .inl (c2, 60, .inl (pz_ar (fun _ => 0))))] H := hP
  have hD : va_D A [(h0, .inr (0, [.ref ac, .ref ay, .ref ap, .int (nI 0)])), (ac, .inl (cyI, 365, .inl (pz_ar (fun _ => 0)))), (ay, .inl (c1, 60, .inl (pz_ar (fun _ => 0)))), (ap, .inl (c2, 60, .inl (pz_ar (fun _ => 0))))] := hD
  have hK : va_K D vwCl [(cyI, .int), (c1, .int), (c2, .int)] s := hK
  have e1 := pz_one hK (i := 0) (j := 1) rfl rfl
  have e2 := pz_one hK (i := 0) (j := 2) rfl rfl
  subst e1
  subst e2
  have hK := hK.sub (tys' := [(cyI, .int)]) [0] rfl
  refine W.widen (k := 3) (n := 485) (Nat.le_of_ble_eq_true rfl) (Nat.le_of_ble_eq_true rfl) ?_
  have hP : va_P D vwCl [(h0, .inr (0, [.ref ac, .ref ay, .ref ap, .int (nI 0)])), (ac, .inl (cyI, 365, .inl (pz_ar (fun _ => 0)))), (ay, .inl (cyI, 60, .inl (pz_ar (fun _ => 0)))), (ap, .inl (cyI, 60, .inl (pz_ar (fun _ => 0))))] H := hP
  have hD : va_D A [(h0, .inr (0, [.ref ac, .ref ay, .ref ap, .int (nI 0)])), (ac, .inl (cyI, 365, .inl (pz_ar (fun _ => 0)))), (ay, .inl (cyI, 60, .inl (pz_ar (fun _ => 0)))), (ap, .inl (cyI, 60, .inl (pz_ar (fun _ => 0))))] := hD
  refine lv_aload_n hx hb dX0_init_29 rfl (lv_at hl 0 rfl) ?_
  refine lv_iconst (v := nI 0) hx hb dX0_init_30 (by decide) ?_
  refine va_put (D := D) (ci := 0) (v := .int (nI 0)) (ty := .int) (C := RX0) (T := TX0) (N := 4) hx hb hts hin tyX0 tyX0_ok nmX0 hown hK hP hD hS 0 rfl rfl 3 (by decide) (hts (.fieldLink RX0 19 "RomanCalendar" "marketRemainder" "I") (by decide +kernel)) (fun _ h9 => h9) rfl (by decide +kernel) rfl rfl (Nat.le_of_ble_eq_true rfl) dX0_init_31 (fun H locs hP hD hS => ?_)
  have hP : va_P D vwCl [(h0, .inr (0, [.ref ac, .ref ay, .ref ap, .int (nI 0)])), (ac, .inl (cyI, 365, .inl (pz_ar (fun _ => 0)))), (ay, .inl (cyI, 60, .inl (pz_ar (fun _ => 0)))), (ap, .inl (cyI, 60, .inl (pz_ar (fun _ => 0))))] H := hP
  have hD : va_D A [(h0, .inr (0, [.ref ac, .ref ay, .ref ap, .int (nI 0)])), (ac, .inl (cyI, 365, .inl (pz_ar (fun _ => 0)))), (ay, .inl (cyI, 60, .inl (pz_ar (fun _ => 0)))), (ap, .inl (cyI, 60, .inl (pz_ar (fun _ => 0))))] := hD
  refine lv_iconst (v := nI 0) hx hb dX0_init_34 (by decide) ?_
  refine lv_istore_n (lv' := [(1, .int (nI 0)), (0, .ref h0)]) hx hb dX0_init_35 rfl hl (by decide) rfl (fun ls hl => ?_)
  have LP36 : ∀ (N : Nat) (k : Nat) (ch : Nat → Nat) (H : Heap) (locs : List Loc) (ls : Array Slot), 365 - k < N → (k ≤ 365) → (∀ j, j < k → ch j = 2) → va_P D vwCl [(h0, .inr (0, [.ref ac, .ref ay, .ref ap, .int (nI 0)])), (ac, .inl (cyI, 365, .inl (pz_ar ch))), (ay, .inl (cyI, 60, .inl (pz_ar (fun _ => 0)))), (ap, .inl (cyI, 60, .inl (pz_ar (fun _ => 0))))] H → va_D A [(h0, .inr (0, [.ref ac, .ref ay, .ref ap, .int (nI 0)])), (ac, .inl (cyI, 365, .inl (pz_ar ch))), (ay, .inl (cyI, 60, .inl (pz_ar (fun _ => 0)))), (ap, .inl (cyI, 60, .inl (pz_ar (fun _ => 0))))] → va_S A s.heap H locs → lv_has ls 2 [(1, .int (nI k)), (0, .ref h0)] → W p l e ({ frames := 3, cells := 3, slots := 485, locals := 65 } : Room) s m ([.ref h0] : List Value).toArray below meth c H locs 3 485 Q (F0 m 36 ls []) := by
    intro N
    induction N with
    | zero => intro k ch H locs ls hN; exact absurd hN (Nat.not_lt_zero _)
    | succ N ih =>
      intro k ch H locs ls hN hi36_0 hi36_1 hP hD hS hl
      have ih36 := ih
      refine lv_iload_n hx hb dX0_init_36 rfl (lv_at hl 0 rfl) ?_
      refine lv_sipush (v := nI 365) hx hb dX0_init_37 (by decide) ?_
      refine pn_icmp_ge (tgt := 56) hx hb (by omega) (by omega) dX0_init_40 (by decide) (fun c_1 => ?_) (fun c_1 => ?_)
      · -- 40 yes
        refine lv_iconst (v := nI 1) hx hb dX0_init_56 (by decide) ?_
        refine lv_istore_n (lv' := [(1, .int (nI 1)), (0, .ref h0)]) hx hb dX0_init_57 rfl hl (by decide) rfl (fun ls hl => ?_)
        have LP58 : ∀ (N : Nat) (k : Nat) (ch : Nat → Nat) (H : Heap) (locs : List Loc) (ls : Array Slot), 13 - k < N → (1 ≤ k) → (k ≤ 13) → (∀ j, j < 365 → ch j = pq_c (k - 1) j) → va_P D vwCl [(h0, .inr (0, [.ref ac, .ref ay, .ref ap, .int (nI 0)])), (ac, .inl (cyI, 365, .inl (pz_ar ch))), (ay, .inl (cyI, 60, .inl (pz_ar (fun _ => 0)))), (ap, .inl (cyI, 60, .inl (pz_ar (fun _ => 0))))] H → va_D A [(h0, .inr (0, [.ref ac, .ref ay, .ref ap, .int (nI 0)])), (ac, .inl (cyI, 365, .inl (pz_ar ch))), (ay, .inl (cyI, 60, .inl (pz_ar (fun _ => 0)))), (ap, .inl (cyI, 60, .inl (pz_ar (fun _ => 0))))] → va_S A s.heap H locs → lv_has ls 2 [(1, .int (nI k)), (0, .ref h0)] → W p l e ({ frames := 3, cells := 3, slots := 485, locals := 65 } : Room) s m ([.ref h0] : List Value).toArray below meth c H locs 3 485 Q (F0 m 58 ls []) := by
          intro N
          induction N with
          | zero => intro k ch H locs ls hN; exact absurd hN (Nat.not_lt_zero _)
          | succ N ih =>
            intro k ch H locs ls hN hi58_0 hi58_1 hi58_2 hP hD hS hl
            have hb0_0 : k ≤ 12 → 1 ≤ pm_an k 0 ∧ pm_an k 0 ≤ 365 := fun h9 => pq_b hi58_0 h9 (by decide)
            have hb1_0 : k ≤ 12 → 1 ≤ pm_an k 1 ∧ pm_an k 1 ≤ 365 := fun h9 => pq_b hi58_0 h9 (by decide)
            have hb2_0 : k ≤ 12 → 1 ≤ pm_an k 2 ∧ pm_an k 2 ≤ 365 := fun h9 => pq_b hi58_0 h9 (by decide)
            have ih58 := ih
            refine lv_iload_n hx hb dX0_init_58 rfl (lv_at hl 0 rfl) ?_
            refine lv_bipush (v := nI 12) hx hb dX0_init_59 (by decide) ?_
            refine pn_icmp_gt (tgt := 100) hx hb (by omega) (by omega) dX0_init_61 (by decide) (fun c_2 => ?_) (fun c_2 => ?_)
            · -- 61 yes
              exact hQ _ _ _ _ ((ac, ay, ap, cyI), ch) dX0_init_100 (by (have h9 : k = 13 := by omega); subst h9; exact hi58_2) hP hK hD hS
            · -- 61 no
              refine lv_aload_n hx hb dX0_init_64 rfl (lv_at hl 1 rfl) ?_
              refine lv_iload_n hx hb dX0_init_65 rfl (lv_at hl 0 rfl) ?_
              refine lv_iconst (v := nI 0) hx hb dX0_init_66 (by decide) ?_
              refine pz_SR (rest := [.ref h0]) ⟨hx, hb, hml, hown, hts⟩ (k_X0_placeOfAnchor l D [(cyI, .int)] k 0 (by omega) (by omega) (by omega)) (va_cwS 2 hts gX0_init_X0_placeOfAnchor rfl rfl rfl (by decide +kernel) ⟨Nat.le_of_ble_eq_true rfl, Nat.le_of_ble_eq_true rfl⟩) hK hP (hD.weaken (fun _ _ _ _ => trivial)) hS hA [] rfl rfl rfl rfl hl.1 rfl (lv_room (Nat.le_of_ble_eq_true rfl)) dX0_init_67 ⟨Nat.le_of_ble_eq_true rfl, Nat.le_of_ble_eq_true rfl⟩ (fun r H locs hr hP hS => ?_)
              obtain rfl : r = (nI (pm_an k 0)) := hr
              have hf_4 := pm_an_b k 0 (by omega)
              have hf_5 := pm_cb_b k (by omega)
              refine lv_iconst (v := nI 0) hx hb dX0_init_70 (by decide) ?_
              refine pz_VV (rest := []) (wr := []) ⟨hx, hb, hml, hown, hts⟩ (k_X0_writeCharacter l D h0 ac ay ap cyI ([]) 0 ch (fun _ => 0) (fun _ => 0) (pm_an k 0) 0 (by omega) (by omega)) (cwV 2 hts gX0_init_X0_writeCharacter rfl rfl rfl (by decide +kernel) ⟨Nat.le_of_ble_eq_true rfl, Nat.le_of_ble_eq_true rfl⟩) hK hP hD hS hA [0, 1, 2, 3] [] rfl rfl rfl rfl rfl (by decide) 0 0 rfl rfl rfl hl.1 rfl (lv_room (Nat.le_of_ble_eq_true rfl)) dX0_init_71 ⟨Nat.le_of_ble_eq_true rfl, Nat.le_of_ble_eq_true rfl⟩ (fun u H locs hr hP hD hS => ?_)
              have hP : va_P D vwCl [(h0, .inr (0, [.ref ac, .ref ay, .ref ap, .int (nI 0)])), (ac, .inl (cyI, 365, .inl (pz_ar (pz_u ch ((pm_an k 0) - 1) 0)))), (ay, .inl (cyI, 60, .inl (pz_ar (fun _ => 0)))), (ap, .inl (cyI, 60, .inl (pz_ar (fun _ => 0))))] H := hP
              have hD : va_D A [(h0, .inr (0, [.ref ac, .ref ay, .ref ap, .int (nI 0)])), (ac, .inl (cyI, 365, .inl (pz_ar (pz_u ch ((pm_an k 0) - 1) 0)))), (ay, .inl (cyI, 60, .inl (pz_ar (fun _ => 0)))), (ap, .inl (cyI, 60, .inl (pz_ar (fun _ => 0))))] := hD
              have hr_6 := hr
              refine lv_aload_n hx hb dX0_init_74 rfl (lv_at hl 1 rfl) ?_
              refine lv_iload_n hx hb dX0_init_75 rfl (lv_at hl 0 rfl) ?_
              refine lv_iconst (v := nI 1) hx hb dX0_init_76 (by decide) ?_
              refine pz_SR (rest := [.ref h0]) ⟨hx, hb, hml, hown, hts⟩ (k_X0_placeOfAnchor l D [(cyI, .int)] k 1 (by omega) (by omega) (by omega)) (va_cwS 2 hts gX0_init_X0_placeOfAnchor rfl rfl rfl (by decide +kernel) ⟨Nat.le_of_ble_eq_true rfl, Nat.le_of_ble_eq_true rfl⟩) hK hP (hD.weaken (fun _ _ _ _ => trivial)) hS hA [] rfl rfl rfl rfl hl.1 rfl (lv_room (Nat.le_of_ble_eq_true rfl)) dX0_init_77 ⟨Nat.le_of_ble_eq_true rfl, Nat.le_of_ble_eq_true rfl⟩ (fun r H locs hr hP hS => ?_)
              obtain rfl : r = (nI (pm_an k 1)) := hr
              have hf_8 := pm_an_b k 1 (by omega)
              have hf_9 := pm_cb_b k (by omega)
              refine lv_iconst (v := nI 0) hx hb dX0_init_80 (by decide) ?_
              refine pz_VV (rest := []) (wr := []) ⟨hx, hb, hml, hown, hts⟩ (k_X0_writeCharacter l D h0 ac ay ap cyI ([]) 0 (pz_u ch ((pm_an k 0) - 1) 0) (fun _ => 0) (fun _ => 0) (pm_an k 1) 0 (by omega) (by omega)) (cwV 2 hts gX0_init_X0_writeCharacter rfl rfl rfl (by decide +kernel) ⟨Nat.le_of_ble_eq_true rfl, Nat.le_of_ble_eq_true rfl⟩) hK hP hD hS hA [0, 1, 2, 3] [] rfl rfl rfl rfl rfl (by decide) 0 0 rfl rfl rfl hl.1 rfl (lv_room (Nat.le_of_ble_eq_true rfl)) dX0_init_81 ⟨Nat.le_of_ble_eq_true rfl, Nat.le_of_ble_eq_true rfl⟩ (fun u H locs hr hP hD hS => ?_)
              have hP : va_P D vwCl [(h0, .inr (0, [.ref ac, .ref ay, .ref ap, .int (nI 0)])), (ac, .inl (cyI, 365, .inl (pz_ar (pz_u (pz_u ch ((pm_an k 0) - 1) 0) ((pm_an k 1) - 1) 0)))), (ay, .inl (cyI, 60, .inl (pz_ar (fun _ => 0)))), (ap, .inl (cyI, 60, .inl (pz_ar (fun _ => 0))))] H := hP
              have hD : va_D A [(h0, .inr (0, [.ref ac, .ref ay, .ref ap, .int (nI 0)])), (ac, .inl (cyI, 365, .inl (pz_ar (pz_u (pz_u ch ((pm_an k 0) - 1) 0) ((pm_an k 1) - 1) 0)))), (ay, .inl (cyI, 60, .inl (pz_ar (fun _ => 0)))), (ap, .inl (cyI, 60, .inl (pz_ar (fun _ => 0))))] := hD
              have hr_10 := hr
              refine lv_aload_n hx hb dX0_init_84 rfl (lv_at hl 1 rfl) ?_
              refine lv_iload_n hx hb dX0_init_85 rfl (lv_at hl 0 rfl) ?_
              refine lv_iconst (v := nI 2) hx hb dX0_init_86 (by decide) ?_
              refine pz_SR (rest := [.ref h0]) ⟨hx, hb, hml, hown, hts⟩ (k_X0_placeOfAnchor l D [(cyI, .int)] k 2 (by omega) (by omega) (by omega)) (va_cwS 2 hts gX0_init_X0_placeOfAnchor rfl rfl rfl (by decide +kernel) ⟨Nat.le_of_ble_eq_true rfl, Nat.le_of_ble_eq_true rfl⟩) hK hP (hD.weaken (fun _ _ _ _ => trivial)) hS hA [] rfl rfl rfl rfl hl.1 rfl (lv_room (Nat.le_of_ble_eq_true rfl)) dX0_init_87 ⟨Nat.le_of_ble_eq_true rfl, Nat.le_of_ble_eq_true rfl⟩ (fun r H locs hr hP hS => ?_)
              obtain rfl : r = (nI (pm_an k 2)) := hr
              have hf_12 := pm_an_b k 2 (by omega)
              have hf_13 := pm_cb_b k (by omega)
              refine lv_iconst (v := nI 0) hx hb dX0_init_90 (by decide) ?_
              refine pz_VV (rest := []) (wr := []) ⟨hx, hb, hml, hown, hts⟩ (k_X0_writeCharacter l D h0 ac ay ap cyI ([]) 0 (pz_u (pz_u ch ((pm_an k 0) - 1) 0) ((pm_an k 1) - 1) 0) (fun _ => 0) (fun _ => 0) (pm_an k 2) 0 (by omega) (by omega)) (cwV 2 hts gX0_init_X0_writeCharacter rfl rfl rfl (by decide +kernel) ⟨Nat.le_of_ble_eq_true rfl, Nat.le_of_ble_eq_true rfl⟩) hK hP hD hS hA [0, 1, 2, 3] [] rfl rfl rfl rfl rfl (by decide) 0 0 rfl rfl rfl hl.1 rfl (lv_room (Nat.le_of_ble_eq_true rfl)) dX0_init_91 ⟨Nat.le_of_ble_eq_true rfl, Nat.le_of_ble_eq_true rfl⟩ (fun u H locs hr hP hD hS => ?_)
              have hP : va_P D vwCl [(h0, .inr (0, [.ref ac, .ref ay, .ref ap, .int (nI 0)])), (ac, .inl (cyI, 365, .inl (pz_ar (pz_u (pz_u (pz_u ch ((pm_an k 0) - 1) 0) ((pm_an k 1) - 1) 0) ((pm_an k 2) - 1) 0)))), (ay, .inl (cyI, 60, .inl (pz_ar (fun _ => 0)))), (ap, .inl (cyI, 60, .inl (pz_ar (fun _ => 0))))] H := hP
              have hD : va_D A [(h0, .inr (0, [.ref ac, .ref ay, .ref ap, .int (nI 0)])), (ac, .inl (cyI, 365, .inl (pz_ar (pz_u (pz_u (pz_u ch ((pm_an k 0) - 1) 0) ((pm_an k 1) - 1) 0) ((pm_an k 2) - 1) 0)))), (ay, .inl (cyI, 60, .inl (pz_ar (fun _ => 0)))), (ap, .inl (cyI, 60, .inl (pz_ar (fun _ => 0))))] := hD
              have hr_14 := hr
              refine lv_iinc (v := (nI (k + 1))) (lv' := [(1, .int (nI (k + 1))), (0, .ref h0)]) hx hb dX0_init_94 hl (k := 0) rfl (by exact nI_add _ 1) (by decide) rfl (fun ls hl => ?_)
              refine lv_goto (tgt := 58) hx hb dX0_init_97 (by decide) ?_
              exact ih58 (k + 1) (pz_u (pz_u (pz_u ch ((pm_an k 0) - 1) 0) ((pm_an k 1) - 1) 0) ((pm_an k 2) - 1) 0) _ _ _ (by omega) (by omega) (by omega) (by first | exact pq_s hi58_0 (by omega) hi58_2 | exact fun j h1 => (hi36_1 j (by omega)).trans rfl) hP hD hS (lv_sub hl [0, 1] rfl)
        exact LP58 _ 1 ch _ _ _ (Nat.lt_succ_self _) (by omega) (by omega) (by first | exact pq_s hi58_0 (by omega) hi58_2 | exact fun j h1 => (hi36_1 j (by omega)).trans rfl) hP hD hS (lv_sub hl [0, 1] rfl)
      · -- 40 no
        refine lv_aload_n hx hb dX0_init_43 rfl (lv_at hl 1 rfl) ?_
        refine va_get (D := D) (ci := 0) (v := .ref ac) (C := RX0) (T := TX0) (N := 4) hx hb hts hin hown hK hP 0 rfl rfl 0 (by decide) (hts (.fieldLink RX0 9 "RomanCalendar" "characters" "[I") (by decide +kernel)) (fun _ h9 => h9) rfl dX0_init_44 ?_
        refine lv_iload_n hx hb dX0_init_47 rfl (lv_at hl 0 rfl) ?_
        refine lv_iconst (v := nI 2) hx hb dX0_init_48 (by decide) ?_
        refine pn_iast hx hb hK hP hD hS 1 0 rfl rfl (by omega) (by decide) dX0_init_49 (fun H locs hP hD hS => ?_)
        have hP : va_P D vwCl [(h0, .inr (0, [.ref ac, .ref ay, .ref ap, .int (nI 0)])), (ac, .inl (cyI, 365, .inl (pz_ar (pz_u ch k 2)))), (ay, .inl (cyI, 60, .inl (pz_ar (fun _ => 0)))), (ap, .inl (cyI, 60, .inl (pz_ar (fun _ => 0))))] H := hP
        have hD : va_D A [(h0, .inr (0, [.ref ac, .ref ay, .ref ap, .int (nI 0)])), (ac, .inl (cyI, 365, .inl (pz_ar (pz_u ch k 2)))), (ay, .inl (cyI, 60, .inl (pz_ar (fun _ => 0)))), (ap, .inl (cyI, 60, .inl (pz_ar (fun _ => 0))))] := hD
        refine lv_iinc (v := (nI (k + 1))) (lv' := [(1, .int (nI (k + 1))), (0, .ref h0)]) hx hb dX0_init_50 hl (k := 0) rfl (by exact nI_add _ 1) (by decide) rfl (fun ls hl => ?_)
        refine lv_goto (tgt := 36) hx hb dX0_init_53 (by decide) ?_
        exact ih36 (k + 1) (pz_u ch k 2) _ _ _ (by omega) (by omega) (by first | (intro j h1; exfalso; omega) | (intro j h1; unfold pz_u; split; rfl; exact hi36_1 j (by omega))) hP hD hS (lv_sub hl [0, 1] rfl)
  exact LP36 _ 0 (fun _ => 0) _ _ _ (Nat.lt_succ_self _) (by omega) (by first | (intro j h1; exfalso; omega) | (intro j h1; unfold pz_u; split; rfl; exact hi36_1 j (by omega))) hP hD hS (lv_sub hl [0, 1] rfl)
set_option maxHeartbeats 4000000 in
set_option maxRecDepth 100000 in
theorem k_X1_init (l : Launch) (D : va_G) (h1 : Nat) : pz_N l yX1_init wsX1_init ({ frames := 3, cells := 3, slots := 6368, locals := 63 } : Room) D [.ref h1] [(h1, .inr (1, [.int (nI 0), .int (nI 0), .int (nI 0), .int (nI 0), .int (nI 0), .null, .null, .null, .int (nI 0)]))] (S := (Nat × Nat × Nat × ClassId) × (Nat → Nat) × Int32 × Int32 × Int32) (fun u => (∀ j, 1 ≤ j → j < 366 → u.2.1 j = pq_r j) ∧ u.2.1 0 = 0) (fun u => [(h1, .inr (1, [.int (nI 0), .int u.2.2.1, .int u.2.2.2.1, .int u.2.2.2.2, .int (nI 0), .ref u.1.1, .ref u.1.2.1, .ref u.1.2.2.1, .int (nI 0)])), (u.1.1, .inl (u.1.2.2.2, 366, .inl (pz_ar u.2.1))), (u.1.2.1, .inl (u.1.2.2.2, 3001, .inl (pz_ar (fun _ => 0)))), (u.1.2.2.1, .inl (u.1.2.2.2, 3001, .inl (pz_ar (fun _ => 0))))]) (fun u => [(u.1.2.2.2, .int)]) 3 6368 := by
  refine pz_N_of (cc := cX1_init) (maxL := 3) (own := RX1) (by decide) rfl rfl rfl (Nat.le_of_ble_eq_true rfl) ?_
  intro p e s m below meth c A ls Q hx hb hml hown hts hin2 hK hP hD hS hA hl hQ
  have hl : lv_has ls 3 [(0, .ref h1)] := hl
  have hin : ∀ w ∈ u_ws RX1 TX1 9, w ∈ wsX1_init := by decide +kernel
  refine lv_aload_n hx hb dX1_init_0 rfl (lv_at hl 0 rfl) ?_
  refine W.objInit hx hb hown (hts (.methodLink RX1 1 objectInit) (by decide +kernel)) (hts (.instanceMethod objectInit) (by decide +kernel)) (hts _ (List.mem_cons_of_mem _ (List.mem_append_left _ (List.mem_append_left _ (List.mem_of_getElem? (i := 2) rfl))))) rfl (by rw [hml]; exact hl.1) rfl dX1_init_1 (Nat.le_of_ble_eq_true rfl) (Nat.le_of_ble_eq_true rfl) ?_
  refine W.eq (g2 := F0 m 4 ls []) rfl ?_
  refine lv_aload_n hx hb dX1_init_4 rfl (lv_at hl 0 rfl) ?_
  refine lv_sipush (v := nI 366) hx hb dX1_init_5 (by decide) ?_
  refine va_newa (atype := .int) (ty := .int) (N' := 366) (a0 := (366, .inl (pz_ar (fun _ => 0)))) hx hb (hts (.arrayClass .int) (by decide +kernel)) rfl hK hP hD hS hA (fun cA => pz_nar cA) (by decide) (by decide +kernel) (Nat.le_of_ble_eq_true rfl) (Nat.le_of_ble_eq_true rfl) (Nat.le_of_ble_eq_true rfl) dX1_init_8 (fun bc cyI H hK hP hD hS => ?_)
  have hP : va_P D vwCl [(h1, .inr (1, [.int (nI 0), .int (nI 0), .int (nI 0), .int (nI 0), .int (nI 0), .null, .null, .null, .int (nI 0)])), (bc, .inl (cyI, 366, .inl (pz_ar (fun _ => 0))))] H := hP
  have hD : va_D A [(h1, .inr (1, [.int (nI 0), .int (nI 0), .int (nI 0), .int (nI 0), .int (nI 0), .null, .null, .null, .int (nI 0)])), (bc, .inl (cyI, 366, .inl (pz_ar (fun _ => 0))))] := hD
  refine va_putF (D := D) (ci := 1) (v := .ref bc) (ty := .array .int) (C := RX1) (T := TX1) (N := 9) hx hb hts hin tyX1 tyX1_ok nmX1 hown hK hP hD hS 0 rfl rfl 5 (by decide) (hts (.fieldLink RX1 7 "RomanCalendarModel" "character" "[I") (by decide +kernel)) (fun _ h9 => h9) rfl hin2 rfl (by decide +kernel) rfl rfl (Nat.le_of_ble_eq_true rfl) dX1_init_10 (fun H locs hP hD hS => ?_)
  have hP : va_P D vwCl [(h1, .inr (1, [.int (nI 0), .int (nI 0), .int (nI 0), .int (nI 0), .int (nI 0), .ref bc, .null, .null, .int (nI 0)])), (bc, .inl (cyI, 366, .inl (pz_ar (fun _ => 0))))] H := hP
  have hD : va_D A [(h1, .inr (1, [.int (nI 0), .int (nI 0), .int (nI 0), .int (nI 0), .int (nI 0), .ref bc, .null, .null, .int (nI 0)])), (bc, .inl (cyI, 366, .inl (pz_ar (fun _ => 0))))] := hD
  refine lv_aload_n hx hb dX1_init_13 rfl (lv_at hl 0 rfl) ?_
  refine lv_sipush (v := nI 3001) hx hb dX1_init_14 (by decide) ?_
  refine va_newa (atype := .int) (ty := .int) (N' := 3001) (a0 := (3001, .inl (pz_ar (fun _ => 0)))) hx hb (hts (.arrayClass .int) (by decide +kernel)) rfl hK hP hD hS hA (fun cA => pz_nar cA) (by decide) (by decide +kernel) (Nat.le_of_ble_eq_true rfl) (Nat.le_of_ble_eq_true rfl) (Nat.le_of_ble_eq_true rfl) dX1_init_17 (fun bf c1 H hK hP hD hS => ?_)
  have hP : va_P D vwCl [(h1, .inr (1, [.int (nI 0), .int (nI 0), .int (nI 0), .int (nI 0), .int (nI 0), .ref bc, .null, .null, .int (nI 0)])), (bc, .inl (cyI, 366, .inl (pz_ar (fun _ => 0)))), (bf, .inl (c1, 3001, .inl (pz_ar (fun _ => 0))))] H := hP
  have hD : va_D A [(h1, .inr (1, [.int (nI 0), .int (nI 0), .int (nI 0), .int (nI 0), .int (nI 0), .ref bc, .null, .null, .int (nI 0)])), (bc, .inl (cyI, 366, .inl (pz_ar (fun _ => 0)))), (bf, .inl (c1, 3001, .inl (pz_ar (fun _ => 0))))] := hD
  refine va_putF (D := D) (ci := 1) (v := .ref bf) (ty := .array .int) (C := RX1) (T := TX1) (N := 9) hx hb hts hin tyX1 tyX1_ok nmX1 hown hK hP hD hS 0 rfl rfl 6 (by decide) (hts (.fieldLink RX1 13 "RomanCalendarModel" "first" "[I") (by decide +kernel)) (fun _ h9 => h9) rfl hin2 rfl (by decide +kernel) rfl rfl (Nat.le_of_ble_eq_true rfl) dX1_init_19 (fun H locs hP hD hS => ?_)
  have hP : va_P D vwCl [(h1, .inr (1, [.int (nI 0), .int (nI 0), .int (nI 0), .int (nI 0), .int (nI 0), .ref bc, .ref bf, .null, .int (nI 0)])), (bc, .inl (cyI, 366, .inl (pz_ar (fun _ => 0)))), (bf, .inl (c1, 3001, .inl (pz_ar (fun _ => 0))))] H := hP
  have hD : va_D A [(h1, .inr (1, [.int (nI 0), .int (nI 0), .int (nI 0), .int (nI 0), .int (nI 0), .ref bc, .ref bf, .null, .int (nI 0)])), (bc, .inl (cyI, 366, .inl (pz_ar (fun _ => 0)))), (bf, .inl (c1, 3001, .inl (pz_ar (fun _ => 0))))] := hD
  refine lv_aload_n hx hb dX1_init_22 rfl (lv_at hl 0 rfl) ?_
  refine lv_sipush (v := nI 3001) hx hb dX1_init_23 (by decide) ?_
  refine va_newa (atype := .int) (ty := .int) (N' := 3001) (a0 := (3001, .inl (pz_ar (fun _ => 0)))) hx hb (hts (.arrayClass .int) (by decide +kernel)) rfl hK hP hD hS hA (fun cA => pz_nar cA) (by decide) (by decide +kernel) (Nat.le_of_ble_eq_true rfl) (Nat.le_of_ble_eq_true rfl) (Nat.le_of_ble_eq_true rfl) dX1_init_26 (fun bg c2 H hK hP hD hS => ?_)
  have hP : va_P D vwCl [(h1, .inr (1, [.int (nI 0), .int (nI 0), .int (nI 0), .int (nI 0), .int (nI 0), .ref bc, .ref bf, .null, .int (nI 0)])), (bc, .inl (cyI, 366, .inl (pz_ar (fun _ => 0)))), (bf, .inl (c1, 3001, .inl (pz_ar (fun _ => 0)))), (bg, .inl (c2, 3001, .inl (pz_ar (fun _ => 0))))] H := hP
  have hD : va_D A [(h1, .inr (1, [.int (nI 0), .int (nI 0), .int (nI 0), .int (nI 0), .int (nI 0), .ref bc, .ref bf, .null, .int (nI 0)])), (bc, .inl (cyI, 366, .inl (pz_ar (fun _ => 0)))), (bf, .inl (c1, 3001, .inl (pz_ar (fun _ => 0)))), (bg, .inl (c2, 3001, .inl (pz_ar (fun _ => 0))))] := hD
  refine va_putF (D := D) (ci := 1) (v := .ref bg) (ty := .array .int) (C := RX1) (T := TX1) (N := 9) hx hb hts hin tyX1 tyX1_ok nmX1 hown hK hP hD hS 0 rfl rfl 7 (by decide) (hts (.fieldLink RX1 16 "RomanCalendarModel" "second" "[I") (by decide +kernel)) (fun _ h9 => h9) rfl hin2 rfl (by decide +kernel) rfl rfl (Nat.le_of_ble_eq_true rfl) dX1_init_28 (fun H locs hP hD hS => ?_)
  have hP : va_P D vwCl [(h1, .inr (1, [.int (nI 0), .int (nI 0), .int (nI 0), .int (nI 0), .int (nI 0), .ref bc, .ref bf, .ref bg, .int (nI 0)])), (bc, .inl (cyI, 366, .inl (pz_ar (fun _ => 0)))), (bf, .inl (c1, 3001, .inl (pz_ar (fun _ => 0)))), (bg, .inl (c2, 3001, .inl (pz_ar (fun _ => 0))))] H := hP
  have hD : va_D A [(h1, .inr (1, [.int (nI 0), .int (nI 0), .int (nI 0), .int (nI 0), .int (nI 0), .ref bc, .ref bf, .ref bg, .int (nI 0)])), (bc, .inl (cyI, 366, .inl (pz_ar (fun _ => 0)))), (bf, .inl (c1, 3001, .inl (pz_ar (fun _ => 0)))), (bg, .inl (c2, 3001, .inl (pz_ar (fun _ => 0))))] := hD
  have hK : va_K D vwCl [(cyI, .int), (c1, .int), (c2, .int)] s := hK
  have e1 := pz_one hK (i := 0) (j := 1) rfl rfl
  have e2 := pz_one hK (i := 0) (j := 2) rfl rfl
  subst e1
  subst e2
  have hK := hK.sub (tys' := [(cyI, .int)]) [0] rfl
  refine W.widen (k := 3) (n := 6368) (Nat.le_of_ble_eq_true rfl) (Nat.le_of_ble_eq_true rfl) ?_
  have hP : va_P D vwCl [(h1, .inr (1, [.int (nI 0), .int (nI 0), .int (nI 0), .int (nI 0), .int (nI 0), .ref bc, .ref bf, .ref bg, .int (nI 0)])), (bc, .inl (cyI, 366, .inl (pz_ar (fun _ => 0)))), (bf, .inl (cyI, 3001, .inl (pz_ar (fun _ => 0)))), (bg, .inl (cyI, 3001, .inl (pz_ar (fun _ => 0))))] H := hP
  have hD : va_D A [(h1, .inr (1, [.int (nI 0), .int (nI 0), .int (nI 0), .int (nI 0), .int (nI 0), .ref bc, .ref bf, .ref bg, .int (nI 0)])), (bc, .inl (cyI, 366, .inl (pz_ar (fun _ => 0)))), (bf, .inl (cyI, 3001, .inl (pz_ar (fun _ => 0)))), (bg, .inl (cyI, 3001, .inl (pz_ar (fun _ => 0))))] := hD
  refine lv_iconst (v := nI 1) hx hb dX1_init_31 (by decide) ?_
  refine lv_istore_n (lv' := [(1, .int (nI 1)), (0, .ref h1)]) hx hb dX1_init_32 rfl hl (by decide) rfl (fun ls hl => ?_)
  have LP33 : ∀ (N : Nat) (k : Nat) (rc : Nat → Nat) (y2 : Int32) (m2 : Int32) (d2 : Int32) (H : Heap) (locs : List Loc) (ls : Array Slot), 366 - k < N → (1 ≤ k) → (k ≤ 366) → (∀ j, 1 ≤ j → j < k → rc j = pq_r j) → (rc 0 = 0) → va_P D vwCl [(h1, .inr (1, [.int (nI 0), .int y2, .int m2, .int d2, .int (nI 0), .ref bc, .ref bf, .ref bg, .int (nI 0)])), (bc, .inl (cyI, 366, .inl (pz_ar rc))), (bf, .inl (cyI, 3001, .inl (pz_ar (fun _ => 0)))), (bg, .inl (cyI, 3001, .inl (pz_ar (fun _ => 0))))] H → va_D A [(h1, .inr (1, [.int (nI 0), .int y2, .int m2, .int d2, .int (nI 0), .ref bc, .ref bf, .ref bg, .int (nI 0)])), (bc, .inl (cyI, 366, .inl (pz_ar rc))), (bf, .inl (cyI, 3001, .inl (pz_ar (fun _ => 0)))), (bg, .inl (cyI, 3001, .inl (pz_ar (fun _ => 0))))] → va_S A s.heap H locs → lv_has ls 3 [(1, .int (nI k)), (0, .ref h1)] → W p l e ({ frames := 3, cells := 3, slots := 6368, locals := 63 } : Room) s m ([.ref h1] : List Value).toArray below meth c H locs 3 6368 Q (F0 m 33 ls []) := by
    intro N
    induction N with
    | zero => intro k rc y2 m2 d2 H locs ls hN; exact absurd hN (Nat.not_lt_zero _)
    | succ N ih =>
      intro k rc y2 m2 d2 H locs ls hN hi33_0 hi33_1 hi33_2 hi33_3 hP hD hS hl
      have hm_0 := pm_mo_b (k - 1)
      have hn_0 := pm_nn_b (pm_mo (k - 1))
      have hd_0 := pm_da_b (k - 1)
      have hl_0 := pm_ln_b (pm_yr (k - 1)) (pm_mo (k - 1))
      have ih33 := ih
      refine lv_iload_n hx hb dX1_init_33 rfl (lv_at hl 0 rfl) ?_
      refine lv_sipush (v := nI 365) hx hb dX1_init_34 (by decide) ?_
      refine pn_icmp_gt (tgt := 110) hx hb (by omega) (by omega) dX1_init_37 (by decide) (fun c_1 => ?_) (fun c_1 => ?_)
      · -- 37 yes
        exact hQ _ _ _ _ ((bc, bf, bg, cyI), rc, y2, m2, d2) dX1_init_110 (by (have h9 : k = 366 := by omega); subst h9; exact ⟨hi33_2, hi33_3⟩) hP hK hD hS
      · -- 37 no
        refine lv_aload_n hx hb dX1_init_40 rfl (lv_at hl 1 rfl) ?_
        refine lv_iload_n hx hb dX1_init_41 rfl (lv_at hl 0 rfl) ?_
        refine lv_iconst (v := nI 1) hx hb dX1_init_42 (by decide) ?_
        refine pn_isub hx hb (by omega) dX1_init_43 ?_
        refine pz_VV (rest := []) (wr := []) ⟨hx, hb, hml, hown, hts⟩ (k_X1_splits l D h1 bc bf bg cyI ([]) (nI 0) y2 m2 d2 0 0 rc (fun _ => 0) (fun _ => 0) (k - 1) (by omega)) (cwV 1 hts gX1_init_X1_splits rfl rfl rfl (by decide +kernel) ⟨Nat.le_of_ble_eq_true rfl, Nat.le_of_ble_eq_true rfl⟩) hK hP hD hS hA [0, 1, 2, 3] [] rfl rfl rfl rfl rfl (by decide) 0 1 rfl rfl rfl hl.1 rfl (lv_room (Nat.le_of_ble_eq_true rfl)) dX1_init_44 ⟨Nat.le_of_ble_eq_true rfl, Nat.le_of_ble_eq_true rfl⟩ (fun u H locs hr hP hD hS => ?_)
        have hP : va_P D vwCl [(h1, .inr (1, [.int (nI 0), .int (nI (pm_yr (k - 1))), .int (nI (pm_mo (k - 1))), .int (nI (pm_da (k - 1))), .int (nI 0), .ref bc, .ref bf, .ref bg, .int (nI 0)])), (bc, .inl (cyI, 366, .inl (pz_ar rc))), (bf, .inl (cyI, 3001, .inl (pz_ar (fun _ => 0)))), (bg, .inl (cyI, 3001, .inl (pz_ar (fun _ => 0))))] H := hP
        have hD : va_D A [(h1, .inr (1, [.int (nI 0), .int (nI (pm_yr (k - 1))), .int (nI (pm_mo (k - 1))), .int (nI (pm_da (k - 1))), .int (nI 0), .ref bc, .ref bf, .ref bg, .int (nI 0)])), (bc, .inl (cyI, 366, .inl (pz_ar rc))), (bf, .inl (cyI, 3001, .inl (pz_ar (fun _ => 0)))), (bg, .inl (cyI, 3001, .inl (pz_ar (fun _ => 0))))] := hD
        have hr_2 := hr
        refine lv_aload_n hx hb dX1_init_47 rfl (lv_at hl 1 rfl) ?_
        refine va_get (D := D) (ci := 1) (v := .int (nI (pm_da (k - 1)))) (C := RX1) (T := TX1) (N := 9) hx hb hts hin hown hK hP 0 rfl rfl 3 (by decide) (hts (.fieldLink RX1 23 "RomanCalendarModel" "day" "I") (by decide +kernel)) (fun _ h9 => h9) rfl dX1_init_48 ?_
        refine lv_iconst (v := nI 1) hx hb dX1_init_51 (by decide) ?_
        refine pn_icmp_eq (tgt := 83) hx hb (by omega) (by omega) dX1_init_52 (by decide) (fun c_3 => ?_) (fun c_3 => ?_)
        · -- 52 yes
          refine lv_iconst (v := nI 1) hx hb dX1_init_83 (by decide) ?_
          refine lv_goto (tgt := 88) hx hb dX1_init_84 (by decide) ?_
          refine lv_istore_n (lv' := [(2, .int (nI 1)), (1, .int (nI k)), (0, .ref h1)]) hx hb dX1_init_88 rfl hl (by decide) rfl (fun ls hl => ?_)
          refine lv_aload_n hx hb dX1_init_89 rfl (lv_at hl 2 rfl) ?_
          refine va_get (D := D) (ci := 1) (v := .ref bc) (C := RX1) (T := TX1) (N := 9) hx hb hts hin hown hK hP 0 rfl rfl 5 (by decide) (hts (.fieldLink RX1 7 "RomanCalendarModel" "character" "[I") (by decide +kernel)) (fun _ h9 => h9) rfl dX1_init_90 ?_
          refine lv_iload_n hx hb dX1_init_93 rfl (lv_at hl 1 rfl) ?_
          refine lv_iload_n hx hb dX1_init_94 rfl (lv_at hl 0 rfl) ?_
          refine pn_if_eq (tgt := 102) hx hb (by omega) dX1_init_95 (by decide) (fun c_4 => absurd c_4 (by decide)) (fun _ => ?_)
          refine lv_iconst (v := nI 0) hx hb dX1_init_98 (by decide) ?_
          refine lv_goto (tgt := 103) hx hb dX1_init_99 (by decide) ?_
          refine pn_iast hx hb hK hP hD hS 1 0 rfl rfl (by omega) (by decide) dX1_init_103 (fun H locs hP hD hS => ?_)
          have hP : va_P D vwCl [(h1, .inr (1, [.int (nI 0), .int (nI (pm_yr (k - 1))), .int (nI (pm_mo (k - 1))), .int (nI (pm_da (k - 1))), .int (nI 0), .ref bc, .ref bf, .ref bg, .int (nI 0)])), (bc, .inl (cyI, 366, .inl (pz_ar (pz_u rc k 0)))), (bf, .inl (cyI, 3001, .inl (pz_ar (fun _ => 0)))), (bg, .inl (cyI, 3001, .inl (pz_ar (fun _ => 0))))] H := hP
          have hD : va_D A [(h1, .inr (1, [.int (nI 0), .int (nI (pm_yr (k - 1))), .int (nI (pm_mo (k - 1))), .int (nI (pm_da (k - 1))), .int (nI 0), .ref bc, .ref bf, .ref bg, .int (nI 0)])), (bc, .inl (cyI, 366, .inl (pz_ar (pz_u rc k 0)))), (bf, .inl (cyI, 3001, .inl (pz_ar (fun _ => 0)))), (bg, .inl (cyI, 3001, .inl (pz_ar (fun _ => 0))))] := hD
          refine lv_iinc (v := (nI (k + 1))) (lv' := [(1, .int (nI (k + 1))), (2, .int (nI 1)), (0, .ref h1)]) hx hb dX1_init_104 hl (k := 1) rfl (by exact nI_add _ 1) (by decide) rfl (fun ls hl => ?_)
          refine lv_goto (tgt := 33) hx hb dX1_init_107 (by decide) ?_
          exact ih33 (k + 1) (pz_u rc k 0) (nI (pm_yr (k - 1))) (nI (pm_mo (k - 1))) (nI (pm_da (k - 1))) _ _ _ (by omega) (by omega) (by omega) (by first | (intro j h1 h2; exfalso; omega) | (intro j h1 h2; unfold pz_u; split; (rename_i h5; subst h5; unfold pq_r; split <;> first | rfl | omega); exact hi33_2 j h1 (by omega))) (by first | rfl | (rw [pz_u_ne (by omega)]; exact hi33_3)) hP hD hS (lv_sub hl [0, 2] rfl)
        · -- 52 no
          refine lv_aload_n hx hb dX1_init_55 rfl (lv_at hl 1 rfl) ?_
          refine va_get (D := D) (ci := 1) (v := .int (nI (pm_da (k - 1)))) (C := RX1) (T := TX1) (N := 9) hx hb hts hin hown hK hP 0 rfl rfl 3 (by decide) (hts (.fieldLink RX1 23 "RomanCalendarModel" "day" "I") (by decide +kernel)) (fun _ h9 => h9) rfl dX1_init_56 ?_
          refine lv_aload_n hx hb dX1_init_59 rfl (lv_at hl 1 rfl) ?_
          refine va_get (D := D) (ci := 1) (v := .int (nI (pm_mo (k - 1)))) (C := RX1) (T := TX1) (N := 9) hx hb hts hin hown hK hP 0 rfl rfl 2 (by decide) (hts (.fieldLink RX1 27 "RomanCalendarModel" "month" "I") (by decide +kernel)) (fun _ h9 => h9) rfl dX1_init_60 ?_
          refine pz_SR (rest := [.int (nI (pm_da (k - 1)))]) ⟨hx, hb, hml, hown, hts⟩ (k_X1_nones l D [(cyI, .int)] (pm_mo (k - 1)) (by omega)) (va_cwS 1 hts gX1_init_X1_nones rfl rfl rfl (by decide +kernel) ⟨Nat.le_of_ble_eq_true rfl, Nat.le_of_ble_eq_true rfl⟩) hK hP (hD.weaken (fun _ _ _ _ => trivial)) hS hA [] rfl rfl rfl rfl hl.1 rfl (lv_room (Nat.le_of_ble_eq_true rfl)) dX1_init_63 ⟨Nat.le_of_ble_eq_true rfl, Nat.le_of_ble_eq_true rfl⟩ (fun r H locs hr hP hS => ?_)
          obtain rfl : r = (nI (pm_nn (pm_mo (k - 1)))) := hr
          have hf_6 := pm_nn_b (pm_mo (k - 1))
          refine pn_icmp_eq (tgt := 83) hx hb (by omega) (by omega) dX1_init_66 (by decide) (fun c_7 => ?_) (fun c_7 => ?_)
          · -- 66 yes
            refine lv_iconst (v := nI 1) hx hb dX1_init_83 (by decide) ?_
            refine lv_goto (tgt := 88) hx hb dX1_init_84 (by decide) ?_
            refine lv_istore_n (lv' := [(2, .int (nI 1)), (1, .int (nI k)), (0, .ref h1)]) hx hb dX1_init_88 rfl hl (by decide) rfl (fun ls hl => ?_)
            refine lv_aload_n hx hb dX1_init_89 rfl (lv_at hl 2 rfl) ?_
            refine va_get (D := D) (ci := 1) (v := .ref bc) (C := RX1) (T := TX1) (N := 9) hx hb hts hin hown hK hP 0 rfl rfl 5 (by decide) (hts (.fieldLink RX1 7 "RomanCalendarModel" "character" "[I") (by decide +kernel)) (fun _ h9 => h9) rfl dX1_init_90 ?_
            refine lv_iload_n hx hb dX1_init_93 rfl (lv_at hl 1 rfl) ?_
            refine lv_iload_n hx hb dX1_init_94 rfl (lv_at hl 0 rfl) ?_
            refine pn_if_eq (tgt := 102) hx hb (by omega) dX1_init_95 (by decide) (fun c_8 => absurd c_8 (by decide)) (fun _ => ?_)
            refine lv_iconst (v := nI 0) hx hb dX1_init_98 (by decide) ?_
            refine lv_goto (tgt := 103) hx hb dX1_init_99 (by decide) ?_
            refine pn_iast hx hb hK hP hD hS 1 0 rfl rfl (by omega) (by decide) dX1_init_103 (fun H locs hP hD hS => ?_)
            have hP : va_P D vwCl [(h1, .inr (1, [.int (nI 0), .int (nI (pm_yr (k - 1))), .int (nI (pm_mo (k - 1))), .int (nI (pm_da (k - 1))), .int (nI 0), .ref bc, .ref bf, .ref bg, .int (nI 0)])), (bc, .inl (cyI, 366, .inl (pz_ar (pz_u rc k 0)))), (bf, .inl (cyI, 3001, .inl (pz_ar (fun _ => 0)))), (bg, .inl (cyI, 3001, .inl (pz_ar (fun _ => 0))))] H := hP
            have hD : va_D A [(h1, .inr (1, [.int (nI 0), .int (nI (pm_yr (k - 1))), .int (nI (pm_mo (k - 1))), .int (nI (pm_da (k - 1))), .int (nI 0), .ref bc, .ref bf, .ref bg, .int (nI 0)])), (bc, .inl (cyI, 366, .inl (pz_ar (pz_u rc k 0)))), (bf, .inl (cyI, 3001, .inl (pz_ar (fun _ => 0)))), (bg, .inl (cyI, 3001, .inl (pz_ar (fun _ => 0))))] := hD
            refine lv_iinc (v := (nI (k + 1))) (lv' := [(1, .int (nI (k + 1))), (2, .int (nI 1)), (0, .ref h1)]) hx hb dX1_init_104 hl (k := 1) rfl (by exact nI_add _ 1) (by decide) rfl (fun ls hl => ?_)
            refine lv_goto (tgt := 33) hx hb dX1_init_107 (by decide) ?_
            exact ih33 (k + 1) (pz_u rc k 0) (nI (pm_yr (k - 1))) (nI (pm_mo (k - 1))) (nI (pm_da (k - 1))) _ _ _ (by omega) (by omega) (by omega) (by first | (intro j h1 h2; exfalso; omega) | (intro j h1 h2; unfold pz_u; split; (rename_i h5; subst h5; unfold pq_r; split <;> first | rfl | omega); exact hi33_2 j h1 (by omega))) (by first | rfl | (rw [pz_u_ne (by omega)]; exact hi33_3)) hP hD hS (lv_sub hl [0, 2] rfl)
          · -- 66 no
            refine lv_aload_n hx hb dX1_init_69 rfl (lv_at hl 1 rfl) ?_
            refine va_get (D := D) (ci := 1) (v := .int (nI (pm_da (k - 1)))) (C := RX1) (T := TX1) (N := 9) hx hb hts hin hown hK hP 0 rfl rfl 3 (by decide) (hts (.fieldLink RX1 23 "RomanCalendarModel" "day" "I") (by decide +kernel)) (fun _ h9 => h9) rfl dX1_init_70 ?_
            refine lv_aload_n hx hb dX1_init_73 rfl (lv_at hl 1 rfl) ?_
            refine va_get (D := D) (ci := 1) (v := .int (nI (pm_mo (k - 1)))) (C := RX1) (T := TX1) (N := 9) hx hb hts hin hown hK hP 0 rfl rfl 2 (by decide) (hts (.fieldLink RX1 27 "RomanCalendarModel" "month" "I") (by decide +kernel)) (fun _ h9 => h9) rfl dX1_init_74 ?_
            refine pz_SR (rest := [.int (nI (pm_da (k - 1)))]) ⟨hx, hb, hml, hown, hts⟩ (k_X1_ides l D [(cyI, .int)] (pm_mo (k - 1)) (by omega)) (va_cwS 1 hts gX1_init_X1_ides rfl rfl rfl (by decide +kernel) ⟨Nat.le_of_ble_eq_true rfl, Nat.le_of_ble_eq_true rfl⟩) hK hP (hD.weaken (fun _ _ _ _ => trivial)) hS hA [] rfl rfl rfl rfl hl.1 rfl (lv_room (Nat.le_of_ble_eq_true rfl)) dX1_init_77 ⟨Nat.le_of_ble_eq_true rfl, Nat.le_of_ble_eq_true rfl⟩ (fun r H locs hr hP hS => ?_)
            obtain rfl : r = (nI (pm_nn (pm_mo (k - 1)) + 8)) := hr
            have hf_10 := pm_nn_b (pm_mo (k - 1))
            refine pn_icmp_ne (tgt := 87) hx hb (by omega) (by omega) dX1_init_80 (by decide) (fun c_11 => ?_) (fun c_11 => ?_)
            · -- 80 yes
              refine lv_iconst (v := nI 0) hx hb dX1_init_87 (by decide) ?_
              refine lv_istore_n (lv' := [(2, .int (nI 0)), (1, .int (nI k)), (0, .ref h1)]) hx hb dX1_init_88 rfl hl (by decide) rfl (fun ls hl => ?_)
              refine lv_aload_n hx hb dX1_init_89 rfl (lv_at hl 2 rfl) ?_
              refine va_get (D := D) (ci := 1) (v := .ref bc) (C := RX1) (T := TX1) (N := 9) hx hb hts hin hown hK hP 0 rfl rfl 5 (by decide) (hts (.fieldLink RX1 7 "RomanCalendarModel" "character" "[I") (by decide +kernel)) (fun _ h9 => h9) rfl dX1_init_90 ?_
              refine lv_iload_n hx hb dX1_init_93 rfl (lv_at hl 1 rfl) ?_
              refine lv_iload_n hx hb dX1_init_94 rfl (lv_at hl 0 rfl) ?_
              refine pn_if_eq (tgt := 102) hx hb (by omega) dX1_init_95 (by decide) (fun _ => ?_) (fun c_12 => absurd c_12 (by decide))
              refine lv_iconst (v := nI 2) hx hb dX1_init_102 (by decide) ?_
              refine pn_iast hx hb hK hP hD hS 1 0 rfl rfl (by omega) (by decide) dX1_init_103 (fun H locs hP hD hS => ?_)
              have hP : va_P D vwCl [(h1, .inr (1, [.int (nI 0), .int (nI (pm_yr (k - 1))), .int (nI (pm_mo (k - 1))), .int (nI (pm_da (k - 1))), .int (nI 0), .ref bc, .ref bf, .ref bg, .int (nI 0)])), (bc, .inl (cyI, 366, .inl (pz_ar (pz_u rc k 2)))), (bf, .inl (cyI, 3001, .inl (pz_ar (fun _ => 0)))), (bg, .inl (cyI, 3001, .inl (pz_ar (fun _ => 0))))] H := hP
              have hD : va_D A [(h1, .inr (1, [.int (nI 0), .int (nI (pm_yr (k - 1))), .int (nI (pm_mo (k - 1))), .int (nI (pm_da (k - 1))), .int (nI 0), .ref bc, .ref bf, .ref bg, .int (nI 0)])), (bc, .inl (cyI, 366, .inl (pz_ar (pz_u rc k 2)))), (bf, .inl (cyI, 3001, .inl (pz_ar (fun _ => 0)))), (bg, .inl (cyI, 3001, .inl (pz_ar (fun _ => 0))))] := hD
              refine lv_iinc (v := (nI (k + 1))) (lv' := [(1, .int (nI (k + 1))), (2, .int (nI 0)), (0, .ref h1)]) hx hb dX1_init_104 hl (k := 1) rfl (by exact nI_add _ 1) (by decide) rfl (fun ls hl => ?_)
              refine lv_goto (tgt := 33) hx hb dX1_init_107 (by decide) ?_
              exact ih33 (k + 1) (pz_u rc k 2) (nI (pm_yr (k - 1))) (nI (pm_mo (k - 1))) (nI (pm_da (k - 1))) _ _ _ (by omega) (by omega) (by omega) (by first | (intro j h1 h2; exfalso; omega) | (intro j h1 h2; unfold pz_u; split; (rename_i h5; subst h5; unfold pq_r; split <;> first | rfl | omega); exact hi33_2 j h1 (by omega))) (by first | rfl | (rw [pz_u_ne (by omega)]; exact hi33_3)) hP hD hS (lv_sub hl [0, 2] rfl)
            · -- 80 no
              refine lv_iconst (v := nI 1) hx hb dX1_init_83 (by decide) ?_
              refine lv_goto (tgt := 88) hx hb dX1_init_84 (by decide) ?_
              refine lv_istore_n (lv' := [(2, .int (nI 1)), (1, .int (nI k)), (0, .ref h1)]) hx hb dX1_init_88 rfl hl (by decide) rfl (fun ls hl => ?_)
              refine lv_aload_n hx hb dX1_init_89 rfl (lv_at hl 2 rfl) ?_
              refine va_get (D := D) (ci := 1) (v := .ref bc) (C := RX1) (T := TX1) (N := 9) hx hb hts hin hown hK hP 0 rfl rfl 5 (by decide) (hts (.fieldLink RX1 7 "RomanCalendarModel" "character" "[I") (by decide +kernel)) (fun _ h9 => h9) rfl dX1_init_90 ?_
              refine lv_iload_n hx hb dX1_init_93 rfl (lv_at hl 1 rfl) ?_
              refine lv_iload_n hx hb dX1_init_94 rfl (lv_at hl 0 rfl) ?_
              refine pn_if_eq (tgt := 102) hx hb (by omega) dX1_init_95 (by decide) (fun c_13 => absurd c_13 (by decide)) (fun _ => ?_)
              refine lv_iconst (v := nI 0) hx hb dX1_init_98 (by decide) ?_
              refine lv_goto (tgt := 103) hx hb dX1_init_99 (by decide) ?_
              refine pn_iast hx hb hK hP hD hS 1 0 rfl rfl (by omega) (by decide) dX1_init_103 (fun H locs hP hD hS => ?_)
              have hP : va_P D vwCl [(h1, .inr (1, [.int (nI 0), .int (nI (pm_yr (k - 1))), .int (nI (pm_mo (k - 1))), .int (nI (pm_da (k - 1))), .int (nI 0), .ref bc, .ref bf, .ref bg, .int (nI 0)])), (bc, .inl (cyI, 366, .inl (pz_ar (pz_u rc k 0)))), (bf, .inl (cyI, 3001, .inl (pz_ar (fun _ => 0)))), (bg, .inl (cyI, 3001, .inl (pz_ar (fun _ => 0))))] H := hP
              have hD : va_D A [(h1, .inr (1, [.int (nI 0), .int (nI (pm_yr (k - 1))), .int (nI (pm_mo (k - 1))), .int (nI (pm_da (k - 1))), .int (nI 0), .ref bc, .ref bf, .ref bg, .int (nI 0)])), (bc, .inl (cyI, 366, .inl (pz_ar (pz_u rc k 0)))), (bf, .inl (cyI, 3001, .inl (pz_ar (fun _ => 0)))), (bg, .inl (cyI, 3001, .inl (pz_ar (fun _ => 0))))] := hD
              refine lv_iinc (v := (nI (k + 1))) (lv' := [(1, .int (nI (k + 1))), (2, .int (nI 1)), (0, .ref h1)]) hx hb dX1_init_104 hl (k := 1) rfl (by exact nI_add _ 1) (by decide) rfl (fun ls hl => ?_)
              refine lv_goto (tgt := 33) hx hb dX1_init_107 (by decide) ?_
              exact ih33 (k + 1) (pz_u rc k 0) (nI (pm_yr (k - 1))) (nI (pm_mo (k - 1))) (nI (pm_da (k - 1))) _ _ _ (by omega) (by omega) (by omega) (by first | (intro j h1 h2; exfalso; omega) | (intro j h1 h2; unfold pz_u; split; (rename_i h5; subst h5; unfold pq_r; split <;> first | rfl | omega); exact hi33_2 j h1 (by omega))) (by first | rfl | (rw [pz_u_ne (by omega)]; exact hi33_3)) hP hD hS (lv_sub hl [0, 2] rfl)
  exact LP33 _ 1 (fun _ => 0) (nI 0) (nI 0) (nI 0) _ _ _ (Nat.lt_succ_self _) (by omega) (by omega) (by first | (intro j h1 h2; exfalso; omega) | (intro j h1 h2; unfold pz_u; split; (rename_i h5; subst h5; unfold pq_r; split <;> first | rfl | omega); exact hi33_2 j h1 (by omega))) (by first | rfl | (rw [pz_u_ne (by omega)]; exact hi33_3)) hP hD hS (lv_sub hl [0, 1] rfl)
end PZ10
