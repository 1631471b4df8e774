section PZ8
set_option maxHeartbeats 4000000 in
set_option maxRecDepth 100000 in
theorem k_X1_termEnd_a (l : Launch) (D : va_G) (h1 bc bf bg : Nat) (cyI : ClassId) (ts : List (ClassId × FieldType)) (th yr mo da : Int32) (mk wr : Nat) (rc ff gg : Nat → Nat) (n dys E : Nat) (hy0 : n < 1095750) (hy1 : dys ≤ 100000) (hy2 : n + dys ≤ E) (hy3 : E < 1095750) (hy4 : pm_lw E = pm_lw n + dys) (hE1 : ∀ z, n + dys ≤ z → z < E → pm_lw (z + 1) ≤ pm_lw n + dys) (hy6 : E + 1 < 1095750 → pm_lw n + dys < pm_lw (E + 1)) : pz_I l yX1_termEnd wsX1_termEnd ({ frames := 4, cells := 0, slots := 0, locals := 85 } : Room) D ((cyI, .int) :: ts) [.ref h1, .int (nI n), .int (nI dys)] [(h1, .inr (1, [.int th, .int yr, .int mo, .int da, .int (nI mk), .ref bc, .ref bf, .ref bg, .int (nI wr)])), (bc, .inl (cyI, 366, .inl (pz_ar rc))), (bf, .inl (cyI, 3001, .inl (pz_ar ff))), (bg, .inl (cyI, 3001, .inl (pz_ar gg)))] (S := Int32 × Int32 × Int32) (fun r _ => r = nI E) (fun u => [(h1, .inr (1, [.int (nI 0), .int u.1, .int u.2.1, .int u.2.2, .int (nI mk), .ref bc, .ref bf, .ref bg, .int (nI wr)])), (bc, .inl (cyI, 366, .inl (pz_ar rc))), (bf, .inl (cyI, 3001, .inl (pz_ar ff))), (bg, .inl (cyI, 3001, .inl (pz_ar gg)))]) := by
  refine pz_I_of (cc := cX1_termEnd) (maxL := 8) (ty := .int) (own := RX1) (by decide) rfl rfl (Nat.le_of_ble_eq_true rfl) ?_
  intro p e s m below meth c A ls Q hx hb hml hown hts hK hP hD hS hA hl hQ
  have hl : lv_has ls 8 [(0, .ref h1), (1, .int (nI n)), (2, .int (nI dys))] := hl
  have hlb := pm_lw_b n
  refine lv_iload_n hx hb dX1_termEnd_0 rfl (lv_at hl 1 rfl) ?_
  refine pz_SR (rest := []) ⟨hx, hb, hml, hown, hts⟩ (k_X1_isDay_a l D ((cyI, .int) :: ts) n (by omega)) (va_cwS 1 hts gX1_termEnd_X1_isDay rfl rfl rfl (by decide +kernel) ⟨Nat.le_of_ble_eq_true rfl, Nat.le_of_ble_eq_true rfl⟩) hK hP (hD.weaken (fun _ _ _ _ => trivial)) hS hA [] rfl rfl rfl rfl hl.1 rfl (lv_room (Nat.le_of_ble_eq_true rfl)) dX1_termEnd_1 ⟨Nat.le_of_ble_eq_true rfl, Nat.le_of_ble_eq_true rfl⟩ (fun r H locs hr hP hS => ?_)
  obtain rfl : r = (nI 1) := hr
  refine lv_istore_n (lv' := [(3, .int (nI 1)), (0, .ref h1), (1, .int (nI n)), (2, .int (nI dys))]) hx hb dX1_termEnd_4 rfl hl (by decide) rfl (fun ls hl => ?_)
  refine lv_iload_n hx hb dX1_termEnd_5 rfl (lv_at hl 3 rfl) ?_
  refine lv_iconst (v := nI 0) hx hb dX1_termEnd_6 (by decide) ?_
  refine lv_ldc (v := nI 100000) hx hb hown (hts (.constant RX1 100 (100000)) (by decide +kernel)) dX1_termEnd_7 ?_
  refine pz_SR (rest := []) ⟨hx, hb, hml, hown, hts⟩ (k_X1_isIn_a l D ((cyI, .int) :: ts) dys 0 100000 (by omega) (by omega) (by omega)) (va_cwS 3 hts gX1_termEnd_X1_isIn rfl rfl rfl (by decide +kernel) ⟨Nat.le_of_ble_eq_true rfl, Nat.le_of_ble_eq_true rfl⟩) hK hP (hD.weaken (fun _ _ _ _ => trivial)) hS hA [] rfl rfl rfl rfl hl.1 rfl (lv_room (Nat.le_of_ble_eq_true rfl)) dX1_termEnd_9 ⟨Nat.le_of_ble_eq_true rfl, Nat.le_of_ble_eq_true rfl⟩ (fun r H locs hr hP hS => ?_)
  obtain rfl : r = (nI 1) := hr
  refine lv_istore (lv' := [(4, .int (nI 1)), (3, .int (nI 1)), (0, .ref h1), (1, .int (nI n)), (2, .int (nI dys))]) hx hb dX1_termEnd_12 hl (by decide) rfl (fun ls hl => ?_)
  refine lv_iload_n hx hb dX1_termEnd_14 rfl (lv_at hl 1 rfl) ?_
  refine pn_if_eq (tgt := 33) hx hb (by omega) dX1_termEnd_15 (by decide) (fun c_3 => absurd c_3 (by decide)) (fun _ => ?_)
  refine lv_iload hx hb dX1_termEnd_18 (lv_at hl 0 rfl) ?_
  refine pn_if_eq (tgt := 33) hx hb (by omega) dX1_termEnd_20 (by decide) (fun c_4 => absurd c_4 (by decide)) (fun _ => ?_)
  refine lv_aload_n hx hb dX1_termEnd_23 rfl (lv_at hl 2 rfl) ?_
  refine lv_iload_n hx hb dX1_termEnd_24 rfl (lv_at hl 3 rfl) ?_
  refine pz_VI (rest := []) (wr := []) ⟨hx, hb, hml, hown, hts⟩ (k_X1_lawful l D h1 bc bf bg cyI ts th yr mo da mk wr rc ff gg n (by omega)) (cwV 1 hts gX1_termEnd_X1_lawful rfl rfl rfl (by decide +kernel) ⟨Nat.le_of_ble_eq_true rfl, Nat.le_of_ble_eq_true rfl⟩) hK hP hD hS hA [0, 1, 2, 3] [] rfl rfl rfl rfl rfl (by decide) 0 1 rfl rfl rfl hl.1 rfl (lv_room (Nat.le_of_ble_eq_true rfl)) dX1_termEnd_25 ⟨Nat.le_of_ble_eq_true rfl, Nat.le_of_ble_eq_true rfl⟩ (fun r u H locs hr hP hD hS => ?_)
  have hP : va_P D vwCl [(h1, .inr (1, [.int th, .int (nI (pm_yr n)), .int (nI (pm_mo n)), .int (nI (pm_da n)), .int (nI mk), .ref bc, .ref bf, .ref bg, .int (nI wr)])), (bc, .inl (cyI, 366, .inl (pz_ar rc))), (bf, .inl (cyI, 3001, .inl (pz_ar ff))), (bg, .inl (cyI, 3001, .inl (pz_ar gg)))] H := hP
  have hD : va_D A [(h1, .inr (1, [.int th, .int (nI (pm_yr n)), .int (nI (pm_mo n)), .int (nI (pm_da n)), .int (nI mk), .ref bc, .ref bf, .ref bg, .int (nI wr)])), (bc, .inl (cyI, 366, .inl (pz_ar rc))), (bf, .inl (cyI, 3001, .inl (pz_ar ff))), (bg, .inl (cyI, 3001, .inl (pz_ar gg)))] := hD
  obtain rfl : r = (nI (pm_lw n)) := hr
  have hf_6 := pm_lw_b n
  refine lv_iload_n hx hb dX1_termEnd_28 rfl (lv_at hl 4 rfl) ?_
  refine pn_iadd hx hb dX1_termEnd_29 ?_
  refine lv_goto (tgt := 34) hx hb dX1_termEnd_30 (by decide) ?_
  refine lv_istore (lv' := [(5, .int (nI ((pm_lw n) + dys))), (4, .int (nI 1)), (3, .int (nI 1)), (0, .ref h1), (1, .int (nI n)), (2, .int (nI dys))]) hx hb dX1_termEnd_34 hl (by decide) rfl (fun ls hl => ?_)
  refine lv_iload_n hx hb dX1_termEnd_36 rfl (lv_at hl 2 rfl) ?_
  refine pn_if_eq (tgt := 51) hx hb (by omega) dX1_termEnd_37 (by decide) (fun c_7 => absurd c_7 (by decide)) (fun _ => ?_)
  refine lv_iload hx hb dX1_termEnd_40 (lv_at hl 1 rfl) ?_
  refine pn_if_eq (tgt := 51) hx hb (by omega) dX1_termEnd_42 (by decide) (fun c_8 => absurd c_8 (by decide)) (fun _ => ?_)
  refine lv_iload_n hx hb dX1_termEnd_45 rfl (lv_at hl 4 rfl) ?_
  refine lv_iload_n hx hb dX1_termEnd_46 rfl (lv_at hl 5 rfl) ?_
  refine pn_iadd hx hb dX1_termEnd_47 ?_
  refine lv_goto (tgt := 52) hx hb dX1_termEnd_48 (by decide) ?_
  refine lv_istore (lv' := [(6, .int (nI (n + dys))), (5, .int (nI ((pm_lw n) + dys))), (4, .int (nI 1)), (3, .int (nI 1)), (0, .ref h1), (1, .int (nI n)), (2, .int (nI dys))]) hx hb dX1_termEnd_52 hl (by decide) rfl (fun ls hl => ?_)
  have LP54 : ∀ (N : Nat) (z : Nat) (y2 : Int32) (m2 : Int32) (d2 : Int32) (H : Heap) (locs : List Loc) (ls : Array Slot), 1195750 - z < N → (n + dys ≤ z) → (z ≤ E) → va_P D vwCl [(h1, .inr (1, [.int th, .int y2, .int m2, .int d2, .int (nI mk), .ref bc, .ref bf, .ref bg, .int (nI wr)])), (bc, .inl (cyI, 366, .inl (pz_ar rc))), (bf, .inl (cyI, 3001, .inl (pz_ar ff))), (bg, .inl (cyI, 3001, .inl (pz_ar gg)))] H → va_D A [(h1, .inr (1, [.int th, .int y2, .int m2, .int d2, .int (nI mk), .ref bc, .ref bf, .ref bg, .int (nI wr)])), (bc, .inl (cyI, 366, .inl (pz_ar rc))), (bf, .inl (cyI, 3001, .inl (pz_ar ff))), (bg, .inl (cyI, 3001, .inl (pz_ar gg)))] → va_S A s.heap H locs → lv_has ls 8 [(6, .int (nI z)), (5, .int (nI ((pm_lw n) + dys))), (4, .int (nI 1)), (3, .int (nI 1)), (0, .ref h1), (1, .int (nI n)), (2, .int (nI dys))] → W p l e ({ frames := 4, cells := 0, slots := 0, locals := 85 } : Room) s m ([.ref h1, .int (nI n), .int (nI dys)] : List Value).toArray below meth c H locs 0 0 Q (F0 m 54 ls []) := by
    intro N
    induction N with
    | zero => intro z y2 m2 d2 H locs ls hN; exact absurd hN (Nat.not_lt_zero _)
    | succ N ih =>
      intro z y2 m2 d2 H locs ls hN hi54_0 hi54_1 hP hD hS hl
      have hlz_0 := pm_lw_b z
      have hlz_1 := pm_lw_b (z + 1)
      have hlx_0 : z < 1095750 → pm_lw z ≤ 1094999 := fun h9 => pm_lw_x h9
      have hlx_1 : z + 1 < 1095750 → pm_lw (z + 1) ≤ 1094999 := fun h9 => pm_lw_x h9
      have hz_0 : z < E → pm_lw (z + 1) ≤ pm_lw n + dys := hE1 z hi54_0
      have he_0 : z = E → pm_lw z = pm_lw n + dys ∧ (z + 1 < 1095750 → pm_lw n + dys < pm_lw (z + 1)) := fun h9 => by rw [h9]; exact ⟨by assumption, by assumption⟩
      have ih54 := ih
      refine lv_iload hx hb dX1_termEnd_54 (lv_at hl 0 rfl) ?_
      refine lv_iconst (v := nI 1) hx hb dX1_termEnd_56 (by decide) ?_
      refine pn_iadd hx hb dX1_termEnd_57 ?_
      refine lv_ldc (v := nI 1095750) hx hb hown (hts (.constant RX1 65 (1095750)) (by decide +kernel)) dX1_termEnd_58 ?_
      refine pn_icmp_ge (tgt := 91) hx hb (by omega) (by omega) dX1_termEnd_60 (by decide) (fun c_9 => ?_) (fun c_9 => ?_)
      · -- 60 yes
        refine lv_iload hx hb dX1_termEnd_91 (lv_at hl 0 rfl) ?_
        refine lv_ldc (v := nI 1095750) hx hb hown (hts (.constant RX1 65 (1095750)) (by decide +kernel)) dX1_termEnd_93 ?_
        refine pn_icmp_ge (tgt := 113) hx hb (by omega) (by omega) dX1_termEnd_95 (by decide) (fun c_10 => ?_) (fun c_10 => ?_)
        · -- 95 yes
          exfalso; omega
        · -- 95 no
          refine lv_aload_n hx hb dX1_termEnd_98 rfl (lv_at hl 4 rfl) ?_
          refine lv_iload hx hb dX1_termEnd_99 (lv_at hl 0 rfl) ?_
          refine pz_VI (rest := []) (wr := []) ⟨hx, hb, hml, hown, hts⟩ (k_X1_lawful l D h1 bc bf bg cyI ts th y2 m2 d2 mk wr rc ff gg z (by omega)) (cwV 1 hts gX1_termEnd_X1_lawful rfl rfl rfl (by decide +kernel) ⟨Nat.le_of_ble_eq_true rfl, Nat.le_of_ble_eq_true rfl⟩) hK hP hD hS hA [0, 1, 2, 3] [] rfl rfl rfl rfl rfl (by decide) 0 1 rfl rfl rfl hl.1 rfl (lv_room (Nat.le_of_ble_eq_true rfl)) dX1_termEnd_101 ⟨Nat.le_of_ble_eq_true rfl, Nat.le_of_ble_eq_true rfl⟩ (fun r u H locs hr hP hD hS => ?_)
          have hP : va_P D vwCl [(h1, .inr (1, [.int th, .int (nI (pm_yr z)), .int (nI (pm_mo z)), .int (nI (pm_da z)), .int (nI mk), .ref bc, .ref bf, .ref bg, .int (nI wr)])), (bc, .inl (cyI, 366, .inl (pz_ar rc))), (bf, .inl (cyI, 3001, .inl (pz_ar ff))), (bg, .inl (cyI, 3001, .inl (pz_ar gg)))] H := hP
          have hD : va_D A [(h1, .inr (1, [.int th, .int (nI (pm_yr z)), .int (nI (pm_mo z)), .int (nI (pm_da z)), .int (nI mk), .ref bc, .ref bf, .ref bg, .int (nI wr)])), (bc, .inl (cyI, 366, .inl (pz_ar rc))), (bf, .inl (cyI, 3001, .inl (pz_ar ff))), (bg, .inl (cyI, 3001, .inl (pz_ar gg)))] := hD
          obtain rfl : r = (nI (pm_lw z)) := hr
          have hf_12 := pm_lw_b z
          refine lv_iload hx hb dX1_termEnd_104 (lv_at hl 1 rfl) ?_
          refine pn_icmp_ne (tgt := 113) hx hb (by omega) (by omega) dX1_termEnd_106 (by decide) (fun c_13 => ?_) (fun c_13 => ?_)
          · -- 106 yes
            exfalso; omega
          · -- 106 no
            refine lv_iconst (v := nI 1) hx hb dX1_termEnd_109 (by decide) ?_
            refine lv_goto (tgt := 114) hx hb dX1_termEnd_110 (by decide) ?_
            refine lv_istore (lv' := [(7, .int (nI 1)), (6, .int (nI z)), (5, .int (nI ((pm_lw n) + dys))), (4, .int (nI 1)), (3, .int (nI 1)), (0, .ref h1), (1, .int (nI n)), (2, .int (nI dys))]) hx hb dX1_termEnd_114 hl (by decide) rfl (fun ls hl => ?_)
            refine lv_aload_n hx hb dX1_termEnd_116 rfl (lv_at hl 5 rfl) ?_
            refine lv_iload_n hx hb dX1_termEnd_117 rfl (lv_at hl 4 rfl) ?_
            refine pn_if_ne (tgt := 125) hx hb (by omega) dX1_termEnd_118 (by decide) (fun _ => ?_) (fun c_14 => absurd c_14 (by decide))
            refine lv_iload hx hb dX1_termEnd_125 (lv_at hl 3 rfl) ?_
            refine pn_if_ne (tgt := 134) hx hb (by omega) dX1_termEnd_127 (by decide) (fun _ => ?_) (fun c_15 => absurd c_15 (by decide))
            refine lv_iload hx hb dX1_termEnd_134 (lv_at hl 0 rfl) ?_
            refine pn_if_ne (tgt := 143) hx hb (by omega) dX1_termEnd_136 (by decide) (fun _ => ?_) (fun c_16 => absurd c_16 (by decide))
            refine lv_iconst (v := nI 0) hx hb dX1_termEnd_143 (by decide) ?_
            refine pz_VI (rest := []) (wr := []) ⟨hx, hb, hml, hown, hts⟩ (k_X1_isFine_0 l D h1 bc bf bg cyI ts th (nI (pm_yr z)) (nI (pm_mo z)) (nI (pm_da z)) mk wr rc ff gg  ) (cwV 1 hts gX1_termEnd_X1_isFine rfl rfl rfl (by decide +kernel) ⟨Nat.le_of_ble_eq_true rfl, Nat.le_of_ble_eq_true rfl⟩) hK hP hD hS hA [0, 1, 2, 3] [] rfl rfl rfl rfl rfl (by decide) 0 1 rfl rfl rfl hl.1 rfl (lv_room (Nat.le_of_ble_eq_true rfl)) dX1_termEnd_144 ⟨Nat.le_of_ble_eq_true rfl, Nat.le_of_ble_eq_true rfl⟩ (fun r u H locs hr hP hD hS => ?_)
            have hP : va_P D vwCl [(h1, .inr (1, [.int (nI 0), .int (nI (pm_yr z)), .int (nI (pm_mo z)), .int (nI (pm_da z)), .int (nI mk), .ref bc, .ref bf, .ref bg, .int (nI wr)])), (bc, .inl (cyI, 366, .inl (pz_ar rc))), (bf, .inl (cyI, 3001, .inl (pz_ar ff))), (bg, .inl (cyI, 3001, .inl (pz_ar gg)))] H := hP
            have hD : va_D A [(h1, .inr (1, [.int (nI 0), .int (nI (pm_yr z)), .int (nI (pm_mo z)), .int (nI (pm_da z)), .int (nI mk), .ref bc, .ref bf, .ref bg, .int (nI wr)])), (bc, .inl (cyI, 366, .inl (pz_ar rc))), (bf, .inl (cyI, 3001, .inl (pz_ar ff))), (bg, .inl (cyI, 3001, .inl (pz_ar gg)))] := hD
            obtain rfl : r = (nI 1) := hr
            refine pn_if_eq (tgt := 155) hx hb (by omega) dX1_termEnd_147 (by decide) (fun c_18 => absurd c_18 (by decide)) (fun _ => ?_)
            refine lv_iload hx hb dX1_termEnd_150 (lv_at hl 1 rfl) ?_
            refine lv_goto (tgt := 156) hx hb dX1_termEnd_152 (by decide) ?_
            exact hQ _ _ _ _ _ ((nI (pm_yr z)), (nI (pm_mo z)), (nI (pm_da z))) dX1_termEnd_156 rfl (congrArg nI (by omega)) hP hD hS
      · -- 60 no
        refine lv_iload_n hx hb dX1_termEnd_63 rfl (lv_at hl 3 rfl) ?_
        refine pn_if_eq (tgt := 91) hx hb (by omega) dX1_termEnd_64 (by decide) (fun c_19 => absurd c_19 (by decide)) (fun _ => ?_)
        refine lv_iload hx hb dX1_termEnd_67 (lv_at hl 2 rfl) ?_
        refine pn_if_eq (tgt := 91) hx hb (by omega) dX1_termEnd_69 (by decide) (fun c_20 => absurd c_20 (by decide)) (fun _ => ?_)
        refine lv_aload_n hx hb dX1_termEnd_72 rfl (lv_at hl 4 rfl) ?_
        refine lv_iload hx hb dX1_termEnd_73 (lv_at hl 0 rfl) ?_
        refine lv_iconst (v := nI 1) hx hb dX1_termEnd_75 (by decide) ?_
        refine pn_iadd hx hb dX1_termEnd_76 ?_
        refine pz_VI (rest := []) (wr := []) ⟨hx, hb, hml, hown, hts⟩ (k_X1_lawful l D h1 bc bf bg cyI ts th y2 m2 d2 mk wr rc ff gg (z + 1) (by omega)) (cwV 1 hts gX1_termEnd_X1_lawful rfl rfl rfl (by decide +kernel) ⟨Nat.le_of_ble_eq_true rfl, Nat.le_of_ble_eq_true rfl⟩) hK hP hD hS hA [0, 1, 2, 3] [] rfl rfl rfl rfl rfl (by decide) 0 1 rfl rfl rfl hl.1 rfl (lv_room (Nat.le_of_ble_eq_true rfl)) dX1_termEnd_77 ⟨Nat.le_of_ble_eq_true rfl, Nat.le_of_ble_eq_true rfl⟩ (fun r u H locs hr hP hD hS => ?_)
        have hP : va_P D vwCl [(h1, .inr (1, [.int th, .int (nI (pm_yr (z + 1))), .int (nI (pm_mo (z + 1))), .int (nI (pm_da (z + 1))), .int (nI mk), .ref bc, .ref bf, .ref bg, .int (nI wr)])), (bc, .inl (cyI, 366, .inl (pz_ar rc))), (bf, .inl (cyI, 3001, .inl (pz_ar ff))), (bg, .inl (cyI, 3001, .inl (pz_ar gg)))] H := hP
        have hD : va_D A [(h1, .inr (1, [.int th, .int (nI (pm_yr (z + 1))), .int (nI (pm_mo (z + 1))), .int (nI (pm_da (z + 1))), .int (nI mk), .ref bc, .ref bf, .ref bg, .int (nI wr)])), (bc, .inl (cyI, 366, .inl (pz_ar rc))), (bf, .inl (cyI, 3001, .inl (pz_ar ff))), (bg, .inl (cyI, 3001, .inl (pz_ar gg)))] := hD
        obtain rfl : r = (nI (pm_lw (z + 1))) := hr
        have hf_22 := pm_lw_b (z + 1)
        refine lv_iload hx hb dX1_termEnd_80 (lv_at hl 1 rfl) ?_
        refine pn_icmp_gt (tgt := 91) hx hb (by omega) (by omega) dX1_termEnd_82 (by decide) (fun c_23 => ?_) (fun c_23 => ?_)
        · -- 82 yes
          refine lv_iload hx hb dX1_termEnd_91 (lv_at hl 0 rfl) ?_
          refine lv_ldc (v := nI 1095750) hx hb hown (hts (.constant RX1 65 (1095750)) (by decide +kernel)) dX1_termEnd_93 ?_
          refine pn_icmp_ge (tgt := 113) hx hb (by omega) (by omega) dX1_termEnd_95 (by decide) (fun c_24 => ?_) (fun c_24 => ?_)
          · -- 95 yes
            exfalso; omega
          · -- 95 no
            refine lv_aload_n hx hb dX1_termEnd_98 rfl (lv_at hl 4 rfl) ?_
            refine lv_iload hx hb dX1_termEnd_99 (lv_at hl 0 rfl) ?_
            refine pz_VI (rest := []) (wr := []) ⟨hx, hb, hml, hown, hts⟩ (k_X1_lawful l D h1 bc bf bg cyI ts th (nI (pm_yr (z + 1))) (nI (pm_mo (z + 1))) (nI (pm_da (z + 1))) mk wr rc ff gg z (by omega)) (cwV 1 hts gX1_termEnd_X1_lawful rfl rfl rfl (by decide +kernel) ⟨Nat.le_of_ble_eq_true rfl, Nat.le_of_ble_eq_true rfl⟩) hK hP hD hS hA [0, 1, 2, 3] [] rfl rfl rfl rfl rfl (by decide) 0 1 rfl rfl rfl hl.1 rfl (lv_room (Nat.le_of_ble_eq_true rfl)) dX1_termEnd_101 ⟨Nat.le_of_ble_eq_true rfl, Nat.le_of_ble_eq_true rfl⟩ (fun r u H locs hr hP hD hS => ?_)
            have hP : va_P D vwCl [(h1, .inr (1, [.int th, .int (nI (pm_yr z)), .int (nI (pm_mo z)), .int (nI (pm_da z)), .int (nI mk), .ref bc, .ref bf, .ref bg, .int (nI wr)])), (bc, .inl (cyI, 366, .inl (pz_ar rc))), (bf, .inl (cyI, 3001, .inl (pz_ar ff))), (bg, .inl (cyI, 3001, .inl (pz_ar gg)))] H := hP
            have hD : va_D A [(h1, .inr (1, [.int th, .int (nI (pm_yr z)), .int (nI (pm_mo z)), .int (nI (pm_da z)), .int (nI mk), .ref bc, .ref bf, .ref bg, .int (nI wr)])), (bc, .inl (cyI, 366, .inl (pz_ar rc))), (bf, .inl (cyI, 3001, .inl (pz_ar ff))), (bg, .inl (cyI, 3001, .inl (pz_ar gg)))] := hD
            obtain rfl : r = (nI (pm_lw z)) := hr
            have hf_26 := pm_lw_b z
            refine lv_iload hx hb dX1_termEnd_104 (lv_at hl 1 rfl) ?_
            refine pn_icmp_ne (tgt := 113) hx hb (by omega) (by omega) dX1_termEnd_106 (by decide) (fun c_27 => ?_) (fun c_27 => ?_)
            · -- 106 yes
              exfalso; omega
            · -- 106 no
              refine lv_iconst (v := nI 1) hx hb dX1_termEnd_109 (by decide) ?_
              refine lv_goto (tgt := 114) hx hb dX1_termEnd_110 (by decide) ?_
              refine lv_istore (lv' := [(7, .int (nI 1)), (6, .int (nI z)), (5, .int (nI ((pm_lw n) + dys))), (4, .int (nI 1)), (3, .int (nI 1)), (0, .ref h1), (1, .int (nI n)), (2, .int (nI dys))]) hx hb dX1_termEnd_114 hl (by decide) rfl (fun ls hl => ?_)
              refine lv_aload_n hx hb dX1_termEnd_116 rfl (lv_at hl 5 rfl) ?_
              refine lv_iload_n hx hb dX1_termEnd_117 rfl (lv_at hl 4 rfl) ?_
              refine pn_if_ne (tgt := 125) hx hb (by omega) dX1_termEnd_118 (by decide) (fun _ => ?_) (fun c_28 => absurd c_28 (by decide))
              refine lv_iload hx hb dX1_termEnd_125 (lv_at hl 3 rfl) ?_
              refine pn_if_ne (tgt := 134) hx hb (by omega) dX1_termEnd_127 (by decide) (fun _ => ?_) (fun c_29 => absurd c_29 (by decide))
              refine lv_iload hx hb dX1_termEnd_134 (lv_at hl 0 rfl) ?_
              refine pn_if_ne (tgt := 143) hx hb (by omega) dX1_termEnd_136 (by decide) (fun _ => ?_) (fun c_30 => absurd c_30 (by decide))
              refine lv_iconst (v := nI 0) hx hb dX1_termEnd_143 (by decide) ?_
              refine pz_VI (rest := []) (wr := []) ⟨hx, hb, hml, hown, hts⟩ (k_X1_isFine_0 l D h1 bc bf bg cyI ts th (nI (pm_yr z)) (nI (pm_mo z)) (nI (pm_da z)) mk wr rc ff gg  ) (cwV 1 hts gX1_termEnd_X1_isFine rfl rfl rfl (by decide +kernel) ⟨Nat.le_of_ble_eq_true rfl, Nat.le_of_ble_eq_true rfl⟩) hK hP hD hS hA [0, 1, 2, 3] [] rfl rfl rfl rfl rfl (by decide) 0 1 rfl rfl rfl hl.1 rfl (lv_room (Nat.le_of_ble_eq_true rfl)) dX1_termEnd_144 ⟨Nat.le_of_ble_eq_true rfl, Nat.le_of_ble_eq_true rfl⟩ (fun r u H locs hr hP hD hS => ?_)
              have hP : va_P D vwCl [(h1, .inr (1, [.int (nI 0), .int (nI (pm_yr z)), .int (nI (pm_mo z)), .int (nI (pm_da z)), .int (nI mk), .ref bc, .ref bf, .ref bg, .int (nI wr)])), (bc, .inl (cyI, 366, .inl (pz_ar rc))), (bf, .inl (cyI, 3001, .inl (pz_ar ff))), (bg, .inl (cyI, 3001, .inl (pz_ar gg)))] H := hP
              have hD : va_D A [(h1, .inr (1, [.int (nI 0), .int (nI (pm_yr z)), .int (nI (pm_mo z)), .int (nI (pm_da z)), .int (nI mk), .ref bc, .ref bf, .ref bg, .int (nI wr)])), (bc, .inl (cyI, 366, .inl (pz_ar rc))), (bf, .inl (cyI, 3001, .inl (pz_ar ff))), (bg, .inl (cyI, 3001, .inl (pz_ar gg)))] := hD
              obtain rfl : r = (nI 1) := hr
              refine pn_if_eq (tgt := 155) hx hb (by omega) dX1_termEnd_147 (by decide) (fun c_32 => absurd c_32 (by decide)) (fun _ => ?_)
              refine lv_iload hx hb dX1_termEnd_150 (lv_at hl 1 rfl) ?_
              refine lv_goto (tgt := 156) hx hb dX1_termEnd_152 (by decide) ?_
              exact hQ _ _ _ _ _ ((nI (pm_yr z)), (nI (pm_mo z)), (nI (pm_da z))) dX1_termEnd_156 rfl (congrArg nI (by omega)) hP hD hS
        · -- 82 no
          refine lv_iinc (v := (nI (z + 1))) (lv' := [(6, .int (nI (z + 1))), (5, .int (nI ((pm_lw n) + dys))), (4, .int (nI 1)), (3, .int (nI 1)), (0, .ref h1), (1, .int (nI n)), (2, .int (nI dys))]) hx hb dX1_termEnd_85 hl (k := 0) rfl (by exact nI_add _ 1) (by decide) rfl (fun ls hl => ?_)
          refine lv_goto (tgt := 54) hx hb dX1_termEnd_88 (by decide) ?_
          exact ih54 (z + 1) (nI (pm_yr (z + 1))) (nI (pm_mo (z + 1))) (nI (pm_da (z + 1))) _ _ _ (by omega) (by omega) (by omega) hP hD hS (lv_sub hl [0, 1, 2, 3, 4, 5, 6] rfl)
  exact LP54 _ (n + dys) (nI (pm_yr n)) (nI (pm_mo n)) (nI (pm_da n)) _ _ _ (Nat.lt_succ_self _) (by omega) (by omega) hP hD hS (lv_sub hl [0, 1, 2, 3, 4, 5, 6] rfl)
set_option maxHeartbeats 4000000 in
set_option maxRecDepth 100000 in
theorem k_X1_termEnd_x3 (l : Launch) (D : va_G) (h1 bc bf bg : Nat) (cyI : ClassId) (ts : List (ClassId × FieldType)) (th yr mo da : Int32) (mk wr : Nat) (rc ff gg : Nat → Nat) (n dys : Nat) (hy0 : n < 1095750) (hy1 : dys ≤ 100000) (hy2 : 1094999 < pm_lw n + dys) : pz_I l yX1_termEnd wsX1_termEnd ({ frames := 4, cells := 0, slots := 0, locals := 85 } : Room) D ((cyI, .int) :: ts) [.ref h1, .int (nI n), .int (nI dys)] [(h1, .inr (1, [.int th, .int yr, .int mo, .int da, .int (nI mk), .ref bc, .ref bf, .ref bg, .int (nI wr)])), (bc, .inl (cyI, 366, .inl (pz_ar rc))), (bf, .inl (cyI, 3001, .inl (pz_ar ff))), (bg, .inl (cyI, 3001, .inl (pz_ar gg)))] (S := Int32 × Int32 × Int32) (fun r _ => r = nI 0) (fun u => [(h1, .inr (1, [.int (nI 3), .int u.1, .int u.2.1, .int u.2.2, .int (nI mk), .ref bc, .ref bf, .ref bg, .int (nI wr)])), (bc, .inl (cyI, 366, .inl (pz_ar rc))), (bf, .inl (cyI, 3001, .inl (pz_ar ff))), (bg, .inl (cyI, 3001, .inl (pz_ar gg)))]) := by
  refine pz_I_of (cc := cX1_termEnd) (maxL := 8) (ty := .int) (own := RX1) (by decide) rfl rfl (Nat.le_of_ble_eq_true rfl) ?_
  intro p e s m below meth c A ls Q hx hb hml hown hts hK hP hD hS hA hl hQ
  have hl : lv_has ls 8 [(0, .ref h1), (1, .int (nI n)), (2, .int (nI dys))] := hl
  have hlb := pm_lw_b n
  refine lv_iload_n hx hb dX1_termEnd_0 rfl (lv_at hl 1 rfl) ?_
  refine pz_SR (rest := []) ⟨hx, hb, hml, hown, hts⟩ (k_X1_isDay_a l D ((cyI, .int) :: ts) n (by omega)) (va_cwS 1 hts gX1_termEnd_X1_isDay rfl rfl rfl (by decide +kernel) ⟨Nat.le_of_ble_eq_true rfl, Nat.le_of_ble_eq_true rfl⟩) hK hP (hD.weaken (fun _ _ _ _ => trivial)) hS hA [] rfl rfl rfl rfl hl.1 rfl (lv_room (Nat.le_of_ble_eq_true rfl)) dX1_termEnd_1 ⟨Nat.le_of_ble_eq_true rfl, Nat.le_of_ble_eq_true rfl⟩ (fun r H locs hr hP hS => ?_)
  obtain rfl : r = (nI 1) := hr
  refine lv_istore_n (lv' := [(3, .int (nI 1)), (0, .ref h1), (1, .int (nI n)), (2, .int (nI dys))]) hx hb dX1_termEnd_4 rfl hl (by decide) rfl (fun ls hl => ?_)
  refine lv_iload_n hx hb dX1_termEnd_5 rfl (lv_at hl 3 rfl) ?_
  refine lv_iconst (v := nI 0) hx hb dX1_termEnd_6 (by decide) ?_
  refine lv_ldc (v := nI 100000) hx hb hown (hts (.constant RX1 100 (100000)) (by decide +kernel)) dX1_termEnd_7 ?_
  refine pz_SR (rest := []) ⟨hx, hb, hml, hown, hts⟩ (k_X1_isIn_a l D ((cyI, .int) :: ts) dys 0 100000 (by omega) (by omega) (by omega)) (va_cwS 3 hts gX1_termEnd_X1_isIn rfl rfl rfl (by decide +kernel) ⟨Nat.le_of_ble_eq_true rfl, Nat.le_of_ble_eq_true rfl⟩) hK hP (hD.weaken (fun _ _ _ _ => trivial)) hS hA [] rfl rfl rfl rfl hl.1 rfl (lv_room (Nat.le_of_ble_eq_true rfl)) dX1_termEnd_9 ⟨Nat.le_of_ble_eq_true rfl, Nat.le_of_ble_eq_true rfl⟩ (fun r H locs hr hP hS => ?_)
  obtain rfl : r = (nI 1) := hr
  refine lv_istore (lv' := [(4, .int (nI 1)), (3, .int (nI 1)), (0, .ref h1), (1, .int (nI n)), (2, .int (nI dys))]) hx hb dX1_termEnd_12 hl (by decide) rfl (fun ls hl => ?_)
  refine lv_iload_n hx hb dX1_termEnd_14 rfl (lv_at hl 1 rfl) ?_
  refine pn_if_eq (tgt := 33) hx hb (by omega) dX1_termEnd_15 (by decide) (fun c_3 => absurd c_3 (by decide)) (fun _ => ?_)
  refine lv_iload hx hb dX1_termEnd_18 (lv_at hl 0 rfl) ?_
  refine pn_if_eq (tgt := 33) hx hb (by omega) dX1_termEnd_20 (by decide) (fun c_4 => absurd c_4 (by decide)) (fun _ => ?_)
  refine lv_aload_n hx hb dX1_termEnd_23 rfl (lv_at hl 2 rfl) ?_
  refine lv_iload_n hx hb dX1_termEnd_24 rfl (lv_at hl 3 rfl) ?_
  refine pz_VI (rest := []) (wr := []) ⟨hx, hb, hml, hown, hts⟩ (k_X1_lawful l D h1 bc bf bg cyI ts th yr mo da mk wr rc ff gg n (by omega)) (cwV 1 hts gX1_termEnd_X1_lawful rfl rfl rfl (by decide +kernel) ⟨Nat.le_of_ble_eq_true rfl, Nat.le_of_ble_eq_true rfl⟩) hK hP hD hS hA [0, 1, 2, 3] [] rfl rfl rfl rfl rfl (by decide) 0 1 rfl rfl rfl hl.1 rfl (lv_room (Nat.le_of_ble_eq_true rfl)) dX1_termEnd_25 ⟨Nat.le_of_ble_eq_true rfl, Nat.le_of_ble_eq_true rfl⟩ (fun r u H locs hr hP hD hS => ?_)
  have hP : va_P D vwCl [(h1, .inr (1, [.int th, .int (nI (pm_yr n)), .int (nI (pm_mo n)), .int (nI (pm_da n)), .int (nI mk), .ref bc, .ref bf, .ref bg, .int (nI wr)])), (bc, .inl (cyI, 366, .inl (pz_ar rc))), (bf, .inl (cyI, 3001, .inl (pz_ar ff))), (bg, .inl (cyI, 3001, .inl (pz_ar gg)))] H := hP
  have hD : va_D A [(h1, .inr (1, [.int th, .int (nI (pm_yr n)), .int (nI (pm_mo n)), .int (nI (pm_da n)), .int (nI mk), .ref bc, .ref bf, .ref bg, .int (nI wr)])), (bc, .inl (cyI, 366, .inl (pz_ar rc))), (bf, .inl (cyI, 3001, .inl (pz_ar ff))), (bg, .inl (cyI, 3001, .inl (pz_ar gg)))] := hD
  obtain rfl : r = (nI (pm_lw n)) := hr
  have hf_6 := pm_lw_b n
  refine lv_iload_n hx hb dX1_termEnd_28 rfl (lv_at hl 4 rfl) ?_
  refine pn_iadd hx hb dX1_termEnd_29 ?_
  refine lv_goto (tgt := 34) hx hb dX1_termEnd_30 (by decide) ?_
  refine lv_istore (lv' := [(5, .int (nI ((pm_lw n) + dys))), (4, .int (nI 1)), (3, .int (nI 1)), (0, .ref h1), (1, .int (nI n)), (2, .int (nI dys))]) hx hb dX1_termEnd_34 hl (by decide) rfl (fun ls hl => ?_)
  refine lv_iload_n hx hb dX1_termEnd_36 rfl (lv_at hl 2 rfl) ?_
  refine pn_if_eq (tgt := 51) hx hb (by omega) dX1_termEnd_37 (by decide) (fun c_7 => absurd c_7 (by decide)) (fun _ => ?_)
  refine lv_iload hx hb dX1_termEnd_40 (lv_at hl 1 rfl) ?_
  refine pn_if_eq (tgt := 51) hx hb (by omega) dX1_termEnd_42 (by decide) (fun c_8 => absurd c_8 (by decide)) (fun _ => ?_)
  refine lv_iload_n hx hb dX1_termEnd_45 rfl (lv_at hl 4 rfl) ?_
  refine lv_iload_n hx hb dX1_termEnd_46 rfl (lv_at hl 5 rfl) ?_
  refine pn_iadd hx hb dX1_termEnd_47 ?_
  refine lv_goto (tgt := 52) hx hb dX1_termEnd_48 (by decide) ?_
  refine lv_istore (lv' := [(6, .int (nI (n + dys))), (5, .int (nI ((pm_lw n) + dys))), (4, .int (nI 1)), (3, .int (nI 1)), (0, .ref h1), (1, .int (nI n)), (2, .int (nI dys))]) hx hb dX1_termEnd_52 hl (by decide) rfl (fun ls hl => ?_)
  have LP54 : ∀ (N : Nat) (z : Nat) (y2 : Int32) (m2 : Int32) (d2 : Int32) (H : Heap) (locs : List Loc) (ls : Array Slot), 1195750 - z < N → (n + dys ≤ z) → (z ≤ 1195750) → va_P D vwCl [(h1, .inr (1, [.int th, .int y2, .int m2, .int d2, .int (nI mk), .ref bc, .ref bf, .ref bg, .int (nI wr)])), (bc, .inl (cyI, 366, .inl (pz_ar rc))), (bf, .inl (cyI, 3001, .inl (pz_ar ff))), (bg, .inl (cyI, 3001, .inl (pz_ar gg)))] H → va_D A [(h1, .inr (1, [.int th, .int y2, .int m2, .int d2, .int (nI mk), .ref bc, .ref bf, .ref bg, .int (nI wr)])), (bc, .inl (cyI, 366, .inl (pz_ar rc))), (bf, .inl (cyI, 3001, .inl (pz_ar ff))), (bg, .inl (cyI, 3001, .inl (pz_ar gg)))] → va_S A s.heap H locs → lv_has ls 8 [(6, .int (nI z)), (5, .int (nI ((pm_lw n) + dys))), (4, .int (nI 1)), (3, .int (nI 1)), (0, .ref h1), (1, .int (nI n)), (2, .int (nI dys))] → W p l e ({ frames := 4, cells := 0, slots := 0, locals := 85 } : Room) s m ([.ref h1, .int (nI n), .int (nI dys)] : List Value).toArray below meth c H locs 0 0 Q (F0 m 54 ls []) := by
    intro N
    induction N with
    | zero => intro z y2 m2 d2 H locs ls hN; exact absurd hN (Nat.not_lt_zero _)
    | succ N ih =>
      intro z y2 m2 d2 H locs ls hN hi54_0 hi54_1 hP hD hS hl
      have hlz_0 := pm_lw_b z
      have hlz_1 := pm_lw_b (z + 1)
      have hlx_0 : z < 1095750 → pm_lw z ≤ 1094999 := fun h9 => pm_lw_x h9
      have hlx_1 : z + 1 < 1095750 → pm_lw (z + 1) ≤ 1094999 := fun h9 => pm_lw_x h9
      have ih54 := ih
      refine lv_iload hx hb dX1_termEnd_54 (lv_at hl 0 rfl) ?_
      refine lv_iconst (v := nI 1) hx hb dX1_termEnd_56 (by decide) ?_
      refine pn_iadd hx hb dX1_termEnd_57 ?_
      refine lv_ldc (v := nI 1095750) hx hb hown (hts (.constant RX1 65 (1095750)) (by decide +kernel)) dX1_termEnd_58 ?_
      refine pn_icmp_ge (tgt := 91) hx hb (by omega) (by omega) dX1_termEnd_60 (by decide) (fun c_9 => ?_) (fun c_9 => ?_)
      · -- 60 yes
        refine lv_iload hx hb dX1_termEnd_91 (lv_at hl 0 rfl) ?_
        refine lv_ldc (v := nI 1095750) hx hb hown (hts (.constant RX1 65 (1095750)) (by decide +kernel)) dX1_termEnd_93 ?_
        refine pn_icmp_ge (tgt := 113) hx hb (by omega) (by omega) dX1_termEnd_95 (by decide) (fun c_10 => ?_) (fun c_10 => ?_)
        · -- 95 yes
          refine lv_iconst (v := nI 0) hx hb dX1_termEnd_113 (by decide) ?_
          refine lv_istore (lv' := [(7, .int (nI 0)), (6, .int (nI z)), (5, .int (nI ((pm_lw n) + dys))), (4, .int (nI 1)), (3, .int (nI 1)), (0, .ref h1), (1, .int (nI n)), (2, .int (nI dys))]) hx hb dX1_termEnd_114 hl (by decide) rfl (fun ls hl => ?_)
          refine lv_aload_n hx hb dX1_termEnd_116 rfl (lv_at hl 5 rfl) ?_
          refine lv_iload_n hx hb dX1_termEnd_117 rfl (lv_at hl 4 rfl) ?_
          refine pn_if_ne (tgt := 125) hx hb (by omega) dX1_termEnd_118 (by decide) (fun _ => ?_) (fun c_11 => absurd c_11 (by decide))
          refine lv_iload hx hb dX1_termEnd_125 (lv_at hl 3 rfl) ?_
          refine pn_if_ne (tgt := 134) hx hb (by omega) dX1_termEnd_127 (by decide) (fun _ => ?_) (fun c_12 => absurd c_12 (by decide))
          refine lv_iload hx hb dX1_termEnd_134 (lv_at hl 0 rfl) ?_
          refine pn_if_ne (tgt := 143) hx hb (by omega) dX1_termEnd_136 (by decide) (fun c_13 => absurd c_13 (by decide)) (fun _ => ?_)
          refine lv_iconst (v := nI 3) hx hb dX1_termEnd_139 (by decide) ?_
          refine lv_goto (tgt := 144) hx hb dX1_termEnd_140 (by decide) ?_
          refine pz_VI (rest := []) (wr := []) ⟨hx, hb, hml, hown, hts⟩ (k_X1_isFine_k l D h1 bc bf bg cyI ts th y2 m2 d2 mk wr rc ff gg 3 (by omega) (by omega)) (cwV 1 hts gX1_termEnd_X1_isFine rfl rfl rfl (by decide +kernel) ⟨Nat.le_of_ble_eq_true rfl, Nat.le_of_ble_eq_true rfl⟩) hK hP hD hS hA [0, 1, 2, 3] [] rfl rfl rfl rfl rfl (by decide) 0 1 rfl rfl rfl hl.1 rfl (lv_room (Nat.le_of_ble_eq_true rfl)) dX1_termEnd_144 ⟨Nat.le_of_ble_eq_true rfl, Nat.le_of_ble_eq_true rfl⟩ (fun r u H locs hr hP hD hS => ?_)
          have hP : va_P D vwCl [(h1, .inr (1, [.int (nI 3), .int y2, .int m2, .int d2, .int (nI mk), .ref bc, .ref bf, .ref bg, .int (nI wr)])), (bc, .inl (cyI, 366, .inl (pz_ar rc))), (bf, .inl (cyI, 3001, .inl (pz_ar ff))), (bg, .inl (cyI, 3001, .inl (pz_ar gg)))] H := hP
          have hD : va_D A [(h1, .inr (1, [.int (nI 3), .int y2, .int m2, .int d2, .int (nI mk), .ref bc, .ref bf, .ref bg, .int (nI wr)])), (bc, .inl (cyI, 366, .inl (pz_ar rc))), (bf, .inl (cyI, 3001, .inl (pz_ar ff))), (bg, .inl (cyI, 3001, .inl (pz_ar gg)))] := hD
          obtain rfl : r = (nI 0) := hr
          refine pn_if_eq (tgt := 155) hx hb (by omega) dX1_termEnd_147 (by decide) (fun _ => ?_) (fun c_15 => absurd c_15 (by decide))
          refine lv_iconst (v := nI 0) hx hb dX1_termEnd_155 (by decide) ?_
          exact hQ _ _ _ _ _ (y2, m2, d2) dX1_termEnd_156 rfl (congrArg nI (by rfl)) hP hD hS
        · -- 95 no
          refine lv_aload_n hx hb dX1_termEnd_98 rfl (lv_at hl 4 rfl) ?_
          refine lv_iload hx hb dX1_termEnd_99 (lv_at hl 0 rfl) ?_
          refine pz_VI (rest := []) (wr := []) ⟨hx, hb, hml, hown, hts⟩ (k_X1_lawful l D h1 bc bf bg cyI ts th y2 m2 d2 mk wr rc ff gg z (by omega)) (cwV 1 hts gX1_termEnd_X1_lawful rfl rfl rfl (by decide +kernel) ⟨Nat.le_of_ble_eq_true rfl, Nat.le_of_ble_eq_true rfl⟩) hK hP hD hS hA [0, 1, 2, 3] [] rfl rfl rfl rfl rfl (by decide) 0 1 rfl rfl rfl hl.1 rfl (lv_room (Nat.le_of_ble_eq_true rfl)) dX1_termEnd_101 ⟨Nat.le_of_ble_eq_true rfl, Nat.le_of_ble_eq_true rfl⟩ (fun r u H locs hr hP hD hS => ?_)
          have hP : va_P D vwCl [(h1, .inr (1, [.int th, .int (nI (pm_yr z)), .int (nI (pm_mo z)), .int (nI (pm_da z)), .int (nI mk), .ref bc, .ref bf, .ref bg, .int (nI wr)])), (bc, .inl (cyI, 366, .inl (pz_ar rc))), (bf, .inl (cyI, 3001, .inl (pz_ar ff))), (bg, .inl (cyI, 3001, .inl (pz_ar gg)))] H := hP
          have hD : va_D A [(h1, .inr (1, [.int th, .int (nI (pm_yr z)), .int (nI (pm_mo z)), .int (nI (pm_da z)), .int (nI mk), .ref bc, .ref bf, .ref bg, .int (nI wr)])), (bc, .inl (cyI, 366, .inl (pz_ar rc))), (bf, .inl (cyI, 3001, .inl (pz_ar ff))), (bg, .inl (cyI, 3001, .inl (pz_ar gg)))] := hD
          obtain rfl : r = (nI (pm_lw z)) := hr
          have hf_17 := pm_lw_b z
          refine lv_iload hx hb dX1_termEnd_104 (lv_at hl 1 rfl) ?_
          refine pn_icmp_ne (tgt := 113) hx hb (by omega) (by omega) dX1_termEnd_106 (by decide) (fun c_18 => ?_) (fun c_18 => ?_)
          · -- 106 yes
            refine lv_iconst (v := nI 0) hx hb dX1_termEnd_113 (by decide) ?_
            refine lv_istore (lv' := [(7, .int (nI 0)), (6, .int (nI z)), (5, .int (nI ((pm_lw n) + dys))), (4, .int (nI 1)), (3, .int (nI 1)), (0, .ref h1), (1, .int (nI n)), (2, .int (nI dys))]) hx hb dX1_termEnd_114 hl (by decide) rfl (fun ls hl => ?_)
            refine lv_aload_n hx hb dX1_termEnd_116 rfl (lv_at hl 5 rfl) ?_
            refine lv_iload_n hx hb dX1_termEnd_117 rfl (lv_at hl 4 rfl) ?_
            refine pn_if_ne (tgt := 125) hx hb (by omega) dX1_termEnd_118 (by decide) (fun _ => ?_) (fun c_19 => absurd c_19 (by decide))
            refine lv_iload hx hb dX1_termEnd_125 (lv_at hl 3 rfl) ?_
            refine pn_if_ne (tgt := 134) hx hb (by omega) dX1_termEnd_127 (by decide) (fun _ => ?_) (fun c_20 => absurd c_20 (by decide))
            refine lv_iload hx hb dX1_termEnd_134 (lv_at hl 0 rfl) ?_
            refine pn_if_ne (tgt := 143) hx hb (by omega) dX1_termEnd_136 (by decide) (fun c_21 => absurd c_21 (by decide)) (fun _ => ?_)
            refine lv_iconst (v := nI 3) hx hb dX1_termEnd_139 (by decide) ?_
            refine lv_goto (tgt := 144) hx hb dX1_termEnd_140 (by decide) ?_
            refine pz_VI (rest := []) (wr := []) ⟨hx, hb, hml, hown, hts⟩ (k_X1_isFine_k l D h1 bc bf bg cyI ts th (nI (pm_yr z)) (nI (pm_mo z)) (nI (pm_da z)) mk wr rc ff gg 3 (by omega) (by omega)) (cwV 1 hts gX1_termEnd_X1_isFine rfl rfl rfl (by decide +kernel) ⟨Nat.le_of_ble_eq_true rfl, Nat.le_of_ble_eq_true rfl⟩) hK hP hD hS hA [0, 1, 2, 3] [] rfl rfl rfl rfl rfl (by decide) 0 1 rfl rfl rfl hl.1 rfl (lv_room (Nat.le_of_ble_eq_true rfl)) dX1_termEnd_144 ⟨Nat.le_of_ble_eq_true rfl, Nat.le_of_ble_eq_true rfl⟩ (fun r u H locs hr hP hD hS => ?_)
            have hP : va_P D vwCl [(h1, .inr (1, [.int (nI 3), .int (nI (pm_yr z)), .int (nI (pm_mo z)), .int (nI (pm_da z)), .int (nI mk), .ref bc, .ref bf, .ref bg, .int (nI wr)])), (bc, .inl (cyI, 366, .inl (pz_ar rc))), (bf, .inl (cyI, 3001, .inl (pz_ar ff))), (bg, .inl (cyI, 3001, .inl (pz_ar gg)))] H := hP
            have hD : va_D A [(h1, .inr (1, [.int (nI 3), .int (nI (pm_yr z)), .int (nI (pm_mo z)), .int (nI (pm_da z)), .int (nI mk), .ref bc, .ref bf, .ref bg, .int (nI wr)])), (bc, .inl (cyI, 366, .inl (pz_ar rc))), (bf, .inl (cyI, 3001, .inl (pz_ar ff))), (bg, .inl (cyI, 3001, .inl (pz_ar gg)))] := hD
            obtain rfl : r = (nI 0) := hr
            refine pn_if_eq (tgt := 155) hx hb (by omega) dX1_termEnd_147 (by decide) (fun _ => ?_) (fun c_23 => absurd c_23 (by decide))
            refine lv_iconst (v := nI 0) hx hb dX1_termEnd_155 (by decide) ?_
            exact hQ _ _ _ _ _ ((nI (pm_yr z)), (nI (pm_mo z)), (nI (pm_da z))) dX1_termEnd_156 rfl (congrArg nI (by rfl)) hP hD hS
          · -- 106 no
            exfalso; omega
      · -- 60 no
        refine lv_iload_n hx hb dX1_termEnd_63 rfl (lv_at hl 3 rfl) ?_
        refine pn_if_eq (tgt := 91) hx hb (by omega) dX1_termEnd_64 (by decide) (fun c_24 => absurd c_24 (by decide)) (fun _ => ?_)
        refine lv_iload hx hb dX1_termEnd_67 (lv_at hl 2 rfl) ?_
        refine pn_if_eq (tgt := 91) hx hb (by omega) dX1_termEnd_69 (by decide) (fun c_25 => absurd c_25 (by decide)) (fun _ => ?_)
        refine lv_aload_n hx hb dX1_termEnd_72 rfl (lv_at hl 4 rfl) ?_
        refine lv_iload hx hb dX1_termEnd_73 (lv_at hl 0 rfl) ?_
        refine lv_iconst (v := nI 1) hx hb dX1_termEnd_75 (by decide) ?_
        refine pn_iadd hx hb dX1_termEnd_76 ?_
        refine pz_VI (rest := []) (wr := []) ⟨hx, hb, hml, hown, hts⟩ (k_X1_lawful l D h1 bc bf bg cyI ts th y2 m2 d2 mk wr rc ff gg (z + 1) (by omega)) (cwV 1 hts gX1_termEnd_X1_lawful rfl rfl rfl (by decide +kernel) ⟨Nat.le_of_ble_eq_true rfl, Nat.le_of_ble_eq_true rfl⟩) hK hP hD hS hA [0, 1, 2, 3] [] rfl rfl rfl rfl rfl (by decide) 0 1 rfl rfl rfl hl.1 rfl (lv_room (Nat.le_of_ble_eq_true rfl)) dX1_termEnd_77 ⟨Nat.le_of_ble_eq_true rfl, Nat.le_of_ble_eq_true rfl⟩ (fun r u H locs hr hP hD hS => ?_)
        have hP : va_P D vwCl [(h1, .inr (1, [.int th, .int (nI (pm_yr (z + 1))), .int (nI (pm_mo (z + 1))), .int (nI (pm_da (z + 1))), .int (nI mk), .ref bc, .ref bf, .ref bg, .int (nI wr)])), (bc, .inl (cyI, 366, .inl (pz_ar rc))), (bf, .inl (cyI, 3001, .inl (pz_ar ff))), (bg, .inl (cyI, 3001, .inl (pz_ar gg)))] H := hP
        have hD : va_D A [(h1, .inr (1, [.int th, .int (nI (pm_yr (z + 1))), .int (nI (pm_mo (z + 1))), .int (nI (pm_da (z + 1))), .int (nI mk), .ref bc, .ref bf, .ref bg, .int (nI wr)])), (bc, .inl (cyI, 366, .inl (pz_ar rc))), (bf, .inl (cyI, 3001, .inl (pz_ar ff))), (bg, .inl (cyI, 3001, .inl (pz_ar gg)))] := hD
        obtain rfl : r = (nI (pm_lw (z + 1))) := hr
        have hf_27 := pm_lw_b (z + 1)
        refine lv_iload hx hb dX1_termEnd_80 (lv_at hl 1 rfl) ?_
        refine pn_icmp_gt (tgt := 91) hx hb (by omega) (by omega) dX1_termEnd_82 (by decide) (fun c_28 => ?_) (fun c_28 => ?_)
        · -- 82 yes
          refine lv_iload hx hb dX1_termEnd_91 (lv_at hl 0 rfl) ?_
          refine lv_ldc (v := nI 1095750) hx hb hown (hts (.constant RX1 65 (1095750)) (by decide +kernel)) dX1_termEnd_93 ?_
          refine pn_icmp_ge (tgt := 113) hx hb (by omega) (by omega) dX1_termEnd_95 (by decide) (fun c_29 => ?_) (fun c_29 => ?_)
          · -- 95 yes
            refine lv_iconst (v := nI 0) hx hb dX1_termEnd_113 (by decide) ?_
            refine lv_istore (lv' := [(7, .int (nI 0)), (6, .int (nI z)), (5, .int (nI ((pm_lw n) + dys))), (4, .int (nI 1)), (3, .int (nI 1)), (0, .ref h1), (1, .int (nI n)), (2, .int (nI dys))]) hx hb dX1_termEnd_114 hl (by decide) rfl (fun ls hl => ?_)
            refine lv_aload_n hx hb dX1_termEnd_116 rfl (lv_at hl 5 rfl) ?_
            refine lv_iload_n hx hb dX1_termEnd_117 rfl (lv_at hl 4 rfl) ?_
            refine pn_if_ne (tgt := 125) hx hb (by omega) dX1_termEnd_118 (by decide) (fun _ => ?_) (fun c_30 => absurd c_30 (by decide))
            refine lv_iload hx hb dX1_termEnd_125 (lv_at hl 3 rfl) ?_
            refine pn_if_ne (tgt := 134) hx hb (by omega) dX1_termEnd_127 (by decide) (fun _ => ?_) (fun c_31 => absurd c_31 (by decide))
            refine lv_iload hx hb dX1_termEnd_134 (lv_at hl 0 rfl) ?_
            refine pn_if_ne (tgt := 143) hx hb (by omega) dX1_termEnd_136 (by decide) (fun c_32 => absurd c_32 (by decide)) (fun _ => ?_)
            refine lv_iconst (v := nI 3) hx hb dX1_termEnd_139 (by decide) ?_
            refine lv_goto (tgt := 144) hx hb dX1_termEnd_140 (by decide) ?_
            refine pz_VI (rest := []) (wr := []) ⟨hx, hb, hml, hown, hts⟩ (k_X1_isFine_k l D h1 bc bf bg cyI ts th (nI (pm_yr (z + 1))) (nI (pm_mo (z + 1))) (nI (pm_da (z + 1))) mk wr rc ff gg 3 (by omega) (by omega)) (cwV 1 hts gX1_termEnd_X1_isFine rfl rfl rfl (by decide +kernel) ⟨Nat.le_of_ble_eq_true rfl, Nat.le_of_ble_eq_true rfl⟩) hK hP hD hS hA [0, 1, 2, 3] [] rfl rfl rfl rfl rfl (by decide) 0 1 rfl rfl rfl hl.1 rfl (lv_room (Nat.le_of_ble_eq_true rfl)) dX1_termEnd_144 ⟨Nat.le_of_ble_eq_true rfl, Nat.le_of_ble_eq_true rfl⟩ (fun r u H locs hr hP hD hS => ?_)
            have hP : va_P D vwCl [(h1, .inr (1, [.int (nI 3), .int (nI (pm_yr (z + 1))), .int (nI (pm_mo (z + 1))), .int (nI (pm_da (z + 1))), .int (nI mk), .ref bc, .ref bf, .ref bg, .int (nI wr)])), (bc, .inl (cyI, 366, .inl (pz_ar rc))), (bf, .inl (cyI, 3001, .inl (pz_ar ff))), (bg, .inl (cyI, 3001, .inl (pz_ar gg)))] H := hP
            have hD : va_D A [(h1, .inr (1, [.int (nI 3), .int (nI (pm_yr (z + 1))), .int (nI (pm_mo (z + 1))), .int (nI (pm_da (z + 1))), .int (nI mk), .ref bc, .ref bf, .ref bg, .int (nI wr)])), (bc, .inl (cyI, 366, .inl (pz_ar rc))), (bf, .inl (cyI, 3001, .inl (pz_ar ff))), (bg, .inl (cyI, 3001, .inl (pz_ar gg)))] := hD
            obtain rfl : r = (nI 0) := hr
            refine pn_if_eq (tgt := 155) hx hb (by omega) dX1_termEnd_147 (by decide) (fun _ => ?_) (fun c_34 => absurd c_34 (by decide))
            refine lv_iconst (v := nI 0) hx hb dX1_termEnd_155 (by decide) ?_
            exact hQ _ _ _ _ _ ((nI (pm_yr (z + 1))), (nI (pm_mo (z + 1))), (nI (pm_da (z + 1)))) dX1_termEnd_156 rfl (congrArg nI (by rfl)) hP hD hS
          · -- 95 no
            refine lv_aload_n hx hb dX1_termEnd_98 rfl (lv_at hl 4 rfl) ?_
            refine lv_iload hx hb dX1_termEnd_99 (lv_at hl 0 rfl) ?_
            refine pz_VI (rest := []) (wr := []) ⟨hx, hb, hml, hown, hts⟩ (k_X1_lawful l D h1 bc bf bg cyI ts th (nI (pm_yr (z + 1))) (nI (pm_mo (z + 1))) (nI (pm_da (z + 1))) mk wr rc ff gg z (by omega)) (cwV 1 hts gX1_termEnd_X1_lawful rfl rfl rfl (by decide +kernel) ⟨Nat.le_of_ble_eq_true rfl, Nat.le_of_ble_eq_true rfl⟩) hK hP hD hS hA [0, 1, 2, 3] [] rfl rfl rfl rfl rfl (by decide) 0 1 rfl rfl rfl hl.1 rfl (lv_room (Nat.le_of_ble_eq_true rfl)) dX1_termEnd_101 ⟨Nat.le_of_ble_eq_true rfl, Nat.le_of_ble_eq_true rfl⟩ (fun r u H locs hr hP hD hS => ?_)
            have hP : va_P D vwCl [(h1, .inr (1, [.int th, .int (nI (pm_yr z)), .int (nI (pm_mo z)), .int (nI (pm_da z)), .int (nI mk), .ref bc, .ref bf, .ref bg, .int (nI wr)])), (bc, .inl (cyI, 366, .inl (pz_ar rc))), (bf, .inl (cyI, 3001, .inl (pz_ar ff))), (bg, .inl (cyI, 3001, .inl (pz_ar gg)))] H := hP
            have hD : va_D A [(h1, .inr (1, [.int th, .int (nI (pm_yr z)), .int (nI (pm_mo z)), .int (nI (pm_da z)), .int (nI mk), .ref bc, .ref bf, .ref bg, .int (nI wr)])), (bc, .inl (cyI, 366, .inl (pz_ar rc))), (bf, .inl (cyI, 3001, .inl (pz_ar ff))), (bg, .inl (cyI, 3001, .inl (pz_ar gg)))] := hD
            obtain rfl : r = (nI (pm_lw z)) := hr
            have hf_36 := pm_lw_b z
            refine lv_iload hx hb dX1_termEnd_104 (lv_at hl 1 rfl) ?_
            refine pn_icmp_ne (tgt := 113) hx hb (by omega) (by omega) dX1_termEnd_106 (by decide) (fun c_37 => ?_) (fun c_37 => ?_)
            · -- 106 yes
              refine lv_iconst (v := nI 0) hx hb dX1_termEnd_113 (by decide) ?_
              refine lv_istore (lv' := [(7, .int (nI 0)), (6, .int (nI z)), (5, .int (nI ((pm_lw n) + dys))), (4, .int (nI 1)), (3, .int (nI 1)), (0, .ref h1), (1, .int (nI n)), (2, .int (nI dys))]) hx hb dX1_termEnd_114 hl (by decide) rfl (fun ls hl => ?_)
              refine lv_aload_n hx hb dX1_termEnd_116 rfl (lv_at hl 5 rfl) ?_
              refine lv_iload_n hx hb dX1_termEnd_117 rfl (lv_at hl 4 rfl) ?_
              refine pn_if_ne (tgt := 125) hx hb (by omega) dX1_termEnd_118 (by decide) (fun _ => ?_) (fun c_38 => absurd c_38 (by decide))
              refine lv_iload hx hb dX1_termEnd_125 (lv_at hl 3 rfl) ?_
              refine pn_if_ne (tgt := 134) hx hb (by omega) dX1_termEnd_127 (by decide) (fun _ => ?_) (fun c_39 => absurd c_39 (by decide))
              refine lv_iload hx hb dX1_termEnd_134 (lv_at hl 0 rfl) ?_
              refine pn_if_ne (tgt := 143) hx hb (by omega) dX1_termEnd_136 (by decide) (fun c_40 => absurd c_40 (by decide)) (fun _ => ?_)
              refine lv_iconst (v := nI 3) hx hb dX1_termEnd_139 (by decide) ?_
              refine lv_goto (tgt := 144) hx hb dX1_termEnd_140 (by decide) ?_
              refine pz_VI (rest := []) (wr := []) ⟨hx, hb, hml, hown, hts⟩ (k_X1_isFine_k l D h1 bc bf bg cyI ts th (nI (pm_yr z)) (nI (pm_mo z)) (nI (pm_da z)) mk wr rc ff gg 3 (by omega) (by omega)) (cwV 1 hts gX1_termEnd_X1_isFine rfl rfl rfl (by decide +kernel) ⟨Nat.le_of_ble_eq_true rfl, Nat.le_of_ble_eq_true rfl⟩) hK hP hD hS hA [0, 1, 2, 3] [] rfl rfl rfl rfl rfl (by decide) 0 1 rfl rfl rfl hl.1 rfl (lv_room (Nat.le_of_ble_eq_true rfl)) dX1_termEnd_144 ⟨Nat.le_of_ble_eq_true rfl, Nat.le_of_ble_eq_true rfl⟩ (fun r u H locs hr hP hD hS => ?_)
              have hP : va_P D vwCl [(h1, .inr (1, [.int (nI 3), .int (nI (pm_yr z)), .int (nI (pm_mo z)), .int (nI (pm_da z)), .int (nI mk), .ref bc, .ref bf, .ref bg, .int (nI wr)])), (bc, .inl (cyI, 366, .inl (pz_ar rc))), (bf, .inl (cyI, 3001, .inl (pz_ar ff))), (bg, .inl (cyI, 3001, .inl (pz_ar gg)))] H := hP
              have hD : va_D A [(h1, .inr (1, [.int (nI 3), .int (nI (pm_yr z)), .int (nI (pm_mo z)), .int (nI (pm_da z)), .int (nI mk), .ref bc, .ref bf, .ref bg, .int (nI wr)])), (bc, .inl (cyI, 366, .inl (pz_ar rc))), (bf, .inl (cyI, 3001, .inl (pz_ar ff))), (bg, .inl (cyI, 3001, .inl (pz_ar gg)))] := hD
              obtain rfl : r = (nI 0) := hr
              refine pn_if_eq (tgt := 155) hx hb (by omega) dX1_termEnd_147 (by decide) (fun _ => ?_) (fun c_42 => absurd c_42 (by decide))
              refine lv_iconst (v := nI 0) hx hb dX1_termEnd_155 (by decide) ?_
              exact hQ _ _ _ _ _ ((nI (pm_yr z)), (nI (pm_mo z)), (nI (pm_da z))) dX1_termEnd_156 rfl (congrArg nI (by rfl)) hP hD hS
            · -- 106 no
              exfalso; omega
        · -- 82 no
          refine lv_iinc (v := (nI (z + 1))) (lv' := [(6, .int (nI (z + 1))), (5, .int (nI ((pm_lw n) + dys))), (4, .int (nI 1)), (3, .int (nI 1)), (0, .ref h1), (1, .int (nI n)), (2, .int (nI dys))]) hx hb dX1_termEnd_85 hl (k := 0) rfl (by exact nI_add _ 1) (by decide) rfl (fun ls hl => ?_)
          refine lv_goto (tgt := 54) hx hb dX1_termEnd_88 (by decide) ?_
          exact ih54 (z + 1) (nI (pm_yr (z + 1))) (nI (pm_mo (z + 1))) (nI (pm_da (z + 1))) _ _ _ (by omega) (by omega) (by omega) hP hD hS (lv_sub hl [0, 1, 2, 3, 4, 5, 6] rfl)
  exact LP54 _ (n + dys) (nI (pm_yr n)) (nI (pm_mo n)) (nI (pm_da n)) _ _ _ (Nat.lt_succ_self _) (by omega) (by omega) hP hD hS (lv_sub hl [0, 1, 2, 3, 4, 5, 6] rfl)
set_option maxHeartbeats 4000000 in
set_option maxRecDepth 100000 in
theorem k_X1_termEnd_x (l : Launch) (D : va_G) (h1 bc bf bg : Nat) (cyI : ClassId) (ts : List (ClassId × FieldType)) (th yr mo da : Int32) (mk wr : Nat) (rc ff gg : Nat → Nat) (x x2 : Int32) (hy0 : x.toInt < 0 ∨ 1095749 < x.toInt) : pz_I l yX1_termEnd wsX1_termEnd ({ frames := 4, cells := 0, slots := 0, locals := 85 } : Room) D ((cyI, .int) :: ts) [.ref h1, .int x, .int x2] [(h1, .inr (1, [.int th, .int yr, .int mo, .int da, .int (nI mk), .ref bc, .ref bf, .ref bg, .int (nI wr)])), (bc, .inl (cyI, 366, .inl (pz_ar rc))), (bf, .inl (cyI, 3001, .inl (pz_ar ff))), (bg, .inl (cyI, 3001, .inl (pz_ar gg)))] (S := Int32 × Int32 × Int32) (fun r _ => r = nI 0) (fun u => [(h1, .inr (1, [.int (nI 1), .int u.1, .int u.2.1, .int u.2.2, .int (nI mk), .ref bc, .ref bf, .ref bg, .int (nI wr)])), (bc, .inl (cyI, 366, .inl (pz_ar rc))), (bf, .inl (cyI, 3001, .inl (pz_ar ff))), (bg, .inl (cyI, 3001, .inl (pz_ar gg)))]) := by
  refine pz_I_of (cc := cX1_termEnd) (maxL := 8) (ty := .int) (own := RX1) (by decide) rfl rfl (Nat.le_of_ble_eq_true rfl) ?_
  intro p e s m below meth c A ls Q hx hb hml hown hts hK hP hD hS hA hl hQ
  have hl : lv_has ls 8 [(0, .ref h1), (1, .int x), (2, .int x2)] := hl
  refine lv_iload_n hx hb dX1_termEnd_0 rfl (lv_at hl 1 rfl) ?_
  refine pz_SR (rest := []) ⟨hx, hb, hml, hown, hts⟩ (k_X1_isDay_x l D ((cyI, .int) :: ts) x (by omega)) (va_cwS 1 hts gX1_termEnd_X1_isDay rfl rfl rfl (by decide +kernel) ⟨Nat.le_of_ble_eq_true rfl, Nat.le_of_ble_eq_true rfl⟩) hK hP (hD.weaken (fun _ _ _ _ => trivial)) hS hA [] rfl rfl rfl rfl hl.1 rfl (lv_room (Nat.le_of_ble_eq_true rfl)) dX1_termEnd_1 ⟨Nat.le_of_ble_eq_true rfl, Nat.le_of_ble_eq_true rfl⟩ (fun r H locs hr hP hS => ?_)
  obtain rfl : r = (nI 0) := hr
  refine lv_istore_n (lv' := [(3, .int (nI 0)), (0, .ref h1), (1, .int x), (2, .int x2)]) hx hb dX1_termEnd_4 rfl hl (by decide) rfl (fun ls hl => ?_)
  refine lv_iload_n hx hb dX1_termEnd_5 rfl (lv_at hl 3 rfl) ?_
  refine lv_iconst (v := nI 0) hx hb dX1_termEnd_6 (by decide) ?_
  refine lv_ldc (v := nI 100000) hx hb hown (hts (.constant RX1 100 (100000)) (by decide +kernel)) dX1_termEnd_7 ?_
  rcases pz_rng x2 0 100000 (by decide) with ⟨dys, hl_dys, hh_dys, rfl⟩ | hb_x2
  · -- in range
    have ei_dys : (nI dys).toInt = (dys : Int) := nI_toInt (by omega)
    refine pz_SR (rest := []) ⟨hx, hb, hml, hown, hts⟩ (k_X1_isIn_a l D ((cyI, .int) :: ts) dys 0 100000 (by omega) (by omega) (by omega)) (va_cwS 3 hts gX1_termEnd_X1_isIn rfl rfl rfl (by decide +kernel) ⟨Nat.le_of_ble_eq_true rfl, Nat.le_of_ble_eq_true rfl⟩) hK hP (hD.weaken (fun _ _ _ _ => trivial)) hS hA [] rfl rfl rfl rfl hl.1 rfl (lv_room (Nat.le_of_ble_eq_true rfl)) dX1_termEnd_9 ⟨Nat.le_of_ble_eq_true rfl, Nat.le_of_ble_eq_true rfl⟩ (fun r H locs hr hP hS => ?_)
    obtain rfl : r = (nI 1) := hr
    refine lv_istore (lv' := [(4, .int (nI 1)), (3, .int (nI 0)), (0, .ref h1), (1, .int x), (2, .int (nI dys))]) hx hb dX1_termEnd_12 hl (by decide) rfl (fun ls hl => ?_)
    refine lv_iload_n hx hb dX1_termEnd_14 rfl (lv_at hl 1 rfl) ?_
    refine pn_if_eq (tgt := 33) hx hb (by omega) dX1_termEnd_15 (by decide) (fun _ => ?_) (fun c_3 => absurd c_3 (by decide))
    refine lv_iconst (v := nI 0) hx hb dX1_termEnd_33 (by decide) ?_
    refine lv_istore (lv' := [(5, .int (nI 0)), (4, .int (nI 1)), (3, .int (nI 0)), (0, .ref h1), (1, .int x), (2, .int (nI dys))]) hx hb dX1_termEnd_34 hl (by decide) rfl (fun ls hl => ?_)
    refine lv_iload_n hx hb dX1_termEnd_36 rfl (lv_at hl 2 rfl) ?_
    refine pn_if_eq (tgt := 51) hx hb (by omega) dX1_termEnd_37 (by decide) (fun _ => ?_) (fun c_4 => absurd c_4 (by decide))
    refine lv_iconst (v := nI 0) hx hb dX1_termEnd_51 (by decide) ?_
    refine lv_istore (lv' := [(6, .int (nI 0)), (5, .int (nI 0)), (4, .int (nI 1)), (3, .int (nI 0)), (0, .ref h1), (1, .int x), (2, .int (nI dys))]) hx hb dX1_termEnd_52 hl (by decide) rfl (fun ls hl => ?_)
    refine lv_iload hx hb dX1_termEnd_54 (lv_at hl 0 rfl) ?_
    refine lv_iconst (v := nI 1) hx hb dX1_termEnd_56 (by decide) ?_
    refine pn_iadd hx hb dX1_termEnd_57 ?_
    refine lv_ldc (v := nI 1095750) hx hb hown (hts (.constant RX1 65 (1095750)) (by decide +kernel)) dX1_termEnd_58 ?_
    refine pn_icmp_ge (tgt := 91) hx hb (by omega) (by omega) dX1_termEnd_60 (by decide) (fun c_5 => ?_) (fun c_5 => ?_)
    · -- 60 yes
      refine lv_iload hx hb dX1_termEnd_91 (lv_at hl 0 rfl) ?_
      refine lv_ldc (v := nI 1095750) hx hb hown (hts (.constant RX1 65 (1095750)) (by decide +kernel)) dX1_termEnd_93 ?_
      refine pn_icmp_ge (tgt := 113) hx hb (by omega) (by omega) dX1_termEnd_95 (by decide) (fun c_6 => absurd c_6 (by decide)) (fun _ => ?_)
      refine lv_aload_n hx hb dX1_termEnd_98 rfl (lv_at hl 4 rfl) ?_
      refine lv_iload hx hb dX1_termEnd_99 (lv_at hl 0 rfl) ?_
      refine pz_VI (rest := []) (wr := []) ⟨hx, hb, hml, hown, hts⟩ (k_X1_lawful l D h1 bc bf bg cyI ts th yr mo da mk wr rc ff gg 0 (by omega)) (cwV 1 hts gX1_termEnd_X1_lawful rfl rfl rfl (by decide +kernel) ⟨Nat.le_of_ble_eq_true rfl, Nat.le_of_ble_eq_true rfl⟩) hK hP hD hS hA [0, 1, 2, 3] [] rfl rfl rfl rfl rfl (by decide) 0 1 rfl rfl rfl hl.1 rfl (lv_room (Nat.le_of_ble_eq_true rfl)) dX1_termEnd_101 ⟨Nat.le_of_ble_eq_true rfl, Nat.le_of_ble_eq_true rfl⟩ (fun r u H locs hr hP hD hS => ?_)
      have hP : va_P D vwCl [(h1, .inr (1, [.int th, .int (nI (pm_yr 0)), .int (nI (pm_mo 0)), .int (nI (pm_da 0)), .int (nI mk), .ref bc, .ref bf, .ref bg, .int (nI wr)])), (bc, .inl (cyI, 366, .inl (pz_ar rc))), (bf, .inl (cyI, 3001, .inl (pz_ar ff))), (bg, .inl (cyI, 3001, .inl (pz_ar gg)))] H := hP
      have hD : va_D A [(h1, .inr (1, [.int th, .int (nI (pm_yr 0)), .int (nI (pm_mo 0)), .int (nI (pm_da 0)), .int (nI mk), .ref bc, .ref bf, .ref bg, .int (nI wr)])), (bc, .inl (cyI, 366, .inl (pz_ar rc))), (bf, .inl (cyI, 3001, .inl (pz_ar ff))), (bg, .inl (cyI, 3001, .inl (pz_ar gg)))] := hD
      obtain rfl : r = (nI (pm_lw 0)) := hr
      have hf_8 := pm_lw_b 0
      refine lv_iload hx hb dX1_termEnd_104 (lv_at hl 1 rfl) ?_
      refine pn_icmp_ne (tgt := 113) hx hb (by omega) (by omega) dX1_termEnd_106 (by decide) (fun c_9 => ?_) (fun c_9 => ?_)
      · -- 106 yes
        refine lv_iconst (v := nI 0) hx hb dX1_termEnd_113 (by decide) ?_
        refine lv_istore (lv' := [(7, .int (nI 0)), (6, .int (nI 0)), (5, .int (nI 0)), (4, .int (nI 1)), (3, .int (nI 0)), (0, .ref h1), (1, .int x), (2, .int (nI dys))]) hx hb dX1_termEnd_114 hl (by decide) rfl (fun ls hl => ?_)
        refine lv_aload_n hx hb dX1_termEnd_116 rfl (lv_at hl 5 rfl) ?_
        refine lv_iload_n hx hb dX1_termEnd_117 rfl (lv_at hl 4 rfl) ?_
        refine pn_if_ne (tgt := 125) hx hb (by omega) dX1_termEnd_118 (by decide) (fun c_10 => absurd c_10 (by decide)) (fun _ => ?_)
        refine lv_iconst (v := nI 1) hx hb dX1_termEnd_121 (by decide) ?_
        refine lv_goto (tgt := 144) hx hb dX1_termEnd_122 (by decide) ?_
        refine pz_VI (rest := []) (wr := []) ⟨hx, hb, hml, hown, hts⟩ (k_X1_isFine_k l D h1 bc bf bg cyI ts th (nI (pm_yr 0)) (nI (pm_mo 0)) (nI (pm_da 0)) mk wr rc ff gg 1 (by omega) (by omega)) (cwV 1 hts gX1_termEnd_X1_isFine rfl rfl rfl (by decide +kernel) ⟨Nat.le_of_ble_eq_true rfl, Nat.le_of_ble_eq_true rfl⟩) hK hP hD hS hA [0, 1, 2, 3] [] rfl rfl rfl rfl rfl (by decide) 0 1 rfl rfl rfl hl.1 rfl (lv_room (Nat.le_of_ble_eq_true rfl)) dX1_termEnd_144 ⟨Nat.le_of_ble_eq_true rfl, Nat.le_of_ble_eq_true rfl⟩ (fun r u H locs hr hP hD hS => ?_)
        have hP : va_P D vwCl [(h1, .inr (1, [.int (nI 1), .int (nI (pm_yr 0)), .int (nI (pm_mo 0)), .int (nI (pm_da 0)), .int (nI mk), .ref bc, .ref bf, .ref bg, .int (nI wr)])), (bc, .inl (cyI, 366, .inl (pz_ar rc))), (bf, .inl (cyI, 3001, .inl (pz_ar ff))), (bg, .inl (cyI, 3001, .inl (pz_ar gg)))] H := hP
        have hD : va_D A [(h1, .inr (1, [.int (nI 1), .int (nI (pm_yr 0)), .int (nI (pm_mo 0)), .int (nI (pm_da 0)), .int (nI mk), .ref bc, .ref bf, .ref bg, .int (nI wr)])), (bc, .inl (cyI, 366, .inl (pz_ar rc))), (bf, .inl (cyI, 3001, .inl (pz_ar ff))), (bg, .inl (cyI, 3001, .inl (pz_ar gg)))] := hD
        obtain rfl : r = (nI 0) := hr
        refine pn_if_eq (tgt := 155) hx hb (by omega) dX1_termEnd_147 (by decide) (fun _ => ?_) (fun c_12 => absurd c_12 (by decide))
        refine lv_iconst (v := nI 0) hx hb dX1_termEnd_155 (by decide) ?_
        exact hQ _ _ _ _ _ ((nI (pm_yr 0)), (nI (pm_mo 0)), (nI (pm_da 0))) dX1_termEnd_156 rfl (congrArg nI (by rfl)) hP hD hS
      · -- 106 no
        refine lv_iconst (v := nI 1) hx hb dX1_termEnd_109 (by decide) ?_
        refine lv_goto (tgt := 114) hx hb dX1_termEnd_110 (by decide) ?_
        refine lv_istore (lv' := [(7, .int (nI 1)), (6, .int (nI 0)), (5, .int (nI 0)), (4, .int (nI 1)), (3, .int (nI 0)), (0, .ref h1), (1, .int x), (2, .int (nI dys))]) hx hb dX1_termEnd_114 hl (by decide) rfl (fun ls hl => ?_)
        refine lv_aload_n hx hb dX1_termEnd_116 rfl (lv_at hl 5 rfl) ?_
        refine lv_iload_n hx hb dX1_termEnd_117 rfl (lv_at hl 4 rfl) ?_
        refine pn_if_ne (tgt := 125) hx hb (by omega) dX1_termEnd_118 (by decide) (fun c_13 => absurd c_13 (by decide)) (fun _ => ?_)
        refine lv_iconst (v := nI 1) hx hb dX1_termEnd_121 (by decide) ?_
        refine lv_goto (tgt := 144) hx hb dX1_termEnd_122 (by decide) ?_
        refine pz_VI (rest := []) (wr := []) ⟨hx, hb, hml, hown, hts⟩ (k_X1_isFine_k l D h1 bc bf bg cyI ts th (nI (pm_yr 0)) (nI (pm_mo 0)) (nI (pm_da 0)) mk wr rc ff gg 1 (by omega) (by omega)) (cwV 1 hts gX1_termEnd_X1_isFine rfl rfl rfl (by decide +kernel) ⟨Nat.le_of_ble_eq_true rfl, Nat.le_of_ble_eq_true rfl⟩) hK hP hD hS hA [0, 1, 2, 3] [] rfl rfl rfl rfl rfl (by decide) 0 1 rfl rfl rfl hl.1 rfl (lv_room (Nat.le_of_ble_eq_true rfl)) dX1_termEnd_144 ⟨Nat.le_of_ble_eq_true rfl, Nat.le_of_ble_eq_true rfl⟩ (fun r u H locs hr hP hD hS => ?_)
        have hP : va_P D vwCl [(h1, .inr (1, [.int (nI 1), .int (nI (pm_yr 0)), .int (nI (pm_mo 0)), .int (nI (pm_da 0)), .int (nI mk), .ref bc, .ref bf, .ref bg, .int (nI wr)])), (bc, .inl (cyI, 366, .inl (pz_ar rc))), (bf, .inl (cyI, 3001, .inl (pz_ar ff))), (bg, .inl (cyI, 3001, .inl (pz_ar gg)))] H := hP
        have hD : va_D A [(h1, .inr (1, [.int (nI 1), .int (nI (pm_yr 0)), .int (nI (pm_mo 0)), .int (nI (pm_da 0)), .int (nI mk), .ref bc, .ref bf, .ref bg, .int (nI wr)])), (bc, .inl (cyI, 366, .inl (pz_ar rc))), (bf, .inl (cyI, 3001, .inl (pz_ar ff))), (bg, .inl (cyI, 3001, .inl (pz_ar gg)))] := hD
        obtain rfl : r = (nI 0) := hr
        refine pn_if_eq (tgt := 155) hx hb (by omega) dX1_termEnd_147 (by decide) (fun _ => ?_) (fun c_15 => absurd c_15 (by decide))
        refine lv_iconst (v := nI 0) hx hb dX1_termEnd_155 (by decide) ?_
        exact hQ _ _ _ _ _ ((nI (pm_yr 0)), (nI (pm_mo 0)), (nI (pm_da 0))) dX1_termEnd_156 rfl (congrArg nI (by rfl)) hP hD hS
    · -- 60 no
      refine lv_iload_n hx hb dX1_termEnd_63 rfl (lv_at hl 3 rfl) ?_
      refine pn_if_eq (tgt := 91) hx hb (by omega) dX1_termEnd_64 (by decide) (fun _ => ?_) (fun c_16 => absurd c_16 (by decide))
      refine lv_iload hx hb dX1_termEnd_91 (lv_at hl 0 rfl) ?_
      refine lv_ldc (v := nI 1095750) hx hb hown (hts (.constant RX1 65 (1095750)) (by decide +kernel)) dX1_termEnd_93 ?_
      refine pn_icmp_ge (tgt := 113) hx hb (by omega) (by omega) dX1_termEnd_95 (by decide) (fun c_17 => absurd c_17 (by decide)) (fun _ => ?_)
      refine lv_aload_n hx hb dX1_termEnd_98 rfl (lv_at hl 4 rfl) ?_
      refine lv_iload hx hb dX1_termEnd_99 (lv_at hl 0 rfl) ?_
      refine pz_VI (rest := []) (wr := []) ⟨hx, hb, hml, hown, hts⟩ (k_X1_lawful l D h1 bc bf bg cyI ts th yr mo da mk wr rc ff gg 0 (by omega)) (cwV 1 hts gX1_termEnd_X1_lawful rfl rfl rfl (by decide +kernel) ⟨Nat.le_of_ble_eq_true rfl, Nat.le_of_ble_eq_true rfl⟩) hK hP hD hS hA [0, 1, 2, 3] [] rfl rfl rfl rfl rfl (by decide) 0 1 rfl rfl rfl hl.1 rfl (lv_room (Nat.le_of_ble_eq_true rfl)) dX1_termEnd_101 ⟨Nat.le_of_ble_eq_true rfl, Nat.le_of_ble_eq_true rfl⟩ (fun r u H locs hr hP hD hS => ?_)
      have hP : va_P D vwCl [(h1, .inr (1, [.int th, .int (nI (pm_yr 0)), .int (nI (pm_mo 0)), .int (nI (pm_da 0)), .int (nI mk), .ref bc, .ref bf, .ref bg, .int (nI wr)])), (bc, .inl (cyI, 366, .inl (pz_ar rc))), (bf, .inl (cyI, 3001, .inl (pz_ar ff))), (bg, .inl (cyI, 3001, .inl (pz_ar gg)))] H := hP
      have hD : va_D A [(h1, .inr (1, [.int th, .int (nI (pm_yr 0)), .int (nI (pm_mo 0)), .int (nI (pm_da 0)), .int (nI mk), .ref bc, .ref bf, .ref bg, .int (nI wr)])), (bc, .inl (cyI, 366, .inl (pz_ar rc))), (bf, .inl (cyI, 3001, .inl (pz_ar ff))), (bg, .inl (cyI, 3001, .inl (pz_ar gg)))] := hD
      obtain rfl : r = (nI (pm_lw 0)) := hr
      have hf_19 := pm_lw_b 0
      refine lv_iload hx hb dX1_termEnd_104 (lv_at hl 1 rfl) ?_
      refine pn_icmp_ne (tgt := 113) hx hb (by omega) (by omega) dX1_termEnd_106 (by decide) (fun c_20 => ?_) (fun c_20 => ?_)
      · -- 106 yes
        refine lv_iconst (v := nI 0) hx hb dX1_termEnd_113 (by decide) ?_
        refine lv_istore (lv' := [(7, .int (nI 0)), (6, .int (nI 0)), (5, .int (nI 0)), (4, .int (nI 1)), (3, .int (nI 0)), (0, .ref h1), (1, .int x), (2, .int (nI dys))]) hx hb dX1_termEnd_114 hl (by decide) rfl (fun ls hl => ?_)
        refine lv_aload_n hx hb dX1_termEnd_116 rfl (lv_at hl 5 rfl) ?_
        refine lv_iload_n hx hb dX1_termEnd_117 rfl (lv_at hl 4 rfl) ?_
        refine pn_if_ne (tgt := 125) hx hb (by omega) dX1_termEnd_118 (by decide) (fun c_21 => absurd c_21 (by decide)) (fun _ => ?_)
        refine lv_iconst (v := nI 1) hx hb dX1_termEnd_121 (by decide) ?_
        refine lv_goto (tgt := 144) hx hb dX1_termEnd_122 (by decide) ?_
        refine pz_VI (rest := []) (wr := []) ⟨hx, hb, hml, hown, hts⟩ (k_X1_isFine_k l D h1 bc bf bg cyI ts th (nI (pm_yr 0)) (nI (pm_mo 0)) (nI (pm_da 0)) mk wr rc ff gg 1 (by omega) (by omega)) (cwV 1 hts gX1_termEnd_X1_isFine rfl rfl rfl (by decide +kernel) ⟨Nat.le_of_ble_eq_true rfl, Nat.le_of_ble_eq_true rfl⟩) hK hP hD hS hA [0, 1, 2, 3] [] rfl rfl rfl rfl rfl (by decide) 0 1 rfl rfl rfl hl.1 rfl (lv_room (Nat.le_of_ble_eq_true rfl)) dX1_termEnd_144 ⟨Nat.le_of_ble_eq_true rfl, Nat.le_of_ble_eq_true rfl⟩ (fun r u H locs hr hP hD hS => ?_)
        have hP : va_P D vwCl [(h1, .inr (1, [.int (nI 1), .int (nI (pm_yr 0)), .int (nI (pm_mo 0)), .int (nI (pm_da 0)), .int (nI mk), .ref bc, .ref bf, .ref bg, .int (nI wr)])), (bc, .inl (cyI, 366, .inl (pz_ar rc))), (bf, .inl (cyI, 3001, .inl (pz_ar ff))), (bg, .inl (cyI, 3001, .inl (pz_ar gg)))] H := hP
        have hD : va_D A [(h1, .inr (1, [.int (nI 1), .int (nI (pm_yr 0)), .int (nI (pm_mo 0)), .int (nI (pm_da 0)), .int (nI mk), .ref bc, .ref bf, .ref bg, .int (nI wr)])), (bc, .inl (cyI, 366, .inl (pz_ar rc))), (bf, .inl (cyI, 3001, .inl (pz_ar ff))), (bg, .inl (cyI, 3001, .inl (pz_ar gg)))] := hD
        obtain rfl : r = (nI 0) := hr
        refine pn_if_eq (tgt := 155) hx hb (by omega) dX1_termEnd_147 (by decide) (fun _ => ?_) (fun c_23 => absurd c_23 (by decide))
        refine lv_iconst (v := nI 0) hx hb dX1_termEnd_155 (by decide) ?_
        exact hQ _ _ _ _ _ ((nI (pm_yr 0)), (nI (pm_mo 0)), (nI (pm_da 0))) dX1_termEnd_156 rfl (congrArg nI (by rfl)) hP hD hS
      · -- 106 no
        refine lv_iconst (v := nI 1) hx hb dX1_termEnd_109 (by decide) ?_
        refine lv_goto (tgt := 114) hx hb dX1_termEnd_110 (by decide) ?_
        refine lv_istore (lv' := [(7, .int (nI 1)), (6, .int (nI 0)), (5, .int (nI 0)), (4, .int (nI 1)), (3, .int (nI 0)), (0, .ref h1), (1, .int x), (2, .int (nI dys))]) hx hb dX1_termEnd_114 hl (by decide) rfl (fun ls hl => ?_)
        refine lv_aload_n hx hb dX1_termEnd_116 rfl (lv_at hl 5 rfl) ?_
        refine lv_iload_n hx hb dX1_termEnd_117 rfl (lv_at hl 4 rfl) ?_
        refine pn_if_ne (tgt := 125) hx hb (by omega) dX1_termEnd_118 (by decide) (fun c_24 => absurd c_24 (by decide)) (fun _ => ?_)
        refine lv_iconst (v := nI 1) hx hb dX1_termEnd_121 (by decide) ?_
        refine lv_goto (tgt := 144) hx hb dX1_termEnd_122 (by decide) ?_
        refine pz_VI (rest := []) (wr := []) ⟨hx, hb, hml, hown, hts⟩ (k_X1_isFine_k l D h1 bc bf bg cyI ts th (nI (pm_yr 0)) (nI (pm_mo 0)) (nI (pm_da 0)) mk wr rc ff gg 1 (by omega) (by omega)) (cwV 1 hts gX1_termEnd_X1_isFine rfl rfl rfl (by decide +kernel) ⟨Nat.le_of_ble_eq_true rfl, Nat.le_of_ble_eq_true rfl⟩) hK hP hD hS hA [0, 1, 2, 3] [] rfl rfl rfl rfl rfl (by decide) 0 1 rfl rfl rfl hl.1 rfl (lv_room (Nat.le_of_ble_eq_true rfl)) dX1_termEnd_144 ⟨Nat.le_of_ble_eq_true rfl, Nat.le_of_ble_eq_true rfl⟩ (fun r u H locs hr hP hD hS => ?_)
        have hP : va_P D vwCl [(h1, .inr (1, [.int (nI 1), .int (nI (pm_yr 0)), .int (nI (pm_mo 0)), .int (nI (pm_da 0)), .int (nI mk), .ref bc, .ref bf, .ref bg, .int (nI wr)])), (bc, .inl (cyI, 366, .inl (pz_ar rc))), (bf, .inl (cyI, 3001, .inl (pz_ar ff))), (bg, .inl (cyI, 3001, .inl (pz_ar gg)))] H := hP
        have hD : va_D A [(h1, .inr (1, [.int (nI 1), .int (nI (pm_yr 0)), .int (nI (pm_mo 0)), .int (nI (pm_da 0)), .int (nI mk), .ref bc, .ref bf, .ref bg, .int (nI wr)])), (bc, .inl (cyI, 366, .inl (pz_ar rc))), (bf, .inl (cyI, 3001, .inl (pz_ar ff))), (bg, .inl (cyI, 3001, .inl (pz_ar gg)))] := hD
        obtain rfl : r = (nI 0) := hr
        refine pn_if_eq (tgt := 155) hx hb (by omega) dX1_termEnd_147 (by decide) (fun _ => ?_) (fun c_26 => absurd c_26 (by decide))
        refine lv_iconst (v := nI 0) hx hb dX1_termEnd_155 (by decide) ?_
        exact hQ _ _ _ _ _ ((nI (pm_yr 0)), (nI (pm_mo 0)), (nI (pm_da 0))) dX1_termEnd_156 rfl (congrArg nI (by rfl)) hP hD hS
  · -- outside
    refine pz_SR (rest := []) ⟨hx, hb, hml, hown, hts⟩ (k_X1_isIn_x l D ((cyI, .int) :: ts) x2 0 100000 (by omega) (by omega) (by omega)) (va_cwS 3 hts gX1_termEnd_X1_isIn rfl rfl rfl (by decide +kernel) ⟨Nat.le_of_ble_eq_true rfl, Nat.le_of_ble_eq_true rfl⟩) hK hP (hD.weaken (fun _ _ _ _ => trivial)) hS hA [] rfl rfl rfl rfl hl.1 rfl (lv_room (Nat.le_of_ble_eq_true rfl)) dX1_termEnd_9 ⟨Nat.le_of_ble_eq_true rfl, Nat.le_of_ble_eq_true rfl⟩ (fun r H locs hr hP hS => ?_)
    obtain rfl : r = (nI 0) := hr
    refine lv_istore (lv' := [(4, .int (nI 0)), (3, .int (nI 0)), (0, .ref h1), (1, .int x), (2, .int x2)]) hx hb dX1_termEnd_12 hl (by decide) rfl (fun ls hl => ?_)
    refine lv_iload_n hx hb dX1_termEnd_14 rfl (lv_at hl 1 rfl) ?_
    refine pn_if_eq (tgt := 33) hx hb (by omega) dX1_termEnd_15 (by decide) (fun _ => ?_) (fun c_28 => absurd c_28 (by decide))
    refine lv_iconst (v := nI 0) hx hb dX1_termEnd_33 (by decide) ?_
    refine lv_istore (lv' := [(5, .int (nI 0)), (4, .int (nI 0)), (3, .int (nI 0)), (0, .ref h1), (1, .int x), (2, .int x2)]) hx hb dX1_termEnd_34 hl (by decide) rfl (fun ls hl => ?_)
    refine lv_iload_n hx hb dX1_termEnd_36 rfl (lv_at hl 2 rfl) ?_
    refine pn_if_eq (tgt := 51) hx hb (by omega) dX1_termEnd_37 (by decide) (fun _ => ?_) (fun c_29 => absurd c_29 (by decide))
    refine lv_iconst (v := nI 0) hx hb dX1_termEnd_51 (by decide) ?_
    refine lv_istore (lv' := [(6, .int (nI 0)), (5, .int (nI 0)), (4, .int (nI 0)), (3, .int (nI 0)), (0, .ref h1), (1, .int x), (2, .int x2)]) hx hb dX1_termEnd_52 hl (by decide) rfl (fun ls hl => ?_)
    refine lv_iload hx hb dX1_termEnd_54 (lv_at hl 0 rfl) ?_
    refine lv_iconst (v := nI 1) hx hb dX1_termEnd_56 (by decide) ?_
    refine pn_iadd hx hb dX1_termEnd_57 ?_
    refine lv_ldc (v := nI 1095750) hx hb hown (hts (.constant RX1 65 (1095750)) (by decide +kernel)) dX1_termEnd_58 ?_
    refine pn_icmp_ge (tgt := 91) hx hb (by omega) (by omega) dX1_termEnd_60 (by decide) (fun c_30 => ?_) (fun c_30 => ?_)
    · -- 60 yes
      refine lv_iload hx hb dX1_termEnd_91 (lv_at hl 0 rfl) ?_
      refine lv_ldc (v := nI 1095750) hx hb hown (hts (.constant RX1 65 (1095750)) (by decide +kernel)) dX1_termEnd_93 ?_
      refine pn_icmp_ge (tgt := 113) hx hb (by omega) (by omega) dX1_termEnd_95 (by decide) (fun c_31 => absurd c_31 (by decide)) (fun _ => ?_)
      refine lv_aload_n hx hb dX1_termEnd_98 rfl (lv_at hl 4 rfl) ?_
      refine lv_iload hx hb dX1_termEnd_99 (lv_at hl 0 rfl) ?_
      refine pz_VI (rest := []) (wr := []) ⟨hx, hb, hml, hown, hts⟩ (k_X1_lawful l D h1 bc bf bg cyI ts th yr mo da mk wr rc ff gg 0 (by omega)) (cwV 1 hts gX1_termEnd_X1_lawful rfl rfl rfl (by decide +kernel) ⟨Nat.le_of_ble_eq_true rfl, Nat.le_of_ble_eq_true rfl⟩) hK hP hD hS hA [0, 1, 2, 3] [] rfl rfl rfl rfl rfl (by decide) 0 1 rfl rfl rfl hl.1 rfl (lv_room (Nat.le_of_ble_eq_true rfl)) dX1_termEnd_101 ⟨Nat.le_of_ble_eq_true rfl, Nat.le_of_ble_eq_true rfl⟩ (fun r u H locs hr hP hD hS => ?_)
      have hP : va_P D vwCl [(h1, .inr (1, [.int th, .int (nI (pm_yr 0)), .int (nI (pm_mo 0)), .int (nI (pm_da 0)), .int (nI mk), .ref bc, .ref bf, .ref bg, .int (nI wr)])), (bc, .inl (cyI, 366, .inl (pz_ar rc))), (bf, .inl (cyI, 3001, .inl (pz_ar ff))), (bg, .inl (cyI, 3001, .inl (pz_ar gg)))] H := hP
      have hD : va_D A [(h1, .inr (1, [.int th, .int (nI (pm_yr 0)), .int (nI (pm_mo 0)), .int (nI (pm_da 0)), .int (nI mk), .ref bc, .ref bf, .ref bg, .int (nI wr)])), (bc, .inl (cyI, 366, .inl (pz_ar rc))), (bf, .inl (cyI, 3001, .inl (pz_ar ff))), (bg, .inl (cyI, 3001, .inl (pz_ar gg)))] := hD
      obtain rfl : r = (nI (pm_lw 0)) := hr
      have hf_33 := pm_lw_b 0
      refine lv_iload hx hb dX1_termEnd_104 (lv_at hl 1 rfl) ?_
      refine pn_icmp_ne (tgt := 113) hx hb (by omega) (by omega) dX1_termEnd_106 (by decide) (fun c_34 => ?_) (fun c_34 => ?_)
      · -- 106 yes
        refine lv_iconst (v := nI 0) hx hb dX1_termEnd_113 (by decide) ?_
        refine lv_istore (lv' := [(7, .int (nI 0)), (6, .int (nI 0)), (5, .int (nI 0)), (4, .int (nI 0)), (3, .int (nI 0)), (0, .ref h1), (1, .int x), (2, .int x2)]) hx hb dX1_termEnd_114 hl (by decide) rfl (fun ls hl => ?_)
        refine lv_aload_n hx hb dX1_termEnd_116 rfl (lv_at hl 5 rfl) ?_
        refine lv_iload_n hx hb dX1_termEnd_117 rfl (lv_at hl 4 rfl) ?_
        refine pn_if_ne (tgt := 125) hx hb (by omega) dX1_termEnd_118 (by decide) (fun c_35 => absurd c_35 (by decide)) (fun _ => ?_)
        refine lv_iconst (v := nI 1) hx hb dX1_termEnd_121 (by decide) ?_
        refine lv_goto (tgt := 144) hx hb dX1_termEnd_122 (by decide) ?_
        refine pz_VI (rest := []) (wr := []) ⟨hx, hb, hml, hown, hts⟩ (k_X1_isFine_k l D h1 bc bf bg cyI ts th (nI (pm_yr 0)) (nI (pm_mo 0)) (nI (pm_da 0)) mk wr rc ff gg 1 (by omega) (by omega)) (cwV 1 hts gX1_termEnd_X1_isFine rfl rfl rfl (by decide +kernel) ⟨Nat.le_of_ble_eq_true rfl, Nat.le_of_ble_eq_true rfl⟩) hK hP hD hS hA [0, 1, 2, 3] [] rfl rfl rfl rfl rfl (by decide) 0 1 rfl rfl rfl hl.1 rfl (lv_room (Nat.le_of_ble_eq_true rfl)) dX1_termEnd_144 ⟨Nat.le_of_ble_eq_true rfl, Nat.le_of_ble_eq_true rfl⟩ (fun r u H locs hr hP hD hS => ?_)
        have hP : va_P D vwCl [(h1, .inr (1, [.int (nI 1), .int (nI (pm_yr 0)), .int (nI (pm_mo 0)), .int (nI (pm_da 0)), .int (nI mk), .ref bc, .ref bf, .ref bg, .int (nI wr)])), (bc, .inl (cyI, 366, .inl (pz_ar rc))), (bf, .inl (cyI, 3001, .inl (pz_ar ff))), (bg, .inl (cyI, 3001, .inl (pz_ar gg)))] H := hP
        have hD : va_D A [(h1, .inr (1, [.int (nI 1), .int (nI (pm_yr 0)), .int (nI (pm_mo 0)), .int (nI (pm_da 0)), .int (nI mk), .ref bc, .ref bf, .ref bg, .int (nI wr)])), (bc, .inl (cyI, 366, .inl (pz_ar rc))), (bf, .inl (cyI, 3001, .inl (pz_ar ff))), (bg, .inl (cyI, 3001, .inl (pz_ar gg)))] := hD
        obtain rfl : r = (nI 0) := hr
        refine pn_if_eq (tgt := 155) hx hb (by omega) dX1_termEnd_147 (by decide) (fun _ => ?_) (fun c_37 => absurd c_37 (by decide))
        refine lv_iconst (v := nI 0) hx hb dX1_termEnd_155 (by decide) ?_
        exact hQ _ _ _ _ _ ((nI (pm_yr 0)), (nI (pm_mo 0)), (nI (pm_da 0))) dX1_termEnd_156 rfl (congrArg nI (by rfl)) hP hD hS
      · -- 106 no
        refine lv_iconst (v := nI 1) hx hb dX1_termEnd_109 (by decide) ?_
        refine lv_goto (tgt := 114) hx hb dX1_termEnd_110 (by decide) ?_
        refine lv_istore (lv' := [(7, .int (nI 1)), (6, .int (nI 0)), (5, .int (nI 0)), (4, .int (nI 0)), (3, .int (nI 0)), (0, .ref h1), (1, .int x), (2, .int x2)]) hx hb dX1_termEnd_114 hl (by decide) rfl (fun ls hl => ?_)
        refine lv_aload_n hx hb dX1_termEnd_116 rfl (lv_at hl 5 rfl) ?_
        refine lv_iload_n hx hb dX1_termEnd_117 rfl (lv_at hl 4 rfl) ?_
        refine pn_if_ne (tgt := 125) hx hb (by omega) dX1_termEnd_118 (by decide) (fun c_38 => absurd c_38 (by decide)) (fun _ => ?_)
        refine lv_iconst (v := nI 1) hx hb dX1_termEnd_121 (by decide) ?_
        refine lv_goto (tgt := 144) hx hb dX1_termEnd_122 (by decide) ?_
        refine pz_VI (rest := []) (wr := []) ⟨hx, hb, hml, hown, hts⟩ (k_X1_isFine_k l D h1 bc bf bg cyI ts th (nI (pm_yr 0)) (nI (pm_mo 0)) (nI (pm_da 0)) mk wr rc ff gg 1 (by omega) (by omega)) (cwV 1 hts gX1_termEnd_X1_isFine rfl rfl rfl (by decide +kernel) ⟨Nat.le_of_ble_eq_true rfl, Nat.le_of_ble_eq_true rfl⟩) hK hP hD hS hA [0, 1, 2, 3] [] rfl rfl rfl rfl rfl (by decide) 0 1 rfl rfl rfl hl.1 rfl (lv_room (Nat.le_of_ble_eq_true rfl)) dX1_termEnd_144 ⟨Nat.le_of_ble_eq_true rfl, Nat.le_of_ble_eq_true rfl⟩ (fun r u H locs hr hP hD hS => ?_)
        have hP : va_P D vwCl [(h1, .inr (1, [.int (nI 1), .int (nI (pm_yr 0)), .int (nI (pm_mo 0)), .int (nI (pm_da 0)), .int (nI mk), .ref bc, .ref bf, .ref bg, .int (nI wr)])), (bc, .inl (cyI, 366, .inl (pz_ar rc))), (bf, .inl (cyI, 3001, .inl (pz_ar ff))), (bg, .inl (cyI, 3001, .inl (pz_ar gg)))] H := hP
        have hD : va_D A [(h1, .inr (1, [.int (nI 1), .int (nI (pm_yr 0)), .int (nI (pm_mo 0)), .int (nI (pm_da 0)), .int (nI mk), .ref bc, .ref bf, .ref bg, .int (nI wr)])), (bc, .inl (cyI, 366, .inl (pz_ar rc))), (bf, .inl (cyI, 3001, .inl (pz_ar ff))), (bg, .inl (cyI, 3001, .inl (pz_ar gg)))] := hD
        obtain rfl : r = (nI 0) := hr
        refine pn_if_eq (tgt := 155) hx hb (by omega) dX1_termEnd_147 (by decide) (fun _ => ?_) (fun c_40 => absurd c_40 (by decide))
        refine lv_iconst (v := nI 0) hx hb dX1_termEnd_155 (by decide) ?_
        exact hQ _ _ _ _ _ ((nI (pm_yr 0)), (nI (pm_mo 0)), (nI (pm_da 0))) dX1_termEnd_156 rfl (congrArg nI (by rfl)) hP hD hS
    · -- 60 no
      refine lv_iload_n hx hb dX1_termEnd_63 rfl (lv_at hl 3 rfl) ?_
      refine pn_if_eq (tgt := 91) hx hb (by omega) dX1_termEnd_64 (by decide) (fun _ => ?_) (fun c_41 => absurd c_41 (by decide))
      refine lv_iload hx hb dX1_termEnd_91 (lv_at hl 0 rfl) ?_
      refine lv_ldc (v := nI 1095750) hx hb hown (hts (.constant RX1 65 (1095750)) (by decide +kernel)) dX1_termEnd_93 ?_
      refine pn_icmp_ge (tgt := 113) hx hb (by omega) (by omega) dX1_termEnd_95 (by decide) (fun c_42 => absurd c_42 (by decide)) (fun _ => ?_)
      refine lv_aload_n hx hb dX1_termEnd_98 rfl (lv_at hl 4 rfl) ?_
      refine lv_iload hx hb dX1_termEnd_99 (lv_at hl 0 rfl) ?_
      refine pz_VI (rest := []) (wr := []) ⟨hx, hb, hml, hown, hts⟩ (k_X1_lawful l D h1 bc bf bg cyI ts th yr mo da mk wr rc ff gg 0 (by omega)) (cwV 1 hts gX1_termEnd_X1_lawful rfl rfl rfl (by decide +kernel) ⟨Nat.le_of_ble_eq_true rfl, Nat.le_of_ble_eq_true rfl⟩) hK hP hD hS hA [0, 1, 2, 3] [] rfl rfl rfl rfl rfl (by decide) 0 1 rfl rfl rfl hl.1 rfl (lv_room (Nat.le_of_ble_eq_true rfl)) dX1_termEnd_101 ⟨Nat.le_of_ble_eq_true rfl, Nat.le_of_ble_eq_true rfl⟩ (fun r u H locs hr hP hD hS => ?_)
      have hP : va_P D vwCl [(h1, .inr (1, [.int th, .int (nI (pm_yr 0)), .int (nI (pm_mo 0)), .int (nI (pm_da 0)), .int (nI mk), .ref bc, .ref bf, .ref bg, .int (nI wr)])), (bc, .inl (cyI, 366, .inl (pz_ar rc))), (bf, .inl (cyI, 3001, .inl (pz_ar ff))), (bg, .inl (cyI, 3001, .inl (pz_ar gg)))] H := hP
      have hD : va_D A [(h1, .inr (1, [.int th, .int (nI (pm_yr 0)), .int (nI (pm_mo 0)), .int (nI (pm_da 0)), .int (nI mk), .ref bc, .ref bf, .ref bg, .int (nI wr)])), (bc, .inl (cyI, 366, .inl (pz_ar rc))), (bf, .inl (cyI, 3001, .inl (pz_ar ff))), (bg, .inl (cyI, 3001, .inl (pz_ar gg)))] := hD
      obtain rfl : r = (nI (pm_lw 0)) := hr
      have hf_44 := pm_lw_b 0
      refine lv_iload hx hb dX1_termEnd_104 (lv_at hl 1 rfl) ?_
      refine pn_icmp_ne (tgt := 113) hx hb (by omega) (by omega) dX1_termEnd_106 (by decide) (fun c_45 => ?_) (fun c_45 => ?_)
      · -- 106 yes
        refine lv_iconst (v := nI 0) hx hb dX1_termEnd_113 (by decide) ?_
        refine lv_istore (lv' := [(7, .int (nI 0)), (6, .int (nI 0)), (5, .int (nI 0)), (4, .int (nI 0)), (3, .int (nI 0)), (0, .ref h1), (1, .int x), (2, .int x2)]) hx hb dX1_termEnd_114 hl (by decide) rfl (fun ls hl => ?_)
        refine lv_aload_n hx hb dX1_termEnd_116 rfl (lv_at hl 5 rfl) ?_
        refine lv_iload_n hx hb dX1_termEnd_117 rfl (lv_at hl 4 rfl) ?_
        refine pn_if_ne (tgt := 125) hx hb (by omega) dX1_termEnd_118 (by decide) (fun c_46 => absurd c_46 (by decide)) (fun _ => ?_)
        refine lv_iconst (v := nI 1) hx hb dX1_termEnd_121 (by decide) ?_
        refine lv_goto (tgt := 144) hx hb dX1_termEnd_122 (by decide) ?_
        refine pz_VI (rest := []) (wr := []) ⟨hx, hb, hml, hown, hts⟩ (k_X1_isFine_k l D h1 bc bf bg cyI ts th (nI (pm_yr 0)) (nI (pm_mo 0)) (nI (pm_da 0)) mk wr rc ff gg 1 (by omega) (by omega)) (cwV 1 hts gX1_termEnd_X1_isFine rfl rfl rfl (by decide +kernel) ⟨Nat.le_of_ble_eq_true rfl, Nat.le_of_ble_eq_true rfl⟩) hK hP hD hS hA [0, 1, 2, 3] [] rfl rfl rfl rfl rfl (by decide) 0 1 rfl rfl rfl hl.1 rfl (lv_room (Nat.le_of_ble_eq_true rfl)) dX1_termEnd_144 ⟨Nat.le_of_ble_eq_true rfl, Nat.le_of_ble_eq_true rfl⟩ (fun r u H locs hr hP hD hS => ?_)
        have hP : va_P D vwCl [(h1, .inr (1, [.int (nI 1), .int (nI (pm_yr 0)), .int (nI (pm_mo 0)), .int (nI (pm_da 0)), .int (nI mk), .ref bc, .ref bf, .ref bg, .int (nI wr)])), (bc, .inl (cyI, 366, .inl (pz_ar rc))), (bf, .inl (cyI, 3001, .inl (pz_ar ff))), (bg, .inl (cyI, 3001, .inl (pz_ar gg)))] H := hP
        have hD : va_D A [(h1, .inr (1, [.int (nI 1), .int (nI (pm_yr 0)), .int (nI (pm_mo 0)), .int (nI (pm_da 0)), .int (nI mk), .ref bc, .ref bf, .ref bg, .int (nI wr)])), (bc, .inl (cyI, 366, .inl (pz_ar rc))), (bf, .inl (cyI, 3001, .inl (pz_ar ff))), (bg, .inl (cyI, 3001, .inl (pz_ar gg)))] := hD
        obtain rfl : r = (nI 0) := hr
        refine pn_if_eq (tgt := 155) hx hb (by omega) dX1_termEnd_147 (by decide) (fun _ => ?_) (fun c_48 => absurd c_48 (by decide))
        refine lv_iconst (v := nI 0) hx hb dX1_termEnd_155 (by decide) ?_
        exact hQ _ _ _ _ _ ((nI (pm_yr 0)), (nI (pm_mo 0)), (nI (pm_da 0))) dX1_termEnd_156 rfl (congrArg nI (by rfl)) hP hD hS
      · -- 106 no
        refine lv_iconst (v := nI 1) hx hb dX1_termEnd_109 (by decide) ?_
        refine lv_goto (tgt := 114) hx hb dX1_termEnd_110 (by decide) ?_
        refine lv_istore (lv' := [(7, .int (nI 1)), (6, .int (nI 0)), (5, .int (nI 0)), (4, .int (nI 0)), (3, .int (nI 0)), (0, .ref h1), (1, .int x), (2, .int x2)]) hx hb dX1_termEnd_114 hl (by decide) rfl (fun ls hl => ?_)
        refine lv_aload_n hx hb dX1_termEnd_116 rfl (lv_at hl 5 rfl) ?_
        refine lv_iload_n hx hb dX1_termEnd_117 rfl (lv_at hl 4 rfl) ?_
        refine pn_if_ne (tgt := 125) hx hb (by omega) dX1_termEnd_118 (by decide) (fun c_49 => absurd c_49 (by decide)) (fun _ => ?_)
        refine lv_iconst (v := nI 1) hx hb dX1_termEnd_121 (by decide) ?_
        refine lv_goto (tgt := 144) hx hb dX1_termEnd_122 (by decide) ?_
        refine pz_VI (rest := []) (wr := []) ⟨hx, hb, hml, hown, hts⟩ (k_X1_isFine_k l D h1 bc bf bg cyI ts th (nI (pm_yr 0)) (nI (pm_mo 0)) (nI (pm_da 0)) mk wr rc ff gg 1 (by omega) (by omega)) (cwV 1 hts gX1_termEnd_X1_isFine rfl rfl rfl (by decide +kernel) ⟨Nat.le_of_ble_eq_true rfl, Nat.le_of_ble_eq_true rfl⟩) hK hP hD hS hA [0, 1, 2, 3] [] rfl rfl rfl rfl rfl (by decide) 0 1 rfl rfl rfl hl.1 rfl (lv_room (Nat.le_of_ble_eq_true rfl)) dX1_termEnd_144 ⟨Nat.le_of_ble_eq_true rfl, Nat.le_of_ble_eq_true rfl⟩ (fun r u H locs hr hP hD hS => ?_)
        have hP : va_P D vwCl [(h1, .inr (1, [.int (nI 1), .int (nI (pm_yr 0)), .int (nI (pm_mo 0)), .int (nI (pm_da 0)), .int (nI mk), .ref bc, .ref bf, .ref bg, .int (nI wr)])), (bc, .inl (cyI, 366, .inl (pz_ar rc))), (bf, .inl (cyI, 3001, .inl (pz_ar ff))), (bg, .inl (cyI, 3001, .inl (pz_ar gg)))] H := hP
        have hD : va_D A [(h1, .inr (1, [.int (nI 1), .int (nI (pm_yr 0)), .int (nI (pm_mo 0)), .int (nI (pm_da 0)), .int (nI mk), .ref bc, .ref bf, .ref bg, .int (nI wr)])), (bc, .inl (cyI, 366, .inl (pz_ar rc))), (bf, .inl (cyI, 3001, .inl (pz_ar ff))), (bg, .inl (cyI, 3001, .inl (pz_ar gg)))] := hD
        obtain rfl : r = (nI 0) := hr
        refine pn_if_eq (tgt := 155) hx hb (by omega) dX1_termEnd_147 (by decide) (fun _ => ?_) (fun c_51 => absurd c_51 (by decide))
        refine lv_iconst (v := nI 0) hx hb dX1_termEnd_155 (by decide) ?_
        exact hQ _ _ _ _ _ ((nI (pm_yr 0)), (nI (pm_mo 0)), (nI (pm_da 0))) dX1_termEnd_156 rfl (congrArg nI (by rfl)) hP hD hS
set_option maxHeartbeats 4000000 in
set_option maxRecDepth 100000 in
theorem k_X1_termEnd_x2 (l : Launch) (D : va_G) (h1 bc bf bg : Nat) (cyI : ClassId) (ts : List (ClassId × FieldType)) (th yr mo da : Int32) (mk wr : Nat) (rc ff gg : Nat → Nat) (n : Nat) (x : Int32) (hy0 : n < 1095750) (hy1 : x.toInt < 0 ∨ 100000 < x.toInt) : pz_I l yX1_termEnd wsX1_termEnd ({ frames := 4, cells := 0, slots := 0, locals := 85 } : Room) D ((cyI, .int) :: ts) [.ref h1, .int (nI n), .int x] [(h1, .inr (1, [.int th, .int yr, .int mo, .int da, .int (nI mk), .ref bc, .ref bf, .ref bg, .int (nI wr)])), (bc, .inl (cyI, 366, .inl (pz_ar rc))), (bf, .inl (cyI, 3001, .inl (pz_ar ff))), (bg, .inl (cyI, 3001, .inl (pz_ar gg)))] (S := Int32 × Int32 × Int32) (fun r _ => r = nI 0) (fun u => [(h1, .inr (1, [.int (nI 2), .int u.1, .int u.2.1, .int u.2.2, .int (nI mk), .ref bc, .ref bf, .ref bg, .int (nI wr)])), (bc, .inl (cyI, 366, .inl (pz_ar rc))), (bf, .inl (cyI, 3001, .inl (pz_ar ff))), (bg, .inl (cyI, 3001, .inl (pz_ar gg)))]) := by
  refine pz_I_of (cc := cX1_termEnd) (maxL := 8) (ty := .int) (own := RX1) (by decide) rfl rfl (Nat.le_of_ble_eq_true rfl) ?_
  intro p e s m below meth c A ls Q hx hb hml hown hts hK hP hD hS hA hl hQ
  have hl : lv_has ls 8 [(0, .ref h1), (1, .int (nI n)), (2, .int x)] := hl
  refine lv_iload_n hx hb dX1_termEnd_0 rfl (lv_at hl 1 rfl) ?_
  refine pz_SR (rest := []) ⟨hx, hb, hml, hown, hts⟩ (k_X1_isDay_a l D ((cyI, .int) :: ts) n (by omega)) (va_cwS 1 hts gX1_termEnd_X1_isDay rfl rfl rfl (by decide +kernel) ⟨Nat.le_of_ble_eq_true rfl, Nat.le_of_ble_eq_true rfl⟩) hK hP (hD.weaken (fun _ _ _ _ => trivial)) hS hA [] rfl rfl rfl rfl hl.1 rfl (lv_room (Nat.le_of_ble_eq_true rfl)) dX1_termEnd_1 ⟨Nat.le_of_ble_eq_true rfl, Nat.le_of_ble_eq_true rfl⟩ (fun r H locs hr hP hS => ?_)
  obtain rfl : r = (nI 1) := hr
  refine lv_istore_n (lv' := [(3, .int (nI 1)), (0, .ref h1), (1, .int (nI n)), (2, .int x)]) hx hb dX1_termEnd_4 rfl hl (by decide) rfl (fun ls hl => ?_)
  refine lv_iload_n hx hb dX1_termEnd_5 rfl (lv_at hl 3 rfl) ?_
  refine lv_iconst (v := nI 0) hx hb dX1_termEnd_6 (by decide) ?_
  refine lv_ldc (v := nI 100000) hx hb hown (hts (.constant RX1 100 (100000)) (by decide +kernel)) dX1_termEnd_7 ?_
  refine pz_SR (rest := []) ⟨hx, hb, hml, hown, hts⟩ (k_X1_isIn_x l D ((cyI, .int) :: ts) x 0 100000 (by omega) (by omega) (by omega)) (va_cwS 3 hts gX1_termEnd_X1_isIn rfl rfl rfl (by decide +kernel) ⟨Nat.le_of_ble_eq_true rfl, Nat.le_of_ble_eq_true rfl⟩) hK hP (hD.weaken (fun _ _ _ _ => trivial)) hS hA [] rfl rfl rfl rfl hl.1 rfl (lv_room (Nat.le_of_ble_eq_true rfl)) dX1_termEnd_9 ⟨Nat.le_of_ble_eq_true rfl, Nat.le_of_ble_eq_true rfl⟩ (fun r H locs hr hP hS => ?_)
  obtain rfl : r = (nI 0) := hr
  refine lv_istore (lv' := [(4, .int (nI 0)), (3, .int (nI 1)), (0, .ref h1), (1, .int (nI n)), (2, .int x)]) hx hb dX1_termEnd_12 hl (by decide) rfl (fun ls hl => ?_)
  refine lv_iload_n hx hb dX1_termEnd_14 rfl (lv_at hl 1 rfl) ?_
  refine pn_if_eq (tgt := 33) hx hb (by omega) dX1_termEnd_15 (by decide) (fun c_3 => absurd c_3 (by decide)) (fun _ => ?_)
  refine lv_iload hx hb dX1_termEnd_18 (lv_at hl 0 rfl) ?_
  refine pn_if_eq (tgt := 33) hx hb (by omega) dX1_termEnd_20 (by decide) (fun _ => ?_) (fun c_4 => absurd c_4 (by decide))
  refine lv_iconst (v := nI 0) hx hb dX1_termEnd_33 (by decide) ?_
  refine lv_istore (lv' := [(5, .int (nI 0)), (4, .int (nI 0)), (3, .int (nI 1)), (0, .ref h1), (1, .int (nI n)), (2, .int x)]) hx hb dX1_termEnd_34 hl (by decide) rfl (fun ls hl => ?_)
  refine lv_iload_n hx hb dX1_termEnd_36 rfl (lv_at hl 2 rfl) ?_
  refine pn_if_eq (tgt := 51) hx hb (by omega) dX1_termEnd_37 (by decide) (fun c_5 => absurd c_5 (by decide)) (fun _ => ?_)
  refine lv_iload hx hb dX1_termEnd_40 (lv_at hl 1 rfl) ?_
  refine pn_if_eq (tgt := 51) hx hb (by omega) dX1_termEnd_42 (by decide) (fun _ => ?_) (fun c_6 => absurd c_6 (by decide))
  refine lv_iconst (v := nI 0) hx hb dX1_termEnd_51 (by decide) ?_
  refine lv_istore (lv' := [(6, .int (nI 0)), (5, .int (nI 0)), (4, .int (nI 0)), (3, .int (nI 1)), (0, .ref h1), (1, .int (nI n)), (2, .int x)]) hx hb dX1_termEnd_52 hl (by decide) rfl (fun ls hl => ?_)
  refine lv_iload hx hb dX1_termEnd_54 (lv_at hl 0 rfl) ?_
  refine lv_iconst (v := nI 1) hx hb dX1_termEnd_56 (by decide) ?_
  refine pn_iadd hx hb dX1_termEnd_57 ?_
  refine lv_ldc (v := nI 1095750) hx hb hown (hts (.constant RX1 65 (1095750)) (by decide +kernel)) dX1_termEnd_58 ?_
  refine pn_icmp_ge (tgt := 91) hx hb (by omega) (by omega) dX1_termEnd_60 (by decide) (fun c_7 => ?_) (fun c_7 => ?_)
  · -- 60 yes
    refine lv_iload hx hb dX1_termEnd_91 (lv_at hl 0 rfl) ?_
    refine lv_ldc (v := nI 1095750) hx hb hown (hts (.constant RX1 65 (1095750)) (by decide +kernel)) dX1_termEnd_93 ?_
    refine pn_icmp_ge (tgt := 113) hx hb (by omega) (by omega) dX1_termEnd_95 (by decide) (fun c_8 => absurd c_8 (by decide)) (fun _ => ?_)
    refine lv_aload_n hx hb dX1_termEnd_98 rfl (lv_at hl 4 rfl) ?_
    refine lv_iload hx hb dX1_termEnd_99 (lv_at hl 0 rfl) ?_
    refine pz_VI (rest := []) (wr := []) ⟨hx, hb, hml, hown, hts⟩ (k_X1_lawful l D h1 bc bf bg cyI ts th yr mo da mk wr rc ff gg 0 (by omega)) (cwV 1 hts gX1_termEnd_X1_lawful rfl rfl rfl (by decide +kernel) ⟨Nat.le_of_ble_eq_true rfl, Nat.le_of_ble_eq_true rfl⟩) hK hP hD hS hA [0, 1, 2, 3] [] rfl rfl rfl rfl rfl (by decide) 0 1 rfl rfl rfl hl.1 rfl (lv_room (Nat.le_of_ble_eq_true rfl)) dX1_termEnd_101 ⟨Nat.le_of_ble_eq_true rfl, Nat.le_of_ble_eq_true rfl⟩ (fun r u H locs hr hP hD hS => ?_)
    have hP : va_P D vwCl [(h1, .inr (1, [.int th, .int (nI (pm_yr 0)), .int (nI (pm_mo 0)), .int (nI (pm_da 0)), .int (nI mk), .ref bc, .ref bf, .ref bg, .int (nI wr)])), (bc, .inl (cyI, 366, .inl (pz_ar rc))), (bf, .inl (cyI, 3001, .inl (pz_ar ff))), (bg, .inl (cyI, 3001, .inl (pz_ar gg)))] H := hP
    have hD : va_D A [(h1, .inr (1, [.int th, .int (nI (pm_yr 0)), .int (nI (pm_mo 0)), .int (nI (pm_da 0)), .int (nI mk), .ref bc, .ref bf, .ref bg, .int (nI wr)])), (bc, .inl (cyI, 366, .inl (pz_ar rc))), (bf, .inl (cyI, 3001, .inl (pz_ar ff))), (bg, .inl (cyI, 3001, .inl (pz_ar gg)))] := hD
    obtain rfl : r = (nI (pm_lw 0)) := hr
    have hf_10 := pm_lw_b 0
    refine lv_iload hx hb dX1_termEnd_104 (lv_at hl 1 rfl) ?_
    refine pn_icmp_ne (tgt := 113) hx hb (by omega) (by omega) dX1_termEnd_106 (by decide) (fun c_11 => ?_) (fun c_11 => ?_)
    · -- 106 yes
      refine lv_iconst (v := nI 0) hx hb dX1_termEnd_113 (by decide) ?_
      refine lv_istore (lv' := [(7, .int (nI 0)), (6, .int (nI 0)), (5, .int (nI 0)), (4, .int (nI 0)), (3, .int (nI 1)), (0, .ref h1), (1, .int (nI n)), (2, .int x)]) hx hb dX1_termEnd_114 hl (by decide) rfl (fun ls hl => ?_)
      refine lv_aload_n hx hb dX1_termEnd_116 rfl (lv_at hl 5 rfl) ?_
      refine lv_iload_n hx hb dX1_termEnd_117 rfl (lv_at hl 4 rfl) ?_
      refine pn_if_ne (tgt := 125) hx hb (by omega) dX1_termEnd_118 (by decide) (fun _ => ?_) (fun c_12 => absurd c_12 (by decide))
      refine lv_iload hx hb dX1_termEnd_125 (lv_at hl 3 rfl) ?_
      refine pn_if_ne (tgt := 134) hx hb (by omega) dX1_termEnd_127 (by decide) (fun c_13 => absurd c_13 (by decide)) (fun _ => ?_)
      refine lv_iconst (v := nI 2) hx hb dX1_termEnd_130 (by decide) ?_
      refine lv_goto (tgt := 144) hx hb dX1_termEnd_131 (by decide) ?_
      refine pz_VI (rest := []) (wr := []) ⟨hx, hb, hml, hown, hts⟩ (k_X1_isFine_k l D h1 bc bf bg cyI ts th (nI (pm_yr 0)) (nI (pm_mo 0)) (nI (pm_da 0)) mk wr rc ff gg 2 (by omega) (by omega)) (cwV 1 hts gX1_termEnd_X1_isFine rfl rfl rfl (by decide +kernel) ⟨Nat.le_of_ble_eq_true rfl, Nat.le_of_ble_eq_true rfl⟩) hK hP hD hS hA [0, 1, 2, 3] [] rfl rfl rfl rfl rfl (by decide) 0 1 rfl rfl rfl hl.1 rfl (lv_room (Nat.le_of_ble_eq_true rfl)) dX1_termEnd_144 ⟨Nat.le_of_ble_eq_true rfl, Nat.le_of_ble_eq_true rfl⟩ (fun r u H locs hr hP hD hS => ?_)
      have hP : va_P D vwCl [(h1, .inr (1, [.int (nI 2), .int (nI (pm_yr 0)), .int (nI (pm_mo 0)), .int (nI (pm_da 0)), .int (nI mk), .ref bc, .ref bf, .ref bg, .int (nI wr)])), (bc, .inl (cyI, 366, .inl (pz_ar rc))), (bf, .inl (cyI, 3001, .inl (pz_ar ff))), (bg, .inl (cyI, 3001, .inl (pz_ar gg)))] H := hP
      have hD : va_D A [(h1, .inr (1, [.int (nI 2), .int (nI (pm_yr 0)), .int (nI (pm_mo 0)), .int (nI (pm_da 0)), .int (nI mk), .ref bc, .ref bf, .ref bg, .int (nI wr)])), (bc, .inl (cyI, 366, .inl (pz_ar rc))), (bf, .inl (cyI, 3001, .inl (pz_ar ff))), (bg, .inl (cyI, 3001, .inl (pz_ar gg)))] := hD
      obtain rfl : r = (nI 0) := hr
      refine pn_if_eq (tgt := 155) hx hb (by omega) dX1_termEnd_147 (by decide) (fun _ => ?_) (fun c_15 => absurd c_15 (by decide))
      refine lv_iconst (v := nI 0) hx hb dX1_termEnd_155 (by decide) ?_
      exact hQ _ _ _ _ _ ((nI (pm_yr 0)), (nI (pm_mo 0)), (nI (pm_da 0))) dX1_termEnd_156 rfl (congrArg nI (by rfl)) hP hD hS
    · -- 106 no
      refine lv_iconst (v := nI 1) hx hb dX1_termEnd_109 (by decide) ?_
      refine lv_goto (tgt := 114) hx hb dX1_termEnd_110 (by decide) ?_
      refine lv_istore (lv' := [(7, .int (nI 1)), (6, .int (nI 0)), (5, .int (nI 0)), (4, .int (nI 0)), (3, .int (nI 1)), (0, .ref h1), (1, .int (nI n)), (2, .int x)]) hx hb dX1_termEnd_114 hl (by decide) rfl (fun ls hl => ?_)
      refine lv_aload_n hx hb dX1_termEnd_116 rfl (lv_at hl 5 rfl) ?_
      refine lv_iload_n hx hb dX1_termEnd_117 rfl (lv_at hl 4 rfl) ?_
      refine pn_if_ne (tgt := 125) hx hb (by omega) dX1_termEnd_118 (by decide) (fun _ => ?_) (fun c_16 => absurd c_16 (by decide))
      refine lv_iload hx hb dX1_termEnd_125 (lv_at hl 3 rfl) ?_
      refine pn_if_ne (tgt := 134) hx hb (by omega) dX1_termEnd_127 (by decide) (fun c_17 => absurd c_17 (by decide)) (fun _ => ?_)
      refine lv_iconst (v := nI 2) hx hb dX1_termEnd_130 (by decide) ?_
      refine lv_goto (tgt := 144) hx hb dX1_termEnd_131 (by decide) ?_
      refine pz_VI (rest := []) (wr := []) ⟨hx, hb, hml, hown, hts⟩ (k_X1_isFine_k l D h1 bc bf bg cyI ts th (nI (pm_yr 0)) (nI (pm_mo 0)) (nI (pm_da 0)) mk wr rc ff gg 2 (by omega) (by omega)) (cwV 1 hts gX1_termEnd_X1_isFine rfl rfl rfl (by decide +kernel) ⟨Nat.le_of_ble_eq_true rfl, Nat.le_of_ble_eq_true rfl⟩) hK hP hD hS hA [0, 1, 2, 3] [] rfl rfl rfl rfl rfl (by decide) 0 1 rfl rfl rfl hl.1 rfl (lv_room (Nat.le_of_ble_eq_true rfl)) dX1_termEnd_144 ⟨Nat.le_of_ble_eq_true rfl, Nat.le_of_ble_eq_true rfl⟩ (fun r u H locs hr hP hD hS => ?_)
      have hP : va_P D vwCl [(h1, .inr (1, [.int (nI 2), .int (nI (pm_yr 0)), .int (nI (pm_mo 0)), .int (nI (pm_da 0)), .int (nI mk), .ref bc, .ref bf, .ref bg, .int (nI wr)])), (bc, .inl (cyI, 366, .inl (pz_ar rc))), (bf, .inl (cyI, 3001, .inl (pz_ar ff))), (bg, .inl (cyI, 3001, .inl (pz_ar gg)))] H := hP
      have hD : va_D A [(h1, .inr (1, [.int (nI 2), .int (nI (pm_yr 0)), .int (nI (pm_mo 0)), .int (nI (pm_da 0)), .int (nI mk), .ref bc, .ref bf, .ref bg, .int (nI wr)])), (bc, .inl (cyI, 366, .inl (pz_ar rc))), (bf, .inl (cyI, 3001, .inl (pz_ar ff))), (bg, .inl (cyI, 3001, .inl (pz_ar gg)))] := hD
      obtain rfl : r = (nI 0) := hr
      refine pn_if_eq (tgt := 155) hx hb (by omega) dX1_termEnd_147 (by decide) (fun _ => ?_) (fun c_19 => absurd c_19 (by decide))
      refine lv_iconst (v := nI 0) hx hb dX1_termEnd_155 (by decide) ?_
      exact hQ _ _ _ _ _ ((nI (pm_yr 0)), (nI (pm_mo 0)), (nI (pm_da 0))) dX1_termEnd_156 rfl (congrArg nI (by rfl)) hP hD hS
  · -- 60 no
    refine lv_iload_n hx hb dX1_termEnd_63 rfl (lv_at hl 3 rfl) ?_
    refine pn_if_eq (tgt := 91) hx hb (by omega) dX1_termEnd_64 (by decide) (fun c_20 => absurd c_20 (by decide)) (fun _ => ?_)
    refine lv_iload hx hb dX1_termEnd_67 (lv_at hl 2 rfl) ?_
    refine pn_if_eq (tgt := 91) hx hb (by omega) dX1_termEnd_69 (by decide) (fun _ => ?_) (fun c_21 => absurd c_21 (by decide))
    refine lv_iload hx hb dX1_termEnd_91 (lv_at hl 0 rfl) ?_
    refine lv_ldc (v := nI 1095750) hx hb hown (hts (.constant RX1 65 (1095750)) (by decide +kernel)) dX1_termEnd_93 ?_
    refine pn_icmp_ge (tgt := 113) hx hb (by omega) (by omega) dX1_termEnd_95 (by decide) (fun c_22 => absurd c_22 (by decide)) (fun _ => ?_)
    refine lv_aload_n hx hb dX1_termEnd_98 rfl (lv_at hl 4 rfl) ?_
    refine lv_iload hx hb dX1_termEnd_99 (lv_at hl 0 rfl) ?_
    refine pz_VI (rest := []) (wr := []) ⟨hx, hb, hml, hown, hts⟩ (k_X1_lawful l D h1 bc bf bg cyI ts th yr mo da mk wr rc ff gg 0 (by omega)) (cwV 1 hts gX1_termEnd_X1_lawful rfl rfl rfl (by decide +kernel) ⟨Nat.le_of_ble_eq_true rfl, Nat.le_of_ble_eq_true rfl⟩) hK hP hD hS hA [0, 1, 2, 3] [] rfl rfl rfl rfl rfl (by decide) 0 1 rfl rfl rfl hl.1 rfl (lv_room (Nat.le_of_ble_eq_true rfl)) dX1_termEnd_101 ⟨Nat.le_of_ble_eq_true rfl, Nat.le_of_ble_eq_true rfl⟩ (fun r u H locs hr hP hD hS => ?_)
    have hP : va_P D vwCl [(h1, .inr (1, [.int th, .int (nI (pm_yr 0)), .int (nI (pm_mo 0)), .int (nI (pm_da 0)), .int (nI mk), .ref bc, .ref bf, .ref bg, .int (nI wr)])), (bc, .inl (cyI, 366, .inl (pz_ar rc))), (bf, .inl (cyI, 3001, .inl (pz_ar ff))), (bg, .inl (cyI, 3001, .inl (pz_ar gg)))] H := hP
    have hD : va_D A [(h1, .inr (1, [.int th, .int (nI (pm_yr 0)), .int (nI (pm_mo 0)), .int (nI (pm_da 0)), .int (nI mk), .ref bc, .ref bf, .ref bg, .int (nI wr)])), (bc, .inl (cyI, 366, .inl (pz_ar rc))), (bf, .inl (cyI, 3001, .inl (pz_ar ff))), (bg, .inl (cyI, 3001, .inl (pz_ar gg)))] := hD
    obtain rfl : r = (nI (pm_lw 0)) := hr
    have hf_24 := pm_lw_b 0
    refine lv_iload hx hb dX1_termEnd_104 (lv_at hl 1 rfl) ?_
    refine pn_icmp_ne (tgt := 113) hx hb (by omega) (by omega) dX1_termEnd_106 (by decide) (fun c_25 => ?_) (fun c_25 => ?_)
    · -- 106 yes
      refine lv_iconst (v := nI 0) hx hb dX1_termEnd_113 (by decide) ?_
      refine lv_istore (lv' := [(7, .int (nI 0)), (6, .int (nI 0)), (5, .int (nI 0)), (4, .int (nI 0)), (3, .int (nI 1)), (0, .ref h1), (1, .int (nI n)), (2, .int x)]) hx hb dX1_termEnd_114 hl (by decide) rfl (fun ls hl => ?_)
      refine lv_aload_n hx hb dX1_termEnd_116 rfl (lv_at hl 5 rfl) ?_
      refine lv_iload_n hx hb dX1_termEnd_117 rfl (lv_at hl 4 rfl) ?_
      refine pn_if_ne (tgt := 125) hx hb (by omega) dX1_termEnd_118 (by decide) (fun _ => ?_) (fun c_26 => absurd c_26 (by decide))
      refine lv_iload hx hb dX1_termEnd_125 (lv_at hl 3 rfl) ?_
      refine pn_if_ne (tgt := 134) hx hb (by omega) dX1_termEnd_127 (by decide) (fun c_27 => absurd c_27 (by decide)) (fun _ => ?_)
      refine lv_iconst (v := nI 2) hx hb dX1_termEnd_130 (by decide) ?_
      refine lv_goto (tgt := 144) hx hb dX1_termEnd_131 (by decide) ?_
      refine pz_VI (rest := []) (wr := []) ⟨hx, hb, hml, hown, hts⟩ (k_X1_isFine_k l D h1 bc bf bg cyI ts th (nI (pm_yr 0)) (nI (pm_mo 0)) (nI (pm_da 0)) mk wr rc ff gg 2 (by omega) (by omega)) (cwV 1 hts gX1_termEnd_X1_isFine rfl rfl rfl (by decide +kernel) ⟨Nat.le_of_ble_eq_true rfl, Nat.le_of_ble_eq_true rfl⟩) hK hP hD hS hA [0, 1, 2, 3] [] rfl rfl rfl rfl rfl (by decide) 0 1 rfl rfl rfl hl.1 rfl (lv_room (Nat.le_of_ble_eq_true rfl)) dX1_termEnd_144 ⟨Nat.le_of_ble_eq_true rfl, Nat.le_of_ble_eq_true rfl⟩ (fun r u H locs hr hP hD hS => ?_)
      have hP : va_P D vwCl [(h1, .inr (1, [.int (nI 2), .int (nI (pm_yr 0)), .int (nI (pm_mo 0)), .int (nI (pm_da 0)), .int (nI mk), .ref bc, .ref bf, .ref bg, .int (nI wr)])), (bc, .inl (cyI, 366, .inl (pz_ar rc))), (bf, .inl (cyI, 3001, .inl (pz_ar ff))), (bg, .inl (cyI, 3001, .inl (pz_ar gg)))] H := hP
      have hD : va_D A [(h1, .inr (1, [.int (nI 2), .int (nI (pm_yr 0)), .int (nI (pm_mo 0)), .int (nI (pm_da 0)), .int (nI mk), .ref bc, .ref bf, .ref bg, .int (nI wr)])), (bc, .inl (cyI, 366, .inl (pz_ar rc))), (bf, .inl (cyI, 3001, .inl (pz_ar ff))), (bg, .inl (cyI, 3001, .inl (pz_ar gg)))] := hD
      obtain rfl : r = (nI 0) := hr
      refine pn_if_eq (tgt := 155) hx hb (by omega) dX1_termEnd_147 (by decide) (fun _ => ?_) (fun c_29 => absurd c_29 (by decide))
      refine lv_iconst (v := nI 0) hx hb dX1_termEnd_155 (by decide) ?_
      exact hQ _ _ _ _ _ ((nI (pm_yr 0)), (nI (pm_mo 0)), (nI (pm_da 0))) dX1_termEnd_156 rfl (congrArg nI (by rfl)) hP hD hS
    · -- 106 no
      refine lv_iconst (v := nI 1) hx hb dX1_termEnd_109 (by decide) ?_
      refine lv_goto (tgt := 114) hx hb dX1_termEnd_110 (by decide) ?_
      refine lv_istore (lv' := [(7, .int (nI 1)), (6, .int (nI 0)), (5, .int (nI 0)), (4, .int (nI 0)), (3, .int (nI 1)), (0, .ref h1), (1, .int (nI n)), (2, .int x)]) hx hb dX1_termEnd_114 hl (by decide) rfl (fun ls hl => ?_)
      refine lv_aload_n hx hb dX1_termEnd_116 rfl (lv_at hl 5 rfl) ?_
      refine lv_iload_n hx hb dX1_termEnd_117 rfl (lv_at hl 4 rfl) ?_
      refine pn_if_ne (tgt := 125) hx hb (by omega) dX1_termEnd_118 (by decide) (fun _ => ?_) (fun c_30 => absurd c_30 (by decide))
      refine lv_iload hx hb dX1_termEnd_125 (lv_at hl 3 rfl) ?_
      refine pn_if_ne (tgt := 134) hx hb (by omega) dX1_termEnd_127 (by decide) (fun c_31 => absurd c_31 (by decide)) (fun _ => ?_)
      refine lv_iconst (v := nI 2) hx hb dX1_termEnd_130 (by decide) ?_
      refine lv_goto (tgt := 144) hx hb dX1_termEnd_131 (by decide) ?_
      refine pz_VI (rest := []) (wr := []) ⟨hx, hb, hml, hown, hts⟩ (k_X1_isFine_k l D h1 bc bf bg cyI ts th (nI (pm_yr 0)) (nI (pm_mo 0)) (nI (pm_da 0)) mk wr rc ff gg 2 (by omega) (by omega)) (cwV 1 hts gX1_termEnd_X1_isFine rfl rfl rfl (by decide +kernel) ⟨Nat.le_of_ble_eq_true rfl, Nat.le_of_ble_eq_true rfl⟩) hK hP hD hS hA [0, 1, 2, 3] [] rfl rfl rfl rfl rfl (by decide) 0 1 rfl rfl rfl hl.1 rfl (lv_room (Nat.le_of_ble_eq_true rfl)) dX1_termEnd_144 ⟨Nat.le_of_ble_eq_true rfl, Nat.le_of_ble_eq_true rfl⟩ (fun r u H locs hr hP hD hS => ?_)
      have hP : va_P D vwCl [(h1, .inr (1, [.int (nI 2), .int (nI (pm_yr 0)), .int (nI (pm_mo 0)), .int (nI (pm_da 0)), .int (nI mk), .ref bc, .ref bf, .ref bg, .int (nI wr)])), (bc, .inl (cyI, 366, .inl (pz_ar rc))), (bf, .inl (cyI, 3001, .inl (pz_ar ff))), (bg, .inl (cyI, 3001, .inl (pz_ar gg)))] H := hP
      have hD : va_D A [(h1, .inr (1, [.int (nI 2), .int (nI (pm_yr 0)), .int (nI (pm_mo 0)), .int (nI (pm_da 0)), .int (nI mk), .ref bc, .ref bf, .ref bg, .int (nI wr)])), (bc, .inl (cyI, 366, .inl (pz_ar rc))), (bf, .inl (cyI, 3001, .inl (pz_ar ff))), (bg, .inl (cyI, 3001, .inl (pz_ar gg)))] := hD
      obtain rfl : r = (nI 0) := hr
      refine pn_if_eq (tgt := 155) hx hb (by omega) dX1_termEnd_147 (by decide) (fun _ => ?_) (fun c_33 => absurd c_33 (by decide))
      refine lv_iconst (v := nI 0) hx hb dX1_termEnd_155 (by decide) ?_
      exact hQ _ _ _ _ _ ((nI (pm_yr 0)), (nI (pm_mo 0)), (nI (pm_da 0))) dX1_termEnd_156 rfl (congrArg nI (by rfl)) hP hD hS
set_option maxHeartbeats 4000000 in
set_option maxRecDepth 100000 in
theorem k_X1_lawDays_a (l : Launch) (D : va_G) (h1 bc bf bg : Nat) (cyI : ClassId) (ts : List (ClassId × FieldType)) (th yr mo da : Int32) (mk wr : Nat) (rc ff gg : Nat → Nat) (n z : Nat) (hy0 : n < 1095750) (hy1 : z < 1095750) : pz_I l yX1_lawDays wsX1_lawDays ({ frames := 4, cells := 0, slots := 0, locals := 85 } : Room) D ((cyI, .int) :: ts) [.ref h1, .int (nI n), .int (nI z)] [(h1, .inr (1, [.int th, .int yr, .int mo, .int da, .int (nI mk), .ref bc, .ref bf, .ref bg, .int (nI wr)])), (bc, .inl (cyI, 366, .inl (pz_ar rc))), (bf, .inl (cyI, 3001, .inl (pz_ar ff))), (bg, .inl (cyI, 3001, .inl (pz_ar gg)))] (S := Unit) (fun r _ => r = nI (pm_lw z) - nI (pm_lw n)) (fun _ => [(h1, .inr (1, [.int (nI 0), .int (nI (pm_yr n)), .int (nI (pm_mo n)), .int (nI (pm_da n)), .int (nI mk), .ref bc, .ref bf, .ref bg, .int (nI wr)])), (bc, .inl (cyI, 366, .inl (pz_ar rc))), (bf, .inl (cyI, 3001, .inl (pz_ar ff))), (bg, .inl (cyI, 3001, .inl (pz_ar gg)))]) := by
  refine pz_I_of (cc := cX1_lawDays) (maxL := 3) (ty := .int) (own := RX1) (by decide) rfl rfl (Nat.le_of_ble_eq_true rfl) ?_
  intro p e s m below meth c A ls Q hx hb hml hown hts hK hP hD hS hA hl hQ
  have hl : lv_has ls 3 [(0, .ref h1), (1, .int (nI n)), (2, .int (nI z))] := hl
  refine lv_aload_n hx hb dX1_lawDays_0 rfl (lv_at hl 0 rfl) ?_
  refine lv_iload_n hx hb dX1_lawDays_1 rfl (lv_at hl 1 rfl) ?_
  refine pz_SR (rest := [.ref h1]) ⟨hx, hb, hml, hown, hts⟩ (k_X1_isDay_a l D ((cyI, .int) :: ts) n (by omega)) (va_cwS 1 hts gX1_lawDays_X1_isDay rfl rfl rfl (by decide +kernel) ⟨Nat.le_of_ble_eq_true rfl, Nat.le_of_ble_eq_true rfl⟩) hK hP (hD.weaken (fun _ _ _ _ => trivial)) hS hA [] rfl rfl rfl rfl hl.1 rfl (lv_room (Nat.le_of_ble_eq_true rfl)) dX1_lawDays_2 ⟨Nat.le_of_ble_eq_true rfl, Nat.le_of_ble_eq_true rfl⟩ (fun r H locs hr hP hS => ?_)
  obtain rfl : r = (nI 1) := hr
  refine pn_if_eq (tgt := 19) hx hb (by omega) dX1_lawDays_5 (by decide) (fun c_2 => absurd c_2 (by decide)) (fun _ => ?_)
  refine lv_iload_n hx hb dX1_lawDays_8 rfl (lv_at hl 2 rfl) ?_
  refine pz_SR (rest := [.ref h1]) ⟨hx, hb, hml, hown, hts⟩ (k_X1_isDay_a l D ((cyI, .int) :: ts) z (by omega)) (va_cwS 1 hts gX1_lawDays_X1_isDay rfl rfl rfl (by decide +kernel) ⟨Nat.le_of_ble_eq_true rfl, Nat.le_of_ble_eq_true rfl⟩) hK hP (hD.weaken (fun _ _ _ _ => trivial)) hS hA [] rfl rfl rfl rfl hl.1 rfl (lv_room (Nat.le_of_ble_eq_true rfl)) dX1_lawDays_9 ⟨Nat.le_of_ble_eq_true rfl, Nat.le_of_ble_eq_true rfl⟩ (fun r H locs hr hP hS => ?_)
  obtain rfl : r = (nI 1) := hr
  refine pn_if_eq (tgt := 19) hx hb (by omega) dX1_lawDays_12 (by decide) (fun c_4 => absurd c_4 (by decide)) (fun _ => ?_)
  refine lv_iconst (v := nI 0) hx hb dX1_lawDays_15 (by decide) ?_
  refine lv_goto (tgt := 20) hx hb dX1_lawDays_16 (by decide) ?_
  refine pz_VI (rest := []) (wr := []) ⟨hx, hb, hml, hown, hts⟩ (k_X1_isFine_0 l D h1 bc bf bg cyI ts th yr mo da mk wr rc ff gg  ) (cwV 1 hts gX1_lawDays_X1_isFine rfl rfl rfl (by decide +kernel) ⟨Nat.le_of_ble_eq_true rfl, Nat.le_of_ble_eq_true rfl⟩) hK hP hD hS hA [0, 1, 2, 3] [] rfl rfl rfl rfl rfl (by decide) 0 1 rfl rfl rfl hl.1 rfl (lv_room (Nat.le_of_ble_eq_true rfl)) dX1_lawDays_20 ⟨Nat.le_of_ble_eq_true rfl, Nat.le_of_ble_eq_true rfl⟩ (fun r u H locs hr hP hD hS => ?_)
  have hP : va_P D vwCl [(h1, .inr (1, [.int (nI 0), .int yr, .int mo, .int da, .int (nI mk), .ref bc, .ref bf, .ref bg, .int (nI wr)])), (bc, .inl (cyI, 366, .inl (pz_ar rc))), (bf, .inl (cyI, 3001, .inl (pz_ar ff))), (bg, .inl (cyI, 3001, .inl (pz_ar gg)))] H := hP
  have hD : va_D A [(h1, .inr (1, [.int (nI 0), .int yr, .int mo, .int da, .int (nI mk), .ref bc, .ref bf, .ref bg, .int (nI wr)])), (bc, .inl (cyI, 366, .inl (pz_ar rc))), (bf, .inl (cyI, 3001, .inl (pz_ar ff))), (bg, .inl (cyI, 3001, .inl (pz_ar gg)))] := hD
  obtain rfl : r = (nI 1) := hr
  refine pn_if_eq (tgt := 40) hx hb (by omega) dX1_lawDays_23 (by decide) (fun c_6 => absurd c_6 (by decide)) (fun _ => ?_)
  refine lv_aload_n hx hb dX1_lawDays_26 rfl (lv_at hl 0 rfl) ?_
  refine lv_iload_n hx hb dX1_lawDays_27 rfl (lv_at hl 2 rfl) ?_
  refine pz_VI (rest := []) (wr := []) ⟨hx, hb, hml, hown, hts⟩ (k_X1_lawful l D h1 bc bf bg cyI ts (nI 0) yr mo da mk wr rc ff gg z (by omega)) (cwV 1 hts gX1_lawDays_X1_lawful rfl rfl rfl (by decide +kernel) ⟨Nat.le_of_ble_eq_true rfl, Nat.le_of_ble_eq_true rfl⟩) hK hP hD hS hA [0, 1, 2, 3] [] rfl rfl rfl rfl rfl (by decide) 0 1 rfl rfl rfl hl.1 rfl (lv_room (Nat.le_of_ble_eq_true rfl)) dX1_lawDays_28 ⟨Nat.le_of_ble_eq_true rfl, Nat.le_of_ble_eq_true rfl⟩ (fun r u H locs hr hP hD hS => ?_)
  have hP : va_P D vwCl [(h1, .inr (1, [.int (nI 0), .int (nI (pm_yr z)), .int (nI (pm_mo z)), .int (nI (pm_da z)), .int (nI mk), .ref bc, .ref bf, .ref bg, .int (nI wr)])), (bc, .inl (cyI, 366, .inl (pz_ar rc))), (bf, .inl (cyI, 3001, .inl (pz_ar ff))), (bg, .inl (cyI, 3001, .inl (pz_ar gg)))] H := hP
  have hD : va_D A [(h1, .inr (1, [.int (nI 0), .int (nI (pm_yr z)), .int (nI (pm_mo z)), .int (nI (pm_da z)), .int (nI mk), .ref bc, .ref bf, .ref bg, .int (nI wr)])), (bc, .inl (cyI, 366, .inl (pz_ar rc))), (bf, .inl (cyI, 3001, .inl (pz_ar ff))), (bg, .inl (cyI, 3001, .inl (pz_ar gg)))] := hD
  obtain rfl : r = (nI (pm_lw z)) := hr
  have hf_8 := pm_lw_b z
  refine lv_aload_n hx hb dX1_lawDays_31 rfl (lv_at hl 0 rfl) ?_
  refine lv_iload_n hx hb dX1_lawDays_32 rfl (lv_at hl 1 rfl) ?_
  refine pz_VI (rest := [.int (nI (pm_lw z))]) (wr := []) ⟨hx, hb, hml, hown, hts⟩ (k_X1_lawful l D h1 bc bf bg cyI ts (nI 0) (nI (pm_yr z)) (nI (pm_mo z)) (nI (pm_da z)) mk wr rc ff gg n (by omega)) (cwV 1 hts gX1_lawDays_X1_lawful rfl rfl rfl (by decide +kernel) ⟨Nat.le_of_ble_eq_true rfl, Nat.le_of_ble_eq_true rfl⟩) hK hP hD hS hA [0, 1, 2, 3] [] rfl rfl rfl rfl rfl (by decide) 0 1 rfl rfl rfl hl.1 rfl (lv_room (Nat.le_of_ble_eq_true rfl)) dX1_lawDays_33 ⟨Nat.le_of_ble_eq_true rfl, Nat.le_of_ble_eq_true rfl⟩ (fun r u H locs hr hP hD hS => ?_)
  have hP : va_P D vwCl [(h1, .inr (1, [.int (nI 0), .int (nI (pm_yr n)), .int (nI (pm_mo n)), .int (nI (pm_da n)), .int (nI mk), .ref bc, .ref bf, .ref bg, .int (nI wr)])), (bc, .inl (cyI, 366, .inl (pz_ar rc))), (bf, .inl (cyI, 3001, .inl (pz_ar ff))), (bg, .inl (cyI, 3001, .inl (pz_ar gg)))] H := hP
  have hD : va_D A [(h1, .inr (1, [.int (nI 0), .int (nI (pm_yr n)), .int (nI (pm_mo n)), .int (nI (pm_da n)), .int (nI mk), .ref bc, .ref bf, .ref bg, .int (nI wr)])), (bc, .inl (cyI, 366, .inl (pz_ar rc))), (bf, .inl (cyI, 3001, .inl (pz_ar ff))), (bg, .inl (cyI, 3001, .inl (pz_ar gg)))] := hD
  obtain rfl : r = (nI (pm_lw n)) := hr
  have hf_10 := pm_lw_b n
  refine lv_isub hx hb dX1_lawDays_36 ?_
  refine lv_goto (tgt := 41) hx hb dX1_lawDays_37 (by decide) ?_
  exact hQ _ _ _ _ _ () dX1_lawDays_41 rfl (by rfl) hP hD hS
set_option maxHeartbeats 4000000 in
set_option maxRecDepth 100000 in
theorem k_X1_lawDays_x (l : Launch) (D : va_G) (h1 bc bf bg : Nat) (cyI : ClassId) (ts : List (ClassId × FieldType)) (th yr mo da : Int32) (mk wr : Nat) (rc ff gg : Nat → Nat) (x1 x2 : Int32) (hy0 : ¬ (0 ≤ x1.toInt ∧ x1.toInt ≤ 1095749 ∧ 0 ≤ x2.toInt ∧ x2.toInt ≤ 1095749)) : pz_I l yX1_lawDays wsX1_lawDays ({ frames := 4, cells := 0, slots := 0, locals := 85 } : Room) D ((cyI, .int) :: ts) [.ref h1, .int x1, .int x2] [(h1, .inr (1, [.int th, .int yr, .int mo, .int da, .int (nI mk), .ref bc, .ref bf, .ref bg, .int (nI wr)])), (bc, .inl (cyI, 366, .inl (pz_ar rc))), (bf, .inl (cyI, 3001, .inl (pz_ar ff))), (bg, .inl (cyI, 3001, .inl (pz_ar gg)))] (S := Unit) (fun r _ => r = nI 0) (fun _ => [(h1, .inr (1, [.int (nI 1), .int yr, .int mo, .int da, .int (nI mk), .ref bc, .ref bf, .ref bg, .int (nI wr)])), (bc, .inl (cyI, 366, .inl (pz_ar rc))), (bf, .inl (cyI, 3001, .inl (pz_ar ff))), (bg, .inl (cyI, 3001, .inl (pz_ar gg)))]) := by
  refine pz_I_of (cc := cX1_lawDays) (maxL := 3) (ty := .int) (own := RX1) (by decide) rfl rfl (Nat.le_of_ble_eq_true rfl) ?_
  intro p e s m below meth c A ls Q hx hb hml hown hts hK hP hD hS hA hl hQ
  have hl : lv_has ls 3 [(0, .ref h1), (1, .int x1), (2, .int x2)] := hl
  refine lv_aload_n hx hb dX1_lawDays_0 rfl (lv_at hl 0 rfl) ?_
  refine lv_iload_n hx hb dX1_lawDays_1 rfl (lv_at hl 1 rfl) ?_
  rcases pz_rng x1 0 1095749 (by decide) with ⟨n, hl_n, hh_n, rfl⟩ | hb_x1
  · -- in range
    have ei_n : (nI n).toInt = (n : Int) := nI_toInt (by omega)
    simp only [ei_n, Int.toNat_natCast] at hy0
    refine pz_SR (rest := [.ref h1]) ⟨hx, hb, hml, hown, hts⟩ (k_X1_isDay_a l D ((cyI, .int) :: ts) n (by omega)) (va_cwS 1 hts gX1_lawDays_X1_isDay rfl rfl rfl (by decide +kernel) ⟨Nat.le_of_ble_eq_true rfl, Nat.le_of_ble_eq_true rfl⟩) hK hP (hD.weaken (fun _ _ _ _ => trivial)) hS hA [] rfl rfl rfl rfl hl.1 rfl (lv_room (Nat.le_of_ble_eq_true rfl)) dX1_lawDays_2 ⟨Nat.le_of_ble_eq_true rfl, Nat.le_of_ble_eq_true rfl⟩ (fun r H locs hr hP hS => ?_)
    obtain rfl : r = (nI 1) := hr
    refine pn_if_eq (tgt := 19) hx hb (by omega) dX1_lawDays_5 (by decide) (fun c_2 => absurd c_2 (by decide)) (fun _ => ?_)
    refine lv_iload_n hx hb dX1_lawDays_8 rfl (lv_at hl 2 rfl) ?_
    refine pz_SR (rest := [.ref h1]) ⟨hx, hb, hml, hown, hts⟩ (k_X1_isDay_x l D ((cyI, .int) :: ts) x2 (by omega)) (va_cwS 1 hts gX1_lawDays_X1_isDay rfl rfl rfl (by decide +kernel) ⟨Nat.le_of_ble_eq_true rfl, Nat.le_of_ble_eq_true rfl⟩) hK hP (hD.weaken (fun _ _ _ _ => trivial)) hS hA [] rfl rfl rfl rfl hl.1 rfl (lv_room (Nat.le_of_ble_eq_true rfl)) dX1_lawDays_9 ⟨Nat.le_of_ble_eq_true rfl, Nat.le_of_ble_eq_true rfl⟩ (fun r H locs hr hP hS => ?_)
    obtain rfl : r = (nI 0) := hr
    refine pn_if_eq (tgt := 19) hx hb (by omega) dX1_lawDays_12 (by decide) (fun _ => ?_) (fun c_4 => absurd c_4 (by decide))
    refine lv_iconst (v := nI 1) hx hb dX1_lawDays_19 (by decide) ?_
    refine pz_VI (rest := []) (wr := []) ⟨hx, hb, hml, hown, hts⟩ (k_X1_isFine_k l D h1 bc bf bg cyI ts th yr mo da mk wr rc ff gg 1 (by omega) (by omega)) (cwV 1 hts gX1_lawDays_X1_isFine rfl rfl rfl (by decide +kernel) ⟨Nat.le_of_ble_eq_true rfl, Nat.le_of_ble_eq_true rfl⟩) hK hP hD hS hA [0, 1, 2, 3] [] rfl rfl rfl rfl rfl (by decide) 0 1 rfl rfl rfl hl.1 rfl (lv_room (Nat.le_of_ble_eq_true rfl)) dX1_lawDays_20 ⟨Nat.le_of_ble_eq_true rfl, Nat.le_of_ble_eq_true rfl⟩ (fun r u H locs hr hP hD hS => ?_)
    have hP : va_P D vwCl [(h1, .inr (1, [.int (nI 1), .int yr, .int mo, .int da, .int (nI mk), .ref bc, .ref bf, .ref bg, .int (nI wr)])), (bc, .inl (cyI, 366, .inl (pz_ar rc))), (bf, .inl (cyI, 3001, .inl (pz_ar ff))), (bg, .inl (cyI, 3001, .inl (pz_ar gg)))] H := hP
    have hD : va_D A [(h1, .inr (1, [.int (nI 1), .int yr, .int mo, .int da, .int (nI mk), .ref bc, .ref bf, .ref bg, .int (nI wr)])), (bc, .inl (cyI, 366, .inl (pz_ar rc))), (bf, .inl (cyI, 3001, .inl (pz_ar ff))), (bg, .inl (cyI, 3001, .inl (pz_ar gg)))] := hD
    obtain rfl : r = (nI 0) := hr
    refine pn_if_eq (tgt := 40) hx hb (by omega) dX1_lawDays_23 (by decide) (fun _ => ?_) (fun c_6 => absurd c_6 (by decide))
    refine lv_iconst (v := nI 0) hx hb dX1_lawDays_40 (by decide) ?_
    exact hQ _ _ _ _ _ () dX1_lawDays_41 rfl (congrArg nI (by rfl)) hP hD hS
  · -- outside
    refine pz_SR (rest := [.ref h1]) ⟨hx, hb, hml, hown, hts⟩ (k_X1_isDay_x l D ((cyI, .int) :: ts) x1 (by omega)) (va_cwS 1 hts gX1_lawDays_X1_isDay rfl rfl rfl (by decide +kernel) ⟨Nat.le_of_ble_eq_true rfl, Nat.le_of_ble_eq_true rfl⟩) hK hP (hD.weaken (fun _ _ _ _ => trivial)) hS hA [] rfl rfl rfl rfl hl.1 rfl (lv_room (Nat.le_of_ble_eq_true rfl)) dX1_lawDays_2 ⟨Nat.le_of_ble_eq_true rfl, Nat.le_of_ble_eq_true rfl⟩ (fun r H locs hr hP hS => ?_)
    obtain rfl : r = (nI 0) := hr
    refine pn_if_eq (tgt := 19) hx hb (by omega) dX1_lawDays_5 (by decide) (fun _ => ?_) (fun c_8 => absurd c_8 (by decide))
    refine lv_iconst (v := nI 1) hx hb dX1_lawDays_19 (by decide) ?_
    refine pz_VI (rest := []) (wr := []) ⟨hx, hb, hml, hown, hts⟩ (k_X1_isFine_k l D h1 bc bf bg cyI ts th yr mo da mk wr rc ff gg 1 (by omega) (by omega)) (cwV 1 hts gX1_lawDays_X1_isFine rfl rfl rfl (by decide +kernel) ⟨Nat.le_of_ble_eq_true rfl, Nat.le_of_ble_eq_true rfl⟩) hK hP hD hS hA [0, 1, 2, 3] [] rfl rfl rfl rfl rfl (by decide) 0 1 rfl rfl rfl hl.1 rfl (lv_room (Nat.le_of_ble_eq_true rfl)) dX1_lawDays_20 ⟨Nat.le_of_ble_eq_true rfl, Nat.le_of_ble_eq_true rfl⟩ (fun r u H locs hr hP hD hS => ?_)
    have hP : va_P D vwCl [(h1, .inr (1, [.int (nI 1), .int yr, .int mo, .int da, .int (nI mk), .ref bc, .ref bf, .ref bg, .int (nI wr)])), (bc, .inl (cyI, 366, .inl (pz_ar rc))), (bf, .inl (cyI, 3001, .inl (pz_ar ff))), (bg, .inl (cyI, 3001, .inl (pz_ar gg)))] H := hP
    have hD : va_D A [(h1, .inr (1, [.int (nI 1), .int yr, .int mo, .int da, .int (nI mk), .ref bc, .ref bf, .ref bg, .int (nI wr)])), (bc, .inl (cyI, 366, .inl (pz_ar rc))), (bf, .inl (cyI, 3001, .inl (pz_ar ff))), (bg, .inl (cyI, 3001, .inl (pz_ar gg)))] := hD
    obtain rfl : r = (nI 0) := hr
    refine pn_if_eq (tgt := 40) hx hb (by omega) dX1_lawDays_23 (by decide) (fun _ => ?_) (fun c_10 => absurd c_10 (by decide))
    refine lv_iconst (v := nI 0) hx hb dX1_lawDays_40 (by decide) ?_
    exact hQ _ _ _ _ _ () dX1_lawDays_41 rfl (congrArg nI (by rfl)) hP hD hS
set_option maxHeartbeats 4000000 in
set_option maxRecDepth 100000 in
theorem k_X1_letters_8 (l : Launch) (D : va_G) (h1 bc bf bg : Nat) (cyI : ClassId) (ts : List (ClassId × FieldType)) (th yr mo da : Int32) (mk wr : Nat) (rc ff gg : Nat → Nat) (y rm F Lz : Nat) (hy0 : 1 ≤ y) (hy1 : y ≤ 3000) (hy2 : rm < 8) (hy3 : pm_fd y ≤ F) (hy4 : F < 1095750) (hy5 : F % 8 = rm) (hF2 : ∀ z, pm_fd y ≤ z → z < F → ¬ z % 8 = rm) (hy7 : Lz ≤ pm_fd (y + 1) - 1) (hy8 : Lz % 8 = rm) (hL2 : ∀ z, Lz < z → z ≤ pm_fd (y + 1) - 1 → ¬ z % 8 = rm) : pz_I l yX1_letters wsX1_letters ({ frames := 4, cells := 0, slots := 0, locals := 85 } : Room) D ((cyI, .int) :: ts) [.ref h1, .int (nI y), .int (nI 8), .int (nI rm)] [(h1, .inr (1, [.int th, .int yr, .int mo, .int da, .int (nI mk), .ref bc, .ref bf, .ref bg, .int (nI wr)])), (bc, .inl (cyI, 366, .inl (pz_ar rc))), (bf, .inl (cyI, 3001, .inl (pz_ar ff))), (bg, .inl (cyI, 3001, .inl (pz_ar gg)))] (S := Int32 × Int32 × Int32) (fun r _ => r = nI (10 * ((pm_pl F - 1) % 8) + (pm_pl Lz - 1) % 8)) (fun u => [(h1, .inr (1, [.int th, .int u.1, .int u.2.1, .int u.2.2, .int (nI mk), .ref bc, .ref bf, .ref bg, .int (nI wr)])), (bc, .inl (cyI, 366, .inl (pz_ar rc))), (bf, .inl (cyI, 3001, .inl (pz_ar ff))), (bg, .inl (cyI, 3001, .inl (pz_ar gg)))]) := by
  refine pz_I_of (cc := cX1_letters) (maxL := 6) (ty := .int) (own := RX1) (by decide) rfl rfl (Nat.le_of_ble_eq_true rfl) ?_
  intro p e s m below meth c A ls Q hx hb hml hown hts hK hP hD hS hA hl hQ
  have hl : lv_has ls 6 [(0, .ref h1), (1, .int (nI y)), (2, .int (nI 8)), (3, .int (nI rm))] := hl
  have hf1 := pm_fd_e y
  have hf2 := pm_fd_e (y + 1)
  refine lv_iload_n hx hb dX1_letters_0 rfl (lv_at hl 1 rfl) ?_
  refine pz_SR (rest := []) ⟨hx, hb, hml, hown, hts⟩ (k_X1_begin l D ((cyI, .int) :: ts) y (by omega) (by omega)) (va_cwS 1 hts gX1_letters_X1_begin rfl rfl rfl (by decide +kernel) ⟨Nat.le_of_ble_eq_true rfl, Nat.le_of_ble_eq_true rfl⟩) hK hP (hD.weaken (fun _ _ _ _ => trivial)) hS hA [] rfl rfl rfl rfl hl.1 rfl (lv_room (Nat.le_of_ble_eq_true rfl)) dX1_letters_1 ⟨Nat.le_of_ble_eq_true rfl, Nat.le_of_ble_eq_true rfl⟩ (fun r H locs hr hP hS => ?_)
  obtain rfl : r = (nI (pm_fd y)) := hr
  have hf_2 := pm_fd_e y
  refine lv_istore (lv' := [(4, .int (nI (pm_fd y))), (0, .ref h1), (1, .int (nI y)), (2, .int (nI 8)), (3, .int (nI rm))]) hx hb dX1_letters_4 hl (by decide) rfl (fun ls hl => ?_)
  have LP6 : ∀ (N : Nat) (f0 : Nat) (H : Heap) (locs : List Loc) (ls : Array Slot), F - f0 < N → (pm_fd y ≤ f0) → (f0 ≤ F) → va_P D vwCl [(h1, .inr (1, [.int th, .int yr, .int mo, .int da, .int (nI mk), .ref bc, .ref bf, .ref bg, .int (nI wr)])), (bc, .inl (cyI, 366, .inl (pz_ar rc))), (bf, .inl (cyI, 3001, .inl (pz_ar ff))), (bg, .inl (cyI, 3001, .inl (pz_ar gg)))] H → va_D A [(h1, .inr (1, [.int th, .int yr, .int mo, .int da, .int (nI mk), .ref bc, .ref bf, .ref bg, .int (nI wr)])), (bc, .inl (cyI, 366, .inl (pz_ar rc))), (bf, .inl (cyI, 3001, .inl (pz_ar ff))), (bg, .inl (cyI, 3001, .inl (pz_ar gg)))] → va_S A s.heap H locs → lv_has ls 6 [(4, .int (nI f0)), (0, .ref h1), (1, .int (nI y)), (2, .int (nI 8)), (3, .int (nI rm))] → W p l e ({ frames := 4, cells := 0, slots := 0, locals := 85 } : Room) s m ([.ref h1, .int (nI y), .int (nI 8), .int (nI rm)] : List Value).toArray below meth c H locs 0 0 Q (F0 m 6 ls []) := by
    intro N
    induction N with
    | zero => intro f0 H locs ls hN; exact absurd hN (Nat.not_lt_zero _)
    | succ N ih =>
      intro f0 H locs ls hN hi6_0 hi6_1 hP hD hS hl
      have hz_0 : f0 < F → ¬ f0 % 8 = rm := hF2 f0 hi6_0
      have hq_0 : f0 = F → f0 % 8 = rm := fun h9 => by rw [h9]; assumption
      have ih6 := ih
      refine lv_iload hx hb dX1_letters_6 (lv_at hl 0 rfl) ?_
      refine lv_iload_n hx hb dX1_letters_8 rfl (lv_at hl 3 rfl) ?_
      refine pn_irem hx hb (by omega) (by omega) (by omega) dX1_letters_9 ?_
      refine lv_iload_n hx hb dX1_letters_10 rfl (lv_at hl 4 rfl) ?_
      refine pn_icmp_eq (tgt := 20) hx hb (by omega) (by omega) dX1_letters_11 (by decide) (fun c_3 => ?_) (fun c_3 => ?_)
      · -- 11 yes
        refine lv_iload_n hx hb dX1_letters_20 rfl (lv_at hl 2 rfl) ?_
        refine lv_iconst (v := nI 1) hx hb dX1_letters_21 (by decide) ?_
        refine pn_iadd hx hb dX1_letters_22 ?_
        refine pz_SR (rest := []) ⟨hx, hb, hml, hown, hts⟩ (k_X1_begin l D ((cyI, .int) :: ts) (y + 1) (by omega) (by omega)) (va_cwS 1 hts gX1_letters_X1_begin rfl rfl rfl (by decide +kernel) ⟨Nat.le_of_ble_eq_true rfl, Nat.le_of_ble_eq_true rfl⟩) hK hP (hD.weaken (fun _ _ _ _ => trivial)) hS hA [] rfl rfl rfl rfl hl.1 rfl (lv_room (Nat.le_of_ble_eq_true rfl)) dX1_letters_23 ⟨Nat.le_of_ble_eq_true rfl, Nat.le_of_ble_eq_true rfl⟩ (fun r H locs hr hP hS => ?_)
        obtain rfl : r = (nI (pm_fd (y + 1))) := hr
        have hf_5 := pm_fd_e (y + 1)
        refine lv_iconst (v := nI 1) hx hb dX1_letters_26 (by decide) ?_
        refine pn_isub hx hb (by omega) dX1_letters_27 ?_
        refine lv_istore (lv' := [(5, .int (nI ((pm_fd (y + 1)) - 1))), (4, .int (nI f0)), (0, .ref h1), (1, .int (nI y)), (2, .int (nI 8)), (3, .int (nI rm))]) hx hb dX1_letters_28 hl (by decide) rfl (fun ls hl => ?_)
        have LP30 : ∀ (N : Nat) (t0 : Nat) (H : Heap) (locs : List Loc) (ls : Array Slot), t0 < N → (Lz ≤ t0) → (t0 ≤ pm_fd (y + 1) - 1) → va_P D vwCl [(h1, .inr (1, [.int th, .int yr, .int mo, .int da, .int (nI mk), .ref bc, .ref bf, .ref bg, .int (nI wr)])), (bc, .inl (cyI, 366, .inl (pz_ar rc))), (bf, .inl (cyI, 3001, .inl (pz_ar ff))), (bg, .inl (cyI, 3001, .inl (pz_ar gg)))] H → va_D A [(h1, .inr (1, [.int th, .int yr, .int mo, .int da, .int (nI mk), .ref bc, .ref bf, .ref bg, .int (nI wr)])), (bc, .inl (cyI, 366, .inl (pz_ar rc))), (bf, .inl (cyI, 3001, .inl (pz_ar ff))), (bg, .inl (cyI, 3001, .inl (pz_ar gg)))] → va_S A s.heap H locs → lv_has ls 6 [(5, .int (nI t0)), (4, .int (nI f0)), (0, .ref h1), (1, .int (nI y)), (2, .int (nI 8)), (3, .int (nI rm))] → W p l e ({ frames := 4, cells := 0, slots := 0, locals := 85 } : Room) s m ([.ref h1, .int (nI y), .int (nI 8), .int (nI rm)] : List Value).toArray below meth c H locs 0 0 Q (F0 m 30 ls []) := by
          intro N
          induction N with
          | zero => intro t0 H locs ls hN; exact absurd hN (Nat.not_lt_zero _)
          | succ N ih =>
            intro t0 H locs ls hN hi30_0 hi30_1 hP hD hS hl
            have hz_1 : Lz < t0 → ¬ t0 % 8 = rm := fun h9 => hL2 t0 h9 hi30_1
            have hq_1 : t0 = Lz → t0 % 8 = rm := fun h9 => by rw [h9]; assumption
            have ih30 := ih
            refine lv_iload hx hb dX1_letters_30 (lv_at hl 0 rfl) ?_
            refine lv_iload_n hx hb dX1_letters_32 rfl (lv_at hl 4 rfl) ?_
            refine pn_irem hx hb (by omega) (by omega) (by omega) dX1_letters_33 ?_
            refine lv_iload_n hx hb dX1_letters_34 rfl (lv_at hl 5 rfl) ?_
            refine pn_icmp_eq (tgt := 44) hx hb (by omega) (by omega) dX1_letters_35 (by decide) (fun c_6 => ?_) (fun c_6 => ?_)
            · -- 35 yes
              refine lv_bipush (v := nI 10) hx hb dX1_letters_44 (by decide) ?_
              refine lv_aload_n hx hb dX1_letters_46 rfl (lv_at hl 2 rfl) ?_
              refine lv_iload hx hb dX1_letters_47 (lv_at hl 1 rfl) ?_
              refine pz_VI (rest := [.int (nI 10)]) (wr := []) ⟨hx, hb, hml, hown, hts⟩ (k_X1_placed l D h1 bc bf bg cyI ts th yr mo da mk wr rc ff gg f0 (by omega)) (cwV 1 hts gX1_letters_X1_placed rfl rfl rfl (by decide +kernel) ⟨Nat.le_of_ble_eq_true rfl, Nat.le_of_ble_eq_true rfl⟩) hK hP hD hS hA [0, 1, 2, 3] [] rfl rfl rfl rfl rfl (by decide) 0 1 rfl rfl rfl hl.1 rfl (lv_room (Nat.le_of_ble_eq_true rfl)) dX1_letters_49 ⟨Nat.le_of_ble_eq_true rfl, Nat.le_of_ble_eq_true rfl⟩ (fun r u H locs hr hP hD hS => ?_)
              have hP : va_P D vwCl [(h1, .inr (1, [.int th, .int (nI (pm_yr f0)), .int (nI (pm_mo f0)), .int (nI (pm_da f0)), .int (nI mk), .ref bc, .ref bf, .ref bg, .int (nI wr)])), (bc, .inl (cyI, 366, .inl (pz_ar rc))), (bf, .inl (cyI, 3001, .inl (pz_ar ff))), (bg, .inl (cyI, 3001, .inl (pz_ar gg)))] H := hP
              have hD : va_D A [(h1, .inr (1, [.int th, .int (nI (pm_yr f0)), .int (nI (pm_mo f0)), .int (nI (pm_da f0)), .int (nI mk), .ref bc, .ref bf, .ref bg, .int (nI wr)])), (bc, .inl (cyI, 366, .inl (pz_ar rc))), (bf, .inl (cyI, 3001, .inl (pz_ar ff))), (bg, .inl (cyI, 3001, .inl (pz_ar gg)))] := hD
              obtain rfl : r = (nI (pm_pl f0)) := hr
              have hf_8 := pm_pl_b f0
              refine lv_iconst (v := nI 1) hx hb dX1_letters_52 (by decide) ?_
              refine pn_isub hx hb (by omega) dX1_letters_53 ?_
              refine lv_iload_n hx hb dX1_letters_54 rfl (lv_at hl 4 rfl) ?_
              refine pn_irem hx hb (by omega) (by omega) (by omega) dX1_letters_55 ?_
              refine pn_imul hx hb dX1_letters_56 ?_
              refine lv_aload_n hx hb dX1_letters_57 rfl (lv_at hl 2 rfl) ?_
              refine lv_iload hx hb dX1_letters_58 (lv_at hl 0 rfl) ?_
              refine pz_VI (rest := [.int (nI (10 * (((pm_pl f0) - 1) % 8)))]) (wr := []) ⟨hx, hb, hml, hown, hts⟩ (k_X1_placed l D h1 bc bf bg cyI ts th (nI (pm_yr f0)) (nI (pm_mo f0)) (nI (pm_da f0)) mk wr rc ff gg t0 (by omega)) (cwV 1 hts gX1_letters_X1_placed rfl rfl rfl (by decide +kernel) ⟨Nat.le_of_ble_eq_true rfl, Nat.le_of_ble_eq_true rfl⟩) hK hP hD hS hA [0, 1, 2, 3] [] rfl rfl rfl rfl rfl (by decide) 0 1 rfl rfl rfl hl.1 rfl (lv_room (Nat.le_of_ble_eq_true rfl)) dX1_letters_60 ⟨Nat.le_of_ble_eq_true rfl, Nat.le_of_ble_eq_true rfl⟩ (fun r u H locs hr hP hD hS => ?_)
              have hP : va_P D vwCl [(h1, .inr (1, [.int th, .int (nI (pm_yr t0)), .int (nI (pm_mo t0)), .int (nI (pm_da t0)), .int (nI mk), .ref bc, .ref bf, .ref bg, .int (nI wr)])), (bc, .inl (cyI, 366, .inl (pz_ar rc))), (bf, .inl (cyI, 3001, .inl (pz_ar ff))), (bg, .inl (cyI, 3001, .inl (pz_ar gg)))] H := hP
              have hD : va_D A [(h1, .inr (1, [.int th, .int (nI (pm_yr t0)), .int (nI (pm_mo t0)), .int (nI (pm_da t0)), .int (nI mk), .ref bc, .ref bf, .ref bg, .int (nI wr)])), (bc, .inl (cyI, 366, .inl (pz_ar rc))), (bf, .inl (cyI, 3001, .inl (pz_ar ff))), (bg, .inl (cyI, 3001, .inl (pz_ar gg)))] := hD
              obtain rfl : r = (nI (pm_pl t0)) := hr
              have hf_10 := pm_pl_b t0
              refine lv_iconst (v := nI 1) hx hb dX1_letters_63 (by decide) ?_
              refine pn_isub hx hb (by omega) dX1_letters_64 ?_
              refine lv_iload_n hx hb dX1_letters_65 rfl (lv_at hl 4 rfl) ?_
              refine pn_irem hx hb (by omega) (by omega) (by omega) dX1_letters_66 ?_
              refine pn_iadd hx hb dX1_letters_67 ?_
              exact hQ _ _ _ _ _ ((nI (pm_yr t0)), (nI (pm_mo t0)), (nI (pm_da t0))) dX1_letters_68 rfl (congrArg nI (by (have h1 : f0 = F := by omega); (have h2 : t0 = Lz := by omega); rw [h1, h2])) hP hD hS
            · -- 35 no
              refine lv_iinc (v := (nI (t0 - 1))) (lv' := [(5, .int (nI (t0 - 1))), (4, .int (nI f0)), (0, .ref h1), (1, .int (nI y)), (2, .int (nI 8)), (3, .int (nI rm))]) hx hb dX1_letters_38 hl (k := 0) rfl (pn_dec (by omega)) (by decide) rfl (fun ls hl => ?_)
              refine lv_goto (tgt := 30) hx hb dX1_letters_41 (by decide) ?_
              exact ih30 (t0 - 1) _ _ _ (by omega) (by omega) (by omega) hP hD hS (lv_sub hl [0, 1, 2, 3, 4, 5] rfl)
        exact LP30 _ ((pm_fd (y + 1)) - 1) _ _ _ (Nat.lt_succ_self _) (by omega) (by omega) hP hD hS (lv_sub hl [0, 1, 2, 3, 4, 5] rfl)
      · -- 11 no
        refine lv_iinc (v := (nI (f0 + 1))) (lv' := [(4, .int (nI (f0 + 1))), (0, .ref h1), (1, .int (nI y)), (2, .int (nI 8)), (3, .int (nI rm))]) hx hb dX1_letters_14 hl (k := 0) rfl (by exact nI_add _ 1) (by decide) rfl (fun ls hl => ?_)
        refine lv_goto (tgt := 6) hx hb dX1_letters_17 (by decide) ?_
        exact ih6 (f0 + 1) _ _ _ (by omega) (by omega) (by omega) hP hD hS (lv_sub hl [0, 1, 2, 3, 4] rfl)
  exact LP6 _ (pm_fd y) _ _ _ (Nat.lt_succ_self _) (by omega) (by omega) hP hD hS (lv_sub hl [0, 1, 2, 3, 4] rfl)
set_option maxHeartbeats 4000000 in
set_option maxRecDepth 100000 in
theorem k_X1_letters_7 (l : Launch) (D : va_G) (h1 bc bf bg : Nat) (cyI : ClassId) (ts : List (ClassId × FieldType)) (th yr mo da : Int32) (mk wr : Nat) (rc ff gg : Nat → Nat) (y rm F Lz : Nat) (hy0 : 1 ≤ y) (hy1 : y ≤ 3000) (hy2 : rm < 7) (hy3 : pm_fd y ≤ F) (hy4 : F < 1095750) (hy5 : F % 7 = rm) (hF2 : ∀ z, pm_fd y ≤ z → z < F → ¬ z % 7 = rm) (hy7 : Lz ≤ pm_fd (y + 1) - 1) (hy8 : Lz % 7 = rm) (hL2 : ∀ z, Lz < z → z ≤ pm_fd (y + 1) - 1 → ¬ z % 7 = rm) : pz_I l yX1_letters wsX1_letters ({ frames := 4, cells := 0, slots := 0, locals := 85 } : Room) D ((cyI, .int) :: ts) [.ref h1, .int (nI y), .int (nI 7), .int (nI rm)] [(h1, .inr (1, [.int th, .int yr, .int mo, .int da, .int (nI mk), .ref bc, .ref bf, .ref bg, .int (nI wr)])), (bc, .inl (cyI, 366, .inl (pz_ar rc))), (bf, .inl (cyI, 3001, .inl (pz_ar ff))), (bg, .inl (cyI, 3001, .inl (pz_ar gg)))] (S := Int32 × Int32 × Int32) (fun r _ => r = nI (10 * ((pm_pl F - 1) % 7) + (pm_pl Lz - 1) % 7)) (fun u => [(h1, .inr (1, [.int th, .int u.1, .int u.2.1, .int u.2.2, .int (nI mk), .ref bc, .ref bf, .ref bg, .int (nI wr)])), (bc, .inl (cyI, 366, .inl (pz_ar rc))), (bf, .inl (cyI, 3001, .inl (pz_ar ff))), (bg, .inl (cyI, 3001, .inl (pz_ar gg)))]) := by
  refine pz_I_of (cc := cX1_letters) (maxL := 6) (ty := .int) (own := RX1) (by decide) rfl rfl (Nat.le_of_ble_eq_true rfl) ?_
  intro p e s m below meth c A ls Q hx hb hml hown hts hK hP hD hS hA hl hQ
  have hl : lv_has ls 6 [(0, .ref h1), (1, .int (nI y)), (2, .int (nI 7)), (3, .int (nI rm))] := hl
  have hf1 := pm_fd_e y
  have hf2 := pm_fd_e (y + 1)
  refine lv_iload_n hx hb dX1_letters_0 rfl (lv_at hl 1 rfl) ?_
  refine pz_SR (rest := []) ⟨hx, hb, hml, hown, hts⟩ (k_X1_begin l D ((cyI, .int) :: ts) y (by omega) (by omega)) (va_cwS 1 hts gX1_letters_X1_begin rfl rfl rfl (by decide +kernel) ⟨Nat.le_of_ble_eq_true rfl, Nat.le_of_ble_eq_true rfl⟩) hK hP (hD.weaken (fun _ _ _ _ => trivial)) hS hA [] rfl rfl rfl rfl hl.1 rfl (lv_room (Nat.le_of_ble_eq_true rfl)) dX1_letters_1 ⟨Nat.le_of_ble_eq_true rfl, Nat.le_of_ble_eq_true rfl⟩ (fun r H locs hr hP hS => ?_)
  obtain rfl : r = (nI (pm_fd y)) := hr
  have hf_2 := pm_fd_e y
  refine lv_istore (lv' := [(4, .int (nI (pm_fd y))), (0, .ref h1), (1, .int (nI y)), (2, .int (nI 7)), (3, .int (nI rm))]) hx hb dX1_letters_4 hl (by decide) rfl (fun ls hl => ?_)
  have LP6 : ∀ (N : Nat) (f0 : Nat) (H : Heap) (locs : List Loc) (ls : Array Slot), F - f0 < N → (pm_fd y ≤ f0) → (f0 ≤ F) → va_P D vwCl [(h1, .inr (1, [.int th, .int yr, .int mo, .int da, .int (nI mk), .ref bc, .ref bf, .ref bg, .int (nI wr)])), (bc, .inl (cyI, 366, .inl (pz_ar rc))), (bf, .inl (cyI, 3001, .inl (pz_ar ff))), (bg, .inl (cyI, 3001, .inl (pz_ar gg)))] H → va_D A [(h1, .inr (1, [.int th, .int yr, .int mo, .int da, .int (nI mk), .ref bc, .ref bf, .ref bg, .int (nI wr)])), (bc, .inl (cyI, 366, .inl (pz_ar rc))), (bf, .inl (cyI, 3001, .inl (pz_ar ff))), (bg, .inl (cyI, 3001, .inl (pz_ar gg)))] → va_S A s.heap H locs → lv_has ls 6 [(4, .int (nI f0)), (0, .ref h1), (1, .int (nI y)), (2, .int (nI 7)), (3, .int (nI rm))] → W p l e ({ frames := 4, cells := 0, slots := 0, locals := 85 } : Room) s m ([.ref h1, .int (nI y), .int (nI 7), .int (nI rm)] : List Value).toArray below meth c H locs 0 0 Q (F0 m 6 ls []) := by
    intro N
    induction N with
    | zero => intro f0 H locs ls hN; exact absurd hN (Nat.not_lt_zero _)
    | succ N ih =>
      intro f0 H locs ls hN hi6_0 hi6_1 hP hD hS hl
      have hz_0 : f0 < F → ¬ f0 % 7 = rm := hF2 f0 hi6_0
      have hq_0 : f0 = F → f0 % 7 = rm := fun h9 => by rw [h9]; assumption
      have ih6 := ih
      refine lv_iload hx hb dX1_letters_6 (lv_at hl 0 rfl) ?_
      refine lv_iload_n hx hb dX1_letters_8 rfl (lv_at hl 3 rfl) ?_
      refine pn_irem hx hb (by omega) (by omega) (by omega) dX1_letters_9 ?_
      refine lv_iload_n hx hb dX1_letters_10 rfl (lv_at hl 4 rfl) ?_
      refine pn_icmp_eq (tgt := 20) hx hb (by omega) (by omega) dX1_letters_11 (by decide) (fun c_3 => ?_) (fun c_3 => ?_)
      · -- 11 yes
        refine lv_iload_n hx hb dX1_letters_20 rfl (lv_at hl 2 rfl) ?_
        refine lv_iconst (v := nI 1) hx hb dX1_letters_21 (by decide) ?_
        refine pn_iadd hx hb dX1_letters_22 ?_
        refine pz_SR (rest := []) ⟨hx, hb, hml, hown, hts⟩ (k_X1_begin l D ((cyI, .int) :: ts) (y + 1) (by omega) (by omega)) (va_cwS 1 hts gX1_letters_X1_begin rfl rfl rfl (by decide +kernel) ⟨Nat.le_of_ble_eq_true rfl, Nat.le_of_ble_eq_true rfl⟩) hK hP (hD.weaken (fun _ _ _ _ => trivial)) hS hA [] rfl rfl rfl rfl hl.1 rfl (lv_room (Nat.le_of_ble_eq_true rfl)) dX1_letters_23 ⟨Nat.le_of_ble_eq_true rfl, Nat.le_of_ble_eq_true rfl⟩ (fun r H locs hr hP hS => ?_)
        obtain rfl : r = (nI (pm_fd (y + 1))) := hr
        have hf_5 := pm_fd_e (y + 1)
        refine lv_iconst (v := nI 1) hx hb dX1_letters_26 (by decide) ?_
        refine pn_isub hx hb (by omega) dX1_letters_27 ?_
        refine lv_istore (lv' := [(5, .int (nI ((pm_fd (y + 1)) - 1))), (4, .int (nI f0)), (0, .ref h1), (1, .int (nI y)), (2, .int (nI 7)), (3, .int (nI rm))]) hx hb dX1_letters_28 hl (by decide) rfl (fun ls hl => ?_)
        have LP30 : ∀ (N : Nat) (t0 : Nat) (H : Heap) (locs : List Loc) (ls : Array Slot), t0 < N → (Lz ≤ t0) → (t0 ≤ pm_fd (y + 1) - 1) → va_P D vwCl [(h1, .inr (1, [.int th, .int yr, .int mo, .int da, .int (nI mk), .ref bc, .ref bf, .ref bg, .int (nI wr)])), (bc, .inl (cyI, 366, .inl (pz_ar rc))), (bf, .inl (cyI, 3001, .inl (pz_ar ff))), (bg, .inl (cyI, 3001, .inl (pz_ar gg)))] H → va_D A [(h1, .inr (1, [.int th, .int yr, .int mo, .int da, .int (nI mk), .ref bc, .ref bf, .ref bg, .int (nI wr)])), (bc, .inl (cyI, 366, .inl (pz_ar rc))), (bf, .inl (cyI, 3001, .inl (pz_ar ff))), (bg, .inl (cyI, 3001, .inl (pz_ar gg)))] → va_S A s.heap H locs → lv_has ls 6 [(5, .int (nI t0)), (4, .int (nI f0)), (0, .ref h1), (1, .int (nI y)), (2, .int (nI 7)), (3, .int (nI rm))] → W p l e ({ frames := 4, cells := 0, slots := 0, locals := 85 } : Room) s m ([.ref h1, .int (nI y), .int (nI 7), .int (nI rm)] : List Value).toArray below meth c H locs 0 0 Q (F0 m 30 ls []) := by
          intro N
          induction N with
          | zero => intro t0 H locs ls hN; exact absurd hN (Nat.not_lt_zero _)
          | succ N ih =>
            intro t0 H locs ls hN hi30_0 hi30_1 hP hD hS hl
            have hz_1 : Lz < t0 → ¬ t0 % 7 = rm := fun h9 => hL2 t0 h9 hi30_1
            have hq_1 : t0 = Lz → t0 % 7 = rm := fun h9 => by rw [h9]; assumption
            have ih30 := ih
            refine lv_iload hx hb dX1_letters_30 (lv_at hl 0 rfl) ?_
            refine lv_iload_n hx hb dX1_letters_32 rfl (lv_at hl 4 rfl) ?_
            refine pn_irem hx hb (by omega) (by omega) (by omega) dX1_letters_33 ?_
            refine lv_iload_n hx hb dX1_letters_34 rfl (lv_at hl 5 rfl) ?_
            refine pn_icmp_eq (tgt := 44) hx hb (by omega) (by omega) dX1_letters_35 (by decide) (fun c_6 => ?_) (fun c_6 => ?_)
            · -- 35 yes
              refine lv_bipush (v := nI 10) hx hb dX1_letters_44 (by decide) ?_
              refine lv_aload_n hx hb dX1_letters_46 rfl (lv_at hl 2 rfl) ?_
              refine lv_iload hx hb dX1_letters_47 (lv_at hl 1 rfl) ?_
              refine pz_VI (rest := [.int (nI 10)]) (wr := []) ⟨hx, hb, hml, hown, hts⟩ (k_X1_placed l D h1 bc bf bg cyI ts th yr mo da mk wr rc ff gg f0 (by omega)) (cwV 1 hts gX1_letters_X1_placed rfl rfl rfl (by decide +kernel) ⟨Nat.le_of_ble_eq_true rfl, Nat.le_of_ble_eq_true rfl⟩) hK hP hD hS hA [0, 1, 2, 3] [] rfl rfl rfl rfl rfl (by decide) 0 1 rfl rfl rfl hl.1 rfl (lv_room (Nat.le_of_ble_eq_true rfl)) dX1_letters_49 ⟨Nat.le_of_ble_eq_true rfl, Nat.le_of_ble_eq_true rfl⟩ (fun r u H locs hr hP hD hS => ?_)
              have hP : va_P D vwCl [(h1, .inr (1, [.int th, .int (nI (pm_yr f0)), .int (nI (pm_mo f0)), .int (nI (pm_da f0)), .int (nI mk), .ref bc, .ref bf, .ref bg, .int (nI wr)])), (bc, .inl (cyI, 366, .inl (pz_ar rc))), (bf, .inl (cyI, 3001, .inl (pz_ar ff))), (bg, .inl (cyI, 3001, .inl (pz_ar gg)))] H := hP
              have hD : va_D A [(h1, .inr (1, [.int th, .int (nI (pm_yr f0)), .int (nI (pm_mo f0)), .int (nI (pm_da f0)), .int (nI mk), .ref bc, .ref bf, .ref bg, .int (nI wr)])), (bc, .inl (cyI, 366, .inl (pz_ar rc))), (bf, .inl (cyI, 3001, .inl (pz_ar ff))), (bg, .inl (cyI, 3001, .inl (pz_ar gg)))] := hD
              obtain rfl : r = (nI (pm_pl f0)) := hr
              have hf_8 := pm_pl_b f0
              refine lv_iconst (v := nI 1) hx hb dX1_letters_52 (by decide) ?_
              refine pn_isub hx hb (by omega) dX1_letters_53 ?_
              refine lv_iload_n hx hb dX1_letters_54 rfl (lv_at hl 4 rfl) ?_
              refine pn_irem hx hb (by omega) (by omega) (by omega) dX1_letters_55 ?_
              refine pn_imul hx hb dX1_letters_56 ?_
              refine lv_aload_n hx hb dX1_letters_57 rfl (lv_at hl 2 rfl) ?_
              refine lv_iload hx hb dX1_letters_58 (lv_at hl 0 rfl) ?_
              refine pz_VI (rest := [.int (nI (10 * (((pm_pl f0) - 1) % 7)))]) (wr := []) ⟨hx, hb, hml, hown, hts⟩ (k_X1_placed l D h1 bc bf bg cyI ts th (nI (pm_yr f0)) (nI (pm_mo f0)) (nI (pm_da f0)) mk wr rc ff gg t0 (by omega)) (cwV 1 hts gX1_letters_X1_placed rfl rfl rfl (by decide +kernel) ⟨Nat.le_of_ble_eq_true rfl, Nat.le_of_ble_eq_true rfl⟩) hK hP hD hS hA [0, 1, 2, 3] [] rfl rfl rfl rfl rfl (by decide) 0 1 rfl rfl rfl hl.1 rfl (lv_room (Nat.le_of_ble_eq_true rfl)) dX1_letters_60 ⟨Nat.le_of_ble_eq_true rfl, Nat.le_of_ble_eq_true rfl⟩ (fun r u H locs hr hP hD hS => ?_)
              have hP : va_P D vwCl [(h1, .inr (1, [.int th, .int (nI (pm_yr t0)), .int (nI (pm_mo t0)), .int (nI (pm_da t0)), .int (nI mk), .ref bc, .ref bf, .ref bg, .int (nI wr)])), (bc, .inl (cyI, 366, .inl (pz_ar rc))), (bf, .inl (cyI, 3001, .inl (pz_ar ff))), (bg, .inl (cyI, 3001, .inl (pz_ar gg)))] H := hP
              have hD : va_D A [(h1, .inr (1, [.int th, .int (nI (pm_yr t0)), .int (nI (pm_mo t0)), .int (nI (pm_da t0)), .int (nI mk), .ref bc, .ref bf, .ref bg, .int (nI wr)])), (bc, .inl (cyI, 366, .inl (pz_ar rc))), (bf, .inl (cyI, 3001, .inl (pz_ar ff))), (bg, .inl (cyI, 3001, .inl (pz_ar gg)))] := hD
              obtain rfl : r = (nI (pm_pl t0)) := hr
              have hf_10 := pm_pl_b t0
              refine lv_iconst (v := nI 1) hx hb dX1_letters_63 (by decide) ?_
              refine pn_isub hx hb (by omega) dX1_letters_64 ?_
              refine lv_iload_n hx hb dX1_letters_65 rfl (lv_at hl 4 rfl) ?_
              refine pn_irem hx hb (by omega) (by omega) (by omega) dX1_letters_66 ?_
              refine pn_iadd hx hb dX1_letters_67 ?_
              exact hQ _ _ _ _ _ ((nI (pm_yr t0)), (nI (pm_mo t0)), (nI (pm_da t0))) dX1_letters_68 rfl (congrArg nI (by (have h1 : f0 = F := by omega); (have h2 : t0 = Lz := by omega); rw [h1, h2])) hP hD hS
            · -- 35 no
              refine lv_iinc (v := (nI (t0 - 1))) (lv' := [(5, .int (nI (t0 - 1))), (4, .int (nI f0)), (0, .ref h1), (1, .int (nI y)), (2, .int (nI 7)), (3, .int (nI rm))]) hx hb dX1_letters_38 hl (k := 0) rfl (pn_dec (by omega)) (by decide) rfl (fun ls hl => ?_)
              refine lv_goto (tgt := 30) hx hb dX1_letters_41 (by decide) ?_
              exact ih30 (t0 - 1) _ _ _ (by omega) (by omega) (by omega) hP hD hS (lv_sub hl [0, 1, 2, 3, 4, 5] rfl)
        exact LP30 _ ((pm_fd (y + 1)) - 1) _ _ _ (Nat.lt_succ_self _) (by omega) (by omega) hP hD hS (lv_sub hl [0, 1, 2, 3, 4, 5] rfl)
      · -- 11 no
        refine lv_iinc (v := (nI (f0 + 1))) (lv' := [(4, .int (nI (f0 + 1))), (0, .ref h1), (1, .int (nI y)), (2, .int (nI 7)), (3, .int (nI rm))]) hx hb dX1_letters_14 hl (k := 0) rfl (by exact nI_add _ 1) (by decide) rfl (fun ls hl => ?_)
        refine lv_goto (tgt := 6) hx hb dX1_letters_17 (by decide) ?_
        exact ih6 (f0 + 1) _ _ _ (by omega) (by omega) (by omega) hP hD hS (lv_sub hl [0, 1, 2, 3, 4] rfl)
  exact LP6 _ (pm_fd y) _ _ _ (Nat.lt_succ_self _) (by omega) (by omega) hP hD hS (lv_sub hl [0, 1, 2, 3, 4] rfl)
set_option maxHeartbeats 4000000 in
set_option maxRecDepth 100000 in
theorem k_X1_marketLetters_a (l : Launch) (D : va_G) (h1 bc bf bg : Nat) (cyI : ClassId) (ts : List (ClassId × FieldType)) (th yr mo da : Int32) (mk wr : Nat) (rc ff gg : Nat → Nat) (y F Lz : Nat) (hy0 : 1 ≤ y) (hy1 : y ≤ 3000) (hmk : mk < 8) (hy3 : pm_fd y ≤ F) (hy4 : F < 1095750) (hy5 : F % 8 = mk) (hF2 : ∀ z, pm_fd y ≤ z → z < F → ¬ z % 8 = mk) (hy7 : Lz ≤ pm_fd (y + 1) - 1) (hy8 : Lz % 8 = mk) (hL2 : ∀ z, Lz < z → z ≤ pm_fd (y + 1) - 1 → ¬ z % 8 = mk) : pz_I l yX1_marketLetters wsX1_marketLetters ({ frames := 5, cells := 0, slots := 0, locals := 110 } : Room) D ((cyI, .int) :: ts) [.ref h1, .int (nI y)] [(h1, .inr (1, [.int th, .int yr, .int mo, .int da, .int (nI mk), .ref bc, .ref bf, .ref bg, .int (nI wr)])), (bc, .inl (cyI, 366, .inl (pz_ar rc))), (bf, .inl (cyI, 3001, .inl (pz_ar ff))), (bg, .inl (cyI, 3001, .inl (pz_ar gg)))] (S := Int32 × Int32 × Int32) (fun r _ => r = nI (10 * ((pm_pl F - 1) % 8) + (pm_pl Lz - 1) % 8)) (fun u => [(h1, .inr (1, [.int (nI 0), .int u.1, .int u.2.1, .int u.2.2, .int (nI mk), .ref bc, .ref bf, .ref bg, .int (nI wr)])), (bc, .inl (cyI, 366, .inl (pz_ar rc))), (bf, .inl (cyI, 3001, .inl (pz_ar ff))), (bg, .inl (cyI, 3001, .inl (pz_ar gg)))]) := by
  refine pz_I_of (cc := cX1_marketLetters) (maxL := 2) (ty := .int) (own := RX1) (by decide) rfl rfl (Nat.le_of_ble_eq_true rfl) ?_
  intro p e s m below meth c A ls Q hx hb hml hown hts hK hP hD hS hA hl hQ
  have hl : lv_has ls 2 [(0, .ref h1), (1, .int (nI y))] := hl
  have hin : ∀ w ∈ u_ws RX1 TX1 9, w ∈ wsX1_marketLetters := by decide +kernel
  refine lv_aload_n hx hb dX1_marketLetters_0 rfl (lv_at hl 0 rfl) ?_
  refine lv_iload_n hx hb dX1_marketLetters_1 rfl (lv_at hl 1 rfl) ?_
  refine pz_SR (rest := [.ref h1]) ⟨hx, hb, hml, hown, hts⟩ (k_X1_isYear_a l D ((cyI, .int) :: ts) y (by omega) (by omega)) (va_cwS 1 hts gX1_marketLetters_X1_isYear rfl rfl rfl (by decide +kernel) ⟨Nat.le_of_ble_eq_true rfl, Nat.le_of_ble_eq_true rfl⟩) hK hP (hD.weaken (fun _ _ _ _ => trivial)) hS hA [] rfl rfl rfl rfl hl.1 rfl (lv_room (Nat.le_of_ble_eq_true rfl)) dX1_marketLetters_2 ⟨Nat.le_of_ble_eq_true rfl, Nat.le_of_ble_eq_true rfl⟩ (fun r H locs hr hP hS => ?_)
  obtain rfl : r = (nI 1) := hr
  refine pn_if_eq (tgt := 12) hx hb (by omega) dX1_marketLetters_5 (by decide) (fun c_2 => absurd c_2 (by decide)) (fun _ => ?_)
  refine lv_iconst (v := nI 0) hx hb dX1_marketLetters_8 (by decide) ?_
  refine lv_goto (tgt := 13) hx hb dX1_marketLetters_9 (by decide) ?_
  refine pz_VI (rest := []) (wr := []) ⟨hx, hb, hml, hown, hts⟩ (k_X1_isFine_0 l D h1 bc bf bg cyI ts th yr mo da mk wr rc ff gg  ) (cwV 1 hts gX1_marketLetters_X1_isFine rfl rfl rfl (by decide +kernel) ⟨Nat.le_of_ble_eq_true rfl, Nat.le_of_ble_eq_true rfl⟩) hK hP hD hS hA [0, 1, 2, 3] [] rfl rfl rfl rfl rfl (by decide) 0 1 rfl rfl rfl hl.1 rfl (lv_room (Nat.le_of_ble_eq_true rfl)) dX1_marketLetters_13 ⟨Nat.le_of_ble_eq_true rfl, Nat.le_of_ble_eq_true rfl⟩ (fun r u H locs hr hP hD hS => ?_)
  have hP : va_P D vwCl [(h1, .inr (1, [.int (nI 0), .int yr, .int mo, .int da, .int (nI mk), .ref bc, .ref bf, .ref bg, .int (nI wr)])), (bc, .inl (cyI, 366, .inl (pz_ar rc))), (bf, .inl (cyI, 3001, .inl (pz_ar ff))), (bg, .inl (cyI, 3001, .inl (pz_ar gg)))] H := hP
  have hD : va_D A [(h1, .inr (1, [.int (nI 0), .int yr, .int mo, .int da, .int (nI mk), .ref bc, .ref bf, .ref bg, .int (nI wr)])), (bc, .inl (cyI, 366, .inl (pz_ar rc))), (bf, .inl (cyI, 3001, .inl (pz_ar ff))), (bg, .inl (cyI, 3001, .inl (pz_ar gg)))] := hD
  obtain rfl : r = (nI 1) := hr
  refine pn_if_eq (tgt := 33) hx hb (by omega) dX1_marketLetters_16 (by decide) (fun c_4 => absurd c_4 (by decide)) (fun _ => ?_)
  refine lv_aload_n hx hb dX1_marketLetters_19 rfl (lv_at hl 0 rfl) ?_
  refine lv_iload_n hx hb dX1_marketLetters_20 rfl (lv_at hl 1 rfl) ?_
  refine lv_bipush (v := nI 8) hx hb dX1_marketLetters_21 (by decide) ?_
  refine lv_aload_n hx hb dX1_marketLetters_23 rfl (lv_at hl 0 rfl) ?_
  refine va_get (D := D) (ci := 1) (v := .int (nI mk)) (C := RX1) (T := TX1) (N := 9) hx hb hts hin hown hK hP 0 rfl rfl 4 (by decide) (hts (.fieldLink RX1 104 "RomanCalendarModel" "market" "I") (by decide +kernel)) (fun _ h9 => h9) rfl dX1_marketLetters_24 ?_
  refine pz_VI (rest := []) (wr := []) ⟨hx, hb, hml, hown, hts⟩ (k_X1_letters_8 l D h1 bc bf bg cyI ts (nI 0) yr mo da mk wr rc ff gg y mk F Lz (by omega) (by omega) (by omega) (by omega) (by omega) (by omega) (by exact hF2) (by omega) (by omega) (by exact hL2)) (cwV 3 hts gX1_marketLetters_X1_letters rfl rfl rfl (by decide +kernel) ⟨Nat.le_of_ble_eq_true rfl, Nat.le_of_ble_eq_true rfl⟩) hK hP hD hS hA [0, 1, 2, 3] [] rfl rfl rfl rfl rfl (by decide) 0 1 rfl rfl rfl hl.1 rfl (lv_room (Nat.le_of_ble_eq_true rfl)) dX1_marketLetters_27 ⟨Nat.le_of_ble_eq_true rfl, Nat.le_of_ble_eq_true rfl⟩ (fun r u H locs hr hP hD hS => ?_)
  obtain ⟨yv_5, mv_5, dv_5⟩ := u
  have hP : va_P D vwCl [(h1, .inr (1, [.int (nI 0), .int yv_5, .int mv_5, .int dv_5, .int (nI mk), .ref bc, .ref bf, .ref bg, .int (nI wr)])), (bc, .inl (cyI, 366, .inl (pz_ar rc))), (bf, .inl (cyI, 3001, .inl (pz_ar ff))), (bg, .inl (cyI, 3001, .inl (pz_ar gg)))] H := hP
  have hD : va_D A [(h1, .inr (1, [.int (nI 0), .int yv_5, .int mv_5, .int dv_5, .int (nI mk), .ref bc, .ref bf, .ref bg, .int (nI wr)])), (bc, .inl (cyI, 366, .inl (pz_ar rc))), (bf, .inl (cyI, 3001, .inl (pz_ar ff))), (bg, .inl (cyI, 3001, .inl (pz_ar gg)))] := hD
  obtain rfl : r = (nI (10 * ((pm_pl F - 1) % 8) + (pm_pl Lz - 1) % 8)) := hr
  refine lv_goto (tgt := 34) hx hb dX1_marketLetters_30 (by decide) ?_
  exact hQ _ _ _ _ _ (yv_5, mv_5, dv_5) dX1_marketLetters_34 rfl (congrArg nI (by rfl)) hP hD hS
set_option maxHeartbeats 4000000 in
set_option maxRecDepth 100000 in
theorem k_X1_sundayLetters_a (l : Launch) (D : va_G) (h1 bc bf bg : Nat) (cyI : ClassId) (ts : List (ClassId × FieldType)) (th yr mo da : Int32) (mk wr : Nat) (rc ff gg : Nat → Nat) (y F Lz : Nat) (hy0 : 1 ≤ y) (hy1 : y ≤ 3000) (hy2 : 0 < 1) (hy3 : pm_fd y ≤ F) (hy4 : F < 1095750) (hy5 : F % 7 = 1) (hF2 : ∀ z, pm_fd y ≤ z → z < F → ¬ z % 7 = 1) (hy7 : Lz ≤ pm_fd (y + 1) - 1) (hy8 : Lz % 7 = 1) (hL2 : ∀ z, Lz < z → z ≤ pm_fd (y + 1) - 1 → ¬ z % 7 = 1) : pz_I l yX1_sundayLetters wsX1_sundayLetters ({ frames := 5, cells := 0, slots := 0, locals := 110 } : Room) D ((cyI, .int) :: ts) [.ref h1, .int (nI y)] [(h1, .inr (1, [.int th, .int yr, .int mo, .int da, .int (nI mk), .ref bc, .ref bf, .ref bg, .int (nI wr)])), (bc, .inl (cyI, 366, .inl (pz_ar rc))), (bf, .inl (cyI, 3001, .inl (pz_ar ff))), (bg, .inl (cyI, 3001, .inl (pz_ar gg)))] (S := Int32 × Int32 × Int32) (fun r _ => r = nI (10 * ((pm_pl F - 1) % 7) + (pm_pl Lz - 1) % 7)) (fun u => [(h1, .inr (1, [.int (nI 0), .int u.1, .int u.2.1, .int u.2.2, .int (nI mk), .ref bc, .ref bf, .ref bg, .int (nI wr)])), (bc, .inl (cyI, 366, .inl (pz_ar rc))), (bf, .inl (cyI, 3001, .inl (pz_ar ff))), (bg, .inl (cyI, 3001, .inl (pz_ar gg)))]) := by
  refine pz_I_of (cc := cX1_sundayLetters) (maxL := 2) (ty := .int) (own := RX1) (by decide) rfl rfl (Nat.le_of_ble_eq_true rfl) ?_
  intro p e s m below meth c A ls Q hx hb hml hown hts hK hP hD hS hA hl hQ
  have hl : lv_has ls 2 [(0, .ref h1), (1, .int (nI y))] := hl
  refine lv_aload_n hx hb dX1_sundayLetters_0 rfl (lv_at hl 0 rfl) ?_
  refine lv_iload_n hx hb dX1_sundayLetters_1 rfl (lv_at hl 1 rfl) ?_
  refine pz_SR (rest := [.ref h1]) ⟨hx, hb, hml, hown, hts⟩ (k_X1_isYear_a l D ((cyI, .int) :: ts) y (by omega) (by omega)) (va_cwS 1 hts gX1_sundayLetters_X1_isYear rfl rfl rfl (by decide +kernel) ⟨Nat.le_of_ble_eq_true rfl, Nat.le_of_ble_eq_true rfl⟩) hK hP (hD.weaken (fun _ _ _ _ => trivial)) hS hA [] rfl rfl rfl rfl hl.1 rfl (lv_room (Nat.le_of_ble_eq_true rfl)) dX1_sundayLetters_2 ⟨Nat.le_of_ble_eq_true rfl, Nat.le_of_ble_eq_true rfl⟩ (fun r H locs hr hP hS => ?_)
  obtain rfl : r = (nI 1) := hr
  refine pn_if_eq (tgt := 12) hx hb (by omega) dX1_sundayLetters_5 (by decide) (fun c_2 => absurd c_2 (by decide)) (fun _ => ?_)
  refine lv_iconst (v := nI 0) hx hb dX1_sundayLetters_8 (by decide) ?_
  refine lv_goto (tgt := 13) hx hb dX1_sundayLetters_9 (by decide) ?_
  refine pz_VI (rest := []) (wr := []) ⟨hx, hb, hml, hown, hts⟩ (k_X1_isFine_0 l D h1 bc bf bg cyI ts th yr mo da mk wr rc ff gg  ) (cwV 1 hts gX1_sundayLetters_X1_isFine rfl rfl rfl (by decide +kernel) ⟨Nat.le_of_ble_eq_true rfl, Nat.le_of_ble_eq_true rfl⟩) hK hP hD hS hA [0, 1, 2, 3] [] rfl rfl rfl rfl rfl (by decide) 0 1 rfl rfl rfl hl.1 rfl (lv_room (Nat.le_of_ble_eq_true rfl)) dX1_sundayLetters_13 ⟨Nat.le_of_ble_eq_true rfl, Nat.le_of_ble_eq_true rfl⟩ (fun r u H locs hr hP hD hS => ?_)
  have hP : va_P D vwCl [(h1, .inr (1, [.int (nI 0), .int yr, .int mo, .int da, .int (nI mk), .ref bc, .ref bf, .ref bg, .int (nI wr)])), (bc, .inl (cyI, 366, .inl (pz_ar rc))), (bf, .inl (cyI, 3001, .inl (pz_ar ff))), (bg, .inl (cyI, 3001, .inl (pz_ar gg)))] H := hP
  have hD : va_D A [(h1, .inr (1, [.int (nI 0), .int yr, .int mo, .int da, .int (nI mk), .ref bc, .ref bf, .ref bg, .int (nI wr)])), (bc, .inl (cyI, 366, .inl (pz_ar rc))), (bf, .inl (cyI, 3001, .inl (pz_ar ff))), (bg, .inl (cyI, 3001, .inl (pz_ar gg)))] := hD
  obtain rfl : r = (nI 1) := hr
  refine pn_if_eq (tgt := 30) hx hb (by omega) dX1_sundayLetters_16 (by decide) (fun c_4 => absurd c_4 (by decide)) (fun _ => ?_)
  refine lv_aload_n hx hb dX1_sundayLetters_19 rfl (lv_at hl 0 rfl) ?_
  refine lv_iload_n hx hb dX1_sundayLetters_20 rfl (lv_at hl 1 rfl) ?_
  refine lv_bipush (v := nI 7) hx hb dX1_sundayLetters_21 (by decide) ?_
  refine lv_iconst (v := nI 1) hx hb dX1_sundayLetters_23 (by decide) ?_
  refine pz_VI (rest := []) (wr := []) ⟨hx, hb, hml, hown, hts⟩ (k_X1_letters_7 l D h1 bc bf bg cyI ts (nI 0) yr mo da mk wr rc ff gg y 1 F Lz (by omega) (by omega) (by omega) (by omega) (by omega) (by omega) (by exact hF2) (by omega) (by omega) (by exact hL2)) (cwV 3 hts gX1_sundayLetters_X1_letters rfl rfl rfl (by decide +kernel) ⟨Nat.le_of_ble_eq_true rfl, Nat.le_of_ble_eq_true rfl⟩) hK hP hD hS hA [0, 1, 2, 3] [] rfl rfl rfl rfl rfl (by decide) 0 1 rfl rfl rfl hl.1 rfl (lv_room (Nat.le_of_ble_eq_true rfl)) dX1_sundayLetters_24 ⟨Nat.le_of_ble_eq_true rfl, Nat.le_of_ble_eq_true rfl⟩ (fun r u H locs hr hP hD hS => ?_)
  obtain ⟨yv_5, mv_5, dv_5⟩ := u
  have hP : va_P D vwCl [(h1, .inr (1, [.int (nI 0), .int yv_5, .int mv_5, .int dv_5, .int (nI mk), .ref bc, .ref bf, .ref bg, .int (nI wr)])), (bc, .inl (cyI, 366, .inl (pz_ar rc))), (bf, .inl (cyI, 3001, .inl (pz_ar ff))), (bg, .inl (cyI, 3001, .inl (pz_ar gg)))] H := hP
  have hD : va_D A [(h1, .inr (1, [.int (nI 0), .int yv_5, .int mv_5, .int dv_5, .int (nI mk), .ref bc, .ref bf, .ref bg, .int (nI wr)])), (bc, .inl (cyI, 366, .inl (pz_ar rc))), (bf, .inl (cyI, 3001, .inl (pz_ar ff))), (bg, .inl (cyI, 3001, .inl (pz_ar gg)))] := hD
  obtain rfl : r = (nI (10 * ((pm_pl F - 1) % 7) + (pm_pl Lz - 1) % 7)) := hr
  refine lv_goto (tgt := 31) hx hb dX1_sundayLetters_27 (by decide) ?_
  exact hQ _ _ _ _ _ (yv_5, mv_5, dv_5) dX1_sundayLetters_31 rfl (congrArg nI (by rfl)) hP hD hS
set_option maxHeartbeats 4000000 in
set_option maxRecDepth 100000 in
theorem k_X1_isVoting (l : Launch) (D : va_G) (h1 bc bf bg : Nat) (cyI : ClassId) (ts : List (ClassId × FieldType)) (th yr mo da : Int32) (mk wr : Nat) (rc ff gg : Nat → Nat) (n : Nat) (hy0 : n < 1095750) (hrc : ∀ j, j < 366 → rc j ≤ 3) (hmk : mk < 8) : pz_I l yX1_isVoting wsX1_isVoting ({ frames := 4, cells := 0, slots := 0, locals := 85 } : Room) D ((cyI, .int) :: ts) [.ref h1, .int (nI n)] [(h1, .inr (1, [.int th, .int yr, .int mo, .int da, .int (nI mk), .ref bc, .ref bf, .ref bg, .int (nI wr)])), (bc, .inl (cyI, 366, .inl (pz_ar rc))), (bf, .inl (cyI, 3001, .inl (pz_ar ff))), (bg, .inl (cyI, 3001, .inl (pz_ar gg)))] (S := Unit) (fun r _ => r = pz_b (pm_vt rc mk n)) (fun _ => [(h1, .inr (1, [.int th, .int (nI (pm_yr n)), .int (nI (pm_mo n)), .int (nI (pm_da n)), .int (nI mk), .ref bc, .ref bf, .ref bg, .int (nI wr)])), (bc, .inl (cyI, 366, .inl (pz_ar rc))), (bf, .inl (cyI, 3001, .inl (pz_ar ff))), (bg, .inl (cyI, 3001, .inl (pz_ar gg)))]) := by
  refine pz_I_of (cc := cX1_isVoting) (maxL := 2) (ty := .boolean) (own := RX1) (by decide) rfl rfl (Nat.le_of_ble_eq_true rfl) ?_
  intro p e s m below meth c A ls Q hx hb hml hown hts hK hP hD hS hA hl hQ
  have hl : lv_has ls 2 [(0, .ref h1), (1, .int (nI n))] := hl
  have hin : ∀ w ∈ u_ws RX1 TX1 9, w ∈ wsX1_isVoting := by decide +kernel
  have hpl0 := pm_pl_b n
  have hrb0 := hrc (pm_pl n) (by omega)
  refine lv_aload_n hx hb dX1_isVoting_0 rfl (lv_at hl 0 rfl) ?_
  refine va_get (D := D) (ci := 1) (v := .ref bc) (C := RX1) (T := TX1) (N := 9) hx hb hts hin hown hK hP 0 rfl rfl 5 (by decide) (hts (.fieldLink RX1 7 "RomanCalendarModel" "character" "[I") (by decide +kernel)) (fun _ h9 => h9) rfl dX1_isVoting_1 ?_
  refine lv_aload_n hx hb dX1_isVoting_4 rfl (lv_at hl 0 rfl) ?_
  refine lv_iload_n hx hb dX1_isVoting_5 rfl (lv_at hl 1 rfl) ?_
  refine pz_VI (rest := [.ref bc]) (wr := []) ⟨hx, hb, hml, hown, hts⟩ (k_X1_placed l D h1 bc bf bg cyI ts th yr mo da mk wr rc ff gg n (by omega)) (cwV 1 hts gX1_isVoting_X1_placed rfl rfl rfl (by decide +kernel) ⟨Nat.le_of_ble_eq_true rfl, Nat.le_of_ble_eq_true rfl⟩) hK hP hD hS hA [0, 1, 2, 3] [] rfl rfl rfl rfl rfl (by decide) 0 1 rfl rfl rfl hl.1 rfl (lv_room (Nat.le_of_ble_eq_true rfl)) dX1_isVoting_6 ⟨Nat.le_of_ble_eq_true rfl, Nat.le_of_ble_eq_true rfl⟩ (fun r u H locs hr hP hD hS => ?_)
  have hP : va_P D vwCl [(h1, .inr (1, [.int th, .int (nI (pm_yr n)), .int (nI (pm_mo n)), .int (nI (pm_da n)), .int (nI mk), .ref bc, .ref bf, .ref bg, .int (nI wr)])), (bc, .inl (cyI, 366, .inl (pz_ar rc))), (bf, .inl (cyI, 3001, .inl (pz_ar ff))), (bg, .inl (cyI, 3001, .inl (pz_ar gg)))] H := hP
  have hD : va_D A [(h1, .inr (1, [.int th, .int (nI (pm_yr n)), .int (nI (pm_mo n)), .int (nI (pm_da n)), .int (nI mk), .ref bc, .ref bf, .ref bg, .int (nI wr)])), (bc, .inl (cyI, 366, .inl (pz_ar rc))), (bf, .inl (cyI, 3001, .inl (pz_ar ff))), (bg, .inl (cyI, 3001, .inl (pz_ar gg)))] := hD
  obtain rfl : r = (nI (pm_pl n)) := hr
  have hf_2 := pm_pl_b n
  refine pn_iald hx hb hK hP 1 0 rfl rfl (by omega) (by decide) dX1_isVoting_9 ?_
  refine lv_iconst (v := nI 2) hx hb dX1_isVoting_10 (by decide) ?_
  refine pn_icmp_ne (tgt := 29) hx hb (by omega) (by omega) dX1_isVoting_11 (by decide) (fun c_3 => ?_) (fun c_3 => ?_)
  · -- 11 yes
    refine lv_iconst (v := nI 0) hx hb dX1_isVoting_29 (by decide) ?_
    exact hQ _ _ _ _ _ () dX1_isVoting_30 (by decide) (pz_bf (by first | exact fun h9 => absurd h9.1 (by assumption) | exact fun h9 => absurd (by assumption) h9.2 | exact ⟨by assumption, by assumption⟩)) hP hD hS
  · -- 11 no
    refine lv_iload_n hx hb dX1_isVoting_14 rfl (lv_at hl 1 rfl) ?_
    refine lv_bipush (v := nI 8) hx hb dX1_isVoting_15 (by decide) ?_
    refine pn_irem hx hb (by omega) (by omega) (by omega) dX1_isVoting_17 ?_
    refine lv_aload_n hx hb dX1_isVoting_18 rfl (lv_at hl 0 rfl) ?_
    refine va_get (D := D) (ci := 1) (v := .int (nI mk)) (C := RX1) (T := TX1) (N := 9) hx hb hts hin hown hK hP 0 rfl rfl 4 (by decide) (hts (.fieldLink RX1 104 "RomanCalendarModel" "market" "I") (by decide +kernel)) (fun _ h9 => h9) rfl dX1_isVoting_19 ?_
    refine pn_icmp_eq (tgt := 29) hx hb (by omega) (by omega) dX1_isVoting_22 (by decide) (fun c_4 => ?_) (fun c_4 => ?_)
    · -- 22 yes
      refine lv_iconst (v := nI 0) hx hb dX1_isVoting_29 (by decide) ?_
      exact hQ _ _ _ _ _ () dX1_isVoting_30 (by decide) (pz_bf (by first | exact fun h9 => absurd h9.1 (by assumption) | exact fun h9 => absurd (by assumption) h9.2 | exact ⟨by assumption, by assumption⟩)) hP hD hS
    · -- 22 no
      refine lv_iconst (v := nI 1) hx hb dX1_isVoting_25 (by decide) ?_
      refine lv_goto (tgt := 30) hx hb dX1_isVoting_26 (by decide) ?_
      exact hQ _ _ _ _ _ () dX1_isVoting_30 (by decide) (pz_bt (by first | exact fun h9 => absurd h9.1 (by assumption) | exact fun h9 => absurd (by assumption) h9.2 | exact ⟨by assumption, by assumption⟩)) hP hD hS
set_option maxHeartbeats 4000000 in
set_option maxRecDepth 100000 in
theorem k_X1_canVote_a (l : Launch) (D : va_G) (h1 bc bf bg : Nat) (cyI : ClassId) (ts : List (ClassId × FieldType)) (th yr mo da : Int32) (mk wr : Nat) (rc ff gg : Nat → Nat) (n : Nat) (hy0 : n < 1095750) (hrc : ∀ j, j < 366 → rc j ≤ 3) (hmk : mk < 8) : pz_I l yX1_canVote wsX1_canVote ({ frames := 5, cells := 0, slots := 0, locals := 106 } : Room) D ((cyI, .int) :: ts) [.ref h1, .int (nI n)] [(h1, .inr (1, [.int th, .int yr, .int mo, .int da, .int (nI mk), .ref bc, .ref bf, .ref bg, .int (nI wr)])), (bc, .inl (cyI, 366, .inl (pz_ar rc))), (bf, .inl (cyI, 3001, .inl (pz_ar ff))), (bg, .inl (cyI, 3001, .inl (pz_ar gg)))] (S := Unit) (fun r _ => r = pz_b (pm_vt rc mk n)) (fun _ => [(h1, .inr (1, [.int (nI 0), .int (nI (pm_yr n)), .int (nI (pm_mo n)), .int (nI (pm_da n)), .int (nI mk), .ref bc, .ref bf, .ref bg, .int (nI wr)])), (bc, .inl (cyI, 366, .inl (pz_ar rc))), (bf, .inl (cyI, 3001, .inl (pz_ar ff))), (bg, .inl (cyI, 3001, .inl (pz_ar gg)))]) := by
  refine pz_I_of (cc := cX1_canVote) (maxL := 2) (ty := .boolean) (own := RX1) (by decide) rfl rfl (Nat.le_of_ble_eq_true rfl) ?_
  intro p e s m below meth c A ls Q hx hb hml hown hts hK hP hD hS hA hl hQ
  have hl : lv_has ls 2 [(0, .ref h1), (1, .int (nI n))] := hl
  refine lv_aload_n hx hb dX1_canVote_0 rfl (lv_at hl 0 rfl) ?_
  refine lv_iload_n hx hb dX1_canVote_1 rfl (lv_at hl 1 rfl) ?_
  refine pz_SR (rest := [.ref h1]) ⟨hx, hb, hml, hown, hts⟩ (k_X1_isDay_a l D ((cyI, .int) :: ts) n (by omega)) (va_cwS 1 hts gX1_canVote_X1_isDay rfl rfl rfl (by decide +kernel) ⟨Nat.le_of_ble_eq_true rfl, Nat.le_of_ble_eq_true rfl⟩) hK hP (hD.weaken (fun _ _ _ _ => trivial)) hS hA [] rfl rfl rfl rfl hl.1 rfl (lv_room (Nat.le_of_ble_eq_true rfl)) dX1_canVote_2 ⟨Nat.le_of_ble_eq_true rfl, Nat.le_of_ble_eq_true rfl⟩ (fun r H locs hr hP hS => ?_)
  obtain rfl : r = (nI 1) := hr
  refine pn_if_eq (tgt := 12) hx hb (by omega) dX1_canVote_5 (by decide) (fun c_2 => absurd c_2 (by decide)) (fun _ => ?_)
  refine lv_iconst (v := nI 0) hx hb dX1_canVote_8 (by decide) ?_
  refine lv_goto (tgt := 13) hx hb dX1_canVote_9 (by decide) ?_
  refine pz_VI (rest := []) (wr := []) ⟨hx, hb, hml, hown, hts⟩ (k_X1_isFine_0 l D h1 bc bf bg cyI ts th yr mo da mk wr rc ff gg  ) (cwV 1 hts gX1_canVote_X1_isFine rfl rfl rfl (by decide +kernel) ⟨Nat.le_of_ble_eq_true rfl, Nat.le_of_ble_eq_true rfl⟩) hK hP hD hS hA [0, 1, 2, 3] [] rfl rfl rfl rfl rfl (by decide) 0 1 rfl rfl rfl hl.1 rfl (lv_room (Nat.le_of_ble_eq_true rfl)) dX1_canVote_13 ⟨Nat.le_of_ble_eq_true rfl, Nat.le_of_ble_eq_true rfl⟩ (fun r u H locs hr hP hD hS => ?_)
  have hP : va_P D vwCl [(h1, .inr (1, [.int (nI 0), .int yr, .int mo, .int da, .int (nI mk), .ref bc, .ref bf, .ref bg, .int (nI wr)])), (bc, .inl (cyI, 366, .inl (pz_ar rc))), (bf, .inl (cyI, 3001, .inl (pz_ar ff))), (bg, .inl (cyI, 3001, .inl (pz_ar gg)))] H := hP
  have hD : va_D A [(h1, .inr (1, [.int (nI 0), .int yr, .int mo, .int da, .int (nI mk), .ref bc, .ref bf, .ref bg, .int (nI wr)])), (bc, .inl (cyI, 366, .inl (pz_ar rc))), (bf, .inl (cyI, 3001, .inl (pz_ar ff))), (bg, .inl (cyI, 3001, .inl (pz_ar gg)))] := hD
  obtain rfl : r = (nI 1) := hr
  refine pn_if_eq (tgt := 31) hx hb (by omega) dX1_canVote_16 (by decide) (fun c_4 => absurd c_4 (by decide)) (fun _ => ?_)
  refine lv_aload_n hx hb dX1_canVote_19 rfl (lv_at hl 0 rfl) ?_
  refine lv_iload_n hx hb dX1_canVote_20 rfl (lv_at hl 1 rfl) ?_
  refine pz_VI (rest := []) (wr := []) ⟨hx, hb, hml, hown, hts⟩ (k_X1_isVoting l D h1 bc bf bg cyI ts (nI 0) yr mo da mk wr rc ff gg n (by omega) (by exact hrc) (by exact hmk)) (cwV 1 hts gX1_canVote_X1_isVoting rfl rfl rfl (by decide +kernel) ⟨Nat.le_of_ble_eq_true rfl, Nat.le_of_ble_eq_true rfl⟩) hK hP hD hS hA [0, 1, 2, 3] [] rfl rfl rfl rfl rfl (by decide) 0 1 rfl rfl rfl hl.1 rfl (lv_room (Nat.le_of_ble_eq_true rfl)) dX1_canVote_21 ⟨Nat.le_of_ble_eq_true rfl, Nat.le_of_ble_eq_true rfl⟩ (fun r u H locs hr hP hD hS => ?_)
  have hP : va_P D vwCl [(h1, .inr (1, [.int (nI 0), .int (nI (pm_yr n)), .int (nI (pm_mo n)), .int (nI (pm_da n)), .int (nI mk), .ref bc, .ref bf, .ref bg, .int (nI wr)])), (bc, .inl (cyI, 366, .inl (pz_ar rc))), (bf, .inl (cyI, 3001, .inl (pz_ar ff))), (bg, .inl (cyI, 3001, .inl (pz_ar gg)))] H := hP
  have hD : va_D A [(h1, .inr (1, [.int (nI 0), .int (nI (pm_yr n)), .int (nI (pm_mo n)), .int (nI (pm_da n)), .int (nI mk), .ref bc, .ref bf, .ref bg, .int (nI wr)])), (bc, .inl (cyI, 366, .inl (pz_ar rc))), (bf, .inl (cyI, 3001, .inl (pz_ar ff))), (bg, .inl (cyI, 3001, .inl (pz_ar gg)))] := hD
  obtain rfl : r = (pz_b (pm_vt rc mk n)) := hr
  refine pb_if_eq (tgt := 31) hx hb dX1_canVote_24 (by decide) (fun c_6 => ?_) (fun c_6 => ?_)
  · -- 24 yes
    refine lv_iconst (v := nI 0) hx hb dX1_canVote_31 (by decide) ?_
    exact hQ _ _ _ _ _ () dX1_canVote_32 (by decide) (pz_bf (by assumption)) hP hD hS
  · -- 24 no
    refine lv_iconst (v := nI 1) hx hb dX1_canVote_27 (by decide) ?_
    refine lv_goto (tgt := 32) hx hb dX1_canVote_28 (by decide) ?_
    exact hQ _ _ _ _ _ () dX1_canVote_32 (by decide) (pz_bt (by assumption)) hP hD hS
set_option maxHeartbeats 4000000 in
set_option maxRecDepth 100000 in
theorem k_X1_characterOf_a (l : Launch) (D : va_G) (h1 bc bf bg : Nat) (cyI : ClassId) (ts : List (ClassId × FieldType)) (th yr mo da : Int32) (mk wr : Nat) (rc ff gg : Nat → Nat) (n : Nat) (hy0 : n < 1095750) : pz_I l yX1_characterOf wsX1_characterOf ({ frames := 4, cells := 0, slots := 0, locals := 85 } : Room) D ((cyI, .int) :: ts) [.ref h1, .int (nI n)] [(h1, .inr (1, [.int th, .int yr, .int mo, .int da, .int (nI mk), .ref bc, .ref bf, .ref bg, .int (nI wr)])), (bc, .inl (cyI, 366, .inl (pz_ar rc))), (bf, .inl (cyI, 3001, .inl (pz_ar ff))), (bg, .inl (cyI, 3001, .inl (pz_ar gg)))] (S := Unit) (fun r _ => r = nI (rc (pm_pl n))) (fun _ => [(h1, .inr (1, [.int (nI 0), .int (nI (pm_yr n)), .int (nI (pm_mo n)), .int (nI (pm_da n)), .int (nI mk), .ref bc, .ref bf, .ref bg, .int (nI wr)])), (bc, .inl (cyI, 366, .inl (pz_ar rc))), (bf, .inl (cyI, 3001, .inl (pz_ar ff))), (bg, .inl (cyI, 3001, .inl (pz_ar gg)))]) := by
  refine pz_I_of (cc := cX1_characterOf) (maxL := 2) (ty := .int) (own := RX1) (by decide) rfl rfl (Nat.le_of_ble_eq_true rfl) ?_
  intro p e s m below meth c A ls Q hx hb hml hown hts hK hP hD hS hA hl hQ
  have hl : lv_has ls 2 [(0, .ref h1), (1, .int (nI n))] := hl
  have hin : ∀ w ∈ u_ws RX1 TX1 9, w ∈ wsX1_characterOf := by decide +kernel
  refine lv_aload_n hx hb dX1_characterOf_0 rfl (lv_at hl 0 rfl) ?_
  refine lv_iload_n hx hb dX1_characterOf_1 rfl (lv_at hl 1 rfl) ?_
  refine pz_SR (rest := [.ref h1]) ⟨hx, hb, hml, hown, hts⟩ (k_X1_isDay_a l D ((cyI, .int) :: ts) n (by omega)) (va_cwS 1 hts gX1_characterOf_X1_isDay rfl rfl rfl (by decide +kernel) ⟨Nat.le_of_ble_eq_true rfl, Nat.le_of_ble_eq_true rfl⟩) hK hP (hD.weaken (fun _ _ _ _ => trivial)) hS hA [] rfl rfl rfl rfl hl.1 rfl (lv_room (Nat.le_of_ble_eq_true rfl)) dX1_characterOf_2 ⟨Nat.le_of_ble_eq_true rfl, Nat.le_of_ble_eq_true rfl⟩ (fun r H locs hr hP hS => ?_)
  obtain rfl : r = (nI 1) := hr
  refine pn_if_eq (tgt := 12) hx hb (by omega) dX1_characterOf_5 (by decide) (fun c_2 => absurd c_2 (by decide)) (fun _ => ?_)
  refine lv_iconst (v := nI 0) hx hb dX1_characterOf_8 (by decide) ?_
  refine lv_goto (tgt := 13) hx hb dX1_characterOf_9 (by decide) ?_
  refine pz_VI (rest := []) (wr := []) ⟨hx, hb, hml, hown, hts⟩ (k_X1_isFine_0 l D h1 bc bf bg cyI ts th yr mo da mk wr rc ff gg  ) (cwV 1 hts gX1_characterOf_X1_isFine rfl rfl rfl (by decide +kernel) ⟨Nat.le_of_ble_eq_true rfl, Nat.le_of_ble_eq_true rfl⟩) hK hP hD hS hA [0, 1, 2, 3] [] rfl rfl rfl rfl rfl (by decide) 0 1 rfl rfl rfl hl.1 rfl (lv_room (Nat.le_of_ble_eq_true rfl)) dX1_characterOf_13 ⟨Nat.le_of_ble_eq_true rfl, Nat.le_of_ble_eq_true rfl⟩ (fun r u H locs hr hP hD hS => ?_)
  have hP : va_P D vwCl [(h1, .inr (1, [.int (nI 0), .int yr, .int mo, .int da, .int (nI mk), .ref bc, .ref bf, .ref bg, .int (nI wr)])), (bc, .inl (cyI, 366, .inl (pz_ar rc))), (bf, .inl (cyI, 3001, .inl (pz_ar ff))), (bg, .inl (cyI, 3001, .inl (pz_ar gg)))] H := hP
  have hD : va_D A [(h1, .inr (1, [.int (nI 0), .int yr, .int mo, .int da, .int (nI mk), .ref bc, .ref bf, .ref bg, .int (nI wr)])), (bc, .inl (cyI, 366, .inl (pz_ar rc))), (bf, .inl (cyI, 3001, .inl (pz_ar ff))), (bg, .inl (cyI, 3001, .inl (pz_ar gg)))] := hD
  obtain rfl : r = (nI 1) := hr
  refine pn_if_eq (tgt := 32) hx hb (by omega) dX1_characterOf_16 (by decide) (fun c_4 => absurd c_4 (by decide)) (fun _ => ?_)
  refine lv_aload_n hx hb dX1_characterOf_19 rfl (lv_at hl 0 rfl) ?_
  refine va_get (D := D) (ci := 1) (v := .ref bc) (C := RX1) (T := TX1) (N := 9) hx hb hts hin hown hK hP 0 rfl rfl 5 (by decide) (hts (.fieldLink RX1 7 "RomanCalendarModel" "character" "[I") (by decide +kernel)) (fun _ h9 => h9) rfl dX1_characterOf_20 ?_
  refine lv_aload_n hx hb dX1_characterOf_23 rfl (lv_at hl 0 rfl) ?_
  refine lv_iload_n hx hb dX1_characterOf_24 rfl (lv_at hl 1 rfl) ?_
  refine pz_VI (rest := [.ref bc]) (wr := []) ⟨hx, hb, hml, hown, hts⟩ (k_X1_placed l D h1 bc bf bg cyI ts (nI 0) yr mo da mk wr rc ff gg n (by omega)) (cwV 1 hts gX1_characterOf_X1_placed rfl rfl rfl (by decide +kernel) ⟨Nat.le_of_ble_eq_true rfl, Nat.le_of_ble_eq_true rfl⟩) hK hP hD hS hA [0, 1, 2, 3] [] rfl rfl rfl rfl rfl (by decide) 0 1 rfl rfl rfl hl.1 rfl (lv_room (Nat.le_of_ble_eq_true rfl)) dX1_characterOf_25 ⟨Nat.le_of_ble_eq_true rfl, Nat.le_of_ble_eq_true rfl⟩ (fun r u H locs hr hP hD hS => ?_)
  have hP : va_P D vwCl [(h1, .inr (1, [.int (nI 0), .int (nI (pm_yr n)), .int (nI (pm_mo n)), .int (nI (pm_da n)), .int (nI mk), .ref bc, .ref bf, .ref bg, .int (nI wr)])), (bc, .inl (cyI, 366, .inl (pz_ar rc))), (bf, .inl (cyI, 3001, .inl (pz_ar ff))), (bg, .inl (cyI, 3001, .inl (pz_ar gg)))] H := hP
  have hD : va_D A [(h1, .inr (1, [.int (nI 0), .int (nI (pm_yr n)), .int (nI (pm_mo n)), .int (nI (pm_da n)), .int (nI mk), .ref bc, .ref bf, .ref bg, .int (nI wr)])), (bc, .inl (cyI, 366, .inl (pz_ar rc))), (bf, .inl (cyI, 3001, .inl (pz_ar ff))), (bg, .inl (cyI, 3001, .inl (pz_ar gg)))] := hD
  obtain rfl : r = (nI (pm_pl n)) := hr
  have hf_6 := pm_pl_b n
  refine pn_iald hx hb hK hP 1 0 rfl rfl (by omega) (by decide) dX1_characterOf_28 ?_
  refine lv_goto (tgt := 33) hx hb dX1_characterOf_29 (by decide) ?_
  exact hQ _ _ _ _ _ () dX1_characterOf_33 rfl (congrArg nI (by rfl)) hP hD hS
set_option maxHeartbeats 4000000 in
set_option maxRecDepth 100000 in
theorem k_X1_votes_a (l : Launch) (D : va_G) (h1 bc bf bg : Nat) (cyI : ClassId) (ts : List (ClassId × FieldType)) (th yr mo da : Int32) (mk wr : Nat) (rc ff gg : Nat → Nat) (y : Nat) (hy0 : 1 ≤ y) (hy1 : y ≤ 3000) (hrc : ∀ j, j < 366 → rc j ≤ 3) (hmk : mk < 8) : pz_I l yX1_votes wsX1_votes ({ frames := 5, cells := 0, slots := 0, locals := 106 } : Room) D ((cyI, .int) :: ts) [.ref h1, .int (nI y)] [(h1, .inr (1, [.int th, .int yr, .int mo, .int da, .int (nI mk), .ref bc, .ref bf, .ref bg, .int (nI wr)])), (bc, .inl (cyI, 366, .inl (pz_ar rc))), (bf, .inl (cyI, 3001, .inl (pz_ar ff))), (bg, .inl (cyI, 3001, .inl (pz_ar gg)))] (S := Int32 × Int32 × Int32) (fun r _ => r = nI (pm_vc rc mk (pm_fd y) (pm_fd (y + 1) - pm_fd y))) (fun u => [(h1, .inr (1, [.int (nI 0), .int u.1, .int u.2.1, .int u.2.2, .int (nI mk), .ref bc, .ref bf, .ref bg, .int (nI wr)])), (bc, .inl (cyI, 366, .inl (pz_ar rc))), (bf, .inl (cyI, 3001, .inl (pz_ar ff))), (bg, .inl (cyI, 3001, .inl (pz_ar gg)))]) := by
  refine pz_I_of (cc := cX1_votes) (maxL := 4) (ty := .int) (own := RX1) (by decide) rfl rfl (Nat.le_of_ble_eq_true rfl) ?_
  intro p e s m below meth c A ls Q hx hb hml hown hts hK hP hD hS hA hl hQ
  have hl : lv_has ls 4 [(0, .ref h1), (1, .int (nI y))] := hl
  have hf1 := pm_fd_e y
  have hf2 := pm_fd_e (y + 1)
  refine lv_aload_n hx hb dX1_votes_0 rfl (lv_at hl 0 rfl) ?_
  refine lv_iload_n hx hb dX1_votes_1 rfl (lv_at hl 1 rfl) ?_
  refine pz_SR (rest := [.ref h1]) ⟨hx, hb, hml, hown, hts⟩ (k_X1_isYear_a l D ((cyI, .int) :: ts) y (by omega) (by omega)) (va_cwS 1 hts gX1_votes_X1_isYear rfl rfl rfl (by decide +kernel) ⟨Nat.le_of_ble_eq_true rfl, Nat.le_of_ble_eq_true rfl⟩) hK hP (hD.weaken (fun _ _ _ _ => trivial)) hS hA [] rfl rfl rfl rfl hl.1 rfl (lv_room (Nat.le_of_ble_eq_true rfl)) dX1_votes_2 ⟨Nat.le_of_ble_eq_true rfl, Nat.le_of_ble_eq_true rfl⟩ (fun r H locs hr hP hS => ?_)
  obtain rfl : r = (nI 1) := hr
  refine pn_if_eq (tgt := 12) hx hb (by omega) dX1_votes_5 (by decide) (fun c_2 => absurd c_2 (by decide)) (fun _ => ?_)
  refine lv_iconst (v := nI 0) hx hb dX1_votes_8 (by decide) ?_
  refine lv_goto (tgt := 13) hx hb dX1_votes_9 (by decide) ?_
  refine pz_VI (rest := []) (wr := []) ⟨hx, hb, hml, hown, hts⟩ (k_X1_isFine_0 l D h1 bc bf bg cyI ts th yr mo da mk wr rc ff gg  ) (cwV 1 hts gX1_votes_X1_isFine rfl rfl rfl (by decide +kernel) ⟨Nat.le_of_ble_eq_true rfl, Nat.le_of_ble_eq_true rfl⟩) hK hP hD hS hA [0, 1, 2, 3] [] rfl rfl rfl rfl rfl (by decide) 0 1 rfl rfl rfl hl.1 rfl (lv_room (Nat.le_of_ble_eq_true rfl)) dX1_votes_13 ⟨Nat.le_of_ble_eq_true rfl, Nat.le_of_ble_eq_true rfl⟩ (fun r u H locs hr hP hD hS => ?_)
  have hP : va_P D vwCl [(h1, .inr (1, [.int (nI 0), .int yr, .int mo, .int da, .int (nI mk), .ref bc, .ref bf, .ref bg, .int (nI wr)])), (bc, .inl (cyI, 366, .inl (pz_ar rc))), (bf, .inl (cyI, 3001, .inl (pz_ar ff))), (bg, .inl (cyI, 3001, .inl (pz_ar gg)))] H := hP
  have hD : va_D A [(h1, .inr (1, [.int (nI 0), .int yr, .int mo, .int da, .int (nI mk), .ref bc, .ref bf, .ref bg, .int (nI wr)])), (bc, .inl (cyI, 366, .inl (pz_ar rc))), (bf, .inl (cyI, 3001, .inl (pz_ar ff))), (bg, .inl (cyI, 3001, .inl (pz_ar gg)))] := hD
  obtain rfl : r = (nI 1) := hr
  refine pn_if_ne (tgt := 21) hx hb (by omega) dX1_votes_16 (by decide) (fun _ => ?_) (fun c_4 => absurd c_4 (by decide))
  refine lv_iconst (v := nI 0) hx hb dX1_votes_21 (by decide) ?_
  refine lv_istore_n (lv' := [(2, .int (nI 0)), (0, .ref h1), (1, .int (nI y))]) hx hb dX1_votes_22 rfl hl (by decide) rfl (fun ls hl => ?_)
  refine lv_iload_n hx hb dX1_votes_23 rfl (lv_at hl 2 rfl) ?_
  refine pz_SR (rest := []) ⟨hx, hb, hml, hown, hts⟩ (k_X1_begin l D ((cyI, .int) :: ts) y (by omega) (by omega)) (va_cwS 1 hts gX1_votes_X1_begin rfl rfl rfl (by decide +kernel) ⟨Nat.le_of_ble_eq_true rfl, Nat.le_of_ble_eq_true rfl⟩) hK hP (hD.weaken (fun _ _ _ _ => trivial)) hS hA [] rfl rfl rfl rfl hl.1 rfl (lv_room (Nat.le_of_ble_eq_true rfl)) dX1_votes_24 ⟨Nat.le_of_ble_eq_true rfl, Nat.le_of_ble_eq_true rfl⟩ (fun r H locs hr hP hS => ?_)
  obtain rfl : r = (nI (pm_fd y)) := hr
  have hf_6 := pm_fd_e y
  refine lv_istore_n (lv' := [(3, .int (nI (pm_fd y))), (2, .int (nI 0)), (0, .ref h1), (1, .int (nI y))]) hx hb dX1_votes_27 rfl hl (by decide) rfl (fun ls hl => ?_)
  have LP28 : ∀ (N : Nat) (k : Nat) (y2 : Int32) (m2 : Int32) (d2 : Int32) (H : Heap) (locs : List Loc) (ls : Array Slot), pm_fd (y + 1) - pm_fd y - k < N → (k ≤ pm_fd (y + 1) - pm_fd y) → va_P D vwCl [(h1, .inr (1, [.int (nI 0), .int y2, .int m2, .int d2, .int (nI mk), .ref bc, .ref bf, .ref bg, .int (nI wr)])), (bc, .inl (cyI, 366, .inl (pz_ar rc))), (bf, .inl (cyI, 3001, .inl (pz_ar ff))), (bg, .inl (cyI, 3001, .inl (pz_ar gg)))] H → va_D A [(h1, .inr (1, [.int (nI 0), .int y2, .int m2, .int d2, .int (nI mk), .ref bc, .ref bf, .ref bg, .int (nI wr)])), (bc, .inl (cyI, 366, .inl (pz_ar rc))), (bf, .inl (cyI, 3001, .inl (pz_ar ff))), (bg, .inl (cyI, 3001, .inl (pz_ar gg)))] → va_S A s.heap H locs → lv_has ls 4 [(2, .int (nI (pm_vc rc mk (pm_fd y) k))), (3, .int (nI (pm_fd y + k))), (0, .ref h1), (1, .int (nI y))] → W p l e ({ frames := 5, cells := 0, slots := 0, locals := 106 } : Room) s m ([.ref h1, .int (nI y)] : List Value).toArray below meth c H locs 0 0 Q (F0 m 28 ls []) := by
    intro N
    induction N with
    | zero => intro k y2 m2 d2 H locs ls hN; exact absurd hN (Nat.not_lt_zero _)
    | succ N ih =>
      intro k y2 m2 d2 H locs ls hN hi28_0 hP hD hS hl
      have hv_0 := pm_vc_b rc mk (pm_fd y) k
      have ih28 := ih
      refine lv_iload_n hx hb dX1_votes_28 rfl (lv_at hl 1 rfl) ?_
      refine lv_iload_n hx hb dX1_votes_29 rfl (lv_at hl 3 rfl) ?_
      refine lv_iconst (v := nI 1) hx hb dX1_votes_30 (by decide) ?_
      refine pn_iadd hx hb dX1_votes_31 ?_
      refine pz_SR (rest := [.int (nI (pm_fd y + k))]) ⟨hx, hb, hml, hown, hts⟩ (k_X1_begin l D ((cyI, .int) :: ts) (y + 1) (by omega) (by omega)) (va_cwS 1 hts gX1_votes_X1_begin rfl rfl rfl (by decide +kernel) ⟨Nat.le_of_ble_eq_true rfl, Nat.le_of_ble_eq_true rfl⟩) hK hP (hD.weaken (fun _ _ _ _ => trivial)) hS hA [] rfl rfl rfl rfl hl.1 rfl (lv_room (Nat.le_of_ble_eq_true rfl)) dX1_votes_32 ⟨Nat.le_of_ble_eq_true rfl, Nat.le_of_ble_eq_true rfl⟩ (fun r H locs hr hP hS => ?_)
      obtain rfl : r = (nI (pm_fd (y + 1))) := hr
      have hf_8 := pm_fd_e (y + 1)
      refine pn_icmp_ge (tgt := 60) hx hb (by omega) (by omega) dX1_votes_35 (by decide) (fun c_9 => ?_) (fun c_9 => ?_)
      · -- 35 yes
        refine lv_iload_n hx hb dX1_votes_60 rfl (lv_at hl 0 rfl) ?_
        exact hQ _ _ _ _ _ (y2, m2, d2) dX1_votes_61 rfl (congrArg nI (by (have h9 : k = pm_fd (y + 1) - pm_fd y := by omega); rw [h9])) hP hD hS
      · -- 35 no
        refine lv_iload_n hx hb dX1_votes_38 rfl (lv_at hl 0 rfl) ?_
        refine lv_aload_n hx hb dX1_votes_39 rfl (lv_at hl 2 rfl) ?_
        refine lv_iload_n hx hb dX1_votes_40 rfl (lv_at hl 1 rfl) ?_
        refine pz_VI (rest := [.int (nI (pm_vc rc mk (pm_fd y) k))]) (wr := []) ⟨hx, hb, hml, hown, hts⟩ (k_X1_isVoting l D h1 bc bf bg cyI ts (nI 0) y2 m2 d2 mk wr rc ff gg (pm_fd y + k) (by omega) (by exact hrc) (by exact hmk)) (cwV 1 hts gX1_votes_X1_isVoting rfl rfl rfl (by decide +kernel) ⟨Nat.le_of_ble_eq_true rfl, Nat.le_of_ble_eq_true rfl⟩) hK hP hD hS hA [0, 1, 2, 3] [] rfl rfl rfl rfl rfl (by decide) 0 1 rfl rfl rfl hl.1 rfl (lv_room (Nat.le_of_ble_eq_true rfl)) dX1_votes_41 ⟨Nat.le_of_ble_eq_true rfl, Nat.le_of_ble_eq_true rfl⟩ (fun r u H locs hr hP hD hS => ?_)
        have hP : va_P D vwCl [(h1, .inr (1, [.int (nI 0), .int (nI (pm_yr (pm_fd y + k))), .int (nI (pm_mo (pm_fd y + k))), .int (nI (pm_da (pm_fd y + k))), .int (nI mk), .ref bc, .ref bf, .ref bg, .int (nI wr)])), (bc, .inl (cyI, 366, .inl (pz_ar rc))), (bf, .inl (cyI, 3001, .inl (pz_ar ff))), (bg, .inl (cyI, 3001, .inl (pz_ar gg)))] H := hP
        have hD : va_D A [(h1, .inr (1, [.int (nI 0), .int (nI (pm_yr (pm_fd y + k))), .int (nI (pm_mo (pm_fd y + k))), .int (nI (pm_da (pm_fd y + k))), .int (nI mk), .ref bc, .ref bf, .ref bg, .int (nI wr)])), (bc, .inl (cyI, 366, .inl (pz_ar rc))), (bf, .inl (cyI, 3001, .inl (pz_ar ff))), (bg, .inl (cyI, 3001, .inl (pz_ar gg)))] := hD
        obtain rfl : r = (pz_b (pm_vt rc mk (pm_fd y + k))) := hr
        refine pb_if_eq (tgt := 51) hx hb dX1_votes_44 (by decide) (fun c_11 => ?_) (fun c_11 => ?_)
        · -- 44 yes
          refine lv_iconst (v := nI 0) hx hb dX1_votes_51 (by decide) ?_
          refine pn_iadd hx hb dX1_votes_52 ?_
          refine lv_istore_n (lv' := [(2, .int (nI ((pm_vc rc mk (pm_fd y) k) + 0))), (3, .int (nI (pm_fd y + k))), (0, .ref h1), (1, .int (nI y))]) hx hb dX1_votes_53 rfl hl (by decide) rfl (fun ls hl => ?_)
          refine lv_iinc (v := (nI (pm_fd y + k + 1))) (lv' := [(3, .int (nI (pm_fd y + k + 1))), (2, .int (nI ((pm_vc rc mk (pm_fd y) k) + 0))), (0, .ref h1), (1, .int (nI y))]) hx hb dX1_votes_54 hl (k := 1) rfl (by exact nI_add _ 1) (by decide) rfl (fun ls hl => ?_)
          refine lv_goto (tgt := 28) hx hb dX1_votes_57 (by decide) ?_
          have hq12 : pm_fd y + k + 1 = pm_fd y + (k + 1) := by first | omega | rfl
          have hq13 : (pm_vc rc mk (pm_fd y) k) + 0 = pm_vc rc mk (pm_fd y) (k + 1) := by first | rfl | exact (pm_vc_1 (by assumption)).symm | exact (pm_vc_0 (by assumption)).symm
          exact ih28 (k + 1) (nI (pm_yr (pm_fd y + k))) (nI (pm_mo (pm_fd y + k))) (nI (pm_da (pm_fd y + k))) _ _ _ (by omega) (by omega) hP hD hS (by rw [← hq12, ← hq13]; exact lv_sub hl [1, 0, 2, 3] rfl)
        · -- 44 no
          refine lv_iconst (v := nI 1) hx hb dX1_votes_47 (by decide) ?_
          refine lv_goto (tgt := 52) hx hb dX1_votes_48 (by decide) ?_
          refine pn_iadd hx hb dX1_votes_52 ?_
          refine lv_istore_n (lv' := [(2, .int (nI ((pm_vc rc mk (pm_fd y) k) + 1))), (3, .int (nI (pm_fd y + k))), (0, .ref h1), (1, .int (nI y))]) hx hb dX1_votes_53 rfl hl (by decide) rfl (fun ls hl => ?_)
          refine lv_iinc (v := (nI (pm_fd y + k + 1))) (lv' := [(3, .int (nI (pm_fd y + k + 1))), (2, .int (nI ((pm_vc rc mk (pm_fd y) k) + 1))), (0, .ref h1), (1, .int (nI y))]) hx hb dX1_votes_54 hl (k := 1) rfl (by exact nI_add _ 1) (by decide) rfl (fun ls hl => ?_)
          refine lv_goto (tgt := 28) hx hb dX1_votes_57 (by decide) ?_
          have hq14 : pm_fd y + k + 1 = pm_fd y + (k + 1) := by first | omega | rfl
          have hq15 : (pm_vc rc mk (pm_fd y) k) + 1 = pm_vc rc mk (pm_fd y) (k + 1) := by first | rfl | exact (pm_vc_1 (by assumption)).symm | exact (pm_vc_0 (by assumption)).symm
          exact ih28 (k + 1) (nI (pm_yr (pm_fd y + k))) (nI (pm_mo (pm_fd y + k))) (nI (pm_da (pm_fd y + k))) _ _ _ (by omega) (by omega) hP hD hS (by rw [← hq14, ← hq15]; exact lv_sub hl [1, 0, 2, 3] rfl)
  have hq16 : pm_fd y = pm_fd y + 0 := by first | omega | rfl
  have hq17 : 0 = pm_vc rc mk (pm_fd y) 0 := by first | rfl | exact (pm_vc_1 (by assumption)).symm | exact (pm_vc_0 (by assumption)).symm
  exact LP28 _ 0 yr mo da _ _ _ (Nat.lt_succ_self _) (by omega) hP hD hS (by rw [← hq16, ← hq17]; exact lv_sub hl [1, 0, 2, 3] rfl)
set_option maxHeartbeats 4000000 in
set_option maxRecDepth 100000 in
theorem k_X1_nextCourt_a (l : Launch) (D : va_G) (h1 bc bf bg : Nat) (cyI : ClassId) (ts : List (ClassId × FieldType)) (th yr mo da : Int32) (mk wr : Nat) (rc ff gg : Nat → Nat) (n : Nat) (hy0 : n < 1095750) (hrc : ∀ j, j < 366 → rc j ≤ 3) : pz_I l yX1_nextCourt wsX1_nextCourt ({ frames := 4, cells := 0, slots := 0, locals := 85 } : Room) D ((cyI, .int) :: ts) [.ref h1, .int (nI n)] [(h1, .inr (1, [.int th, .int yr, .int mo, .int da, .int (nI mk), .ref bc, .ref bf, .ref bg, .int (nI wr)])), (bc, .inl (cyI, 366, .inl (pz_ar rc))), (bf, .inl (cyI, 3001, .inl (pz_ar ff))), (bg, .inl (cyI, 3001, .inl (pz_ar gg)))] (S := Int32 × Int32 × Int32) (fun r _ => (∃ d, n ≤ d ∧ d < 1095750 ∧ d < n + 367 ∧ r = nI d ∧ (rc (pm_pl d) = 0 ∨ rc (pm_pl d) = 2) ∧ ∀ z, n ≤ z → z < d → ¬ (rc (pm_pl z) = 0 ∨ rc (pm_pl z) = 2)) ∨ (r = (-1 : Int32) ∧ ∀ z, n ≤ z → z < 1095750 → z < n + 367 → ¬ (rc (pm_pl z) = 0 ∨ rc (pm_pl z) = 2))) (fun u => [(h1, .inr (1, [.int (nI 0), .int u.1, .int u.2.1, .int u.2.2, .int (nI mk), .ref bc, .ref bf, .ref bg, .int (nI wr)])), (bc, .inl (cyI, 366, .inl (pz_ar rc))), (bf, .inl (cyI, 3001, .inl (pz_ar ff))), (bg, .inl (cyI, 3001, .inl (pz_ar gg)))]) := by
  refine pz_I_of (cc := cX1_nextCourt) (maxL := 4) (ty := .int) (own := RX1) (by decide) rfl rfl (Nat.le_of_ble_eq_true rfl) ?_
  intro p e s m below meth c A ls Q hx hb hml hown hts hK hP hD hS hA hl hQ
  have hl : lv_has ls 4 [(0, .ref h1), (1, .int (nI n))] := hl
  have hin : ∀ w ∈ u_ws RX1 TX1 9, w ∈ wsX1_nextCourt := by decide +kernel
  refine lv_aload_n hx hb dX1_nextCourt_0 rfl (lv_at hl 0 rfl) ?_
  refine lv_iload_n hx hb dX1_nextCourt_1 rfl (lv_at hl 1 rfl) ?_
  refine pz_SR (rest := [.ref h1]) ⟨hx, hb, hml, hown, hts⟩ (k_X1_isDay_a l D ((cyI, .int) :: ts) n (by omega)) (va_cwS 1 hts gX1_nextCourt_X1_isDay rfl rfl rfl (by decide +kernel) ⟨Nat.le_of_ble_eq_true rfl, Nat.le_of_ble_eq_true rfl⟩) hK hP (hD.weaken (fun _ _ _ _ => trivial)) hS hA [] rfl rfl rfl rfl hl.1 rfl (lv_room (Nat.le_of_ble_eq_true rfl)) dX1_nextCourt_2 ⟨Nat.le_of_ble_eq_true rfl, Nat.le_of_ble_eq_true rfl⟩ (fun r H locs hr hP hS => ?_)
  obtain rfl : r = (nI 1) := hr
  refine pn_if_eq (tgt := 12) hx hb (by omega) dX1_nextCourt_5 (by decide) (fun c_2 => absurd c_2 (by decide)) (fun _ => ?_)
  refine lv_iconst (v := nI 0) hx hb dX1_nextCourt_8 (by decide) ?_
  refine lv_goto (tgt := 13) hx hb dX1_nextCourt_9 (by decide) ?_
  refine pz_VI (rest := []) (wr := []) ⟨hx, hb, hml, hown, hts⟩ (k_X1_isFine_0 l D h1 bc bf bg cyI ts th yr mo da mk wr rc ff gg  ) (cwV 1 hts gX1_nextCourt_X1_isFine rfl rfl rfl (by decide +kernel) ⟨Nat.le_of_ble_eq_true rfl, Nat.le_of_ble_eq_true rfl⟩) hK hP hD hS hA [0, 1, 2, 3] [] rfl rfl rfl rfl rfl (by decide) 0 1 rfl rfl rfl hl.1 rfl (lv_room (Nat.le_of_ble_eq_true rfl)) dX1_nextCourt_13 ⟨Nat.le_of_ble_eq_true rfl, Nat.le_of_ble_eq_true rfl⟩ (fun r u H locs hr hP hD hS => ?_)
  have hP : va_P D vwCl [(h1, .inr (1, [.int (nI 0), .int yr, .int mo, .int da, .int (nI mk), .ref bc, .ref bf, .ref bg, .int (nI wr)])), (bc, .inl (cyI, 366, .inl (pz_ar rc))), (bf, .inl (cyI, 3001, .inl (pz_ar ff))), (bg, .inl (cyI, 3001, .inl (pz_ar gg)))] H := hP
  have hD : va_D A [(h1, .inr (1, [.int (nI 0), .int yr, .int mo, .int da, .int (nI mk), .ref bc, .ref bf, .ref bg, .int (nI wr)])), (bc, .inl (cyI, 366, .inl (pz_ar rc))), (bf, .inl (cyI, 3001, .inl (pz_ar ff))), (bg, .inl (cyI, 3001, .inl (pz_ar gg)))] := hD
  obtain rfl : r = (nI 1) := hr
  refine pn_if_ne (tgt := 21) hx hb (by omega) dX1_nextCourt_16 (by decide) (fun _ => ?_) (fun c_4 => absurd c_4 (by decide))
  refine lv_iload_n hx hb dX1_nextCourt_21 rfl (lv_at hl 1 rfl) ?_
  refine lv_istore_n (lv' := [(2, .int (nI n)), (0, .ref h1), (1, .int (nI n))]) hx hb dX1_nextCourt_22 rfl hl (by decide) rfl (fun ls hl => ?_)
  have LP23 : ∀ (N : Nat) (d : Nat) (y2 : Int32) (m2 : Int32) (d2 : Int32) (H : Heap) (locs : List Loc) (ls : Array Slot), n + 368 - d < N → (n ≤ d) → (d ≤ n + 367) → (∀ z, n ≤ z → z < d → ¬ (rc (pm_pl z) = 0 ∨ rc (pm_pl z) = 2)) → va_P D vwCl [(h1, .inr (1, [.int (nI 0), .int y2, .int m2, .int d2, .int (nI mk), .ref bc, .ref bf, .ref bg, .int (nI wr)])), (bc, .inl (cyI, 366, .inl (pz_ar rc))), (bf, .inl (cyI, 3001, .inl (pz_ar ff))), (bg, .inl (cyI, 3001, .inl (pz_ar gg)))] H → va_D A [(h1, .inr (1, [.int (nI 0), .int y2, .int m2, .int d2, .int (nI mk), .ref bc, .ref bf, .ref bg, .int (nI wr)])), (bc, .inl (cyI, 366, .inl (pz_ar rc))), (bf, .inl (cyI, 3001, .inl (pz_ar ff))), (bg, .inl (cyI, 3001, .inl (pz_ar gg)))] → va_S A s.heap H locs → lv_has ls 4 [(2, .int (nI d)), (0, .ref h1), (1, .int (nI n))] → W p l e ({ frames := 4, cells := 0, slots := 0, locals := 85 } : Room) s m ([.ref h1, .int (nI n)] : List Value).toArray below meth c H locs 0 0 Q (F0 m 23 ls []) := by
    intro N
    induction N with
    | zero => intro d y2 m2 d2 H locs ls hN; exact absurd hN (Nat.not_lt_zero _)
    | succ N ih =>
      intro d y2 m2 d2 H locs ls hN hi23_0 hi23_1 hi23_2 hP hD hS hl
      have hp_0 := pm_pl_b d
      have hb_0 := hrc (pm_pl d) (by omega)
      have ih23 := ih
      refine lv_iload_n hx hb dX1_nextCourt_23 rfl (lv_at hl 0 rfl) ?_
      refine lv_ldc (v := nI 1095750) hx hb hown (hts (.constant RX1 65 (1095750)) (by decide +kernel)) dX1_nextCourt_24 ?_
      refine pn_icmp_ge (tgt := 66) hx hb (by omega) (by omega) dX1_nextCourt_26 (by decide) (fun c_5 => ?_) (fun c_5 => ?_)
      · -- 26 yes
        refine lv_iconst (v := (-1 : Int32)) hx hb dX1_nextCourt_66 (by decide) ?_
        exact hQ _ _ _ _ _ (y2, m2, d2) dX1_nextCourt_67 rfl (by exact Or.inr ⟨rfl, fun z h1 h2 h3 => hi23_2 z h1 (by omega)⟩) hP hD hS
      · -- 26 no
        refine lv_iload_n hx hb dX1_nextCourt_29 rfl (lv_at hl 0 rfl) ?_
        refine lv_iload_n hx hb dX1_nextCourt_30 rfl (lv_at hl 2 rfl) ?_
        refine lv_sipush (v := nI 367) hx hb dX1_nextCourt_31 (by decide) ?_
        refine pn_iadd hx hb dX1_nextCourt_34 ?_
        refine pn_icmp_ge (tgt := 66) hx hb (by omega) (by omega) dX1_nextCourt_35 (by decide) (fun c_6 => ?_) (fun c_6 => ?_)
        · -- 35 yes
          refine lv_iconst (v := (-1 : Int32)) hx hb dX1_nextCourt_66 (by decide) ?_
          exact hQ _ _ _ _ _ (y2, m2, d2) dX1_nextCourt_67 rfl (by exact Or.inr ⟨rfl, fun z h1 h2 h3 => hi23_2 z h1 (by omega)⟩) hP hD hS
        · -- 35 no
          refine lv_aload_n hx hb dX1_nextCourt_38 rfl (lv_at hl 1 rfl) ?_
          refine va_get (D := D) (ci := 1) (v := .ref bc) (C := RX1) (T := TX1) (N := 9) hx hb hts hin hown hK hP 0 rfl rfl 5 (by decide) (hts (.fieldLink RX1 7 "RomanCalendarModel" "character" "[I") (by decide +kernel)) (fun _ h9 => h9) rfl dX1_nextCourt_39 ?_
          refine lv_aload_n hx hb dX1_nextCourt_42 rfl (lv_at hl 1 rfl) ?_
          refine lv_iload_n hx hb dX1_nextCourt_43 rfl (lv_at hl 0 rfl) ?_
          refine pz_VI (rest := [.ref bc]) (wr := []) ⟨hx, hb, hml, hown, hts⟩ (k_X1_placed l D h1 bc bf bg cyI ts (nI 0) y2 m2 d2 mk wr rc ff gg d (by omega)) (cwV 1 hts gX1_nextCourt_X1_placed rfl rfl rfl (by decide +kernel) ⟨Nat.le_of_ble_eq_true rfl, Nat.le_of_ble_eq_true rfl⟩) hK hP hD hS hA [0, 1, 2, 3] [] rfl rfl rfl rfl rfl (by decide) 0 1 rfl rfl rfl hl.1 rfl (lv_room (Nat.le_of_ble_eq_true rfl)) dX1_nextCourt_44 ⟨Nat.le_of_ble_eq_true rfl, Nat.le_of_ble_eq_true rfl⟩ (fun r u H locs hr hP hD hS => ?_)
          have hP : va_P D vwCl [(h1, .inr (1, [.int (nI 0), .int (nI (pm_yr d)), .int (nI (pm_mo d)), .int (nI (pm_da d)), .int (nI mk), .ref bc, .ref bf, .ref bg, .int (nI wr)])), (bc, .inl (cyI, 366, .inl (pz_ar rc))), (bf, .inl (cyI, 3001, .inl (pz_ar ff))), (bg, .inl (cyI, 3001, .inl (pz_ar gg)))] H := hP
          have hD : va_D A [(h1, .inr (1, [.int (nI 0), .int (nI (pm_yr d)), .int (nI (pm_mo d)), .int (nI (pm_da d)), .int (nI mk), .ref bc, .ref bf, .ref bg, .int (nI wr)])), (bc, .inl (cyI, 366, .inl (pz_ar rc))), (bf, .inl (cyI, 3001, .inl (pz_ar ff))), (bg, .inl (cyI, 3001, .inl (pz_ar gg)))] := hD
          obtain rfl : r = (nI (pm_pl d)) := hr
          have hf_8 := pm_pl_b d
          refine pn_iald hx hb hK hP 1 0 rfl rfl (by omega) (by decide) dX1_nextCourt_47 ?_
          refine lv_istore_n (lv' := [(3, .int (nI (rc (pm_pl d)))), (2, .int (nI d)), (0, .ref h1), (1, .int (nI n))]) hx hb dX1_nextCourt_48 rfl hl (by decide) rfl (fun ls hl => ?_)
          refine lv_iload_n hx hb dX1_nextCourt_49 rfl (lv_at hl 0 rfl) ?_
          refine pn_if_eq (tgt := 58) hx hb (by omega) dX1_nextCourt_50 (by decide) (fun c_9 => ?_) (fun c_9 => ?_)
          · -- 50 yes
            refine lv_iload_n hx hb dX1_nextCourt_58 rfl (lv_at hl 1 rfl) ?_
            exact hQ _ _ _ _ _ ((nI (pm_yr d)), (nI (pm_mo d)), (nI (pm_da d))) dX1_nextCourt_59 rfl (by exact Or.inl ⟨d, by omega, by omega, by omega, rfl, by omega, hi23_2⟩) hP hD hS
          · -- 50 no
            refine lv_iload_n hx hb dX1_nextCourt_53 rfl (lv_at hl 0 rfl) ?_
            refine lv_iconst (v := nI 2) hx hb dX1_nextCourt_54 (by decide) ?_
            refine pn_icmp_ne (tgt := 60) hx hb (by omega) (by omega) dX1_nextCourt_55 (by decide) (fun c_10 => ?_) (fun c_10 => ?_)
            · -- 55 yes
              refine lv_iinc (v := (nI (d + 1))) (lv' := [(2, .int (nI (d + 1))), (3, .int (nI (rc (pm_pl d)))), (0, .ref h1), (1, .int (nI n))]) hx hb dX1_nextCourt_60 hl (k := 1) rfl (by exact nI_add _ 1) (by decide) rfl (fun ls hl => ?_)
              refine lv_goto (tgt := 23) hx hb dX1_nextCourt_63 (by decide) ?_
              exact ih23 (d + 1) (nI (pm_yr d)) (nI (pm_mo d)) (nI (pm_da d)) _ _ _ (by omega) (by omega) (by omega) (by first | (intro z h1 h2; exfalso; omega) | (intro z h1 h2; rcases Nat.lt_or_ge z d with h3 | h3; (exact hi23_2 z h1 h3); (have h4 : z = d := by omega); subst h4; omega)) hP hD hS (lv_sub hl [0, 2, 3] rfl)
            · -- 55 no
              refine lv_iload_n hx hb dX1_nextCourt_58 rfl (lv_at hl 1 rfl) ?_
              exact hQ _ _ _ _ _ ((nI (pm_yr d)), (nI (pm_mo d)), (nI (pm_da d))) dX1_nextCourt_59 rfl (by exact Or.inl ⟨d, by omega, by omega, by omega, rfl, by omega, hi23_2⟩) hP hD hS
  exact LP23 _ n yr mo da _ _ _ (Nat.lt_succ_self _) (by omega) (by omega) (by first | (intro z h1 h2; exfalso; omega) | (intro z h1 h2; rcases Nat.lt_or_ge z d with h3 | h3; (exact hi23_2 z h1 h3); (have h4 : z = d := by omega); subst h4; omega)) hP hD hS (lv_sub hl [0, 1, 2] rfl)
set_option maxHeartbeats 4000000 in
set_option maxRecDepth 100000 in
theorem k_X1_setCharacter_a (l : Launch) (D : va_G) (h1 bc bf bg : Nat) (cyI : ClassId) (ts : List (ClassId × FieldType)) (th yr mo da : Int32) (mk wr : Nat) (rc ff gg : Nat → Nat) (q v : Nat) (hy0 : 1 ≤ q) (hy1 : q ≤ 365) (hy2 : v ≤ 3) : pz_I l yX1_setCharacter wsX1_setCharacter ({ frames := 1, cells := 0, slots := 0, locals := 22 } : Room) D ((cyI, .int) :: ts) [.ref h1, .int (nI q), .int (nI v)] [(h1, .inr (1, [.int th, .int yr, .int mo, .int da, .int (nI mk), .ref bc, .ref bf, .ref bg, .int (nI wr)])), (bc, .inl (cyI, 366, .inl (pz_ar rc))), (bf, .inl (cyI, 3001, .inl (pz_ar ff))), (bg, .inl (cyI, 3001, .inl (pz_ar gg)))] (S := Unit) (fun r _ => r = nI (rc q)) (fun _ => [(h1, .inr (1, [.int (nI 0), .int yr, .int mo, .int da, .int (nI mk), .ref bc, .ref bf, .ref bg, .int (nI wr)])), (bc, .inl (cyI, 366, .inl (pz_ar (pz_u rc q v)))), (bf, .inl (cyI, 3001, .inl (pz_ar ff))), (bg, .inl (cyI, 3001, .inl (pz_ar gg)))]) := by
  refine pz_I_of (cc := cX1_setCharacter) (maxL := 4) (ty := .int) (own := RX1) (by decide) rfl rfl (Nat.le_of_ble_eq_true rfl) ?_
  intro p e s m below meth c A ls Q hx hb hml hown hts hK hP hD hS hA hl hQ
  have hl : lv_has ls 4 [(0, .ref h1), (1, .int (nI q)), (2, .int (nI v))] := hl
  have hin : ∀ w ∈ u_ws RX1 TX1 9, w ∈ wsX1_setCharacter := by decide +kernel
  refine lv_aload_n hx hb dX1_setCharacter_0 rfl (lv_at hl 0 rfl) ?_
  refine lv_iload_n hx hb dX1_setCharacter_1 rfl (lv_at hl 1 rfl) ?_
  refine lv_iconst (v := nI 1) hx hb dX1_setCharacter_2 (by decide) ?_
  refine lv_sipush (v := nI 365) hx hb dX1_setCharacter_3 (by decide) ?_
  refine pz_SR (rest := [.ref h1]) ⟨hx, hb, hml, hown, hts⟩ (k_X1_isIn_a l D ((cyI, .int) :: ts) q 1 365 (by omega) (by omega) (by omega)) (va_cwS 3 hts gX1_setCharacter_X1_isIn rfl rfl rfl (by decide +kernel) ⟨Nat.le_of_ble_eq_true rfl, Nat.le_of_ble_eq_true rfl⟩) hK hP (hD.weaken (fun _ _ _ _ => trivial)) hS hA [] rfl rfl rfl rfl hl.1 rfl (lv_room (Nat.le_of_ble_eq_true rfl)) dX1_setCharacter_6 ⟨Nat.le_of_ble_eq_true rfl, Nat.le_of_ble_eq_true rfl⟩ (fun r H locs hr hP hS => ?_)
  obtain rfl : r = (nI 1) := hr
  refine pn_if_ne (tgt := 16) hx hb (by omega) dX1_setCharacter_9 (by decide) (fun _ => ?_) (fun c_2 => absurd c_2 (by decide))
  refine lv_iload_n hx hb dX1_setCharacter_16 rfl (lv_at hl 2 rfl) ?_
  refine lv_iconst (v := nI 0) hx hb dX1_setCharacter_17 (by decide) ?_
  refine lv_iconst (v := nI 3) hx hb dX1_setCharacter_18 (by decide) ?_
  refine pz_SR (rest := [.ref h1]) ⟨hx, hb, hml, hown, hts⟩ (k_X1_isIn_a l D ((cyI, .int) :: ts) v 0 3 (by omega) (by omega) (by omega)) (va_cwS 3 hts gX1_setCharacter_X1_isIn rfl rfl rfl (by decide +kernel) ⟨Nat.le_of_ble_eq_true rfl, Nat.le_of_ble_eq_true rfl⟩) hK hP (hD.weaken (fun _ _ _ _ => trivial)) hS hA [] rfl rfl rfl rfl hl.1 rfl (lv_room (Nat.le_of_ble_eq_true rfl)) dX1_setCharacter_19 ⟨Nat.le_of_ble_eq_true rfl, Nat.le_of_ble_eq_true rfl⟩ (fun r H locs hr hP hS => ?_)
  obtain rfl : r = (nI 1) := hr
  refine pn_if_ne (tgt := 29) hx hb (by omega) dX1_setCharacter_22 (by decide) (fun _ => ?_) (fun c_4 => absurd c_4 (by decide))
  refine lv_iconst (v := nI 0) hx hb dX1_setCharacter_29 (by decide) ?_
  refine pz_VI (rest := []) (wr := []) ⟨hx, hb, hml, hown, hts⟩ (k_X1_isFine_0 l D h1 bc bf bg cyI ts th yr mo da mk wr rc ff gg  ) (cwV 1 hts gX1_setCharacter_X1_isFine rfl rfl rfl (by decide +kernel) ⟨Nat.le_of_ble_eq_true rfl, Nat.le_of_ble_eq_true rfl⟩) hK hP hD hS hA [0, 1, 2, 3] [] rfl rfl rfl rfl rfl (by decide) 0 1 rfl rfl rfl hl.1 rfl (lv_room (Nat.le_of_ble_eq_true rfl)) dX1_setCharacter_30 ⟨Nat.le_of_ble_eq_true rfl, Nat.le_of_ble_eq_true rfl⟩ (fun r u H locs hr hP hD hS => ?_)
  have hP : va_P D vwCl [(h1, .inr (1, [.int (nI 0), .int yr, .int mo, .int da, .int (nI mk), .ref bc, .ref bf, .ref bg, .int (nI wr)])), (bc, .inl (cyI, 366, .inl (pz_ar rc))), (bf, .inl (cyI, 3001, .inl (pz_ar ff))), (bg, .inl (cyI, 3001, .inl (pz_ar gg)))] H := hP
  have hD : va_D A [(h1, .inr (1, [.int (nI 0), .int yr, .int mo, .int da, .int (nI mk), .ref bc, .ref bf, .ref bg, .int (nI wr)])), (bc, .inl (cyI, 366, .inl (pz_ar rc))), (bf, .inl (cyI, 3001, .inl (pz_ar ff))), (bg, .inl (cyI, 3001, .inl (pz_ar gg)))] := hD
  obtain rfl : r = (nI 1) := hr
  refine pn_if_ne (tgt := 38) hx hb (by omega) dX1_setCharacter_33 (by decide) (fun _ => ?_) (fun c_6 => absurd c_6 (by decide))
  refine lv_aload_n hx hb dX1_setCharacter_38 rfl (lv_at hl 0 rfl) ?_
  refine va_get (D := D) (ci := 1) (v := .ref bc) (C := RX1) (T := TX1) (N := 9) hx hb hts hin hown hK hP 0 rfl rfl 5 (by decide) (hts (.fieldLink RX1 7 "RomanCalendarModel" "character" "[I") (by decide +kernel)) (fun _ h9 => h9) rfl dX1_setCharacter_39 ?_
  refine lv_iload_n hx hb dX1_setCharacter_42 rfl (lv_at hl 1 rfl) ?_
  refine pn_iald hx hb hK hP 1 0 rfl rfl (by omega) (by decide) dX1_setCharacter_43 ?_
  refine lv_istore_n (lv' := [(3, .int (nI (rc q))), (0, .ref h1), (1, .int (nI q)), (2, .int (nI v))]) hx hb dX1_setCharacter_44 rfl hl (by decide) rfl (fun ls hl => ?_)
  refine lv_aload_n hx hb dX1_setCharacter_45 rfl (lv_at hl 1 rfl) ?_
  refine va_get (D := D) (ci := 1) (v := .ref bc) (C := RX1) (T := TX1) (N := 9) hx hb hts hin hown hK hP 0 rfl rfl 5 (by decide) (hts (.fieldLink RX1 7 "RomanCalendarModel" "character" "[I") (by decide +kernel)) (fun _ h9 => h9) rfl dX1_setCharacter_46 ?_
  refine lv_iload_n hx hb dX1_setCharacter_49 rfl (lv_at hl 2 rfl) ?_
  refine lv_iload_n hx hb dX1_setCharacter_50 rfl (lv_at hl 3 rfl) ?_
  refine pn_iast hx hb hK hP hD hS 1 0 rfl rfl (by omega) (by decide) dX1_setCharacter_51 (fun H locs hP hD hS => ?_)
  have hP : va_P D vwCl [(h1, .inr (1, [.int (nI 0), .int yr, .int mo, .int da, .int (nI mk), .ref bc, .ref bf, .ref bg, .int (nI wr)])), (bc, .inl (cyI, 366, .inl (pz_ar (pz_u rc q v)))), (bf, .inl (cyI, 3001, .inl (pz_ar ff))), (bg, .inl (cyI, 3001, .inl (pz_ar gg)))] H := hP
  have hD : va_D A [(h1, .inr (1, [.int (nI 0), .int yr, .int mo, .int da, .int (nI mk), .ref bc, .ref bf, .ref bg, .int (nI wr)])), (bc, .inl (cyI, 366, .inl (pz_ar (pz_u rc q v)))), (bf, .inl (cyI, 3001, .inl (pz_ar ff))), (bg, .inl (cyI, 3001, .inl (pz_ar gg)))] := hD
  refine lv_iload_n hx hb dX1_setCharacter_52 rfl (lv_at hl 0 rfl) ?_
  exact hQ _ _ _ _ _ () dX1_setCharacter_53 rfl (congrArg nI (by rfl)) hP hD hS
set_option maxHeartbeats 4000000 in
set_option maxRecDepth 100000 in
theorem k_X1_setCharacter_x (l : Launch) (D : va_G) (h1 bc bf bg : Nat) (cyI : ClassId) (ts : List (ClassId × FieldType)) (th yr mo da : Int32) (mk wr : Nat) (rc ff gg : Nat → Nat) (x1 x2 : Int32) (hy0 : x1.toInt < 1 ∨ 365 < x1.toInt) : pz_I l yX1_setCharacter wsX1_setCharacter ({ frames := 1, cells := 0, slots := 0, locals := 22 } : Room) D ((cyI, .int) :: ts) [.ref h1, .int x1, .int x2] [(h1, .inr (1, [.int th, .int yr, .int mo, .int da, .int (nI mk), .ref bc, .ref bf, .ref bg, .int (nI wr)])), (bc, .inl (cyI, 366, .inl (pz_ar rc))), (bf, .inl (cyI, 3001, .inl (pz_ar ff))), (bg, .inl (cyI, 3001, .inl (pz_ar gg)))] (S := Unit) (fun r _ => r = nI 0) (fun _ => [(h1, .inr (1, [.int (nI 1), .int yr, .int mo, .int da, .int (nI mk), .ref bc, .ref bf, .ref bg, .int (nI wr)])), (bc, .inl (cyI, 366, .inl (pz_ar rc))), (bf, .inl (cyI, 3001, .inl (pz_ar ff))), (bg, .inl (cyI, 3001, .inl (pz_ar gg)))]) := by
  refine pz_I_of (cc := cX1_setCharacter) (maxL := 4) (ty := .int) (own := RX1) (by decide) rfl rfl (Nat.le_of_ble_eq_true rfl) ?_
  intro p e s m below meth c A ls Q hx hb hml hown hts hK hP hD hS hA hl hQ
  have hl : lv_has ls 4 [(0, .ref h1), (1, .int x1), (2, .int x2)] := hl
  have hin : ∀ w ∈ u_ws RX1 TX1 9, w ∈ wsX1_setCharacter := by decide +kernel
  refine lv_aload_n hx hb dX1_setCharacter_0 rfl (lv_at hl 0 rfl) ?_
  refine lv_iload_n hx hb dX1_setCharacter_1 rfl (lv_at hl 1 rfl) ?_
  refine lv_iconst (v := nI 1) hx hb dX1_setCharacter_2 (by decide) ?_
  refine lv_sipush (v := nI 365) hx hb dX1_setCharacter_3 (by decide) ?_
  refine pz_SR (rest := [.ref h1]) ⟨hx, hb, hml, hown, hts⟩ (k_X1_isIn_x l D ((cyI, .int) :: ts) x1 1 365 (by omega) (by omega) (by omega)) (va_cwS 3 hts gX1_setCharacter_X1_isIn rfl rfl rfl (by decide +kernel) ⟨Nat.le_of_ble_eq_true rfl, Nat.le_of_ble_eq_true rfl⟩) hK hP (hD.weaken (fun _ _ _ _ => trivial)) hS hA [] rfl rfl rfl rfl hl.1 rfl (lv_room (Nat.le_of_ble_eq_true rfl)) dX1_setCharacter_6 ⟨Nat.le_of_ble_eq_true rfl, Nat.le_of_ble_eq_true rfl⟩ (fun r H locs hr hP hS => ?_)
  obtain rfl : r = (nI 0) := hr
  refine pn_if_ne (tgt := 16) hx hb (by omega) dX1_setCharacter_9 (by decide) (fun c_2 => absurd c_2 (by decide)) (fun _ => ?_)
  refine lv_iconst (v := nI 1) hx hb dX1_setCharacter_12 (by decide) ?_
  refine lv_goto (tgt := 30) hx hb dX1_setCharacter_13 (by decide) ?_
  refine pz_VI (rest := []) (wr := []) ⟨hx, hb, hml, hown, hts⟩ (k_X1_isFine_k l D h1 bc bf bg cyI ts th yr mo da mk wr rc ff gg 1 (by omega) (by omega)) (cwV 1 hts gX1_setCharacter_X1_isFine rfl rfl rfl (by decide +kernel) ⟨Nat.le_of_ble_eq_true rfl, Nat.le_of_ble_eq_true rfl⟩) hK hP hD hS hA [0, 1, 2, 3] [] rfl rfl rfl rfl rfl (by decide) 0 1 rfl rfl rfl hl.1 rfl (lv_room (Nat.le_of_ble_eq_true rfl)) dX1_setCharacter_30 ⟨Nat.le_of_ble_eq_true rfl, Nat.le_of_ble_eq_true rfl⟩ (fun r u H locs hr hP hD hS => ?_)
  have hP : va_P D vwCl [(h1, .inr (1, [.int (nI 1), .int yr, .int mo, .int da, .int (nI mk), .ref bc, .ref bf, .ref bg, .int (nI wr)])), (bc, .inl (cyI, 366, .inl (pz_ar rc))), (bf, .inl (cyI, 3001, .inl (pz_ar ff))), (bg, .inl (cyI, 3001, .inl (pz_ar gg)))] H := hP
  have hD : va_D A [(h1, .inr (1, [.int (nI 1), .int yr, .int mo, .int da, .int (nI mk), .ref bc, .ref bf, .ref bg, .int (nI wr)])), (bc, .inl (cyI, 366, .inl (pz_ar rc))), (bf, .inl (cyI, 3001, .inl (pz_ar ff))), (bg, .inl (cyI, 3001, .inl (pz_ar gg)))] := hD
  obtain rfl : r = (nI 0) := hr
  refine pn_if_ne (tgt := 38) hx hb (by omega) dX1_setCharacter_33 (by decide) (fun c_4 => absurd c_4 (by decide)) (fun _ => ?_)
  refine lv_iconst (v := nI 0) hx hb dX1_setCharacter_36 (by decide) ?_
  exact hQ _ _ _ _ _ () dX1_setCharacter_37 rfl (congrArg nI (by rfl)) hP hD hS
set_option maxHeartbeats 4000000 in
set_option maxRecDepth 100000 in
theorem k_X1_setCharacter_x2 (l : Launch) (D : va_G) (h1 bc bf bg : Nat) (cyI : ClassId) (ts : List (ClassId × FieldType)) (th yr mo da : Int32) (mk wr : Nat) (rc ff gg : Nat → Nat) (q : Nat) (x : Int32) (hy0 : 1 ≤ q) (hy1 : q ≤ 365) (hy2 : x.toInt < 0 ∨ 3 < x.toInt) : pz_I l yX1_setCharacter wsX1_setCharacter ({ frames := 1, cells := 0, slots := 0, locals := 22 } : Room) D ((cyI, .int) :: ts) [.ref h1, .int (nI q), .int x] [(h1, .inr (1, [.int th, .int yr, .int mo, .int da, .int (nI mk), .ref bc, .ref bf, .ref bg, .int (nI wr)])), (bc, .inl (cyI, 366, .inl (pz_ar rc))), (bf, .inl (cyI, 3001, .inl (pz_ar ff))), (bg, .inl (cyI, 3001, .inl (pz_ar gg)))] (S := Unit) (fun r _ => r = nI 0) (fun _ => [(h1, .inr (1, [.int (nI 2), .int yr, .int mo, .int da, .int (nI mk), .ref bc, .ref bf, .ref bg, .int (nI wr)])), (bc, .inl (cyI, 366, .inl (pz_ar rc))), (bf, .inl (cyI, 3001, .inl (pz_ar ff))), (bg, .inl (cyI, 3001, .inl (pz_ar gg)))]) := by
  refine pz_I_of (cc := cX1_setCharacter) (maxL := 4) (ty := .int) (own := RX1) (by decide) rfl rfl (Nat.le_of_ble_eq_true rfl) ?_
  intro p e s m below meth c A ls Q hx hb hml hown hts hK hP hD hS hA hl hQ
  have hl : lv_has ls 4 [(0, .ref h1), (1, .int (nI q)), (2, .int x)] := hl
  have hin : ∀ w ∈ u_ws RX1 TX1 9, w ∈ wsX1_setCharacter := by decide +kernel
  refine lv_aload_n hx hb dX1_setCharacter_0 rfl (lv_at hl 0 rfl) ?_
  refine lv_iload_n hx hb dX1_setCharacter_1 rfl (lv_at hl 1 rfl) ?_
  refine lv_iconst (v := nI 1) hx hb dX1_setCharacter_2 (by decide) ?_
  refine lv_sipush (v := nI 365) hx hb dX1_setCharacter_3 (by decide) ?_
  refine pz_SR (rest := [.ref h1]) ⟨hx, hb, hml, hown, hts⟩ (k_X1_isIn_a l D ((cyI, .int) :: ts) q 1 365 (by omega) (by omega) (by omega)) (va_cwS 3 hts gX1_setCharacter_X1_isIn rfl rfl rfl (by decide +kernel) ⟨Nat.le_of_ble_eq_true rfl, Nat.le_of_ble_eq_true rfl⟩) hK hP (hD.weaken (fun _ _ _ _ => trivial)) hS hA [] rfl rfl rfl rfl hl.1 rfl (lv_room (Nat.le_of_ble_eq_true rfl)) dX1_setCharacter_6 ⟨Nat.le_of_ble_eq_true rfl, Nat.le_of_ble_eq_true rfl⟩ (fun r H locs hr hP hS => ?_)
  obtain rfl : r = (nI 1) := hr
  refine pn_if_ne (tgt := 16) hx hb (by omega) dX1_setCharacter_9 (by decide) (fun _ => ?_) (fun c_2 => absurd c_2 (by decide))
  refine lv_iload_n hx hb dX1_setCharacter_16 rfl (lv_at hl 2 rfl) ?_
  refine lv_iconst (v := nI 0) hx hb dX1_setCharacter_17 (by decide) ?_
  refine lv_iconst (v := nI 3) hx hb dX1_setCharacter_18 (by decide) ?_
  refine pz_SR (rest := [.ref h1]) ⟨hx, hb, hml, hown, hts⟩ (k_X1_isIn_x l D ((cyI, .int) :: ts) x 0 3 (by omega) (by omega) (by omega)) (va_cwS 3 hts gX1_setCharacter_X1_isIn rfl rfl rfl (by decide +kernel) ⟨Nat.le_of_ble_eq_true rfl, Nat.le_of_ble_eq_true rfl⟩) hK hP (hD.weaken (fun _ _ _ _ => trivial)) hS hA [] rfl rfl rfl rfl hl.1 rfl (lv_room (Nat.le_of_ble_eq_true rfl)) dX1_setCharacter_19 ⟨Nat.le_of_ble_eq_true rfl, Nat.le_of_ble_eq_true rfl⟩ (fun r H locs hr hP hS => ?_)
  obtain rfl : r = (nI 0) := hr
  refine pn_if_ne (tgt := 29) hx hb (by omega) dX1_setCharacter_22 (by decide) (fun c_4 => absurd c_4 (by decide)) (fun _ => ?_)
  refine lv_iconst (v := nI 2) hx hb dX1_setCharacter_25 (by decide) ?_
  refine lv_goto (tgt := 30) hx hb dX1_setCharacter_26 (by decide) ?_
  refine pz_VI (rest := []) (wr := []) ⟨hx, hb, hml, hown, hts⟩ (k_X1_isFine_k l D h1 bc bf bg cyI ts th yr mo da mk wr rc ff gg 2 (by omega) (by omega)) (cwV 1 hts gX1_setCharacter_X1_isFine rfl rfl rfl (by decide +kernel) ⟨Nat.le_of_ble_eq_true rfl, Nat.le_of_ble_eq_true rfl⟩) hK hP hD hS hA [0, 1, 2, 3] [] rfl rfl rfl rfl rfl (by decide) 0 1 rfl rfl rfl hl.1 rfl (lv_room (Nat.le_of_ble_eq_true rfl)) dX1_setCharacter_30 ⟨Nat.le_of_ble_eq_true rfl, Nat.le_of_ble_eq_true rfl⟩ (fun r u H locs hr hP hD hS => ?_)
  have hP : va_P D vwCl [(h1, .inr (1, [.int (nI 2), .int yr, .int mo, .int da, .int (nI mk), .ref bc, .ref bf, .ref bg, .int (nI wr)])), (bc, .inl (cyI, 366, .inl (pz_ar rc))), (bf, .inl (cyI, 3001, .inl (pz_ar ff))), (bg, .inl (cyI, 3001, .inl (pz_ar gg)))] H := hP
  have hD : va_D A [(h1, .inr (1, [.int (nI 2), .int yr, .int mo, .int da, .int (nI mk), .ref bc, .ref bf, .ref bg, .int (nI wr)])), (bc, .inl (cyI, 366, .inl (pz_ar rc))), (bf, .inl (cyI, 3001, .inl (pz_ar ff))), (bg, .inl (cyI, 3001, .inl (pz_ar gg)))] := hD
  obtain rfl : r = (nI 0) := hr
  refine pn_if_ne (tgt := 38) hx hb (by omega) dX1_setCharacter_33 (by decide) (fun c_6 => absurd c_6 (by decide)) (fun _ => ?_)
  refine lv_iconst (v := nI 0) hx hb dX1_setCharacter_36 (by decide) ?_
  exact hQ _ _ _ _ _ () dX1_setCharacter_37 rfl (congrArg nI (by rfl)) hP hD hS
set_option maxHeartbeats 4000000 in
set_option maxRecDepth 100000 in
theorem k_X1_setConsuls_a (l : Launch) (D : va_G) (h1 bc bf bg : Nat) (cyI : ClassId) (ts : List (ClassId × FieldType)) (th yr mo da : Int32) (mk wr : Nat) (rc ff gg : Nat → Nat) (y fa se : Nat) (hy0 : 1 ≤ y) (hy1 : y ≤ 3000) (hy2 : 1 ≤ fa) (hy3 : fa ≤ 999) (hy4 : 1 ≤ se) (hy5 : se ≤ 999) (hy6 : ¬ fa = se) (hff : ∀ j, j < 3001 → ff j ≤ 999) (hwr : wr ≤ 60) (hy9 : ¬ (ff y = 0 ∧ wr = 60)) : pz_I l yX1_setConsuls wsX1_setConsuls ({ frames := 2, cells := 0, slots := 0, locals := 42 } : Room) D ((cyI, .int) :: ts) [.ref h1, .int (nI y), .int (nI fa), .int (nI se)] [(h1, .inr (1, [.int th, .int yr, .int mo, .int da, .int (nI mk), .ref bc, .ref bf, .ref bg, .int (nI wr)])), (bc, .inl (cyI, 366, .inl (pz_ar rc))), (bf, .inl (cyI, 3001, .inl (pz_ar ff))), (bg, .inl (cyI, 3001, .inl (pz_ar gg)))] (S := Nat) (fun r u => r = nI u ∧ u = wr + (if ff y = 0 then 1 else 0)) (fun u => [(h1, .inr (1, [.int (nI 0), .int yr, .int mo, .int da, .int (nI mk), .ref bc, .ref bf, .ref bg, .int (nI u)])), (bc, .inl (cyI, 366, .inl (pz_ar rc))), (bf, .inl (cyI, 3001, .inl (pz_ar (pz_u ff y fa)))), (bg, .inl (cyI, 3001, .inl (pz_ar (pz_u gg y se))))]) := by
  refine pz_I_of (cc := cX1_setConsuls) (maxL := 5) (ty := .int) (own := RX1) (by decide) rfl rfl (Nat.le_of_ble_eq_true rfl) ?_
  intro p e s m below meth c A ls Q hx hb hml hown hts hK hP hD hS hA hl hQ
  have hl : lv_has ls 5 [(0, .ref h1), (1, .int (nI y)), (2, .int (nI fa)), (3, .int (nI se))] := hl
  have hin : ∀ w ∈ u_ws RX1 TX1 9, w ∈ wsX1_setConsuls := by decide +kernel
  have hb_0 := hff y (by omega)
  refine lv_iload_n hx hb dX1_setConsuls_0 rfl (lv_at hl 2 rfl) ?_
  refine lv_iconst (v := nI 1) hx hb dX1_setConsuls_1 (by decide) ?_
  refine lv_sipush (v := nI 999) hx hb dX1_setConsuls_2 (by decide) ?_
  refine pz_SR (rest := []) ⟨hx, hb, hml, hown, hts⟩ (k_X1_isIn_a l D ((cyI, .int) :: ts) fa 1 999 (by omega) (by omega) (by omega)) (va_cwS 3 hts gX1_setConsuls_X1_isIn rfl rfl rfl (by decide +kernel) ⟨Nat.le_of_ble_eq_true rfl, Nat.le_of_ble_eq_true rfl⟩) hK hP (hD.weaken (fun _ _ _ _ => trivial)) hS hA [] rfl rfl rfl rfl hl.1 rfl (lv_room (Nat.le_of_ble_eq_true rfl)) dX1_setConsuls_5 ⟨Nat.le_of_ble_eq_true rfl, Nat.le_of_ble_eq_true rfl⟩ (fun r H locs hr hP hS => ?_)
  obtain rfl : r = (nI 1) := hr
  refine pn_if_eq (tgt := 31) hx hb (by omega) dX1_setConsuls_8 (by decide) (fun c_2 => absurd c_2 (by decide)) (fun _ => ?_)
  refine lv_iload_n hx hb dX1_setConsuls_11 rfl (lv_at hl 3 rfl) ?_
  refine lv_iconst (v := nI 1) hx hb dX1_setConsuls_12 (by decide) ?_
  refine lv_sipush (v := nI 999) hx hb dX1_setConsuls_13 (by decide) ?_
  refine pz_SR (rest := []) ⟨hx, hb, hml, hown, hts⟩ (k_X1_isIn_a l D ((cyI, .int) :: ts) se 1 999 (by omega) (by omega) (by omega)) (va_cwS 3 hts gX1_setConsuls_X1_isIn rfl rfl rfl (by decide +kernel) ⟨Nat.le_of_ble_eq_true rfl, Nat.le_of_ble_eq_true rfl⟩) hK hP (hD.weaken (fun _ _ _ _ => trivial)) hS hA [] rfl rfl rfl rfl hl.1 rfl (lv_room (Nat.le_of_ble_eq_true rfl)) dX1_setConsuls_16 ⟨Nat.le_of_ble_eq_true rfl, Nat.le_of_ble_eq_true rfl⟩ (fun r H locs hr hP hS => ?_)
  obtain rfl : r = (nI 1) := hr
  refine pn_if_eq (tgt := 31) hx hb (by omega) dX1_setConsuls_19 (by decide) (fun c_4 => absurd c_4 (by decide)) (fun _ => ?_)
  refine lv_iload_n hx hb dX1_setConsuls_22 rfl (lv_at hl 2 rfl) ?_
  refine lv_iload_n hx hb dX1_setConsuls_23 rfl (lv_at hl 3 rfl) ?_
  refine pn_icmp_eq (tgt := 31) hx hb (by omega) (by omega) dX1_setConsuls_24 (by decide) (fun c_5 => ?_) (fun c_5 => ?_)
  · -- 24 yes
    exfalso; omega
  · -- 24 no
    refine lv_iconst (v := nI 1) hx hb dX1_setConsuls_27 (by decide) ?_
    refine lv_goto (tgt := 32) hx hb dX1_setConsuls_28 (by decide) ?_
    refine lv_istore (lv' := [(4, .int (nI 1)), (0, .ref h1), (1, .int (nI y)), (2, .int (nI fa)), (3, .int (nI se))]) hx hb dX1_setConsuls_32 hl (by decide) rfl (fun ls hl => ?_)
    refine lv_aload_n hx hb dX1_setConsuls_34 rfl (lv_at hl 1 rfl) ?_
    refine lv_iload_n hx hb dX1_setConsuls_35 rfl (lv_at hl 2 rfl) ?_
    refine pz_SR (rest := [.ref h1]) ⟨hx, hb, hml, hown, hts⟩ (k_X1_isYear_a l D ((cyI, .int) :: ts) y (by omega) (by omega)) (va_cwS 1 hts gX1_setConsuls_X1_isYear rfl rfl rfl (by decide +kernel) ⟨Nat.le_of_ble_eq_true rfl, Nat.le_of_ble_eq_true rfl⟩) hK hP (hD.weaken (fun _ _ _ _ => trivial)) hS hA [] rfl rfl rfl rfl hl.1 rfl (lv_room (Nat.le_of_ble_eq_true rfl)) dX1_setConsuls_36 ⟨Nat.le_of_ble_eq_true rfl, Nat.le_of_ble_eq_true rfl⟩ (fun r H locs hr hP hS => ?_)
    obtain rfl : r = (nI 1) := hr
    refine pn_if_ne (tgt := 46) hx hb (by omega) dX1_setConsuls_39 (by decide) (fun _ => ?_) (fun c_7 => absurd c_7 (by decide))
    refine lv_iload hx hb dX1_setConsuls_46 (lv_at hl 0 rfl) ?_
    refine pn_if_ne (tgt := 55) hx hb (by omega) dX1_setConsuls_48 (by decide) (fun _ => ?_) (fun c_8 => absurd c_8 (by decide))
    refine lv_aload_n hx hb dX1_setConsuls_55 rfl (lv_at hl 1 rfl) ?_
    refine va_get (D := D) (ci := 1) (v := .ref bf) (C := RX1) (T := TX1) (N := 9) hx hb hts hin hown hK hP 0 rfl rfl 6 (by decide) (hts (.fieldLink RX1 13 "RomanCalendarModel" "first" "[I") (by decide +kernel)) (fun _ h9 => h9) rfl dX1_setConsuls_56 ?_
    refine lv_iload_n hx hb dX1_setConsuls_59 rfl (lv_at hl 2 rfl) ?_
    refine pn_iald hx hb hK hP 2 0 rfl rfl (by omega) (by decide) dX1_setConsuls_60 ?_
    refine pn_if_ne (tgt := 77) hx hb (by omega) dX1_setConsuls_61 (by decide) (fun c_9 => ?_) (fun c_9 => ?_)
    · -- 61 yes
      refine lv_iconst (v := nI 0) hx hb dX1_setConsuls_77 (by decide) ?_
      refine pz_VI (rest := []) (wr := []) ⟨hx, hb, hml, hown, hts⟩ (k_X1_isFine_0 l D h1 bc bf bg cyI ts th yr mo da mk wr rc ff gg  ) (cwV 1 hts gX1_setConsuls_X1_isFine rfl rfl rfl (by decide +kernel) ⟨Nat.le_of_ble_eq_true rfl, Nat.le_of_ble_eq_true rfl⟩) hK hP hD hS hA [0, 1, 2, 3] [] rfl rfl rfl rfl rfl (by decide) 0 1 rfl rfl rfl hl.1 rfl (lv_room (Nat.le_of_ble_eq_true rfl)) dX1_setConsuls_78 ⟨Nat.le_of_ble_eq_true rfl, Nat.le_of_ble_eq_true rfl⟩ (fun r u H locs hr hP hD hS => ?_)
      have hP : va_P D vwCl [(h1, .inr (1, [.int (nI 0), .int yr, .int mo, .int da, .int (nI mk), .ref bc, .ref bf, .ref bg, .int (nI wr)])), (bc, .inl (cyI, 366, .inl (pz_ar rc))), (bf, .inl (cyI, 3001, .inl (pz_ar ff))), (bg, .inl (cyI, 3001, .inl (pz_ar gg)))] H := hP
      have hD : va_D A [(h1, .inr (1, [.int (nI 0), .int yr, .int mo, .int da, .int (nI mk), .ref bc, .ref bf, .ref bg, .int (nI wr)])), (bc, .inl (cyI, 366, .inl (pz_ar rc))), (bf, .inl (cyI, 3001, .inl (pz_ar ff))), (bg, .inl (cyI, 3001, .inl (pz_ar gg)))] := hD
      obtain rfl : r = (nI 1) := hr
      refine pn_if_ne (tgt := 86) hx hb (by omega) dX1_setConsuls_81 (by decide) (fun _ => ?_) (fun c_11 => absurd c_11 (by decide))
      refine lv_aload_n hx hb dX1_setConsuls_86 rfl (lv_at hl 1 rfl) ?_
      refine lv_dup hx hb dX1_setConsuls_87 rfl ?_
      refine va_get (D := D) (ci := 1) (v := .int (nI wr)) (C := RX1) (T := TX1) (N := 9) hx hb hts hin hown hK hP 0 rfl rfl 8 (by decide) (hts (.fieldLink RX1 110 "RomanCalendarModel" "written" "I") (by decide +kernel)) (fun _ h9 => h9) rfl dX1_setConsuls_88 ?_
      refine lv_aload_n hx hb dX1_setConsuls_91 rfl (lv_at hl 1 rfl) ?_
      refine va_get (D := D) (ci := 1) (v := .ref bf) (C := RX1) (T := TX1) (N := 9) hx hb hts hin hown hK hP 0 rfl rfl 6 (by decide) (hts (.fieldLink RX1 13 "RomanCalendarModel" "first" "[I") (by decide +kernel)) (fun _ h9 => h9) rfl dX1_setConsuls_92 ?_
      refine lv_iload_n hx hb dX1_setConsuls_95 rfl (lv_at hl 2 rfl) ?_
      refine pn_iald hx hb hK hP 2 0 rfl rfl (by omega) (by decide) dX1_setConsuls_96 ?_
      refine pn_if_ne (tgt := 104) hx hb (by omega) dX1_setConsuls_97 (by decide) (fun c_12 => ?_) (fun c_12 => ?_)
      · -- 97 yes
        refine lv_iconst (v := nI 0) hx hb dX1_setConsuls_104 (by decide) ?_
        refine pn_iadd hx hb dX1_setConsuls_105 ?_
        refine va_put (D := D) (ci := 1) (v := .int (nI (wr + 0))) (ty := .int) (C := RX1) (T := TX1) (N := 9) hx hb hts hin tyX1 tyX1_ok nmX1 hown hK hP hD hS 0 rfl rfl 8 (by decide) (hts (.fieldLink RX1 110 "RomanCalendarModel" "written" "I") (by decide +kernel)) (fun _ h9 => h9) rfl (by decide +kernel) rfl rfl (Nat.le_of_ble_eq_true rfl) dX1_setConsuls_106 (fun H locs hP hD hS => ?_)
        have hP : va_P D vwCl [(h1, .inr (1, [.int (nI 0), .int yr, .int mo, .int da, .int (nI mk), .ref bc, .ref bf, .ref bg, .int (nI (wr + 0))])), (bc, .inl (cyI, 366, .inl (pz_ar rc))), (bf, .inl (cyI, 3001, .inl (pz_ar ff))), (bg, .inl (cyI, 3001, .inl (pz_ar gg)))] H := hP
        have hD : va_D A [(h1, .inr (1, [.int (nI 0), .int yr, .int mo, .int da, .int (nI mk), .ref bc, .ref bf, .ref bg, .int (nI (wr + 0))])), (bc, .inl (cyI, 366, .inl (pz_ar rc))), (bf, .inl (cyI, 3001, .inl (pz_ar ff))), (bg, .inl (cyI, 3001, .inl (pz_ar gg)))] := hD
        refine lv_aload_n hx hb dX1_setConsuls_109 rfl (lv_at hl 1 rfl) ?_
        refine va_get (D := D) (ci := 1) (v := .ref bf) (C := RX1) (T := TX1) (N := 9) hx hb hts hin hown hK hP 0 rfl rfl 6 (by decide) (hts (.fieldLink RX1 13 "RomanCalendarModel" "first" "[I") (by decide +kernel)) (fun _ h9 => h9) rfl dX1_setConsuls_110 ?_
        refine lv_iload_n hx hb dX1_setConsuls_113 rfl (lv_at hl 2 rfl) ?_
        refine lv_iload_n hx hb dX1_setConsuls_114 rfl (lv_at hl 3 rfl) ?_
        refine pn_iast hx hb hK hP hD hS 2 0 rfl rfl (by omega) (by decide) dX1_setConsuls_115 (fun H locs hP hD hS => ?_)
        have hP : va_P D vwCl [(h1, .inr (1, [.int (nI 0), .int yr, .int mo, .int da, .int (nI mk), .ref bc, .ref bf, .ref bg, .int (nI (wr + 0))])), (bc, .inl (cyI, 366, .inl (pz_ar rc))), (bf, .inl (cyI, 3001, .inl (pz_ar (pz_u ff y fa)))), (bg, .inl (cyI, 3001, .inl (pz_ar gg)))] H := hP
        have hD : va_D A [(h1, .inr (1, [.int (nI 0), .int yr, .int mo, .int da, .int (nI mk), .ref bc, .ref bf, .ref bg, .int (nI (wr + 0))])), (bc, .inl (cyI, 366, .inl (pz_ar rc))), (bf, .inl (cyI, 3001, .inl (pz_ar (pz_u ff y fa)))), (bg, .inl (cyI, 3001, .inl (pz_ar gg)))] := hD
        refine lv_aload_n hx hb dX1_setConsuls_116 rfl (lv_at hl 1 rfl) ?_
        refine va_get (D := D) (ci := 1) (v := .ref bg) (C := RX1) (T := TX1) (N := 9) hx hb hts hin hown hK hP 0 rfl rfl 7 (by decide) (hts (.fieldLink RX1 16 "RomanCalendarModel" "second" "[I") (by decide +kernel)) (fun _ h9 => h9) rfl dX1_setConsuls_117 ?_
        refine lv_iload_n hx hb dX1_setConsuls_120 rfl (lv_at hl 2 rfl) ?_
        refine lv_iload_n hx hb dX1_setConsuls_121 rfl (lv_at hl 4 rfl) ?_
        refine pn_iast hx hb hK hP hD hS 3 0 rfl rfl (by omega) (by decide) dX1_setConsuls_122 (fun H locs hP hD hS => ?_)
        have hP : va_P D vwCl [(h1, .inr (1, [.int (nI 0), .int yr, .int mo, .int da, .int (nI mk), .ref bc, .ref bf, .ref bg, .int (nI (wr + 0))])), (bc, .inl (cyI, 366, .inl (pz_ar rc))), (bf, .inl (cyI, 3001, .inl (pz_ar (pz_u ff y fa)))), (bg, .inl (cyI, 3001, .inl (pz_ar (pz_u gg y se))))] H := hP
        have hD : va_D A [(h1, .inr (1, [.int (nI 0), .int yr, .int mo, .int da, .int (nI mk), .ref bc, .ref bf, .ref bg, .int (nI (wr + 0))])), (bc, .inl (cyI, 366, .inl (pz_ar rc))), (bf, .inl (cyI, 3001, .inl (pz_ar (pz_u ff y fa)))), (bg, .inl (cyI, 3001, .inl (pz_ar (pz_u gg y se))))] := hD
        refine lv_aload_n hx hb dX1_setConsuls_123 rfl (lv_at hl 1 rfl) ?_
        refine va_get (D := D) (ci := 1) (v := .int (nI (wr + 0))) (C := RX1) (T := TX1) (N := 9) hx hb hts hin hown hK hP 0 rfl rfl 8 (by decide) (hts (.fieldLink RX1 110 "RomanCalendarModel" "written" "I") (by decide +kernel)) (fun _ h9 => h9) rfl dX1_setConsuls_124 ?_
        exact hQ _ _ _ _ _ (wr + 0) dX1_setConsuls_127 rfl (by exact ⟨rfl, by split <;> omega⟩) hP hD hS
      · -- 97 no
        refine lv_iconst (v := nI 1) hx hb dX1_setConsuls_100 (by decide) ?_
        refine lv_goto (tgt := 105) hx hb dX1_setConsuls_101 (by decide) ?_
        refine pn_iadd hx hb dX1_setConsuls_105 ?_
        refine va_put (D := D) (ci := 1) (v := .int (nI (wr + 1))) (ty := .int) (C := RX1) (T := TX1) (N := 9) hx hb hts hin tyX1 tyX1_ok nmX1 hown hK hP hD hS 0 rfl rfl 8 (by decide) (hts (.fieldLink RX1 110 "RomanCalendarModel" "written" "I") (by decide +kernel)) (fun _ h9 => h9) rfl (by decide +kernel) rfl rfl (Nat.le_of_ble_eq_true rfl) dX1_setConsuls_106 (fun H locs hP hD hS => ?_)
        have hP : va_P D vwCl [(h1, .inr (1, [.int (nI 0), .int yr, .int mo, .int da, .int (nI mk), .ref bc, .ref bf, .ref bg, .int (nI (wr + 1))])), (bc, .inl (cyI, 366, .inl (pz_ar rc))), (bf, .inl (cyI, 3001, .inl (pz_ar ff))), (bg, .inl (cyI, 3001, .inl (pz_ar gg)))] H := hP
        have hD : va_D A [(h1, .inr (1, [.int (nI 0), .int yr, .int mo, .int da, .int (nI mk), .ref bc, .ref bf, .ref bg, .int (nI (wr + 1))])), (bc, .inl (cyI, 366, .inl (pz_ar rc))), (bf, .inl (cyI, 3001, .inl (pz_ar ff))), (bg, .inl (cyI, 3001, .inl (pz_ar gg)))] := hD
        refine lv_aload_n hx hb dX1_setConsuls_109 rfl (lv_at hl 1 rfl) ?_
        refine va_get (D := D) (ci := 1) (v := .ref bf) (C := RX1) (T := TX1) (N := 9) hx hb hts hin hown hK hP 0 rfl rfl 6 (by decide) (hts (.fieldLink RX1 13 "RomanCalendarModel" "first" "[I") (by decide +kernel)) (fun _ h9 => h9) rfl dX1_setConsuls_110 ?_
        refine lv_iload_n hx hb dX1_setConsuls_113 rfl (lv_at hl 2 rfl) ?_
        refine lv_iload_n hx hb dX1_setConsuls_114 rfl (lv_at hl 3 rfl) ?_
        refine pn_iast hx hb hK hP hD hS 2 0 rfl rfl (by omega) (by decide) dX1_setConsuls_115 (fun H locs hP hD hS => ?_)
        have hP : va_P D vwCl [(h1, .inr (1, [.int (nI 0), .int yr, .int mo, .int da, .int (nI mk), .ref bc, .ref bf, .ref bg, .int (nI (wr + 1))])), (bc, .inl (cyI, 366, .inl (pz_ar rc))), (bf, .inl (cyI, 3001, .inl (pz_ar (pz_u ff y fa)))), (bg, .inl (cyI, 3001, .inl (pz_ar gg)))] H := hP
        have hD : va_D A [(h1, .inr (1, [.int (nI 0), .int yr, .int mo, .int da, .int (nI mk), .ref bc, .ref bf, .ref bg, .int (nI (wr + 1))])), (bc, .inl (cyI, 366, .inl (pz_ar rc))), (bf, .inl (cyI, 3001, .inl (pz_ar (pz_u ff y fa)))), (bg, .inl (cyI, 3001, .inl (pz_ar gg)))] := hD
        refine lv_aload_n hx hb dX1_setConsuls_116 rfl (lv_at hl 1 rfl) ?_
        refine va_get (D := D) (ci := 1) (v := .ref bg) (C := RX1) (T := TX1) (N := 9) hx hb hts hin hown hK hP 0 rfl rfl 7 (by decide) (hts (.fieldLink RX1 16 "RomanCalendarModel" "second" "[I") (by decide +kernel)) (fun _ h9 => h9) rfl dX1_setConsuls_117 ?_
        refine lv_iload_n hx hb dX1_setConsuls_120 rfl (lv_at hl 2 rfl) ?_
        refine lv_iload_n hx hb dX1_setConsuls_121 rfl (lv_at hl 4 rfl) ?_
        refine pn_iast hx hb hK hP hD hS 3 0 rfl rfl (by omega) (by decide) dX1_setConsuls_122 (fun H locs hP hD hS => ?_)
        have hP : va_P D vwCl [(h1, .inr (1, [.int (nI 0), .int yr, .int mo, .int da, .int (nI mk), .ref bc, .ref bf, .ref bg, .int (nI (wr + 1))])), (bc, .inl (cyI, 366, .inl (pz_ar rc))), (bf, .inl (cyI, 3001, .inl (pz_ar (pz_u ff y fa)))), (bg, .inl (cyI, 3001, .inl (pz_ar (pz_u gg y se))))] H := hP
        have hD : va_D A [(h1, .inr (1, [.int (nI 0), .int yr, .int mo, .int da, .int (nI mk), .ref bc, .ref bf, .ref bg, .int (nI (wr + 1))])), (bc, .inl (cyI, 366, .inl (pz_ar rc))), (bf, .inl (cyI, 3001, .inl (pz_ar (pz_u ff y fa)))), (bg, .inl (cyI, 3001, .inl (pz_ar (pz_u gg y se))))] := hD
        refine lv_aload_n hx hb dX1_setConsuls_123 rfl (lv_at hl 1 rfl) ?_
        refine va_get (D := D) (ci := 1) (v := .int (nI (wr + 1))) (C := RX1) (T := TX1) (N := 9) hx hb hts hin hown hK hP 0 rfl rfl 8 (by decide) (hts (.fieldLink RX1 110 "RomanCalendarModel" "written" "I") (by decide +kernel)) (fun _ h9 => h9) rfl dX1_setConsuls_124 ?_
        exact hQ _ _ _ _ _ (wr + 1) dX1_setConsuls_127 rfl (by exact ⟨rfl, by split <;> omega⟩) hP hD hS
    · -- 61 no
      refine lv_aload_n hx hb dX1_setConsuls_64 rfl (lv_at hl 1 rfl) ?_
      refine va_get (D := D) (ci := 1) (v := .int (nI wr)) (C := RX1) (T := TX1) (N := 9) hx hb hts hin hown hK hP 0 rfl rfl 8 (by decide) (hts (.fieldLink RX1 110 "RomanCalendarModel" "written" "I") (by decide +kernel)) (fun _ h9 => h9) rfl dX1_setConsuls_65 ?_
      refine lv_bipush (v := nI 60) hx hb dX1_setConsuls_68 (by decide) ?_
      refine pn_icmp_ne (tgt := 77) hx hb (by omega) (by omega) dX1_setConsuls_70 (by decide) (fun c_13 => ?_) (fun c_13 => ?_)
      · -- 70 yes
        refine lv_iconst (v := nI 0) hx hb dX1_setConsuls_77 (by decide) ?_
        refine pz_VI (rest := []) (wr := []) ⟨hx, hb, hml, hown, hts⟩ (k_X1_isFine_0 l D h1 bc bf bg cyI ts th yr mo da mk wr rc ff gg  ) (cwV 1 hts gX1_setConsuls_X1_isFine rfl rfl rfl (by decide +kernel) ⟨Nat.le_of_ble_eq_true rfl, Nat.le_of_ble_eq_true rfl⟩) hK hP hD hS hA [0, 1, 2, 3] [] rfl rfl rfl rfl rfl (by decide) 0 1 rfl rfl rfl hl.1 rfl (lv_room (Nat.le_of_ble_eq_true rfl)) dX1_setConsuls_78 ⟨Nat.le_of_ble_eq_true rfl, Nat.le_of_ble_eq_true rfl⟩ (fun r u H locs hr hP hD hS => ?_)
        have hP : va_P D vwCl [(h1, .inr (1, [.int (nI 0), .int yr, .int mo, .int da, .int (nI mk), .ref bc, .ref bf, .ref bg, .int (nI wr)])), (bc, .inl (cyI, 366, .inl (pz_ar rc))), (bf, .inl (cyI, 3001, .inl (pz_ar ff))), (bg, .inl (cyI, 3001, .inl (pz_ar gg)))] H := hP
        have hD : va_D A [(h1, .inr (1, [.int (nI 0), .int yr, .int mo, .int da, .int (nI mk), .ref bc, .ref bf, .ref bg, .int (nI wr)])), (bc, .inl (cyI, 366, .inl (pz_ar rc))), (bf, .inl (cyI, 3001, .inl (pz_ar ff))), (bg, .inl (cyI, 3001, .inl (pz_ar gg)))] := hD
        obtain rfl : r = (nI 1) := hr
        refine pn_if_ne (tgt := 86) hx hb (by omega) dX1_setConsuls_81 (by decide) (fun _ => ?_) (fun c_15 => absurd c_15 (by decide))
        refine lv_aload_n hx hb dX1_setConsuls_86 rfl (lv_at hl 1 rfl) ?_
        refine lv_dup hx hb dX1_setConsuls_87 rfl ?_
        refine va_get (D := D) (ci := 1) (v := .int (nI wr)) (C := RX1) (T := TX1) (N := 9) hx hb hts hin hown hK hP 0 rfl rfl 8 (by decide) (hts (.fieldLink RX1 110 "RomanCalendarModel" "written" "I") (by decide +kernel)) (fun _ h9 => h9) rfl dX1_setConsuls_88 ?_
        refine lv_aload_n hx hb dX1_setConsuls_91 rfl (lv_at hl 1 rfl) ?_
        refine va_get (D := D) (ci := 1) (v := .ref bf) (C := RX1) (T := TX1) (N := 9) hx hb hts hin hown hK hP 0 rfl rfl 6 (by decide) (hts (.fieldLink RX1 13 "RomanCalendarModel" "first" "[I") (by decide +kernel)) (fun _ h9 => h9) rfl dX1_setConsuls_92 ?_
        refine lv_iload_n hx hb dX1_setConsuls_95 rfl (lv_at hl 2 rfl) ?_
        refine pn_iald hx hb hK hP 2 0 rfl rfl (by omega) (by decide) dX1_setConsuls_96 ?_
        refine pn_if_ne (tgt := 104) hx hb (by omega) dX1_setConsuls_97 (by decide) (fun c_16 => ?_) (fun c_16 => ?_)
        · -- 97 yes
          refine lv_iconst (v := nI 0) hx hb dX1_setConsuls_104 (by decide) ?_
          refine pn_iadd hx hb dX1_setConsuls_105 ?_
          refine va_put (D := D) (ci := 1) (v := .int (nI (wr + 0))) (ty := .int) (C := RX1) (T := TX1) (N := 9) hx hb hts hin tyX1 tyX1_ok nmX1 hown hK hP hD hS 0 rfl rfl 8 (by decide) (hts (.fieldLink RX1 110 "RomanCalendarModel" "written" "I") (by decide +kernel)) (fun _ h9 => h9) rfl (by decide +kernel) rfl rfl (Nat.le_of_ble_eq_true rfl) dX1_setConsuls_106 (fun H locs hP hD hS => ?_)
          have hP : va_P D vwCl [(h1, .inr (1, [.int (nI 0), .int yr, .int mo, .int da, .int (nI mk), .ref bc, .ref bf, .ref bg, .int (nI (wr + 0))])), (bc, .inl (cyI, 366, .inl (pz_ar rc))), (bf, .inl (cyI, 3001, .inl (pz_ar ff))), (bg, .inl (cyI, 3001, .inl (pz_ar gg)))] H := hP
          have hD : va_D A [(h1, .inr (1, [.int (nI 0), .int yr, .int mo, .int da, .int (nI mk), .ref bc, .ref bf, .ref bg, .int (nI (wr + 0))])), (bc, .inl (cyI, 366, .inl (pz_ar rc))), (bf, .inl (cyI, 3001, .inl (pz_ar ff))), (bg, .inl (cyI, 3001, .inl (pz_ar gg)))] := hD
          refine lv_aload_n hx hb dX1_setConsuls_109 rfl (lv_at hl 1 rfl) ?_
          refine va_get (D := D) (ci := 1) (v := .ref bf) (C := RX1) (T := TX1) (N := 9) hx hb hts hin hown hK hP 0 rfl rfl 6 (by decide) (hts (.fieldLink RX1 13 "RomanCalendarModel" "first" "[I") (by decide +kernel)) (fun _ h9 => h9) rfl dX1_setConsuls_110 ?_
          refine lv_iload_n hx hb dX1_setConsuls_113 rfl (lv_at hl 2 rfl) ?_
          refine lv_iload_n hx hb dX1_setConsuls_114 rfl (lv_at hl 3 rfl) ?_
          refine pn_iast hx hb hK hP hD hS 2 0 rfl rfl (by omega) (by decide) dX1_setConsuls_115 (fun H locs hP hD hS => ?_)
          have hP : va_P D vwCl [(h1, .inr (1, [.int (nI 0), .int yr, .int mo, .int da, .int (nI mk), .ref bc, .ref bf, .ref bg, .int (nI (wr + 0))])), (bc, .inl (cyI, 366, .inl (pz_ar rc))), (bf, .inl (cyI, 3001, .inl (pz_ar (pz_u ff y fa)))), (bg, .inl (cyI, 3001, .inl (pz_ar gg)))] H := hP
          have hD : va_D A [(h1, .inr (1, [.int (nI 0), .int yr, .int mo, .int da, .int (nI mk), .ref bc, .ref bf, .ref bg, .int (nI (wr + 0))])), (bc, .inl (cyI, 366, .inl (pz_ar rc))), (bf, .inl (cyI, 3001, .inl (pz_ar (pz_u ff y fa)))), (bg, .inl (cyI, 3001, .inl (pz_ar gg)))] := hD
          refine lv_aload_n hx hb dX1_setConsuls_116 rfl (lv_at hl 1 rfl) ?_
          refine va_get (D := D) (ci := 1) (v := .ref bg) (C := RX1) (T := TX1) (N := 9) hx hb hts hin hown hK hP 0 rfl rfl 7 (by decide) (hts (.fieldLink RX1 16 "RomanCalendarModel" "second" "[I") (by decide +kernel)) (fun _ h9 => h9) rfl dX1_setConsuls_117 ?_
          refine lv_iload_n hx hb dX1_setConsuls_120 rfl (lv_at hl 2 rfl) ?_
          refine lv_iload_n hx hb dX1_setConsuls_121 rfl (lv_at hl 4 rfl) ?_
          refine pn_iast hx hb hK hP hD hS 3 0 rfl rfl (by omega) (by decide) dX1_setConsuls_122 (fun H locs hP hD hS => ?_)
          have hP : va_P D vwCl [(h1, .inr (1, [.int (nI 0), .int yr, .int mo, .int da, .int (nI mk), .ref bc, .ref bf, .ref bg, .int (nI (wr + 0))])), (bc, .inl (cyI, 366, .inl (pz_ar rc))), (bf, .inl (cyI, 3001, .inl (pz_ar (pz_u ff y fa)))), (bg, .inl (cyI, 3001, .inl (pz_ar (pz_u gg y se))))] H := hP
          have hD : va_D A [(h1, .inr (1, [.int (nI 0), .int yr, .int mo, .int da, .int (nI mk), .ref bc, .ref bf, .ref bg, .int (nI (wr + 0))])), (bc, .inl (cyI, 366, .inl (pz_ar rc))), (bf, .inl (cyI, 3001, .inl (pz_ar (pz_u ff y fa)))), (bg, .inl (cyI, 3001, .inl (pz_ar (pz_u gg y se))))] := hD
          refine lv_aload_n hx hb dX1_setConsuls_123 rfl (lv_at hl 1 rfl) ?_
          refine va_get (D := D) (ci := 1) (v := .int (nI (wr + 0))) (C := RX1) (T := TX1) (N := 9) hx hb hts hin hown hK hP 0 rfl rfl 8 (by decide) (hts (.fieldLink RX1 110 "RomanCalendarModel" "written" "I") (by decide +kernel)) (fun _ h9 => h9) rfl dX1_setConsuls_124 ?_
          exact hQ _ _ _ _ _ (wr + 0) dX1_setConsuls_127 rfl (by exact ⟨rfl, by split <;> omega⟩) hP hD hS
        · -- 97 no
          refine lv_iconst (v := nI 1) hx hb dX1_setConsuls_100 (by decide) ?_
          refine lv_goto (tgt := 105) hx hb dX1_setConsuls_101 (by decide) ?_
          refine pn_iadd hx hb dX1_setConsuls_105 ?_
          refine va_put (D := D) (ci := 1) (v := .int (nI (wr + 1))) (ty := .int) (C := RX1) (T := TX1) (N := 9) hx hb hts hin tyX1 tyX1_ok nmX1 hown hK hP hD hS 0 rfl rfl 8 (by decide) (hts (.fieldLink RX1 110 "RomanCalendarModel" "written" "I") (by decide +kernel)) (fun _ h9 => h9) rfl (by decide +kernel) rfl rfl (Nat.le_of_ble_eq_true rfl) dX1_setConsuls_106 (fun H locs hP hD hS => ?_)
          have hP : va_P D vwCl [(h1, .inr (1, [.int (nI 0), .int yr, .int mo, .int da, .int (nI mk), .ref bc, .ref bf, .ref bg, .int (nI (wr + 1))])), (bc, .inl (cyI, 366, .inl (pz_ar rc))), (bf, .inl (cyI, 3001, .inl (pz_ar ff))), (bg, .inl (cyI, 3001, .inl (pz_ar gg)))] H := hP
          have hD : va_D A [(h1, .inr (1, [.int (nI 0), .int yr, .int mo, .int da, .int (nI mk), .ref bc, .ref bf, .ref bg, .int (nI (wr + 1))])), (bc, .inl (cyI, 366, .inl (pz_ar rc))), (bf, .inl (cyI, 3001, .inl (pz_ar ff))), (bg, .inl (cyI, 3001, .inl (pz_ar gg)))] := hD
          refine lv_aload_n hx hb dX1_setConsuls_109 rfl (lv_at hl 1 rfl) ?_
          refine va_get (D := D) (ci := 1) (v := .ref bf) (C := RX1) (T := TX1) (N := 9) hx hb hts hin hown hK hP 0 rfl rfl 6 (by decide) (hts (.fieldLink RX1 13 "RomanCalendarModel" "first" "[I") (by decide +kernel)) (fun _ h9 => h9) rfl dX1_setConsuls_110 ?_
          refine lv_iload_n hx hb dX1_setConsuls_113 rfl (lv_at hl 2 rfl) ?_
          refine lv_iload_n hx hb dX1_setConsuls_114 rfl (lv_at hl 3 rfl) ?_
          refine pn_iast hx hb hK hP hD hS 2 0 rfl rfl (by omega) (by decide) dX1_setConsuls_115 (fun H locs hP hD hS => ?_)
          have hP : va_P D vwCl [(h1, .inr (1, [.int (nI 0), .int yr, .int mo, .int da, .int (nI mk), .ref bc, .ref bf, .ref bg, .int (nI (wr + 1))])), (bc, .inl (cyI, 366, .inl (pz_ar rc))), (bf, .inl (cyI, 3001, .inl (pz_ar (pz_u ff y fa)))), (bg, .inl (cyI, 3001, .inl (pz_ar gg)))] H := hP
          have hD : va_D A [(h1, .inr (1, [.int (nI 0), .int yr, .int mo, .int da, .int (nI mk), .ref bc, .ref bf, .ref bg, .int (nI (wr + 1))])), (bc, .inl (cyI, 366, .inl (pz_ar rc))), (bf, .inl (cyI, 3001, .inl (pz_ar (pz_u ff y fa)))), (bg, .inl (cyI, 3001, .inl (pz_ar gg)))] := hD
          refine lv_aload_n hx hb dX1_setConsuls_116 rfl (lv_at hl 1 rfl) ?_
          refine va_get (D := D) (ci := 1) (v := .ref bg) (C := RX1) (T := TX1) (N := 9) hx hb hts hin hown hK hP 0 rfl rfl 7 (by decide) (hts (.fieldLink RX1 16 "RomanCalendarModel" "second" "[I") (by decide +kernel)) (fun _ h9 => h9) rfl dX1_setConsuls_117 ?_
          refine lv_iload_n hx hb dX1_setConsuls_120 rfl (lv_at hl 2 rfl) ?_
          refine lv_iload_n hx hb dX1_setConsuls_121 rfl (lv_at hl 4 rfl) ?_
          refine pn_iast hx hb hK hP hD hS 3 0 rfl rfl (by omega) (by decide) dX1_setConsuls_122 (fun H locs hP hD hS => ?_)
          have hP : va_P D vwCl [(h1, .inr (1, [.int (nI 0), .int yr, .int mo, .int da, .int (nI mk), .ref bc, .ref bf, .ref bg, .int (nI (wr + 1))])), (bc, .inl (cyI, 366, .inl (pz_ar rc))), (bf, .inl (cyI, 3001, .inl (pz_ar (pz_u ff y fa)))), (bg, .inl (cyI, 3001, .inl (pz_ar (pz_u gg y se))))] H := hP
          have hD : va_D A [(h1, .inr (1, [.int (nI 0), .int yr, .int mo, .int da, .int (nI mk), .ref bc, .ref bf, .ref bg, .int (nI (wr + 1))])), (bc, .inl (cyI, 366, .inl (pz_ar rc))), (bf, .inl (cyI, 3001, .inl (pz_ar (pz_u ff y fa)))), (bg, .inl (cyI, 3001, .inl (pz_ar (pz_u gg y se))))] := hD
          refine lv_aload_n hx hb dX1_setConsuls_123 rfl (lv_at hl 1 rfl) ?_
          refine va_get (D := D) (ci := 1) (v := .int (nI (wr + 1))) (C := RX1) (T := TX1) (N := 9) hx hb hts hin hown hK hP 0 rfl rfl 8 (by decide) (hts (.fieldLink RX1 110 "RomanCalendarModel" "written" "I") (by decide +kernel)) (fun _ h9 => h9) rfl dX1_setConsuls_124 ?_
          exact hQ _ _ _ _ _ (wr + 1) dX1_setConsuls_127 rfl (by exact ⟨rfl, by split <;> omega⟩) hP hD hS
      · -- 70 no
        exfalso; omega
set_option maxHeartbeats 4000000 in
set_option maxRecDepth 100000 in
theorem k_X1_setConsuls_x2 (l : Launch) (D : va_G) (h1 bc bf bg : Nat) (cyI : ClassId) (ts : List (ClassId × FieldType)) (th yr mo da : Int32) (mk wr : Nat) (rc ff gg : Nat → Nat) (y : Nat) (x2 x3 : Int32) (hy0 : ¬ (1 ≤ x2.toInt ∧ x2.toInt ≤ 999 ∧ 1 ≤ x3.toInt ∧ x3.toInt ≤ 999 ∧ ¬ x2.toInt = x3.toInt)) (hy1 : 1 ≤ y) (hy2 : y ≤ 3000) : pz_I l yX1_setConsuls wsX1_setConsuls ({ frames := 2, cells := 0, slots := 0, locals := 42 } : Room) D ((cyI, .int) :: ts) [.ref h1, .int (nI y), .int x2, .int x3] [(h1, .inr (1, [.int th, .int yr, .int mo, .int da, .int (nI mk), .ref bc, .ref bf, .ref bg, .int (nI wr)])), (bc, .inl (cyI, 366, .inl (pz_ar rc))), (bf, .inl (cyI, 3001, .inl (pz_ar ff))), (bg, .inl (cyI, 3001, .inl (pz_ar gg)))] (S := Unit) (fun r _ => r = nI 0) (fun _ => [(h1, .inr (1, [.int (nI 2), .int yr, .int mo, .int da, .int (nI mk), .ref bc, .ref bf, .ref bg, .int (nI wr)])), (bc, .inl (cyI, 366, .inl (pz_ar rc))), (bf, .inl (cyI, 3001, .inl (pz_ar ff))), (bg, .inl (cyI, 3001, .inl (pz_ar gg)))]) := by
  refine pz_I_of (cc := cX1_setConsuls) (maxL := 5) (ty := .int) (own := RX1) (by decide) rfl rfl (Nat.le_of_ble_eq_true rfl) ?_
  intro p e s m below meth c A ls Q hx hb hml hown hts hK hP hD hS hA hl hQ
  have hl : lv_has ls 5 [(0, .ref h1), (1, .int (nI y)), (2, .int x2), (3, .int x3)] := hl
  have hin : ∀ w ∈ u_ws RX1 TX1 9, w ∈ wsX1_setConsuls := by decide +kernel
  refine lv_iload_n hx hb dX1_setConsuls_0 rfl (lv_at hl 2 rfl) ?_
  refine lv_iconst (v := nI 1) hx hb dX1_setConsuls_1 (by decide) ?_
  refine lv_sipush (v := nI 999) hx hb dX1_setConsuls_2 (by decide) ?_
  rcases pz_rng x2 1 999 (by decide) with ⟨fa, hl_fa, hh_fa, rfl⟩ | hb_x2
  · -- in range
    have ei_fa : (nI fa).toInt = (fa : Int) := nI_toInt (by omega)
    simp only [ei_fa, Int.toNat_natCast] at hy0
    refine pz_SR (rest := []) ⟨hx, hb, hml, hown, hts⟩ (k_X1_isIn_a l D ((cyI, .int) :: ts) fa 1 999 (by omega) (by omega) (by omega)) (va_cwS 3 hts gX1_setConsuls_X1_isIn rfl rfl rfl (by decide +kernel) ⟨Nat.le_of_ble_eq_true rfl, Nat.le_of_ble_eq_true rfl⟩) hK hP (hD.weaken (fun _ _ _ _ => trivial)) hS hA [] rfl rfl rfl rfl hl.1 rfl (lv_room (Nat.le_of_ble_eq_true rfl)) dX1_setConsuls_5 ⟨Nat.le_of_ble_eq_true rfl, Nat.le_of_ble_eq_true rfl⟩ (fun r H locs hr hP hS => ?_)
    obtain rfl : r = (nI 1) := hr
    refine pn_if_eq (tgt := 31) hx hb (by omega) dX1_setConsuls_8 (by decide) (fun c_2 => absurd c_2 (by decide)) (fun _ => ?_)
    refine lv_iload_n hx hb dX1_setConsuls_11 rfl (lv_at hl 3 rfl) ?_
    refine lv_iconst (v := nI 1) hx hb dX1_setConsuls_12 (by decide) ?_
    refine lv_sipush (v := nI 999) hx hb dX1_setConsuls_13 (by decide) ?_
    rcases pz_rng x3 1 999 (by decide) with ⟨se, hl_se, hh_se, rfl⟩ | hb_x3
    · -- in range
      have ei_se : (nI se).toInt = (se : Int) := nI_toInt (by omega)
      simp only [ei_se, Int.toNat_natCast] at hy0
      refine pz_SR (rest := []) ⟨hx, hb, hml, hown, hts⟩ (k_X1_isIn_a l D ((cyI, .int) :: ts) se 1 999 (by omega) (by omega) (by omega)) (va_cwS 3 hts gX1_setConsuls_X1_isIn rfl rfl rfl (by decide +kernel) ⟨Nat.le_of_ble_eq_true rfl, Nat.le_of_ble_eq_true rfl⟩) hK hP (hD.weaken (fun _ _ _ _ => trivial)) hS hA [] rfl rfl rfl rfl hl.1 rfl (lv_room (Nat.le_of_ble_eq_true rfl)) dX1_setConsuls_16 ⟨Nat.le_of_ble_eq_true rfl, Nat.le_of_ble_eq_true rfl⟩ (fun r H locs hr hP hS => ?_)
      obtain rfl : r = (nI 1) := hr
      refine pn_if_eq (tgt := 31) hx hb (by omega) dX1_setConsuls_19 (by decide) (fun c_4 => absurd c_4 (by decide)) (fun _ => ?_)
      refine lv_iload_n hx hb dX1_setConsuls_22 rfl (lv_at hl 2 rfl) ?_
      refine lv_iload_n hx hb dX1_setConsuls_23 rfl (lv_at hl 3 rfl) ?_
      refine pn_icmp_eq (tgt := 31) hx hb (by omega) (by omega) dX1_setConsuls_24 (by decide) (fun c_5 => ?_) (fun c_5 => ?_)
      · -- 24 yes
        refine lv_iconst (v := nI 0) hx hb dX1_setConsuls_31 (by decide) ?_
        refine lv_istore (lv' := [(4, .int (nI 0)), (0, .ref h1), (1, .int (nI y)), (2, .int (nI fa)), (3, .int (nI se))]) hx hb dX1_setConsuls_32 hl (by decide) rfl (fun ls hl => ?_)
        refine lv_aload_n hx hb dX1_setConsuls_34 rfl (lv_at hl 1 rfl) ?_
        refine lv_iload_n hx hb dX1_setConsuls_35 rfl (lv_at hl 2 rfl) ?_
        refine pz_SR (rest := [.ref h1]) ⟨hx, hb, hml, hown, hts⟩ (k_X1_isYear_a l D ((cyI, .int) :: ts) y (by omega) (by omega)) (va_cwS 1 hts gX1_setConsuls_X1_isYear rfl rfl rfl (by decide +kernel) ⟨Nat.le_of_ble_eq_true rfl, Nat.le_of_ble_eq_true rfl⟩) hK hP (hD.weaken (fun _ _ _ _ => trivial)) hS hA [] rfl rfl rfl rfl hl.1 rfl (lv_room (Nat.le_of_ble_eq_true rfl)) dX1_setConsuls_36 ⟨Nat.le_of_ble_eq_true rfl, Nat.le_of_ble_eq_true rfl⟩ (fun r H locs hr hP hS => ?_)
        obtain rfl : r = (nI 1) := hr
        refine pn_if_ne (tgt := 46) hx hb (by omega) dX1_setConsuls_39 (by decide) (fun _ => ?_) (fun c_7 => absurd c_7 (by decide))
        refine lv_iload hx hb dX1_setConsuls_46 (lv_at hl 0 rfl) ?_
        refine pn_if_ne (tgt := 55) hx hb (by omega) dX1_setConsuls_48 (by decide) (fun c_8 => absurd c_8 (by decide)) (fun _ => ?_)
        refine lv_iconst (v := nI 2) hx hb dX1_setConsuls_51 (by decide) ?_
        refine lv_goto (tgt := 78) hx hb dX1_setConsuls_52 (by decide) ?_
        refine pz_VI (rest := []) (wr := []) ⟨hx, hb, hml, hown, hts⟩ (k_X1_isFine_k l D h1 bc bf bg cyI ts th yr mo da mk wr rc ff gg 2 (by omega) (by omega)) (cwV 1 hts gX1_setConsuls_X1_isFine rfl rfl rfl (by decide +kernel) ⟨Nat.le_of_ble_eq_true rfl, Nat.le_of_ble_eq_true rfl⟩) hK hP hD hS hA [0, 1, 2, 3] [] rfl rfl rfl rfl rfl (by decide) 0 1 rfl rfl rfl hl.1 rfl (lv_room (Nat.le_of_ble_eq_true rfl)) dX1_setConsuls_78 ⟨Nat.le_of_ble_eq_true rfl, Nat.le_of_ble_eq_true rfl⟩ (fun r u H locs hr hP hD hS => ?_)
        have hP : va_P D vwCl [(h1, .inr (1, [.int (nI 2), .int yr, .int mo, .int da, .int (nI mk), .ref bc, .ref bf, .ref bg, .int (nI wr)])), (bc, .inl (cyI, 366, .inl (pz_ar rc))), (bf, .inl (cyI, 3001, .inl (pz_ar ff))), (bg, .inl (cyI, 3001, .inl (pz_ar gg)))] H := hP
        have hD : va_D A [(h1, .inr (1, [.int (nI 2), .int yr, .int mo, .int da, .int (nI mk), .ref bc, .ref bf, .ref bg, .int (nI wr)])), (bc, .inl (cyI, 366, .inl (pz_ar rc))), (bf, .inl (cyI, 3001, .inl (pz_ar ff))), (bg, .inl (cyI, 3001, .inl (pz_ar gg)))] := hD
        obtain rfl : r = (nI 0) := hr
        refine pn_if_ne (tgt := 86) hx hb (by omega) dX1_setConsuls_81 (by decide) (fun c_10 => absurd c_10 (by decide)) (fun _ => ?_)
        refine lv_iconst (v := nI 0) hx hb dX1_setConsuls_84 (by decide) ?_
        exact hQ _ _ _ _ _ () dX1_setConsuls_85 rfl (congrArg nI (by rfl)) hP hD hS
      · -- 24 no
        exfalso; omega
    · -- outside
      refine pz_SR (rest := []) ⟨hx, hb, hml, hown, hts⟩ (k_X1_isIn_x l D ((cyI, .int) :: ts) x3 1 999 (by omega) (by omega) (by omega)) (va_cwS 3 hts gX1_setConsuls_X1_isIn rfl rfl rfl (by decide +kernel) ⟨Nat.le_of_ble_eq_true rfl, Nat.le_of_ble_eq_true rfl⟩) hK hP (hD.weaken (fun _ _ _ _ => trivial)) hS hA [] rfl rfl rfl rfl hl.1 rfl (lv_room (Nat.le_of_ble_eq_true rfl)) dX1_setConsuls_16 ⟨Nat.le_of_ble_eq_true rfl, Nat.le_of_ble_eq_true rfl⟩ (fun r H locs hr hP hS => ?_)
      obtain rfl : r = (nI 0) := hr
      refine pn_if_eq (tgt := 31) hx hb (by omega) dX1_setConsuls_19 (by decide) (fun _ => ?_) (fun c_12 => absurd c_12 (by decide))
      refine lv_iconst (v := nI 0) hx hb dX1_setConsuls_31 (by decide) ?_
      refine lv_istore (lv' := [(4, .int (nI 0)), (0, .ref h1), (1, .int (nI y)), (2, .int (nI fa)), (3, .int x3)]) hx hb dX1_setConsuls_32 hl (by decide) rfl (fun ls hl => ?_)
      refine lv_aload_n hx hb dX1_setConsuls_34 rfl (lv_at hl 1 rfl) ?_
      refine lv_iload_n hx hb dX1_setConsuls_35 rfl (lv_at hl 2 rfl) ?_
      refine pz_SR (rest := [.ref h1]) ⟨hx, hb, hml, hown, hts⟩ (k_X1_isYear_a l D ((cyI, .int) :: ts) y (by omega) (by omega)) (va_cwS 1 hts gX1_setConsuls_X1_isYear rfl rfl rfl (by decide +kernel) ⟨Nat.le_of_ble_eq_true rfl, Nat.le_of_ble_eq_true rfl⟩) hK hP (hD.weaken (fun _ _ _ _ => trivial)) hS hA [] rfl rfl rfl rfl hl.1 rfl (lv_room (Nat.le_of_ble_eq_true rfl)) dX1_setConsuls_36 ⟨Nat.le_of_ble_eq_true rfl, Nat.le_of_ble_eq_true rfl⟩ (fun r H locs hr hP hS => ?_)
      obtain rfl : r = (nI 1) := hr
      refine pn_if_ne (tgt := 46) hx hb (by omega) dX1_setConsuls_39 (by decide) (fun _ => ?_) (fun c_14 => absurd c_14 (by decide))
      refine lv_iload hx hb dX1_setConsuls_46 (lv_at hl 0 rfl) ?_
      refine pn_if_ne (tgt := 55) hx hb (by omega) dX1_setConsuls_48 (by decide) (fun c_15 => absurd c_15 (by decide)) (fun _ => ?_)
      refine lv_iconst (v := nI 2) hx hb dX1_setConsuls_51 (by decide) ?_
      refine lv_goto (tgt := 78) hx hb dX1_setConsuls_52 (by decide) ?_
      refine pz_VI (rest := []) (wr := []) ⟨hx, hb, hml, hown, hts⟩ (k_X1_isFine_k l D h1 bc bf bg cyI ts th yr mo da mk wr rc ff gg 2 (by omega) (by omega)) (cwV 1 hts gX1_setConsuls_X1_isFine rfl rfl rfl (by decide +kernel) ⟨Nat.le_of_ble_eq_true rfl, Nat.le_of_ble_eq_true rfl⟩) hK hP hD hS hA [0, 1, 2, 3] [] rfl rfl rfl rfl rfl (by decide) 0 1 rfl rfl rfl hl.1 rfl (lv_room (Nat.le_of_ble_eq_true rfl)) dX1_setConsuls_78 ⟨Nat.le_of_ble_eq_true rfl, Nat.le_of_ble_eq_true rfl⟩ (fun r u H locs hr hP hD hS => ?_)
      have hP : va_P D vwCl [(h1, .inr (1, [.int (nI 2), .int yr, .int mo, .int da, .int (nI mk), .ref bc, .ref bf, .ref bg, .int (nI wr)])), (bc, .inl (cyI, 366, .inl (pz_ar rc))), (bf, .inl (cyI, 3001, .inl (pz_ar ff))), (bg, .inl (cyI, 3001, .inl (pz_ar gg)))] H := hP
      have hD : va_D A [(h1, .inr (1, [.int (nI 2), .int yr, .int mo, .int da, .int (nI mk), .ref bc, .ref bf, .ref bg, .int (nI wr)])), (bc, .inl (cyI, 366, .inl (pz_ar rc))), (bf, .inl (cyI, 3001, .inl (pz_ar ff))), (bg, .inl (cyI, 3001, .inl (pz_ar gg)))] := hD
      obtain rfl : r = (nI 0) := hr
      refine pn_if_ne (tgt := 86) hx hb (by omega) dX1_setConsuls_81 (by decide) (fun c_17 => absurd c_17 (by decide)) (fun _ => ?_)
      refine lv_iconst (v := nI 0) hx hb dX1_setConsuls_84 (by decide) ?_
      exact hQ _ _ _ _ _ () dX1_setConsuls_85 rfl (congrArg nI (by rfl)) hP hD hS
  · -- outside
    refine pz_SR (rest := []) ⟨hx, hb, hml, hown, hts⟩ (k_X1_isIn_x l D ((cyI, .int) :: ts) x2 1 999 (by omega) (by omega) (by omega)) (va_cwS 3 hts gX1_setConsuls_X1_isIn rfl rfl rfl (by decide +kernel) ⟨Nat.le_of_ble_eq_true rfl, Nat.le_of_ble_eq_true rfl⟩) hK hP (hD.weaken (fun _ _ _ _ => trivial)) hS hA [] rfl rfl rfl rfl hl.1 rfl (lv_room (Nat.le_of_ble_eq_true rfl)) dX1_setConsuls_5 ⟨Nat.le_of_ble_eq_true rfl, Nat.le_of_ble_eq_true rfl⟩ (fun r H locs hr hP hS => ?_)
    obtain rfl : r = (nI 0) := hr
    refine pn_if_eq (tgt := 31) hx hb (by omega) dX1_setConsuls_8 (by decide) (fun _ => ?_) (fun c_19 => absurd c_19 (by decide))
    refine lv_iconst (v := nI 0) hx hb dX1_setConsuls_31 (by decide) ?_
    refine lv_istore (lv' := [(4, .int (nI 0)), (0, .ref h1), (1, .int (nI y)), (2, .int x2), (3, .int x3)]) hx hb dX1_setConsuls_32 hl (by decide) rfl (fun ls hl => ?_)
    refine lv_aload_n hx hb dX1_setConsuls_34 rfl (lv_at hl 1 rfl) ?_
    refine lv_iload_n hx hb dX1_setConsuls_35 rfl (lv_at hl 2 rfl) ?_
    refine pz_SR (rest := [.ref h1]) ⟨hx, hb, hml, hown, hts⟩ (k_X1_isYear_a l D ((cyI, .int) :: ts) y (by omega) (by omega)) (va_cwS 1 hts gX1_setConsuls_X1_isYear rfl rfl rfl (by decide +kernel) ⟨Nat.le_of_ble_eq_true rfl, Nat.le_of_ble_eq_true rfl⟩) hK hP (hD.weaken (fun _ _ _ _ => trivial)) hS hA [] rfl rfl rfl rfl hl.1 rfl (lv_room (Nat.le_of_ble_eq_true rfl)) dX1_setConsuls_36 ⟨Nat.le_of_ble_eq_true rfl, Nat.le_of_ble_eq_true rfl⟩ (fun r H locs hr hP hS => ?_)
    obtain rfl : r = (nI 1) := hr
    refine pn_if_ne (tgt := 46) hx hb (by omega) dX1_setConsuls_39 (by decide) (fun _ => ?_) (fun c_21 => absurd c_21 (by decide))
    refine lv_iload hx hb dX1_setConsuls_46 (lv_at hl 0 rfl) ?_
    refine pn_if_ne (tgt := 55) hx hb (by omega) dX1_setConsuls_48 (by decide) (fun c_22 => absurd c_22 (by decide)) (fun _ => ?_)
    refine lv_iconst (v := nI 2) hx hb dX1_setConsuls_51 (by decide) ?_
    refine lv_goto (tgt := 78) hx hb dX1_setConsuls_52 (by decide) ?_
    refine pz_VI (rest := []) (wr := []) ⟨hx, hb, hml, hown, hts⟩ (k_X1_isFine_k l D h1 bc bf bg cyI ts th yr mo da mk wr rc ff gg 2 (by omega) (by omega)) (cwV 1 hts gX1_setConsuls_X1_isFine rfl rfl rfl (by decide +kernel) ⟨Nat.le_of_ble_eq_true rfl, Nat.le_of_ble_eq_true rfl⟩) hK hP hD hS hA [0, 1, 2, 3] [] rfl rfl rfl rfl rfl (by decide) 0 1 rfl rfl rfl hl.1 rfl (lv_room (Nat.le_of_ble_eq_true rfl)) dX1_setConsuls_78 ⟨Nat.le_of_ble_eq_true rfl, Nat.le_of_ble_eq_true rfl⟩ (fun r u H locs hr hP hD hS => ?_)
    have hP : va_P D vwCl [(h1, .inr (1, [.int (nI 2), .int yr, .int mo, .int da, .int (nI mk), .ref bc, .ref bf, .ref bg, .int (nI wr)])), (bc, .inl (cyI, 366, .inl (pz_ar rc))), (bf, .inl (cyI, 3001, .inl (pz_ar ff))), (bg, .inl (cyI, 3001, .inl (pz_ar gg)))] H := hP
    have hD : va_D A [(h1, .inr (1, [.int (nI 2), .int yr, .int mo, .int da, .int (nI mk), .ref bc, .ref bf, .ref bg, .int (nI wr)])), (bc, .inl (cyI, 366, .inl (pz_ar rc))), (bf, .inl (cyI, 3001, .inl (pz_ar ff))), (bg, .inl (cyI, 3001, .inl (pz_ar gg)))] := hD
    obtain rfl : r = (nI 0) := hr
    refine pn_if_ne (tgt := 86) hx hb (by omega) dX1_setConsuls_81 (by decide) (fun c_24 => absurd c_24 (by decide)) (fun _ => ?_)
    refine lv_iconst (v := nI 0) hx hb dX1_setConsuls_84 (by decide) ?_
    exact hQ _ _ _ _ _ () dX1_setConsuls_85 rfl (congrArg nI (by rfl)) hP hD hS
set_option maxHeartbeats 4000000 in
set_option maxRecDepth 100000 in
theorem k_X1_setConsuls_x3 (l : Launch) (D : va_G) (h1 bc bf bg : Nat) (cyI : ClassId) (ts : List (ClassId × FieldType)) (th yr mo da : Int32) (mk wr : Nat) (rc ff gg : Nat → Nat) (y fa se : Nat) (hy0 : 1 ≤ y) (hy1 : y ≤ 3000) (hy2 : 1 ≤ fa) (hy3 : fa ≤ 999) (hy4 : 1 ≤ se) (hy5 : se ≤ 999) (hy6 : ¬ fa = se) (hff : ∀ j, j < 3001 → ff j ≤ 999) (hy8 : ff y = 0) (hy9 : wr = 60) : pz_I l yX1_setConsuls wsX1_setConsuls ({ frames := 2, cells := 0, slots := 0, locals := 42 } : Room) D ((cyI, .int) :: ts) [.ref h1, .int (nI y), .int (nI fa), .int (nI se)] [(h1, .inr (1, [.int th, .int yr, .int mo, .int da, .int (nI mk), .ref bc, .ref bf, .ref bg, .int (nI wr)])), (bc, .inl (cyI, 366, .inl (pz_ar rc))), (bf, .inl (cyI, 3001, .inl (pz_ar ff))), (bg, .inl (cyI, 3001, .inl (pz_ar gg)))] (S := Unit) (fun r _ => r = nI 0) (fun _ => [(h1, .inr (1, [.int (nI 3), .int yr, .int mo, .int da, .int (nI mk), .ref bc, .ref bf, .ref bg, .int (nI wr)])), (bc, .inl (cyI, 366, .inl (pz_ar rc))), (bf, .inl (cyI, 3001, .inl (pz_ar ff))), (bg, .inl (cyI, 3001, .inl (pz_ar gg)))]) := by
  refine pz_I_of (cc := cX1_setConsuls) (maxL := 5) (ty := .int) (own := RX1) (by decide) rfl rfl (Nat.le_of_ble_eq_true rfl) ?_
  intro p e s m below meth c A ls Q hx hb hml hown hts hK hP hD hS hA hl hQ
  have hl : lv_has ls 5 [(0, .ref h1), (1, .int (nI y)), (2, .int (nI fa)), (3, .int (nI se))] := hl
  have hin : ∀ w ∈ u_ws RX1 TX1 9, w ∈ wsX1_setConsuls := by decide +kernel
  have hb_0 := hff y (by omega)
  refine lv_iload_n hx hb dX1_setConsuls_0 rfl (lv_at hl 2 rfl) ?_
  refine lv_iconst (v := nI 1) hx hb dX1_setConsuls_1 (by decide) ?_
  refine lv_sipush (v := nI 999) hx hb dX1_setConsuls_2 (by decide) ?_
  refine pz_SR (rest := []) ⟨hx, hb, hml, hown, hts⟩ (k_X1_isIn_a l D ((cyI, .int) :: ts) fa 1 999 (by omega) (by omega) (by omega)) (va_cwS 3 hts gX1_setConsuls_X1_isIn rfl rfl rfl (by decide +kernel) ⟨Nat.le_of_ble_eq_true rfl, Nat.le_of_ble_eq_true rfl⟩) hK hP (hD.weaken (fun _ _ _ _ => trivial)) hS hA [] rfl rfl rfl rfl hl.1 rfl (lv_room (Nat.le_of_ble_eq_true rfl)) dX1_setConsuls_5 ⟨Nat.le_of_ble_eq_true rfl, Nat.le_of_ble_eq_true rfl⟩ (fun r H locs hr hP hS => ?_)
  obtain rfl : r = (nI 1) := hr
  refine pn_if_eq (tgt := 31) hx hb (by omega) dX1_setConsuls_8 (by decide) (fun c_2 => absurd c_2 (by decide)) (fun _ => ?_)
  refine lv_iload_n hx hb dX1_setConsuls_11 rfl (lv_at hl 3 rfl) ?_
  refine lv_iconst (v := nI 1) hx hb dX1_setConsuls_12 (by decide) ?_
  refine lv_sipush (v := nI 999) hx hb dX1_setConsuls_13 (by decide) ?_
  refine pz_SR (rest := []) ⟨hx, hb, hml, hown, hts⟩ (k_X1_isIn_a l D ((cyI, .int) :: ts) se 1 999 (by omega) (by omega) (by omega)) (va_cwS 3 hts gX1_setConsuls_X1_isIn rfl rfl rfl (by decide +kernel) ⟨Nat.le_of_ble_eq_true rfl, Nat.le_of_ble_eq_true rfl⟩) hK hP (hD.weaken (fun _ _ _ _ => trivial)) hS hA [] rfl rfl rfl rfl hl.1 rfl (lv_room (Nat.le_of_ble_eq_true rfl)) dX1_setConsuls_16 ⟨Nat.le_of_ble_eq_true rfl, Nat.le_of_ble_eq_true rfl⟩ (fun r H locs hr hP hS => ?_)
  obtain rfl : r = (nI 1) := hr
  refine pn_if_eq (tgt := 31) hx hb (by omega) dX1_setConsuls_19 (by decide) (fun c_4 => absurd c_4 (by decide)) (fun _ => ?_)
  refine lv_iload_n hx hb dX1_setConsuls_22 rfl (lv_at hl 2 rfl) ?_
  refine lv_iload_n hx hb dX1_setConsuls_23 rfl (lv_at hl 3 rfl) ?_
  refine pn_icmp_eq (tgt := 31) hx hb (by omega) (by omega) dX1_setConsuls_24 (by decide) (fun c_5 => ?_) (fun c_5 => ?_)
  · -- 24 yes
    exfalso; omega
  · -- 24 no
    refine lv_iconst (v := nI 1) hx hb dX1_setConsuls_27 (by decide) ?_
    refine lv_goto (tgt := 32) hx hb dX1_setConsuls_28 (by decide) ?_
    refine lv_istore (lv' := [(4, .int (nI 1)), (0, .ref h1), (1, .int (nI y)), (2, .int (nI fa)), (3, .int (nI se))]) hx hb dX1_setConsuls_32 hl (by decide) rfl (fun ls hl => ?_)
    refine lv_aload_n hx hb dX1_setConsuls_34 rfl (lv_at hl 1 rfl) ?_
    refine lv_iload_n hx hb dX1_setConsuls_35 rfl (lv_at hl 2 rfl) ?_
    refine pz_SR (rest := [.ref h1]) ⟨hx, hb, hml, hown, hts⟩ (k_X1_isYear_a l D ((cyI, .int) :: ts) y (by omega) (by omega)) (va_cwS 1 hts gX1_setConsuls_X1_isYear rfl rfl rfl (by decide +kernel) ⟨Nat.le_of_ble_eq_true rfl, Nat.le_of_ble_eq_true rfl⟩) hK hP (hD.weaken (fun _ _ _ _ => trivial)) hS hA [] rfl rfl rfl rfl hl.1 rfl (lv_room (Nat.le_of_ble_eq_true rfl)) dX1_setConsuls_36 ⟨Nat.le_of_ble_eq_true rfl, Nat.le_of_ble_eq_true rfl⟩ (fun r H locs hr hP hS => ?_)
    obtain rfl : r = (nI 1) := hr
    refine pn_if_ne (tgt := 46) hx hb (by omega) dX1_setConsuls_39 (by decide) (fun _ => ?_) (fun c_7 => absurd c_7 (by decide))
    refine lv_iload hx hb dX1_setConsuls_46 (lv_at hl 0 rfl) ?_
    refine pn_if_ne (tgt := 55) hx hb (by omega) dX1_setConsuls_48 (by decide) (fun _ => ?_) (fun c_8 => absurd c_8 (by decide))
    refine lv_aload_n hx hb dX1_setConsuls_55 rfl (lv_at hl 1 rfl) ?_
    refine va_get (D := D) (ci := 1) (v := .ref bf) (C := RX1) (T := TX1) (N := 9) hx hb hts hin hown hK hP 0 rfl rfl 6 (by decide) (hts (.fieldLink RX1 13 "RomanCalendarModel" "first" "[I") (by decide +kernel)) (fun _ h9 => h9) rfl dX1_setConsuls_56 ?_
    refine lv_iload_n hx hb dX1_setConsuls_59 rfl (lv_at hl 2 rfl) ?_
    refine pn_iald hx hb hK hP 2 0 rfl rfl (by omega) (by decide) dX1_setConsuls_60 ?_
    refine pn_if_ne (tgt := 77) hx hb (by omega) dX1_setConsuls_61 (by decide) (fun c_9 => ?_) (fun c_9 => ?_)
    · -- 61 yes
      exfalso; omega
    · -- 61 no
      refine lv_aload_n hx hb dX1_setConsuls_64 rfl (lv_at hl 1 rfl) ?_
      refine va_get (D := D) (ci := 1) (v := .int (nI wr)) (C := RX1) (T := TX1) (N := 9) hx hb hts hin hown hK hP 0 rfl rfl 8 (by decide) (hts (.fieldLink RX1 110 "RomanCalendarModel" "written" "I") (by decide +kernel)) (fun _ h9 => h9) rfl dX1_setConsuls_65 ?_
      refine lv_bipush (v := nI 60) hx hb dX1_setConsuls_68 (by decide) ?_
      refine pn_icmp_ne (tgt := 77) hx hb (by omega) (by omega) dX1_setConsuls_70 (by decide) (fun c_10 => ?_) (fun c_10 => ?_)
      · -- 70 yes
        exfalso; omega
      · -- 70 no
        refine lv_iconst (v := nI 3) hx hb dX1_setConsuls_73 (by decide) ?_
        refine lv_goto (tgt := 78) hx hb dX1_setConsuls_74 (by decide) ?_
        refine pz_VI (rest := []) (wr := []) ⟨hx, hb, hml, hown, hts⟩ (k_X1_isFine_k l D h1 bc bf bg cyI ts th yr mo da mk wr rc ff gg 3 (by omega) (by omega)) (cwV 1 hts gX1_setConsuls_X1_isFine rfl rfl rfl (by decide +kernel) ⟨Nat.le_of_ble_eq_true rfl, Nat.le_of_ble_eq_true rfl⟩) hK hP hD hS hA [0, 1, 2, 3] [] rfl rfl rfl rfl rfl (by decide) 0 1 rfl rfl rfl hl.1 rfl (lv_room (Nat.le_of_ble_eq_true rfl)) dX1_setConsuls_78 ⟨Nat.le_of_ble_eq_true rfl, Nat.le_of_ble_eq_true rfl⟩ (fun r u H locs hr hP hD hS => ?_)
        have hP : va_P D vwCl [(h1, .inr (1, [.int (nI 3), .int yr, .int mo, .int da, .int (nI mk), .ref bc, .ref bf, .ref bg, .int (nI wr)])), (bc, .inl (cyI, 366, .inl (pz_ar rc))), (bf, .inl (cyI, 3001, .inl (pz_ar ff))), (bg, .inl (cyI, 3001, .inl (pz_ar gg)))] H := hP
        have hD : va_D A [(h1, .inr (1, [.int (nI 3), .int yr, .int mo, .int da, .int (nI mk), .ref bc, .ref bf, .ref bg, .int (nI wr)])), (bc, .inl (cyI, 366, .inl (pz_ar rc))), (bf, .inl (cyI, 3001, .inl (pz_ar ff))), (bg, .inl (cyI, 3001, .inl (pz_ar gg)))] := hD
        obtain rfl : r = (nI 0) := hr
        refine pn_if_ne (tgt := 86) hx hb (by omega) dX1_setConsuls_81 (by decide) (fun c_12 => absurd c_12 (by decide)) (fun _ => ?_)
        refine lv_iconst (v := nI 0) hx hb dX1_setConsuls_84 (by decide) ?_
        exact hQ _ _ _ _ _ () dX1_setConsuls_85 rfl (congrArg nI (by rfl)) hP hD hS
set_option maxHeartbeats 4000000 in
set_option maxRecDepth 100000 in
theorem k_X1_strikeConsuls_a (l : Launch) (D : va_G) (h1 bc bf bg : Nat) (cyI : ClassId) (ts : List (ClassId × FieldType)) (th yr mo da : Int32) (mk wr : Nat) (rc ff gg : Nat → Nat) (y : Nat) (hy0 : 1 ≤ y) (hy1 : y ≤ 3000) (hff : ∀ j, j < 3001 → ff j ≤ 999) (hwr : wr ≤ 60) (hy4 : ¬ ff y = 0) (hy5 : 1 ≤ wr) : pz_I l yX1_strikeConsuls wsX1_strikeConsuls ({ frames := 2, cells := 0, slots := 0, locals := 42 } : Room) D ((cyI, .int) :: ts) [.ref h1, .int (nI y)] [(h1, .inr (1, [.int th, .int yr, .int mo, .int da, .int (nI mk), .ref bc, .ref bf, .ref bg, .int (nI wr)])), (bc, .inl (cyI, 366, .inl (pz_ar rc))), (bf, .inl (cyI, 3001, .inl (pz_ar ff))), (bg, .inl (cyI, 3001, .inl (pz_ar gg)))] (S := Unit) (fun r _ => r = nI (wr - 1)) (fun _ => [(h1, .inr (1, [.int (nI 0), .int yr, .int mo, .int da, .int (nI mk), .ref bc, .ref bf, .ref bg, .int (nI (wr - 1))])), (bc, .inl (cyI, 366, .inl (pz_ar rc))), (bf, .inl (cyI, 3001, .inl (pz_ar (pz_u ff y 0)))), (bg, .inl (cyI, 3001, .inl (pz_ar (pz_u gg y 0))))]) := by
  refine pz_I_of (cc := cX1_strikeConsuls) (maxL := 2) (ty := .int) (own := RX1) (by decide) rfl rfl (Nat.le_of_ble_eq_true rfl) ?_
  intro p e s m below meth c A ls Q hx hb hml hown hts hK hP hD hS hA hl hQ
  have hl : lv_has ls 2 [(0, .ref h1), (1, .int (nI y))] := hl
  have hin : ∀ w ∈ u_ws RX1 TX1 9, w ∈ wsX1_strikeConsuls := by decide +kernel
  have hb_0 := hff y (by omega)
  refine lv_aload_n hx hb dX1_strikeConsuls_0 rfl (lv_at hl 0 rfl) ?_
  refine lv_iload_n hx hb dX1_strikeConsuls_1 rfl (lv_at hl 1 rfl) ?_
  refine pz_SR (rest := [.ref h1]) ⟨hx, hb, hml, hown, hts⟩ (k_X1_isYear_a l D ((cyI, .int) :: ts) y (by omega) (by omega)) (va_cwS 1 hts gX1_strikeConsuls_X1_isYear rfl rfl rfl (by decide +kernel) ⟨Nat.le_of_ble_eq_true rfl, Nat.le_of_ble_eq_true rfl⟩) hK hP (hD.weaken (fun _ _ _ _ => trivial)) hS hA [] rfl rfl rfl rfl hl.1 rfl (lv_room (Nat.le_of_ble_eq_true rfl)) dX1_strikeConsuls_2 ⟨Nat.le_of_ble_eq_true rfl, Nat.le_of_ble_eq_true rfl⟩ (fun r H locs hr hP hS => ?_)
  obtain rfl : r = (nI 1) := hr
  refine pn_if_ne (tgt := 12) hx hb (by omega) dX1_strikeConsuls_5 (by decide) (fun _ => ?_) (fun c_2 => absurd c_2 (by decide))
  refine lv_aload_n hx hb dX1_strikeConsuls_12 rfl (lv_at hl 0 rfl) ?_
  refine va_get (D := D) (ci := 1) (v := .ref bf) (C := RX1) (T := TX1) (N := 9) hx hb hts hin hown hK hP 0 rfl rfl 6 (by decide) (hts (.fieldLink RX1 13 "RomanCalendarModel" "first" "[I") (by decide +kernel)) (fun _ h9 => h9) rfl dX1_strikeConsuls_13 ?_
  refine lv_iload_n hx hb dX1_strikeConsuls_16 rfl (lv_at hl 1 rfl) ?_
  refine pn_iald hx hb hK hP 2 0 rfl rfl (by omega) (by decide) dX1_strikeConsuls_17 ?_
  refine pn_if_ne (tgt := 25) hx hb (by omega) dX1_strikeConsuls_18 (by decide) (fun c_3 => ?_) (fun c_3 => ?_)
  · -- 18 yes
    refine lv_iconst (v := nI 0) hx hb dX1_strikeConsuls_25 (by decide) ?_
    refine pz_VI (rest := []) (wr := []) ⟨hx, hb, hml, hown, hts⟩ (k_X1_isFine_0 l D h1 bc bf bg cyI ts th yr mo da mk wr rc ff gg  ) (cwV 1 hts gX1_strikeConsuls_X1_isFine rfl rfl rfl (by decide +kernel) ⟨Nat.le_of_ble_eq_true rfl, Nat.le_of_ble_eq_true rfl⟩) hK hP hD hS hA [0, 1, 2, 3] [] rfl rfl rfl rfl rfl (by decide) 0 1 rfl rfl rfl hl.1 rfl (lv_room (Nat.le_of_ble_eq_true rfl)) dX1_strikeConsuls_26 ⟨Nat.le_of_ble_eq_true rfl, Nat.le_of_ble_eq_true rfl⟩ (fun r u H locs hr hP hD hS => ?_)
    have hP : va_P D vwCl [(h1, .inr (1, [.int (nI 0), .int yr, .int mo, .int da, .int (nI mk), .ref bc, .ref bf, .ref bg, .int (nI wr)])), (bc, .inl (cyI, 366, .inl (pz_ar rc))), (bf, .inl (cyI, 3001, .inl (pz_ar ff))), (bg, .inl (cyI, 3001, .inl (pz_ar gg)))] H := hP
    have hD : va_D A [(h1, .inr (1, [.int (nI 0), .int yr, .int mo, .int da, .int (nI mk), .ref bc, .ref bf, .ref bg, .int (nI wr)])), (bc, .inl (cyI, 366, .inl (pz_ar rc))), (bf, .inl (cyI, 3001, .inl (pz_ar ff))), (bg, .inl (cyI, 3001, .inl (pz_ar gg)))] := hD
    obtain rfl : r = (nI 1) := hr
    refine pn_if_ne (tgt := 34) hx hb (by omega) dX1_strikeConsuls_29 (by decide) (fun _ => ?_) (fun c_5 => absurd c_5 (by decide))
    refine lv_aload_n hx hb dX1_strikeConsuls_34 rfl (lv_at hl 0 rfl) ?_
    refine va_get (D := D) (ci := 1) (v := .ref bf) (C := RX1) (T := TX1) (N := 9) hx hb hts hin hown hK hP 0 rfl rfl 6 (by decide) (hts (.fieldLink RX1 13 "RomanCalendarModel" "first" "[I") (by decide +kernel)) (fun _ h9 => h9) rfl dX1_strikeConsuls_35 ?_
    refine lv_iload_n hx hb dX1_strikeConsuls_38 rfl (lv_at hl 1 rfl) ?_
    refine lv_iconst (v := nI 0) hx hb dX1_strikeConsuls_39 (by decide) ?_
    refine pn_iast hx hb hK hP hD hS 2 0 rfl rfl (by omega) (by decide) dX1_strikeConsuls_40 (fun H locs hP hD hS => ?_)
    have hP : va_P D vwCl [(h1, .inr (1, [.int (nI 0), .int yr, .int mo, .int da, .int (nI mk), .ref bc, .ref bf, .ref bg, .int (nI wr)])), (bc, .inl (cyI, 366, .inl (pz_ar rc))), (bf, .inl (cyI, 3001, .inl (pz_ar (pz_u ff y 0)))), (bg, .inl (cyI, 3001, .inl (pz_ar gg)))] H := hP
    have hD : va_D A [(h1, .inr (1, [.int (nI 0), .int yr, .int mo, .int da, .int (nI mk), .ref bc, .ref bf, .ref bg, .int (nI wr)])), (bc, .inl (cyI, 366, .inl (pz_ar rc))), (bf, .inl (cyI, 3001, .inl (pz_ar (pz_u ff y 0)))), (bg, .inl (cyI, 3001, .inl (pz_ar gg)))] := hD
    refine lv_aload_n hx hb dX1_strikeConsuls_41 rfl (lv_at hl 0 rfl) ?_
    refine va_get (D := D) (ci := 1) (v := .ref bg) (C := RX1) (T := TX1) (N := 9) hx hb hts hin hown hK hP 0 rfl rfl 7 (by decide) (hts (.fieldLink RX1 16 "RomanCalendarModel" "second" "[I") (by decide +kernel)) (fun _ h9 => h9) rfl dX1_strikeConsuls_42 ?_
    refine lv_iload_n hx hb dX1_strikeConsuls_45 rfl (lv_at hl 1 rfl) ?_
    refine lv_iconst (v := nI 0) hx hb dX1_strikeConsuls_46 (by decide) ?_
    refine pn_iast hx hb hK hP hD hS 3 0 rfl rfl (by omega) (by decide) dX1_strikeConsuls_47 (fun H locs hP hD hS => ?_)
    have hP : va_P D vwCl [(h1, .inr (1, [.int (nI 0), .int yr, .int mo, .int da, .int (nI mk), .ref bc, .ref bf, .ref bg, .int (nI wr)])), (bc, .inl (cyI, 366, .inl (pz_ar rc))), (bf, .inl (cyI, 3001, .inl (pz_ar (pz_u ff y 0)))), (bg, .inl (cyI, 3001, .inl (pz_ar (pz_u gg y 0))))] H := hP
    have hD : va_D A [(h1, .inr (1, [.int (nI 0), .int yr, .int mo, .int da, .int (nI mk), .ref bc, .ref bf, .ref bg, .int (nI wr)])), (bc, .inl (cyI, 366, .inl (pz_ar rc))), (bf, .inl (cyI, 3001, .inl (pz_ar (pz_u ff y 0)))), (bg, .inl (cyI, 3001, .inl (pz_ar (pz_u gg y 0))))] := hD
    refine lv_aload_n hx hb dX1_strikeConsuls_48 rfl (lv_at hl 0 rfl) ?_
    refine lv_dup hx hb dX1_strikeConsuls_49 rfl ?_
    refine va_get (D := D) (ci := 1) (v := .int (nI wr)) (C := RX1) (T := TX1) (N := 9) hx hb hts hin hown hK hP 0 rfl rfl 8 (by decide) (hts (.fieldLink RX1 110 "RomanCalendarModel" "written" "I") (by decide +kernel)) (fun _ h9 => h9) rfl dX1_strikeConsuls_50 ?_
    refine lv_iconst (v := nI 1) hx hb dX1_strikeConsuls_53 (by decide) ?_
    refine pn_isub hx hb (by omega) dX1_strikeConsuls_54 ?_
    refine va_put (D := D) (ci := 1) (v := .int (nI (wr - 1))) (ty := .int) (C := RX1) (T := TX1) (N := 9) hx hb hts hin tyX1 tyX1_ok nmX1 hown hK hP hD hS 0 rfl rfl 8 (by decide) (hts (.fieldLink RX1 110 "RomanCalendarModel" "written" "I") (by decide +kernel)) (fun _ h9 => h9) rfl (by decide +kernel) rfl rfl (Nat.le_of_ble_eq_true rfl) dX1_strikeConsuls_55 (fun H locs hP hD hS => ?_)
    have hP : va_P D vwCl [(h1, .inr (1, [.int (nI 0), .int yr, .int mo, .int da, .int (nI mk), .ref bc, .ref bf, .ref bg, .int (nI (wr - 1))])), (bc, .inl (cyI, 366, .inl (pz_ar rc))), (bf, .inl (cyI, 3001, .inl (pz_ar (pz_u ff y 0)))), (bg, .inl (cyI, 3001, .inl (pz_ar (pz_u gg y 0))))] H := hP
    have hD : va_D A [(h1, .inr (1, [.int (nI 0), .int yr, .int mo, .int da, .int (nI mk), .ref bc, .ref bf, .ref bg, .int (nI (wr - 1))])), (bc, .inl (cyI, 366, .inl (pz_ar rc))), (bf, .inl (cyI, 3001, .inl (pz_ar (pz_u ff y 0)))), (bg, .inl (cyI, 3001, .inl (pz_ar (pz_u gg y 0))))] := hD
    refine lv_aload_n hx hb dX1_strikeConsuls_58 rfl (lv_at hl 0 rfl) ?_
    refine va_get (D := D) (ci := 1) (v := .int (nI (wr - 1))) (C := RX1) (T := TX1) (N := 9) hx hb hts hin hown hK hP 0 rfl rfl 8 (by decide) (hts (.fieldLink RX1 110 "RomanCalendarModel" "written" "I") (by decide +kernel)) (fun _ h9 => h9) rfl dX1_strikeConsuls_59 ?_
    exact hQ _ _ _ _ _ () dX1_strikeConsuls_62 rfl (congrArg nI (by rfl)) hP hD hS
  · -- 18 no
    exfalso; omega
set_option maxHeartbeats 4000000 in
set_option maxRecDepth 100000 in
theorem k_X1_strikeConsuls_x2 (l : Launch) (D : va_G) (h1 bc bf bg : Nat) (cyI : ClassId) (ts : List (ClassId × FieldType)) (th yr mo da : Int32) (mk wr : Nat) (rc ff gg : Nat → Nat) (y : Nat) (hy0 : 1 ≤ y) (hy1 : y ≤ 3000) (hff : ∀ j, j < 3001 → ff j ≤ 999) (hy3 : ff y = 0) : pz_I l yX1_strikeConsuls wsX1_strikeConsuls ({ frames := 2, cells := 0, slots := 0, locals := 42 } : Room) D ((cyI, .int) :: ts) [.ref h1, .int (nI y)] [(h1, .inr (1, [.int th, .int yr, .int mo, .int da, .int (nI mk), .ref bc, .ref bf, .ref bg, .int (nI wr)])), (bc, .inl (cyI, 366, .inl (pz_ar rc))), (bf, .inl (cyI, 3001, .inl (pz_ar ff))), (bg, .inl (cyI, 3001, .inl (pz_ar gg)))] (S := Unit) (fun r _ => r = nI 0) (fun _ => [(h1, .inr (1, [.int (nI 2), .int yr, .int mo, .int da, .int (nI mk), .ref bc, .ref bf, .ref bg, .int (nI wr)])), (bc, .inl (cyI, 366, .inl (pz_ar rc))), (bf, .inl (cyI, 3001, .inl (pz_ar ff))), (bg, .inl (cyI, 3001, .inl (pz_ar gg)))]) := by
  refine pz_I_of (cc := cX1_strikeConsuls) (maxL := 2) (ty := .int) (own := RX1) (by decide) rfl rfl (Nat.le_of_ble_eq_true rfl) ?_
  intro p e s m below meth c A ls Q hx hb hml hown hts hK hP hD hS hA hl hQ
  have hl : lv_has ls 2 [(0, .ref h1), (1, .int (nI y))] := hl
  have hin : ∀ w ∈ u_ws RX1 TX1 9, w ∈ wsX1_strikeConsuls := by decide +kernel
  have hb_0 := hff y (by omega)
  refine lv_aload_n hx hb dX1_strikeConsuls_0 rfl (lv_at hl 0 rfl) ?_
  refine lv_iload_n hx hb dX1_strikeConsuls_1 rfl (lv_at hl 1 rfl) ?_
  refine pz_SR (rest := [.ref h1]) ⟨hx, hb, hml, hown, hts⟩ (k_X1_isYear_a l D ((cyI, .int) :: ts) y (by omega) (by omega)) (va_cwS 1 hts gX1_strikeConsuls_X1_isYear rfl rfl rfl (by decide +kernel) ⟨Nat.le_of_ble_eq_true rfl, Nat.le_of_ble_eq_true rfl⟩) hK hP (hD.weaken (fun _ _ _ _ => trivial)) hS hA [] rfl rfl rfl rfl hl.1 rfl (lv_room (Nat.le_of_ble_eq_true rfl)) dX1_strikeConsuls_2 ⟨Nat.le_of_ble_eq_true rfl, Nat.le_of_ble_eq_true rfl⟩ (fun r H locs hr hP hS => ?_)
  obtain rfl : r = (nI 1) := hr
  refine pn_if_ne (tgt := 12) hx hb (by omega) dX1_strikeConsuls_5 (by decide) (fun _ => ?_) (fun c_2 => absurd c_2 (by decide))
  refine lv_aload_n hx hb dX1_strikeConsuls_12 rfl (lv_at hl 0 rfl) ?_
  refine va_get (D := D) (ci := 1) (v := .ref bf) (C := RX1) (T := TX1) (N := 9) hx hb hts hin hown hK hP 0 rfl rfl 6 (by decide) (hts (.fieldLink RX1 13 "RomanCalendarModel" "first" "[I") (by decide +kernel)) (fun _ h9 => h9) rfl dX1_strikeConsuls_13 ?_
  refine lv_iload_n hx hb dX1_strikeConsuls_16 rfl (lv_at hl 1 rfl) ?_
  refine pn_iald hx hb hK hP 2 0 rfl rfl (by omega) (by decide) dX1_strikeConsuls_17 ?_
  refine pn_if_ne (tgt := 25) hx hb (by omega) dX1_strikeConsuls_18 (by decide) (fun c_3 => ?_) (fun c_3 => ?_)
  · -- 18 yes
    exfalso; omega
  · -- 18 no
    refine lv_iconst (v := nI 2) hx hb dX1_strikeConsuls_21 (by decide) ?_
    refine lv_goto (tgt := 26) hx hb dX1_strikeConsuls_22 (by decide) ?_
    refine pz_VI (rest := []) (wr := []) ⟨hx, hb, hml, hown, hts⟩ (k_X1_isFine_k l D h1 bc bf bg cyI ts th yr mo da mk wr rc ff gg 2 (by omega) (by omega)) (cwV 1 hts gX1_strikeConsuls_X1_isFine rfl rfl rfl (by decide +kernel) ⟨Nat.le_of_ble_eq_true rfl, Nat.le_of_ble_eq_true rfl⟩) hK hP hD hS hA [0, 1, 2, 3] [] rfl rfl rfl rfl rfl (by decide) 0 1 rfl rfl rfl hl.1 rfl (lv_room (Nat.le_of_ble_eq_true rfl)) dX1_strikeConsuls_26 ⟨Nat.le_of_ble_eq_true rfl, Nat.le_of_ble_eq_true rfl⟩ (fun r u H locs hr hP hD hS => ?_)
    have hP : va_P D vwCl [(h1, .inr (1, [.int (nI 2), .int yr, .int mo, .int da, .int (nI mk), .ref bc, .ref bf, .ref bg, .int (nI wr)])), (bc, .inl (cyI, 366, .inl (pz_ar rc))), (bf, .inl (cyI, 3001, .inl (pz_ar ff))), (bg, .inl (cyI, 3001, .inl (pz_ar gg)))] H := hP
    have hD : va_D A [(h1, .inr (1, [.int (nI 2), .int yr, .int mo, .int da, .int (nI mk), .ref bc, .ref bf, .ref bg, .int (nI wr)])), (bc, .inl (cyI, 366, .inl (pz_ar rc))), (bf, .inl (cyI, 3001, .inl (pz_ar ff))), (bg, .inl (cyI, 3001, .inl (pz_ar gg)))] := hD
    obtain rfl : r = (nI 0) := hr
    refine pn_if_ne (tgt := 34) hx hb (by omega) dX1_strikeConsuls_29 (by decide) (fun c_5 => absurd c_5 (by decide)) (fun _ => ?_)
    refine lv_iconst (v := nI 0) hx hb dX1_strikeConsuls_32 (by decide) ?_
    exact hQ _ _ _ _ _ () dX1_strikeConsuls_33 rfl (congrArg nI (by rfl)) hP hD hS
set_option maxHeartbeats 4000000 in
set_option maxRecDepth 100000 in
theorem k_X1_consulsOf_a (l : Launch) (D : va_G) (h1 bc bf bg : Nat) (cyI : ClassId) (ts : List (ClassId × FieldType)) (th yr mo da : Int32) (mk wr : Nat) (rc ff gg : Nat → Nat) (y : Nat) (hy0 : 1 ≤ y) (hy1 : y ≤ 3000) (hff : ∀ j, j < 3001 → ff j ≤ 999) (hgg : ∀ j, j < 3001 → gg j ≤ 999) : pz_I l yX1_consulsOf wsX1_consulsOf ({ frames := 2, cells := 0, slots := 0, locals := 42 } : Room) D ((cyI, .int) :: ts) [.ref h1, .int (nI y)] [(h1, .inr (1, [.int th, .int yr, .int mo, .int da, .int (nI mk), .ref bc, .ref bf, .ref bg, .int (nI wr)])), (bc, .inl (cyI, 366, .inl (pz_ar rc))), (bf, .inl (cyI, 3001, .inl (pz_ar ff))), (bg, .inl (cyI, 3001, .inl (pz_ar gg)))] (S := Unit) (fun r _ => (r = (-1 : Int32) ∧ ff y = 0) ∨ (r = nI (1000 * ff y + gg y) ∧ ¬ ff y = 0)) (fun _ => [(h1, .inr (1, [.int (nI 0), .int yr, .int mo, .int da, .int (nI mk), .ref bc, .ref bf, .ref bg, .int (nI wr)])), (bc, .inl (cyI, 366, .inl (pz_ar rc))), (bf, .inl (cyI, 3001, .inl (pz_ar ff))), (bg, .inl (cyI, 3001, .inl (pz_ar gg)))]) := by
  refine pz_I_of (cc := cX1_consulsOf) (maxL := 2) (ty := .int) (own := RX1) (by decide) rfl rfl (Nat.le_of_ble_eq_true rfl) ?_
  intro p e s m below meth c A ls Q hx hb hml hown hts hK hP hD hS hA hl hQ
  have hl : lv_has ls 2 [(0, .ref h1), (1, .int (nI y))] := hl
  have hin : ∀ w ∈ u_ws RX1 TX1 9, w ∈ wsX1_consulsOf := by decide +kernel
  have hb_0 := hff y (by omega)
  have hb_1 := hgg y (by omega)
  refine lv_aload_n hx hb dX1_consulsOf_0 rfl (lv_at hl 0 rfl) ?_
  refine lv_iload_n hx hb dX1_consulsOf_1 rfl (lv_at hl 1 rfl) ?_
  refine pz_SR (rest := [.ref h1]) ⟨hx, hb, hml, hown, hts⟩ (k_X1_isYear_a l D ((cyI, .int) :: ts) y (by omega) (by omega)) (va_cwS 1 hts gX1_consulsOf_X1_isYear rfl rfl rfl (by decide +kernel) ⟨Nat.le_of_ble_eq_true rfl, Nat.le_of_ble_eq_true rfl⟩) hK hP (hD.weaken (fun _ _ _ _ => trivial)) hS hA [] rfl rfl rfl rfl hl.1 rfl (lv_room (Nat.le_of_ble_eq_true rfl)) dX1_consulsOf_2 ⟨Nat.le_of_ble_eq_true rfl, Nat.le_of_ble_eq_true rfl⟩ (fun r H locs hr hP hS => ?_)
  obtain rfl : r = (nI 1) := hr
  refine pn_if_eq (tgt := 12) hx hb (by omega) dX1_consulsOf_5 (by decide) (fun c_2 => absurd c_2 (by decide)) (fun _ => ?_)
  refine lv_iconst (v := nI 0) hx hb dX1_consulsOf_8 (by decide) ?_
  refine lv_goto (tgt := 13) hx hb dX1_consulsOf_9 (by decide) ?_
  refine pz_VI (rest := []) (wr := []) ⟨hx, hb, hml, hown, hts⟩ (k_X1_isFine_0 l D h1 bc bf bg cyI ts th yr mo da mk wr rc ff gg  ) (cwV 1 hts gX1_consulsOf_X1_isFine rfl rfl rfl (by decide +kernel) ⟨Nat.le_of_ble_eq_true rfl, Nat.le_of_ble_eq_true rfl⟩) hK hP hD hS hA [0, 1, 2, 3] [] rfl rfl rfl rfl rfl (by decide) 0 1 rfl rfl rfl hl.1 rfl (lv_room (Nat.le_of_ble_eq_true rfl)) dX1_consulsOf_13 ⟨Nat.le_of_ble_eq_true rfl, Nat.le_of_ble_eq_true rfl⟩ (fun r u H locs hr hP hD hS => ?_)
  have hP : va_P D vwCl [(h1, .inr (1, [.int (nI 0), .int yr, .int mo, .int da, .int (nI mk), .ref bc, .ref bf, .ref bg, .int (nI wr)])), (bc, .inl (cyI, 366, .inl (pz_ar rc))), (bf, .inl (cyI, 3001, .inl (pz_ar ff))), (bg, .inl (cyI, 3001, .inl (pz_ar gg)))] H := hP
  have hD : va_D A [(h1, .inr (1, [.int (nI 0), .int yr, .int mo, .int da, .int (nI mk), .ref bc, .ref bf, .ref bg, .int (nI wr)])), (bc, .inl (cyI, 366, .inl (pz_ar rc))), (bf, .inl (cyI, 3001, .inl (pz_ar ff))), (bg, .inl (cyI, 3001, .inl (pz_ar gg)))] := hD
  obtain rfl : r = (nI 1) := hr
  refine pn_if_ne (tgt := 21) hx hb (by omega) dX1_consulsOf_16 (by decide) (fun _ => ?_) (fun c_4 => absurd c_4 (by decide))
  refine lv_aload_n hx hb dX1_consulsOf_21 rfl (lv_at hl 0 rfl) ?_
  refine va_get (D := D) (ci := 1) (v := .ref bf) (C := RX1) (T := TX1) (N := 9) hx hb hts hin hown hK hP 0 rfl rfl 6 (by decide) (hts (.fieldLink RX1 13 "RomanCalendarModel" "first" "[I") (by decide +kernel)) (fun _ h9 => h9) rfl dX1_consulsOf_22 ?_
  refine lv_iload_n hx hb dX1_consulsOf_25 rfl (lv_at hl 1 rfl) ?_
  refine pn_iald hx hb hK hP 2 0 rfl rfl (by omega) (by decide) dX1_consulsOf_26 ?_
  refine pn_if_ne (tgt := 34) hx hb (by omega) dX1_consulsOf_27 (by decide) (fun c_5 => ?_) (fun c_5 => ?_)
  · -- 27 yes
    refine lv_sipush (v := nI 1000) hx hb dX1_consulsOf_34 (by decide) ?_
    refine lv_aload_n hx hb dX1_consulsOf_37 rfl (lv_at hl 0 rfl) ?_
    refine va_get (D := D) (ci := 1) (v := .ref bf) (C := RX1) (T := TX1) (N := 9) hx hb hts hin hown hK hP 0 rfl rfl 6 (by decide) (hts (.fieldLink RX1 13 "RomanCalendarModel" "first" "[I") (by decide +kernel)) (fun _ h9 => h9) rfl dX1_consulsOf_38 ?_
    refine lv_iload_n hx hb dX1_consulsOf_41 rfl (lv_at hl 1 rfl) ?_
    refine pn_iald hx hb hK hP 2 0 rfl rfl (by omega) (by decide) dX1_consulsOf_42 ?_
    refine pn_imul hx hb dX1_consulsOf_43 ?_
    refine lv_aload_n hx hb dX1_consulsOf_44 rfl (lv_at hl 0 rfl) ?_
    refine va_get (D := D) (ci := 1) (v := .ref bg) (C := RX1) (T := TX1) (N := 9) hx hb hts hin hown hK hP 0 rfl rfl 7 (by decide) (hts (.fieldLink RX1 16 "RomanCalendarModel" "second" "[I") (by decide +kernel)) (fun _ h9 => h9) rfl dX1_consulsOf_45 ?_
    refine lv_iload_n hx hb dX1_consulsOf_48 rfl (lv_at hl 1 rfl) ?_
    refine pn_iald hx hb hK hP 3 0 rfl rfl (by omega) (by decide) dX1_consulsOf_49 ?_
    refine pn_iadd hx hb dX1_consulsOf_50 ?_
    exact hQ _ _ _ _ _ () dX1_consulsOf_51 rfl (by first | exact Or.inl ⟨rfl, by assumption⟩ | exact Or.inr ⟨rfl, by assumption⟩) hP hD hS
  · -- 27 no
    refine lv_iconst (v := (-1 : Int32)) hx hb dX1_consulsOf_30 (by decide) ?_
    refine lv_goto (tgt := 51) hx hb dX1_consulsOf_31 (by decide) ?_
    exact hQ _ _ _ _ _ () dX1_consulsOf_51 rfl (by first | exact Or.inl ⟨rfl, by assumption⟩ | exact Or.inr ⟨rfl, by assumption⟩) hP hD hS
set_option maxHeartbeats 4000000 in
set_option maxRecDepth 100000 in
theorem k_X1_afterConsuls_a (l : Launch) (D : va_G) (h1 bc bf bg : Nat) (cyI : ClassId) (ts : List (ClassId × FieldType)) (th yr mo da : Int32) (mk wr : Nat) (rc ff gg : Nat → Nat) (y : Nat) (hy0 : 1 ≤ y) (hy1 : y ≤ 3000) (hff : ∀ j, j < 3001 → ff j ≤ 999) : pz_I l yX1_afterConsuls wsX1_afterConsuls ({ frames := 2, cells := 0, slots := 0, locals := 42 } : Room) D ((cyI, .int) :: ts) [.ref h1, .int (nI y)] [(h1, .inr (1, [.int th, .int yr, .int mo, .int da, .int (nI mk), .ref bc, .ref bf, .ref bg, .int (nI wr)])), (bc, .inl (cyI, 366, .inl (pz_ar rc))), (bf, .inl (cyI, 3001, .inl (pz_ar ff))), (bg, .inl (cyI, 3001, .inl (pz_ar gg)))] (S := Unit) (fun r _ => (r = (-1 : Int32) ∧ ∀ j, 1 ≤ j → j ≤ y → ff j = 0) ∨ ∃ i, 1 ≤ i ∧ i ≤ y ∧ ¬ ff i = 0 ∧ r = nI (y - i) ∧ ∀ j, i < j → j ≤ y → ff j = 0) (fun _ => [(h1, .inr (1, [.int (nI 0), .int yr, .int mo, .int da, .int (nI mk), .ref bc, .ref bf, .ref bg, .int (nI wr)])), (bc, .inl (cyI, 366, .inl (pz_ar rc))), (bf, .inl (cyI, 3001, .inl (pz_ar ff))), (bg, .inl (cyI, 3001, .inl (pz_ar gg)))]) := by
  refine pz_I_of (cc := cX1_afterConsuls) (maxL := 3) (ty := .int) (own := RX1) (by decide) rfl rfl (Nat.le_of_ble_eq_true rfl) ?_
  intro p e s m below meth c A ls Q hx hb hml hown hts hK hP hD hS hA hl hQ
  have hl : lv_has ls 3 [(0, .ref h1), (1, .int (nI y))] := hl
  have hin : ∀ w ∈ u_ws RX1 TX1 9, w ∈ wsX1_afterConsuls := by decide +kernel
  refine lv_aload_n hx hb dX1_afterConsuls_0 rfl (lv_at hl 0 rfl) ?_
  refine lv_iload_n hx hb dX1_afterConsuls_1 rfl (lv_at hl 1 rfl) ?_
  refine pz_SR (rest := [.ref h1]) ⟨hx, hb, hml, hown, hts⟩ (k_X1_isYear_a l D ((cyI, .int) :: ts) y (by omega) (by omega)) (va_cwS 1 hts gX1_afterConsuls_X1_isYear rfl rfl rfl (by decide +kernel) ⟨Nat.le_of_ble_eq_true rfl, Nat.le_of_ble_eq_true rfl⟩) hK hP (hD.weaken (fun _ _ _ _ => trivial)) hS hA [] rfl rfl rfl rfl hl.1 rfl (lv_room (Nat.le_of_ble_eq_true rfl)) dX1_afterConsuls_2 ⟨Nat.le_of_ble_eq_true rfl, Nat.le_of_ble_eq_true rfl⟩ (fun r H locs hr hP hS => ?_)
  obtain rfl : r = (nI 1) := hr
  refine pn_if_eq (tgt := 12) hx hb (by omega) dX1_afterConsuls_5 (by decide) (fun c_2 => absurd c_2 (by decide)) (fun _ => ?_)
  refine lv_iconst (v := nI 0) hx hb dX1_afterConsuls_8 (by decide) ?_
  refine lv_goto (tgt := 13) hx hb dX1_afterConsuls_9 (by decide) ?_
  refine pz_VI (rest := []) (wr := []) ⟨hx, hb, hml, hown, hts⟩ (k_X1_isFine_0 l D h1 bc bf bg cyI ts th yr mo da mk wr rc ff gg  ) (cwV 1 hts gX1_afterConsuls_X1_isFine rfl rfl rfl (by decide +kernel) ⟨Nat.le_of_ble_eq_true rfl, Nat.le_of_ble_eq_true rfl⟩) hK hP hD hS hA [0, 1, 2, 3] [] rfl rfl rfl rfl rfl (by decide) 0 1 rfl rfl rfl hl.1 rfl (lv_room (Nat.le_of_ble_eq_true rfl)) dX1_afterConsuls_13 ⟨Nat.le_of_ble_eq_true rfl, Nat.le_of_ble_eq_true rfl⟩ (fun r u H locs hr hP hD hS => ?_)
  have hP : va_P D vwCl [(h1, .inr (1, [.int (nI 0), .int yr, .int mo, .int da, .int (nI mk), .ref bc, .ref bf, .ref bg, .int (nI wr)])), (bc, .inl (cyI, 366, .inl (pz_ar rc))), (bf, .inl (cyI, 3001, .inl (pz_ar ff))), (bg, .inl (cyI, 3001, .inl (pz_ar gg)))] H := hP
  have hD : va_D A [(h1, .inr (1, [.int (nI 0), .int yr, .int mo, .int da, .int (nI mk), .ref bc, .ref bf, .ref bg, .int (nI wr)])), (bc, .inl (cyI, 366, .inl (pz_ar rc))), (bf, .inl (cyI, 3001, .inl (pz_ar ff))), (bg, .inl (cyI, 3001, .inl (pz_ar gg)))] := hD
  obtain rfl : r = (nI 1) := hr
  refine pn_if_ne (tgt := 21) hx hb (by omega) dX1_afterConsuls_16 (by decide) (fun _ => ?_) (fun c_4 => absurd c_4 (by decide))
  refine lv_iload_n hx hb dX1_afterConsuls_21 rfl (lv_at hl 1 rfl) ?_
  refine lv_istore_n (lv' := [(2, .int (nI y)), (0, .ref h1), (1, .int (nI y))]) hx hb dX1_afterConsuls_22 rfl hl (by decide) rfl (fun ls hl => ?_)
  have LP23 : ∀ (N : Nat) (z : Nat) (H : Heap) (locs : List Loc) (ls : Array Slot), z < N → (z ≤ y) → (∀ j, z < j → j ≤ y → ff j = 0) → va_P D vwCl [(h1, .inr (1, [.int (nI 0), .int yr, .int mo, .int da, .int (nI mk), .ref bc, .ref bf, .ref bg, .int (nI wr)])), (bc, .inl (cyI, 366, .inl (pz_ar rc))), (bf, .inl (cyI, 3001, .inl (pz_ar ff))), (bg, .inl (cyI, 3001, .inl (pz_ar gg)))] H → va_D A [(h1, .inr (1, [.int (nI 0), .int yr, .int mo, .int da, .int (nI mk), .ref bc, .ref bf, .ref bg, .int (nI wr)])), (bc, .inl (cyI, 366, .inl (pz_ar rc))), (bf, .inl (cyI, 3001, .inl (pz_ar ff))), (bg, .inl (cyI, 3001, .inl (pz_ar gg)))] → va_S A s.heap H locs → lv_has ls 3 [(2, .int (nI z)), (0, .ref h1), (1, .int (nI y))] → W p l e ({ frames := 2, cells := 0, slots := 0, locals := 42 } : Room) s m ([.ref h1, .int (nI y)] : List Value).toArray below meth c H locs 0 0 Q (F0 m 23 ls []) := by
    intro N
    induction N with
    | zero => intro z H locs ls hN; exact absurd hN (Nat.not_lt_zero _)
    | succ N ih =>
      intro z H locs ls hN hi23_0 hi23_1 hP hD hS hl
      have hb_2 := hff z (by omega)
      have ih23 := ih
      refine lv_iload_n hx hb dX1_afterConsuls_23 rfl (lv_at hl 0 rfl) ?_
      refine pn_if_le (tgt := 42) hx hb (by omega) dX1_afterConsuls_24 (by decide) (fun c_5 => ?_) (fun c_5 => ?_)
      · -- 24 yes
        refine lv_iload_n hx hb dX1_afterConsuls_42 rfl (lv_at hl 0 rfl) ?_
        refine pn_if_ne (tgt := 50) hx hb (by omega) dX1_afterConsuls_43 (by decide) (fun c_6 => ?_) (fun c_6 => ?_)
        · -- 43 yes
          refine lv_iload_n hx hb dX1_afterConsuls_50 rfl (lv_at hl 2 rfl) ?_
          refine lv_iload_n hx hb dX1_afterConsuls_51 rfl (lv_at hl 0 rfl) ?_
          refine pn_isub hx hb (by omega) dX1_afterConsuls_52 ?_
          exact hQ _ _ _ _ _ () dX1_afterConsuls_53 rfl (by first | exact Or.inl ⟨rfl, fun j h1 h2 => hi23_1 j (by omega) h2⟩ | exact Or.inr ⟨z, by omega, by omega, by assumption, rfl, hi23_1⟩ | (exfalso; omega)) hP hD hS
        · -- 43 no
          refine lv_iconst (v := (-1 : Int32)) hx hb dX1_afterConsuls_46 (by decide) ?_
          refine lv_goto (tgt := 53) hx hb dX1_afterConsuls_47 (by decide) ?_
          exact hQ _ _ _ _ _ () dX1_afterConsuls_53 rfl (by first | exact Or.inl ⟨rfl, fun j h1 h2 => hi23_1 j (by omega) h2⟩ | exact Or.inr ⟨z, by omega, by omega, by assumption, rfl, hi23_1⟩ | (exfalso; omega)) hP hD hS
      · -- 24 no
        refine lv_aload_n hx hb dX1_afterConsuls_27 rfl (lv_at hl 1 rfl) ?_
        refine va_get (D := D) (ci := 1) (v := .ref bf) (C := RX1) (T := TX1) (N := 9) hx hb hts hin hown hK hP 0 rfl rfl 6 (by decide) (hts (.fieldLink RX1 13 "RomanCalendarModel" "first" "[I") (by decide +kernel)) (fun _ h9 => h9) rfl dX1_afterConsuls_28 ?_
        refine lv_iload_n hx hb dX1_afterConsuls_31 rfl (lv_at hl 0 rfl) ?_
        refine pn_iald hx hb hK hP 2 0 rfl rfl (by omega) (by decide) dX1_afterConsuls_32 ?_
        refine pn_if_ne (tgt := 42) hx hb (by omega) dX1_afterConsuls_33 (by decide) (fun c_7 => ?_) (fun c_7 => ?_)
        · -- 33 yes
          refine lv_iload_n hx hb dX1_afterConsuls_42 rfl (lv_at hl 0 rfl) ?_
          refine pn_if_ne (tgt := 50) hx hb (by omega) dX1_afterConsuls_43 (by decide) (fun c_8 => ?_) (fun c_8 => ?_)
          · -- 43 yes
            refine lv_iload_n hx hb dX1_afterConsuls_50 rfl (lv_at hl 2 rfl) ?_
            refine lv_iload_n hx hb dX1_afterConsuls_51 rfl (lv_at hl 0 rfl) ?_
            refine pn_isub hx hb (by omega) dX1_afterConsuls_52 ?_
            exact hQ _ _ _ _ _ () dX1_afterConsuls_53 rfl (by first | exact Or.inl ⟨rfl, fun j h1 h2 => hi23_1 j (by omega) h2⟩ | exact Or.inr ⟨z, by omega, by omega, by assumption, rfl, hi23_1⟩ | (exfalso; omega)) hP hD hS
          · -- 43 no
            refine lv_iconst (v := (-1 : Int32)) hx hb dX1_afterConsuls_46 (by decide) ?_
            refine lv_goto (tgt := 53) hx hb dX1_afterConsuls_47 (by decide) ?_
            exact hQ _ _ _ _ _ () dX1_afterConsuls_53 rfl (by first | exact Or.inl ⟨rfl, fun j h1 h2 => hi23_1 j (by omega) h2⟩ | exact Or.inr ⟨z, by omega, by omega, by assumption, rfl, hi23_1⟩ | (exfalso; omega)) hP hD hS
        · -- 33 no
          refine lv_iinc (v := (nI (z - 1))) (lv' := [(2, .int (nI (z - 1))), (0, .ref h1), (1, .int (nI y))]) hx hb dX1_afterConsuls_36 hl (k := 0) rfl (pn_dec (by omega)) (by decide) rfl (fun ls hl => ?_)
          refine lv_goto (tgt := 23) hx hb dX1_afterConsuls_39 (by decide) ?_
          exact ih23 (z - 1) _ _ _ (by omega) (by omega) (by first | (intro j h1 h2; exfalso; omega) | (intro j h1 h2; rcases Nat.lt_or_ge z j with h3 | h3; (exact hi23_1 j h3 h2); (have h4 : j = z := by omega); subst h4; assumption)) hP hD hS (lv_sub hl [0, 1, 2] rfl)
  exact LP23 _ y _ _ _ (Nat.lt_succ_self _) (by omega) (by first | (intro j h1 h2; exfalso; omega) | (intro j h1 h2; rcases Nat.lt_or_ge z j with h3 | h3; (exact hi23_1 j h3 h2); (have h4 : j = z := by omega); subst h4; assumption)) hP hD hS (lv_sub hl [0, 1, 2] rfl)
set_option maxHeartbeats 4000000 in
set_option maxRecDepth 100000 in
theorem k_X1_yearOfConsuls_a (l : Launch) (D : va_G) (h1 bc bf bg : Nat) (cyI : ClassId) (ts : List (ClassId × FieldType)) (th yr mo da : Int32) (mk wr : Nat) (rc ff gg : Nat → Nat) (x1 x2 : Int32) (t : Nat) (hy0 : 1 ≤ t) (hy1 : t < 2147483648) (hff : ∀ j, j < 3001 → ff j ≤ 999) (hgg : ∀ j, j < 3001 → gg j ≤ 999) : pz_I l yX1_yearOfConsuls wsX1_yearOfConsuls ({ frames := 1, cells := 0, slots := 0, locals := 21 } : Room) D ((cyI, .int) :: ts) [.ref h1, .int x1, .int x2, .int (nI t)] [(h1, .inr (1, [.int th, .int yr, .int mo, .int da, .int (nI mk), .ref bc, .ref bf, .ref bg, .int (nI wr)])), (bc, .inl (cyI, 366, .inl (pz_ar rc))), (bf, .inl (cyI, 3001, .inl (pz_ar ff))), (bg, .inl (cyI, 3001, .inl (pz_ar gg)))] (S := Unit) (fun r _ => pm_kth (pm_N x1 x2 ff gg) t r) (fun _ => [(h1, .inr (1, [.int (nI 0), .int yr, .int mo, .int da, .int (nI mk), .ref bc, .ref bf, .ref bg, .int (nI wr)])), (bc, .inl (cyI, 366, .inl (pz_ar rc))), (bf, .inl (cyI, 3001, .inl (pz_ar ff))), (bg, .inl (cyI, 3001, .inl (pz_ar gg)))]) := by
  refine pz_I_of (cc := cX1_yearOfConsuls) (maxL := 8) (ty := .int) (own := RX1) (by decide) rfl rfl (Nat.le_of_ble_eq_true rfl) ?_
  intro p e s m below meth c A ls Q hx hb hml hown hts hK hP hD hS hA hl hQ
  have hl : lv_has ls 8 [(0, .ref h1), (1, .int x1), (2, .int x2), (3, .int (nI t))] := hl
  have hin : ∀ w ∈ u_ws RX1 TX1 9, w ∈ wsX1_yearOfConsuls := by decide +kernel
  refine lv_aload_n hx hb dX1_yearOfConsuls_0 rfl (lv_at hl 0 rfl) ?_
  refine lv_iload_n hx hb dX1_yearOfConsuls_1 rfl (lv_at hl 3 rfl) ?_
  refine lv_iconst (v := nI 1) hx hb dX1_yearOfConsuls_2 (by decide) ?_
  refine pn_icmp_lt (tgt := 10) hx hb (by omega) (by omega) dX1_yearOfConsuls_3 (by decide) (fun c_1 => ?_) (fun c_1 => ?_)
  · -- 3 yes
    exfalso; omega
  · -- 3 no
    refine lv_iconst (v := nI 0) hx hb dX1_yearOfConsuls_6 (by decide) ?_
    refine lv_goto (tgt := 11) hx hb dX1_yearOfConsuls_7 (by decide) ?_
    refine pz_VI (rest := []) (wr := []) ⟨hx, hb, hml, hown, hts⟩ (k_X1_isFine_0 l D h1 bc bf bg cyI ts th yr mo da mk wr rc ff gg  ) (cwV 1 hts gX1_yearOfConsuls_X1_isFine rfl rfl rfl (by decide +kernel) ⟨Nat.le_of_ble_eq_true rfl, Nat.le_of_ble_eq_true rfl⟩) hK hP hD hS hA [0, 1, 2, 3] [] rfl rfl rfl rfl rfl (by decide) 0 1 rfl rfl rfl hl.1 rfl (lv_room (Nat.le_of_ble_eq_true rfl)) dX1_yearOfConsuls_11 ⟨Nat.le_of_ble_eq_true rfl, Nat.le_of_ble_eq_true rfl⟩ (fun r u H locs hr hP hD hS => ?_)
    have hP : va_P D vwCl [(h1, .inr (1, [.int (nI 0), .int yr, .int mo, .int da, .int (nI mk), .ref bc, .ref bf, .ref bg, .int (nI wr)])), (bc, .inl (cyI, 366, .inl (pz_ar rc))), (bf, .inl (cyI, 3001, .inl (pz_ar ff))), (bg, .inl (cyI, 3001, .inl (pz_ar gg)))] H := hP
    have hD : va_D A [(h1, .inr (1, [.int (nI 0), .int yr, .int mo, .int da, .int (nI mk), .ref bc, .ref bf, .ref bg, .int (nI wr)])), (bc, .inl (cyI, 366, .inl (pz_ar rc))), (bf, .inl (cyI, 3001, .inl (pz_ar ff))), (bg, .inl (cyI, 3001, .inl (pz_ar gg)))] := hD
    obtain rfl : r = (nI 1) := hr
    refine pn_if_ne (tgt := 19) hx hb (by omega) dX1_yearOfConsuls_14 (by decide) (fun _ => ?_) (fun c_3 => absurd c_3 (by decide))
    refine lv_iload_n hx hb dX1_yearOfConsuls_19 rfl (lv_at hl 3 rfl) ?_
    refine lv_istore (lv' := [(4, .int (nI t)), (0, .ref h1), (1, .int x1), (2, .int x2), (3, .int (nI t))]) hx hb dX1_yearOfConsuls_20 hl (by decide) rfl (fun ls hl => ?_)
    refine lv_iconst (v := nI 1) hx hb dX1_yearOfConsuls_22 (by decide) ?_
    refine lv_istore (lv' := [(5, .int (nI 1)), (4, .int (nI t)), (0, .ref h1), (1, .int x1), (2, .int x2), (3, .int (nI t))]) hx hb dX1_yearOfConsuls_23 hl (by decide) rfl (fun ls hl => ?_)
    have LP25 : ∀ (N : Nat) (z : Nat) (H : Heap) (locs : List Loc) (ls : Array Slot), 3001 - z < N → (1 ≤ z) → (z ≤ 3001) → (pm_cn (pm_N x1 x2 ff gg) z < t) → va_P D vwCl [(h1, .inr (1, [.int (nI 0), .int yr, .int mo, .int da, .int (nI mk), .ref bc, .ref bf, .ref bg, .int (nI wr)])), (bc, .inl (cyI, 366, .inl (pz_ar rc))), (bf, .inl (cyI, 3001, .inl (pz_ar ff))), (bg, .inl (cyI, 3001, .inl (pz_ar gg)))] H → va_D A [(h1, .inr (1, [.int (nI 0), .int yr, .int mo, .int da, .int (nI mk), .ref bc, .ref bf, .ref bg, .int (nI wr)])), (bc, .inl (cyI, 366, .inl (pz_ar rc))), (bf, .inl (cyI, 3001, .inl (pz_ar ff))), (bg, .inl (cyI, 3001, .inl (pz_ar gg)))] → va_S A s.heap H locs → lv_has ls 8 [(4, .int (nI (t - pm_cn (pm_N x1 x2 ff gg) z))), (5, .int (nI z)), (0, .ref h1), (1, .int x1), (2, .int x2), (3, .int (nI t))] → W p l e ({ frames := 1, cells := 0, slots := 0, locals := 21 } : Room) s m ([.ref h1, .int x1, .int x2, .int (nI t)] : List Value).toArray below meth c H locs 0 0 Q (F0 m 25 ls []) := by
      intro N
      induction N with
      | zero => intro z H locs ls hN; exact absurd hN (Nat.not_lt_zero _)
      | succ N ih =>
        intro z H locs ls hN hi25_0 hi25_1 hi25_2 hP hD hS hl
        have hN_1 : pm_NP x1 x2 (ff z) (gg z) → pm_cn (pm_N x1 x2 ff gg) (z + 1) = pm_cn (pm_N x1 x2 ff gg) z + 1 := fun h9 => pm_cn_1 (pm_N_1 hi25_0 h9)
        have hN_0 : ¬ pm_NP x1 x2 (ff z) (gg z) → pm_cn (pm_N x1 x2 ff gg) (z + 1) = pm_cn (pm_N x1 x2 ff gg) z := fun h9 => pm_cn_0 (pm_N_0 h9)
        unfold pm_NP at hN_1 hN_0
        have hc1_0 : pm_cn (pm_N x1 x2 ff gg) 1 = 0 := pm_N_00
        have ih25 := ih
        refine lv_iload hx hb dX1_yearOfConsuls_25 (lv_at hl 1 rfl) ?_
        refine lv_sipush (v := nI 3000) hx hb dX1_yearOfConsuls_27 (by decide) ?_
        refine pn_icmp_gt (tgt := 97) hx hb (by omega) (by omega) dX1_yearOfConsuls_30 (by decide) (fun c_4 => ?_) (fun c_4 => ?_)
        · -- 30 yes
          refine lv_iconst (v := (-1 : Int32)) hx hb dX1_yearOfConsuls_97 (by decide) ?_
          exact hQ _ _ _ _ _ () dX1_yearOfConsuls_98 rfl (by (have h9 : z = 3001 := by omega); subst h9; exact Or.inl ⟨rfl, by assumption⟩) hP hD hS
        · -- 30 no
          refine lv_aload_n hx hb dX1_yearOfConsuls_33 rfl (lv_at hl 2 rfl) ?_
          refine va_get (D := D) (ci := 1) (v := .ref bf) (C := RX1) (T := TX1) (N := 9) hx hb hts hin hown hK hP 0 rfl rfl 6 (by decide) (hts (.fieldLink RX1 13 "RomanCalendarModel" "first" "[I") (by decide +kernel)) (fun _ h9 => h9) rfl dX1_yearOfConsuls_34 ?_
          refine lv_iload hx hb dX1_yearOfConsuls_37 (lv_at hl 1 rfl) ?_
          refine pn_iald hx hb hK hP 2 0 rfl rfl (by omega) (by decide) dX1_yearOfConsuls_39 ?_
          have hb_0 := hff z (by omega)
          refine lv_istore (lv' := [(6, .int (nI (ff z))), (4, .int (nI (t - pm_cn (pm_N x1 x2 ff gg) z))), (5, .int (nI z)), (0, .ref h1), (1, .int x1), (2, .int x2), (3, .int (nI t))]) hx hb dX1_yearOfConsuls_40 hl (by decide) rfl (fun ls hl => ?_)
          refine lv_aload_n hx hb dX1_yearOfConsuls_42 rfl (lv_at hl 3 rfl) ?_
          refine va_get (D := D) (ci := 1) (v := .ref bg) (C := RX1) (T := TX1) (N := 9) hx hb hts hin hown hK hP 0 rfl rfl 7 (by decide) (hts (.fieldLink RX1 16 "RomanCalendarModel" "second" "[I") (by decide +kernel)) (fun _ h9 => h9) rfl dX1_yearOfConsuls_43 ?_
          refine lv_iload hx hb dX1_yearOfConsuls_46 (lv_at hl 2 rfl) ?_
          refine pn_iald hx hb hK hP 3 0 rfl rfl (by omega) (by decide) dX1_yearOfConsuls_48 ?_
          have hb_1 := hgg z (by omega)
          refine lv_istore (lv' := [(7, .int (nI (gg z))), (6, .int (nI (ff z))), (4, .int (nI (t - pm_cn (pm_N x1 x2 ff gg) z))), (5, .int (nI z)), (0, .ref h1), (1, .int x1), (2, .int x2), (3, .int (nI t))]) hx hb dX1_yearOfConsuls_49 hl (by decide) rfl (fun ls hl => ?_)
          refine lv_iload hx hb dX1_yearOfConsuls_51 (lv_at hl 1 rfl) ?_
          refine pn_if_le (tgt := 91) hx hb (by omega) dX1_yearOfConsuls_53 (by decide) (fun c_5 => ?_) (fun c_5 => ?_)
          · -- 53 yes
            refine lv_iinc (v := (nI (z + 1))) (lv' := [(5, .int (nI (z + 1))), (7, .int (nI (gg z))), (6, .int (nI (ff z))), (4, .int (nI (t - pm_cn (pm_N x1 x2 ff gg) z))), (0, .ref h1), (1, .int x1), (2, .int x2), (3, .int (nI t))]) hx hb dX1_yearOfConsuls_91 hl (k := 3) rfl (by exact nI_add _ 1) (by decide) rfl (fun ls hl => ?_)
            refine lv_goto (tgt := 25) hx hb dX1_yearOfConsuls_94 (by decide) ?_
            have hq6 : t - pm_cn (pm_N x1 x2 ff gg) z = t - pm_cn (pm_N x1 x2 ff gg) (z + 1) := by first | (rw [pm_N_00]; omega) | omega
            exact ih25 (z + 1) _ _ _ (by omega) (by omega) (by omega) (by first | (rw [pm_N_00]; omega) | omega) hP hD hS (by rw [← hq6]; exact lv_sub hl [3, 0, 4, 5, 6, 7] rfl)
          · -- 53 no
            refine lv_iload hx hb dX1_yearOfConsuls_56 (lv_at hl 1 rfl) ?_
            refine lv_iload_n hx hb dX1_yearOfConsuls_58 rfl (lv_at hl 5 rfl) ?_
            refine pi_icmp_ne (tgt := 68) (a := ((ff z : Nat) : Int)) (b := (x1).toInt) hx hb (nI_toInt (by omega)) rfl dX1_yearOfConsuls_59 (by decide) (fun c_7 => ?_) (fun c_7 => ?_)
            · -- 59 yes
              refine lv_iload hx hb dX1_yearOfConsuls_68 (lv_at hl 1 rfl) ?_
              refine lv_iload_n hx hb dX1_yearOfConsuls_70 rfl (lv_at hl 6 rfl) ?_
              refine pi_icmp_ne (tgt := 91) (a := ((ff z : Nat) : Int)) (b := (x2).toInt) hx hb (nI_toInt (by omega)) rfl dX1_yearOfConsuls_71 (by decide) (fun c_8 => ?_) (fun c_8 => ?_)
              · -- 71 yes
                refine lv_iinc (v := (nI (z + 1))) (lv' := [(5, .int (nI (z + 1))), (7, .int (nI (gg z))), (6, .int (nI (ff z))), (4, .int (nI (t - pm_cn (pm_N x1 x2 ff gg) z))), (0, .ref h1), (1, .int x1), (2, .int x2), (3, .int (nI t))]) hx hb dX1_yearOfConsuls_91 hl (k := 3) rfl (by exact nI_add _ 1) (by decide) rfl (fun ls hl => ?_)
                refine lv_goto (tgt := 25) hx hb dX1_yearOfConsuls_94 (by decide) ?_
                have hq9 : t - pm_cn (pm_N x1 x2 ff gg) z = t - pm_cn (pm_N x1 x2 ff gg) (z + 1) := by first | (rw [pm_N_00]; omega) | omega
                exact ih25 (z + 1) _ _ _ (by omega) (by omega) (by omega) (by first | (rw [pm_N_00]; omega) | omega) hP hD hS (by rw [← hq9]; exact lv_sub hl [3, 0, 4, 5, 6, 7] rfl)
              · -- 71 no
                refine lv_iload hx hb dX1_yearOfConsuls_74 (lv_at hl 0 rfl) ?_
                refine lv_iload_n hx hb dX1_yearOfConsuls_76 rfl (lv_at hl 5 rfl) ?_
                refine pi_icmp_ne (tgt := 91) (a := ((gg z : Nat) : Int)) (b := (x1).toInt) hx hb (nI_toInt (by omega)) rfl dX1_yearOfConsuls_77 (by decide) (fun c_10 => ?_) (fun c_10 => ?_)
                · -- 77 yes
                  refine lv_iinc (v := (nI (z + 1))) (lv' := [(5, .int (nI (z + 1))), (7, .int (nI (gg z))), (6, .int (nI (ff z))), (4, .int (nI (t - pm_cn (pm_N x1 x2 ff gg) z))), (0, .ref h1), (1, .int x1), (2, .int x2), (3, .int (nI t))]) hx hb dX1_yearOfConsuls_91 hl (k := 3) rfl (by exact nI_add _ 1) (by decide) rfl (fun ls hl => ?_)
                  refine lv_goto (tgt := 25) hx hb dX1_yearOfConsuls_94 (by decide) ?_
                  have hq11 : t - pm_cn (pm_N x1 x2 ff gg) z = t - pm_cn (pm_N x1 x2 ff gg) (z + 1) := by first | (rw [pm_N_00]; omega) | omega
                  exact ih25 (z + 1) _ _ _ (by omega) (by omega) (by omega) (by first | (rw [pm_N_00]; omega) | omega) hP hD hS (by rw [← hq11]; exact lv_sub hl [3, 0, 4, 5, 6, 7] rfl)
                · -- 77 no
                  refine lv_iinc (v := (nI (t - pm_cn (pm_N x1 x2 ff gg) z - 1))) (lv' := [(4, .int (nI (t - pm_cn (pm_N x1 x2 ff gg) z - 1))), (7, .int (nI (gg z))), (6, .int (nI (ff z))), (5, .int (nI z)), (0, .ref h1), (1, .int x1), (2, .int x2), (3, .int (nI t))]) hx hb dX1_yearOfConsuls_80 hl (k := 2) rfl (pn_dec (by omega)) (by decide) rfl (fun ls hl => ?_)
                  refine lv_iload hx hb dX1_yearOfConsuls_83 (lv_at hl 0 rfl) ?_
                  refine pn_if_ne (tgt := 91) hx hb (by omega) dX1_yearOfConsuls_85 (by decide) (fun c_12 => ?_) (fun c_12 => ?_)
                  · -- 85 yes
                    refine lv_iinc (v := (nI (z + 1))) (lv' := [(5, .int (nI (z + 1))), (4, .int (nI (t - pm_cn (pm_N x1 x2 ff gg) z - 1))), (7, .int (nI (gg z))), (6, .int (nI (ff z))), (0, .ref h1), (1, .int x1), (2, .int x2), (3, .int (nI t))]) hx hb dX1_yearOfConsuls_91 hl (k := 3) rfl (by exact nI_add _ 1) (by decide) rfl (fun ls hl => ?_)
                    refine lv_goto (tgt := 25) hx hb dX1_yearOfConsuls_94 (by decide) ?_
                    have hq13 : t - pm_cn (pm_N x1 x2 ff gg) z - 1 = t - pm_cn (pm_N x1 x2 ff gg) (z + 1) := by first | (rw [pm_N_00]; omega) | omega
                    exact ih25 (z + 1) _ _ _ (by omega) (by omega) (by omega) (by first | (rw [pm_N_00]; omega) | omega) hP hD hS (by rw [← hq13]; exact lv_sub hl [1, 0, 4, 5, 6, 7] rfl)
                  · -- 85 no
                    refine lv_iload hx hb dX1_yearOfConsuls_88 (lv_at hl 3 rfl) ?_
                    exact hQ _ _ _ _ _ () dX1_yearOfConsuls_90 rfl (by exact Or.inr ⟨z, rfl, by omega, by omega, pm_N_1 (by omega) (by unfold pm_NP; omega), by omega⟩) hP hD hS
            · -- 59 no
              refine lv_iload hx hb dX1_yearOfConsuls_62 (lv_at hl 0 rfl) ?_
              refine lv_iload_n hx hb dX1_yearOfConsuls_64 rfl (lv_at hl 6 rfl) ?_
              refine pi_icmp_eq (tgt := 80) (a := ((gg z : Nat) : Int)) (b := (x2).toInt) hx hb (nI_toInt (by omega)) rfl dX1_yearOfConsuls_65 (by decide) (fun c_14 => ?_) (fun c_14 => ?_)
              · -- 65 yes
                refine lv_iinc (v := (nI (t - pm_cn (pm_N x1 x2 ff gg) z - 1))) (lv' := [(4, .int (nI (t - pm_cn (pm_N x1 x2 ff gg) z - 1))), (7, .int (nI (gg z))), (6, .int (nI (ff z))), (5, .int (nI z)), (0, .ref h1), (1, .int x1), (2, .int x2), (3, .int (nI t))]) hx hb dX1_yearOfConsuls_80 hl (k := 2) rfl (pn_dec (by omega)) (by decide) rfl (fun ls hl => ?_)
                refine lv_iload hx hb dX1_yearOfConsuls_83 (lv_at hl 0 rfl) ?_
                refine pn_if_ne (tgt := 91) hx hb (by omega) dX1_yearOfConsuls_85 (by decide) (fun c_15 => ?_) (fun c_15 => ?_)
                · -- 85 yes
                  refine lv_iinc (v := (nI (z + 1))) (lv' := [(5, .int (nI (z + 1))), (4, .int (nI (t - pm_cn (pm_N x1 x2 ff gg) z - 1))), (7, .int (nI (gg z))), (6, .int (nI (ff z))), (0, .ref h1), (1, .int x1), (2, .int x2), (3, .int (nI t))]) hx hb dX1_yearOfConsuls_91 hl (k := 3) rfl (by exact nI_add _ 1) (by decide) rfl (fun ls hl => ?_)
                  refine lv_goto (tgt := 25) hx hb dX1_yearOfConsuls_94 (by decide) ?_
                  have hq16 : t - pm_cn (pm_N x1 x2 ff gg) z - 1 = t - pm_cn (pm_N x1 x2 ff gg) (z + 1) := by first | (rw [pm_N_00]; omega) | omega
                  exact ih25 (z + 1) _ _ _ (by omega) (by omega) (by omega) (by first | (rw [pm_N_00]; omega) | omega) hP hD hS (by rw [← hq16]; exact lv_sub hl [1, 0, 4, 5, 6, 7] rfl)
                · -- 85 no
                  refine lv_iload hx hb dX1_yearOfConsuls_88 (lv_at hl 3 rfl) ?_
                  exact hQ _ _ _ _ _ () dX1_yearOfConsuls_90 rfl (by exact Or.inr ⟨z, rfl, by omega, by omega, pm_N_1 (by omega) (by unfold pm_NP; omega), by omega⟩) hP hD hS
              · -- 65 no
                refine lv_iload hx hb dX1_yearOfConsuls_68 (lv_at hl 1 rfl) ?_
                refine lv_iload_n hx hb dX1_yearOfConsuls_70 rfl (lv_at hl 6 rfl) ?_
                refine pi_icmp_ne (tgt := 91) (a := ((ff z : Nat) : Int)) (b := (x2).toInt) hx hb (nI_toInt (by omega)) rfl dX1_yearOfConsuls_71 (by decide) (fun c_17 => ?_) (fun c_17 => ?_)
                · -- 71 yes
                  refine lv_iinc (v := (nI (z + 1))) (lv' := [(5, .int (nI (z + 1))), (7, .int (nI (gg z))), (6, .int (nI (ff z))), (4, .int (nI (t - pm_cn (pm_N x1 x2 ff gg) z))), (0, .ref h1), (1, .int x1), (2, .int x2), (3, .int (nI t))]) hx hb dX1_yearOfConsuls_91 hl (k := 3) rfl (by exact nI_add _ 1) (by decide) rfl (fun ls hl => ?_)
                  refine lv_goto (tgt := 25) hx hb dX1_yearOfConsuls_94 (by decide) ?_
                  have hq18 : t - pm_cn (pm_N x1 x2 ff gg) z = t - pm_cn (pm_N x1 x2 ff gg) (z + 1) := by first | (rw [pm_N_00]; omega) | omega
                  exact ih25 (z + 1) _ _ _ (by omega) (by omega) (by omega) (by first | (rw [pm_N_00]; omega) | omega) hP hD hS (by rw [← hq18]; exact lv_sub hl [3, 0, 4, 5, 6, 7] rfl)
                · -- 71 no
                  refine lv_iload hx hb dX1_yearOfConsuls_74 (lv_at hl 0 rfl) ?_
                  refine lv_iload_n hx hb dX1_yearOfConsuls_76 rfl (lv_at hl 5 rfl) ?_
                  refine pi_icmp_ne (tgt := 91) (a := ((gg z : Nat) : Int)) (b := (x1).toInt) hx hb (nI_toInt (by omega)) rfl dX1_yearOfConsuls_77 (by decide) (fun c_19 => ?_) (fun c_19 => ?_)
                  · -- 77 yes
                    refine lv_iinc (v := (nI (z + 1))) (lv' := [(5, .int (nI (z + 1))), (7, .int (nI (gg z))), (6, .int (nI (ff z))), (4, .int (nI (t - pm_cn (pm_N x1 x2 ff gg) z))), (0, .ref h1), (1, .int x1), (2, .int x2), (3, .int (nI t))]) hx hb dX1_yearOfConsuls_91 hl (k := 3) rfl (by exact nI_add _ 1) (by decide) rfl (fun ls hl => ?_)
                    refine lv_goto (tgt := 25) hx hb dX1_yearOfConsuls_94 (by decide) ?_
                    have hq20 : t - pm_cn (pm_N x1 x2 ff gg) z = t - pm_cn (pm_N x1 x2 ff gg) (z + 1) := by first | (rw [pm_N_00]; omega) | omega
                    exact ih25 (z + 1) _ _ _ (by omega) (by omega) (by omega) (by first | (rw [pm_N_00]; omega) | omega) hP hD hS (by rw [← hq20]; exact lv_sub hl [3, 0, 4, 5, 6, 7] rfl)
                  · -- 77 no
                    refine lv_iinc (v := (nI (t - pm_cn (pm_N x1 x2 ff gg) z - 1))) (lv' := [(4, .int (nI (t - pm_cn (pm_N x1 x2 ff gg) z - 1))), (7, .int (nI (gg z))), (6, .int (nI (ff z))), (5, .int (nI z)), (0, .ref h1), (1, .int x1), (2, .int x2), (3, .int (nI t))]) hx hb dX1_yearOfConsuls_80 hl (k := 2) rfl (pn_dec (by omega)) (by decide) rfl (fun ls hl => ?_)
                    refine lv_iload hx hb dX1_yearOfConsuls_83 (lv_at hl 0 rfl) ?_
                    refine pn_if_ne (tgt := 91) hx hb (by omega) dX1_yearOfConsuls_85 (by decide) (fun c_21 => ?_) (fun c_21 => ?_)
                    · -- 85 yes
                      refine lv_iinc (v := (nI (z + 1))) (lv' := [(5, .int (nI (z + 1))), (4, .int (nI (t - pm_cn (pm_N x1 x2 ff gg) z - 1))), (7, .int (nI (gg z))), (6, .int (nI (ff z))), (0, .ref h1), (1, .int x1), (2, .int x2), (3, .int (nI t))]) hx hb dX1_yearOfConsuls_91 hl (k := 3) rfl (by exact nI_add _ 1) (by decide) rfl (fun ls hl => ?_)
                      refine lv_goto (tgt := 25) hx hb dX1_yearOfConsuls_94 (by decide) ?_
                      have hq22 : t - pm_cn (pm_N x1 x2 ff gg) z - 1 = t - pm_cn (pm_N x1 x2 ff gg) (z + 1) := by first | (rw [pm_N_00]; omega) | omega
                      exact ih25 (z + 1) _ _ _ (by omega) (by omega) (by omega) (by first | (rw [pm_N_00]; omega) | omega) hP hD hS (by rw [← hq22]; exact lv_sub hl [1, 0, 4, 5, 6, 7] rfl)
                    · -- 85 no
                      refine lv_iload hx hb dX1_yearOfConsuls_88 (lv_at hl 3 rfl) ?_
                      exact hQ _ _ _ _ _ () dX1_yearOfConsuls_90 rfl (by exact Or.inr ⟨z, rfl, by omega, by omega, pm_N_1 (by omega) (by unfold pm_NP; omega), by omega⟩) hP hD hS
    have hq23 : t = t - pm_cn (pm_N x1 x2 ff gg) 1 := by first | (rw [pm_N_00]; omega) | omega
    exact LP25 _ 1 _ _ _ (Nat.lt_succ_self _) (by omega) (by omega) (by first | (rw [pm_N_00]; omega) | omega) hP hD hS (by rw [← hq23]; exact lv_sub hl [1, 0, 2, 3, 4, 5] rfl)
set_option maxHeartbeats 4000000 in
set_option maxRecDepth 100000 in
theorem k_X1_yearOfConsuls_x (l : Launch) (D : va_G) (h1 bc bf bg : Nat) (cyI : ClassId) (ts : List (ClassId × FieldType)) (th yr mo da : Int32) (mk wr : Nat) (rc ff gg : Nat → Nat) (x1 x2 x3 : Int32) (hy0 : x3.toInt < 1) : pz_I l yX1_yearOfConsuls wsX1_yearOfConsuls ({ frames := 1, cells := 0, slots := 0, locals := 21 } : Room) D ((cyI, .int) :: ts) [.ref h1, .int x1, .int x2, .int x3] [(h1, .inr (1, [.int th, .int yr, .int mo, .int da, .int (nI mk), .ref bc, .ref bf, .ref bg, .int (nI wr)])), (bc, .inl (cyI, 366, .inl (pz_ar rc))), (bf, .inl (cyI, 3001, .inl (pz_ar ff))), (bg, .inl (cyI, 3001, .inl (pz_ar gg)))] (S := Unit) (fun r _ => r = nI 0) (fun _ => [(h1, .inr (1, [.int (nI 1), .int yr, .int mo, .int da, .int (nI mk), .ref bc, .ref bf, .ref bg, .int (nI wr)])), (bc, .inl (cyI, 366, .inl (pz_ar rc))), (bf, .inl (cyI, 3001, .inl (pz_ar ff))), (bg, .inl (cyI, 3001, .inl (pz_ar gg)))]) := by
  refine pz_I_of (cc := cX1_yearOfConsuls) (maxL := 8) (ty := .int) (own := RX1) (by decide) rfl rfl (Nat.le_of_ble_eq_true rfl) ?_
  intro p e s m below meth c A ls Q hx hb hml hown hts hK hP hD hS hA hl hQ
  have hl : lv_has ls 8 [(0, .ref h1), (1, .int x1), (2, .int x2), (3, .int x3)] := hl
  have hin : ∀ w ∈ u_ws RX1 TX1 9, w ∈ wsX1_yearOfConsuls := by decide +kernel
  refine lv_aload_n hx hb dX1_yearOfConsuls_0 rfl (lv_at hl 0 rfl) ?_
  refine lv_iload_n hx hb dX1_yearOfConsuls_1 rfl (lv_at hl 3 rfl) ?_
  refine lv_iconst (v := nI 1) hx hb dX1_yearOfConsuls_2 (by decide) ?_
  refine pi_icmp_lt (tgt := 10) (a := (x3).toInt) (b := ((1 : Nat) : Int)) hx hb rfl (nI_toInt (by omega)) dX1_yearOfConsuls_3 (by decide) (fun c_1 => ?_) (fun c_1 => ?_)
  · -- 3 yes
    refine lv_iconst (v := nI 1) hx hb dX1_yearOfConsuls_10 (by decide) ?_
    refine pz_VI (rest := []) (wr := []) ⟨hx, hb, hml, hown, hts⟩ (k_X1_isFine_k l D h1 bc bf bg cyI ts th yr mo da mk wr rc ff gg 1 (by omega) (by omega)) (cwV 1 hts gX1_yearOfConsuls_X1_isFine rfl rfl rfl (by decide +kernel) ⟨Nat.le_of_ble_eq_true rfl, Nat.le_of_ble_eq_true rfl⟩) hK hP hD hS hA [0, 1, 2, 3] [] rfl rfl rfl rfl rfl (by decide) 0 1 rfl rfl rfl hl.1 rfl (lv_room (Nat.le_of_ble_eq_true rfl)) dX1_yearOfConsuls_11 ⟨Nat.le_of_ble_eq_true rfl, Nat.le_of_ble_eq_true rfl⟩ (fun r u H locs hr hP hD hS => ?_)
    have hP : va_P D vwCl [(h1, .inr (1, [.int (nI 1), .int yr, .int mo, .int da, .int (nI mk), .ref bc, .ref bf, .ref bg, .int (nI wr)])), (bc, .inl (cyI, 366, .inl (pz_ar rc))), (bf, .inl (cyI, 3001, .inl (pz_ar ff))), (bg, .inl (cyI, 3001, .inl (pz_ar gg)))] H := hP
    have hD : va_D A [(h1, .inr (1, [.int (nI 1), .int yr, .int mo, .int da, .int (nI mk), .ref bc, .ref bf, .ref bg, .int (nI wr)])), (bc, .inl (cyI, 366, .inl (pz_ar rc))), (bf, .inl (cyI, 3001, .inl (pz_ar ff))), (bg, .inl (cyI, 3001, .inl (pz_ar gg)))] := hD
    obtain rfl : r = (nI 0) := hr
    refine pn_if_ne (tgt := 19) hx hb (by omega) dX1_yearOfConsuls_14 (by decide) (fun c_3 => absurd c_3 (by decide)) (fun _ => ?_)
    refine lv_iconst (v := nI 0) hx hb dX1_yearOfConsuls_17 (by decide) ?_
    exact hQ _ _ _ _ _ () dX1_yearOfConsuls_18 rfl (congrArg nI (by rfl)) hP hD hS
  · -- 3 no
    exfalso; omega
end PZ8
