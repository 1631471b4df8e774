theorem pg_found {fy fp : Nat → Nat} {i y : Nat} {r : Int32} (hi : i < 60) (he : fy i = y) (hq : fp i ≤ 1000000) (hy1 : 1 ≤ y) (hy : y ≤ 3000) (h : pm_kth (pm_M (nI (fp i % 1000)) (nI (fp i / 1000)) fy fp 60) 1 r) : ∃ fo, r = nI fo ∧ 1 ≤ fo ∧ fo ≤ y := by
  have hM : pm_M (nI (fp i % 1000)) (nI (fp i / 1000)) fy fp 60 y = true := pm_M_iff.mpr ⟨i, hi, he, by omega, Or.inr ⟨(nI_toInt (by omega)).symm, (nI_toInt (by omega)).symm⟩⟩
  have h1 := pm_cn_1 hM
  rcases h with ⟨-, h2⟩ | ⟨y0, h2, h3, h4, h5, h6⟩
  · have h7 := pm_cn_mono (pm_M (nI (fp i % 1000)) (nI (fp i / 1000)) fy fp 60) (a := y + 1) (b := 3001) (by omega)
    omega
  · refine ⟨y0, h2, h3, ?_⟩
    rcases Nat.lt_or_ge y y0 with h8 | h8
    · have h7 := pm_cn_mono (pm_M (nI (fp i % 1000)) (nI (fp i / 1000)) fy fp 60) (a := y + 1) (b := y0) (by omega)
      omega
    · exact h8
section PZG
set_option maxHeartbeats 4000000 in
set_option maxRecDepth 100000 in
theorem k_L_isKept (l : Launch) (D : va_G) (h0 ac ay ap : Nat) (cyI : ClassId) (ts : List (ClassId × FieldType)) (mk : Nat) (ch fy fp : Nat → Nat) (n : Nat) (hy0 : n < 1095750) (hch : ∀ j, j < 365 → ch j ≤ 3) (hmk : mk < 8) : pz_R l yL_isKept wsL_isKept ({ frames := 5, cells := 0, slots := 0, locals := 102 } : Room) D ((cyI, .int) :: ts) [.ref h0, .int (nI n)] [(h0, .inr (0, [.ref ac, .ref ay, .ref ap, .int (nI mk)])), (ac, .inl (cyI, 365, .inl (pz_ar ch))), (ay, .inl (cyI, 60, .inl (pz_ar fy))), (ap, .inl (cyI, 60, .inl (pz_ar fp)))] (fun r => r = nI 1) := by
  refine pz_R_of (cc := cL_isKept) (maxL := 8) (ty := .boolean) (own := RL) (by decide) rfl rfl (Nat.le_of_ble_eq_true rfl) ?_
  intro p e s m below meth c A ls Q hx hb hml hown hts hK hP hD hS hA hl hQ
  have hl : lv_has ls 8 [(0, .ref h0), (1, .int (nI n))] := hl
  have hp0_ := pm_pl_b n
  have hv_ : (pg_i (pm_vt (pm_sh ch) mk n) = 1 ↔ (ch (pm_pl n - 1) = 2 ∧ ¬ n % 8 = mk)) ∧ pg_i (pm_vt (pm_sh ch) mk n) ≤ 1 := pg_if _
  have hk0_ := pg_if (n % 8 = mk)
  have hk8_ := pg_if ((n - 8) % 8 = mk)
  refine lv_aload_n hx hb dL_isKept_0 rfl (lv_at hl 0 rfl) ?_
  refine lv_iload_n hx hb dL_isKept_1 rfl (lv_at hl 1 rfl) ?_
  refine pz_VR (rest := []) ⟨hx, hb, hml, hown, hts⟩ (k_X0_characterOf l D h0 ac ay ap cyI ts mk ch fy fp n (by first | omega | rfl | exact hmk | exact hch)) (cwV 1 hts gL_isKept_X0_characterOf rfl rfl rfl (by decide +kernel) ⟨Nat.le_of_ble_eq_true rfl, Nat.le_of_ble_eq_true rfl⟩) hK hP hD hS hA [0, 1, 2, 3] rfl rfl rfl 0 0 rfl rfl rfl hl.1 rfl (lv_room (Nat.le_of_ble_eq_true rfl)) dL_isKept_2 ⟨Nat.le_of_ble_eq_true rfl, Nat.le_of_ble_eq_true rfl⟩ (fun r H locs hr hP hS => ?_)
  obtain rfl : r = (nI (ch (pm_pl n - 1))) := hr
  have hb_1 := hch (pm_pl n - 1) (by omega)
  refine lv_istore_n (lv' := [(2, .int (nI (ch (pm_pl n - 1)))), (0, .ref h0), (1, .int (nI n))]) hx hb dL_isKept_5 rfl hl (by decide) rfl (fun ls hl => ?_)
  refine lv_aload_n hx hb dL_isKept_6 rfl (lv_at hl 1 rfl) ?_
  refine lv_iload_n hx hb dL_isKept_7 rfl (lv_at hl 2 rfl) ?_
  refine pz_VR (rest := []) ⟨hx, hb, hml, hown, hts⟩ (k_X0_nextCourt l D h0 ac ay ap cyI ts mk ch fy fp n (by omega) (by exact hch)) (cwV 1 hts gL_isKept_X0_nextCourt rfl rfl rfl (by decide +kernel) ⟨Nat.le_of_ble_eq_true rfl, Nat.le_of_ble_eq_true rfl⟩) hK hP hD hS hA [0, 1, 2, 3] rfl rfl rfl 0 0 rfl rfl rfl hl.1 rfl (lv_room (Nat.le_of_ble_eq_true rfl)) dL_isKept_8 ⟨Nat.le_of_ble_eq_true rfl, Nat.le_of_ble_eq_true rfl⟩ (fun r H locs hr hP hS => ?_)
  have hr_2 : (fun r => (∃ d, n ≤ d ∧ d < 1095750 ∧ d < n + 366 ∧ r = nI d ∧ (ch (pm_pl d - 1) = 0 ∨ ch (pm_pl d - 1) = 2) ∧ ∀ z, n ≤ z → z < d → ¬ (ch (pm_pl z - 1) = 0 ∨ ch (pm_pl z - 1) = 2)) ∨ (r = (-1) ∧ ∀ z, n ≤ z → z < 1095750 → z < n + 366 → ¬ (ch (pm_pl z - 1) = 0 ∨ ch (pm_pl z - 1) = 2))) r := hr
  obtain ⟨r_2, er_2⟩ : ∃ z, z = r := ⟨_, rfl⟩
  subst er_2
  clear hr
  rcases hr_2 with ⟨d0, hd1, hd2, hd3, hd4, hd5, hd6⟩ | ⟨hd4, hd6⟩
  · -- a court
    subst hd4
    have J72 : ∀ (H : Heap) (locs : List Loc) (ls : Array Slot), va_P D vwCl [(h0, .inr (0, [.ref ac, .ref ay, .ref ap, .int (nI mk)])), (ac, .inl (cyI, 365, .inl (pz_ar ch))), (ay, .inl (cyI, 60, .inl (pz_ar fy))), (ap, .inl (cyI, 60, .inl (pz_ar fp)))] H → va_S A s.heap H locs → lv_has ls 8 [(0, .ref h0), (1, .int (nI n)), (3, .int (nI d0)), (4, .int (nI 1))] → W p l e ({ frames := 5, cells := 0, slots := 0, locals := 102 } : Room) s m ([.ref h0, .int (nI n)] : List Value).toArray below meth c H locs 0 0 Q (F0 m 72 ls []) := by
      intro H locs ls hP hS hl
      refine lv_iload_n hx hb dL_isKept_72 rfl (lv_at hl 1 rfl) ?_
      refine lv_istore (lv' := [(5, .int (nI n)), (0, .ref h0), (1, .int (nI n)), (3, .int (nI d0)), (4, .int (nI 1))]) hx hb dL_isKept_73 hl (by decide) rfl (fun ls hl => ?_)
      have LP75 : ∀ (N : Nat) (d : Nat) (H : Heap) (locs : List Loc) (ls : Array Slot), n + 12 - d < N → (n ≤ d) → (d ≤ n + 12) → va_P D vwCl [(h0, .inr (0, [.ref ac, .ref ay, .ref ap, .int (nI mk)])), (ac, .inl (cyI, 365, .inl (pz_ar ch))), (ay, .inl (cyI, 60, .inl (pz_ar fy))), (ap, .inl (cyI, 60, .inl (pz_ar fp)))] H → va_S A s.heap H locs → lv_has ls 8 [(5, .int (nI d)), (0, .ref h0), (1, .int (nI n)), (3, .int (nI d0)), (4, .int (nI 1))] → W p l e ({ frames := 5, cells := 0, slots := 0, locals := 102 } : Room) s m ([.ref h0, .int (nI n)] : List Value).toArray below meth c H locs 0 0 Q (F0 m 75 ls []) := by
        intro N
        induction N with
        | zero => intro d H locs ls hN; exact absurd hN (Nat.not_lt_zero _)
        | succ N ih =>
          intro d H locs ls hN hi75_0 hi75_1 hP hS hl
          have hz_0 := hd6 d
          have hpd_0 := pm_pl_b d
          have ih75 := ih
          refine lv_iload hx hb dL_isKept_75 (lv_at hl 0 rfl) ?_
          refine lv_iload_n hx hb dL_isKept_77 rfl (lv_at hl 2 rfl) ?_
          refine lv_bipush (v := nI 12) hx hb dL_isKept_78 (by decide) ?_
          refine pn_iadd hx hb dL_isKept_80 ?_
          refine pn_icmp_ge (tgt := 185) hx hb (by first | omega | rfl | exact hmk | exact hch) (by first | omega | rfl | exact hmk | exact hch) dL_isKept_81 (by decide) (fun c_3 => ?_) (fun c_3 => ?_)
          · -- 81 yes
            refine lv_iload hx hb dL_isKept_185 (lv_at hl 4 rfl) ?_
            exact hQ _ _ _ _ _ dL_isKept_187 (by decide) (congrArg nI (by rfl)) hS
          · -- 81 no
            refine lv_iload hx hb dL_isKept_84 (lv_at hl 0 rfl) ?_
            refine lv_aload_n hx hb dL_isKept_86 rfl (lv_at hl 1 rfl) ?_
            refine pz_VR (rest := [.int (nI d)]) ⟨hx, hb, hml, hown, hts⟩ (k_X0_days l D h0 ac ay ap cyI ts mk ch fy fp  ) (cwV 0 hts gL_isKept_X0_days rfl rfl rfl (by decide +kernel) ⟨Nat.le_of_ble_eq_true rfl, Nat.le_of_ble_eq_true rfl⟩) hK hP hD hS hA [0, 1, 2, 3] rfl rfl rfl 0 0 rfl rfl rfl hl.1 rfl (lv_room (Nat.le_of_ble_eq_true rfl)) dL_isKept_87 ⟨Nat.le_of_ble_eq_true rfl, Nat.le_of_ble_eq_true rfl⟩ (fun r H locs hr hP hS => ?_)
            obtain rfl : r = (nI 1095750) := hr
            refine pn_icmp_ge (tgt := 185) hx hb (by first | omega | rfl | exact hmk | exact hch) (by first | omega | rfl | exact hmk | exact hch) dL_isKept_90 (by decide) (fun c_5 => ?_) (fun c_5 => ?_)
            · -- 90 yes
              refine lv_iload hx hb dL_isKept_185 (lv_at hl 4 rfl) ?_
              exact hQ _ _ _ _ _ dL_isKept_187 (by decide) (congrArg nI (by rfl)) hS
            · -- 90 no
              refine lv_iload hx hb dL_isKept_93 (lv_at hl 4 rfl) ?_
              refine pn_if_eq (tgt := 185) hx hb (by first | omega | rfl | exact hmk | exact hch) dL_isKept_95 (by decide) (fun c_6 => absurd c_6 (by decide)) (fun _ => ?_)
              refine lv_aload_n hx hb dL_isKept_98 rfl (lv_at hl 1 rfl) ?_
              refine lv_iload hx hb dL_isKept_99 (lv_at hl 0 rfl) ?_
              refine pz_VR (rest := []) ⟨hx, hb, hml, hown, hts⟩ (k_X0_characterOf l D h0 ac ay ap cyI ts mk ch fy fp d (by first | omega | rfl | exact hmk | exact hch)) (cwV 1 hts gL_isKept_X0_characterOf rfl rfl rfl (by decide +kernel) ⟨Nat.le_of_ble_eq_true rfl, Nat.le_of_ble_eq_true rfl⟩) hK hP hD hS hA [0, 1, 2, 3] rfl rfl rfl 0 0 rfl rfl rfl hl.1 rfl (lv_room (Nat.le_of_ble_eq_true rfl)) dL_isKept_101 ⟨Nat.le_of_ble_eq_true rfl, Nat.le_of_ble_eq_true rfl⟩ (fun r H locs hr hP hS => ?_)
              obtain rfl : r = (nI (ch (pm_pl d - 1))) := hr
              have hb_7 := hch (pm_pl d - 1) (by omega)
              refine lv_istore (lv' := [(6, .int (nI (ch (pm_pl d - 1)))), (5, .int (nI d)), (0, .ref h0), (1, .int (nI n)), (3, .int (nI d0)), (4, .int (nI 1))]) hx hb dL_isKept_104 hl (by decide) rfl (fun ls hl => ?_)
              refine lv_iload hx hb dL_isKept_106 (lv_at hl 0 rfl) ?_
              refine pn_if_eq (tgt := 117) hx hb (by first | omega | rfl | exact hmk | exact hch) dL_isKept_108 (by decide) (fun c_8 => ?_) (fun c_8 => ?_)
              · -- 108 yes
                refine lv_iconst (v := nI 1) hx hb dL_isKept_117 (by decide) ?_
                refine lv_goto (tgt := 122) hx hb dL_isKept_118 (by decide) ?_
                refine lv_istore (lv' := [(7, .int (nI 1)), (6, .int (nI (ch (pm_pl d - 1)))), (5, .int (nI d)), (0, .ref h0), (1, .int (nI n)), (3, .int (nI d0)), (4, .int (nI 1))]) hx hb dL_isKept_122 hl (by decide) rfl (fun ls hl => ?_)
                refine lv_iload_n hx hb dL_isKept_124 rfl (lv_at hl 5 rfl) ?_
                refine lv_iconst (v := (-1 : Int32)) hx hb dL_isKept_125 (by decide) ?_
                refine pi_icmp_ne (tgt := 142) (a := ((d0 : Nat) : Int)) (b := (-1)) hx hb (nI_toInt (by first | omega | rfl | exact hmk | exact hch)) (by decide) dL_isKept_126 (by decide) (fun c_9 => ?_) (fun c_9 => ?_)
                · -- 126 yes
                  refine lv_iload hx hb dL_isKept_142 (lv_at hl 2 rfl) ?_
                  refine lv_iload_n hx hb dL_isKept_144 rfl (lv_at hl 5 rfl) ?_
                  refine pn_icmp_ge (tgt := 161) hx hb (by first | omega | rfl | exact hmk | exact hch) (by first | omega | rfl | exact hmk | exact hch) dL_isKept_145 (by decide) (fun c_10 => ?_) (fun c_10 => ?_)
                  · -- 145 yes
                    refine lv_iload hx hb dL_isKept_161 (lv_at hl 2 rfl) ?_
                    refine lv_iload_n hx hb dL_isKept_163 rfl (lv_at hl 5 rfl) ?_
                    refine pn_icmp_gt (tgt := 172) hx hb (by first | omega | rfl | exact hmk | exact hch) (by first | omega | rfl | exact hmk | exact hch) dL_isKept_164 (by decide) (fun c_11 => ?_) (fun c_11 => ?_)
                    · -- 164 yes
                      refine lv_iconst (v := nI 1) hx hb dL_isKept_172 (by decide) ?_
                      refine lv_goto (tgt := 177) hx hb dL_isKept_173 (by decide) ?_
                      refine lv_istore (lv' := [(4, .int (nI 1)), (7, .int (nI 1)), (6, .int (nI (ch (pm_pl d - 1)))), (5, .int (nI d)), (0, .ref h0), (1, .int (nI n)), (3, .int (nI d0))]) hx hb dL_isKept_177 hl (by decide) rfl (fun ls hl => ?_)
                      refine lv_iinc (v := (nI (d + 1))) (lv' := [(5, .int (nI (d + 1))), (4, .int (nI 1)), (7, .int (nI 1)), (6, .int (nI (ch (pm_pl d - 1)))), (0, .ref h0), (1, .int (nI n)), (3, .int (nI d0))]) hx hb dL_isKept_179 hl (k := 3) rfl (by exact nI_add _ 1) (by decide) rfl (fun ls hl => ?_)
                      refine lv_goto (tgt := 75) hx hb dL_isKept_182 (by decide) ?_
                      exact ih75 (d + 1) _ _ _ (by first | omega | rfl | exact hmk | exact hch) (by first | omega | rfl | exact hmk | exact hch) (by first | omega | rfl | exact hmk | exact hch) hP hS (lv_sub hl [0, 4, 5, 6, 1] rfl)
                    · -- 164 no
                      refine lv_iload hx hb dL_isKept_167 (lv_at hl 0 rfl) ?_
                      refine pn_if_eq (tgt := 176) hx hb (by first | omega | rfl | exact hmk | exact hch) dL_isKept_169 (by decide) (fun c_12 => absurd c_12 (by decide)) (fun _ => ?_)
                      refine lv_iconst (v := nI 1) hx hb dL_isKept_172 (by decide) ?_
                      refine lv_goto (tgt := 177) hx hb dL_isKept_173 (by decide) ?_
                      refine lv_istore (lv' := [(4, .int (nI 1)), (7, .int (nI 1)), (6, .int (nI (ch (pm_pl d - 1)))), (5, .int (nI d)), (0, .ref h0), (1, .int (nI n)), (3, .int (nI d0))]) hx hb dL_isKept_177 hl (by decide) rfl (fun ls hl => ?_)
                      refine lv_iinc (v := (nI (d + 1))) (lv' := [(5, .int (nI (d + 1))), (4, .int (nI 1)), (7, .int (nI 1)), (6, .int (nI (ch (pm_pl d - 1)))), (0, .ref h0), (1, .int (nI n)), (3, .int (nI d0))]) hx hb dL_isKept_179 hl (k := 3) rfl (by exact nI_add _ 1) (by decide) rfl (fun ls hl => ?_)
                      refine lv_goto (tgt := 75) hx hb dL_isKept_182 (by decide) ?_
                      exact ih75 (d + 1) _ _ _ (by first | omega | rfl | exact hmk | exact hch) (by first | omega | rfl | exact hmk | exact hch) (by first | omega | rfl | exact hmk | exact hch) hP hS (lv_sub hl [0, 4, 5, 6, 1] rfl)
                  · -- 145 no
                    refine lv_iload hx hb dL_isKept_148 (lv_at hl 0 rfl) ?_
                    refine pn_if_ne (tgt := 157) hx hb (by first | omega | rfl | exact hmk | exact hch) dL_isKept_150 (by decide) (fun _ => ?_) (fun c_13 => absurd c_13 (by decide))
                    exfalso; omega
                · -- 126 no
                  refine lv_iload hx hb dL_isKept_129 (lv_at hl 0 rfl) ?_
                  refine pn_if_ne (tgt := 138) hx hb (by first | omega | rfl | exact hmk | exact hch) dL_isKept_131 (by decide) (fun _ => ?_) (fun c_14 => absurd c_14 (by decide))
                  exfalso; omega
              · -- 108 no
                refine lv_iload hx hb dL_isKept_111 (lv_at hl 0 rfl) ?_
                refine lv_iconst (v := nI 2) hx hb dL_isKept_113 (by decide) ?_
                refine pn_icmp_ne (tgt := 121) hx hb (by first | omega | rfl | exact hmk | exact hch) (by first | omega | rfl | exact hmk | exact hch) dL_isKept_114 (by decide) (fun c_15 => ?_) (fun c_15 => ?_)
                · -- 114 yes
                  refine lv_iconst (v := nI 0) hx hb dL_isKept_121 (by decide) ?_
                  refine lv_istore (lv' := [(7, .int (nI 0)), (6, .int (nI (ch (pm_pl d - 1)))), (5, .int (nI d)), (0, .ref h0), (1, .int (nI n)), (3, .int (nI d0)), (4, .int (nI 1))]) hx hb dL_isKept_122 hl (by decide) rfl (fun ls hl => ?_)
                  refine lv_iload_n hx hb dL_isKept_124 rfl (lv_at hl 5 rfl) ?_
                  refine lv_iconst (v := (-1 : Int32)) hx hb dL_isKept_125 (by decide) ?_
                  refine pi_icmp_ne (tgt := 142) (a := ((d0 : Nat) : Int)) (b := (-1)) hx hb (nI_toInt (by first | omega | rfl | exact hmk | exact hch)) (by decide) dL_isKept_126 (by decide) (fun c_16 => ?_) (fun c_16 => ?_)
                  · -- 126 yes
                    refine lv_iload hx hb dL_isKept_142 (lv_at hl 2 rfl) ?_
                    refine lv_iload_n hx hb dL_isKept_144 rfl (lv_at hl 5 rfl) ?_
                    refine pn_icmp_ge (tgt := 161) hx hb (by first | omega | rfl | exact hmk | exact hch) (by first | omega | rfl | exact hmk | exact hch) dL_isKept_145 (by decide) (fun c_17 => ?_) (fun c_17 => ?_)
                    · -- 145 yes
                      refine lv_iload hx hb dL_isKept_161 (lv_at hl 2 rfl) ?_
                      refine lv_iload_n hx hb dL_isKept_163 rfl (lv_at hl 5 rfl) ?_
                      refine pn_icmp_gt (tgt := 172) hx hb (by first | omega | rfl | exact hmk | exact hch) (by first | omega | rfl | exact hmk | exact hch) dL_isKept_164 (by decide) (fun c_18 => ?_) (fun c_18 => ?_)
                      · -- 164 yes
                        refine lv_iconst (v := nI 1) hx hb dL_isKept_172 (by decide) ?_
                        refine lv_goto (tgt := 177) hx hb dL_isKept_173 (by decide) ?_
                        refine lv_istore (lv' := [(4, .int (nI 1)), (7, .int (nI 0)), (6, .int (nI (ch (pm_pl d - 1)))), (5, .int (nI d)), (0, .ref h0), (1, .int (nI n)), (3, .int (nI d0))]) hx hb dL_isKept_177 hl (by decide) rfl (fun ls hl => ?_)
                        refine lv_iinc (v := (nI (d + 1))) (lv' := [(5, .int (nI (d + 1))), (4, .int (nI 1)), (7, .int (nI 0)), (6, .int (nI (ch (pm_pl d - 1)))), (0, .ref h0), (1, .int (nI n)), (3, .int (nI d0))]) hx hb dL_isKept_179 hl (k := 3) rfl (by exact nI_add _ 1) (by decide) rfl (fun ls hl => ?_)
                        refine lv_goto (tgt := 75) hx hb dL_isKept_182 (by decide) ?_
                        exact ih75 (d + 1) _ _ _ (by first | omega | rfl | exact hmk | exact hch) (by first | omega | rfl | exact hmk | exact hch) (by first | omega | rfl | exact hmk | exact hch) hP hS (lv_sub hl [0, 4, 5, 6, 1] rfl)
                      · -- 164 no
                        refine lv_iload hx hb dL_isKept_167 (lv_at hl 0 rfl) ?_
                        refine pn_if_eq (tgt := 176) hx hb (by first | omega | rfl | exact hmk | exact hch) dL_isKept_169 (by decide) (fun _ => ?_) (fun c_19 => absurd c_19 (by decide))
                        exfalso
                        first | omega | ((have h9 : d = d0 := by omega); subst h9; omega)
                    · -- 145 no
                      refine lv_iload hx hb dL_isKept_148 (lv_at hl 0 rfl) ?_
                      refine pn_if_ne (tgt := 157) hx hb (by first | omega | rfl | exact hmk | exact hch) dL_isKept_150 (by decide) (fun c_20 => absurd c_20 (by decide)) (fun _ => ?_)
                      refine lv_iconst (v := nI 1) hx hb dL_isKept_153 (by decide) ?_
                      refine lv_goto (tgt := 177) hx hb dL_isKept_154 (by decide) ?_
                      refine lv_istore (lv' := [(4, .int (nI 1)), (7, .int (nI 0)), (6, .int (nI (ch (pm_pl d - 1)))), (5, .int (nI d)), (0, .ref h0), (1, .int (nI n)), (3, .int (nI d0))]) hx hb dL_isKept_177 hl (by decide) rfl (fun ls hl => ?_)
                      refine lv_iinc (v := (nI (d + 1))) (lv' := [(5, .int (nI (d + 1))), (4, .int (nI 1)), (7, .int (nI 0)), (6, .int (nI (ch (pm_pl d - 1)))), (0, .ref h0), (1, .int (nI n)), (3, .int (nI d0))]) hx hb dL_isKept_179 hl (k := 3) rfl (by exact nI_add _ 1) (by decide) rfl (fun ls hl => ?_)
                      refine lv_goto (tgt := 75) hx hb dL_isKept_182 (by decide) ?_
                      exact ih75 (d + 1) _ _ _ (by first | omega | rfl | exact hmk | exact hch) (by first | omega | rfl | exact hmk | exact hch) (by first | omega | rfl | exact hmk | exact hch) hP hS (lv_sub hl [0, 4, 5, 6, 1] rfl)
                  · -- 126 no
                    refine lv_iload hx hb dL_isKept_129 (lv_at hl 0 rfl) ?_
                    refine pn_if_ne (tgt := 138) hx hb (by first | omega | rfl | exact hmk | exact hch) dL_isKept_131 (by decide) (fun c_21 => absurd c_21 (by decide)) (fun _ => ?_)
                    refine lv_iconst (v := nI 1) hx hb dL_isKept_134 (by decide) ?_
                    refine lv_goto (tgt := 177) hx hb dL_isKept_135 (by decide) ?_
                    refine lv_istore (lv' := [(4, .int (nI 1)), (7, .int (nI 0)), (6, .int (nI (ch (pm_pl d - 1)))), (5, .int (nI d)), (0, .ref h0), (1, .int (nI n)), (3, .int (nI d0))]) hx hb dL_isKept_177 hl (by decide) rfl (fun ls hl => ?_)
                    refine lv_iinc (v := (nI (d + 1))) (lv' := [(5, .int (nI (d + 1))), (4, .int (nI 1)), (7, .int (nI 0)), (6, .int (nI (ch (pm_pl d - 1)))), (0, .ref h0), (1, .int (nI n)), (3, .int (nI d0))]) hx hb dL_isKept_179 hl (k := 3) rfl (by exact nI_add _ 1) (by decide) rfl (fun ls hl => ?_)
                    refine lv_goto (tgt := 75) hx hb dL_isKept_182 (by decide) ?_
                    exact ih75 (d + 1) _ _ _ (by first | omega | rfl | exact hmk | exact hch) (by first | omega | rfl | exact hmk | exact hch) (by first | omega | rfl | exact hmk | exact hch) hP hS (lv_sub hl [0, 4, 5, 6, 1] rfl)
                · -- 114 no
                  refine lv_iconst (v := nI 1) hx hb dL_isKept_117 (by decide) ?_
                  refine lv_goto (tgt := 122) hx hb dL_isKept_118 (by decide) ?_
                  refine lv_istore (lv' := [(7, .int (nI 1)), (6, .int (nI (ch (pm_pl d - 1)))), (5, .int (nI d)), (0, .ref h0), (1, .int (nI n)), (3, .int (nI d0)), (4, .int (nI 1))]) hx hb dL_isKept_122 hl (by decide) rfl (fun ls hl => ?_)
                  refine lv_iload_n hx hb dL_isKept_124 rfl (lv_at hl 5 rfl) ?_
                  refine lv_iconst (v := (-1 : Int32)) hx hb dL_isKept_125 (by decide) ?_
                  refine pi_icmp_ne (tgt := 142) (a := ((d0 : Nat) : Int)) (b := (-1)) hx hb (nI_toInt (by first | omega | rfl | exact hmk | exact hch)) (by decide) dL_isKept_126 (by decide) (fun c_22 => ?_) (fun c_22 => ?_)
                  · -- 126 yes
                    refine lv_iload hx hb dL_isKept_142 (lv_at hl 2 rfl) ?_
                    refine lv_iload_n hx hb dL_isKept_144 rfl (lv_at hl 5 rfl) ?_
                    refine pn_icmp_ge (tgt := 161) hx hb (by first | omega | rfl | exact hmk | exact hch) (by first | omega | rfl | exact hmk | exact hch) dL_isKept_145 (by decide) (fun c_23 => ?_) (fun c_23 => ?_)
                    · -- 145 yes
                      refine lv_iload hx hb dL_isKept_161 (lv_at hl 2 rfl) ?_
                      refine lv_iload_n hx hb dL_isKept_163 rfl (lv_at hl 5 rfl) ?_
                      refine pn_icmp_gt (tgt := 172) hx hb (by first | omega | rfl | exact hmk | exact hch) (by first | omega | rfl | exact hmk | exact hch) dL_isKept_164 (by decide) (fun c_24 => ?_) (fun c_24 => ?_)
                      · -- 164 yes
                        refine lv_iconst (v := nI 1) hx hb dL_isKept_172 (by decide) ?_
                        refine lv_goto (tgt := 177) hx hb dL_isKept_173 (by decide) ?_
                        refine lv_istore (lv' := [(4, .int (nI 1)), (7, .int (nI 1)), (6, .int (nI (ch (pm_pl d - 1)))), (5, .int (nI d)), (0, .ref h0), (1, .int (nI n)), (3, .int (nI d0))]) hx hb dL_isKept_177 hl (by decide) rfl (fun ls hl => ?_)
                        refine lv_iinc (v := (nI (d + 1))) (lv' := [(5, .int (nI (d + 1))), (4, .int (nI 1)), (7, .int (nI 1)), (6, .int (nI (ch (pm_pl d - 1)))), (0, .ref h0), (1, .int (nI n)), (3, .int (nI d0))]) hx hb dL_isKept_179 hl (k := 3) rfl (by exact nI_add _ 1) (by decide) rfl (fun ls hl => ?_)
                        refine lv_goto (tgt := 75) hx hb dL_isKept_182 (by decide) ?_
                        exact ih75 (d + 1) _ _ _ (by first | omega | rfl | exact hmk | exact hch) (by first | omega | rfl | exact hmk | exact hch) (by first | omega | rfl | exact hmk | exact hch) hP hS (lv_sub hl [0, 4, 5, 6, 1] rfl)
                      · -- 164 no
                        refine lv_iload hx hb dL_isKept_167 (lv_at hl 0 rfl) ?_
                        refine pn_if_eq (tgt := 176) hx hb (by first | omega | rfl | exact hmk | exact hch) dL_isKept_169 (by decide) (fun c_25 => absurd c_25 (by decide)) (fun _ => ?_)
                        refine lv_iconst (v := nI 1) hx hb dL_isKept_172 (by decide) ?_
                        refine lv_goto (tgt := 177) hx hb dL_isKept_173 (by decide) ?_
                        refine lv_istore (lv' := [(4, .int (nI 1)), (7, .int (nI 1)), (6, .int (nI (ch (pm_pl d - 1)))), (5, .int (nI d)), (0, .ref h0), (1, .int (nI n)), (3, .int (nI d0))]) hx hb dL_isKept_177 hl (by decide) rfl (fun ls hl => ?_)
                        refine lv_iinc (v := (nI (d + 1))) (lv' := [(5, .int (nI (d + 1))), (4, .int (nI 1)), (7, .int (nI 1)), (6, .int (nI (ch (pm_pl d - 1)))), (0, .ref h0), (1, .int (nI n)), (3, .int (nI d0))]) hx hb dL_isKept_179 hl (k := 3) rfl (by exact nI_add _ 1) (by decide) rfl (fun ls hl => ?_)
                        refine lv_goto (tgt := 75) hx hb dL_isKept_182 (by decide) ?_
                        exact ih75 (d + 1) _ _ _ (by first | omega | rfl | exact hmk | exact hch) (by first | omega | rfl | exact hmk | exact hch) (by first | omega | rfl | exact hmk | exact hch) hP hS (lv_sub hl [0, 4, 5, 6, 1] rfl)
                    · -- 145 no
                      refine lv_iload hx hb dL_isKept_148 (lv_at hl 0 rfl) ?_
                      refine pn_if_ne (tgt := 157) hx hb (by first | omega | rfl | exact hmk | exact hch) dL_isKept_150 (by decide) (fun _ => ?_) (fun c_26 => absurd c_26 (by decide))
                      exfalso; omega
                  · -- 126 no
                    refine lv_iload hx hb dL_isKept_129 (lv_at hl 0 rfl) ?_
                    refine pn_if_ne (tgt := 138) hx hb (by first | omega | rfl | exact hmk | exact hch) dL_isKept_131 (by decide) (fun _ => ?_) (fun c_27 => absurd c_27 (by decide))
                    exfalso; omega
      exact LP75 _ n _ _ _ (Nat.lt_succ_self _) (by first | omega | rfl | exact hmk | exact hch) (by first | omega | rfl | exact hmk | exact hch) hP hS (lv_sub hl [0, 1, 2, 3, 4] rfl)
    refine lv_istore_n (lv' := [(3, .int (nI d0)), (2, .int (nI (ch (pm_pl n - 1)))), (0, .ref h0), (1, .int (nI n))]) hx hb dL_isKept_11 rfl hl (by decide) rfl (fun ls hl => ?_)
    refine lv_aload_n hx hb dL_isKept_12 rfl (lv_at hl 2 rfl) ?_
    refine lv_iload_n hx hb dL_isKept_13 rfl (lv_at hl 3 rfl) ?_
    refine pz_VR (rest := []) ⟨hx, hb, hml, hown, hts⟩ (k_X0_canVote l D h0 ac ay ap cyI ts mk ch fy fp n (by omega) (by exact hch) (by exact hmk)) (cwV 1 hts gL_isKept_X0_canVote rfl rfl rfl (by decide +kernel) ⟨Nat.le_of_ble_eq_true rfl, Nat.le_of_ble_eq_true rfl⟩) hK hP hD hS hA [0, 1, 2, 3] rfl rfl rfl 0 0 rfl rfl rfl hl.1 rfl (lv_room (Nat.le_of_ble_eq_true rfl)) dL_isKept_14 ⟨Nat.le_of_ble_eq_true rfl, Nat.le_of_ble_eq_true rfl⟩ (fun r H locs hr hP hS => ?_)
    obtain rfl : r = (pz_b (pm_vt (pm_sh ch) mk n)) := hr
    refine pn_top (y := nI (pg_i (pm_vt (pm_sh ch) mk n))) (pg_ib (pm_vt (pm_sh ch) mk n)) ?_
    refine lv_iload_n hx hb dL_isKept_17 rfl (lv_at hl 1 rfl) ?_
    refine lv_iconst (v := nI 2) hx hb dL_isKept_18 (by decide) ?_
    refine pn_icmp_ne (tgt := 34) hx hb (by first | omega | rfl | exact hmk | exact hch) (by first | omega | rfl | exact hmk | exact hch) dL_isKept_19 (by decide) (fun c_29 => ?_) (fun c_29 => ?_)
    · -- 19 yes
      refine lv_iconst (v := nI 0) hx hb dL_isKept_34 (by decide) ?_
      refine pn_icmp_ne (tgt := 69) hx hb (by first | omega | rfl | exact hmk | exact hch) (by first | omega | rfl | exact hmk | exact hch) dL_isKept_35 (by decide) (fun c_30 => ?_) (fun c_30 => ?_)
      · -- 35 yes
        exfalso; omega
      · -- 35 no
        refine lv_iload_n hx hb dL_isKept_38 rfl (lv_at hl 3 rfl) ?_
        refine lv_bipush (v := nI 8) hx hb dL_isKept_39 (by decide) ?_
        refine pn_icmp_lt (tgt := 60) hx hb (by first | omega | rfl | exact hmk | exact hch) (by first | omega | rfl | exact hmk | exact hch) dL_isKept_41 (by decide) (fun c_31 => ?_) (fun c_31 => ?_)
        · -- 41 yes
          refine lv_iload_n hx hb dL_isKept_60 rfl (lv_at hl 0 rfl) ?_
          refine lv_iconst (v := (-1 : Int32)) hx hb dL_isKept_61 (by decide) ?_
          refine pi_icmp_lt (tgt := 69) (a := ((d0 : Nat) : Int)) (b := (-1)) hx hb (nI_toInt (by first | omega | rfl | exact hmk | exact hch)) (by decide) dL_isKept_62 (by decide) (fun c_32 => ?_) (fun c_32 => ?_)
          · -- 62 yes
            exfalso; omega
          · -- 62 no
            refine lv_iconst (v := nI 1) hx hb dL_isKept_65 (by decide) ?_
            refine lv_goto (tgt := 70) hx hb dL_isKept_66 (by decide) ?_
            refine lv_istore (lv' := [(4, .int (nI 1)), (3, .int (nI d0)), (2, .int (nI (ch (pm_pl n - 1)))), (0, .ref h0), (1, .int (nI n))]) hx hb dL_isKept_70 hl (by decide) rfl (fun ls hl => ?_)
            exact J72 H _ ls hP hS (lv_sub hl [3, 4, 1, 0] rfl)
        · -- 41 no
          refine lv_aload_n hx hb dL_isKept_44 rfl (lv_at hl 2 rfl) ?_
          refine lv_iload_n hx hb dL_isKept_45 rfl (lv_at hl 3 rfl) ?_
          refine pz_VR (rest := []) ⟨hx, hb, hml, hown, hts⟩ (k_X0_isMarket l D h0 ac ay ap cyI ts mk ch fy fp n (by first | omega | rfl | exact hmk | exact hch) (by first | omega | rfl | exact hmk | exact hch)) (cwV 1 hts gL_isKept_X0_isMarket rfl rfl rfl (by decide +kernel) ⟨Nat.le_of_ble_eq_true rfl, Nat.le_of_ble_eq_true rfl⟩) hK hP hD hS hA [0, 1, 2, 3] rfl rfl rfl 0 0 rfl rfl rfl hl.1 rfl (lv_room (Nat.le_of_ble_eq_true rfl)) dL_isKept_46 ⟨Nat.le_of_ble_eq_true rfl, Nat.le_of_ble_eq_true rfl⟩ (fun r H locs hr hP hS => ?_)
          obtain rfl : r = (pz_b (n % 8 = mk)) := hr
          refine pn_top (y := nI (pg_i (n % 8 = mk))) (pg_ib (n % 8 = mk)) ?_
          refine lv_aload_n hx hb dL_isKept_49 rfl (lv_at hl 2 rfl) ?_
          refine lv_iload_n hx hb dL_isKept_50 rfl (lv_at hl 3 rfl) ?_
          refine lv_bipush (v := nI 8) hx hb dL_isKept_51 (by decide) ?_
          refine pn_isub hx hb (by first | omega | rfl | exact hmk | exact hch) dL_isKept_53 ?_
          refine pz_VR (rest := [.int (nI (pg_i (n % 8 = mk)))]) ⟨hx, hb, hml, hown, hts⟩ (k_X0_isMarket l D h0 ac ay ap cyI ts mk ch fy fp (n - 8) (by first | omega | rfl | exact hmk | exact hch) (by first | omega | rfl | exact hmk | exact hch)) (cwV 1 hts gL_isKept_X0_isMarket rfl rfl rfl (by decide +kernel) ⟨Nat.le_of_ble_eq_true rfl, Nat.le_of_ble_eq_true rfl⟩) hK hP hD hS hA [0, 1, 2, 3] rfl rfl rfl 0 0 rfl rfl rfl hl.1 rfl (lv_room (Nat.le_of_ble_eq_true rfl)) dL_isKept_54 ⟨Nat.le_of_ble_eq_true rfl, Nat.le_of_ble_eq_true rfl⟩ (fun r H locs hr hP hS => ?_)
          obtain rfl : r = (pz_b ((n - 8) % 8 = mk)) := hr
          refine pn_top (y := nI (pg_i ((n - 8) % 8 = mk))) (pg_ib ((n - 8) % 8 = mk)) ?_
          refine pn_icmp_ne (tgt := 69) hx hb (by first | omega | rfl | exact hmk | exact hch) (by first | omega | rfl | exact hmk | exact hch) dL_isKept_57 (by decide) (fun c_35 => ?_) (fun c_35 => ?_)
          · -- 57 yes
            exfalso; omega
          · -- 57 no
            refine lv_iload_n hx hb dL_isKept_60 rfl (lv_at hl 0 rfl) ?_
            refine lv_iconst (v := (-1 : Int32)) hx hb dL_isKept_61 (by decide) ?_
            refine pi_icmp_lt (tgt := 69) (a := ((d0 : Nat) : Int)) (b := (-1)) hx hb (nI_toInt (by first | omega | rfl | exact hmk | exact hch)) (by decide) dL_isKept_62 (by decide) (fun c_36 => ?_) (fun c_36 => ?_)
            · -- 62 yes
              exfalso; omega
            · -- 62 no
              refine lv_iconst (v := nI 1) hx hb dL_isKept_65 (by decide) ?_
              refine lv_goto (tgt := 70) hx hb dL_isKept_66 (by decide) ?_
              refine lv_istore (lv' := [(4, .int (nI 1)), (3, .int (nI d0)), (2, .int (nI (ch (pm_pl n - 1)))), (0, .ref h0), (1, .int (nI n))]) hx hb dL_isKept_70 hl (by decide) rfl (fun ls hl => ?_)
              exact J72 H _ ls hP hS (lv_sub hl [3, 4, 1, 0] rfl)
    · -- 19 no
      refine lv_aload_n hx hb dL_isKept_22 rfl (lv_at hl 2 rfl) ?_
      refine lv_iload_n hx hb dL_isKept_23 rfl (lv_at hl 3 rfl) ?_
      refine pz_VR (rest := [.int (nI (pg_i (pm_vt (pm_sh ch) mk n)))]) ⟨hx, hb, hml, hown, hts⟩ (k_X0_isMarket l D h0 ac ay ap cyI ts mk ch fy fp n (by first | omega | rfl | exact hmk | exact hch) (by first | omega | rfl | exact hmk | exact hch)) (cwV 1 hts gL_isKept_X0_isMarket rfl rfl rfl (by decide +kernel) ⟨Nat.le_of_ble_eq_true rfl, Nat.le_of_ble_eq_true rfl⟩) hK hP hD hS hA [0, 1, 2, 3] rfl rfl rfl 0 0 rfl rfl rfl hl.1 rfl (lv_room (Nat.le_of_ble_eq_true rfl)) dL_isKept_24 ⟨Nat.le_of_ble_eq_true rfl, Nat.le_of_ble_eq_true rfl⟩ (fun r H locs hr hP hS => ?_)
      obtain rfl : r = (pz_b (n % 8 = mk)) := hr
      refine pn_top (y := nI (pg_i (n % 8 = mk))) (pg_ib (n % 8 = mk)) ?_
      refine pn_if_ne (tgt := 34) hx hb (by first | omega | rfl | exact hmk | exact hch) dL_isKept_27 (by decide) (fun c_38 => ?_) (fun c_38 => ?_)
      · -- 27 yes
        refine lv_iconst (v := nI 0) hx hb dL_isKept_34 (by decide) ?_
        refine pn_icmp_ne (tgt := 69) hx hb (by first | omega | rfl | exact hmk | exact hch) (by first | omega | rfl | exact hmk | exact hch) dL_isKept_35 (by decide) (fun c_39 => ?_) (fun c_39 => ?_)
        · -- 35 yes
          exfalso; omega
        · -- 35 no
          refine lv_iload_n hx hb dL_isKept_38 rfl (lv_at hl 3 rfl) ?_
          refine lv_bipush (v := nI 8) hx hb dL_isKept_39 (by decide) ?_
          refine pn_icmp_lt (tgt := 60) hx hb (by first | omega | rfl | exact hmk | exact hch) (by first | omega | rfl | exact hmk | exact hch) dL_isKept_41 (by decide) (fun c_40 => ?_) (fun c_40 => ?_)
          · -- 41 yes
            refine lv_iload_n hx hb dL_isKept_60 rfl (lv_at hl 0 rfl) ?_
            refine lv_iconst (v := (-1 : Int32)) hx hb dL_isKept_61 (by decide) ?_
            refine pi_icmp_lt (tgt := 69) (a := ((d0 : Nat) : Int)) (b := (-1)) hx hb (nI_toInt (by first | omega | rfl | exact hmk | exact hch)) (by decide) dL_isKept_62 (by decide) (fun c_41 => ?_) (fun c_41 => ?_)
            · -- 62 yes
              exfalso; omega
            · -- 62 no
              refine lv_iconst (v := nI 1) hx hb dL_isKept_65 (by decide) ?_
              refine lv_goto (tgt := 70) hx hb dL_isKept_66 (by decide) ?_
              refine lv_istore (lv' := [(4, .int (nI 1)), (3, .int (nI d0)), (2, .int (nI (ch (pm_pl n - 1)))), (0, .ref h0), (1, .int (nI n))]) hx hb dL_isKept_70 hl (by decide) rfl (fun ls hl => ?_)
              exact J72 H _ ls hP hS (lv_sub hl [3, 4, 1, 0] rfl)
          · -- 41 no
            refine lv_aload_n hx hb dL_isKept_44 rfl (lv_at hl 2 rfl) ?_
            refine lv_iload_n hx hb dL_isKept_45 rfl (lv_at hl 3 rfl) ?_
            refine pz_VR (rest := []) ⟨hx, hb, hml, hown, hts⟩ (k_X0_isMarket l D h0 ac ay ap cyI ts mk ch fy fp n (by first | omega | rfl | exact hmk | exact hch) (by first | omega | rfl | exact hmk | exact hch)) (cwV 1 hts gL_isKept_X0_isMarket rfl rfl rfl (by decide +kernel) ⟨Nat.le_of_ble_eq_true rfl, Nat.le_of_ble_eq_true rfl⟩) hK hP hD hS hA [0, 1, 2, 3] rfl rfl rfl 0 0 rfl rfl rfl hl.1 rfl (lv_room (Nat.le_of_ble_eq_true rfl)) dL_isKept_46 ⟨Nat.le_of_ble_eq_true rfl, Nat.le_of_ble_eq_true rfl⟩ (fun r H locs hr hP hS => ?_)
            obtain rfl : r = (pz_b (n % 8 = mk)) := hr
            refine pn_top (y := nI (pg_i (n % 8 = mk))) (pg_ib (n % 8 = mk)) ?_
            refine lv_aload_n hx hb dL_isKept_49 rfl (lv_at hl 2 rfl) ?_
            refine lv_iload_n hx hb dL_isKept_50 rfl (lv_at hl 3 rfl) ?_
            refine lv_bipush (v := nI 8) hx hb dL_isKept_51 (by decide) ?_
            refine pn_isub hx hb (by first | omega | rfl | exact hmk | exact hch) dL_isKept_53 ?_
            refine pz_VR (rest := [.int (nI (pg_i (n % 8 = mk)))]) ⟨hx, hb, hml, hown, hts⟩ (k_X0_isMarket l D h0 ac ay ap cyI ts mk ch fy fp (n - 8) (by first | omega | rfl | exact hmk | exact hch) (by first | omega | rfl | exact hmk | exact hch)) (cwV 1 hts gL_isKept_X0_isMarket rfl rfl rfl (by decide +kernel) ⟨Nat.le_of_ble_eq_true rfl, Nat.le_of_ble_eq_true rfl⟩) hK hP hD hS hA [0, 1, 2, 3] rfl rfl rfl 0 0 rfl rfl rfl hl.1 rfl (lv_room (Nat.le_of_ble_eq_true rfl)) dL_isKept_54 ⟨Nat.le_of_ble_eq_true rfl, Nat.le_of_ble_eq_true rfl⟩ (fun r H locs hr hP hS => ?_)
            obtain rfl : r = (pz_b ((n - 8) % 8 = mk)) := hr
            refine pn_top (y := nI (pg_i ((n - 8) % 8 = mk))) (pg_ib ((n - 8) % 8 = mk)) ?_
            refine pn_icmp_ne (tgt := 69) hx hb (by first | omega | rfl | exact hmk | exact hch) (by first | omega | rfl | exact hmk | exact hch) dL_isKept_57 (by decide) (fun c_44 => ?_) (fun c_44 => ?_)
            · -- 57 yes
              exfalso; omega
            · -- 57 no
              refine lv_iload_n hx hb dL_isKept_60 rfl (lv_at hl 0 rfl) ?_
              refine lv_iconst (v := (-1 : Int32)) hx hb dL_isKept_61 (by decide) ?_
              refine pi_icmp_lt (tgt := 69) (a := ((d0 : Nat) : Int)) (b := (-1)) hx hb (nI_toInt (by first | omega | rfl | exact hmk | exact hch)) (by decide) dL_isKept_62 (by decide) (fun c_45 => ?_) (fun c_45 => ?_)
              · -- 62 yes
                exfalso; omega
              · -- 62 no
                refine lv_iconst (v := nI 1) hx hb dL_isKept_65 (by decide) ?_
                refine lv_goto (tgt := 70) hx hb dL_isKept_66 (by decide) ?_
                refine lv_istore (lv' := [(4, .int (nI 1)), (3, .int (nI d0)), (2, .int (nI (ch (pm_pl n - 1)))), (0, .ref h0), (1, .int (nI n))]) hx hb dL_isKept_70 hl (by decide) rfl (fun ls hl => ?_)
                exact J72 H _ ls hP hS (lv_sub hl [3, 4, 1, 0] rfl)
      · -- 27 no
        refine lv_iconst (v := nI 1) hx hb dL_isKept_30 (by decide) ?_
        refine lv_goto (tgt := 35) hx hb dL_isKept_31 (by decide) ?_
        refine pn_icmp_ne (tgt := 69) hx hb (by first | omega | rfl | exact hmk | exact hch) (by first | omega | rfl | exact hmk | exact hch) dL_isKept_35 (by decide) (fun c_46 => ?_) (fun c_46 => ?_)
        · -- 35 yes
          exfalso; omega
        · -- 35 no
          refine lv_iload_n hx hb dL_isKept_38 rfl (lv_at hl 3 rfl) ?_
          refine lv_bipush (v := nI 8) hx hb dL_isKept_39 (by decide) ?_
          refine pn_icmp_lt (tgt := 60) hx hb (by first | omega | rfl | exact hmk | exact hch) (by first | omega | rfl | exact hmk | exact hch) dL_isKept_41 (by decide) (fun c_47 => ?_) (fun c_47 => ?_)
          · -- 41 yes
            refine lv_iload_n hx hb dL_isKept_60 rfl (lv_at hl 0 rfl) ?_
            refine lv_iconst (v := (-1 : Int32)) hx hb dL_isKept_61 (by decide) ?_
            refine pi_icmp_lt (tgt := 69) (a := ((d0 : Nat) : Int)) (b := (-1)) hx hb (nI_toInt (by first | omega | rfl | exact hmk | exact hch)) (by decide) dL_isKept_62 (by decide) (fun c_48 => ?_) (fun c_48 => ?_)
            · -- 62 yes
              exfalso; omega
            · -- 62 no
              refine lv_iconst (v := nI 1) hx hb dL_isKept_65 (by decide) ?_
              refine lv_goto (tgt := 70) hx hb dL_isKept_66 (by decide) ?_
              refine lv_istore (lv' := [(4, .int (nI 1)), (3, .int (nI d0)), (2, .int (nI (ch (pm_pl n - 1)))), (0, .ref h0), (1, .int (nI n))]) hx hb dL_isKept_70 hl (by decide) rfl (fun ls hl => ?_)
              exact J72 H _ ls hP hS (lv_sub hl [3, 4, 1, 0] rfl)
          · -- 41 no
            refine lv_aload_n hx hb dL_isKept_44 rfl (lv_at hl 2 rfl) ?_
            refine lv_iload_n hx hb dL_isKept_45 rfl (lv_at hl 3 rfl) ?_
            refine pz_VR (rest := []) ⟨hx, hb, hml, hown, hts⟩ (k_X0_isMarket l D h0 ac ay ap cyI ts mk ch fy fp n (by first | omega | rfl | exact hmk | exact hch) (by first | omega | rfl | exact hmk | exact hch)) (cwV 1 hts gL_isKept_X0_isMarket rfl rfl rfl (by decide +kernel) ⟨Nat.le_of_ble_eq_true rfl, Nat.le_of_ble_eq_true rfl⟩) hK hP hD hS hA [0, 1, 2, 3] rfl rfl rfl 0 0 rfl rfl rfl hl.1 rfl (lv_room (Nat.le_of_ble_eq_true rfl)) dL_isKept_46 ⟨Nat.le_of_ble_eq_true rfl, Nat.le_of_ble_eq_true rfl⟩ (fun r H locs hr hP hS => ?_)
            obtain rfl : r = (pz_b (n % 8 = mk)) := hr
            refine pn_top (y := nI (pg_i (n % 8 = mk))) (pg_ib (n % 8 = mk)) ?_
            refine lv_aload_n hx hb dL_isKept_49 rfl (lv_at hl 2 rfl) ?_
            refine lv_iload_n hx hb dL_isKept_50 rfl (lv_at hl 3 rfl) ?_
            refine lv_bipush (v := nI 8) hx hb dL_isKept_51 (by decide) ?_
            refine pn_isub hx hb (by first | omega | rfl | exact hmk | exact hch) dL_isKept_53 ?_
            refine pz_VR (rest := [.int (nI (pg_i (n % 8 = mk)))]) ⟨hx, hb, hml, hown, hts⟩ (k_X0_isMarket l D h0 ac ay ap cyI ts mk ch fy fp (n - 8) (by first | omega | rfl | exact hmk | exact hch) (by first | omega | rfl | exact hmk | exact hch)) (cwV 1 hts gL_isKept_X0_isMarket rfl rfl rfl (by decide +kernel) ⟨Nat.le_of_ble_eq_true rfl, Nat.le_of_ble_eq_true rfl⟩) hK hP hD hS hA [0, 1, 2, 3] rfl rfl rfl 0 0 rfl rfl rfl hl.1 rfl (lv_room (Nat.le_of_ble_eq_true rfl)) dL_isKept_54 ⟨Nat.le_of_ble_eq_true rfl, Nat.le_of_ble_eq_true rfl⟩ (fun r H locs hr hP hS => ?_)
            obtain rfl : r = (pz_b ((n - 8) % 8 = mk)) := hr
            refine pn_top (y := nI (pg_i ((n - 8) % 8 = mk))) (pg_ib ((n - 8) % 8 = mk)) ?_
            refine pn_icmp_ne (tgt := 69) hx hb (by first | omega | rfl | exact hmk | exact hch) (by first | omega | rfl | exact hmk | exact hch) dL_isKept_57 (by decide) (fun c_51 => ?_) (fun c_51 => ?_)
            · -- 57 yes
              exfalso; omega
            · -- 57 no
              refine lv_iload_n hx hb dL_isKept_60 rfl (lv_at hl 0 rfl) ?_
              refine lv_iconst (v := (-1 : Int32)) hx hb dL_isKept_61 (by decide) ?_
              refine pi_icmp_lt (tgt := 69) (a := ((d0 : Nat) : Int)) (b := (-1)) hx hb (nI_toInt (by first | omega | rfl | exact hmk | exact hch)) (by decide) dL_isKept_62 (by decide) (fun c_52 => ?_) (fun c_52 => ?_)
              · -- 62 yes
                exfalso; omega
              · -- 62 no
                refine lv_iconst (v := nI 1) hx hb dL_isKept_65 (by decide) ?_
                refine lv_goto (tgt := 70) hx hb dL_isKept_66 (by decide) ?_
                refine lv_istore (lv' := [(4, .int (nI 1)), (3, .int (nI d0)), (2, .int (nI (ch (pm_pl n - 1)))), (0, .ref h0), (1, .int (nI n))]) hx hb dL_isKept_70 hl (by decide) rfl (fun ls hl => ?_)
                exact J72 H _ ls hP hS (lv_sub hl [3, 4, 1, 0] rfl)
  · -- no court
    subst hd4
    have J72 : ∀ (H : Heap) (locs : List Loc) (ls : Array Slot), va_P D vwCl [(h0, .inr (0, [.ref ac, .ref ay, .ref ap, .int (nI mk)])), (ac, .inl (cyI, 365, .inl (pz_ar ch))), (ay, .inl (cyI, 60, .inl (pz_ar fy))), (ap, .inl (cyI, 60, .inl (pz_ar fp)))] H → va_S A s.heap H locs → lv_has ls 8 [(0, .ref h0), (1, .int (nI n)), (3, .int (-1 : Int32)), (4, .int (nI 1))] → W p l e ({ frames := 5, cells := 0, slots := 0, locals := 102 } : Room) s m ([.ref h0, .int (nI n)] : List Value).toArray below meth c H locs 0 0 Q (F0 m 72 ls []) := by
      intro H locs ls hP hS hl
      refine lv_iload_n hx hb dL_isKept_72 rfl (lv_at hl 1 rfl) ?_
      refine lv_istore (lv' := [(5, .int (nI n)), (0, .ref h0), (1, .int (nI n)), (3, .int (-1 : Int32)), (4, .int (nI 1))]) hx hb dL_isKept_73 hl (by decide) rfl (fun ls hl => ?_)
      have LP75 : ∀ (N : Nat) (d : Nat) (H : Heap) (locs : List Loc) (ls : Array Slot), n + 12 - d < N → (n ≤ d) → (d ≤ n + 12) → va_P D vwCl [(h0, .inr (0, [.ref ac, .ref ay, .ref ap, .int (nI mk)])), (ac, .inl (cyI, 365, .inl (pz_ar ch))), (ay, .inl (cyI, 60, .inl (pz_ar fy))), (ap, .inl (cyI, 60, .inl (pz_ar fp)))] H → va_S A s.heap H locs → lv_has ls 8 [(5, .int (nI d)), (0, .ref h0), (1, .int (nI n)), (3, .int (-1 : Int32)), (4, .int (nI 1))] → W p l e ({ frames := 5, cells := 0, slots := 0, locals := 102 } : Room) s m ([.ref h0, .int (nI n)] : List Value).toArray below meth c H locs 0 0 Q (F0 m 75 ls []) := by
        intro N
        induction N with
        | zero => intro d H locs ls hN; exact absurd hN (Nat.not_lt_zero _)
        | succ N ih =>
          intro d H locs ls hN hi75_0 hi75_1 hP hS hl
          have hz_0 := hd6 d
          have hpd_0 := pm_pl_b d
          have ih75 := ih
          refine lv_iload hx hb dL_isKept_75 (lv_at hl 0 rfl) ?_
          refine lv_iload_n hx hb dL_isKept_77 rfl (lv_at hl 2 rfl) ?_
          refine lv_bipush (v := nI 12) hx hb dL_isKept_78 (by decide) ?_
          refine pn_iadd hx hb dL_isKept_80 ?_
          refine pn_icmp_ge (tgt := 185) hx hb (by first | omega | rfl | exact hmk | exact hch) (by first | omega | rfl | exact hmk | exact hch) dL_isKept_81 (by decide) (fun c_53 => ?_) (fun c_53 => ?_)
          · -- 81 yes
            refine lv_iload hx hb dL_isKept_185 (lv_at hl 4 rfl) ?_
            exact hQ _ _ _ _ _ dL_isKept_187 (by decide) (congrArg nI (by rfl)) hS
          · -- 81 no
            refine lv_iload hx hb dL_isKept_84 (lv_at hl 0 rfl) ?_
            refine lv_aload_n hx hb dL_isKept_86 rfl (lv_at hl 1 rfl) ?_
            refine pz_VR (rest := [.int (nI d)]) ⟨hx, hb, hml, hown, hts⟩ (k_X0_days l D h0 ac ay ap cyI ts mk ch fy fp  ) (cwV 0 hts gL_isKept_X0_days rfl rfl rfl (by decide +kernel) ⟨Nat.le_of_ble_eq_true rfl, Nat.le_of_ble_eq_true rfl⟩) hK hP hD hS hA [0, 1, 2, 3] rfl rfl rfl 0 0 rfl rfl rfl hl.1 rfl (lv_room (Nat.le_of_ble_eq_true rfl)) dL_isKept_87 ⟨Nat.le_of_ble_eq_true rfl, Nat.le_of_ble_eq_true rfl⟩ (fun r H locs hr hP hS => ?_)
            obtain rfl : r = (nI 1095750) := hr
            refine pn_icmp_ge (tgt := 185) hx hb (by first | omega | rfl | exact hmk | exact hch) (by first | omega | rfl | exact hmk | exact hch) dL_isKept_90 (by decide) (fun c_55 => ?_) (fun c_55 => ?_)
            · -- 90 yes
              refine lv_iload hx hb dL_isKept_185 (lv_at hl 4 rfl) ?_
              exact hQ _ _ _ _ _ dL_isKept_187 (by decide) (congrArg nI (by rfl)) hS
            · -- 90 no
              refine lv_iload hx hb dL_isKept_93 (lv_at hl 4 rfl) ?_
              refine pn_if_eq (tgt := 185) hx hb (by first | omega | rfl | exact hmk | exact hch) dL_isKept_95 (by decide) (fun c_56 => absurd c_56 (by decide)) (fun _ => ?_)
              refine lv_aload_n hx hb dL_isKept_98 rfl (lv_at hl 1 rfl) ?_
              refine lv_iload hx hb dL_isKept_99 (lv_at hl 0 rfl) ?_
              refine pz_VR (rest := []) ⟨hx, hb, hml, hown, hts⟩ (k_X0_characterOf l D h0 ac ay ap cyI ts mk ch fy fp d (by first | omega | rfl | exact hmk | exact hch)) (cwV 1 hts gL_isKept_X0_characterOf rfl rfl rfl (by decide +kernel) ⟨Nat.le_of_ble_eq_true rfl, Nat.le_of_ble_eq_true rfl⟩) hK hP hD hS hA [0, 1, 2, 3] rfl rfl rfl 0 0 rfl rfl rfl hl.1 rfl (lv_room (Nat.le_of_ble_eq_true rfl)) dL_isKept_101 ⟨Nat.le_of_ble_eq_true rfl, Nat.le_of_ble_eq_true rfl⟩ (fun r H locs hr hP hS => ?_)
              obtain rfl : r = (nI (ch (pm_pl d - 1))) := hr
              have hb_57 := hch (pm_pl d - 1) (by omega)
              refine lv_istore (lv' := [(6, .int (nI (ch (pm_pl d - 1)))), (5, .int (nI d)), (0, .ref h0), (1, .int (nI n)), (3, .int (-1 : Int32)), (4, .int (nI 1))]) hx hb dL_isKept_104 hl (by decide) rfl (fun ls hl => ?_)
              refine lv_iload hx hb dL_isKept_106 (lv_at hl 0 rfl) ?_
              refine pn_if_eq (tgt := 117) hx hb (by first | omega | rfl | exact hmk | exact hch) dL_isKept_108 (by decide) (fun c_58 => ?_) (fun c_58 => ?_)
              · -- 108 yes
                refine lv_iconst (v := nI 1) hx hb dL_isKept_117 (by decide) ?_
                refine lv_goto (tgt := 122) hx hb dL_isKept_118 (by decide) ?_
                refine lv_istore (lv' := [(7, .int (nI 1)), (6, .int (nI (ch (pm_pl d - 1)))), (5, .int (nI d)), (0, .ref h0), (1, .int (nI n)), (3, .int (-1 : Int32)), (4, .int (nI 1))]) hx hb dL_isKept_122 hl (by decide) rfl (fun ls hl => ?_)
                refine lv_iload_n hx hb dL_isKept_124 rfl (lv_at hl 5 rfl) ?_
                refine lv_iconst (v := (-1 : Int32)) hx hb dL_isKept_125 (by decide) ?_
                refine pi_icmp_ne (tgt := 142) (a := (-1)) (b := (-1)) hx hb (by decide) (by decide) dL_isKept_126 (by decide) (fun c_59 => ?_) (fun c_59 => ?_)
                · -- 126 yes
                  refine lv_iload hx hb dL_isKept_142 (lv_at hl 2 rfl) ?_
                  refine lv_iload_n hx hb dL_isKept_144 rfl (lv_at hl 5 rfl) ?_
                  refine pi_icmp_ge (tgt := 161) (a := ((d : Nat) : Int)) (b := (-1)) hx hb (nI_toInt (by first | omega | rfl | exact hmk | exact hch)) (by decide) dL_isKept_145 (by decide) (fun c_60 => ?_) (fun c_60 => ?_)
                  · -- 145 yes
                    refine lv_iload hx hb dL_isKept_161 (lv_at hl 2 rfl) ?_
                    refine lv_iload_n hx hb dL_isKept_163 rfl (lv_at hl 5 rfl) ?_
                    refine pi_icmp_gt (tgt := 172) (a := ((d : Nat) : Int)) (b := (-1)) hx hb (nI_toInt (by first | omega | rfl | exact hmk | exact hch)) (by decide) dL_isKept_164 (by decide) (fun c_61 => ?_) (fun c_61 => ?_)
                    · -- 164 yes
                      refine lv_iconst (v := nI 1) hx hb dL_isKept_172 (by decide) ?_
                      refine lv_goto (tgt := 177) hx hb dL_isKept_173 (by decide) ?_
                      refine lv_istore (lv' := [(4, .int (nI 1)), (7, .int (nI 1)), (6, .int (nI (ch (pm_pl d - 1)))), (5, .int (nI d)), (0, .ref h0), (1, .int (nI n)), (3, .int (-1 : Int32))]) hx hb dL_isKept_177 hl (by decide) rfl (fun ls hl => ?_)
                      refine lv_iinc (v := (nI (d + 1))) (lv' := [(5, .int (nI (d + 1))), (4, .int (nI 1)), (7, .int (nI 1)), (6, .int (nI (ch (pm_pl d - 1)))), (0, .ref h0), (1, .int (nI n)), (3, .int (-1 : Int32))]) hx hb dL_isKept_179 hl (k := 3) rfl (by exact nI_add _ 1) (by decide) rfl (fun ls hl => ?_)
                      refine lv_goto (tgt := 75) hx hb dL_isKept_182 (by decide) ?_
                      exact ih75 (d + 1) _ _ _ (by first | omega | rfl | exact hmk | exact hch) (by first | omega | rfl | exact hmk | exact hch) (by first | omega | rfl | exact hmk | exact hch) hP hS (lv_sub hl [0, 4, 5, 6, 1] rfl)
                    · -- 164 no
                      refine lv_iload hx hb dL_isKept_167 (lv_at hl 0 rfl) ?_
                      refine pn_if_eq (tgt := 176) hx hb (by first | omega | rfl | exact hmk | exact hch) dL_isKept_169 (by decide) (fun c_62 => absurd c_62 (by decide)) (fun _ => ?_)
                      refine lv_iconst (v := nI 1) hx hb dL_isKept_172 (by decide) ?_
                      refine lv_goto (tgt := 177) hx hb dL_isKept_173 (by decide) ?_
                      refine lv_istore (lv' := [(4, .int (nI 1)), (7, .int (nI 1)), (6, .int (nI (ch (pm_pl d - 1)))), (5, .int (nI d)), (0, .ref h0), (1, .int (nI n)), (3, .int (-1 : Int32))]) hx hb dL_isKept_177 hl (by decide) rfl (fun ls hl => ?_)
                      refine lv_iinc (v := (nI (d + 1))) (lv' := [(5, .int (nI (d + 1))), (4, .int (nI 1)), (7, .int (nI 1)), (6, .int (nI (ch (pm_pl d - 1)))), (0, .ref h0), (1, .int (nI n)), (3, .int (-1 : Int32))]) hx hb dL_isKept_179 hl (k := 3) rfl (by exact nI_add _ 1) (by decide) rfl (fun ls hl => ?_)
                      refine lv_goto (tgt := 75) hx hb dL_isKept_182 (by decide) ?_
                      exact ih75 (d + 1) _ _ _ (by first | omega | rfl | exact hmk | exact hch) (by first | omega | rfl | exact hmk | exact hch) (by first | omega | rfl | exact hmk | exact hch) hP hS (lv_sub hl [0, 4, 5, 6, 1] rfl)
                  · -- 145 no
                    refine lv_iload hx hb dL_isKept_148 (lv_at hl 0 rfl) ?_
                    refine pn_if_ne (tgt := 157) hx hb (by first | omega | rfl | exact hmk | exact hch) dL_isKept_150 (by decide) (fun _ => ?_) (fun c_63 => absurd c_63 (by decide))
                    exfalso; omega
                · -- 126 no
                  refine lv_iload hx hb dL_isKept_129 (lv_at hl 0 rfl) ?_
                  refine pn_if_ne (tgt := 138) hx hb (by first | omega | rfl | exact hmk | exact hch) dL_isKept_131 (by decide) (fun _ => ?_) (fun c_64 => absurd c_64 (by decide))
                  exfalso; omega
              · -- 108 no
                refine lv_iload hx hb dL_isKept_111 (lv_at hl 0 rfl) ?_
                refine lv_iconst (v := nI 2) hx hb dL_isKept_113 (by decide) ?_
                refine pn_icmp_ne (tgt := 121) hx hb (by first | omega | rfl | exact hmk | exact hch) (by first | omega | rfl | exact hmk | exact hch) dL_isKept_114 (by decide) (fun c_65 => ?_) (fun c_65 => ?_)
                · -- 114 yes
                  refine lv_iconst (v := nI 0) hx hb dL_isKept_121 (by decide) ?_
                  refine lv_istore (lv' := [(7, .int (nI 0)), (6, .int (nI (ch (pm_pl d - 1)))), (5, .int (nI d)), (0, .ref h0), (1, .int (nI n)), (3, .int (-1 : Int32)), (4, .int (nI 1))]) hx hb dL_isKept_122 hl (by decide) rfl (fun ls hl => ?_)
                  refine lv_iload_n hx hb dL_isKept_124 rfl (lv_at hl 5 rfl) ?_
                  refine lv_iconst (v := (-1 : Int32)) hx hb dL_isKept_125 (by decide) ?_
                  refine pi_icmp_ne (tgt := 142) (a := (-1)) (b := (-1)) hx hb (by decide) (by decide) dL_isKept_126 (by decide) (fun c_66 => ?_) (fun c_66 => ?_)
                  · -- 126 yes
                    refine lv_iload hx hb dL_isKept_142 (lv_at hl 2 rfl) ?_
                    refine lv_iload_n hx hb dL_isKept_144 rfl (lv_at hl 5 rfl) ?_
                    refine pi_icmp_ge (tgt := 161) (a := ((d : Nat) : Int)) (b := (-1)) hx hb (nI_toInt (by first | omega | rfl | exact hmk | exact hch)) (by decide) dL_isKept_145 (by decide) (fun c_67 => ?_) (fun c_67 => ?_)
                    · -- 145 yes
                      refine lv_iload hx hb dL_isKept_161 (lv_at hl 2 rfl) ?_
                      refine lv_iload_n hx hb dL_isKept_163 rfl (lv_at hl 5 rfl) ?_
                      refine pi_icmp_gt (tgt := 172) (a := ((d : Nat) : Int)) (b := (-1)) hx hb (nI_toInt (by first | omega | rfl | exact hmk | exact hch)) (by decide) dL_isKept_164 (by decide) (fun c_68 => ?_) (fun c_68 => ?_)
                      · -- 164 yes
                        refine lv_iconst (v := nI 1) hx hb dL_isKept_172 (by decide) ?_
                        refine lv_goto (tgt := 177) hx hb dL_isKept_173 (by decide) ?_
                        refine lv_istore (lv' := [(4, .int (nI 1)), (7, .int (nI 0)), (6, .int (nI (ch (pm_pl d - 1)))), (5, .int (nI d)), (0, .ref h0), (1, .int (nI n)), (3, .int (-1 : Int32))]) hx hb dL_isKept_177 hl (by decide) rfl (fun ls hl => ?_)
                        refine lv_iinc (v := (nI (d + 1))) (lv' := [(5, .int (nI (d + 1))), (4, .int (nI 1)), (7, .int (nI 0)), (6, .int (nI (ch (pm_pl d - 1)))), (0, .ref h0), (1, .int (nI n)), (3, .int (-1 : Int32))]) hx hb dL_isKept_179 hl (k := 3) rfl (by exact nI_add _ 1) (by decide) rfl (fun ls hl => ?_)
                        refine lv_goto (tgt := 75) hx hb dL_isKept_182 (by decide) ?_
                        exact ih75 (d + 1) _ _ _ (by first | omega | rfl | exact hmk | exact hch) (by first | omega | rfl | exact hmk | exact hch) (by first | omega | rfl | exact hmk | exact hch) hP hS (lv_sub hl [0, 4, 5, 6, 1] rfl)
                      · -- 164 no
                        refine lv_iload hx hb dL_isKept_167 (lv_at hl 0 rfl) ?_
                        refine pn_if_eq (tgt := 176) hx hb (by first | omega | rfl | exact hmk | exact hch) dL_isKept_169 (by decide) (fun _ => ?_) (fun c_69 => absurd c_69 (by decide))
                        exfalso
                        first | omega | ((have h9 : d = d0 := by omega); subst h9; omega)
                    · -- 145 no
                      refine lv_iload hx hb dL_isKept_148 (lv_at hl 0 rfl) ?_
                      refine pn_if_ne (tgt := 157) hx hb (by first | omega | rfl | exact hmk | exact hch) dL_isKept_150 (by decide) (fun c_70 => absurd c_70 (by decide)) (fun _ => ?_)
                      refine lv_iconst (v := nI 1) hx hb dL_isKept_153 (by decide) ?_
                      refine lv_goto (tgt := 177) hx hb dL_isKept_154 (by decide) ?_
                      refine lv_istore (lv' := [(4, .int (nI 1)), (7, .int (nI 0)), (6, .int (nI (ch (pm_pl d - 1)))), (5, .int (nI d)), (0, .ref h0), (1, .int (nI n)), (3, .int (-1 : Int32))]) hx hb dL_isKept_177 hl (by decide) rfl (fun ls hl => ?_)
                      refine lv_iinc (v := (nI (d + 1))) (lv' := [(5, .int (nI (d + 1))), (4, .int (nI 1)), (7, .int (nI 0)), (6, .int (nI (ch (pm_pl d - 1)))), (0, .ref h0), (1, .int (nI n)), (3, .int (-1 : Int32))]) hx hb dL_isKept_179 hl (k := 3) rfl (by exact nI_add _ 1) (by decide) rfl (fun ls hl => ?_)
                      refine lv_goto (tgt := 75) hx hb dL_isKept_182 (by decide) ?_
                      exact ih75 (d + 1) _ _ _ (by first | omega | rfl | exact hmk | exact hch) (by first | omega | rfl | exact hmk | exact hch) (by first | omega | rfl | exact hmk | exact hch) hP hS (lv_sub hl [0, 4, 5, 6, 1] rfl)
                  · -- 126 no
                    refine lv_iload hx hb dL_isKept_129 (lv_at hl 0 rfl) ?_
                    refine pn_if_ne (tgt := 138) hx hb (by first | omega | rfl | exact hmk | exact hch) dL_isKept_131 (by decide) (fun c_71 => absurd c_71 (by decide)) (fun _ => ?_)
                    refine lv_iconst (v := nI 1) hx hb dL_isKept_134 (by decide) ?_
                    refine lv_goto (tgt := 177) hx hb dL_isKept_135 (by decide) ?_
                    refine lv_istore (lv' := [(4, .int (nI 1)), (7, .int (nI 0)), (6, .int (nI (ch (pm_pl d - 1)))), (5, .int (nI d)), (0, .ref h0), (1, .int (nI n)), (3, .int (-1 : Int32))]) hx hb dL_isKept_177 hl (by decide) rfl (fun ls hl => ?_)
                    refine lv_iinc (v := (nI (d + 1))) (lv' := [(5, .int (nI (d + 1))), (4, .int (nI 1)), (7, .int (nI 0)), (6, .int (nI (ch (pm_pl d - 1)))), (0, .ref h0), (1, .int (nI n)), (3, .int (-1 : Int32))]) hx hb dL_isKept_179 hl (k := 3) rfl (by exact nI_add _ 1) (by decide) rfl (fun ls hl => ?_)
                    refine lv_goto (tgt := 75) hx hb dL_isKept_182 (by decide) ?_
                    exact ih75 (d + 1) _ _ _ (by first | omega | rfl | exact hmk | exact hch) (by first | omega | rfl | exact hmk | exact hch) (by first | omega | rfl | exact hmk | exact hch) hP hS (lv_sub hl [0, 4, 5, 6, 1] rfl)
                · -- 114 no
                  refine lv_iconst (v := nI 1) hx hb dL_isKept_117 (by decide) ?_
                  refine lv_goto (tgt := 122) hx hb dL_isKept_118 (by decide) ?_
                  refine lv_istore (lv' := [(7, .int (nI 1)), (6, .int (nI (ch (pm_pl d - 1)))), (5, .int (nI d)), (0, .ref h0), (1, .int (nI n)), (3, .int (-1 : Int32)), (4, .int (nI 1))]) hx hb dL_isKept_122 hl (by decide) rfl (fun ls hl => ?_)
                  refine lv_iload_n hx hb dL_isKept_124 rfl (lv_at hl 5 rfl) ?_
                  refine lv_iconst (v := (-1 : Int32)) hx hb dL_isKept_125 (by decide) ?_
                  refine pi_icmp_ne (tgt := 142) (a := (-1)) (b := (-1)) hx hb (by decide) (by decide) dL_isKept_126 (by decide) (fun c_72 => ?_) (fun c_72 => ?_)
                  · -- 126 yes
                    refine lv_iload hx hb dL_isKept_142 (lv_at hl 2 rfl) ?_
                    refine lv_iload_n hx hb dL_isKept_144 rfl (lv_at hl 5 rfl) ?_
                    refine pi_icmp_ge (tgt := 161) (a := ((d : Nat) : Int)) (b := (-1)) hx hb (nI_toInt (by first | omega | rfl | exact hmk | exact hch)) (by decide) dL_isKept_145 (by decide) (fun c_73 => ?_) (fun c_73 => ?_)
                    · -- 145 yes
                      refine lv_iload hx hb dL_isKept_161 (lv_at hl 2 rfl) ?_
                      refine lv_iload_n hx hb dL_isKept_163 rfl (lv_at hl 5 rfl) ?_
                      refine pi_icmp_gt (tgt := 172) (a := ((d : Nat) : Int)) (b := (-1)) hx hb (nI_toInt (by first | omega | rfl | exact hmk | exact hch)) (by decide) dL_isKept_164 (by decide) (fun c_74 => ?_) (fun c_74 => ?_)
                      · -- 164 yes
                        refine lv_iconst (v := nI 1) hx hb dL_isKept_172 (by decide) ?_
                        refine lv_goto (tgt := 177) hx hb dL_isKept_173 (by decide) ?_
                        refine lv_istore (lv' := [(4, .int (nI 1)), (7, .int (nI 1)), (6, .int (nI (ch (pm_pl d - 1)))), (5, .int (nI d)), (0, .ref h0), (1, .int (nI n)), (3, .int (-1 : Int32))]) hx hb dL_isKept_177 hl (by decide) rfl (fun ls hl => ?_)
                        refine lv_iinc (v := (nI (d + 1))) (lv' := [(5, .int (nI (d + 1))), (4, .int (nI 1)), (7, .int (nI 1)), (6, .int (nI (ch (pm_pl d - 1)))), (0, .ref h0), (1, .int (nI n)), (3, .int (-1 : Int32))]) hx hb dL_isKept_179 hl (k := 3) rfl (by exact nI_add _ 1) (by decide) rfl (fun ls hl => ?_)
                        refine lv_goto (tgt := 75) hx hb dL_isKept_182 (by decide) ?_
                        exact ih75 (d + 1) _ _ _ (by first | omega | rfl | exact hmk | exact hch) (by first | omega | rfl | exact hmk | exact hch) (by first | omega | rfl | exact hmk | exact hch) hP hS (lv_sub hl [0, 4, 5, 6, 1] rfl)
                      · -- 164 no
                        refine lv_iload hx hb dL_isKept_167 (lv_at hl 0 rfl) ?_
                        refine pn_if_eq (tgt := 176) hx hb (by first | omega | rfl | exact hmk | exact hch) dL_isKept_169 (by decide) (fun c_75 => absurd c_75 (by decide)) (fun _ => ?_)
                        refine lv_iconst (v := nI 1) hx hb dL_isKept_172 (by decide) ?_
                        refine lv_goto (tgt := 177) hx hb dL_isKept_173 (by decide) ?_
                        refine lv_istore (lv' := [(4, .int (nI 1)), (7, .int (nI 1)), (6, .int (nI (ch (pm_pl d - 1)))), (5, .int (nI d)), (0, .ref h0), (1, .int (nI n)), (3, .int (-1 : Int32))]) hx hb dL_isKept_177 hl (by decide) rfl (fun ls hl => ?_)
                        refine lv_iinc (v := (nI (d + 1))) (lv' := [(5, .int (nI (d + 1))), (4, .int (nI 1)), (7, .int (nI 1)), (6, .int (nI (ch (pm_pl d - 1)))), (0, .ref h0), (1, .int (nI n)), (3, .int (-1 : Int32))]) hx hb dL_isKept_179 hl (k := 3) rfl (by exact nI_add _ 1) (by decide) rfl (fun ls hl => ?_)
                        refine lv_goto (tgt := 75) hx hb dL_isKept_182 (by decide) ?_
                        exact ih75 (d + 1) _ _ _ (by first | omega | rfl | exact hmk | exact hch) (by first | omega | rfl | exact hmk | exact hch) (by first | omega | rfl | exact hmk | exact hch) hP hS (lv_sub hl [0, 4, 5, 6, 1] rfl)
                    · -- 145 no
                      refine lv_iload hx hb dL_isKept_148 (lv_at hl 0 rfl) ?_
                      refine pn_if_ne (tgt := 157) hx hb (by first | omega | rfl | exact hmk | exact hch) dL_isKept_150 (by decide) (fun _ => ?_) (fun c_76 => absurd c_76 (by decide))
                      exfalso; omega
                  · -- 126 no
                    refine lv_iload hx hb dL_isKept_129 (lv_at hl 0 rfl) ?_
                    refine pn_if_ne (tgt := 138) hx hb (by first | omega | rfl | exact hmk | exact hch) dL_isKept_131 (by decide) (fun _ => ?_) (fun c_77 => absurd c_77 (by decide))
                    exfalso; omega
      exact LP75 _ n _ _ _ (Nat.lt_succ_self _) (by first | omega | rfl | exact hmk | exact hch) (by first | omega | rfl | exact hmk | exact hch) hP hS (lv_sub hl [0, 1, 2, 3, 4] rfl)
    refine lv_istore_n (lv' := [(3, .int (-1 : Int32)), (2, .int (nI (ch (pm_pl n - 1)))), (0, .ref h0), (1, .int (nI n))]) hx hb dL_isKept_11 rfl hl (by decide) rfl (fun ls hl => ?_)
    refine lv_aload_n hx hb dL_isKept_12 rfl (lv_at hl 2 rfl) ?_
    refine lv_iload_n hx hb dL_isKept_13 rfl (lv_at hl 3 rfl) ?_
    refine pz_VR (rest := []) ⟨hx, hb, hml, hown, hts⟩ (k_X0_canVote l D h0 ac ay ap cyI ts mk ch fy fp n (by omega) (by exact hch) (by exact hmk)) (cwV 1 hts gL_isKept_X0_canVote rfl rfl rfl (by decide +kernel) ⟨Nat.le_of_ble_eq_true rfl, Nat.le_of_ble_eq_true rfl⟩) hK hP hD hS hA [0, 1, 2, 3] rfl rfl rfl 0 0 rfl rfl rfl hl.1 rfl (lv_room (Nat.le_of_ble_eq_true rfl)) dL_isKept_14 ⟨Nat.le_of_ble_eq_true rfl, Nat.le_of_ble_eq_true rfl⟩ (fun r H locs hr hP hS => ?_)
    obtain rfl : r = (pz_b (pm_vt (pm_sh ch) mk n)) := hr
    refine pn_top (y := nI (pg_i (pm_vt (pm_sh ch) mk n))) (pg_ib (pm_vt (pm_sh ch) mk n)) ?_
    refine lv_iload_n hx hb dL_isKept_17 rfl (lv_at hl 1 rfl) ?_
    refine lv_iconst (v := nI 2) hx hb dL_isKept_18 (by decide) ?_
    refine pn_icmp_ne (tgt := 34) hx hb (by first | omega | rfl | exact hmk | exact hch) (by first | omega | rfl | exact hmk | exact hch) dL_isKept_19 (by decide) (fun c_79 => ?_) (fun c_79 => ?_)
    · -- 19 yes
      refine lv_iconst (v := nI 0) hx hb dL_isKept_34 (by decide) ?_
      refine pn_icmp_ne (tgt := 69) hx hb (by first | omega | rfl | exact hmk | exact hch) (by first | omega | rfl | exact hmk | exact hch) dL_isKept_35 (by decide) (fun c_80 => ?_) (fun c_80 => ?_)
      · -- 35 yes
        exfalso; omega
      · -- 35 no
        refine lv_iload_n hx hb dL_isKept_38 rfl (lv_at hl 3 rfl) ?_
        refine lv_bipush (v := nI 8) hx hb dL_isKept_39 (by decide) ?_
        refine pn_icmp_lt (tgt := 60) hx hb (by first | omega | rfl | exact hmk | exact hch) (by first | omega | rfl | exact hmk | exact hch) dL_isKept_41 (by decide) (fun c_81 => ?_) (fun c_81 => ?_)
        · -- 41 yes
          refine lv_iload_n hx hb dL_isKept_60 rfl (lv_at hl 0 rfl) ?_
          refine lv_iconst (v := (-1 : Int32)) hx hb dL_isKept_61 (by decide) ?_
          refine pi_icmp_lt (tgt := 69) (a := (-1)) (b := (-1)) hx hb (by decide) (by decide) dL_isKept_62 (by decide) (fun c_82 => ?_) (fun c_82 => ?_)
          · -- 62 yes
            exfalso; omega
          · -- 62 no
            refine lv_iconst (v := nI 1) hx hb dL_isKept_65 (by decide) ?_
            refine lv_goto (tgt := 70) hx hb dL_isKept_66 (by decide) ?_
            refine lv_istore (lv' := [(4, .int (nI 1)), (3, .int (-1 : Int32)), (2, .int (nI (ch (pm_pl n - 1)))), (0, .ref h0), (1, .int (nI n))]) hx hb dL_isKept_70 hl (by decide) rfl (fun ls hl => ?_)
            exact J72 H _ ls hP hS (lv_sub hl [3, 4, 1, 0] rfl)
        · -- 41 no
          refine lv_aload_n hx hb dL_isKept_44 rfl (lv_at hl 2 rfl) ?_
          refine lv_iload_n hx hb dL_isKept_45 rfl (lv_at hl 3 rfl) ?_
          refine pz_VR (rest := []) ⟨hx, hb, hml, hown, hts⟩ (k_X0_isMarket l D h0 ac ay ap cyI ts mk ch fy fp n (by first | omega | rfl | exact hmk | exact hch) (by first | omega | rfl | exact hmk | exact hch)) (cwV 1 hts gL_isKept_X0_isMarket rfl rfl rfl (by decide +kernel) ⟨Nat.le_of_ble_eq_true rfl, Nat.le_of_ble_eq_true rfl⟩) hK hP hD hS hA [0, 1, 2, 3] rfl rfl rfl 0 0 rfl rfl rfl hl.1 rfl (lv_room (Nat.le_of_ble_eq_true rfl)) dL_isKept_46 ⟨Nat.le_of_ble_eq_true rfl, Nat.le_of_ble_eq_true rfl⟩ (fun r H locs hr hP hS => ?_)
          obtain rfl : r = (pz_b (n % 8 = mk)) := hr
          refine pn_top (y := nI (pg_i (n % 8 = mk))) (pg_ib (n % 8 = mk)) ?_
          refine lv_aload_n hx hb dL_isKept_49 rfl (lv_at hl 2 rfl) ?_
          refine lv_iload_n hx hb dL_isKept_50 rfl (lv_at hl 3 rfl) ?_
          refine lv_bipush (v := nI 8) hx hb dL_isKept_51 (by decide) ?_
          refine pn_isub hx hb (by first | omega | rfl | exact hmk | exact hch) dL_isKept_53 ?_
          refine pz_VR (rest := [.int (nI (pg_i (n % 8 = mk)))]) ⟨hx, hb, hml, hown, hts⟩ (k_X0_isMarket l D h0 ac ay ap cyI ts mk ch fy fp (n - 8) (by first | omega | rfl | exact hmk | exact hch) (by first | omega | rfl | exact hmk | exact hch)) (cwV 1 hts gL_isKept_X0_isMarket rfl rfl rfl (by decide +kernel) ⟨Nat.le_of_ble_eq_true rfl, Nat.le_of_ble_eq_true rfl⟩) hK hP hD hS hA [0, 1, 2, 3] rfl rfl rfl 0 0 rfl rfl rfl hl.1 rfl (lv_room (Nat.le_of_ble_eq_true rfl)) dL_isKept_54 ⟨Nat.le_of_ble_eq_true rfl, Nat.le_of_ble_eq_true rfl⟩ (fun r H locs hr hP hS => ?_)
          obtain rfl : r = (pz_b ((n - 8) % 8 = mk)) := hr
          refine pn_top (y := nI (pg_i ((n - 8) % 8 = mk))) (pg_ib ((n - 8) % 8 = mk)) ?_
          refine pn_icmp_ne (tgt := 69) hx hb (by first | omega | rfl | exact hmk | exact hch) (by first | omega | rfl | exact hmk | exact hch) dL_isKept_57 (by decide) (fun c_85 => ?_) (fun c_85 => ?_)
          · -- 57 yes
            exfalso; omega
          · -- 57 no
            refine lv_iload_n hx hb dL_isKept_60 rfl (lv_at hl 0 rfl) ?_
            refine lv_iconst (v := (-1 : Int32)) hx hb dL_isKept_61 (by decide) ?_
            refine pi_icmp_lt (tgt := 69) (a := (-1)) (b := (-1)) hx hb (by decide) (by decide) dL_isKept_62 (by decide) (fun c_86 => ?_) (fun c_86 => ?_)
            · -- 62 yes
              exfalso; omega
            · -- 62 no
              refine lv_iconst (v := nI 1) hx hb dL_isKept_65 (by decide) ?_
              refine lv_goto (tgt := 70) hx hb dL_isKept_66 (by decide) ?_
              refine lv_istore (lv' := [(4, .int (nI 1)), (3, .int (-1 : Int32)), (2, .int (nI (ch (pm_pl n - 1)))), (0, .ref h0), (1, .int (nI n))]) hx hb dL_isKept_70 hl (by decide) rfl (fun ls hl => ?_)
              exact J72 H _ ls hP hS (lv_sub hl [3, 4, 1, 0] rfl)
    · -- 19 no
      refine lv_aload_n hx hb dL_isKept_22 rfl (lv_at hl 2 rfl) ?_
      refine lv_iload_n hx hb dL_isKept_23 rfl (lv_at hl 3 rfl) ?_
      refine pz_VR (rest := [.int (nI (pg_i (pm_vt (pm_sh ch) mk n)))]) ⟨hx, hb, hml, hown, hts⟩ (k_X0_isMarket l D h0 ac ay ap cyI ts mk ch fy fp n (by first | omega | rfl | exact hmk | exact hch) (by first | omega | rfl | exact hmk | exact hch)) (cwV 1 hts gL_isKept_X0_isMarket rfl rfl rfl (by decide +kernel) ⟨Nat.le_of_ble_eq_true rfl, Nat.le_of_ble_eq_true rfl⟩) hK hP hD hS hA [0, 1, 2, 3] rfl rfl rfl 0 0 rfl rfl rfl hl.1 rfl (lv_room (Nat.le_of_ble_eq_true rfl)) dL_isKept_24 ⟨Nat.le_of_ble_eq_true rfl, Nat.le_of_ble_eq_true rfl⟩ (fun r H locs hr hP hS => ?_)
      obtain rfl : r = (pz_b (n % 8 = mk)) := hr
      refine pn_top (y := nI (pg_i (n % 8 = mk))) (pg_ib (n % 8 = mk)) ?_
      refine pn_if_ne (tgt := 34) hx hb (by first | omega | rfl | exact hmk | exact hch) dL_isKept_27 (by decide) (fun c_88 => ?_) (fun c_88 => ?_)
      · -- 27 yes
        refine lv_iconst (v := nI 0) hx hb dL_isKept_34 (by decide) ?_
        refine pn_icmp_ne (tgt := 69) hx hb (by first | omega | rfl | exact hmk | exact hch) (by first | omega | rfl | exact hmk | exact hch) dL_isKept_35 (by decide) (fun c_89 => ?_) (fun c_89 => ?_)
        · -- 35 yes
          exfalso; omega
        · -- 35 no
          refine lv_iload_n hx hb dL_isKept_38 rfl (lv_at hl 3 rfl) ?_
          refine lv_bipush (v := nI 8) hx hb dL_isKept_39 (by decide) ?_
          refine pn_icmp_lt (tgt := 60) hx hb (by first | omega | rfl | exact hmk | exact hch) (by first | omega | rfl | exact hmk | exact hch) dL_isKept_41 (by decide) (fun c_90 => ?_) (fun c_90 => ?_)
          · -- 41 yes
            refine lv_iload_n hx hb dL_isKept_60 rfl (lv_at hl 0 rfl) ?_
            refine lv_iconst (v := (-1 : Int32)) hx hb dL_isKept_61 (by decide) ?_
            refine pi_icmp_lt (tgt := 69) (a := (-1)) (b := (-1)) hx hb (by decide) (by decide) dL_isKept_62 (by decide) (fun c_91 => ?_) (fun c_91 => ?_)
            · -- 62 yes
              exfalso; omega
            · -- 62 no
              refine lv_iconst (v := nI 1) hx hb dL_isKept_65 (by decide) ?_
              refine lv_goto (tgt := 70) hx hb dL_isKept_66 (by decide) ?_
              refine lv_istore (lv' := [(4, .int (nI 1)), (3, .int (-1 : Int32)), (2, .int (nI (ch (pm_pl n - 1)))), (0, .ref h0), (1, .int (nI n))]) hx hb dL_isKept_70 hl (by decide) rfl (fun ls hl => ?_)
              exact J72 H _ ls hP hS (lv_sub hl [3, 4, 1, 0] rfl)
          · -- 41 no
            refine lv_aload_n hx hb dL_isKept_44 rfl (lv_at hl 2 rfl) ?_
            refine lv_iload_n hx hb dL_isKept_45 rfl (lv_at hl 3 rfl) ?_
            refine pz_VR (rest := []) ⟨hx, hb, hml, hown, hts⟩ (k_X0_isMarket l D h0 ac ay ap cyI ts mk ch fy fp n (by first | omega | rfl | exact hmk | exact hch) (by first | omega | rfl | exact hmk | exact hch)) (cwV 1 hts gL_isKept_X0_isMarket rfl rfl rfl (by decide +kernel) ⟨Nat.le_of_ble_eq_true rfl, Nat.le_of_ble_eq_true rfl⟩) hK hP hD hS hA [0, 1, 2, 3] rfl rfl rfl 0 0 rfl rfl rfl hl.1 rfl (lv_room (Nat.le_of_ble_eq_true rfl)) dL_isKept_46 ⟨Nat.le_of_ble_eq_true rfl, Nat.le_of_ble_eq_true rfl⟩ (fun r H locs hr hP hS => ?_)
            obtain rfl : r = (pz_b (n % 8 = mk)) := hr
            refine pn_top (y := nI (pg_i (n % 8 = mk))) (pg_ib (n % 8 = mk)) ?_
            refine lv_aload_n hx hb dL_isKept_49 rfl (lv_at hl 2 rfl) ?_
            refine lv_iload_n hx hb dL_isKept_50 rfl (lv_at hl 3 rfl) ?_
            refine lv_bipush (v := nI 8) hx hb dL_isKept_51 (by decide) ?_
            refine pn_isub hx hb (by first | omega | rfl | exact hmk | exact hch) dL_isKept_53 ?_
            refine pz_VR (rest := [.int (nI (pg_i (n % 8 = mk)))]) ⟨hx, hb, hml, hown, hts⟩ (k_X0_isMarket l D h0 ac ay ap cyI ts mk ch fy fp (n - 8) (by first | omega | rfl | exact hmk | exact hch) (by first | omega | rfl | exact hmk | exact hch)) (cwV 1 hts gL_isKept_X0_isMarket rfl rfl rfl (by decide +kernel) ⟨Nat.le_of_ble_eq_true rfl, Nat.le_of_ble_eq_true rfl⟩) hK hP hD hS hA [0, 1, 2, 3] rfl rfl rfl 0 0 rfl rfl rfl hl.1 rfl (lv_room (Nat.le_of_ble_eq_true rfl)) dL_isKept_54 ⟨Nat.le_of_ble_eq_true rfl, Nat.le_of_ble_eq_true rfl⟩ (fun r H locs hr hP hS => ?_)
            obtain rfl : r = (pz_b ((n - 8) % 8 = mk)) := hr
            refine pn_top (y := nI (pg_i ((n - 8) % 8 = mk))) (pg_ib ((n - 8) % 8 = mk)) ?_
            refine pn_icmp_ne (tgt := 69) hx hb (by first | omega | rfl | exact hmk | exact hch) (by first | omega | rfl | exact hmk | exact hch) dL_isKept_57 (by decide) (fun c_94 => ?_) (fun c_94 => ?_)
            · -- 57 yes
              exfalso; omega
            · -- 57 no
              refine lv_iload_n hx hb dL_isKept_60 rfl (lv_at hl 0 rfl) ?_
              refine lv_iconst (v := (-1 : Int32)) hx hb dL_isKept_61 (by decide) ?_
              refine pi_icmp_lt (tgt := 69) (a := (-1)) (b := (-1)) hx hb (by decide) (by decide) dL_isKept_62 (by decide) (fun c_95 => ?_) (fun c_95 => ?_)
              · -- 62 yes
                exfalso; omega
              · -- 62 no
                refine lv_iconst (v := nI 1) hx hb dL_isKept_65 (by decide) ?_
                refine lv_goto (tgt := 70) hx hb dL_isKept_66 (by decide) ?_
                refine lv_istore (lv' := [(4, .int (nI 1)), (3, .int (-1 : Int32)), (2, .int (nI (ch (pm_pl n - 1)))), (0, .ref h0), (1, .int (nI n))]) hx hb dL_isKept_70 hl (by decide) rfl (fun ls hl => ?_)
                exact J72 H _ ls hP hS (lv_sub hl [3, 4, 1, 0] rfl)
      · -- 27 no
        refine lv_iconst (v := nI 1) hx hb dL_isKept_30 (by decide) ?_
        refine lv_goto (tgt := 35) hx hb dL_isKept_31 (by decide) ?_
        refine pn_icmp_ne (tgt := 69) hx hb (by first | omega | rfl | exact hmk | exact hch) (by first | omega | rfl | exact hmk | exact hch) dL_isKept_35 (by decide) (fun c_96 => ?_) (fun c_96 => ?_)
        · -- 35 yes
          exfalso; omega
        · -- 35 no
          refine lv_iload_n hx hb dL_isKept_38 rfl (lv_at hl 3 rfl) ?_
          refine lv_bipush (v := nI 8) hx hb dL_isKept_39 (by decide) ?_
          refine pn_icmp_lt (tgt := 60) hx hb (by first | omega | rfl | exact hmk | exact hch) (by first | omega | rfl | exact hmk | exact hch) dL_isKept_41 (by decide) (fun c_97 => ?_) (fun c_97 => ?_)
          · -- 41 yes
            refine lv_iload_n hx hb dL_isKept_60 rfl (lv_at hl 0 rfl) ?_
            refine lv_iconst (v := (-1 : Int32)) hx hb dL_isKept_61 (by decide) ?_
            refine pi_icmp_lt (tgt := 69) (a := (-1)) (b := (-1)) hx hb (by decide) (by decide) dL_isKept_62 (by decide) (fun c_98 => ?_) (fun c_98 => ?_)
            · -- 62 yes
              exfalso; omega
            · -- 62 no
              refine lv_iconst (v := nI 1) hx hb dL_isKept_65 (by decide) ?_
              refine lv_goto (tgt := 70) hx hb dL_isKept_66 (by decide) ?_
              refine lv_istore (lv' := [(4, .int (nI 1)), (3, .int (-1 : Int32)), (2, .int (nI (ch (pm_pl n - 1)))), (0, .ref h0), (1, .int (nI n))]) hx hb dL_isKept_70 hl (by decide) rfl (fun ls hl => ?_)
              exact J72 H _ ls hP hS (lv_sub hl [3, 4, 1, 0] rfl)
          · -- 41 no
            refine lv_aload_n hx hb dL_isKept_44 rfl (lv_at hl 2 rfl) ?_
            refine lv_iload_n hx hb dL_isKept_45 rfl (lv_at hl 3 rfl) ?_
            refine pz_VR (rest := []) ⟨hx, hb, hml, hown, hts⟩ (k_X0_isMarket l D h0 ac ay ap cyI ts mk ch fy fp n (by first | omega | rfl | exact hmk | exact hch) (by first | omega | rfl | exact hmk | exact hch)) (cwV 1 hts gL_isKept_X0_isMarket rfl rfl rfl (by decide +kernel) ⟨Nat.le_of_ble_eq_true rfl, Nat.le_of_ble_eq_true rfl⟩) hK hP hD hS hA [0, 1, 2, 3] rfl rfl rfl 0 0 rfl rfl rfl hl.1 rfl (lv_room (Nat.le_of_ble_eq_true rfl)) dL_isKept_46 ⟨Nat.le_of_ble_eq_true rfl, Nat.le_of_ble_eq_true rfl⟩ (fun r H locs hr hP hS => ?_)
            obtain rfl : r = (pz_b (n % 8 = mk)) := hr
            refine pn_top (y := nI (pg_i (n % 8 = mk))) (pg_ib (n % 8 = mk)) ?_
            refine lv_aload_n hx hb dL_isKept_49 rfl (lv_at hl 2 rfl) ?_
            refine lv_iload_n hx hb dL_isKept_50 rfl (lv_at hl 3 rfl) ?_
            refine lv_bipush (v := nI 8) hx hb dL_isKept_51 (by decide) ?_
            refine pn_isub hx hb (by first | omega | rfl | exact hmk | exact hch) dL_isKept_53 ?_
            refine pz_VR (rest := [.int (nI (pg_i (n % 8 = mk)))]) ⟨hx, hb, hml, hown, hts⟩ (k_X0_isMarket l D h0 ac ay ap cyI ts mk ch fy fp (n - 8) (by first | omega | rfl | exact hmk | exact hch) (by first | omega | rfl | exact hmk | exact hch)) (cwV 1 hts gL_isKept_X0_isMarket rfl rfl rfl (by decide +kernel) ⟨Nat.le_of_ble_eq_true rfl, Nat.le_of_ble_eq_true rfl⟩) hK hP hD hS hA [0, 1, 2, 3] rfl rfl rfl 0 0 rfl rfl rfl hl.1 rfl (lv_room (Nat.le_of_ble_eq_true rfl)) dL_isKept_54 ⟨Nat.le_of_ble_eq_true rfl, Nat.le_of_ble_eq_true rfl⟩ (fun r H locs hr hP hS => ?_)
            obtain rfl : r = (pz_b ((n - 8) % 8 = mk)) := hr
            refine pn_top (y := nI (pg_i ((n - 8) % 8 = mk))) (pg_ib ((n - 8) % 8 = mk)) ?_
            refine pn_icmp_ne (tgt := 69) hx hb (by first | omega | rfl | exact hmk | exact hch) (by first | omega | rfl | exact hmk | exact hch) dL_isKept_57 (by decide) (fun c_101 => ?_) (fun c_101 => ?_)
            · -- 57 yes
              exfalso; omega
            · -- 57 no
              refine lv_iload_n hx hb dL_isKept_60 rfl (lv_at hl 0 rfl) ?_
              refine lv_iconst (v := (-1 : Int32)) hx hb dL_isKept_61 (by decide) ?_
              refine pi_icmp_lt (tgt := 69) (a := (-1)) (b := (-1)) hx hb (by decide) (by decide) dL_isKept_62 (by decide) (fun c_102 => ?_) (fun c_102 => ?_)
              · -- 62 yes
                exfalso; omega
              · -- 62 no
                refine lv_iconst (v := nI 1) hx hb dL_isKept_65 (by decide) ?_
                refine lv_goto (tgt := 70) hx hb dL_isKept_66 (by decide) ?_
                refine lv_istore (lv' := [(4, .int (nI 1)), (3, .int (-1 : Int32)), (2, .int (nI (ch (pm_pl n - 1)))), (0, .ref h0), (1, .int (nI n))]) hx hb dL_isKept_70 hl (by decide) rfl (fun ls hl => ?_)
                exact J72 H _ ls hP hS (lv_sub hl [3, 4, 1, 0] rfl)
set_option maxHeartbeats 4000000 in
set_option maxRecDepth 100000 in
theorem k_L_isYear (l : Launch) (D : va_G) (h0 ac ay ap : Nat) (cyI : ClassId) (ts : List (ClassId × FieldType)) (mk : Nat) (ch fy fp : Nat → Nat) (y : Nat) (hy0 : 1 ≤ y) (hy1 : y ≤ 3000) (hch : ∀ j, j < 365 → ch j ≤ 3) (hmk : mk < 8) (hfy : ∀ j, j < 60 → fy j ≤ 3000) (hfp : ∀ j, j < 60 → fp j ≤ 1000000) (hpz : ∀ j, j < 60 → ¬ fy j = 0 → 1 ≤ fp j) (hds : ∀ i j, i < 60 → j < 60 → ¬ fy i = 0 → fy i = fy j → i = j) : pz_R l yL_isYear wsL_isYear ({ frames := 5, cells := 0, slots := 0, locals := 105 } : Room) D ((cyI, .int) :: ts) [.ref h0, .int (nI y)] [(h0, .inr (0, [.ref ac, .ref ay, .ref ap, .int (nI mk)])), (ac, .inl (cyI, 365, .inl (pz_ar ch))), (ay, .inl (cyI, 60, .inl (pz_ar fy))), (ap, .inl (cyI, 60, .inl (pz_ar fp)))] (fun r => r = nI 1) := by
  refine pz_R_of (cc := cL_isYear) (maxL := 8) (ty := .boolean) (own := RL) (by decide) rfl rfl (Nat.le_of_ble_eq_true rfl) ?_
  intro p e s m below meth c A ls Q hx hb hml hown hts hK hP hD hS hA hl hQ
  have hl : lv_has ls 8 [(0, .ref h0), (1, .int (nI y))] := hl
  have hf1_ := pm_fd_e y
  have hf2_ := pm_fd_e (y + 1)
  refine lv_aload_n hx hb dL_isYear_0 rfl (lv_at hl 0 rfl) ?_
  refine lv_iload_n hx hb dL_isYear_1 rfl (lv_at hl 1 rfl) ?_
  refine pz_VR (rest := []) ⟨hx, hb, hml, hown, hts⟩ (k_X0_marketLetters l D h0 ac ay ap cyI ts mk ch fy fp y (by omega) (by omega) (by exact hmk)) (cwV 1 hts gL_isYear_X0_marketLetters rfl rfl rfl (by decide +kernel) ⟨Nat.le_of_ble_eq_true rfl, Nat.le_of_ble_eq_true rfl⟩) hK hP hD hS hA [0, 1, 2, 3] rfl rfl rfl 0 0 rfl rfl rfl hl.1 rfl (lv_room (Nat.le_of_ble_eq_true rfl)) dL_isYear_2 ⟨Nat.le_of_ble_eq_true rfl, Nat.le_of_ble_eq_true rfl⟩ (fun r H locs hr hP hS => ?_)
  obtain rfl : r = (nI (10 * ((pm_pl (pm_fd y + ((((mk : Nat) : Int) - ((pm_fd y : Nat) : Int)) % 8).toNat) - 1) % 8) + (pm_pl (pm_fd (y + 1) - 1 - ((((pm_fd (y + 1) - 1 : Nat) : Int) - ((mk : Nat) : Int)) % 8).toNat) - 1) % 8)) := hr
  obtain ⟨mv, hv_mv, hw0_mv, hw1_mv⟩ : ∃ z : Nat, nI (10 * ((pm_pl (pm_fd y + ((((mk : Nat) : Int) - ((pm_fd y : Nat) : Int)) % 8).toNat) - 1) % 8) + (pm_pl (pm_fd (y + 1) - 1 - ((((pm_fd (y + 1) - 1 : Nat) : Int) - ((mk : Nat) : Int)) % 8).toNat) - 1) % 8) = nI z ∧ z ≤ 77 ∧ z % 10 < 8 := ⟨_, rfl, by omega, by omega⟩
  refine pn_top (y := nI mv) hv_mv ?_
  refine lv_istore_n (lv' := [(2, .int (nI mv)), (0, .ref h0), (1, .int (nI y))]) hx hb dL_isYear_5 rfl hl (by decide) rfl (fun ls hl => ?_)
  refine lv_aload_n hx hb dL_isYear_6 rfl (lv_at hl 1 rfl) ?_
  refine lv_iload_n hx hb dL_isYear_7 rfl (lv_at hl 2 rfl) ?_
  refine pz_VR (rest := []) ⟨hx, hb, hml, hown, hts⟩ (k_X0_sundayLetters l D h0 ac ay ap cyI ts mk ch fy fp y (by first | omega | rfl) (by first | omega | rfl)) (cwV 1 hts gL_isYear_X0_sundayLetters rfl rfl rfl (by decide +kernel) ⟨Nat.le_of_ble_eq_true rfl, Nat.le_of_ble_eq_true rfl⟩) hK hP hD hS hA [0, 1, 2, 3] rfl rfl rfl 0 0 rfl rfl rfl hl.1 rfl (lv_room (Nat.le_of_ble_eq_true rfl)) dL_isYear_8 ⟨Nat.le_of_ble_eq_true rfl, Nat.le_of_ble_eq_true rfl⟩ (fun r H locs hr hP hS => ?_)
  obtain rfl : r = (nI (10 * ((pm_pl (pm_fd y + ((((1 : Nat) : Int) - ((pm_fd y : Nat) : Int)) % 7).toNat) - 1) % 7) + (pm_pl (pm_fd (y + 1) - 1 - ((((pm_fd (y + 1) - 1 : Nat) : Int) - ((1 : Nat) : Int)) % 7).toNat) - 1) % 7)) := hr
  obtain ⟨sv, hv_sv, hw0_sv, hw1_sv⟩ : ∃ z : Nat, nI (10 * ((pm_pl (pm_fd y + ((((1 : Nat) : Int) - ((pm_fd y : Nat) : Int)) % 7).toNat) - 1) % 7) + (pm_pl (pm_fd (y + 1) - 1 - ((((pm_fd (y + 1) - 1 : Nat) : Int) - ((1 : Nat) : Int)) % 7).toNat) - 1) % 7) = nI z ∧ z ≤ 66 ∧ z % 10 < 7 := ⟨_, rfl, by omega, by omega⟩
  refine pn_top (y := nI sv) hv_sv ?_
  refine lv_istore_n (lv' := [(3, .int (nI sv)), (2, .int (nI mv)), (0, .ref h0), (1, .int (nI y))]) hx hb dL_isYear_11 rfl hl (by decide) rfl (fun ls hl => ?_)
  refine lv_aload_n hx hb dL_isYear_12 rfl (lv_at hl 2 rfl) ?_
  refine lv_iload_n hx hb dL_isYear_13 rfl (lv_at hl 3 rfl) ?_
  refine pz_VR (rest := []) ⟨hx, hb, hml, hown, hts⟩ (k_X0_votes l D h0 ac ay ap cyI ts mk ch fy fp y (by omega) (by omega) (by exact hch) (by exact hmk)) (cwV 1 hts gL_isYear_X0_votes rfl rfl rfl (by decide +kernel) ⟨Nat.le_of_ble_eq_true rfl, Nat.le_of_ble_eq_true rfl⟩) hK hP hD hS hA [0, 1, 2, 3] rfl rfl rfl 0 0 rfl rfl rfl hl.1 rfl (lv_room (Nat.le_of_ble_eq_true rfl)) dL_isYear_14 ⟨Nat.le_of_ble_eq_true rfl, Nat.le_of_ble_eq_true rfl⟩ (fun r H locs hr hP hS => ?_)
  obtain rfl : r = (nI (pm_vc (pm_sh ch) mk (pm_fd y) (pm_fd (y + 1) - pm_fd y))) := hr
  obtain ⟨vv, hv_vv, hw0_vv⟩ : ∃ z : Nat, nI (pm_vc (pm_sh ch) mk (pm_fd y) (pm_fd (y + 1) - pm_fd y)) = nI z ∧ z ≤ 321 := ⟨_, rfl, pg_votes _ _ _ _ hmk (by omega)⟩
  refine pn_top (y := nI vv) hv_vv ?_
  refine lv_istore (lv' := [(4, .int (nI vv)), (3, .int (nI sv)), (2, .int (nI mv)), (0, .ref h0), (1, .int (nI y))]) hx hb dL_isYear_17 hl (by decide) rfl (fun ls hl => ?_)
  refine lv_aload_n hx hb dL_isYear_19 rfl (lv_at hl 3 rfl) ?_
  refine lv_iload_n hx hb dL_isYear_20 rfl (lv_at hl 4 rfl) ?_
  refine pz_VR (rest := []) ⟨hx, hb, hml, hown, hts⟩ (k_X0_consulsOf l D h0 ac ay ap cyI ts mk ch fy fp y (by omega) (by omega) (by exact hfy) (by exact hfp)) (cwV 1 hts gL_isYear_X0_consulsOf rfl rfl rfl (by decide +kernel) ⟨Nat.le_of_ble_eq_true rfl, Nat.le_of_ble_eq_true rfl⟩) hK hP hD hS hA [0, 1, 2, 3] rfl rfl rfl 0 0 rfl rfl rfl hl.1 rfl (lv_room (Nat.le_of_ble_eq_true rfl)) dL_isYear_21 ⟨Nat.le_of_ble_eq_true rfl, Nat.le_of_ble_eq_true rfl⟩ (fun r H locs hr hP hS => ?_)
  have hr_4 : (fun r => (r = (-1) ∧ ∀ j, j < 60 → ¬ fy j = y) ∨ ∃ i, i < 60 ∧ r = nI (fp i) ∧ fy i = y) r := hr
  obtain ⟨r_4, er_4⟩ : ∃ z, z = r := ⟨_, rfl⟩
  subst er_4
  rcases hr_4 with ⟨hz, hno⟩ | ⟨i0, hi0, hz, he0⟩
  · -- absent
    subst hz
    refine lv_istore (lv' := [(5, .int (-1 : Int32)), (4, .int (nI vv)), (3, .int (nI sv)), (2, .int (nI mv)), (0, .ref h0), (1, .int (nI y))]) hx hb dL_isYear_24 hl (by decide) rfl (fun ls hl => ?_)
    refine lv_aload_n hx hb dL_isYear_26 rfl (lv_at hl 4 rfl) ?_
    refine lv_iload_n hx hb dL_isYear_27 rfl (lv_at hl 5 rfl) ?_
    refine pz_VR (rest := []) ⟨hx, hb, hml, hown, hts⟩ (k_X0_afterConsuls l D h0 ac ay ap cyI ts mk ch fy fp y (by omega) (by omega) (by exact hfy)) (cwV 1 hts gL_isYear_X0_afterConsuls rfl rfl rfl (by decide +kernel) ⟨Nat.le_of_ble_eq_true rfl, Nat.le_of_ble_eq_true rfl⟩) hK hP hD hS hA [0, 1, 2, 3] rfl rfl rfl 0 0 rfl rfl rfl hl.1 rfl (lv_room (Nat.le_of_ble_eq_true rfl)) dL_isYear_28 ⟨Nat.le_of_ble_eq_true rfl, Nat.le_of_ble_eq_true rfl⟩ (fun r H locs hr hP hS => ?_)
    have hr_5 : (fun r => (r = (-1) ∧ ∀ j, j < 60 → fy j ≤ y → fy j = 0) ∨ ∃ i, i < 60 ∧ ¬ fy i = 0 ∧ fy i ≤ y ∧ r = nI (y - fy i) ∧ ∀ j, j < 60 → fy j ≤ y → fy j ≤ fy i) r := hr
    obtain ⟨r_5, er_5⟩ : ∃ z, z = r := ⟨_, rfl⟩
    subst er_5
    rcases hr_5 with ⟨hz, hn2⟩ | ⟨i2, hi2, hnz, hle, hz, hmax⟩
    · -- none before
      subst hz
      refine lv_istore (lv' := [(6, .int (-1 : Int32)), (5, .int (-1 : Int32)), (4, .int (nI vv)), (3, .int (nI sv)), (2, .int (nI mv)), (0, .ref h0), (1, .int (nI y))]) hx hb dL_isYear_31 hl (by decide) rfl (fun ls hl => ?_)
      refine lv_iload hx hb dL_isYear_33 (lv_at hl 1 rfl) ?_
      refine pi_if_ge (tgt := 42) (a := (-1)) hx hb (by decide) dL_isYear_35 (by decide) (fun c_6 => ?_) (fun c_6 => ?_)
      · -- 35 yes
        exfalso; omega
      · -- 35 no
        refine lv_iconst (v := (-1 : Int32)) hx hb dL_isYear_38 (by decide) ?_
        refine lv_goto (tgt := 59) hx hb dL_isYear_39 (by decide) ?_
        refine lv_istore (lv' := [(7, .int (-1 : Int32)), (6, .int (-1 : Int32)), (5, .int (-1 : Int32)), (4, .int (nI vv)), (3, .int (nI sv)), (2, .int (nI mv)), (0, .ref h0), (1, .int (nI y))]) hx hb dL_isYear_59 hl (by decide) rfl (fun ls hl => ?_)
        refine lv_iload_n hx hb dL_isYear_61 rfl (lv_at hl 5 rfl) ?_
        refine pn_if_lt (tgt := 201) hx hb (by first | omega | rfl) dL_isYear_62 (by decide) ?_
        refine lv_iload_n hx hb dL_isYear_65 rfl (lv_at hl 5 rfl) ?_
        refine lv_bipush (v := nI 77) hx hb dL_isYear_66 (by decide) ?_
        refine pn_icmp_gt (tgt := 201) hx hb (by first | omega | rfl) (by first | omega | rfl) dL_isYear_68 (by decide) (fun c_8 => ?_) (fun c_8 => ?_)
        · -- 68 yes
          exfalso; omega
        · -- 68 no
          refine lv_iload_n hx hb dL_isYear_71 rfl (lv_at hl 5 rfl) ?_
          refine lv_bipush (v := nI 10) hx hb dL_isYear_72 (by decide) ?_
          refine pn_irem hx hb (by first | omega | rfl) (by first | omega | rfl) (by first | omega | rfl) dL_isYear_74 ?_
          refine lv_bipush (v := nI 8) hx hb dL_isYear_75 (by decide) ?_
          refine pn_icmp_ge (tgt := 201) hx hb (by first | omega | rfl) (by first | omega | rfl) dL_isYear_77 (by decide) (fun c_9 => ?_) (fun c_9 => ?_)
          · -- 77 yes
            exfalso; omega
          · -- 77 no
            refine lv_iload_n hx hb dL_isYear_80 rfl (lv_at hl 4 rfl) ?_
            refine pn_if_lt (tgt := 201) hx hb (by first | omega | rfl) dL_isYear_81 (by decide) ?_
            refine lv_iload_n hx hb dL_isYear_84 rfl (lv_at hl 4 rfl) ?_
            refine lv_bipush (v := nI 66) hx hb dL_isYear_85 (by decide) ?_
            refine pn_icmp_gt (tgt := 201) hx hb (by first | omega | rfl) (by first | omega | rfl) dL_isYear_87 (by decide) (fun c_11 => ?_) (fun c_11 => ?_)
            · -- 87 yes
              exfalso; omega
            · -- 87 no
              refine lv_iload_n hx hb dL_isYear_90 rfl (lv_at hl 4 rfl) ?_
              refine lv_bipush (v := nI 10) hx hb dL_isYear_91 (by decide) ?_
              refine pn_irem hx hb (by first | omega | rfl) (by first | omega | rfl) (by first | omega | rfl) dL_isYear_93 ?_
              refine lv_bipush (v := nI 7) hx hb dL_isYear_94 (by decide) ?_
              refine pn_icmp_ge (tgt := 201) hx hb (by first | omega | rfl) (by first | omega | rfl) dL_isYear_96 (by decide) (fun c_12 => ?_) (fun c_12 => ?_)
              · -- 96 yes
                exfalso; omega
              · -- 96 no
                refine lv_iload hx hb dL_isYear_99 (lv_at hl 3 rfl) ?_
                refine pn_if_lt (tgt := 201) hx hb (by first | omega | rfl) dL_isYear_101 (by decide) ?_
                refine lv_iload hx hb dL_isYear_104 (lv_at hl 3 rfl) ?_
                refine lv_sipush (v := nI 321) hx hb dL_isYear_106 (by decide) ?_
                refine pn_icmp_gt (tgt := 201) hx hb (by first | omega | rfl) (by first | omega | rfl) dL_isYear_109 (by decide) (fun c_14 => ?_) (fun c_14 => ?_)
                · -- 109 yes
                  exfalso; omega
                · -- 109 no
                  refine lv_iload hx hb dL_isYear_112 (lv_at hl 1 rfl) ?_
                  refine pi_if_ne (tgt := 121) (a := (-1)) hx hb (by decide) dL_isYear_114 (by decide) (fun c_15 => ?_) (fun c_15 => ?_)
                  · -- 114 yes
                    refine lv_iconst (v := nI 0) hx hb dL_isYear_121 (by decide) ?_
                    refine lv_iload hx hb dL_isYear_122 (lv_at hl 2 rfl) ?_
                    refine pi_if_le (tgt := 131) (a := (-1)) hx hb (by decide) dL_isYear_124 (by decide) (fun c_16 => ?_) (fun c_16 => ?_)
                    · -- 124 yes
                      refine lv_iconst (v := nI 0) hx hb dL_isYear_131 (by decide) ?_
                      refine pn_icmp_ne (tgt := 201) hx hb (by first | omega | rfl) (by first | omega | rfl) dL_isYear_132 (by decide) (fun c_17 => absurd c_17 (by decide)) (fun _ => ?_)
                      refine lv_iload hx hb dL_isYear_135 (lv_at hl 1 rfl) ?_
                      refine lv_iconst (v := nI 1) hx hb dL_isYear_137 (by decide) ?_
                      refine pi_icmp_lt (tgt := 180) (a := (-1)) (b := ((1 : Nat) : Int)) hx hb (by decide) (nI_toInt (by first | omega | rfl)) dL_isYear_138 (by decide) (fun c_18 => ?_) (fun c_18 => ?_)
                      · -- 138 yes
                        refine lv_iload hx hb dL_isYear_180 (lv_at hl 2 rfl) ?_
                        refine pi_if_lt (tgt := 197) (a := (-1)) hx hb (by decide) dL_isYear_182 (by decide) (fun c_19 => ?_) (fun c_19 => ?_)
                        · -- 182 yes
                          refine lv_iconst (v := nI 1) hx hb dL_isYear_197 (by decide) ?_
                          refine lv_goto (tgt := 202) hx hb dL_isYear_198 (by decide) ?_
                          exact hQ _ _ _ _ _ dL_isYear_202 (by decide) (congrArg nI (by rfl)) hS
                        · -- 182 no
                          refine lv_iload hx hb dL_isYear_185 (lv_at hl 0 rfl) ?_
                          refine lv_iconst (v := nI 1) hx hb dL_isYear_187 (by decide) ?_
                          refine pi_icmp_lt (tgt := 201) (a := (-1)) (b := ((1 : Nat) : Int)) hx hb (by decide) (nI_toInt (by first | omega | rfl)) dL_isYear_188 (by decide) (fun c_20 => ?_) (fun c_20 => ?_)
                          · -- 188 yes
                            exfalso; omega
                          · -- 188 no
                            refine lv_iload hx hb dL_isYear_191 (lv_at hl 0 rfl) ?_
                            refine lv_iload_n hx hb dL_isYear_193 rfl (lv_at hl 7 rfl) ?_
                            refine pi_icmp_gt (tgt := 201) (a := (-1)) (b := ((y : Nat) : Int)) hx hb (by decide) (nI_toInt (by first | omega | rfl)) dL_isYear_194 (by decide) (fun c_21 => ?_) (fun c_21 => ?_)
                            · -- 194 yes
                              exfalso; omega
                            · -- 194 no
                              refine lv_iconst (v := nI 1) hx hb dL_isYear_197 (by decide) ?_
                              refine lv_goto (tgt := 202) hx hb dL_isYear_198 (by decide) ?_
                              exact hQ _ _ _ _ _ dL_isYear_202 (by decide) (congrArg nI (by rfl)) hS
                      · -- 138 no
                        exfalso; omega
                    · -- 124 no
                      refine lv_iconst (v := nI 1) hx hb dL_isYear_127 (by decide) ?_
                      refine lv_goto (tgt := 132) hx hb dL_isYear_128 (by decide) ?_
                      refine pn_icmp_ne (tgt := 201) hx hb (by first | omega | rfl) (by first | omega | rfl) dL_isYear_132 (by decide) (fun _ => ?_) (fun c_22 => absurd c_22 (by decide))
                      exfalso; omega
                  · -- 114 no
                    refine lv_iconst (v := nI 1) hx hb dL_isYear_117 (by decide) ?_
                    refine lv_goto (tgt := 122) hx hb dL_isYear_118 (by decide) ?_
                    refine lv_iload hx hb dL_isYear_122 (lv_at hl 2 rfl) ?_
                    refine pi_if_le (tgt := 131) (a := (-1)) hx hb (by decide) dL_isYear_124 (by decide) (fun c_23 => ?_) (fun c_23 => ?_)
                    · -- 124 yes
                      refine lv_iconst (v := nI 0) hx hb dL_isYear_131 (by decide) ?_
                      refine pn_icmp_ne (tgt := 201) hx hb (by first | omega | rfl) (by first | omega | rfl) dL_isYear_132 (by decide) (fun _ => ?_) (fun c_24 => absurd c_24 (by decide))
                      exfalso; omega
                    · -- 124 no
                      refine lv_iconst (v := nI 1) hx hb dL_isYear_127 (by decide) ?_
                      refine lv_goto (tgt := 132) hx hb dL_isYear_128 (by decide) ?_
                      refine pn_icmp_ne (tgt := 201) hx hb (by first | omega | rfl) (by first | omega | rfl) dL_isYear_132 (by decide) (fun c_25 => absurd c_25 (by decide)) (fun _ => ?_)
                      refine lv_iload hx hb dL_isYear_135 (lv_at hl 1 rfl) ?_
                      refine lv_iconst (v := nI 1) hx hb dL_isYear_137 (by decide) ?_
                      refine pi_icmp_lt (tgt := 180) (a := (-1)) (b := ((1 : Nat) : Int)) hx hb (by decide) (nI_toInt (by first | omega | rfl)) dL_isYear_138 (by decide) (fun c_26 => ?_) (fun c_26 => ?_)
                      · -- 138 yes
                        refine lv_iload hx hb dL_isYear_180 (lv_at hl 2 rfl) ?_
                        refine pi_if_lt (tgt := 197) (a := (-1)) hx hb (by decide) dL_isYear_182 (by decide) (fun c_27 => ?_) (fun c_27 => ?_)
                        · -- 182 yes
                          refine lv_iconst (v := nI 1) hx hb dL_isYear_197 (by decide) ?_
                          refine lv_goto (tgt := 202) hx hb dL_isYear_198 (by decide) ?_
                          exact hQ _ _ _ _ _ dL_isYear_202 (by decide) (congrArg nI (by rfl)) hS
                        · -- 182 no
                          refine lv_iload hx hb dL_isYear_185 (lv_at hl 0 rfl) ?_
                          refine lv_iconst (v := nI 1) hx hb dL_isYear_187 (by decide) ?_
                          refine pi_icmp_lt (tgt := 201) (a := (-1)) (b := ((1 : Nat) : Int)) hx hb (by decide) (nI_toInt (by first | omega | rfl)) dL_isYear_188 (by decide) (fun c_28 => ?_) (fun c_28 => ?_)
                          · -- 188 yes
                            exfalso; omega
                          · -- 188 no
                            refine lv_iload hx hb dL_isYear_191 (lv_at hl 0 rfl) ?_
                            refine lv_iload_n hx hb dL_isYear_193 rfl (lv_at hl 7 rfl) ?_
                            refine pi_icmp_gt (tgt := 201) (a := (-1)) (b := ((y : Nat) : Int)) hx hb (by decide) (nI_toInt (by first | omega | rfl)) dL_isYear_194 (by decide) (fun c_29 => ?_) (fun c_29 => ?_)
                            · -- 194 yes
                              exfalso; omega
                            · -- 194 no
                              refine lv_iconst (v := nI 1) hx hb dL_isYear_197 (by decide) ?_
                              refine lv_goto (tgt := 202) hx hb dL_isYear_198 (by decide) ?_
                              exact hQ _ _ _ _ _ dL_isYear_202 (by decide) (congrArg nI (by rfl)) hS
                      · -- 138 no
                        exfalso; omega
    · -- some before
      subst hz
      have hf2_ := hfy i2 hi2
      have h5_ := hno i2 hi2
      refine lv_istore (lv' := [(6, .int (nI (y - fy i2))), (5, .int (-1 : Int32)), (4, .int (nI vv)), (3, .int (nI sv)), (2, .int (nI mv)), (0, .ref h0), (1, .int (nI y))]) hx hb dL_isYear_31 hl (by decide) rfl (fun ls hl => ?_)
      refine lv_iload hx hb dL_isYear_33 (lv_at hl 1 rfl) ?_
      refine pi_if_ge (tgt := 42) (a := (-1)) hx hb (by decide) dL_isYear_35 (by decide) (fun c_30 => ?_) (fun c_30 => ?_)
      · -- 35 yes
        exfalso; omega
      · -- 35 no
        refine lv_iconst (v := (-1 : Int32)) hx hb dL_isYear_38 (by decide) ?_
        refine lv_goto (tgt := 59) hx hb dL_isYear_39 (by decide) ?_
        refine lv_istore (lv' := [(7, .int (-1 : Int32)), (6, .int (nI (y - fy i2))), (5, .int (-1 : Int32)), (4, .int (nI vv)), (3, .int (nI sv)), (2, .int (nI mv)), (0, .ref h0), (1, .int (nI y))]) hx hb dL_isYear_59 hl (by decide) rfl (fun ls hl => ?_)
        refine lv_iload_n hx hb dL_isYear_61 rfl (lv_at hl 5 rfl) ?_
        refine pn_if_lt (tgt := 201) hx hb (by first | omega | rfl) dL_isYear_62 (by decide) ?_
        refine lv_iload_n hx hb dL_isYear_65 rfl (lv_at hl 5 rfl) ?_
        refine lv_bipush (v := nI 77) hx hb dL_isYear_66 (by decide) ?_
        refine pn_icmp_gt (tgt := 201) hx hb (by first | omega | rfl) (by first | omega | rfl) dL_isYear_68 (by decide) (fun c_32 => ?_) (fun c_32 => ?_)
        · -- 68 yes
          exfalso; omega
        · -- 68 no
          refine lv_iload_n hx hb dL_isYear_71 rfl (lv_at hl 5 rfl) ?_
          refine lv_bipush (v := nI 10) hx hb dL_isYear_72 (by decide) ?_
          refine pn_irem hx hb (by first | omega | rfl) (by first | omega | rfl) (by first | omega | rfl) dL_isYear_74 ?_
          refine lv_bipush (v := nI 8) hx hb dL_isYear_75 (by decide) ?_
          refine pn_icmp_ge (tgt := 201) hx hb (by first | omega | rfl) (by first | omega | rfl) dL_isYear_77 (by decide) (fun c_33 => ?_) (fun c_33 => ?_)
          · -- 77 yes
            exfalso; omega
          · -- 77 no
            refine lv_iload_n hx hb dL_isYear_80 rfl (lv_at hl 4 rfl) ?_
            refine pn_if_lt (tgt := 201) hx hb (by first | omega | rfl) dL_isYear_81 (by decide) ?_
            refine lv_iload_n hx hb dL_isYear_84 rfl (lv_at hl 4 rfl) ?_
            refine lv_bipush (v := nI 66) hx hb dL_isYear_85 (by decide) ?_
            refine pn_icmp_gt (tgt := 201) hx hb (by first | omega | rfl) (by first | omega | rfl) dL_isYear_87 (by decide) (fun c_35 => ?_) (fun c_35 => ?_)
            · -- 87 yes
              exfalso; omega
            · -- 87 no
              refine lv_iload_n hx hb dL_isYear_90 rfl (lv_at hl 4 rfl) ?_
              refine lv_bipush (v := nI 10) hx hb dL_isYear_91 (by decide) ?_
              refine pn_irem hx hb (by first | omega | rfl) (by first | omega | rfl) (by first | omega | rfl) dL_isYear_93 ?_
              refine lv_bipush (v := nI 7) hx hb dL_isYear_94 (by decide) ?_
              refine pn_icmp_ge (tgt := 201) hx hb (by first | omega | rfl) (by first | omega | rfl) dL_isYear_96 (by decide) (fun c_36 => ?_) (fun c_36 => ?_)
              · -- 96 yes
                exfalso; omega
              · -- 96 no
                refine lv_iload hx hb dL_isYear_99 (lv_at hl 3 rfl) ?_
                refine pn_if_lt (tgt := 201) hx hb (by first | omega | rfl) dL_isYear_101 (by decide) ?_
                refine lv_iload hx hb dL_isYear_104 (lv_at hl 3 rfl) ?_
                refine lv_sipush (v := nI 321) hx hb dL_isYear_106 (by decide) ?_
                refine pn_icmp_gt (tgt := 201) hx hb (by first | omega | rfl) (by first | omega | rfl) dL_isYear_109 (by decide) (fun c_38 => ?_) (fun c_38 => ?_)
                · -- 109 yes
                  exfalso; omega
                · -- 109 no
                  refine lv_iload hx hb dL_isYear_112 (lv_at hl 1 rfl) ?_
                  refine pn_if_ne (tgt := 121) hx hb (by first | omega | rfl) dL_isYear_114 (by decide) (fun c_39 => ?_) (fun c_39 => ?_)
                  · -- 114 yes
                    refine lv_iconst (v := nI 0) hx hb dL_isYear_121 (by decide) ?_
                    refine lv_iload hx hb dL_isYear_122 (lv_at hl 2 rfl) ?_
                    refine pi_if_le (tgt := 131) (a := (-1)) hx hb (by decide) dL_isYear_124 (by decide) (fun c_40 => ?_) (fun c_40 => ?_)
                    · -- 124 yes
                      refine lv_iconst (v := nI 0) hx hb dL_isYear_131 (by decide) ?_
                      refine pn_icmp_ne (tgt := 201) hx hb (by first | omega | rfl) (by first | omega | rfl) dL_isYear_132 (by decide) (fun c_41 => absurd c_41 (by decide)) (fun _ => ?_)
                      refine lv_iload hx hb dL_isYear_135 (lv_at hl 1 rfl) ?_
                      refine lv_iconst (v := nI 1) hx hb dL_isYear_137 (by decide) ?_
                      refine pn_icmp_lt (tgt := 180) hx hb (by first | omega | rfl) (by first | omega | rfl) dL_isYear_138 (by decide) (fun c_42 => ?_) (fun c_42 => ?_)
                      · -- 138 yes
                        refine lv_iload hx hb dL_isYear_180 (lv_at hl 2 rfl) ?_
                        refine pi_if_lt (tgt := 197) (a := (-1)) hx hb (by decide) dL_isYear_182 (by decide) (fun c_43 => ?_) (fun c_43 => ?_)
                        · -- 182 yes
                          refine lv_iconst (v := nI 1) hx hb dL_isYear_197 (by decide) ?_
                          refine lv_goto (tgt := 202) hx hb dL_isYear_198 (by decide) ?_
                          exact hQ _ _ _ _ _ dL_isYear_202 (by decide) (congrArg nI (by rfl)) hS
                        · -- 182 no
                          refine lv_iload hx hb dL_isYear_185 (lv_at hl 0 rfl) ?_
                          refine lv_iconst (v := nI 1) hx hb dL_isYear_187 (by decide) ?_
                          refine pi_icmp_lt (tgt := 201) (a := (-1)) (b := ((1 : Nat) : Int)) hx hb (by decide) (nI_toInt (by first | omega | rfl)) dL_isYear_188 (by decide) (fun c_44 => ?_) (fun c_44 => ?_)
                          · -- 188 yes
                            exfalso; omega
                          · -- 188 no
                            refine lv_iload hx hb dL_isYear_191 (lv_at hl 0 rfl) ?_
                            refine lv_iload_n hx hb dL_isYear_193 rfl (lv_at hl 7 rfl) ?_
                            refine pi_icmp_gt (tgt := 201) (a := (-1)) (b := ((y : Nat) : Int)) hx hb (by decide) (nI_toInt (by first | omega | rfl)) dL_isYear_194 (by decide) (fun c_45 => ?_) (fun c_45 => ?_)
                            · -- 194 yes
                              exfalso; omega
                            · -- 194 no
                              refine lv_iconst (v := nI 1) hx hb dL_isYear_197 (by decide) ?_
                              refine lv_goto (tgt := 202) hx hb dL_isYear_198 (by decide) ?_
                              exact hQ _ _ _ _ _ dL_isYear_202 (by decide) (congrArg nI (by rfl)) hS
                      · -- 138 no
                        refine lv_aload_n hx hb dL_isYear_141 rfl (lv_at hl 6 rfl) ?_
                        refine lv_iload_n hx hb dL_isYear_142 rfl (lv_at hl 7 rfl) ?_
                        refine lv_iload hx hb dL_isYear_143 (lv_at hl 1 rfl) ?_
                        refine pn_isub hx hb (by first | omega | rfl) dL_isYear_145 ?_
                        refine pz_VR (rest := []) ⟨hx, hb, hml, hown, hts⟩ (k_X0_consulsOf l D h0 ac ay ap cyI ts mk ch fy fp (y - (y - fy i2)) (by omega) (by omega) (by exact hfy) (by exact hfp)) (cwV 1 hts gL_isYear_X0_consulsOf rfl rfl rfl (by decide +kernel) ⟨Nat.le_of_ble_eq_true rfl, Nat.le_of_ble_eq_true rfl⟩) hK hP hD hS hA [0, 1, 2, 3] rfl rfl rfl 0 0 rfl rfl rfl hl.1 rfl (lv_room (Nat.le_of_ble_eq_true rfl)) dL_isYear_146 ⟨Nat.le_of_ble_eq_true rfl, Nat.le_of_ble_eq_true rfl⟩ (fun r H locs hr hP hS => ?_)
                        have hr_46 : (fun r => (r = (-1) ∧ ∀ j, j < 60 → ¬ fy j = (y - (y - fy i2))) ∨ ∃ i, i < 60 ∧ r = nI (fp i) ∧ fy i = (y - (y - fy i2))) r := hr
                        obtain ⟨r_46, er_46⟩ : ∃ z, z = r := ⟨_, rfl⟩
                        subst er_46
                        rcases hr_46 with ⟨hz, hno3⟩ | ⟨i3, hi3, hz, he3⟩
                        · -- absent
                          exfalso
                          have h9 := hno3 i2 hi2
                          omega
                        · -- present
                          subst hz
                          have hp3_ := hpz i3 hi3 (by omega)
                          have hq3_ := hfp i3 hi3
                          refine pn_if_le (tgt := 201) hx hb (by first | omega | rfl) dL_isYear_149 (by decide) (fun c_47 => ?_) (fun c_47 => ?_)
                          · -- 149 yes
                            exfalso; omega
                          · -- 149 no
                            refine lv_aload_n hx hb dL_isYear_152 rfl (lv_at hl 6 rfl) ?_
                            refine lv_iload_n hx hb dL_isYear_153 rfl (lv_at hl 7 rfl) ?_
                            refine lv_iconst (v := nI 1) hx hb dL_isYear_154 (by decide) ?_
                            refine pn_isub hx hb (by first | omega | rfl) dL_isYear_155 ?_
                            refine pz_VR (rest := []) ⟨hx, hb, hml, hown, hts⟩ (k_X0_consulsOf l D h0 ac ay ap cyI ts mk ch fy fp (y - 1) (by omega) (by omega) (by exact hfy) (by exact hfp)) (cwV 1 hts gL_isYear_X0_consulsOf rfl rfl rfl (by decide +kernel) ⟨Nat.le_of_ble_eq_true rfl, Nat.le_of_ble_eq_true rfl⟩) hK hP hD hS hA [0, 1, 2, 3] rfl rfl rfl 0 0 rfl rfl rfl hl.1 rfl (lv_room (Nat.le_of_ble_eq_true rfl)) dL_isYear_156 ⟨Nat.le_of_ble_eq_true rfl, Nat.le_of_ble_eq_true rfl⟩ (fun r H locs hr hP hS => ?_)
                            have hr_48 : (fun r => (r = (-1) ∧ ∀ j, j < 60 → ¬ fy j = (y - 1)) ∨ ∃ i, i < 60 ∧ r = nI (fp i) ∧ fy i = (y - 1)) r := hr
                            obtain ⟨r_48, er_48⟩ : ∃ z, z = r := ⟨_, rfl⟩
                            subst er_48
                            rcases hr_48 with ⟨hz, hno5⟩ | ⟨i5, hi5, hz, he5⟩
                            · -- absent
                              subst hz
                              have h7_ := hno5 i2 hi2
                              refine lv_iload hx hb dL_isYear_159 (lv_at hl 1 rfl) ?_
                              refine lv_iconst (v := nI 1) hx hb dL_isYear_161 (by decide) ?_
                              refine pn_icmp_ne (tgt := 176) hx hb (by first | omega | rfl) (by first | omega | rfl) dL_isYear_162 (by decide) (fun c_49 => ?_) (fun c_49 => ?_)
                              · -- 162 yes
                                refine lv_iconst (v := (-1 : Int32)) hx hb dL_isYear_176 (by decide) ?_
                                refine pi_icmp_ne (tgt := 201) (a := (-1)) (b := (-1)) hx hb (by decide) (by decide) dL_isYear_177 (by decide) (fun c_50 => ?_) (fun c_50 => ?_)
                                · -- 177 yes
                                  exfalso; omega
                                · -- 177 no
                                  refine lv_iload hx hb dL_isYear_180 (lv_at hl 2 rfl) ?_
                                  refine pi_if_lt (tgt := 197) (a := (-1)) hx hb (by decide) dL_isYear_182 (by decide) (fun c_51 => ?_) (fun c_51 => ?_)
                                  · -- 182 yes
                                    refine lv_iconst (v := nI 1) hx hb dL_isYear_197 (by decide) ?_
                                    refine lv_goto (tgt := 202) hx hb dL_isYear_198 (by decide) ?_
                                    exact hQ _ _ _ _ _ dL_isYear_202 (by decide) (congrArg nI (by rfl)) hS
                                  · -- 182 no
                                    refine lv_iload hx hb dL_isYear_185 (lv_at hl 0 rfl) ?_
                                    refine lv_iconst (v := nI 1) hx hb dL_isYear_187 (by decide) ?_
                                    refine pi_icmp_lt (tgt := 201) (a := (-1)) (b := ((1 : Nat) : Int)) hx hb (by decide) (nI_toInt (by first | omega | rfl)) dL_isYear_188 (by decide) (fun c_52 => ?_) (fun c_52 => ?_)
                                    · -- 188 yes
                                      exfalso; omega
                                    · -- 188 no
                                      refine lv_iload hx hb dL_isYear_191 (lv_at hl 0 rfl) ?_
                                      refine lv_iload_n hx hb dL_isYear_193 rfl (lv_at hl 7 rfl) ?_
                                      refine pi_icmp_gt (tgt := 201) (a := (-1)) (b := ((y : Nat) : Int)) hx hb (by decide) (nI_toInt (by first | omega | rfl)) dL_isYear_194 (by decide) (fun c_53 => ?_) (fun c_53 => ?_)
                                      · -- 194 yes
                                        exfalso; omega
                                      · -- 194 no
                                        refine lv_iconst (v := nI 1) hx hb dL_isYear_197 (by decide) ?_
                                        refine lv_goto (tgt := 202) hx hb dL_isYear_198 (by decide) ?_
                                        exact hQ _ _ _ _ _ dL_isYear_202 (by decide) (congrArg nI (by rfl)) hS
                              · -- 162 no
                                refine lv_aload_n hx hb dL_isYear_165 rfl (lv_at hl 6 rfl) ?_
                                refine lv_iload_n hx hb dL_isYear_166 rfl (lv_at hl 7 rfl) ?_
                                refine lv_iload hx hb dL_isYear_167 (lv_at hl 1 rfl) ?_
                                refine pn_isub hx hb (by first | omega | rfl) dL_isYear_169 ?_
                                refine pz_VR (rest := [.int (-1 : Int32)]) ⟨hx, hb, hml, hown, hts⟩ (k_X0_consulsOf l D h0 ac ay ap cyI ts mk ch fy fp (y - (y - fy i2)) (by omega) (by omega) (by exact hfy) (by exact hfp)) (cwV 1 hts gL_isYear_X0_consulsOf rfl rfl rfl (by decide +kernel) ⟨Nat.le_of_ble_eq_true rfl, Nat.le_of_ble_eq_true rfl⟩) hK hP hD hS hA [0, 1, 2, 3] rfl rfl rfl 0 0 rfl rfl rfl hl.1 rfl (lv_room (Nat.le_of_ble_eq_true rfl)) dL_isYear_170 ⟨Nat.le_of_ble_eq_true rfl, Nat.le_of_ble_eq_true rfl⟩ (fun r H locs hr hP hS => ?_)
                                have hr_54 : (fun r => (r = (-1) ∧ ∀ j, j < 60 → ¬ fy j = (y - (y - fy i2))) ∨ ∃ i, i < 60 ∧ r = nI (fp i) ∧ fy i = (y - (y - fy i2))) r := hr
                                obtain ⟨r_54, er_54⟩ : ∃ z, z = r := ⟨_, rfl⟩
                                subst er_54
                                rcases hr_54 with ⟨hz, hno6⟩ | ⟨i6, hi6, hz, he6⟩
                                · -- absent
                                  exfalso
                                  have h9 := hno6 i2 hi2
                                  omega
                                · -- present
                                  subst hz
                                  have hq6_ := hfp i6 hi6
                                  refine lv_goto (tgt := 177) hx hb dL_isYear_173 (by decide) ?_
                                  refine pi_icmp_ne (tgt := 201) (a := (-1)) (b := ((fp i6 : Nat) : Int)) hx hb (by decide) (nI_toInt (by first | omega | rfl)) dL_isYear_177 (by decide) (fun c_55 => ?_) (fun c_55 => ?_)
                                  · -- 177 yes
                                    exfalso; omega
                                  · -- 177 no
                                    refine lv_iload hx hb dL_isYear_180 (lv_at hl 2 rfl) ?_
                                    refine pi_if_lt (tgt := 197) (a := (-1)) hx hb (by decide) dL_isYear_182 (by decide) (fun c_56 => ?_) (fun c_56 => ?_)
                                    · -- 182 yes
                                      refine lv_iconst (v := nI 1) hx hb dL_isYear_197 (by decide) ?_
                                      refine lv_goto (tgt := 202) hx hb dL_isYear_198 (by decide) ?_
                                      exact hQ _ _ _ _ _ dL_isYear_202 (by decide) (congrArg nI (by rfl)) hS
                                    · -- 182 no
                                      refine lv_iload hx hb dL_isYear_185 (lv_at hl 0 rfl) ?_
                                      refine lv_iconst (v := nI 1) hx hb dL_isYear_187 (by decide) ?_
                                      refine pi_icmp_lt (tgt := 201) (a := (-1)) (b := ((1 : Nat) : Int)) hx hb (by decide) (nI_toInt (by first | omega | rfl)) dL_isYear_188 (by decide) (fun c_57 => ?_) (fun c_57 => ?_)
                                      · -- 188 yes
                                        exfalso; omega
                                      · -- 188 no
                                        refine lv_iload hx hb dL_isYear_191 (lv_at hl 0 rfl) ?_
                                        refine lv_iload_n hx hb dL_isYear_193 rfl (lv_at hl 7 rfl) ?_
                                        refine pi_icmp_gt (tgt := 201) (a := (-1)) (b := ((y : Nat) : Int)) hx hb (by decide) (nI_toInt (by first | omega | rfl)) dL_isYear_194 (by decide) (fun c_58 => ?_) (fun c_58 => ?_)
                                        · -- 194 yes
                                          exfalso; omega
                                        · -- 194 no
                                          refine lv_iconst (v := nI 1) hx hb dL_isYear_197 (by decide) ?_
                                          refine lv_goto (tgt := 202) hx hb dL_isYear_198 (by decide) ?_
                                          exact hQ _ _ _ _ _ dL_isYear_202 (by decide) (congrArg nI (by rfl)) hS
                            · -- present
                              subst hz
                              have hq5_ := hfp i5 hi5
                              have h6_ := hmax i5 hi5 (by omega)
                              refine lv_iload hx hb dL_isYear_159 (lv_at hl 1 rfl) ?_
                              refine lv_iconst (v := nI 1) hx hb dL_isYear_161 (by decide) ?_
                              refine pn_icmp_ne (tgt := 176) hx hb (by first | omega | rfl) (by first | omega | rfl) dL_isYear_162 (by decide) (fun c_59 => ?_) (fun c_59 => ?_)
                              · -- 162 yes
                                refine lv_iconst (v := (-1 : Int32)) hx hb dL_isYear_176 (by decide) ?_
                                refine pi_icmp_ne (tgt := 201) (a := ((fp i5 : Nat) : Int)) (b := (-1)) hx hb (nI_toInt (by first | omega | rfl)) (by decide) dL_isYear_177 (by decide) (fun c_60 => ?_) (fun c_60 => ?_)
                                · -- 177 yes
                                  exfalso; omega
                                · -- 177 no
                                  refine lv_iload hx hb dL_isYear_180 (lv_at hl 2 rfl) ?_
                                  refine pi_if_lt (tgt := 197) (a := (-1)) hx hb (by decide) dL_isYear_182 (by decide) (fun c_61 => ?_) (fun c_61 => ?_)
                                  · -- 182 yes
                                    refine lv_iconst (v := nI 1) hx hb dL_isYear_197 (by decide) ?_
                                    refine lv_goto (tgt := 202) hx hb dL_isYear_198 (by decide) ?_
                                    exact hQ _ _ _ _ _ dL_isYear_202 (by decide) (congrArg nI (by rfl)) hS
                                  · -- 182 no
                                    refine lv_iload hx hb dL_isYear_185 (lv_at hl 0 rfl) ?_
                                    refine lv_iconst (v := nI 1) hx hb dL_isYear_187 (by decide) ?_
                                    refine pi_icmp_lt (tgt := 201) (a := (-1)) (b := ((1 : Nat) : Int)) hx hb (by decide) (nI_toInt (by first | omega | rfl)) dL_isYear_188 (by decide) (fun c_62 => ?_) (fun c_62 => ?_)
                                    · -- 188 yes
                                      exfalso; omega
                                    · -- 188 no
                                      refine lv_iload hx hb dL_isYear_191 (lv_at hl 0 rfl) ?_
                                      refine lv_iload_n hx hb dL_isYear_193 rfl (lv_at hl 7 rfl) ?_
                                      refine pi_icmp_gt (tgt := 201) (a := (-1)) (b := ((y : Nat) : Int)) hx hb (by decide) (nI_toInt (by first | omega | rfl)) dL_isYear_194 (by decide) (fun c_63 => ?_) (fun c_63 => ?_)
                                      · -- 194 yes
                                        exfalso; omega
                                      · -- 194 no
                                        refine lv_iconst (v := nI 1) hx hb dL_isYear_197 (by decide) ?_
                                        refine lv_goto (tgt := 202) hx hb dL_isYear_198 (by decide) ?_
                                        exact hQ _ _ _ _ _ dL_isYear_202 (by decide) (congrArg nI (by rfl)) hS
                              · -- 162 no
                                refine lv_aload_n hx hb dL_isYear_165 rfl (lv_at hl 6 rfl) ?_
                                refine lv_iload_n hx hb dL_isYear_166 rfl (lv_at hl 7 rfl) ?_
                                refine lv_iload hx hb dL_isYear_167 (lv_at hl 1 rfl) ?_
                                refine pn_isub hx hb (by first | omega | rfl) dL_isYear_169 ?_
                                refine pz_VR (rest := [.int (nI (fp i5))]) ⟨hx, hb, hml, hown, hts⟩ (k_X0_consulsOf l D h0 ac ay ap cyI ts mk ch fy fp (y - (y - fy i2)) (by omega) (by omega) (by exact hfy) (by exact hfp)) (cwV 1 hts gL_isYear_X0_consulsOf rfl rfl rfl (by decide +kernel) ⟨Nat.le_of_ble_eq_true rfl, Nat.le_of_ble_eq_true rfl⟩) hK hP hD hS hA [0, 1, 2, 3] rfl rfl rfl 0 0 rfl rfl rfl hl.1 rfl (lv_room (Nat.le_of_ble_eq_true rfl)) dL_isYear_170 ⟨Nat.le_of_ble_eq_true rfl, Nat.le_of_ble_eq_true rfl⟩ (fun r H locs hr hP hS => ?_)
                                have hr_64 : (fun r => (r = (-1) ∧ ∀ j, j < 60 → ¬ fy j = (y - (y - fy i2))) ∨ ∃ i, i < 60 ∧ r = nI (fp i) ∧ fy i = (y - (y - fy i2))) r := hr
                                obtain ⟨r_64, er_64⟩ : ∃ z, z = r := ⟨_, rfl⟩
                                subst er_64
                                rcases hr_64 with ⟨hz, hno6⟩ | ⟨i6, hi6, hz, he6⟩
                                · -- absent
                                  exfalso
                                  have h9 := hno6 i2 hi2
                                  omega
                                · -- present
                                  subst hz
                                  have hq6_ := hfp i6 hi6
                                  have h9_ : fp i5 = fp i6 := by rw [hds i5 i6 hi5 hi6 (by omega) (by omega)]
                                  refine lv_goto (tgt := 177) hx hb dL_isYear_173 (by decide) ?_
                                  refine pn_icmp_ne (tgt := 201) hx hb (by first | omega | rfl) (by first | omega | rfl) dL_isYear_177 (by decide) (fun c_65 => ?_) (fun c_65 => ?_)
                                  · -- 177 yes
                                    exfalso; omega
                                  · -- 177 no
                                    refine lv_iload hx hb dL_isYear_180 (lv_at hl 2 rfl) ?_
                                    refine pi_if_lt (tgt := 197) (a := (-1)) hx hb (by decide) dL_isYear_182 (by decide) (fun c_66 => ?_) (fun c_66 => ?_)
                                    · -- 182 yes
                                      refine lv_iconst (v := nI 1) hx hb dL_isYear_197 (by decide) ?_
                                      refine lv_goto (tgt := 202) hx hb dL_isYear_198 (by decide) ?_
                                      exact hQ _ _ _ _ _ dL_isYear_202 (by decide) (congrArg nI (by rfl)) hS
                                    · -- 182 no
                                      refine lv_iload hx hb dL_isYear_185 (lv_at hl 0 rfl) ?_
                                      refine lv_iconst (v := nI 1) hx hb dL_isYear_187 (by decide) ?_
                                      refine pi_icmp_lt (tgt := 201) (a := (-1)) (b := ((1 : Nat) : Int)) hx hb (by decide) (nI_toInt (by first | omega | rfl)) dL_isYear_188 (by decide) (fun c_67 => ?_) (fun c_67 => ?_)
                                      · -- 188 yes
                                        exfalso; omega
                                      · -- 188 no
                                        refine lv_iload hx hb dL_isYear_191 (lv_at hl 0 rfl) ?_
                                        refine lv_iload_n hx hb dL_isYear_193 rfl (lv_at hl 7 rfl) ?_
                                        refine pi_icmp_gt (tgt := 201) (a := (-1)) (b := ((y : Nat) : Int)) hx hb (by decide) (nI_toInt (by first | omega | rfl)) dL_isYear_194 (by decide) (fun c_68 => ?_) (fun c_68 => ?_)
                                        · -- 194 yes
                                          exfalso; omega
                                        · -- 194 no
                                          refine lv_iconst (v := nI 1) hx hb dL_isYear_197 (by decide) ?_
                                          refine lv_goto (tgt := 202) hx hb dL_isYear_198 (by decide) ?_
                                          exact hQ _ _ _ _ _ dL_isYear_202 (by decide) (congrArg nI (by rfl)) hS
                    · -- 124 no
                      refine lv_iconst (v := nI 1) hx hb dL_isYear_127 (by decide) ?_
                      refine lv_goto (tgt := 132) hx hb dL_isYear_128 (by decide) ?_
                      refine pn_icmp_ne (tgt := 201) hx hb (by first | omega | rfl) (by first | omega | rfl) dL_isYear_132 (by decide) (fun _ => ?_) (fun c_69 => absurd c_69 (by decide))
                      exfalso; omega
                  · -- 114 no
                    refine lv_iconst (v := nI 1) hx hb dL_isYear_117 (by decide) ?_
                    refine lv_goto (tgt := 122) hx hb dL_isYear_118 (by decide) ?_
                    refine lv_iload hx hb dL_isYear_122 (lv_at hl 2 rfl) ?_
                    refine pi_if_le (tgt := 131) (a := (-1)) hx hb (by decide) dL_isYear_124 (by decide) (fun c_70 => ?_) (fun c_70 => ?_)
                    · -- 124 yes
                      refine lv_iconst (v := nI 0) hx hb dL_isYear_131 (by decide) ?_
                      refine pn_icmp_ne (tgt := 201) hx hb (by first | omega | rfl) (by first | omega | rfl) dL_isYear_132 (by decide) (fun _ => ?_) (fun c_71 => absurd c_71 (by decide))
                      exfalso; omega
                    · -- 124 no
                      refine lv_iconst (v := nI 1) hx hb dL_isYear_127 (by decide) ?_
                      refine lv_goto (tgt := 132) hx hb dL_isYear_128 (by decide) ?_
                      refine pn_icmp_ne (tgt := 201) hx hb (by first | omega | rfl) (by first | omega | rfl) dL_isYear_132 (by decide) (fun c_72 => absurd c_72 (by decide)) (fun _ => ?_)
                      refine lv_iload hx hb dL_isYear_135 (lv_at hl 1 rfl) ?_
                      refine lv_iconst (v := nI 1) hx hb dL_isYear_137 (by decide) ?_
                      refine pn_icmp_lt (tgt := 180) hx hb (by first | omega | rfl) (by first | omega | rfl) dL_isYear_138 (by decide) (fun c_73 => ?_) (fun c_73 => ?_)
                      · -- 138 yes
                        refine lv_iload hx hb dL_isYear_180 (lv_at hl 2 rfl) ?_
                        refine pi_if_lt (tgt := 197) (a := (-1)) hx hb (by decide) dL_isYear_182 (by decide) (fun c_74 => ?_) (fun c_74 => ?_)
                        · -- 182 yes
                          refine lv_iconst (v := nI 1) hx hb dL_isYear_197 (by decide) ?_
                          refine lv_goto (tgt := 202) hx hb dL_isYear_198 (by decide) ?_
                          exact hQ _ _ _ _ _ dL_isYear_202 (by decide) (congrArg nI (by rfl)) hS
                        · -- 182 no
                          refine lv_iload hx hb dL_isYear_185 (lv_at hl 0 rfl) ?_
                          refine lv_iconst (v := nI 1) hx hb dL_isYear_187 (by decide) ?_
                          refine pi_icmp_lt (tgt := 201) (a := (-1)) (b := ((1 : Nat) : Int)) hx hb (by decide) (nI_toInt (by first | omega | rfl)) dL_isYear_188 (by decide) (fun c_75 => ?_) (fun c_75 => ?_)
                          · -- 188 yes
                            exfalso; omega
                          · -- 188 no
                            refine lv_iload hx hb dL_isYear_191 (lv_at hl 0 rfl) ?_
                            refine lv_iload_n hx hb dL_isYear_193 rfl (lv_at hl 7 rfl) ?_
                            refine pi_icmp_gt (tgt := 201) (a := (-1)) (b := ((y : Nat) : Int)) hx hb (by decide) (nI_toInt (by first | omega | rfl)) dL_isYear_194 (by decide) (fun c_76 => ?_) (fun c_76 => ?_)
                            · -- 194 yes
                              exfalso; omega
                            · -- 194 no
                              refine lv_iconst (v := nI 1) hx hb dL_isYear_197 (by decide) ?_
                              refine lv_goto (tgt := 202) hx hb dL_isYear_198 (by decide) ?_
                              exact hQ _ _ _ _ _ dL_isYear_202 (by decide) (congrArg nI (by rfl)) hS
                      · -- 138 no
                        refine lv_aload_n hx hb dL_isYear_141 rfl (lv_at hl 6 rfl) ?_
                        refine lv_iload_n hx hb dL_isYear_142 rfl (lv_at hl 7 rfl) ?_
                        refine lv_iload hx hb dL_isYear_143 (lv_at hl 1 rfl) ?_
                        refine pn_isub hx hb (by first | omega | rfl) dL_isYear_145 ?_
                        refine pz_VR (rest := []) ⟨hx, hb, hml, hown, hts⟩ (k_X0_consulsOf l D h0 ac ay ap cyI ts mk ch fy fp (y - (y - fy i2)) (by omega) (by omega) (by exact hfy) (by exact hfp)) (cwV 1 hts gL_isYear_X0_consulsOf rfl rfl rfl (by decide +kernel) ⟨Nat.le_of_ble_eq_true rfl, Nat.le_of_ble_eq_true rfl⟩) hK hP hD hS hA [0, 1, 2, 3] rfl rfl rfl 0 0 rfl rfl rfl hl.1 rfl (lv_room (Nat.le_of_ble_eq_true rfl)) dL_isYear_146 ⟨Nat.le_of_ble_eq_true rfl, Nat.le_of_ble_eq_true rfl⟩ (fun r H locs hr hP hS => ?_)
                        have hr_77 : (fun r => (r = (-1) ∧ ∀ j, j < 60 → ¬ fy j = (y - (y - fy i2))) ∨ ∃ i, i < 60 ∧ r = nI (fp i) ∧ fy i = (y - (y - fy i2))) r := hr
                        obtain ⟨r_77, er_77⟩ : ∃ z, z = r := ⟨_, rfl⟩
                        subst er_77
                        rcases hr_77 with ⟨hz, hno3⟩ | ⟨i3, hi3, hz, he3⟩
                        · -- absent
                          exfalso
                          have h9 := hno3 i2 hi2
                          omega
                        · -- present
                          subst hz
                          have hp3_ := hpz i3 hi3 (by omega)
                          have hq3_ := hfp i3 hi3
                          refine pn_if_le (tgt := 201) hx hb (by first | omega | rfl) dL_isYear_149 (by decide) (fun c_78 => ?_) (fun c_78 => ?_)
                          · -- 149 yes
                            exfalso; omega
                          · -- 149 no
                            refine lv_aload_n hx hb dL_isYear_152 rfl (lv_at hl 6 rfl) ?_
                            refine lv_iload_n hx hb dL_isYear_153 rfl (lv_at hl 7 rfl) ?_
                            refine lv_iconst (v := nI 1) hx hb dL_isYear_154 (by decide) ?_
                            refine pn_isub hx hb (by first | omega | rfl) dL_isYear_155 ?_
                            refine pz_VR (rest := []) ⟨hx, hb, hml, hown, hts⟩ (k_X0_consulsOf l D h0 ac ay ap cyI ts mk ch fy fp (y - 1) (by omega) (by omega) (by exact hfy) (by exact hfp)) (cwV 1 hts gL_isYear_X0_consulsOf rfl rfl rfl (by decide +kernel) ⟨Nat.le_of_ble_eq_true rfl, Nat.le_of_ble_eq_true rfl⟩) hK hP hD hS hA [0, 1, 2, 3] rfl rfl rfl 0 0 rfl rfl rfl hl.1 rfl (lv_room (Nat.le_of_ble_eq_true rfl)) dL_isYear_156 ⟨Nat.le_of_ble_eq_true rfl, Nat.le_of_ble_eq_true rfl⟩ (fun r H locs hr hP hS => ?_)
                            have hr_79 : (fun r => (r = (-1) ∧ ∀ j, j < 60 → ¬ fy j = (y - 1)) ∨ ∃ i, i < 60 ∧ r = nI (fp i) ∧ fy i = (y - 1)) r := hr
                            obtain ⟨r_79, er_79⟩ : ∃ z, z = r := ⟨_, rfl⟩
                            subst er_79
                            rcases hr_79 with ⟨hz, hno5⟩ | ⟨i5, hi5, hz, he5⟩
                            · -- absent
                              subst hz
                              have h7_ := hno5 i2 hi2
                              refine lv_iload hx hb dL_isYear_159 (lv_at hl 1 rfl) ?_
                              refine lv_iconst (v := nI 1) hx hb dL_isYear_161 (by decide) ?_
                              refine pn_icmp_ne (tgt := 176) hx hb (by first | omega | rfl) (by first | omega | rfl) dL_isYear_162 (by decide) (fun c_80 => ?_) (fun c_80 => ?_)
                              · -- 162 yes
                                refine lv_iconst (v := (-1 : Int32)) hx hb dL_isYear_176 (by decide) ?_
                                refine pi_icmp_ne (tgt := 201) (a := (-1)) (b := (-1)) hx hb (by decide) (by decide) dL_isYear_177 (by decide) (fun c_81 => ?_) (fun c_81 => ?_)
                                · -- 177 yes
                                  exfalso; omega
                                · -- 177 no
                                  refine lv_iload hx hb dL_isYear_180 (lv_at hl 2 rfl) ?_
                                  refine pi_if_lt (tgt := 197) (a := (-1)) hx hb (by decide) dL_isYear_182 (by decide) (fun c_82 => ?_) (fun c_82 => ?_)
                                  · -- 182 yes
                                    refine lv_iconst (v := nI 1) hx hb dL_isYear_197 (by decide) ?_
                                    refine lv_goto (tgt := 202) hx hb dL_isYear_198 (by decide) ?_
                                    exact hQ _ _ _ _ _ dL_isYear_202 (by decide) (congrArg nI (by rfl)) hS
                                  · -- 182 no
                                    refine lv_iload hx hb dL_isYear_185 (lv_at hl 0 rfl) ?_
                                    refine lv_iconst (v := nI 1) hx hb dL_isYear_187 (by decide) ?_
                                    refine pi_icmp_lt (tgt := 201) (a := (-1)) (b := ((1 : Nat) : Int)) hx hb (by decide) (nI_toInt (by first | omega | rfl)) dL_isYear_188 (by decide) (fun c_83 => ?_) (fun c_83 => ?_)
                                    · -- 188 yes
                                      exfalso; omega
                                    · -- 188 no
                                      refine lv_iload hx hb dL_isYear_191 (lv_at hl 0 rfl) ?_
                                      refine lv_iload_n hx hb dL_isYear_193 rfl (lv_at hl 7 rfl) ?_
                                      refine pi_icmp_gt (tgt := 201) (a := (-1)) (b := ((y : Nat) : Int)) hx hb (by decide) (nI_toInt (by first | omega | rfl)) dL_isYear_194 (by decide) (fun c_84 => ?_) (fun c_84 => ?_)
                                      · -- 194 yes
                                        exfalso; omega
                                      · -- 194 no
                                        refine lv_iconst (v := nI 1) hx hb dL_isYear_197 (by decide) ?_
                                        refine lv_goto (tgt := 202) hx hb dL_isYear_198 (by decide) ?_
                                        exact hQ _ _ _ _ _ dL_isYear_202 (by decide) (congrArg nI (by rfl)) hS
                              · -- 162 no
                                refine lv_aload_n hx hb dL_isYear_165 rfl (lv_at hl 6 rfl) ?_
                                refine lv_iload_n hx hb dL_isYear_166 rfl (lv_at hl 7 rfl) ?_
                                refine lv_iload hx hb dL_isYear_167 (lv_at hl 1 rfl) ?_
                                refine pn_isub hx hb (by first | omega | rfl) dL_isYear_169 ?_
                                refine pz_VR (rest := [.int (-1 : Int32)]) ⟨hx, hb, hml, hown, hts⟩ (k_X0_consulsOf l D h0 ac ay ap cyI ts mk ch fy fp (y - (y - fy i2)) (by omega) (by omega) (by exact hfy) (by exact hfp)) (cwV 1 hts gL_isYear_X0_consulsOf rfl rfl rfl (by decide +kernel) ⟨Nat.le_of_ble_eq_true rfl, Nat.le_of_ble_eq_true rfl⟩) hK hP hD hS hA [0, 1, 2, 3] rfl rfl rfl 0 0 rfl rfl rfl hl.1 rfl (lv_room (Nat.le_of_ble_eq_true rfl)) dL_isYear_170 ⟨Nat.le_of_ble_eq_true rfl, Nat.le_of_ble_eq_true rfl⟩ (fun r H locs hr hP hS => ?_)
                                have hr_85 : (fun r => (r = (-1) ∧ ∀ j, j < 60 → ¬ fy j = (y - (y - fy i2))) ∨ ∃ i, i < 60 ∧ r = nI (fp i) ∧ fy i = (y - (y - fy i2))) r := hr
                                obtain ⟨r_85, er_85⟩ : ∃ z, z = r := ⟨_, rfl⟩
                                subst er_85
                                rcases hr_85 with ⟨hz, hno6⟩ | ⟨i6, hi6, hz, he6⟩
                                · -- absent
                                  exfalso
                                  have h9 := hno6 i2 hi2
                                  omega
                                · -- present
                                  subst hz
                                  have hq6_ := hfp i6 hi6
                                  refine lv_goto (tgt := 177) hx hb dL_isYear_173 (by decide) ?_
                                  refine pi_icmp_ne (tgt := 201) (a := (-1)) (b := ((fp i6 : Nat) : Int)) hx hb (by decide) (nI_toInt (by first | omega | rfl)) dL_isYear_177 (by decide) (fun c_86 => ?_) (fun c_86 => ?_)
                                  · -- 177 yes
                                    exfalso; omega
                                  · -- 177 no
                                    refine lv_iload hx hb dL_isYear_180 (lv_at hl 2 rfl) ?_
                                    refine pi_if_lt (tgt := 197) (a := (-1)) hx hb (by decide) dL_isYear_182 (by decide) (fun c_87 => ?_) (fun c_87 => ?_)
                                    · -- 182 yes
                                      refine lv_iconst (v := nI 1) hx hb dL_isYear_197 (by decide) ?_
                                      refine lv_goto (tgt := 202) hx hb dL_isYear_198 (by decide) ?_
                                      exact hQ _ _ _ _ _ dL_isYear_202 (by decide) (congrArg nI (by rfl)) hS
                                    · -- 182 no
                                      refine lv_iload hx hb dL_isYear_185 (lv_at hl 0 rfl) ?_
                                      refine lv_iconst (v := nI 1) hx hb dL_isYear_187 (by decide) ?_
                                      refine pi_icmp_lt (tgt := 201) (a := (-1)) (b := ((1 : Nat) : Int)) hx hb (by decide) (nI_toInt (by first | omega | rfl)) dL_isYear_188 (by decide) (fun c_88 => ?_) (fun c_88 => ?_)
                                      · -- 188 yes
                                        exfalso; omega
                                      · -- 188 no
                                        refine lv_iload hx hb dL_isYear_191 (lv_at hl 0 rfl) ?_
                                        refine lv_iload_n hx hb dL_isYear_193 rfl (lv_at hl 7 rfl) ?_
                                        refine pi_icmp_gt (tgt := 201) (a := (-1)) (b := ((y : Nat) : Int)) hx hb (by decide) (nI_toInt (by first | omega | rfl)) dL_isYear_194 (by decide) (fun c_89 => ?_) (fun c_89 => ?_)
                                        · -- 194 yes
                                          exfalso; omega
                                        · -- 194 no
                                          refine lv_iconst (v := nI 1) hx hb dL_isYear_197 (by decide) ?_
                                          refine lv_goto (tgt := 202) hx hb dL_isYear_198 (by decide) ?_
                                          exact hQ _ _ _ _ _ dL_isYear_202 (by decide) (congrArg nI (by rfl)) hS
                            · -- present
                              subst hz
                              have hq5_ := hfp i5 hi5
                              have h6_ := hmax i5 hi5 (by omega)
                              refine lv_iload hx hb dL_isYear_159 (lv_at hl 1 rfl) ?_
                              refine lv_iconst (v := nI 1) hx hb dL_isYear_161 (by decide) ?_
                              refine pn_icmp_ne (tgt := 176) hx hb (by first | omega | rfl) (by first | omega | rfl) dL_isYear_162 (by decide) (fun c_90 => ?_) (fun c_90 => ?_)
                              · -- 162 yes
                                refine lv_iconst (v := (-1 : Int32)) hx hb dL_isYear_176 (by decide) ?_
                                refine pi_icmp_ne (tgt := 201) (a := ((fp i5 : Nat) : Int)) (b := (-1)) hx hb (nI_toInt (by first | omega | rfl)) (by decide) dL_isYear_177 (by decide) (fun c_91 => ?_) (fun c_91 => ?_)
                                · -- 177 yes
                                  exfalso; omega
                                · -- 177 no
                                  refine lv_iload hx hb dL_isYear_180 (lv_at hl 2 rfl) ?_
                                  refine pi_if_lt (tgt := 197) (a := (-1)) hx hb (by decide) dL_isYear_182 (by decide) (fun c_92 => ?_) (fun c_92 => ?_)
                                  · -- 182 yes
                                    refine lv_iconst (v := nI 1) hx hb dL_isYear_197 (by decide) ?_
                                    refine lv_goto (tgt := 202) hx hb dL_isYear_198 (by decide) ?_
                                    exact hQ _ _ _ _ _ dL_isYear_202 (by decide) (congrArg nI (by rfl)) hS
                                  · -- 182 no
                                    refine lv_iload hx hb dL_isYear_185 (lv_at hl 0 rfl) ?_
                                    refine lv_iconst (v := nI 1) hx hb dL_isYear_187 (by decide) ?_
                                    refine pi_icmp_lt (tgt := 201) (a := (-1)) (b := ((1 : Nat) : Int)) hx hb (by decide) (nI_toInt (by first | omega | rfl)) dL_isYear_188 (by decide) (fun c_93 => ?_) (fun c_93 => ?_)
                                    · -- 188 yes
                                      exfalso; omega
                                    · -- 188 no
                                      refine lv_iload hx hb dL_isYear_191 (lv_at hl 0 rfl) ?_
                                      refine lv_iload_n hx hb dL_isYear_193 rfl (lv_at hl 7 rfl) ?_
                                      refine pi_icmp_gt (tgt := 201) (a := (-1)) (b := ((y : Nat) : Int)) hx hb (by decide) (nI_toInt (by first | omega | rfl)) dL_isYear_194 (by decide) (fun c_94 => ?_) (fun c_94 => ?_)
                                      · -- 194 yes
                                        exfalso; omega
                                      · -- 194 no
                                        refine lv_iconst (v := nI 1) hx hb dL_isYear_197 (by decide) ?_
                                        refine lv_goto (tgt := 202) hx hb dL_isYear_198 (by decide) ?_
                                        exact hQ _ _ _ _ _ dL_isYear_202 (by decide) (congrArg nI (by rfl)) hS
                              · -- 162 no
                                refine lv_aload_n hx hb dL_isYear_165 rfl (lv_at hl 6 rfl) ?_
                                refine lv_iload_n hx hb dL_isYear_166 rfl (lv_at hl 7 rfl) ?_
                                refine lv_iload hx hb dL_isYear_167 (lv_at hl 1 rfl) ?_
                                refine pn_isub hx hb (by first | omega | rfl) dL_isYear_169 ?_
                                refine pz_VR (rest := [.int (nI (fp i5))]) ⟨hx, hb, hml, hown, hts⟩ (k_X0_consulsOf l D h0 ac ay ap cyI ts mk ch fy fp (y - (y - fy i2)) (by omega) (by omega) (by exact hfy) (by exact hfp)) (cwV 1 hts gL_isYear_X0_consulsOf rfl rfl rfl (by decide +kernel) ⟨Nat.le_of_ble_eq_true rfl, Nat.le_of_ble_eq_true rfl⟩) hK hP hD hS hA [0, 1, 2, 3] rfl rfl rfl 0 0 rfl rfl rfl hl.1 rfl (lv_room (Nat.le_of_ble_eq_true rfl)) dL_isYear_170 ⟨Nat.le_of_ble_eq_true rfl, Nat.le_of_ble_eq_true rfl⟩ (fun r H locs hr hP hS => ?_)
                                have hr_95 : (fun r => (r = (-1) ∧ ∀ j, j < 60 → ¬ fy j = (y - (y - fy i2))) ∨ ∃ i, i < 60 ∧ r = nI (fp i) ∧ fy i = (y - (y - fy i2))) r := hr
                                obtain ⟨r_95, er_95⟩ : ∃ z, z = r := ⟨_, rfl⟩
                                subst er_95
                                rcases hr_95 with ⟨hz, hno6⟩ | ⟨i6, hi6, hz, he6⟩
                                · -- absent
                                  exfalso
                                  have h9 := hno6 i2 hi2
                                  omega
                                · -- present
                                  subst hz
                                  have hq6_ := hfp i6 hi6
                                  have h9_ : fp i5 = fp i6 := by rw [hds i5 i6 hi5 hi6 (by omega) (by omega)]
                                  refine lv_goto (tgt := 177) hx hb dL_isYear_173 (by decide) ?_
                                  refine pn_icmp_ne (tgt := 201) hx hb (by first | omega | rfl) (by first | omega | rfl) dL_isYear_177 (by decide) (fun c_96 => ?_) (fun c_96 => ?_)
                                  · -- 177 yes
                                    exfalso; omega
                                  · -- 177 no
                                    refine lv_iload hx hb dL_isYear_180 (lv_at hl 2 rfl) ?_
                                    refine pi_if_lt (tgt := 197) (a := (-1)) hx hb (by decide) dL_isYear_182 (by decide) (fun c_97 => ?_) (fun c_97 => ?_)
                                    · -- 182 yes
                                      refine lv_iconst (v := nI 1) hx hb dL_isYear_197 (by decide) ?_
                                      refine lv_goto (tgt := 202) hx hb dL_isYear_198 (by decide) ?_
                                      exact hQ _ _ _ _ _ dL_isYear_202 (by decide) (congrArg nI (by rfl)) hS
                                    · -- 182 no
                                      refine lv_iload hx hb dL_isYear_185 (lv_at hl 0 rfl) ?_
                                      refine lv_iconst (v := nI 1) hx hb dL_isYear_187 (by decide) ?_
                                      refine pi_icmp_lt (tgt := 201) (a := (-1)) (b := ((1 : Nat) : Int)) hx hb (by decide) (nI_toInt (by first | omega | rfl)) dL_isYear_188 (by decide) (fun c_98 => ?_) (fun c_98 => ?_)
                                      · -- 188 yes
                                        exfalso; omega
                                      · -- 188 no
                                        refine lv_iload hx hb dL_isYear_191 (lv_at hl 0 rfl) ?_
                                        refine lv_iload_n hx hb dL_isYear_193 rfl (lv_at hl 7 rfl) ?_
                                        refine pi_icmp_gt (tgt := 201) (a := (-1)) (b := ((y : Nat) : Int)) hx hb (by decide) (nI_toInt (by first | omega | rfl)) dL_isYear_194 (by decide) (fun c_99 => ?_) (fun c_99 => ?_)
                                        · -- 194 yes
                                          exfalso; omega
                                        · -- 194 no
                                          refine lv_iconst (v := nI 1) hx hb dL_isYear_197 (by decide) ?_
                                          refine lv_goto (tgt := 202) hx hb dL_isYear_198 (by decide) ?_
                                          exact hQ _ _ _ _ _ dL_isYear_202 (by decide) (congrArg nI (by rfl)) hS
  · -- present
    subst hz
    have hp0_ := hpz i0 hi0 (by omega)
    have hq0_ := hfp i0 hi0
    refine lv_istore (lv' := [(5, .int (nI (fp i0))), (4, .int (nI vv)), (3, .int (nI sv)), (2, .int (nI mv)), (0, .ref h0), (1, .int (nI y))]) hx hb dL_isYear_24 hl (by decide) rfl (fun ls hl => ?_)
    refine lv_aload_n hx hb dL_isYear_26 rfl (lv_at hl 4 rfl) ?_
    refine lv_iload_n hx hb dL_isYear_27 rfl (lv_at hl 5 rfl) ?_
    refine pz_VR (rest := []) ⟨hx, hb, hml, hown, hts⟩ (k_X0_afterConsuls l D h0 ac ay ap cyI ts mk ch fy fp y (by omega) (by omega) (by exact hfy)) (cwV 1 hts gL_isYear_X0_afterConsuls rfl rfl rfl (by decide +kernel) ⟨Nat.le_of_ble_eq_true rfl, Nat.le_of_ble_eq_true rfl⟩) hK hP hD hS hA [0, 1, 2, 3] rfl rfl rfl 0 0 rfl rfl rfl hl.1 rfl (lv_room (Nat.le_of_ble_eq_true rfl)) dL_isYear_28 ⟨Nat.le_of_ble_eq_true rfl, Nat.le_of_ble_eq_true rfl⟩ (fun r H locs hr hP hS => ?_)
    have hr_100 : (fun r => (r = (-1) ∧ ∀ j, j < 60 → fy j ≤ y → fy j = 0) ∨ ∃ i, i < 60 ∧ ¬ fy i = 0 ∧ fy i ≤ y ∧ r = nI (y - fy i) ∧ ∀ j, j < 60 → fy j ≤ y → fy j ≤ fy i) r := hr
    obtain ⟨r_100, er_100⟩ : ∃ z, z = r := ⟨_, rfl⟩
    subst er_100
    rcases hr_100 with ⟨hz, hn2⟩ | ⟨i2, hi2, hnz, hle, hz, hmax⟩
    · -- none before
      exfalso
      have h9 := hn2 i0 hi0 (by omega)
      omega
    · -- some before
      subst hz
      have hf2_ := hfy i2 hi2
      have h5_ := hmax i0 hi0 (by omega)
      refine lv_istore (lv' := [(6, .int (nI (y - fy i2))), (5, .int (nI (fp i0))), (4, .int (nI vv)), (3, .int (nI sv)), (2, .int (nI mv)), (0, .ref h0), (1, .int (nI y))]) hx hb dL_isYear_31 hl (by decide) rfl (fun ls hl => ?_)
      refine lv_iload hx hb dL_isYear_33 (lv_at hl 1 rfl) ?_
      refine pn_if_ge (tgt := 42) hx hb (by first | omega | rfl) dL_isYear_35 (by decide) ?_
      refine lv_aload_n hx hb dL_isYear_42 rfl (lv_at hl 5 rfl) ?_
      refine lv_iload hx hb dL_isYear_43 (lv_at hl 1 rfl) ?_
      refine lv_sipush (v := nI 1000) hx hb dL_isYear_45 (by decide) ?_
      refine pn_irem hx hb (by first | omega | rfl) (by first | omega | rfl) (by first | omega | rfl) dL_isYear_48 ?_
      refine lv_iload hx hb dL_isYear_49 (lv_at hl 1 rfl) ?_
      refine lv_sipush (v := nI 1000) hx hb dL_isYear_51 (by decide) ?_
      refine pn_idiv hx hb (by first | omega | rfl) (by first | omega | rfl) (by first | omega | rfl) dL_isYear_54 ?_
      refine lv_iconst (v := nI 1) hx hb dL_isYear_55 (by decide) ?_
      refine pz_VR (rest := []) ⟨hx, hb, hml, hown, hts⟩ (k_X0_yearOfConsuls l D h0 ac ay ap cyI ts mk ch fy fp (nI ((fp i0) % 1000)) (nI ((fp i0) / 1000)) 1 (by omega) (by omega) (by exact hfy) (by exact hfp)) (cwV 3 hts gL_isYear_X0_yearOfConsuls rfl rfl rfl (by decide +kernel) ⟨Nat.le_of_ble_eq_true rfl, Nat.le_of_ble_eq_true rfl⟩) hK hP hD hS hA [0, 1, 2, 3] rfl rfl rfl 0 0 rfl rfl rfl hl.1 rfl (lv_room (Nat.le_of_ble_eq_true rfl)) dL_isYear_56 ⟨Nat.le_of_ble_eq_true rfl, Nat.le_of_ble_eq_true rfl⟩ (fun r H locs hr hP hS => ?_)
      have hr_102 : (fun r => pm_kth (pm_M (nI ((fp i0) % 1000)) (nI ((fp i0) / 1000)) fy fp 60) 1 r) r := hr
      obtain ⟨r_102, er_102⟩ : ∃ z, z = r := ⟨_, rfl⟩
      subst er_102
      obtain ⟨fo, hfo, hfo1, hfo2⟩ := pg_found hi0 he0 hq0_ (by omega) (by omega) hr_102
      subst hfo
      refine lv_istore (lv' := [(7, .int (nI fo)), (6, .int (nI (y - fy i2))), (5, .int (nI (fp i0))), (4, .int (nI vv)), (3, .int (nI sv)), (2, .int (nI mv)), (0, .ref h0), (1, .int (nI y))]) hx hb dL_isYear_59 hl (by decide) rfl (fun ls hl => ?_)
      refine lv_iload_n hx hb dL_isYear_61 rfl (lv_at hl 5 rfl) ?_
      refine pn_if_lt (tgt := 201) hx hb (by first | omega | rfl) dL_isYear_62 (by decide) ?_
      refine lv_iload_n hx hb dL_isYear_65 rfl (lv_at hl 5 rfl) ?_
      refine lv_bipush (v := nI 77) hx hb dL_isYear_66 (by decide) ?_
      refine pn_icmp_gt (tgt := 201) hx hb (by first | omega | rfl) (by first | omega | rfl) dL_isYear_68 (by decide) (fun c_104 => ?_) (fun c_104 => ?_)
      · -- 68 yes
        exfalso; omega
      · -- 68 no
        refine lv_iload_n hx hb dL_isYear_71 rfl (lv_at hl 5 rfl) ?_
        refine lv_bipush (v := nI 10) hx hb dL_isYear_72 (by decide) ?_
        refine pn_irem hx hb (by first | omega | rfl) (by first | omega | rfl) (by first | omega | rfl) dL_isYear_74 ?_
        refine lv_bipush (v := nI 8) hx hb dL_isYear_75 (by decide) ?_
        refine pn_icmp_ge (tgt := 201) hx hb (by first | omega | rfl) (by first | omega | rfl) dL_isYear_77 (by decide) (fun c_105 => ?_) (fun c_105 => ?_)
        · -- 77 yes
          exfalso; omega
        · -- 77 no
          refine lv_iload_n hx hb dL_isYear_80 rfl (lv_at hl 4 rfl) ?_
          refine pn_if_lt (tgt := 201) hx hb (by first | omega | rfl) dL_isYear_81 (by decide) ?_
          refine lv_iload_n hx hb dL_isYear_84 rfl (lv_at hl 4 rfl) ?_
          refine lv_bipush (v := nI 66) hx hb dL_isYear_85 (by decide) ?_
          refine pn_icmp_gt (tgt := 201) hx hb (by first | omega | rfl) (by first | omega | rfl) dL_isYear_87 (by decide) (fun c_107 => ?_) (fun c_107 => ?_)
          · -- 87 yes
            exfalso; omega
          · -- 87 no
            refine lv_iload_n hx hb dL_isYear_90 rfl (lv_at hl 4 rfl) ?_
            refine lv_bipush (v := nI 10) hx hb dL_isYear_91 (by decide) ?_
            refine pn_irem hx hb (by first | omega | rfl) (by first | omega | rfl) (by first | omega | rfl) dL_isYear_93 ?_
            refine lv_bipush (v := nI 7) hx hb dL_isYear_94 (by decide) ?_
            refine pn_icmp_ge (tgt := 201) hx hb (by first | omega | rfl) (by first | omega | rfl) dL_isYear_96 (by decide) (fun c_108 => ?_) (fun c_108 => ?_)
            · -- 96 yes
              exfalso; omega
            · -- 96 no
              refine lv_iload hx hb dL_isYear_99 (lv_at hl 3 rfl) ?_
              refine pn_if_lt (tgt := 201) hx hb (by first | omega | rfl) dL_isYear_101 (by decide) ?_
              refine lv_iload hx hb dL_isYear_104 (lv_at hl 3 rfl) ?_
              refine lv_sipush (v := nI 321) hx hb dL_isYear_106 (by decide) ?_
              refine pn_icmp_gt (tgt := 201) hx hb (by first | omega | rfl) (by first | omega | rfl) dL_isYear_109 (by decide) (fun c_110 => ?_) (fun c_110 => ?_)
              · -- 109 yes
                exfalso; omega
              · -- 109 no
                refine lv_iload hx hb dL_isYear_112 (lv_at hl 1 rfl) ?_
                refine pn_if_ne (tgt := 121) hx hb (by first | omega | rfl) dL_isYear_114 (by decide) (fun c_111 => ?_) (fun c_111 => ?_)
                · -- 114 yes
                  refine lv_iconst (v := nI 0) hx hb dL_isYear_121 (by decide) ?_
                  refine lv_iload hx hb dL_isYear_122 (lv_at hl 2 rfl) ?_
                  refine pn_if_le (tgt := 131) hx hb (by first | omega | rfl) dL_isYear_124 (by decide) (fun c_112 => ?_) (fun c_112 => ?_)
                  · -- 124 yes
                    refine lv_iconst (v := nI 0) hx hb dL_isYear_131 (by decide) ?_
                    refine pn_icmp_ne (tgt := 201) hx hb (by first | omega | rfl) (by first | omega | rfl) dL_isYear_132 (by decide) (fun c_113 => absurd c_113 (by decide)) (fun _ => ?_)
                    refine lv_iload hx hb dL_isYear_135 (lv_at hl 1 rfl) ?_
                    refine lv_iconst (v := nI 1) hx hb dL_isYear_137 (by decide) ?_
                    refine pn_icmp_lt (tgt := 180) hx hb (by first | omega | rfl) (by first | omega | rfl) dL_isYear_138 (by decide) (fun c_114 => ?_) (fun c_114 => ?_)
                    · -- 138 yes
                      refine lv_iload hx hb dL_isYear_180 (lv_at hl 2 rfl) ?_
                      refine pn_if_lt (tgt := 197) hx hb (by first | omega | rfl) dL_isYear_182 (by decide) ?_
                      refine lv_iload hx hb dL_isYear_185 (lv_at hl 0 rfl) ?_
                      refine lv_iconst (v := nI 1) hx hb dL_isYear_187 (by decide) ?_
                      refine pn_icmp_lt (tgt := 201) hx hb (by first | omega | rfl) (by first | omega | rfl) dL_isYear_188 (by decide) (fun c_116 => ?_) (fun c_116 => ?_)
                      · -- 188 yes
                        exfalso; omega
                      · -- 188 no
                        refine lv_iload hx hb dL_isYear_191 (lv_at hl 0 rfl) ?_
                        refine lv_iload_n hx hb dL_isYear_193 rfl (lv_at hl 7 rfl) ?_
                        refine pn_icmp_gt (tgt := 201) hx hb (by first | omega | rfl) (by first | omega | rfl) dL_isYear_194 (by decide) (fun c_117 => ?_) (fun c_117 => ?_)
                        · -- 194 yes
                          exfalso; omega
                        · -- 194 no
                          refine lv_iconst (v := nI 1) hx hb dL_isYear_197 (by decide) ?_
                          refine lv_goto (tgt := 202) hx hb dL_isYear_198 (by decide) ?_
                          exact hQ _ _ _ _ _ dL_isYear_202 (by decide) (congrArg nI (by rfl)) hS
                    · -- 138 no
                      exfalso; omega
                  · -- 124 no
                    refine lv_iconst (v := nI 1) hx hb dL_isYear_127 (by decide) ?_
                    refine lv_goto (tgt := 132) hx hb dL_isYear_128 (by decide) ?_
                    refine pn_icmp_ne (tgt := 201) hx hb (by first | omega | rfl) (by first | omega | rfl) dL_isYear_132 (by decide) (fun _ => ?_) (fun c_118 => absurd c_118 (by decide))
                    exfalso; omega
                · -- 114 no
                  refine lv_iconst (v := nI 1) hx hb dL_isYear_117 (by decide) ?_
                  refine lv_goto (tgt := 122) hx hb dL_isYear_118 (by decide) ?_
                  refine lv_iload hx hb dL_isYear_122 (lv_at hl 2 rfl) ?_
                  refine pn_if_le (tgt := 131) hx hb (by first | omega | rfl) dL_isYear_124 (by decide) (fun c_119 => ?_) (fun c_119 => ?_)
                  · -- 124 yes
                    refine lv_iconst (v := nI 0) hx hb dL_isYear_131 (by decide) ?_
                    refine pn_icmp_ne (tgt := 201) hx hb (by first | omega | rfl) (by first | omega | rfl) dL_isYear_132 (by decide) (fun _ => ?_) (fun c_120 => absurd c_120 (by decide))
                    exfalso; omega
                  · -- 124 no
                    refine lv_iconst (v := nI 1) hx hb dL_isYear_127 (by decide) ?_
                    refine lv_goto (tgt := 132) hx hb dL_isYear_128 (by decide) ?_
                    refine pn_icmp_ne (tgt := 201) hx hb (by first | omega | rfl) (by first | omega | rfl) dL_isYear_132 (by decide) (fun c_121 => absurd c_121 (by decide)) (fun _ => ?_)
                    refine lv_iload hx hb dL_isYear_135 (lv_at hl 1 rfl) ?_
                    refine lv_iconst (v := nI 1) hx hb dL_isYear_137 (by decide) ?_
                    refine pn_icmp_lt (tgt := 180) hx hb (by first | omega | rfl) (by first | omega | rfl) dL_isYear_138 (by decide) (fun c_122 => ?_) (fun c_122 => ?_)
                    · -- 138 yes
                      refine lv_iload hx hb dL_isYear_180 (lv_at hl 2 rfl) ?_
                      refine pn_if_lt (tgt := 197) hx hb (by first | omega | rfl) dL_isYear_182 (by decide) ?_
                      refine lv_iload hx hb dL_isYear_185 (lv_at hl 0 rfl) ?_
                      refine lv_iconst (v := nI 1) hx hb dL_isYear_187 (by decide) ?_
                      refine pn_icmp_lt (tgt := 201) hx hb (by first | omega | rfl) (by first | omega | rfl) dL_isYear_188 (by decide) (fun c_124 => ?_) (fun c_124 => ?_)
                      · -- 188 yes
                        exfalso; omega
                      · -- 188 no
                        refine lv_iload hx hb dL_isYear_191 (lv_at hl 0 rfl) ?_
                        refine lv_iload_n hx hb dL_isYear_193 rfl (lv_at hl 7 rfl) ?_
                        refine pn_icmp_gt (tgt := 201) hx hb (by first | omega | rfl) (by first | omega | rfl) dL_isYear_194 (by decide) (fun c_125 => ?_) (fun c_125 => ?_)
                        · -- 194 yes
                          exfalso; omega
                        · -- 194 no
                          refine lv_iconst (v := nI 1) hx hb dL_isYear_197 (by decide) ?_
                          refine lv_goto (tgt := 202) hx hb dL_isYear_198 (by decide) ?_
                          exact hQ _ _ _ _ _ dL_isYear_202 (by decide) (congrArg nI (by rfl)) hS
                    · -- 138 no
                      exfalso; omega
set_option maxHeartbeats 4000000 in
set_option maxRecDepth 100000 in
theorem k_L_ends (l : Launch) (D : va_G) (h0 ac ay ap : Nat) (cyI : ClassId) (ts : List (ClassId × FieldType)) (mk : Nat) (ch fy fp : Nat → Nat) (n dys : Nat) (hy0 : n < 1095750) (hy1 : dys ≤ 100000) (hy2 : pm_lw n + dys ≤ 1094999) : pz_R l yL_ends wsL_ends ({ frames := 3, cells := 0, slots := 0, locals := 65 } : Room) D ((cyI, .int) :: ts) [.ref h0, .int (nI n), .int (nI dys)] [(h0, .inr (0, [.ref ac, .ref ay, .ref ap, .int (nI mk)])), (ac, .inl (cyI, 365, .inl (pz_ar ch))), (ay, .inl (cyI, 60, .inl (pz_ar fy))), (ap, .inl (cyI, 60, .inl (pz_ar fp)))] (fun r => r = nI (pg_E (pm_lw n + dys))) := by
  refine pz_R_ofH (hh := [(0, 6, 7, 13)]) (cc := cL_ends) (maxL := 4) (ty := .int) (own := RL) (by decide) rfl rfl (Nat.le_of_ble_eq_true rfl) ?_
  intro p e s m below meth c A ls Q hx hb hml hown hts hK hP hD hS hA hl hQ
  have hl : lv_has ls 4 [(0, .ref h0), (1, .int (nI n)), (2, .int (nI dys))] := hl
  refine lv_aload_n hx hb dL_ends_0 rfl (lv_at hl 0 rfl) ?_
  refine lv_iload_n hx hb dL_ends_1 rfl (lv_at hl 1 rfl) ?_
  refine lv_iload_n hx hb dL_ends_2 rfl (lv_at hl 2 rfl) ?_
  refine pz_VR (rest := []) ⟨hx, hb, hml, hown, hts⟩ (k_X0_termEnd l D h0 ac ay ap cyI ts mk ch fy fp n dys (by omega) (by omega) (by omega)) (cwV 2 hts gL_ends_X0_termEnd rfl rfl rfl (by decide +kernel) ⟨Nat.le_of_ble_eq_true rfl, Nat.le_of_ble_eq_true rfl⟩) hK hP hD hS hA [0, 1, 2, 3] rfl rfl rfl 0 0 rfl rfl rfl hl.1 rfl (lv_room (Nat.le_of_ble_eq_true rfl)) dL_ends_3 ⟨Nat.le_of_ble_eq_true rfl, Nat.le_of_ble_eq_true rfl⟩ (fun r H locs hr hP hS => ?_)
  obtain rfl : r = (nI (pm_ld ((pm_lw n + dys) / 365 + 1) ((pm_lw n + dys) % 365 + 1))) := hr
  exact hQ _ _ _ _ _ dL_ends_6 rfl (congrArg nI (by rfl)) hS
set_option maxHeartbeats 4000000 in
set_option maxRecDepth 100000 in
theorem k_L_ends_x3 (l : Launch) (hfl : l.stackTraces = false) (D : va_G) (h0 ac ay ap : Nat) (cyI : ClassId) (ts : List (ClassId × FieldType)) (mk : Nat) (ch fy fp : Nat → Nat) (n dys : Nat) (hy0 : n < 1095750) (hy1 : dys ≤ 100000) (hy2 : 1094999 < pm_lw n + dys) : pz_RX l yL_ends wsL_ends ({ frames := 8, cells := 1, slots := 6, locals := 127 } : Room) D ((cyI, .int) :: ts) [.ref h0, .int (nI n), .int (nI dys)] [(h0, .inr (0, [.ref ac, .ref ay, .ref ap, .int (nI mk)])), (ac, .inl (cyI, 365, .inl (pz_ar ch))), (ay, .inl (cyI, 60, .inl (pz_ar fy))), (ap, .inl (cyI, 60, .inl (pz_ar fp)))] (fun r => r = (-3 : Int32)) := by
  refine pz_RX_ofH (cc := cL_ends) (maxL := 4) (ty := .int) (own := RL) (hh := [(0, 6, 7, 13)]) (by decide) rfl rfl (Nat.le_of_ble_eq_true rfl) ?_
  intro p e s m below meth c ls Q hx hb hml hown hts hK hP hD hS hl hth hnc htab hQ
  have hl : lv_has ls 4 [(0, .ref h0), (1, .int (nI n)), (2, .int (nI dys))] := hl
  refine lv_aload_n hx hb dL_ends_0 rfl (lv_at hl 0 rfl) ?_
  refine lv_iload_n hx hb dL_ends_1 rfl (lv_at hl 1 rfl) ?_
  refine lv_iload_n hx hb dL_ends_2 rfl (lv_at hl 2 rfl) ?_
  refine pz_VXK (E := "java/lang/IllegalStateException") (rest := []) ⟨hx, hb, hml, hown, hts⟩ (k_X0_termEnd_x3 l hfl D h0 ac ay ap cyI ts mk ch fy fp n dys (by omega) (by omega) (by omega)) (cwV 2 hts gL_ends_X0_termEnd rfl rfl rfl (by decide +kernel) ⟨Nat.le_of_ble_eq_true rfl, Nat.le_of_ble_eq_true rfl⟩) hK hP hD hS hth [0, 1, 2, 3] rfl rfl rfl 0 0 rfl rfl rfl hl.1 rfl (lv_room (Nat.le_of_ble_eq_true rfl)) dL_ends_3 ⟨Nat.le_of_ble_eq_true rfl, Nat.le_of_ble_eq_true rfl⟩ (fun ce q9 H locs hS hgr hce hcv hcl => ?_)
  refine vx_catch (own := RL) (name := "java/lang/IllegalStateException") hown [] ⟨0, 6, 7, 13⟩ [] (by rw [htab]; rfl) (fun z hz => nomatch hz) rfl (by decide) (hts (.classLink RL 13 "java/lang/IllegalStateException") (by decide +kernel)) (va_Nw.use rfl (hth.2.2.2.1 "java/lang/IllegalStateException" (by decide +kernel))) hce hcv hcl ?_
  refine lv_astore_n (lv' := [(3, .ref q9), (0, .ref h0), (1, .int (nI n)), (2, .int (nI dys))]) hx hb dL_ends_7 rfl hl (by decide) rfl (fun ls hl => ?_)
  refine lv_bipush (v := (-3 : Int32)) hx hb dL_ends_8 (by decide) ?_
  exact hQ _ _ _ _ _ dL_ends_10 rfl rfl hS hgr
set_option maxHeartbeats 4000000 in
set_option maxRecDepth 100000 in
theorem k_L_writes (l : Launch) (D : va_G) (h0 ac ay ap : Nat) (cyI : ClassId) (ts : List (ClassId × FieldType)) (mk : Nat) (ch fy fp : Nat → Nat) (y fa se : Nat) (hy0 : 1 ≤ y) (hy1 : y ≤ 3000) (hy2 : 1 ≤ fa) (hy3 : fa ≤ 999) (hy4 : 1 ≤ se) (hy5 : se ≤ 999) (hy6 : ¬ fa = se) (hfy : ∀ j, j < 60 → fy j ≤ 3000) (hav : (∃ i, i < 60 ∧ fy i = y) ∨ ∃ i, i < 60 ∧ fy i = 0) : pz_I l yL_writes wsL_writes ({ frames := 2, cells := 0, slots := 0, locals := 46 } : Room) D ((cyI, .int) :: ts) [.ref h0, .int (nI y), .int (nI fa), .int (nI se)] [(h0, .inr (0, [.ref ac, .ref ay, .ref ap, .int (nI mk)])), (ac, .inl (cyI, 365, .inl (pz_ar ch))), (ay, .inl (cyI, 60, .inl (pz_ar fy))), (ap, .inl (cyI, 60, .inl (pz_ar fp)))] (S := Nat) (fun r i => i < 60 ∧ r = nI (pm_cc (pz_u fy i y) 60) ∧ (fy i = y ∨ ((∀ j, j < 60 → ¬ fy j = y) ∧ fy i = 0))) (fun i => [(h0, .inr (0, [.ref ac, .ref ay, .ref ap, .int (nI mk)])), (ac, .inl (cyI, 365, .inl (pz_ar ch))), (ay, .inl (cyI, 60, .inl (pz_ar (pz_u fy i y)))), (ap, .inl (cyI, 60, .inl (pz_ar (pz_u fp i (1000 * fa + se)))))]) := by
  refine pz_I_ofH (hh := [(0, 7, 8, 23), (0, 7, 13, 13)]) (cc := cL_writes) (maxL := 5) (ty := .int) (own := RL) (by decide) rfl rfl (Nat.le_of_ble_eq_true rfl) ?_
  intro p e s m below meth c A ls Q hx hb hml hown hts hK hP hD hS hA hl hQ
  have hl : lv_has ls 5 [(0, .ref h0), (1, .int (nI y)), (2, .int (nI fa)), (3, .int (nI se))] := hl
  refine lv_aload_n hx hb dL_writes_0 rfl (lv_at hl 0 rfl) ?_
  refine lv_iload_n hx hb dL_writes_1 rfl (lv_at hl 1 rfl) ?_
  refine lv_iload_n hx hb dL_writes_2 rfl (lv_at hl 2 rfl) ?_
  refine lv_iload_n hx hb dL_writes_3 rfl (lv_at hl 3 rfl) ?_
  refine pz_VI (rest := []) (wr := []) ⟨hx, hb, hml, hown, hts⟩ (k_X0_setConsuls l D h0 ac ay ap cyI ts mk ch fy fp y fa se (by first | omega | exact hfy | exact hav) (by first | omega | exact hfy | exact hav) (by first | omega | exact hfy | exact hav) (by first | omega | exact hfy | exact hav) (by first | omega | exact hfy | exact hav) (by first | omega | exact hfy | exact hav) (by first | omega | exact hfy | exact hav) (by first | omega | exact hfy | exact hav) (by first | omega | exact hfy | exact hav)) (cwV 3 hts gL_writes_X0_setConsuls rfl rfl rfl (by decide +kernel) ⟨Nat.le_of_ble_eq_true rfl, Nat.le_of_ble_eq_true rfl⟩) hK hP hD hS hA [0, 1, 2, 3] [] rfl rfl rfl rfl rfl (by decide) 0 0 rfl rfl rfl hl.1 rfl (lv_room (Nat.le_of_ble_eq_true rfl)) dL_writes_4 ⟨Nat.le_of_ble_eq_true rfl, Nat.le_of_ble_eq_true rfl⟩ (fun r u H locs hr hP hD hS => ?_)
  obtain ⟨i_1, rfl⟩ : ∃ z, z = u := ⟨_, rfl⟩
  have hP : va_P D vwCl [(h0, .inr (0, [.ref ac, .ref ay, .ref ap, .int (nI mk)])), (ac, .inl (cyI, 365, .inl (pz_ar ch))), (ay, .inl (cyI, 60, .inl (pz_ar (pz_u fy i_1 y)))), (ap, .inl (cyI, 60, .inl (pz_ar (pz_u fp i_1 (1000 * fa + se)))))] H := hP
  have hD : va_D A [(h0, .inr (0, [.ref ac, .ref ay, .ref ap, .int (nI mk)])), (ac, .inl (cyI, 365, .inl (pz_ar ch))), (ay, .inl (cyI, 60, .inl (pz_ar (pz_u fy i_1 y)))), (ap, .inl (cyI, 60, .inl (pz_ar (pz_u fp i_1 (1000 * fa + se)))))] := hD
  have hr_1 := hr
  obtain ⟨r_1, er_1⟩ : ∃ z, z = r := ⟨_, rfl⟩
  subst er_1
  exact hQ _ _ _ _ _ i_1 dL_writes_7 rfl (by assumption) hP hD hS
set_option maxHeartbeats 4000000 in
set_option maxRecDepth 100000 in
theorem k_L_writes_x2 (l : Launch) (hfl : l.stackTraces = false) (D : va_G) (h0 ac ay ap : Nat) (cyI : ClassId) (ts : List (ClassId × FieldType)) (mk : Nat) (ch fy fp : Nat → Nat) (y : Nat) (x2 x3 : Int32) (hy0 : 1 ≤ y) (hy1 : y ≤ 3000) (hy2 : ¬ (1 ≤ x2.toInt ∧ x2.toInt ≤ 999 ∧ 1 ≤ x3.toInt ∧ x3.toInt ≤ 999 ∧ ¬ x2.toInt = x3.toInt)) : pz_RX l yL_writes wsL_writes ({ frames := 8, cells := 1, slots := 6, locals := 128 } : Room) D ((cyI, .int) :: ts) [.ref h0, .int (nI y), .int x2, .int x3] [(h0, .inr (0, [.ref ac, .ref ay, .ref ap, .int (nI mk)])), (ac, .inl (cyI, 365, .inl (pz_ar ch))), (ay, .inl (cyI, 60, .inl (pz_ar fy))), (ap, .inl (cyI, 60, .inl (pz_ar fp)))] (fun r => r = (-2 : Int32)) := by
  refine pz_RX_ofH (cc := cL_writes) (maxL := 5) (ty := .int) (own := RL) (hh := [(0, 7, 8, 23), (0, 7, 13, 13)]) (by decide) rfl rfl (Nat.le_of_ble_eq_true rfl) ?_
  intro p e s m below meth c ls Q hx hb hml hown hts hK hP hD hS hl hth hnc htab hQ
  have hl : lv_has ls 5 [(0, .ref h0), (1, .int (nI y)), (2, .int x2), (3, .int x3)] := hl
  refine lv_aload_n hx hb dL_writes_0 rfl (lv_at hl 0 rfl) ?_
  refine lv_iload_n hx hb dL_writes_1 rfl (lv_at hl 1 rfl) ?_
  refine lv_iload_n hx hb dL_writes_2 rfl (lv_at hl 2 rfl) ?_
  refine lv_iload_n hx hb dL_writes_3 rfl (lv_at hl 3 rfl) ?_
  refine pz_VXK (E := "java/lang/IllegalArgumentException") (rest := []) ⟨hx, hb, hml, hown, hts⟩ (k_X0_setConsuls_x2 l hfl D h0 ac ay ap cyI ts mk ch fy fp y x2 x3 (by first | omega | assumption) (by first | omega | assumption) (by first | omega | assumption)) (cwV 3 hts gL_writes_X0_setConsuls rfl rfl rfl (by decide +kernel) ⟨Nat.le_of_ble_eq_true rfl, Nat.le_of_ble_eq_true rfl⟩) hK hP hD hS hth [0, 1, 2, 3] rfl rfl rfl 0 0 rfl rfl rfl hl.1 rfl (lv_room (Nat.le_of_ble_eq_true rfl)) dL_writes_4 ⟨Nat.le_of_ble_eq_true rfl, Nat.le_of_ble_eq_true rfl⟩ (fun ce q9 H locs hS hgr hce hcv hcl => ?_)
  refine vx_catch (own := RL) (name := "java/lang/IllegalArgumentException") hown [] ⟨0, 7, 8, 23⟩ [⟨0, 7, 13, 13⟩] (by rw [htab]; rfl) (fun z hz => nomatch hz) rfl (by decide) (hts (.classLink RL 23 "java/lang/IllegalArgumentException") (by decide +kernel)) (va_Nw.use rfl (hth.2.2.2.1 "java/lang/IllegalArgumentException" (by decide +kernel))) hce hcv hcl ?_
  refine lv_astore (lv' := [(4, .ref q9), (0, .ref h0), (1, .int (nI y)), (2, .int x2), (3, .int x3)]) hx hb dL_writes_8 hl (by decide) rfl (fun ls hl => ?_)
  refine lv_bipush (v := (-2 : Int32)) hx hb dL_writes_10 (by decide) ?_
  exact hQ _ _ _ _ _ dL_writes_12 rfl rfl hS hgr
set_option maxHeartbeats 4000000 in
set_option maxRecDepth 100000 in
theorem k_L_writes_x3 (l : Launch) (hfl : l.stackTraces = false) (D : va_G) (h0 ac ay ap : Nat) (cyI : ClassId) (ts : List (ClassId × FieldType)) (mk : Nat) (ch fy fp : Nat → Nat) (y fa se : Nat) (hy0 : 1 ≤ y) (hy1 : y ≤ 3000) (hy2 : 1 ≤ fa) (hy3 : fa ≤ 999) (hy4 : 1 ≤ se) (hy5 : se ≤ 999) (hy6 : ¬ fa = se) (hfy : ∀ j, j < 60 → fy j ≤ 3000) (hn1 : ∀ j, j < 60 → ¬ fy j = y) (hn2 : ∀ j, j < 60 → ¬ fy j = 0) : pz_RX l yL_writes wsL_writes ({ frames := 8, cells := 1, slots := 6, locals := 128 } : Room) D ((cyI, .int) :: ts) [.ref h0, .int (nI y), .int (nI fa), .int (nI se)] [(h0, .inr (0, [.ref ac, .ref ay, .ref ap, .int (nI mk)])), (ac, .inl (cyI, 365, .inl (pz_ar ch))), (ay, .inl (cyI, 60, .inl (pz_ar fy))), (ap, .inl (cyI, 60, .inl (pz_ar fp)))] (fun r => r = (-3 : Int32)) := by
  refine pz_RX_ofH (cc := cL_writes) (maxL := 5) (ty := .int) (own := RL) (hh := [(0, 7, 8, 23), (0, 7, 13, 13)]) (by decide) rfl rfl (Nat.le_of_ble_eq_true rfl) ?_
  intro p e s m below meth c ls Q hx hb hml hown hts hK hP hD hS hl hth hnc htab hQ
  have hl : lv_has ls 5 [(0, .ref h0), (1, .int (nI y)), (2, .int (nI fa)), (3, .int (nI se))] := hl
  refine lv_aload_n hx hb dL_writes_0 rfl (lv_at hl 0 rfl) ?_
  refine lv_iload_n hx hb dL_writes_1 rfl (lv_at hl 1 rfl) ?_
  refine lv_iload_n hx hb dL_writes_2 rfl (lv_at hl 2 rfl) ?_
  refine lv_iload_n hx hb dL_writes_3 rfl (lv_at hl 3 rfl) ?_
  refine pz_VXK (E := "java/lang/IllegalStateException") (rest := []) ⟨hx, hb, hml, hown, hts⟩ (k_X0_setConsuls_x3 l hfl D h0 ac ay ap cyI ts mk ch fy fp y fa se (by first | omega | exact hfy | exact hn1 | exact hn2) (by first | omega | exact hfy | exact hn1 | exact hn2) (by first | omega | exact hfy | exact hn1 | exact hn2) (by first | omega | exact hfy | exact hn1 | exact hn2) (by first | omega | exact hfy | exact hn1 | exact hn2) (by first | omega | exact hfy | exact hn1 | exact hn2) (by first | omega | exact hfy | exact hn1 | exact hn2) (by first | omega | exact hfy | exact hn1 | exact hn2) (by first | omega | exact hfy | exact hn1 | exact hn2) (by first | omega | exact hfy | exact hn1 | exact hn2)) (cwV 3 hts gL_writes_X0_setConsuls rfl rfl rfl (by decide +kernel) ⟨Nat.le_of_ble_eq_true rfl, Nat.le_of_ble_eq_true rfl⟩) hK hP hD hS hth [0, 1, 2, 3] rfl rfl rfl 0 0 rfl rfl rfl hl.1 rfl (lv_room (Nat.le_of_ble_eq_true rfl)) dL_writes_4 ⟨Nat.le_of_ble_eq_true rfl, Nat.le_of_ble_eq_true rfl⟩ (fun ce q9 H locs hS hgr hce hcv hcl => ?_)
  refine vx_catch (own := RL) (name := "java/lang/IllegalStateException") hown [⟨0, 7, 8, 23⟩] ⟨0, 7, 13, 13⟩ [] (by rw [htab]; rfl) (List.forall_mem_cons.mpr ⟨Or.inr ⟨by decide, "java/lang/IllegalArgumentException", hts (.classLink RL 23 "java/lang/IllegalArgumentException") (by decide +kernel), hnc.1⟩, (fun z hz => nomatch hz)⟩) rfl (by decide) (hts (.classLink RL 13 "java/lang/IllegalStateException") (by decide +kernel)) (va_Nw.use rfl (hth.2.2.2.1 "java/lang/IllegalStateException" (by decide +kernel))) hce hcv hcl ?_
  refine lv_astore (lv' := [(4, .ref q9), (0, .ref h0), (1, .int (nI y)), (2, .int (nI fa)), (3, .int (nI se))]) hx hb dL_writes_13 hl (by decide) rfl (fun ls hl => ?_)
  refine lv_bipush (v := (-3 : Int32)) hx hb dL_writes_15 (by decide) ?_
  exact hQ _ _ _ _ _ dL_writes_17 rfl rfl hS hgr
set_option maxHeartbeats 4000000 in
set_option maxRecDepth 100000 in
theorem k_L_strikes (l : Launch) (D : va_G) (h0 ac ay ap : Nat) (cyI : ClassId) (ts : List (ClassId × FieldType)) (mk : Nat) (ch fy fp : Nat → Nat) (y : Nat) (hy0 : 1 ≤ y) (hy1 : y ≤ 3000) (hfy : ∀ j, j < 60 → fy j ≤ 3000) (hav : ∃ i, i < 60 ∧ fy i = y) : pz_I l yL_strikes wsL_strikes ({ frames := 2, cells := 0, slots := 0, locals := 44 } : Room) D ((cyI, .int) :: ts) [.ref h0, .int (nI y)] [(h0, .inr (0, [.ref ac, .ref ay, .ref ap, .int (nI mk)])), (ac, .inl (cyI, 365, .inl (pz_ar ch))), (ay, .inl (cyI, 60, .inl (pz_ar fy))), (ap, .inl (cyI, 60, .inl (pz_ar fp)))] (S := Nat) (fun r i => i < 60 ∧ r = nI (pm_cc (pz_u fy i 0) 60) ∧ fy i = y) (fun i => [(h0, .inr (0, [.ref ac, .ref ay, .ref ap, .int (nI mk)])), (ac, .inl (cyI, 365, .inl (pz_ar ch))), (ay, .inl (cyI, 60, .inl (pz_ar (pz_u fy i 0)))), (ap, .inl (cyI, 60, .inl (pz_ar fp)))]) := by
  refine pz_I_ofH (hh := [(0, 5, 6, 13)]) (cc := cL_strikes) (maxL := 3) (ty := .int) (own := RL) (by decide) rfl rfl (Nat.le_of_ble_eq_true rfl) ?_
  intro p e s m below meth c A ls Q hx hb hml hown hts hK hP hD hS hA hl hQ
  have hl : lv_has ls 3 [(0, .ref h0), (1, .int (nI y))] := hl
  refine lv_aload_n hx hb dL_strikes_0 rfl (lv_at hl 0 rfl) ?_
  refine lv_iload_n hx hb dL_strikes_1 rfl (lv_at hl 1 rfl) ?_
  refine pz_VI (rest := []) (wr := []) ⟨hx, hb, hml, hown, hts⟩ (k_X0_strikeConsuls l D h0 ac ay ap cyI ts mk ch fy fp y (by first | omega | exact hfy | exact hav) (by first | omega | exact hfy | exact hav) (by first | omega | exact hfy | exact hav) (by first | omega | exact hfy | exact hav)) (cwV 1 hts gL_strikes_X0_strikeConsuls rfl rfl rfl (by decide +kernel) ⟨Nat.le_of_ble_eq_true rfl, Nat.le_of_ble_eq_true rfl⟩) hK hP hD hS hA [0, 1, 2, 3] [] rfl rfl rfl rfl rfl (by decide) 0 0 rfl rfl rfl hl.1 rfl (lv_room (Nat.le_of_ble_eq_true rfl)) dL_strikes_2 ⟨Nat.le_of_ble_eq_true rfl, Nat.le_of_ble_eq_true rfl⟩ (fun r u H locs hr hP hD hS => ?_)
  obtain ⟨i_1, rfl⟩ : ∃ z, z = u := ⟨_, rfl⟩
  have hP : va_P D vwCl [(h0, .inr (0, [.ref ac, .ref ay, .ref ap, .int (nI mk)])), (ac, .inl (cyI, 365, .inl (pz_ar ch))), (ay, .inl (cyI, 60, .inl (pz_ar (pz_u fy i_1 0)))), (ap, .inl (cyI, 60, .inl (pz_ar fp)))] H := hP
  have hD : va_D A [(h0, .inr (0, [.ref ac, .ref ay, .ref ap, .int (nI mk)])), (ac, .inl (cyI, 365, .inl (pz_ar ch))), (ay, .inl (cyI, 60, .inl (pz_ar (pz_u fy i_1 0)))), (ap, .inl (cyI, 60, .inl (pz_ar fp)))] := hD
  have hr_1 := hr
  obtain ⟨r_1, er_1⟩ : ∃ z, z = r := ⟨_, rfl⟩
  subst er_1
  exact hQ _ _ _ _ _ i_1 dL_strikes_5 rfl (by assumption) hP hD hS
set_option maxHeartbeats 4000000 in
set_option maxRecDepth 100000 in
theorem kg_L_strikes_x2 (l : Launch) (hfl : l.stackTraces = false) (D : va_G) (h0 ac ay ap : Nat) (cyI : ClassId) (ts : List (ClassId × FieldType)) (mk : Nat) (ch fy fp : Nat → Nat) (y : Nat) (hy0 : 1 ≤ y) (hy1 : y ≤ 3000) (hfy : ∀ j, j < 60 → fy j ≤ 3000) (hn1 : ∀ j, j < 60 → ¬ fy j = y) : pz_RX l yL_strikes wsL_strikes ({ frames := 8, cells := 1, slots := 6, locals := 126 } : Room) D ((cyI, .int) :: ts) [.ref h0, .int (nI y)] [(h0, .inr (0, [.ref ac, .ref ay, .ref ap, .int (nI mk)])), (ac, .inl (cyI, 365, .inl (pz_ar ch))), (ay, .inl (cyI, 60, .inl (pz_ar fy))), (ap, .inl (cyI, 60, .inl (pz_ar fp)))] (fun r => r = (-3 : Int32)) := by
  refine pz_RX_ofH (cc := cL_strikes) (maxL := 3) (ty := .int) (own := RL) (hh := [(0, 5, 6, 13)]) (by decide) rfl rfl (Nat.le_of_ble_eq_true rfl) ?_
  intro p e s m below meth c ls Q hx hb hml hown hts hK hP hD hS hl hth hnc htab hQ
  have hl : lv_has ls 3 [(0, .ref h0), (1, .int (nI y))] := hl
  refine lv_aload_n hx hb dL_strikes_0 rfl (lv_at hl 0 rfl) ?_
  refine lv_iload_n hx hb dL_strikes_1 rfl (lv_at hl 1 rfl) ?_
  refine pz_VXK (E := "java/lang/IllegalStateException") (rest := []) ⟨hx, hb, hml, hown, hts⟩ (k_X0_strikeConsuls_x2 l hfl D h0 ac ay ap cyI ts mk ch fy fp y (by first | omega | exact hfy | exact hn1) (by first | omega | exact hfy | exact hn1) (by first | omega | exact hfy | exact hn1) (by first | omega | exact hfy | exact hn1)) (cwV 1 hts gL_strikes_X0_strikeConsuls rfl rfl rfl (by decide +kernel) ⟨Nat.le_of_ble_eq_true rfl, Nat.le_of_ble_eq_true rfl⟩) hK hP hD hS hth [0, 1, 2, 3] rfl rfl rfl 0 0 rfl rfl rfl hl.1 rfl (lv_room (Nat.le_of_ble_eq_true rfl)) dL_strikes_2 ⟨Nat.le_of_ble_eq_true rfl, Nat.le_of_ble_eq_true rfl⟩ (fun ce q9 H locs hS hgr hce hcv hcl => ?_)
  refine vx_catch (own := RL) (name := "java/lang/IllegalStateException") hown [] ⟨0, 5, 6, 13⟩ [] (by rw [htab]; rfl) (fun z hz => nomatch hz) rfl (by decide) (hts (.classLink RL 13 "java/lang/IllegalStateException") (by decide +kernel)) (va_Nw.use rfl (hth.2.2.2.1 "java/lang/IllegalStateException" (by decide +kernel))) hce hcv hcl ?_
  refine lv_astore_n (lv' := [(2, .ref q9), (0, .ref h0), (1, .int (nI y))]) hx hb dL_strikes_6 rfl hl (by decide) rfl (fun ls hl => ?_)
  refine lv_bipush (v := (-3 : Int32)) hx hb dL_strikes_7 (by decide) ?_
  exact hQ _ _ _ _ _ dL_strikes_9 rfl rfl hS hgr
end PZG
