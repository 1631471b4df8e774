section PZW52
set_option maxHeartbeats 4000000 in
set_option maxRecDepth 100000 in
theorem kw_setCharacter_a {p : Program} {l : Launch} {e : Env} {s : State} {m : MethodId} {below : List Frame} {meth : Method} {c : Code} {Q : State → Prop} {D : va_G} {cyI cyL : ClassId} {b L : Nat} {xs : Nat → Int32} {h0 ac ay ap h1 bc bf bg oa : Nat} {i cells slots : Nat} {H : Heap} {locs : List Loc} {ls : Array Slot} {mk wr : Nat} {ch fy fp rc ff gg : Nat → Nat} {th yr mo da : Int32} {og : Nat → Int64} (hfl : l.stackTraces = false) (C0 : pl_C p s m c D cyI cyL b L xs) (hI : pz_inv mk wr ch fy fp rc ff gg) (hP : va_P D vwCl [(h0, .inr (0, [.ref ac, .ref ay, .ref ap, .int (nI mk)])), (ac, .inl (cyI, 365, .inl (pz_ar ch))), (ay, .inl (cyI, 60, .inl (pz_ar fy))), (ap, .inl (cyI, 60, .inl (pz_ar fp))), (h1, .inr (1, [.int th, .int yr, .int mo, .int da, .int (nI mk), .ref bc, .ref bf, .ref bg, .int (nI wr)])), (bc, .inl (cyI, 366, .inl (pz_ar rc))), (bf, .inl (cyI, 3001, .inl (pz_ar ff))), (bg, .inl (cyI, 3001, .inl (pz_ar gg))), (oa, .inl (cyL, 1, .inr (.inl og)))] H) (hD : va_D (fun q : Nat => s.heap.size ≤ q) [(h0, .inr (0, [.ref ac, .ref ay, .ref ap, .int (nI mk)])), (ac, .inl (cyI, 365, .inl (pz_ar ch))), (ay, .inl (cyI, 60, .inl (pz_ar fy))), (ap, .inl (cyI, 60, .inl (pz_ar fp))), (h1, .inr (1, [.int th, .int yr, .int mo, .int da, .int (nI mk), .ref bc, .ref bf, .ref bg, .int (nI wr)])), (bc, .inl (cyI, 366, .inl (pz_ar rc))), (bf, .inl (cyI, 3001, .inl (pz_ar ff))), (bg, .inl (cyI, 3001, .inl (pz_ar gg))), (oa, .inl (cyL, 1, .inr (.inl og)))]) (hS : va_S (fun q : Nat => s.heap.size ≤ q) s.heap H locs) (hl : lv_has ls 7 [(0, .ref b), (1, .ref h0), (2, .ref h1), (3, .ref oa), (4, .int (nI i))]) (hi : i + 6 ≤ L) (hr1 : cells + 1 ≤ 1049) (hs1 : slots + 6 ≤ 15155) (KK : ∀ (H : Heap) (locs : List Loc) (ls : Array Slot), pl_G s D cyI cyL b h0 ac ay ap h1 bc bf bg oa H locs ls i → W p l e room_1 s m #[Value.ref b] below meth c H locs (cells + 1) (slots + 6) Q (F0 m 2234 ls [])) {q v : Nat} (hk1 : xs (i + 1) = (nI q)) (hk2 : xs (i + 2) = (nI v)) (hy0 : 1 ≤ q) (hy1 : q ≤ 365) (hy2 : v ≤ 3) : W p l e room_1 s m #[Value.ref b] below meth c H locs cells slots Q (F0 m 1935 ls []) := by
  obtain ⟨hx, hb, hml, hown, hts, hX, hbl, hK, hth, hnc, hL⟩ := C0
  have hA : ∀ q : Nat, s.heap.size ≤ q → (fun q : Nat => s.heap.size ≤ q) q := fun _ h => h
  have f0 : cells + 0 ≤ room_1.cells ∧ slots + 0 ≤ room_1.slots := ⟨Nat.le_trans (Nat.le_succ cells) hr1, Nat.le_trans (Nat.le_add_right slots 6) hs1⟩
  have f1 : cells + 1 ≤ room_1.cells ∧ slots + 6 ≤ room_1.slots := ⟨hr1, hs1⟩
  have f2 : (cells + 1) + 0 ≤ room_1.cells ∧ (slots + 6) + 0 ≤ room_1.slots := f1
  refine lv_aload_n hx hb dL_law_1935 rfl (lv_at hl 1 rfl) ?_
  refine lv_aload_n hx hb dL_law_1936 rfl (lv_at hl 0 rfl) ?_
  refine lv_iload hx hb dL_law_1937 (lv_at hl 4 rfl) ?_
  refine lv_iconst (v := nI 1) hx hb dL_law_1939 (by decide) ?_
  refine pn_iadd hx hb dL_law_1940 ?_
  refine pn_sld hx hb hX hbl hS (by omega) hL hk1 dL_law_1941 ?_
  refine lv_aload_n hx hb dL_law_1942 rfl (lv_at hl 0 rfl) ?_
  refine lv_iload hx hb dL_law_1943 (lv_at hl 4 rfl) ?_
  refine lv_iconst (v := nI 2) hx hb dL_law_1945 (by decide) ?_
  refine pn_iadd hx hb dL_law_1946 ?_
  refine pn_sld hx hb hX hbl hS (by omega) hL hk2 dL_law_1947 ?_
  refine lv_aload_n hx hb dL_law_1948 rfl (lv_at hl 3 rfl) ?_
  refine pz_SIW (rest := []) (wr := [(h1, .inr (1, [.int th, .int yr, .int mo, .int da, .int (nI mk), .ref bc, .ref bf, .ref bg, .int (nI wr)])), (bc, .inl (cyI, 366, .inl (pz_ar rc))), (bf, .inl (cyI, 3001, .inl (pz_ar ff))), (bg, .inl (cyI, 3001, .inl (pz_ar gg)))]) ⟨hx, hb, hml, hown, hts⟩ (k_L_setCharacter l D h0 ac ay ap oa cyI cyL ([]) mk ch fy fp og q v (by omega) (by omega) (by omega)) (vx_cwSW 4 hts gL_law_L_setCharacter rfl rfl rfl (by decide +kernel) ⟨Nat.le_of_ble_eq_true rfl, Nat.le_of_ble_eq_true rfl⟩) hK hP hD hS hA [0, 1, 2, 3, 8] [4, 5, 6, 7] rfl rfl rfl rfl rfl (by decide) rfl hl.1 rfl (lv_room (Nat.le_of_ble_eq_true rfl)) dL_law_1949 f0 (fun r u H locs hr hP hD hS => ?_)
  obtain ⟨r0, u0⟩ : r = nI 0 ∧ u = nI (ch (q - 1)) := hr
  subst r0
  subst u0
  have hP : va_P D vwCl [(h1, .inr (1, [.int th, .int yr, .int mo, .int da, .int (nI mk), .ref bc, .ref bf, .ref bg, .int (nI wr)])), (bc, .inl (cyI, 366, .inl (pz_ar rc))), (bf, .inl (cyI, 3001, .inl (pz_ar ff))), (bg, .inl (cyI, 3001, .inl (pz_ar gg))), (oa, .inl (cyL, 1, .inr (.inl (vp_updL og 0 (nI (ch (q - 1))).toInt64)))), (h0, .inr (0, [.ref ac, .ref ay, .ref ap, .int (nI mk)])), (ac, .inl (cyI, 365, .inl (pz_ar (pz_u ch (q - 1) v)))), (ay, .inl (cyI, 60, .inl (pz_ar fy))), (ap, .inl (cyI, 60, .inl (pz_ar fp)))] H := hP
  have hD : va_D (fun q : Nat => s.heap.size ≤ q) [(h1, .inr (1, [.int th, .int yr, .int mo, .int da, .int (nI mk), .ref bc, .ref bf, .ref bg, .int (nI wr)])), (bc, .inl (cyI, 366, .inl (pz_ar rc))), (bf, .inl (cyI, 3001, .inl (pz_ar ff))), (bg, .inl (cyI, 3001, .inl (pz_ar gg))), (oa, .inl (cyL, 1, .inr (.inl (vp_updL og 0 (nI (ch (q - 1))).toInt64)))), (h0, .inr (0, [.ref ac, .ref ay, .ref ap, .int (nI mk)])), (ac, .inl (cyI, 365, .inl (pz_ar (pz_u ch (q - 1) v)))), (ay, .inl (cyI, 60, .inl (pz_ar fy))), (ap, .inl (cyI, 60, .inl (pz_ar fp)))] := hD
  refine lv_istore (lv' := [(5, .int (nI 0)), (0, .ref b), (1, .ref h0), (2, .ref h1), (3, .ref oa), (4, .int (nI i))]) hx hb dL_law_1952 hl (by decide) rfl (fun ls hl => ?_)
  refine lv_aload_n hx hb dL_law_1954 rfl (lv_at hl 3 rfl) ?_
  refine lv_aload_n hx hb dL_law_1955 rfl (lv_at hl 1 rfl) ?_
  refine lv_iload hx hb dL_law_1956 (lv_at hl 5 rfl) ?_
  refine lv_iconst (v := nI 1) hx hb dL_law_1958 (by decide) ?_
  refine pn_iadd hx hb dL_law_1959 ?_
  refine pn_sld hx hb hX hbl hS (by omega) hL hk1 dL_law_1960 ?_
  refine lv_aload_n hx hb dL_law_1961 rfl (lv_at hl 1 rfl) ?_
  refine lv_iload hx hb dL_law_1962 (lv_at hl 5 rfl) ?_
  refine lv_iconst (v := nI 2) hx hb dL_law_1964 (by decide) ?_
  refine pn_iadd hx hb dL_law_1965 ?_
  refine pn_sld hx hb hX hbl hS (by omega) hL hk2 dL_law_1966 ?_
  refine pz_VI (rest := []) (wr := [(oa, .inl (cyL, 1, .inr (.inl (vp_updL og 0 (nI (ch (q - 1))).toInt64)))), (h0, .inr (0, [.ref ac, .ref ay, .ref ap, .int (nI mk)])), (ac, .inl (cyI, 365, .inl (pz_ar (pz_u ch (q - 1) v)))), (ay, .inl (cyI, 60, .inl (pz_ar fy))), (ap, .inl (cyI, 60, .inl (pz_ar fp)))]) ⟨hx, hb, hml, hown, hts⟩ (k_X1_setCharacter_a l D h1 bc bf bg cyI ([(cyL, .long)]) th yr mo da mk wr rc ff gg q v (by omega) (by omega) (by omega)) (cwV 2 hts gL_law_X1_setCharacter rfl rfl rfl (by decide +kernel) ⟨Nat.le_of_ble_eq_true rfl, Nat.le_of_ble_eq_true rfl⟩) hK hP hD hS hA [0, 1, 2, 3] [4, 5, 6, 7, 8] rfl rfl rfl rfl rfl (by decide) 0 1 rfl rfl rfl hl.1 rfl (lv_room (Nat.le_of_ble_eq_true rfl)) dL_law_1967 f0 (fun r u H locs hr hP hD hS => ?_)
  have hP : va_P D vwCl [(oa, .inl (cyL, 1, .inr (.inl (vp_updL og 0 (nI (ch (q - 1))).toInt64)))), (h0, .inr (0, [.ref ac, .ref ay, .ref ap, .int (nI mk)])), (ac, .inl (cyI, 365, .inl (pz_ar (pz_u ch (q - 1) v)))), (ay, .inl (cyI, 60, .inl (pz_ar fy))), (ap, .inl (cyI, 60, .inl (pz_ar fp))), (h1, .inr (1, [.int (nI 0), .int yr, .int mo, .int da, .int (nI mk), .ref bc, .ref bf, .ref bg, .int (nI wr)])), (bc, .inl (cyI, 366, .inl (pz_ar (pz_u rc q v)))), (bf, .inl (cyI, 3001, .inl (pz_ar ff))), (bg, .inl (cyI, 3001, .inl (pz_ar gg)))] H := hP
  have hD : va_D (fun q : Nat => s.heap.size ≤ q) [(oa, .inl (cyL, 1, .inr (.inl (vp_updL og 0 (nI (ch (q - 1))).toInt64)))), (h0, .inr (0, [.ref ac, .ref ay, .ref ap, .int (nI mk)])), (ac, .inl (cyI, 365, .inl (pz_ar (pz_u ch (q - 1) v)))), (ay, .inl (cyI, 60, .inl (pz_ar fy))), (ap, .inl (cyI, 60, .inl (pz_ar fp))), (h1, .inr (1, [.int (nI 0), .int yr, .int mo, .int da, .int (nI mk), .ref bc, .ref bf, .ref bg, .int (nI wr)])), (bc, .inl (cyI, 366, .inl (pz_ar (pz_u rc q v)))), (bf, .inl (cyI, 3001, .inl (pz_ar ff))), (bg, .inl (cyI, 3001, .inl (pz_ar gg)))] := hD
  obtain rfl : r = (nI (rc q)) := hr
  refine lv_istore (lv' := [(6, .int (nI (rc q))), (5, .int (nI 0)), (0, .ref b), (1, .ref h0), (2, .ref h1), (3, .ref oa), (4, .int (nI i))]) hx hb dL_law_1970 hl (by decide) rfl (fun ls hl => ?_)
  refine lv_aload_n hx hb dL_law_1972 rfl (lv_at hl 4 rfl) ?_
  refine pz_VR (rest := []) ⟨hx, hb, hml, hown, hts⟩ (k_X1_thrown l D h1 bc bf bg cyI ([(cyL, .long)]) (nI 0) yr mo da mk wr (pz_u rc q v) ff gg  ) (cwV 0 hts gL_law_X1_thrown rfl rfl rfl (by decide +kernel) ⟨Nat.le_of_ble_eq_true rfl, Nat.le_of_ble_eq_true rfl⟩) hK hP (hD.weaken (fun _ _ _ _ => trivial)) hS hA [5, 6, 7, 8] rfl rfl rfl 5 1 rfl rfl rfl hl.1 rfl (lv_room (Nat.le_of_ble_eq_true rfl)) dL_law_1973 f0 (fun r H locs hr hP hS => ?_)
  obtain rfl : r = (nI 0) := hr
  refine lv_iload hx hb dL_law_1976 (lv_at hl 1 rfl) ?_
  refine pn_icmp_eq (tgt := 1983) hx hb (by omega) (by omega) dL_law_1978 (by decide) (fun _ => ?_) (fun c_3 => absurd c_3 (by decide))
  refine lv_iload hx hb dL_law_1983 (lv_at hl 1 rfl) ?_
  refine pn_if_ne (tgt := 2000) hx hb (by omega) dL_law_1985 (by decide) (fun c_4 => absurd c_4 (by decide)) (fun _ => ?_)
  refine lv_aload_n hx hb dL_law_1988 rfl (lv_at hl 5 rfl) ?_
  refine lv_iconst (v := nI 0) hx hb dL_law_1989 (by decide) ?_
  refine pn_lald hx hb hK hP 0 1 rfl rfl (by decide) (by decide) dL_law_1990 ?_
  refine lv_iload hx hb dL_law_1991 (lv_at hl 0 rfl) ?_
  refine lv_i2l (v := ((nI (rc q))).toInt64) hx hb dL_law_1993 rfl ?_
  refine pn_same hx hb (pz_updL_0.trans (congrArg Int32.toInt64 (by rw [pi_rq hI q hy0 hy1]))) dL_law_1994 ?_
  refine pn_if_eq (tgt := 2000) hx hb (by omega) dL_law_1995 (by decide) (fun _ => ?_) (fun c_5 => absurd c_5 (by decide))
  refine lv_goto (tgt := 2234) hx hb dL_law_2000 (by decide) ?_
  refine W.widen (k := cells + 1) (n := slots + 6) (Nat.le_succ cells) (Nat.le_add_right slots 6) ?_
  exact KK H locs ls ⟨mk, wr, (pz_u ch (q - 1) v), fy, fp, (pz_u rc q v), ff, gg, (nI 0), yr, mo, da, vp_updL og 0 (nI (ch (q - 1))).toInt64, (by exact pi_char hI hy0 hy1 hy2), hP.sub (ws' := [(h0, .inr (0, [.ref ac, .ref ay, .ref ap, .int (nI mk)])), (ac, .inl (cyI, 365, .inl (pz_ar (pz_u ch (q - 1) v)))), (ay, .inl (cyI, 60, .inl (pz_ar fy))), (ap, .inl (cyI, 60, .inl (pz_ar fp))), (h1, .inr (1, [.int (nI 0), .int yr, .int mo, .int da, .int (nI mk), .ref bc, .ref bf, .ref bg, .int (nI wr)])), (bc, .inl (cyI, 366, .inl (pz_ar (pz_u rc q v)))), (bf, .inl (cyI, 3001, .inl (pz_ar ff))), (bg, .inl (cyI, 3001, .inl (pz_ar gg))), (oa, .inl (cyL, 1, .inr (.inl (vp_updL og 0 (nI (ch (q - 1))).toInt64))))]) [1, 2, 3, 4, 5, 6, 7, 8, 0] rfl, hD.sub (ws' := [(h0, .inr (0, [.ref ac, .ref ay, .ref ap, .int (nI mk)])), (ac, .inl (cyI, 365, .inl (pz_ar (pz_u ch (q - 1) v)))), (ay, .inl (cyI, 60, .inl (pz_ar fy))), (ap, .inl (cyI, 60, .inl (pz_ar fp))), (h1, .inr (1, [.int (nI 0), .int yr, .int mo, .int da, .int (nI mk), .ref bc, .ref bf, .ref bg, .int (nI wr)])), (bc, .inl (cyI, 366, .inl (pz_ar (pz_u rc q v)))), (bf, .inl (cyI, 3001, .inl (pz_ar ff))), (bg, .inl (cyI, 3001, .inl (pz_ar gg))), (oa, .inl (cyL, 1, .inr (.inl (vp_updL og 0 (nI (ch (q - 1))).toInt64))))]) [1, 2, 3, 4, 5, 6, 7, 8, 0] (by decide) rfl, hS, lv_sub hl [2, 3, 4, 5, 6] rfl⟩
set_option maxHeartbeats 4000000 in
set_option maxRecDepth 100000 in
theorem kw_setCharacter_x {p : Program} {l : Launch} {e : Env} {s : State} {m : MethodId} {below : List Frame} {meth : Method} {c : Code} {Q : State → Prop} {D : va_G} {cyI cyL : ClassId} {b L : Nat} {xs : Nat → Int32} {h0 ac ay ap h1 bc bf bg oa : Nat} {i cells slots : Nat} {H : Heap} {locs : List Loc} {ls : Array Slot} {mk wr : Nat} {ch fy fp rc ff gg : Nat → Nat} {th yr mo da : Int32} {og : Nat → Int64} (hfl : l.stackTraces = false) (C0 : pl_C p s m c D cyI cyL b L xs) (hI : pz_inv mk wr ch fy fp rc ff gg) (hP : va_P D vwCl [(h0, .inr (0, [.ref ac, .ref ay, .ref ap, .int (nI mk)])), (ac, .inl (cyI, 365, .inl (pz_ar ch))), (ay, .inl (cyI, 60, .inl (pz_ar fy))), (ap, .inl (cyI, 60, .inl (pz_ar fp))), (h1, .inr (1, [.int th, .int yr, .int mo, .int da, .int (nI mk), .ref bc, .ref bf, .ref bg, .int (nI wr)])), (bc, .inl (cyI, 366, .inl (pz_ar rc))), (bf, .inl (cyI, 3001, .inl (pz_ar ff))), (bg, .inl (cyI, 3001, .inl (pz_ar gg))), (oa, .inl (cyL, 1, .inr (.inl og)))] H) (hD : va_D (fun q : Nat => s.heap.size ≤ q) [(h0, .inr (0, [.ref ac, .ref ay, .ref ap, .int (nI mk)])), (ac, .inl (cyI, 365, .inl (pz_ar ch))), (ay, .inl (cyI, 60, .inl (pz_ar fy))), (ap, .inl (cyI, 60, .inl (pz_ar fp))), (h1, .inr (1, [.int th, .int yr, .int mo, .int da, .int (nI mk), .ref bc, .ref bf, .ref bg, .int (nI wr)])), (bc, .inl (cyI, 366, .inl (pz_ar rc))), (bf, .inl (cyI, 3001, .inl (pz_ar ff))), (bg, .inl (cyI, 3001, .inl (pz_ar gg))), (oa, .inl (cyL, 1, .inr (.inl og)))]) (hS : va_S (fun q : Nat => s.heap.size ≤ q) s.heap H locs) (hl : lv_has ls 7 [(0, .ref b), (1, .ref h0), (2, .ref h1), (3, .ref oa), (4, .int (nI i))]) (hi : i + 6 ≤ L) (hr1 : cells + 1 ≤ 1049) (hs1 : slots + 6 ≤ 15155) (KK : ∀ (H : Heap) (locs : List Loc) (ls : Array Slot), pl_G s D cyI cyL b h0 ac ay ap h1 bc bf bg oa H locs ls i → W p l e room_1 s m #[Value.ref b] below meth c H locs (cells + 1) (slots + 6) Q (F0 m 2234 ls [])) {x1 x2 : Int32} (hk1 : xs (i + 1) = x1) (hk2 : xs (i + 2) = x2) (hy0 : x1.toInt < 1 ∨ 365 < x1.toInt) : W p l e room_1 s m #[Value.ref b] below meth c H locs cells slots Q (F0 m 1935 ls []) := by
  obtain ⟨hx, hb, hml, hown, hts, hX, hbl, hK, hth, hnc, hL⟩ := C0
  have hA : ∀ q : Nat, s.heap.size ≤ q → (fun q : Nat => s.heap.size ≤ q) q := fun _ h => h
  have f0 : cells + 0 ≤ room_1.cells ∧ slots + 0 ≤ room_1.slots := ⟨Nat.le_trans (Nat.le_succ cells) hr1, Nat.le_trans (Nat.le_add_right slots 6) hs1⟩
  have f1 : cells + 1 ≤ room_1.cells ∧ slots + 6 ≤ room_1.slots := ⟨hr1, hs1⟩
  have f2 : (cells + 1) + 0 ≤ room_1.cells ∧ (slots + 6) + 0 ≤ room_1.slots := f1
  refine lv_aload_n hx hb dL_law_1935 rfl (lv_at hl 1 rfl) ?_
  refine lv_aload_n hx hb dL_law_1936 rfl (lv_at hl 0 rfl) ?_
  refine lv_iload hx hb dL_law_1937 (lv_at hl 4 rfl) ?_
  refine lv_iconst (v := nI 1) hx hb dL_law_1939 (by decide) ?_
  refine pn_iadd hx hb dL_law_1940 ?_
  refine pn_sld hx hb hX hbl hS (by omega) hL hk1 dL_law_1941 ?_
  refine lv_aload_n hx hb dL_law_1942 rfl (lv_at hl 0 rfl) ?_
  refine lv_iload hx hb dL_law_1943 (lv_at hl 4 rfl) ?_
  refine lv_iconst (v := nI 2) hx hb dL_law_1945 (by decide) ?_
  refine pn_iadd hx hb dL_law_1946 ?_
  refine pn_sld hx hb hX hbl hS (by omega) hL hk2 dL_law_1947 ?_
  refine lv_aload_n hx hb dL_law_1948 rfl (lv_at hl 3 rfl) ?_
  refine pz_SRX (rest := []) ⟨hx, hb, hml, hown, hts⟩ (k_L_setCharacter_x l hfl D h0 ac ay ap oa cyI cyL ([]) mk ch fy fp og x1 x2 (by exact hy0)) (vx_cwSW 4 hts gL_law_L_setCharacter rfl rfl rfl (by decide +kernel) ⟨Nat.le_of_ble_eq_true rfl, Nat.le_of_ble_eq_true rfl⟩) hK hP (hD.weaken (fun _ _ _ _ => trivial)) hS hth hnc [0, 1, 2, 3, 8] rfl rfl rfl rfl hl.1 rfl (lv_room (Nat.le_of_ble_eq_true rfl)) dL_law_1949 f1 (fun r H locs hr hP hS => ?_)
  obtain rfl : r = nI 1 := hr
  refine lv_istore (lv' := [(5, .int (nI 1)), (0, .ref b), (1, .ref h0), (2, .ref h1), (3, .ref oa), (4, .int (nI i))]) hx hb dL_law_1952 hl (by decide) rfl (fun ls hl => ?_)
  refine lv_aload_n hx hb dL_law_1954 rfl (lv_at hl 3 rfl) ?_
  refine lv_aload_n hx hb dL_law_1955 rfl (lv_at hl 1 rfl) ?_
  refine lv_iload hx hb dL_law_1956 (lv_at hl 5 rfl) ?_
  refine lv_iconst (v := nI 1) hx hb dL_law_1958 (by decide) ?_
  refine pn_iadd hx hb dL_law_1959 ?_
  refine pn_sld hx hb hX hbl hS (by omega) hL hk1 dL_law_1960 ?_
  refine lv_aload_n hx hb dL_law_1961 rfl (lv_at hl 1 rfl) ?_
  refine lv_iload hx hb dL_law_1962 (lv_at hl 5 rfl) ?_
  refine lv_iconst (v := nI 2) hx hb dL_law_1964 (by decide) ?_
  refine pn_iadd hx hb dL_law_1965 ?_
  refine pn_sld hx hb hX hbl hS (by omega) hL hk2 dL_law_1966 ?_
  refine pz_VI (rest := []) (wr := [(h0, .inr (0, [.ref ac, .ref ay, .ref ap, .int (nI mk)])), (ac, .inl (cyI, 365, .inl (pz_ar ch))), (ay, .inl (cyI, 60, .inl (pz_ar fy))), (ap, .inl (cyI, 60, .inl (pz_ar fp))), (oa, .inl (cyL, 1, .inr (.inl og)))]) ⟨hx, hb, hml, hown, hts⟩ (k_X1_setCharacter_x l D h1 bc bf bg cyI ([(cyL, .long)]) th yr mo da mk wr rc ff gg x1 x2 (by exact hy0)) (cwV 2 hts gL_law_X1_setCharacter rfl rfl rfl (by decide +kernel) ⟨Nat.le_of_ble_eq_true rfl, Nat.le_of_ble_eq_true rfl⟩) hK hP hD hS hA [4, 5, 6, 7] [0, 1, 2, 3, 8] rfl rfl rfl rfl rfl (by decide) 4 1 rfl rfl rfl hl.1 rfl (lv_room (Nat.le_of_ble_eq_true rfl)) dL_law_1967 f2 (fun r u H locs hr hP hD hS => ?_)
  have hP : va_P D vwCl [(h0, .inr (0, [.ref ac, .ref ay, .ref ap, .int (nI mk)])), (ac, .inl (cyI, 365, .inl (pz_ar ch))), (ay, .inl (cyI, 60, .inl (pz_ar fy))), (ap, .inl (cyI, 60, .inl (pz_ar fp))), (oa, .inl (cyL, 1, .inr (.inl og))), (h1, .inr (1, [.int (nI 1), .int yr, .int mo, .int da, .int (nI mk), .ref bc, .ref bf, .ref bg, .int (nI wr)])), (bc, .inl (cyI, 366, .inl (pz_ar rc))), (bf, .inl (cyI, 3001, .inl (pz_ar ff))), (bg, .inl (cyI, 3001, .inl (pz_ar gg)))] H := hP
  have hD : va_D (fun q : Nat => s.heap.size ≤ q) [(h0, .inr (0, [.ref ac, .ref ay, .ref ap, .int (nI mk)])), (ac, .inl (cyI, 365, .inl (pz_ar ch))), (ay, .inl (cyI, 60, .inl (pz_ar fy))), (ap, .inl (cyI, 60, .inl (pz_ar fp))), (oa, .inl (cyL, 1, .inr (.inl og))), (h1, .inr (1, [.int (nI 1), .int yr, .int mo, .int da, .int (nI mk), .ref bc, .ref bf, .ref bg, .int (nI wr)])), (bc, .inl (cyI, 366, .inl (pz_ar rc))), (bf, .inl (cyI, 3001, .inl (pz_ar ff))), (bg, .inl (cyI, 3001, .inl (pz_ar gg)))] := hD
  obtain rfl : r = (nI 0) := hr
  refine lv_istore (lv' := [(6, .int (nI 0)), (5, .int (nI 1)), (0, .ref b), (1, .ref h0), (2, .ref h1), (3, .ref oa), (4, .int (nI i))]) hx hb dL_law_1970 hl (by decide) rfl (fun ls hl => ?_)
  refine lv_aload_n hx hb dL_law_1972 rfl (lv_at hl 4 rfl) ?_
  refine pz_VR (rest := []) ⟨hx, hb, hml, hown, hts⟩ (k_X1_thrown l D h1 bc bf bg cyI ([(cyL, .long)]) (nI 1) yr mo da mk wr rc ff gg  ) (cwV 0 hts gL_law_X1_thrown rfl rfl rfl (by decide +kernel) ⟨Nat.le_of_ble_eq_true rfl, Nat.le_of_ble_eq_true rfl⟩) hK hP (hD.weaken (fun _ _ _ _ => trivial)) hS hA [5, 6, 7, 8] rfl rfl rfl 5 1 rfl rfl rfl hl.1 rfl (lv_room (Nat.le_of_ble_eq_true rfl)) dL_law_1973 f2 (fun r H locs hr hP hS => ?_)
  obtain rfl : r = (nI 1) := hr
  refine lv_iload hx hb dL_law_1976 (lv_at hl 1 rfl) ?_
  refine pn_icmp_eq (tgt := 1983) hx hb (by omega) (by omega) dL_law_1978 (by decide) (fun _ => ?_) (fun c_3 => absurd c_3 (by decide))
  refine lv_iload hx hb dL_law_1983 (lv_at hl 1 rfl) ?_
  refine pn_if_ne (tgt := 2000) hx hb (by omega) dL_law_1985 (by decide) (fun _ => ?_) (fun c_4 => absurd c_4 (by decide))
  refine lv_goto (tgt := 2234) hx hb dL_law_2000 (by decide) ?_
  exact KK H locs ls ⟨mk, wr, ch, fy, fp, rc, ff, gg, (nI 1), yr, mo, da, og, (by exact hI), hP.sub (ws' := [(h0, .inr (0, [.ref ac, .ref ay, .ref ap, .int (nI mk)])), (ac, .inl (cyI, 365, .inl (pz_ar ch))), (ay, .inl (cyI, 60, .inl (pz_ar fy))), (ap, .inl (cyI, 60, .inl (pz_ar fp))), (h1, .inr (1, [.int (nI 1), .int yr, .int mo, .int da, .int (nI mk), .ref bc, .ref bf, .ref bg, .int (nI wr)])), (bc, .inl (cyI, 366, .inl (pz_ar rc))), (bf, .inl (cyI, 3001, .inl (pz_ar ff))), (bg, .inl (cyI, 3001, .inl (pz_ar gg))), (oa, .inl (cyL, 1, .inr (.inl og)))]) [0, 1, 2, 3, 5, 6, 7, 8, 4] rfl, hD.sub (ws' := [(h0, .inr (0, [.ref ac, .ref ay, .ref ap, .int (nI mk)])), (ac, .inl (cyI, 365, .inl (pz_ar ch))), (ay, .inl (cyI, 60, .inl (pz_ar fy))), (ap, .inl (cyI, 60, .inl (pz_ar fp))), (h1, .inr (1, [.int (nI 1), .int yr, .int mo, .int da, .int (nI mk), .ref bc, .ref bf, .ref bg, .int (nI wr)])), (bc, .inl (cyI, 366, .inl (pz_ar rc))), (bf, .inl (cyI, 3001, .inl (pz_ar ff))), (bg, .inl (cyI, 3001, .inl (pz_ar gg))), (oa, .inl (cyL, 1, .inr (.inl og)))]) [0, 1, 2, 3, 5, 6, 7, 8, 4] (by decide) rfl, hS, lv_sub hl [2, 3, 4, 5, 6] rfl⟩
set_option maxHeartbeats 4000000 in
set_option maxRecDepth 100000 in
theorem kw_setCharacter_x2 {p : Program} {l : Launch} {e : Env} {s : State} {m : MethodId} {below : List Frame} {meth : Method} {c : Code} {Q : State → Prop} {D : va_G} {cyI cyL : ClassId} {b L : Nat} {xs : Nat → Int32} {h0 ac ay ap h1 bc bf bg oa : Nat} {i cells slots : Nat} {H : Heap} {locs : List Loc} {ls : Array Slot} {mk wr : Nat} {ch fy fp rc ff gg : Nat → Nat} {th yr mo da : Int32} {og : Nat → Int64} (hfl : l.stackTraces = false) (C0 : pl_C p s m c D cyI cyL b L xs) (hI : pz_inv mk wr ch fy fp rc ff gg) (hP : va_P D vwCl [(h0, .inr (0, [.ref ac, .ref ay, .ref ap, .int (nI mk)])), (ac, .inl (cyI, 365, .inl (pz_ar ch))), (ay, .inl (cyI, 60, .inl (pz_ar fy))), (ap, .inl (cyI, 60, .inl (pz_ar fp))), (h1, .inr (1, [.int th, .int yr, .int mo, .int da, .int (nI mk), .ref bc, .ref bf, .ref bg, .int (nI wr)])), (bc, .inl (cyI, 366, .inl (pz_ar rc))), (bf, .inl (cyI, 3001, .inl (pz_ar ff))), (bg, .inl (cyI, 3001, .inl (pz_ar gg))), (oa, .inl (cyL, 1, .inr (.inl og)))] H) (hD : va_D (fun q : Nat => s.heap.size ≤ q) [(h0, .inr (0, [.ref ac, .ref ay, .ref ap, .int (nI mk)])), (ac, .inl (cyI, 365, .inl (pz_ar ch))), (ay, .inl (cyI, 60, .inl (pz_ar fy))), (ap, .inl (cyI, 60, .inl (pz_ar fp))), (h1, .inr (1, [.int th, .int yr, .int mo, .int da, .int (nI mk), .ref bc, .ref bf, .ref bg, .int (nI wr)])), (bc, .inl (cyI, 366, .inl (pz_ar rc))), (bf, .inl (cyI, 3001, .inl (pz_ar ff))), (bg, .inl (cyI, 3001, .inl (pz_ar gg))), (oa, .inl (cyL, 1, .inr (.inl og)))]) (hS : va_S (fun q : Nat => s.heap.size ≤ q) s.heap H locs) (hl : lv_has ls 7 [(0, .ref b), (1, .ref h0), (2, .ref h1), (3, .ref oa), (4, .int (nI i))]) (hi : i + 6 ≤ L) (hr1 : cells + 1 ≤ 1049) (hs1 : slots + 6 ≤ 15155) (KK : ∀ (H : Heap) (locs : List Loc) (ls : Array Slot), pl_G s D cyI cyL b h0 ac ay ap h1 bc bf bg oa H locs ls i → W p l e room_1 s m #[Value.ref b] below meth c H locs (cells + 1) (slots + 6) Q (F0 m 2234 ls [])) {q : Nat} {x2 : Int32} (hk1 : xs (i + 1) = (nI q)) (hk2 : xs (i + 2) = x2) (hy0 : 1 ≤ q) (hy1 : q ≤ 365) (hy2 : x2.toInt < 0 ∨ 3 < x2.toInt) : W p l e room_1 s m #[Value.ref b] below meth c H locs cells slots Q (F0 m 1935 ls []) := by
  obtain ⟨hx, hb, hml, hown, hts, hX, hbl, hK, hth, hnc, hL⟩ := C0
  have hA : ∀ q : Nat, s.heap.size ≤ q → (fun q : Nat => s.heap.size ≤ q) q := fun _ h => h
  have f0 : cells + 0 ≤ room_1.cells ∧ slots + 0 ≤ room_1.slots := ⟨Nat.le_trans (Nat.le_succ cells) hr1, Nat.le_trans (Nat.le_add_right slots 6) hs1⟩
  have f1 : cells + 1 ≤ room_1.cells ∧ slots + 6 ≤ room_1.slots := ⟨hr1, hs1⟩
  have f2 : (cells + 1) + 0 ≤ room_1.cells ∧ (slots + 6) + 0 ≤ room_1.slots := f1
  refine lv_aload_n hx hb dL_law_1935 rfl (lv_at hl 1 rfl) ?_
  refine lv_aload_n hx hb dL_law_1936 rfl (lv_at hl 0 rfl) ?_
  refine lv_iload hx hb dL_law_1937 (lv_at hl 4 rfl) ?_
  refine lv_iconst (v := nI 1) hx hb dL_law_1939 (by decide) ?_
  refine pn_iadd hx hb dL_law_1940 ?_
  refine pn_sld hx hb hX hbl hS (by omega) hL hk1 dL_law_1941 ?_
  refine lv_aload_n hx hb dL_law_1942 rfl (lv_at hl 0 rfl) ?_
  refine lv_iload hx hb dL_law_1943 (lv_at hl 4 rfl) ?_
  refine lv_iconst (v := nI 2) hx hb dL_law_1945 (by decide) ?_
  refine pn_iadd hx hb dL_law_1946 ?_
  refine pn_sld hx hb hX hbl hS (by omega) hL hk2 dL_law_1947 ?_
  refine lv_aload_n hx hb dL_law_1948 rfl (lv_at hl 3 rfl) ?_
  refine pz_SRX (rest := []) ⟨hx, hb, hml, hown, hts⟩ (k_L_setCharacter_x2 l hfl D h0 ac ay ap oa cyI cyL ([]) mk ch fy fp og (nI q) x2 (by rw [nI_toInt (by omega)]; omega) (by rw [nI_toInt (by omega)]; omega) (by exact hy2)) (vx_cwSW 4 hts gL_law_L_setCharacter rfl rfl rfl (by decide +kernel) ⟨Nat.le_of_ble_eq_true rfl, Nat.le_of_ble_eq_true rfl⟩) hK hP (hD.weaken (fun _ _ _ _ => trivial)) hS hth hnc [0, 1, 2, 3, 8] rfl rfl rfl rfl hl.1 rfl (lv_room (Nat.le_of_ble_eq_true rfl)) dL_law_1949 f1 (fun r H locs hr hP hS => ?_)
  obtain rfl : r = nI 2 := hr
  refine lv_istore (lv' := [(5, .int (nI 2)), (0, .ref b), (1, .ref h0), (2, .ref h1), (3, .ref oa), (4, .int (nI i))]) hx hb dL_law_1952 hl (by decide) rfl (fun ls hl => ?_)
  refine lv_aload_n hx hb dL_law_1954 rfl (lv_at hl 3 rfl) ?_
  refine lv_aload_n hx hb dL_law_1955 rfl (lv_at hl 1 rfl) ?_
  refine lv_iload hx hb dL_law_1956 (lv_at hl 5 rfl) ?_
  refine lv_iconst (v := nI 1) hx hb dL_law_1958 (by decide) ?_
  refine pn_iadd hx hb dL_law_1959 ?_
  refine pn_sld hx hb hX hbl hS (by omega) hL hk1 dL_law_1960 ?_
  refine lv_aload_n hx hb dL_law_1961 rfl (lv_at hl 1 rfl) ?_
  refine lv_iload hx hb dL_law_1962 (lv_at hl 5 rfl) ?_
  refine lv_iconst (v := nI 2) hx hb dL_law_1964 (by decide) ?_
  refine pn_iadd hx hb dL_law_1965 ?_
  refine pn_sld hx hb hX hbl hS (by omega) hL hk2 dL_law_1966 ?_
  refine pz_VI (rest := []) (wr := [(h0, .inr (0, [.ref ac, .ref ay, .ref ap, .int (nI mk)])), (ac, .inl (cyI, 365, .inl (pz_ar ch))), (ay, .inl (cyI, 60, .inl (pz_ar fy))), (ap, .inl (cyI, 60, .inl (pz_ar fp))), (oa, .inl (cyL, 1, .inr (.inl og)))]) ⟨hx, hb, hml, hown, hts⟩ (k_X1_setCharacter_x2 l D h1 bc bf bg cyI ([(cyL, .long)]) th yr mo da mk wr rc ff gg q x2 (by omega) (by omega) (by exact hy2)) (cwV 2 hts gL_law_X1_setCharacter rfl rfl rfl (by decide +kernel) ⟨Nat.le_of_ble_eq_true rfl, Nat.le_of_ble_eq_true rfl⟩) hK hP hD hS hA [4, 5, 6, 7] [0, 1, 2, 3, 8] rfl rfl rfl rfl rfl (by decide) 4 1 rfl rfl rfl hl.1 rfl (lv_room (Nat.le_of_ble_eq_true rfl)) dL_law_1967 f2 (fun r u H locs hr hP hD hS => ?_)
  have hP : va_P D vwCl [(h0, .inr (0, [.ref ac, .ref ay, .ref ap, .int (nI mk)])), (ac, .inl (cyI, 365, .inl (pz_ar ch))), (ay, .inl (cyI, 60, .inl (pz_ar fy))), (ap, .inl (cyI, 60, .inl (pz_ar fp))), (oa, .inl (cyL, 1, .inr (.inl og))), (h1, .inr (1, [.int (nI 2), .int yr, .int mo, .int da, .int (nI mk), .ref bc, .ref bf, .ref bg, .int (nI wr)])), (bc, .inl (cyI, 366, .inl (pz_ar rc))), (bf, .inl (cyI, 3001, .inl (pz_ar ff))), (bg, .inl (cyI, 3001, .inl (pz_ar gg)))] H := hP
  have hD : va_D (fun q : Nat => s.heap.size ≤ q) [(h0, .inr (0, [.ref ac, .ref ay, .ref ap, .int (nI mk)])), (ac, .inl (cyI, 365, .inl (pz_ar ch))), (ay, .inl (cyI, 60, .inl (pz_ar fy))), (ap, .inl (cyI, 60, .inl (pz_ar fp))), (oa, .inl (cyL, 1, .inr (.inl og))), (h1, .inr (1, [.int (nI 2), .int yr, .int mo, .int da, .int (nI mk), .ref bc, .ref bf, .ref bg, .int (nI wr)])), (bc, .inl (cyI, 366, .inl (pz_ar rc))), (bf, .inl (cyI, 3001, .inl (pz_ar ff))), (bg, .inl (cyI, 3001, .inl (pz_ar gg)))] := hD
  obtain rfl : r = (nI 0) := hr
  refine lv_istore (lv' := [(6, .int (nI 0)), (5, .int (nI 2)), (0, .ref b), (1, .ref h0), (2, .ref h1), (3, .ref oa), (4, .int (nI i))]) hx hb dL_law_1970 hl (by decide) rfl (fun ls hl => ?_)
  refine lv_aload_n hx hb dL_law_1972 rfl (lv_at hl 4 rfl) ?_
  refine pz_VR (rest := []) ⟨hx, hb, hml, hown, hts⟩ (k_X1_thrown l D h1 bc bf bg cyI ([(cyL, .long)]) (nI 2) yr mo da mk wr rc ff gg  ) (cwV 0 hts gL_law_X1_thrown rfl rfl rfl (by decide +kernel) ⟨Nat.le_of_ble_eq_true rfl, Nat.le_of_ble_eq_true rfl⟩) hK hP (hD.weaken (fun _ _ _ _ => trivial)) hS hA [5, 6, 7, 8] rfl rfl rfl 5 1 rfl rfl rfl hl.1 rfl (lv_room (Nat.le_of_ble_eq_true rfl)) dL_law_1973 f2 (fun r H locs hr hP hS => ?_)
  obtain rfl : r = (nI 2) := hr
  refine lv_iload hx hb dL_law_1976 (lv_at hl 1 rfl) ?_
  refine pn_icmp_eq (tgt := 1983) hx hb (by omega) (by omega) dL_law_1978 (by decide) (fun _ => ?_) (fun c_3 => absurd c_3 (by decide))
  refine lv_iload hx hb dL_law_1983 (lv_at hl 1 rfl) ?_
  refine pn_if_ne (tgt := 2000) hx hb (by omega) dL_law_1985 (by decide) (fun _ => ?_) (fun c_4 => absurd c_4 (by decide))
  refine lv_goto (tgt := 2234) hx hb dL_law_2000 (by decide) ?_
  exact KK H locs ls ⟨mk, wr, ch, fy, fp, rc, ff, gg, (nI 2), yr, mo, da, og, (by exact hI), hP.sub (ws' := [(h0, .inr (0, [.ref ac, .ref ay, .ref ap, .int (nI mk)])), (ac, .inl (cyI, 365, .inl (pz_ar ch))), (ay, .inl (cyI, 60, .inl (pz_ar fy))), (ap, .inl (cyI, 60, .inl (pz_ar fp))), (h1, .inr (1, [.int (nI 2), .int yr, .int mo, .int da, .int (nI mk), .ref bc, .ref bf, .ref bg, .int (nI wr)])), (bc, .inl (cyI, 366, .inl (pz_ar rc))), (bf, .inl (cyI, 3001, .inl (pz_ar ff))), (bg, .inl (cyI, 3001, .inl (pz_ar gg))), (oa, .inl (cyL, 1, .inr (.inl og)))]) [0, 1, 2, 3, 5, 6, 7, 8, 4] rfl, hD.sub (ws' := [(h0, .inr (0, [.ref ac, .ref ay, .ref ap, .int (nI mk)])), (ac, .inl (cyI, 365, .inl (pz_ar ch))), (ay, .inl (cyI, 60, .inl (pz_ar fy))), (ap, .inl (cyI, 60, .inl (pz_ar fp))), (h1, .inr (1, [.int (nI 2), .int yr, .int mo, .int da, .int (nI mk), .ref bc, .ref bf, .ref bg, .int (nI wr)])), (bc, .inl (cyI, 366, .inl (pz_ar rc))), (bf, .inl (cyI, 3001, .inl (pz_ar ff))), (bg, .inl (cyI, 3001, .inl (pz_ar gg))), (oa, .inl (cyL, 1, .inr (.inl og)))]) [0, 1, 2, 3, 5, 6, 7, 8, 4] (by decide) rfl, hS, lv_sub hl [2, 3, 4, 5, 6] rfl⟩
set_option maxHeartbeats 4000000 in
set_option maxRecDepth 100000 in
theorem kw_lawDays_a {p : Program} {l : Launch} {e : Env} {s : State} {m : MethodId} {below : List Frame} {meth : Method} {c : Code} {Q : State → Prop} {D : va_G} {cyI cyL : ClassId} {b L : Nat} {xs : Nat → Int32} {h0 ac ay ap h1 bc bf bg oa : Nat} {i cells slots : Nat} {H : Heap} {locs : List Loc} {ls : Array Slot} {mk wr : Nat} {ch fy fp rc ff gg : Nat → Nat} {th yr mo da : Int32} {og : Nat → Int64} (hfl : l.stackTraces = false) (C0 : pl_C p s m c D cyI cyL b L xs) (hI : pz_inv mk wr ch fy fp rc ff gg) (hP : va_P D vwCl [(h0, .inr (0, [.ref ac, .ref ay, .ref ap, .int (nI mk)])), (ac, .inl (cyI, 365, .inl (pz_ar ch))), (ay, .inl (cyI, 60, .inl (pz_ar fy))), (ap, .inl (cyI, 60, .inl (pz_ar fp))), (h1, .inr (1, [.int th, .int yr, .int mo, .int da, .int (nI mk), .ref bc, .ref bf, .ref bg, .int (nI wr)])), (bc, .inl (cyI, 366, .inl (pz_ar rc))), (bf, .inl (cyI, 3001, .inl (pz_ar ff))), (bg, .inl (cyI, 3001, .inl (pz_ar gg))), (oa, .inl (cyL, 1, .inr (.inl og)))] H) (hD : va_D (fun q : Nat => s.heap.size ≤ q) [(h0, .inr (0, [.ref ac, .ref ay, .ref ap, .int (nI mk)])), (ac, .inl (cyI, 365, .inl (pz_ar ch))), (ay, .inl (cyI, 60, .inl (pz_ar fy))), (ap, .inl (cyI, 60, .inl (pz_ar fp))), (h1, .inr (1, [.int th, .int yr, .int mo, .int da, .int (nI mk), .ref bc, .ref bf, .ref bg, .int (nI wr)])), (bc, .inl (cyI, 366, .inl (pz_ar rc))), (bf, .inl (cyI, 3001, .inl (pz_ar ff))), (bg, .inl (cyI, 3001, .inl (pz_ar gg))), (oa, .inl (cyL, 1, .inr (.inl og)))]) (hS : va_S (fun q : Nat => s.heap.size ≤ q) s.heap H locs) (hl : lv_has ls 7 [(0, .ref b), (1, .ref h0), (2, .ref h1), (3, .ref oa), (4, .int (nI i))]) (hi : i + 6 ≤ L) (hr1 : cells + 1 ≤ 1049) (hs1 : slots + 6 ≤ 15155) (KK : ∀ (H : Heap) (locs : List Loc) (ls : Array Slot), pl_G s D cyI cyL b h0 ac ay ap h1 bc bf bg oa H locs ls i → W p l e room_1 s m #[Value.ref b] below meth c H locs (cells + 1) (slots + 6) Q (F0 m 2234 ls [])) {n z : Nat} (hk1 : xs (i + 1) = (nI n)) (hk2 : xs (i + 2) = (nI z)) (hy0 : n < 1095750) (hy1 : z < 1095750) : W p l e room_1 s m #[Value.ref b] below meth c H locs cells slots Q (F0 m 1140 ls []) := by
  obtain ⟨hx, hb, hml, hown, hts, hX, hbl, hK, hth, hnc, hL⟩ := C0
  have hA : ∀ q : Nat, s.heap.size ≤ q → (fun q : Nat => s.heap.size ≤ q) q := fun _ h => h
  have f0 : cells + 0 ≤ room_1.cells ∧ slots + 0 ≤ room_1.slots := ⟨Nat.le_trans (Nat.le_succ cells) hr1, Nat.le_trans (Nat.le_add_right slots 6) hs1⟩
  have f1 : cells + 1 ≤ room_1.cells ∧ slots + 6 ≤ room_1.slots := ⟨hr1, hs1⟩
  have f2 : (cells + 1) + 0 ≤ room_1.cells ∧ (slots + 6) + 0 ≤ room_1.slots := f1
  refine lv_aload_n hx hb dL_law_1140 rfl (lv_at hl 1 rfl) ?_
  refine lv_aload_n hx hb dL_law_1141 rfl (lv_at hl 0 rfl) ?_
  refine lv_iload hx hb dL_law_1142 (lv_at hl 4 rfl) ?_
  refine lv_iconst (v := nI 1) hx hb dL_law_1144 (by decide) ?_
  refine pn_iadd hx hb dL_law_1145 ?_
  refine pn_sld hx hb hX hbl hS (by omega) hL hk1 dL_law_1146 ?_
  refine lv_aload_n hx hb dL_law_1147 rfl (lv_at hl 0 rfl) ?_
  refine lv_iload hx hb dL_law_1148 (lv_at hl 4 rfl) ?_
  refine lv_iconst (v := nI 2) hx hb dL_law_1150 (by decide) ?_
  refine pn_iadd hx hb dL_law_1151 ?_
  refine pn_sld hx hb hX hbl hS (by omega) hL hk2 dL_law_1152 ?_
  refine lv_aload_n hx hb dL_law_1153 rfl (lv_at hl 3 rfl) ?_
  refine pz_SIW (rest := []) (wr := [(h1, .inr (1, [.int th, .int yr, .int mo, .int da, .int (nI mk), .ref bc, .ref bf, .ref bg, .int (nI wr)])), (bc, .inl (cyI, 366, .inl (pz_ar rc))), (bf, .inl (cyI, 3001, .inl (pz_ar ff))), (bg, .inl (cyI, 3001, .inl (pz_ar gg)))]) ⟨hx, hb, hml, hown, hts⟩ (k_L_lawDays l D h0 ac ay ap oa cyI cyL ([]) mk ch fy fp og n z (by omega) (by omega)) (vx_cwSW 4 hts gL_law_L_lawDays rfl rfl rfl (by decide +kernel) ⟨Nat.le_of_ble_eq_true rfl, Nat.le_of_ble_eq_true rfl⟩) hK hP hD hS hA [0, 1, 2, 3, 8] [4, 5, 6, 7] rfl rfl rfl rfl rfl (by decide) rfl hl.1 rfl (lv_room (Nat.le_of_ble_eq_true rfl)) dL_law_1154 f0 (fun r u H locs hr hP hD hS => ?_)
  obtain ⟨r0, u0⟩ : r = nI 0 ∧ u = nI (pm_lw z) - nI (pm_lw n) := hr
  subst r0
  subst u0
  have hP : va_P D vwCl [(h1, .inr (1, [.int th, .int yr, .int mo, .int da, .int (nI mk), .ref bc, .ref bf, .ref bg, .int (nI wr)])), (bc, .inl (cyI, 366, .inl (pz_ar rc))), (bf, .inl (cyI, 3001, .inl (pz_ar ff))), (bg, .inl (cyI, 3001, .inl (pz_ar gg))), (h0, .inr (0, [.ref ac, .ref ay, .ref ap, .int (nI mk)])), (ac, .inl (cyI, 365, .inl (pz_ar ch))), (ay, .inl (cyI, 60, .inl (pz_ar fy))), (ap, .inl (cyI, 60, .inl (pz_ar fp))), (oa, .inl (cyL, 1, .inr (.inl (vp_updL og 0 (nI (pm_lw z) - nI (pm_lw n)).toInt64))))] H := hP
  have hD : va_D (fun q : Nat => s.heap.size ≤ q) [(h1, .inr (1, [.int th, .int yr, .int mo, .int da, .int (nI mk), .ref bc, .ref bf, .ref bg, .int (nI wr)])), (bc, .inl (cyI, 366, .inl (pz_ar rc))), (bf, .inl (cyI, 3001, .inl (pz_ar ff))), (bg, .inl (cyI, 3001, .inl (pz_ar gg))), (h0, .inr (0, [.ref ac, .ref ay, .ref ap, .int (nI mk)])), (ac, .inl (cyI, 365, .inl (pz_ar ch))), (ay, .inl (cyI, 60, .inl (pz_ar fy))), (ap, .inl (cyI, 60, .inl (pz_ar fp))), (oa, .inl (cyL, 1, .inr (.inl (vp_updL og 0 (nI (pm_lw z) - nI (pm_lw n)).toInt64))))] := hD
  refine lv_istore (lv' := [(5, .int (nI 0)), (0, .ref b), (1, .ref h0), (2, .ref h1), (3, .ref oa), (4, .int (nI i))]) hx hb dL_law_1157 hl (by decide) rfl (fun ls hl => ?_)
  refine lv_aload_n hx hb dL_law_1159 rfl (lv_at hl 3 rfl) ?_
  refine lv_aload_n hx hb dL_law_1160 rfl (lv_at hl 1 rfl) ?_
  refine lv_iload hx hb dL_law_1161 (lv_at hl 5 rfl) ?_
  refine lv_iconst (v := nI 1) hx hb dL_law_1163 (by decide) ?_
  refine pn_iadd hx hb dL_law_1164 ?_
  refine pn_sld hx hb hX hbl hS (by omega) hL hk1 dL_law_1165 ?_
  refine lv_aload_n hx hb dL_law_1166 rfl (lv_at hl 1 rfl) ?_
  refine lv_iload hx hb dL_law_1167 (lv_at hl 5 rfl) ?_
  refine lv_iconst (v := nI 2) hx hb dL_law_1169 (by decide) ?_
  refine pn_iadd hx hb dL_law_1170 ?_
  refine pn_sld hx hb hX hbl hS (by omega) hL hk2 dL_law_1171 ?_
  refine pz_VI (rest := []) (wr := [(h0, .inr (0, [.ref ac, .ref ay, .ref ap, .int (nI mk)])), (ac, .inl (cyI, 365, .inl (pz_ar ch))), (ay, .inl (cyI, 60, .inl (pz_ar fy))), (ap, .inl (cyI, 60, .inl (pz_ar fp))), (oa, .inl (cyL, 1, .inr (.inl (vp_updL og 0 (nI (pm_lw z) - nI (pm_lw n)).toInt64))))]) ⟨hx, hb, hml, hown, hts⟩ (k_X1_lawDays_a l D h1 bc bf bg cyI ([(cyL, .long)]) th yr mo da mk wr rc ff gg n z (by omega) (by omega)) (cwV 2 hts gL_law_X1_lawDays rfl rfl rfl (by decide +kernel) ⟨Nat.le_of_ble_eq_true rfl, Nat.le_of_ble_eq_true rfl⟩) hK hP hD hS hA [0, 1, 2, 3] [4, 5, 6, 7, 8] rfl rfl rfl rfl rfl (by decide) 0 1 rfl rfl rfl hl.1 rfl (lv_room (Nat.le_of_ble_eq_true rfl)) dL_law_1172 f0 (fun r u H locs hr hP hD hS => ?_)
  have hP : va_P D vwCl [(h0, .inr (0, [.ref ac, .ref ay, .ref ap, .int (nI mk)])), (ac, .inl (cyI, 365, .inl (pz_ar ch))), (ay, .inl (cyI, 60, .inl (pz_ar fy))), (ap, .inl (cyI, 60, .inl (pz_ar fp))), (oa, .inl (cyL, 1, .inr (.inl (vp_updL og 0 (nI (pm_lw z) - nI (pm_lw n)).toInt64)))), (h1, .inr (1, [.int (nI 0), .int (nI (pm_yr n)), .int (nI (pm_mo n)), .int (nI (pm_da n)), .int (nI mk), .ref bc, .ref bf, .ref bg, .int (nI wr)])), (bc, .inl (cyI, 366, .inl (pz_ar rc))), (bf, .inl (cyI, 3001, .inl (pz_ar ff))), (bg, .inl (cyI, 3001, .inl (pz_ar gg)))] H := hP
  have hD : va_D (fun q : Nat => s.heap.size ≤ q) [(h0, .inr (0, [.ref ac, .ref ay, .ref ap, .int (nI mk)])), (ac, .inl (cyI, 365, .inl (pz_ar ch))), (ay, .inl (cyI, 60, .inl (pz_ar fy))), (ap, .inl (cyI, 60, .inl (pz_ar fp))), (oa, .inl (cyL, 1, .inr (.inl (vp_updL og 0 (nI (pm_lw z) - nI (pm_lw n)).toInt64)))), (h1, .inr (1, [.int (nI 0), .int (nI (pm_yr n)), .int (nI (pm_mo n)), .int (nI (pm_da n)), .int (nI mk), .ref bc, .ref bf, .ref bg, .int (nI wr)])), (bc, .inl (cyI, 366, .inl (pz_ar rc))), (bf, .inl (cyI, 3001, .inl (pz_ar ff))), (bg, .inl (cyI, 3001, .inl (pz_ar gg)))] := hD
  obtain rfl : r = (nI (pm_lw z) - nI (pm_lw n)) := hr
  refine lv_istore (lv' := [(6, .int (nI (pm_lw z) - nI (pm_lw n))), (5, .int (nI 0)), (0, .ref b), (1, .ref h0), (2, .ref h1), (3, .ref oa), (4, .int (nI i))]) hx hb dL_law_1175 hl (by decide) rfl (fun ls hl => ?_)
  refine lv_aload_n hx hb dL_law_1177 rfl (lv_at hl 4 rfl) ?_
  refine pz_VR (rest := []) ⟨hx, hb, hml, hown, hts⟩ (k_X1_thrown l D h1 bc bf bg cyI ([(cyL, .long)]) (nI 0) (nI (pm_yr n)) (nI (pm_mo n)) (nI (pm_da n)) mk wr rc ff gg  ) (cwV 0 hts gL_law_X1_thrown rfl rfl rfl (by decide +kernel) ⟨Nat.le_of_ble_eq_true rfl, Nat.le_of_ble_eq_true rfl⟩) hK hP (hD.weaken (fun _ _ _ _ => trivial)) hS hA [5, 6, 7, 8] rfl rfl rfl 5 1 rfl rfl rfl hl.1 rfl (lv_room (Nat.le_of_ble_eq_true rfl)) dL_law_1178 f0 (fun r H locs hr hP hS => ?_)
  obtain rfl : r = (nI 0) := hr
  refine lv_iload hx hb dL_law_1181 (lv_at hl 1 rfl) ?_
  refine pn_icmp_eq (tgt := 1188) hx hb (by omega) (by omega) dL_law_1183 (by decide) (fun _ => ?_) (fun c_3 => absurd c_3 (by decide))
  refine lv_iload hx hb dL_law_1188 (lv_at hl 1 rfl) ?_
  refine pn_if_ne (tgt := 1205) hx hb (by omega) dL_law_1190 (by decide) (fun c_4 => absurd c_4 (by decide)) (fun _ => ?_)
  refine lv_aload_n hx hb dL_law_1193 rfl (lv_at hl 5 rfl) ?_
  refine lv_iconst (v := nI 0) hx hb dL_law_1194 (by decide) ?_
  refine pn_lald hx hb hK hP 4 1 rfl rfl (by decide) (by decide) dL_law_1195 ?_
  refine lv_iload hx hb dL_law_1196 (lv_at hl 0 rfl) ?_
  refine lv_i2l (v := ((nI (pm_lw z) - nI (pm_lw n))).toInt64) hx hb dL_law_1198 rfl ?_
  refine pn_same hx hb (pz_updL_0.trans (congrArg Int32.toInt64 (by rfl))) dL_law_1199 ?_
  refine pn_if_eq (tgt := 1205) hx hb (by omega) dL_law_1200 (by decide) (fun _ => ?_) (fun c_5 => absurd c_5 (by decide))
  refine lv_goto (tgt := 2234) hx hb dL_law_1205 (by decide) ?_
  refine W.widen (k := cells + 1) (n := slots + 6) (Nat.le_succ cells) (Nat.le_add_right slots 6) ?_
  exact KK H locs ls ⟨mk, wr, ch, fy, fp, rc, ff, gg, (nI 0), (nI (pm_yr n)), (nI (pm_mo n)), (nI (pm_da n)), vp_updL og 0 (nI (pm_lw z) - nI (pm_lw n)).toInt64, (by exact hI), hP.sub (ws' := [(h0, .inr (0, [.ref ac, .ref ay, .ref ap, .int (nI mk)])), (ac, .inl (cyI, 365, .inl (pz_ar ch))), (ay, .inl (cyI, 60, .inl (pz_ar fy))), (ap, .inl (cyI, 60, .inl (pz_ar fp))), (h1, .inr (1, [.int (nI 0), .int (nI (pm_yr n)), .int (nI (pm_mo n)), .int (nI (pm_da n)), .int (nI mk), .ref bc, .ref bf, .ref bg, .int (nI wr)])), (bc, .inl (cyI, 366, .inl (pz_ar rc))), (bf, .inl (cyI, 3001, .inl (pz_ar ff))), (bg, .inl (cyI, 3001, .inl (pz_ar gg))), (oa, .inl (cyL, 1, .inr (.inl (vp_updL og 0 (nI (pm_lw z) - nI (pm_lw n)).toInt64))))]) [0, 1, 2, 3, 5, 6, 7, 8, 4] rfl, hD.sub (ws' := [(h0, .inr (0, [.ref ac, .ref ay, .ref ap, .int (nI mk)])), (ac, .inl (cyI, 365, .inl (pz_ar ch))), (ay, .inl (cyI, 60, .inl (pz_ar fy))), (ap, .inl (cyI, 60, .inl (pz_ar fp))), (h1, .inr (1, [.int (nI 0), .int (nI (pm_yr n)), .int (nI (pm_mo n)), .int (nI (pm_da n)), .int (nI mk), .ref bc, .ref bf, .ref bg, .int (nI wr)])), (bc, .inl (cyI, 366, .inl (pz_ar rc))), (bf, .inl (cyI, 3001, .inl (pz_ar ff))), (bg, .inl (cyI, 3001, .inl (pz_ar gg))), (oa, .inl (cyL, 1, .inr (.inl (vp_updL og 0 (nI (pm_lw z) - nI (pm_lw n)).toInt64))))]) [0, 1, 2, 3, 5, 6, 7, 8, 4] (by decide) rfl, hS, lv_sub hl [2, 3, 4, 5, 6] rfl⟩
set_option maxHeartbeats 4000000 in
set_option maxRecDepth 100000 in
theorem kw_lawDays_x {p : Program} {l : Launch} {e : Env} {s : State} {m : MethodId} {below : List Frame} {meth : Method} {c : Code} {Q : State → Prop} {D : va_G} {cyI cyL : ClassId} {b L : Nat} {xs : Nat → Int32} {h0 ac ay ap h1 bc bf bg oa : Nat} {i cells slots : Nat} {H : Heap} {locs : List Loc} {ls : Array Slot} {mk wr : Nat} {ch fy fp rc ff gg : Nat → Nat} {th yr mo da : Int32} {og : Nat → Int64} (hfl : l.stackTraces = false) (C0 : pl_C p s m c D cyI cyL b L xs) (hI : pz_inv mk wr ch fy fp rc ff gg) (hP : va_P D vwCl [(h0, .inr (0, [.ref ac, .ref ay, .ref ap, .int (nI mk)])), (ac, .inl (cyI, 365, .inl (pz_ar ch))), (ay, .inl (cyI, 60, .inl (pz_ar fy))), (ap, .inl (cyI, 60, .inl (pz_ar fp))), (h1, .inr (1, [.int th, .int yr, .int mo, .int da, .int (nI mk), .ref bc, .ref bf, .ref bg, .int (nI wr)])), (bc, .inl (cyI, 366, .inl (pz_ar rc))), (bf, .inl (cyI, 3001, .inl (pz_ar ff))), (bg, .inl (cyI, 3001, .inl (pz_ar gg))), (oa, .inl (cyL, 1, .inr (.inl og)))] H) (hD : va_D (fun q : Nat => s.heap.size ≤ q) [(h0, .inr (0, [.ref ac, .ref ay, .ref ap, .int (nI mk)])), (ac, .inl (cyI, 365, .inl (pz_ar ch))), (ay, .inl (cyI, 60, .inl (pz_ar fy))), (ap, .inl (cyI, 60, .inl (pz_ar fp))), (h1, .inr (1, [.int th, .int yr, .int mo, .int da, .int (nI mk), .ref bc, .ref bf, .ref bg, .int (nI wr)])), (bc, .inl (cyI, 366, .inl (pz_ar rc))), (bf, .inl (cyI, 3001, .inl (pz_ar ff))), (bg, .inl (cyI, 3001, .inl (pz_ar gg))), (oa, .inl (cyL, 1, .inr (.inl og)))]) (hS : va_S (fun q : Nat => s.heap.size ≤ q) s.heap H locs) (hl : lv_has ls 7 [(0, .ref b), (1, .ref h0), (2, .ref h1), (3, .ref oa), (4, .int (nI i))]) (hi : i + 6 ≤ L) (hr1 : cells + 1 ≤ 1049) (hs1 : slots + 6 ≤ 15155) (KK : ∀ (H : Heap) (locs : List Loc) (ls : Array Slot), pl_G s D cyI cyL b h0 ac ay ap h1 bc bf bg oa H locs ls i → W p l e room_1 s m #[Value.ref b] below meth c H locs (cells + 1) (slots + 6) Q (F0 m 2234 ls [])) {x1 x2 : Int32} (hk1 : xs (i + 1) = x1) (hk2 : xs (i + 2) = x2) (hy0 : ¬ (0 ≤ x1.toInt ∧ x1.toInt ≤ 1095749 ∧ 0 ≤ x2.toInt ∧ x2.toInt ≤ 1095749)) : W p l e room_1 s m #[Value.ref b] below meth c H locs cells slots Q (F0 m 1140 ls []) := by
  obtain ⟨hx, hb, hml, hown, hts, hX, hbl, hK, hth, hnc, hL⟩ := C0
  have hA : ∀ q : Nat, s.heap.size ≤ q → (fun q : Nat => s.heap.size ≤ q) q := fun _ h => h
  have f0 : cells + 0 ≤ room_1.cells ∧ slots + 0 ≤ room_1.slots := ⟨Nat.le_trans (Nat.le_succ cells) hr1, Nat.le_trans (Nat.le_add_right slots 6) hs1⟩
  have f1 : cells + 1 ≤ room_1.cells ∧ slots + 6 ≤ room_1.slots := ⟨hr1, hs1⟩
  have f2 : (cells + 1) + 0 ≤ room_1.cells ∧ (slots + 6) + 0 ≤ room_1.slots := f1
  refine lv_aload_n hx hb dL_law_1140 rfl (lv_at hl 1 rfl) ?_
  refine lv_aload_n hx hb dL_law_1141 rfl (lv_at hl 0 rfl) ?_
  refine lv_iload hx hb dL_law_1142 (lv_at hl 4 rfl) ?_
  refine lv_iconst (v := nI 1) hx hb dL_law_1144 (by decide) ?_
  refine pn_iadd hx hb dL_law_1145 ?_
  refine pn_sld hx hb hX hbl hS (by omega) hL hk1 dL_law_1146 ?_
  refine lv_aload_n hx hb dL_law_1147 rfl (lv_at hl 0 rfl) ?_
  refine lv_iload hx hb dL_law_1148 (lv_at hl 4 rfl) ?_
  refine lv_iconst (v := nI 2) hx hb dL_law_1150 (by decide) ?_
  refine pn_iadd hx hb dL_law_1151 ?_
  refine pn_sld hx hb hX hbl hS (by omega) hL hk2 dL_law_1152 ?_
  refine lv_aload_n hx hb dL_law_1153 rfl (lv_at hl 3 rfl) ?_
  refine pz_SRX (rest := []) ⟨hx, hb, hml, hown, hts⟩ (k_L_lawDays_x l hfl D h0 ac ay ap oa cyI cyL ([]) mk ch fy fp og x1 x2 (by exact hy0)) (vx_cwSW 4 hts gL_law_L_lawDays rfl rfl rfl (by decide +kernel) ⟨Nat.le_of_ble_eq_true rfl, Nat.le_of_ble_eq_true rfl⟩) hK hP (hD.weaken (fun _ _ _ _ => trivial)) hS hth hnc [0, 1, 2, 3, 8] rfl rfl rfl rfl hl.1 rfl (lv_room (Nat.le_of_ble_eq_true rfl)) dL_law_1154 f1 (fun r H locs hr hP hS => ?_)
  obtain rfl : r = nI 1 := hr
  refine lv_istore (lv' := [(5, .int (nI 1)), (0, .ref b), (1, .ref h0), (2, .ref h1), (3, .ref oa), (4, .int (nI i))]) hx hb dL_law_1157 hl (by decide) rfl (fun ls hl => ?_)
  refine lv_aload_n hx hb dL_law_1159 rfl (lv_at hl 3 rfl) ?_
  refine lv_aload_n hx hb dL_law_1160 rfl (lv_at hl 1 rfl) ?_
  refine lv_iload hx hb dL_law_1161 (lv_at hl 5 rfl) ?_
  refine lv_iconst (v := nI 1) hx hb dL_law_1163 (by decide) ?_
  refine pn_iadd hx hb dL_law_1164 ?_
  refine pn_sld hx hb hX hbl hS (by omega) hL hk1 dL_law_1165 ?_
  refine lv_aload_n hx hb dL_law_1166 rfl (lv_at hl 1 rfl) ?_
  refine lv_iload hx hb dL_law_1167 (lv_at hl 5 rfl) ?_
  refine lv_iconst (v := nI 2) hx hb dL_law_1169 (by decide) ?_
  refine pn_iadd hx hb dL_law_1170 ?_
  refine pn_sld hx hb hX hbl hS (by omega) hL hk2 dL_law_1171 ?_
  refine pz_VI (rest := []) (wr := [(h0, .inr (0, [.ref ac, .ref ay, .ref ap, .int (nI mk)])), (ac, .inl (cyI, 365, .inl (pz_ar ch))), (ay, .inl (cyI, 60, .inl (pz_ar fy))), (ap, .inl (cyI, 60, .inl (pz_ar fp))), (oa, .inl (cyL, 1, .inr (.inl og)))]) ⟨hx, hb, hml, hown, hts⟩ (k_X1_lawDays_x l D h1 bc bf bg cyI ([(cyL, .long)]) th yr mo da mk wr rc ff gg x1 x2 (by exact hy0)) (cwV 2 hts gL_law_X1_lawDays rfl rfl rfl (by decide +kernel) ⟨Nat.le_of_ble_eq_true rfl, Nat.le_of_ble_eq_true rfl⟩) hK hP hD hS hA [4, 5, 6, 7] [0, 1, 2, 3, 8] rfl rfl rfl rfl rfl (by decide) 4 1 rfl rfl rfl hl.1 rfl (lv_room (Nat.le_of_ble_eq_true rfl)) dL_law_1172 f2 (fun r u H locs hr hP hD hS => ?_)
  have hP : va_P D vwCl [(h0, .inr (0, [.ref ac, .ref ay, .ref ap, .int (nI mk)])), (ac, .inl (cyI, 365, .inl (pz_ar ch))), (ay, .inl (cyI, 60, .inl (pz_ar fy))), (ap, .inl (cyI, 60, .inl (pz_ar fp))), (oa, .inl (cyL, 1, .inr (.inl og))), (h1, .inr (1, [.int (nI 1), .int yr, .int mo, .int da, .int (nI mk), .ref bc, .ref bf, .ref bg, .int (nI wr)])), (bc, .inl (cyI, 366, .inl (pz_ar rc))), (bf, .inl (cyI, 3001, .inl (pz_ar ff))), (bg, .inl (cyI, 3001, .inl (pz_ar gg)))] H := hP
  have hD : va_D (fun q : Nat => s.heap.size ≤ q) [(h0, .inr (0, [.ref ac, .ref ay, .ref ap, .int (nI mk)])), (ac, .inl (cyI, 365, .inl (pz_ar ch))), (ay, .inl (cyI, 60, .inl (pz_ar fy))), (ap, .inl (cyI, 60, .inl (pz_ar fp))), (oa, .inl (cyL, 1, .inr (.inl og))), (h1, .inr (1, [.int (nI 1), .int yr, .int mo, .int da, .int (nI mk), .ref bc, .ref bf, .ref bg, .int (nI wr)])), (bc, .inl (cyI, 366, .inl (pz_ar rc))), (bf, .inl (cyI, 3001, .inl (pz_ar ff))), (bg, .inl (cyI, 3001, .inl (pz_ar gg)))] := hD
  obtain rfl : r = (nI 0) := hr
  refine lv_istore (lv' := [(6, .int (nI 0)), (5, .int (nI 1)), (0, .ref b), (1, .ref h0), (2, .ref h1), (3, .ref oa), (4, .int (nI i))]) hx hb dL_law_1175 hl (by decide) rfl (fun ls hl => ?_)
  refine lv_aload_n hx hb dL_law_1177 rfl (lv_at hl 4 rfl) ?_
  refine pz_VR (rest := []) ⟨hx, hb, hml, hown, hts⟩ (k_X1_thrown l D h1 bc bf bg cyI ([(cyL, .long)]) (nI 1) yr mo da mk wr rc ff gg  ) (cwV 0 hts gL_law_X1_thrown rfl rfl rfl (by decide +kernel) ⟨Nat.le_of_ble_eq_true rfl, Nat.le_of_ble_eq_true rfl⟩) hK hP (hD.weaken (fun _ _ _ _ => trivial)) hS hA [5, 6, 7, 8] rfl rfl rfl 5 1 rfl rfl rfl hl.1 rfl (lv_room (Nat.le_of_ble_eq_true rfl)) dL_law_1178 f2 (fun r H locs hr hP hS => ?_)
  obtain rfl : r = (nI 1) := hr
  refine lv_iload hx hb dL_law_1181 (lv_at hl 1 rfl) ?_
  refine pn_icmp_eq (tgt := 1188) hx hb (by omega) (by omega) dL_law_1183 (by decide) (fun _ => ?_) (fun c_3 => absurd c_3 (by decide))
  refine lv_iload hx hb dL_law_1188 (lv_at hl 1 rfl) ?_
  refine pn_if_ne (tgt := 1205) hx hb (by omega) dL_law_1190 (by decide) (fun _ => ?_) (fun c_4 => absurd c_4 (by decide))
  refine lv_goto (tgt := 2234) hx hb dL_law_1205 (by decide) ?_
  exact KK H locs ls ⟨mk, wr, ch, fy, fp, rc, ff, gg, (nI 1), yr, mo, da, og, (by exact hI), hP.sub (ws' := [(h0, .inr (0, [.ref ac, .ref ay, .ref ap, .int (nI mk)])), (ac, .inl (cyI, 365, .inl (pz_ar ch))), (ay, .inl (cyI, 60, .inl (pz_ar fy))), (ap, .inl (cyI, 60, .inl (pz_ar fp))), (h1, .inr (1, [.int (nI 1), .int yr, .int mo, .int da, .int (nI mk), .ref bc, .ref bf, .ref bg, .int (nI wr)])), (bc, .inl (cyI, 366, .inl (pz_ar rc))), (bf, .inl (cyI, 3001, .inl (pz_ar ff))), (bg, .inl (cyI, 3001, .inl (pz_ar gg))), (oa, .inl (cyL, 1, .inr (.inl og)))]) [0, 1, 2, 3, 5, 6, 7, 8, 4] rfl, hD.sub (ws' := [(h0, .inr (0, [.ref ac, .ref ay, .ref ap, .int (nI mk)])), (ac, .inl (cyI, 365, .inl (pz_ar ch))), (ay, .inl (cyI, 60, .inl (pz_ar fy))), (ap, .inl (cyI, 60, .inl (pz_ar fp))), (h1, .inr (1, [.int (nI 1), .int yr, .int mo, .int da, .int (nI mk), .ref bc, .ref bf, .ref bg, .int (nI wr)])), (bc, .inl (cyI, 366, .inl (pz_ar rc))), (bf, .inl (cyI, 3001, .inl (pz_ar ff))), (bg, .inl (cyI, 3001, .inl (pz_ar gg))), (oa, .inl (cyL, 1, .inr (.inl og)))]) [0, 1, 2, 3, 5, 6, 7, 8, 4] (by decide) rfl, hS, lv_sub hl [2, 3, 4, 5, 6] rfl⟩
set_option maxHeartbeats 4000000 in
set_option maxRecDepth 100000 in
theorem kw_termEnd_a {p : Program} {l : Launch} {e : Env} {s : State} {m : MethodId} {below : List Frame} {meth : Method} {c : Code} {Q : State → Prop} {D : va_G} {cyI cyL : ClassId} {b L : Nat} {xs : Nat → Int32} {h0 ac ay ap h1 bc bf bg oa : Nat} {i cells slots : Nat} {H : Heap} {locs : List Loc} {ls : Array Slot} {mk wr : Nat} {ch fy fp rc ff gg : Nat → Nat} {th yr mo da : Int32} {og : Nat → Int64} (hfl : l.stackTraces = false) (C0 : pl_C p s m c D cyI cyL b L xs) (hI : pz_inv mk wr ch fy fp rc ff gg) (hP : va_P D vwCl [(h0, .inr (0, [.ref ac, .ref ay, .ref ap, .int (nI mk)])), (ac, .inl (cyI, 365, .inl (pz_ar ch))), (ay, .inl (cyI, 60, .inl (pz_ar fy))), (ap, .inl (cyI, 60, .inl (pz_ar fp))), (h1, .inr (1, [.int th, .int yr, .int mo, .int da, .int (nI mk), .ref bc, .ref bf, .ref bg, .int (nI wr)])), (bc, .inl (cyI, 366, .inl (pz_ar rc))), (bf, .inl (cyI, 3001, .inl (pz_ar ff))), (bg, .inl (cyI, 3001, .inl (pz_ar gg))), (oa, .inl (cyL, 1, .inr (.inl og)))] H) (hD : va_D (fun q : Nat => s.heap.size ≤ q) [(h0, .inr (0, [.ref ac, .ref ay, .ref ap, .int (nI mk)])), (ac, .inl (cyI, 365, .inl (pz_ar ch))), (ay, .inl (cyI, 60, .inl (pz_ar fy))), (ap, .inl (cyI, 60, .inl (pz_ar fp))), (h1, .inr (1, [.int th, .int yr, .int mo, .int da, .int (nI mk), .ref bc, .ref bf, .ref bg, .int (nI wr)])), (bc, .inl (cyI, 366, .inl (pz_ar rc))), (bf, .inl (cyI, 3001, .inl (pz_ar ff))), (bg, .inl (cyI, 3001, .inl (pz_ar gg))), (oa, .inl (cyL, 1, .inr (.inl og)))]) (hS : va_S (fun q : Nat => s.heap.size ≤ q) s.heap H locs) (hl : lv_has ls 7 [(0, .ref b), (1, .ref h0), (2, .ref h1), (3, .ref oa), (4, .int (nI i))]) (hi : i + 6 ≤ L) (hr1 : cells + 1 ≤ 1049) (hs1 : slots + 6 ≤ 15155) (KK : ∀ (H : Heap) (locs : List Loc) (ls : Array Slot), pl_G s D cyI cyL b h0 ac ay ap h1 bc bf bg oa H locs ls i → W p l e room_1 s m #[Value.ref b] below meth c H locs (cells + 1) (slots + 6) Q (F0 m 2234 ls [])) {n dys : Nat} (hk1 : xs (i + 1) = (nI n)) (hk2 : xs (i + 2) = (nI dys)) (hy0 : n < 1095750) (hy1 : dys ≤ 100000) (hy2 : pm_lw n + dys ≤ 1094999) : W p l e room_1 s m #[Value.ref b] below meth c H locs cells slots Q (F0 m 1072 ls []) := by
  obtain ⟨hx, hb, hml, hown, hts, hX, hbl, hK, hth, hnc, hL⟩ := C0
  have hA : ∀ q : Nat, s.heap.size ≤ q → (fun q : Nat => s.heap.size ≤ q) q := fun _ h => h
  have f0 : cells + 0 ≤ room_1.cells ∧ slots + 0 ≤ room_1.slots := ⟨Nat.le_trans (Nat.le_succ cells) hr1, Nat.le_trans (Nat.le_add_right slots 6) hs1⟩
  have f1 : cells + 1 ≤ room_1.cells ∧ slots + 6 ≤ room_1.slots := ⟨hr1, hs1⟩
  have f2 : (cells + 1) + 0 ≤ room_1.cells ∧ (slots + 6) + 0 ≤ room_1.slots := f1
  have ht1 := pm_te hy2
  have ht2 := pm_te_a hy2
  refine lv_aload_n hx hb dL_law_1072 rfl (lv_at hl 1 rfl) ?_
  refine lv_aload_n hx hb dL_law_1073 rfl (lv_at hl 0 rfl) ?_
  refine lv_iload hx hb dL_law_1074 (lv_at hl 4 rfl) ?_
  refine lv_iconst (v := nI 1) hx hb dL_law_1076 (by decide) ?_
  refine pn_iadd hx hb dL_law_1077 ?_
  refine pn_sld hx hb hX hbl hS (by omega) hL hk1 dL_law_1078 ?_
  refine lv_aload_n hx hb dL_law_1079 rfl (lv_at hl 0 rfl) ?_
  refine lv_iload hx hb dL_law_1080 (lv_at hl 4 rfl) ?_
  refine lv_iconst (v := nI 2) hx hb dL_law_1082 (by decide) ?_
  refine pn_iadd hx hb dL_law_1083 ?_
  refine pn_sld hx hb hX hbl hS (by omega) hL hk2 dL_law_1084 ?_
  refine lv_aload_n hx hb dL_law_1085 rfl (lv_at hl 3 rfl) ?_
  refine pz_SIW (rest := []) (wr := [(h1, .inr (1, [.int th, .int yr, .int mo, .int da, .int (nI mk), .ref bc, .ref bf, .ref bg, .int (nI wr)])), (bc, .inl (cyI, 366, .inl (pz_ar rc))), (bf, .inl (cyI, 3001, .inl (pz_ar ff))), (bg, .inl (cyI, 3001, .inl (pz_ar gg)))]) ⟨hx, hb, hml, hown, hts⟩ (k_L_termEnd l D h0 ac ay ap oa cyI cyL ([]) mk ch fy fp og n dys (by omega) (by omega) (by omega)) (vx_cwSW 4 hts gL_law_L_termEnd rfl rfl rfl (by decide +kernel) ⟨Nat.le_of_ble_eq_true rfl, Nat.le_of_ble_eq_true rfl⟩) hK hP hD hS hA [0, 1, 2, 3, 8] [4, 5, 6, 7] rfl rfl rfl rfl rfl (by decide) rfl hl.1 rfl (lv_room (Nat.le_of_ble_eq_true rfl)) dL_law_1086 f0 (fun r u H locs hr hP hD hS => ?_)
  obtain ⟨r0, u0⟩ : r = nI 0 ∧ u = nI (pm_ld ((pm_lw n + dys) / 365 + 1) ((pm_lw n + dys) % 365 + 1)) := hr
  subst r0
  subst u0
  have hP : va_P D vwCl [(h1, .inr (1, [.int th, .int yr, .int mo, .int da, .int (nI mk), .ref bc, .ref bf, .ref bg, .int (nI wr)])), (bc, .inl (cyI, 366, .inl (pz_ar rc))), (bf, .inl (cyI, 3001, .inl (pz_ar ff))), (bg, .inl (cyI, 3001, .inl (pz_ar gg))), (h0, .inr (0, [.ref ac, .ref ay, .ref ap, .int (nI mk)])), (ac, .inl (cyI, 365, .inl (pz_ar ch))), (ay, .inl (cyI, 60, .inl (pz_ar fy))), (ap, .inl (cyI, 60, .inl (pz_ar fp))), (oa, .inl (cyL, 1, .inr (.inl (vp_updL og 0 (nI (pm_ld ((pm_lw n + dys) / 365 + 1) ((pm_lw n + dys) % 365 + 1))).toInt64))))] H := hP
  have hD : va_D (fun q : Nat => s.heap.size ≤ q) [(h1, .inr (1, [.int th, .int yr, .int mo, .int da, .int (nI mk), .ref bc, .ref bf, .ref bg, .int (nI wr)])), (bc, .inl (cyI, 366, .inl (pz_ar rc))), (bf, .inl (cyI, 3001, .inl (pz_ar ff))), (bg, .inl (cyI, 3001, .inl (pz_ar gg))), (h0, .inr (0, [.ref ac, .ref ay, .ref ap, .int (nI mk)])), (ac, .inl (cyI, 365, .inl (pz_ar ch))), (ay, .inl (cyI, 60, .inl (pz_ar fy))), (ap, .inl (cyI, 60, .inl (pz_ar fp))), (oa, .inl (cyL, 1, .inr (.inl (vp_updL og 0 (nI (pm_ld ((pm_lw n + dys) / 365 + 1) ((pm_lw n + dys) % 365 + 1))).toInt64))))] := hD
  refine lv_istore (lv' := [(5, .int (nI 0)), (0, .ref b), (1, .ref h0), (2, .ref h1), (3, .ref oa), (4, .int (nI i))]) hx hb dL_law_1089 hl (by decide) rfl (fun ls hl => ?_)
  refine lv_aload_n hx hb dL_law_1091 rfl (lv_at hl 3 rfl) ?_
  refine lv_aload_n hx hb dL_law_1092 rfl (lv_at hl 1 rfl) ?_
  refine lv_iload hx hb dL_law_1093 (lv_at hl 5 rfl) ?_
  refine lv_iconst (v := nI 1) hx hb dL_law_1095 (by decide) ?_
  refine pn_iadd hx hb dL_law_1096 ?_
  refine pn_sld hx hb hX hbl hS (by omega) hL hk1 dL_law_1097 ?_
  refine lv_aload_n hx hb dL_law_1098 rfl (lv_at hl 1 rfl) ?_
  refine lv_iload hx hb dL_law_1099 (lv_at hl 5 rfl) ?_
  refine lv_iconst (v := nI 2) hx hb dL_law_1101 (by decide) ?_
  refine pn_iadd hx hb dL_law_1102 ?_
  refine pn_sld hx hb hX hbl hS (by omega) hL hk2 dL_law_1103 ?_
  refine pz_VI (rest := []) (wr := [(h0, .inr (0, [.ref ac, .ref ay, .ref ap, .int (nI mk)])), (ac, .inl (cyI, 365, .inl (pz_ar ch))), (ay, .inl (cyI, 60, .inl (pz_ar fy))), (ap, .inl (cyI, 60, .inl (pz_ar fp))), (oa, .inl (cyL, 1, .inr (.inl (vp_updL og 0 (nI (pm_ld ((pm_lw n + dys) / 365 + 1) ((pm_lw n + dys) % 365 + 1))).toInt64))))]) ⟨hx, hb, hml, hown, hts⟩ (k_X1_termEnd_a l D h1 bc bf bg cyI ([(cyL, .long)]) th yr mo da mk wr rc ff gg n dys (pm_ld ((pm_lw n + dys) / 365 + 1) ((pm_lw n + dys) % 365 + 1)) (by omega) (by omega) (by exact ht2.1) (by exact ht1.2.2) (by exact ht1.1) (by exact ht2.2) (by intro _; rw [ht1.2.1]; omega)) (cwV 2 hts gL_law_X1_termEnd rfl rfl rfl (by decide +kernel) ⟨Nat.le_of_ble_eq_true rfl, Nat.le_of_ble_eq_true rfl⟩) hK hP hD hS hA [0, 1, 2, 3] [4, 5, 6, 7, 8] rfl rfl rfl rfl rfl (by decide) 0 1 rfl rfl rfl hl.1 rfl (lv_room (Nat.le_of_ble_eq_true rfl)) dL_law_1104 f0 (fun r u H locs hr hP hD hS => ?_)
  obtain ⟨yv_1, mv_1, dv_1⟩ := u
  have hP : va_P D vwCl [(h0, .inr (0, [.ref ac, .ref ay, .ref ap, .int (nI mk)])), (ac, .inl (cyI, 365, .inl (pz_ar ch))), (ay, .inl (cyI, 60, .inl (pz_ar fy))), (ap, .inl (cyI, 60, .inl (pz_ar fp))), (oa, .inl (cyL, 1, .inr (.inl (vp_updL og 0 (nI (pm_ld ((pm_lw n + dys) / 365 + 1) ((pm_lw n + dys) % 365 + 1))).toInt64)))), (h1, .inr (1, [.int (nI 0), .int yv_1, .int mv_1, .int dv_1, .int (nI mk), .ref bc, .ref bf, .ref bg, .int (nI wr)])), (bc, .inl (cyI, 366, .inl (pz_ar rc))), (bf, .inl (cyI, 3001, .inl (pz_ar ff))), (bg, .inl (cyI, 3001, .inl (pz_ar gg)))] H := hP
  have hD : va_D (fun q : Nat => s.heap.size ≤ q) [(h0, .inr (0, [.ref ac, .ref ay, .ref ap, .int (nI mk)])), (ac, .inl (cyI, 365, .inl (pz_ar ch))), (ay, .inl (cyI, 60, .inl (pz_ar fy))), (ap, .inl (cyI, 60, .inl (pz_ar fp))), (oa, .inl (cyL, 1, .inr (.inl (vp_updL og 0 (nI (pm_ld ((pm_lw n + dys) / 365 + 1) ((pm_lw n + dys) % 365 + 1))).toInt64)))), (h1, .inr (1, [.int (nI 0), .int yv_1, .int mv_1, .int dv_1, .int (nI mk), .ref bc, .ref bf, .ref bg, .int (nI wr)])), (bc, .inl (cyI, 366, .inl (pz_ar rc))), (bf, .inl (cyI, 3001, .inl (pz_ar ff))), (bg, .inl (cyI, 3001, .inl (pz_ar gg)))] := hD
  obtain rfl : r = (nI (pm_ld ((pm_lw n + dys) / 365 + 1) ((pm_lw n + dys) % 365 + 1))) := hr
  refine lv_istore (lv' := [(6, .int (nI (pm_ld ((pm_lw n + dys) / 365 + 1) ((pm_lw n + dys) % 365 + 1)))), (5, .int (nI 0)), (0, .ref b), (1, .ref h0), (2, .ref h1), (3, .ref oa), (4, .int (nI i))]) hx hb dL_law_1107 hl (by decide) rfl (fun ls hl => ?_)
  refine lv_aload_n hx hb dL_law_1109 rfl (lv_at hl 4 rfl) ?_
  refine pz_VR (rest := []) ⟨hx, hb, hml, hown, hts⟩ (k_X1_thrown l D h1 bc bf bg cyI ([(cyL, .long)]) (nI 0) yv_1 mv_1 dv_1 mk wr rc ff gg  ) (cwV 0 hts gL_law_X1_thrown rfl rfl rfl (by decide +kernel) ⟨Nat.le_of_ble_eq_true rfl, Nat.le_of_ble_eq_true rfl⟩) hK hP (hD.weaken (fun _ _ _ _ => trivial)) hS hA [5, 6, 7, 8] rfl rfl rfl 5 1 rfl rfl rfl hl.1 rfl (lv_room (Nat.le_of_ble_eq_true rfl)) dL_law_1110 f0 (fun r H locs hr hP hS => ?_)
  obtain rfl : r = (nI 0) := hr
  refine lv_iload hx hb dL_law_1113 (lv_at hl 1 rfl) ?_
  refine pn_icmp_eq (tgt := 1120) hx hb (by omega) (by omega) dL_law_1115 (by decide) (fun _ => ?_) (fun c_3 => absurd c_3 (by decide))
  refine lv_iload hx hb dL_law_1120 (lv_at hl 1 rfl) ?_
  refine pn_if_ne (tgt := 1137) hx hb (by omega) dL_law_1122 (by decide) (fun c_4 => absurd c_4 (by decide)) (fun _ => ?_)
  refine lv_aload_n hx hb dL_law_1125 rfl (lv_at hl 5 rfl) ?_
  refine lv_iconst (v := nI 0) hx hb dL_law_1126 (by decide) ?_
  refine pn_lald hx hb hK hP 4 1 rfl rfl (by decide) (by decide) dL_law_1127 ?_
  refine lv_iload hx hb dL_law_1128 (lv_at hl 0 rfl) ?_
  refine lv_i2l (v := ((nI (pm_ld ((pm_lw n + dys) / 365 + 1) ((pm_lw n + dys) % 365 + 1)))).toInt64) hx hb dL_law_1130 rfl ?_
  refine pn_same hx hb (pz_updL_0.trans (congrArg Int32.toInt64 (by rfl))) dL_law_1131 ?_
  refine pn_if_eq (tgt := 1137) hx hb (by omega) dL_law_1132 (by decide) (fun _ => ?_) (fun c_5 => absurd c_5 (by decide))
  refine lv_goto (tgt := 2234) hx hb dL_law_1137 (by decide) ?_
  refine W.widen (k := cells + 1) (n := slots + 6) (Nat.le_succ cells) (Nat.le_add_right slots 6) ?_
  exact KK H locs ls ⟨mk, wr, ch, fy, fp, rc, ff, gg, (nI 0), yv_1, mv_1, dv_1, vp_updL og 0 (nI (pm_ld ((pm_lw n + dys) / 365 + 1) ((pm_lw n + dys) % 365 + 1))).toInt64, (by exact hI), hP.sub (ws' := [(h0, .inr (0, [.ref ac, .ref ay, .ref ap, .int (nI mk)])), (ac, .inl (cyI, 365, .inl (pz_ar ch))), (ay, .inl (cyI, 60, .inl (pz_ar fy))), (ap, .inl (cyI, 60, .inl (pz_ar fp))), (h1, .inr (1, [.int (nI 0), .int yv_1, .int mv_1, .int dv_1, .int (nI mk), .ref bc, .ref bf, .ref bg, .int (nI wr)])), (bc, .inl (cyI, 366, .inl (pz_ar rc))), (bf, .inl (cyI, 3001, .inl (pz_ar ff))), (bg, .inl (cyI, 3001, .inl (pz_ar gg))), (oa, .inl (cyL, 1, .inr (.inl (vp_updL og 0 (nI (pm_ld ((pm_lw n + dys) / 365 + 1) ((pm_lw n + dys) % 365 + 1))).toInt64))))]) [0, 1, 2, 3, 5, 6, 7, 8, 4] rfl, hD.sub (ws' := [(h0, .inr (0, [.ref ac, .ref ay, .ref ap, .int (nI mk)])), (ac, .inl (cyI, 365, .inl (pz_ar ch))), (ay, .inl (cyI, 60, .inl (pz_ar fy))), (ap, .inl (cyI, 60, .inl (pz_ar fp))), (h1, .inr (1, [.int (nI 0), .int yv_1, .int mv_1, .int dv_1, .int (nI mk), .ref bc, .ref bf, .ref bg, .int (nI wr)])), (bc, .inl (cyI, 366, .inl (pz_ar rc))), (bf, .inl (cyI, 3001, .inl (pz_ar ff))), (bg, .inl (cyI, 3001, .inl (pz_ar gg))), (oa, .inl (cyL, 1, .inr (.inl (vp_updL og 0 (nI (pm_ld ((pm_lw n + dys) / 365 + 1) ((pm_lw n + dys) % 365 + 1))).toInt64))))]) [0, 1, 2, 3, 5, 6, 7, 8, 4] (by decide) rfl, hS, lv_sub hl [2, 3, 4, 5, 6] rfl⟩
set_option maxHeartbeats 4000000 in
set_option maxRecDepth 100000 in
theorem kw_termEnd_x3 {p : Program} {l : Launch} {e : Env} {s : State} {m : MethodId} {below : List Frame} {meth : Method} {c : Code} {Q : State → Prop} {D : va_G} {cyI cyL : ClassId} {b L : Nat} {xs : Nat → Int32} {h0 ac ay ap h1 bc bf bg oa : Nat} {i cells slots : Nat} {H : Heap} {locs : List Loc} {ls : Array Slot} {mk wr : Nat} {ch fy fp rc ff gg : Nat → Nat} {th yr mo da : Int32} {og : Nat → Int64} (hfl : l.stackTraces = false) (C0 : pl_C p s m c D cyI cyL b L xs) (hI : pz_inv mk wr ch fy fp rc ff gg) (hP : va_P D vwCl [(h0, .inr (0, [.ref ac, .ref ay, .ref ap, .int (nI mk)])), (ac, .inl (cyI, 365, .inl (pz_ar ch))), (ay, .inl (cyI, 60, .inl (pz_ar fy))), (ap, .inl (cyI, 60, .inl (pz_ar fp))), (h1, .inr (1, [.int th, .int yr, .int mo, .int da, .int (nI mk), .ref bc, .ref bf, .ref bg, .int (nI wr)])), (bc, .inl (cyI, 366, .inl (pz_ar rc))), (bf, .inl (cyI, 3001, .inl (pz_ar ff))), (bg, .inl (cyI, 3001, .inl (pz_ar gg))), (oa, .inl (cyL, 1, .inr (.inl og)))] H) (hD : va_D (fun q : Nat => s.heap.size ≤ q) [(h0, .inr (0, [.ref ac, .ref ay, .ref ap, .int (nI mk)])), (ac, .inl (cyI, 365, .inl (pz_ar ch))), (ay, .inl (cyI, 60, .inl (pz_ar fy))), (ap, .inl (cyI, 60, .inl (pz_ar fp))), (h1, .inr (1, [.int th, .int yr, .int mo, .int da, .int (nI mk), .ref bc, .ref bf, .ref bg, .int (nI wr)])), (bc, .inl (cyI, 366, .inl (pz_ar rc))), (bf, .inl (cyI, 3001, .inl (pz_ar ff))), (bg, .inl (cyI, 3001, .inl (pz_ar gg))), (oa, .inl (cyL, 1, .inr (.inl og)))]) (hS : va_S (fun q : Nat => s.heap.size ≤ q) s.heap H locs) (hl : lv_has ls 7 [(0, .ref b), (1, .ref h0), (2, .ref h1), (3, .ref oa), (4, .int (nI i))]) (hi : i + 6 ≤ L) (hr1 : cells + 1 ≤ 1049) (hs1 : slots + 6 ≤ 15155) (KK : ∀ (H : Heap) (locs : List Loc) (ls : Array Slot), pl_G s D cyI cyL b h0 ac ay ap h1 bc bf bg oa H locs ls i → W p l e room_1 s m #[Value.ref b] below meth c H locs (cells + 1) (slots + 6) Q (F0 m 2234 ls [])) {n dys : Nat} (hk1 : xs (i + 1) = (nI n)) (hk2 : xs (i + 2) = (nI dys)) (hy0 : n < 1095750) (hy1 : dys ≤ 100000) (hy2 : 1094999 < pm_lw n + dys) : W p l e room_1 s m #[Value.ref b] below meth c H locs cells slots Q (F0 m 1072 ls []) := by
  obtain ⟨hx, hb, hml, hown, hts, hX, hbl, hK, hth, hnc, hL⟩ := C0
  have hA : ∀ q : Nat, s.heap.size ≤ q → (fun q : Nat => s.heap.size ≤ q) q := fun _ h => h
  have f0 : cells + 0 ≤ room_1.cells ∧ slots + 0 ≤ room_1.slots := ⟨Nat.le_trans (Nat.le_succ cells) hr1, Nat.le_trans (Nat.le_add_right slots 6) hs1⟩
  have f1 : cells + 1 ≤ room_1.cells ∧ slots + 6 ≤ room_1.slots := ⟨hr1, hs1⟩
  have f2 : (cells + 1) + 0 ≤ room_1.cells ∧ (slots + 6) + 0 ≤ room_1.slots := f1
  refine lv_aload_n hx hb dL_law_1072 rfl (lv_at hl 1 rfl) ?_
  refine lv_aload_n hx hb dL_law_1073 rfl (lv_at hl 0 rfl) ?_
  refine lv_iload hx hb dL_law_1074 (lv_at hl 4 rfl) ?_
  refine lv_iconst (v := nI 1) hx hb dL_law_1076 (by decide) ?_
  refine pn_iadd hx hb dL_law_1077 ?_
  refine pn_sld hx hb hX hbl hS (by omega) hL hk1 dL_law_1078 ?_
  refine lv_aload_n hx hb dL_law_1079 rfl (lv_at hl 0 rfl) ?_
  refine lv_iload hx hb dL_law_1080 (lv_at hl 4 rfl) ?_
  refine lv_iconst (v := nI 2) hx hb dL_law_1082 (by decide) ?_
  refine pn_iadd hx hb dL_law_1083 ?_
  refine pn_sld hx hb hX hbl hS (by omega) hL hk2 dL_law_1084 ?_
  refine lv_aload_n hx hb dL_law_1085 rfl (lv_at hl 3 rfl) ?_
  refine pz_SRX (rest := []) ⟨hx, hb, hml, hown, hts⟩ (k_L_termEnd_x3 l hfl D h0 ac ay ap oa cyI cyL ([]) mk ch fy fp og n dys (by omega) (by omega) (by omega)) (vx_cwSW 4 hts gL_law_L_termEnd rfl rfl rfl (by decide +kernel) ⟨Nat.le_of_ble_eq_true rfl, Nat.le_of_ble_eq_true rfl⟩) hK hP (hD.weaken (fun _ _ _ _ => trivial)) hS hth hnc [0, 1, 2, 3, 8] rfl rfl rfl rfl hl.1 rfl (lv_room (Nat.le_of_ble_eq_true rfl)) dL_law_1086 f1 (fun r H locs hr hP hS => ?_)
  obtain rfl : r = nI 3 := hr
  refine lv_istore (lv' := [(5, .int (nI 3)), (0, .ref b), (1, .ref h0), (2, .ref h1), (3, .ref oa), (4, .int (nI i))]) hx hb dL_law_1089 hl (by decide) rfl (fun ls hl => ?_)
  refine lv_aload_n hx hb dL_law_1091 rfl (lv_at hl 3 rfl) ?_
  refine lv_aload_n hx hb dL_law_1092 rfl (lv_at hl 1 rfl) ?_
  refine lv_iload hx hb dL_law_1093 (lv_at hl 5 rfl) ?_
  refine lv_iconst (v := nI 1) hx hb dL_law_1095 (by decide) ?_
  refine pn_iadd hx hb dL_law_1096 ?_
  refine pn_sld hx hb hX hbl hS (by omega) hL hk1 dL_law_1097 ?_
  refine lv_aload_n hx hb dL_law_1098 rfl (lv_at hl 1 rfl) ?_
  refine lv_iload hx hb dL_law_1099 (lv_at hl 5 rfl) ?_
  refine lv_iconst (v := nI 2) hx hb dL_law_1101 (by decide) ?_
  refine pn_iadd hx hb dL_law_1102 ?_
  refine pn_sld hx hb hX hbl hS (by omega) hL hk2 dL_law_1103 ?_
  refine pz_VI (rest := []) (wr := [(h0, .inr (0, [.ref ac, .ref ay, .ref ap, .int (nI mk)])), (ac, .inl (cyI, 365, .inl (pz_ar ch))), (ay, .inl (cyI, 60, .inl (pz_ar fy))), (ap, .inl (cyI, 60, .inl (pz_ar fp))), (oa, .inl (cyL, 1, .inr (.inl og)))]) ⟨hx, hb, hml, hown, hts⟩ (k_X1_termEnd_x3 l D h1 bc bf bg cyI ([(cyL, .long)]) th yr mo da mk wr rc ff gg n dys (by omega) (by omega) (by omega)) (cwV 2 hts gL_law_X1_termEnd rfl rfl rfl (by decide +kernel) ⟨Nat.le_of_ble_eq_true rfl, Nat.le_of_ble_eq_true rfl⟩) hK hP hD hS hA [4, 5, 6, 7] [0, 1, 2, 3, 8] rfl rfl rfl rfl rfl (by decide) 4 1 rfl rfl rfl hl.1 rfl (lv_room (Nat.le_of_ble_eq_true rfl)) dL_law_1104 f2 (fun r u H locs hr hP hD hS => ?_)
  obtain ⟨yv_1, mv_1, dv_1⟩ := u
  have hP : va_P D vwCl [(h0, .inr (0, [.ref ac, .ref ay, .ref ap, .int (nI mk)])), (ac, .inl (cyI, 365, .inl (pz_ar ch))), (ay, .inl (cyI, 60, .inl (pz_ar fy))), (ap, .inl (cyI, 60, .inl (pz_ar fp))), (oa, .inl (cyL, 1, .inr (.inl og))), (h1, .inr (1, [.int (nI 3), .int yv_1, .int mv_1, .int dv_1, .int (nI mk), .ref bc, .ref bf, .ref bg, .int (nI wr)])), (bc, .inl (cyI, 366, .inl (pz_ar rc))), (bf, .inl (cyI, 3001, .inl (pz_ar ff))), (bg, .inl (cyI, 3001, .inl (pz_ar gg)))] H := hP
  have hD : va_D (fun q : Nat => s.heap.size ≤ q) [(h0, .inr (0, [.ref ac, .ref ay, .ref ap, .int (nI mk)])), (ac, .inl (cyI, 365, .inl (pz_ar ch))), (ay, .inl (cyI, 60, .inl (pz_ar fy))), (ap, .inl (cyI, 60, .inl (pz_ar fp))), (oa, .inl (cyL, 1, .inr (.inl og))), (h1, .inr (1, [.int (nI 3), .int yv_1, .int mv_1, .int dv_1, .int (nI mk), .ref bc, .ref bf, .ref bg, .int (nI wr)])), (bc, .inl (cyI, 366, .inl (pz_ar rc))), (bf, .inl (cyI, 3001, .inl (pz_ar ff))), (bg, .inl (cyI, 3001, .inl (pz_ar gg)))] := hD
  obtain rfl : r = (nI 0) := hr
  refine lv_istore (lv' := [(6, .int (nI 0)), (5, .int (nI 3)), (0, .ref b), (1, .ref h0), (2, .ref h1), (3, .ref oa), (4, .int (nI i))]) hx hb dL_law_1107 hl (by decide) rfl (fun ls hl => ?_)
  refine lv_aload_n hx hb dL_law_1109 rfl (lv_at hl 4 rfl) ?_
  refine pz_VR (rest := []) ⟨hx, hb, hml, hown, hts⟩ (k_X1_thrown l D h1 bc bf bg cyI ([(cyL, .long)]) (nI 3) yv_1 mv_1 dv_1 mk wr rc ff gg  ) (cwV 0 hts gL_law_X1_thrown rfl rfl rfl (by decide +kernel) ⟨Nat.le_of_ble_eq_true rfl, Nat.le_of_ble_eq_true rfl⟩) hK hP (hD.weaken (fun _ _ _ _ => trivial)) hS hA [5, 6, 7, 8] rfl rfl rfl 5 1 rfl rfl rfl hl.1 rfl (lv_room (Nat.le_of_ble_eq_true rfl)) dL_law_1110 f2 (fun r H locs hr hP hS => ?_)
  obtain rfl : r = (nI 3) := hr
  refine lv_iload hx hb dL_law_1113 (lv_at hl 1 rfl) ?_
  refine pn_icmp_eq (tgt := 1120) hx hb (by omega) (by omega) dL_law_1115 (by decide) (fun _ => ?_) (fun c_3 => absurd c_3 (by decide))
  refine lv_iload hx hb dL_law_1120 (lv_at hl 1 rfl) ?_
  refine pn_if_ne (tgt := 1137) hx hb (by omega) dL_law_1122 (by decide) (fun _ => ?_) (fun c_4 => absurd c_4 (by decide))
  refine lv_goto (tgt := 2234) hx hb dL_law_1137 (by decide) ?_
  exact KK H locs ls ⟨mk, wr, ch, fy, fp, rc, ff, gg, (nI 3), yv_1, mv_1, dv_1, og, (by exact hI), hP.sub (ws' := [(h0, .inr (0, [.ref ac, .ref ay, .ref ap, .int (nI mk)])), (ac, .inl (cyI, 365, .inl (pz_ar ch))), (ay, .inl (cyI, 60, .inl (pz_ar fy))), (ap, .inl (cyI, 60, .inl (pz_ar fp))), (h1, .inr (1, [.int (nI 3), .int yv_1, .int mv_1, .int dv_1, .int (nI mk), .ref bc, .ref bf, .ref bg, .int (nI wr)])), (bc, .inl (cyI, 366, .inl (pz_ar rc))), (bf, .inl (cyI, 3001, .inl (pz_ar ff))), (bg, .inl (cyI, 3001, .inl (pz_ar gg))), (oa, .inl (cyL, 1, .inr (.inl og)))]) [0, 1, 2, 3, 5, 6, 7, 8, 4] rfl, hD.sub (ws' := [(h0, .inr (0, [.ref ac, .ref ay, .ref ap, .int (nI mk)])), (ac, .inl (cyI, 365, .inl (pz_ar ch))), (ay, .inl (cyI, 60, .inl (pz_ar fy))), (ap, .inl (cyI, 60, .inl (pz_ar fp))), (h1, .inr (1, [.int (nI 3), .int yv_1, .int mv_1, .int dv_1, .int (nI mk), .ref bc, .ref bf, .ref bg, .int (nI wr)])), (bc, .inl (cyI, 366, .inl (pz_ar rc))), (bf, .inl (cyI, 3001, .inl (pz_ar ff))), (bg, .inl (cyI, 3001, .inl (pz_ar gg))), (oa, .inl (cyL, 1, .inr (.inl og)))]) [0, 1, 2, 3, 5, 6, 7, 8, 4] (by decide) rfl, hS, lv_sub hl [2, 3, 4, 5, 6] rfl⟩
set_option maxHeartbeats 4000000 in
set_option maxRecDepth 100000 in
theorem kw_termEnd_x {p : Program} {l : Launch} {e : Env} {s : State} {m : MethodId} {below : List Frame} {meth : Method} {c : Code} {Q : State → Prop} {D : va_G} {cyI cyL : ClassId} {b L : Nat} {xs : Nat → Int32} {h0 ac ay ap h1 bc bf bg oa : Nat} {i cells slots : Nat} {H : Heap} {locs : List Loc} {ls : Array Slot} {mk wr : Nat} {ch fy fp rc ff gg : Nat → Nat} {th yr mo da : Int32} {og : Nat → Int64} (hfl : l.stackTraces = false) (C0 : pl_C p s m c D cyI cyL b L xs) (hI : pz_inv mk wr ch fy fp rc ff gg) (hP : va_P D vwCl [(h0, .inr (0, [.ref ac, .ref ay, .ref ap, .int (nI mk)])), (ac, .inl (cyI, 365, .inl (pz_ar ch))), (ay, .inl (cyI, 60, .inl (pz_ar fy))), (ap, .inl (cyI, 60, .inl (pz_ar fp))), (h1, .inr (1, [.int th, .int yr, .int mo, .int da, .int (nI mk), .ref bc, .ref bf, .ref bg, .int (nI wr)])), (bc, .inl (cyI, 366, .inl (pz_ar rc))), (bf, .inl (cyI, 3001, .inl (pz_ar ff))), (bg, .inl (cyI, 3001, .inl (pz_ar gg))), (oa, .inl (cyL, 1, .inr (.inl og)))] H) (hD : va_D (fun q : Nat => s.heap.size ≤ q) [(h0, .inr (0, [.ref ac, .ref ay, .ref ap, .int (nI mk)])), (ac, .inl (cyI, 365, .inl (pz_ar ch))), (ay, .inl (cyI, 60, .inl (pz_ar fy))), (ap, .inl (cyI, 60, .inl (pz_ar fp))), (h1, .inr (1, [.int th, .int yr, .int mo, .int da, .int (nI mk), .ref bc, .ref bf, .ref bg, .int (nI wr)])), (bc, .inl (cyI, 366, .inl (pz_ar rc))), (bf, .inl (cyI, 3001, .inl (pz_ar ff))), (bg, .inl (cyI, 3001, .inl (pz_ar gg))), (oa, .inl (cyL, 1, .inr (.inl og)))]) (hS : va_S (fun q : Nat => s.heap.size ≤ q) s.heap H locs) (hl : lv_has ls 7 [(0, .ref b), (1, .ref h0), (2, .ref h1), (3, .ref oa), (4, .int (nI i))]) (hi : i + 6 ≤ L) (hr1 : cells + 1 ≤ 1049) (hs1 : slots + 6 ≤ 15155) (KK : ∀ (H : Heap) (locs : List Loc) (ls : Array Slot), pl_G s D cyI cyL b h0 ac ay ap h1 bc bf bg oa H locs ls i → W p l e room_1 s m #[Value.ref b] below meth c H locs (cells + 1) (slots + 6) Q (F0 m 2234 ls [])) {x1 x2 : Int32} (hk1 : xs (i + 1) = x1) (hk2 : xs (i + 2) = x2) (hy0 : x1.toInt < 0 ∨ 1095749 < x1.toInt) : W p l e room_1 s m #[Value.ref b] below meth c H locs cells slots Q (F0 m 1072 ls []) := by
  obtain ⟨hx, hb, hml, hown, hts, hX, hbl, hK, hth, hnc, hL⟩ := C0
  have hA : ∀ q : Nat, s.heap.size ≤ q → (fun q : Nat => s.heap.size ≤ q) q := fun _ h => h
  have f0 : cells + 0 ≤ room_1.cells ∧ slots + 0 ≤ room_1.slots := ⟨Nat.le_trans (Nat.le_succ cells) hr1, Nat.le_trans (Nat.le_add_right slots 6) hs1⟩
  have f1 : cells + 1 ≤ room_1.cells ∧ slots + 6 ≤ room_1.slots := ⟨hr1, hs1⟩
  have f2 : (cells + 1) + 0 ≤ room_1.cells ∧ (slots + 6) + 0 ≤ room_1.slots := f1
  refine lv_aload_n hx hb dL_law_1072 rfl (lv_at hl 1 rfl) ?_
  refine lv_aload_n hx hb dL_law_1073 rfl (lv_at hl 0 rfl) ?_
  refine lv_iload hx hb dL_law_1074 (lv_at hl 4 rfl) ?_
  refine lv_iconst (v := nI 1) hx hb dL_law_1076 (by decide) ?_
  refine pn_iadd hx hb dL_law_1077 ?_
  refine pn_sld hx hb hX hbl hS (by omega) hL hk1 dL_law_1078 ?_
  refine lv_aload_n hx hb dL_law_1079 rfl (lv_at hl 0 rfl) ?_
  refine lv_iload hx hb dL_law_1080 (lv_at hl 4 rfl) ?_
  refine lv_iconst (v := nI 2) hx hb dL_law_1082 (by decide) ?_
  refine pn_iadd hx hb dL_law_1083 ?_
  refine pn_sld hx hb hX hbl hS (by omega) hL hk2 dL_law_1084 ?_
  refine lv_aload_n hx hb dL_law_1085 rfl (lv_at hl 3 rfl) ?_
  refine pz_SRX (rest := []) ⟨hx, hb, hml, hown, hts⟩ (k_L_termEnd_x l hfl D h0 ac ay ap oa cyI cyL ([]) mk ch fy fp og x1 x2 (by exact hy0)) (vx_cwSW 4 hts gL_law_L_termEnd rfl rfl rfl (by decide +kernel) ⟨Nat.le_of_ble_eq_true rfl, Nat.le_of_ble_eq_true rfl⟩) hK hP (hD.weaken (fun _ _ _ _ => trivial)) hS hth hnc [0, 1, 2, 3, 8] rfl rfl rfl rfl hl.1 rfl (lv_room (Nat.le_of_ble_eq_true rfl)) dL_law_1086 f1 (fun r H locs hr hP hS => ?_)
  obtain rfl : r = nI 1 := hr
  refine lv_istore (lv' := [(5, .int (nI 1)), (0, .ref b), (1, .ref h0), (2, .ref h1), (3, .ref oa), (4, .int (nI i))]) hx hb dL_law_1089 hl (by decide) rfl (fun ls hl => ?_)
  refine lv_aload_n hx hb dL_law_1091 rfl (lv_at hl 3 rfl) ?_
  refine lv_aload_n hx hb dL_law_1092 rfl (lv_at hl 1 rfl) ?_
  refine lv_iload hx hb dL_law_1093 (lv_at hl 5 rfl) ?_
  refine lv_iconst (v := nI 1) hx hb dL_law_1095 (by decide) ?_
  refine pn_iadd hx hb dL_law_1096 ?_
  refine pn_sld hx hb hX hbl hS (by omega) hL hk1 dL_law_1097 ?_
  refine lv_aload_n hx hb dL_law_1098 rfl (lv_at hl 1 rfl) ?_
  refine lv_iload hx hb dL_law_1099 (lv_at hl 5 rfl) ?_
  refine lv_iconst (v := nI 2) hx hb dL_law_1101 (by decide) ?_
  refine pn_iadd hx hb dL_law_1102 ?_
  refine pn_sld hx hb hX hbl hS (by omega) hL hk2 dL_law_1103 ?_
  refine pz_VI (rest := []) (wr := [(h0, .inr (0, [.ref ac, .ref ay, .ref ap, .int (nI mk)])), (ac, .inl (cyI, 365, .inl (pz_ar ch))), (ay, .inl (cyI, 60, .inl (pz_ar fy))), (ap, .inl (cyI, 60, .inl (pz_ar fp))), (oa, .inl (cyL, 1, .inr (.inl og)))]) ⟨hx, hb, hml, hown, hts⟩ (k_X1_termEnd_x l D h1 bc bf bg cyI ([(cyL, .long)]) th yr mo da mk wr rc ff gg x1 x2 (by exact hy0)) (cwV 2 hts gL_law_X1_termEnd rfl rfl rfl (by decide +kernel) ⟨Nat.le_of_ble_eq_true rfl, Nat.le_of_ble_eq_true rfl⟩) hK hP hD hS hA [4, 5, 6, 7] [0, 1, 2, 3, 8] rfl rfl rfl rfl rfl (by decide) 4 1 rfl rfl rfl hl.1 rfl (lv_room (Nat.le_of_ble_eq_true rfl)) dL_law_1104 f2 (fun r u H locs hr hP hD hS => ?_)
  obtain ⟨yv_1, mv_1, dv_1⟩ := u
  have hP : va_P D vwCl [(h0, .inr (0, [.ref ac, .ref ay, .ref ap, .int (nI mk)])), (ac, .inl (cyI, 365, .inl (pz_ar ch))), (ay, .inl (cyI, 60, .inl (pz_ar fy))), (ap, .inl (cyI, 60, .inl (pz_ar fp))), (oa, .inl (cyL, 1, .inr (.inl og))), (h1, .inr (1, [.int (nI 1), .int yv_1, .int mv_1, .int dv_1, .int (nI mk), .ref bc, .ref bf, .ref bg, .int (nI wr)])), (bc, .inl (cyI, 366, .inl (pz_ar rc))), (bf, .inl (cyI, 3001, .inl (pz_ar ff))), (bg, .inl (cyI, 3001, .inl (pz_ar gg)))] H := hP
  have hD : va_D (fun q : Nat => s.heap.size ≤ q) [(h0, .inr (0, [.ref ac, .ref ay, .ref ap, .int (nI mk)])), (ac, .inl (cyI, 365, .inl (pz_ar ch))), (ay, .inl (cyI, 60, .inl (pz_ar fy))), (ap, .inl (cyI, 60, .inl (pz_ar fp))), (oa, .inl (cyL, 1, .inr (.inl og))), (h1, .inr (1, [.int (nI 1), .int yv_1, .int mv_1, .int dv_1, .int (nI mk), .ref bc, .ref bf, .ref bg, .int (nI wr)])), (bc, .inl (cyI, 366, .inl (pz_ar rc))), (bf, .inl (cyI, 3001, .inl (pz_ar ff))), (bg, .inl (cyI, 3001, .inl (pz_ar gg)))] := hD
  obtain rfl : r = (nI 0) := hr
  refine lv_istore (lv' := [(6, .int (nI 0)), (5, .int (nI 1)), (0, .ref b), (1, .ref h0), (2, .ref h1), (3, .ref oa), (4, .int (nI i))]) hx hb dL_law_1107 hl (by decide) rfl (fun ls hl => ?_)
  refine lv_aload_n hx hb dL_law_1109 rfl (lv_at hl 4 rfl) ?_
  refine pz_VR (rest := []) ⟨hx, hb, hml, hown, hts⟩ (k_X1_thrown l D h1 bc bf bg cyI ([(cyL, .long)]) (nI 1) yv_1 mv_1 dv_1 mk wr rc ff gg  ) (cwV 0 hts gL_law_X1_thrown rfl rfl rfl (by decide +kernel) ⟨Nat.le_of_ble_eq_true rfl, Nat.le_of_ble_eq_true rfl⟩) hK hP (hD.weaken (fun _ _ _ _ => trivial)) hS hA [5, 6, 7, 8] rfl rfl rfl 5 1 rfl rfl rfl hl.1 rfl (lv_room (Nat.le_of_ble_eq_true rfl)) dL_law_1110 f2 (fun r H locs hr hP hS => ?_)
  obtain rfl : r = (nI 1) := hr
  refine lv_iload hx hb dL_law_1113 (lv_at hl 1 rfl) ?_
  refine pn_icmp_eq (tgt := 1120) hx hb (by omega) (by omega) dL_law_1115 (by decide) (fun _ => ?_) (fun c_3 => absurd c_3 (by decide))
  refine lv_iload hx hb dL_law_1120 (lv_at hl 1 rfl) ?_
  refine pn_if_ne (tgt := 1137) hx hb (by omega) dL_law_1122 (by decide) (fun _ => ?_) (fun c_4 => absurd c_4 (by decide))
  refine lv_goto (tgt := 2234) hx hb dL_law_1137 (by decide) ?_
  exact KK H locs ls ⟨mk, wr, ch, fy, fp, rc, ff, gg, (nI 1), yv_1, mv_1, dv_1, og, (by exact hI), hP.sub (ws' := [(h0, .inr (0, [.ref ac, .ref ay, .ref ap, .int (nI mk)])), (ac, .inl (cyI, 365, .inl (pz_ar ch))), (ay, .inl (cyI, 60, .inl (pz_ar fy))), (ap, .inl (cyI, 60, .inl (pz_ar fp))), (h1, .inr (1, [.int (nI 1), .int yv_1, .int mv_1, .int dv_1, .int (nI mk), .ref bc, .ref bf, .ref bg, .int (nI wr)])), (bc, .inl (cyI, 366, .inl (pz_ar rc))), (bf, .inl (cyI, 3001, .inl (pz_ar ff))), (bg, .inl (cyI, 3001, .inl (pz_ar gg))), (oa, .inl (cyL, 1, .inr (.inl og)))]) [0, 1, 2, 3, 5, 6, 7, 8, 4] rfl, hD.sub (ws' := [(h0, .inr (0, [.ref ac, .ref ay, .ref ap, .int (nI mk)])), (ac, .inl (cyI, 365, .inl (pz_ar ch))), (ay, .inl (cyI, 60, .inl (pz_ar fy))), (ap, .inl (cyI, 60, .inl (pz_ar fp))), (h1, .inr (1, [.int (nI 1), .int yv_1, .int mv_1, .int dv_1, .int (nI mk), .ref bc, .ref bf, .ref bg, .int (nI wr)])), (bc, .inl (cyI, 366, .inl (pz_ar rc))), (bf, .inl (cyI, 3001, .inl (pz_ar ff))), (bg, .inl (cyI, 3001, .inl (pz_ar gg))), (oa, .inl (cyL, 1, .inr (.inl og)))]) [0, 1, 2, 3, 5, 6, 7, 8, 4] (by decide) rfl, hS, lv_sub hl [2, 3, 4, 5, 6] rfl⟩
set_option maxHeartbeats 4000000 in
set_option maxRecDepth 100000 in
theorem kw_termEnd_x2 {p : Program} {l : Launch} {e : Env} {s : State} {m : MethodId} {below : List Frame} {meth : Method} {c : Code} {Q : State → Prop} {D : va_G} {cyI cyL : ClassId} {b L : Nat} {xs : Nat → Int32} {h0 ac ay ap h1 bc bf bg oa : Nat} {i cells slots : Nat} {H : Heap} {locs : List Loc} {ls : Array Slot} {mk wr : Nat} {ch fy fp rc ff gg : Nat → Nat} {th yr mo da : Int32} {og : Nat → Int64} (hfl : l.stackTraces = false) (C0 : pl_C p s m c D cyI cyL b L xs) (hI : pz_inv mk wr ch fy fp rc ff gg) (hP : va_P D vwCl [(h0, .inr (0, [.ref ac, .ref ay, .ref ap, .int (nI mk)])), (ac, .inl (cyI, 365, .inl (pz_ar ch))), (ay, .inl (cyI, 60, .inl (pz_ar fy))), (ap, .inl (cyI, 60, .inl (pz_ar fp))), (h1, .inr (1, [.int th, .int yr, .int mo, .int da, .int (nI mk), .ref bc, .ref bf, .ref bg, .int (nI wr)])), (bc, .inl (cyI, 366, .inl (pz_ar rc))), (bf, .inl (cyI, 3001, .inl (pz_ar ff))), (bg, .inl (cyI, 3001, .inl (pz_ar gg))), (oa, .inl (cyL, 1, .inr (.inl og)))] H) (hD : va_D (fun q : Nat => s.heap.size ≤ q) [(h0, .inr (0, [.ref ac, .ref ay, .ref ap, .int (nI mk)])), (ac, .inl (cyI, 365, .inl (pz_ar ch))), (ay, .inl (cyI, 60, .inl (pz_ar fy))), (ap, .inl (cyI, 60, .inl (pz_ar fp))), (h1, .inr (1, [.int th, .int yr, .int mo, .int da, .int (nI mk), .ref bc, .ref bf, .ref bg, .int (nI wr)])), (bc, .inl (cyI, 366, .inl (pz_ar rc))), (bf, .inl (cyI, 3001, .inl (pz_ar ff))), (bg, .inl (cyI, 3001, .inl (pz_ar gg))), (oa, .inl (cyL, 1, .inr (.inl og)))]) (hS : va_S (fun q : Nat => s.heap.size ≤ q) s.heap H locs) (hl : lv_has ls 7 [(0, .ref b), (1, .ref h0), (2, .ref h1), (3, .ref oa), (4, .int (nI i))]) (hi : i + 6 ≤ L) (hr1 : cells + 1 ≤ 1049) (hs1 : slots + 6 ≤ 15155) (KK : ∀ (H : Heap) (locs : List Loc) (ls : Array Slot), pl_G s D cyI cyL b h0 ac ay ap h1 bc bf bg oa H locs ls i → W p l e room_1 s m #[Value.ref b] below meth c H locs (cells + 1) (slots + 6) Q (F0 m 2234 ls [])) {n : Nat} {x2 : Int32} (hk1 : xs (i + 1) = (nI n)) (hk2 : xs (i + 2) = x2) (hy0 : n < 1095750) (hy1 : x2.toInt < 0 ∨ 100000 < x2.toInt) : W p l e room_1 s m #[Value.ref b] below meth c H locs cells slots Q (F0 m 1072 ls []) := by
  obtain ⟨hx, hb, hml, hown, hts, hX, hbl, hK, hth, hnc, hL⟩ := C0
  have hA : ∀ q : Nat, s.heap.size ≤ q → (fun q : Nat => s.heap.size ≤ q) q := fun _ h => h
  have f0 : cells + 0 ≤ room_1.cells ∧ slots + 0 ≤ room_1.slots := ⟨Nat.le_trans (Nat.le_succ cells) hr1, Nat.le_trans (Nat.le_add_right slots 6) hs1⟩
  have f1 : cells + 1 ≤ room_1.cells ∧ slots + 6 ≤ room_1.slots := ⟨hr1, hs1⟩
  have f2 : (cells + 1) + 0 ≤ room_1.cells ∧ (slots + 6) + 0 ≤ room_1.slots := f1
  refine lv_aload_n hx hb dL_law_1072 rfl (lv_at hl 1 rfl) ?_
  refine lv_aload_n hx hb dL_law_1073 rfl (lv_at hl 0 rfl) ?_
  refine lv_iload hx hb dL_law_1074 (lv_at hl 4 rfl) ?_
  refine lv_iconst (v := nI 1) hx hb dL_law_1076 (by decide) ?_
  refine pn_iadd hx hb dL_law_1077 ?_
  refine pn_sld hx hb hX hbl hS (by omega) hL hk1 dL_law_1078 ?_
  refine lv_aload_n hx hb dL_law_1079 rfl (lv_at hl 0 rfl) ?_
  refine lv_iload hx hb dL_law_1080 (lv_at hl 4 rfl) ?_
  refine lv_iconst (v := nI 2) hx hb dL_law_1082 (by decide) ?_
  refine pn_iadd hx hb dL_law_1083 ?_
  refine pn_sld hx hb hX hbl hS (by omega) hL hk2 dL_law_1084 ?_
  refine lv_aload_n hx hb dL_law_1085 rfl (lv_at hl 3 rfl) ?_
  refine pz_SRX (rest := []) ⟨hx, hb, hml, hown, hts⟩ (k_L_termEnd_x2 l hfl D h0 ac ay ap oa cyI cyL ([]) mk ch fy fp og n x2 (by omega) (by exact hy1)) (vx_cwSW 4 hts gL_law_L_termEnd rfl rfl rfl (by decide +kernel) ⟨Nat.le_of_ble_eq_true rfl, Nat.le_of_ble_eq_true rfl⟩) hK hP (hD.weaken (fun _ _ _ _ => trivial)) hS hth hnc [0, 1, 2, 3, 8] rfl rfl rfl rfl hl.1 rfl (lv_room (Nat.le_of_ble_eq_true rfl)) dL_law_1086 f1 (fun r H locs hr hP hS => ?_)
  obtain rfl : r = nI 2 := hr
  refine lv_istore (lv' := [(5, .int (nI 2)), (0, .ref b), (1, .ref h0), (2, .ref h1), (3, .ref oa), (4, .int (nI i))]) hx hb dL_law_1089 hl (by decide) rfl (fun ls hl => ?_)
  refine lv_aload_n hx hb dL_law_1091 rfl (lv_at hl 3 rfl) ?_
  refine lv_aload_n hx hb dL_law_1092 rfl (lv_at hl 1 rfl) ?_
  refine lv_iload hx hb dL_law_1093 (lv_at hl 5 rfl) ?_
  refine lv_iconst (v := nI 1) hx hb dL_law_1095 (by decide) ?_
  refine pn_iadd hx hb dL_law_1096 ?_
  refine pn_sld hx hb hX hbl hS (by omega) hL hk1 dL_law_1097 ?_
  refine lv_aload_n hx hb dL_law_1098 rfl (lv_at hl 1 rfl) ?_
  refine lv_iload hx hb dL_law_1099 (lv_at hl 5 rfl) ?_
  refine lv_iconst (v := nI 2) hx hb dL_law_1101 (by decide) ?_
  refine pn_iadd hx hb dL_law_1102 ?_
  refine pn_sld hx hb hX hbl hS (by omega) hL hk2 dL_law_1103 ?_
  refine pz_VI (rest := []) (wr := [(h0, .inr (0, [.ref ac, .ref ay, .ref ap, .int (nI mk)])), (ac, .inl (cyI, 365, .inl (pz_ar ch))), (ay, .inl (cyI, 60, .inl (pz_ar fy))), (ap, .inl (cyI, 60, .inl (pz_ar fp))), (oa, .inl (cyL, 1, .inr (.inl og)))]) ⟨hx, hb, hml, hown, hts⟩ (k_X1_termEnd_x2 l D h1 bc bf bg cyI ([(cyL, .long)]) th yr mo da mk wr rc ff gg n x2 (by omega) (by exact hy1)) (cwV 2 hts gL_law_X1_termEnd rfl rfl rfl (by decide +kernel) ⟨Nat.le_of_ble_eq_true rfl, Nat.le_of_ble_eq_true rfl⟩) hK hP hD hS hA [4, 5, 6, 7] [0, 1, 2, 3, 8] rfl rfl rfl rfl rfl (by decide) 4 1 rfl rfl rfl hl.1 rfl (lv_room (Nat.le_of_ble_eq_true rfl)) dL_law_1104 f2 (fun r u H locs hr hP hD hS => ?_)
  obtain ⟨yv_1, mv_1, dv_1⟩ := u
  have hP : va_P D vwCl [(h0, .inr (0, [.ref ac, .ref ay, .ref ap, .int (nI mk)])), (ac, .inl (cyI, 365, .inl (pz_ar ch))), (ay, .inl (cyI, 60, .inl (pz_ar fy))), (ap, .inl (cyI, 60, .inl (pz_ar fp))), (oa, .inl (cyL, 1, .inr (.inl og))), (h1, .inr (1, [.int (nI 2), .int yv_1, .int mv_1, .int dv_1, .int (nI mk), .ref bc, .ref bf, .ref bg, .int (nI wr)])), (bc, .inl (cyI, 366, .inl (pz_ar rc))), (bf, .inl (cyI, 3001, .inl (pz_ar ff))), (bg, .inl (cyI, 3001, .inl (pz_ar gg)))] H := hP
  have hD : va_D (fun q : Nat => s.heap.size ≤ q) [(h0, .inr (0, [.ref ac, .ref ay, .ref ap, .int (nI mk)])), (ac, .inl (cyI, 365, .inl (pz_ar ch))), (ay, .inl (cyI, 60, .inl (pz_ar fy))), (ap, .inl (cyI, 60, .inl (pz_ar fp))), (oa, .inl (cyL, 1, .inr (.inl og))), (h1, .inr (1, [.int (nI 2), .int yv_1, .int mv_1, .int dv_1, .int (nI mk), .ref bc, .ref bf, .ref bg, .int (nI wr)])), (bc, .inl (cyI, 366, .inl (pz_ar rc))), (bf, .inl (cyI, 3001, .inl (pz_ar ff))), (bg, .inl (cyI, 3001, .inl (pz_ar gg)))] := hD
  obtain rfl : r = (nI 0) := hr
  refine lv_istore (lv' := [(6, .int (nI 0)), (5, .int (nI 2)), (0, .ref b), (1, .ref h0), (2, .ref h1), (3, .ref oa), (4, .int (nI i))]) hx hb dL_law_1107 hl (by decide) rfl (fun ls hl => ?_)
  refine lv_aload_n hx hb dL_law_1109 rfl (lv_at hl 4 rfl) ?_
  refine pz_VR (rest := []) ⟨hx, hb, hml, hown, hts⟩ (k_X1_thrown l D h1 bc bf bg cyI ([(cyL, .long)]) (nI 2) yv_1 mv_1 dv_1 mk wr rc ff gg  ) (cwV 0 hts gL_law_X1_thrown rfl rfl rfl (by decide +kernel) ⟨Nat.le_of_ble_eq_true rfl, Nat.le_of_ble_eq_true rfl⟩) hK hP (hD.weaken (fun _ _ _ _ => trivial)) hS hA [5, 6, 7, 8] rfl rfl rfl 5 1 rfl rfl rfl hl.1 rfl (lv_room (Nat.le_of_ble_eq_true rfl)) dL_law_1110 f2 (fun r H locs hr hP hS => ?_)
  obtain rfl : r = (nI 2) := hr
  refine lv_iload hx hb dL_law_1113 (lv_at hl 1 rfl) ?_
  refine pn_icmp_eq (tgt := 1120) hx hb (by omega) (by omega) dL_law_1115 (by decide) (fun _ => ?_) (fun c_3 => absurd c_3 (by decide))
  refine lv_iload hx hb dL_law_1120 (lv_at hl 1 rfl) ?_
  refine pn_if_ne (tgt := 1137) hx hb (by omega) dL_law_1122 (by decide) (fun _ => ?_) (fun c_4 => absurd c_4 (by decide))
  refine lv_goto (tgt := 2234) hx hb dL_law_1137 (by decide) ?_
  exact KK H locs ls ⟨mk, wr, ch, fy, fp, rc, ff, gg, (nI 2), yv_1, mv_1, dv_1, og, (by exact hI), hP.sub (ws' := [(h0, .inr (0, [.ref ac, .ref ay, .ref ap, .int (nI mk)])), (ac, .inl (cyI, 365, .inl (pz_ar ch))), (ay, .inl (cyI, 60, .inl (pz_ar fy))), (ap, .inl (cyI, 60, .inl (pz_ar fp))), (h1, .inr (1, [.int (nI 2), .int yv_1, .int mv_1, .int dv_1, .int (nI mk), .ref bc, .ref bf, .ref bg, .int (nI wr)])), (bc, .inl (cyI, 366, .inl (pz_ar rc))), (bf, .inl (cyI, 3001, .inl (pz_ar ff))), (bg, .inl (cyI, 3001, .inl (pz_ar gg))), (oa, .inl (cyL, 1, .inr (.inl og)))]) [0, 1, 2, 3, 5, 6, 7, 8, 4] rfl, hD.sub (ws' := [(h0, .inr (0, [.ref ac, .ref ay, .ref ap, .int (nI mk)])), (ac, .inl (cyI, 365, .inl (pz_ar ch))), (ay, .inl (cyI, 60, .inl (pz_ar fy))), (ap, .inl (cyI, 60, .inl (pz_ar fp))), (h1, .inr (1, [.int (nI 2), .int yv_1, .int mv_1, .int dv_1, .int (nI mk), .ref bc, .ref bf, .ref bg, .int (nI wr)])), (bc, .inl (cyI, 366, .inl (pz_ar rc))), (bf, .inl (cyI, 3001, .inl (pz_ar ff))), (bg, .inl (cyI, 3001, .inl (pz_ar gg))), (oa, .inl (cyL, 1, .inr (.inl og)))]) [0, 1, 2, 3, 5, 6, 7, 8, 4] (by decide) rfl, hS, lv_sub hl [2, 3, 4, 5, 6] rfl⟩
set_option maxHeartbeats 4000000 in
set_option maxRecDepth 100000 in
theorem kw_greatestCount_a {p : Program} {l : Launch} {e : Env} {s : State} {m : MethodId} {below : List Frame} {meth : Method} {c : Code} {Q : State → Prop} {D : va_G} {cyI cyL : ClassId} {b L : Nat} {xs : Nat → Int32} {h0 ac ay ap h1 bc bf bg oa : Nat} {i cells slots : Nat} {H : Heap} {locs : List Loc} {ls : Array Slot} {mk wr : Nat} {ch fy fp rc ff gg : Nat → Nat} {th yr mo da : Int32} {og : Nat → Int64} (hfl : l.stackTraces = false) (C0 : pl_C p s m c D cyI cyL b L xs) (hI : pz_inv mk wr ch fy fp rc ff gg) (hP : va_P D vwCl [(h0, .inr (0, [.ref ac, .ref ay, .ref ap, .int (nI mk)])), (ac, .inl (cyI, 365, .inl (pz_ar ch))), (ay, .inl (cyI, 60, .inl (pz_ar fy))), (ap, .inl (cyI, 60, .inl (pz_ar fp))), (h1, .inr (1, [.int th, .int yr, .int mo, .int da, .int (nI mk), .ref bc, .ref bf, .ref bg, .int (nI wr)])), (bc, .inl (cyI, 366, .inl (pz_ar rc))), (bf, .inl (cyI, 3001, .inl (pz_ar ff))), (bg, .inl (cyI, 3001, .inl (pz_ar gg))), (oa, .inl (cyL, 1, .inr (.inl og)))] H) (hD : va_D (fun q : Nat => s.heap.size ≤ q) [(h0, .inr (0, [.ref ac, .ref ay, .ref ap, .int (nI mk)])), (ac, .inl (cyI, 365, .inl (pz_ar ch))), (ay, .inl (cyI, 60, .inl (pz_ar fy))), (ap, .inl (cyI, 60, .inl (pz_ar fp))), (h1, .inr (1, [.int th, .int yr, .int mo, .int da, .int (nI mk), .ref bc, .ref bf, .ref bg, .int (nI wr)])), (bc, .inl (cyI, 366, .inl (pz_ar rc))), (bf, .inl (cyI, 3001, .inl (pz_ar ff))), (bg, .inl (cyI, 3001, .inl (pz_ar gg))), (oa, .inl (cyL, 1, .inr (.inl og)))]) (hS : va_S (fun q : Nat => s.heap.size ≤ q) s.heap H locs) (hl : lv_has ls 7 [(0, .ref b), (1, .ref h0), (2, .ref h1), (3, .ref oa), (4, .int (nI i))]) (hi : i + 6 ≤ L) (hr1 : cells + 1 ≤ 1049) (hs1 : slots + 6 ≤ 15155) (KK : ∀ (H : Heap) (locs : List Loc) (ls : Array Slot), pl_G s D cyI cyL b h0 ac ay ap h1 bc bf bg oa H locs ls i → W p l e room_1 s m #[Value.ref b] below meth c H locs (cells + 1) (slots + 6) Q (F0 m 2234 ls [])) {y mm a : Nat} (hk1 : xs (i + 1) = (nI y)) (hk2 : xs (i + 2) = (nI mm)) (hk3 : xs (i + 3) = (nI a)) (hy0 : 1 ≤ y) (hy1 : y ≤ 3000) (hy2 : 1 ≤ mm) (hy3 : mm ≤ 12) (hy4 : a ≤ 2) : W p l e room_1 s m #[Value.ref b] below meth c H locs cells slots Q (F0 m 936 ls []) := by
  obtain ⟨hx, hb, hml, hown, hts, hX, hbl, hK, hth, hnc, hL⟩ := C0
  have hA : ∀ q : Nat, s.heap.size ≤ q → (fun q : Nat => s.heap.size ≤ q) q := fun _ h => h
  have f0 : cells + 0 ≤ room_1.cells ∧ slots + 0 ≤ room_1.slots := ⟨Nat.le_trans (Nat.le_succ cells) hr1, Nat.le_trans (Nat.le_add_right slots 6) hs1⟩
  have f1 : cells + 1 ≤ room_1.cells ∧ slots + 6 ≤ room_1.slots := ⟨hr1, hs1⟩
  have f2 : (cells + 1) + 0 ≤ room_1.cells ∧ (slots + 6) + 0 ≤ room_1.slots := f1
  have hgb := pm_gc_b mm a
  have hg := pm_fc_1 (bd := 0) hy0 hy2 hy3 hy4 hgb.1 (Nat.le_refl _) (by decide) (fun h9 => absurd h9 (by decide))
  refine lv_aload_n hx hb dL_law_936 rfl (lv_at hl 1 rfl) ?_
  refine lv_aload_n hx hb dL_law_937 rfl (lv_at hl 0 rfl) ?_
  refine lv_iload hx hb dL_law_938 (lv_at hl 4 rfl) ?_
  refine lv_iconst (v := nI 1) hx hb dL_law_940 (by decide) ?_
  refine pn_iadd hx hb dL_law_941 ?_
  refine pn_sld hx hb hX hbl hS (by omega) hL hk1 dL_law_942 ?_
  refine lv_aload_n hx hb dL_law_943 rfl (lv_at hl 0 rfl) ?_
  refine lv_iload hx hb dL_law_944 (lv_at hl 4 rfl) ?_
  refine lv_iconst (v := nI 2) hx hb dL_law_946 (by decide) ?_
  refine pn_iadd hx hb dL_law_947 ?_
  refine pn_sld hx hb hX hbl hS (by omega) hL hk2 dL_law_948 ?_
  refine lv_aload_n hx hb dL_law_949 rfl (lv_at hl 0 rfl) ?_
  refine lv_iload hx hb dL_law_950 (lv_at hl 4 rfl) ?_
  refine lv_iconst (v := nI 3) hx hb dL_law_952 (by decide) ?_
  refine pn_iadd hx hb dL_law_953 ?_
  refine pn_sld hx hb hX hbl hS (by omega) hL hk3 dL_law_954 ?_
  refine lv_aload_n hx hb dL_law_955 rfl (lv_at hl 3 rfl) ?_
  refine pz_SIW (rest := []) (wr := [(h1, .inr (1, [.int th, .int yr, .int mo, .int da, .int (nI mk), .ref bc, .ref bf, .ref bg, .int (nI wr)])), (bc, .inl (cyI, 366, .inl (pz_ar rc))), (bf, .inl (cyI, 3001, .inl (pz_ar ff))), (bg, .inl (cyI, 3001, .inl (pz_ar gg)))]) ⟨hx, hb, hml, hown, hts⟩ (k_L_greatestCount l D h0 ac ay ap oa cyI cyL ([]) mk ch fy fp og y mm a (by omega) (by omega) (by omega) (by omega) (by omega)) (vx_cwSW 5 hts gL_law_L_greatestCount rfl rfl rfl (by decide +kernel) ⟨Nat.le_of_ble_eq_true rfl, Nat.le_of_ble_eq_true rfl⟩) hK hP hD hS hA [0, 1, 2, 3, 8] [4, 5, 6, 7] rfl rfl rfl rfl rfl (by decide) rfl hl.1 rfl (lv_room (Nat.le_of_ble_eq_true rfl)) dL_law_956 f0 (fun r u H locs hr hP hD hS => ?_)
  obtain ⟨r0, u0⟩ : r = nI 0 ∧ u = nI (pm_gc mm a) := hr
  subst r0
  subst u0
  have hP : va_P D vwCl [(h1, .inr (1, [.int th, .int yr, .int mo, .int da, .int (nI mk), .ref bc, .ref bf, .ref bg, .int (nI wr)])), (bc, .inl (cyI, 366, .inl (pz_ar rc))), (bf, .inl (cyI, 3001, .inl (pz_ar ff))), (bg, .inl (cyI, 3001, .inl (pz_ar gg))), (h0, .inr (0, [.ref ac, .ref ay, .ref ap, .int (nI mk)])), (ac, .inl (cyI, 365, .inl (pz_ar ch))), (ay, .inl (cyI, 60, .inl (pz_ar fy))), (ap, .inl (cyI, 60, .inl (pz_ar fp))), (oa, .inl (cyL, 1, .inr (.inl (vp_updL og 0 (nI (pm_gc mm a)).toInt64))))] H := hP
  have hD : va_D (fun q : Nat => s.heap.size ≤ q) [(h1, .inr (1, [.int th, .int yr, .int mo, .int da, .int (nI mk), .ref bc, .ref bf, .ref bg, .int (nI wr)])), (bc, .inl (cyI, 366, .inl (pz_ar rc))), (bf, .inl (cyI, 3001, .inl (pz_ar ff))), (bg, .inl (cyI, 3001, .inl (pz_ar gg))), (h0, .inr (0, [.ref ac, .ref ay, .ref ap, .int (nI mk)])), (ac, .inl (cyI, 365, .inl (pz_ar ch))), (ay, .inl (cyI, 60, .inl (pz_ar fy))), (ap, .inl (cyI, 60, .inl (pz_ar fp))), (oa, .inl (cyL, 1, .inr (.inl (vp_updL og 0 (nI (pm_gc mm a)).toInt64))))] := hD
  refine lv_istore (lv' := [(5, .int (nI 0)), (0, .ref b), (1, .ref h0), (2, .ref h1), (3, .ref oa), (4, .int (nI i))]) hx hb dL_law_959 hl (by decide) rfl (fun ls hl => ?_)
  refine lv_aload_n hx hb dL_law_961 rfl (lv_at hl 3 rfl) ?_
  refine lv_aload_n hx hb dL_law_962 rfl (lv_at hl 1 rfl) ?_
  refine lv_iload hx hb dL_law_963 (lv_at hl 5 rfl) ?_
  refine lv_iconst (v := nI 1) hx hb dL_law_965 (by decide) ?_
  refine pn_iadd hx hb dL_law_966 ?_
  refine pn_sld hx hb hX hbl hS (by omega) hL hk1 dL_law_967 ?_
  refine lv_aload_n hx hb dL_law_968 rfl (lv_at hl 1 rfl) ?_
  refine lv_iload hx hb dL_law_969 (lv_at hl 5 rfl) ?_
  refine lv_iconst (v := nI 2) hx hb dL_law_971 (by decide) ?_
  refine pn_iadd hx hb dL_law_972 ?_
  refine pn_sld hx hb hX hbl hS (by omega) hL hk2 dL_law_973 ?_
  refine lv_aload_n hx hb dL_law_974 rfl (lv_at hl 1 rfl) ?_
  refine lv_iload hx hb dL_law_975 (lv_at hl 5 rfl) ?_
  refine lv_iconst (v := nI 3) hx hb dL_law_977 (by decide) ?_
  refine pn_iadd hx hb dL_law_978 ?_
  refine pn_sld hx hb hX hbl hS (by omega) hL hk3 dL_law_979 ?_
  refine pz_VI (rest := []) (wr := [(h0, .inr (0, [.ref ac, .ref ay, .ref ap, .int (nI mk)])), (ac, .inl (cyI, 365, .inl (pz_ar ch))), (ay, .inl (cyI, 60, .inl (pz_ar fy))), (ap, .inl (cyI, 60, .inl (pz_ar fp))), (oa, .inl (cyL, 1, .inr (.inl (vp_updL og 0 (nI (pm_gc mm a)).toInt64))))]) ⟨hx, hb, hml, hown, hts⟩ (k_X1_greatestCount_a l D h1 bc bf bg cyI ([(cyL, .long)]) th yr mo da mk wr rc ff gg y mm a (pm_gc mm a) (pm_fc y mm a (pm_gc mm a) 0) (by omega) (by omega) (by omega) (by omega) (by omega) (by omega) (by exact fun z h1 h2 h3 h4 => pm_gc_1 hy0 z h1 h2 h3 h4) (by exact hg.1) (by exact hg.2.1) (by exact hg.2.2.1) (by exact hg.2.2.2.1) (by exact hg.2.2.2.2.1)) (cwV 3 hts gL_law_X1_greatestCount rfl rfl rfl (by decide +kernel) ⟨Nat.le_of_ble_eq_true rfl, Nat.le_of_ble_eq_true rfl⟩) hK hP hD hS hA [0, 1, 2, 3] [4, 5, 6, 7, 8] rfl rfl rfl rfl rfl (by decide) 0 1 rfl rfl rfl hl.1 rfl (lv_room (Nat.le_of_ble_eq_true rfl)) dL_law_980 f0 (fun r u H locs hr hP hD hS => ?_)
  obtain ⟨yv_1, mv_1, dv_1⟩ := u
  have hP : va_P D vwCl [(h0, .inr (0, [.ref ac, .ref ay, .ref ap, .int (nI mk)])), (ac, .inl (cyI, 365, .inl (pz_ar ch))), (ay, .inl (cyI, 60, .inl (pz_ar fy))), (ap, .inl (cyI, 60, .inl (pz_ar fp))), (oa, .inl (cyL, 1, .inr (.inl (vp_updL og 0 (nI (pm_gc mm a)).toInt64)))), (h1, .inr (1, [.int (nI 0), .int yv_1, .int mv_1, .int dv_1, .int (nI mk), .ref bc, .ref bf, .ref bg, .int (nI wr)])), (bc, .inl (cyI, 366, .inl (pz_ar rc))), (bf, .inl (cyI, 3001, .inl (pz_ar ff))), (bg, .inl (cyI, 3001, .inl (pz_ar gg)))] H := hP
  have hD : va_D (fun q : Nat => s.heap.size ≤ q) [(h0, .inr (0, [.ref ac, .ref ay, .ref ap, .int (nI mk)])), (ac, .inl (cyI, 365, .inl (pz_ar ch))), (ay, .inl (cyI, 60, .inl (pz_ar fy))), (ap, .inl (cyI, 60, .inl (pz_ar fp))), (oa, .inl (cyL, 1, .inr (.inl (vp_updL og 0 (nI (pm_gc mm a)).toInt64)))), (h1, .inr (1, [.int (nI 0), .int yv_1, .int mv_1, .int dv_1, .int (nI mk), .ref bc, .ref bf, .ref bg, .int (nI wr)])), (bc, .inl (cyI, 366, .inl (pz_ar rc))), (bf, .inl (cyI, 3001, .inl (pz_ar ff))), (bg, .inl (cyI, 3001, .inl (pz_ar gg)))] := hD
  obtain rfl : r = (nI (pm_gc mm a)) := hr
  refine lv_istore (lv' := [(6, .int (nI (pm_gc mm a))), (5, .int (nI 0)), (0, .ref b), (1, .ref h0), (2, .ref h1), (3, .ref oa), (4, .int (nI i))]) hx hb dL_law_983 hl (by decide) rfl (fun ls hl => ?_)
  refine lv_aload_n hx hb dL_law_985 rfl (lv_at hl 4 rfl) ?_
  refine pz_VR (rest := []) ⟨hx, hb, hml, hown, hts⟩ (k_X1_thrown l D h1 bc bf bg cyI ([(cyL, .long)]) (nI 0) yv_1 mv_1 dv_1 mk wr rc ff gg  ) (cwV 0 hts gL_law_X1_thrown rfl rfl rfl (by decide +kernel) ⟨Nat.le_of_ble_eq_true rfl, Nat.le_of_ble_eq_true rfl⟩) hK hP (hD.weaken (fun _ _ _ _ => trivial)) hS hA [5, 6, 7, 8] rfl rfl rfl 5 1 rfl rfl rfl hl.1 rfl (lv_room (Nat.le_of_ble_eq_true rfl)) dL_law_986 f0 (fun r H locs hr hP hS => ?_)
  obtain rfl : r = (nI 0) := hr
  refine lv_iload hx hb dL_law_989 (lv_at hl 1 rfl) ?_
  refine pn_icmp_eq (tgt := 996) hx hb (by omega) (by omega) dL_law_991 (by decide) (fun _ => ?_) (fun c_3 => absurd c_3 (by decide))
  refine lv_iload hx hb dL_law_996 (lv_at hl 1 rfl) ?_
  refine pn_if_ne (tgt := 1013) hx hb (by omega) dL_law_998 (by decide) (fun c_4 => absurd c_4 (by decide)) (fun _ => ?_)
  refine lv_aload_n hx hb dL_law_1001 rfl (lv_at hl 5 rfl) ?_
  refine lv_iconst (v := nI 0) hx hb dL_law_1002 (by decide) ?_
  refine pn_lald hx hb hK hP 4 1 rfl rfl (by decide) (by decide) dL_law_1003 ?_
  refine lv_iload hx hb dL_law_1004 (lv_at hl 0 rfl) ?_
  refine lv_i2l (v := ((nI (pm_gc mm a))).toInt64) hx hb dL_law_1006 rfl ?_
  refine pn_same hx hb (pz_updL_0.trans (congrArg Int32.toInt64 (by rfl))) dL_law_1007 ?_
  refine pn_if_eq (tgt := 1013) hx hb (by omega) dL_law_1008 (by decide) (fun _ => ?_) (fun c_5 => absurd c_5 (by decide))
  refine lv_goto (tgt := 2234) hx hb dL_law_1013 (by decide) ?_
  refine W.widen (k := cells + 1) (n := slots + 6) (Nat.le_succ cells) (Nat.le_add_right slots 6) ?_
  exact KK H locs ls ⟨mk, wr, ch, fy, fp, rc, ff, gg, (nI 0), yv_1, mv_1, dv_1, vp_updL og 0 (nI (pm_gc mm a)).toInt64, (by exact hI), hP.sub (ws' := [(h0, .inr (0, [.ref ac, .ref ay, .ref ap, .int (nI mk)])), (ac, .inl (cyI, 365, .inl (pz_ar ch))), (ay, .inl (cyI, 60, .inl (pz_ar fy))), (ap, .inl (cyI, 60, .inl (pz_ar fp))), (h1, .inr (1, [.int (nI 0), .int yv_1, .int mv_1, .int dv_1, .int (nI mk), .ref bc, .ref bf, .ref bg, .int (nI wr)])), (bc, .inl (cyI, 366, .inl (pz_ar rc))), (bf, .inl (cyI, 3001, .inl (pz_ar ff))), (bg, .inl (cyI, 3001, .inl (pz_ar gg))), (oa, .inl (cyL, 1, .inr (.inl (vp_updL og 0 (nI (pm_gc mm a)).toInt64))))]) [0, 1, 2, 3, 5, 6, 7, 8, 4] rfl, hD.sub (ws' := [(h0, .inr (0, [.ref ac, .ref ay, .ref ap, .int (nI mk)])), (ac, .inl (cyI, 365, .inl (pz_ar ch))), (ay, .inl (cyI, 60, .inl (pz_ar fy))), (ap, .inl (cyI, 60, .inl (pz_ar fp))), (h1, .inr (1, [.int (nI 0), .int yv_1, .int mv_1, .int dv_1, .int (nI mk), .ref bc, .ref bf, .ref bg, .int (nI wr)])), (bc, .inl (cyI, 366, .inl (pz_ar rc))), (bf, .inl (cyI, 3001, .inl (pz_ar ff))), (bg, .inl (cyI, 3001, .inl (pz_ar gg))), (oa, .inl (cyL, 1, .inr (.inl (vp_updL og 0 (nI (pm_gc mm a)).toInt64))))]) [0, 1, 2, 3, 5, 6, 7, 8, 4] (by decide) rfl, hS, lv_sub hl [2, 3, 4, 5, 6] rfl⟩
set_option maxHeartbeats 4000000 in
set_option maxRecDepth 100000 in
theorem kw_greatestCount_x {p : Program} {l : Launch} {e : Env} {s : State} {m : MethodId} {below : List Frame} {meth : Method} {c : Code} {Q : State → Prop} {D : va_G} {cyI cyL : ClassId} {b L : Nat} {xs : Nat → Int32} {h0 ac ay ap h1 bc bf bg oa : Nat} {i cells slots : Nat} {H : Heap} {locs : List Loc} {ls : Array Slot} {mk wr : Nat} {ch fy fp rc ff gg : Nat → Nat} {th yr mo da : Int32} {og : Nat → Int64} (hfl : l.stackTraces = false) (C0 : pl_C p s m c D cyI cyL b L xs) (hI : pz_inv mk wr ch fy fp rc ff gg) (hP : va_P D vwCl [(h0, .inr (0, [.ref ac, .ref ay, .ref ap, .int (nI mk)])), (ac, .inl (cyI, 365, .inl (pz_ar ch))), (ay, .inl (cyI, 60, .inl (pz_ar fy))), (ap, .inl (cyI, 60, .inl (pz_ar fp))), (h1, .inr (1, [.int th, .int yr, .int mo, .int da, .int (nI mk), .ref bc, .ref bf, .ref bg, .int (nI wr)])), (bc, .inl (cyI, 366, .inl (pz_ar rc))), (bf, .inl (cyI, 3001, .inl (pz_ar ff))), (bg, .inl (cyI, 3001, .inl (pz_ar gg))), (oa, .inl (cyL, 1, .inr (.inl og)))] H) (hD : va_D (fun q : Nat => s.heap.size ≤ q) [(h0, .inr (0, [.ref ac, .ref ay, .ref ap, .int (nI mk)])), (ac, .inl (cyI, 365, .inl (pz_ar ch))), (ay, .inl (cyI, 60, .inl (pz_ar fy))), (ap, .inl (cyI, 60, .inl (pz_ar fp))), (h1, .inr (1, [.int th, .int yr, .int mo, .int da, .int (nI mk), .ref bc, .ref bf, .ref bg, .int (nI wr)])), (bc, .inl (cyI, 366, .inl (pz_ar rc))), (bf, .inl (cyI, 3001, .inl (pz_ar ff))), (bg, .inl (cyI, 3001, .inl (pz_ar gg))), (oa, .inl (cyL, 1, .inr (.inl og)))]) (hS : va_S (fun q : Nat => s.heap.size ≤ q) s.heap H locs) (hl : lv_has ls 7 [(0, .ref b), (1, .ref h0), (2, .ref h1), (3, .ref oa), (4, .int (nI i))]) (hi : i + 6 ≤ L) (hr1 : cells + 1 ≤ 1049) (hs1 : slots + 6 ≤ 15155) (KK : ∀ (H : Heap) (locs : List Loc) (ls : Array Slot), pl_G s D cyI cyL b h0 ac ay ap h1 bc bf bg oa H locs ls i → W p l e room_1 s m #[Value.ref b] below meth c H locs (cells + 1) (slots + 6) Q (F0 m 2234 ls [])) {x1 x2 x3 : Int32} (hk1 : xs (i + 1) = x1) (hk2 : xs (i + 2) = x2) (hk3 : xs (i + 3) = x3) (hy0 : ¬ (1 ≤ x1.toInt ∧ x1.toInt ≤ 3000 ∧ 1 ≤ x2.toInt ∧ x2.toInt ≤ 12)) : W p l e room_1 s m #[Value.ref b] below meth c H locs cells slots Q (F0 m 936 ls []) := by
  obtain ⟨hx, hb, hml, hown, hts, hX, hbl, hK, hth, hnc, hL⟩ := C0
  have hA : ∀ q : Nat, s.heap.size ≤ q → (fun q : Nat => s.heap.size ≤ q) q := fun _ h => h
  have f0 : cells + 0 ≤ room_1.cells ∧ slots + 0 ≤ room_1.slots := ⟨Nat.le_trans (Nat.le_succ cells) hr1, Nat.le_trans (Nat.le_add_right slots 6) hs1⟩
  have f1 : cells + 1 ≤ room_1.cells ∧ slots + 6 ≤ room_1.slots := ⟨hr1, hs1⟩
  have f2 : (cells + 1) + 0 ≤ room_1.cells ∧ (slots + 6) + 0 ≤ room_1.slots := f1
  refine lv_aload_n hx hb dL_law_936 rfl (lv_at hl 1 rfl) ?_
  refine lv_aload_n hx hb dL_law_937 rfl (lv_at hl 0 rfl) ?_
  refine lv_iload hx hb dL_law_938 (lv_at hl 4 rfl) ?_
  refine lv_iconst (v := nI 1) hx hb dL_law_940 (by decide) ?_
  refine pn_iadd hx hb dL_law_941 ?_
  refine pn_sld hx hb hX hbl hS (by omega) hL hk1 dL_law_942 ?_
  refine lv_aload_n hx hb dL_law_943 rfl (lv_at hl 0 rfl) ?_
  refine lv_iload hx hb dL_law_944 (lv_at hl 4 rfl) ?_
  refine lv_iconst (v := nI 2) hx hb dL_law_946 (by decide) ?_
  refine pn_iadd hx hb dL_law_947 ?_
  refine pn_sld hx hb hX hbl hS (by omega) hL hk2 dL_law_948 ?_
  refine lv_aload_n hx hb dL_law_949 rfl (lv_at hl 0 rfl) ?_
  refine lv_iload hx hb dL_law_950 (lv_at hl 4 rfl) ?_
  refine lv_iconst (v := nI 3) hx hb dL_law_952 (by decide) ?_
  refine pn_iadd hx hb dL_law_953 ?_
  refine pn_sld hx hb hX hbl hS (by omega) hL hk3 dL_law_954 ?_
  refine lv_aload_n hx hb dL_law_955 rfl (lv_at hl 3 rfl) ?_
  refine pz_SRX (rest := []) ⟨hx, hb, hml, hown, hts⟩ (k_L_greatestCount_x l hfl D h0 ac ay ap oa cyI cyL ([]) mk ch fy fp og x1 x2 x3 (by exact hy0)) (vx_cwSW 5 hts gL_law_L_greatestCount rfl rfl rfl (by decide +kernel) ⟨Nat.le_of_ble_eq_true rfl, Nat.le_of_ble_eq_true rfl⟩) hK hP (hD.weaken (fun _ _ _ _ => trivial)) hS hth hnc [0, 1, 2, 3, 8] rfl rfl rfl rfl hl.1 rfl (lv_room (Nat.le_of_ble_eq_true rfl)) dL_law_956 f1 (fun r H locs hr hP hS => ?_)
  obtain rfl : r = nI 1 := hr
  refine lv_istore (lv' := [(5, .int (nI 1)), (0, .ref b), (1, .ref h0), (2, .ref h1), (3, .ref oa), (4, .int (nI i))]) hx hb dL_law_959 hl (by decide) rfl (fun ls hl => ?_)
  refine lv_aload_n hx hb dL_law_961 rfl (lv_at hl 3 rfl) ?_
  refine lv_aload_n hx hb dL_law_962 rfl (lv_at hl 1 rfl) ?_
  refine lv_iload hx hb dL_law_963 (lv_at hl 5 rfl) ?_
  refine lv_iconst (v := nI 1) hx hb dL_law_965 (by decide) ?_
  refine pn_iadd hx hb dL_law_966 ?_
  refine pn_sld hx hb hX hbl hS (by omega) hL hk1 dL_law_967 ?_
  refine lv_aload_n hx hb dL_law_968 rfl (lv_at hl 1 rfl) ?_
  refine lv_iload hx hb dL_law_969 (lv_at hl 5 rfl) ?_
  refine lv_iconst (v := nI 2) hx hb dL_law_971 (by decide) ?_
  refine pn_iadd hx hb dL_law_972 ?_
  refine pn_sld hx hb hX hbl hS (by omega) hL hk2 dL_law_973 ?_
  refine lv_aload_n hx hb dL_law_974 rfl (lv_at hl 1 rfl) ?_
  refine lv_iload hx hb dL_law_975 (lv_at hl 5 rfl) ?_
  refine lv_iconst (v := nI 3) hx hb dL_law_977 (by decide) ?_
  refine pn_iadd hx hb dL_law_978 ?_
  refine pn_sld hx hb hX hbl hS (by omega) hL hk3 dL_law_979 ?_
  refine pz_VI (rest := []) (wr := [(h0, .inr (0, [.ref ac, .ref ay, .ref ap, .int (nI mk)])), (ac, .inl (cyI, 365, .inl (pz_ar ch))), (ay, .inl (cyI, 60, .inl (pz_ar fy))), (ap, .inl (cyI, 60, .inl (pz_ar fp))), (oa, .inl (cyL, 1, .inr (.inl og)))]) ⟨hx, hb, hml, hown, hts⟩ (k_X1_greatestCount_x l D h1 bc bf bg cyI ([(cyL, .long)]) th yr mo da mk wr rc ff gg x1 x2 x3 (by exact hy0)) (cwV 3 hts gL_law_X1_greatestCount rfl rfl rfl (by decide +kernel) ⟨Nat.le_of_ble_eq_true rfl, Nat.le_of_ble_eq_true rfl⟩) hK hP hD hS hA [4, 5, 6, 7] [0, 1, 2, 3, 8] rfl rfl rfl rfl rfl (by decide) 4 1 rfl rfl rfl hl.1 rfl (lv_room (Nat.le_of_ble_eq_true rfl)) dL_law_980 f2 (fun r u H locs hr hP hD hS => ?_)
  have hP : va_P D vwCl [(h0, .inr (0, [.ref ac, .ref ay, .ref ap, .int (nI mk)])), (ac, .inl (cyI, 365, .inl (pz_ar ch))), (ay, .inl (cyI, 60, .inl (pz_ar fy))), (ap, .inl (cyI, 60, .inl (pz_ar fp))), (oa, .inl (cyL, 1, .inr (.inl og))), (h1, .inr (1, [.int (nI 1), .int yr, .int mo, .int da, .int (nI mk), .ref bc, .ref bf, .ref bg, .int (nI wr)])), (bc, .inl (cyI, 366, .inl (pz_ar rc))), (bf, .inl (cyI, 3001, .inl (pz_ar ff))), (bg, .inl (cyI, 3001, .inl (pz_ar gg)))] H := hP
  have hD : va_D (fun q : Nat => s.heap.size ≤ q) [(h0, .inr (0, [.ref ac, .ref ay, .ref ap, .int (nI mk)])), (ac, .inl (cyI, 365, .inl (pz_ar ch))), (ay, .inl (cyI, 60, .inl (pz_ar fy))), (ap, .inl (cyI, 60, .inl (pz_ar fp))), (oa, .inl (cyL, 1, .inr (.inl og))), (h1, .inr (1, [.int (nI 1), .int yr, .int mo, .int da, .int (nI mk), .ref bc, .ref bf, .ref bg, .int (nI wr)])), (bc, .inl (cyI, 366, .inl (pz_ar rc))), (bf, .inl (cyI, 3001, .inl (pz_ar ff))), (bg, .inl (cyI, 3001, .inl (pz_ar gg)))] := hD
  obtain rfl : r = (nI 0) := hr
  refine lv_istore (lv' := [(6, .int (nI 0)), (5, .int (nI 1)), (0, .ref b), (1, .ref h0), (2, .ref h1), (3, .ref oa), (4, .int (nI i))]) hx hb dL_law_983 hl (by decide) rfl (fun ls hl => ?_)
  refine lv_aload_n hx hb dL_law_985 rfl (lv_at hl 4 rfl) ?_
  refine pz_VR (rest := []) ⟨hx, hb, hml, hown, hts⟩ (k_X1_thrown l D h1 bc bf bg cyI ([(cyL, .long)]) (nI 1) yr mo da mk wr rc ff gg  ) (cwV 0 hts gL_law_X1_thrown rfl rfl rfl (by decide +kernel) ⟨Nat.le_of_ble_eq_true rfl, Nat.le_of_ble_eq_true rfl⟩) hK hP (hD.weaken (fun _ _ _ _ => trivial)) hS hA [5, 6, 7, 8] rfl rfl rfl 5 1 rfl rfl rfl hl.1 rfl (lv_room (Nat.le_of_ble_eq_true rfl)) dL_law_986 f2 (fun r H locs hr hP hS => ?_)
  obtain rfl : r = (nI 1) := hr
  refine lv_iload hx hb dL_law_989 (lv_at hl 1 rfl) ?_
  refine pn_icmp_eq (tgt := 996) hx hb (by omega) (by omega) dL_law_991 (by decide) (fun _ => ?_) (fun c_3 => absurd c_3 (by decide))
  refine lv_iload hx hb dL_law_996 (lv_at hl 1 rfl) ?_
  refine pn_if_ne (tgt := 1013) hx hb (by omega) dL_law_998 (by decide) (fun _ => ?_) (fun c_4 => absurd c_4 (by decide))
  refine lv_goto (tgt := 2234) hx hb dL_law_1013 (by decide) ?_
  exact KK H locs ls ⟨mk, wr, ch, fy, fp, rc, ff, gg, (nI 1), yr, mo, da, og, (by exact hI), hP.sub (ws' := [(h0, .inr (0, [.ref ac, .ref ay, .ref ap, .int (nI mk)])), (ac, .inl (cyI, 365, .inl (pz_ar ch))), (ay, .inl (cyI, 60, .inl (pz_ar fy))), (ap, .inl (cyI, 60, .inl (pz_ar fp))), (h1, .inr (1, [.int (nI 1), .int yr, .int mo, .int da, .int (nI mk), .ref bc, .ref bf, .ref bg, .int (nI wr)])), (bc, .inl (cyI, 366, .inl (pz_ar rc))), (bf, .inl (cyI, 3001, .inl (pz_ar ff))), (bg, .inl (cyI, 3001, .inl (pz_ar gg))), (oa, .inl (cyL, 1, .inr (.inl og)))]) [0, 1, 2, 3, 5, 6, 7, 8, 4] rfl, hD.sub (ws' := [(h0, .inr (0, [.ref ac, .ref ay, .ref ap, .int (nI mk)])), (ac, .inl (cyI, 365, .inl (pz_ar ch))), (ay, .inl (cyI, 60, .inl (pz_ar fy))), (ap, .inl (cyI, 60, .inl (pz_ar fp))), (h1, .inr (1, [.int (nI 1), .int yr, .int mo, .int da, .int (nI mk), .ref bc, .ref bf, .ref bg, .int (nI wr)])), (bc, .inl (cyI, 366, .inl (pz_ar rc))), (bf, .inl (cyI, 3001, .inl (pz_ar ff))), (bg, .inl (cyI, 3001, .inl (pz_ar gg))), (oa, .inl (cyL, 1, .inr (.inl og)))]) [0, 1, 2, 3, 5, 6, 7, 8, 4] (by decide) rfl, hS, lv_sub hl [2, 3, 4, 5, 6] rfl⟩
set_option maxHeartbeats 4000000 in
set_option maxRecDepth 100000 in
theorem kw_greatestCount_x2 {p : Program} {l : Launch} {e : Env} {s : State} {m : MethodId} {below : List Frame} {meth : Method} {c : Code} {Q : State → Prop} {D : va_G} {cyI cyL : ClassId} {b L : Nat} {xs : Nat → Int32} {h0 ac ay ap h1 bc bf bg oa : Nat} {i cells slots : Nat} {H : Heap} {locs : List Loc} {ls : Array Slot} {mk wr : Nat} {ch fy fp rc ff gg : Nat → Nat} {th yr mo da : Int32} {og : Nat → Int64} (hfl : l.stackTraces = false) (C0 : pl_C p s m c D cyI cyL b L xs) (hI : pz_inv mk wr ch fy fp rc ff gg) (hP : va_P D vwCl [(h0, .inr (0, [.ref ac, .ref ay, .ref ap, .int (nI mk)])), (ac, .inl (cyI, 365, .inl (pz_ar ch))), (ay, .inl (cyI, 60, .inl (pz_ar fy))), (ap, .inl (cyI, 60, .inl (pz_ar fp))), (h1, .inr (1, [.int th, .int yr, .int mo, .int da, .int (nI mk), .ref bc, .ref bf, .ref bg, .int (nI wr)])), (bc, .inl (cyI, 366, .inl (pz_ar rc))), (bf, .inl (cyI, 3001, .inl (pz_ar ff))), (bg, .inl (cyI, 3001, .inl (pz_ar gg))), (oa, .inl (cyL, 1, .inr (.inl og)))] H) (hD : va_D (fun q : Nat => s.heap.size ≤ q) [(h0, .inr (0, [.ref ac, .ref ay, .ref ap, .int (nI mk)])), (ac, .inl (cyI, 365, .inl (pz_ar ch))), (ay, .inl (cyI, 60, .inl (pz_ar fy))), (ap, .inl (cyI, 60, .inl (pz_ar fp))), (h1, .inr (1, [.int th, .int yr, .int mo, .int da, .int (nI mk), .ref bc, .ref bf, .ref bg, .int (nI wr)])), (bc, .inl (cyI, 366, .inl (pz_ar rc))), (bf, .inl (cyI, 3001, .inl (pz_ar ff))), (bg, .inl (cyI, 3001, .inl (pz_ar gg))), (oa, .inl (cyL, 1, .inr (.inl og)))]) (hS : va_S (fun q : Nat => s.heap.size ≤ q) s.heap H locs) (hl : lv_has ls 7 [(0, .ref b), (1, .ref h0), (2, .ref h1), (3, .ref oa), (4, .int (nI i))]) (hi : i + 6 ≤ L) (hr1 : cells + 1 ≤ 1049) (hs1 : slots + 6 ≤ 15155) (KK : ∀ (H : Heap) (locs : List Loc) (ls : Array Slot), pl_G s D cyI cyL b h0 ac ay ap h1 bc bf bg oa H locs ls i → W p l e room_1 s m #[Value.ref b] below meth c H locs (cells + 1) (slots + 6) Q (F0 m 2234 ls [])) {y mm : Nat} {x3 : Int32} (hk1 : xs (i + 1) = (nI y)) (hk2 : xs (i + 2) = (nI mm)) (hk3 : xs (i + 3) = x3) (hy0 : 1 ≤ y) (hy1 : y ≤ 3000) (hy2 : 1 ≤ mm) (hy3 : mm ≤ 12) (hy4 : x3.toInt < 0 ∨ 2 < x3.toInt) : W p l e room_1 s m #[Value.ref b] below meth c H locs cells slots Q (F0 m 936 ls []) := by
  obtain ⟨hx, hb, hml, hown, hts, hX, hbl, hK, hth, hnc, hL⟩ := C0
  have hA : ∀ q : Nat, s.heap.size ≤ q → (fun q : Nat => s.heap.size ≤ q) q := fun _ h => h
  have f0 : cells + 0 ≤ room_1.cells ∧ slots + 0 ≤ room_1.slots := ⟨Nat.le_trans (Nat.le_succ cells) hr1, Nat.le_trans (Nat.le_add_right slots 6) hs1⟩
  have f1 : cells + 1 ≤ room_1.cells ∧ slots + 6 ≤ room_1.slots := ⟨hr1, hs1⟩
  have f2 : (cells + 1) + 0 ≤ room_1.cells ∧ (slots + 6) + 0 ≤ room_1.slots := f1
  refine lv_aload_n hx hb dL_law_936 rfl (lv_at hl 1 rfl) ?_
  refine lv_aload_n hx hb dL_law_937 rfl (lv_at hl 0 rfl) ?_
  refine lv_iload hx hb dL_law_938 (lv_at hl 4 rfl) ?_
  refine lv_iconst (v := nI 1) hx hb dL_law_940 (by decide) ?_
  refine pn_iadd hx hb dL_law_941 ?_
  refine pn_sld hx hb hX hbl hS (by omega) hL hk1 dL_law_942 ?_
  refine lv_aload_n hx hb dL_law_943 rfl (lv_at hl 0 rfl) ?_
  refine lv_iload hx hb dL_law_944 (lv_at hl 4 rfl) ?_
  refine lv_iconst (v := nI 2) hx hb dL_law_946 (by decide) ?_
  refine pn_iadd hx hb dL_law_947 ?_
  refine pn_sld hx hb hX hbl hS (by omega) hL hk2 dL_law_948 ?_
  refine lv_aload_n hx hb dL_law_949 rfl (lv_at hl 0 rfl) ?_
  refine lv_iload hx hb dL_law_950 (lv_at hl 4 rfl) ?_
  refine lv_iconst (v := nI 3) hx hb dL_law_952 (by decide) ?_
  refine pn_iadd hx hb dL_law_953 ?_
  refine pn_sld hx hb hX hbl hS (by omega) hL hk3 dL_law_954 ?_
  refine lv_aload_n hx hb dL_law_955 rfl (lv_at hl 3 rfl) ?_
  refine pz_SRX (rest := []) ⟨hx, hb, hml, hown, hts⟩ (k_L_greatestCount_x2 l hfl D h0 ac ay ap oa cyI cyL ([]) mk ch fy fp og y mm x3 (by omega) (by omega) (by omega) (by omega) (by exact hy4)) (vx_cwSW 5 hts gL_law_L_greatestCount rfl rfl rfl (by decide +kernel) ⟨Nat.le_of_ble_eq_true rfl, Nat.le_of_ble_eq_true rfl⟩) hK hP (hD.weaken (fun _ _ _ _ => trivial)) hS hth hnc [0, 1, 2, 3, 8] rfl rfl rfl rfl hl.1 rfl (lv_room (Nat.le_of_ble_eq_true rfl)) dL_law_956 f1 (fun r H locs hr hP hS => ?_)
  obtain rfl : r = nI 2 := hr
  refine lv_istore (lv' := [(5, .int (nI 2)), (0, .ref b), (1, .ref h0), (2, .ref h1), (3, .ref oa), (4, .int (nI i))]) hx hb dL_law_959 hl (by decide) rfl (fun ls hl => ?_)
  refine lv_aload_n hx hb dL_law_961 rfl (lv_at hl 3 rfl) ?_
  refine lv_aload_n hx hb dL_law_962 rfl (lv_at hl 1 rfl) ?_
  refine lv_iload hx hb dL_law_963 (lv_at hl 5 rfl) ?_
  refine lv_iconst (v := nI 1) hx hb dL_law_965 (by decide) ?_
  refine pn_iadd hx hb dL_law_966 ?_
  refine pn_sld hx hb hX hbl hS (by omega) hL hk1 dL_law_967 ?_
  refine lv_aload_n hx hb dL_law_968 rfl (lv_at hl 1 rfl) ?_
  refine lv_iload hx hb dL_law_969 (lv_at hl 5 rfl) ?_
  refine lv_iconst (v := nI 2) hx hb dL_law_971 (by decide) ?_
  refine pn_iadd hx hb dL_law_972 ?_
  refine pn_sld hx hb hX hbl hS (by omega) hL hk2 dL_law_973 ?_
  refine lv_aload_n hx hb dL_law_974 rfl (lv_at hl 1 rfl) ?_
  refine lv_iload hx hb dL_law_975 (lv_at hl 5 rfl) ?_
  refine lv_iconst (v := nI 3) hx hb dL_law_977 (by decide) ?_
  refine pn_iadd hx hb dL_law_978 ?_
  refine pn_sld hx hb hX hbl hS (by omega) hL hk3 dL_law_979 ?_
  refine pz_VI (rest := []) (wr := [(h0, .inr (0, [.ref ac, .ref ay, .ref ap, .int (nI mk)])), (ac, .inl (cyI, 365, .inl (pz_ar ch))), (ay, .inl (cyI, 60, .inl (pz_ar fy))), (ap, .inl (cyI, 60, .inl (pz_ar fp))), (oa, .inl (cyL, 1, .inr (.inl og)))]) ⟨hx, hb, hml, hown, hts⟩ (k_X1_greatestCount_x2 l D h1 bc bf bg cyI ([(cyL, .long)]) th yr mo da mk wr rc ff gg y mm x3 (by omega) (by omega) (by omega) (by omega) (by exact hy4)) (cwV 3 hts gL_law_X1_greatestCount rfl rfl rfl (by decide +kernel) ⟨Nat.le_of_ble_eq_true rfl, Nat.le_of_ble_eq_true rfl⟩) hK hP hD hS hA [4, 5, 6, 7] [0, 1, 2, 3, 8] rfl rfl rfl rfl rfl (by decide) 4 1 rfl rfl rfl hl.1 rfl (lv_room (Nat.le_of_ble_eq_true rfl)) dL_law_980 f2 (fun r u H locs hr hP hD hS => ?_)
  have hP : va_P D vwCl [(h0, .inr (0, [.ref ac, .ref ay, .ref ap, .int (nI mk)])), (ac, .inl (cyI, 365, .inl (pz_ar ch))), (ay, .inl (cyI, 60, .inl (pz_ar fy))), (ap, .inl (cyI, 60, .inl (pz_ar fp))), (oa, .inl (cyL, 1, .inr (.inl og))), (h1, .inr (1, [.int (nI 2), .int yr, .int mo, .int da, .int (nI mk), .ref bc, .ref bf, .ref bg, .int (nI wr)])), (bc, .inl (cyI, 366, .inl (pz_ar rc))), (bf, .inl (cyI, 3001, .inl (pz_ar ff))), (bg, .inl (cyI, 3001, .inl (pz_ar gg)))] H := hP
  have hD : va_D (fun q : Nat => s.heap.size ≤ q) [(h0, .inr (0, [.ref ac, .ref ay, .ref ap, .int (nI mk)])), (ac, .inl (cyI, 365, .inl (pz_ar ch))), (ay, .inl (cyI, 60, .inl (pz_ar fy))), (ap, .inl (cyI, 60, .inl (pz_ar fp))), (oa, .inl (cyL, 1, .inr (.inl og))), (h1, .inr (1, [.int (nI 2), .int yr, .int mo, .int da, .int (nI mk), .ref bc, .ref bf, .ref bg, .int (nI wr)])), (bc, .inl (cyI, 366, .inl (pz_ar rc))), (bf, .inl (cyI, 3001, .inl (pz_ar ff))), (bg, .inl (cyI, 3001, .inl (pz_ar gg)))] := hD
  obtain rfl : r = (nI 0) := hr
  refine lv_istore (lv' := [(6, .int (nI 0)), (5, .int (nI 2)), (0, .ref b), (1, .ref h0), (2, .ref h1), (3, .ref oa), (4, .int (nI i))]) hx hb dL_law_983 hl (by decide) rfl (fun ls hl => ?_)
  refine lv_aload_n hx hb dL_law_985 rfl (lv_at hl 4 rfl) ?_
  refine pz_VR (rest := []) ⟨hx, hb, hml, hown, hts⟩ (k_X1_thrown l D h1 bc bf bg cyI ([(cyL, .long)]) (nI 2) yr mo da mk wr rc ff gg  ) (cwV 0 hts gL_law_X1_thrown rfl rfl rfl (by decide +kernel) ⟨Nat.le_of_ble_eq_true rfl, Nat.le_of_ble_eq_true rfl⟩) hK hP (hD.weaken (fun _ _ _ _ => trivial)) hS hA [5, 6, 7, 8] rfl rfl rfl 5 1 rfl rfl rfl hl.1 rfl (lv_room (Nat.le_of_ble_eq_true rfl)) dL_law_986 f2 (fun r H locs hr hP hS => ?_)
  obtain rfl : r = (nI 2) := hr
  refine lv_iload hx hb dL_law_989 (lv_at hl 1 rfl) ?_
  refine pn_icmp_eq (tgt := 996) hx hb (by omega) (by omega) dL_law_991 (by decide) (fun _ => ?_) (fun c_3 => absurd c_3 (by decide))
  refine lv_iload hx hb dL_law_996 (lv_at hl 1 rfl) ?_
  refine pn_if_ne (tgt := 1013) hx hb (by omega) dL_law_998 (by decide) (fun _ => ?_) (fun c_4 => absurd c_4 (by decide))
  refine lv_goto (tgt := 2234) hx hb dL_law_1013 (by decide) ?_
  exact KK H locs ls ⟨mk, wr, ch, fy, fp, rc, ff, gg, (nI 2), yr, mo, da, og, (by exact hI), hP.sub (ws' := [(h0, .inr (0, [.ref ac, .ref ay, .ref ap, .int (nI mk)])), (ac, .inl (cyI, 365, .inl (pz_ar ch))), (ay, .inl (cyI, 60, .inl (pz_ar fy))), (ap, .inl (cyI, 60, .inl (pz_ar fp))), (h1, .inr (1, [.int (nI 2), .int yr, .int mo, .int da, .int (nI mk), .ref bc, .ref bf, .ref bg, .int (nI wr)])), (bc, .inl (cyI, 366, .inl (pz_ar rc))), (bf, .inl (cyI, 3001, .inl (pz_ar ff))), (bg, .inl (cyI, 3001, .inl (pz_ar gg))), (oa, .inl (cyL, 1, .inr (.inl og)))]) [0, 1, 2, 3, 5, 6, 7, 8, 4] rfl, hD.sub (ws' := [(h0, .inr (0, [.ref ac, .ref ay, .ref ap, .int (nI mk)])), (ac, .inl (cyI, 365, .inl (pz_ar ch))), (ay, .inl (cyI, 60, .inl (pz_ar fy))), (ap, .inl (cyI, 60, .inl (pz_ar fp))), (h1, .inr (1, [.int (nI 2), .int yr, .int mo, .int da, .int (nI mk), .ref bc, .ref bf, .ref bg, .int (nI wr)])), (bc, .inl (cyI, 366, .inl (pz_ar rc))), (bf, .inl (cyI, 3001, .inl (pz_ar ff))), (bg, .inl (cyI, 3001, .inl (pz_ar gg))), (oa, .inl (cyL, 1, .inr (.inl og)))]) [0, 1, 2, 3, 5, 6, 7, 8, 4] (by decide) rfl, hS, lv_sub hl [2, 3, 4, 5, 6] rfl⟩
set_option maxHeartbeats 4000000 in
set_option maxRecDepth 100000 in
theorem kw_fromCount_x_0 {p : Program} {l : Launch} {e : Env} {s : State} {m : MethodId} {below : List Frame} {meth : Method} {c : Code} {Q : State → Prop} {D : va_G} {cyI cyL : ClassId} {b L : Nat} {xs : Nat → Int32} {h0 ac ay ap h1 bc bf bg oa : Nat} {i cells slots : Nat} {H : Heap} {locs : List Loc} {ls : Array Slot} {mk wr : Nat} {ch fy fp rc ff gg : Nat → Nat} {th yr mo da : Int32} {og : Nat → Int64} (hfl : l.stackTraces = false) (C0 : pl_C p s m c D cyI cyL b L xs) (hI : pz_inv mk wr ch fy fp rc ff gg) (hP : va_P D vwCl [(h0, .inr (0, [.ref ac, .ref ay, .ref ap, .int (nI mk)])), (ac, .inl (cyI, 365, .inl (pz_ar ch))), (ay, .inl (cyI, 60, .inl (pz_ar fy))), (ap, .inl (cyI, 60, .inl (pz_ar fp))), (h1, .inr (1, [.int th, .int yr, .int mo, .int da, .int (nI mk), .ref bc, .ref bf, .ref bg, .int (nI wr)])), (bc, .inl (cyI, 366, .inl (pz_ar rc))), (bf, .inl (cyI, 3001, .inl (pz_ar ff))), (bg, .inl (cyI, 3001, .inl (pz_ar gg))), (oa, .inl (cyL, 1, .inr (.inl og)))] H) (hD : va_D (fun q : Nat => s.heap.size ≤ q) [(h0, .inr (0, [.ref ac, .ref ay, .ref ap, .int (nI mk)])), (ac, .inl (cyI, 365, .inl (pz_ar ch))), (ay, .inl (cyI, 60, .inl (pz_ar fy))), (ap, .inl (cyI, 60, .inl (pz_ar fp))), (h1, .inr (1, [.int th, .int yr, .int mo, .int da, .int (nI mk), .ref bc, .ref bf, .ref bg, .int (nI wr)])), (bc, .inl (cyI, 366, .inl (pz_ar rc))), (bf, .inl (cyI, 3001, .inl (pz_ar ff))), (bg, .inl (cyI, 3001, .inl (pz_ar gg))), (oa, .inl (cyL, 1, .inr (.inl og)))]) (hS : va_S (fun q : Nat => s.heap.size ≤ q) s.heap H locs) (hl : lv_has ls 7 [(0, .ref b), (1, .ref h0), (2, .ref h1), (3, .ref oa), (4, .int (nI i))]) (hi : i + 6 ≤ L) (hr1 : cells + 1 ≤ 1049) (hs1 : slots + 6 ≤ 15155) (KK : ∀ (H : Heap) (locs : List Loc) (ls : Array Slot), pl_G s D cyI cyL b h0 ac ay ap h1 bc bf bg oa H locs ls i → W p l e room_1 s m #[Value.ref b] below meth c H locs (cells + 1) (slots + 6) Q (F0 m 2234 ls [])) {x1 x2 x3 x4 x5 : Int32} (hk1 : xs (i + 1) = x1) (hk2 : xs (i + 2) = x2) (hk3 : xs (i + 3) = x3) (hk4 : xs (i + 4) = x4) (hk5 : xs (i + 5) = x5) (hy0 : ¬ (1 ≤ x1.toInt ∧ x1.toInt ≤ 3000 ∧ 1 ≤ x2.toInt ∧ x2.toInt ≤ 12)) (hz : x5.toInt = 0) : W p l e room_1 s m #[Value.ref b] below meth c H locs cells slots Q (F0 m 816 ls []) := by
  obtain ⟨hx, hb, hml, hown, hts, hX, hbl, hK, hth, hnc, hL⟩ := C0
  have hA : ∀ q : Nat, s.heap.size ≤ q → (fun q : Nat => s.heap.size ≤ q) q := fun _ h => h
  have f0 : cells + 0 ≤ room_1.cells ∧ slots + 0 ≤ room_1.slots := ⟨Nat.le_trans (Nat.le_succ cells) hr1, Nat.le_trans (Nat.le_add_right slots 6) hs1⟩
  have f1 : cells + 1 ≤ room_1.cells ∧ slots + 6 ≤ room_1.slots := ⟨hr1, hs1⟩
  have f2 : (cells + 1) + 0 ≤ room_1.cells ∧ (slots + 6) + 0 ≤ room_1.slots := f1
  refine lv_aload_n hx hb dL_law_816 rfl (lv_at hl 1 rfl) ?_
  refine lv_aload_n hx hb dL_law_817 rfl (lv_at hl 0 rfl) ?_
  refine lv_iload hx hb dL_law_818 (lv_at hl 4 rfl) ?_
  refine lv_iconst (v := nI 1) hx hb dL_law_820 (by decide) ?_
  refine pn_iadd hx hb dL_law_821 ?_
  refine pn_sld hx hb hX hbl hS (by omega) hL hk1 dL_law_822 ?_
  refine lv_aload_n hx hb dL_law_823 rfl (lv_at hl 0 rfl) ?_
  refine lv_iload hx hb dL_law_824 (lv_at hl 4 rfl) ?_
  refine lv_iconst (v := nI 2) hx hb dL_law_826 (by decide) ?_
  refine pn_iadd hx hb dL_law_827 ?_
  refine pn_sld hx hb hX hbl hS (by omega) hL hk2 dL_law_828 ?_
  refine lv_aload_n hx hb dL_law_829 rfl (lv_at hl 0 rfl) ?_
  refine lv_iload hx hb dL_law_830 (lv_at hl 4 rfl) ?_
  refine lv_iconst (v := nI 3) hx hb dL_law_832 (by decide) ?_
  refine pn_iadd hx hb dL_law_833 ?_
  refine pn_sld hx hb hX hbl hS (by omega) hL hk3 dL_law_834 ?_
  refine lv_aload_n hx hb dL_law_835 rfl (lv_at hl 0 rfl) ?_
  refine lv_iload hx hb dL_law_836 (lv_at hl 4 rfl) ?_
  refine lv_iconst (v := nI 4) hx hb dL_law_838 (by decide) ?_
  refine pn_iadd hx hb dL_law_839 ?_
  refine pn_sld hx hb hX hbl hS (by omega) hL hk4 dL_law_840 ?_
  refine lv_aload_n hx hb dL_law_841 rfl (lv_at hl 0 rfl) ?_
  refine lv_iload hx hb dL_law_842 (lv_at hl 4 rfl) ?_
  refine lv_iconst (v := nI 5) hx hb dL_law_844 (by decide) ?_
  refine pn_iadd hx hb dL_law_845 ?_
  refine pn_sld hx hb hX hbl hS (by omega) hL hk5 dL_law_846 ?_
  refine pi_if_eq (tgt := 854) (a := x5.toInt) hx hb rfl dL_law_847 (by decide) (fun _ => ?_) (fun h9 => absurd hz h9)
  refine lv_iconst (v := nI 0) hx hb dL_law_854 (by decide) ?_
  refine lv_aload_n hx hb dL_law_855 rfl (lv_at hl 3 rfl) ?_
  refine pz_SRX (rest := []) ⟨hx, hb, hml, hown, hts⟩ (k_L_fromCount_x l hfl D h0 ac ay ap oa cyI cyL ([]) mk ch fy fp og x1 x2 x3 x4 (nI 0) (by exact hy0)) (vx_cwSW 7 hts gL_law_L_fromCount rfl rfl rfl (by decide +kernel) ⟨Nat.le_of_ble_eq_true rfl, Nat.le_of_ble_eq_true rfl⟩) hK hP (hD.weaken (fun _ _ _ _ => trivial)) hS hth hnc [0, 1, 2, 3, 8] rfl rfl rfl rfl hl.1 rfl (lv_room (Nat.le_of_ble_eq_true rfl)) dL_law_856 f1 (fun r H locs hr hP hS => ?_)
  obtain rfl : r = nI 1 := hr
  refine lv_istore (lv' := [(5, .int (nI 1)), (0, .ref b), (1, .ref h0), (2, .ref h1), (3, .ref oa), (4, .int (nI i))]) hx hb dL_law_859 hl (by decide) rfl (fun ls hl => ?_)
  refine lv_aload_n hx hb dL_law_861 rfl (lv_at hl 3 rfl) ?_
  refine lv_aload_n hx hb dL_law_862 rfl (lv_at hl 1 rfl) ?_
  refine lv_iload hx hb dL_law_863 (lv_at hl 5 rfl) ?_
  refine lv_iconst (v := nI 1) hx hb dL_law_865 (by decide) ?_
  refine pn_iadd hx hb dL_law_866 ?_
  refine pn_sld hx hb hX hbl hS (by omega) hL hk1 dL_law_867 ?_
  refine lv_aload_n hx hb dL_law_868 rfl (lv_at hl 1 rfl) ?_
  refine lv_iload hx hb dL_law_869 (lv_at hl 5 rfl) ?_
  refine lv_iconst (v := nI 2) hx hb dL_law_871 (by decide) ?_
  refine pn_iadd hx hb dL_law_872 ?_
  refine pn_sld hx hb hX hbl hS (by omega) hL hk2 dL_law_873 ?_
  refine lv_aload_n hx hb dL_law_874 rfl (lv_at hl 1 rfl) ?_
  refine lv_iload hx hb dL_law_875 (lv_at hl 5 rfl) ?_
  refine lv_iconst (v := nI 3) hx hb dL_law_877 (by decide) ?_
  refine pn_iadd hx hb dL_law_878 ?_
  refine pn_sld hx hb hX hbl hS (by omega) hL hk3 dL_law_879 ?_
  refine lv_aload_n hx hb dL_law_880 rfl (lv_at hl 1 rfl) ?_
  refine lv_iload hx hb dL_law_881 (lv_at hl 5 rfl) ?_
  refine lv_iconst (v := nI 4) hx hb dL_law_883 (by decide) ?_
  refine pn_iadd hx hb dL_law_884 ?_
  refine pn_sld hx hb hX hbl hS (by omega) hL hk4 dL_law_885 ?_
  refine lv_aload_n hx hb dL_law_886 rfl (lv_at hl 1 rfl) ?_
  refine lv_iload hx hb dL_law_887 (lv_at hl 5 rfl) ?_
  refine lv_iconst (v := nI 5) hx hb dL_law_889 (by decide) ?_
  refine pn_iadd hx hb dL_law_890 ?_
  refine pn_sld hx hb hX hbl hS (by omega) hL hk5 dL_law_891 ?_
  refine pi_if_eq (tgt := 899) (a := x5.toInt) hx hb rfl dL_law_892 (by decide) (fun _ => ?_) (fun h9 => absurd hz h9)
  refine lv_iconst (v := nI 0) hx hb dL_law_899 (by decide) ?_
  refine pz_VI (rest := []) (wr := [(h0, .inr (0, [.ref ac, .ref ay, .ref ap, .int (nI mk)])), (ac, .inl (cyI, 365, .inl (pz_ar ch))), (ay, .inl (cyI, 60, .inl (pz_ar fy))), (ap, .inl (cyI, 60, .inl (pz_ar fp))), (oa, .inl (cyL, 1, .inr (.inl og)))]) ⟨hx, hb, hml, hown, hts⟩ (k_X1_fromCount_x l D h1 bc bf bg cyI ([(cyL, .long)]) th yr mo da mk wr rc ff gg x1 x2 x3 x4 (nI 0) (by exact hy0)) (cwV 5 hts gL_law_X1_fromCount rfl rfl rfl (by decide +kernel) ⟨Nat.le_of_ble_eq_true rfl, Nat.le_of_ble_eq_true rfl⟩) hK hP hD hS hA [4, 5, 6, 7] [0, 1, 2, 3, 8] rfl rfl rfl rfl rfl (by decide) 4 1 rfl rfl rfl hl.1 rfl (lv_room (Nat.le_of_ble_eq_true rfl)) dL_law_900 f2 (fun r u H locs hr hP hD hS => ?_)
  have hP : va_P D vwCl [(h0, .inr (0, [.ref ac, .ref ay, .ref ap, .int (nI mk)])), (ac, .inl (cyI, 365, .inl (pz_ar ch))), (ay, .inl (cyI, 60, .inl (pz_ar fy))), (ap, .inl (cyI, 60, .inl (pz_ar fp))), (oa, .inl (cyL, 1, .inr (.inl og))), (h1, .inr (1, [.int (nI 1), .int yr, .int mo, .int da, .int (nI mk), .ref bc, .ref bf, .ref bg, .int (nI wr)])), (bc, .inl (cyI, 366, .inl (pz_ar rc))), (bf, .inl (cyI, 3001, .inl (pz_ar ff))), (bg, .inl (cyI, 3001, .inl (pz_ar gg)))] H := hP
  have hD : va_D (fun q : Nat => s.heap.size ≤ q) [(h0, .inr (0, [.ref ac, .ref ay, .ref ap, .int (nI mk)])), (ac, .inl (cyI, 365, .inl (pz_ar ch))), (ay, .inl (cyI, 60, .inl (pz_ar fy))), (ap, .inl (cyI, 60, .inl (pz_ar fp))), (oa, .inl (cyL, 1, .inr (.inl og))), (h1, .inr (1, [.int (nI 1), .int yr, .int mo, .int da, .int (nI mk), .ref bc, .ref bf, .ref bg, .int (nI wr)])), (bc, .inl (cyI, 366, .inl (pz_ar rc))), (bf, .inl (cyI, 3001, .inl (pz_ar ff))), (bg, .inl (cyI, 3001, .inl (pz_ar gg)))] := hD
  obtain rfl : r = (nI 0) := hr
  refine lv_istore (lv' := [(6, .int (nI 0)), (5, .int (nI 1)), (0, .ref b), (1, .ref h0), (2, .ref h1), (3, .ref oa), (4, .int (nI i))]) hx hb dL_law_903 hl (by decide) rfl (fun ls hl => ?_)
  refine lv_aload_n hx hb dL_law_905 rfl (lv_at hl 4 rfl) ?_
  refine pz_VR (rest := []) ⟨hx, hb, hml, hown, hts⟩ (k_X1_thrown l D h1 bc bf bg cyI ([(cyL, .long)]) (nI 1) yr mo da mk wr rc ff gg  ) (cwV 0 hts gL_law_X1_thrown rfl rfl rfl (by decide +kernel) ⟨Nat.le_of_ble_eq_true rfl, Nat.le_of_ble_eq_true rfl⟩) hK hP (hD.weaken (fun _ _ _ _ => trivial)) hS hA [5, 6, 7, 8] rfl rfl rfl 5 1 rfl rfl rfl hl.1 rfl (lv_room (Nat.le_of_ble_eq_true rfl)) dL_law_906 f2 (fun r H locs hr hP hS => ?_)
  obtain rfl : r = (nI 1) := hr
  refine lv_iload hx hb dL_law_909 (lv_at hl 1 rfl) ?_
  refine pn_icmp_eq (tgt := 916) hx hb (by omega) (by omega) dL_law_911 (by decide) (fun _ => ?_) (fun c_5 => absurd c_5 (by decide))
  refine lv_iload hx hb dL_law_916 (lv_at hl 1 rfl) ?_
  refine pn_if_ne (tgt := 933) hx hb (by omega) dL_law_918 (by decide) (fun _ => ?_) (fun c_6 => absurd c_6 (by decide))
  refine lv_goto (tgt := 2234) hx hb dL_law_933 (by decide) ?_
  exact KK H locs ls ⟨mk, wr, ch, fy, fp, rc, ff, gg, (nI 1), yr, mo, da, og, (by exact hI), hP.sub (ws' := [(h0, .inr (0, [.ref ac, .ref ay, .ref ap, .int (nI mk)])), (ac, .inl (cyI, 365, .inl (pz_ar ch))), (ay, .inl (cyI, 60, .inl (pz_ar fy))), (ap, .inl (cyI, 60, .inl (pz_ar fp))), (h1, .inr (1, [.int (nI 1), .int yr, .int mo, .int da, .int (nI mk), .ref bc, .ref bf, .ref bg, .int (nI wr)])), (bc, .inl (cyI, 366, .inl (pz_ar rc))), (bf, .inl (cyI, 3001, .inl (pz_ar ff))), (bg, .inl (cyI, 3001, .inl (pz_ar gg))), (oa, .inl (cyL, 1, .inr (.inl og)))]) [0, 1, 2, 3, 5, 6, 7, 8, 4] rfl, hD.sub (ws' := [(h0, .inr (0, [.ref ac, .ref ay, .ref ap, .int (nI mk)])), (ac, .inl (cyI, 365, .inl (pz_ar ch))), (ay, .inl (cyI, 60, .inl (pz_ar fy))), (ap, .inl (cyI, 60, .inl (pz_ar fp))), (h1, .inr (1, [.int (nI 1), .int yr, .int mo, .int da, .int (nI mk), .ref bc, .ref bf, .ref bg, .int (nI wr)])), (bc, .inl (cyI, 366, .inl (pz_ar rc))), (bf, .inl (cyI, 3001, .inl (pz_ar ff))), (bg, .inl (cyI, 3001, .inl (pz_ar gg))), (oa, .inl (cyL, 1, .inr (.inl og)))]) [0, 1, 2, 3, 5, 6, 7, 8, 4] (by decide) rfl, hS, lv_sub hl [2, 3, 4, 5, 6] rfl⟩
set_option maxHeartbeats 4000000 in
set_option maxRecDepth 100000 in
theorem kw_fromCount_x2_0 {p : Program} {l : Launch} {e : Env} {s : State} {m : MethodId} {below : List Frame} {meth : Method} {c : Code} {Q : State → Prop} {D : va_G} {cyI cyL : ClassId} {b L : Nat} {xs : Nat → Int32} {h0 ac ay ap h1 bc bf bg oa : Nat} {i cells slots : Nat} {H : Heap} {locs : List Loc} {ls : Array Slot} {mk wr : Nat} {ch fy fp rc ff gg : Nat → Nat} {th yr mo da : Int32} {og : Nat → Int64} (hfl : l.stackTraces = false) (C0 : pl_C p s m c D cyI cyL b L xs) (hI : pz_inv mk wr ch fy fp rc ff gg) (hP : va_P D vwCl [(h0, .inr (0, [.ref ac, .ref ay, .ref ap, .int (nI mk)])), (ac, .inl (cyI, 365, .inl (pz_ar ch))), (ay, .inl (cyI, 60, .inl (pz_ar fy))), (ap, .inl (cyI, 60, .inl (pz_ar fp))), (h1, .inr (1, [.int th, .int yr, .int mo, .int da, .int (nI mk), .ref bc, .ref bf, .ref bg, .int (nI wr)])), (bc, .inl (cyI, 366, .inl (pz_ar rc))), (bf, .inl (cyI, 3001, .inl (pz_ar ff))), (bg, .inl (cyI, 3001, .inl (pz_ar gg))), (oa, .inl (cyL, 1, .inr (.inl og)))] H) (hD : va_D (fun q : Nat => s.heap.size ≤ q) [(h0, .inr (0, [.ref ac, .ref ay, .ref ap, .int (nI mk)])), (ac, .inl (cyI, 365, .inl (pz_ar ch))), (ay, .inl (cyI, 60, .inl (pz_ar fy))), (ap, .inl (cyI, 60, .inl (pz_ar fp))), (h1, .inr (1, [.int th, .int yr, .int mo, .int da, .int (nI mk), .ref bc, .ref bf, .ref bg, .int (nI wr)])), (bc, .inl (cyI, 366, .inl (pz_ar rc))), (bf, .inl (cyI, 3001, .inl (pz_ar ff))), (bg, .inl (cyI, 3001, .inl (pz_ar gg))), (oa, .inl (cyL, 1, .inr (.inl og)))]) (hS : va_S (fun q : Nat => s.heap.size ≤ q) s.heap H locs) (hl : lv_has ls 7 [(0, .ref b), (1, .ref h0), (2, .ref h1), (3, .ref oa), (4, .int (nI i))]) (hi : i + 6 ≤ L) (hr1 : cells + 1 ≤ 1049) (hs1 : slots + 6 ≤ 15155) (KK : ∀ (H : Heap) (locs : List Loc) (ls : Array Slot), pl_G s D cyI cyL b h0 ac ay ap h1 bc bf bg oa H locs ls i → W p l e room_1 s m #[Value.ref b] below meth c H locs (cells + 1) (slots + 6) Q (F0 m 2234 ls [])) {y mm : Nat} {x3 x4 x5 : Int32} (hk1 : xs (i + 1) = (nI y)) (hk2 : xs (i + 2) = (nI mm)) (hk3 : xs (i + 3) = x3) (hk4 : xs (i + 4) = x4) (hk5 : xs (i + 5) = x5) (hy0 : 1 ≤ y) (hy1 : y ≤ 3000) (hy2 : 1 ≤ mm) (hy3 : mm ≤ 12) (hy4 : ¬ (0 ≤ x3.toInt ∧ x3.toInt ≤ 2 ∧ 1 ≤ x4.toInt)) (hz : x5.toInt = 0) : W p l e room_1 s m #[Value.ref b] below meth c H locs cells slots Q (F0 m 816 ls []) := by
  obtain ⟨hx, hb, hml, hown, hts, hX, hbl, hK, hth, hnc, hL⟩ := C0
  have hA : ∀ q : Nat, s.heap.size ≤ q → (fun q : Nat => s.heap.size ≤ q) q := fun _ h => h
  have f0 : cells + 0 ≤ room_1.cells ∧ slots + 0 ≤ room_1.slots := ⟨Nat.le_trans (Nat.le_succ cells) hr1, Nat.le_trans (Nat.le_add_right slots 6) hs1⟩
  have f1 : cells + 1 ≤ room_1.cells ∧ slots + 6 ≤ room_1.slots := ⟨hr1, hs1⟩
  have f2 : (cells + 1) + 0 ≤ room_1.cells ∧ (slots + 6) + 0 ≤ room_1.slots := f1
  refine lv_aload_n hx hb dL_law_816 rfl (lv_at hl 1 rfl) ?_
  refine lv_aload_n hx hb dL_law_817 rfl (lv_at hl 0 rfl) ?_
  refine lv_iload hx hb dL_law_818 (lv_at hl 4 rfl) ?_
  refine lv_iconst (v := nI 1) hx hb dL_law_820 (by decide) ?_
  refine pn_iadd hx hb dL_law_821 ?_
  refine pn_sld hx hb hX hbl hS (by omega) hL hk1 dL_law_822 ?_
  refine lv_aload_n hx hb dL_law_823 rfl (lv_at hl 0 rfl) ?_
  refine lv_iload hx hb dL_law_824 (lv_at hl 4 rfl) ?_
  refine lv_iconst (v := nI 2) hx hb dL_law_826 (by decide) ?_
  refine pn_iadd hx hb dL_law_827 ?_
  refine pn_sld hx hb hX hbl hS (by omega) hL hk2 dL_law_828 ?_
  refine lv_aload_n hx hb dL_law_829 rfl (lv_at hl 0 rfl) ?_
  refine lv_iload hx hb dL_law_830 (lv_at hl 4 rfl) ?_
  refine lv_iconst (v := nI 3) hx hb dL_law_832 (by decide) ?_
  refine pn_iadd hx hb dL_law_833 ?_
  refine pn_sld hx hb hX hbl hS (by omega) hL hk3 dL_law_834 ?_
  refine lv_aload_n hx hb dL_law_835 rfl (lv_at hl 0 rfl) ?_
  refine lv_iload hx hb dL_law_836 (lv_at hl 4 rfl) ?_
  refine lv_iconst (v := nI 4) hx hb dL_law_838 (by decide) ?_
  refine pn_iadd hx hb dL_law_839 ?_
  refine pn_sld hx hb hX hbl hS (by omega) hL hk4 dL_law_840 ?_
  refine lv_aload_n hx hb dL_law_841 rfl (lv_at hl 0 rfl) ?_
  refine lv_iload hx hb dL_law_842 (lv_at hl 4 rfl) ?_
  refine lv_iconst (v := nI 5) hx hb dL_law_844 (by decide) ?_
  refine pn_iadd hx hb dL_law_845 ?_
  refine pn_sld hx hb hX hbl hS (by omega) hL hk5 dL_law_846 ?_
  refine pi_if_eq (tgt := 854) (a := x5.toInt) hx hb rfl dL_law_847 (by decide) (fun _ => ?_) (fun h9 => absurd hz h9)
  refine lv_iconst (v := nI 0) hx hb dL_law_854 (by decide) ?_
  refine lv_aload_n hx hb dL_law_855 rfl (lv_at hl 3 rfl) ?_
  refine pz_SRX (rest := []) ⟨hx, hb, hml, hown, hts⟩ (k_L_fromCount_x2 l hfl D h0 ac ay ap oa cyI cyL ([]) mk ch fy fp og y mm x3 x4 (nI 0) (by exact hy4) (by omega) (by omega) (by omega) (by omega)) (vx_cwSW 7 hts gL_law_L_fromCount rfl rfl rfl (by decide +kernel) ⟨Nat.le_of_ble_eq_true rfl, Nat.le_of_ble_eq_true rfl⟩) hK hP (hD.weaken (fun _ _ _ _ => trivial)) hS hth hnc [0, 1, 2, 3, 8] rfl rfl rfl rfl hl.1 rfl (lv_room (Nat.le_of_ble_eq_true rfl)) dL_law_856 f1 (fun r H locs hr hP hS => ?_)
  obtain rfl : r = nI 2 := hr
  refine lv_istore (lv' := [(5, .int (nI 2)), (0, .ref b), (1, .ref h0), (2, .ref h1), (3, .ref oa), (4, .int (nI i))]) hx hb dL_law_859 hl (by decide) rfl (fun ls hl => ?_)
  refine lv_aload_n hx hb dL_law_861 rfl (lv_at hl 3 rfl) ?_
  refine lv_aload_n hx hb dL_law_862 rfl (lv_at hl 1 rfl) ?_
  refine lv_iload hx hb dL_law_863 (lv_at hl 5 rfl) ?_
  refine lv_iconst (v := nI 1) hx hb dL_law_865 (by decide) ?_
  refine pn_iadd hx hb dL_law_866 ?_
  refine pn_sld hx hb hX hbl hS (by omega) hL hk1 dL_law_867 ?_
  refine lv_aload_n hx hb dL_law_868 rfl (lv_at hl 1 rfl) ?_
  refine lv_iload hx hb dL_law_869 (lv_at hl 5 rfl) ?_
  refine lv_iconst (v := nI 2) hx hb dL_law_871 (by decide) ?_
  refine pn_iadd hx hb dL_law_872 ?_
  refine pn_sld hx hb hX hbl hS (by omega) hL hk2 dL_law_873 ?_
  refine lv_aload_n hx hb dL_law_874 rfl (lv_at hl 1 rfl) ?_
  refine lv_iload hx hb dL_law_875 (lv_at hl 5 rfl) ?_
  refine lv_iconst (v := nI 3) hx hb dL_law_877 (by decide) ?_
  refine pn_iadd hx hb dL_law_878 ?_
  refine pn_sld hx hb hX hbl hS (by omega) hL hk3 dL_law_879 ?_
  refine lv_aload_n hx hb dL_law_880 rfl (lv_at hl 1 rfl) ?_
  refine lv_iload hx hb dL_law_881 (lv_at hl 5 rfl) ?_
  refine lv_iconst (v := nI 4) hx hb dL_law_883 (by decide) ?_
  refine pn_iadd hx hb dL_law_884 ?_
  refine pn_sld hx hb hX hbl hS (by omega) hL hk4 dL_law_885 ?_
  refine lv_aload_n hx hb dL_law_886 rfl (lv_at hl 1 rfl) ?_
  refine lv_iload hx hb dL_law_887 (lv_at hl 5 rfl) ?_
  refine lv_iconst (v := nI 5) hx hb dL_law_889 (by decide) ?_
  refine pn_iadd hx hb dL_law_890 ?_
  refine pn_sld hx hb hX hbl hS (by omega) hL hk5 dL_law_891 ?_
  refine pi_if_eq (tgt := 899) (a := x5.toInt) hx hb rfl dL_law_892 (by decide) (fun _ => ?_) (fun h9 => absurd hz h9)
  refine lv_iconst (v := nI 0) hx hb dL_law_899 (by decide) ?_
  refine pz_VI (rest := []) (wr := [(h0, .inr (0, [.ref ac, .ref ay, .ref ap, .int (nI mk)])), (ac, .inl (cyI, 365, .inl (pz_ar ch))), (ay, .inl (cyI, 60, .inl (pz_ar fy))), (ap, .inl (cyI, 60, .inl (pz_ar fp))), (oa, .inl (cyL, 1, .inr (.inl og)))]) ⟨hx, hb, hml, hown, hts⟩ (k_X1_fromCount_x2 l D h1 bc bf bg cyI ([(cyL, .long)]) th yr mo da mk wr rc ff gg y mm x3 x4 (nI 0) (by exact hy4) (by omega) (by omega) (by omega) (by omega)) (cwV 5 hts gL_law_X1_fromCount rfl rfl rfl (by decide +kernel) ⟨Nat.le_of_ble_eq_true rfl, Nat.le_of_ble_eq_true rfl⟩) hK hP hD hS hA [4, 5, 6, 7] [0, 1, 2, 3, 8] rfl rfl rfl rfl rfl (by decide) 4 1 rfl rfl rfl hl.1 rfl (lv_room (Nat.le_of_ble_eq_true rfl)) dL_law_900 f2 (fun r u H locs hr hP hD hS => ?_)
  have hP : va_P D vwCl [(h0, .inr (0, [.ref ac, .ref ay, .ref ap, .int (nI mk)])), (ac, .inl (cyI, 365, .inl (pz_ar ch))), (ay, .inl (cyI, 60, .inl (pz_ar fy))), (ap, .inl (cyI, 60, .inl (pz_ar fp))), (oa, .inl (cyL, 1, .inr (.inl og))), (h1, .inr (1, [.int (nI 2), .int yr, .int mo, .int da, .int (nI mk), .ref bc, .ref bf, .ref bg, .int (nI wr)])), (bc, .inl (cyI, 366, .inl (pz_ar rc))), (bf, .inl (cyI, 3001, .inl (pz_ar ff))), (bg, .inl (cyI, 3001, .inl (pz_ar gg)))] H := hP
  have hD : va_D (fun q : Nat => s.heap.size ≤ q) [(h0, .inr (0, [.ref ac, .ref ay, .ref ap, .int (nI mk)])), (ac, .inl (cyI, 365, .inl (pz_ar ch))), (ay, .inl (cyI, 60, .inl (pz_ar fy))), (ap, .inl (cyI, 60, .inl (pz_ar fp))), (oa, .inl (cyL, 1, .inr (.inl og))), (h1, .inr (1, [.int (nI 2), .int yr, .int mo, .int da, .int (nI mk), .ref bc, .ref bf, .ref bg, .int (nI wr)])), (bc, .inl (cyI, 366, .inl (pz_ar rc))), (bf, .inl (cyI, 3001, .inl (pz_ar ff))), (bg, .inl (cyI, 3001, .inl (pz_ar gg)))] := hD
  obtain rfl : r = (nI 0) := hr
  refine lv_istore (lv' := [(6, .int (nI 0)), (5, .int (nI 2)), (0, .ref b), (1, .ref h0), (2, .ref h1), (3, .ref oa), (4, .int (nI i))]) hx hb dL_law_903 hl (by decide) rfl (fun ls hl => ?_)
  refine lv_aload_n hx hb dL_law_905 rfl (lv_at hl 4 rfl) ?_
  refine pz_VR (rest := []) ⟨hx, hb, hml, hown, hts⟩ (k_X1_thrown l D h1 bc bf bg cyI ([(cyL, .long)]) (nI 2) yr mo da mk wr rc ff gg  ) (cwV 0 hts gL_law_X1_thrown rfl rfl rfl (by decide +kernel) ⟨Nat.le_of_ble_eq_true rfl, Nat.le_of_ble_eq_true rfl⟩) hK hP (hD.weaken (fun _ _ _ _ => trivial)) hS hA [5, 6, 7, 8] rfl rfl rfl 5 1 rfl rfl rfl hl.1 rfl (lv_room (Nat.le_of_ble_eq_true rfl)) dL_law_906 f2 (fun r H locs hr hP hS => ?_)
  obtain rfl : r = (nI 2) := hr
  refine lv_iload hx hb dL_law_909 (lv_at hl 1 rfl) ?_
  refine pn_icmp_eq (tgt := 916) hx hb (by omega) (by omega) dL_law_911 (by decide) (fun _ => ?_) (fun c_5 => absurd c_5 (by decide))
  refine lv_iload hx hb dL_law_916 (lv_at hl 1 rfl) ?_
  refine pn_if_ne (tgt := 933) hx hb (by omega) dL_law_918 (by decide) (fun _ => ?_) (fun c_6 => absurd c_6 (by decide))
  refine lv_goto (tgt := 2234) hx hb dL_law_933 (by decide) ?_
  exact KK H locs ls ⟨mk, wr, ch, fy, fp, rc, ff, gg, (nI 2), yr, mo, da, og, (by exact hI), hP.sub (ws' := [(h0, .inr (0, [.ref ac, .ref ay, .ref ap, .int (nI mk)])), (ac, .inl (cyI, 365, .inl (pz_ar ch))), (ay, .inl (cyI, 60, .inl (pz_ar fy))), (ap, .inl (cyI, 60, .inl (pz_ar fp))), (h1, .inr (1, [.int (nI 2), .int yr, .int mo, .int da, .int (nI mk), .ref bc, .ref bf, .ref bg, .int (nI wr)])), (bc, .inl (cyI, 366, .inl (pz_ar rc))), (bf, .inl (cyI, 3001, .inl (pz_ar ff))), (bg, .inl (cyI, 3001, .inl (pz_ar gg))), (oa, .inl (cyL, 1, .inr (.inl og)))]) [0, 1, 2, 3, 5, 6, 7, 8, 4] rfl, hD.sub (ws' := [(h0, .inr (0, [.ref ac, .ref ay, .ref ap, .int (nI mk)])), (ac, .inl (cyI, 365, .inl (pz_ar ch))), (ay, .inl (cyI, 60, .inl (pz_ar fy))), (ap, .inl (cyI, 60, .inl (pz_ar fp))), (h1, .inr (1, [.int (nI 2), .int yr, .int mo, .int da, .int (nI mk), .ref bc, .ref bf, .ref bg, .int (nI wr)])), (bc, .inl (cyI, 366, .inl (pz_ar rc))), (bf, .inl (cyI, 3001, .inl (pz_ar ff))), (bg, .inl (cyI, 3001, .inl (pz_ar gg))), (oa, .inl (cyL, 1, .inr (.inl og)))]) [0, 1, 2, 3, 5, 6, 7, 8, 4] (by decide) rfl, hS, lv_sub hl [2, 3, 4, 5, 6] rfl⟩
set_option maxHeartbeats 4000000 in
set_option maxRecDepth 100000 in
theorem kw_fromCount_x3_0 {p : Program} {l : Launch} {e : Env} {s : State} {m : MethodId} {below : List Frame} {meth : Method} {c : Code} {Q : State → Prop} {D : va_G} {cyI cyL : ClassId} {b L : Nat} {xs : Nat → Int32} {h0 ac ay ap h1 bc bf bg oa : Nat} {i cells slots : Nat} {H : Heap} {locs : List Loc} {ls : Array Slot} {mk wr : Nat} {ch fy fp rc ff gg : Nat → Nat} {th yr mo da : Int32} {og : Nat → Int64} (hfl : l.stackTraces = false) (C0 : pl_C p s m c D cyI cyL b L xs) (hI : pz_inv mk wr ch fy fp rc ff gg) (hP : va_P D vwCl [(h0, .inr (0, [.ref ac, .ref ay, .ref ap, .int (nI mk)])), (ac, .inl (cyI, 365, .inl (pz_ar ch))), (ay, .inl (cyI, 60, .inl (pz_ar fy))), (ap, .inl (cyI, 60, .inl (pz_ar fp))), (h1, .inr (1, [.int th, .int yr, .int mo, .int da, .int (nI mk), .ref bc, .ref bf, .ref bg, .int (nI wr)])), (bc, .inl (cyI, 366, .inl (pz_ar rc))), (bf, .inl (cyI, 3001, .inl (pz_ar ff))), (bg, .inl (cyI, 3001, .inl (pz_ar gg))), (oa, .inl (cyL, 1, .inr (.inl og)))] H) (hD : va_D (fun q : Nat => s.heap.size ≤ q) [(h0, .inr (0, [.ref ac, .ref ay, .ref ap, .int (nI mk)])), (ac, .inl (cyI, 365, .inl (pz_ar ch))), (ay, .inl (cyI, 60, .inl (pz_ar fy))), (ap, .inl (cyI, 60, .inl (pz_ar fp))), (h1, .inr (1, [.int th, .int yr, .int mo, .int da, .int (nI mk), .ref bc, .ref bf, .ref bg, .int (nI wr)])), (bc, .inl (cyI, 366, .inl (pz_ar rc))), (bf, .inl (cyI, 3001, .inl (pz_ar ff))), (bg, .inl (cyI, 3001, .inl (pz_ar gg))), (oa, .inl (cyL, 1, .inr (.inl og)))]) (hS : va_S (fun q : Nat => s.heap.size ≤ q) s.heap H locs) (hl : lv_has ls 7 [(0, .ref b), (1, .ref h0), (2, .ref h1), (3, .ref oa), (4, .int (nI i))]) (hi : i + 6 ≤ L) (hr1 : cells + 1 ≤ 1049) (hs1 : slots + 6 ≤ 15155) (KK : ∀ (H : Heap) (locs : List Loc) (ls : Array Slot), pl_G s D cyI cyL b h0 ac ay ap h1 bc bf bg oa H locs ls i → W p l e room_1 s m #[Value.ref b] below meth c H locs (cells + 1) (slots + 6) Q (F0 m 2234 ls [])) {y mm a k : Nat} {x5 : Int32} (hk1 : xs (i + 1) = (nI y)) (hk2 : xs (i + 2) = (nI mm)) (hk3 : xs (i + 3) = (nI a)) (hk4 : xs (i + 4) = (nI k)) (hk5 : xs (i + 5) = x5) (hy0 : 1 ≤ y) (hy1 : y ≤ 3000) (hy2 : 1 ≤ mm) (hy3 : mm ≤ 12) (hy4 : a ≤ 2) (hy5 : 1 ≤ k) (hy6 : k < 2147483648) (hy7 : ¬ (k ≤ pm_gc mm a ∧ (0 = 1 → (y % 4 = 0 ∧ mm = 3 ∧ a = 0 ∧ k = 6)))) (hz : x5.toInt = 0) : W p l e room_1 s m #[Value.ref b] below meth c H locs cells slots Q (F0 m 816 ls []) := by
  obtain ⟨hx, hb, hml, hown, hts, hX, hbl, hK, hth, hnc, hL⟩ := C0
  have hA : ∀ q : Nat, s.heap.size ≤ q → (fun q : Nat => s.heap.size ≤ q) q := fun _ h => h
  have f0 : cells + 0 ≤ room_1.cells ∧ slots + 0 ≤ room_1.slots := ⟨Nat.le_trans (Nat.le_succ cells) hr1, Nat.le_trans (Nat.le_add_right slots 6) hs1⟩
  have f1 : cells + 1 ≤ room_1.cells ∧ slots + 6 ≤ room_1.slots := ⟨hr1, hs1⟩
  have f2 : (cells + 1) + 0 ≤ room_1.cells ∧ (slots + 6) + 0 ≤ room_1.slots := f1
  refine lv_aload_n hx hb dL_law_816 rfl (lv_at hl 1 rfl) ?_
  refine lv_aload_n hx hb dL_law_817 rfl (lv_at hl 0 rfl) ?_
  refine lv_iload hx hb dL_law_818 (lv_at hl 4 rfl) ?_
  refine lv_iconst (v := nI 1) hx hb dL_law_820 (by decide) ?_
  refine pn_iadd hx hb dL_law_821 ?_
  refine pn_sld hx hb hX hbl hS (by omega) hL hk1 dL_law_822 ?_
  refine lv_aload_n hx hb dL_law_823 rfl (lv_at hl 0 rfl) ?_
  refine lv_iload hx hb dL_law_824 (lv_at hl 4 rfl) ?_
  refine lv_iconst (v := nI 2) hx hb dL_law_826 (by decide) ?_
  refine pn_iadd hx hb dL_law_827 ?_
  refine pn_sld hx hb hX hbl hS (by omega) hL hk2 dL_law_828 ?_
  refine lv_aload_n hx hb dL_law_829 rfl (lv_at hl 0 rfl) ?_
  refine lv_iload hx hb dL_law_830 (lv_at hl 4 rfl) ?_
  refine lv_iconst (v := nI 3) hx hb dL_law_832 (by decide) ?_
  refine pn_iadd hx hb dL_law_833 ?_
  refine pn_sld hx hb hX hbl hS (by omega) hL hk3 dL_law_834 ?_
  refine lv_aload_n hx hb dL_law_835 rfl (lv_at hl 0 rfl) ?_
  refine lv_iload hx hb dL_law_836 (lv_at hl 4 rfl) ?_
  refine lv_iconst (v := nI 4) hx hb dL_law_838 (by decide) ?_
  refine pn_iadd hx hb dL_law_839 ?_
  refine pn_sld hx hb hX hbl hS (by omega) hL hk4 dL_law_840 ?_
  refine lv_aload_n hx hb dL_law_841 rfl (lv_at hl 0 rfl) ?_
  refine lv_iload hx hb dL_law_842 (lv_at hl 4 rfl) ?_
  refine lv_iconst (v := nI 5) hx hb dL_law_844 (by decide) ?_
  refine pn_iadd hx hb dL_law_845 ?_
  refine pn_sld hx hb hX hbl hS (by omega) hL hk5 dL_law_846 ?_
  refine pi_if_eq (tgt := 854) (a := x5.toInt) hx hb rfl dL_law_847 (by decide) (fun _ => ?_) (fun h9 => absurd hz h9)
  refine lv_iconst (v := nI 0) hx hb dL_law_854 (by decide) ?_
  refine lv_aload_n hx hb dL_law_855 rfl (lv_at hl 3 rfl) ?_
  refine pz_SRX (rest := []) ⟨hx, hb, hml, hown, hts⟩ (k_L_fromCount_x3 l hfl D h0 ac ay ap oa cyI cyL ([]) mk ch fy fp og y mm a k 0 (by exact hy7) (by omega) (by omega) (by omega) (by omega) (by omega) (by omega) (by omega) (by decide)) (vx_cwSW 7 hts gL_law_L_fromCount rfl rfl rfl (by decide +kernel) ⟨Nat.le_of_ble_eq_true rfl, Nat.le_of_ble_eq_true rfl⟩) hK hP (hD.weaken (fun _ _ _ _ => trivial)) hS hth hnc [0, 1, 2, 3, 8] rfl rfl rfl rfl hl.1 rfl (lv_room (Nat.le_of_ble_eq_true rfl)) dL_law_856 f1 (fun r H locs hr hP hS => ?_)
  obtain rfl : r = nI 3 := hr
  refine lv_istore (lv' := [(5, .int (nI 3)), (0, .ref b), (1, .ref h0), (2, .ref h1), (3, .ref oa), (4, .int (nI i))]) hx hb dL_law_859 hl (by decide) rfl (fun ls hl => ?_)
  refine lv_aload_n hx hb dL_law_861 rfl (lv_at hl 3 rfl) ?_
  refine lv_aload_n hx hb dL_law_862 rfl (lv_at hl 1 rfl) ?_
  refine lv_iload hx hb dL_law_863 (lv_at hl 5 rfl) ?_
  refine lv_iconst (v := nI 1) hx hb dL_law_865 (by decide) ?_
  refine pn_iadd hx hb dL_law_866 ?_
  refine pn_sld hx hb hX hbl hS (by omega) hL hk1 dL_law_867 ?_
  refine lv_aload_n hx hb dL_law_868 rfl (lv_at hl 1 rfl) ?_
  refine lv_iload hx hb dL_law_869 (lv_at hl 5 rfl) ?_
  refine lv_iconst (v := nI 2) hx hb dL_law_871 (by decide) ?_
  refine pn_iadd hx hb dL_law_872 ?_
  refine pn_sld hx hb hX hbl hS (by omega) hL hk2 dL_law_873 ?_
  refine lv_aload_n hx hb dL_law_874 rfl (lv_at hl 1 rfl) ?_
  refine lv_iload hx hb dL_law_875 (lv_at hl 5 rfl) ?_
  refine lv_iconst (v := nI 3) hx hb dL_law_877 (by decide) ?_
  refine pn_iadd hx hb dL_law_878 ?_
  refine pn_sld hx hb hX hbl hS (by omega) hL hk3 dL_law_879 ?_
  refine lv_aload_n hx hb dL_law_880 rfl (lv_at hl 1 rfl) ?_
  refine lv_iload hx hb dL_law_881 (lv_at hl 5 rfl) ?_
  refine lv_iconst (v := nI 4) hx hb dL_law_883 (by decide) ?_
  refine pn_iadd hx hb dL_law_884 ?_
  refine pn_sld hx hb hX hbl hS (by omega) hL hk4 dL_law_885 ?_
  refine lv_aload_n hx hb dL_law_886 rfl (lv_at hl 1 rfl) ?_
  refine lv_iload hx hb dL_law_887 (lv_at hl 5 rfl) ?_
  refine lv_iconst (v := nI 5) hx hb dL_law_889 (by decide) ?_
  refine pn_iadd hx hb dL_law_890 ?_
  refine pn_sld hx hb hX hbl hS (by omega) hL hk5 dL_law_891 ?_
  refine pi_if_eq (tgt := 899) (a := x5.toInt) hx hb rfl dL_law_892 (by decide) (fun _ => ?_) (fun h9 => absurd hz h9)
  refine lv_iconst (v := nI 0) hx hb dL_law_899 (by decide) ?_
  refine pz_VI (rest := []) (wr := [(h0, .inr (0, [.ref ac, .ref ay, .ref ap, .int (nI mk)])), (ac, .inl (cyI, 365, .inl (pz_ar ch))), (ay, .inl (cyI, 60, .inl (pz_ar fy))), (ap, .inl (cyI, 60, .inl (pz_ar fp))), (oa, .inl (cyL, 1, .inr (.inl og)))]) ⟨hx, hb, hml, hown, hts⟩ (k_X1_fromCount_x3 l D h1 bc bf bg cyI ([(cyL, .long)]) th yr mo da mk wr rc ff gg y mm a k 0 (by omega) (by omega) (by omega) (by omega) (by omega) (by omega) (by omega) (by decide) (by exact pm_fc_n hy0 hy7)) (cwV 5 hts gL_law_X1_fromCount rfl rfl rfl (by decide +kernel) ⟨Nat.le_of_ble_eq_true rfl, Nat.le_of_ble_eq_true rfl⟩) hK hP hD hS hA [4, 5, 6, 7] [0, 1, 2, 3, 8] rfl rfl rfl rfl rfl (by decide) 4 1 rfl rfl rfl hl.1 rfl (lv_room (Nat.le_of_ble_eq_true rfl)) dL_law_900 f2 (fun r u H locs hr hP hD hS => ?_)
  obtain ⟨yv_3, mv_3, dv_3⟩ := u
  have hP : va_P D vwCl [(h0, .inr (0, [.ref ac, .ref ay, .ref ap, .int (nI mk)])), (ac, .inl (cyI, 365, .inl (pz_ar ch))), (ay, .inl (cyI, 60, .inl (pz_ar fy))), (ap, .inl (cyI, 60, .inl (pz_ar fp))), (oa, .inl (cyL, 1, .inr (.inl og))), (h1, .inr (1, [.int (nI 3), .int yv_3, .int mv_3, .int dv_3, .int (nI mk), .ref bc, .ref bf, .ref bg, .int (nI wr)])), (bc, .inl (cyI, 366, .inl (pz_ar rc))), (bf, .inl (cyI, 3001, .inl (pz_ar ff))), (bg, .inl (cyI, 3001, .inl (pz_ar gg)))] H := hP
  have hD : va_D (fun q : Nat => s.heap.size ≤ q) [(h0, .inr (0, [.ref ac, .ref ay, .ref ap, .int (nI mk)])), (ac, .inl (cyI, 365, .inl (pz_ar ch))), (ay, .inl (cyI, 60, .inl (pz_ar fy))), (ap, .inl (cyI, 60, .inl (pz_ar fp))), (oa, .inl (cyL, 1, .inr (.inl og))), (h1, .inr (1, [.int (nI 3), .int yv_3, .int mv_3, .int dv_3, .int (nI mk), .ref bc, .ref bf, .ref bg, .int (nI wr)])), (bc, .inl (cyI, 366, .inl (pz_ar rc))), (bf, .inl (cyI, 3001, .inl (pz_ar ff))), (bg, .inl (cyI, 3001, .inl (pz_ar gg)))] := hD
  obtain rfl : r = (nI 0) := hr
  refine lv_istore (lv' := [(6, .int (nI 0)), (5, .int (nI 3)), (0, .ref b), (1, .ref h0), (2, .ref h1), (3, .ref oa), (4, .int (nI i))]) hx hb dL_law_903 hl (by decide) rfl (fun ls hl => ?_)
  refine lv_aload_n hx hb dL_law_905 rfl (lv_at hl 4 rfl) ?_
  refine pz_VR (rest := []) ⟨hx, hb, hml, hown, hts⟩ (k_X1_thrown l D h1 bc bf bg cyI ([(cyL, .long)]) (nI 3) yv_3 mv_3 dv_3 mk wr rc ff gg  ) (cwV 0 hts gL_law_X1_thrown rfl rfl rfl (by decide +kernel) ⟨Nat.le_of_ble_eq_true rfl, Nat.le_of_ble_eq_true rfl⟩) hK hP (hD.weaken (fun _ _ _ _ => trivial)) hS hA [5, 6, 7, 8] rfl rfl rfl 5 1 rfl rfl rfl hl.1 rfl (lv_room (Nat.le_of_ble_eq_true rfl)) dL_law_906 f2 (fun r H locs hr hP hS => ?_)
  obtain rfl : r = (nI 3) := hr
  refine lv_iload hx hb dL_law_909 (lv_at hl 1 rfl) ?_
  refine pn_icmp_eq (tgt := 916) hx hb (by omega) (by omega) dL_law_911 (by decide) (fun _ => ?_) (fun c_5 => absurd c_5 (by decide))
  refine lv_iload hx hb dL_law_916 (lv_at hl 1 rfl) ?_
  refine pn_if_ne (tgt := 933) hx hb (by omega) dL_law_918 (by decide) (fun _ => ?_) (fun c_6 => absurd c_6 (by decide))
  refine lv_goto (tgt := 2234) hx hb dL_law_933 (by decide) ?_
  exact KK H locs ls ⟨mk, wr, ch, fy, fp, rc, ff, gg, (nI 3), yv_3, mv_3, dv_3, og, (by exact hI), hP.sub (ws' := [(h0, .inr (0, [.ref ac, .ref ay, .ref ap, .int (nI mk)])), (ac, .inl (cyI, 365, .inl (pz_ar ch))), (ay, .inl (cyI, 60, .inl (pz_ar fy))), (ap, .inl (cyI, 60, .inl (pz_ar fp))), (h1, .inr (1, [.int (nI 3), .int yv_3, .int mv_3, .int dv_3, .int (nI mk), .ref bc, .ref bf, .ref bg, .int (nI wr)])), (bc, .inl (cyI, 366, .inl (pz_ar rc))), (bf, .inl (cyI, 3001, .inl (pz_ar ff))), (bg, .inl (cyI, 3001, .inl (pz_ar gg))), (oa, .inl (cyL, 1, .inr (.inl og)))]) [0, 1, 2, 3, 5, 6, 7, 8, 4] rfl, hD.sub (ws' := [(h0, .inr (0, [.ref ac, .ref ay, .ref ap, .int (nI mk)])), (ac, .inl (cyI, 365, .inl (pz_ar ch))), (ay, .inl (cyI, 60, .inl (pz_ar fy))), (ap, .inl (cyI, 60, .inl (pz_ar fp))), (h1, .inr (1, [.int (nI 3), .int yv_3, .int mv_3, .int dv_3, .int (nI mk), .ref bc, .ref bf, .ref bg, .int (nI wr)])), (bc, .inl (cyI, 366, .inl (pz_ar rc))), (bf, .inl (cyI, 3001, .inl (pz_ar ff))), (bg, .inl (cyI, 3001, .inl (pz_ar gg))), (oa, .inl (cyL, 1, .inr (.inl og)))]) [0, 1, 2, 3, 5, 6, 7, 8, 4] (by decide) rfl, hS, lv_sub hl [2, 3, 4, 5, 6] rfl⟩
set_option maxHeartbeats 4000000 in
set_option maxRecDepth 100000 in
theorem kw_fromCount_a_0 {p : Program} {l : Launch} {e : Env} {s : State} {m : MethodId} {below : List Frame} {meth : Method} {c : Code} {Q : State → Prop} {D : va_G} {cyI cyL : ClassId} {b L : Nat} {xs : Nat → Int32} {h0 ac ay ap h1 bc bf bg oa : Nat} {i cells slots : Nat} {H : Heap} {locs : List Loc} {ls : Array Slot} {mk wr : Nat} {ch fy fp rc ff gg : Nat → Nat} {th yr mo da : Int32} {og : Nat → Int64} (hfl : l.stackTraces = false) (C0 : pl_C p s m c D cyI cyL b L xs) (hI : pz_inv mk wr ch fy fp rc ff gg) (hP : va_P D vwCl [(h0, .inr (0, [.ref ac, .ref ay, .ref ap, .int (nI mk)])), (ac, .inl (cyI, 365, .inl (pz_ar ch))), (ay, .inl (cyI, 60, .inl (pz_ar fy))), (ap, .inl (cyI, 60, .inl (pz_ar fp))), (h1, .inr (1, [.int th, .int yr, .int mo, .int da, .int (nI mk), .ref bc, .ref bf, .ref bg, .int (nI wr)])), (bc, .inl (cyI, 366, .inl (pz_ar rc))), (bf, .inl (cyI, 3001, .inl (pz_ar ff))), (bg, .inl (cyI, 3001, .inl (pz_ar gg))), (oa, .inl (cyL, 1, .inr (.inl og)))] H) (hD : va_D (fun q : Nat => s.heap.size ≤ q) [(h0, .inr (0, [.ref ac, .ref ay, .ref ap, .int (nI mk)])), (ac, .inl (cyI, 365, .inl (pz_ar ch))), (ay, .inl (cyI, 60, .inl (pz_ar fy))), (ap, .inl (cyI, 60, .inl (pz_ar fp))), (h1, .inr (1, [.int th, .int yr, .int mo, .int da, .int (nI mk), .ref bc, .ref bf, .ref bg, .int (nI wr)])), (bc, .inl (cyI, 366, .inl (pz_ar rc))), (bf, .inl (cyI, 3001, .inl (pz_ar ff))), (bg, .inl (cyI, 3001, .inl (pz_ar gg))), (oa, .inl (cyL, 1, .inr (.inl og)))]) (hS : va_S (fun q : Nat => s.heap.size ≤ q) s.heap H locs) (hl : lv_has ls 7 [(0, .ref b), (1, .ref h0), (2, .ref h1), (3, .ref oa), (4, .int (nI i))]) (hi : i + 6 ≤ L) (hr1 : cells + 1 ≤ 1049) (hs1 : slots + 6 ≤ 15155) (KK : ∀ (H : Heap) (locs : List Loc) (ls : Array Slot), pl_G s D cyI cyL b h0 ac ay ap h1 bc bf bg oa H locs ls i → W p l e room_1 s m #[Value.ref b] below meth c H locs (cells + 1) (slots + 6) Q (F0 m 2234 ls [])) {y mm a k : Nat} {x5 : Int32} (hk1 : xs (i + 1) = (nI y)) (hk2 : xs (i + 2) = (nI mm)) (hk3 : xs (i + 3) = (nI a)) (hk4 : xs (i + 4) = (nI k)) (hk5 : xs (i + 5) = x5) (hy0 : 1 ≤ y) (hy1 : y ≤ 3000) (hy2 : 1 ≤ mm) (hy3 : mm ≤ 12) (hy4 : a ≤ 2) (hy5 : 1 ≤ k) (hy6 : k ≤ pm_gc mm a) (hy7 : 0 = 1 → (y % 4 = 0 ∧ mm = 3 ∧ a = 0 ∧ k = 6)) (hz : x5.toInt = 0) : W p l e room_1 s m #[Value.ref b] below meth c H locs cells slots Q (F0 m 816 ls []) := by
  obtain ⟨hx, hb, hml, hown, hts, hX, hbl, hK, hth, hnc, hL⟩ := C0
  have hA : ∀ q : Nat, s.heap.size ≤ q → (fun q : Nat => s.heap.size ≤ q) q := fun _ h => h
  have f0 : cells + 0 ≤ room_1.cells ∧ slots + 0 ≤ room_1.slots := ⟨Nat.le_trans (Nat.le_succ cells) hr1, Nat.le_trans (Nat.le_add_right slots 6) hs1⟩
  have f1 : cells + 1 ≤ room_1.cells ∧ slots + 6 ≤ room_1.slots := ⟨hr1, hs1⟩
  have f2 : (cells + 1) + 0 ≤ room_1.cells ∧ (slots + 6) + 0 ≤ room_1.slots := f1
  have hgb := pm_gc_b mm a
  have hg := pm_fc_1 (bd := 0) hy0 hy2 hy3 hy4 hy5 hy6 (by decide) hy7
  refine lv_aload_n hx hb dL_law_816 rfl (lv_at hl 1 rfl) ?_
  refine lv_aload_n hx hb dL_law_817 rfl (lv_at hl 0 rfl) ?_
  refine lv_iload hx hb dL_law_818 (lv_at hl 4 rfl) ?_
  refine lv_iconst (v := nI 1) hx hb dL_law_820 (by decide) ?_
  refine pn_iadd hx hb dL_law_821 ?_
  refine pn_sld hx hb hX hbl hS (by omega) hL hk1 dL_law_822 ?_
  refine lv_aload_n hx hb dL_law_823 rfl (lv_at hl 0 rfl) ?_
  refine lv_iload hx hb dL_law_824 (lv_at hl 4 rfl) ?_
  refine lv_iconst (v := nI 2) hx hb dL_law_826 (by decide) ?_
  refine pn_iadd hx hb dL_law_827 ?_
  refine pn_sld hx hb hX hbl hS (by omega) hL hk2 dL_law_828 ?_
  refine lv_aload_n hx hb dL_law_829 rfl (lv_at hl 0 rfl) ?_
  refine lv_iload hx hb dL_law_830 (lv_at hl 4 rfl) ?_
  refine lv_iconst (v := nI 3) hx hb dL_law_832 (by decide) ?_
  refine pn_iadd hx hb dL_law_833 ?_
  refine pn_sld hx hb hX hbl hS (by omega) hL hk3 dL_law_834 ?_
  refine lv_aload_n hx hb dL_law_835 rfl (lv_at hl 0 rfl) ?_
  refine lv_iload hx hb dL_law_836 (lv_at hl 4 rfl) ?_
  refine lv_iconst (v := nI 4) hx hb dL_law_838 (by decide) ?_
  refine pn_iadd hx hb dL_law_839 ?_
  refine pn_sld hx hb hX hbl hS (by omega) hL hk4 dL_law_840 ?_
  refine lv_aload_n hx hb dL_law_841 rfl (lv_at hl 0 rfl) ?_
  refine lv_iload hx hb dL_law_842 (lv_at hl 4 rfl) ?_
  refine lv_iconst (v := nI 5) hx hb dL_law_844 (by decide) ?_
  refine pn_iadd hx hb dL_law_845 ?_
  refine pn_sld hx hb hX hbl hS (by omega) hL hk5 dL_law_846 ?_
  refine pi_if_eq (tgt := 854) (a := x5.toInt) hx hb rfl dL_law_847 (by decide) (fun _ => ?_) (fun h9 => absurd hz h9)
  refine lv_iconst (v := nI 0) hx hb dL_law_854 (by decide) ?_
  refine lv_aload_n hx hb dL_law_855 rfl (lv_at hl 3 rfl) ?_
  refine pz_SIW (rest := []) (wr := [(h1, .inr (1, [.int th, .int yr, .int mo, .int da, .int (nI mk), .ref bc, .ref bf, .ref bg, .int (nI wr)])), (bc, .inl (cyI, 366, .inl (pz_ar rc))), (bf, .inl (cyI, 3001, .inl (pz_ar ff))), (bg, .inl (cyI, 3001, .inl (pz_ar gg)))]) ⟨hx, hb, hml, hown, hts⟩ (k_L_fromCount l D h0 ac ay ap oa cyI cyL ([]) mk ch fy fp og y mm a k 0 (by omega) (by omega) (by omega) (by omega) (by omega) (by omega) (by omega) (by decide) (by exact hy7)) (vx_cwSW 7 hts gL_law_L_fromCount rfl rfl rfl (by decide +kernel) ⟨Nat.le_of_ble_eq_true rfl, Nat.le_of_ble_eq_true rfl⟩) hK hP hD hS hA [0, 1, 2, 3, 8] [4, 5, 6, 7] rfl rfl rfl rfl rfl (by decide) rfl hl.1 rfl (lv_room (Nat.le_of_ble_eq_true rfl)) dL_law_856 f0 (fun r u H locs hr hP hD hS => ?_)
  obtain ⟨r0, u0⟩ : r = nI 0 ∧ u = nI (pm_fc y mm a k 0) := hr
  subst r0
  subst u0
  have hP : va_P D vwCl [(h1, .inr (1, [.int th, .int yr, .int mo, .int da, .int (nI mk), .ref bc, .ref bf, .ref bg, .int (nI wr)])), (bc, .inl (cyI, 366, .inl (pz_ar rc))), (bf, .inl (cyI, 3001, .inl (pz_ar ff))), (bg, .inl (cyI, 3001, .inl (pz_ar gg))), (h0, .inr (0, [.ref ac, .ref ay, .ref ap, .int (nI mk)])), (ac, .inl (cyI, 365, .inl (pz_ar ch))), (ay, .inl (cyI, 60, .inl (pz_ar fy))), (ap, .inl (cyI, 60, .inl (pz_ar fp))), (oa, .inl (cyL, 1, .inr (.inl (vp_updL og 0 (nI (pm_fc y mm a k 0)).toInt64))))] H := hP
  have hD : va_D (fun q : Nat => s.heap.size ≤ q) [(h1, .inr (1, [.int th, .int yr, .int mo, .int da, .int (nI mk), .ref bc, .ref bf, .ref bg, .int (nI wr)])), (bc, .inl (cyI, 366, .inl (pz_ar rc))), (bf, .inl (cyI, 3001, .inl (pz_ar ff))), (bg, .inl (cyI, 3001, .inl (pz_ar gg))), (h0, .inr (0, [.ref ac, .ref ay, .ref ap, .int (nI mk)])), (ac, .inl (cyI, 365, .inl (pz_ar ch))), (ay, .inl (cyI, 60, .inl (pz_ar fy))), (ap, .inl (cyI, 60, .inl (pz_ar fp))), (oa, .inl (cyL, 1, .inr (.inl (vp_updL og 0 (nI (pm_fc y mm a k 0)).toInt64))))] := hD
  refine lv_istore (lv' := [(5, .int (nI 0)), (0, .ref b), (1, .ref h0), (2, .ref h1), (3, .ref oa), (4, .int (nI i))]) hx hb dL_law_859 hl (by decide) rfl (fun ls hl => ?_)
  refine lv_aload_n hx hb dL_law_861 rfl (lv_at hl 3 rfl) ?_
  refine lv_aload_n hx hb dL_law_862 rfl (lv_at hl 1 rfl) ?_
  refine lv_iload hx hb dL_law_863 (lv_at hl 5 rfl) ?_
  refine lv_iconst (v := nI 1) hx hb dL_law_865 (by decide) ?_
  refine pn_iadd hx hb dL_law_866 ?_
  refine pn_sld hx hb hX hbl hS (by omega) hL hk1 dL_law_867 ?_
  refine lv_aload_n hx hb dL_law_868 rfl (lv_at hl 1 rfl) ?_
  refine lv_iload hx hb dL_law_869 (lv_at hl 5 rfl) ?_
  refine lv_iconst (v := nI 2) hx hb dL_law_871 (by decide) ?_
  refine pn_iadd hx hb dL_law_872 ?_
  refine pn_sld hx hb hX hbl hS (by omega) hL hk2 dL_law_873 ?_
  refine lv_aload_n hx hb dL_law_874 rfl (lv_at hl 1 rfl) ?_
  refine lv_iload hx hb dL_law_875 (lv_at hl 5 rfl) ?_
  refine lv_iconst (v := nI 3) hx hb dL_law_877 (by decide) ?_
  refine pn_iadd hx hb dL_law_878 ?_
  refine pn_sld hx hb hX hbl hS (by omega) hL hk3 dL_law_879 ?_
  refine lv_aload_n hx hb dL_law_880 rfl (lv_at hl 1 rfl) ?_
  refine lv_iload hx hb dL_law_881 (lv_at hl 5 rfl) ?_
  refine lv_iconst (v := nI 4) hx hb dL_law_883 (by decide) ?_
  refine pn_iadd hx hb dL_law_884 ?_
  refine pn_sld hx hb hX hbl hS (by omega) hL hk4 dL_law_885 ?_
  refine lv_aload_n hx hb dL_law_886 rfl (lv_at hl 1 rfl) ?_
  refine lv_iload hx hb dL_law_887 (lv_at hl 5 rfl) ?_
  refine lv_iconst (v := nI 5) hx hb dL_law_889 (by decide) ?_
  refine pn_iadd hx hb dL_law_890 ?_
  refine pn_sld hx hb hX hbl hS (by omega) hL hk5 dL_law_891 ?_
  refine pi_if_eq (tgt := 899) (a := x5.toInt) hx hb rfl dL_law_892 (by decide) (fun _ => ?_) (fun h9 => absurd hz h9)
  refine lv_iconst (v := nI 0) hx hb dL_law_899 (by decide) ?_
  refine pz_VI (rest := []) (wr := [(h0, .inr (0, [.ref ac, .ref ay, .ref ap, .int (nI mk)])), (ac, .inl (cyI, 365, .inl (pz_ar ch))), (ay, .inl (cyI, 60, .inl (pz_ar fy))), (ap, .inl (cyI, 60, .inl (pz_ar fp))), (oa, .inl (cyL, 1, .inr (.inl (vp_updL og 0 (nI (pm_fc y mm a k 0)).toInt64))))]) ⟨hx, hb, hml, hown, hts⟩ (k_X1_fromCount_a l D h1 bc bf bg cyI ([(cyL, .long)]) th yr mo da mk wr rc ff gg y mm a k 0 (pm_fc y mm a k 0) (by omega) (by omega) (by omega) (by omega) (by omega) (by omega) (by omega) (by decide) (by exact hg.1) (by exact hg.2.1) (by exact hg.2.2) (by exact pm_fc_u hy0 hg.2.1)) (cwV 5 hts gL_law_X1_fromCount rfl rfl rfl (by decide +kernel) ⟨Nat.le_of_ble_eq_true rfl, Nat.le_of_ble_eq_true rfl⟩) hK hP hD hS hA [0, 1, 2, 3] [4, 5, 6, 7, 8] rfl rfl rfl rfl rfl (by decide) 0 1 rfl rfl rfl hl.1 rfl (lv_room (Nat.le_of_ble_eq_true rfl)) dL_law_900 f0 (fun r u H locs hr hP hD hS => ?_)
  obtain ⟨yv_3, mv_3, dv_3⟩ := u
  have hP : va_P D vwCl [(h0, .inr (0, [.ref ac, .ref ay, .ref ap, .int (nI mk)])), (ac, .inl (cyI, 365, .inl (pz_ar ch))), (ay, .inl (cyI, 60, .inl (pz_ar fy))), (ap, .inl (cyI, 60, .inl (pz_ar fp))), (oa, .inl (cyL, 1, .inr (.inl (vp_updL og 0 (nI (pm_fc y mm a k 0)).toInt64)))), (h1, .inr (1, [.int (nI 0), .int yv_3, .int mv_3, .int dv_3, .int (nI mk), .ref bc, .ref bf, .ref bg, .int (nI wr)])), (bc, .inl (cyI, 366, .inl (pz_ar rc))), (bf, .inl (cyI, 3001, .inl (pz_ar ff))), (bg, .inl (cyI, 3001, .inl (pz_ar gg)))] H := hP
  have hD : va_D (fun q : Nat => s.heap.size ≤ q) [(h0, .inr (0, [.ref ac, .ref ay, .ref ap, .int (nI mk)])), (ac, .inl (cyI, 365, .inl (pz_ar ch))), (ay, .inl (cyI, 60, .inl (pz_ar fy))), (ap, .inl (cyI, 60, .inl (pz_ar fp))), (oa, .inl (cyL, 1, .inr (.inl (vp_updL og 0 (nI (pm_fc y mm a k 0)).toInt64)))), (h1, .inr (1, [.int (nI 0), .int yv_3, .int mv_3, .int dv_3, .int (nI mk), .ref bc, .ref bf, .ref bg, .int (nI wr)])), (bc, .inl (cyI, 366, .inl (pz_ar rc))), (bf, .inl (cyI, 3001, .inl (pz_ar ff))), (bg, .inl (cyI, 3001, .inl (pz_ar gg)))] := hD
  obtain rfl : r = (nI (pm_fc y mm a k 0)) := hr
  refine lv_istore (lv' := [(6, .int (nI (pm_fc y mm a k 0))), (5, .int (nI 0)), (0, .ref b), (1, .ref h0), (2, .ref h1), (3, .ref oa), (4, .int (nI i))]) hx hb dL_law_903 hl (by decide) rfl (fun ls hl => ?_)
  refine lv_aload_n hx hb dL_law_905 rfl (lv_at hl 4 rfl) ?_
  refine pz_VR (rest := []) ⟨hx, hb, hml, hown, hts⟩ (k_X1_thrown l D h1 bc bf bg cyI ([(cyL, .long)]) (nI 0) yv_3 mv_3 dv_3 mk wr rc ff gg  ) (cwV 0 hts gL_law_X1_thrown rfl rfl rfl (by decide +kernel) ⟨Nat.le_of_ble_eq_true rfl, Nat.le_of_ble_eq_true rfl⟩) hK hP (hD.weaken (fun _ _ _ _ => trivial)) hS hA [5, 6, 7, 8] rfl rfl rfl 5 1 rfl rfl rfl hl.1 rfl (lv_room (Nat.le_of_ble_eq_true rfl)) dL_law_906 f0 (fun r H locs hr hP hS => ?_)
  obtain rfl : r = (nI 0) := hr
  refine lv_iload hx hb dL_law_909 (lv_at hl 1 rfl) ?_
  refine pn_icmp_eq (tgt := 916) hx hb (by omega) (by omega) dL_law_911 (by decide) (fun _ => ?_) (fun c_5 => absurd c_5 (by decide))
  refine lv_iload hx hb dL_law_916 (lv_at hl 1 rfl) ?_
  refine pn_if_ne (tgt := 933) hx hb (by omega) dL_law_918 (by decide) (fun c_6 => absurd c_6 (by decide)) (fun _ => ?_)
  refine lv_aload_n hx hb dL_law_921 rfl (lv_at hl 5 rfl) ?_
  refine lv_iconst (v := nI 0) hx hb dL_law_922 (by decide) ?_
  refine pn_lald hx hb hK hP 4 1 rfl rfl (by decide) (by decide) dL_law_923 ?_
  refine lv_iload hx hb dL_law_924 (lv_at hl 0 rfl) ?_
  refine lv_i2l (v := ((nI (pm_fc y mm a k 0))).toInt64) hx hb dL_law_926 rfl ?_
  refine pn_same hx hb (pz_updL_0.trans (congrArg Int32.toInt64 (by rfl))) dL_law_927 ?_
  refine pn_if_eq (tgt := 933) hx hb (by omega) dL_law_928 (by decide) (fun _ => ?_) (fun c_7 => absurd c_7 (by decide))
  refine lv_goto (tgt := 2234) hx hb dL_law_933 (by decide) ?_
  refine W.widen (k := cells + 1) (n := slots + 6) (Nat.le_succ cells) (Nat.le_add_right slots 6) ?_
  exact KK H locs ls ⟨mk, wr, ch, fy, fp, rc, ff, gg, (nI 0), yv_3, mv_3, dv_3, vp_updL og 0 (nI (pm_fc y mm a k 0)).toInt64, (by exact hI), hP.sub (ws' := [(h0, .inr (0, [.ref ac, .ref ay, .ref ap, .int (nI mk)])), (ac, .inl (cyI, 365, .inl (pz_ar ch))), (ay, .inl (cyI, 60, .inl (pz_ar fy))), (ap, .inl (cyI, 60, .inl (pz_ar fp))), (h1, .inr (1, [.int (nI 0), .int yv_3, .int mv_3, .int dv_3, .int (nI mk), .ref bc, .ref bf, .ref bg, .int (nI wr)])), (bc, .inl (cyI, 366, .inl (pz_ar rc))), (bf, .inl (cyI, 3001, .inl (pz_ar ff))), (bg, .inl (cyI, 3001, .inl (pz_ar gg))), (oa, .inl (cyL, 1, .inr (.inl (vp_updL og 0 (nI (pm_fc y mm a k 0)).toInt64))))]) [0, 1, 2, 3, 5, 6, 7, 8, 4] rfl, hD.sub (ws' := [(h0, .inr (0, [.ref ac, .ref ay, .ref ap, .int (nI mk)])), (ac, .inl (cyI, 365, .inl (pz_ar ch))), (ay, .inl (cyI, 60, .inl (pz_ar fy))), (ap, .inl (cyI, 60, .inl (pz_ar fp))), (h1, .inr (1, [.int (nI 0), .int yv_3, .int mv_3, .int dv_3, .int (nI mk), .ref bc, .ref bf, .ref bg, .int (nI wr)])), (bc, .inl (cyI, 366, .inl (pz_ar rc))), (bf, .inl (cyI, 3001, .inl (pz_ar ff))), (bg, .inl (cyI, 3001, .inl (pz_ar gg))), (oa, .inl (cyL, 1, .inr (.inl (vp_updL og 0 (nI (pm_fc y mm a k 0)).toInt64))))]) [0, 1, 2, 3, 5, 6, 7, 8, 4] (by decide) rfl, hS, lv_sub hl [2, 3, 4, 5, 6] rfl⟩
set_option maxHeartbeats 4000000 in
set_option maxRecDepth 100000 in
theorem kw_fromCount_x_1 {p : Program} {l : Launch} {e : Env} {s : State} {m : MethodId} {below : List Frame} {meth : Method} {c : Code} {Q : State → Prop} {D : va_G} {cyI cyL : ClassId} {b L : Nat} {xs : Nat → Int32} {h0 ac ay ap h1 bc bf bg oa : Nat} {i cells slots : Nat} {H : Heap} {locs : List Loc} {ls : Array Slot} {mk wr : Nat} {ch fy fp rc ff gg : Nat → Nat} {th yr mo da : Int32} {og : Nat → Int64} (hfl : l.stackTraces = false) (C0 : pl_C p s m c D cyI cyL b L xs) (hI : pz_inv mk wr ch fy fp rc ff gg) (hP : va_P D vwCl [(h0, .inr (0, [.ref ac, .ref ay, .ref ap, .int (nI mk)])), (ac, .inl (cyI, 365, .inl (pz_ar ch))), (ay, .inl (cyI, 60, .inl (pz_ar fy))), (ap, .inl (cyI, 60, .inl (pz_ar fp))), (h1, .inr (1, [.int th, .int yr, .int mo, .int da, .int (nI mk), .ref bc, .ref bf, .ref bg, .int (nI wr)])), (bc, .inl (cyI, 366, .inl (pz_ar rc))), (bf, .inl (cyI, 3001, .inl (pz_ar ff))), (bg, .inl (cyI, 3001, .inl (pz_ar gg))), (oa, .inl (cyL, 1, .inr (.inl og)))] H) (hD : va_D (fun q : Nat => s.heap.size ≤ q) [(h0, .inr (0, [.ref ac, .ref ay, .ref ap, .int (nI mk)])), (ac, .inl (cyI, 365, .inl (pz_ar ch))), (ay, .inl (cyI, 60, .inl (pz_ar fy))), (ap, .inl (cyI, 60, .inl (pz_ar fp))), (h1, .inr (1, [.int th, .int yr, .int mo, .int da, .int (nI mk), .ref bc, .ref bf, .ref bg, .int (nI wr)])), (bc, .inl (cyI, 366, .inl (pz_ar rc))), (bf, .inl (cyI, 3001, .inl (pz_ar ff))), (bg, .inl (cyI, 3001, .inl (pz_ar gg))), (oa, .inl (cyL, 1, .inr (.inl og)))]) (hS : va_S (fun q : Nat => s.heap.size ≤ q) s.heap H locs) (hl : lv_has ls 7 [(0, .ref b), (1, .ref h0), (2, .ref h1), (3, .ref oa), (4, .int (nI i))]) (hi : i + 6 ≤ L) (hr1 : cells + 1 ≤ 1049) (hs1 : slots + 6 ≤ 15155) (KK : ∀ (H : Heap) (locs : List Loc) (ls : Array Slot), pl_G s D cyI cyL b h0 ac ay ap h1 bc bf bg oa H locs ls i → W p l e room_1 s m #[Value.ref b] below meth c H locs (cells + 1) (slots + 6) Q (F0 m 2234 ls [])) {x1 x2 x3 x4 x5 : Int32} (hk1 : xs (i + 1) = x1) (hk2 : xs (i + 2) = x2) (hk3 : xs (i + 3) = x3) (hk4 : xs (i + 4) = x4) (hk5 : xs (i + 5) = x5) (hy0 : ¬ (1 ≤ x1.toInt ∧ x1.toInt ≤ 3000 ∧ 1 ≤ x2.toInt ∧ x2.toInt ≤ 12)) (hz : ¬ x5.toInt = 0) : W p l e room_1 s m #[Value.ref b] below meth c H locs cells slots Q (F0 m 816 ls []) := by
  obtain ⟨hx, hb, hml, hown, hts, hX, hbl, hK, hth, hnc, hL⟩ := C0
  have hA : ∀ q : Nat, s.heap.size ≤ q → (fun q : Nat => s.heap.size ≤ q) q := fun _ h => h
  have f0 : cells + 0 ≤ room_1.cells ∧ slots + 0 ≤ room_1.slots := ⟨Nat.le_trans (Nat.le_succ cells) hr1, Nat.le_trans (Nat.le_add_right slots 6) hs1⟩
  have f1 : cells + 1 ≤ room_1.cells ∧ slots + 6 ≤ room_1.slots := ⟨hr1, hs1⟩
  have f2 : (cells + 1) + 0 ≤ room_1.cells ∧ (slots + 6) + 0 ≤ room_1.slots := f1
  refine lv_aload_n hx hb dL_law_816 rfl (lv_at hl 1 rfl) ?_
  refine lv_aload_n hx hb dL_law_817 rfl (lv_at hl 0 rfl) ?_
  refine lv_iload hx hb dL_law_818 (lv_at hl 4 rfl) ?_
  refine lv_iconst (v := nI 1) hx hb dL_law_820 (by decide) ?_
  refine pn_iadd hx hb dL_law_821 ?_
  refine pn_sld hx hb hX hbl hS (by omega) hL hk1 dL_law_822 ?_
  refine lv_aload_n hx hb dL_law_823 rfl (lv_at hl 0 rfl) ?_
  refine lv_iload hx hb dL_law_824 (lv_at hl 4 rfl) ?_
  refine lv_iconst (v := nI 2) hx hb dL_law_826 (by decide) ?_
  refine pn_iadd hx hb dL_law_827 ?_
  refine pn_sld hx hb hX hbl hS (by omega) hL hk2 dL_law_828 ?_
  refine lv_aload_n hx hb dL_law_829 rfl (lv_at hl 0 rfl) ?_
  refine lv_iload hx hb dL_law_830 (lv_at hl 4 rfl) ?_
  refine lv_iconst (v := nI 3) hx hb dL_law_832 (by decide) ?_
  refine pn_iadd hx hb dL_law_833 ?_
  refine pn_sld hx hb hX hbl hS (by omega) hL hk3 dL_law_834 ?_
  refine lv_aload_n hx hb dL_law_835 rfl (lv_at hl 0 rfl) ?_
  refine lv_iload hx hb dL_law_836 (lv_at hl 4 rfl) ?_
  refine lv_iconst (v := nI 4) hx hb dL_law_838 (by decide) ?_
  refine pn_iadd hx hb dL_law_839 ?_
  refine pn_sld hx hb hX hbl hS (by omega) hL hk4 dL_law_840 ?_
  refine lv_aload_n hx hb dL_law_841 rfl (lv_at hl 0 rfl) ?_
  refine lv_iload hx hb dL_law_842 (lv_at hl 4 rfl) ?_
  refine lv_iconst (v := nI 5) hx hb dL_law_844 (by decide) ?_
  refine pn_iadd hx hb dL_law_845 ?_
  refine pn_sld hx hb hX hbl hS (by omega) hL hk5 dL_law_846 ?_
  refine pi_if_eq (tgt := 854) (a := x5.toInt) hx hb rfl dL_law_847 (by decide) (fun h9 => absurd h9 hz) (fun _ => ?_)
  refine lv_iconst (v := nI 1) hx hb dL_law_850 (by decide) ?_
  refine lv_goto (tgt := 855) hx hb dL_law_851 (by decide) ?_
  refine lv_aload_n hx hb dL_law_855 rfl (lv_at hl 3 rfl) ?_
  refine pz_SRX (rest := []) ⟨hx, hb, hml, hown, hts⟩ (k_L_fromCount_x l hfl D h0 ac ay ap oa cyI cyL ([]) mk ch fy fp og x1 x2 x3 x4 (nI 1) (by exact hy0)) (vx_cwSW 7 hts gL_law_L_fromCount rfl rfl rfl (by decide +kernel) ⟨Nat.le_of_ble_eq_true rfl, Nat.le_of_ble_eq_true rfl⟩) hK hP (hD.weaken (fun _ _ _ _ => trivial)) hS hth hnc [0, 1, 2, 3, 8] rfl rfl rfl rfl hl.1 rfl (lv_room (Nat.le_of_ble_eq_true rfl)) dL_law_856 f1 (fun r H locs hr hP hS => ?_)
  obtain rfl : r = nI 1 := hr
  refine lv_istore (lv' := [(5, .int (nI 1)), (0, .ref b), (1, .ref h0), (2, .ref h1), (3, .ref oa), (4, .int (nI i))]) hx hb dL_law_859 hl (by decide) rfl (fun ls hl => ?_)
  refine lv_aload_n hx hb dL_law_861 rfl (lv_at hl 3 rfl) ?_
  refine lv_aload_n hx hb dL_law_862 rfl (lv_at hl 1 rfl) ?_
  refine lv_iload hx hb dL_law_863 (lv_at hl 5 rfl) ?_
  refine lv_iconst (v := nI 1) hx hb dL_law_865 (by decide) ?_
  refine pn_iadd hx hb dL_law_866 ?_
  refine pn_sld hx hb hX hbl hS (by omega) hL hk1 dL_law_867 ?_
  refine lv_aload_n hx hb dL_law_868 rfl (lv_at hl 1 rfl) ?_
  refine lv_iload hx hb dL_law_869 (lv_at hl 5 rfl) ?_
  refine lv_iconst (v := nI 2) hx hb dL_law_871 (by decide) ?_
  refine pn_iadd hx hb dL_law_872 ?_
  refine pn_sld hx hb hX hbl hS (by omega) hL hk2 dL_law_873 ?_
  refine lv_aload_n hx hb dL_law_874 rfl (lv_at hl 1 rfl) ?_
  refine lv_iload hx hb dL_law_875 (lv_at hl 5 rfl) ?_
  refine lv_iconst (v := nI 3) hx hb dL_law_877 (by decide) ?_
  refine pn_iadd hx hb dL_law_878 ?_
  refine pn_sld hx hb hX hbl hS (by omega) hL hk3 dL_law_879 ?_
  refine lv_aload_n hx hb dL_law_880 rfl (lv_at hl 1 rfl) ?_
  refine lv_iload hx hb dL_law_881 (lv_at hl 5 rfl) ?_
  refine lv_iconst (v := nI 4) hx hb dL_law_883 (by decide) ?_
  refine pn_iadd hx hb dL_law_884 ?_
  refine pn_sld hx hb hX hbl hS (by omega) hL hk4 dL_law_885 ?_
  refine lv_aload_n hx hb dL_law_886 rfl (lv_at hl 1 rfl) ?_
  refine lv_iload hx hb dL_law_887 (lv_at hl 5 rfl) ?_
  refine lv_iconst (v := nI 5) hx hb dL_law_889 (by decide) ?_
  refine pn_iadd hx hb dL_law_890 ?_
  refine pn_sld hx hb hX hbl hS (by omega) hL hk5 dL_law_891 ?_
  refine pi_if_eq (tgt := 899) (a := x5.toInt) hx hb rfl dL_law_892 (by decide) (fun h9 => absurd h9 hz) (fun _ => ?_)
  refine lv_iconst (v := nI 1) hx hb dL_law_895 (by decide) ?_
  refine lv_goto (tgt := 900) hx hb dL_law_896 (by decide) ?_
  refine pz_VI (rest := []) (wr := [(h0, .inr (0, [.ref ac, .ref ay, .ref ap, .int (nI mk)])), (ac, .inl (cyI, 365, .inl (pz_ar ch))), (ay, .inl (cyI, 60, .inl (pz_ar fy))), (ap, .inl (cyI, 60, .inl (pz_ar fp))), (oa, .inl (cyL, 1, .inr (.inl og)))]) ⟨hx, hb, hml, hown, hts⟩ (k_X1_fromCount_x l D h1 bc bf bg cyI ([(cyL, .long)]) th yr mo da mk wr rc ff gg x1 x2 x3 x4 (nI 1) (by exact hy0)) (cwV 5 hts gL_law_X1_fromCount rfl rfl rfl (by decide +kernel) ⟨Nat.le_of_ble_eq_true rfl, Nat.le_of_ble_eq_true rfl⟩) hK hP hD hS hA [4, 5, 6, 7] [0, 1, 2, 3, 8] rfl rfl rfl rfl rfl (by decide) 4 1 rfl rfl rfl hl.1 rfl (lv_room (Nat.le_of_ble_eq_true rfl)) dL_law_900 f2 (fun r u H locs hr hP hD hS => ?_)
  have hP : va_P D vwCl [(h0, .inr (0, [.ref ac, .ref ay, .ref ap, .int (nI mk)])), (ac, .inl (cyI, 365, .inl (pz_ar ch))), (ay, .inl (cyI, 60, .inl (pz_ar fy))), (ap, .inl (cyI, 60, .inl (pz_ar fp))), (oa, .inl (cyL, 1, .inr (.inl og))), (h1, .inr (1, [.int (nI 1), .int yr, .int mo, .int da, .int (nI mk), .ref bc, .ref bf, .ref bg, .int (nI wr)])), (bc, .inl (cyI, 366, .inl (pz_ar rc))), (bf, .inl (cyI, 3001, .inl (pz_ar ff))), (bg, .inl (cyI, 3001, .inl (pz_ar gg)))] H := hP
  have hD : va_D (fun q : Nat => s.heap.size ≤ q) [(h0, .inr (0, [.ref ac, .ref ay, .ref ap, .int (nI mk)])), (ac, .inl (cyI, 365, .inl (pz_ar ch))), (ay, .inl (cyI, 60, .inl (pz_ar fy))), (ap, .inl (cyI, 60, .inl (pz_ar fp))), (oa, .inl (cyL, 1, .inr (.inl og))), (h1, .inr (1, [.int (nI 1), .int yr, .int mo, .int da, .int (nI mk), .ref bc, .ref bf, .ref bg, .int (nI wr)])), (bc, .inl (cyI, 366, .inl (pz_ar rc))), (bf, .inl (cyI, 3001, .inl (pz_ar ff))), (bg, .inl (cyI, 3001, .inl (pz_ar gg)))] := hD
  obtain rfl : r = (nI 0) := hr
  refine lv_istore (lv' := [(6, .int (nI 0)), (5, .int (nI 1)), (0, .ref b), (1, .ref h0), (2, .ref h1), (3, .ref oa), (4, .int (nI i))]) hx hb dL_law_903 hl (by decide) rfl (fun ls hl => ?_)
  refine lv_aload_n hx hb dL_law_905 rfl (lv_at hl 4 rfl) ?_
  refine pz_VR (rest := []) ⟨hx, hb, hml, hown, hts⟩ (k_X1_thrown l D h1 bc bf bg cyI ([(cyL, .long)]) (nI 1) yr mo da mk wr rc ff gg  ) (cwV 0 hts gL_law_X1_thrown rfl rfl rfl (by decide +kernel) ⟨Nat.le_of_ble_eq_true rfl, Nat.le_of_ble_eq_true rfl⟩) hK hP (hD.weaken (fun _ _ _ _ => trivial)) hS hA [5, 6, 7, 8] rfl rfl rfl 5 1 rfl rfl rfl hl.1 rfl (lv_room (Nat.le_of_ble_eq_true rfl)) dL_law_906 f2 (fun r H locs hr hP hS => ?_)
  obtain rfl : r = (nI 1) := hr
  refine lv_iload hx hb dL_law_909 (lv_at hl 1 rfl) ?_
  refine pn_icmp_eq (tgt := 916) hx hb (by omega) (by omega) dL_law_911 (by decide) (fun _ => ?_) (fun c_5 => absurd c_5 (by decide))
  refine lv_iload hx hb dL_law_916 (lv_at hl 1 rfl) ?_
  refine pn_if_ne (tgt := 933) hx hb (by omega) dL_law_918 (by decide) (fun _ => ?_) (fun c_6 => absurd c_6 (by decide))
  refine lv_goto (tgt := 2234) hx hb dL_law_933 (by decide) ?_
  exact KK H locs ls ⟨mk, wr, ch, fy, fp, rc, ff, gg, (nI 1), yr, mo, da, og, (by exact hI), hP.sub (ws' := [(h0, .inr (0, [.ref ac, .ref ay, .ref ap, .int (nI mk)])), (ac, .inl (cyI, 365, .inl (pz_ar ch))), (ay, .inl (cyI, 60, .inl (pz_ar fy))), (ap, .inl (cyI, 60, .inl (pz_ar fp))), (h1, .inr (1, [.int (nI 1), .int yr, .int mo, .int da, .int (nI mk), .ref bc, .ref bf, .ref bg, .int (nI wr)])), (bc, .inl (cyI, 366, .inl (pz_ar rc))), (bf, .inl (cyI, 3001, .inl (pz_ar ff))), (bg, .inl (cyI, 3001, .inl (pz_ar gg))), (oa, .inl (cyL, 1, .inr (.inl og)))]) [0, 1, 2, 3, 5, 6, 7, 8, 4] rfl, hD.sub (ws' := [(h0, .inr (0, [.ref ac, .ref ay, .ref ap, .int (nI mk)])), (ac, .inl (cyI, 365, .inl (pz_ar ch))), (ay, .inl (cyI, 60, .inl (pz_ar fy))), (ap, .inl (cyI, 60, .inl (pz_ar fp))), (h1, .inr (1, [.int (nI 1), .int yr, .int mo, .int da, .int (nI mk), .ref bc, .ref bf, .ref bg, .int (nI wr)])), (bc, .inl (cyI, 366, .inl (pz_ar rc))), (bf, .inl (cyI, 3001, .inl (pz_ar ff))), (bg, .inl (cyI, 3001, .inl (pz_ar gg))), (oa, .inl (cyL, 1, .inr (.inl og)))]) [0, 1, 2, 3, 5, 6, 7, 8, 4] (by decide) rfl, hS, lv_sub hl [2, 3, 4, 5, 6] rfl⟩
set_option maxHeartbeats 4000000 in
set_option maxRecDepth 100000 in
theorem kw_fromCount_x2_1 {p : Program} {l : Launch} {e : Env} {s : State} {m : MethodId} {below : List Frame} {meth : Method} {c : Code} {Q : State → Prop} {D : va_G} {cyI cyL : ClassId} {b L : Nat} {xs : Nat → Int32} {h0 ac ay ap h1 bc bf bg oa : Nat} {i cells slots : Nat} {H : Heap} {locs : List Loc} {ls : Array Slot} {mk wr : Nat} {ch fy fp rc ff gg : Nat → Nat} {th yr mo da : Int32} {og : Nat → Int64} (hfl : l.stackTraces = false) (C0 : pl_C p s m c D cyI cyL b L xs) (hI : pz_inv mk wr ch fy fp rc ff gg) (hP : va_P D vwCl [(h0, .inr (0, [.ref ac, .ref ay, .ref ap, .int (nI mk)])), (ac, .inl (cyI, 365, .inl (pz_ar ch))), (ay, .inl (cyI, 60, .inl (pz_ar fy))), (ap, .inl (cyI, 60, .inl (pz_ar fp))), (h1, .inr (1, [.int th, .int yr, .int mo, .int da, .int (nI mk), .ref bc, .ref bf, .ref bg, .int (nI wr)])), (bc, .inl (cyI, 366, .inl (pz_ar rc))), (bf, .inl (cyI, 3001, .inl (pz_ar ff))), (bg, .inl (cyI, 3001, .inl (pz_ar gg))), (oa, .inl (cyL, 1, .inr (.inl og)))] H) (hD : va_D (fun q : Nat => s.heap.size ≤ q) [(h0, .inr (0, [.ref ac, .ref ay, .ref ap, .int (nI mk)])), (ac, .inl (cyI, 365, .inl (pz_ar ch))), (ay, .inl (cyI, 60, .inl (pz_ar fy))), (ap, .inl (cyI, 60, .inl (pz_ar fp))), (h1, .inr (1, [.int th, .int yr, .int mo, .int da, .int (nI mk), .ref bc, .ref bf, .ref bg, .int (nI wr)])), (bc, .inl (cyI, 366, .inl (pz_ar rc))), (bf, .inl (cyI, 3001, .inl (pz_ar ff))), (bg, .inl (cyI, 3001, .inl (pz_ar gg))), (oa, .inl (cyL, 1, .inr (.inl og)))]) (hS : va_S (fun q : Nat => s.heap.size ≤ q) s.heap H locs) (hl : lv_has ls 7 [(0, .ref b), (1, .ref h0), (2, .ref h1), (3, .ref oa), (4, .int (nI i))]) (hi : i + 6 ≤ L) (hr1 : cells + 1 ≤ 1049) (hs1 : slots + 6 ≤ 15155) (KK : ∀ (H : Heap) (locs : List Loc) (ls : Array Slot), pl_G s D cyI cyL b h0 ac ay ap h1 bc bf bg oa H locs ls i → W p l e room_1 s m #[Value.ref b] below meth c H locs (cells + 1) (slots + 6) Q (F0 m 2234 ls [])) {y mm : Nat} {x3 x4 x5 : Int32} (hk1 : xs (i + 1) = (nI y)) (hk2 : xs (i + 2) = (nI mm)) (hk3 : xs (i + 3) = x3) (hk4 : xs (i + 4) = x4) (hk5 : xs (i + 5) = x5) (hy0 : 1 ≤ y) (hy1 : y ≤ 3000) (hy2 : 1 ≤ mm) (hy3 : mm ≤ 12) (hy4 : ¬ (0 ≤ x3.toInt ∧ x3.toInt ≤ 2 ∧ 1 ≤ x4.toInt)) (hz : ¬ x5.toInt = 0) : W p l e room_1 s m #[Value.ref b] below meth c H locs cells slots Q (F0 m 816 ls []) := by
  obtain ⟨hx, hb, hml, hown, hts, hX, hbl, hK, hth, hnc, hL⟩ := C0
  have hA : ∀ q : Nat, s.heap.size ≤ q → (fun q : Nat => s.heap.size ≤ q) q := fun _ h => h
  have f0 : cells + 0 ≤ room_1.cells ∧ slots + 0 ≤ room_1.slots := ⟨Nat.le_trans (Nat.le_succ cells) hr1, Nat.le_trans (Nat.le_add_right slots 6) hs1⟩
  have f1 : cells + 1 ≤ room_1.cells ∧ slots + 6 ≤ room_1.slots := ⟨hr1, hs1⟩
  have f2 : (cells + 1) + 0 ≤ room_1.cells ∧ (slots + 6) + 0 ≤ room_1.slots := f1
  refine lv_aload_n hx hb dL_law_816 rfl (lv_at hl 1 rfl) ?_
  refine lv_aload_n hx hb dL_law_817 rfl (lv_at hl 0 rfl) ?_
  refine lv_iload hx hb dL_law_818 (lv_at hl 4 rfl) ?_
  refine lv_iconst (v := nI 1) hx hb dL_law_820 (by decide) ?_
  refine pn_iadd hx hb dL_law_821 ?_
  refine pn_sld hx hb hX hbl hS (by omega) hL hk1 dL_law_822 ?_
  refine lv_aload_n hx hb dL_law_823 rfl (lv_at hl 0 rfl) ?_
  refine lv_iload hx hb dL_law_824 (lv_at hl 4 rfl) ?_
  refine lv_iconst (v := nI 2) hx hb dL_law_826 (by decide) ?_
  refine pn_iadd hx hb dL_law_827 ?_
  refine pn_sld hx hb hX hbl hS (by omega) hL hk2 dL_law_828 ?_
  refine lv_aload_n hx hb dL_law_829 rfl (lv_at hl 0 rfl) ?_
  refine lv_iload hx hb dL_law_830 (lv_at hl 4 rfl) ?_
  refine lv_iconst (v := nI 3) hx hb dL_law_832 (by decide) ?_
  refine pn_iadd hx hb dL_law_833 ?_
  refine pn_sld hx hb hX hbl hS (by omega) hL hk3 dL_law_834 ?_
  refine lv_aload_n hx hb dL_law_835 rfl (lv_at hl 0 rfl) ?_
  refine lv_iload hx hb dL_law_836 (lv_at hl 4 rfl) ?_
  refine lv_iconst (v := nI 4) hx hb dL_law_838 (by decide) ?_
  refine pn_iadd hx hb dL_law_839 ?_
  refine pn_sld hx hb hX hbl hS (by omega) hL hk4 dL_law_840 ?_
  refine lv_aload_n hx hb dL_law_841 rfl (lv_at hl 0 rfl) ?_
  refine lv_iload hx hb dL_law_842 (lv_at hl 4 rfl) ?_
  refine lv_iconst (v := nI 5) hx hb dL_law_844 (by decide) ?_
  refine pn_iadd hx hb dL_law_845 ?_
  refine pn_sld hx hb hX hbl hS (by omega) hL hk5 dL_law_846 ?_
  refine pi_if_eq (tgt := 854) (a := x5.toInt) hx hb rfl dL_law_847 (by decide) (fun h9 => absurd h9 hz) (fun _ => ?_)
  refine lv_iconst (v := nI 1) hx hb dL_law_850 (by decide) ?_
  refine lv_goto (tgt := 855) hx hb dL_law_851 (by decide) ?_
  refine lv_aload_n hx hb dL_law_855 rfl (lv_at hl 3 rfl) ?_
  refine pz_SRX (rest := []) ⟨hx, hb, hml, hown, hts⟩ (k_L_fromCount_x2 l hfl D h0 ac ay ap oa cyI cyL ([]) mk ch fy fp og y mm x3 x4 (nI 1) (by exact hy4) (by omega) (by omega) (by omega) (by omega)) (vx_cwSW 7 hts gL_law_L_fromCount rfl rfl rfl (by decide +kernel) ⟨Nat.le_of_ble_eq_true rfl, Nat.le_of_ble_eq_true rfl⟩) hK hP (hD.weaken (fun _ _ _ _ => trivial)) hS hth hnc [0, 1, 2, 3, 8] rfl rfl rfl rfl hl.1 rfl (lv_room (Nat.le_of_ble_eq_true rfl)) dL_law_856 f1 (fun r H locs hr hP hS => ?_)
  obtain rfl : r = nI 2 := hr
  refine lv_istore (lv' := [(5, .int (nI 2)), (0, .ref b), (1, .ref h0), (2, .ref h1), (3, .ref oa), (4, .int (nI i))]) hx hb dL_law_859 hl (by decide) rfl (fun ls hl => ?_)
  refine lv_aload_n hx hb dL_law_861 rfl (lv_at hl 3 rfl) ?_
  refine lv_aload_n hx hb dL_law_862 rfl (lv_at hl 1 rfl) ?_
  refine lv_iload hx hb dL_law_863 (lv_at hl 5 rfl) ?_
  refine lv_iconst (v := nI 1) hx hb dL_law_865 (by decide) ?_
  refine pn_iadd hx hb dL_law_866 ?_
  refine pn_sld hx hb hX hbl hS (by omega) hL hk1 dL_law_867 ?_
  refine lv_aload_n hx hb dL_law_868 rfl (lv_at hl 1 rfl) ?_
  refine lv_iload hx hb dL_law_869 (lv_at hl 5 rfl) ?_
  refine lv_iconst (v := nI 2) hx hb dL_law_871 (by decide) ?_
  refine pn_iadd hx hb dL_law_872 ?_
  refine pn_sld hx hb hX hbl hS (by omega) hL hk2 dL_law_873 ?_
  refine lv_aload_n hx hb dL_law_874 rfl (lv_at hl 1 rfl) ?_
  refine lv_iload hx hb dL_law_875 (lv_at hl 5 rfl) ?_
  refine lv_iconst (v := nI 3) hx hb dL_law_877 (by decide) ?_
  refine pn_iadd hx hb dL_law_878 ?_
  refine pn_sld hx hb hX hbl hS (by omega) hL hk3 dL_law_879 ?_
  refine lv_aload_n hx hb dL_law_880 rfl (lv_at hl 1 rfl) ?_
  refine lv_iload hx hb dL_law_881 (lv_at hl 5 rfl) ?_
  refine lv_iconst (v := nI 4) hx hb dL_law_883 (by decide) ?_
  refine pn_iadd hx hb dL_law_884 ?_
  refine pn_sld hx hb hX hbl hS (by omega) hL hk4 dL_law_885 ?_
  refine lv_aload_n hx hb dL_law_886 rfl (lv_at hl 1 rfl) ?_
  refine lv_iload hx hb dL_law_887 (lv_at hl 5 rfl) ?_
  refine lv_iconst (v := nI 5) hx hb dL_law_889 (by decide) ?_
  refine pn_iadd hx hb dL_law_890 ?_
  refine pn_sld hx hb hX hbl hS (by omega) hL hk5 dL_law_891 ?_
  refine pi_if_eq (tgt := 899) (a := x5.toInt) hx hb rfl dL_law_892 (by decide) (fun h9 => absurd h9 hz) (fun _ => ?_)
  refine lv_iconst (v := nI 1) hx hb dL_law_895 (by decide) ?_
  refine lv_goto (tgt := 900) hx hb dL_law_896 (by decide) ?_
  refine pz_VI (rest := []) (wr := [(h0, .inr (0, [.ref ac, .ref ay, .ref ap, .int (nI mk)])), (ac, .inl (cyI, 365, .inl (pz_ar ch))), (ay, .inl (cyI, 60, .inl (pz_ar fy))), (ap, .inl (cyI, 60, .inl (pz_ar fp))), (oa, .inl (cyL, 1, .inr (.inl og)))]) ⟨hx, hb, hml, hown, hts⟩ (k_X1_fromCount_x2 l D h1 bc bf bg cyI ([(cyL, .long)]) th yr mo da mk wr rc ff gg y mm x3 x4 (nI 1) (by exact hy4) (by omega) (by omega) (by omega) (by omega)) (cwV 5 hts gL_law_X1_fromCount rfl rfl rfl (by decide +kernel) ⟨Nat.le_of_ble_eq_true rfl, Nat.le_of_ble_eq_true rfl⟩) hK hP hD hS hA [4, 5, 6, 7] [0, 1, 2, 3, 8] rfl rfl rfl rfl rfl (by decide) 4 1 rfl rfl rfl hl.1 rfl (lv_room (Nat.le_of_ble_eq_true rfl)) dL_law_900 f2 (fun r u H locs hr hP hD hS => ?_)
  have hP : va_P D vwCl [(h0, .inr (0, [.ref ac, .ref ay, .ref ap, .int (nI mk)])), (ac, .inl (cyI, 365, .inl (pz_ar ch))), (ay, .inl (cyI, 60, .inl (pz_ar fy))), (ap, .inl (cyI, 60, .inl (pz_ar fp))), (oa, .inl (cyL, 1, .inr (.inl og))), (h1, .inr (1, [.int (nI 2), .int yr, .int mo, .int da, .int (nI mk), .ref bc, .ref bf, .ref bg, .int (nI wr)])), (bc, .inl (cyI, 366, .inl (pz_ar rc))), (bf, .inl (cyI, 3001, .inl (pz_ar ff))), (bg, .inl (cyI, 3001, .inl (pz_ar gg)))] H := hP
  have hD : va_D (fun q : Nat => s.heap.size ≤ q) [(h0, .inr (0, [.ref ac, .ref ay, .ref ap, .int (nI mk)])), (ac, .inl (cyI, 365, .inl (pz_ar ch))), (ay, .inl (cyI, 60, .inl (pz_ar fy))), (ap, .inl (cyI, 60, .inl (pz_ar fp))), (oa, .inl (cyL, 1, .inr (.inl og))), (h1, .inr (1, [.int (nI 2), .int yr, .int mo, .int da, .int (nI mk), .ref bc, .ref bf, .ref bg, .int (nI wr)])), (bc, .inl (cyI, 366, .inl (pz_ar rc))), (bf, .inl (cyI, 3001, .inl (pz_ar ff))), (bg, .inl (cyI, 3001, .inl (pz_ar gg)))] := hD
  obtain rfl : r = (nI 0) := hr
  refine lv_istore (lv' := [(6, .int (nI 0)), (5, .int (nI 2)), (0, .ref b), (1, .ref h0), (2, .ref h1), (3, .ref oa), (4, .int (nI i))]) hx hb dL_law_903 hl (by decide) rfl (fun ls hl => ?_)
  refine lv_aload_n hx hb dL_law_905 rfl (lv_at hl 4 rfl) ?_
  refine pz_VR (rest := []) ⟨hx, hb, hml, hown, hts⟩ (k_X1_thrown l D h1 bc bf bg cyI ([(cyL, .long)]) (nI 2) yr mo da mk wr rc ff gg  ) (cwV 0 hts gL_law_X1_thrown rfl rfl rfl (by decide +kernel) ⟨Nat.le_of_ble_eq_true rfl, Nat.le_of_ble_eq_true rfl⟩) hK hP (hD.weaken (fun _ _ _ _ => trivial)) hS hA [5, 6, 7, 8] rfl rfl rfl 5 1 rfl rfl rfl hl.1 rfl (lv_room (Nat.le_of_ble_eq_true rfl)) dL_law_906 f2 (fun r H locs hr hP hS => ?_)
  obtain rfl : r = (nI 2) := hr
  refine lv_iload hx hb dL_law_909 (lv_at hl 1 rfl) ?_
  refine pn_icmp_eq (tgt := 916) hx hb (by omega) (by omega) dL_law_911 (by decide) (fun _ => ?_) (fun c_5 => absurd c_5 (by decide))
  refine lv_iload hx hb dL_law_916 (lv_at hl 1 rfl) ?_
  refine pn_if_ne (tgt := 933) hx hb (by omega) dL_law_918 (by decide) (fun _ => ?_) (fun c_6 => absurd c_6 (by decide))
  refine lv_goto (tgt := 2234) hx hb dL_law_933 (by decide) ?_
  exact KK H locs ls ⟨mk, wr, ch, fy, fp, rc, ff, gg, (nI 2), yr, mo, da, og, (by exact hI), hP.sub (ws' := [(h0, .inr (0, [.ref ac, .ref ay, .ref ap, .int (nI mk)])), (ac, .inl (cyI, 365, .inl (pz_ar ch))), (ay, .inl (cyI, 60, .inl (pz_ar fy))), (ap, .inl (cyI, 60, .inl (pz_ar fp))), (h1, .inr (1, [.int (nI 2), .int yr, .int mo, .int da, .int (nI mk), .ref bc, .ref bf, .ref bg, .int (nI wr)])), (bc, .inl (cyI, 366, .inl (pz_ar rc))), (bf, .inl (cyI, 3001, .inl (pz_ar ff))), (bg, .inl (cyI, 3001, .inl (pz_ar gg))), (oa, .inl (cyL, 1, .inr (.inl og)))]) [0, 1, 2, 3, 5, 6, 7, 8, 4] rfl, hD.sub (ws' := [(h0, .inr (0, [.ref ac, .ref ay, .ref ap, .int (nI mk)])), (ac, .inl (cyI, 365, .inl (pz_ar ch))), (ay, .inl (cyI, 60, .inl (pz_ar fy))), (ap, .inl (cyI, 60, .inl (pz_ar fp))), (h1, .inr (1, [.int (nI 2), .int yr, .int mo, .int da, .int (nI mk), .ref bc, .ref bf, .ref bg, .int (nI wr)])), (bc, .inl (cyI, 366, .inl (pz_ar rc))), (bf, .inl (cyI, 3001, .inl (pz_ar ff))), (bg, .inl (cyI, 3001, .inl (pz_ar gg))), (oa, .inl (cyL, 1, .inr (.inl og)))]) [0, 1, 2, 3, 5, 6, 7, 8, 4] (by decide) rfl, hS, lv_sub hl [2, 3, 4, 5, 6] rfl⟩
set_option maxHeartbeats 4000000 in
set_option maxRecDepth 100000 in
theorem kw_fromCount_x3_1 {p : Program} {l : Launch} {e : Env} {s : State} {m : MethodId} {below : List Frame} {meth : Method} {c : Code} {Q : State → Prop} {D : va_G} {cyI cyL : ClassId} {b L : Nat} {xs : Nat → Int32} {h0 ac ay ap h1 bc bf bg oa : Nat} {i cells slots : Nat} {H : Heap} {locs : List Loc} {ls : Array Slot} {mk wr : Nat} {ch fy fp rc ff gg : Nat → Nat} {th yr mo da : Int32} {og : Nat → Int64} (hfl : l.stackTraces = false) (C0 : pl_C p s m c D cyI cyL b L xs) (hI : pz_inv mk wr ch fy fp rc ff gg) (hP : va_P D vwCl [(h0, .inr (0, [.ref ac, .ref ay, .ref ap, .int (nI mk)])), (ac, .inl (cyI, 365, .inl (pz_ar ch))), (ay, .inl (cyI, 60, .inl (pz_ar fy))), (ap, .inl (cyI, 60, .inl (pz_ar fp))), (h1, .inr (1, [.int th, .int yr, .int mo, .int da, .int (nI mk), .ref bc, .ref bf, .ref bg, .int (nI wr)])), (bc, .inl (cyI, 366, .inl (pz_ar rc))), (bf, .inl (cyI, 3001, .inl (pz_ar ff))), (bg, .inl (cyI, 3001, .inl (pz_ar gg))), (oa, .inl (cyL, 1, .inr (.inl og)))] H) (hD : va_D (fun q : Nat => s.heap.size ≤ q) [(h0, .inr (0, [.ref ac, .ref ay, .ref ap, .int (nI mk)])), (ac, .inl (cyI, 365, .inl (pz_ar ch))), (ay, .inl (cyI, 60, .inl (pz_ar fy))), (ap, .inl (cyI, 60, .inl (pz_ar fp))), (h1, .inr (1, [.int th, .int yr, .int mo, .int da, .int (nI mk), .ref bc, .ref bf, .ref bg, .int (nI wr)])), (bc, .inl (cyI, 366, .inl (pz_ar rc))), (bf, .inl (cyI, 3001, .inl (pz_ar ff))), (bg, .inl (cyI, 3001, .inl (pz_ar gg))), (oa, .inl (cyL, 1, .inr (.inl og)))]) (hS : va_S (fun q : Nat => s.heap.size ≤ q) s.heap H locs) (hl : lv_has ls 7 [(0, .ref b), (1, .ref h0), (2, .ref h1), (3, .ref oa), (4, .int (nI i))]) (hi : i + 6 ≤ L) (hr1 : cells + 1 ≤ 1049) (hs1 : slots + 6 ≤ 15155) (KK : ∀ (H : Heap) (locs : List Loc) (ls : Array Slot), pl_G s D cyI cyL b h0 ac ay ap h1 bc bf bg oa H locs ls i → W p l e room_1 s m #[Value.ref b] below meth c H locs (cells + 1) (slots + 6) Q (F0 m 2234 ls [])) {y mm a k : Nat} {x5 : Int32} (hk1 : xs (i + 1) = (nI y)) (hk2 : xs (i + 2) = (nI mm)) (hk3 : xs (i + 3) = (nI a)) (hk4 : xs (i + 4) = (nI k)) (hk5 : xs (i + 5) = x5) (hy0 : 1 ≤ y) (hy1 : y ≤ 3000) (hy2 : 1 ≤ mm) (hy3 : mm ≤ 12) (hy4 : a ≤ 2) (hy5 : 1 ≤ k) (hy6 : k < 2147483648) (hy7 : ¬ (k ≤ pm_gc mm a ∧ (1 = 1 → (y % 4 = 0 ∧ mm = 3 ∧ a = 0 ∧ k = 6)))) (hz : ¬ x5.toInt = 0) : W p l e room_1 s m #[Value.ref b] below meth c H locs cells slots Q (F0 m 816 ls []) := by
  obtain ⟨hx, hb, hml, hown, hts, hX, hbl, hK, hth, hnc, hL⟩ := C0
  have hA : ∀ q : Nat, s.heap.size ≤ q → (fun q : Nat => s.heap.size ≤ q) q := fun _ h => h
  have f0 : cells + 0 ≤ room_1.cells ∧ slots + 0 ≤ room_1.slots := ⟨Nat.le_trans (Nat.le_succ cells) hr1, Nat.le_trans (Nat.le_add_right slots 6) hs1⟩
  have f1 : cells + 1 ≤ room_1.cells ∧ slots + 6 ≤ room_1.slots := ⟨hr1, hs1⟩
  have f2 : (cells + 1) + 0 ≤ room_1.cells ∧ (slots + 6) + 0 ≤ room_1.slots := f1
  refine lv_aload_n hx hb dL_law_816 rfl (lv_at hl 1 rfl) ?_
  refine lv_aload_n hx hb dL_law_817 rfl (lv_at hl 0 rfl) ?_
  refine lv_iload hx hb dL_law_818 (lv_at hl 4 rfl) ?_
  refine lv_iconst (v := nI 1) hx hb dL_law_820 (by decide) ?_
  refine pn_iadd hx hb dL_law_821 ?_
  refine pn_sld hx hb hX hbl hS (by omega) hL hk1 dL_law_822 ?_
  refine lv_aload_n hx hb dL_law_823 rfl (lv_at hl 0 rfl) ?_
  refine lv_iload hx hb dL_law_824 (lv_at hl 4 rfl) ?_
  refine lv_iconst (v := nI 2) hx hb dL_law_826 (by decide) ?_
  refine pn_iadd hx hb dL_law_827 ?_
  refine pn_sld hx hb hX hbl hS (by omega) hL hk2 dL_law_828 ?_
  refine lv_aload_n hx hb dL_law_829 rfl (lv_at hl 0 rfl) ?_
  refine lv_iload hx hb dL_law_830 (lv_at hl 4 rfl) ?_
  refine lv_iconst (v := nI 3) hx hb dL_law_832 (by decide) ?_
  refine pn_iadd hx hb dL_law_833 ?_
  refine pn_sld hx hb hX hbl hS (by omega) hL hk3 dL_law_834 ?_
  refine lv_aload_n hx hb dL_law_835 rfl (lv_at hl 0 rfl) ?_
  refine lv_iload hx hb dL_law_836 (lv_at hl 4 rfl) ?_
  refine lv_iconst (v := nI 4) hx hb dL_law_838 (by decide) ?_
  refine pn_iadd hx hb dL_law_839 ?_
  refine pn_sld hx hb hX hbl hS (by omega) hL hk4 dL_law_840 ?_
  refine lv_aload_n hx hb dL_law_841 rfl (lv_at hl 0 rfl) ?_
  refine lv_iload hx hb dL_law_842 (lv_at hl 4 rfl) ?_
  refine lv_iconst (v := nI 5) hx hb dL_law_844 (by decide) ?_
  refine pn_iadd hx hb dL_law_845 ?_
  refine pn_sld hx hb hX hbl hS (by omega) hL hk5 dL_law_846 ?_
  refine pi_if_eq (tgt := 854) (a := x5.toInt) hx hb rfl dL_law_847 (by decide) (fun h9 => absurd h9 hz) (fun _ => ?_)
  refine lv_iconst (v := nI 1) hx hb dL_law_850 (by decide) ?_
  refine lv_goto (tgt := 855) hx hb dL_law_851 (by decide) ?_
  refine lv_aload_n hx hb dL_law_855 rfl (lv_at hl 3 rfl) ?_
  refine pz_SRX (rest := []) ⟨hx, hb, hml, hown, hts⟩ (k_L_fromCount_x3 l hfl D h0 ac ay ap oa cyI cyL ([]) mk ch fy fp og y mm a k 1 (by exact hy7) (by omega) (by omega) (by omega) (by omega) (by omega) (by omega) (by omega) (by decide)) (vx_cwSW 7 hts gL_law_L_fromCount rfl rfl rfl (by decide +kernel) ⟨Nat.le_of_ble_eq_true rfl, Nat.le_of_ble_eq_true rfl⟩) hK hP (hD.weaken (fun _ _ _ _ => trivial)) hS hth hnc [0, 1, 2, 3, 8] rfl rfl rfl rfl hl.1 rfl (lv_room (Nat.le_of_ble_eq_true rfl)) dL_law_856 f1 (fun r H locs hr hP hS => ?_)
  obtain rfl : r = nI 3 := hr
  refine lv_istore (lv' := [(5, .int (nI 3)), (0, .ref b), (1, .ref h0), (2, .ref h1), (3, .ref oa), (4, .int (nI i))]) hx hb dL_law_859 hl (by decide) rfl (fun ls hl => ?_)
  refine lv_aload_n hx hb dL_law_861 rfl (lv_at hl 3 rfl) ?_
  refine lv_aload_n hx hb dL_law_862 rfl (lv_at hl 1 rfl) ?_
  refine lv_iload hx hb dL_law_863 (lv_at hl 5 rfl) ?_
  refine lv_iconst (v := nI 1) hx hb dL_law_865 (by decide) ?_
  refine pn_iadd hx hb dL_law_866 ?_
  refine pn_sld hx hb hX hbl hS (by omega) hL hk1 dL_law_867 ?_
  refine lv_aload_n hx hb dL_law_868 rfl (lv_at hl 1 rfl) ?_
  refine lv_iload hx hb dL_law_869 (lv_at hl 5 rfl) ?_
  refine lv_iconst (v := nI 2) hx hb dL_law_871 (by decide) ?_
  refine pn_iadd hx hb dL_law_872 ?_
  refine pn_sld hx hb hX hbl hS (by omega) hL hk2 dL_law_873 ?_
  refine lv_aload_n hx hb dL_law_874 rfl (lv_at hl 1 rfl) ?_
  refine lv_iload hx hb dL_law_875 (lv_at hl 5 rfl) ?_
  refine lv_iconst (v := nI 3) hx hb dL_law_877 (by decide) ?_
  refine pn_iadd hx hb dL_law_878 ?_
  refine pn_sld hx hb hX hbl hS (by omega) hL hk3 dL_law_879 ?_
  refine lv_aload_n hx hb dL_law_880 rfl (lv_at hl 1 rfl) ?_
  refine lv_iload hx hb dL_law_881 (lv_at hl 5 rfl) ?_
  refine lv_iconst (v := nI 4) hx hb dL_law_883 (by decide) ?_
  refine pn_iadd hx hb dL_law_884 ?_
  refine pn_sld hx hb hX hbl hS (by omega) hL hk4 dL_law_885 ?_
  refine lv_aload_n hx hb dL_law_886 rfl (lv_at hl 1 rfl) ?_
  refine lv_iload hx hb dL_law_887 (lv_at hl 5 rfl) ?_
  refine lv_iconst (v := nI 5) hx hb dL_law_889 (by decide) ?_
  refine pn_iadd hx hb dL_law_890 ?_
  refine pn_sld hx hb hX hbl hS (by omega) hL hk5 dL_law_891 ?_
  refine pi_if_eq (tgt := 899) (a := x5.toInt) hx hb rfl dL_law_892 (by decide) (fun h9 => absurd h9 hz) (fun _ => ?_)
  refine lv_iconst (v := nI 1) hx hb dL_law_895 (by decide) ?_
  refine lv_goto (tgt := 900) hx hb dL_law_896 (by decide) ?_
  refine pz_VI (rest := []) (wr := [(h0, .inr (0, [.ref ac, .ref ay, .ref ap, .int (nI mk)])), (ac, .inl (cyI, 365, .inl (pz_ar ch))), (ay, .inl (cyI, 60, .inl (pz_ar fy))), (ap, .inl (cyI, 60, .inl (pz_ar fp))), (oa, .inl (cyL, 1, .inr (.inl og)))]) ⟨hx, hb, hml, hown, hts⟩ (k_X1_fromCount_x3 l D h1 bc bf bg cyI ([(cyL, .long)]) th yr mo da mk wr rc ff gg y mm a k 1 (by omega) (by omega) (by omega) (by omega) (by omega) (by omega) (by omega) (by decide) (by exact pm_fc_n hy0 hy7)) (cwV 5 hts gL_law_X1_fromCount rfl rfl rfl (by decide +kernel) ⟨Nat.le_of_ble_eq_true rfl, Nat.le_of_ble_eq_true rfl⟩) hK hP hD hS hA [4, 5, 6, 7] [0, 1, 2, 3, 8] rfl rfl rfl rfl rfl (by decide) 4 1 rfl rfl rfl hl.1 rfl (lv_room (Nat.le_of_ble_eq_true rfl)) dL_law_900 f2 (fun r u H locs hr hP hD hS => ?_)
  obtain ⟨yv_3, mv_3, dv_3⟩ := u
  have hP : va_P D vwCl [(h0, .inr (0, [.ref ac, .ref ay, .ref ap, .int (nI mk)])), (ac, .inl (cyI, 365, .inl (pz_ar ch))), (ay, .inl (cyI, 60, .inl (pz_ar fy))), (ap, .inl (cyI, 60, .inl (pz_ar fp))), (oa, .inl (cyL, 1, .inr (.inl og))), (h1, .inr (1, [.int (nI 3), .int yv_3, .int mv_3, .int dv_3, .int (nI mk), .ref bc, .ref bf, .ref bg, .int (nI wr)])), (bc, .inl (cyI, 366, .inl (pz_ar rc))), (bf, .inl (cyI, 3001, .inl (pz_ar ff))), (bg, .inl (cyI, 3001, .inl (pz_ar gg)))] H := hP
  have hD : va_D (fun q : Nat => s.heap.size ≤ q) [(h0, .inr (0, [.ref ac, .ref ay, .ref ap, .int (nI mk)])), (ac, .inl (cyI, 365, .inl (pz_ar ch))), (ay, .inl (cyI, 60, .inl (pz_ar fy))), (ap, .inl (cyI, 60, .inl (pz_ar fp))), (oa, .inl (cyL, 1, .inr (.inl og))), (h1, .inr (1, [.int (nI 3), .int yv_3, .int mv_3, .int dv_3, .int (nI mk), .ref bc, .ref bf, .ref bg, .int (nI wr)])), (bc, .inl (cyI, 366, .inl (pz_ar rc))), (bf, .inl (cyI, 3001, .inl (pz_ar ff))), (bg, .inl (cyI, 3001, .inl (pz_ar gg)))] := hD
  obtain rfl : r = (nI 0) := hr
  refine lv_istore (lv' := [(6, .int (nI 0)), (5, .int (nI 3)), (0, .ref b), (1, .ref h0), (2, .ref h1), (3, .ref oa), (4, .int (nI i))]) hx hb dL_law_903 hl (by decide) rfl (fun ls hl => ?_)
  refine lv_aload_n hx hb dL_law_905 rfl (lv_at hl 4 rfl) ?_
  refine pz_VR (rest := []) ⟨hx, hb, hml, hown, hts⟩ (k_X1_thrown l D h1 bc bf bg cyI ([(cyL, .long)]) (nI 3) yv_3 mv_3 dv_3 mk wr rc ff gg  ) (cwV 0 hts gL_law_X1_thrown rfl rfl rfl (by decide +kernel) ⟨Nat.le_of_ble_eq_true rfl, Nat.le_of_ble_eq_true rfl⟩) hK hP (hD.weaken (fun _ _ _ _ => trivial)) hS hA [5, 6, 7, 8] rfl rfl rfl 5 1 rfl rfl rfl hl.1 rfl (lv_room (Nat.le_of_ble_eq_true rfl)) dL_law_906 f2 (fun r H locs hr hP hS => ?_)
  obtain rfl : r = (nI 3) := hr
  refine lv_iload hx hb dL_law_909 (lv_at hl 1 rfl) ?_
  refine pn_icmp_eq (tgt := 916) hx hb (by omega) (by omega) dL_law_911 (by decide) (fun _ => ?_) (fun c_5 => absurd c_5 (by decide))
  refine lv_iload hx hb dL_law_916 (lv_at hl 1 rfl) ?_
  refine pn_if_ne (tgt := 933) hx hb (by omega) dL_law_918 (by decide) (fun _ => ?_) (fun c_6 => absurd c_6 (by decide))
  refine lv_goto (tgt := 2234) hx hb dL_law_933 (by decide) ?_
  exact KK H locs ls ⟨mk, wr, ch, fy, fp, rc, ff, gg, (nI 3), yv_3, mv_3, dv_3, og, (by exact hI), hP.sub (ws' := [(h0, .inr (0, [.ref ac, .ref ay, .ref ap, .int (nI mk)])), (ac, .inl (cyI, 365, .inl (pz_ar ch))), (ay, .inl (cyI, 60, .inl (pz_ar fy))), (ap, .inl (cyI, 60, .inl (pz_ar fp))), (h1, .inr (1, [.int (nI 3), .int yv_3, .int mv_3, .int dv_3, .int (nI mk), .ref bc, .ref bf, .ref bg, .int (nI wr)])), (bc, .inl (cyI, 366, .inl (pz_ar rc))), (bf, .inl (cyI, 3001, .inl (pz_ar ff))), (bg, .inl (cyI, 3001, .inl (pz_ar gg))), (oa, .inl (cyL, 1, .inr (.inl og)))]) [0, 1, 2, 3, 5, 6, 7, 8, 4] rfl, hD.sub (ws' := [(h0, .inr (0, [.ref ac, .ref ay, .ref ap, .int (nI mk)])), (ac, .inl (cyI, 365, .inl (pz_ar ch))), (ay, .inl (cyI, 60, .inl (pz_ar fy))), (ap, .inl (cyI, 60, .inl (pz_ar fp))), (h1, .inr (1, [.int (nI 3), .int yv_3, .int mv_3, .int dv_3, .int (nI mk), .ref bc, .ref bf, .ref bg, .int (nI wr)])), (bc, .inl (cyI, 366, .inl (pz_ar rc))), (bf, .inl (cyI, 3001, .inl (pz_ar ff))), (bg, .inl (cyI, 3001, .inl (pz_ar gg))), (oa, .inl (cyL, 1, .inr (.inl og)))]) [0, 1, 2, 3, 5, 6, 7, 8, 4] (by decide) rfl, hS, lv_sub hl [2, 3, 4, 5, 6] rfl⟩
set_option maxHeartbeats 4000000 in
set_option maxRecDepth 100000 in
theorem kw_fromCount_a_1 {p : Program} {l : Launch} {e : Env} {s : State} {m : MethodId} {below : List Frame} {meth : Method} {c : Code} {Q : State → Prop} {D : va_G} {cyI cyL : ClassId} {b L : Nat} {xs : Nat → Int32} {h0 ac ay ap h1 bc bf bg oa : Nat} {i cells slots : Nat} {H : Heap} {locs : List Loc} {ls : Array Slot} {mk wr : Nat} {ch fy fp rc ff gg : Nat → Nat} {th yr mo da : Int32} {og : Nat → Int64} (hfl : l.stackTraces = false) (C0 : pl_C p s m c D cyI cyL b L xs) (hI : pz_inv mk wr ch fy fp rc ff gg) (hP : va_P D vwCl [(h0, .inr (0, [.ref ac, .ref ay, .ref ap, .int (nI mk)])), (ac, .inl (cyI, 365, .inl (pz_ar ch))), (ay, .inl (cyI, 60, .inl (pz_ar fy))), (ap, .inl (cyI, 60, .inl (pz_ar fp))), (h1, .inr (1, [.int th, .int yr, .int mo, .int da, .int (nI mk), .ref bc, .ref bf, .ref bg, .int (nI wr)])), (bc, .inl (cyI, 366, .inl (pz_ar rc))), (bf, .inl (cyI, 3001, .inl (pz_ar ff))), (bg, .inl (cyI, 3001, .inl (pz_ar gg))), (oa, .inl (cyL, 1, .inr (.inl og)))] H) (hD : va_D (fun q : Nat => s.heap.size ≤ q) [(h0, .inr (0, [.ref ac, .ref ay, .ref ap, .int (nI mk)])), (ac, .inl (cyI, 365, .inl (pz_ar ch))), (ay, .inl (cyI, 60, .inl (pz_ar fy))), (ap, .inl (cyI, 60, .inl (pz_ar fp))), (h1, .inr (1, [.int th, .int yr, .int mo, .int da, .int (nI mk), .ref bc, .ref bf, .ref bg, .int (nI wr)])), (bc, .inl (cyI, 366, .inl (pz_ar rc))), (bf, .inl (cyI, 3001, .inl (pz_ar ff))), (bg, .inl (cyI, 3001, .inl (pz_ar gg))), (oa, .inl (cyL, 1, .inr (.inl og)))]) (hS : va_S (fun q : Nat => s.heap.size ≤ q) s.heap H locs) (hl : lv_has ls 7 [(0, .ref b), (1, .ref h0), (2, .ref h1), (3, .ref oa), (4, .int (nI i))]) (hi : i + 6 ≤ L) (hr1 : cells + 1 ≤ 1049) (hs1 : slots + 6 ≤ 15155) (KK : ∀ (H : Heap) (locs : List Loc) (ls : Array Slot), pl_G s D cyI cyL b h0 ac ay ap h1 bc bf bg oa H locs ls i → W p l e room_1 s m #[Value.ref b] below meth c H locs (cells + 1) (slots + 6) Q (F0 m 2234 ls [])) {y mm a k : Nat} {x5 : Int32} (hk1 : xs (i + 1) = (nI y)) (hk2 : xs (i + 2) = (nI mm)) (hk3 : xs (i + 3) = (nI a)) (hk4 : xs (i + 4) = (nI k)) (hk5 : xs (i + 5) = x5) (hy0 : 1 ≤ y) (hy1 : y ≤ 3000) (hy2 : 1 ≤ mm) (hy3 : mm ≤ 12) (hy4 : a ≤ 2) (hy5 : 1 ≤ k) (hy6 : k ≤ pm_gc mm a) (hy7 : 1 = 1 → (y % 4 = 0 ∧ mm = 3 ∧ a = 0 ∧ k = 6)) (hz : ¬ x5.toInt = 0) : W p l e room_1 s m #[Value.ref b] below meth c H locs cells slots Q (F0 m 816 ls []) := by
  obtain ⟨hx, hb, hml, hown, hts, hX, hbl, hK, hth, hnc, hL⟩ := C0
  have hA : ∀ q : Nat, s.heap.size ≤ q → (fun q : Nat => s.heap.size ≤ q) q := fun _ h => h
  have f0 : cells + 0 ≤ room_1.cells ∧ slots + 0 ≤ room_1.slots := ⟨Nat.le_trans (Nat.le_succ cells) hr1, Nat.le_trans (Nat.le_add_right slots 6) hs1⟩
  have f1 : cells + 1 ≤ room_1.cells ∧ slots + 6 ≤ room_1.slots := ⟨hr1, hs1⟩
  have f2 : (cells + 1) + 0 ≤ room_1.cells ∧ (slots + 6) + 0 ≤ room_1.slots := f1
  have hgb := pm_gc_b mm a
  have hg := pm_fc_1 (bd := 1) hy0 hy2 hy3 hy4 hy5 hy6 (by decide) hy7
  refine lv_aload_n hx hb dL_law_816 rfl (lv_at hl 1 rfl) ?_
  refine lv_aload_n hx hb dL_law_817 rfl (lv_at hl 0 rfl) ?_
  refine lv_iload hx hb dL_law_818 (lv_at hl 4 rfl) ?_
  refine lv_iconst (v := nI 1) hx hb dL_law_820 (by decide) ?_
  refine pn_iadd hx hb dL_law_821 ?_
  refine pn_sld hx hb hX hbl hS (by omega) hL hk1 dL_law_822 ?_
  refine lv_aload_n hx hb dL_law_823 rfl (lv_at hl 0 rfl) ?_
  refine lv_iload hx hb dL_law_824 (lv_at hl 4 rfl) ?_
  refine lv_iconst (v := nI 2) hx hb dL_law_826 (by decide) ?_
  refine pn_iadd hx hb dL_law_827 ?_
  refine pn_sld hx hb hX hbl hS (by omega) hL hk2 dL_law_828 ?_
  refine lv_aload_n hx hb dL_law_829 rfl (lv_at hl 0 rfl) ?_
  refine lv_iload hx hb dL_law_830 (lv_at hl 4 rfl) ?_
  refine lv_iconst (v := nI 3) hx hb dL_law_832 (by decide) ?_
  refine pn_iadd hx hb dL_law_833 ?_
  refine pn_sld hx hb hX hbl hS (by omega) hL hk3 dL_law_834 ?_
  refine lv_aload_n hx hb dL_law_835 rfl (lv_at hl 0 rfl) ?_
  refine lv_iload hx hb dL_law_836 (lv_at hl 4 rfl) ?_
  refine lv_iconst (v := nI 4) hx hb dL_law_838 (by decide) ?_
  refine pn_iadd hx hb dL_law_839 ?_
  refine pn_sld hx hb hX hbl hS (by omega) hL hk4 dL_law_840 ?_
  refine lv_aload_n hx hb dL_law_841 rfl (lv_at hl 0 rfl) ?_
  refine lv_iload hx hb dL_law_842 (lv_at hl 4 rfl) ?_
  refine lv_iconst (v := nI 5) hx hb dL_law_844 (by decide) ?_
  refine pn_iadd hx hb dL_law_845 ?_
  refine pn_sld hx hb hX hbl hS (by omega) hL hk5 dL_law_846 ?_
  refine pi_if_eq (tgt := 854) (a := x5.toInt) hx hb rfl dL_law_847 (by decide) (fun h9 => absurd h9 hz) (fun _ => ?_)
  refine lv_iconst (v := nI 1) hx hb dL_law_850 (by decide) ?_
  refine lv_goto (tgt := 855) hx hb dL_law_851 (by decide) ?_
  refine lv_aload_n hx hb dL_law_855 rfl (lv_at hl 3 rfl) ?_
  refine pz_SIW (rest := []) (wr := [(h1, .inr (1, [.int th, .int yr, .int mo, .int da, .int (nI mk), .ref bc, .ref bf, .ref bg, .int (nI wr)])), (bc, .inl (cyI, 366, .inl (pz_ar rc))), (bf, .inl (cyI, 3001, .inl (pz_ar ff))), (bg, .inl (cyI, 3001, .inl (pz_ar gg)))]) ⟨hx, hb, hml, hown, hts⟩ (k_L_fromCount l D h0 ac ay ap oa cyI cyL ([]) mk ch fy fp og y mm a k 1 (by omega) (by omega) (by omega) (by omega) (by omega) (by omega) (by omega) (by decide) (by exact hy7)) (vx_cwSW 7 hts gL_law_L_fromCount rfl rfl rfl (by decide +kernel) ⟨Nat.le_of_ble_eq_true rfl, Nat.le_of_ble_eq_true rfl⟩) hK hP hD hS hA [0, 1, 2, 3, 8] [4, 5, 6, 7] rfl rfl rfl rfl rfl (by decide) rfl hl.1 rfl (lv_room (Nat.le_of_ble_eq_true rfl)) dL_law_856 f0 (fun r u H locs hr hP hD hS => ?_)
  obtain ⟨r0, u0⟩ : r = nI 0 ∧ u = nI (pm_fc y mm a k 1) := hr
  subst r0
  subst u0
  have hP : va_P D vwCl [(h1, .inr (1, [.int th, .int yr, .int mo, .int da, .int (nI mk), .ref bc, .ref bf, .ref bg, .int (nI wr)])), (bc, .inl (cyI, 366, .inl (pz_ar rc))), (bf, .inl (cyI, 3001, .inl (pz_ar ff))), (bg, .inl (cyI, 3001, .inl (pz_ar gg))), (h0, .inr (0, [.ref ac, .ref ay, .ref ap, .int (nI mk)])), (ac, .inl (cyI, 365, .inl (pz_ar ch))), (ay, .inl (cyI, 60, .inl (pz_ar fy))), (ap, .inl (cyI, 60, .inl (pz_ar fp))), (oa, .inl (cyL, 1, .inr (.inl (vp_updL og 0 (nI (pm_fc y mm a k 1)).toInt64))))] H := hP
  have hD : va_D (fun q : Nat => s.heap.size ≤ q) [(h1, .inr (1, [.int th, .int yr, .int mo, .int da, .int (nI mk), .ref bc, .ref bf, .ref bg, .int (nI wr)])), (bc, .inl (cyI, 366, .inl (pz_ar rc))), (bf, .inl (cyI, 3001, .inl (pz_ar ff))), (bg, .inl (cyI, 3001, .inl (pz_ar gg))), (h0, .inr (0, [.ref ac, .ref ay, .ref ap, .int (nI mk)])), (ac, .inl (cyI, 365, .inl (pz_ar ch))), (ay, .inl (cyI, 60, .inl (pz_ar fy))), (ap, .inl (cyI, 60, .inl (pz_ar fp))), (oa, .inl (cyL, 1, .inr (.inl (vp_updL og 0 (nI (pm_fc y mm a k 1)).toInt64))))] := hD
  refine lv_istore (lv' := [(5, .int (nI 0)), (0, .ref b), (1, .ref h0), (2, .ref h1), (3, .ref oa), (4, .int (nI i))]) hx hb dL_law_859 hl (by decide) rfl (fun ls hl => ?_)
  refine lv_aload_n hx hb dL_law_861 rfl (lv_at hl 3 rfl) ?_
  refine lv_aload_n hx hb dL_law_862 rfl (lv_at hl 1 rfl) ?_
  refine lv_iload hx hb dL_law_863 (lv_at hl 5 rfl) ?_
  refine lv_iconst (v := nI 1) hx hb dL_law_865 (by decide) ?_
  refine pn_iadd hx hb dL_law_866 ?_
  refine pn_sld hx hb hX hbl hS (by omega) hL hk1 dL_law_867 ?_
  refine lv_aload_n hx hb dL_law_868 rfl (lv_at hl 1 rfl) ?_
  refine lv_iload hx hb dL_law_869 (lv_at hl 5 rfl) ?_
  refine lv_iconst (v := nI 2) hx hb dL_law_871 (by decide) ?_
  refine pn_iadd hx hb dL_law_872 ?_
  refine pn_sld hx hb hX hbl hS (by omega) hL hk2 dL_law_873 ?_
  refine lv_aload_n hx hb dL_law_874 rfl (lv_at hl 1 rfl) ?_
  refine lv_iload hx hb dL_law_875 (lv_at hl 5 rfl) ?_
  refine lv_iconst (v := nI 3) hx hb dL_law_877 (by decide) ?_
  refine pn_iadd hx hb dL_law_878 ?_
  refine pn_sld hx hb hX hbl hS (by omega) hL hk3 dL_law_879 ?_
  refine lv_aload_n hx hb dL_law_880 rfl (lv_at hl 1 rfl) ?_
  refine lv_iload hx hb dL_law_881 (lv_at hl 5 rfl) ?_
  refine lv_iconst (v := nI 4) hx hb dL_law_883 (by decide) ?_
  refine pn_iadd hx hb dL_law_884 ?_
  refine pn_sld hx hb hX hbl hS (by omega) hL hk4 dL_law_885 ?_
  refine lv_aload_n hx hb dL_law_886 rfl (lv_at hl 1 rfl) ?_
  refine lv_iload hx hb dL_law_887 (lv_at hl 5 rfl) ?_
  refine lv_iconst (v := nI 5) hx hb dL_law_889 (by decide) ?_
  refine pn_iadd hx hb dL_law_890 ?_
  refine pn_sld hx hb hX hbl hS (by omega) hL hk5 dL_law_891 ?_
  refine pi_if_eq (tgt := 899) (a := x5.toInt) hx hb rfl dL_law_892 (by decide) (fun h9 => absurd h9 hz) (fun _ => ?_)
  refine lv_iconst (v := nI 1) hx hb dL_law_895 (by decide) ?_
  refine lv_goto (tgt := 900) hx hb dL_law_896 (by decide) ?_
  refine pz_VI (rest := []) (wr := [(h0, .inr (0, [.ref ac, .ref ay, .ref ap, .int (nI mk)])), (ac, .inl (cyI, 365, .inl (pz_ar ch))), (ay, .inl (cyI, 60, .inl (pz_ar fy))), (ap, .inl (cyI, 60, .inl (pz_ar fp))), (oa, .inl (cyL, 1, .inr (.inl (vp_updL og 0 (nI (pm_fc y mm a k 1)).toInt64))))]) ⟨hx, hb, hml, hown, hts⟩ (k_X1_fromCount_a l D h1 bc bf bg cyI ([(cyL, .long)]) th yr mo da mk wr rc ff gg y mm a k 1 (pm_fc y mm a k 1) (by omega) (by omega) (by omega) (by omega) (by omega) (by omega) (by omega) (by decide) (by exact hg.1) (by exact hg.2.1) (by exact hg.2.2) (by exact pm_fc_u hy0 hg.2.1)) (cwV 5 hts gL_law_X1_fromCount rfl rfl rfl (by decide +kernel) ⟨Nat.le_of_ble_eq_true rfl, Nat.le_of_ble_eq_true rfl⟩) hK hP hD hS hA [0, 1, 2, 3] [4, 5, 6, 7, 8] rfl rfl rfl rfl rfl (by decide) 0 1 rfl rfl rfl hl.1 rfl (lv_room (Nat.le_of_ble_eq_true rfl)) dL_law_900 f0 (fun r u H locs hr hP hD hS => ?_)
  obtain ⟨yv_3, mv_3, dv_3⟩ := u
  have hP : va_P D vwCl [(h0, .inr (0, [.ref ac, .ref ay, .ref ap, .int (nI mk)])), (ac, .inl (cyI, 365, .inl (pz_ar ch))), (ay, .inl (cyI, 60, .inl (pz_ar fy))), (ap, .inl (cyI, 60, .inl (pz_ar fp))), (oa, .inl (cyL, 1, .inr (.inl (vp_updL og 0 (nI (pm_fc y mm a k 1)).toInt64)))), (h1, .inr (1, [.int (nI 0), .int yv_3, .int mv_3, .int dv_3, .int (nI mk), .ref bc, .ref bf, .ref bg, .int (nI wr)])), (bc, .inl (cyI, 366, .inl (pz_ar rc))), (bf, .inl (cyI, 3001, .inl (pz_ar ff))), (bg, .inl (cyI, 3001, .inl (pz_ar gg)))] H := hP
  have hD : va_D (fun q : Nat => s.heap.size ≤ q) [(h0, .inr (0, [.ref ac, .ref ay, .ref ap, .int (nI mk)])), (ac, .inl (cyI, 365, .inl (pz_ar ch))), (ay, .inl (cyI, 60, .inl (pz_ar fy))), (ap, .inl (cyI, 60, .inl (pz_ar fp))), (oa, .inl (cyL, 1, .inr (.inl (vp_updL og 0 (nI (pm_fc y mm a k 1)).toInt64)))), (h1, .inr (1, [.int (nI 0), .int yv_3, .int mv_3, .int dv_3, .int (nI mk), .ref bc, .ref bf, .ref bg, .int (nI wr)])), (bc, .inl (cyI, 366, .inl (pz_ar rc))), (bf, .inl (cyI, 3001, .inl (pz_ar ff))), (bg, .inl (cyI, 3001, .inl (pz_ar gg)))] := hD
  obtain rfl : r = (nI (pm_fc y mm a k 1)) := hr
  refine lv_istore (lv' := [(6, .int (nI (pm_fc y mm a k 1))), (5, .int (nI 0)), (0, .ref b), (1, .ref h0), (2, .ref h1), (3, .ref oa), (4, .int (nI i))]) hx hb dL_law_903 hl (by decide) rfl (fun ls hl => ?_)
  refine lv_aload_n hx hb dL_law_905 rfl (lv_at hl 4 rfl) ?_
  refine pz_VR (rest := []) ⟨hx, hb, hml, hown, hts⟩ (k_X1_thrown l D h1 bc bf bg cyI ([(cyL, .long)]) (nI 0) yv_3 mv_3 dv_3 mk wr rc ff gg  ) (cwV 0 hts gL_law_X1_thrown rfl rfl rfl (by decide +kernel) ⟨Nat.le_of_ble_eq_true rfl, Nat.le_of_ble_eq_true rfl⟩) hK hP (hD.weaken (fun _ _ _ _ => trivial)) hS hA [5, 6, 7, 8] rfl rfl rfl 5 1 rfl rfl rfl hl.1 rfl (lv_room (Nat.le_of_ble_eq_true rfl)) dL_law_906 f0 (fun r H locs hr hP hS => ?_)
  obtain rfl : r = (nI 0) := hr
  refine lv_iload hx hb dL_law_909 (lv_at hl 1 rfl) ?_
  refine pn_icmp_eq (tgt := 916) hx hb (by omega) (by omega) dL_law_911 (by decide) (fun _ => ?_) (fun c_5 => absurd c_5 (by decide))
  refine lv_iload hx hb dL_law_916 (lv_at hl 1 rfl) ?_
  refine pn_if_ne (tgt := 933) hx hb (by omega) dL_law_918 (by decide) (fun c_6 => absurd c_6 (by decide)) (fun _ => ?_)
  refine lv_aload_n hx hb dL_law_921 rfl (lv_at hl 5 rfl) ?_
  refine lv_iconst (v := nI 0) hx hb dL_law_922 (by decide) ?_
  refine pn_lald hx hb hK hP 4 1 rfl rfl (by decide) (by decide) dL_law_923 ?_
  refine lv_iload hx hb dL_law_924 (lv_at hl 0 rfl) ?_
  refine lv_i2l (v := ((nI (pm_fc y mm a k 1))).toInt64) hx hb dL_law_926 rfl ?_
  refine pn_same hx hb (pz_updL_0.trans (congrArg Int32.toInt64 (by rfl))) dL_law_927 ?_
  refine pn_if_eq (tgt := 933) hx hb (by omega) dL_law_928 (by decide) (fun _ => ?_) (fun c_7 => absurd c_7 (by decide))
  refine lv_goto (tgt := 2234) hx hb dL_law_933 (by decide) ?_
  refine W.widen (k := cells + 1) (n := slots + 6) (Nat.le_succ cells) (Nat.le_add_right slots 6) ?_
  exact KK H locs ls ⟨mk, wr, ch, fy, fp, rc, ff, gg, (nI 0), yv_3, mv_3, dv_3, vp_updL og 0 (nI (pm_fc y mm a k 1)).toInt64, (by exact hI), hP.sub (ws' := [(h0, .inr (0, [.ref ac, .ref ay, .ref ap, .int (nI mk)])), (ac, .inl (cyI, 365, .inl (pz_ar ch))), (ay, .inl (cyI, 60, .inl (pz_ar fy))), (ap, .inl (cyI, 60, .inl (pz_ar fp))), (h1, .inr (1, [.int (nI 0), .int yv_3, .int mv_3, .int dv_3, .int (nI mk), .ref bc, .ref bf, .ref bg, .int (nI wr)])), (bc, .inl (cyI, 366, .inl (pz_ar rc))), (bf, .inl (cyI, 3001, .inl (pz_ar ff))), (bg, .inl (cyI, 3001, .inl (pz_ar gg))), (oa, .inl (cyL, 1, .inr (.inl (vp_updL og 0 (nI (pm_fc y mm a k 1)).toInt64))))]) [0, 1, 2, 3, 5, 6, 7, 8, 4] rfl, hD.sub (ws' := [(h0, .inr (0, [.ref ac, .ref ay, .ref ap, .int (nI mk)])), (ac, .inl (cyI, 365, .inl (pz_ar ch))), (ay, .inl (cyI, 60, .inl (pz_ar fy))), (ap, .inl (cyI, 60, .inl (pz_ar fp))), (h1, .inr (1, [.int (nI 0), .int yv_3, .int mv_3, .int dv_3, .int (nI mk), .ref bc, .ref bf, .ref bg, .int (nI wr)])), (bc, .inl (cyI, 366, .inl (pz_ar rc))), (bf, .inl (cyI, 3001, .inl (pz_ar ff))), (bg, .inl (cyI, 3001, .inl (pz_ar gg))), (oa, .inl (cyL, 1, .inr (.inl (vp_updL og 0 (nI (pm_fc y mm a k 1)).toInt64))))]) [0, 1, 2, 3, 5, 6, 7, 8, 4] (by decide) rfl, hS, lv_sub hl [2, 3, 4, 5, 6] rfl⟩
set_option maxHeartbeats 4000000 in
set_option maxRecDepth 100000 in
theorem kw_setConsuls_x {p : Program} {l : Launch} {e : Env} {s : State} {m : MethodId} {below : List Frame} {meth : Method} {c : Code} {Q : State → Prop} {D : va_G} {cyI cyL : ClassId} {b L : Nat} {xs : Nat → Int32} {h0 ac ay ap h1 bc bf bg oa : Nat} {i cells slots : Nat} {H : Heap} {locs : List Loc} {ls : Array Slot} {mk wr : Nat} {ch fy fp rc ff gg : Nat → Nat} {th yr mo da : Int32} {og : Nat → Int64} (hfl : l.stackTraces = false) (C0 : pl_C p s m c D cyI cyL b L xs) (hI : pz_inv mk wr ch fy fp rc ff gg) (hP : va_P D vwCl [(h0, .inr (0, [.ref ac, .ref ay, .ref ap, .int (nI mk)])), (ac, .inl (cyI, 365, .inl (pz_ar ch))), (ay, .inl (cyI, 60, .inl (pz_ar fy))), (ap, .inl (cyI, 60, .inl (pz_ar fp))), (h1, .inr (1, [.int th, .int yr, .int mo, .int da, .int (nI mk), .ref bc, .ref bf, .ref bg, .int (nI wr)])), (bc, .inl (cyI, 366, .inl (pz_ar rc))), (bf, .inl (cyI, 3001, .inl (pz_ar ff))), (bg, .inl (cyI, 3001, .inl (pz_ar gg))), (oa, .inl (cyL, 1, .inr (.inl og)))] H) (hD : va_D (fun q : Nat => s.heap.size ≤ q) [(h0, .inr (0, [.ref ac, .ref ay, .ref ap, .int (nI mk)])), (ac, .inl (cyI, 365, .inl (pz_ar ch))), (ay, .inl (cyI, 60, .inl (pz_ar fy))), (ap, .inl (cyI, 60, .inl (pz_ar fp))), (h1, .inr (1, [.int th, .int yr, .int mo, .int da, .int (nI mk), .ref bc, .ref bf, .ref bg, .int (nI wr)])), (bc, .inl (cyI, 366, .inl (pz_ar rc))), (bf, .inl (cyI, 3001, .inl (pz_ar ff))), (bg, .inl (cyI, 3001, .inl (pz_ar gg))), (oa, .inl (cyL, 1, .inr (.inl og)))]) (hS : va_S (fun q : Nat => s.heap.size ≤ q) s.heap H locs) (hl : lv_has ls 7 [(0, .ref b), (1, .ref h0), (2, .ref h1), (3, .ref oa), (4, .int (nI i))]) (hi : i + 6 ≤ L) (hr1 : cells + 1 ≤ 1049) (hs1 : slots + 6 ≤ 15155) (KK : ∀ (H : Heap) (locs : List Loc) (ls : Array Slot), pl_G s D cyI cyL b h0 ac ay ap h1 bc bf bg oa H locs ls i → W p l e room_1 s m #[Value.ref b] below meth c H locs (cells + 1) (slots + 6) Q (F0 m 2234 ls [])) {x1 x2 x3 : Int32} (hk1 : xs (i + 1) = x1) (hk2 : xs (i + 2) = x2) (hk3 : xs (i + 3) = x3) (hy0 : x1.toInt < 1 ∨ 3000 < x1.toInt) : W p l e room_1 s m #[Value.ref b] below meth c H locs cells slots Q (F0 m 1607 ls []) := by
  obtain ⟨hx, hb, hml, hown, hts, hX, hbl, hK, hth, hnc, hL⟩ := C0
  have hA : ∀ q : Nat, s.heap.size ≤ q → (fun q : Nat => s.heap.size ≤ q) q := fun _ h => h
  have f0 : cells + 0 ≤ room_1.cells ∧ slots + 0 ≤ room_1.slots := ⟨Nat.le_trans (Nat.le_succ cells) hr1, Nat.le_trans (Nat.le_add_right slots 6) hs1⟩
  have f1 : cells + 1 ≤ room_1.cells ∧ slots + 6 ≤ room_1.slots := ⟨hr1, hs1⟩
  have f2 : (cells + 1) + 0 ≤ room_1.cells ∧ (slots + 6) + 0 ≤ room_1.slots := f1
  refine lv_aload_n hx hb dL_law_1607 rfl (lv_at hl 1 rfl) ?_
  refine lv_aload_n hx hb dL_law_1608 rfl (lv_at hl 0 rfl) ?_
  refine lv_iload hx hb dL_law_1609 (lv_at hl 4 rfl) ?_
  refine lv_iconst (v := nI 1) hx hb dL_law_1611 (by decide) ?_
  refine pn_iadd hx hb dL_law_1612 ?_
  refine pn_sld hx hb hX hbl hS (by omega) hL hk1 dL_law_1613 ?_
  refine lv_aload_n hx hb dL_law_1614 rfl (lv_at hl 0 rfl) ?_
  refine lv_iload hx hb dL_law_1615 (lv_at hl 4 rfl) ?_
  refine lv_iconst (v := nI 2) hx hb dL_law_1617 (by decide) ?_
  refine pn_iadd hx hb dL_law_1618 ?_
  refine pn_sld hx hb hX hbl hS (by omega) hL hk2 dL_law_1619 ?_
  refine lv_aload_n hx hb dL_law_1620 rfl (lv_at hl 0 rfl) ?_
  refine lv_iload hx hb dL_law_1621 (lv_at hl 4 rfl) ?_
  refine lv_iconst (v := nI 3) hx hb dL_law_1623 (by decide) ?_
  refine pn_iadd hx hb dL_law_1624 ?_
  refine pn_sld hx hb hX hbl hS (by omega) hL hk3 dL_law_1625 ?_
  refine lv_aload_n hx hb dL_law_1626 rfl (lv_at hl 3 rfl) ?_
  refine pz_SRX (rest := []) ⟨hx, hb, hml, hown, hts⟩ (k_L_setConsuls_x l hfl D h0 ac ay ap oa cyI cyL ([]) mk ch fy fp og x1 x2 x3 (by exact hy0)) (vx_cwSW 5 hts gL_law_L_setConsuls rfl rfl rfl (by decide +kernel) ⟨Nat.le_of_ble_eq_true rfl, Nat.le_of_ble_eq_true rfl⟩) hK hP (hD.weaken (fun _ _ _ _ => trivial)) hS hth hnc [0, 1, 2, 3, 8] rfl rfl rfl rfl hl.1 rfl (lv_room (Nat.le_of_ble_eq_true rfl)) dL_law_1627 f1 (fun r H locs hr hP hS => ?_)
  obtain rfl : r = nI 1 := hr
  refine lv_istore (lv' := [(5, .int (nI 1)), (0, .ref b), (1, .ref h0), (2, .ref h1), (3, .ref oa), (4, .int (nI i))]) hx hb dL_law_1630 hl (by decide) rfl (fun ls hl => ?_)
  refine lv_aload_n hx hb dL_law_1632 rfl (lv_at hl 3 rfl) ?_
  refine lv_aload_n hx hb dL_law_1633 rfl (lv_at hl 1 rfl) ?_
  refine lv_iload hx hb dL_law_1634 (lv_at hl 5 rfl) ?_
  refine lv_iconst (v := nI 1) hx hb dL_law_1636 (by decide) ?_
  refine pn_iadd hx hb dL_law_1637 ?_
  refine pn_sld hx hb hX hbl hS (by omega) hL hk1 dL_law_1638 ?_
  refine lv_aload_n hx hb dL_law_1639 rfl (lv_at hl 1 rfl) ?_
  refine lv_iload hx hb dL_law_1640 (lv_at hl 5 rfl) ?_
  refine lv_iconst (v := nI 2) hx hb dL_law_1642 (by decide) ?_
  refine pn_iadd hx hb dL_law_1643 ?_
  refine pn_sld hx hb hX hbl hS (by omega) hL hk2 dL_law_1644 ?_
  refine lv_aload_n hx hb dL_law_1645 rfl (lv_at hl 1 rfl) ?_
  refine lv_iload hx hb dL_law_1646 (lv_at hl 5 rfl) ?_
  refine lv_iconst (v := nI 3) hx hb dL_law_1648 (by decide) ?_
  refine pn_iadd hx hb dL_law_1649 ?_
  refine pn_sld hx hb hX hbl hS (by omega) hL hk3 dL_law_1650 ?_
  refine pz_VI (rest := []) (wr := [(h0, .inr (0, [.ref ac, .ref ay, .ref ap, .int (nI mk)])), (ac, .inl (cyI, 365, .inl (pz_ar ch))), (ay, .inl (cyI, 60, .inl (pz_ar fy))), (ap, .inl (cyI, 60, .inl (pz_ar fp))), (oa, .inl (cyL, 1, .inr (.inl og)))]) ⟨hx, hb, hml, hown, hts⟩ (k_X1_setConsuls_x l D h1 bc bf bg cyI ([(cyL, .long)]) th yr mo da mk wr rc ff gg x1 x2 x3 (by exact hy0)) (cwV 3 hts gL_law_X1_setConsuls rfl rfl rfl (by decide +kernel) ⟨Nat.le_of_ble_eq_true rfl, Nat.le_of_ble_eq_true rfl⟩) hK hP hD hS hA [4, 5, 6, 7] [0, 1, 2, 3, 8] rfl rfl rfl rfl rfl (by decide) 4 1 rfl rfl rfl hl.1 rfl (lv_room (Nat.le_of_ble_eq_true rfl)) dL_law_1651 f2 (fun r u H locs hr hP hD hS => ?_)
  have hP : va_P D vwCl [(h0, .inr (0, [.ref ac, .ref ay, .ref ap, .int (nI mk)])), (ac, .inl (cyI, 365, .inl (pz_ar ch))), (ay, .inl (cyI, 60, .inl (pz_ar fy))), (ap, .inl (cyI, 60, .inl (pz_ar fp))), (oa, .inl (cyL, 1, .inr (.inl og))), (h1, .inr (1, [.int (nI 1), .int yr, .int mo, .int da, .int (nI mk), .ref bc, .ref bf, .ref bg, .int (nI wr)])), (bc, .inl (cyI, 366, .inl (pz_ar rc))), (bf, .inl (cyI, 3001, .inl (pz_ar ff))), (bg, .inl (cyI, 3001, .inl (pz_ar gg)))] H := hP
  have hD : va_D (fun q : Nat => s.heap.size ≤ q) [(h0, .inr (0, [.ref ac, .ref ay, .ref ap, .int (nI mk)])), (ac, .inl (cyI, 365, .inl (pz_ar ch))), (ay, .inl (cyI, 60, .inl (pz_ar fy))), (ap, .inl (cyI, 60, .inl (pz_ar fp))), (oa, .inl (cyL, 1, .inr (.inl og))), (h1, .inr (1, [.int (nI 1), .int yr, .int mo, .int da, .int (nI mk), .ref bc, .ref bf, .ref bg, .int (nI wr)])), (bc, .inl (cyI, 366, .inl (pz_ar rc))), (bf, .inl (cyI, 3001, .inl (pz_ar ff))), (bg, .inl (cyI, 3001, .inl (pz_ar gg)))] := hD
  obtain rfl : r = (nI 0) := hr
  refine lv_istore (lv' := [(6, .int (nI 0)), (5, .int (nI 1)), (0, .ref b), (1, .ref h0), (2, .ref h1), (3, .ref oa), (4, .int (nI i))]) hx hb dL_law_1654 hl (by decide) rfl (fun ls hl => ?_)
  refine lv_aload_n hx hb dL_law_1656 rfl (lv_at hl 4 rfl) ?_
  refine pz_VR (rest := []) ⟨hx, hb, hml, hown, hts⟩ (k_X1_thrown l D h1 bc bf bg cyI ([(cyL, .long)]) (nI 1) yr mo da mk wr rc ff gg  ) (cwV 0 hts gL_law_X1_thrown rfl rfl rfl (by decide +kernel) ⟨Nat.le_of_ble_eq_true rfl, Nat.le_of_ble_eq_true rfl⟩) hK hP (hD.weaken (fun _ _ _ _ => trivial)) hS hA [5, 6, 7, 8] rfl rfl rfl 5 1 rfl rfl rfl hl.1 rfl (lv_room (Nat.le_of_ble_eq_true rfl)) dL_law_1657 f2 (fun r H locs hr hP hS => ?_)
  obtain rfl : r = (nI 1) := hr
  refine lv_iload hx hb dL_law_1660 (lv_at hl 1 rfl) ?_
  refine pn_icmp_eq (tgt := 1667) hx hb (by omega) (by omega) dL_law_1662 (by decide) (fun _ => ?_) (fun c_3 => absurd c_3 (by decide))
  refine lv_iload hx hb dL_law_1667 (lv_at hl 1 rfl) ?_
  refine pn_if_ne (tgt := 1684) hx hb (by omega) dL_law_1669 (by decide) (fun _ => ?_) (fun c_4 => absurd c_4 (by decide))
  refine lv_goto (tgt := 2234) hx hb dL_law_1684 (by decide) ?_
  exact KK H locs ls ⟨mk, wr, ch, fy, fp, rc, ff, gg, (nI 1), yr, mo, da, og, (by exact hI), hP.sub (ws' := [(h0, .inr (0, [.ref ac, .ref ay, .ref ap, .int (nI mk)])), (ac, .inl (cyI, 365, .inl (pz_ar ch))), (ay, .inl (cyI, 60, .inl (pz_ar fy))), (ap, .inl (cyI, 60, .inl (pz_ar fp))), (h1, .inr (1, [.int (nI 1), .int yr, .int mo, .int da, .int (nI mk), .ref bc, .ref bf, .ref bg, .int (nI wr)])), (bc, .inl (cyI, 366, .inl (pz_ar rc))), (bf, .inl (cyI, 3001, .inl (pz_ar ff))), (bg, .inl (cyI, 3001, .inl (pz_ar gg))), (oa, .inl (cyL, 1, .inr (.inl og)))]) [0, 1, 2, 3, 5, 6, 7, 8, 4] rfl, hD.sub (ws' := [(h0, .inr (0, [.ref ac, .ref ay, .ref ap, .int (nI mk)])), (ac, .inl (cyI, 365, .inl (pz_ar ch))), (ay, .inl (cyI, 60, .inl (pz_ar fy))), (ap, .inl (cyI, 60, .inl (pz_ar fp))), (h1, .inr (1, [.int (nI 1), .int yr, .int mo, .int da, .int (nI mk), .ref bc, .ref bf, .ref bg, .int (nI wr)])), (bc, .inl (cyI, 366, .inl (pz_ar rc))), (bf, .inl (cyI, 3001, .inl (pz_ar ff))), (bg, .inl (cyI, 3001, .inl (pz_ar gg))), (oa, .inl (cyL, 1, .inr (.inl og)))]) [0, 1, 2, 3, 5, 6, 7, 8, 4] (by decide) rfl, hS, lv_sub hl [2, 3, 4, 5, 6] rfl⟩
set_option maxHeartbeats 4000000 in
set_option maxRecDepth 100000 in
theorem kw_setConsuls_x2 {p : Program} {l : Launch} {e : Env} {s : State} {m : MethodId} {below : List Frame} {meth : Method} {c : Code} {Q : State → Prop} {D : va_G} {cyI cyL : ClassId} {b L : Nat} {xs : Nat → Int32} {h0 ac ay ap h1 bc bf bg oa : Nat} {i cells slots : Nat} {H : Heap} {locs : List Loc} {ls : Array Slot} {mk wr : Nat} {ch fy fp rc ff gg : Nat → Nat} {th yr mo da : Int32} {og : Nat → Int64} (hfl : l.stackTraces = false) (C0 : pl_C p s m c D cyI cyL b L xs) (hI : pz_inv mk wr ch fy fp rc ff gg) (hP : va_P D vwCl [(h0, .inr (0, [.ref ac, .ref ay, .ref ap, .int (nI mk)])), (ac, .inl (cyI, 365, .inl (pz_ar ch))), (ay, .inl (cyI, 60, .inl (pz_ar fy))), (ap, .inl (cyI, 60, .inl (pz_ar fp))), (h1, .inr (1, [.int th, .int yr, .int mo, .int da, .int (nI mk), .ref bc, .ref bf, .ref bg, .int (nI wr)])), (bc, .inl (cyI, 366, .inl (pz_ar rc))), (bf, .inl (cyI, 3001, .inl (pz_ar ff))), (bg, .inl (cyI, 3001, .inl (pz_ar gg))), (oa, .inl (cyL, 1, .inr (.inl og)))] H) (hD : va_D (fun q : Nat => s.heap.size ≤ q) [(h0, .inr (0, [.ref ac, .ref ay, .ref ap, .int (nI mk)])), (ac, .inl (cyI, 365, .inl (pz_ar ch))), (ay, .inl (cyI, 60, .inl (pz_ar fy))), (ap, .inl (cyI, 60, .inl (pz_ar fp))), (h1, .inr (1, [.int th, .int yr, .int mo, .int da, .int (nI mk), .ref bc, .ref bf, .ref bg, .int (nI wr)])), (bc, .inl (cyI, 366, .inl (pz_ar rc))), (bf, .inl (cyI, 3001, .inl (pz_ar ff))), (bg, .inl (cyI, 3001, .inl (pz_ar gg))), (oa, .inl (cyL, 1, .inr (.inl og)))]) (hS : va_S (fun q : Nat => s.heap.size ≤ q) s.heap H locs) (hl : lv_has ls 7 [(0, .ref b), (1, .ref h0), (2, .ref h1), (3, .ref oa), (4, .int (nI i))]) (hi : i + 6 ≤ L) (hr1 : cells + 1 ≤ 1049) (hs1 : slots + 6 ≤ 15155) (KK : ∀ (H : Heap) (locs : List Loc) (ls : Array Slot), pl_G s D cyI cyL b h0 ac ay ap h1 bc bf bg oa H locs ls i → W p l e room_1 s m #[Value.ref b] below meth c H locs (cells + 1) (slots + 6) Q (F0 m 2234 ls [])) {y : Nat} {x2 x3 : Int32} (hk1 : xs (i + 1) = (nI y)) (hk2 : xs (i + 2) = x2) (hk3 : xs (i + 3) = x3) (hy0 : 1 ≤ y) (hy1 : y ≤ 3000) (hy2 : ¬ (1 ≤ x2.toInt ∧ x2.toInt ≤ 999 ∧ 1 ≤ x3.toInt ∧ x3.toInt ≤ 999 ∧ ¬ x2.toInt = x3.toInt)) : W p l e room_1 s m #[Value.ref b] below meth c H locs cells slots Q (F0 m 1607 ls []) := by
  obtain ⟨hx, hb, hml, hown, hts, hX, hbl, hK, hth, hnc, hL⟩ := C0
  have hA : ∀ q : Nat, s.heap.size ≤ q → (fun q : Nat => s.heap.size ≤ q) q := fun _ h => h
  have f0 : cells + 0 ≤ room_1.cells ∧ slots + 0 ≤ room_1.slots := ⟨Nat.le_trans (Nat.le_succ cells) hr1, Nat.le_trans (Nat.le_add_right slots 6) hs1⟩
  have f1 : cells + 1 ≤ room_1.cells ∧ slots + 6 ≤ room_1.slots := ⟨hr1, hs1⟩
  have f2 : (cells + 1) + 0 ≤ room_1.cells ∧ (slots + 6) + 0 ≤ room_1.slots := f1
  refine lv_aload_n hx hb dL_law_1607 rfl (lv_at hl 1 rfl) ?_
  refine lv_aload_n hx hb dL_law_1608 rfl (lv_at hl 0 rfl) ?_
  refine lv_iload hx hb dL_law_1609 (lv_at hl 4 rfl) ?_
  refine lv_iconst (v := nI 1) hx hb dL_law_1611 (by decide) ?_
  refine pn_iadd hx hb dL_law_1612 ?_
  refine pn_sld hx hb hX hbl hS (by omega) hL hk1 dL_law_1613 ?_
  refine lv_aload_n hx hb dL_law_1614 rfl (lv_at hl 0 rfl) ?_
  refine lv_iload hx hb dL_law_1615 (lv_at hl 4 rfl) ?_
  refine lv_iconst (v := nI 2) hx hb dL_law_1617 (by decide) ?_
  refine pn_iadd hx hb dL_law_1618 ?_
  refine pn_sld hx hb hX hbl hS (by omega) hL hk2 dL_law_1619 ?_
  refine lv_aload_n hx hb dL_law_1620 rfl (lv_at hl 0 rfl) ?_
  refine lv_iload hx hb dL_law_1621 (lv_at hl 4 rfl) ?_
  refine lv_iconst (v := nI 3) hx hb dL_law_1623 (by decide) ?_
  refine pn_iadd hx hb dL_law_1624 ?_
  refine pn_sld hx hb hX hbl hS (by omega) hL hk3 dL_law_1625 ?_
  refine lv_aload_n hx hb dL_law_1626 rfl (lv_at hl 3 rfl) ?_
  refine pz_SRX (rest := []) ⟨hx, hb, hml, hown, hts⟩ (k_L_setConsuls_x2 l hfl D h0 ac ay ap oa cyI cyL ([]) mk ch fy fp og y x2 x3 (by omega) (by omega) (by exact hy2)) (vx_cwSW 5 hts gL_law_L_setConsuls rfl rfl rfl (by decide +kernel) ⟨Nat.le_of_ble_eq_true rfl, Nat.le_of_ble_eq_true rfl⟩) hK hP (hD.weaken (fun _ _ _ _ => trivial)) hS hth hnc [0, 1, 2, 3, 8] rfl rfl rfl rfl hl.1 rfl (lv_room (Nat.le_of_ble_eq_true rfl)) dL_law_1627 f1 (fun r H locs hr hP hS => ?_)
  obtain rfl : r = nI 2 := hr
  refine lv_istore (lv' := [(5, .int (nI 2)), (0, .ref b), (1, .ref h0), (2, .ref h1), (3, .ref oa), (4, .int (nI i))]) hx hb dL_law_1630 hl (by decide) rfl (fun ls hl => ?_)
  refine lv_aload_n hx hb dL_law_1632 rfl (lv_at hl 3 rfl) ?_
  refine lv_aload_n hx hb dL_law_1633 rfl (lv_at hl 1 rfl) ?_
  refine lv_iload hx hb dL_law_1634 (lv_at hl 5 rfl) ?_
  refine lv_iconst (v := nI 1) hx hb dL_law_1636 (by decide) ?_
  refine pn_iadd hx hb dL_law_1637 ?_
  refine pn_sld hx hb hX hbl hS (by omega) hL hk1 dL_law_1638 ?_
  refine lv_aload_n hx hb dL_law_1639 rfl (lv_at hl 1 rfl) ?_
  refine lv_iload hx hb dL_law_1640 (lv_at hl 5 rfl) ?_
  refine lv_iconst (v := nI 2) hx hb dL_law_1642 (by decide) ?_
  refine pn_iadd hx hb dL_law_1643 ?_
  refine pn_sld hx hb hX hbl hS (by omega) hL hk2 dL_law_1644 ?_
  refine lv_aload_n hx hb dL_law_1645 rfl (lv_at hl 1 rfl) ?_
  refine lv_iload hx hb dL_law_1646 (lv_at hl 5 rfl) ?_
  refine lv_iconst (v := nI 3) hx hb dL_law_1648 (by decide) ?_
  refine pn_iadd hx hb dL_law_1649 ?_
  refine pn_sld hx hb hX hbl hS (by omega) hL hk3 dL_law_1650 ?_
  refine pz_VI (rest := []) (wr := [(h0, .inr (0, [.ref ac, .ref ay, .ref ap, .int (nI mk)])), (ac, .inl (cyI, 365, .inl (pz_ar ch))), (ay, .inl (cyI, 60, .inl (pz_ar fy))), (ap, .inl (cyI, 60, .inl (pz_ar fp))), (oa, .inl (cyL, 1, .inr (.inl og)))]) ⟨hx, hb, hml, hown, hts⟩ (k_X1_setConsuls_x2 l D h1 bc bf bg cyI ([(cyL, .long)]) th yr mo da mk wr rc ff gg y x2 x3 (by exact hy2) (by omega) (by omega)) (cwV 3 hts gL_law_X1_setConsuls rfl rfl rfl (by decide +kernel) ⟨Nat.le_of_ble_eq_true rfl, Nat.le_of_ble_eq_true rfl⟩) hK hP hD hS hA [4, 5, 6, 7] [0, 1, 2, 3, 8] rfl rfl rfl rfl rfl (by decide) 4 1 rfl rfl rfl hl.1 rfl (lv_room (Nat.le_of_ble_eq_true rfl)) dL_law_1651 f2 (fun r u H locs hr hP hD hS => ?_)
  have hP : va_P D vwCl [(h0, .inr (0, [.ref ac, .ref ay, .ref ap, .int (nI mk)])), (ac, .inl (cyI, 365, .inl (pz_ar ch))), (ay, .inl (cyI, 60, .inl (pz_ar fy))), (ap, .inl (cyI, 60, .inl (pz_ar fp))), (oa, .inl (cyL, 1, .inr (.inl og))), (h1, .inr (1, [.int (nI 2), .int yr, .int mo, .int da, .int (nI mk), .ref bc, .ref bf, .ref bg, .int (nI wr)])), (bc, .inl (cyI, 366, .inl (pz_ar rc))), (bf, .inl (cyI, 3001, .inl (pz_ar ff))), (bg, .inl (cyI, 3001, .inl (pz_ar gg)))] H := hP
  have hD : va_D (fun q : Nat => s.heap.size ≤ q) [(h0, .inr (0, [.ref ac, .ref ay, .ref ap, .int (nI mk)])), (ac, .inl (cyI, 365, .inl (pz_ar ch))), (ay, .inl (cyI, 60, .inl (pz_ar fy))), (ap, .inl (cyI, 60, .inl (pz_ar fp))), (oa, .inl (cyL, 1, .inr (.inl og))), (h1, .inr (1, [.int (nI 2), .int yr, .int mo, .int da, .int (nI mk), .ref bc, .ref bf, .ref bg, .int (nI wr)])), (bc, .inl (cyI, 366, .inl (pz_ar rc))), (bf, .inl (cyI, 3001, .inl (pz_ar ff))), (bg, .inl (cyI, 3001, .inl (pz_ar gg)))] := hD
  obtain rfl : r = (nI 0) := hr
  refine lv_istore (lv' := [(6, .int (nI 0)), (5, .int (nI 2)), (0, .ref b), (1, .ref h0), (2, .ref h1), (3, .ref oa), (4, .int (nI i))]) hx hb dL_law_1654 hl (by decide) rfl (fun ls hl => ?_)
  refine lv_aload_n hx hb dL_law_1656 rfl (lv_at hl 4 rfl) ?_
  refine pz_VR (rest := []) ⟨hx, hb, hml, hown, hts⟩ (k_X1_thrown l D h1 bc bf bg cyI ([(cyL, .long)]) (nI 2) yr mo da mk wr rc ff gg  ) (cwV 0 hts gL_law_X1_thrown rfl rfl rfl (by decide +kernel) ⟨Nat.le_of_ble_eq_true rfl, Nat.le_of_ble_eq_true rfl⟩) hK hP (hD.weaken (fun _ _ _ _ => trivial)) hS hA [5, 6, 7, 8] rfl rfl rfl 5 1 rfl rfl rfl hl.1 rfl (lv_room (Nat.le_of_ble_eq_true rfl)) dL_law_1657 f2 (fun r H locs hr hP hS => ?_)
  obtain rfl : r = (nI 2) := hr
  refine lv_iload hx hb dL_law_1660 (lv_at hl 1 rfl) ?_
  refine pn_icmp_eq (tgt := 1667) hx hb (by omega) (by omega) dL_law_1662 (by decide) (fun _ => ?_) (fun c_3 => absurd c_3 (by decide))
  refine lv_iload hx hb dL_law_1667 (lv_at hl 1 rfl) ?_
  refine pn_if_ne (tgt := 1684) hx hb (by omega) dL_law_1669 (by decide) (fun _ => ?_) (fun c_4 => absurd c_4 (by decide))
  refine lv_goto (tgt := 2234) hx hb dL_law_1684 (by decide) ?_
  exact KK H locs ls ⟨mk, wr, ch, fy, fp, rc, ff, gg, (nI 2), yr, mo, da, og, (by exact hI), hP.sub (ws' := [(h0, .inr (0, [.ref ac, .ref ay, .ref ap, .int (nI mk)])), (ac, .inl (cyI, 365, .inl (pz_ar ch))), (ay, .inl (cyI, 60, .inl (pz_ar fy))), (ap, .inl (cyI, 60, .inl (pz_ar fp))), (h1, .inr (1, [.int (nI 2), .int yr, .int mo, .int da, .int (nI mk), .ref bc, .ref bf, .ref bg, .int (nI wr)])), (bc, .inl (cyI, 366, .inl (pz_ar rc))), (bf, .inl (cyI, 3001, .inl (pz_ar ff))), (bg, .inl (cyI, 3001, .inl (pz_ar gg))), (oa, .inl (cyL, 1, .inr (.inl og)))]) [0, 1, 2, 3, 5, 6, 7, 8, 4] rfl, hD.sub (ws' := [(h0, .inr (0, [.ref ac, .ref ay, .ref ap, .int (nI mk)])), (ac, .inl (cyI, 365, .inl (pz_ar ch))), (ay, .inl (cyI, 60, .inl (pz_ar fy))), (ap, .inl (cyI, 60, .inl (pz_ar fp))), (h1, .inr (1, [.int (nI 2), .int yr, .int mo, .int da, .int (nI mk), .ref bc, .ref bf, .ref bg, .int (nI wr)])), (bc, .inl (cyI, 366, .inl (pz_ar rc))), (bf, .inl (cyI, 3001, .inl (pz_ar ff))), (bg, .inl (cyI, 3001, .inl (pz_ar gg))), (oa, .inl (cyL, 1, .inr (.inl og)))]) [0, 1, 2, 3, 5, 6, 7, 8, 4] (by decide) rfl, hS, lv_sub hl [2, 3, 4, 5, 6] rfl⟩
set_option maxHeartbeats 4000000 in
set_option maxRecDepth 100000 in
theorem kw_setConsuls_x3 {p : Program} {l : Launch} {e : Env} {s : State} {m : MethodId} {below : List Frame} {meth : Method} {c : Code} {Q : State → Prop} {D : va_G} {cyI cyL : ClassId} {b L : Nat} {xs : Nat → Int32} {h0 ac ay ap h1 bc bf bg oa : Nat} {i cells slots : Nat} {H : Heap} {locs : List Loc} {ls : Array Slot} {mk wr : Nat} {ch fy fp rc ff gg : Nat → Nat} {th yr mo da : Int32} {og : Nat → Int64} (hfl : l.stackTraces = false) (C0 : pl_C p s m c D cyI cyL b L xs) (hI : pz_inv mk wr ch fy fp rc ff gg) (hP : va_P D vwCl [(h0, .inr (0, [.ref ac, .ref ay, .ref ap, .int (nI mk)])), (ac, .inl (cyI, 365, .inl (pz_ar ch))), (ay, .inl (cyI, 60, .inl (pz_ar fy))), (ap, .inl (cyI, 60, .inl (pz_ar fp))), (h1, .inr (1, [.int th, .int yr, .int mo, .int da, .int (nI mk), .ref bc, .ref bf, .ref bg, .int (nI wr)])), (bc, .inl (cyI, 366, .inl (pz_ar rc))), (bf, .inl (cyI, 3001, .inl (pz_ar ff))), (bg, .inl (cyI, 3001, .inl (pz_ar gg))), (oa, .inl (cyL, 1, .inr (.inl og)))] H) (hD : va_D (fun q : Nat => s.heap.size ≤ q) [(h0, .inr (0, [.ref ac, .ref ay, .ref ap, .int (nI mk)])), (ac, .inl (cyI, 365, .inl (pz_ar ch))), (ay, .inl (cyI, 60, .inl (pz_ar fy))), (ap, .inl (cyI, 60, .inl (pz_ar fp))), (h1, .inr (1, [.int th, .int yr, .int mo, .int da, .int (nI mk), .ref bc, .ref bf, .ref bg, .int (nI wr)])), (bc, .inl (cyI, 366, .inl (pz_ar rc))), (bf, .inl (cyI, 3001, .inl (pz_ar ff))), (bg, .inl (cyI, 3001, .inl (pz_ar gg))), (oa, .inl (cyL, 1, .inr (.inl og)))]) (hS : va_S (fun q : Nat => s.heap.size ≤ q) s.heap H locs) (hl : lv_has ls 7 [(0, .ref b), (1, .ref h0), (2, .ref h1), (3, .ref oa), (4, .int (nI i))]) (hi : i + 6 ≤ L) (hr1 : cells + 1 ≤ 1049) (hs1 : slots + 6 ≤ 15155) (KK : ∀ (H : Heap) (locs : List Loc) (ls : Array Slot), pl_G s D cyI cyL b h0 ac ay ap h1 bc bf bg oa H locs ls i → W p l e room_1 s m #[Value.ref b] below meth c H locs (cells + 1) (slots + 6) Q (F0 m 2234 ls [])) {y fa se : Nat} (hk1 : xs (i + 1) = (nI y)) (hk2 : xs (i + 2) = (nI fa)) (hk3 : xs (i + 3) = (nI se)) (hy0 : 1 ≤ y) (hy1 : y ≤ 3000) (hy2 : 1 ≤ fa) (hy3 : fa ≤ 999) (hy4 : 1 ≤ se) (hy5 : se ≤ 999) (hy6 : ¬ fa = se) (hn1 : ∀ j, j < 60 → ¬ fy j = y) (hn2 : ∀ j, j < 60 → ¬ fy j = 0) : W p l e room_1 s m #[Value.ref b] below meth c H locs cells slots Q (F0 m 1607 ls []) := by
  obtain ⟨hx, hb, hml, hown, hts, hX, hbl, hK, hth, hnc, hL⟩ := C0
  have hA : ∀ q : Nat, s.heap.size ≤ q → (fun q : Nat => s.heap.size ≤ q) q := fun _ h => h
  have f0 : cells + 0 ≤ room_1.cells ∧ slots + 0 ≤ room_1.slots := ⟨Nat.le_trans (Nat.le_succ cells) hr1, Nat.le_trans (Nat.le_add_right slots 6) hs1⟩
  have f1 : cells + 1 ≤ room_1.cells ∧ slots + 6 ≤ room_1.slots := ⟨hr1, hs1⟩
  have f2 : (cells + 1) + 0 ≤ room_1.cells ∧ (slots + 6) + 0 ≤ room_1.slots := f1
  have hf0 : ff y = 0 := Classical.byContradiction fun h9 => by
    obtain ⟨j, g1, g2⟩ := (pi_here hI hy0 hy1).mp h9
    exact hn1 j g1 g2
  have hw0 : wr = 60 := (pi_cc hI).trans (pm_cc_full hn2)
  refine lv_aload_n hx hb dL_law_1607 rfl (lv_at hl 1 rfl) ?_
  refine lv_aload_n hx hb dL_law_1608 rfl (lv_at hl 0 rfl) ?_
  refine lv_iload hx hb dL_law_1609 (lv_at hl 4 rfl) ?_
  refine lv_iconst (v := nI 1) hx hb dL_law_1611 (by decide) ?_
  refine pn_iadd hx hb dL_law_1612 ?_
  refine pn_sld hx hb hX hbl hS (by omega) hL hk1 dL_law_1613 ?_
  refine lv_aload_n hx hb dL_law_1614 rfl (lv_at hl 0 rfl) ?_
  refine lv_iload hx hb dL_law_1615 (lv_at hl 4 rfl) ?_
  refine lv_iconst (v := nI 2) hx hb dL_law_1617 (by decide) ?_
  refine pn_iadd hx hb dL_law_1618 ?_
  refine pn_sld hx hb hX hbl hS (by omega) hL hk2 dL_law_1619 ?_
  refine lv_aload_n hx hb dL_law_1620 rfl (lv_at hl 0 rfl) ?_
  refine lv_iload hx hb dL_law_1621 (lv_at hl 4 rfl) ?_
  refine lv_iconst (v := nI 3) hx hb dL_law_1623 (by decide) ?_
  refine pn_iadd hx hb dL_law_1624 ?_
  refine pn_sld hx hb hX hbl hS (by omega) hL hk3 dL_law_1625 ?_
  refine lv_aload_n hx hb dL_law_1626 rfl (lv_at hl 3 rfl) ?_
  refine pz_SRX (rest := []) ⟨hx, hb, hml, hown, hts⟩ (k_L_setConsuls_x3 l hfl D h0 ac ay ap oa cyI cyL ([]) mk ch fy fp og y fa se (by omega) (by omega) (by omega) (by omega) (by omega) (by omega) (by omega) (by exact pi_fy hI) (by exact hn1) (by exact hn2)) (vx_cwSW 5 hts gL_law_L_setConsuls rfl rfl rfl (by decide +kernel) ⟨Nat.le_of_ble_eq_true rfl, Nat.le_of_ble_eq_true rfl⟩) hK hP (hD.weaken (fun _ _ _ _ => trivial)) hS hth hnc [0, 1, 2, 3, 8] rfl rfl rfl rfl hl.1 rfl (lv_room (Nat.le_of_ble_eq_true rfl)) dL_law_1627 f1 (fun r H locs hr hP hS => ?_)
  obtain rfl : r = nI 3 := hr
  refine lv_istore (lv' := [(5, .int (nI 3)), (0, .ref b), (1, .ref h0), (2, .ref h1), (3, .ref oa), (4, .int (nI i))]) hx hb dL_law_1630 hl (by decide) rfl (fun ls hl => ?_)
  refine lv_aload_n hx hb dL_law_1632 rfl (lv_at hl 3 rfl) ?_
  refine lv_aload_n hx hb dL_law_1633 rfl (lv_at hl 1 rfl) ?_
  refine lv_iload hx hb dL_law_1634 (lv_at hl 5 rfl) ?_
  refine lv_iconst (v := nI 1) hx hb dL_law_1636 (by decide) ?_
  refine pn_iadd hx hb dL_law_1637 ?_
  refine pn_sld hx hb hX hbl hS (by omega) hL hk1 dL_law_1638 ?_
  refine lv_aload_n hx hb dL_law_1639 rfl (lv_at hl 1 rfl) ?_
  refine lv_iload hx hb dL_law_1640 (lv_at hl 5 rfl) ?_
  refine lv_iconst (v := nI 2) hx hb dL_law_1642 (by decide) ?_
  refine pn_iadd hx hb dL_law_1643 ?_
  refine pn_sld hx hb hX hbl hS (by omega) hL hk2 dL_law_1644 ?_
  refine lv_aload_n hx hb dL_law_1645 rfl (lv_at hl 1 rfl) ?_
  refine lv_iload hx hb dL_law_1646 (lv_at hl 5 rfl) ?_
  refine lv_iconst (v := nI 3) hx hb dL_law_1648 (by decide) ?_
  refine pn_iadd hx hb dL_law_1649 ?_
  refine pn_sld hx hb hX hbl hS (by omega) hL hk3 dL_law_1650 ?_
  refine pz_VI (rest := []) (wr := [(h0, .inr (0, [.ref ac, .ref ay, .ref ap, .int (nI mk)])), (ac, .inl (cyI, 365, .inl (pz_ar ch))), (ay, .inl (cyI, 60, .inl (pz_ar fy))), (ap, .inl (cyI, 60, .inl (pz_ar fp))), (oa, .inl (cyL, 1, .inr (.inl og)))]) ⟨hx, hb, hml, hown, hts⟩ (k_X1_setConsuls_x3 l D h1 bc bf bg cyI ([(cyL, .long)]) th yr mo da mk wr rc ff gg y fa se (by omega) (by omega) (by omega) (by omega) (by omega) (by omega) (by omega) (by exact pi_ff hI) (by exact hf0) (by exact hw0)) (cwV 3 hts gL_law_X1_setConsuls rfl rfl rfl (by decide +kernel) ⟨Nat.le_of_ble_eq_true rfl, Nat.le_of_ble_eq_true rfl⟩) hK hP hD hS hA [4, 5, 6, 7] [0, 1, 2, 3, 8] rfl rfl rfl rfl rfl (by decide) 4 1 rfl rfl rfl hl.1 rfl (lv_room (Nat.le_of_ble_eq_true rfl)) dL_law_1651 f2 (fun r u H locs hr hP hD hS => ?_)
  have hP : va_P D vwCl [(h0, .inr (0, [.ref ac, .ref ay, .ref ap, .int (nI mk)])), (ac, .inl (cyI, 365, .inl (pz_ar ch))), (ay, .inl (cyI, 60, .inl (pz_ar fy))), (ap, .inl (cyI, 60, .inl (pz_ar fp))), (oa, .inl (cyL, 1, .inr (.inl og))), (h1, .inr (1, [.int (nI 3), .int yr, .int mo, .int da, .int (nI mk), .ref bc, .ref bf, .ref bg, .int (nI wr)])), (bc, .inl (cyI, 366, .inl (pz_ar rc))), (bf, .inl (cyI, 3001, .inl (pz_ar ff))), (bg, .inl (cyI, 3001, .inl (pz_ar gg)))] H := hP
  have hD : va_D (fun q : Nat => s.heap.size ≤ q) [(h0, .inr (0, [.ref ac, .ref ay, .ref ap, .int (nI mk)])), (ac, .inl (cyI, 365, .inl (pz_ar ch))), (ay, .inl (cyI, 60, .inl (pz_ar fy))), (ap, .inl (cyI, 60, .inl (pz_ar fp))), (oa, .inl (cyL, 1, .inr (.inl og))), (h1, .inr (1, [.int (nI 3), .int yr, .int mo, .int da, .int (nI mk), .ref bc, .ref bf, .ref bg, .int (nI wr)])), (bc, .inl (cyI, 366, .inl (pz_ar rc))), (bf, .inl (cyI, 3001, .inl (pz_ar ff))), (bg, .inl (cyI, 3001, .inl (pz_ar gg)))] := hD
  obtain rfl : r = (nI 0) := hr
  refine lv_istore (lv' := [(6, .int (nI 0)), (5, .int (nI 3)), (0, .ref b), (1, .ref h0), (2, .ref h1), (3, .ref oa), (4, .int (nI i))]) hx hb dL_law_1654 hl (by decide) rfl (fun ls hl => ?_)
  refine lv_aload_n hx hb dL_law_1656 rfl (lv_at hl 4 rfl) ?_
  refine pz_VR (rest := []) ⟨hx, hb, hml, hown, hts⟩ (k_X1_thrown l D h1 bc bf bg cyI ([(cyL, .long)]) (nI 3) yr mo da mk wr rc ff gg  ) (cwV 0 hts gL_law_X1_thrown rfl rfl rfl (by decide +kernel) ⟨Nat.le_of_ble_eq_true rfl, Nat.le_of_ble_eq_true rfl⟩) hK hP (hD.weaken (fun _ _ _ _ => trivial)) hS hA [5, 6, 7, 8] rfl rfl rfl 5 1 rfl rfl rfl hl.1 rfl (lv_room (Nat.le_of_ble_eq_true rfl)) dL_law_1657 f2 (fun r H locs hr hP hS => ?_)
  obtain rfl : r = (nI 3) := hr
  refine lv_iload hx hb dL_law_1660 (lv_at hl 1 rfl) ?_
  refine pn_icmp_eq (tgt := 1667) hx hb (by omega) (by omega) dL_law_1662 (by decide) (fun _ => ?_) (fun c_3 => absurd c_3 (by decide))
  refine lv_iload hx hb dL_law_1667 (lv_at hl 1 rfl) ?_
  refine pn_if_ne (tgt := 1684) hx hb (by omega) dL_law_1669 (by decide) (fun _ => ?_) (fun c_4 => absurd c_4 (by decide))
  refine lv_goto (tgt := 2234) hx hb dL_law_1684 (by decide) ?_
  exact KK H locs ls ⟨mk, wr, ch, fy, fp, rc, ff, gg, (nI 3), yr, mo, da, og, (by exact hI), hP.sub (ws' := [(h0, .inr (0, [.ref ac, .ref ay, .ref ap, .int (nI mk)])), (ac, .inl (cyI, 365, .inl (pz_ar ch))), (ay, .inl (cyI, 60, .inl (pz_ar fy))), (ap, .inl (cyI, 60, .inl (pz_ar fp))), (h1, .inr (1, [.int (nI 3), .int yr, .int mo, .int da, .int (nI mk), .ref bc, .ref bf, .ref bg, .int (nI wr)])), (bc, .inl (cyI, 366, .inl (pz_ar rc))), (bf, .inl (cyI, 3001, .inl (pz_ar ff))), (bg, .inl (cyI, 3001, .inl (pz_ar gg))), (oa, .inl (cyL, 1, .inr (.inl og)))]) [0, 1, 2, 3, 5, 6, 7, 8, 4] rfl, hD.sub (ws' := [(h0, .inr (0, [.ref ac, .ref ay, .ref ap, .int (nI mk)])), (ac, .inl (cyI, 365, .inl (pz_ar ch))), (ay, .inl (cyI, 60, .inl (pz_ar fy))), (ap, .inl (cyI, 60, .inl (pz_ar fp))), (h1, .inr (1, [.int (nI 3), .int yr, .int mo, .int da, .int (nI mk), .ref bc, .ref bf, .ref bg, .int (nI wr)])), (bc, .inl (cyI, 366, .inl (pz_ar rc))), (bf, .inl (cyI, 3001, .inl (pz_ar ff))), (bg, .inl (cyI, 3001, .inl (pz_ar gg))), (oa, .inl (cyL, 1, .inr (.inl og)))]) [0, 1, 2, 3, 5, 6, 7, 8, 4] (by decide) rfl, hS, lv_sub hl [2, 3, 4, 5, 6] rfl⟩
set_option maxHeartbeats 4000000 in
set_option maxRecDepth 100000 in
theorem kw_setConsuls_a {p : Program} {l : Launch} {e : Env} {s : State} {m : MethodId} {below : List Frame} {meth : Method} {c : Code} {Q : State → Prop} {D : va_G} {cyI cyL : ClassId} {b L : Nat} {xs : Nat → Int32} {h0 ac ay ap h1 bc bf bg oa : Nat} {i cells slots : Nat} {H : Heap} {locs : List Loc} {ls : Array Slot} {mk wr : Nat} {ch fy fp rc ff gg : Nat → Nat} {th yr mo da : Int32} {og : Nat → Int64} (hfl : l.stackTraces = false) (C0 : pl_C p s m c D cyI cyL b L xs) (hI : pz_inv mk wr ch fy fp rc ff gg) (hP : va_P D vwCl [(h0, .inr (0, [.ref ac, .ref ay, .ref ap, .int (nI mk)])), (ac, .inl (cyI, 365, .inl (pz_ar ch))), (ay, .inl (cyI, 60, .inl (pz_ar fy))), (ap, .inl (cyI, 60, .inl (pz_ar fp))), (h1, .inr (1, [.int th, .int yr, .int mo, .int da, .int (nI mk), .ref bc, .ref bf, .ref bg, .int (nI wr)])), (bc, .inl (cyI, 366, .inl (pz_ar rc))), (bf, .inl (cyI, 3001, .inl (pz_ar ff))), (bg, .inl (cyI, 3001, .inl (pz_ar gg))), (oa, .inl (cyL, 1, .inr (.inl og)))] H) (hD : va_D (fun q : Nat => s.heap.size ≤ q) [(h0, .inr (0, [.ref ac, .ref ay, .ref ap, .int (nI mk)])), (ac, .inl (cyI, 365, .inl (pz_ar ch))), (ay, .inl (cyI, 60, .inl (pz_ar fy))), (ap, .inl (cyI, 60, .inl (pz_ar fp))), (h1, .inr (1, [.int th, .int yr, .int mo, .int da, .int (nI mk), .ref bc, .ref bf, .ref bg, .int (nI wr)])), (bc, .inl (cyI, 366, .inl (pz_ar rc))), (bf, .inl (cyI, 3001, .inl (pz_ar ff))), (bg, .inl (cyI, 3001, .inl (pz_ar gg))), (oa, .inl (cyL, 1, .inr (.inl og)))]) (hS : va_S (fun q : Nat => s.heap.size ≤ q) s.heap H locs) (hl : lv_has ls 7 [(0, .ref b), (1, .ref h0), (2, .ref h1), (3, .ref oa), (4, .int (nI i))]) (hi : i + 6 ≤ L) (hr1 : cells + 1 ≤ 1049) (hs1 : slots + 6 ≤ 15155) (KK : ∀ (H : Heap) (locs : List Loc) (ls : Array Slot), pl_G s D cyI cyL b h0 ac ay ap h1 bc bf bg oa H locs ls i → W p l e room_1 s m #[Value.ref b] below meth c H locs (cells + 1) (slots + 6) Q (F0 m 2234 ls [])) {y fa se : Nat} (hk1 : xs (i + 1) = (nI y)) (hk2 : xs (i + 2) = (nI fa)) (hk3 : xs (i + 3) = (nI se)) (hy0 : 1 ≤ y) (hy1 : y ≤ 3000) (hy2 : 1 ≤ fa) (hy3 : fa ≤ 999) (hy4 : 1 ≤ se) (hy5 : se ≤ 999) (hy6 : ¬ fa = se) (hav : (∃ i, i < 60 ∧ fy i = y) ∨ ∃ i, i < 60 ∧ fy i = 0) : W p l e room_1 s m #[Value.ref b] below meth c H locs cells slots Q (F0 m 1607 ls []) := by
  obtain ⟨hx, hb, hml, hown, hts, hX, hbl, hK, hth, hnc, hL⟩ := C0
  have hA : ∀ q : Nat, s.heap.size ≤ q → (fun q : Nat => s.heap.size ≤ q) q := fun _ h => h
  have f0 : cells + 0 ≤ room_1.cells ∧ slots + 0 ≤ room_1.slots := ⟨Nat.le_trans (Nat.le_succ cells) hr1, Nat.le_trans (Nat.le_add_right slots 6) hs1⟩
  have f1 : cells + 1 ≤ room_1.cells ∧ slots + 6 ≤ room_1.slots := ⟨hr1, hs1⟩
  have f2 : (cells + 1) + 0 ≤ room_1.cells ∧ (slots + 6) + 0 ≤ room_1.slots := f1
  have hnf : ¬ (ff y = 0 ∧ wr = 60) := by
    rintro ⟨h8, h9⟩
    have h7 := pi_cc hI
    rcases hav with h6 | h6
    · exact (pi_here hI hy0 hy1).mpr h6 h8
    · have h5 := pm_cc_gap h6
      omega
  refine lv_aload_n hx hb dL_law_1607 rfl (lv_at hl 1 rfl) ?_
  refine lv_aload_n hx hb dL_law_1608 rfl (lv_at hl 0 rfl) ?_
  refine lv_iload hx hb dL_law_1609 (lv_at hl 4 rfl) ?_
  refine lv_iconst (v := nI 1) hx hb dL_law_1611 (by decide) ?_
  refine pn_iadd hx hb dL_law_1612 ?_
  refine pn_sld hx hb hX hbl hS (by omega) hL hk1 dL_law_1613 ?_
  refine lv_aload_n hx hb dL_law_1614 rfl (lv_at hl 0 rfl) ?_
  refine lv_iload hx hb dL_law_1615 (lv_at hl 4 rfl) ?_
  refine lv_iconst (v := nI 2) hx hb dL_law_1617 (by decide) ?_
  refine pn_iadd hx hb dL_law_1618 ?_
  refine pn_sld hx hb hX hbl hS (by omega) hL hk2 dL_law_1619 ?_
  refine lv_aload_n hx hb dL_law_1620 rfl (lv_at hl 0 rfl) ?_
  refine lv_iload hx hb dL_law_1621 (lv_at hl 4 rfl) ?_
  refine lv_iconst (v := nI 3) hx hb dL_law_1623 (by decide) ?_
  refine pn_iadd hx hb dL_law_1624 ?_
  refine pn_sld hx hb hX hbl hS (by omega) hL hk3 dL_law_1625 ?_
  refine lv_aload_n hx hb dL_law_1626 rfl (lv_at hl 3 rfl) ?_
  refine pz_SIW (rest := []) (wr := [(h1, .inr (1, [.int th, .int yr, .int mo, .int da, .int (nI mk), .ref bc, .ref bf, .ref bg, .int (nI wr)])), (bc, .inl (cyI, 366, .inl (pz_ar rc))), (bf, .inl (cyI, 3001, .inl (pz_ar ff))), (bg, .inl (cyI, 3001, .inl (pz_ar gg)))]) ⟨hx, hb, hml, hown, hts⟩ (k_L_setConsuls l D h0 ac ay ap oa cyI cyL ([]) mk ch fy fp og y fa se (by omega) (by omega) (by omega) (by omega) (by omega) (by omega) (by omega) (by exact pi_fy hI) (by exact hav)) (vx_cwSW 5 hts gL_law_L_setConsuls rfl rfl rfl (by decide +kernel) ⟨Nat.le_of_ble_eq_true rfl, Nat.le_of_ble_eq_true rfl⟩) hK hP hD hS hA [0, 1, 2, 3, 8] [4, 5, 6, 7] rfl rfl rfl rfl rfl (by decide) rfl hl.1 rfl (lv_room (Nat.le_of_ble_eq_true rfl)) dL_law_1627 f0 (fun r u H locs hr hP hD hS => ?_)
  obtain ⟨uv, ui⟩ := u
  obtain ⟨r0, hU⟩ : r = nI 0 ∧ (fun r i => i < 60 ∧ r = nI (pm_cc (pz_u fy i y) 60) ∧ (fy i = y ∨ ((∀ j, j < 60 → ¬ fy j = y) ∧ fy i = 0))) uv ui := hr
  subst r0
  have hP : va_P D vwCl [(h1, .inr (1, [.int th, .int yr, .int mo, .int da, .int (nI mk), .ref bc, .ref bf, .ref bg, .int (nI wr)])), (bc, .inl (cyI, 366, .inl (pz_ar rc))), (bf, .inl (cyI, 3001, .inl (pz_ar ff))), (bg, .inl (cyI, 3001, .inl (pz_ar gg))), (oa, .inl (cyL, 1, .inr (.inl (vp_updL og 0 uv.toInt64)))), (h0, .inr (0, [.ref ac, .ref ay, .ref ap, .int (nI mk)])), (ac, .inl (cyI, 365, .inl (pz_ar ch))), (ay, .inl (cyI, 60, .inl (pz_ar (pz_u fy ui y)))), (ap, .inl (cyI, 60, .inl (pz_ar (pz_u fp ui (1000 * fa + se)))))] H := hP
  have hD : va_D (fun q : Nat => s.heap.size ≤ q) [(h1, .inr (1, [.int th, .int yr, .int mo, .int da, .int (nI mk), .ref bc, .ref bf, .ref bg, .int (nI wr)])), (bc, .inl (cyI, 366, .inl (pz_ar rc))), (bf, .inl (cyI, 3001, .inl (pz_ar ff))), (bg, .inl (cyI, 3001, .inl (pz_ar gg))), (oa, .inl (cyL, 1, .inr (.inl (vp_updL og 0 uv.toInt64)))), (h0, .inr (0, [.ref ac, .ref ay, .ref ap, .int (nI mk)])), (ac, .inl (cyI, 365, .inl (pz_ar ch))), (ay, .inl (cyI, 60, .inl (pz_ar (pz_u fy ui y)))), (ap, .inl (cyI, 60, .inl (pz_ar (pz_u fp ui (1000 * fa + se)))))] := hD
  obtain ⟨hu1, hu2, hu3⟩ := hU
  have hps := pi_set hI hy0 hy1 hy2 hy3 hy5 hu1 hu3
  refine lv_istore (lv' := [(5, .int (nI 0)), (0, .ref b), (1, .ref h0), (2, .ref h1), (3, .ref oa), (4, .int (nI i))]) hx hb dL_law_1630 hl (by decide) rfl (fun ls hl => ?_)
  refine lv_aload_n hx hb dL_law_1632 rfl (lv_at hl 3 rfl) ?_
  refine lv_aload_n hx hb dL_law_1633 rfl (lv_at hl 1 rfl) ?_
  refine lv_iload hx hb dL_law_1634 (lv_at hl 5 rfl) ?_
  refine lv_iconst (v := nI 1) hx hb dL_law_1636 (by decide) ?_
  refine pn_iadd hx hb dL_law_1637 ?_
  refine pn_sld hx hb hX hbl hS (by omega) hL hk1 dL_law_1638 ?_
  refine lv_aload_n hx hb dL_law_1639 rfl (lv_at hl 1 rfl) ?_
  refine lv_iload hx hb dL_law_1640 (lv_at hl 5 rfl) ?_
  refine lv_iconst (v := nI 2) hx hb dL_law_1642 (by decide) ?_
  refine pn_iadd hx hb dL_law_1643 ?_
  refine pn_sld hx hb hX hbl hS (by omega) hL hk2 dL_law_1644 ?_
  refine lv_aload_n hx hb dL_law_1645 rfl (lv_at hl 1 rfl) ?_
  refine lv_iload hx hb dL_law_1646 (lv_at hl 5 rfl) ?_
  refine lv_iconst (v := nI 3) hx hb dL_law_1648 (by decide) ?_
  refine pn_iadd hx hb dL_law_1649 ?_
  refine pn_sld hx hb hX hbl hS (by omega) hL hk3 dL_law_1650 ?_
  refine pz_VI (rest := []) (wr := [(oa, .inl (cyL, 1, .inr (.inl (vp_updL og 0 uv.toInt64)))), (h0, .inr (0, [.ref ac, .ref ay, .ref ap, .int (nI mk)])), (ac, .inl (cyI, 365, .inl (pz_ar ch))), (ay, .inl (cyI, 60, .inl (pz_ar (pz_u fy ui y)))), (ap, .inl (cyI, 60, .inl (pz_ar (pz_u fp ui (1000 * fa + se)))))]) ⟨hx, hb, hml, hown, hts⟩ (k_X1_setConsuls_a l D h1 bc bf bg cyI ([(cyL, .long)]) th yr mo da mk wr rc ff gg y fa se (by omega) (by omega) (by omega) (by omega) (by omega) (by omega) (by omega) (by exact pi_ff hI) (by exact pi_wr hI) (by exact hnf)) (cwV 3 hts gL_law_X1_setConsuls rfl rfl rfl (by decide +kernel) ⟨Nat.le_of_ble_eq_true rfl, Nat.le_of_ble_eq_true rfl⟩) hK hP hD hS hA [0, 1, 2, 3] [4, 5, 6, 7, 8] rfl rfl rfl rfl rfl (by decide) 0 1 rfl rfl rfl hl.1 rfl (lv_room (Nat.le_of_ble_eq_true rfl)) dL_law_1651 f0 (fun r u H locs hr hP hD hS => ?_)
  obtain ⟨wn_1, rfl⟩ : ∃ z, z = u := ⟨_, rfl⟩
  have hP : va_P D vwCl [(oa, .inl (cyL, 1, .inr (.inl (vp_updL og 0 uv.toInt64)))), (h0, .inr (0, [.ref ac, .ref ay, .ref ap, .int (nI mk)])), (ac, .inl (cyI, 365, .inl (pz_ar ch))), (ay, .inl (cyI, 60, .inl (pz_ar (pz_u fy ui y)))), (ap, .inl (cyI, 60, .inl (pz_ar (pz_u fp ui (1000 * fa + se))))), (h1, .inr (1, [.int (nI 0), .int yr, .int mo, .int da, .int (nI mk), .ref bc, .ref bf, .ref bg, .int (nI wn_1)])), (bc, .inl (cyI, 366, .inl (pz_ar rc))), (bf, .inl (cyI, 3001, .inl (pz_ar (pz_u ff y fa)))), (bg, .inl (cyI, 3001, .inl (pz_ar (pz_u gg y se))))] H := hP
  have hD : va_D (fun q : Nat => s.heap.size ≤ q) [(oa, .inl (cyL, 1, .inr (.inl (vp_updL og 0 uv.toInt64)))), (h0, .inr (0, [.ref ac, .ref ay, .ref ap, .int (nI mk)])), (ac, .inl (cyI, 365, .inl (pz_ar ch))), (ay, .inl (cyI, 60, .inl (pz_ar (pz_u fy ui y)))), (ap, .inl (cyI, 60, .inl (pz_ar (pz_u fp ui (1000 * fa + se))))), (h1, .inr (1, [.int (nI 0), .int yr, .int mo, .int da, .int (nI mk), .ref bc, .ref bf, .ref bg, .int (nI wn_1)])), (bc, .inl (cyI, 366, .inl (pz_ar rc))), (bf, .inl (cyI, 3001, .inl (pz_ar (pz_u ff y fa)))), (bg, .inl (cyI, 3001, .inl (pz_ar (pz_u gg y se))))] := hD
  have hr_1 := hr
  obtain ⟨r_1, er_1⟩ : ∃ z, z = r := ⟨_, rfl⟩
  subst er_1
  obtain ⟨hb1, hb2⟩ := hr_1
  refine lv_istore (lv' := [(6, .int r_1), (5, .int (nI 0)), (0, .ref b), (1, .ref h0), (2, .ref h1), (3, .ref oa), (4, .int (nI i))]) hx hb dL_law_1654 hl (by decide) rfl (fun ls hl => ?_)
  refine lv_aload_n hx hb dL_law_1656 rfl (lv_at hl 4 rfl) ?_
  refine pz_VR (rest := []) ⟨hx, hb, hml, hown, hts⟩ (k_X1_thrown l D h1 bc bf bg cyI ([(cyL, .long)]) (nI 0) yr mo da mk wn_1 rc (pz_u ff y fa) (pz_u gg y se)  ) (cwV 0 hts gL_law_X1_thrown rfl rfl rfl (by decide +kernel) ⟨Nat.le_of_ble_eq_true rfl, Nat.le_of_ble_eq_true rfl⟩) hK hP (hD.weaken (fun _ _ _ _ => trivial)) hS hA [5, 6, 7, 8] rfl rfl rfl 5 1 rfl rfl rfl hl.1 rfl (lv_room (Nat.le_of_ble_eq_true rfl)) dL_law_1657 f0 (fun r H locs hr hP hS => ?_)
  obtain rfl : r = (nI 0) := hr
  refine lv_iload hx hb dL_law_1660 (lv_at hl 1 rfl) ?_
  refine pn_icmp_eq (tgt := 1667) hx hb (by omega) (by omega) dL_law_1662 (by decide) (fun _ => ?_) (fun c_3 => absurd c_3 (by decide))
  refine lv_iload hx hb dL_law_1667 (lv_at hl 1 rfl) ?_
  refine pn_if_ne (tgt := 1684) hx hb (by omega) dL_law_1669 (by decide) (fun c_4 => absurd c_4 (by decide)) (fun _ => ?_)
  refine lv_aload_n hx hb dL_law_1672 rfl (lv_at hl 5 rfl) ?_
  refine lv_iconst (v := nI 0) hx hb dL_law_1673 (by decide) ?_
  refine pn_lald hx hb hK hP 0 1 rfl rfl (by decide) (by decide) dL_law_1674 ?_
  refine lv_iload hx hb dL_law_1675 (lv_at hl 0 rfl) ?_
  refine lv_i2l (v := (r_1).toInt64) hx hb dL_law_1677 rfl ?_
  refine pn_same hx hb (pz_updL_0.trans (congrArg Int32.toInt64 (by exact hu2.trans ((congrArg nI (hps.2.trans hb2.symm)).trans hb1.symm)))) dL_law_1678 ?_
  refine pn_if_eq (tgt := 1684) hx hb (by omega) dL_law_1679 (by decide) (fun _ => ?_) (fun c_5 => absurd c_5 (by decide))
  refine lv_goto (tgt := 2234) hx hb dL_law_1684 (by decide) ?_
  refine W.widen (k := cells + 1) (n := slots + 6) (Nat.le_succ cells) (Nat.le_add_right slots 6) ?_
  exact KK H locs ls ⟨mk, wn_1, ch, (pz_u fy ui y), (pz_u fp ui (1000 * fa + se)), rc, (pz_u ff y fa), (pz_u gg y se), (nI 0), yr, mo, da, vp_updL og 0 uv.toInt64, (by rw [hb2]; exact hps.1), hP.sub (ws' := [(h0, .inr (0, [.ref ac, .ref ay, .ref ap, .int (nI mk)])), (ac, .inl (cyI, 365, .inl (pz_ar ch))), (ay, .inl (cyI, 60, .inl (pz_ar (pz_u fy ui y)))), (ap, .inl (cyI, 60, .inl (pz_ar (pz_u fp ui (1000 * fa + se))))), (h1, .inr (1, [.int (nI 0), .int yr, .int mo, .int da, .int (nI mk), .ref bc, .ref bf, .ref bg, .int (nI wn_1)])), (bc, .inl (cyI, 366, .inl (pz_ar rc))), (bf, .inl (cyI, 3001, .inl (pz_ar (pz_u ff y fa)))), (bg, .inl (cyI, 3001, .inl (pz_ar (pz_u gg y se)))), (oa, .inl (cyL, 1, .inr (.inl (vp_updL og 0 uv.toInt64))))]) [1, 2, 3, 4, 5, 6, 7, 8, 0] rfl, hD.sub (ws' := [(h0, .inr (0, [.ref ac, .ref ay, .ref ap, .int (nI mk)])), (ac, .inl (cyI, 365, .inl (pz_ar ch))), (ay, .inl (cyI, 60, .inl (pz_ar (pz_u fy ui y)))), (ap, .inl (cyI, 60, .inl (pz_ar (pz_u fp ui (1000 * fa + se))))), (h1, .inr (1, [.int (nI 0), .int yr, .int mo, .int da, .int (nI mk), .ref bc, .ref bf, .ref bg, .int (nI wn_1)])), (bc, .inl (cyI, 366, .inl (pz_ar rc))), (bf, .inl (cyI, 3001, .inl (pz_ar (pz_u ff y fa)))), (bg, .inl (cyI, 3001, .inl (pz_ar (pz_u gg y se)))), (oa, .inl (cyL, 1, .inr (.inl (vp_updL og 0 uv.toInt64))))]) [1, 2, 3, 4, 5, 6, 7, 8, 0] (by decide) rfl, hS, lv_sub hl [2, 3, 4, 5, 6] rfl⟩
set_option maxHeartbeats 4000000 in
set_option maxRecDepth 100000 in
theorem kw_strikeConsuls_a {p : Program} {l : Launch} {e : Env} {s : State} {m : MethodId} {below : List Frame} {meth : Method} {c : Code} {Q : State → Prop} {D : va_G} {cyI cyL : ClassId} {b L : Nat} {xs : Nat → Int32} {h0 ac ay ap h1 bc bf bg oa : Nat} {i cells slots : Nat} {H : Heap} {locs : List Loc} {ls : Array Slot} {mk wr : Nat} {ch fy fp rc ff gg : Nat → Nat} {th yr mo da : Int32} {og : Nat → Int64} (hfl : l.stackTraces = false) (C0 : pl_C p s m c D cyI cyL b L xs) (hI : pz_inv mk wr ch fy fp rc ff gg) (hP : va_P D vwCl [(h0, .inr (0, [.ref ac, .ref ay, .ref ap, .int (nI mk)])), (ac, .inl (cyI, 365, .inl (pz_ar ch))), (ay, .inl (cyI, 60, .inl (pz_ar fy))), (ap, .inl (cyI, 60, .inl (pz_ar fp))), (h1, .inr (1, [.int th, .int yr, .int mo, .int da, .int (nI mk), .ref bc, .ref bf, .ref bg, .int (nI wr)])), (bc, .inl (cyI, 366, .inl (pz_ar rc))), (bf, .inl (cyI, 3001, .inl (pz_ar ff))), (bg, .inl (cyI, 3001, .inl (pz_ar gg))), (oa, .inl (cyL, 1, .inr (.inl og)))] H) (hD : va_D (fun q : Nat => s.heap.size ≤ q) [(h0, .inr (0, [.ref ac, .ref ay, .ref ap, .int (nI mk)])), (ac, .inl (cyI, 365, .inl (pz_ar ch))), (ay, .inl (cyI, 60, .inl (pz_ar fy))), (ap, .inl (cyI, 60, .inl (pz_ar fp))), (h1, .inr (1, [.int th, .int yr, .int mo, .int da, .int (nI mk), .ref bc, .ref bf, .ref bg, .int (nI wr)])), (bc, .inl (cyI, 366, .inl (pz_ar rc))), (bf, .inl (cyI, 3001, .inl (pz_ar ff))), (bg, .inl (cyI, 3001, .inl (pz_ar gg))), (oa, .inl (cyL, 1, .inr (.inl og)))]) (hS : va_S (fun q : Nat => s.heap.size ≤ q) s.heap H locs) (hl : lv_has ls 7 [(0, .ref b), (1, .ref h0), (2, .ref h1), (3, .ref oa), (4, .int (nI i))]) (hi : i + 6 ≤ L) (hr1 : cells + 1 ≤ 1049) (hs1 : slots + 6 ≤ 15155) (KK : ∀ (H : Heap) (locs : List Loc) (ls : Array Slot), pl_G s D cyI cyL b h0 ac ay ap h1 bc bf bg oa H locs ls i → W p l e room_1 s m #[Value.ref b] below meth c H locs (cells + 1) (slots + 6) Q (F0 m 2234 ls [])) {y : Nat} (hk1 : xs (i + 1) = (nI y)) (hy0 : 1 ≤ y) (hy1 : y ≤ 3000) (hav : ∃ i, i < 60 ∧ fy i = y) : W p l e room_1 s m #[Value.ref b] below meth c H locs cells slots Q (F0 m 1687 ls []) := by
  obtain ⟨hx, hb, hml, hown, hts, hX, hbl, hK, hth, hnc, hL⟩ := C0
  have hA : ∀ q : Nat, s.heap.size ≤ q → (fun q : Nat => s.heap.size ≤ q) q := fun _ h => h
  have f0 : cells + 0 ≤ room_1.cells ∧ slots + 0 ≤ room_1.slots := ⟨Nat.le_trans (Nat.le_succ cells) hr1, Nat.le_trans (Nat.le_add_right slots 6) hs1⟩
  have f1 : cells + 1 ≤ room_1.cells ∧ slots + 6 ≤ room_1.slots := ⟨hr1, hs1⟩
  have f2 : (cells + 1) + 0 ≤ room_1.cells ∧ (slots + 6) + 0 ≤ room_1.slots := f1
  have hw1 : 1 ≤ wr := by
    obtain ⟨i0, g1, g2⟩ := hav
    exact (pi_strike hI hy0 hy1 g1 g2).2.2
  refine lv_aload_n hx hb dL_law_1687 rfl (lv_at hl 1 rfl) ?_
  refine lv_aload_n hx hb dL_law_1688 rfl (lv_at hl 0 rfl) ?_
  refine lv_iload hx hb dL_law_1689 (lv_at hl 4 rfl) ?_
  refine lv_iconst (v := nI 1) hx hb dL_law_1691 (by decide) ?_
  refine pn_iadd hx hb dL_law_1692 ?_
  refine pn_sld hx hb hX hbl hS (by omega) hL hk1 dL_law_1693 ?_
  refine lv_aload_n hx hb dL_law_1694 rfl (lv_at hl 3 rfl) ?_
  refine pz_SIW (rest := []) (wr := [(h1, .inr (1, [.int th, .int yr, .int mo, .int da, .int (nI mk), .ref bc, .ref bf, .ref bg, .int (nI wr)])), (bc, .inl (cyI, 366, .inl (pz_ar rc))), (bf, .inl (cyI, 3001, .inl (pz_ar ff))), (bg, .inl (cyI, 3001, .inl (pz_ar gg)))]) ⟨hx, hb, hml, hown, hts⟩ (k_L_strikeConsuls l D h0 ac ay ap oa cyI cyL ([]) mk ch fy fp og y (by omega) (by omega) (by exact pi_fy hI) (by exact hav)) (vx_cwSW 3 hts gL_law_L_strikeConsuls rfl rfl rfl (by decide +kernel) ⟨Nat.le_of_ble_eq_true rfl, Nat.le_of_ble_eq_true rfl⟩) hK hP hD hS hA [0, 1, 2, 3, 8] [4, 5, 6, 7] rfl rfl rfl rfl rfl (by decide) rfl hl.1 rfl (lv_room (Nat.le_of_ble_eq_true rfl)) dL_law_1695 f0 (fun r u H locs hr hP hD hS => ?_)
  obtain ⟨uv, ui⟩ := u
  obtain ⟨r0, hU⟩ : r = nI 0 ∧ (fun r i => i < 60 ∧ r = nI (pm_cc (pz_u fy i 0) 60) ∧ fy i = y) uv ui := hr
  subst r0
  have hP : va_P D vwCl [(h1, .inr (1, [.int th, .int yr, .int mo, .int da, .int (nI mk), .ref bc, .ref bf, .ref bg, .int (nI wr)])), (bc, .inl (cyI, 366, .inl (pz_ar rc))), (bf, .inl (cyI, 3001, .inl (pz_ar ff))), (bg, .inl (cyI, 3001, .inl (pz_ar gg))), (oa, .inl (cyL, 1, .inr (.inl (vp_updL og 0 uv.toInt64)))), (h0, .inr (0, [.ref ac, .ref ay, .ref ap, .int (nI mk)])), (ac, .inl (cyI, 365, .inl (pz_ar ch))), (ay, .inl (cyI, 60, .inl (pz_ar (pz_u fy ui 0)))), (ap, .inl (cyI, 60, .inl (pz_ar fp)))] H := hP
  have hD : va_D (fun q : Nat => s.heap.size ≤ q) [(h1, .inr (1, [.int th, .int yr, .int mo, .int da, .int (nI mk), .ref bc, .ref bf, .ref bg, .int (nI wr)])), (bc, .inl (cyI, 366, .inl (pz_ar rc))), (bf, .inl (cyI, 3001, .inl (pz_ar ff))), (bg, .inl (cyI, 3001, .inl (pz_ar gg))), (oa, .inl (cyL, 1, .inr (.inl (vp_updL og 0 uv.toInt64)))), (h0, .inr (0, [.ref ac, .ref ay, .ref ap, .int (nI mk)])), (ac, .inl (cyI, 365, .inl (pz_ar ch))), (ay, .inl (cyI, 60, .inl (pz_ar (pz_u fy ui 0)))), (ap, .inl (cyI, 60, .inl (pz_ar fp)))] := hD
  obtain ⟨hu1, hu2, hu3⟩ := hU
  have hps := pi_strike hI hy0 hy1 hu1 hu3
  refine lv_istore (lv' := [(5, .int (nI 0)), (0, .ref b), (1, .ref h0), (2, .ref h1), (3, .ref oa), (4, .int (nI i))]) hx hb dL_law_1698 hl (by decide) rfl (fun ls hl => ?_)
  refine lv_aload_n hx hb dL_law_1700 rfl (lv_at hl 3 rfl) ?_
  refine lv_aload_n hx hb dL_law_1701 rfl (lv_at hl 1 rfl) ?_
  refine lv_iload hx hb dL_law_1702 (lv_at hl 5 rfl) ?_
  refine lv_iconst (v := nI 1) hx hb dL_law_1704 (by decide) ?_
  refine pn_iadd hx hb dL_law_1705 ?_
  refine pn_sld hx hb hX hbl hS (by omega) hL hk1 dL_law_1706 ?_
  refine pz_VI (rest := []) (wr := [(oa, .inl (cyL, 1, .inr (.inl (vp_updL og 0 uv.toInt64)))), (h0, .inr (0, [.ref ac, .ref ay, .ref ap, .int (nI mk)])), (ac, .inl (cyI, 365, .inl (pz_ar ch))), (ay, .inl (cyI, 60, .inl (pz_ar (pz_u fy ui 0)))), (ap, .inl (cyI, 60, .inl (pz_ar fp)))]) ⟨hx, hb, hml, hown, hts⟩ (k_X1_strikeConsuls_a l D h1 bc bf bg cyI ([(cyL, .long)]) th yr mo da mk wr rc ff gg y (by omega) (by omega) (by exact pi_ff hI) (by exact pi_wr hI) (by exact (pi_here hI hy0 hy1).mpr hav) (by exact hw1)) (cwV 1 hts gL_law_X1_strikeConsuls rfl rfl rfl (by decide +kernel) ⟨Nat.le_of_ble_eq_true rfl, Nat.le_of_ble_eq_true rfl⟩) hK hP hD hS hA [0, 1, 2, 3] [4, 5, 6, 7, 8] rfl rfl rfl rfl rfl (by decide) 0 1 rfl rfl rfl hl.1 rfl (lv_room (Nat.le_of_ble_eq_true rfl)) dL_law_1707 f0 (fun r u H locs hr hP hD hS => ?_)
  have hP : va_P D vwCl [(oa, .inl (cyL, 1, .inr (.inl (vp_updL og 0 uv.toInt64)))), (h0, .inr (0, [.ref ac, .ref ay, .ref ap, .int (nI mk)])), (ac, .inl (cyI, 365, .inl (pz_ar ch))), (ay, .inl (cyI, 60, .inl (pz_ar (pz_u fy ui 0)))), (ap, .inl (cyI, 60, .inl (pz_ar fp))), (h1, .inr (1, [.int (nI 0), .int yr, .int mo, .int da, .int (nI mk), .ref bc, .ref bf, .ref bg, .int (nI (wr - 1))])), (bc, .inl (cyI, 366, .inl (pz_ar rc))), (bf, .inl (cyI, 3001, .inl (pz_ar (pz_u ff y 0)))), (bg, .inl (cyI, 3001, .inl (pz_ar (pz_u gg y 0))))] H := hP
  have hD : va_D (fun q : Nat => s.heap.size ≤ q) [(oa, .inl (cyL, 1, .inr (.inl (vp_updL og 0 uv.toInt64)))), (h0, .inr (0, [.ref ac, .ref ay, .ref ap, .int (nI mk)])), (ac, .inl (cyI, 365, .inl (pz_ar ch))), (ay, .inl (cyI, 60, .inl (pz_ar (pz_u fy ui 0)))), (ap, .inl (cyI, 60, .inl (pz_ar fp))), (h1, .inr (1, [.int (nI 0), .int yr, .int mo, .int da, .int (nI mk), .ref bc, .ref bf, .ref bg, .int (nI (wr - 1))])), (bc, .inl (cyI, 366, .inl (pz_ar rc))), (bf, .inl (cyI, 3001, .inl (pz_ar (pz_u ff y 0)))), (bg, .inl (cyI, 3001, .inl (pz_ar (pz_u gg y 0))))] := hD
  obtain rfl : r = (nI (wr - 1)) := hr
  refine lv_istore (lv' := [(6, .int (nI (wr - 1))), (5, .int (nI 0)), (0, .ref b), (1, .ref h0), (2, .ref h1), (3, .ref oa), (4, .int (nI i))]) hx hb dL_law_1710 hl (by decide) rfl (fun ls hl => ?_)
  refine lv_aload_n hx hb dL_law_1712 rfl (lv_at hl 4 rfl) ?_
  refine pz_VR (rest := []) ⟨hx, hb, hml, hown, hts⟩ (k_X1_thrown l D h1 bc bf bg cyI ([(cyL, .long)]) (nI 0) yr mo da mk (wr - 1) rc (pz_u ff y 0) (pz_u gg y 0)  ) (cwV 0 hts gL_law_X1_thrown rfl rfl rfl (by decide +kernel) ⟨Nat.le_of_ble_eq_true rfl, Nat.le_of_ble_eq_true rfl⟩) hK hP (hD.weaken (fun _ _ _ _ => trivial)) hS hA [5, 6, 7, 8] rfl rfl rfl 5 1 rfl rfl rfl hl.1 rfl (lv_room (Nat.le_of_ble_eq_true rfl)) dL_law_1713 f0 (fun r H locs hr hP hS => ?_)
  obtain rfl : r = (nI 0) := hr
  refine lv_iload hx hb dL_law_1716 (lv_at hl 1 rfl) ?_
  refine pn_icmp_eq (tgt := 1723) hx hb (by omega) (by omega) dL_law_1718 (by decide) (fun _ => ?_) (fun c_3 => absurd c_3 (by decide))
  refine lv_iload hx hb dL_law_1723 (lv_at hl 1 rfl) ?_
  refine pn_if_ne (tgt := 1740) hx hb (by omega) dL_law_1725 (by decide) (fun c_4 => absurd c_4 (by decide)) (fun _ => ?_)
  refine lv_aload_n hx hb dL_law_1728 rfl (lv_at hl 5 rfl) ?_
  refine lv_iconst (v := nI 0) hx hb dL_law_1729 (by decide) ?_
  refine pn_lald hx hb hK hP 0 1 rfl rfl (by decide) (by decide) dL_law_1730 ?_
  refine lv_iload hx hb dL_law_1731 (lv_at hl 0 rfl) ?_
  refine lv_i2l (v := ((nI (wr - 1))).toInt64) hx hb dL_law_1733 rfl ?_
  refine pn_same hx hb (pz_updL_0.trans (congrArg Int32.toInt64 (by exact hu2.trans (congrArg nI hps.2.1)))) dL_law_1734 ?_
  refine pn_if_eq (tgt := 1740) hx hb (by omega) dL_law_1735 (by decide) (fun _ => ?_) (fun c_5 => absurd c_5 (by decide))
  refine lv_goto (tgt := 2234) hx hb dL_law_1740 (by decide) ?_
  refine W.widen (k := cells + 1) (n := slots + 6) (Nat.le_succ cells) (Nat.le_add_right slots 6) ?_
  exact KK H locs ls ⟨mk, wr - 1, ch, (pz_u fy ui 0), fp, rc, (pz_u ff y 0), (pz_u gg y 0), (nI 0), yr, mo, da, vp_updL og 0 uv.toInt64, (by exact hps.1), hP.sub (ws' := [(h0, .inr (0, [.ref ac, .ref ay, .ref ap, .int (nI mk)])), (ac, .inl (cyI, 365, .inl (pz_ar ch))), (ay, .inl (cyI, 60, .inl (pz_ar (pz_u fy ui 0)))), (ap, .inl (cyI, 60, .inl (pz_ar fp))), (h1, .inr (1, [.int (nI 0), .int yr, .int mo, .int da, .int (nI mk), .ref bc, .ref bf, .ref bg, .int (nI (wr - 1))])), (bc, .inl (cyI, 366, .inl (pz_ar rc))), (bf, .inl (cyI, 3001, .inl (pz_ar (pz_u ff y 0)))), (bg, .inl (cyI, 3001, .inl (pz_ar (pz_u gg y 0)))), (oa, .inl (cyL, 1, .inr (.inl (vp_updL og 0 uv.toInt64))))]) [1, 2, 3, 4, 5, 6, 7, 8, 0] rfl, hD.sub (ws' := [(h0, .inr (0, [.ref ac, .ref ay, .ref ap, .int (nI mk)])), (ac, .inl (cyI, 365, .inl (pz_ar ch))), (ay, .inl (cyI, 60, .inl (pz_ar (pz_u fy ui 0)))), (ap, .inl (cyI, 60, .inl (pz_ar fp))), (h1, .inr (1, [.int (nI 0), .int yr, .int mo, .int da, .int (nI mk), .ref bc, .ref bf, .ref bg, .int (nI (wr - 1))])), (bc, .inl (cyI, 366, .inl (pz_ar rc))), (bf, .inl (cyI, 3001, .inl (pz_ar (pz_u ff y 0)))), (bg, .inl (cyI, 3001, .inl (pz_ar (pz_u gg y 0)))), (oa, .inl (cyL, 1, .inr (.inl (vp_updL og 0 uv.toInt64))))]) [1, 2, 3, 4, 5, 6, 7, 8, 0] (by decide) rfl, hS, lv_sub hl [2, 3, 4, 5, 6] rfl⟩
set_option maxHeartbeats 4000000 in
set_option maxRecDepth 100000 in
theorem kw_strikeConsuls_x2 {p : Program} {l : Launch} {e : Env} {s : State} {m : MethodId} {below : List Frame} {meth : Method} {c : Code} {Q : State → Prop} {D : va_G} {cyI cyL : ClassId} {b L : Nat} {xs : Nat → Int32} {h0 ac ay ap h1 bc bf bg oa : Nat} {i cells slots : Nat} {H : Heap} {locs : List Loc} {ls : Array Slot} {mk wr : Nat} {ch fy fp rc ff gg : Nat → Nat} {th yr mo da : Int32} {og : Nat → Int64} (hfl : l.stackTraces = false) (C0 : pl_C p s m c D cyI cyL b L xs) (hI : pz_inv mk wr ch fy fp rc ff gg) (hP : va_P D vwCl [(h0, .inr (0, [.ref ac, .ref ay, .ref ap, .int (nI mk)])), (ac, .inl (cyI, 365, .inl (pz_ar ch))), (ay, .inl (cyI, 60, .inl (pz_ar fy))), (ap, .inl (cyI, 60, .inl (pz_ar fp))), (h1, .inr (1, [.int th, .int yr, .int mo, .int da, .int (nI mk), .ref bc, .ref bf, .ref bg, .int (nI wr)])), (bc, .inl (cyI, 366, .inl (pz_ar rc))), (bf, .inl (cyI, 3001, .inl (pz_ar ff))), (bg, .inl (cyI, 3001, .inl (pz_ar gg))), (oa, .inl (cyL, 1, .inr (.inl og)))] H) (hD : va_D (fun q : Nat => s.heap.size ≤ q) [(h0, .inr (0, [.ref ac, .ref ay, .ref ap, .int (nI mk)])), (ac, .inl (cyI, 365, .inl (pz_ar ch))), (ay, .inl (cyI, 60, .inl (pz_ar fy))), (ap, .inl (cyI, 60, .inl (pz_ar fp))), (h1, .inr (1, [.int th, .int yr, .int mo, .int da, .int (nI mk), .ref bc, .ref bf, .ref bg, .int (nI wr)])), (bc, .inl (cyI, 366, .inl (pz_ar rc))), (bf, .inl (cyI, 3001, .inl (pz_ar ff))), (bg, .inl (cyI, 3001, .inl (pz_ar gg))), (oa, .inl (cyL, 1, .inr (.inl og)))]) (hS : va_S (fun q : Nat => s.heap.size ≤ q) s.heap H locs) (hl : lv_has ls 7 [(0, .ref b), (1, .ref h0), (2, .ref h1), (3, .ref oa), (4, .int (nI i))]) (hi : i + 6 ≤ L) (hr1 : cells + 1 ≤ 1049) (hs1 : slots + 6 ≤ 15155) (KK : ∀ (H : Heap) (locs : List Loc) (ls : Array Slot), pl_G s D cyI cyL b h0 ac ay ap h1 bc bf bg oa H locs ls i → W p l e room_1 s m #[Value.ref b] below meth c H locs (cells + 1) (slots + 6) Q (F0 m 2234 ls [])) {y : Nat} (hk1 : xs (i + 1) = (nI y)) (hy0 : 1 ≤ y) (hy1 : y ≤ 3000) (hn1 : ∀ j, j < 60 → ¬ fy j = y) : W p l e room_1 s m #[Value.ref b] below meth c H locs cells slots Q (F0 m 1687 ls []) := by
  obtain ⟨hx, hb, hml, hown, hts, hX, hbl, hK, hth, hnc, hL⟩ := C0
  have hA : ∀ q : Nat, s.heap.size ≤ q → (fun q : Nat => s.heap.size ≤ q) q := fun _ h => h
  have f0 : cells + 0 ≤ room_1.cells ∧ slots + 0 ≤ room_1.slots := ⟨Nat.le_trans (Nat.le_succ cells) hr1, Nat.le_trans (Nat.le_add_right slots 6) hs1⟩
  have f1 : cells + 1 ≤ room_1.cells ∧ slots + 6 ≤ room_1.slots := ⟨hr1, hs1⟩
  have f2 : (cells + 1) + 0 ≤ room_1.cells ∧ (slots + 6) + 0 ≤ room_1.slots := f1
  have hf0 : ff y = 0 := Classical.byContradiction fun h9 => by
    obtain ⟨j, g1, g2⟩ := (pi_here hI hy0 hy1).mp h9
    exact hn1 j g1 g2
  refine lv_aload_n hx hb dL_law_1687 rfl (lv_at hl 1 rfl) ?_
  refine lv_aload_n hx hb dL_law_1688 rfl (lv_at hl 0 rfl) ?_
  refine lv_iload hx hb dL_law_1689 (lv_at hl 4 rfl) ?_
  refine lv_iconst (v := nI 1) hx hb dL_law_1691 (by decide) ?_
  refine pn_iadd hx hb dL_law_1692 ?_
  refine pn_sld hx hb hX hbl hS (by omega) hL hk1 dL_law_1693 ?_
  refine lv_aload_n hx hb dL_law_1694 rfl (lv_at hl 3 rfl) ?_
  refine pz_SRX (rest := []) ⟨hx, hb, hml, hown, hts⟩ (k_L_strikeConsuls_x2 l hfl D h0 ac ay ap oa cyI cyL ([]) mk ch fy fp og y (by omega) (by omega) (by exact pi_fy hI) (by exact hn1)) (vx_cwSW 3 hts gL_law_L_strikeConsuls rfl rfl rfl (by decide +kernel) ⟨Nat.le_of_ble_eq_true rfl, Nat.le_of_ble_eq_true rfl⟩) hK hP (hD.weaken (fun _ _ _ _ => trivial)) hS hth hnc [0, 1, 2, 3, 8] rfl rfl rfl rfl hl.1 rfl (lv_room (Nat.le_of_ble_eq_true rfl)) dL_law_1695 f1 (fun r H locs hr hP hS => ?_)
  obtain rfl : r = nI 2 := hr
  refine lv_istore (lv' := [(5, .int (nI 2)), (0, .ref b), (1, .ref h0), (2, .ref h1), (3, .ref oa), (4, .int (nI i))]) hx hb dL_law_1698 hl (by decide) rfl (fun ls hl => ?_)
  refine lv_aload_n hx hb dL_law_1700 rfl (lv_at hl 3 rfl) ?_
  refine lv_aload_n hx hb dL_law_1701 rfl (lv_at hl 1 rfl) ?_
  refine lv_iload hx hb dL_law_1702 (lv_at hl 5 rfl) ?_
  refine lv_iconst (v := nI 1) hx hb dL_law_1704 (by decide) ?_
  refine pn_iadd hx hb dL_law_1705 ?_
  refine pn_sld hx hb hX hbl hS (by omega) hL hk1 dL_law_1706 ?_
  refine pz_VI (rest := []) (wr := [(h0, .inr (0, [.ref ac, .ref ay, .ref ap, .int (nI mk)])), (ac, .inl (cyI, 365, .inl (pz_ar ch))), (ay, .inl (cyI, 60, .inl (pz_ar fy))), (ap, .inl (cyI, 60, .inl (pz_ar fp))), (oa, .inl (cyL, 1, .inr (.inl og)))]) ⟨hx, hb, hml, hown, hts⟩ (k_X1_strikeConsuls_x2 l D h1 bc bf bg cyI ([(cyL, .long)]) th yr mo da mk wr rc ff gg y (by omega) (by omega) (by exact pi_ff hI) (by exact hf0)) (cwV 1 hts gL_law_X1_strikeConsuls rfl rfl rfl (by decide +kernel) ⟨Nat.le_of_ble_eq_true rfl, Nat.le_of_ble_eq_true rfl⟩) hK hP hD hS hA [4, 5, 6, 7] [0, 1, 2, 3, 8] rfl rfl rfl rfl rfl (by decide) 4 1 rfl rfl rfl hl.1 rfl (lv_room (Nat.le_of_ble_eq_true rfl)) dL_law_1707 f2 (fun r u H locs hr hP hD hS => ?_)
  have hP : va_P D vwCl [(h0, .inr (0, [.ref ac, .ref ay, .ref ap, .int (nI mk)])), (ac, .inl (cyI, 365, .inl (pz_ar ch))), (ay, .inl (cyI, 60, .inl (pz_ar fy))), (ap, .inl (cyI, 60, .inl (pz_ar fp))), (oa, .inl (cyL, 1, .inr (.inl og))), (h1, .inr (1, [.int (nI 2), .int yr, .int mo, .int da, .int (nI mk), .ref bc, .ref bf, .ref bg, .int (nI wr)])), (bc, .inl (cyI, 366, .inl (pz_ar rc))), (bf, .inl (cyI, 3001, .inl (pz_ar ff))), (bg, .inl (cyI, 3001, .inl (pz_ar gg)))] H := hP
  have hD : va_D (fun q : Nat => s.heap.size ≤ q) [(h0, .inr (0, [.ref ac, .ref ay, .ref ap, .int (nI mk)])), (ac, .inl (cyI, 365, .inl (pz_ar ch))), (ay, .inl (cyI, 60, .inl (pz_ar fy))), (ap, .inl (cyI, 60, .inl (pz_ar fp))), (oa, .inl (cyL, 1, .inr (.inl og))), (h1, .inr (1, [.int (nI 2), .int yr, .int mo, .int da, .int (nI mk), .ref bc, .ref bf, .ref bg, .int (nI wr)])), (bc, .inl (cyI, 366, .inl (pz_ar rc))), (bf, .inl (cyI, 3001, .inl (pz_ar ff))), (bg, .inl (cyI, 3001, .inl (pz_ar gg)))] := hD
  obtain rfl : r = (nI 0) := hr
  refine lv_istore (lv' := [(6, .int (nI 0)), (5, .int (nI 2)), (0, .ref b), (1, .ref h0), (2, .ref h1), (3, .ref oa), (4, .int (nI i))]) hx hb dL_law_1710 hl (by decide) rfl (fun ls hl => ?_)
  refine lv_aload_n hx hb dL_law_1712 rfl (lv_at hl 4 rfl) ?_
  refine pz_VR (rest := []) ⟨hx, hb, hml, hown, hts⟩ (k_X1_thrown l D h1 bc bf bg cyI ([(cyL, .long)]) (nI 2) yr mo da mk wr rc ff gg  ) (cwV 0 hts gL_law_X1_thrown rfl rfl rfl (by decide +kernel) ⟨Nat.le_of_ble_eq_true rfl, Nat.le_of_ble_eq_true rfl⟩) hK hP (hD.weaken (fun _ _ _ _ => trivial)) hS hA [5, 6, 7, 8] rfl rfl rfl 5 1 rfl rfl rfl hl.1 rfl (lv_room (Nat.le_of_ble_eq_true rfl)) dL_law_1713 f2 (fun r H locs hr hP hS => ?_)
  obtain rfl : r = (nI 2) := hr
  refine lv_iload hx hb dL_law_1716 (lv_at hl 1 rfl) ?_
  refine pn_icmp_eq (tgt := 1723) hx hb (by omega) (by omega) dL_law_1718 (by decide) (fun _ => ?_) (fun c_3 => absurd c_3 (by decide))
  refine lv_iload hx hb dL_law_1723 (lv_at hl 1 rfl) ?_
  refine pn_if_ne (tgt := 1740) hx hb (by omega) dL_law_1725 (by decide) (fun _ => ?_) (fun c_4 => absurd c_4 (by decide))
  refine lv_goto (tgt := 2234) hx hb dL_law_1740 (by decide) ?_
  exact KK H locs ls ⟨mk, wr, ch, fy, fp, rc, ff, gg, (nI 2), yr, mo, da, og, (by exact hI), hP.sub (ws' := [(h0, .inr (0, [.ref ac, .ref ay, .ref ap, .int (nI mk)])), (ac, .inl (cyI, 365, .inl (pz_ar ch))), (ay, .inl (cyI, 60, .inl (pz_ar fy))), (ap, .inl (cyI, 60, .inl (pz_ar fp))), (h1, .inr (1, [.int (nI 2), .int yr, .int mo, .int da, .int (nI mk), .ref bc, .ref bf, .ref bg, .int (nI wr)])), (bc, .inl (cyI, 366, .inl (pz_ar rc))), (bf, .inl (cyI, 3001, .inl (pz_ar ff))), (bg, .inl (cyI, 3001, .inl (pz_ar gg))), (oa, .inl (cyL, 1, .inr (.inl og)))]) [0, 1, 2, 3, 5, 6, 7, 8, 4] rfl, hD.sub (ws' := [(h0, .inr (0, [.ref ac, .ref ay, .ref ap, .int (nI mk)])), (ac, .inl (cyI, 365, .inl (pz_ar ch))), (ay, .inl (cyI, 60, .inl (pz_ar fy))), (ap, .inl (cyI, 60, .inl (pz_ar fp))), (h1, .inr (1, [.int (nI 2), .int yr, .int mo, .int da, .int (nI mk), .ref bc, .ref bf, .ref bg, .int (nI wr)])), (bc, .inl (cyI, 366, .inl (pz_ar rc))), (bf, .inl (cyI, 3001, .inl (pz_ar ff))), (bg, .inl (cyI, 3001, .inl (pz_ar gg))), (oa, .inl (cyL, 1, .inr (.inl og)))]) [0, 1, 2, 3, 5, 6, 7, 8, 4] (by decide) rfl, hS, lv_sub hl [2, 3, 4, 5, 6] rfl⟩
end PZW52
