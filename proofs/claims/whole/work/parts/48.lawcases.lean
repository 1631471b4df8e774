section PZWC
theorem pl_nat (x : Int32) (h : 0 ≤ x.toInt) : ∃ n : Nat, x = nI n ∧ x.toInt = (n : Int) ∧ n < 2147483648 := by
  have h1 := pz_rng32 x
  rcases pz_rng x 0 2147483647 (by decide) with ⟨n, h2, h3, e⟩ | hb
  · exact ⟨n, e, by rw [e]; exact nI_toInt (by omega), by omega⟩
  · exfalso
    omega
set_option maxRecDepth 100000 in
theorem kc_days (p : Program) (l : Launch) (e : Env) (s : State) (m : MethodId) (below : List Frame) (meth : Method) (c : Code) (Q : State → Prop) (D : va_G) (cyI cyL : ClassId) (b L : Nat) (xs : Nat → Int32) (h0 ac ay ap h1 bc bf bg oa : Nat) (hfl : l.stackTraces = false) : pl_case p l e s m below meth c Q D cyI cyL b L xs h0 ac ay ap h1 bc bf bg oa 188 := by
  intro i cells slots H locs ls C0 G hi hr1 hs1 KK
  obtain ⟨mk, wr, ch, fy, fp, rc, ff, gg, th, yr, mo, da, og, hI, hP, hD, hS, hl⟩ := G
  exact kw_days hfl C0 hI hP hD hS hl hi hr1 hs1 KK 
set_option maxRecDepth 100000 in
theorem kc_number (p : Program) (l : Launch) (e : Env) (s : State) (m : MethodId) (below : List Frame) (meth : Method) (c : Code) (Q : State → Prop) (D : va_G) (cyI cyL : ClassId) (b L : Nat) (xs : Nat → Int32) (h0 ac ay ap h1 bc bf bg oa : Nat) (hfl : l.stackTraces = false) : pl_case p l e s m below meth c Q D cyI cyL b L xs h0 ac ay ap h1 bc bf bg oa 201 := by
  intro i cells slots H locs ls C0 G hi hr1 hs1 KK
  obtain ⟨mk, wr, ch, fy, fp, rc, ff, gg, th, yr, mo, da, og, hI, hP, hD, hS, hl⟩ := G
  by_cases hv : 1 ≤ (xs (i + 1)).toInt ∧ (xs (i + 1)).toInt ≤ 3000 ∧ 1 ≤ (xs (i + 2)).toInt ∧ (xs (i + 2)).toInt ≤ 12 ∧ 1 ≤ (xs (i + 3)).toInt ∧ (xs (i + 3)).toInt ≤ pm_ln (xs (i + 1)).toInt.toNat (xs (i + 2)).toInt.toNat
  · obtain ⟨v1, v2, v3, v4, v5, v6⟩ := hv
    obtain ⟨y, e1, f1, g1⟩ := pl_nat (xs (i + 1)) (by omega)
    obtain ⟨mm, e2, f2, g2⟩ := pl_nat (xs (i + 2)) (by omega)
    obtain ⟨dy, e3, f3, g3⟩ := pl_nat (xs (i + 3)) (by omega)
    rw [f1, f2, Int.toNat_natCast, Int.toNat_natCast] at v6
    exact kw_number_a hfl C0 hI hP hD hS hl hi hr1 hs1 KK e1 e2 e3 (by omega) (by omega) (by omega) (by omega) (by omega) (by omega)
  · exact kw_number_x hfl C0 hI hP hD hS hl hi hr1 hs1 KK rfl rfl rfl hv
set_option maxRecDepth 100000 in
theorem kc_numberByCounting (p : Program) (l : Launch) (e : Env) (s : State) (m : MethodId) (below : List Frame) (meth : Method) (c : Code) (Q : State → Prop) (D : va_G) (cyI cyL : ClassId) (b L : Nat) (xs : Nat → Int32) (h0 ac ay ap h1 bc bf bg oa : Nat) (hfl : l.stackTraces = false) : pl_case p l e s m below meth c Q D cyI cyL b L xs h0 ac ay ap h1 bc bf bg oa 281 := by
  intro i cells slots H locs ls C0 G hi hr1 hs1 KK
  obtain ⟨mk, wr, ch, fy, fp, rc, ff, gg, th, yr, mo, da, og, hI, hP, hD, hS, hl⟩ := G
  by_cases hv : 1 ≤ (xs (i + 1)).toInt ∧ (xs (i + 1)).toInt ≤ 3000 ∧ 1 ≤ (xs (i + 2)).toInt ∧ (xs (i + 2)).toInt ≤ 12 ∧ 1 ≤ (xs (i + 3)).toInt ∧ (xs (i + 3)).toInt ≤ pm_ln (xs (i + 1)).toInt.toNat (xs (i + 2)).toInt.toNat
  · obtain ⟨v1, v2, v3, v4, v5, v6⟩ := hv
    obtain ⟨y, e1, f1, g1⟩ := pl_nat (xs (i + 1)) (by omega)
    obtain ⟨mm, e2, f2, g2⟩ := pl_nat (xs (i + 2)) (by omega)
    obtain ⟨dy, e3, f3, g3⟩ := pl_nat (xs (i + 3)) (by omega)
    rw [f1, f2, Int.toNat_natCast, Int.toNat_natCast] at v6
    exact kw_numberByCounting_a hfl C0 hI hP hD hS hl hi hr1 hs1 KK e1 e2 e3 (by omega) (by omega) (by omega) (by omega) (by omega) (by omega)
  · exact kw_numberByCounting_x hfl C0 hI hP hD hS hl hi hr1 hs1 KK rfl rfl rfl hv
set_option maxRecDepth 100000 in
theorem kc_yearOf (p : Program) (l : Launch) (e : Env) (s : State) (m : MethodId) (below : List Frame) (meth : Method) (c : Code) (Q : State → Prop) (D : va_G) (cyI cyL : ClassId) (b L : Nat) (xs : Nat → Int32) (h0 ac ay ap h1 bc bf bg oa : Nat) (hfl : l.stackTraces = false) : pl_case p l e s m below meth c Q D cyI cyL b L xs h0 ac ay ap h1 bc bf bg oa 361 := by
  intro i cells slots H locs ls C0 G hi hr1 hs1 KK
  obtain ⟨mk, wr, ch, fy, fp, rc, ff, gg, th, yr, mo, da, og, hI, hP, hD, hS, hl⟩ := G
  by_cases hv : (xs (i + 1)).toInt < 0 ∨ 1095749 < (xs (i + 1)).toInt
  · exact kw_yearOf_x hfl C0 hI hP hD hS hl hi hr1 hs1 KK rfl hv
  · obtain ⟨n, e1, f1, g1⟩ := pl_nat (xs (i + 1)) (by omega)
    exact kw_yearOf_a hfl C0 hI hP hD hS hl hi hr1 hs1 KK e1 (by omega)
set_option maxRecDepth 100000 in
theorem kc_monthOf (p : Program) (l : Launch) (e : Env) (s : State) (m : MethodId) (below : List Frame) (meth : Method) (c : Code) (Q : State → Prop) (D : va_G) (cyI cyL : ClassId) (b L : Nat) (xs : Nat → Int32) (h0 ac ay ap h1 bc bf bg oa : Nat) (hfl : l.stackTraces = false) : pl_case p l e s m below meth c Q D cyI cyL b L xs h0 ac ay ap h1 bc bf bg oa 417 := by
  intro i cells slots H locs ls C0 G hi hr1 hs1 KK
  obtain ⟨mk, wr, ch, fy, fp, rc, ff, gg, th, yr, mo, da, og, hI, hP, hD, hS, hl⟩ := G
  by_cases hv : (xs (i + 1)).toInt < 0 ∨ 1095749 < (xs (i + 1)).toInt
  · exact kw_monthOf_x hfl C0 hI hP hD hS hl hi hr1 hs1 KK rfl hv
  · obtain ⟨n, e1, f1, g1⟩ := pl_nat (xs (i + 1)) (by omega)
    exact kw_monthOf_a hfl C0 hI hP hD hS hl hi hr1 hs1 KK e1 (by omega)
set_option maxRecDepth 100000 in
theorem kc_dayOf (p : Program) (l : Launch) (e : Env) (s : State) (m : MethodId) (below : List Frame) (meth : Method) (c : Code) (Q : State → Prop) (D : va_G) (cyI cyL : ClassId) (b L : Nat) (xs : Nat → Int32) (h0 ac ay ap h1 bc bf bg oa : Nat) (hfl : l.stackTraces = false) : pl_case p l e s m below meth c Q D cyI cyL b L xs h0 ac ay ap h1 bc bf bg oa 473 := by
  intro i cells slots H locs ls C0 G hi hr1 hs1 KK
  obtain ⟨mk, wr, ch, fy, fp, rc, ff, gg, th, yr, mo, da, og, hI, hP, hD, hS, hl⟩ := G
  by_cases hv : (xs (i + 1)).toInt < 0 ∨ 1095749 < (xs (i + 1)).toInt
  · exact kw_dayOf_x hfl C0 hI hP hD hS hl hi hr1 hs1 KK rfl hv
  · obtain ⟨n, e1, f1, g1⟩ := pl_nat (xs (i + 1)) (by omega)
    exact kw_dayOf_a hfl C0 hI hP hD hS hl hi hr1 hs1 KK e1 (by omega)
set_option maxRecDepth 100000 in
theorem kc_weekdayOf (p : Program) (l : Launch) (e : Env) (s : State) (m : MethodId) (below : List Frame) (meth : Method) (c : Code) (Q : State → Prop) (D : va_G) (cyI cyL : ClassId) (b L : Nat) (xs : Nat → Int32) (h0 ac ay ap h1 bc bf bg oa : Nat) (hfl : l.stackTraces = false) : pl_case p l e s m below meth c Q D cyI cyL b L xs h0 ac ay ap h1 bc bf bg oa 529 := by
  intro i cells slots H locs ls C0 G hi hr1 hs1 KK
  obtain ⟨mk, wr, ch, fy, fp, rc, ff, gg, th, yr, mo, da, og, hI, hP, hD, hS, hl⟩ := G
  by_cases hv : (xs (i + 1)).toInt < 0 ∨ 1095749 < (xs (i + 1)).toInt
  · exact kw_weekdayOf_x hfl C0 hI hP hD hS hl hi hr1 hs1 KK rfl hv
  · obtain ⟨n, e1, f1, g1⟩ := pl_nat (xs (i + 1)) (by omega)
    exact kw_weekdayOf_a hfl C0 hI hP hD hS hl hi hr1 hs1 KK e1 (by omega)
set_option maxRecDepth 100000 in
theorem kc_anchorOf (p : Program) (l : Launch) (e : Env) (s : State) (m : MethodId) (below : List Frame) (meth : Method) (c : Code) (Q : State → Prop) (D : va_G) (cyI cyL : ClassId) (b L : Nat) (xs : Nat → Int32) (h0 ac ay ap h1 bc bf bg oa : Nat) (hfl : l.stackTraces = false) : pl_case p l e s m below meth c Q D cyI cyL b L xs h0 ac ay ap h1 bc bf bg oa 585 := by
  intro i cells slots H locs ls C0 G hi hr1 hs1 KK
  obtain ⟨mk, wr, ch, fy, fp, rc, ff, gg, th, yr, mo, da, og, hI, hP, hD, hS, hl⟩ := G
  by_cases hv : (xs (i + 1)).toInt < 0 ∨ 1095749 < (xs (i + 1)).toInt
  · exact kw_anchorOf_x hfl C0 hI hP hD hS hl hi hr1 hs1 KK rfl hv
  · obtain ⟨n, e1, f1, g1⟩ := pl_nat (xs (i + 1)) (by omega)
    exact kw_anchorOf_a hfl C0 hI hP hD hS hl hi hr1 hs1 KK e1 (by omega)
set_option maxRecDepth 100000 in
theorem kc_anchorMonthOf (p : Program) (l : Launch) (e : Env) (s : State) (m : MethodId) (below : List Frame) (meth : Method) (c : Code) (Q : State → Prop) (D : va_G) (cyI cyL : ClassId) (b L : Nat) (xs : Nat → Int32) (h0 ac ay ap h1 bc bf bg oa : Nat) (hfl : l.stackTraces = false) : pl_case p l e s m below meth c Q D cyI cyL b L xs h0 ac ay ap h1 bc bf bg oa 641 := by
  intro i cells slots H locs ls C0 G hi hr1 hs1 KK
  obtain ⟨mk, wr, ch, fy, fp, rc, ff, gg, th, yr, mo, da, og, hI, hP, hD, hS, hl⟩ := G
  by_cases hv : (xs (i + 1)).toInt < 0 ∨ 1095749 < (xs (i + 1)).toInt
  · exact kw_anchorMonthOf_x hfl C0 hI hP hD hS hl hi hr1 hs1 KK rfl hv
  · obtain ⟨n, e1, f1, g1⟩ := pl_nat (xs (i + 1)) (by omega)
    exact kw_anchorMonthOf_a hfl C0 hI hP hD hS hl hi hr1 hs1 KK e1 (by omega)
set_option maxRecDepth 100000 in
theorem kc_countOf (p : Program) (l : Launch) (e : Env) (s : State) (m : MethodId) (below : List Frame) (meth : Method) (c : Code) (Q : State → Prop) (D : va_G) (cyI cyL : ClassId) (b L : Nat) (xs : Nat → Int32) (h0 ac ay ap h1 bc bf bg oa : Nat) (hfl : l.stackTraces = false) : pl_case p l e s m below meth c Q D cyI cyL b L xs h0 ac ay ap h1 bc bf bg oa 697 := by
  intro i cells slots H locs ls C0 G hi hr1 hs1 KK
  obtain ⟨mk, wr, ch, fy, fp, rc, ff, gg, th, yr, mo, da, og, hI, hP, hD, hS, hl⟩ := G
  by_cases hv : (xs (i + 1)).toInt < 0 ∨ 1095749 < (xs (i + 1)).toInt
  · exact kw_countOf_x hfl C0 hI hP hD hS hl hi hr1 hs1 KK rfl hv
  · obtain ⟨n, e1, f1, g1⟩ := pl_nat (xs (i + 1)) (by omega)
    exact kw_countOf_a hfl C0 hI hP hD hS hl hi hr1 hs1 KK e1 (by omega)
set_option maxRecDepth 100000 in
theorem kc_isDoubled (p : Program) (l : Launch) (e : Env) (s : State) (m : MethodId) (below : List Frame) (meth : Method) (c : Code) (Q : State → Prop) (D : va_G) (cyI cyL : ClassId) (b L : Nat) (xs : Nat → Int32) (h0 ac ay ap h1 bc bf bg oa : Nat) (hfl : l.stackTraces = false) : pl_case p l e s m below meth c Q D cyI cyL b L xs h0 ac ay ap h1 bc bf bg oa 753 := by
  intro i cells slots H locs ls C0 G hi hr1 hs1 KK
  obtain ⟨mk, wr, ch, fy, fp, rc, ff, gg, th, yr, mo, da, og, hI, hP, hD, hS, hl⟩ := G
  by_cases hv : (xs (i + 1)).toInt < 0 ∨ 1095749 < (xs (i + 1)).toInt
  · exact kw_isDoubled_x hfl C0 hI hP hD hS hl hi hr1 hs1 KK rfl hv
  · obtain ⟨n, e1, f1, g1⟩ := pl_nat (xs (i + 1)) (by omega)
    exact kw_isDoubled_a hfl C0 hI hP hD hS hl hi hr1 hs1 KK e1 (by omega)
set_option maxRecDepth 100000 in
theorem kc_lawNumber (p : Program) (l : Launch) (e : Env) (s : State) (m : MethodId) (below : List Frame) (meth : Method) (c : Code) (Q : State → Prop) (D : va_G) (cyI cyL : ClassId) (b L : Nat) (xs : Nat → Int32) (h0 ac ay ap h1 bc bf bg oa : Nat) (hfl : l.stackTraces = false) : pl_case p l e s m below meth c Q D cyI cyL b L xs h0 ac ay ap h1 bc bf bg oa 1016 := by
  intro i cells slots H locs ls C0 G hi hr1 hs1 KK
  obtain ⟨mk, wr, ch, fy, fp, rc, ff, gg, th, yr, mo, da, og, hI, hP, hD, hS, hl⟩ := G
  by_cases hv : (xs (i + 1)).toInt < 0 ∨ 1095749 < (xs (i + 1)).toInt
  · exact kw_lawNumber_x hfl C0 hI hP hD hS hl hi hr1 hs1 KK rfl hv
  · obtain ⟨n, e1, f1, g1⟩ := pl_nat (xs (i + 1)) (by omega)
    exact kw_lawNumber_a hfl C0 hI hP hD hS hl hi hr1 hs1 KK e1 (by omega)
set_option maxRecDepth 100000 in
theorem kc_placeOf (p : Program) (l : Launch) (e : Env) (s : State) (m : MethodId) (below : List Frame) (meth : Method) (c : Code) (Q : State → Prop) (D : va_G) (cyI cyL : ClassId) (b L : Nat) (xs : Nat → Int32) (h0 ac ay ap h1 bc bf bg oa : Nat) (hfl : l.stackTraces = false) : pl_case p l e s m below meth c Q D cyI cyL b L xs h0 ac ay ap h1 bc bf bg oa 1208 := by
  intro i cells slots H locs ls C0 G hi hr1 hs1 KK
  obtain ⟨mk, wr, ch, fy, fp, rc, ff, gg, th, yr, mo, da, og, hI, hP, hD, hS, hl⟩ := G
  by_cases hv : (xs (i + 1)).toInt < 0 ∨ 1095749 < (xs (i + 1)).toInt
  · exact kw_placeOf_x hfl C0 hI hP hD hS hl hi hr1 hs1 KK rfl hv
  · obtain ⟨n, e1, f1, g1⟩ := pl_nat (xs (i + 1)) (by omega)
    exact kw_placeOf_a hfl C0 hI hP hD hS hl hi hr1 hs1 KK e1 (by omega)
set_option maxRecDepth 100000 in
theorem kc_letterOfEight (p : Program) (l : Launch) (e : Env) (s : State) (m : MethodId) (below : List Frame) (meth : Method) (c : Code) (Q : State → Prop) (D : va_G) (cyI cyL : ClassId) (b L : Nat) (xs : Nat → Int32) (h0 ac ay ap h1 bc bf bg oa : Nat) (hfl : l.stackTraces = false) : pl_case p l e s m below meth c Q D cyI cyL b L xs h0 ac ay ap h1 bc bf bg oa 1264 := by
  intro i cells slots H locs ls C0 G hi hr1 hs1 KK
  obtain ⟨mk, wr, ch, fy, fp, rc, ff, gg, th, yr, mo, da, og, hI, hP, hD, hS, hl⟩ := G
  by_cases hv : (xs (i + 1)).toInt < 0 ∨ 1095749 < (xs (i + 1)).toInt
  · exact kw_letterOfEight_x hfl C0 hI hP hD hS hl hi hr1 hs1 KK rfl hv
  · obtain ⟨n, e1, f1, g1⟩ := pl_nat (xs (i + 1)) (by omega)
    exact kw_letterOfEight_a hfl C0 hI hP hD hS hl hi hr1 hs1 KK e1 (by omega)
set_option maxRecDepth 100000 in
theorem kc_letterOfSeven (p : Program) (l : Launch) (e : Env) (s : State) (m : MethodId) (below : List Frame) (meth : Method) (c : Code) (Q : State → Prop) (D : va_G) (cyI cyL : ClassId) (b L : Nat) (xs : Nat → Int32) (h0 ac ay ap h1 bc bf bg oa : Nat) (hfl : l.stackTraces = false) : pl_case p l e s m below meth c Q D cyI cyL b L xs h0 ac ay ap h1 bc bf bg oa 1320 := by
  intro i cells slots H locs ls C0 G hi hr1 hs1 KK
  obtain ⟨mk, wr, ch, fy, fp, rc, ff, gg, th, yr, mo, da, og, hI, hP, hD, hS, hl⟩ := G
  by_cases hv : (xs (i + 1)).toInt < 0 ∨ 1095749 < (xs (i + 1)).toInt
  · exact kw_letterOfSeven_x hfl C0 hI hP hD hS hl hi hr1 hs1 KK rfl hv
  · obtain ⟨n, e1, f1, g1⟩ := pl_nat (xs (i + 1)) (by omega)
    exact kw_letterOfSeven_a hfl C0 hI hP hD hS hl hi hr1 hs1 KK e1 (by omega)
set_option maxRecDepth 100000 in
theorem kc_setMarketDay (p : Program) (l : Launch) (e : Env) (s : State) (m : MethodId) (below : List Frame) (meth : Method) (c : Code) (Q : State → Prop) (D : va_G) (cyI cyL : ClassId) (b L : Nat) (xs : Nat → Int32) (h0 ac ay ap h1 bc bf bg oa : Nat) (hfl : l.stackTraces = false) : pl_case p l e s m below meth c Q D cyI cyL b L xs h0 ac ay ap h1 bc bf bg oa 1376 := by
  intro i cells slots H locs ls C0 G hi hr1 hs1 KK
  obtain ⟨mk, wr, ch, fy, fp, rc, ff, gg, th, yr, mo, da, og, hI, hP, hD, hS, hl⟩ := G
  by_cases hv : (xs (i + 1)).toInt < 0 ∨ 1095749 < (xs (i + 1)).toInt
  · exact kw_setMarketDay_x hfl C0 hI hP hD hS hl hi hr1 hs1 KK rfl hv
  · obtain ⟨n, e1, f1, g1⟩ := pl_nat (xs (i + 1)) (by omega)
    exact kw_setMarketDay_a hfl C0 hI hP hD hS hl hi hr1 hs1 KK e1 (by omega)
set_option maxRecDepth 100000 in
theorem kc_isMarket (p : Program) (l : Launch) (e : Env) (s : State) (m : MethodId) (below : List Frame) (meth : Method) (c : Code) (Q : State → Prop) (D : va_G) (cyI cyL : ClassId) (b L : Nat) (xs : Nat → Int32) (h0 ac ay ap h1 bc bf bg oa : Nat) (hfl : l.stackTraces = false) : pl_case p l e s m below meth c Q D cyI cyL b L xs h0 ac ay ap h1 bc bf bg oa 1432 := by
  intro i cells slots H locs ls C0 G hi hr1 hs1 KK
  obtain ⟨mk, wr, ch, fy, fp, rc, ff, gg, th, yr, mo, da, og, hI, hP, hD, hS, hl⟩ := G
  by_cases hv : (xs (i + 1)).toInt < 0 ∨ 1095749 < (xs (i + 1)).toInt
  · exact kw_isMarket_x hfl C0 hI hP hD hS hl hi hr1 hs1 KK rfl hv
  · obtain ⟨n, e1, f1, g1⟩ := pl_nat (xs (i + 1)) (by omega)
    exact kw_isMarket_a hfl C0 hI hP hD hS hl hi hr1 hs1 KK e1 (by omega)
set_option maxRecDepth 100000 in
theorem kc_characterOf (p : Program) (l : Launch) (e : Env) (s : State) (m : MethodId) (below : List Frame) (meth : Method) (c : Code) (Q : State → Prop) (D : va_G) (cyI cyL : ClassId) (b L : Nat) (xs : Nat → Int32) (h0 ac ay ap h1 bc bf bg oa : Nat) (hfl : l.stackTraces = false) : pl_case p l e s m below meth c Q D cyI cyL b L xs h0 ac ay ap h1 bc bf bg oa 2003 := by
  intro i cells slots H locs ls C0 G hi hr1 hs1 KK
  obtain ⟨mk, wr, ch, fy, fp, rc, ff, gg, th, yr, mo, da, og, hI, hP, hD, hS, hl⟩ := G
  by_cases hv : (xs (i + 1)).toInt < 0 ∨ 1095749 < (xs (i + 1)).toInt
  · exact kw_characterOf_x hfl C0 hI hP hD hS hl hi hr1 hs1 KK rfl hv
  · obtain ⟨n, e1, f1, g1⟩ := pl_nat (xs (i + 1)) (by omega)
    exact kw_characterOf_a hfl C0 hI hP hD hS hl hi hr1 hs1 KK e1 (by omega)
set_option maxRecDepth 100000 in
theorem kc_canVote (p : Program) (l : Launch) (e : Env) (s : State) (m : MethodId) (below : List Frame) (meth : Method) (c : Code) (Q : State → Prop) (D : va_G) (cyI cyL : ClassId) (b L : Nat) (xs : Nat → Int32) (h0 ac ay ap h1 bc bf bg oa : Nat) (hfl : l.stackTraces = false) : pl_case p l e s m below meth c Q D cyI cyL b L xs h0 ac ay ap h1 bc bf bg oa 2059 := by
  intro i cells slots H locs ls C0 G hi hr1 hs1 KK
  obtain ⟨mk, wr, ch, fy, fp, rc, ff, gg, th, yr, mo, da, og, hI, hP, hD, hS, hl⟩ := G
  by_cases hv : (xs (i + 1)).toInt < 0 ∨ 1095749 < (xs (i + 1)).toInt
  · exact kw_canVote_x hfl C0 hI hP hD hS hl hi hr1 hs1 KK rfl hv
  · obtain ⟨n, e1, f1, g1⟩ := pl_nat (xs (i + 1)) (by omega)
    exact kw_canVote_a hfl C0 hI hP hD hS hl hi hr1 hs1 KK e1 (by omega)
set_option maxRecDepth 100000 in
theorem kc_nextCourt (p : Program) (l : Launch) (e : Env) (s : State) (m : MethodId) (below : List Frame) (meth : Method) (c : Code) (Q : State → Prop) (D : va_G) (cyI cyL : ClassId) (b L : Nat) (xs : Nat → Int32) (h0 ac ay ap h1 bc bf bg oa : Nat) (hfl : l.stackTraces = false) : pl_case p l e s m below meth c Q D cyI cyL b L xs h0 ac ay ap h1 bc bf bg oa 2122 := by
  intro i cells slots H locs ls C0 G hi hr1 hs1 KK
  obtain ⟨mk, wr, ch, fy, fp, rc, ff, gg, th, yr, mo, da, og, hI, hP, hD, hS, hl⟩ := G
  by_cases hv : (xs (i + 1)).toInt < 0 ∨ 1095749 < (xs (i + 1)).toInt
  · exact kw_nextCourt_x hfl C0 hI hP hD hS hl hi hr1 hs1 KK rfl hv
  · obtain ⟨n, e1, f1, g1⟩ := pl_nat (xs (i + 1)) (by omega)
    exact kw_nextCourt_a hfl C0 hI hP hD hS hl hi hr1 hs1 KK e1 (by omega)
set_option maxRecDepth 100000 in
theorem kc_marketLetters (p : Program) (l : Launch) (e : Env) (s : State) (m : MethodId) (below : List Frame) (meth : Method) (c : Code) (Q : State → Prop) (D : va_G) (cyI cyL : ClassId) (b L : Nat) (xs : Nat → Int32) (h0 ac ay ap h1 bc bf bg oa : Nat) (hfl : l.stackTraces = false) : pl_case p l e s m below meth c Q D cyI cyL b L xs h0 ac ay ap h1 bc bf bg oa 1495 := by
  intro i cells slots H locs ls C0 G hi hr1 hs1 KK
  obtain ⟨mk, wr, ch, fy, fp, rc, ff, gg, th, yr, mo, da, og, hI, hP, hD, hS, hl⟩ := G
  by_cases hv : (xs (i + 1)).toInt < 1 ∨ 3000 < (xs (i + 1)).toInt
  · exact kw_marketLetters_x hfl C0 hI hP hD hS hl hi hr1 hs1 KK rfl hv
  · obtain ⟨y, e1, f1, g1⟩ := pl_nat (xs (i + 1)) (by omega)
    exact kw_marketLetters_a hfl C0 hI hP hD hS hl hi hr1 hs1 KK e1 (by omega) (by omega)
set_option maxRecDepth 100000 in
theorem kc_sundayLetters (p : Program) (l : Launch) (e : Env) (s : State) (m : MethodId) (below : List Frame) (meth : Method) (c : Code) (Q : State → Prop) (D : va_G) (cyI cyL : ClassId) (b L : Nat) (xs : Nat → Int32) (h0 ac ay ap h1 bc bf bg oa : Nat) (hfl : l.stackTraces = false) : pl_case p l e s m below meth c Q D cyI cyL b L xs h0 ac ay ap h1 bc bf bg oa 1551 := by
  intro i cells slots H locs ls C0 G hi hr1 hs1 KK
  obtain ⟨mk, wr, ch, fy, fp, rc, ff, gg, th, yr, mo, da, og, hI, hP, hD, hS, hl⟩ := G
  by_cases hv : (xs (i + 1)).toInt < 1 ∨ 3000 < (xs (i + 1)).toInt
  · exact kw_sundayLetters_x hfl C0 hI hP hD hS hl hi hr1 hs1 KK rfl hv
  · obtain ⟨y, e1, f1, g1⟩ := pl_nat (xs (i + 1)) (by omega)
    exact kw_sundayLetters_a hfl C0 hI hP hD hS hl hi hr1 hs1 KK e1 (by omega) (by omega)
set_option maxRecDepth 100000 in
theorem kc_consulsOf (p : Program) (l : Launch) (e : Env) (s : State) (m : MethodId) (below : List Frame) (meth : Method) (c : Code) (Q : State → Prop) (D : va_G) (cyI cyL : ClassId) (b L : Nat) (xs : Nat → Int32) (h0 ac ay ap h1 bc bf bg oa : Nat) (hfl : l.stackTraces = false) : pl_case p l e s m below meth c Q D cyI cyL b L xs h0 ac ay ap h1 bc bf bg oa 1743 := by
  intro i cells slots H locs ls C0 G hi hr1 hs1 KK
  obtain ⟨mk, wr, ch, fy, fp, rc, ff, gg, th, yr, mo, da, og, hI, hP, hD, hS, hl⟩ := G
  by_cases hv : (xs (i + 1)).toInt < 1 ∨ 3000 < (xs (i + 1)).toInt
  · exact kw_consulsOf_x hfl C0 hI hP hD hS hl hi hr1 hs1 KK rfl hv
  · obtain ⟨y, e1, f1, g1⟩ := pl_nat (xs (i + 1)) (by omega)
    exact kw_consulsOf_a hfl C0 hI hP hD hS hl hi hr1 hs1 KK e1 (by omega) (by omega)
set_option maxRecDepth 100000 in
theorem kc_afterConsuls (p : Program) (l : Launch) (e : Env) (s : State) (m : MethodId) (below : List Frame) (meth : Method) (c : Code) (Q : State → Prop) (D : va_G) (cyI cyL : ClassId) (b L : Nat) (xs : Nat → Int32) (h0 ac ay ap h1 bc bf bg oa : Nat) (hfl : l.stackTraces = false) : pl_case p l e s m below meth c Q D cyI cyL b L xs h0 ac ay ap h1 bc bf bg oa 1799 := by
  intro i cells slots H locs ls C0 G hi hr1 hs1 KK
  obtain ⟨mk, wr, ch, fy, fp, rc, ff, gg, th, yr, mo, da, og, hI, hP, hD, hS, hl⟩ := G
  by_cases hv : (xs (i + 1)).toInt < 1 ∨ 3000 < (xs (i + 1)).toInt
  · exact kw_afterConsuls_x hfl C0 hI hP hD hS hl hi hr1 hs1 KK rfl hv
  · obtain ⟨y, e1, f1, g1⟩ := pl_nat (xs (i + 1)) (by omega)
    exact kw_afterConsuls_a hfl C0 hI hP hD hS hl hi hr1 hs1 KK e1 (by omega) (by omega)
set_option maxRecDepth 100000 in
theorem kc_votes (p : Program) (l : Launch) (e : Env) (s : State) (m : MethodId) (below : List Frame) (meth : Method) (c : Code) (Q : State → Prop) (D : va_G) (cyI cyL : ClassId) (b L : Nat) (xs : Nat → Int32) (h0 ac ay ap h1 bc bf bg oa : Nat) (hfl : l.stackTraces = false) : pl_case p l e s m below meth c Q D cyI cyL b L xs h0 ac ay ap h1 bc bf bg oa 2178 := by
  intro i cells slots H locs ls C0 G hi hr1 hs1 KK
  obtain ⟨mk, wr, ch, fy, fp, rc, ff, gg, th, yr, mo, da, og, hI, hP, hD, hS, hl⟩ := G
  by_cases hv : (xs (i + 1)).toInt < 1 ∨ 3000 < (xs (i + 1)).toInt
  · exact kw_votes_x hfl C0 hI hP hD hS hl hi hr1 hs1 KK rfl hv
  · obtain ⟨y, e1, f1, g1⟩ := pl_nat (xs (i + 1)) (by omega)
    exact kw_votes_a hfl C0 hI hP hD hS hl hi hr1 hs1 KK e1 (by omega) (by omega)
set_option maxRecDepth 100000 in
theorem kc_strikeConsuls (p : Program) (l : Launch) (e : Env) (s : State) (m : MethodId) (below : List Frame) (meth : Method) (c : Code) (Q : State → Prop) (D : va_G) (cyI cyL : ClassId) (b L : Nat) (xs : Nat → Int32) (h0 ac ay ap h1 bc bf bg oa : Nat) (hfl : l.stackTraces = false) : pl_case p l e s m below meth c Q D cyI cyL b L xs h0 ac ay ap h1 bc bf bg oa 1687 := by
  intro i cells slots H locs ls C0 G hi hr1 hs1 KK
  obtain ⟨mk, wr, ch, fy, fp, rc, ff, gg, th, yr, mo, da, og, hI, hP, hD, hS, hl⟩ := G
  by_cases hv : (xs (i + 1)).toInt < 1 ∨ 3000 < (xs (i + 1)).toInt
  · exact kw_strikeConsuls_x hfl C0 hI hP hD hS hl hi hr1 hs1 KK rfl hv
  · obtain ⟨y, e1, f1, g1⟩ := pl_nat (xs (i + 1)) (by omega)
    by_cases h4 : ∃ k, k < 60 ∧ fy k = y
    · exact kw_strikeConsuls_a hfl C0 hI hP hD hS hl hi hr1 hs1 KK e1 (by omega) (by omega) h4
    · exact kw_strikeConsuls_x2 hfl C0 hI hP hD hS hl hi hr1 hs1 KK e1 (by omega) (by omega) (fun k hk e9 => h4 ⟨k, hk, e9⟩)
set_option maxRecDepth 100000 in
theorem kc_termEnd (p : Program) (l : Launch) (e : Env) (s : State) (m : MethodId) (below : List Frame) (meth : Method) (c : Code) (Q : State → Prop) (D : va_G) (cyI cyL : ClassId) (b L : Nat) (xs : Nat → Int32) (h0 ac ay ap h1 bc bf bg oa : Nat) (hfl : l.stackTraces = false) : pl_case p l e s m below meth c Q D cyI cyL b L xs h0 ac ay ap h1 bc bf bg oa 1072 := by
  intro i cells slots H locs ls C0 G hi hr1 hs1 KK
  obtain ⟨mk, wr, ch, fy, fp, rc, ff, gg, th, yr, mo, da, og, hI, hP, hD, hS, hl⟩ := G
  by_cases hv : (xs (i + 1)).toInt < 0 ∨ 1095749 < (xs (i + 1)).toInt
  · exact kw_termEnd_x hfl C0 hI hP hD hS hl hi hr1 hs1 KK rfl rfl hv
  · obtain ⟨n, e1, f1, g1⟩ := pl_nat (xs (i + 1)) (by omega)
    by_cases hw : (xs (i + 2)).toInt < 0 ∨ 100000 < (xs (i + 2)).toInt
    · exact kw_termEnd_x2 hfl C0 hI hP hD hS hl hi hr1 hs1 KK e1 rfl (by omega) hw
    · obtain ⟨dys, e2, f2, g2⟩ := pl_nat (xs (i + 2)) (by omega)
      by_cases h4 : pm_lw n + dys ≤ 1094999
      · exact kw_termEnd_a hfl C0 hI hP hD hS hl hi hr1 hs1 KK e1 e2 (by omega) (by omega) h4
      · exact kw_termEnd_x3 hfl C0 hI hP hD hS hl hi hr1 hs1 KK e1 e2 (by omega) (by omega) (by omega)
set_option maxRecDepth 100000 in
theorem kc_lawDays (p : Program) (l : Launch) (e : Env) (s : State) (m : MethodId) (below : List Frame) (meth : Method) (c : Code) (Q : State → Prop) (D : va_G) (cyI cyL : ClassId) (b L : Nat) (xs : Nat → Int32) (h0 ac ay ap h1 bc bf bg oa : Nat) (hfl : l.stackTraces = false) : pl_case p l e s m below meth c Q D cyI cyL b L xs h0 ac ay ap h1 bc bf bg oa 1140 := by
  intro i cells slots H locs ls C0 G hi hr1 hs1 KK
  obtain ⟨mk, wr, ch, fy, fp, rc, ff, gg, th, yr, mo, da, og, hI, hP, hD, hS, hl⟩ := G
  by_cases hv : 0 ≤ (xs (i + 1)).toInt ∧ (xs (i + 1)).toInt ≤ 1095749 ∧ 0 ≤ (xs (i + 2)).toInt ∧ (xs (i + 2)).toInt ≤ 1095749
  · obtain ⟨n, e1, f1, g1⟩ := pl_nat (xs (i + 1)) (by omega)
    obtain ⟨z, e2, f2, g2⟩ := pl_nat (xs (i + 2)) (by omega)
    exact kw_lawDays_a hfl C0 hI hP hD hS hl hi hr1 hs1 KK e1 e2 (by omega) (by omega)
  · exact kw_lawDays_x hfl C0 hI hP hD hS hl hi hr1 hs1 KK rfl rfl hv
set_option maxRecDepth 100000 in
theorem kc_greatestCount (p : Program) (l : Launch) (e : Env) (s : State) (m : MethodId) (below : List Frame) (meth : Method) (c : Code) (Q : State → Prop) (D : va_G) (cyI cyL : ClassId) (b L : Nat) (xs : Nat → Int32) (h0 ac ay ap h1 bc bf bg oa : Nat) (hfl : l.stackTraces = false) : pl_case p l e s m below meth c Q D cyI cyL b L xs h0 ac ay ap h1 bc bf bg oa 936 := by
  intro i cells slots H locs ls C0 G hi hr1 hs1 KK
  obtain ⟨mk, wr, ch, fy, fp, rc, ff, gg, th, yr, mo, da, og, hI, hP, hD, hS, hl⟩ := G
  by_cases hv : 1 ≤ (xs (i + 1)).toInt ∧ (xs (i + 1)).toInt ≤ 3000 ∧ 1 ≤ (xs (i + 2)).toInt ∧ (xs (i + 2)).toInt ≤ 12
  · obtain ⟨y, e1, f1, g1⟩ := pl_nat (xs (i + 1)) (by omega)
    obtain ⟨mm, e2, f2, g2⟩ := pl_nat (xs (i + 2)) (by omega)
    by_cases hw : (xs (i + 3)).toInt < 0 ∨ 2 < (xs (i + 3)).toInt
    · exact kw_greatestCount_x2 hfl C0 hI hP hD hS hl hi hr1 hs1 KK e1 e2 rfl (by omega) (by omega) (by omega) (by omega) hw
    · obtain ⟨a, e3, f3, g3⟩ := pl_nat (xs (i + 3)) (by omega)
      exact kw_greatestCount_a hfl C0 hI hP hD hS hl hi hr1 hs1 KK e1 e2 e3 (by omega) (by omega) (by omega) (by omega) (by omega)
  · exact kw_greatestCount_x hfl C0 hI hP hD hS hl hi hr1 hs1 KK rfl rfl rfl hv
set_option maxRecDepth 100000 in
theorem kc_fromCount (p : Program) (l : Launch) (e : Env) (s : State) (m : MethodId) (below : List Frame) (meth : Method) (c : Code) (Q : State → Prop) (D : va_G) (cyI cyL : ClassId) (b L : Nat) (xs : Nat → Int32) (h0 ac ay ap h1 bc bf bg oa : Nat) (hfl : l.stackTraces = false) : pl_case p l e s m below meth c Q D cyI cyL b L xs h0 ac ay ap h1 bc bf bg oa 816 := by
  intro i cells slots H locs ls C0 G hi hr1 hs1 KK
  obtain ⟨mk, wr, ch, fy, fp, rc, ff, gg, th, yr, mo, da, og, hI, hP, hD, hS, hl⟩ := G
  by_cases hz : (xs (i + 5)).toInt = 0
  · by_cases hv : 1 ≤ (xs (i + 1)).toInt ∧ (xs (i + 1)).toInt ≤ 3000 ∧ 1 ≤ (xs (i + 2)).toInt ∧ (xs (i + 2)).toInt ≤ 12
    · obtain ⟨y, e1, f1, g1⟩ := pl_nat (xs (i + 1)) (by omega)
      obtain ⟨mm, e2, f2, g2⟩ := pl_nat (xs (i + 2)) (by omega)
      by_cases hw : 0 ≤ (xs (i + 3)).toInt ∧ (xs (i + 3)).toInt ≤ 2 ∧ 1 ≤ (xs (i + 4)).toInt
      · obtain ⟨a, e3, f3, g3⟩ := pl_nat (xs (i + 3)) (by omega)
        obtain ⟨k, e4, f4, g4⟩ := pl_nat (xs (i + 4)) (by omega)
        by_cases h5 : k ≤ pm_gc mm a ∧ (0 = 1 → (y % 4 = 0 ∧ mm = 3 ∧ a = 0 ∧ k = 6))
        · exact kw_fromCount_a_0 hfl C0 hI hP hD hS hl hi hr1 hs1 KK e1 e2 e3 e4 rfl (by omega) (by omega) (by omega) (by omega) (by omega) (by omega) h5.1 h5.2 hz
        · exact kw_fromCount_x3_0 hfl C0 hI hP hD hS hl hi hr1 hs1 KK e1 e2 e3 e4 rfl (by omega) (by omega) (by omega) (by omega) (by omega) (by omega) (by omega) h5 hz
      · exact kw_fromCount_x2_0 hfl C0 hI hP hD hS hl hi hr1 hs1 KK e1 e2 rfl rfl rfl (by omega) (by omega) (by omega) (by omega) hw hz
    · exact kw_fromCount_x_0 hfl C0 hI hP hD hS hl hi hr1 hs1 KK rfl rfl rfl rfl rfl hv hz
  · by_cases hv : 1 ≤ (xs (i + 1)).toInt ∧ (xs (i + 1)).toInt ≤ 3000 ∧ 1 ≤ (xs (i + 2)).toInt ∧ (xs (i + 2)).toInt ≤ 12
    · obtain ⟨y, e1, f1, g1⟩ := pl_nat (xs (i + 1)) (by omega)
      obtain ⟨mm, e2, f2, g2⟩ := pl_nat (xs (i + 2)) (by omega)
      by_cases hw : 0 ≤ (xs (i + 3)).toInt ∧ (xs (i + 3)).toInt ≤ 2 ∧ 1 ≤ (xs (i + 4)).toInt
      · obtain ⟨a, e3, f3, g3⟩ := pl_nat (xs (i + 3)) (by omega)
        obtain ⟨k, e4, f4, g4⟩ := pl_nat (xs (i + 4)) (by omega)
        by_cases h5 : k ≤ pm_gc mm a ∧ (1 = 1 → (y % 4 = 0 ∧ mm = 3 ∧ a = 0 ∧ k = 6))
        · exact kw_fromCount_a_1 hfl C0 hI hP hD hS hl hi hr1 hs1 KK e1 e2 e3 e4 rfl (by omega) (by omega) (by omega) (by omega) (by omega) (by omega) h5.1 h5.2 hz
        · exact kw_fromCount_x3_1 hfl C0 hI hP hD hS hl hi hr1 hs1 KK e1 e2 e3 e4 rfl (by omega) (by omega) (by omega) (by omega) (by omega) (by omega) (by omega) h5 hz
      · exact kw_fromCount_x2_1 hfl C0 hI hP hD hS hl hi hr1 hs1 KK e1 e2 rfl rfl rfl (by omega) (by omega) (by omega) (by omega) hw hz
    · exact kw_fromCount_x_1 hfl C0 hI hP hD hS hl hi hr1 hs1 KK rfl rfl rfl rfl rfl hv hz
set_option maxRecDepth 100000 in
theorem kc_setConsuls (p : Program) (l : Launch) (e : Env) (s : State) (m : MethodId) (below : List Frame) (meth : Method) (c : Code) (Q : State → Prop) (D : va_G) (cyI cyL : ClassId) (b L : Nat) (xs : Nat → Int32) (h0 ac ay ap h1 bc bf bg oa : Nat) (hfl : l.stackTraces = false) : pl_case p l e s m below meth c Q D cyI cyL b L xs h0 ac ay ap h1 bc bf bg oa 1607 := by
  intro i cells slots H locs ls C0 G hi hr1 hs1 KK
  obtain ⟨mk, wr, ch, fy, fp, rc, ff, gg, th, yr, mo, da, og, hI, hP, hD, hS, hl⟩ := G
  by_cases hv : (xs (i + 1)).toInt < 1 ∨ 3000 < (xs (i + 1)).toInt
  · exact kw_setConsuls_x hfl C0 hI hP hD hS hl hi hr1 hs1 KK rfl rfl rfl hv
  · obtain ⟨y, e1, f1, g1⟩ := pl_nat (xs (i + 1)) (by omega)
    by_cases hw : 1 ≤ (xs (i + 2)).toInt ∧ (xs (i + 2)).toInt ≤ 999 ∧ 1 ≤ (xs (i + 3)).toInt ∧ (xs (i + 3)).toInt ≤ 999 ∧ ¬ (xs (i + 2)).toInt = (xs (i + 3)).toInt
    · obtain ⟨fa, e2, f2, g2⟩ := pl_nat (xs (i + 2)) (by omega)
      obtain ⟨se, e3, f3, g3⟩ := pl_nat (xs (i + 3)) (by omega)
      by_cases h4 : (∃ k, k < 60 ∧ fy k = y) ∨ ∃ k, k < 60 ∧ fy k = 0
      · exact kw_setConsuls_a hfl C0 hI hP hD hS hl hi hr1 hs1 KK e1 e2 e3 (by omega) (by omega) (by omega) (by omega) (by omega) (by omega) (by omega) h4
      · exact kw_setConsuls_x3 hfl C0 hI hP hD hS hl hi hr1 hs1 KK e1 e2 e3 (by omega) (by omega) (by omega) (by omega) (by omega) (by omega) (by omega) (fun k hk e9 => h4 (Or.inl ⟨k, hk, e9⟩)) (fun k hk e9 => h4 (Or.inr ⟨k, hk, e9⟩))
    · exact kw_setConsuls_x2 hfl C0 hI hP hD hS hl hi hr1 hs1 KK e1 rfl rfl (by omega) (by omega) hw
set_option maxRecDepth 100000 in
theorem kc_yearOfConsuls (p : Program) (l : Launch) (e : Env) (s : State) (m : MethodId) (below : List Frame) (meth : Method) (c : Code) (Q : State → Prop) (D : va_G) (cyI cyL : ClassId) (b L : Nat) (xs : Nat → Int32) (h0 ac ay ap h1 bc bf bg oa : Nat) (hfl : l.stackTraces = false) : pl_case p l e s m below meth c Q D cyI cyL b L xs h0 ac ay ap h1 bc bf bg oa 1855 := by
  intro i cells slots H locs ls C0 G hi hr1 hs1 KK
  obtain ⟨mk, wr, ch, fy, fp, rc, ff, gg, th, yr, mo, da, og, hI, hP, hD, hS, hl⟩ := G
  by_cases hv : (xs (i + 3)).toInt < 1
  · exact kw_yearOfConsuls_x hfl C0 hI hP hD hS hl hi hr1 hs1 KK rfl rfl rfl hv
  · obtain ⟨t, e3, f3, g3⟩ := pl_nat (xs (i + 3)) (by omega)
    exact kw_yearOfConsuls_a hfl C0 hI hP hD hS hl hi hr1 hs1 KK rfl rfl e3 (by omega) g3
set_option maxRecDepth 100000 in
theorem kc_setCharacter (p : Program) (l : Launch) (e : Env) (s : State) (m : MethodId) (below : List Frame) (meth : Method) (c : Code) (Q : State → Prop) (D : va_G) (cyI cyL : ClassId) (b L : Nat) (xs : Nat → Int32) (h0 ac ay ap h1 bc bf bg oa : Nat) (hfl : l.stackTraces = false) : pl_case p l e s m below meth c Q D cyI cyL b L xs h0 ac ay ap h1 bc bf bg oa 1935 := by
  intro i cells slots H locs ls C0 G hi hr1 hs1 KK
  obtain ⟨mk, wr, ch, fy, fp, rc, ff, gg, th, yr, mo, da, og, hI, hP, hD, hS, hl⟩ := G
  by_cases hv : (xs (i + 1)).toInt < 1 ∨ 365 < (xs (i + 1)).toInt
  · exact kw_setCharacter_x hfl C0 hI hP hD hS hl hi hr1 hs1 KK rfl rfl hv
  · obtain ⟨q, e1, f1, g1⟩ := pl_nat (xs (i + 1)) (by omega)
    by_cases hw : (xs (i + 2)).toInt < 0 ∨ 3 < (xs (i + 2)).toInt
    · exact kw_setCharacter_x2 hfl C0 hI hP hD hS hl hi hr1 hs1 KK e1 rfl (by omega) (by omega) hw
    · obtain ⟨v, e2, f2, g2⟩ := pl_nat (xs (i + 2)) (by omega)
      exact kw_setCharacter_a hfl C0 hI hP hD hS hl hi hr1 hs1 KK e1 e2 (by omega) (by omega) (by omega)
end PZWC
