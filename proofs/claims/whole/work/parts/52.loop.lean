/-! THE CLAIM OUT OF ONE WALK OF THE LAW'S BODY. Your part is whole_start (and what it stands on); all else here is the same for every law, but numbers. -/
def R_law : String := "RomanCalendarLaw"
def lw_P (b : Addr) (xs : List Int32) (args : Array Value) (s : State) : Prop := args = #[.ref b] ∧ s.IntsAt b xs ∧ xs.length ≤ 3072 ∧ (Jvm.Cond.and given_1 narrow_1).before args s = true
def lw_Q (_ : Array Value) (s : State) (o : Outcome) (t : State) : Prop := o = .returned (some (.int 1)) ∧ Framed s o t [] 1049 15155
def lw_Z (below : List Frame) (a : Array Value) (s : State) : State → Prop := fun t => ∃ o, t.status = .running ∧ Ended t below o ∧ lw_Q a s o t
/-- the law's own end, with 1 on the stack, nothing written that was there before, its room as the claim has it -/
theorem lw_ret {p : Program} {l : Launch} {e : Env} {s : State} {m : MethodId} {below : List Frame} {meth : Method} {c : Code} {b : Nat} (hx : p.tables.exec = Jvm.exec) (hb : c.code = code) (hr : meth.sig.returnType = ret) (hlocks : meth.locks = false) {pc : Nat} {H : Heap} {ls : Array Slot} (hdg : decode code pc = .ok (.ireturn, 1)) : W p l e room_1 s m #[Value.ref b] below meth c H [] 1049 15155 (lw_Z below #[Value.ref b] s) (F0 m pc ls [.int 1]) := by
  intro T hT X
  obtain ⟨fs, hret, hrun, hended, hW, hframe⟩ := X.leave (v := some (.int 1)) (hlocks := hlocks) (fun h => by rw [hr] at h; cases h)
  have hmeth' : T.vm.method? m = some meth := X.method'
  refine ⟨T.setFrames fs, ?_, .returned (some (.int 1)), hrun, hended, rfl, ⟨_, rfl⟩, hW, hframe⟩
  jvm_step X.here [X.here.top, hx, hb, hdg, hmeth', hr, ret, narrow_b1]
  (try refine ⟨rfl, ?_⟩); (try refine ⟨rfl, ?_⟩)
  first | (intro acts; rw [hret _ acts rfl rfl rfl]) | rw [hret _ _ rfl rfl rfl]
  exact Steps.refl _
/-- what holds at the law's entry: the machine, the code, the tables' words (any of lw_tbl by 'hts w (by decide +kernel)'), the script of L ints xs at the cell b, what the Statement gives of the start (any of its parts by flat_of_before) -/
def lw_At (p : Program) (s : State) (m : MethodId) (meth : Method) (c : Code) (b L : Nat) (xs : Nat → Int32) : Prop :=
  p.tables.exec = Jvm.exec ∧ c.code = code ∧ meth.sig.returnType = ret ∧ c.maxLocals = 7 ∧ s.vm.findClass R_law = some m.cls ∧ (∀ w ∈ lw_tbl, w.before #[Value.ref b] s = true) ∧ va_X b L xs s s.heap ∧ b < s.heap.size ∧ meth.locks = false ∧ (Jvm.Cond.and given_1 narrow_1).before #[Value.ref b] s = true
set_option maxHeartbeats 4000000 in
set_option maxRecDepth 100000 in
/-- the law's loop, from its head -/
theorem law_loop {p : Program} {l : Launch} {e : Env} {s : State} {m : MethodId} {below : List Frame} {meth : Method} {c : Code} {D : va_G} {cyI cyL : ClassId} {b L : Nat} {xs : Nat → Int32} {h0 ac ay ap h1 bc bf bg oa : Nat} (hfl : l.stackTraces = false) (hr : meth.sig.returnType = ret) (hlocks : meth.locks = false) (C0 : pl_C p s m c D cyI cyL b L xs) : ∀ (N j : Nat) (H : Heap) (locs : List Loc) (ls : Array Slot), L < 6 * j + N → 6 * j ≤ L → pl_G s D cyI cyL b h0 ac ay ap h1 bc bf bg oa H locs ls (6 * j) → W p l e room_1 s m #[Value.ref b] below meth c H locs (9 + j) (6867 + 6 * j) (lw_Z below #[Value.ref b] s) (F0 m 23 ls []) := by
  intro N
  induction N with
  | zero => intro j H locs ls h1 h2; exact absurd h1 (by omega)
  | succ N ih =>
    intro j H locs ls hN hj G
    obtain ⟨hx, hb, hml, hown, hts, hX, hbl, hK, hth, hnc, hL⟩ := id C0
    obtain ⟨mk, wr, ch, fy, fp, rc, ff, gg, th, yr, mo, da, og, hI, hP, hD, hS, hl⟩ := id G
    refine lv_iload hx hb dL_law_23 (lv_at hl 4 rfl) ?_
    refine lv_aload_n hx hb dL_law_25 rfl (lv_at hl 0 rfl) ?_
    refine va_slen hx hb hX hbl (Nat.not_le.mpr hbl) hS dL_law_26 ?_
    refine W.eq (g2 := F0 m 27 ls [.int (nI L), .int (nI (6 * j))]) rfl ?_
    refine lv_bipush (v := nI 6) hx hb dL_law_27 (by decide) ?_
    refine lv_isub hx hb dL_law_29 ?_
    have hsub : (nI L - nI 6).toInt = (L : Int) - 6 := by
      rw [Int32.toInt_sub, nI_toInt (by omega), show (nI 6).toInt = 6 from by decide, pz_bm (by omega) (by omega)]
    refine pi_icmp_gt (tgt := 2240) (a := ((6 * j : Nat) : Int)) (b := (L : Int) - 6) hx hb (nI_toInt (by omega)) hsub dL_law_30 (by decide) (fun c_1 => ?_) (fun c_1 => ?_)
    · refine lv_iconst (v := 1) hx hb dL_law_2240 (by decide) ?_
      refine va_forget (fun q hq => hS.2.2 q hq) ?_
      refine W.widen (k := 1049) (n := 15155) (by omega) (by omega) ?_
      exact lw_ret hx hb hr hlocks dL_law_2241
    · have hi : 6 * j + 6 ≤ L := by omega
      have KK : ∀ (H : Heap) (locs : List Loc) (ls : Array Slot), pl_G s D cyI cyL b h0 ac ay ap h1 bc bf bg oa H locs ls (6 * j) → W p l e room_1 s m #[Value.ref b] below meth c H locs (9 + j + 1) (6867 + 6 * j + 6) (lw_Z below #[Value.ref b] s) (F0 m 2234 ls []) := by
        intro H locs ls G2
        obtain ⟨mk2, wr2, ch2, fy2, fp2, rc2, ff2, gg2, th2, yr2, mo2, da2, og2, hI2, hP2, hD2, hS2, hl2⟩ := G2
        refine lv_iinc (v := nI (6 * j + 6)) (lv' := [(4, .int (nI (6 * j + 6))), (0, .ref b), (1, .ref h0), (2, .ref h1), (3, .ref oa)]) hx hb dL_law_2234 hl2 (k := 4) rfl (by exact nI_add _ 6) (by decide) rfl (fun ls hl => ?_)
        refine lv_goto (tgt := 23) hx hb dL_law_2237 (by decide) ?_
        refine W.widen (k := 9 + (j + 1)) (n := 6867 + 6 * (j + 1)) (by omega) (by omega) ?_
        exact ih (j + 1) H locs ls (by omega) (by omega) ⟨mk2, wr2, ch2, fy2, fp2, rc2, ff2, gg2, th2, yr2, mo2, da2, og2, hI2, hP2, hD2, hS2, by rw [show 6 * (j + 1) = 6 * j + 6 by omega]; exact lv_sub hl [1, 2, 3, 4, 0] rfl⟩
      refine lv_aload_n hx hb dL_law_33 rfl (lv_at hl 0 rfl) ?_
      refine lv_iload hx hb dL_law_34 (lv_at hl 4 rfl) ?_
      refine pn_sld hx hb hX hbl hS (by omega) hL rfl dL_law_36 ?_
      refine lv_bipush (v := nI 63) hx hb dL_law_37 (by decide) ?_
      refine lv_iand hx hb dL_law_39 ?_
      obtain ⟨q, hq, eq⟩ := pk_andE (xs (6 * j)) (m := nI 63) 6 (by decide)
      refine pn_top eq ?_
      rcases Nat.lt_or_ge 32 q with h32 | h32
      · refine pn_tout (tgt := 2234) hx hb (by omega) dL_law_40 (by omega) (by decide) ?_
        refine W.widen (k := 9 + j + 1) (n := 6867 + 6 * j + 6) (by omega) (by omega) ?_
        exact KK H locs ls G
      · have hq33 : q = 0 ∨ q = 1 ∨ q = 2 ∨ q = 3 ∨ q = 4 ∨ q = 5 ∨ q = 6 ∨ q = 7 ∨ q = 8 ∨ q = 9 ∨ q = 10 ∨ q = 11 ∨ q = 12 ∨ q = 13 ∨ q = 14 ∨ q = 15 ∨ q = 16 ∨ q = 17 ∨ q = 18 ∨ q = 19 ∨ q = 20 ∨ q = 21 ∨ q = 22 ∨ q = 23 ∨ q = 24 ∨ q = 25 ∨ q = 26 ∨ q = 27 ∨ q = 28 ∨ q = 29 ∨ q = 30 ∨ q = 31 ∨ q = 32 := by omega
        rcases hq33 with rfl | rfl | rfl | rfl | rfl | rfl | rfl | rfl | rfl | rfl | rfl | rfl | rfl | rfl | rfl | rfl | rfl | rfl | rfl | rfl | rfl | rfl | rfl | rfl | rfl | rfl | rfl | rfl | rfl | rfl | rfl | rfl | rfl
        · refine pn_tin (off := 148) (tgt := 188) hx hb (by decide) dL_law_40 (by decide) (by decide) (by decide) (by decide) ?_
          exact kc_days p l e s m below meth c (lw_Z below #[Value.ref b] s) D cyI cyL b L xs h0 ac ay ap h1 bc bf bg oa hfl (6 * j) (9 + j) (6867 + 6 * j) H locs ls C0 G hi (by omega) (by omega) KK
        · refine pn_tin (off := 161) (tgt := 201) hx hb (by decide) dL_law_40 (by decide) (by decide) (by decide) (by decide) ?_
          exact kc_number p l e s m below meth c (lw_Z below #[Value.ref b] s) D cyI cyL b L xs h0 ac ay ap h1 bc bf bg oa hfl (6 * j) (9 + j) (6867 + 6 * j) H locs ls C0 G hi (by omega) (by omega) KK
        · refine pn_tin (off := 241) (tgt := 281) hx hb (by decide) dL_law_40 (by decide) (by decide) (by decide) (by decide) ?_
          exact kc_numberByCounting p l e s m below meth c (lw_Z below #[Value.ref b] s) D cyI cyL b L xs h0 ac ay ap h1 bc bf bg oa hfl (6 * j) (9 + j) (6867 + 6 * j) H locs ls C0 G hi (by omega) (by omega) KK
        · refine pn_tin (off := 321) (tgt := 361) hx hb (by decide) dL_law_40 (by decide) (by decide) (by decide) (by decide) ?_
          exact kc_yearOf p l e s m below meth c (lw_Z below #[Value.ref b] s) D cyI cyL b L xs h0 ac ay ap h1 bc bf bg oa hfl (6 * j) (9 + j) (6867 + 6 * j) H locs ls C0 G hi (by omega) (by omega) KK
        · refine pn_tin (off := 377) (tgt := 417) hx hb (by decide) dL_law_40 (by decide) (by decide) (by decide) (by decide) ?_
          exact kc_monthOf p l e s m below meth c (lw_Z below #[Value.ref b] s) D cyI cyL b L xs h0 ac ay ap h1 bc bf bg oa hfl (6 * j) (9 + j) (6867 + 6 * j) H locs ls C0 G hi (by omega) (by omega) KK
        · refine pn_tin (off := 433) (tgt := 473) hx hb (by decide) dL_law_40 (by decide) (by decide) (by decide) (by decide) ?_
          exact kc_dayOf p l e s m below meth c (lw_Z below #[Value.ref b] s) D cyI cyL b L xs h0 ac ay ap h1 bc bf bg oa hfl (6 * j) (9 + j) (6867 + 6 * j) H locs ls C0 G hi (by omega) (by omega) KK
        · refine pn_tin (off := 489) (tgt := 529) hx hb (by decide) dL_law_40 (by decide) (by decide) (by decide) (by decide) ?_
          exact kc_weekdayOf p l e s m below meth c (lw_Z below #[Value.ref b] s) D cyI cyL b L xs h0 ac ay ap h1 bc bf bg oa hfl (6 * j) (9 + j) (6867 + 6 * j) H locs ls C0 G hi (by omega) (by omega) KK
        · refine pn_tin (off := 545) (tgt := 585) hx hb (by decide) dL_law_40 (by decide) (by decide) (by decide) (by decide) ?_
          exact kc_anchorOf p l e s m below meth c (lw_Z below #[Value.ref b] s) D cyI cyL b L xs h0 ac ay ap h1 bc bf bg oa hfl (6 * j) (9 + j) (6867 + 6 * j) H locs ls C0 G hi (by omega) (by omega) KK
        · refine pn_tin (off := 601) (tgt := 641) hx hb (by decide) dL_law_40 (by decide) (by decide) (by decide) (by decide) ?_
          exact kc_anchorMonthOf p l e s m below meth c (lw_Z below #[Value.ref b] s) D cyI cyL b L xs h0 ac ay ap h1 bc bf bg oa hfl (6 * j) (9 + j) (6867 + 6 * j) H locs ls C0 G hi (by omega) (by omega) KK
        · refine pn_tin (off := 657) (tgt := 697) hx hb (by decide) dL_law_40 (by decide) (by decide) (by decide) (by decide) ?_
          exact kc_countOf p l e s m below meth c (lw_Z below #[Value.ref b] s) D cyI cyL b L xs h0 ac ay ap h1 bc bf bg oa hfl (6 * j) (9 + j) (6867 + 6 * j) H locs ls C0 G hi (by omega) (by omega) KK
        · refine pn_tin (off := 713) (tgt := 753) hx hb (by decide) dL_law_40 (by decide) (by decide) (by decide) (by decide) ?_
          exact kc_isDoubled p l e s m below meth c (lw_Z below #[Value.ref b] s) D cyI cyL b L xs h0 ac ay ap h1 bc bf bg oa hfl (6 * j) (9 + j) (6867 + 6 * j) H locs ls C0 G hi (by omega) (by omega) KK
        · refine pn_tin (off := 776) (tgt := 816) hx hb (by decide) dL_law_40 (by decide) (by decide) (by decide) (by decide) ?_
          exact kc_fromCount p l e s m below meth c (lw_Z below #[Value.ref b] s) D cyI cyL b L xs h0 ac ay ap h1 bc bf bg oa hfl (6 * j) (9 + j) (6867 + 6 * j) H locs ls C0 G hi (by omega) (by omega) KK
        · refine pn_tin (off := 896) (tgt := 936) hx hb (by decide) dL_law_40 (by decide) (by decide) (by decide) (by decide) ?_
          exact kc_greatestCount p l e s m below meth c (lw_Z below #[Value.ref b] s) D cyI cyL b L xs h0 ac ay ap h1 bc bf bg oa hfl (6 * j) (9 + j) (6867 + 6 * j) H locs ls C0 G hi (by omega) (by omega) KK
        · refine pn_tin (off := 976) (tgt := 1016) hx hb (by decide) dL_law_40 (by decide) (by decide) (by decide) (by decide) ?_
          exact kc_lawNumber p l e s m below meth c (lw_Z below #[Value.ref b] s) D cyI cyL b L xs h0 ac ay ap h1 bc bf bg oa hfl (6 * j) (9 + j) (6867 + 6 * j) H locs ls C0 G hi (by omega) (by omega) KK
        · refine pn_tin (off := 1032) (tgt := 1072) hx hb (by decide) dL_law_40 (by decide) (by decide) (by decide) (by decide) ?_
          exact kc_termEnd p l e s m below meth c (lw_Z below #[Value.ref b] s) D cyI cyL b L xs h0 ac ay ap h1 bc bf bg oa hfl (6 * j) (9 + j) (6867 + 6 * j) H locs ls C0 G hi (by omega) (by omega) KK
        · refine pn_tin (off := 1100) (tgt := 1140) hx hb (by decide) dL_law_40 (by decide) (by decide) (by decide) (by decide) ?_
          exact kc_lawDays p l e s m below meth c (lw_Z below #[Value.ref b] s) D cyI cyL b L xs h0 ac ay ap h1 bc bf bg oa hfl (6 * j) (9 + j) (6867 + 6 * j) H locs ls C0 G hi (by omega) (by omega) KK
        · refine pn_tin (off := 1168) (tgt := 1208) hx hb (by decide) dL_law_40 (by decide) (by decide) (by decide) (by decide) ?_
          exact kc_placeOf p l e s m below meth c (lw_Z below #[Value.ref b] s) D cyI cyL b L xs h0 ac ay ap h1 bc bf bg oa hfl (6 * j) (9 + j) (6867 + 6 * j) H locs ls C0 G hi (by omega) (by omega) KK
        · refine pn_tin (off := 1224) (tgt := 1264) hx hb (by decide) dL_law_40 (by decide) (by decide) (by decide) (by decide) ?_
          exact kc_letterOfEight p l e s m below meth c (lw_Z below #[Value.ref b] s) D cyI cyL b L xs h0 ac ay ap h1 bc bf bg oa hfl (6 * j) (9 + j) (6867 + 6 * j) H locs ls C0 G hi (by omega) (by omega) KK
        · refine pn_tin (off := 1280) (tgt := 1320) hx hb (by decide) dL_law_40 (by decide) (by decide) (by decide) (by decide) ?_
          exact kc_letterOfSeven p l e s m below meth c (lw_Z below #[Value.ref b] s) D cyI cyL b L xs h0 ac ay ap h1 bc bf bg oa hfl (6 * j) (9 + j) (6867 + 6 * j) H locs ls C0 G hi (by omega) (by omega) KK
        · refine pn_tin (off := 1336) (tgt := 1376) hx hb (by decide) dL_law_40 (by decide) (by decide) (by decide) (by decide) ?_
          exact kc_setMarketDay p l e s m below meth c (lw_Z below #[Value.ref b] s) D cyI cyL b L xs h0 ac ay ap h1 bc bf bg oa hfl (6 * j) (9 + j) (6867 + 6 * j) H locs ls C0 G hi (by omega) (by omega) KK
        · refine pn_tin (off := 1392) (tgt := 1432) hx hb (by decide) dL_law_40 (by decide) (by decide) (by decide) (by decide) ?_
          exact kc_isMarket p l e s m below meth c (lw_Z below #[Value.ref b] s) D cyI cyL b L xs h0 ac ay ap h1 bc bf bg oa hfl (6 * j) (9 + j) (6867 + 6 * j) H locs ls C0 G hi (by omega) (by omega) KK
        · refine pn_tin (off := 1455) (tgt := 1495) hx hb (by decide) dL_law_40 (by decide) (by decide) (by decide) (by decide) ?_
          exact kc_marketLetters p l e s m below meth c (lw_Z below #[Value.ref b] s) D cyI cyL b L xs h0 ac ay ap h1 bc bf bg oa hfl (6 * j) (9 + j) (6867 + 6 * j) H locs ls C0 G hi (by omega) (by omega) KK
        · refine pn_tin (off := 1511) (tgt := 1551) hx hb (by decide) dL_law_40 (by decide) (by decide) (by decide) (by decide) ?_
          exact kc_sundayLetters p l e s m below meth c (lw_Z below #[Value.ref b] s) D cyI cyL b L xs h0 ac ay ap h1 bc bf bg oa hfl (6 * j) (9 + j) (6867 + 6 * j) H locs ls C0 G hi (by omega) (by omega) KK
        · refine pn_tin (off := 1567) (tgt := 1607) hx hb (by decide) dL_law_40 (by decide) (by decide) (by decide) (by decide) ?_
          exact kc_setConsuls p l e s m below meth c (lw_Z below #[Value.ref b] s) D cyI cyL b L xs h0 ac ay ap h1 bc bf bg oa hfl (6 * j) (9 + j) (6867 + 6 * j) H locs ls C0 G hi (by omega) (by omega) KK
        · refine pn_tin (off := 1647) (tgt := 1687) hx hb (by decide) dL_law_40 (by decide) (by decide) (by decide) (by decide) ?_
          exact kc_strikeConsuls p l e s m below meth c (lw_Z below #[Value.ref b] s) D cyI cyL b L xs h0 ac ay ap h1 bc bf bg oa hfl (6 * j) (9 + j) (6867 + 6 * j) H locs ls C0 G hi (by omega) (by omega) KK
        · refine pn_tin (off := 1703) (tgt := 1743) hx hb (by decide) dL_law_40 (by decide) (by decide) (by decide) (by decide) ?_
          exact kc_consulsOf p l e s m below meth c (lw_Z below #[Value.ref b] s) D cyI cyL b L xs h0 ac ay ap h1 bc bf bg oa hfl (6 * j) (9 + j) (6867 + 6 * j) H locs ls C0 G hi (by omega) (by omega) KK
        · refine pn_tin (off := 1759) (tgt := 1799) hx hb (by decide) dL_law_40 (by decide) (by decide) (by decide) (by decide) ?_
          exact kc_afterConsuls p l e s m below meth c (lw_Z below #[Value.ref b] s) D cyI cyL b L xs h0 ac ay ap h1 bc bf bg oa hfl (6 * j) (9 + j) (6867 + 6 * j) H locs ls C0 G hi (by omega) (by omega) KK
        · refine pn_tin (off := 1815) (tgt := 1855) hx hb (by decide) dL_law_40 (by decide) (by decide) (by decide) (by decide) ?_
          exact kc_yearOfConsuls p l e s m below meth c (lw_Z below #[Value.ref b] s) D cyI cyL b L xs h0 ac ay ap h1 bc bf bg oa hfl (6 * j) (9 + j) (6867 + 6 * j) H locs ls C0 G hi (by omega) (by omega) KK
        · refine pn_tin (off := 1895) (tgt := 1935) hx hb (by decide) dL_law_40 (by decide) (by decide) (by decide) (by decide) ?_
          exact kc_setCharacter p l e s m below meth c (lw_Z below #[Value.ref b] s) D cyI cyL b L xs h0 ac ay ap h1 bc bf bg oa hfl (6 * j) (9 + j) (6867 + 6 * j) H locs ls C0 G hi (by omega) (by omega) KK
        · refine pn_tin (off := 1963) (tgt := 2003) hx hb (by decide) dL_law_40 (by decide) (by decide) (by decide) (by decide) ?_
          exact kc_characterOf p l e s m below meth c (lw_Z below #[Value.ref b] s) D cyI cyL b L xs h0 ac ay ap h1 bc bf bg oa hfl (6 * j) (9 + j) (6867 + 6 * j) H locs ls C0 G hi (by omega) (by omega) KK
        · refine pn_tin (off := 2019) (tgt := 2059) hx hb (by decide) dL_law_40 (by decide) (by decide) (by decide) (by decide) ?_
          exact kc_canVote p l e s m below meth c (lw_Z below #[Value.ref b] s) D cyI cyL b L xs h0 ac ay ap h1 bc bf bg oa hfl (6 * j) (9 + j) (6867 + 6 * j) H locs ls C0 G hi (by omega) (by omega) KK
        · refine pn_tin (off := 2082) (tgt := 2122) hx hb (by decide) dL_law_40 (by decide) (by decide) (by decide) (by decide) ?_
          exact kc_nextCourt p l e s m below meth c (lw_Z below #[Value.ref b] s) D cyI cyL b L xs h0 ac ay ap h1 bc bf bg oa hfl (6 * j) (9 + j) (6867 + 6 * j) H locs ls C0 G hi (by omega) (by omega) KK
        · refine pn_tin (off := 2138) (tgt := 2178) hx hb (by decide) dL_law_40 (by decide) (by decide) (by decide) (by decide) ?_
          exact kc_votes p l e s m below meth c (lw_Z below #[Value.ref b] s) D cyI cyL b L xs h0 ac ay ap h1 bc bf bg oa hfl (6 * j) (9 + j) (6867 + 6 * j) H locs ls C0 G hi (by omega) (by omega) KK
