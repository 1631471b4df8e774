/-! ===== the law's loop and its entry, for every script of at most 260 ints, over a room that holds its throws ===== -/
def p36_F (_ : Array Value) (s : State) (o : Outcome) (t : State) : Prop := o = .returned (some (.int 1)) ∧ Framed s o t [] 184 1569
def p36_Z (below : List Frame) (a : Array Value) (s : State) : State → Prop := fun t => ∃ o, t.status = .running ∧ Ended t below o ∧ p36_F a s o t
theorem p36_ret {p : Program} {l : Launch} {e : Env} {R : Room} {s : State} {m : MethodId} {below : List Frame} {meth : Method} {c : Code} {b : Nat} (hx : p.tables.exec = Jvm.exec) (hb : c.code = code) (hr : meth.sig.returnType = ret) (hlocks : meth.locks = false) {pc : Nat} {H : Heap} {ls : Array Slot} (hdg : decode code pc = .ok (.ireturn, 1)) : W p l e R s m #[Value.ref b] below meth c H [] 184 1569 (p36_Z below #[Value.ref b] s) (F0 m pc ls [.int 1]) := by
  intro T hT X
  obtain ⟨fs, hret, hrun, hended, hW, hframe⟩ := X.leave (v := some (.int 1)) (hlocks := hlocks) (fun h => by rw [hr] at h; cases h)
  have hmeth' : T.vm.method? m = some meth := X.method'
  refine ⟨T.setFrames fs, ?_, .returned (some (.int 1)), hrun, hended, rfl, ⟨_, rfl⟩, hW, hframe⟩
  jvm_step X.here [X.here.top, hx, hb, hdg, hmeth', hr, ret, narrow_b1]
  (try refine ⟨rfl, ?_⟩); (try refine ⟨rfl, ?_⟩)
  first | (intro acts; rw [hret _ acts rfl rfl rfl]) | rw [hret _ _ rfl rfl rfl]
  exact Steps.refl _
def pg_H (s : State) (D : va_G) (cyI : ClassId) (b h0 ac ay ap : Nat) (H : Heap) (locs : List Loc) (ls : Array Slot) (tn j : Nat) : Prop := ∃ (mk wr : Nat) (ch fy fp : Nat → Nat), pg_I mk wr ch fy fp ∧ va_P D vwCl [(h0, .inr (0, [.ref ac, .ref ay, .ref ap, .int (nI mk)])), (ac, .inl (cyI, 365, .inl (pz_ar ch))), (ay, .inl (cyI, 60, .inl (pz_ar fy))), (ap, .inl (cyI, 60, .inl (pz_ar fp)))] H ∧ va_D (fun q : Nat => s.heap.size ≤ q) [(h0, .inr (0, [.ref ac, .ref ay, .ref ap, .int (nI mk)])), (ac, .inl (cyI, 365, .inl (pz_ar ch))), (ay, .inl (cyI, 60, .inl (pz_ar fy))), (ap, .inl (cyI, 60, .inl (pz_ar fp)))] ∧ va_S (fun q : Nat => s.heap.size ≤ q) s.heap H locs ∧ lv_has ls 16 [(5, .int (nI j)), (4, .int (nI tn)), (3, .int (nI 1)), (2, .int (nI wr)), (1, .ref h0), (0, .ref b)]
set_option maxHeartbeats 4000000 in
set_option maxRecDepth 100000 in
theorem pg_loop {p : Program} {l : Launch} {e : Env} {s : State} {m : MethodId} {below : List Frame} {meth : Method} {c : Code} {D : va_G} {cyI : ClassId} {b L : Nat} {xs : Nat → Int32} {h0 ac ay ap tn : Nat} (hfl : l.stackTraces = false) (hr : meth.sig.returnType = ret) (hlocks : meth.locks = false) (C0 : pg_C p s m c D cyI b) (hX : va_X b L xs s s.heap) (hbl : b < s.heap.size) (hL : L ≤ 260) (htn : tn ≤ 180) : ∀ (N j : Nat) (H : Heap) (locs : List Loc) (ls : Array Slot), tn - j < N → j ≤ tn → pg_H s D cyI b h0 ac ay ap H locs ls tn j → W p l e p36_R s m #[Value.ref b] below meth c H locs (4 + j) (489 + 6 * j) (p36_Z below #[Value.ref b] s) (F0 m 84 ls []) := by
  obtain ⟨hx, hb, hml, hown, hts, hK, hth, hnc⟩ := id C0
  have hA : ∀ q : Nat, s.heap.size ≤ q → (fun q : Nat => s.heap.size ≤ q) q := fun _ h => h
  intro N
  induction N with
  | zero => intro j H locs ls h1; exact absurd h1 (Nat.not_lt_zero _)
  | succ N ih =>
    intro j H locs ls hN hj G
    obtain ⟨mk, wr, ch, fy, fp, I, hP, hD, hS, hl⟩ := id G
    refine lv_iload hx hb dL_law_84 (lv_at hl 0 rfl) ?_
    refine lv_iload hx hb dL_law_86 (lv_at hl 1 rfl) ?_
    refine pn_icmp_ge (tgt := 815) hx hb (by omega) (by omega) dL_law_88 (by decide) (fun hj2 => ?_) (fun hj2 => ?_)
    · refine lv_iload_n hx hb dL_law_815 rfl (lv_at hl 2 rfl) ?_
      refine va_forget (fun q hq => hS.2.2 q hq) ?_
      refine W.widen (k := 184) (n := 1569) (by omega) (by omega) ?_
      exact p36_ret hx hb hr hlocks dL_law_816
    · have hj3 : j < tn := by omega
      have f0 : (4 + j) + 0 ≤ p36_R.cells ∧ (489 + 6 * j) + 0 ≤ p36_R.slots := ⟨by show _ ≤ 200; omega, by show _ ≤ 2000; omega⟩
      have f2 : (4 + j + 1) + 0 ≤ p36_R.cells ∧ (489 + 6 * j + 6) + 0 ≤ p36_R.slots := ⟨by show _ ≤ 200; omega, by show _ ≤ 2000; omega⟩
      have J127 : ∀ x : Int32, W p l e p36_R s m #[Value.ref b] below meth c H locs (4 + j) (489 + 6 * j) (p36_Z below #[Value.ref b] s) (F0 m 127 ls [.int x]) := by
        intro x
        refine lv_istore (lv' := [(6, .int x), (5, .int (nI j)), (4, .int (nI tn)), (3, .int (nI 1)), (2, .int (nI wr)), (1, .ref h0), (0, .ref b)]) hx hb dL_law_127 hl (by decide) rfl (fun ls hl => ?_)
        refine lv_iload hx hb dL_law_129 (lv_at hl 0 rfl) ?_
        refine lv_iconst (v := (nI 4)) hx hb dL_law_131 (by decide) ?_
        refine lv_ishr hx hb dL_law_132 ?_
        obtain ⟨yy, hyy⟩ : ∃ z : Int32, (x >>> (nI 4 &&& 31)) = z := ⟨_, rfl⟩
        refine pn_top (y := yy) hyy ?_
        refine lv_istore (lv' := [(7, .int yy), (6, .int x), (5, .int (nI j)), (4, .int (nI tn)), (3, .int (nI 1)), (2, .int (nI wr)), (1, .ref h0), (0, .ref b)]) hx hb dL_law_133 hl (by decide) rfl (fun ls hl => ?_)
        refine lv_iload hx hb dL_law_135 (lv_at hl 0 rfl) ?_
        refine lv_ldc (v := nI 2097151) hx hb hown (hts (.constant RL 131 (2097151)) (by decide +kernel)) dL_law_137 ?_
        refine lv_iand hx hb dL_law_139 ?_
        obtain ⟨v1, ha1, hb1_⟩ := pg_and (yy) 21 (m := nI 2097151) (by decide)
        refine pn_top (y := nI v1) ha1 ?_
        refine lv_ldc (v := nI 1095749) hx hb hown (hts (.constant RL 126 (1095749)) (by decide +kernel)) dL_law_140 ?_
        refine pn_irem hx hb (by first | omega | exact hch | exact hmk | exact hfy | exact hfp | exact hpz | exact hds) (by first | omega | exact hch | exact hmk | exact hfy | exact hfp | exact hpz | exact hds) (by first | omega | exact hch | exact hmk | exact hfy | exact hfp | exact hpz | exact hds) dL_law_142 ?_
        obtain ⟨n, hn0, hn⟩ : ∃ z : Nat, nI (v1 % 1095749) = nI z ∧ z < 1095749 := ⟨_, rfl, by omega⟩
        refine pn_top (y := nI n) hn0 ?_
        refine lv_istore (lv' := [(8, .int (nI n)), (7, .int yy), (6, .int x), (5, .int (nI j)), (4, .int (nI tn)), (3, .int (nI 1)), (2, .int (nI wr)), (1, .ref h0), (0, .ref b)]) hx hb dL_law_143 hl (by decide) rfl (fun ls hl => ?_)
        have J169 : ∀ yr : Nat, 1 ≤ yr → yr ≤ 3000 → W p l e p36_R s m #[Value.ref b] below meth c H locs (4 + j) (489 + 6 * j) (p36_Z below #[Value.ref b] s) (F0 m 169 ls [.int (nI yr)]) := by
          intro yr hy1 hy2
          have KK : pg_K p l e s m below meth c (p36_Z below #[Value.ref b] s) D cyI b h0 ac ay ap (4 + j) (489 + 6 * j) tn j n yr := by
            intro H locs ls G
            obtain ⟨mk, wr, ch, fy, fp, I, hP, hD, hS, hl⟩ := G
            obtain ⟨hmk, hch, hfy, hfp, hpz, hds, hwr⟩ := id I
            refine lv_iload_n hx hb dL_law_763 rfl (lv_at hl 4 rfl) ?_
            refine pi_if_eq (tgt := 807) (a := (1)) hx hb (by decide +kernel) dL_law_764 (by decide) (fun h9 => absurd h9 (by decide)) (fun _ => ?_)
            refine lv_aload_n hx hb dL_law_767 rfl (lv_at hl 6 rfl) ?_
            refine lv_iload hx hb dL_law_768 (lv_at hl 1 rfl) ?_
            refine pz_SR (rest := []) ⟨hx, hb, hml, hown, hts⟩ (k_L_isBack l D h0 ac ay ap cyI ([]) mk ch fy fp n (by omega)) (va_cwS 2 hts gL_law_L_isBack rfl rfl rfl (by decide +kernel) ⟨Nat.le_of_ble_eq_true rfl, Nat.le_of_ble_eq_true rfl⟩) hK hP (hD.weaken (fun _ _ _ _ => trivial)) hS hA [0, 1, 2, 3] rfl rfl rfl rfl hl.1 rfl (lv_room (Nat.le_of_ble_eq_true rfl)) dL_law_770 f2 (fun r H locs hr hP hS => ?_)
            obtain rfl : r = (nI 1) := hr
            refine pi_if_eq (tgt := 807) (a := (1)) hx hb (by decide +kernel) dL_law_773 (by decide) (fun h9 => absurd h9 (by decide)) (fun _ => ?_)
            refine lv_aload_n hx hb dL_law_776 rfl (lv_at hl 6 rfl) ?_
            refine lv_iload hx hb dL_law_777 (lv_at hl 1 rfl) ?_
            refine pz_SR (rest := []) ⟨hx, hb, hml, hown, hts⟩ (k_L_isNext l D h0 ac ay ap cyI ([]) mk ch fy fp n (by omega) (by exact hmk)) (va_cwS 2 hts gL_law_L_isNext rfl rfl rfl (by decide +kernel) ⟨Nat.le_of_ble_eq_true rfl, Nat.le_of_ble_eq_true rfl⟩) hK hP (hD.weaken (fun _ _ _ _ => trivial)) hS hA [0, 1, 2, 3] rfl rfl rfl rfl hl.1 rfl (lv_room (Nat.le_of_ble_eq_true rfl)) dL_law_779 f2 (fun r H locs hr hP hS => ?_)
            obtain rfl : r = (nI 1) := hr
            refine pi_if_eq (tgt := 807) (a := (1)) hx hb (by decide +kernel) dL_law_782 (by decide) (fun h9 => absurd h9 (by decide)) (fun _ => ?_)
            refine lv_aload_n hx hb dL_law_785 rfl (lv_at hl 6 rfl) ?_
            refine lv_iload hx hb dL_law_786 (lv_at hl 1 rfl) ?_
            refine pz_SR (rest := []) ⟨hx, hb, hml, hown, hts⟩ (k_L_isKept l D h0 ac ay ap cyI ([]) mk ch fy fp n (by omega) (by exact hch) (by exact hmk)) (va_cwS 2 hts gL_law_L_isKept rfl rfl rfl (by decide +kernel) ⟨Nat.le_of_ble_eq_true rfl, Nat.le_of_ble_eq_true rfl⟩) hK hP (hD.weaken (fun _ _ _ _ => trivial)) hS hA [0, 1, 2, 3] rfl rfl rfl rfl hl.1 rfl (lv_room (Nat.le_of_ble_eq_true rfl)) dL_law_788 f2 (fun r H locs hr hP hS => ?_)
            obtain rfl : r = (nI 1) := hr
            refine pi_if_eq (tgt := 807) (a := (1)) hx hb (by decide +kernel) dL_law_791 (by decide) (fun h9 => absurd h9 (by decide)) (fun _ => ?_)
            refine lv_aload_n hx hb dL_law_794 rfl (lv_at hl 6 rfl) ?_
            refine lv_iload hx hb dL_law_795 (lv_at hl 0 rfl) ?_
            refine pz_SR (rest := []) ⟨hx, hb, hml, hown, hts⟩ (k_L_isYear l D h0 ac ay ap cyI ([]) mk ch fy fp yr (by omega) (by omega) (by exact hch) (by exact hmk) (by exact hfy) (by exact hfp) (by exact hpz) (by exact hds)) (va_cwS 2 hts gL_law_L_isYear rfl rfl rfl (by decide +kernel) ⟨Nat.le_of_ble_eq_true rfl, Nat.le_of_ble_eq_true rfl⟩) hK hP (hD.weaken (fun _ _ _ _ => trivial)) hS hA [0, 1, 2, 3] rfl rfl rfl rfl hl.1 rfl (lv_room (Nat.le_of_ble_eq_true rfl)) dL_law_797 f2 (fun r H locs hr hP hS => ?_)
            obtain rfl : r = (nI 1) := hr
            refine pi_if_eq (tgt := 807) (a := (1)) hx hb (by decide +kernel) dL_law_800 (by decide) (fun h9 => absurd h9 (by decide)) (fun _ => ?_)
            refine lv_iconst (v := (nI 1)) hx hb dL_law_803 (by decide) ?_
            refine lv_goto (tgt := 808) hx hb dL_law_804 (by decide) ?_
            refine lv_istore_n (lv' := [(3, .int (nI 1)), (9, .int (nI yr)), (8, .int (nI n)), (5, .int (nI j)), (4, .int (nI tn)), (2, .int (nI wr)), (1, .ref h0), (0, .ref b)]) hx hb dL_law_808 rfl hl (by decide) rfl (fun ls hl => ?_)
            refine lv_iinc (v := (nI (j + 1))) (lv' := [(5, .int (nI (j + 1))), (3, .int (nI 1)), (9, .int (nI yr)), (8, .int (nI n)), (4, .int (nI tn)), (2, .int (nI wr)), (1, .ref h0), (0, .ref b)]) hx hb dL_law_809 hl (k := 3) rfl (by exact nI_add _ 1) (by decide) rfl (fun ls hl => ?_)
            refine lv_goto (tgt := 84) hx hb dL_law_812 (by decide) ?_
            refine W.widen (k := 4 + (j + 1)) (n := 489 + 6 * (j + 1)) (by omega) (by omega) ?_
            exact ih (j + 1) H _ ls (by omega) (by omega) ⟨mk, wr, ch, fy, fp, I, hP, hD, hS, lv_sub hl [0, 4, 1, 5, 6, 7] rfl⟩
          refine lv_istore (lv' := [(9, .int (nI yr)), (8, .int (nI n)), (7, .int yy), (6, .int x), (5, .int (nI j)), (4, .int (nI tn)), (3, .int (nI 1)), (2, .int (nI wr)), (1, .ref h0), (0, .ref b)]) hx hb dL_law_169 hl (by decide) rfl (fun ls hl => ?_)
          refine lv_iconst (v := (nI 1)) hx hb dL_law_171 (by decide) ?_
          refine lv_iload hx hb dL_law_172 (lv_at hl 2 rfl) ?_
          refine lv_bipush (v := (nI 8)) hx hb dL_law_174 (by decide) ?_
          refine lv_ishr hx hb dL_law_176 ?_
          refine lv_iconst (v := (nI 3)) hx hb dL_law_177 (by decide) ?_
          refine lv_iand hx hb dL_law_178 ?_
          obtain ⟨v6, ha6, hb6_⟩ := pg_and ((yy >>> (nI 8 &&& 31))) 2 (m := nI 3) (by decide)
          refine pn_top (y := nI v6) ha6 ?_
          refine pn_iadd hx hb dL_law_179 ?_
          refine lv_istore (lv' := [(10, .int (nI (1 + v6))), (9, .int (nI yr)), (8, .int (nI n)), (7, .int yy), (6, .int x), (5, .int (nI j)), (4, .int (nI tn)), (3, .int (nI 1)), (2, .int (nI wr)), (1, .ref h0), (0, .ref b)]) hx hb dL_law_180 hl (by decide) rfl (fun ls hl => ?_)
          refine lv_iconst (v := (nI 1)) hx hb dL_law_182 (by decide) ?_
          refine lv_iload hx hb dL_law_183 (lv_at hl 3 rfl) ?_
          refine lv_bipush (v := (nI 10)) hx hb dL_law_185 (by decide) ?_
          refine lv_ishr hx hb dL_law_187 ?_
          refine lv_iconst (v := (nI 3)) hx hb dL_law_188 (by decide) ?_
          refine lv_iand hx hb dL_law_189 ?_
          obtain ⟨v7, ha7, hb7_⟩ := pg_and ((yy >>> (nI 10 &&& 31))) 2 (m := nI 3) (by decide)
          refine pn_top (y := nI v7) ha7 ?_
          refine pn_iadd hx hb dL_law_190 ?_
          refine lv_istore (lv' := [(11, .int (nI (1 + v7))), (10, .int (nI (1 + v6))), (9, .int (nI yr)), (8, .int (nI n)), (7, .int yy), (6, .int x), (5, .int (nI j)), (4, .int (nI tn)), (3, .int (nI 1)), (2, .int (nI wr)), (1, .ref h0), (0, .ref b)]) hx hb dL_law_191 hl (by decide) rfl (fun ls hl => ?_)
          refine lv_iload hx hb dL_law_193 (lv_at hl 5 rfl) ?_
          refine lv_bipush (v := (nI 15)) hx hb dL_law_195 (by decide) ?_
          refine lv_iand hx hb dL_law_197 ?_
          obtain ⟨v8, ha8, hb8_⟩ := pg_and (x) 4 (m := nI 15) (by decide)
          refine pn_top (y := nI v8) ha8 ?_
          refine lv_istore (lv' := [(12, .int (nI v8)), (11, .int (nI (1 + v7))), (10, .int (nI (1 + v6))), (9, .int (nI yr)), (8, .int (nI n)), (7, .int yy), (6, .int x), (5, .int (nI j)), (4, .int (nI tn)), (3, .int (nI 1)), (2, .int (nI wr)), (1, .ref h0), (0, .ref b)]) hx hb dL_law_198 hl (by decide) rfl (fun ls hl => ?_)
          refine lv_iload hx hb dL_law_200 (lv_at hl 0 rfl) ?_
          refine lv_iconst (v := (nI 5)) hx hb dL_law_202 (by decide) ?_
          refine pn_icmp_ge (tgt := 263) hx hb (by first | omega | exact hch | exact hmk | exact hfy | exact hfp | exact hpz | exact hds) (by first | omega | exact hch | exact hmk | exact hfy | exact hfp | exact hpz | exact hds) dL_law_203 (by decide) (fun c_9 => ?_) (fun c_9 => ?_)
          · -- 203 yes
            refine lv_iload hx hb dL_law_263 (lv_at hl 0 rfl) ?_
            refine lv_bipush (v := (nI 8)) hx hb dL_law_265 (by decide) ?_
            refine pn_icmp_ge (tgt := 406) hx hb (by first | omega | exact hch | exact hmk | exact hfy | exact hfp | exact hpz | exact hds) (by first | omega | exact hch | exact hmk | exact hfy | exact hfp | exact hpz | exact hds) dL_law_267 (by decide) (fun c_10 => ?_) (fun c_10 => ?_)
            · -- 267 yes
              refine lv_iload hx hb dL_law_406 (lv_at hl 0 rfl) ?_
              refine lv_bipush (v := (nI 8)) hx hb dL_law_408 (by decide) ?_
              refine pn_icmp_ne (tgt := 485) hx hb (by first | omega | exact hch | exact hmk | exact hfy | exact hfp | exact hpz | exact hds) (by first | omega | exact hch | exact hmk | exact hfy | exact hfp | exact hpz | exact hds) dL_law_410 (by decide) (fun c_11 => ?_) (fun c_11 => ?_)
              · -- 410 yes
                refine lv_iload hx hb dL_law_485 (lv_at hl 0 rfl) ?_
                refine lv_bipush (v := (nI 9)) hx hb dL_law_487 (by decide) ?_
                refine pn_icmp_ne (tgt := 571) hx hb (by first | omega | exact hch | exact hmk | exact hfy | exact hfp | exact hpz | exact hds) (by first | omega | exact hch | exact hmk | exact hfy | exact hfp | exact hpz | exact hds) dL_law_489 (by decide) (fun c_12 => ?_) (fun c_12 => ?_)
                · -- 489 yes
                  refine lv_iload hx hb dL_law_571 (lv_at hl 0 rfl) ?_
                  refine lv_bipush (v := (nI 10)) hx hb dL_law_573 (by decide) ?_
                  refine pn_icmp_ne (tgt := 641) hx hb (by first | omega | exact hch | exact hmk | exact hfy | exact hfp | exact hpz | exact hds) (by first | omega | exact hch | exact hmk | exact hfy | exact hfp | exact hpz | exact hds) dL_law_575 (by decide) (fun c_13 => ?_) (fun c_13 => ?_)
                  · -- 575 yes
                    refine lv_iload hx hb dL_law_641 (lv_at hl 0 rfl) ?_
                    refine lv_bipush (v := (nI 13)) hx hb dL_law_643 (by decide) ?_
                    refine pn_icmp_ge (tgt := 763) hx hb (by first | omega | exact hch | exact hmk | exact hfy | exact hfp | exact hpz | exact hds) (by first | omega | exact hch | exact hmk | exact hfy | exact hfp | exact hpz | exact hds) dL_law_645 (by decide) (fun c_14 => ?_) (fun c_14 => ?_)
                    · -- 645 yes
                      refine W.widen (k := 4 + j + 1) (n := 489 + 6 * j + 6) (by omega) (by omega) ?_
                      exact KK H _ ls ⟨mk, wr, ch, fy, fp, I, hP, hD, hS, lv_sub hl [3, 4, 7, 8, 9, 10, 11, 12] rfl⟩
                    · -- 645 no
                      exact kd_ends hfl C0 I (by omega) (by omega) H _ ls hP hD hS hn hy1 hy2 (by omega) (by omega) (by omega) (by omega) (lv_sub hl [0, 1, 2, 3, 4, 5, 6, 7, 8, 9, 10, 11, 12] rfl) KK
                  · -- 575 no
                    exact kd_market hfl C0 I (by omega) (by omega) H _ ls hP hD hS hn hy1 hy2 (by omega) (by omega) (by omega) (by omega) (lv_sub hl [0, 1, 2, 3, 4, 5, 6, 7, 8, 9, 10, 11, 12] rfl) KK
                · -- 489 no
                  exact kd_sets hfl C0 I (by omega) (by omega) H _ ls hP hD hS hn hy1 hy2 (by omega) (by omega) (by omega) (by omega) (lv_sub hl [0, 1, 2, 3, 4, 5, 6, 7, 8, 9, 10, 11, 12] rfl) KK
              · -- 410 no
                exact kd_strikes hfl C0 I (by omega) (by omega) H _ ls hP hD hS hn hy1 hy2 (by omega) (by omega) (by omega) (by omega) (lv_sub hl [0, 1, 2, 3, 4, 5, 6, 7, 8, 9, 10, 11, 12] rfl) KK
            · -- 267 no
              exact kd_writes hfl C0 I (by omega) (by omega) H _ ls hP hD hS hn hy1 hy2 (by omega) (by omega) (by omega) (by omega) (lv_sub hl [0, 1, 2, 3, 4, 5, 6, 7, 8, 9, 10, 11, 12] rfl) KK
          · -- 203 no
            exact kd_about hfl C0 I (by omega) (by omega) H _ ls hP hD hS hn hy1 hy2 (by omega) (by omega) (by omega) (by omega) (lv_sub hl [0, 1, 2, 3, 4, 5, 6, 7, 8, 9, 10, 11, 12] rfl) KK
        refine lv_iconst (v := (nI 1)) hx hb dL_law_145 (by decide) ?_
        refine lv_iload hx hb dL_law_146 (lv_at hl 1 rfl) ?_
        refine lv_ldc (v := nI 65535) hx hb hown (hts (.constant RL 132 (65535)) (by decide +kernel)) dL_law_148 ?_
        refine lv_iand hx hb dL_law_150 ?_
        obtain ⟨v15, ha15, hb15_⟩ := pg_and (yy) 16 (m := nI 65535) (by decide)
        refine pn_top (y := nI v15) ha15 ?_
        refine lv_iload hx hb dL_law_151 (lv_at hl 2 rfl) ?_
        refine lv_bipush (v := (nI 16)) hx hb dL_law_153 (by decide) ?_
        refine lv_iand hx hb dL_law_155 ?_
        refine pi_if_ne (tgt := 165) (a := ((x &&& (nI 16))).toInt) hx hb rfl dL_law_156 (by decide) (fun c_16 => ?_) (fun c_16 => ?_)
        · -- 156 yes
          refine lv_bipush (v := (nI 40)) hx hb dL_law_165 (by decide) ?_
          refine pn_irem hx hb (by first | omega | exact hch | exact hmk | exact hfy | exact hfp | exact hpz | exact hds) (by first | omega | exact hch | exact hmk | exact hfy | exact hfp | exact hpz | exact hds) (by first | omega | exact hch | exact hmk | exact hfy | exact hfp | exact hpz | exact hds) dL_law_167 ?_
          refine pn_iadd hx hb dL_law_168 ?_
          exact J169 (1 + (v15 % 40)) (by omega) (by omega)
        · -- 156 no
          refine lv_sipush (v := (nI 3000)) hx hb dL_law_159 (by decide) ?_
          refine lv_goto (tgt := 167) hx hb dL_law_162 (by decide) ?_
          refine pn_irem hx hb (by first | omega | exact hch | exact hmk | exact hfy | exact hfp | exact hpz | exact hds) (by first | omega | exact hch | exact hmk | exact hfy | exact hfp | exact hpz | exact hds) (by first | omega | exact hch | exact hmk | exact hfy | exact hfp | exact hpz | exact hds) dL_law_167 ?_
          refine pn_iadd hx hb dL_law_168 ?_
          exact J169 (1 + (v15 % 3000)) (by omega) (by omega)
      refine lv_iload_n hx hb dL_law_91 rfl (lv_at hl 2 rfl) ?_
      refine pi_if_eq (tgt := 815) (a := (1)) hx hb (by decide +kernel) dL_law_92 (by decide) (fun h9 => absurd h9 (by decide)) (fun _ => ?_)
      refine lv_iload hx hb dL_law_95 (lv_at hl 0 rfl) ?_
      refine lv_aload_n hx hb dL_law_97 rfl (lv_at hl 5 rfl) ?_
      refine va_slen hx hb hX hbl (Nat.not_le.mpr hbl) hS dL_law_98 ?_
      refine pn_top (y := nI L) rfl ?_
      refine pn_icmp_ge (tgt := 109) hx hb (by first | omega | exact hch | exact hmk | exact hfy | exact hfp | exact hpz | exact hds) (by first | omega | exact hch | exact hmk | exact hfy | exact hfp | exact hpz | exact hds) dL_law_99 (by decide) (fun c_17 => ?_) (fun c_17 => ?_)
      · -- 99 yes
        refine lv_ldc (v := nI 450001) hx hb hown (hts (.constant RL 130 (450001)) (by decide +kernel)) dL_law_109 ?_
        refine lv_iload hx hb dL_law_111 (lv_at hl 0 rfl) ?_
        refine pn_imul hx hb dL_law_113 ?_
        refine lv_iload hx hb dL_law_114 (lv_at hl 0 rfl) ?_
        refine pn_imul hx hb dL_law_116 ?_
        refine lv_sipush (v := (nI 14009)) hx hb dL_law_117 (by decide) ?_
        refine lv_iload hx hb dL_law_120 (lv_at hl 0 rfl) ?_
        refine pn_imul hx hb dL_law_122 ?_
        refine pn_iadd hx hb dL_law_123 ?_
        refine lv_bipush (v := (nI 19)) hx hb dL_law_124 (by decide) ?_
        refine pn_iadd hx hb dL_law_126 ?_
        exact J127 ((nI ((((450001 * j) * j) + (14009 * j)) + 19)))
      · -- 99 no
        refine lv_aload_n hx hb dL_law_102 rfl (lv_at hl 5 rfl) ?_
        refine lv_iload hx hb dL_law_103 (lv_at hl 0 rfl) ?_
        refine pn_sld (L := L) (v := xs j) hx hb hX hbl hS (by omega) (by omega) rfl dL_law_105 ?_
        refine lv_goto (tgt := 127) hx hb dL_law_106 (by decide) ?_
        exact J127 ((xs j))
set_option maxHeartbeats 4000000 in
set_option maxRecDepth 100000 in
theorem pg_start {p : Program} {l : Launch} {e : Env} {s : State} {m : MethodId} {below : List Frame} {meth : Method} {c : Code} {b L : Nat} {xs : Nat → Int32} (htt : ∀ w ∈ lw_tbl, w.before #[Value.ref b] s = true) (hfl : l.stackTraces = false) (hr : meth.sig.returnType = ret) (hlocks : meth.locks = false) (hx : p.tables.exec = Jvm.exec) (hb : c.code = cL_law) (hml : c.maxLocals = 16) (hown : s.vm.findClass RL = some m.cls) (hts : ∀ w ∈ wsL_law, w.before #[Value.ref b] s = true) (hX : va_X b L xs s s.heap) (hbl : b < s.heap.size) (hL : L ≤ 260) (hth : pz_thr s.heap.size s) (hnc : pz_NC s) : W p l e p36_R s m #[Value.ref b] below meth c s.heap [] 0 0 (p36_Z below #[Value.ref b] s) (entryFrame m ([Value.ref b] : List Value).toArray 16) := by
  have hA : ∀ q : Nat, s.heap.size ≤ q → (fun q : Nat => s.heap.size ≤ q) q := fun _ h => h
  obtain ⟨c0, iS0, hKn0⟩ := u_known (C := RX0) (T := TX0) (N := 4) (n := 4) htt inX0 (hts (.instantiable RX0 4) (by decide +kernel))
  obtain ⟨D, hKc⟩ : ∃ D : va_G, ∀ (k : Nat) (q : vw_C), vwCl[k]? = some q → u_Kn s q.1 q.2.1 q.2.2 (D.1 k) (D.2 k) := by
    refine ⟨(fun _ => c0, fun _ => iS0), ?_⟩
    intro k q hq
    match k, hq with
    | 0, hq => cases hq; exact hKn0
    | k + 1, hq => simp [vwCl] at hq
  have hS : va_S (fun q : Nat => s.heap.size ≤ q) s.heap s.heap [] := va_S.rf
  have hK : va_K D vwCl [] s := ⟨hKc, fun k q h => by simp at h⟩
  have hP : va_P D vwCl [] s.heap := fun k q h => by simp at h
  have hD : va_D (fun q : Nat => s.heap.size ≤ q) [] := ⟨fun i j p q h => by simp at h, fun k q h => by simp at h⟩
  have hl := lv_entry ([.ref b]) (n := 16) (Nat.le_of_ble_eq_true rfl)
  rw [lg_entry_eq]
  generalize (lg_sl ([.ref b]) ++ List.replicate (16 - (lg_sl ([.ref b])).length) Slot.unset).toArray = ls at hl ⊢
  have hl : lv_has ls 16 [(0, .ref b)] := hl
  refine va_new (ci := 0) (fs := [.null, .null, .null, .int (nI 0)]) (C := RX0) (T := TX0) (N := 4) hx hb htt inX0 tyX0 tyX0_ok hown (hts (.classLink RL 8 RX0) (by decide +kernel)) (hts (.instantiable RX0 4) (by decide +kernel)) (hts (.initialized RX0) (by decide +kernel)) hK hP hD hS hA rfl (fun j hj => by rcases (show j = 0 ∨ j = 1 ∨ j = 2 ∨ j = 3 by omega) with rfl | rfl | rfl | rfl <;> rfl) (Nat.le_of_ble_eq_true rfl) (Nat.le_of_ble_eq_true rfl) dL_law_0 (fun h0 H hP hD hS => ?_)
  have hP : va_P D vwCl [(h0, .inr (0, [.null, .null, .null, .int (nI 0)]))] H := hP
  have hD : va_D (fun q : Nat => s.heap.size ≤ q) [(h0, .inr (0, [.null, .null, .null, .int (nI 0)]))] := hD
  refine lv_dup hx hb dL_law_3 rfl ?_
  refine pz_NC_ (rest := [.ref h0]) (wr := []) ⟨hx, hb, hml, hown, hts⟩ (k_X0_init l D h0) (cwI 0 hts gL_law_X0_init rfl rfl rfl (hts (.initialized RX0) (by decide +kernel)) (hts (.methodLink RL 118 yX0_init) (by decide +kernel)) (hts (.instanceMethod yX0_init) (by decide +kernel)) rfl (by decide +kernel) ⟨Nat.le_of_ble_eq_true rfl, Nat.le_of_ble_eq_true rfl⟩) hK hP hD hS hA [0] [] rfl rfl (by decide) rfl (by decide) (by decide) rfl hl.1 rfl (lv_room (Nat.le_of_ble_eq_true rfl)) dL_law_4 ⟨Nat.le_of_ble_eq_true rfl, Nat.le_of_ble_eq_true rfl⟩ (fun u H locs hu hK hP hD hS => ?_)
  obtain ⟨⟨ac, ay, ap, cyI⟩, ch⟩ := u
  have hch : ∀ j, j < 365 → ch j = pq_c 12 j := hu
  have hP : va_P D vwCl [(h0, .inr (0, [.ref ac, .ref ay, .ref ap, .int (nI 0)])), (ac, .inl (cyI, 365, .inl (pz_ar ch))), (ay, .inl (cyI, 60, .inl (pz_ar pq_z))), (ap, .inl (cyI, 60, .inl (pz_ar pq_z)))] H := hP
  have hD : va_D (fun q : Nat => s.heap.size ≤ q) [(h0, .inr (0, [.ref ac, .ref ay, .ref ap, .int (nI 0)])), (ac, .inl (cyI, 365, .inl (pz_ar ch))), (ay, .inl (cyI, 60, .inl (pz_ar pq_z))), (ap, .inl (cyI, 60, .inl (pz_ar pq_z)))] := hD
  have hK : va_K D vwCl [(cyI, .int)] s := hK
  have I := pg_I_0 hch
  obtain ⟨hmk, hch9, hfy, hfp, hpz, hds, hwr⟩ := id I
  have hch := hch9
  have C0 : pg_C p s m c D cyI b := ⟨hx, hb, hml, hown, hts, hK, hth, hnc⟩
  refine W.widen (k := 4) (n := 489) (Nat.le_of_ble_eq_true rfl) (Nat.le_of_ble_eq_true rfl) ?_
  have f0 : 4 + 0 ≤ p36_R.cells ∧ 489 + 0 ≤ p36_R.slots := ⟨by decide, by decide⟩
  refine lv_astore_n (lv' := [(1, .ref h0), (0, .ref b)]) hx hb dL_law_7 rfl hl (by decide) rfl (fun ls hl => ?_)
  refine lv_iconst (v := (nI 0)) hx hb dL_law_8 (by decide) ?_
  refine lv_istore_n (lv' := [(2, .int (nI 0)), (1, .ref h0), (0, .ref b)]) hx hb dL_law_9 rfl hl (by decide) rfl (fun ls hl => ?_)
  refine lv_aload_n hx hb dL_law_10 rfl (lv_at hl 1 rfl) ?_
  refine lv_iconst (v := (nI 0)) hx hb dL_law_11 (by decide) ?_
  refine pz_SR (rest := []) ⟨hx, hb, hml, hown, hts⟩ (k_L_isBack l D h0 ac ay ap cyI ([]) 0 ch pq_z pq_z 0 (by omega)) (va_cwS 2 hts gL_law_L_isBack rfl rfl rfl (by decide +kernel) ⟨Nat.le_of_ble_eq_true rfl, Nat.le_of_ble_eq_true rfl⟩) hK hP (hD.weaken (fun _ _ _ _ => trivial)) hS hA [0, 1, 2, 3] rfl rfl rfl rfl hl.1 rfl (lv_room (Nat.le_of_ble_eq_true rfl)) dL_law_12 f0 (fun r H locs hr hP hS => ?_)
  obtain rfl : r = (nI 1) := hr
  refine pi_if_eq (tgt := 48) (a := (1)) hx hb (by decide +kernel) dL_law_15 (by decide) (fun h9 => absurd h9 (by decide)) (fun _ => ?_)
  refine lv_aload_n hx hb dL_law_18 rfl (lv_at hl 1 rfl) ?_
  refine lv_iconst (v := (nI 0)) hx hb dL_law_19 (by decide) ?_
  refine pz_SR (rest := []) ⟨hx, hb, hml, hown, hts⟩ (k_L_isNext l D h0 ac ay ap cyI ([]) 0 ch pq_z pq_z 0 (by omega) (by exact hmk)) (va_cwS 2 hts gL_law_L_isNext rfl rfl rfl (by decide +kernel) ⟨Nat.le_of_ble_eq_true rfl, Nat.le_of_ble_eq_true rfl⟩) hK hP (hD.weaken (fun _ _ _ _ => trivial)) hS hA [0, 1, 2, 3] rfl rfl rfl rfl hl.1 rfl (lv_room (Nat.le_of_ble_eq_true rfl)) dL_law_20 f0 (fun r H locs hr hP hS => ?_)
  obtain rfl : r = (nI 1) := hr
  refine pi_if_eq (tgt := 48) (a := (1)) hx hb (by decide +kernel) dL_law_23 (by decide) (fun h9 => absurd h9 (by decide)) (fun _ => ?_)
  refine lv_aload_n hx hb dL_law_26 rfl (lv_at hl 1 rfl) ?_
  refine lv_ldc (v := nI 1095749) hx hb hown (hts (.constant RL 126 (1095749)) (by decide +kernel)) dL_law_27 ?_
  refine pz_SR (rest := []) ⟨hx, hb, hml, hown, hts⟩ (k_L_isBack l D h0 ac ay ap cyI ([]) 0 ch pq_z pq_z 1095749 (by omega)) (va_cwS 2 hts gL_law_L_isBack rfl rfl rfl (by decide +kernel) ⟨Nat.le_of_ble_eq_true rfl, Nat.le_of_ble_eq_true rfl⟩) hK hP (hD.weaken (fun _ _ _ _ => trivial)) hS hA [0, 1, 2, 3] rfl rfl rfl rfl hl.1 rfl (lv_room (Nat.le_of_ble_eq_true rfl)) dL_law_29 f0 (fun r H locs hr hP hS => ?_)
  obtain rfl : r = (nI 1) := hr
  refine pi_if_eq (tgt := 48) (a := (1)) hx hb (by decide +kernel) dL_law_32 (by decide) (fun h9 => absurd h9 (by decide)) (fun _ => ?_)
  refine lv_aload_n hx hb dL_law_35 rfl (lv_at hl 1 rfl) ?_
  refine lv_ldc (v := nI 1095749) hx hb hown (hts (.constant RL 126 (1095749)) (by decide +kernel)) dL_law_36 ?_
  refine pz_SR (rest := []) ⟨hx, hb, hml, hown, hts⟩ (k_L_isKept l D h0 ac ay ap cyI ([]) 0 ch pq_z pq_z 1095749 (by omega) (by exact hch) (by exact hmk)) (va_cwS 2 hts gL_law_L_isKept rfl rfl rfl (by decide +kernel) ⟨Nat.le_of_ble_eq_true rfl, Nat.le_of_ble_eq_true rfl⟩) hK hP (hD.weaken (fun _ _ _ _ => trivial)) hS hA [0, 1, 2, 3] rfl rfl rfl rfl hl.1 rfl (lv_room (Nat.le_of_ble_eq_true rfl)) dL_law_38 f0 (fun r H locs hr hP hS => ?_)
  obtain rfl : r = (nI 1) := hr
  refine pi_if_eq (tgt := 48) (a := (1)) hx hb (by decide +kernel) dL_law_41 (by decide) (fun h9 => absurd h9 (by decide)) (fun _ => ?_)
  refine lv_iconst (v := (nI 1)) hx hb dL_law_44 (by decide) ?_
  refine lv_goto (tgt := 49) hx hb dL_law_45 (by decide) ?_
  refine lv_istore_n (lv' := [(3, .int (nI 1)), (2, .int (nI 0)), (1, .ref h0), (0, .ref b)]) hx hb dL_law_49 rfl hl (by decide) rfl (fun ls hl => ?_)
  refine lv_aload_n hx hb dL_law_50 rfl (lv_at hl 3 rfl) ?_
  refine va_slen hx hb hX hbl (Nat.not_le.mpr hbl) hS dL_law_51 ?_
  refine pn_top (y := nI L) rfl ?_
  refine lv_bipush (v := (nI 20)) hx hb dL_law_52 (by decide) ?_
  refine pn_icmp_ge (tgt := 62) hx hb (by first | omega | exact hch | exact hmk | exact hfy | exact hfp | exact hpz | exact hds) (by first | omega | exact hch | exact hmk | exact hfy | exact hfp | exact hpz | exact hds) dL_law_54 (by decide) (fun c_5 => ?_) (fun c_5 => ?_)
  · -- 54 yes
    refine lv_aload_n hx hb dL_law_62 rfl (lv_at hl 3 rfl) ?_
    refine va_slen hx hb hX hbl (Nat.not_le.mpr hbl) hS dL_law_63 ?_
    refine pn_top (y := nI L) rfl ?_
    refine lv_bipush (v := (nI 60)) hx hb dL_law_64 (by decide) ?_
    refine pn_icmp_ge (tgt := 76) hx hb (by first | omega | exact hch | exact hmk | exact hfy | exact hfp | exact hpz | exact hds) (by first | omega | exact hch | exact hmk | exact hfy | exact hfp | exact hpz | exact hds) dL_law_66 (by decide) (fun c_6 => ?_) (fun c_6 => ?_)
    · -- 66 yes
      refine lv_sipush (v := (nI 180)) hx hb dL_law_76 (by decide) ?_
      refine lv_istore (lv' := [(4, .int (nI 180)), (3, .int (nI 1)), (2, .int (nI 0)), (1, .ref h0), (0, .ref b)]) hx hb dL_law_79 hl (by decide) rfl (fun ls hl => ?_)
      refine lv_iconst (v := (nI 0)) hx hb dL_law_81 (by decide) ?_
      refine lv_istore (lv' := [(5, .int (nI 0)), (4, .int (nI 180)), (3, .int (nI 1)), (2, .int (nI 0)), (1, .ref h0), (0, .ref b)]) hx hb dL_law_82 hl (by decide) rfl (fun ls hl => ?_)
      exact pg_loop hfl hr hlocks C0 hX hbl hL (by omega) (180 + 1) 0 H _ ls (by omega) (by omega) ⟨0, 0, ch, pq_z, pq_z, I, hP, hD, hS, lv_sub hl [0, 1, 2, 3, 4, 5] rfl⟩
    · -- 66 no
      refine lv_iconst (v := (nI 3)) hx hb dL_law_69 (by decide) ?_
      refine lv_aload_n hx hb dL_law_70 rfl (lv_at hl 3 rfl) ?_
      refine va_slen hx hb hX hbl (Nat.not_le.mpr hbl) hS dL_law_71 ?_
      refine pn_top (y := nI L) rfl ?_
      refine pn_imul hx hb dL_law_72 ?_
      refine lv_goto (tgt := 79) hx hb dL_law_73 (by decide) ?_
      refine lv_istore (lv' := [(4, .int (nI (3 * L))), (3, .int (nI 1)), (2, .int (nI 0)), (1, .ref h0), (0, .ref b)]) hx hb dL_law_79 hl (by decide) rfl (fun ls hl => ?_)
      refine lv_iconst (v := (nI 0)) hx hb dL_law_81 (by decide) ?_
      refine lv_istore (lv' := [(5, .int (nI 0)), (4, .int (nI (3 * L))), (3, .int (nI 1)), (2, .int (nI 0)), (1, .ref h0), (0, .ref b)]) hx hb dL_law_82 hl (by decide) rfl (fun ls hl => ?_)
      exact pg_loop hfl hr hlocks C0 hX hbl hL (by omega) ((3 * L) + 1) 0 H _ ls (by omega) (by omega) ⟨0, 0, ch, pq_z, pq_z, I, hP, hD, hS, lv_sub hl [0, 1, 2, 3, 4, 5] rfl⟩
  · -- 54 no
    refine lv_bipush (v := (nI 60)) hx hb dL_law_57 (by decide) ?_
    refine lv_goto (tgt := 79) hx hb dL_law_59 (by decide) ?_
    refine lv_istore (lv' := [(4, .int (nI 60)), (3, .int (nI 1)), (2, .int (nI 0)), (1, .ref h0), (0, .ref b)]) hx hb dL_law_79 hl (by decide) rfl (fun ls hl => ?_)
    refine lv_iconst (v := (nI 0)) hx hb dL_law_81 (by decide) ?_
    refine lv_istore (lv' := [(5, .int (nI 0)), (4, .int (nI 60)), (3, .int (nI 1)), (2, .int (nI 0)), (1, .ref h0), (0, .ref b)]) hx hb dL_law_82 hl (by decide) rfl (fun ls hl => ?_)
    exact pg_loop hfl hr hlocks C0 hX hbl hL (by omega) (60 + 1) 0 H _ ls (by omega) (by omega) ⟨0, 0, ch, pq_z, pq_z, I, hP, hD, hS, lv_sub hl [0, 1, 2, 3, 4, 5] rfl⟩
