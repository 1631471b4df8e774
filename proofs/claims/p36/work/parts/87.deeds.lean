/-! ===== the law's deeds: from behind the switch to its end, each answers true and keeps the state in order ===== -/
def pg_C (p : Program) (s : State) (m : MethodId) (c : Code) (D : va_G) (cyI : ClassId) (b : Nat) : Prop := p.tables.exec = Jvm.exec ∧ c.code = cL_law ∧ c.maxLocals = 16 ∧ s.vm.findClass RL = some m.cls ∧ (∀ w ∈ wsL_law, w.before #[Value.ref b] s = true) ∧ va_K D vwCl [(cyI, .int)] s ∧ pz_thr s.heap.size s ∧ pz_NC s
def pg_G (s : State) (D : va_G) (cyI : ClassId) (b h0 ac ay ap : Nat) (H : Heap) (locs : List Loc) (ls : Array Slot) (tn j n yr : Nat) : Prop := ∃ (mk wr : Nat) (ch fy fp : Nat → Nat), pg_I mk wr ch fy fp ∧ va_P D vwCl [(h0, .inr (0, [.ref ac, .ref ay, .ref ap, .int (nI mk)])), (ac, .inl (cyI, 365, .inl (pz_ar ch))), (ay, .inl (cyI, 60, .inl (pz_ar fy))), (ap, .inl (cyI, 60, .inl (pz_ar fp)))] H ∧ va_D (fun q : Nat => s.heap.size ≤ q) [(h0, .inr (0, [.ref ac, .ref ay, .ref ap, .int (nI mk)])), (ac, .inl (cyI, 365, .inl (pz_ar ch))), (ay, .inl (cyI, 60, .inl (pz_ar fy))), (ap, .inl (cyI, 60, .inl (pz_ar fp)))] ∧ va_S (fun q : Nat => s.heap.size ≤ q) s.heap H locs ∧ lv_has ls 16 [(9, .int (nI yr)), (8, .int (nI n)), (5, .int (nI j)), (4, .int (nI tn)), (3, .int (nI 1)), (2, .int (nI wr)), (1, .ref h0), (0, .ref b)]
def pg_K (p : Program) (l : Launch) (e : Env) (s : State) (m : MethodId) (below : List Frame) (meth : Method) (c : Code) (Q : State → Prop) (D : va_G) (cyI : ClassId) (b h0 ac ay ap cells slots tn j n yr : Nat) : Prop := ∀ (H : Heap) (locs : List Loc) (ls : Array Slot), pg_G s D cyI b h0 ac ay ap H locs ls tn j n yr → W p l e p36_R s m #[Value.ref b] below meth c H locs (cells + 1) (slots + 6) Q (F0 m 763 ls [])
set_option maxHeartbeats 4000000 in
set_option maxRecDepth 100000 in
theorem kd_about {p : Program} {l : Launch} {e : Env} {s : State} {m : MethodId} {below : List Frame} {meth : Method} {c : Code} {Q : State → Prop} {D : va_G} {cyI : ClassId} {b h0 ac ay ap : Nat} (hfl : l.stackTraces = false) (C0 : pg_C p s m c D cyI b) {mk wr : Nat} {ch fy fp : Nat → Nat} (I : pg_I mk wr ch fy fp) {cells slots : Nat} (hc : cells + 1 ≤ 200) (hs : slots + 6 ≤ 2000) (H : Heap) (locs : List Loc) (ls : Array Slot) (hP : va_P D vwCl [(h0, .inr (0, [.ref ac, .ref ay, .ref ap, .int (nI mk)])), (ac, .inl (cyI, 365, .inl (pz_ar ch))), (ay, .inl (cyI, 60, .inl (pz_ar fy))), (ap, .inl (cyI, 60, .inl (pz_ar fp)))] H) (hD : va_D (fun q : Nat => s.heap.size ≤ q) [(h0, .inr (0, [.ref ac, .ref ay, .ref ap, .int (nI mk)])), (ac, .inl (cyI, 365, .inl (pz_ar ch))), (ay, .inl (cyI, 60, .inl (pz_ar fy))), (ap, .inl (cyI, 60, .inl (pz_ar fp)))]) (hS : va_S (fun q : Nat => s.heap.size ≤ q) s.heap H locs) {n yr fa se dd j tn : Nat} {x yy : Int32} (hn : n < 1095749) (hy1 : 1 ≤ yr) (hy2 : yr ≤ 3000) (hf1 : 1 ≤ fa) (hf2 : fa ≤ 4) (hs1 : 1 ≤ se) (hs2 : se ≤ 4) (hl : lv_has ls 16 [(12, .int (nI dd)), (11, .int (nI se)), (10, .int (nI fa)), (9, .int (nI yr)), (8, .int (nI n)), (7, .int yy), (6, .int x), (5, .int (nI j)), (4, .int (nI tn)), (3, .int (nI 1)), (2, .int (nI wr)), (1, .ref h0), (0, .ref b)]) (K : pg_K p l e s m below meth c Q D cyI b h0 ac ay ap cells slots tn j n yr) : W p l e p36_R s m #[Value.ref b] below meth c H locs cells slots Q (F0 m 206 ls []) := by
  obtain ⟨hx, hb, hml, hown, hts, hK, hth, hnc⟩ := id C0
  have hA : ∀ q : Nat, s.heap.size ≤ q → (fun q : Nat => s.heap.size ≤ q) q := fun _ h => h
  have f0 : cells + 0 ≤ p36_R.cells ∧ slots + 0 ≤ p36_R.slots := ⟨by show _ ≤ 200; omega, by show _ ≤ 2000; omega⟩
  have f1 : cells + 1 ≤ p36_R.cells ∧ slots + 6 ≤ p36_R.slots := ⟨hc, hs⟩
  have f2 : (cells + 1) + 0 ≤ p36_R.cells ∧ (slots + 6) + 0 ≤ p36_R.slots := ⟨hc, hs⟩
  obtain ⟨hmk, hch, hfy, hfp, hpz, hds, hwr⟩ := id I
  have hwb := pm_cc_b fy 60
  refine lv_aload_n hx hb dL_law_206 rfl (lv_at hl 11 rfl) ?_
  refine lv_iconst (v := (nI 4)) hx hb dL_law_207 (by decide) ?_
  refine lv_iconst (v := (nI 1)) hx hb dL_law_208 (by decide) ?_
  refine lv_iload hx hb dL_law_209 (lv_at hl 5 rfl) ?_
  refine lv_ldc (v := nI 65535) hx hb hown (hts (.constant RL 132 (65535)) (by decide +kernel)) dL_law_211 ?_
  refine lv_iand hx hb dL_law_213 ?_
  obtain ⟨v1, ha1, hb1_⟩ := pg_and (yy) 16 (m := nI 65535) (by decide)
  refine pn_top (y := nI v1) ha1 ?_
  refine lv_sipush (v := (nI 750)) hx hb dL_law_214 (by decide) ?_
  refine pn_irem hx hb (by first | omega | exact hch | exact hmk | exact hfy | exact hfp | exact hpz | exact hds) (by first | omega | exact hch | exact hmk | exact hfy | exact hfp | exact hpz | exact hds) (by first | omega | exact hch | exact hmk | exact hfy | exact hfp | exact hpz | exact hds) dL_law_217 ?_
  refine pn_iadd hx hb dL_law_218 ?_
  refine pn_imul hx hb dL_law_219 ?_
  refine lv_iconst (v := (nI 2)) hx hb dL_law_220 (by decide) ?_
  refine lv_bipush (v := (nI 22)) hx hb dL_law_221 (by decide) ?_
  refine lv_iload hx hb dL_law_223 (lv_at hl 5 rfl) ?_
  refine lv_bipush (v := (nI 16)) hx hb dL_law_225 (by decide) ?_
  refine lv_ishr hx hb dL_law_227 ?_
  refine lv_iconst (v := (nI 3)) hx hb dL_law_228 (by decide) ?_
  refine lv_iand hx hb dL_law_229 ?_
  obtain ⟨v2, ha2, hb2_⟩ := pg_and ((yy >>> (nI 16 &&& 31))) 2 (m := nI 3) (by decide)
  refine pn_top (y := nI v2) ha2 ?_
  refine pn_iadd hx hb dL_law_230 ?_
  refine pz_VR (rest := []) ⟨hx, hb, hml, hown, hts⟩ (k_X0_number l D h0 ac ay ap cyI ([]) mk ch fy fp (4 * (1 + (v1 % 750))) 2 (22 + v2) (by omega) (by omega) (by decide) (by decide) (by omega) (by rw [pg_ln29]; omega)) (cwV 3 hts gL_law_X0_number rfl rfl rfl (by decide +kernel) ⟨Nat.le_of_ble_eq_true rfl, Nat.le_of_ble_eq_true rfl⟩) hK hP (hD.weaken (fun _ _ _ _ => trivial)) hS hA [0, 1, 2, 3] rfl rfl rfl 0 0 rfl rfl rfl hl.1 rfl (lv_room (Nat.le_of_ble_eq_true rfl)) dL_law_231 f0 (fun r H locs hr hP hS => ?_)
  obtain rfl : r = (nI (pm_fd (4 * (1 + (v1 % 750))) + pm_db (4 * (1 + (v1 % 750))) 2 + (22 + v2) - 1)) := hr
  obtain ⟨ab, hab, hab1⟩ : ∃ z : Nat, nI (pm_fd (4 * (1 + (v1 % 750))) + pm_db (4 * (1 + (v1 % 750))) 2 + (22 + v2) - 1) = nI z ∧ z < 1095749 := ⟨_, rfl, pg_about (by omega) (by omega) (by omega)⟩
  refine pn_top (y := nI ab) hab ?_
  refine lv_istore (lv' := [(13, .int (nI ab)), (12, .int (nI dd)), (11, .int (nI se)), (10, .int (nI fa)), (9, .int (nI yr)), (8, .int (nI n)), (7, .int yy), (6, .int x), (5, .int (nI j)), (4, .int (nI tn)), (3, .int (nI 1)), (2, .int (nI wr)), (1, .ref h0), (0, .ref b)]) hx hb dL_law_234 hl (by decide) rfl (fun ls hl => ?_)
  refine lv_aload_n hx hb dL_law_236 rfl (lv_at hl 12 rfl) ?_
  refine lv_iload hx hb dL_law_237 (lv_at hl 0 rfl) ?_
  refine pz_SR (rest := []) ⟨hx, hb, hml, hown, hts⟩ (k_L_isBack l D h0 ac ay ap cyI ([]) mk ch fy fp ab (by first | omega | exact hch | exact hmk | exact hfy | exact hfp | exact hpz | exact hds)) (va_cwS 2 hts gL_law_L_isBack rfl rfl rfl (by decide +kernel) ⟨Nat.le_of_ble_eq_true rfl, Nat.le_of_ble_eq_true rfl⟩) hK hP (hD.weaken (fun _ _ _ _ => trivial)) hS hA [0, 1, 2, 3] rfl rfl rfl rfl hl.1 rfl (lv_room (Nat.le_of_ble_eq_true rfl)) dL_law_239 f0 (fun r H locs hr hP hS => ?_)
  obtain rfl : r = (nI 1) := hr
  refine pi_if_eq (tgt := 258) (a := (1)) hx hb (by decide +kernel) dL_law_242 (by decide) (fun h9 => absurd h9 (by decide)) (fun _ => ?_)
  refine lv_aload_n hx hb dL_law_245 rfl (lv_at hl 12 rfl) ?_
  refine lv_iload hx hb dL_law_246 (lv_at hl 0 rfl) ?_
  refine pz_SR (rest := []) ⟨hx, hb, hml, hown, hts⟩ (k_L_isNext l D h0 ac ay ap cyI ([]) mk ch fy fp ab (by first | omega | exact hch | exact hmk | exact hfy | exact hfp | exact hpz | exact hds) (by first | omega | exact hch | exact hmk | exact hfy | exact hfp | exact hpz | exact hds)) (va_cwS 2 hts gL_law_L_isNext rfl rfl rfl (by decide +kernel) ⟨Nat.le_of_ble_eq_true rfl, Nat.le_of_ble_eq_true rfl⟩) hK hP (hD.weaken (fun _ _ _ _ => trivial)) hS hA [0, 1, 2, 3] rfl rfl rfl rfl hl.1 rfl (lv_room (Nat.le_of_ble_eq_true rfl)) dL_law_248 f0 (fun r H locs hr hP hS => ?_)
  obtain rfl : r = (nI 1) := hr
  refine pi_if_eq (tgt := 258) (a := (1)) hx hb (by decide +kernel) dL_law_251 (by decide) (fun h9 => absurd h9 (by decide)) (fun _ => ?_)
  refine lv_iconst (v := (nI 1)) hx hb dL_law_254 (by decide) ?_
  refine lv_goto (tgt := 259) hx hb dL_law_255 (by decide) ?_
  refine lv_istore_n (lv' := [(3, .int (nI 1)), (13, .int (nI ab)), (12, .int (nI dd)), (11, .int (nI se)), (10, .int (nI fa)), (9, .int (nI yr)), (8, .int (nI n)), (7, .int yy), (6, .int x), (5, .int (nI j)), (4, .int (nI tn)), (2, .int (nI wr)), (1, .ref h0), (0, .ref b)]) hx hb dL_law_259 rfl hl (by decide) rfl (fun ls hl => ?_)
  refine lv_goto (tgt := 763) hx hb dL_law_260 (by decide) ?_
  refine W.widen (k := cells + 1) (n := slots + 6) (by omega) (by omega) ?_
  have hw9 : wr = pm_cc fy 60 := by omega
  exact K H _ ls ⟨mk, wr, ch, fy, fp, ⟨hmk, hch, hfy, hfp, hpz, hds, hw9⟩, hP, hD, hS, lv_sub hl [5, 6, 9, 10, 0, 11, 12, 13] rfl⟩
set_option maxHeartbeats 4000000 in
set_option maxRecDepth 100000 in
theorem kd_writes {p : Program} {l : Launch} {e : Env} {s : State} {m : MethodId} {below : List Frame} {meth : Method} {c : Code} {Q : State → Prop} {D : va_G} {cyI : ClassId} {b h0 ac ay ap : Nat} (hfl : l.stackTraces = false) (C0 : pg_C p s m c D cyI b) {mk wr : Nat} {ch fy fp : Nat → Nat} (I : pg_I mk wr ch fy fp) {cells slots : Nat} (hc : cells + 1 ≤ 200) (hs : slots + 6 ≤ 2000) (H : Heap) (locs : List Loc) (ls : Array Slot) (hP : va_P D vwCl [(h0, .inr (0, [.ref ac, .ref ay, .ref ap, .int (nI mk)])), (ac, .inl (cyI, 365, .inl (pz_ar ch))), (ay, .inl (cyI, 60, .inl (pz_ar fy))), (ap, .inl (cyI, 60, .inl (pz_ar fp)))] H) (hD : va_D (fun q : Nat => s.heap.size ≤ q) [(h0, .inr (0, [.ref ac, .ref ay, .ref ap, .int (nI mk)])), (ac, .inl (cyI, 365, .inl (pz_ar ch))), (ay, .inl (cyI, 60, .inl (pz_ar fy))), (ap, .inl (cyI, 60, .inl (pz_ar fp)))]) (hS : va_S (fun q : Nat => s.heap.size ≤ q) s.heap H locs) {n yr fa se dd j tn : Nat} {x yy : Int32} (hn : n < 1095749) (hy1 : 1 ≤ yr) (hy2 : yr ≤ 3000) (hf1 : 1 ≤ fa) (hf2 : fa ≤ 4) (hs1 : 1 ≤ se) (hs2 : se ≤ 4) (hl : lv_has ls 16 [(12, .int (nI dd)), (11, .int (nI se)), (10, .int (nI fa)), (9, .int (nI yr)), (8, .int (nI n)), (7, .int yy), (6, .int x), (5, .int (nI j)), (4, .int (nI tn)), (3, .int (nI 1)), (2, .int (nI wr)), (1, .ref h0), (0, .ref b)]) (K : pg_K p l e s m below meth c Q D cyI b h0 ac ay ap cells slots tn j n yr) : W p l e p36_R s m #[Value.ref b] below meth c H locs cells slots Q (F0 m 270 ls []) := by
  obtain ⟨hx, hb, hml, hown, hts, hK, hth, hnc⟩ := id C0
  have hA : ∀ q : Nat, s.heap.size ≤ q → (fun q : Nat => s.heap.size ≤ q) q := fun _ h => h
  have f0 : cells + 0 ≤ p36_R.cells ∧ slots + 0 ≤ p36_R.slots := ⟨by show _ ≤ 200; omega, by show _ ≤ 2000; omega⟩
  have f1 : cells + 1 ≤ p36_R.cells ∧ slots + 6 ≤ p36_R.slots := ⟨hc, hs⟩
  have f2 : (cells + 1) + 0 ≤ p36_R.cells ∧ (slots + 6) + 0 ≤ p36_R.slots := ⟨hc, hs⟩
  obtain ⟨hmk, hch, hfy, hfp, hpz, hds, hwr⟩ := id I
  have hwb := pm_cc_b fy 60
  refine lv_aload_n hx hb dL_law_270 rfl (lv_at hl 11 rfl) ?_
  refine lv_iload hx hb dL_law_271 (lv_at hl 3 rfl) ?_
  refine pz_VR (rest := []) ⟨hx, hb, hml, hown, hts⟩ (k_X0_consulsOf l D h0 ac ay ap cyI ([]) mk ch fy fp yr (by omega) (by omega) (by exact hfy) (by exact hfp)) (cwV 1 hts gL_law_X0_consulsOf rfl rfl rfl (by decide +kernel) ⟨Nat.le_of_ble_eq_true rfl, Nat.le_of_ble_eq_true rfl⟩) hK hP (hD.weaken (fun _ _ _ _ => trivial)) hS hA [0, 1, 2, 3] rfl rfl rfl 0 0 rfl rfl rfl hl.1 rfl (lv_room (Nat.le_of_ble_eq_true rfl)) dL_law_273 f0 (fun r H locs hr hP hS => ?_)
  have hr_1 : (fun r => (r = (-1) ∧ ∀ j, j < 60 → ¬ fy j = yr) ∨ ∃ i, i < 60 ∧ r = nI (fp i) ∧ fy i = yr) r := hr
  obtain ⟨r_1, er_1⟩ : ∃ z, z = r := ⟨_, rfl⟩
  subst er_1
  clear hr
  rcases hr_1 with ⟨hz, hno⟩ | ⟨i0, hi0, hz, he0⟩
  · -- absent
    subst hz
    refine pi_if_le (tgt := 283) (a := (-1)) hx hb (by decide +kernel) dL_law_276 (by decide) (fun _ => ?_) (fun h9 => absurd h9 (by decide))
    refine lv_iconst (v := (nI 0)) hx hb dL_law_283 (by decide) ?_
    refine lv_istore (lv' := [(13, .int (nI 0)), (12, .int (nI dd)), (11, .int (nI se)), (10, .int (nI fa)), (9, .int (nI yr)), (8, .int (nI n)), (7, .int yy), (6, .int x), (5, .int (nI j)), (4, .int (nI tn)), (3, .int (nI 1)), (2, .int (nI wr)), (1, .ref h0), (0, .ref b)]) hx hb dL_law_284 hl (by decide) rfl (fun ls hl => ?_)
    refine lv_aload_n hx hb dL_law_286 rfl (lv_at hl 12 rfl) ?_
    refine lv_iload hx hb dL_law_287 (lv_at hl 4 rfl) ?_
    refine lv_iload hx hb dL_law_289 (lv_at hl 3 rfl) ?_
    refine lv_iload hx hb dL_law_291 (lv_at hl 2 rfl) ?_
    by_cases hfs : fa = se
    · -- one consul twice
      subst hfs
      refine pz_SRX (rest := []) ⟨hx, hb, hml, hown, hts⟩ (k_L_writes_x2 l hfl D h0 ac ay ap cyI [] mk ch fy fp yr (nI fa) (nI fa) (by omega) (by omega) (fun h => h.2.2.2.2 rfl)) (vx_cwSW 4 hts gL_law_L_writes rfl rfl rfl (by decide +kernel) ⟨Nat.le_of_ble_eq_true rfl, Nat.le_of_ble_eq_true rfl⟩) hK hP (hD.weaken (fun _ _ _ _ => trivial)) hS hth hnc [0, 1, 2, 3] rfl rfl rfl rfl hl.1 rfl (lv_room (Nat.le_of_ble_eq_true rfl)) dL_law_293 f1 (fun r H locs hg hr hP hS => ?_)
      obtain rfl : r = (-2 : Int32) := hr
      refine lv_istore (lv' := [(14, .int (-2 : Int32)), (13, .int (nI 0)), (12, .int (nI dd)), (11, .int (nI fa)), (10, .int (nI fa)), (9, .int (nI yr)), (8, .int (nI n)), (7, .int yy), (6, .int x), (5, .int (nI j)), (4, .int (nI tn)), (3, .int (nI 1)), (2, .int (nI wr)), (1, .ref h0), (0, .ref b)]) hx hb dL_law_296 hl (by decide) rfl (fun ls hl => ?_)
      refine lv_iload_n hx hb dL_law_298 rfl (lv_at hl 12 rfl) ?_
      refine lv_iload hx hb dL_law_299 (lv_at hl 0 rfl) ?_
      refine pi_if_le (tgt := 313) (a := (-2)) hx hb (by decide +kernel) dL_law_301 (by decide) (fun _ => ?_) (fun h9 => absurd h9 (by decide))
      refine lv_iconst (v := (nI 0)) hx hb dL_law_313 (by decide) ?_
      refine pn_iadd hx hb dL_law_314 ?_
      refine lv_istore_n (lv' := [(2, .int (nI (wr + 0))), (14, .int (-2 : Int32)), (13, .int (nI 0)), (12, .int (nI dd)), (11, .int (nI fa)), (10, .int (nI fa)), (9, .int (nI yr)), (8, .int (nI n)), (7, .int yy), (6, .int x), (5, .int (nI j)), (4, .int (nI tn)), (3, .int (nI 1)), (1, .ref h0), (0, .ref b)]) hx hb dL_law_315 rfl hl (by decide) rfl (fun ls hl => ?_)
      refine lv_iload hx hb dL_law_316 (lv_at hl 5 rfl) ?_
      refine lv_iload hx hb dL_law_318 (lv_at hl 4 rfl) ?_
      refine pn_icmp_ne (tgt := 338) hx hb (by first | omega | exact hch | exact hmk | exact hfy | exact hfp | exact hpz | exact hds) (by first | omega | exact hch | exact hmk | exact hfy | exact hfp | exact hpz | exact hds) dL_law_320 (by decide) (fun c_2 => ?_) (fun c_2 => ?_)
      · -- 320 yes
        exfalso; omega
      · -- 320 no
        refine lv_iload hx hb dL_law_323 (lv_at hl 1 rfl) ?_
        refine lv_bipush (v := (-2 : Int32)) hx hb dL_law_325 (by decide) ?_
        refine pi_icmp_ne (tgt := 334) (a := (-2)) (b := (-2)) hx hb (by decide +kernel) (by decide +kernel) dL_law_327 (by decide) (fun h9 => absurd h9 (by decide)) (fun _ => ?_)
        refine lv_iconst (v := (nI 1)) hx hb dL_law_330 (by decide) ?_
        refine lv_goto (tgt := 402) hx hb dL_law_331 (by decide) ?_
        refine lv_istore_n (lv' := [(3, .int (nI 1)), (2, .int (nI (wr + 0))), (14, .int (-2 : Int32)), (13, .int (nI 0)), (12, .int (nI dd)), (11, .int (nI fa)), (10, .int (nI fa)), (9, .int (nI yr)), (8, .int (nI n)), (7, .int yy), (6, .int x), (5, .int (nI j)), (4, .int (nI tn)), (1, .ref h0), (0, .ref b)]) hx hb dL_law_402 rfl hl (by decide) rfl (fun ls hl => ?_)
        refine lv_goto (tgt := 763) hx hb dL_law_403 (by decide) ?_
        have hw9 : wr + 0 = pm_cc fy 60 := by omega
        exact K H _ ls ⟨mk, (wr + 0), ch, fy, fp, ⟨hmk, hch, hfy, hfp, hpz, hds, hw9⟩, hP, hD, hS, lv_sub hl [7, 8, 11, 12, 0, 1, 13, 14] rfl⟩
    · -- two consuls
      by_cases hav : (∃ i, i < 60 ∧ fy i = yr) ∨ ∃ i, i < 60 ∧ fy i = 0
      · -- a slot
        refine pz_SIW (rest := []) (wr := []) ⟨hx, hb, hml, hown, hts⟩ (k_L_writes l D h0 ac ay ap cyI ([]) mk ch fy fp yr fa se (by omega) (by omega) (by omega) (by omega) (by omega) (by omega) (by exact hfs) (by exact hfy) (by exact hav)) (vx_cwSW 4 hts gL_law_L_writes rfl rfl rfl (by decide +kernel) ⟨Nat.le_of_ble_eq_true rfl, Nat.le_of_ble_eq_true rfl⟩) hK hP hD hS hA [0, 1, 2, 3] [] rfl rfl rfl rfl rfl (by decide)  rfl hl.1 rfl (lv_room (Nat.le_of_ble_eq_true rfl)) dL_law_293 f0 (fun r u H locs hr hP hD hS => ?_)
        obtain ⟨i_3, rfl⟩ : ∃ z, z = u := ⟨_, rfl⟩
        have hP : va_P D vwCl [(h0, .inr (0, [.ref ac, .ref ay, .ref ap, .int (nI mk)])), (ac, .inl (cyI, 365, .inl (pz_ar ch))), (ay, .inl (cyI, 60, .inl (pz_ar (pz_u fy i_3 yr)))), (ap, .inl (cyI, 60, .inl (pz_ar (pz_u fp i_3 (1000 * fa + se)))))] H := hP
        have hD : va_D (fun q : Nat => s.heap.size ≤ q) [(h0, .inr (0, [.ref ac, .ref ay, .ref ap, .int (nI mk)])), (ac, .inl (cyI, 365, .inl (pz_ar ch))), (ay, .inl (cyI, 60, .inl (pz_ar (pz_u fy i_3 yr)))), (ap, .inl (cyI, 60, .inl (pz_ar (pz_u fp i_3 (1000 * fa + se)))))] := hD
        have hr_3 := hr
        obtain ⟨r_3, er_3⟩ : ∃ z, z = r := ⟨_, rfl⟩
        subst er_3
        clear hr
        obtain ⟨hi, hz, hcc⟩ := hr_3
        subst hz
        obtain ⟨hI, ht1, ht2⟩ := pg_I_set (y := yr) (fa := fa) (se := se) I hi (by omega) (by omega) (by omega) (by omega) (by omega) hcc
        have hfi : fy i_3 = 0 := by rcases hcc with h | h; (exact absurd h (hno _ hi)); (exact h.2)
        have ht := ht2 hfi
        have htb := pm_cc_b (pz_u fy i_3 yr) 60
        have I := hI
        obtain ⟨hmk, hch, hfy, hfp, hpz, hds, hwr⟩ := id I
        refine lv_istore (lv' := [(14, .int (nI (pm_cc (pz_u fy i_3 yr) 60))), (13, .int (nI 0)), (12, .int (nI dd)), (11, .int (nI se)), (10, .int (nI fa)), (9, .int (nI yr)), (8, .int (nI n)), (7, .int yy), (6, .int x), (5, .int (nI j)), (4, .int (nI tn)), (3, .int (nI 1)), (2, .int (nI wr)), (1, .ref h0), (0, .ref b)]) hx hb dL_law_296 hl (by decide) rfl (fun ls hl => ?_)
        refine lv_iload_n hx hb dL_law_298 rfl (lv_at hl 12 rfl) ?_
        refine lv_iload hx hb dL_law_299 (lv_at hl 0 rfl) ?_
        refine pn_if_le (tgt := 313) hx hb (by first | omega | exact hch | exact hmk | exact hfy | exact hfp | exact hpz | exact hds) dL_law_301 (by decide) (fun c_4 => ?_) (fun c_4 => ?_)
        · -- 301 yes
          refine lv_iconst (v := (nI 0)) hx hb dL_law_313 (by decide) ?_
          refine pn_iadd hx hb dL_law_314 ?_
          refine lv_istore_n (lv' := [(2, .int (nI (wr + 0))), (14, .int (nI (pm_cc (pz_u fy i_3 yr) 60))), (13, .int (nI 0)), (12, .int (nI dd)), (11, .int (nI se)), (10, .int (nI fa)), (9, .int (nI yr)), (8, .int (nI n)), (7, .int yy), (6, .int x), (5, .int (nI j)), (4, .int (nI tn)), (3, .int (nI 1)), (1, .ref h0), (0, .ref b)]) hx hb dL_law_315 rfl hl (by decide) rfl (fun ls hl => ?_)
          refine lv_iload hx hb dL_law_316 (lv_at hl 5 rfl) ?_
          refine lv_iload hx hb dL_law_318 (lv_at hl 4 rfl) ?_
          refine pn_icmp_ne (tgt := 338) hx hb (by first | omega | exact hch | exact hmk | exact hfy | exact hfp | exact hpz | exact hds) (by first | omega | exact hch | exact hmk | exact hfy | exact hfp | exact hpz | exact hds) dL_law_320 (by decide) (fun c_5 => ?_) (fun c_5 => ?_)
          · -- 320 yes
            refine lv_iload hx hb dL_law_338 (lv_at hl 1 rfl) ?_
            refine lv_bipush (v := (-3 : Int32)) hx hb dL_law_340 (by decide) ?_
            refine pi_icmp_ne (tgt := 364) (a := ((pm_cc (pz_u fy i_3 yr) 60 : Nat) : Int)) (b := (-3)) hx hb (nI_toInt (by first | omega | exact hch | exact hmk | exact hfy | exact hfp | exact hpz | exact hds)) (by decide) dL_law_342 (by decide) (fun c_6 => ?_) (fun c_6 => ?_)
            · -- 342 yes
              refine lv_iload hx hb dL_law_364 (lv_at hl 1 rfl) ?_
              refine lv_iload_n hx hb dL_law_366 rfl (lv_at hl 0 rfl) ?_
              refine pn_icmp_ne (tgt := 401) hx hb (by first | omega | exact hch | exact hmk | exact hfy | exact hfp | exact hpz | exact hds) (by first | omega | exact hch | exact hmk | exact hfy | exact hfp | exact hpz | exact hds) dL_law_367 (by decide) (fun c_7 => ?_) (fun c_7 => ?_)
              · -- 367 yes
                exfalso; omega
              · -- 367 no
                refine lv_aload_n hx hb dL_law_370 rfl (lv_at hl 13 rfl) ?_
                refine lv_iload hx hb dL_law_371 (lv_at hl 6 rfl) ?_
                refine pz_VR (rest := []) ⟨hx, hb, hml, hown, hts⟩ (k_X0_consulsOf l D h0 ac ay ap cyI ([]) mk ch (pz_u fy i_3 yr) (pz_u fp i_3 (1000 * fa + se)) yr (by omega) (by omega) (by exact hfy) (by exact hfp)) (cwV 1 hts gL_law_X0_consulsOf rfl rfl rfl (by decide +kernel) ⟨Nat.le_of_ble_eq_true rfl, Nat.le_of_ble_eq_true rfl⟩) hK hP (hD.weaken (fun _ _ _ _ => trivial)) hS hA [0, 1, 2, 3] rfl rfl rfl 0 0 rfl rfl rfl hl.1 rfl (lv_room (Nat.le_of_ble_eq_true rfl)) dL_law_373 f0 (fun r H locs hr hP hS => ?_)
                have hr_8 : (fun r => (r = (-1) ∧ ∀ j, j < 60 → ¬ (pz_u fy i_3 yr) j = yr) ∨ ∃ i, i < 60 ∧ r = nI ((pz_u fp i_3 (1000 * fa + se)) i) ∧ (pz_u fy i_3 yr) i = yr) r := hr
                obtain ⟨r_8, er_8⟩ : ∃ z, z = r := ⟨_, rfl⟩
                subst er_8
                clear hr
                rcases hr_8 with ⟨hz, hno7⟩ | ⟨i7, hi7, hz, he7⟩
                · exact absurd pz_u_same (hno7 i_3 hi)
                · -- present
                  subst hz
                  have e7 : i7 = i_3 := hds i7 i_3 hi7 hi (by omega) (by rw [he7, pz_u_same])
                  have hv7 : pz_u fp i_3 (1000 * fa + se) i7 = 1000 * fa + se := pg_u_at e7
                  refine lv_sipush (v := (nI 1000)) hx hb dL_law_376 (by decide) ?_
                  refine lv_iload hx hb dL_law_379 (lv_at hl 5 rfl) ?_
                  refine pn_imul hx hb dL_law_381 ?_
                  refine lv_iload hx hb dL_law_382 (lv_at hl 4 rfl) ?_
                  refine pn_iadd hx hb dL_law_384 ?_
                  refine pn_icmp_ne (tgt := 401) hx hb (by first | omega | exact hch | exact hmk | exact hfy | exact hfp | exact hpz | exact hds) (by first | omega | exact hch | exact hmk | exact hfy | exact hfp | exact hpz | exact hds) dL_law_385 (by decide) (fun c_9 => ?_) (fun c_9 => ?_)
                  · -- 385 yes
                    exfalso; omega
                  · -- 385 no
                    refine lv_aload_n hx hb dL_law_388 rfl (lv_at hl 13 rfl) ?_
                    refine lv_iload hx hb dL_law_389 (lv_at hl 6 rfl) ?_
                    refine pz_VR (rest := []) ⟨hx, hb, hml, hown, hts⟩ (k_X0_afterConsuls l D h0 ac ay ap cyI ([]) mk ch (pz_u fy i_3 yr) (pz_u fp i_3 (1000 * fa + se)) yr (by omega) (by omega) (by exact hfy)) (cwV 1 hts gL_law_X0_afterConsuls rfl rfl rfl (by decide +kernel) ⟨Nat.le_of_ble_eq_true rfl, Nat.le_of_ble_eq_true rfl⟩) hK hP (hD.weaken (fun _ _ _ _ => trivial)) hS hA [0, 1, 2, 3] rfl rfl rfl 0 0 rfl rfl rfl hl.1 rfl (lv_room (Nat.le_of_ble_eq_true rfl)) dL_law_391 f0 (fun r H locs hr hP hS => ?_)
                    have hr_10 : (fun r => (r = (-1) ∧ ∀ j, j < 60 → (pz_u fy i_3 yr) j ≤ yr → (pz_u fy i_3 yr) j = 0) ∨ ∃ i, i < 60 ∧ ¬ (pz_u fy i_3 yr) i = 0 ∧ (pz_u fy i_3 yr) i ≤ yr ∧ r = nI (yr - (pz_u fy i_3 yr) i) ∧ ∀ j, j < 60 → (pz_u fy i_3 yr) j ≤ yr → (pz_u fy i_3 yr) j ≤ (pz_u fy i_3 yr) i) r := hr
                    obtain ⟨r_10, er_10⟩ : ∃ z, z = r := ⟨_, rfl⟩
                    subst er_10
                    clear hr
                    rcases hr_10 with ⟨hz, hn8⟩ | ⟨i8, hi8, hnz, hle8, hz, hmax8⟩
                    · -- none
                      exfalso
                      have h98 := hn8 i_3 hi (by rw [pz_u_same]; exact Nat.le_refl _)
                      rw [pz_u_same] at h98
                      omega
                    · -- some
                      subst hz
                      have h98 := hmax8 i_3 hi (by rw [pz_u_same]; exact Nat.le_refl _)
                      rw [pz_u_same] at h98
                      refine pn_if_ne (tgt := 401) hx hb (by first | omega | exact hch | exact hmk | exact hfy | exact hfp | exact hpz | exact hds) dL_law_394 (by decide) (fun c_11 => ?_) (fun c_11 => ?_)
                      · -- 394 yes
                        exfalso; omega
                      · -- 394 no
                        refine lv_iconst (v := (nI 1)) hx hb dL_law_397 (by decide) ?_
                        refine lv_goto (tgt := 402) hx hb dL_law_398 (by decide) ?_
                        refine lv_istore_n (lv' := [(3, .int (nI 1)), (2, .int (nI (wr + 0))), (14, .int (nI (pm_cc (pz_u fy i_3 yr) 60))), (13, .int (nI 0)), (12, .int (nI dd)), (11, .int (nI se)), (10, .int (nI fa)), (9, .int (nI yr)), (8, .int (nI n)), (7, .int yy), (6, .int x), (5, .int (nI j)), (4, .int (nI tn)), (1, .ref h0), (0, .ref b)]) hx hb dL_law_402 rfl hl (by decide) rfl (fun ls hl => ?_)
                        refine lv_goto (tgt := 763) hx hb dL_law_403 (by decide) ?_
                        refine W.widen (k := cells + 1) (n := slots + 6) (by omega) (by omega) ?_
                        have hw9 : wr + 0 = pm_cc (pz_u fy i_3 yr) 60 := by omega
                        exact K H _ ls ⟨mk, (wr + 0), ch, (pz_u fy i_3 yr), (pz_u fp i_3 (1000 * fa + se)), ⟨hmk, hch, hfy, hfp, hpz, hds, hw9⟩, hP, hD, hS, lv_sub hl [7, 8, 11, 12, 0, 1, 13, 14] rfl⟩
            · -- 342 no
              exfalso; omega
          · -- 320 no
            exfalso; omega
        · -- 301 no
          refine lv_iload hx hb dL_law_304 (lv_at hl 1 rfl) ?_
          refine pi_if_ne (tgt := 313) (a := (0)) hx hb (by decide +kernel) dL_law_306 (by decide) (fun h9 => absurd h9 (by decide)) (fun _ => ?_)
          refine lv_iconst (v := (nI 1)) hx hb dL_law_309 (by decide) ?_
          refine lv_goto (tgt := 314) hx hb dL_law_310 (by decide) ?_
          refine pn_iadd hx hb dL_law_314 ?_
          refine lv_istore_n (lv' := [(2, .int (nI (wr + 1))), (14, .int (nI (pm_cc (pz_u fy i_3 yr) 60))), (13, .int (nI 0)), (12, .int (nI dd)), (11, .int (nI se)), (10, .int (nI fa)), (9, .int (nI yr)), (8, .int (nI n)), (7, .int yy), (6, .int x), (5, .int (nI j)), (4, .int (nI tn)), (3, .int (nI 1)), (1, .ref h0), (0, .ref b)]) hx hb dL_law_315 rfl hl (by decide) rfl (fun ls hl => ?_)
          refine lv_iload hx hb dL_law_316 (lv_at hl 5 rfl) ?_
          refine lv_iload hx hb dL_law_318 (lv_at hl 4 rfl) ?_
          refine pn_icmp_ne (tgt := 338) hx hb (by first | omega | exact hch | exact hmk | exact hfy | exact hfp | exact hpz | exact hds) (by first | omega | exact hch | exact hmk | exact hfy | exact hfp | exact hpz | exact hds) dL_law_320 (by decide) (fun c_12 => ?_) (fun c_12 => ?_)
          · -- 320 yes
            refine lv_iload hx hb dL_law_338 (lv_at hl 1 rfl) ?_
            refine lv_bipush (v := (-3 : Int32)) hx hb dL_law_340 (by decide) ?_
            refine pi_icmp_ne (tgt := 364) (a := ((pm_cc (pz_u fy i_3 yr) 60 : Nat) : Int)) (b := (-3)) hx hb (nI_toInt (by first | omega | exact hch | exact hmk | exact hfy | exact hfp | exact hpz | exact hds)) (by decide) dL_law_342 (by decide) (fun c_13 => ?_) (fun c_13 => ?_)
            · -- 342 yes
              refine lv_iload hx hb dL_law_364 (lv_at hl 1 rfl) ?_
              refine lv_iload_n hx hb dL_law_366 rfl (lv_at hl 0 rfl) ?_
              refine pn_icmp_ne (tgt := 401) hx hb (by first | omega | exact hch | exact hmk | exact hfy | exact hfp | exact hpz | exact hds) (by first | omega | exact hch | exact hmk | exact hfy | exact hfp | exact hpz | exact hds) dL_law_367 (by decide) (fun c_14 => ?_) (fun c_14 => ?_)
              · -- 367 yes
                exfalso; omega
              · -- 367 no
                refine lv_aload_n hx hb dL_law_370 rfl (lv_at hl 13 rfl) ?_
                refine lv_iload hx hb dL_law_371 (lv_at hl 6 rfl) ?_
                refine pz_VR (rest := []) ⟨hx, hb, hml, hown, hts⟩ (k_X0_consulsOf l D h0 ac ay ap cyI ([]) mk ch (pz_u fy i_3 yr) (pz_u fp i_3 (1000 * fa + se)) yr (by omega) (by omega) (by exact hfy) (by exact hfp)) (cwV 1 hts gL_law_X0_consulsOf rfl rfl rfl (by decide +kernel) ⟨Nat.le_of_ble_eq_true rfl, Nat.le_of_ble_eq_true rfl⟩) hK hP (hD.weaken (fun _ _ _ _ => trivial)) hS hA [0, 1, 2, 3] rfl rfl rfl 0 0 rfl rfl rfl hl.1 rfl (lv_room (Nat.le_of_ble_eq_true rfl)) dL_law_373 f0 (fun r H locs hr hP hS => ?_)
                have hr_15 : (fun r => (r = (-1) ∧ ∀ j, j < 60 → ¬ (pz_u fy i_3 yr) j = yr) ∨ ∃ i, i < 60 ∧ r = nI ((pz_u fp i_3 (1000 * fa + se)) i) ∧ (pz_u fy i_3 yr) i = yr) r := hr
                obtain ⟨r_15, er_15⟩ : ∃ z, z = r := ⟨_, rfl⟩
                subst er_15
                clear hr
                rcases hr_15 with ⟨hz, hno7⟩ | ⟨i7, hi7, hz, he7⟩
                · exact absurd pz_u_same (hno7 i_3 hi)
                · -- present
                  subst hz
                  have e7 : i7 = i_3 := hds i7 i_3 hi7 hi (by omega) (by rw [he7, pz_u_same])
                  have hv7 : pz_u fp i_3 (1000 * fa + se) i7 = 1000 * fa + se := pg_u_at e7
                  refine lv_sipush (v := (nI 1000)) hx hb dL_law_376 (by decide) ?_
                  refine lv_iload hx hb dL_law_379 (lv_at hl 5 rfl) ?_
                  refine pn_imul hx hb dL_law_381 ?_
                  refine lv_iload hx hb dL_law_382 (lv_at hl 4 rfl) ?_
                  refine pn_iadd hx hb dL_law_384 ?_
                  refine pn_icmp_ne (tgt := 401) hx hb (by first | omega | exact hch | exact hmk | exact hfy | exact hfp | exact hpz | exact hds) (by first | omega | exact hch | exact hmk | exact hfy | exact hfp | exact hpz | exact hds) dL_law_385 (by decide) (fun c_16 => ?_) (fun c_16 => ?_)
                  · -- 385 yes
                    exfalso; omega
                  · -- 385 no
                    refine lv_aload_n hx hb dL_law_388 rfl (lv_at hl 13 rfl) ?_
                    refine lv_iload hx hb dL_law_389 (lv_at hl 6 rfl) ?_
                    refine pz_VR (rest := []) ⟨hx, hb, hml, hown, hts⟩ (k_X0_afterConsuls l D h0 ac ay ap cyI ([]) mk ch (pz_u fy i_3 yr) (pz_u fp i_3 (1000 * fa + se)) yr (by omega) (by omega) (by exact hfy)) (cwV 1 hts gL_law_X0_afterConsuls rfl rfl rfl (by decide +kernel) ⟨Nat.le_of_ble_eq_true rfl, Nat.le_of_ble_eq_true rfl⟩) hK hP (hD.weaken (fun _ _ _ _ => trivial)) hS hA [0, 1, 2, 3] rfl rfl rfl 0 0 rfl rfl rfl hl.1 rfl (lv_room (Nat.le_of_ble_eq_true rfl)) dL_law_391 f0 (fun r H locs hr hP hS => ?_)
                    have hr_17 : (fun r => (r = (-1) ∧ ∀ j, j < 60 → (pz_u fy i_3 yr) j ≤ yr → (pz_u fy i_3 yr) j = 0) ∨ ∃ i, i < 60 ∧ ¬ (pz_u fy i_3 yr) i = 0 ∧ (pz_u fy i_3 yr) i ≤ yr ∧ r = nI (yr - (pz_u fy i_3 yr) i) ∧ ∀ j, j < 60 → (pz_u fy i_3 yr) j ≤ yr → (pz_u fy i_3 yr) j ≤ (pz_u fy i_3 yr) i) r := hr
                    obtain ⟨r_17, er_17⟩ : ∃ z, z = r := ⟨_, rfl⟩
                    subst er_17
                    clear hr
                    rcases hr_17 with ⟨hz, hn8⟩ | ⟨i8, hi8, hnz, hle8, hz, hmax8⟩
                    · -- none
                      exfalso
                      have h98 := hn8 i_3 hi (by rw [pz_u_same]; exact Nat.le_refl _)
                      rw [pz_u_same] at h98
                      omega
                    · -- some
                      subst hz
                      have h98 := hmax8 i_3 hi (by rw [pz_u_same]; exact Nat.le_refl _)
                      rw [pz_u_same] at h98
                      refine pn_if_ne (tgt := 401) hx hb (by first | omega | exact hch | exact hmk | exact hfy | exact hfp | exact hpz | exact hds) dL_law_394 (by decide) (fun c_18 => ?_) (fun c_18 => ?_)
                      · -- 394 yes
                        exfalso; omega
                      · -- 394 no
                        refine lv_iconst (v := (nI 1)) hx hb dL_law_397 (by decide) ?_
                        refine lv_goto (tgt := 402) hx hb dL_law_398 (by decide) ?_
                        refine lv_istore_n (lv' := [(3, .int (nI 1)), (2, .int (nI (wr + 1))), (14, .int (nI (pm_cc (pz_u fy i_3 yr) 60))), (13, .int (nI 0)), (12, .int (nI dd)), (11, .int (nI se)), (10, .int (nI fa)), (9, .int (nI yr)), (8, .int (nI n)), (7, .int yy), (6, .int x), (5, .int (nI j)), (4, .int (nI tn)), (1, .ref h0), (0, .ref b)]) hx hb dL_law_402 rfl hl (by decide) rfl (fun ls hl => ?_)
                        refine lv_goto (tgt := 763) hx hb dL_law_403 (by decide) ?_
                        refine W.widen (k := cells + 1) (n := slots + 6) (by omega) (by omega) ?_
                        have hw9 : wr + 1 = pm_cc (pz_u fy i_3 yr) 60 := by omega
                        exact K H _ ls ⟨mk, (wr + 1), ch, (pz_u fy i_3 yr), (pz_u fp i_3 (1000 * fa + se)), ⟨hmk, hch, hfy, hfp, hpz, hds, hw9⟩, hP, hD, hS, lv_sub hl [7, 8, 11, 12, 0, 1, 13, 14] rfl⟩
            · -- 342 no
              exfalso; omega
          · -- 320 no
            exfalso; omega
      · -- none
        have hw60 : wr = 60 := by rw [hwr]; exact pm_cc_full (fun j hj e => hav (Or.inr ⟨j, hj, e⟩))
        refine pz_SRX (rest := []) ⟨hx, hb, hml, hown, hts⟩ (k_L_writes_x3 l hfl D h0 ac ay ap cyI [] mk ch fy fp yr fa se (by omega) (by omega) (by omega) (by omega) (by omega) (by omega) hfs hfy (fun j hj e => hav (Or.inl ⟨j, hj, e⟩)) (fun j hj e => hav (Or.inr ⟨j, hj, e⟩))) (vx_cwSW 4 hts gL_law_L_writes rfl rfl rfl (by decide +kernel) ⟨Nat.le_of_ble_eq_true rfl, Nat.le_of_ble_eq_true rfl⟩) hK hP (hD.weaken (fun _ _ _ _ => trivial)) hS hth hnc [0, 1, 2, 3] rfl rfl rfl rfl hl.1 rfl (lv_room (Nat.le_of_ble_eq_true rfl)) dL_law_293 f1 (fun r H locs hg hr hP hS => ?_)
        obtain rfl : r = (-3 : Int32) := hr
        refine lv_istore (lv' := [(14, .int (-3 : Int32)), (13, .int (nI 0)), (12, .int (nI dd)), (11, .int (nI se)), (10, .int (nI fa)), (9, .int (nI yr)), (8, .int (nI n)), (7, .int yy), (6, .int x), (5, .int (nI j)), (4, .int (nI tn)), (3, .int (nI 1)), (2, .int (nI wr)), (1, .ref h0), (0, .ref b)]) hx hb dL_law_296 hl (by decide) rfl (fun ls hl => ?_)
        refine lv_iload_n hx hb dL_law_298 rfl (lv_at hl 12 rfl) ?_
        refine lv_iload hx hb dL_law_299 (lv_at hl 0 rfl) ?_
        refine pi_if_le (tgt := 313) (a := (-3)) hx hb (by decide +kernel) dL_law_301 (by decide) (fun _ => ?_) (fun h9 => absurd h9 (by decide))
        refine lv_iconst (v := (nI 0)) hx hb dL_law_313 (by decide) ?_
        refine pn_iadd hx hb dL_law_314 ?_
        refine lv_istore_n (lv' := [(2, .int (nI (wr + 0))), (14, .int (-3 : Int32)), (13, .int (nI 0)), (12, .int (nI dd)), (11, .int (nI se)), (10, .int (nI fa)), (9, .int (nI yr)), (8, .int (nI n)), (7, .int yy), (6, .int x), (5, .int (nI j)), (4, .int (nI tn)), (3, .int (nI 1)), (1, .ref h0), (0, .ref b)]) hx hb dL_law_315 rfl hl (by decide) rfl (fun ls hl => ?_)
        refine lv_iload hx hb dL_law_316 (lv_at hl 5 rfl) ?_
        refine lv_iload hx hb dL_law_318 (lv_at hl 4 rfl) ?_
        refine pn_icmp_ne (tgt := 338) hx hb (by first | omega | exact hch | exact hmk | exact hfy | exact hfp | exact hpz | exact hds) (by first | omega | exact hch | exact hmk | exact hfy | exact hfp | exact hpz | exact hds) dL_law_320 (by decide) (fun c_19 => ?_) (fun c_19 => ?_)
        · -- 320 yes
          refine lv_iload hx hb dL_law_338 (lv_at hl 1 rfl) ?_
          refine lv_bipush (v := (-3 : Int32)) hx hb dL_law_340 (by decide) ?_
          refine pi_icmp_ne (tgt := 364) (a := (-3)) (b := (-3)) hx hb (by decide +kernel) (by decide +kernel) dL_law_342 (by decide) (fun h9 => absurd h9 (by decide)) (fun _ => ?_)
          refine lv_iload_n hx hb dL_law_345 rfl (lv_at hl 0 rfl) ?_
          refine lv_bipush (v := (nI 60)) hx hb dL_law_346 (by decide) ?_
          refine pn_icmp_ne (tgt := 360) hx hb (by first | omega | exact hch | exact hmk | exact hfy | exact hfp | exact hpz | exact hds) (by first | omega | exact hch | exact hmk | exact hfy | exact hfp | exact hpz | exact hds) dL_law_348 (by decide) (fun c_20 => ?_) (fun c_20 => ?_)
          · -- 348 yes
            exfalso; omega
          · -- 348 no
            refine lv_iload hx hb dL_law_351 (lv_at hl 2 rfl) ?_
            refine pi_if_ne (tgt := 360) (a := (0)) hx hb (by decide +kernel) dL_law_353 (by decide) (fun h9 => absurd h9 (by decide)) (fun _ => ?_)
            refine lv_iconst (v := (nI 1)) hx hb dL_law_356 (by decide) ?_
            refine lv_goto (tgt := 402) hx hb dL_law_357 (by decide) ?_
            refine lv_istore_n (lv' := [(3, .int (nI 1)), (2, .int (nI (wr + 0))), (14, .int (-3 : Int32)), (13, .int (nI 0)), (12, .int (nI dd)), (11, .int (nI se)), (10, .int (nI fa)), (9, .int (nI yr)), (8, .int (nI n)), (7, .int yy), (6, .int x), (5, .int (nI j)), (4, .int (nI tn)), (1, .ref h0), (0, .ref b)]) hx hb dL_law_402 rfl hl (by decide) rfl (fun ls hl => ?_)
            refine lv_goto (tgt := 763) hx hb dL_law_403 (by decide) ?_
            have hw9 : wr + 0 = pm_cc fy 60 := by omega
            exact K H _ ls ⟨mk, (wr + 0), ch, fy, fp, ⟨hmk, hch, hfy, hfp, hpz, hds, hw9⟩, hP, hD, hS, lv_sub hl [7, 8, 11, 12, 0, 1, 13, 14] rfl⟩
        · -- 320 no
          exfalso; omega
  · -- present
    subst hz
    have hp0_ := hpz i0 hi0 (by omega)
    have hq0_ := hfp i0 hi0
    have hw1_ : 1 ≤ wr := by rw [hwr]; exact pm_cc_pos ⟨i0, hi0, by omega⟩
    refine pn_if_le (tgt := 283) hx hb (by first | omega | exact hch | exact hmk | exact hfy | exact hfp | exact hpz | exact hds) dL_law_276 (by decide) (fun c_21 => ?_) (fun c_21 => ?_)
    · -- 276 yes
      exfalso; omega
    · -- 276 no
      refine lv_iconst (v := (nI 1)) hx hb dL_law_279 (by decide) ?_
      refine lv_goto (tgt := 284) hx hb dL_law_280 (by decide) ?_
      refine lv_istore (lv' := [(13, .int (nI 1)), (12, .int (nI dd)), (11, .int (nI se)), (10, .int (nI fa)), (9, .int (nI yr)), (8, .int (nI n)), (7, .int yy), (6, .int x), (5, .int (nI j)), (4, .int (nI tn)), (3, .int (nI 1)), (2, .int (nI wr)), (1, .ref h0), (0, .ref b)]) hx hb dL_law_284 hl (by decide) rfl (fun ls hl => ?_)
      refine lv_aload_n hx hb dL_law_286 rfl (lv_at hl 12 rfl) ?_
      refine lv_iload hx hb dL_law_287 (lv_at hl 4 rfl) ?_
      refine lv_iload hx hb dL_law_289 (lv_at hl 3 rfl) ?_
      refine lv_iload hx hb dL_law_291 (lv_at hl 2 rfl) ?_
      by_cases hfs : fa = se
      · -- one consul twice
        subst hfs
        refine pz_SRX (rest := []) ⟨hx, hb, hml, hown, hts⟩ (k_L_writes_x2 l hfl D h0 ac ay ap cyI [] mk ch fy fp yr (nI fa) (nI fa) (by omega) (by omega) (fun h => h.2.2.2.2 rfl)) (vx_cwSW 4 hts gL_law_L_writes rfl rfl rfl (by decide +kernel) ⟨Nat.le_of_ble_eq_true rfl, Nat.le_of_ble_eq_true rfl⟩) hK hP (hD.weaken (fun _ _ _ _ => trivial)) hS hth hnc [0, 1, 2, 3] rfl rfl rfl rfl hl.1 rfl (lv_room (Nat.le_of_ble_eq_true rfl)) dL_law_293 f1 (fun r H locs hg hr hP hS => ?_)
        obtain rfl : r = (-2 : Int32) := hr
        refine lv_istore (lv' := [(14, .int (-2 : Int32)), (13, .int (nI 1)), (12, .int (nI dd)), (11, .int (nI fa)), (10, .int (nI fa)), (9, .int (nI yr)), (8, .int (nI n)), (7, .int yy), (6, .int x), (5, .int (nI j)), (4, .int (nI tn)), (3, .int (nI 1)), (2, .int (nI wr)), (1, .ref h0), (0, .ref b)]) hx hb dL_law_296 hl (by decide) rfl (fun ls hl => ?_)
        refine lv_iload_n hx hb dL_law_298 rfl (lv_at hl 12 rfl) ?_
        refine lv_iload hx hb dL_law_299 (lv_at hl 0 rfl) ?_
        refine pi_if_le (tgt := 313) (a := (-2)) hx hb (by decide +kernel) dL_law_301 (by decide) (fun _ => ?_) (fun h9 => absurd h9 (by decide))
        refine lv_iconst (v := (nI 0)) hx hb dL_law_313 (by decide) ?_
        refine pn_iadd hx hb dL_law_314 ?_
        refine lv_istore_n (lv' := [(2, .int (nI (wr + 0))), (14, .int (-2 : Int32)), (13, .int (nI 1)), (12, .int (nI dd)), (11, .int (nI fa)), (10, .int (nI fa)), (9, .int (nI yr)), (8, .int (nI n)), (7, .int yy), (6, .int x), (5, .int (nI j)), (4, .int (nI tn)), (3, .int (nI 1)), (1, .ref h0), (0, .ref b)]) hx hb dL_law_315 rfl hl (by decide) rfl (fun ls hl => ?_)
        refine lv_iload hx hb dL_law_316 (lv_at hl 5 rfl) ?_
        refine lv_iload hx hb dL_law_318 (lv_at hl 4 rfl) ?_
        refine pn_icmp_ne (tgt := 338) hx hb (by first | omega | exact hch | exact hmk | exact hfy | exact hfp | exact hpz | exact hds) (by first | omega | exact hch | exact hmk | exact hfy | exact hfp | exact hpz | exact hds) dL_law_320 (by decide) (fun c_22 => ?_) (fun c_22 => ?_)
        · -- 320 yes
          exfalso; omega
        · -- 320 no
          refine lv_iload hx hb dL_law_323 (lv_at hl 1 rfl) ?_
          refine lv_bipush (v := (-2 : Int32)) hx hb dL_law_325 (by decide) ?_
          refine pi_icmp_ne (tgt := 334) (a := (-2)) (b := (-2)) hx hb (by decide +kernel) (by decide +kernel) dL_law_327 (by decide) (fun h9 => absurd h9 (by decide)) (fun _ => ?_)
          refine lv_iconst (v := (nI 1)) hx hb dL_law_330 (by decide) ?_
          refine lv_goto (tgt := 402) hx hb dL_law_331 (by decide) ?_
          refine lv_istore_n (lv' := [(3, .int (nI 1)), (2, .int (nI (wr + 0))), (14, .int (-2 : Int32)), (13, .int (nI 1)), (12, .int (nI dd)), (11, .int (nI fa)), (10, .int (nI fa)), (9, .int (nI yr)), (8, .int (nI n)), (7, .int yy), (6, .int x), (5, .int (nI j)), (4, .int (nI tn)), (1, .ref h0), (0, .ref b)]) hx hb dL_law_402 rfl hl (by decide) rfl (fun ls hl => ?_)
          refine lv_goto (tgt := 763) hx hb dL_law_403 (by decide) ?_
          have hw9 : wr + 0 = pm_cc fy 60 := by omega
          exact K H _ ls ⟨mk, (wr + 0), ch, fy, fp, ⟨hmk, hch, hfy, hfp, hpz, hds, hw9⟩, hP, hD, hS, lv_sub hl [7, 8, 11, 12, 0, 1, 13, 14] rfl⟩
      · -- two consuls
        by_cases hav : (∃ i, i < 60 ∧ fy i = yr) ∨ ∃ i, i < 60 ∧ fy i = 0
        · -- a slot
          refine pz_SIW (rest := []) (wr := []) ⟨hx, hb, hml, hown, hts⟩ (k_L_writes l D h0 ac ay ap cyI ([]) mk ch fy fp yr fa se (by omega) (by omega) (by omega) (by omega) (by omega) (by omega) (by exact hfs) (by exact hfy) (by exact hav)) (vx_cwSW 4 hts gL_law_L_writes rfl rfl rfl (by decide +kernel) ⟨Nat.le_of_ble_eq_true rfl, Nat.le_of_ble_eq_true rfl⟩) hK hP hD hS hA [0, 1, 2, 3] [] rfl rfl rfl rfl rfl (by decide)  rfl hl.1 rfl (lv_room (Nat.le_of_ble_eq_true rfl)) dL_law_293 f0 (fun r u H locs hr hP hD hS => ?_)
          obtain ⟨i_23, rfl⟩ : ∃ z, z = u := ⟨_, rfl⟩
          have hP : va_P D vwCl [(h0, .inr (0, [.ref ac, .ref ay, .ref ap, .int (nI mk)])), (ac, .inl (cyI, 365, .inl (pz_ar ch))), (ay, .inl (cyI, 60, .inl (pz_ar (pz_u fy i_23 yr)))), (ap, .inl (cyI, 60, .inl (pz_ar (pz_u fp i_23 (1000 * fa + se)))))] H := hP
          have hD : va_D (fun q : Nat => s.heap.size ≤ q) [(h0, .inr (0, [.ref ac, .ref ay, .ref ap, .int (nI mk)])), (ac, .inl (cyI, 365, .inl (pz_ar ch))), (ay, .inl (cyI, 60, .inl (pz_ar (pz_u fy i_23 yr)))), (ap, .inl (cyI, 60, .inl (pz_ar (pz_u fp i_23 (1000 * fa + se)))))] := hD
          have hr_23 := hr
          obtain ⟨r_23, er_23⟩ : ∃ z, z = r := ⟨_, rfl⟩
          subst er_23
          clear hr
          obtain ⟨hi, hz, hcc⟩ := hr_23
          subst hz
          obtain ⟨hI, ht1, ht2⟩ := pg_I_set (y := yr) (fa := fa) (se := se) I hi (by omega) (by omega) (by omega) (by omega) (by omega) hcc
          have hfi : fy i_23 = yr := by rcases hcc with h | h; (exact h); (exact absurd he0 (h.1 i0 hi0))
          have ht := ht1 hfi
          have htb := pm_cc_b (pz_u fy i_23 yr) 60
          have I := hI
          obtain ⟨hmk, hch, hfy, hfp, hpz, hds, hwr⟩ := id I
          refine lv_istore (lv' := [(14, .int (nI (pm_cc (pz_u fy i_23 yr) 60))), (13, .int (nI 1)), (12, .int (nI dd)), (11, .int (nI se)), (10, .int (nI fa)), (9, .int (nI yr)), (8, .int (nI n)), (7, .int yy), (6, .int x), (5, .int (nI j)), (4, .int (nI tn)), (3, .int (nI 1)), (2, .int (nI wr)), (1, .ref h0), (0, .ref b)]) hx hb dL_law_296 hl (by decide) rfl (fun ls hl => ?_)
          refine lv_iload_n hx hb dL_law_298 rfl (lv_at hl 12 rfl) ?_
          refine lv_iload hx hb dL_law_299 (lv_at hl 0 rfl) ?_
          refine pn_if_le (tgt := 313) hx hb (by first | omega | exact hch | exact hmk | exact hfy | exact hfp | exact hpz | exact hds) dL_law_301 (by decide) (fun c_24 => ?_) (fun c_24 => ?_)
          · -- 301 yes
            refine lv_iconst (v := (nI 0)) hx hb dL_law_313 (by decide) ?_
            refine pn_iadd hx hb dL_law_314 ?_
            refine lv_istore_n (lv' := [(2, .int (nI (wr + 0))), (14, .int (nI (pm_cc (pz_u fy i_23 yr) 60))), (13, .int (nI 1)), (12, .int (nI dd)), (11, .int (nI se)), (10, .int (nI fa)), (9, .int (nI yr)), (8, .int (nI n)), (7, .int yy), (6, .int x), (5, .int (nI j)), (4, .int (nI tn)), (3, .int (nI 1)), (1, .ref h0), (0, .ref b)]) hx hb dL_law_315 rfl hl (by decide) rfl (fun ls hl => ?_)
            refine lv_iload hx hb dL_law_316 (lv_at hl 5 rfl) ?_
            refine lv_iload hx hb dL_law_318 (lv_at hl 4 rfl) ?_
            refine pn_icmp_ne (tgt := 338) hx hb (by first | omega | exact hch | exact hmk | exact hfy | exact hfp | exact hpz | exact hds) (by first | omega | exact hch | exact hmk | exact hfy | exact hfp | exact hpz | exact hds) dL_law_320 (by decide) (fun c_25 => ?_) (fun c_25 => ?_)
            · -- 320 yes
              refine lv_iload hx hb dL_law_338 (lv_at hl 1 rfl) ?_
              refine lv_bipush (v := (-3 : Int32)) hx hb dL_law_340 (by decide) ?_
              refine pi_icmp_ne (tgt := 364) (a := ((pm_cc (pz_u fy i_23 yr) 60 : Nat) : Int)) (b := (-3)) hx hb (nI_toInt (by first | omega | exact hch | exact hmk | exact hfy | exact hfp | exact hpz | exact hds)) (by decide) dL_law_342 (by decide) (fun c_26 => ?_) (fun c_26 => ?_)
              · -- 342 yes
                refine lv_iload hx hb dL_law_364 (lv_at hl 1 rfl) ?_
                refine lv_iload_n hx hb dL_law_366 rfl (lv_at hl 0 rfl) ?_
                refine pn_icmp_ne (tgt := 401) hx hb (by first | omega | exact hch | exact hmk | exact hfy | exact hfp | exact hpz | exact hds) (by first | omega | exact hch | exact hmk | exact hfy | exact hfp | exact hpz | exact hds) dL_law_367 (by decide) (fun c_27 => ?_) (fun c_27 => ?_)
                · -- 367 yes
                  exfalso; omega
                · -- 367 no
                  refine lv_aload_n hx hb dL_law_370 rfl (lv_at hl 13 rfl) ?_
                  refine lv_iload hx hb dL_law_371 (lv_at hl 6 rfl) ?_
                  refine pz_VR (rest := []) ⟨hx, hb, hml, hown, hts⟩ (k_X0_consulsOf l D h0 ac ay ap cyI ([]) mk ch (pz_u fy i_23 yr) (pz_u fp i_23 (1000 * fa + se)) yr (by omega) (by omega) (by exact hfy) (by exact hfp)) (cwV 1 hts gL_law_X0_consulsOf rfl rfl rfl (by decide +kernel) ⟨Nat.le_of_ble_eq_true rfl, Nat.le_of_ble_eq_true rfl⟩) hK hP (hD.weaken (fun _ _ _ _ => trivial)) hS hA [0, 1, 2, 3] rfl rfl rfl 0 0 rfl rfl rfl hl.1 rfl (lv_room (Nat.le_of_ble_eq_true rfl)) dL_law_373 f0 (fun r H locs hr hP hS => ?_)
                  have hr_28 : (fun r => (r = (-1) ∧ ∀ j, j < 60 → ¬ (pz_u fy i_23 yr) j = yr) ∨ ∃ i, i < 60 ∧ r = nI ((pz_u fp i_23 (1000 * fa + se)) i) ∧ (pz_u fy i_23 yr) i = yr) r := hr
                  obtain ⟨r_28, er_28⟩ : ∃ z, z = r := ⟨_, rfl⟩
                  subst er_28
                  clear hr
                  rcases hr_28 with ⟨hz, hno7⟩ | ⟨i7, hi7, hz, he7⟩
                  · exact absurd pz_u_same (hno7 i_23 hi)
                  · -- present
                    subst hz
                    have e7 : i7 = i_23 := hds i7 i_23 hi7 hi (by omega) (by rw [he7, pz_u_same])
                    have hv7 : pz_u fp i_23 (1000 * fa + se) i7 = 1000 * fa + se := pg_u_at e7
                    refine lv_sipush (v := (nI 1000)) hx hb dL_law_376 (by decide) ?_
                    refine lv_iload hx hb dL_law_379 (lv_at hl 5 rfl) ?_
                    refine pn_imul hx hb dL_law_381 ?_
                    refine lv_iload hx hb dL_law_382 (lv_at hl 4 rfl) ?_
                    refine pn_iadd hx hb dL_law_384 ?_
                    refine pn_icmp_ne (tgt := 401) hx hb (by first | omega | exact hch | exact hmk | exact hfy | exact hfp | exact hpz | exact hds) (by first | omega | exact hch | exact hmk | exact hfy | exact hfp | exact hpz | exact hds) dL_law_385 (by decide) (fun c_29 => ?_) (fun c_29 => ?_)
                    · -- 385 yes
                      exfalso; omega
                    · -- 385 no
                      refine lv_aload_n hx hb dL_law_388 rfl (lv_at hl 13 rfl) ?_
                      refine lv_iload hx hb dL_law_389 (lv_at hl 6 rfl) ?_
                      refine pz_VR (rest := []) ⟨hx, hb, hml, hown, hts⟩ (k_X0_afterConsuls l D h0 ac ay ap cyI ([]) mk ch (pz_u fy i_23 yr) (pz_u fp i_23 (1000 * fa + se)) yr (by omega) (by omega) (by exact hfy)) (cwV 1 hts gL_law_X0_afterConsuls rfl rfl rfl (by decide +kernel) ⟨Nat.le_of_ble_eq_true rfl, Nat.le_of_ble_eq_true rfl⟩) hK hP (hD.weaken (fun _ _ _ _ => trivial)) hS hA [0, 1, 2, 3] rfl rfl rfl 0 0 rfl rfl rfl hl.1 rfl (lv_room (Nat.le_of_ble_eq_true rfl)) dL_law_391 f0 (fun r H locs hr hP hS => ?_)
                      have hr_30 : (fun r => (r = (-1) ∧ ∀ j, j < 60 → (pz_u fy i_23 yr) j ≤ yr → (pz_u fy i_23 yr) j = 0) ∨ ∃ i, i < 60 ∧ ¬ (pz_u fy i_23 yr) i = 0 ∧ (pz_u fy i_23 yr) i ≤ yr ∧ r = nI (yr - (pz_u fy i_23 yr) i) ∧ ∀ j, j < 60 → (pz_u fy i_23 yr) j ≤ yr → (pz_u fy i_23 yr) j ≤ (pz_u fy i_23 yr) i) r := hr
                      obtain ⟨r_30, er_30⟩ : ∃ z, z = r := ⟨_, rfl⟩
                      subst er_30
                      clear hr
                      rcases hr_30 with ⟨hz, hn8⟩ | ⟨i8, hi8, hnz, hle8, hz, hmax8⟩
                      · -- none
                        exfalso
                        have h98 := hn8 i_23 hi (by rw [pz_u_same]; exact Nat.le_refl _)
                        rw [pz_u_same] at h98
                        omega
                      · -- some
                        subst hz
                        have h98 := hmax8 i_23 hi (by rw [pz_u_same]; exact Nat.le_refl _)
                        rw [pz_u_same] at h98
                        refine pn_if_ne (tgt := 401) hx hb (by first | omega | exact hch | exact hmk | exact hfy | exact hfp | exact hpz | exact hds) dL_law_394 (by decide) (fun c_31 => ?_) (fun c_31 => ?_)
                        · -- 394 yes
                          exfalso; omega
                        · -- 394 no
                          refine lv_iconst (v := (nI 1)) hx hb dL_law_397 (by decide) ?_
                          refine lv_goto (tgt := 402) hx hb dL_law_398 (by decide) ?_
                          refine lv_istore_n (lv' := [(3, .int (nI 1)), (2, .int (nI (wr + 0))), (14, .int (nI (pm_cc (pz_u fy i_23 yr) 60))), (13, .int (nI 1)), (12, .int (nI dd)), (11, .int (nI se)), (10, .int (nI fa)), (9, .int (nI yr)), (8, .int (nI n)), (7, .int yy), (6, .int x), (5, .int (nI j)), (4, .int (nI tn)), (1, .ref h0), (0, .ref b)]) hx hb dL_law_402 rfl hl (by decide) rfl (fun ls hl => ?_)
                          refine lv_goto (tgt := 763) hx hb dL_law_403 (by decide) ?_
                          refine W.widen (k := cells + 1) (n := slots + 6) (by omega) (by omega) ?_
                          have hw9 : wr + 0 = pm_cc (pz_u fy i_23 yr) 60 := by omega
                          exact K H _ ls ⟨mk, (wr + 0), ch, (pz_u fy i_23 yr), (pz_u fp i_23 (1000 * fa + se)), ⟨hmk, hch, hfy, hfp, hpz, hds, hw9⟩, hP, hD, hS, lv_sub hl [7, 8, 11, 12, 0, 1, 13, 14] rfl⟩
              · -- 342 no
                exfalso; omega
            · -- 320 no
              exfalso; omega
          · -- 301 no
            refine lv_iload hx hb dL_law_304 (lv_at hl 1 rfl) ?_
            refine pi_if_ne (tgt := 313) (a := (1)) hx hb (by decide +kernel) dL_law_306 (by decide) (fun _ => ?_) (fun h9 => absurd h9 (by decide))
            refine lv_iconst (v := (nI 0)) hx hb dL_law_313 (by decide) ?_
            refine pn_iadd hx hb dL_law_314 ?_
            refine lv_istore_n (lv' := [(2, .int (nI (wr + 0))), (14, .int (nI (pm_cc (pz_u fy i_23 yr) 60))), (13, .int (nI 1)), (12, .int (nI dd)), (11, .int (nI se)), (10, .int (nI fa)), (9, .int (nI yr)), (8, .int (nI n)), (7, .int yy), (6, .int x), (5, .int (nI j)), (4, .int (nI tn)), (3, .int (nI 1)), (1, .ref h0), (0, .ref b)]) hx hb dL_law_315 rfl hl (by decide) rfl (fun ls hl => ?_)
            refine lv_iload hx hb dL_law_316 (lv_at hl 5 rfl) ?_
            refine lv_iload hx hb dL_law_318 (lv_at hl 4 rfl) ?_
            refine pn_icmp_ne (tgt := 338) hx hb (by first | omega | exact hch | exact hmk | exact hfy | exact hfp | exact hpz | exact hds) (by first | omega | exact hch | exact hmk | exact hfy | exact hfp | exact hpz | exact hds) dL_law_320 (by decide) (fun c_32 => ?_) (fun c_32 => ?_)
            · -- 320 yes
              refine lv_iload hx hb dL_law_338 (lv_at hl 1 rfl) ?_
              refine lv_bipush (v := (-3 : Int32)) hx hb dL_law_340 (by decide) ?_
              refine pi_icmp_ne (tgt := 364) (a := ((pm_cc (pz_u fy i_23 yr) 60 : Nat) : Int)) (b := (-3)) hx hb (nI_toInt (by first | omega | exact hch | exact hmk | exact hfy | exact hfp | exact hpz | exact hds)) (by decide) dL_law_342 (by decide) (fun c_33 => ?_) (fun c_33 => ?_)
              · -- 342 yes
                refine lv_iload hx hb dL_law_364 (lv_at hl 1 rfl) ?_
                refine lv_iload_n hx hb dL_law_366 rfl (lv_at hl 0 rfl) ?_
                refine pn_icmp_ne (tgt := 401) hx hb (by first | omega | exact hch | exact hmk | exact hfy | exact hfp | exact hpz | exact hds) (by first | omega | exact hch | exact hmk | exact hfy | exact hfp | exact hpz | exact hds) dL_law_367 (by decide) (fun c_34 => ?_) (fun c_34 => ?_)
                · -- 367 yes
                  exfalso; omega
                · -- 367 no
                  refine lv_aload_n hx hb dL_law_370 rfl (lv_at hl 13 rfl) ?_
                  refine lv_iload hx hb dL_law_371 (lv_at hl 6 rfl) ?_
                  refine pz_VR (rest := []) ⟨hx, hb, hml, hown, hts⟩ (k_X0_consulsOf l D h0 ac ay ap cyI ([]) mk ch (pz_u fy i_23 yr) (pz_u fp i_23 (1000 * fa + se)) yr (by omega) (by omega) (by exact hfy) (by exact hfp)) (cwV 1 hts gL_law_X0_consulsOf rfl rfl rfl (by decide +kernel) ⟨Nat.le_of_ble_eq_true rfl, Nat.le_of_ble_eq_true rfl⟩) hK hP (hD.weaken (fun _ _ _ _ => trivial)) hS hA [0, 1, 2, 3] rfl rfl rfl 0 0 rfl rfl rfl hl.1 rfl (lv_room (Nat.le_of_ble_eq_true rfl)) dL_law_373 f0 (fun r H locs hr hP hS => ?_)
                  have hr_35 : (fun r => (r = (-1) ∧ ∀ j, j < 60 → ¬ (pz_u fy i_23 yr) j = yr) ∨ ∃ i, i < 60 ∧ r = nI ((pz_u fp i_23 (1000 * fa + se)) i) ∧ (pz_u fy i_23 yr) i = yr) r := hr
                  obtain ⟨r_35, er_35⟩ : ∃ z, z = r := ⟨_, rfl⟩
                  subst er_35
                  clear hr
                  rcases hr_35 with ⟨hz, hno7⟩ | ⟨i7, hi7, hz, he7⟩
                  · exact absurd pz_u_same (hno7 i_23 hi)
                  · -- present
                    subst hz
                    have e7 : i7 = i_23 := hds i7 i_23 hi7 hi (by omega) (by rw [he7, pz_u_same])
                    have hv7 : pz_u fp i_23 (1000 * fa + se) i7 = 1000 * fa + se := pg_u_at e7
                    refine lv_sipush (v := (nI 1000)) hx hb dL_law_376 (by decide) ?_
                    refine lv_iload hx hb dL_law_379 (lv_at hl 5 rfl) ?_
                    refine pn_imul hx hb dL_law_381 ?_
                    refine lv_iload hx hb dL_law_382 (lv_at hl 4 rfl) ?_
                    refine pn_iadd hx hb dL_law_384 ?_
                    refine pn_icmp_ne (tgt := 401) hx hb (by first | omega | exact hch | exact hmk | exact hfy | exact hfp | exact hpz | exact hds) (by first | omega | exact hch | exact hmk | exact hfy | exact hfp | exact hpz | exact hds) dL_law_385 (by decide) (fun c_36 => ?_) (fun c_36 => ?_)
                    · -- 385 yes
                      exfalso; omega
                    · -- 385 no
                      refine lv_aload_n hx hb dL_law_388 rfl (lv_at hl 13 rfl) ?_
                      refine lv_iload hx hb dL_law_389 (lv_at hl 6 rfl) ?_
                      refine pz_VR (rest := []) ⟨hx, hb, hml, hown, hts⟩ (k_X0_afterConsuls l D h0 ac ay ap cyI ([]) mk ch (pz_u fy i_23 yr) (pz_u fp i_23 (1000 * fa + se)) yr (by omega) (by omega) (by exact hfy)) (cwV 1 hts gL_law_X0_afterConsuls rfl rfl rfl (by decide +kernel) ⟨Nat.le_of_ble_eq_true rfl, Nat.le_of_ble_eq_true rfl⟩) hK hP (hD.weaken (fun _ _ _ _ => trivial)) hS hA [0, 1, 2, 3] rfl rfl rfl 0 0 rfl rfl rfl hl.1 rfl (lv_room (Nat.le_of_ble_eq_true rfl)) dL_law_391 f0 (fun r H locs hr hP hS => ?_)
                      have hr_37 : (fun r => (r = (-1) ∧ ∀ j, j < 60 → (pz_u fy i_23 yr) j ≤ yr → (pz_u fy i_23 yr) j = 0) ∨ ∃ i, i < 60 ∧ ¬ (pz_u fy i_23 yr) i = 0 ∧ (pz_u fy i_23 yr) i ≤ yr ∧ r = nI (yr - (pz_u fy i_23 yr) i) ∧ ∀ j, j < 60 → (pz_u fy i_23 yr) j ≤ yr → (pz_u fy i_23 yr) j ≤ (pz_u fy i_23 yr) i) r := hr
                      obtain ⟨r_37, er_37⟩ : ∃ z, z = r := ⟨_, rfl⟩
                      subst er_37
                      clear hr
                      rcases hr_37 with ⟨hz, hn8⟩ | ⟨i8, hi8, hnz, hle8, hz, hmax8⟩
                      · -- none
                        exfalso
                        have h98 := hn8 i_23 hi (by rw [pz_u_same]; exact Nat.le_refl _)
                        rw [pz_u_same] at h98
                        omega
                      · -- some
                        subst hz
                        have h98 := hmax8 i_23 hi (by rw [pz_u_same]; exact Nat.le_refl _)
                        rw [pz_u_same] at h98
                        refine pn_if_ne (tgt := 401) hx hb (by first | omega | exact hch | exact hmk | exact hfy | exact hfp | exact hpz | exact hds) dL_law_394 (by decide) (fun c_38 => ?_) (fun c_38 => ?_)
                        · -- 394 yes
                          exfalso; omega
                        · -- 394 no
                          refine lv_iconst (v := (nI 1)) hx hb dL_law_397 (by decide) ?_
                          refine lv_goto (tgt := 402) hx hb dL_law_398 (by decide) ?_
                          refine lv_istore_n (lv' := [(3, .int (nI 1)), (2, .int (nI (wr + 0))), (14, .int (nI (pm_cc (pz_u fy i_23 yr) 60))), (13, .int (nI 1)), (12, .int (nI dd)), (11, .int (nI se)), (10, .int (nI fa)), (9, .int (nI yr)), (8, .int (nI n)), (7, .int yy), (6, .int x), (5, .int (nI j)), (4, .int (nI tn)), (1, .ref h0), (0, .ref b)]) hx hb dL_law_402 rfl hl (by decide) rfl (fun ls hl => ?_)
                          refine lv_goto (tgt := 763) hx hb dL_law_403 (by decide) ?_
                          refine W.widen (k := cells + 1) (n := slots + 6) (by omega) (by omega) ?_
                          have hw9 : wr + 0 = pm_cc (pz_u fy i_23 yr) 60 := by omega
                          exact K H _ ls ⟨mk, (wr + 0), ch, (pz_u fy i_23 yr), (pz_u fp i_23 (1000 * fa + se)), ⟨hmk, hch, hfy, hfp, hpz, hds, hw9⟩, hP, hD, hS, lv_sub hl [7, 8, 11, 12, 0, 1, 13, 14] rfl⟩
              · -- 342 no
                exfalso; omega
            · -- 320 no
              exfalso; omega
        · -- none
          exact absurd (Or.inl ⟨i0, hi0, he0⟩) hav
set_option maxHeartbeats 4000000 in
set_option maxRecDepth 100000 in
theorem kd_strikes {p : Program} {l : Launch} {e : Env} {s : State} {m : MethodId} {below : List Frame} {meth : Method} {c : Code} {Q : State → Prop} {D : va_G} {cyI : ClassId} {b h0 ac ay ap : Nat} (hfl : l.stackTraces = false) (C0 : pg_C p s m c D cyI b) {mk wr : Nat} {ch fy fp : Nat → Nat} (I : pg_I mk wr ch fy fp) {cells slots : Nat} (hc : cells + 1 ≤ 200) (hs : slots + 6 ≤ 2000) (H : Heap) (locs : List Loc) (ls : Array Slot) (hP : va_P D vwCl [(h0, .inr (0, [.ref ac, .ref ay, .ref ap, .int (nI mk)])), (ac, .inl (cyI, 365, .inl (pz_ar ch))), (ay, .inl (cyI, 60, .inl (pz_ar fy))), (ap, .inl (cyI, 60, .inl (pz_ar fp)))] H) (hD : va_D (fun q : Nat => s.heap.size ≤ q) [(h0, .inr (0, [.ref ac, .ref ay, .ref ap, .int (nI mk)])), (ac, .inl (cyI, 365, .inl (pz_ar ch))), (ay, .inl (cyI, 60, .inl (pz_ar fy))), (ap, .inl (cyI, 60, .inl (pz_ar fp)))]) (hS : va_S (fun q : Nat => s.heap.size ≤ q) s.heap H locs) {n yr fa se dd j tn : Nat} {x yy : Int32} (hn : n < 1095749) (hy1 : 1 ≤ yr) (hy2 : yr ≤ 3000) (hf1 : 1 ≤ fa) (hf2 : fa ≤ 4) (hs1 : 1 ≤ se) (hs2 : se ≤ 4) (hl : lv_has ls 16 [(12, .int (nI dd)), (11, .int (nI se)), (10, .int (nI fa)), (9, .int (nI yr)), (8, .int (nI n)), (7, .int yy), (6, .int x), (5, .int (nI j)), (4, .int (nI tn)), (3, .int (nI 1)), (2, .int (nI wr)), (1, .ref h0), (0, .ref b)]) (K : pg_K p l e s m below meth c Q D cyI b h0 ac ay ap cells slots tn j n yr) : W p l e p36_R s m #[Value.ref b] below meth c H locs cells slots Q (F0 m 413 ls []) := by
  obtain ⟨hx, hb, hml, hown, hts, hK, hth, hnc⟩ := id C0
  have hA : ∀ q : Nat, s.heap.size ≤ q → (fun q : Nat => s.heap.size ≤ q) q := fun _ h => h
  have f0 : cells + 0 ≤ p36_R.cells ∧ slots + 0 ≤ p36_R.slots := ⟨by show _ ≤ 200; omega, by show _ ≤ 2000; omega⟩
  have f1 : cells + 1 ≤ p36_R.cells ∧ slots + 6 ≤ p36_R.slots := ⟨hc, hs⟩
  have f2 : (cells + 1) + 0 ≤ p36_R.cells ∧ (slots + 6) + 0 ≤ p36_R.slots := ⟨hc, hs⟩
  obtain ⟨hmk, hch, hfy, hfp, hpz, hds, hwr⟩ := id I
  have hwb := pm_cc_b fy 60
  refine lv_aload_n hx hb dL_law_413 rfl (lv_at hl 11 rfl) ?_
  refine lv_iload hx hb dL_law_414 (lv_at hl 3 rfl) ?_
  refine pz_VR (rest := []) ⟨hx, hb, hml, hown, hts⟩ (k_X0_consulsOf l D h0 ac ay ap cyI ([]) mk ch fy fp yr (by omega) (by omega) (by exact hfy) (by exact hfp)) (cwV 1 hts gL_law_X0_consulsOf rfl rfl rfl (by decide +kernel) ⟨Nat.le_of_ble_eq_true rfl, Nat.le_of_ble_eq_true rfl⟩) hK hP (hD.weaken (fun _ _ _ _ => trivial)) hS hA [0, 1, 2, 3] rfl rfl rfl 0 0 rfl rfl rfl hl.1 rfl (lv_room (Nat.le_of_ble_eq_true rfl)) dL_law_416 f0 (fun r H locs hr hP hS => ?_)
  have hr_1 : (fun r => (r = (-1) ∧ ∀ j, j < 60 → ¬ fy j = yr) ∨ ∃ i, i < 60 ∧ r = nI (fp i) ∧ fy i = yr) r := hr
  obtain ⟨r_1, er_1⟩ : ∃ z, z = r := ⟨_, rfl⟩
  subst er_1
  clear hr
  rcases hr_1 with ⟨hz, hno⟩ | ⟨i0, hi0, hz, he0⟩
  · -- absent
    subst hz
    refine pi_if_le (tgt := 426) (a := (-1)) hx hb (by decide +kernel) dL_law_419 (by decide) (fun _ => ?_) (fun h9 => absurd h9 (by decide))
    refine lv_iconst (v := (nI 0)) hx hb dL_law_426 (by decide) ?_
    refine lv_istore (lv' := [(13, .int (nI 0)), (12, .int (nI dd)), (11, .int (nI se)), (10, .int (nI fa)), (9, .int (nI yr)), (8, .int (nI n)), (7, .int yy), (6, .int x), (5, .int (nI j)), (4, .int (nI tn)), (3, .int (nI 1)), (2, .int (nI wr)), (1, .ref h0), (0, .ref b)]) hx hb dL_law_427 hl (by decide) rfl (fun ls hl => ?_)
    refine lv_aload_n hx hb dL_law_429 rfl (lv_at hl 12 rfl) ?_
    refine lv_iload hx hb dL_law_430 (lv_at hl 4 rfl) ?_
    refine pz_SRX (rest := []) ⟨hx, hb, hml, hown, hts⟩ (kg_L_strikes_x2 l hfl D h0 ac ay ap cyI [] mk ch fy fp yr (by omega) (by omega) hfy hno) (vx_cwSW 2 hts gL_law_L_strikes rfl rfl rfl (by decide +kernel) ⟨Nat.le_of_ble_eq_true rfl, Nat.le_of_ble_eq_true rfl⟩) hK hP (hD.weaken (fun _ _ _ _ => trivial)) hS hth hnc [0, 1, 2, 3] rfl rfl rfl rfl hl.1 rfl (lv_room (Nat.le_of_ble_eq_true rfl)) dL_law_432 f1 (fun r H locs hg hr hP hS => ?_)
    obtain rfl : r = (-3 : Int32) := hr
    refine lv_istore (lv' := [(14, .int (-3 : Int32)), (13, .int (nI 0)), (12, .int (nI dd)), (11, .int (nI se)), (10, .int (nI fa)), (9, .int (nI yr)), (8, .int (nI n)), (7, .int yy), (6, .int x), (5, .int (nI j)), (4, .int (nI tn)), (3, .int (nI 1)), (2, .int (nI wr)), (1, .ref h0), (0, .ref b)]) hx hb dL_law_435 hl (by decide) rfl (fun ls hl => ?_)
    refine lv_iload_n hx hb dL_law_437 rfl (lv_at hl 12 rfl) ?_
    refine lv_iload hx hb dL_law_438 (lv_at hl 1 rfl) ?_
    refine pi_if_eq (tgt := 447) (a := (0)) hx hb (by decide +kernel) dL_law_440 (by decide) (fun _ => ?_) (fun h9 => absurd h9 (by decide))
    refine lv_iconst (v := (nI 0)) hx hb dL_law_447 (by decide) ?_
    refine pn_isub hx hb (by first | omega | exact hch | exact hmk | exact hfy | exact hfp | exact hpz | exact hds) dL_law_448 ?_
    refine lv_istore_n (lv' := [(2, .int (nI (wr - 0))), (14, .int (-3 : Int32)), (13, .int (nI 0)), (12, .int (nI dd)), (11, .int (nI se)), (10, .int (nI fa)), (9, .int (nI yr)), (8, .int (nI n)), (7, .int yy), (6, .int x), (5, .int (nI j)), (4, .int (nI tn)), (3, .int (nI 1)), (1, .ref h0), (0, .ref b)]) hx hb dL_law_449 rfl hl (by decide) rfl (fun ls hl => ?_)
    refine lv_iload hx hb dL_law_450 (lv_at hl 1 rfl) ?_
    refine lv_iload hx hb dL_law_452 (lv_at hl 2 rfl) ?_
    refine pi_if_eq (tgt := 461) (a := (0)) hx hb (by decide +kernel) dL_law_454 (by decide) (fun _ => ?_) (fun h9 => absurd h9 (by decide))
    refine lv_bipush (v := (-3 : Int32)) hx hb dL_law_461 (by decide) ?_
    refine pi_icmp_ne (tgt := 480) (a := (-3)) (b := (-3)) hx hb (by decide +kernel) (by decide +kernel) dL_law_463 (by decide) (fun h9 => absurd h9 (by decide)) (fun _ => ?_)
    refine lv_aload_n hx hb dL_law_466 rfl (lv_at hl 13 rfl) ?_
    refine lv_iload hx hb dL_law_467 (lv_at hl 6 rfl) ?_
    refine pz_VR (rest := []) ⟨hx, hb, hml, hown, hts⟩ (k_X0_consulsOf l D h0 ac ay ap cyI ([]) mk ch fy fp yr (by omega) (by omega) (by exact hfy) (by exact hfp)) (cwV 1 hts gL_law_X0_consulsOf rfl rfl rfl (by decide +kernel) ⟨Nat.le_of_ble_eq_true rfl, Nat.le_of_ble_eq_true rfl⟩) hK hP (hD.weaken (fun _ _ _ _ => trivial)) hS hA [0, 1, 2, 3] rfl rfl rfl 0 0 rfl rfl rfl hl.1 rfl (lv_room (Nat.le_of_ble_eq_true rfl)) dL_law_469 f2 (fun r H locs hr hP hS => ?_)
    have hr_2 : (fun r => (r = (-1) ∧ ∀ j, j < 60 → ¬ fy j = yr) ∨ ∃ i, i < 60 ∧ r = nI (fp i) ∧ fy i = yr) r := hr
    obtain ⟨r_2, er_2⟩ : ∃ z, z = r := ⟨_, rfl⟩
    subst er_2
    clear hr
    rcases hr_2 with ⟨hz, hno7⟩ | ⟨i7, hi7, hz, he7⟩
    · -- absent
      subst hz
      refine lv_iconst (v := (-1 : Int32)) hx hb dL_law_472 (by decide) ?_
      refine pi_icmp_ne (tgt := 480) (a := (-1)) (b := (-1)) hx hb (by decide +kernel) (by decide +kernel) dL_law_473 (by decide) (fun h9 => absurd h9 (by decide)) (fun _ => ?_)
      refine lv_iconst (v := (nI 1)) hx hb dL_law_476 (by decide) ?_
      refine lv_goto (tgt := 481) hx hb dL_law_477 (by decide) ?_
      refine lv_istore_n (lv' := [(3, .int (nI 1)), (2, .int (nI (wr - 0))), (14, .int (-3 : Int32)), (13, .int (nI 0)), (12, .int (nI dd)), (11, .int (nI se)), (10, .int (nI fa)), (9, .int (nI yr)), (8, .int (nI n)), (7, .int yy), (6, .int x), (5, .int (nI j)), (4, .int (nI tn)), (1, .ref h0), (0, .ref b)]) hx hb dL_law_481 rfl hl (by decide) rfl (fun ls hl => ?_)
      refine lv_goto (tgt := 763) hx hb dL_law_482 (by decide) ?_
      have hw9 : wr - 0 = pm_cc fy 60 := by omega
      exact K H _ ls ⟨mk, (wr - 0), ch, fy, fp, ⟨hmk, hch, hfy, hfp, hpz, hds, hw9⟩, hP, hD, hS, lv_sub hl [7, 8, 11, 12, 0, 1, 13, 14] rfl⟩
    · exact absurd he7 (hno i7 hi7)
  · -- present
    subst hz
    have hp0_ := hpz i0 hi0 (by omega)
    have hq0_ := hfp i0 hi0
    have hw1_ : 1 ≤ wr := by rw [hwr]; exact pm_cc_pos ⟨i0, hi0, by omega⟩
    refine pn_if_le (tgt := 426) hx hb (by first | omega | exact hch | exact hmk | exact hfy | exact hfp | exact hpz | exact hds) dL_law_419 (by decide) (fun c_3 => ?_) (fun c_3 => ?_)
    · -- 419 yes
      exfalso; omega
    · -- 419 no
      refine lv_iconst (v := (nI 1)) hx hb dL_law_422 (by decide) ?_
      refine lv_goto (tgt := 427) hx hb dL_law_423 (by decide) ?_
      refine lv_istore (lv' := [(13, .int (nI 1)), (12, .int (nI dd)), (11, .int (nI se)), (10, .int (nI fa)), (9, .int (nI yr)), (8, .int (nI n)), (7, .int yy), (6, .int x), (5, .int (nI j)), (4, .int (nI tn)), (3, .int (nI 1)), (2, .int (nI wr)), (1, .ref h0), (0, .ref b)]) hx hb dL_law_427 hl (by decide) rfl (fun ls hl => ?_)
      refine lv_aload_n hx hb dL_law_429 rfl (lv_at hl 12 rfl) ?_
      refine lv_iload hx hb dL_law_430 (lv_at hl 4 rfl) ?_
      refine pz_SIW (rest := []) (wr := []) ⟨hx, hb, hml, hown, hts⟩ (k_L_strikes l D h0 ac ay ap cyI ([]) mk ch fy fp yr (by omega) (by omega) (by exact hfy) (by exact ⟨i0, hi0, he0⟩)) (vx_cwSW 2 hts gL_law_L_strikes rfl rfl rfl (by decide +kernel) ⟨Nat.le_of_ble_eq_true rfl, Nat.le_of_ble_eq_true rfl⟩) hK hP hD hS hA [0, 1, 2, 3] [] rfl rfl rfl rfl rfl (by decide)  rfl hl.1 rfl (lv_room (Nat.le_of_ble_eq_true rfl)) dL_law_432 f0 (fun r u H locs hr hP hD hS => ?_)
      obtain ⟨i_4, rfl⟩ : ∃ z, z = u := ⟨_, rfl⟩
      have hP : va_P D vwCl [(h0, .inr (0, [.ref ac, .ref ay, .ref ap, .int (nI mk)])), (ac, .inl (cyI, 365, .inl (pz_ar ch))), (ay, .inl (cyI, 60, .inl (pz_ar (pz_u fy i_4 0)))), (ap, .inl (cyI, 60, .inl (pz_ar fp)))] H := hP
      have hD : va_D (fun q : Nat => s.heap.size ≤ q) [(h0, .inr (0, [.ref ac, .ref ay, .ref ap, .int (nI mk)])), (ac, .inl (cyI, 365, .inl (pz_ar ch))), (ay, .inl (cyI, 60, .inl (pz_ar (pz_u fy i_4 0)))), (ap, .inl (cyI, 60, .inl (pz_ar fp)))] := hD
      have hr_4 := hr
      obtain ⟨r_4, er_4⟩ : ∃ z, z = r := ⟨_, rfl⟩
      subst er_4
      clear hr
      obtain ⟨hi, hz, hei⟩ := hr_4
      subst hz
      obtain ⟨hI, ht, hnn⟩ := pg_I_str I hi (by omega) hei
      have htb := pm_cc_b (pz_u fy i_4 0) 60
      have I := hI
      obtain ⟨hmk, hch, hfy, hfp, hpz, hds, hwr⟩ := id I
      refine lv_istore (lv' := [(14, .int (nI (pm_cc (pz_u fy i_4 0) 60))), (13, .int (nI 1)), (12, .int (nI dd)), (11, .int (nI se)), (10, .int (nI fa)), (9, .int (nI yr)), (8, .int (nI n)), (7, .int yy), (6, .int x), (5, .int (nI j)), (4, .int (nI tn)), (3, .int (nI 1)), (2, .int (nI wr)), (1, .ref h0), (0, .ref b)]) hx hb dL_law_435 hl (by decide) rfl (fun ls hl => ?_)
      refine lv_iload_n hx hb dL_law_437 rfl (lv_at hl 12 rfl) ?_
      refine lv_iload hx hb dL_law_438 (lv_at hl 1 rfl) ?_
      refine pi_if_eq (tgt := 447) (a := (1)) hx hb (by decide +kernel) dL_law_440 (by decide) (fun h9 => absurd h9 (by decide)) (fun _ => ?_)
      refine lv_iconst (v := (nI 1)) hx hb dL_law_443 (by decide) ?_
      refine lv_goto (tgt := 448) hx hb dL_law_444 (by decide) ?_
      refine pn_isub hx hb (by first | omega | exact hch | exact hmk | exact hfy | exact hfp | exact hpz | exact hds) dL_law_448 ?_
      refine lv_istore_n (lv' := [(2, .int (nI (wr - 1))), (14, .int (nI (pm_cc (pz_u fy i_4 0) 60))), (13, .int (nI 1)), (12, .int (nI dd)), (11, .int (nI se)), (10, .int (nI fa)), (9, .int (nI yr)), (8, .int (nI n)), (7, .int yy), (6, .int x), (5, .int (nI j)), (4, .int (nI tn)), (3, .int (nI 1)), (1, .ref h0), (0, .ref b)]) hx hb dL_law_449 rfl hl (by decide) rfl (fun ls hl => ?_)
      refine lv_iload hx hb dL_law_450 (lv_at hl 1 rfl) ?_
      refine lv_iload hx hb dL_law_452 (lv_at hl 2 rfl) ?_
      refine pi_if_eq (tgt := 461) (a := (1)) hx hb (by decide +kernel) dL_law_454 (by decide) (fun h9 => absurd h9 (by decide)) (fun _ => ?_)
      refine lv_iload_n hx hb dL_law_457 rfl (lv_at hl 0 rfl) ?_
      refine lv_goto (tgt := 463) hx hb dL_law_458 (by decide) ?_
      refine pn_icmp_ne (tgt := 480) hx hb (by first | omega | exact hch | exact hmk | exact hfy | exact hfp | exact hpz | exact hds) (by first | omega | exact hch | exact hmk | exact hfy | exact hfp | exact hpz | exact hds) dL_law_463 (by decide) (fun c_5 => ?_) (fun c_5 => ?_)
      · -- 463 yes
        exfalso; omega
      · -- 463 no
        refine lv_aload_n hx hb dL_law_466 rfl (lv_at hl 13 rfl) ?_
        refine lv_iload hx hb dL_law_467 (lv_at hl 6 rfl) ?_
        refine pz_VR (rest := []) ⟨hx, hb, hml, hown, hts⟩ (k_X0_consulsOf l D h0 ac ay ap cyI ([]) mk ch (pz_u fy i_4 0) fp yr (by omega) (by omega) (by exact hfy) (by exact hfp)) (cwV 1 hts gL_law_X0_consulsOf rfl rfl rfl (by decide +kernel) ⟨Nat.le_of_ble_eq_true rfl, Nat.le_of_ble_eq_true rfl⟩) hK hP (hD.weaken (fun _ _ _ _ => trivial)) hS hA [0, 1, 2, 3] rfl rfl rfl 0 0 rfl rfl rfl hl.1 rfl (lv_room (Nat.le_of_ble_eq_true rfl)) dL_law_469 f0 (fun r H locs hr hP hS => ?_)
        have hr_6 : (fun r => (r = (-1) ∧ ∀ j, j < 60 → ¬ (pz_u fy i_4 0) j = yr) ∨ ∃ i, i < 60 ∧ r = nI (fp i) ∧ (pz_u fy i_4 0) i = yr) r := hr
        obtain ⟨r_6, er_6⟩ : ∃ z, z = r := ⟨_, rfl⟩
        subst er_6
        clear hr
        rcases hr_6 with ⟨hz, hno7⟩ | ⟨i7, hi7, hz, he7⟩
        · -- absent
          subst hz
          refine lv_iconst (v := (-1 : Int32)) hx hb dL_law_472 (by decide) ?_
          refine pi_icmp_ne (tgt := 480) (a := (-1)) (b := (-1)) hx hb (by decide +kernel) (by decide +kernel) dL_law_473 (by decide) (fun h9 => absurd h9 (by decide)) (fun _ => ?_)
          refine lv_iconst (v := (nI 1)) hx hb dL_law_476 (by decide) ?_
          refine lv_goto (tgt := 481) hx hb dL_law_477 (by decide) ?_
          refine lv_istore_n (lv' := [(3, .int (nI 1)), (2, .int (nI (wr - 1))), (14, .int (nI (pm_cc (pz_u fy i_4 0) 60))), (13, .int (nI 1)), (12, .int (nI dd)), (11, .int (nI se)), (10, .int (nI fa)), (9, .int (nI yr)), (8, .int (nI n)), (7, .int yy), (6, .int x), (5, .int (nI j)), (4, .int (nI tn)), (1, .ref h0), (0, .ref b)]) hx hb dL_law_481 rfl hl (by decide) rfl (fun ls hl => ?_)
          refine lv_goto (tgt := 763) hx hb dL_law_482 (by decide) ?_
          refine W.widen (k := cells + 1) (n := slots + 6) (by omega) (by omega) ?_
          have hw9 : wr - 1 = pm_cc (pz_u fy i_4 0) 60 := by omega
          exact K H _ ls ⟨mk, (wr - 1), ch, (pz_u fy i_4 0), fp, ⟨hmk, hch, hfy, hfp, hpz, hds, hw9⟩, hP, hD, hS, lv_sub hl [7, 8, 11, 12, 0, 1, 13, 14] rfl⟩
        · exact absurd he7 (hnn i7 hi7)
set_option maxHeartbeats 4000000 in
set_option maxRecDepth 100000 in
theorem kd_sets {p : Program} {l : Launch} {e : Env} {s : State} {m : MethodId} {below : List Frame} {meth : Method} {c : Code} {Q : State → Prop} {D : va_G} {cyI : ClassId} {b h0 ac ay ap : Nat} (hfl : l.stackTraces = false) (C0 : pg_C p s m c D cyI b) {mk wr : Nat} {ch fy fp : Nat → Nat} (I : pg_I mk wr ch fy fp) {cells slots : Nat} (hc : cells + 1 ≤ 200) (hs : slots + 6 ≤ 2000) (H : Heap) (locs : List Loc) (ls : Array Slot) (hP : va_P D vwCl [(h0, .inr (0, [.ref ac, .ref ay, .ref ap, .int (nI mk)])), (ac, .inl (cyI, 365, .inl (pz_ar ch))), (ay, .inl (cyI, 60, .inl (pz_ar fy))), (ap, .inl (cyI, 60, .inl (pz_ar fp)))] H) (hD : va_D (fun q : Nat => s.heap.size ≤ q) [(h0, .inr (0, [.ref ac, .ref ay, .ref ap, .int (nI mk)])), (ac, .inl (cyI, 365, .inl (pz_ar ch))), (ay, .inl (cyI, 60, .inl (pz_ar fy))), (ap, .inl (cyI, 60, .inl (pz_ar fp)))]) (hS : va_S (fun q : Nat => s.heap.size ≤ q) s.heap H locs) {n yr fa se dd j tn : Nat} {x yy : Int32} (hn : n < 1095749) (hy1 : 1 ≤ yr) (hy2 : yr ≤ 3000) (hf1 : 1 ≤ fa) (hf2 : fa ≤ 4) (hs1 : 1 ≤ se) (hs2 : se ≤ 4) (hl : lv_has ls 16 [(12, .int (nI dd)), (11, .int (nI se)), (10, .int (nI fa)), (9, .int (nI yr)), (8, .int (nI n)), (7, .int yy), (6, .int x), (5, .int (nI j)), (4, .int (nI tn)), (3, .int (nI 1)), (2, .int (nI wr)), (1, .ref h0), (0, .ref b)]) (K : pg_K p l e s m below meth c Q D cyI b h0 ac ay ap cells slots tn j n yr) : W p l e p36_R s m #[Value.ref b] below meth c H locs cells slots Q (F0 m 492 ls []) := by
  obtain ⟨hx, hb, hml, hown, hts, hK, hth, hnc⟩ := id C0
  have hA : ∀ q : Nat, s.heap.size ≤ q → (fun q : Nat => s.heap.size ≤ q) q := fun _ h => h
  have f0 : cells + 0 ≤ p36_R.cells ∧ slots + 0 ≤ p36_R.slots := ⟨by show _ ≤ 200; omega, by show _ ≤ 2000; omega⟩
  have f1 : cells + 1 ≤ p36_R.cells ∧ slots + 6 ≤ p36_R.slots := ⟨hc, hs⟩
  have f2 : (cells + 1) + 0 ≤ p36_R.cells ∧ (slots + 6) + 0 ≤ p36_R.slots := ⟨hc, hs⟩
  obtain ⟨hmk, hch, hfy, hfp, hpz, hds, hwr⟩ := id I
  have hwb := pm_cc_b fy 60
  refine lv_iconst (v := (nI 1)) hx hb dL_law_492 (by decide) ?_
  refine lv_iload hx hb dL_law_493 (lv_at hl 5 rfl) ?_
  refine lv_sipush (v := (nI 4095)) hx hb dL_law_495 (by decide) ?_
  refine lv_iand hx hb dL_law_498 ?_
  obtain ⟨v1, ha1, hb1_⟩ := pg_and (yy) 12 (m := nI 4095) (by decide)
  refine pn_top (y := nI v1) ha1 ?_
  refine lv_sipush (v := (nI 365)) hx hb dL_law_499 (by decide) ?_
  refine pn_irem hx hb (by first | omega | exact hch | exact hmk | exact hfy | exact hfp | exact hpz | exact hds) (by first | omega | exact hch | exact hmk | exact hfy | exact hfp | exact hpz | exact hds) (by first | omega | exact hch | exact hmk | exact hfy | exact hfp | exact hpz | exact hds) dL_law_502 ?_
  refine pn_iadd hx hb dL_law_503 ?_
  obtain ⟨q, hq, hq1, hq2⟩ : ∃ z : Nat, nI (1 + (v1 % 365)) = nI z ∧ 1 ≤ z ∧ z ≤ 365 := ⟨_, rfl, by omega, by omega⟩
  refine pn_top (y := nI q) hq ?_
  refine lv_istore (lv' := [(13, .int (nI q)), (12, .int (nI dd)), (11, .int (nI se)), (10, .int (nI fa)), (9, .int (nI yr)), (8, .int (nI n)), (7, .int yy), (6, .int x), (5, .int (nI j)), (4, .int (nI tn)), (3, .int (nI 1)), (2, .int (nI wr)), (1, .ref h0), (0, .ref b)]) hx hb dL_law_504 hl (by decide) rfl (fun ls hl => ?_)
  refine lv_iload hx hb dL_law_506 (lv_at hl 6 rfl) ?_
  refine lv_bipush (v := (nI 12)) hx hb dL_law_508 (by decide) ?_
  refine lv_ishr hx hb dL_law_510 ?_
  refine lv_iconst (v := (nI 3)) hx hb dL_law_511 (by decide) ?_
  refine lv_iand hx hb dL_law_512 ?_
  obtain ⟨v2, ha2, hb2_⟩ := pg_and ((yy >>> (nI 12 &&& 31))) 2 (m := nI 3) (by decide)
  refine pn_top (y := nI v2) ha2 ?_
  refine lv_istore (lv' := [(14, .int (nI v2)), (13, .int (nI q)), (12, .int (nI dd)), (11, .int (nI se)), (10, .int (nI fa)), (9, .int (nI yr)), (8, .int (nI n)), (7, .int yy), (6, .int x), (5, .int (nI j)), (4, .int (nI tn)), (3, .int (nI 1)), (2, .int (nI wr)), (1, .ref h0), (0, .ref b)]) hx hb dL_law_513 hl (by decide) rfl (fun ls hl => ?_)
  refine lv_aload_n hx hb dL_law_515 rfl (lv_at hl 13 rfl) ?_
  refine lv_iload hx hb dL_law_516 (lv_at hl 1 rfl) ?_
  refine lv_iload hx hb dL_law_518 (lv_at hl 0 rfl) ?_
  refine pz_VI (rest := []) (wr := []) ⟨hx, hb, hml, hown, hts⟩ (k_X0_setCharacter l D h0 ac ay ap cyI ([]) mk ch fy fp q v2 (by omega) (by omega) (by omega)) (cwV 2 hts gL_law_X0_setCharacter rfl rfl rfl (by decide +kernel) ⟨Nat.le_of_ble_eq_true rfl, Nat.le_of_ble_eq_true rfl⟩) hK hP hD hS hA [0, 1, 2, 3] [] rfl rfl rfl rfl rfl (by decide) 0 0 rfl rfl rfl hl.1 rfl (lv_room (Nat.le_of_ble_eq_true rfl)) dL_law_520 f0 (fun r u H locs hr hP hD hS => ?_)
  have hP : va_P D vwCl [(h0, .inr (0, [.ref ac, .ref ay, .ref ap, .int (nI mk)])), (ac, .inl (cyI, 365, .inl (pz_ar (pz_u ch (q - 1) v2)))), (ay, .inl (cyI, 60, .inl (pz_ar fy))), (ap, .inl (cyI, 60, .inl (pz_ar fp)))] H := hP
  have hD : va_D (fun q : Nat => s.heap.size ≤ q) [(h0, .inr (0, [.ref ac, .ref ay, .ref ap, .int (nI mk)])), (ac, .inl (cyI, 365, .inl (pz_ar (pz_u ch (q - 1) v2)))), (ay, .inl (cyI, 60, .inl (pz_ar fy))), (ap, .inl (cyI, 60, .inl (pz_ar fp)))] := hD
  obtain rfl : r = (nI (ch (q - 1))) := hr
  have hb9 := hch (q - 1) (by omega)
  have I := pg_I_ch (k := q - 1) (v := v2) I (by omega)
  obtain ⟨hmk, hch, hfy, hfp, hpz, hds, hwr⟩ := id I
  have hc9 : pz_u ch (q - 1) v2 (pm_pl (q - 1) - 1) = v2 := pg_u_at (by rw [pg_pl1 hq1 hq2])
  have hc8 : pz_u ch (q - 1) v2 (q - 1) = v2 := pz_u_same
  refine lv_istore (lv' := [(15, .int (nI (ch (q - 1)))), (14, .int (nI v2)), (13, .int (nI q)), (12, .int (nI dd)), (11, .int (nI se)), (10, .int (nI fa)), (9, .int (nI yr)), (8, .int (nI n)), (7, .int yy), (6, .int x), (5, .int (nI j)), (4, .int (nI tn)), (3, .int (nI 1)), (2, .int (nI wr)), (1, .ref h0), (0, .ref b)]) hx hb dL_law_523 hl (by decide) rfl (fun ls hl => ?_)
  refine lv_iload hx hb dL_law_525 (lv_at hl 0 rfl) ?_
  refine pn_if_lt (tgt := 566) hx hb (by first | omega | exact hch | exact hmk | exact hfy | exact hfp | exact hpz | exact hds) dL_law_527 (by decide) ?_
  refine lv_iload hx hb dL_law_530 (lv_at hl 0 rfl) ?_
  refine lv_iconst (v := (nI 3)) hx hb dL_law_532 (by decide) ?_
  refine pn_icmp_gt (tgt := 566) hx hb (by first | omega | exact hch | exact hmk | exact hfy | exact hfp | exact hpz | exact hds) (by first | omega | exact hch | exact hmk | exact hfy | exact hfp | exact hpz | exact hds) dL_law_533 (by decide) (fun c_5 => ?_) (fun c_5 => ?_)
  · -- 533 yes
    exfalso; omega
  · -- 533 no
    refine lv_aload_n hx hb dL_law_536 rfl (lv_at hl 14 rfl) ?_
    refine lv_iload hx hb dL_law_537 (lv_at hl 2 rfl) ?_
    refine lv_iconst (v := (nI 1)) hx hb dL_law_539 (by decide) ?_
    refine pn_isub hx hb (by first | omega | exact hch | exact hmk | exact hfy | exact hfp | exact hpz | exact hds) dL_law_540 ?_
    refine pz_VR (rest := []) ⟨hx, hb, hml, hown, hts⟩ (k_X0_characterOf l D h0 ac ay ap cyI ([]) mk (pz_u ch (q - 1) v2) fy fp (q - 1) (by omega)) (cwV 1 hts gL_law_X0_characterOf rfl rfl rfl (by decide +kernel) ⟨Nat.le_of_ble_eq_true rfl, Nat.le_of_ble_eq_true rfl⟩) hK hP (hD.weaken (fun _ _ _ _ => trivial)) hS hA [0, 1, 2, 3] rfl rfl rfl 0 0 rfl rfl rfl hl.1 rfl (lv_room (Nat.le_of_ble_eq_true rfl)) dL_law_541 f0 (fun r H locs hr hP hS => ?_)
    obtain rfl : r = (nI ((pz_u ch (q - 1) v2) (pm_pl (q - 1) - 1))) := hr
    refine lv_iload hx hb dL_law_544 (lv_at hl 1 rfl) ?_
    refine pn_icmp_ne (tgt := 566) hx hb (by first | omega | exact hch | exact hmk | exact hfy | exact hfp | exact hpz | exact hds) (by first | omega | exact hch | exact hmk | exact hfy | exact hfp | exact hpz | exact hds) dL_law_546 (by decide) (fun c_7 => ?_) (fun c_7 => ?_)
    · -- 546 yes
      exfalso; omega
    · -- 546 no
      refine lv_aload_n hx hb dL_law_549 rfl (lv_at hl 14 rfl) ?_
      refine lv_iload hx hb dL_law_550 (lv_at hl 2 rfl) ?_
      refine lv_iload hx hb dL_law_552 (lv_at hl 1 rfl) ?_
      refine pz_VI (rest := []) (wr := []) ⟨hx, hb, hml, hown, hts⟩ (k_X0_setCharacter l D h0 ac ay ap cyI ([]) mk (pz_u ch (q - 1) v2) fy fp q v2 (by omega) (by omega) (by omega)) (cwV 2 hts gL_law_X0_setCharacter rfl rfl rfl (by decide +kernel) ⟨Nat.le_of_ble_eq_true rfl, Nat.le_of_ble_eq_true rfl⟩) hK hP hD hS hA [0, 1, 2, 3] [] rfl rfl rfl rfl rfl (by decide) 0 0 rfl rfl rfl hl.1 rfl (lv_room (Nat.le_of_ble_eq_true rfl)) dL_law_554 f0 (fun r u H locs hr hP hD hS => ?_)
      have hP : va_P D vwCl [(h0, .inr (0, [.ref ac, .ref ay, .ref ap, .int (nI mk)])), (ac, .inl (cyI, 365, .inl (pz_ar (pz_u (pz_u ch (q - 1) v2) (q - 1) v2)))), (ay, .inl (cyI, 60, .inl (pz_ar fy))), (ap, .inl (cyI, 60, .inl (pz_ar fp)))] H := hP
      have hD : va_D (fun q : Nat => s.heap.size ≤ q) [(h0, .inr (0, [.ref ac, .ref ay, .ref ap, .int (nI mk)])), (ac, .inl (cyI, 365, .inl (pz_ar (pz_u (pz_u ch (q - 1) v2) (q - 1) v2)))), (ay, .inl (cyI, 60, .inl (pz_ar fy))), (ap, .inl (cyI, 60, .inl (pz_ar fp)))] := hD
      obtain rfl : r = (nI ((pz_u ch (q - 1) v2) (q - 1))) := hr
      have I := pg_I_ch (k := q - 1) (v := v2) I (by omega)
      obtain ⟨hmk, hch, hfy, hfp, hpz, hds, hwr⟩ := id I
      refine lv_iload hx hb dL_law_557 (lv_at hl 1 rfl) ?_
      refine pn_icmp_ne (tgt := 566) hx hb (by first | omega | exact hch | exact hmk | exact hfy | exact hfp | exact hpz | exact hds) (by first | omega | exact hch | exact hmk | exact hfy | exact hfp | exact hpz | exact hds) dL_law_559 (by decide) (fun c_9 => ?_) (fun c_9 => ?_)
      · -- 559 yes
        exfalso; omega
      · -- 559 no
        refine lv_iconst (v := (nI 1)) hx hb dL_law_562 (by decide) ?_
        refine lv_goto (tgt := 567) hx hb dL_law_563 (by decide) ?_
        refine lv_istore_n (lv' := [(3, .int (nI 1)), (15, .int (nI (ch (q - 1)))), (14, .int (nI v2)), (13, .int (nI q)), (12, .int (nI dd)), (11, .int (nI se)), (10, .int (nI fa)), (9, .int (nI yr)), (8, .int (nI n)), (7, .int yy), (6, .int x), (5, .int (nI j)), (4, .int (nI tn)), (2, .int (nI wr)), (1, .ref h0), (0, .ref b)]) hx hb dL_law_567 rfl hl (by decide) rfl (fun ls hl => ?_)
        refine lv_goto (tgt := 763) hx hb dL_law_568 (by decide) ?_
        refine W.widen (k := cells + 1) (n := slots + 6) (by omega) (by omega) ?_
        have hw9 : wr = pm_cc fy 60 := by omega
        exact K H _ ls ⟨mk, wr, (pz_u (pz_u ch (q - 1) v2) (q - 1) v2), fy, fp, ⟨hmk, hch, hfy, hfp, hpz, hds, hw9⟩, hP, hD, hS, lv_sub hl [7, 8, 11, 12, 0, 13, 14, 15] rfl⟩
set_option maxHeartbeats 4000000 in
set_option maxRecDepth 100000 in
theorem kd_market {p : Program} {l : Launch} {e : Env} {s : State} {m : MethodId} {below : List Frame} {meth : Method} {c : Code} {Q : State → Prop} {D : va_G} {cyI : ClassId} {b h0 ac ay ap : Nat} (hfl : l.stackTraces = false) (C0 : pg_C p s m c D cyI b) {mk wr : Nat} {ch fy fp : Nat → Nat} (I : pg_I mk wr ch fy fp) {cells slots : Nat} (hc : cells + 1 ≤ 200) (hs : slots + 6 ≤ 2000) (H : Heap) (locs : List Loc) (ls : Array Slot) (hP : va_P D vwCl [(h0, .inr (0, [.ref ac, .ref ay, .ref ap, .int (nI mk)])), (ac, .inl (cyI, 365, .inl (pz_ar ch))), (ay, .inl (cyI, 60, .inl (pz_ar fy))), (ap, .inl (cyI, 60, .inl (pz_ar fp)))] H) (hD : va_D (fun q : Nat => s.heap.size ≤ q) [(h0, .inr (0, [.ref ac, .ref ay, .ref ap, .int (nI mk)])), (ac, .inl (cyI, 365, .inl (pz_ar ch))), (ay, .inl (cyI, 60, .inl (pz_ar fy))), (ap, .inl (cyI, 60, .inl (pz_ar fp)))]) (hS : va_S (fun q : Nat => s.heap.size ≤ q) s.heap H locs) {n yr fa se dd j tn : Nat} {x yy : Int32} (hn : n < 1095749) (hy1 : 1 ≤ yr) (hy2 : yr ≤ 3000) (hf1 : 1 ≤ fa) (hf2 : fa ≤ 4) (hs1 : 1 ≤ se) (hs2 : se ≤ 4) (hl : lv_has ls 16 [(12, .int (nI dd)), (11, .int (nI se)), (10, .int (nI fa)), (9, .int (nI yr)), (8, .int (nI n)), (7, .int yy), (6, .int x), (5, .int (nI j)), (4, .int (nI tn)), (3, .int (nI 1)), (2, .int (nI wr)), (1, .ref h0), (0, .ref b)]) (K : pg_K p l e s m below meth c Q D cyI b h0 ac ay ap cells slots tn j n yr) : W p l e p36_R s m #[Value.ref b] below meth c H locs cells slots Q (F0 m 578 ls []) := by
  obtain ⟨hx, hb, hml, hown, hts, hK, hth, hnc⟩ := id C0
  have hA : ∀ q : Nat, s.heap.size ≤ q → (fun q : Nat => s.heap.size ≤ q) q := fun _ h => h
  have f0 : cells + 0 ≤ p36_R.cells ∧ slots + 0 ≤ p36_R.slots := ⟨by show _ ≤ 200; omega, by show _ ≤ 2000; omega⟩
  have f1 : cells + 1 ≤ p36_R.cells ∧ slots + 6 ≤ p36_R.slots := ⟨hc, hs⟩
  have f2 : (cells + 1) + 0 ≤ p36_R.cells ∧ (slots + 6) + 0 ≤ p36_R.slots := ⟨hc, hs⟩
  obtain ⟨hmk, hch, hfy, hfp, hpz, hds, hwr⟩ := id I
  have hwb := pm_cc_b fy 60
  refine lv_aload_n hx hb dL_law_578 rfl (lv_at hl 11 rfl) ?_
  refine lv_iload hx hb dL_law_579 (lv_at hl 4 rfl) ?_
  refine pz_VI (rest := []) (wr := []) ⟨hx, hb, hml, hown, hts⟩ (k_X0_setMarketDay l D h0 ac ay ap cyI ([]) mk ch fy fp n (by omega)) (cwV 1 hts gL_law_X0_setMarketDay rfl rfl rfl (by decide +kernel) ⟨Nat.le_of_ble_eq_true rfl, Nat.le_of_ble_eq_true rfl⟩) hK hP hD hS hA [0, 1, 2, 3] [] rfl rfl rfl rfl rfl (by decide) 0 0 rfl rfl rfl hl.1 rfl (lv_room (Nat.le_of_ble_eq_true rfl)) dL_law_581 f0 (fun r u H locs hr hP hD hS => ?_)
  have hP : va_P D vwCl [(h0, .inr (0, [.ref ac, .ref ay, .ref ap, .int (nI (n % 8))])), (ac, .inl (cyI, 365, .inl (pz_ar ch))), (ay, .inl (cyI, 60, .inl (pz_ar fy))), (ap, .inl (cyI, 60, .inl (pz_ar fp)))] H := hP
  have hD : va_D (fun q : Nat => s.heap.size ≤ q) [(h0, .inr (0, [.ref ac, .ref ay, .ref ap, .int (nI (n % 8))])), (ac, .inl (cyI, 365, .inl (pz_ar ch))), (ay, .inl (cyI, 60, .inl (pz_ar fy))), (ap, .inl (cyI, 60, .inl (pz_ar fp)))] := hD
  obtain rfl : r = (nI mk) := hr
  have hm9 := hmk
  have I := pg_I_mk (k := n % 8) I (by omega)
  obtain ⟨hmk, hch, hfy, hfp, hpz, hds, hwr⟩ := id I
  have hk9 := pg_if (n % 8 = n % 8)
  have hk8 := pg_if ((n + 1) % 8 = n % 8)
  refine lv_istore (lv' := [(13, .int (nI mk)), (12, .int (nI dd)), (11, .int (nI se)), (10, .int (nI fa)), (9, .int (nI yr)), (8, .int (nI n)), (7, .int yy), (6, .int x), (5, .int (nI j)), (4, .int (nI tn)), (3, .int (nI 1)), (2, .int (nI wr)), (1, .ref h0), (0, .ref b)]) hx hb dL_law_584 hl (by decide) rfl (fun ls hl => ?_)
  refine lv_iload hx hb dL_law_586 (lv_at hl 0 rfl) ?_
  refine pn_if_lt (tgt := 636) hx hb (by first | omega | exact hch | exact hmk | exact hfy | exact hfp | exact hpz | exact hds) dL_law_588 (by decide) ?_
  refine lv_iload hx hb dL_law_591 (lv_at hl 0 rfl) ?_
  refine lv_bipush (v := (nI 8)) hx hb dL_law_593 (by decide) ?_
  refine pn_icmp_ge (tgt := 636) hx hb (by first | omega | exact hch | exact hmk | exact hfy | exact hfp | exact hpz | exact hds) (by first | omega | exact hch | exact hmk | exact hfy | exact hfp | exact hpz | exact hds) dL_law_595 (by decide) (fun c_3 => ?_) (fun c_3 => ?_)
  · -- 595 yes
    exfalso; omega
  · -- 595 no
    refine lv_aload_n hx hb dL_law_598 rfl (lv_at hl 12 rfl) ?_
    refine lv_iload hx hb dL_law_599 (lv_at hl 5 rfl) ?_
    refine pz_VR (rest := []) ⟨hx, hb, hml, hown, hts⟩ (k_X0_isMarket l D h0 ac ay ap cyI ([]) (n % 8) ch fy fp n (by omega) (by omega)) (cwV 1 hts gL_law_X0_isMarket rfl rfl rfl (by decide +kernel) ⟨Nat.le_of_ble_eq_true rfl, Nat.le_of_ble_eq_true rfl⟩) hK hP (hD.weaken (fun _ _ _ _ => trivial)) hS hA [0, 1, 2, 3] rfl rfl rfl 0 0 rfl rfl rfl hl.1 rfl (lv_room (Nat.le_of_ble_eq_true rfl)) dL_law_601 f0 (fun r H locs hr hP hS => ?_)
    obtain rfl : r = (pz_b (n % 8 = (n % 8))) := hr
    refine pn_top (y := nI (pg_i (n % 8 = (n % 8)))) (pg_ib (n % 8 = (n % 8))) ?_
    refine pn_if_eq (tgt := 636) hx hb (by first | omega | exact hch | exact hmk | exact hfy | exact hfp | exact hpz | exact hds) dL_law_604 (by decide) (fun c_5 => ?_) (fun c_5 => ?_)
    · -- 604 yes
      exfalso; omega
    · -- 604 no
      refine lv_aload_n hx hb dL_law_607 rfl (lv_at hl 12 rfl) ?_
      refine lv_iload hx hb dL_law_608 (lv_at hl 5 rfl) ?_
      refine lv_iconst (v := (nI 1)) hx hb dL_law_610 (by decide) ?_
      refine pn_iadd hx hb dL_law_611 ?_
      refine pz_VR (rest := []) ⟨hx, hb, hml, hown, hts⟩ (k_X0_isMarket l D h0 ac ay ap cyI ([]) (n % 8) ch fy fp (n + 1) (by omega) (by omega)) (cwV 1 hts gL_law_X0_isMarket rfl rfl rfl (by decide +kernel) ⟨Nat.le_of_ble_eq_true rfl, Nat.le_of_ble_eq_true rfl⟩) hK hP (hD.weaken (fun _ _ _ _ => trivial)) hS hA [0, 1, 2, 3] rfl rfl rfl 0 0 rfl rfl rfl hl.1 rfl (lv_room (Nat.le_of_ble_eq_true rfl)) dL_law_612 f0 (fun r H locs hr hP hS => ?_)
      obtain rfl : r = (pz_b ((n + 1) % 8 = (n % 8))) := hr
      refine pn_top (y := nI (pg_i ((n + 1) % 8 = (n % 8)))) (pg_ib ((n + 1) % 8 = (n % 8))) ?_
      refine pn_if_ne (tgt := 636) hx hb (by first | omega | exact hch | exact hmk | exact hfy | exact hfp | exact hpz | exact hds) dL_law_615 (by decide) (fun c_7 => ?_) (fun c_7 => ?_)
      · -- 615 yes
        exfalso; omega
      · -- 615 no
        refine lv_aload_n hx hb dL_law_618 rfl (lv_at hl 12 rfl) ?_
        refine lv_iload hx hb dL_law_619 (lv_at hl 5 rfl) ?_
        refine pz_VI (rest := []) (wr := []) ⟨hx, hb, hml, hown, hts⟩ (k_X0_setMarketDay l D h0 ac ay ap cyI ([]) (n % 8) ch fy fp n (by omega)) (cwV 1 hts gL_law_X0_setMarketDay rfl rfl rfl (by decide +kernel) ⟨Nat.le_of_ble_eq_true rfl, Nat.le_of_ble_eq_true rfl⟩) hK hP hD hS hA [0, 1, 2, 3] [] rfl rfl rfl rfl rfl (by decide) 0 0 rfl rfl rfl hl.1 rfl (lv_room (Nat.le_of_ble_eq_true rfl)) dL_law_621 f0 (fun r u H locs hr hP hD hS => ?_)
        have hP : va_P D vwCl [(h0, .inr (0, [.ref ac, .ref ay, .ref ap, .int (nI (n % 8))])), (ac, .inl (cyI, 365, .inl (pz_ar ch))), (ay, .inl (cyI, 60, .inl (pz_ar fy))), (ap, .inl (cyI, 60, .inl (pz_ar fp)))] H := hP
        have hD : va_D (fun q : Nat => s.heap.size ≤ q) [(h0, .inr (0, [.ref ac, .ref ay, .ref ap, .int (nI (n % 8))])), (ac, .inl (cyI, 365, .inl (pz_ar ch))), (ay, .inl (cyI, 60, .inl (pz_ar fy))), (ap, .inl (cyI, 60, .inl (pz_ar fp)))] := hD
        obtain rfl : r = (nI (n % 8)) := hr
        have I := pg_I_mk (k := n % 8) I (by omega)
        obtain ⟨hmk, hch, hfy, hfp, hpz, hds, hwr⟩ := id I
        refine lv_iload hx hb dL_law_624 (lv_at hl 5 rfl) ?_
        refine lv_bipush (v := (nI 8)) hx hb dL_law_626 (by decide) ?_
        refine pn_irem hx hb (by first | omega | exact hch | exact hmk | exact hfy | exact hfp | exact hpz | exact hds) (by first | omega | exact hch | exact hmk | exact hfy | exact hfp | exact hpz | exact hds) (by first | omega | exact hch | exact hmk | exact hfy | exact hfp | exact hpz | exact hds) dL_law_628 ?_
        refine pn_icmp_ne (tgt := 636) hx hb (by first | omega | exact hch | exact hmk | exact hfy | exact hfp | exact hpz | exact hds) (by first | omega | exact hch | exact hmk | exact hfy | exact hfp | exact hpz | exact hds) dL_law_629 (by decide) (fun c_9 => ?_) (fun c_9 => ?_)
        · -- 629 yes
          exfalso; omega
        · -- 629 no
          refine lv_iconst (v := (nI 1)) hx hb dL_law_632 (by decide) ?_
          refine lv_goto (tgt := 637) hx hb dL_law_633 (by decide) ?_
          refine lv_istore_n (lv' := [(3, .int (nI 1)), (13, .int (nI mk)), (12, .int (nI dd)), (11, .int (nI se)), (10, .int (nI fa)), (9, .int (nI yr)), (8, .int (nI n)), (7, .int yy), (6, .int x), (5, .int (nI j)), (4, .int (nI tn)), (2, .int (nI wr)), (1, .ref h0), (0, .ref b)]) hx hb dL_law_637 rfl hl (by decide) rfl (fun ls hl => ?_)
          refine lv_goto (tgt := 763) hx hb dL_law_638 (by decide) ?_
          refine W.widen (k := cells + 1) (n := slots + 6) (by omega) (by omega) ?_
          have hw9 : wr = pm_cc fy 60 := by omega
          exact K H _ ls ⟨(n % 8), wr, ch, fy, fp, ⟨hmk, hch, hfy, hfp, hpz, hds, hw9⟩, hP, hD, hS, lv_sub hl [5, 6, 9, 10, 0, 11, 12, 13] rfl⟩
set_option maxHeartbeats 4000000 in
set_option maxRecDepth 100000 in
theorem kd_ends {p : Program} {l : Launch} {e : Env} {s : State} {m : MethodId} {below : List Frame} {meth : Method} {c : Code} {Q : State → Prop} {D : va_G} {cyI : ClassId} {b h0 ac ay ap : Nat} (hfl : l.stackTraces = false) (C0 : pg_C p s m c D cyI b) {mk wr : Nat} {ch fy fp : Nat → Nat} (I : pg_I mk wr ch fy fp) {cells slots : Nat} (hc : cells + 1 ≤ 200) (hs : slots + 6 ≤ 2000) (H : Heap) (locs : List Loc) (ls : Array Slot) (hP : va_P D vwCl [(h0, .inr (0, [.ref ac, .ref ay, .ref ap, .int (nI mk)])), (ac, .inl (cyI, 365, .inl (pz_ar ch))), (ay, .inl (cyI, 60, .inl (pz_ar fy))), (ap, .inl (cyI, 60, .inl (pz_ar fp)))] H) (hD : va_D (fun q : Nat => s.heap.size ≤ q) [(h0, .inr (0, [.ref ac, .ref ay, .ref ap, .int (nI mk)])), (ac, .inl (cyI, 365, .inl (pz_ar ch))), (ay, .inl (cyI, 60, .inl (pz_ar fy))), (ap, .inl (cyI, 60, .inl (pz_ar fp)))]) (hS : va_S (fun q : Nat => s.heap.size ≤ q) s.heap H locs) {n yr fa se dd j tn : Nat} {x yy : Int32} (hn : n < 1095749) (hy1 : 1 ≤ yr) (hy2 : yr ≤ 3000) (hf1 : 1 ≤ fa) (hf2 : fa ≤ 4) (hs1 : 1 ≤ se) (hs2 : se ≤ 4) (hl : lv_has ls 16 [(12, .int (nI dd)), (11, .int (nI se)), (10, .int (nI fa)), (9, .int (nI yr)), (8, .int (nI n)), (7, .int yy), (6, .int x), (5, .int (nI j)), (4, .int (nI tn)), (3, .int (nI 1)), (2, .int (nI wr)), (1, .ref h0), (0, .ref b)]) (K : pg_K p l e s m below meth c Q D cyI b h0 ac ay ap cells slots tn j n yr) : W p l e p36_R s m #[Value.ref b] below meth c H locs cells slots Q (F0 m 648 ls []) := by
  obtain ⟨hx, hb, hml, hown, hts, hK, hth, hnc⟩ := id C0
  have hA : ∀ q : Nat, s.heap.size ≤ q → (fun q : Nat => s.heap.size ≤ q) q := fun _ h => h
  have f0 : cells + 0 ≤ p36_R.cells ∧ slots + 0 ≤ p36_R.slots := ⟨by show _ ≤ 200; omega, by show _ ≤ 2000; omega⟩
  have f1 : cells + 1 ≤ p36_R.cells ∧ slots + 6 ≤ p36_R.slots := ⟨hc, hs⟩
  have f2 : (cells + 1) + 0 ≤ p36_R.cells ∧ (slots + 6) + 0 ≤ p36_R.slots := ⟨hc, hs⟩
  obtain ⟨hmk, hch, hfy, hfp, hpz, hds, hwr⟩ := id I
  have hwb := pm_cc_b fy 60
  refine lv_iload hx hb dL_law_648 (lv_at hl 5 rfl) ?_
  refine lv_bipush (v := (nI 8)) hx hb dL_law_650 (by decide) ?_
  refine lv_ishr hx hb dL_law_652 ?_
  refine lv_ldc (v := nI 65535) hx hb hown (hts (.constant RL 132 (65535)) (by decide +kernel)) dL_law_653 ?_
  refine lv_iand hx hb dL_law_655 ?_
  obtain ⟨v1, ha1, hb1_⟩ := pg_and ((yy >>> (nI 8 &&& 31))) 16 (m := nI 65535) (by decide)
  refine pn_top (y := nI v1) ha1 ?_
  refine lv_istore (lv' := [(13, .int (nI v1)), (12, .int (nI dd)), (11, .int (nI se)), (10, .int (nI fa)), (9, .int (nI yr)), (8, .int (nI n)), (7, .int yy), (6, .int x), (5, .int (nI j)), (4, .int (nI tn)), (3, .int (nI 1)), (2, .int (nI wr)), (1, .ref h0), (0, .ref b)]) hx hb dL_law_656 hl (by decide) rfl (fun ls hl => ?_)
  refine lv_aload_n hx hb dL_law_658 rfl (lv_at hl 12 rfl) ?_
  refine lv_iload hx hb dL_law_659 (lv_at hl 5 rfl) ?_
  refine lv_iload hx hb dL_law_661 (lv_at hl 0 rfl) ?_
  by_cases hle : pm_lw n + v1 ≤ 1094999
  · -- an end
    refine pz_SRW (rest := []) ⟨hx, hb, hml, hown, hts⟩ (k_L_ends l D h0 ac ay ap cyI ([]) mk ch fy fp n v1 (by omega) (by omega) (by exact hle)) (vx_cwSW 3 hts gL_law_L_ends rfl rfl rfl (by decide +kernel) ⟨Nat.le_of_ble_eq_true rfl, Nat.le_of_ble_eq_true rfl⟩) hK hP (hD.weaken (fun _ _ _ _ => trivial)) hS hA [0, 1, 2, 3] rfl rfl rfl rfl hl.1 rfl (lv_room (Nat.le_of_ble_eq_true rfl)) dL_law_663 f0 (fun r H locs hr hP hS => ?_)
    obtain rfl : r = (nI (pg_E (pm_lw n + v1))) := hr
    have hE := pg_end (pm_lw n + v1)
    have hT := pg_term (n := n) (d := v1) (by omega) hle
    obtain ⟨ee, hee, he1, he2, he3, he4, he5⟩ : ∃ z : Nat, nI (pg_E (pm_lw n + v1)) = nI z ∧ z < 1095750 ∧ pm_lw z = pm_lw n + v1 ∧ pm_dl z = 0 ∧ n + v1 ≤ z ∧ z ≤ n + v1 + v1 / 1460 + 2 := ⟨_, rfl, hT.1, hE.1, by unfold pm_dl; rw [if_neg hE.2], hT.2.1, hT.2.2⟩
    refine pn_top (y := nI ee) hee ?_
    have hlb := pm_lw_b n
    refine lv_istore (lv' := [(14, .int (nI ee)), (13, .int (nI v1)), (12, .int (nI dd)), (11, .int (nI se)), (10, .int (nI fa)), (9, .int (nI yr)), (8, .int (nI n)), (7, .int yy), (6, .int x), (5, .int (nI j)), (4, .int (nI tn)), (3, .int (nI 1)), (2, .int (nI wr)), (1, .ref h0), (0, .ref b)]) hx hb dL_law_666 hl (by decide) rfl (fun ls hl => ?_)
    refine lv_iload hx hb dL_law_668 (lv_at hl 0 rfl) ?_
    refine lv_bipush (v := (-3 : Int32)) hx hb dL_law_670 (by decide) ?_
    refine pi_icmp_ne (tgt := 701) (a := ((ee : Nat) : Int)) (b := (-3)) hx hb (nI_toInt (by first | omega | exact hch | exact hmk | exact hfy | exact hfp | exact hpz | exact hds)) (by decide) dL_law_672 (by decide) (fun c_3 => ?_) (fun c_3 => ?_)
    · -- 672 yes
      refine lv_aload_n hx hb dL_law_701 rfl (lv_at hl 13 rfl) ?_
      refine lv_iload hx hb dL_law_702 (lv_at hl 0 rfl) ?_
      refine pz_VR (rest := []) ⟨hx, hb, hml, hown, hts⟩ (k_X0_lawNumber l D h0 ac ay ap cyI ([]) mk ch fy fp ee (by first | omega | exact hch | exact hmk | exact hfy | exact hfp | exact hpz | exact hds)) (cwV 1 hts gL_law_X0_lawNumber rfl rfl rfl (by decide +kernel) ⟨Nat.le_of_ble_eq_true rfl, Nat.le_of_ble_eq_true rfl⟩) hK hP (hD.weaken (fun _ _ _ _ => trivial)) hS hA [0, 1, 2, 3] rfl rfl rfl 0 0 rfl rfl rfl hl.1 rfl (lv_room (Nat.le_of_ble_eq_true rfl)) dL_law_704 f0 (fun r H locs hr hP hS => ?_)
      obtain rfl : r = (nI (pm_lw ee)) := hr
      refine lv_aload_n hx hb dL_law_707 rfl (lv_at hl 13 rfl) ?_
      refine lv_iload hx hb dL_law_708 (lv_at hl 6 rfl) ?_
      refine pz_VR (rest := [.int (nI (pm_lw ee))]) ⟨hx, hb, hml, hown, hts⟩ (k_X0_lawNumber l D h0 ac ay ap cyI ([]) mk ch fy fp n (by first | omega | exact hch | exact hmk | exact hfy | exact hfp | exact hpz | exact hds)) (cwV 1 hts gL_law_X0_lawNumber rfl rfl rfl (by decide +kernel) ⟨Nat.le_of_ble_eq_true rfl, Nat.le_of_ble_eq_true rfl⟩) hK hP (hD.weaken (fun _ _ _ _ => trivial)) hS hA [0, 1, 2, 3] rfl rfl rfl 0 0 rfl rfl rfl hl.1 rfl (lv_room (Nat.le_of_ble_eq_true rfl)) dL_law_710 f0 (fun r H locs hr hP hS => ?_)
      obtain rfl : r = (nI (pm_lw n)) := hr
      refine lv_iload hx hb dL_law_713 (lv_at hl 1 rfl) ?_
      refine pn_iadd hx hb dL_law_715 ?_
      refine pn_icmp_ne (tgt := 761) hx hb (by first | omega | exact hch | exact hmk | exact hfy | exact hfp | exact hpz | exact hds) (by first | omega | exact hch | exact hmk | exact hfy | exact hfp | exact hpz | exact hds) dL_law_716 (by decide) (fun c_6 => ?_) (fun c_6 => ?_)
      · -- 716 yes
        exfalso; omega
      · -- 716 no
        refine lv_aload_n hx hb dL_law_719 rfl (lv_at hl 13 rfl) ?_
        refine lv_iload hx hb dL_law_720 (lv_at hl 0 rfl) ?_
        refine pz_VR (rest := []) ⟨hx, hb, hml, hown, hts⟩ (k_X0_isDoubled l D h0 ac ay ap cyI ([]) mk ch fy fp ee (by first | omega | exact hch | exact hmk | exact hfy | exact hfp | exact hpz | exact hds)) (cwV 1 hts gL_law_X0_isDoubled rfl rfl rfl (by decide +kernel) ⟨Nat.le_of_ble_eq_true rfl, Nat.le_of_ble_eq_true rfl⟩) hK hP (hD.weaken (fun _ _ _ _ => trivial)) hS hA [0, 1, 2, 3] rfl rfl rfl 0 0 rfl rfl rfl hl.1 rfl (lv_room (Nat.le_of_ble_eq_true rfl)) dL_law_722 f0 (fun r H locs hr hP hS => ?_)
        obtain rfl : r = (pz_b (ee % 1461 = 1149)) := hr
        refine pn_top (y := nI (pm_dl ee)) (pg_dl ee) ?_
        refine pn_if_ne (tgt := 761) hx hb (by first | omega | exact hch | exact hmk | exact hfy | exact hfp | exact hpz | exact hds) dL_law_725 (by decide) (fun c_8 => ?_) (fun c_8 => ?_)
        · -- 725 yes
          exfalso; omega
        · -- 725 no
          refine lv_iload hx hb dL_law_728 (lv_at hl 0 rfl) ?_
          refine lv_iload hx hb dL_law_730 (lv_at hl 6 rfl) ?_
          refine lv_iload hx hb dL_law_732 (lv_at hl 1 rfl) ?_
          refine pn_iadd hx hb dL_law_734 ?_
          refine pn_icmp_lt (tgt := 761) hx hb (by first | omega | exact hch | exact hmk | exact hfy | exact hfp | exact hpz | exact hds) (by first | omega | exact hch | exact hmk | exact hfy | exact hfp | exact hpz | exact hds) dL_law_735 (by decide) (fun c_9 => ?_) (fun c_9 => ?_)
          · -- 735 yes
            exfalso; omega
          · -- 735 no
            refine lv_iload hx hb dL_law_738 (lv_at hl 0 rfl) ?_
            refine lv_iload hx hb dL_law_740 (lv_at hl 6 rfl) ?_
            refine lv_iload hx hb dL_law_742 (lv_at hl 1 rfl) ?_
            refine pn_iadd hx hb dL_law_744 ?_
            refine lv_iload hx hb dL_law_745 (lv_at hl 1 rfl) ?_
            refine lv_sipush (v := (nI 1460)) hx hb dL_law_747 (by decide) ?_
            refine pn_idiv hx hb (by first | omega | exact hch | exact hmk | exact hfy | exact hfp | exact hpz | exact hds) (by first | omega | exact hch | exact hmk | exact hfy | exact hfp | exact hpz | exact hds) (by first | omega | exact hch | exact hmk | exact hfy | exact hfp | exact hpz | exact hds) dL_law_750 ?_
            refine pn_iadd hx hb dL_law_751 ?_
            refine lv_iconst (v := (nI 2)) hx hb dL_law_752 (by decide) ?_
            refine pn_iadd hx hb dL_law_753 ?_
            refine pn_icmp_gt (tgt := 761) hx hb (by first | omega | exact hch | exact hmk | exact hfy | exact hfp | exact hpz | exact hds) (by first | omega | exact hch | exact hmk | exact hfy | exact hfp | exact hpz | exact hds) dL_law_754 (by decide) (fun c_10 => ?_) (fun c_10 => ?_)
            · -- 754 yes
              exfalso; omega
            · -- 754 no
              refine lv_iconst (v := (nI 1)) hx hb dL_law_757 (by decide) ?_
              refine lv_goto (tgt := 762) hx hb dL_law_758 (by decide) ?_
              refine lv_istore_n (lv' := [(3, .int (nI 1)), (14, .int (nI ee)), (13, .int (nI v1)), (12, .int (nI dd)), (11, .int (nI se)), (10, .int (nI fa)), (9, .int (nI yr)), (8, .int (nI n)), (7, .int yy), (6, .int x), (5, .int (nI j)), (4, .int (nI tn)), (2, .int (nI wr)), (1, .ref h0), (0, .ref b)]) hx hb dL_law_762 rfl hl (by decide) rfl (fun ls hl => ?_)
              refine W.widen (k := cells + 1) (n := slots + 6) (by omega) (by omega) ?_
              have hw9 : wr = pm_cc fy 60 := by omega
              exact K H _ ls ⟨mk, wr, ch, fy, fp, ⟨hmk, hch, hfy, hfp, hpz, hds, hw9⟩, hP, hD, hS, lv_sub hl [6, 7, 10, 11, 0, 12, 13, 14] rfl⟩
    · -- 672 no
      exfalso; omega
  · -- behind the last day
    have hl9 : pm_lw 1095749 = 1094999 := by decide
    have hlb := pm_lw_b n
    refine pz_SRX (rest := []) ⟨hx, hb, hml, hown, hts⟩ (k_L_ends_x3 l hfl D h0 ac ay ap cyI [] mk ch fy fp n v1 (by omega) (by omega) (by omega)) (vx_cwSW 3 hts gL_law_L_ends rfl rfl rfl (by decide +kernel) ⟨Nat.le_of_ble_eq_true rfl, Nat.le_of_ble_eq_true rfl⟩) hK hP (hD.weaken (fun _ _ _ _ => trivial)) hS hth hnc [0, 1, 2, 3] rfl rfl rfl rfl hl.1 rfl (lv_room (Nat.le_of_ble_eq_true rfl)) dL_law_663 f1 (fun r H locs hg hr hP hS => ?_)
    obtain rfl : r = (-3 : Int32) := hr
    refine lv_istore (lv' := [(14, .int (-3 : Int32)), (13, .int (nI v1)), (12, .int (nI dd)), (11, .int (nI se)), (10, .int (nI fa)), (9, .int (nI yr)), (8, .int (nI n)), (7, .int yy), (6, .int x), (5, .int (nI j)), (4, .int (nI tn)), (3, .int (nI 1)), (2, .int (nI wr)), (1, .ref h0), (0, .ref b)]) hx hb dL_law_666 hl (by decide) rfl (fun ls hl => ?_)
    refine lv_iload hx hb dL_law_668 (lv_at hl 0 rfl) ?_
    refine lv_bipush (v := (-3 : Int32)) hx hb dL_law_670 (by decide) ?_
    refine pi_icmp_ne (tgt := 701) (a := (-3)) (b := (-3)) hx hb (by decide +kernel) (by decide +kernel) dL_law_672 (by decide) (fun h9 => absurd h9 (by decide)) (fun _ => ?_)
    refine lv_aload_n hx hb dL_law_675 rfl (lv_at hl 13 rfl) ?_
    refine lv_iload hx hb dL_law_676 (lv_at hl 6 rfl) ?_
    refine pz_VR (rest := []) ⟨hx, hb, hml, hown, hts⟩ (k_X0_lawNumber l D h0 ac ay ap cyI ([]) mk ch fy fp n (by first | omega | exact hch | exact hmk | exact hfy | exact hfp | exact hpz | exact hds)) (cwV 1 hts gL_law_X0_lawNumber rfl rfl rfl (by decide +kernel) ⟨Nat.le_of_ble_eq_true rfl, Nat.le_of_ble_eq_true rfl⟩) hK hP (hD.weaken (fun _ _ _ _ => trivial)) hS hA [0, 1, 2, 3] rfl rfl rfl 0 0 rfl rfl rfl hl.1 rfl (lv_room (Nat.le_of_ble_eq_true rfl)) dL_law_678 f2 (fun r H locs hr hP hS => ?_)
    obtain rfl : r = (nI (pm_lw n)) := hr
    refine lv_iload hx hb dL_law_681 (lv_at hl 1 rfl) ?_
    refine pn_iadd hx hb dL_law_683 ?_
    refine lv_aload_n hx hb dL_law_684 rfl (lv_at hl 13 rfl) ?_
    refine lv_ldc (v := nI 1095749) hx hb hown (hts (.constant RL 126 (1095749)) (by decide +kernel)) dL_law_685 ?_
    refine pz_VR (rest := [.int (nI ((pm_lw n) + v1))]) ⟨hx, hb, hml, hown, hts⟩ (k_X0_lawNumber l D h0 ac ay ap cyI ([]) mk ch fy fp 1095749 (by first | omega | exact hch | exact hmk | exact hfy | exact hfp | exact hpz | exact hds)) (cwV 1 hts gL_law_X0_lawNumber rfl rfl rfl (by decide +kernel) ⟨Nat.le_of_ble_eq_true rfl, Nat.le_of_ble_eq_true rfl⟩) hK hP (hD.weaken (fun _ _ _ _ => trivial)) hS hA [0, 1, 2, 3] rfl rfl rfl 0 0 rfl rfl rfl hl.1 rfl (lv_room (Nat.le_of_ble_eq_true rfl)) dL_law_687 f2 (fun r H locs hr hP hS => ?_)
    obtain rfl : r = (nI (pm_lw 1095749)) := hr
    refine pn_icmp_le (tgt := 697) hx hb (by first | omega | exact hch | exact hmk | exact hfy | exact hfp | exact hpz | exact hds) (by first | omega | exact hch | exact hmk | exact hfy | exact hfp | exact hpz | exact hds) dL_law_690 (by decide) (fun c_13 => ?_) (fun c_13 => ?_)
    · -- 690 yes
      exfalso; omega
    · -- 690 no
      refine lv_iconst (v := (nI 1)) hx hb dL_law_693 (by decide) ?_
      refine lv_goto (tgt := 762) hx hb dL_law_694 (by decide) ?_
      refine lv_istore_n (lv' := [(3, .int (nI 1)), (14, .int (-3 : Int32)), (13, .int (nI v1)), (12, .int (nI dd)), (11, .int (nI se)), (10, .int (nI fa)), (9, .int (nI yr)), (8, .int (nI n)), (7, .int yy), (6, .int x), (5, .int (nI j)), (4, .int (nI tn)), (2, .int (nI wr)), (1, .ref h0), (0, .ref b)]) hx hb dL_law_762 rfl hl (by decide) rfl (fun ls hl => ?_)
      have hw9 : wr = pm_cc fy 60 := by omega
      exact K H _ ls ⟨mk, wr, ch, fy, fp, ⟨hmk, hch, hfy, hfp, hpz, hds, hw9⟩, hP, hD, hS, lv_sub hl [6, 7, 10, 11, 0, 12, 13, 14] rfl⟩
