/-! ===== the script of 180 eights: each turn strikes consuls that no year has, and throws: 180 new cells beside the calendar's own 4 ===== -/
def p36_R : Room := { frames := 12, cells := 200, slots := 2000, locals := 450 }
def p36_Q (_ : Array Value) (s : State) (o : Outcome) (t : State) : Prop := o = .returned (some (.int 1)) ∧ s.heap.size + 180 ≤ t.heap.size
section PZW
variable {p : Program} {l : Launch} {e : Env} {R : Room} {s : State} {m : MethodId} {args : Array Value} {below : List Frame} {meth : Method} {c : Code} {H : Heap} {locs : List Loc} {cells slots : Nat} {Q : State → Prop}
variable {cc : ByteArray} {pc : Nat} {ls : Array Slot} {rest : List Value}
/-- an int of the script -/
theorem pn_sld (hx : p.tables.exec = Jvm.exec) (hb : c.code = cc) {b L : Nat} {xs : Nat → Int32} (hX : va_X b L xs s s.heap) (hbl : b < s.heap.size) (hS : va_S (fun q : Nat => s.heap.size ≤ q) s.heap H locs) {k : Nat} {v : Int32} (hk : k < L) (hL : L ≤ 3072) (he : xs k = v) (hd : decode cc pc = .ok (.iaload, 1))
    (kk : W p l e R s m args below meth c H locs cells slots Q (F0 m (pc + 1) ls (.int v :: rest))) : W p l e R s m args below meth c H locs cells slots Q (F0 m pc ls (.int (nI k) :: .ref b :: rest)) :=
  va_sld hx hb hX hbl (Nat.not_le.mpr hbl) hS (vp_in_nI hk (by omega)) hd (by rw [nI_clamp (by omega), he]; exact kk)
end PZW
theorem pq_apart {A : Nat → Prop} {ws ws' : va_W} (h : ws'.map Prod.fst = ws.map Prod.fst) (hD : va_D A ws) : va_D (fun _ => True) ws' := by
  have h1 : ∀ (i : Nat) (p : Nat × va_E), ws'[i]? = some p → ∃ q, ws[i]? = some q ∧ q.1 = p.1 := fun i p hp => by
    have h2 : (ws.map Prod.fst)[i]? = some p.1 := by rw [← h, List.getElem?_map, hp]; rfl
    rw [List.getElem?_map] at h2
    cases hq : ws[i]? with
    | none => rw [hq] at h2; cases h2
    | some q => rw [hq] at h2; exact ⟨q, rfl, Option.some.inj h2⟩
  refine ⟨fun i j p q hi hj he => ?_, fun _ _ _ => trivial⟩
  obtain ⟨p1, a1, a2⟩ := h1 i p hi
  obtain ⟨q1, b1, b2⟩ := h1 j q hj
  exact hD.1 i j p1 q1 a1 b1 (by rw [a2, b2]; exact he)
set_option maxHeartbeats 4000000 in
set_option maxRecDepth 100000 in
theorem p36_loop {p : Program} {l : Launch} {e : Env} {s : State} {m : MethodId} {below : List Frame} {meth : Method} {c : Code} {D : va_G} {cyI : ClassId} {b : Nat} {xs : Nat → Int32} {h0 ac ay ap : Nat} (hfl : l.stackTraces = false) (hr : meth.sig.returnType = ret) (hlocks : meth.locks = false) (hx : p.tables.exec = Jvm.exec) (hb : c.code = cL_law) (hml : c.maxLocals = 16) (hown : s.vm.findClass RL = some m.cls) (hts : ∀ w ∈ wsL_law, w.before #[Value.ref b] s = true) (hX : va_X b 180 xs s s.heap) (hxs : ∀ j, j < 180 → xs j = nI 8) (hbl : b < s.heap.size) (hth : pz_thr s.heap.size s) (hnc : pz_NC s) (hK : va_K D vwCl [(cyI, .int)] s) (hD : va_D (fun _ => True) [(h0, .inr (0, [.ref ac, .ref ay, .ref ap, .int (nI 0)])), (ac, .inl (cyI, 365, .inl (pz_ar (pq_c 12)))), (ay, .inl (cyI, 60, .inl (pz_ar pq_z))), (ap, .inl (cyI, 60, .inl (pz_ar pq_z)))]) : ∀ (N j : Nat) (H : Heap) (locs : List Loc) (ls : Array Slot), 180 - j < N → j ≤ 180 → va_P D vwCl [(h0, .inr (0, [.ref ac, .ref ay, .ref ap, .int (nI 0)])), (ac, .inl (cyI, 365, .inl (pz_ar (pq_c 12)))), (ay, .inl (cyI, 60, .inl (pz_ar pq_z))), (ap, .inl (cyI, 60, .inl (pz_ar pq_z)))] H → va_S (fun q : Nat => s.heap.size ≤ q) s.heap H locs → s.heap.size + j ≤ H.size → lv_has ls 16 [(5, .int (nI j)), (4, .int (nI 180)), (3, .int (nI 1)), (2, .int (nI 0)), (1, .ref h0), (0, .ref b)] → W p l e p36_R s m #[Value.ref b] below meth c H locs (4 + j) (489 + 6 * j) (MQ below p36_Q #[Value.ref b] s 184 1569 (fun q : Nat => s.heap.size ≤ q)) (F0 m 84 ls []) := by
  have hA : ∀ q : Nat, s.heap.size ≤ q → (fun q : Nat => s.heap.size ≤ q) q := fun _ h => h
  intro N
  induction N with
  | zero => intro j H locs ls h1; exact absurd h1 (Nat.not_lt_zero _)
  | succ N ih =>
    intro j H locs ls hN hj hP hS hz hl
    refine lv_iload hx hb dL_law_84 (lv_at hl 0 rfl) ?_
    refine lv_iload hx hb dL_law_86 (lv_at hl 1 rfl) ?_
    refine pn_icmp_ge (tgt := 815) hx hb (by omega) (by decide) dL_law_88 (by decide) (fun hj2 => ?_) (fun hj2 => ?_)
    · refine lv_iload_n hx hb dL_law_815 rfl (lv_at hl 2 rfl) ?_
      refine W.widen (k := 184) (n := 1569) (by omega) (by omega) ?_
      exact W.zret (ty := .boolean) (v := nI 1) hx hb hr (by decide) (fun t ht hW => ⟨rfl, by rw [ht]; omega⟩) hS.2.2 dL_law_816 hlocks
    · have hj3 : j < 180 := by omega
      have f0 : (4 + j) + 0 ≤ p36_R.cells ∧ (489 + 6 * j) + 0 ≤ p36_R.slots := ⟨by show _ ≤ 200; omega, by show _ ≤ 2000; omega⟩
      have f1 : (4 + j) + 1 ≤ p36_R.cells ∧ (489 + 6 * j) + 6 ≤ p36_R.slots := ⟨by show _ ≤ 200; omega, by show _ ≤ 2000; omega⟩
      have f2 : (4 + j + 1) + 0 ≤ p36_R.cells ∧ (489 + 6 * j + 6) + 0 ≤ p36_R.slots := ⟨by show _ ≤ 200; omega, by show _ ≤ 2000; omega⟩
      refine lv_iload_n hx hb dL_law_91 rfl (lv_at hl 2 rfl) ?_
      refine pi_if_eq (tgt := 815) (a := (1)) hx hb (by decide +kernel) dL_law_92 (by decide) (fun h9 => absurd h9 (by decide)) (fun _ => ?_)
      refine lv_iload hx hb dL_law_95 (lv_at hl 0 rfl) ?_
      refine lv_aload_n hx hb dL_law_97 rfl (lv_at hl 5 rfl) ?_
      refine va_slen hx hb hX hbl (Nat.not_le.mpr hbl) hS dL_law_98 ?_
      refine pn_top (y := nI 180) rfl ?_
      refine pn_icmp_ge (tgt := 109) hx hb (by first | exact pq_c3 | decide | omega | decide +kernel) (by first | exact pq_c3 | decide | omega | decide +kernel) dL_law_99 (by decide) (fun c_2 => ?_) (fun c_2 => ?_)
      · -- 99 yes
        exfalso; omega
      · -- 99 no
        refine lv_aload_n hx hb dL_law_102 rfl (lv_at hl 5 rfl) ?_
        refine lv_iload hx hb dL_law_103 (lv_at hl 0 rfl) ?_
        refine pn_sld (L := 180) (v := nI 8) hx hb hX hbl hS hj3 (by decide) (hxs _ hj3) dL_law_105 ?_
        refine lv_goto (tgt := 127) hx hb dL_law_106 (by decide) ?_
        refine lv_istore (lv' := [(6, .int (nI 8)), (5, .int (nI j)), (4, .int (nI 180)), (3, .int (nI 1)), (2, .int (nI 0)), (1, .ref h0), (0, .ref b)]) hx hb dL_law_127 hl (by decide) rfl (fun ls hl => ?_)
        refine lv_iload hx hb dL_law_129 (lv_at hl 0 rfl) ?_
        refine lv_iconst (v := (nI 4)) hx hb dL_law_131 (by decide) ?_
        refine lv_ishr hx hb dL_law_132 ?_
        refine pn_top (y := (nI 0)) (by decide +kernel) ?_
        refine lv_istore (lv' := [(7, .int (nI 0)), (6, .int (nI 8)), (5, .int (nI j)), (4, .int (nI 180)), (3, .int (nI 1)), (2, .int (nI 0)), (1, .ref h0), (0, .ref b)]) hx hb dL_law_133 hl (by decide) rfl (fun ls hl => ?_)
        refine lv_iload hx hb dL_law_135 (lv_at hl 0 rfl) ?_
        refine lv_ldc (v := nI 2097151) hx hb hown (hts (.constant RL 131 (2097151)) (by decide +kernel)) dL_law_137 ?_
        refine lv_iand hx hb dL_law_139 ?_
        refine pn_top (y := (nI 0)) (by decide +kernel) ?_
        refine lv_ldc (v := nI 1095749) hx hb hown (hts (.constant RL 126 (1095749)) (by decide +kernel)) dL_law_140 ?_
        refine lv_irem hx hb dL_law_142 (by decide +kernel) ?_
        refine pn_top (y := (nI 0)) (by decide +kernel) ?_
        refine lv_istore (lv' := [(8, .int (nI 0)), (7, .int (nI 0)), (6, .int (nI 8)), (5, .int (nI j)), (4, .int (nI 180)), (3, .int (nI 1)), (2, .int (nI 0)), (1, .ref h0), (0, .ref b)]) hx hb dL_law_143 hl (by decide) rfl (fun ls hl => ?_)
        refine lv_iconst (v := (nI 1)) hx hb dL_law_145 (by decide) ?_
        refine lv_iload hx hb dL_law_146 (lv_at hl 1 rfl) ?_
        refine lv_ldc (v := nI 65535) hx hb hown (hts (.constant RL 132 (65535)) (by decide +kernel)) dL_law_148 ?_
        refine lv_iand hx hb dL_law_150 ?_
        refine pn_top (y := (nI 0)) (by decide +kernel) ?_
        refine lv_iload hx hb dL_law_151 (lv_at hl 2 rfl) ?_
        refine lv_bipush (v := (nI 16)) hx hb dL_law_153 (by decide) ?_
        refine lv_iand hx hb dL_law_155 ?_
        refine pn_top (y := (nI 0)) (by decide +kernel) ?_
        refine pi_if_ne (tgt := 165) (a := (0)) hx hb (by decide +kernel) dL_law_156 (by decide) (fun h9 => absurd h9 (by decide)) (fun _ => ?_)
        refine lv_sipush (v := (nI 3000)) hx hb dL_law_159 (by decide) ?_
        refine lv_goto (tgt := 167) hx hb dL_law_162 (by decide) ?_
        refine lv_irem hx hb dL_law_167 (by decide +kernel) ?_
        refine pn_top (y := (nI 0)) (by decide +kernel) ?_
        refine lv_iadd hx hb dL_law_168 ?_
        refine pn_top (y := (nI 1)) (by decide +kernel) ?_
        refine lv_istore (lv' := [(9, .int (nI 1)), (8, .int (nI 0)), (7, .int (nI 0)), (6, .int (nI 8)), (5, .int (nI j)), (4, .int (nI 180)), (3, .int (nI 1)), (2, .int (nI 0)), (1, .ref h0), (0, .ref b)]) hx hb dL_law_169 hl (by decide) rfl (fun ls hl => ?_)
        refine lv_iconst (v := (nI 1)) hx hb dL_law_171 (by decide) ?_
        refine lv_iload hx hb dL_law_172 (lv_at hl 2 rfl) ?_
        refine lv_bipush (v := (nI 8)) hx hb dL_law_174 (by decide) ?_
        refine lv_ishr hx hb dL_law_176 ?_
        refine pn_top (y := (nI 0)) (by decide +kernel) ?_
        refine lv_iconst (v := (nI 3)) hx hb dL_law_177 (by decide) ?_
        refine lv_iand hx hb dL_law_178 ?_
        refine pn_top (y := (nI 0)) (by decide +kernel) ?_
        refine lv_iadd hx hb dL_law_179 ?_
        refine pn_top (y := (nI 1)) (by decide +kernel) ?_
        refine lv_istore (lv' := [(10, .int (nI 1)), (9, .int (nI 1)), (8, .int (nI 0)), (7, .int (nI 0)), (6, .int (nI 8)), (5, .int (nI j)), (4, .int (nI 180)), (3, .int (nI 1)), (2, .int (nI 0)), (1, .ref h0), (0, .ref b)]) hx hb dL_law_180 hl (by decide) rfl (fun ls hl => ?_)
        refine lv_iconst (v := (nI 1)) hx hb dL_law_182 (by decide) ?_
        refine lv_iload hx hb dL_law_183 (lv_at hl 3 rfl) ?_
        refine lv_bipush (v := (nI 10)) hx hb dL_law_185 (by decide) ?_
        refine lv_ishr hx hb dL_law_187 ?_
        refine pn_top (y := (nI 0)) (by decide +kernel) ?_
        refine lv_iconst (v := (nI 3)) hx hb dL_law_188 (by decide) ?_
        refine lv_iand hx hb dL_law_189 ?_
        refine pn_top (y := (nI 0)) (by decide +kernel) ?_
        refine lv_iadd hx hb dL_law_190 ?_
        refine pn_top (y := (nI 1)) (by decide +kernel) ?_
        refine lv_istore (lv' := [(11, .int (nI 1)), (10, .int (nI 1)), (9, .int (nI 1)), (8, .int (nI 0)), (7, .int (nI 0)), (6, .int (nI 8)), (5, .int (nI j)), (4, .int (nI 180)), (3, .int (nI 1)), (2, .int (nI 0)), (1, .ref h0), (0, .ref b)]) hx hb dL_law_191 hl (by decide) rfl (fun ls hl => ?_)
        refine lv_iload hx hb dL_law_193 (lv_at hl 5 rfl) ?_
        refine lv_bipush (v := (nI 15)) hx hb dL_law_195 (by decide) ?_
        refine lv_iand hx hb dL_law_197 ?_
        refine pn_top (y := (nI 8)) (by decide +kernel) ?_
        refine lv_istore (lv' := [(12, .int (nI 8)), (11, .int (nI 1)), (10, .int (nI 1)), (9, .int (nI 1)), (8, .int (nI 0)), (7, .int (nI 0)), (6, .int (nI 8)), (5, .int (nI j)), (4, .int (nI 180)), (3, .int (nI 1)), (2, .int (nI 0)), (1, .ref h0), (0, .ref b)]) hx hb dL_law_198 hl (by decide) rfl (fun ls hl => ?_)
        refine lv_iload hx hb dL_law_200 (lv_at hl 0 rfl) ?_
        refine lv_iconst (v := (nI 5)) hx hb dL_law_202 (by decide) ?_
        refine pi_icmp_ge (tgt := 263) (a := (8)) (b := (5)) hx hb (by decide +kernel) (by decide +kernel) dL_law_203 (by decide) (fun _ => ?_) (fun h9 => absurd h9 (by decide))
        refine lv_iload hx hb dL_law_263 (lv_at hl 0 rfl) ?_
        refine lv_bipush (v := (nI 8)) hx hb dL_law_265 (by decide) ?_
        refine pi_icmp_ge (tgt := 406) (a := (8)) (b := (8)) hx hb (by decide +kernel) (by decide +kernel) dL_law_267 (by decide) (fun _ => ?_) (fun h9 => absurd h9 (by decide))
        refine lv_iload hx hb dL_law_406 (lv_at hl 0 rfl) ?_
        refine lv_bipush (v := (nI 8)) hx hb dL_law_408 (by decide) ?_
        refine pi_icmp_ne (tgt := 485) (a := (8)) (b := (8)) hx hb (by decide +kernel) (by decide +kernel) dL_law_410 (by decide) (fun h9 => absurd h9 (by decide)) (fun _ => ?_)
        refine lv_aload_n hx hb dL_law_413 rfl (lv_at hl 11 rfl) ?_
        refine lv_iload hx hb dL_law_414 (lv_at hl 3 rfl) ?_
        refine pz_VRg (rest := []) ⟨hx, hb, hml, hown, hts⟩ (k_X0_consulsOf l D h0 ac ay ap cyI ([]) 0 (pq_c 12) pq_z pq_z 1 (by first | exact pq_c3 | decide | omega | decide +kernel) (by first | exact pq_c3 | decide | omega | decide +kernel) (by first | exact pq_c3 | decide | omega | decide +kernel) (by first | exact pq_c3 | decide | omega | decide +kernel)) (cwV 1 hts gL_law_X0_consulsOf rfl rfl rfl (by decide +kernel) ⟨Nat.le_of_ble_eq_true rfl, Nat.le_of_ble_eq_true rfl⟩) hK hP hD hS hA [0, 1, 2, 3] rfl rfl rfl 0 0 rfl rfl rfl hl.1 rfl (lv_room (Nat.le_of_ble_eq_true rfl)) dL_law_416 f0 (fun r H locs hg hr hP hS => ?_)
        have hr_7 : (fun r => (r = (-1) ∧ ∀ j, j < 60 → ¬ pq_z j = 1) ∨ ∃ i, i < 60 ∧ r = nI (pq_z i) ∧ pq_z i = 1) r := hr
        obtain ⟨r_7, er_7⟩ : ∃ z, z = r := ⟨_, rfl⟩
        subst er_7
        have hz := Nat.le_trans hz hg
        obtain rfl : r_7 = (-1 : Int32) := by rcases hr_7 with ⟨h, _⟩ | ⟨i, _, _, h⟩; (exact h); (exact absurd (show (0 : Nat) = 1 from h) (by decide))
        refine pi_if_le (tgt := 426) (a := (-1)) hx hb (by decide +kernel) dL_law_419 (by decide) (fun _ => ?_) (fun h9 => absurd h9 (by decide))
        refine lv_iconst (v := (nI 0)) hx hb dL_law_426 (by decide) ?_
        refine lv_istore (lv' := [(13, .int (nI 0)), (12, .int (nI 8)), (11, .int (nI 1)), (10, .int (nI 1)), (9, .int (nI 1)), (8, .int (nI 0)), (7, .int (nI 0)), (6, .int (nI 8)), (5, .int (nI j)), (4, .int (nI 180)), (3, .int (nI 1)), (2, .int (nI 0)), (1, .ref h0), (0, .ref b)]) hx hb dL_law_427 hl (by decide) rfl (fun ls hl => ?_)
        refine lv_aload_n hx hb dL_law_429 rfl (lv_at hl 12 rfl) ?_
        refine lv_iload hx hb dL_law_430 (lv_at hl 4 rfl) ?_
        refine pz_SRX (rest := []) ⟨hx, hb, hml, hown, hts⟩ (k_L_strikes_x2 l hfl D h0 ac ay ap cyI []) (vx_cwSW 2 hts gL_law_L_strikes rfl rfl rfl (by decide +kernel) ⟨Nat.le_of_ble_eq_true rfl, Nat.le_of_ble_eq_true rfl⟩) hK hP hD hS hth hnc [0, 1, 2, 3] rfl rfl rfl rfl hl.1 rfl (lv_room (Nat.le_of_ble_eq_true rfl)) dL_law_432 f1 (fun r H locs hg hr hP hS => ?_)
        obtain rfl : r = (-3 : Int32) := hr
        have hz := Nat.le_trans (Nat.succ_le_succ hz) hg
        refine lv_istore (lv' := [(14, .int (-3 : Int32)), (13, .int (nI 0)), (12, .int (nI 8)), (11, .int (nI 1)), (10, .int (nI 1)), (9, .int (nI 1)), (8, .int (nI 0)), (7, .int (nI 0)), (6, .int (nI 8)), (5, .int (nI j)), (4, .int (nI 180)), (3, .int (nI 1)), (2, .int (nI 0)), (1, .ref h0), (0, .ref b)]) hx hb dL_law_435 hl (by decide) rfl (fun ls hl => ?_)
        refine lv_iload_n hx hb dL_law_437 rfl (lv_at hl 12 rfl) ?_
        refine lv_iload hx hb dL_law_438 (lv_at hl 1 rfl) ?_
        refine pi_if_eq (tgt := 447) (a := (0)) hx hb (by decide +kernel) dL_law_440 (by decide) (fun _ => ?_) (fun h9 => absurd h9 (by decide))
        refine lv_iconst (v := (nI 0)) hx hb dL_law_447 (by decide) ?_
        refine lv_isub hx hb dL_law_448 ?_
        refine pn_top (y := (nI 0)) (by decide +kernel) ?_
        refine lv_istore_n (lv' := [(2, .int (nI 0)), (14, .int (-3 : Int32)), (13, .int (nI 0)), (12, .int (nI 8)), (11, .int (nI 1)), (10, .int (nI 1)), (9, .int (nI 1)), (8, .int (nI 0)), (7, .int (nI 0)), (6, .int (nI 8)), (5, .int (nI j)), (4, .int (nI 180)), (3, .int (nI 1)), (1, .ref h0), (0, .ref b)]) hx hb dL_law_449 rfl hl (by decide) rfl (fun ls hl => ?_)
        refine lv_iload hx hb dL_law_450 (lv_at hl 1 rfl) ?_
        refine lv_iload hx hb dL_law_452 (lv_at hl 2 rfl) ?_
        refine pi_if_eq (tgt := 461) (a := (0)) hx hb (by decide +kernel) dL_law_454 (by decide) (fun _ => ?_) (fun h9 => absurd h9 (by decide))
        refine lv_bipush (v := (-3 : Int32)) hx hb dL_law_461 (by decide) ?_
        refine pi_icmp_ne (tgt := 480) (a := (-3)) (b := (-3)) hx hb (by decide +kernel) (by decide +kernel) dL_law_463 (by decide) (fun h9 => absurd h9 (by decide)) (fun _ => ?_)
        refine lv_aload_n hx hb dL_law_466 rfl (lv_at hl 13 rfl) ?_
        refine lv_iload hx hb dL_law_467 (lv_at hl 6 rfl) ?_
        refine pz_VRg (rest := []) ⟨hx, hb, hml, hown, hts⟩ (k_X0_consulsOf l D h0 ac ay ap cyI ([]) 0 (pq_c 12) pq_z pq_z 1 (by first | exact pq_c3 | decide | omega | decide +kernel) (by first | exact pq_c3 | decide | omega | decide +kernel) (by first | exact pq_c3 | decide | omega | decide +kernel) (by first | exact pq_c3 | decide | omega | decide +kernel)) (cwV 1 hts gL_law_X0_consulsOf rfl rfl rfl (by decide +kernel) ⟨Nat.le_of_ble_eq_true rfl, Nat.le_of_ble_eq_true rfl⟩) hK hP hD hS hA [0, 1, 2, 3] rfl rfl rfl 0 0 rfl rfl rfl hl.1 rfl (lv_room (Nat.le_of_ble_eq_true rfl)) dL_law_469 f2 (fun r H locs hg hr hP hS => ?_)
        have hr_12 : (fun r => (r = (-1) ∧ ∀ j, j < 60 → ¬ pq_z j = 1) ∨ ∃ i, i < 60 ∧ r = nI (pq_z i) ∧ pq_z i = 1) r := hr
        obtain ⟨r_12, er_12⟩ : ∃ z, z = r := ⟨_, rfl⟩
        subst er_12
        have hz := Nat.le_trans hz hg
        obtain rfl : r_12 = (-1 : Int32) := by rcases hr_12 with ⟨h, _⟩ | ⟨i, _, _, h⟩; (exact h); (exact absurd (show (0 : Nat) = 1 from h) (by decide))
        refine lv_iconst (v := (-1 : Int32)) hx hb dL_law_472 (by decide) ?_
        refine pi_icmp_ne (tgt := 480) (a := (-1)) (b := (-1)) hx hb (by decide +kernel) (by decide +kernel) dL_law_473 (by decide) (fun h9 => absurd h9 (by decide)) (fun _ => ?_)
        refine lv_iconst (v := (nI 1)) hx hb dL_law_476 (by decide) ?_
        refine lv_goto (tgt := 481) hx hb dL_law_477 (by decide) ?_
        refine lv_istore_n (lv' := [(3, .int (nI 1)), (2, .int (nI 0)), (14, .int (-3 : Int32)), (13, .int (nI 0)), (12, .int (nI 8)), (11, .int (nI 1)), (10, .int (nI 1)), (9, .int (nI 1)), (8, .int (nI 0)), (7, .int (nI 0)), (6, .int (nI 8)), (5, .int (nI j)), (4, .int (nI 180)), (1, .ref h0), (0, .ref b)]) hx hb dL_law_481 rfl hl (by decide) rfl (fun ls hl => ?_)
        refine lv_goto (tgt := 763) hx hb dL_law_482 (by decide) ?_
        refine lv_iload_n hx hb dL_law_763 rfl (lv_at hl 0 rfl) ?_
        refine pi_if_eq (tgt := 807) (a := (1)) hx hb (by decide +kernel) dL_law_764 (by decide) (fun h9 => absurd h9 (by decide)) (fun _ => ?_)
        refine lv_aload_n hx hb dL_law_767 rfl (lv_at hl 13 rfl) ?_
        refine lv_iload hx hb dL_law_768 (lv_at hl 8 rfl) ?_
        refine pz_SRg (rest := []) ⟨hx, hb, hml, hown, hts⟩ (k_L_isBack_0 l D h0 ac ay ap cyI []  ) (va_cwS 2 hts gL_law_L_isBack rfl rfl rfl (by decide +kernel) ⟨Nat.le_of_ble_eq_true rfl, Nat.le_of_ble_eq_true rfl⟩) hK hP hD hS hA [0, 1, 2, 3] rfl rfl rfl rfl hl.1 rfl (lv_room (Nat.le_of_ble_eq_true rfl)) dL_law_770 f2 (fun r H locs hg hr hP hS => ?_)
        obtain rfl : r = (nI 1) := hr
        have hz := Nat.le_trans hz hg
        refine pi_if_eq (tgt := 807) (a := (1)) hx hb (by decide +kernel) dL_law_773 (by decide) (fun h9 => absurd h9 (by decide)) (fun _ => ?_)
        refine lv_aload_n hx hb dL_law_776 rfl (lv_at hl 13 rfl) ?_
        refine lv_iload hx hb dL_law_777 (lv_at hl 8 rfl) ?_
        refine pz_SRg (rest := []) ⟨hx, hb, hml, hown, hts⟩ (k_L_isNext_0 l D h0 ac ay ap cyI []  ) (va_cwS 2 hts gL_law_L_isNext rfl rfl rfl (by decide +kernel) ⟨Nat.le_of_ble_eq_true rfl, Nat.le_of_ble_eq_true rfl⟩) hK hP hD hS hA [0, 1, 2, 3] rfl rfl rfl rfl hl.1 rfl (lv_room (Nat.le_of_ble_eq_true rfl)) dL_law_779 f2 (fun r H locs hg hr hP hS => ?_)
        obtain rfl : r = (nI 1) := hr
        have hz := Nat.le_trans hz hg
        refine pi_if_eq (tgt := 807) (a := (1)) hx hb (by decide +kernel) dL_law_782 (by decide) (fun h9 => absurd h9 (by decide)) (fun _ => ?_)
        refine lv_aload_n hx hb dL_law_785 rfl (lv_at hl 13 rfl) ?_
        refine lv_iload hx hb dL_law_786 (lv_at hl 8 rfl) ?_
        refine pz_SRg (rest := []) ⟨hx, hb, hml, hown, hts⟩ (k_L_isKept_0 l D h0 ac ay ap cyI []  ) (va_cwS 2 hts gL_law_L_isKept rfl rfl rfl (by decide +kernel) ⟨Nat.le_of_ble_eq_true rfl, Nat.le_of_ble_eq_true rfl⟩) hK hP hD hS hA [0, 1, 2, 3] rfl rfl rfl rfl hl.1 rfl (lv_room (Nat.le_of_ble_eq_true rfl)) dL_law_788 f2 (fun r H locs hg hr hP hS => ?_)
        obtain rfl : r = (nI 1) := hr
        have hz := Nat.le_trans hz hg
        refine pi_if_eq (tgt := 807) (a := (1)) hx hb (by decide +kernel) dL_law_791 (by decide) (fun h9 => absurd h9 (by decide)) (fun _ => ?_)
        refine lv_aload_n hx hb dL_law_794 rfl (lv_at hl 13 rfl) ?_
        refine lv_iload hx hb dL_law_795 (lv_at hl 7 rfl) ?_
        refine pz_SRg (rest := []) ⟨hx, hb, hml, hown, hts⟩ (k_L_isYear_1 l D h0 ac ay ap cyI []  ) (va_cwS 2 hts gL_law_L_isYear rfl rfl rfl (by decide +kernel) ⟨Nat.le_of_ble_eq_true rfl, Nat.le_of_ble_eq_true rfl⟩) hK hP hD hS hA [0, 1, 2, 3] rfl rfl rfl rfl hl.1 rfl (lv_room (Nat.le_of_ble_eq_true rfl)) dL_law_797 f2 (fun r H locs hg hr hP hS => ?_)
        obtain rfl : r = (nI 1) := hr
        have hz := Nat.le_trans hz hg
        refine pi_if_eq (tgt := 807) (a := (1)) hx hb (by decide +kernel) dL_law_800 (by decide) (fun h9 => absurd h9 (by decide)) (fun _ => ?_)
        refine lv_iconst (v := (nI 1)) hx hb dL_law_803 (by decide) ?_
        refine lv_goto (tgt := 808) hx hb dL_law_804 (by decide) ?_
        refine lv_istore_n (lv' := [(3, .int (nI 1)), (2, .int (nI 0)), (14, .int (-3 : Int32)), (13, .int (nI 0)), (12, .int (nI 8)), (11, .int (nI 1)), (10, .int (nI 1)), (9, .int (nI 1)), (8, .int (nI 0)), (7, .int (nI 0)), (6, .int (nI 8)), (5, .int (nI j)), (4, .int (nI 180)), (1, .ref h0), (0, .ref b)]) hx hb dL_law_808 rfl hl (by decide) rfl (fun ls hl => ?_)
        refine lv_iinc (v := (nI (j + 1))) (lv' := [(5, .int (nI (j + 1))), (3, .int (nI 1)), (2, .int (nI 0)), (14, .int (-3 : Int32)), (13, .int (nI 0)), (12, .int (nI 8)), (11, .int (nI 1)), (10, .int (nI 1)), (9, .int (nI 1)), (8, .int (nI 0)), (7, .int (nI 0)), (6, .int (nI 8)), (4, .int (nI 180)), (1, .ref h0), (0, .ref b)]) hx hb dL_law_809 hl (k := 11) rfl (by exact nI_add _ 1) (by decide) rfl (fun ls hl => ?_)
        refine lv_goto (tgt := 84) hx hb dL_law_812 (by decide) ?_
        refine W.widen (k := 4 + (j + 1)) (n := 489 + 6 * (j + 1)) (by omega) (by omega) ?_
        exact ih (j + 1) H _ ls (by omega) (by omega) hP hS hz (lv_sub hl [0, 12, 1, 2, 13, 14] rfl)
set_option maxHeartbeats 4000000 in
set_option maxRecDepth 100000 in
theorem p36_start {p : Program} {l : Launch} {e : Env} {s : State} {m : MethodId} {below : List Frame} {meth : Method} {c : Code} {b : Nat} {xs : Nat → Int32} (htt : ∀ w ∈ lw_tbl, w.before #[Value.ref b] s = true) (hfl : l.stackTraces = false) (hr : meth.sig.returnType = ret) (hlocks : meth.locks = false) (hx : p.tables.exec = Jvm.exec) (hb : c.code = cL_law) (hml : c.maxLocals = 16) (hown : s.vm.findClass RL = some m.cls) (hts : ∀ w ∈ wsL_law, w.before #[Value.ref b] s = true) (hX : va_X b 180 xs s s.heap) (hxs : ∀ j, j < 180 → xs j = nI 8) (hbl : b < s.heap.size) (hth : pz_thr s.heap.size s) (hnc : pz_NC s) : W p l e p36_R s m #[Value.ref b] below meth c s.heap [] 0 0 (MQ below p36_Q #[Value.ref b] s 184 1569 (fun q : Nat => s.heap.size ≤ q)) (entryFrame m ([Value.ref b] : List Value).toArray 16) := by
  have hA : ∀ q : Nat, s.heap.size ≤ q → (fun q : Nat => s.heap.size ≤ q) q := fun _ h => h
  obtain ⟨c0, iS0, hKn0⟩ := u_known (C := RX0) (T := TX0) (N := 4) (n := 4) htt inX0 (hts (.instantiable RX0 4) (by decide +kernel))
  obtain ⟨D, hKc⟩ : ∃ D : va_G, ∀ (k : Nat) (q : vw_C), vwCl[k]? = some q → u_Kn s q.1 q.2.1 q.2.2 (D.1 k) (D.2 k) := by
    refine ⟨(fun _ => c0, fun _ => iS0), ?_⟩
    intro k q hq
    match k, hq with
    | 0, hq => cases hq; exact hKn0
    | k + 1, hq => simp [vwCl] at hq
  have hS : va_S (fun q : Nat => s.heap.size ≤ q) s.heap s.heap [] := va_S.rf
  have hK : va_K D vwCl [] s := ⟨hKc, fun k q h => by simp at h⟩
  have hP : va_P D vwCl [] s.heap := fun k q h => by simp at h
  have hD : va_D (fun q : Nat => s.heap.size ≤ q) [] := ⟨fun i j p q h => by simp at h, fun k q h => by simp at h⟩
  have hl := lv_entry ([.ref b]) (n := 16) (Nat.le_of_ble_eq_true rfl)
  rw [lg_entry_eq]
  generalize (lg_sl ([.ref b]) ++ List.replicate (16 - (lg_sl ([.ref b])).length) Slot.unset).toArray = ls at hl ⊢
  have hl : lv_has ls 16 [(0, .ref b)] := hl
  refine va_new (ci := 0) (fs := [.null, .null, .null, .int (nI 0)]) (C := RX0) (T := TX0) (N := 4) hx hb htt inX0 tyX0 tyX0_ok hown (hts (.classLink RL 8 RX0) (by decide +kernel)) (hts (.instantiable RX0 4) (by decide +kernel)) (hts (.initialized RX0) (by decide +kernel)) hK hP hD hS hA rfl (fun j hj => by rcases (show j = 0 ∨ j = 1 ∨ j = 2 ∨ j = 3 by omega) with rfl | rfl | rfl | rfl <;> rfl) (Nat.le_of_ble_eq_true rfl) (Nat.le_of_ble_eq_true rfl) dL_law_0 (fun h0 H hP hD hS => ?_)
  have hP : va_P D vwCl [(h0, .inr (0, [.null, .null, .null, .int (nI 0)]))] H := hP
  have hD : va_D (fun q : Nat => s.heap.size ≤ q) [(h0, .inr (0, [.null, .null, .null, .int (nI 0)]))] := hD
  refine lv_dup hx hb dL_law_3 rfl ?_
  refine pz_NC_ (rest := [.ref h0]) (wr := []) ⟨hx, hb, hml, hown, hts⟩ (k_X0_init l D h0) (cwI 0 hts gL_law_X0_init rfl rfl rfl (hts (.initialized RX0) (by decide +kernel)) (hts (.methodLink RL 118 yX0_init) (by decide +kernel)) (hts (.instanceMethod yX0_init) (by decide +kernel)) rfl (by decide +kernel) ⟨Nat.le_of_ble_eq_true rfl, Nat.le_of_ble_eq_true rfl⟩) hK hP hD hS hA [0] [] rfl rfl (by decide) rfl (by decide) (by decide) rfl hl.1 rfl (lv_room (Nat.le_of_ble_eq_true rfl)) dL_law_4 ⟨Nat.le_of_ble_eq_true rfl, Nat.le_of_ble_eq_true rfl⟩ (fun u H locs hu hK hP hD hS => ?_)
  obtain ⟨⟨ac, ay, ap, cyI⟩, ch⟩ := u
  have hch : ∀ j, j < 365 → ch j = pq_c 12 j := hu
  have hP : va_P D vwCl [(h0, .inr (0, [.ref ac, .ref ay, .ref ap, .int (nI 0)])), (ac, .inl (cyI, 365, .inl (pz_ar ch))), (ay, .inl (cyI, 60, .inl (pz_ar pq_z))), (ap, .inl (cyI, 60, .inl (pz_ar pq_z)))] H := hP
  have hD : va_D (fun q : Nat => s.heap.size ≤ q) [(h0, .inr (0, [.ref ac, .ref ay, .ref ap, .int (nI 0)])), (ac, .inl (cyI, 365, .inl (pz_ar ch))), (ay, .inl (cyI, 60, .inl (pz_ar pq_z))), (ap, .inl (cyI, 60, .inl (pz_ar pq_z)))] := hD
  have hK : va_K D vwCl [(cyI, .int)] s := hK
  have hP : va_P D vwCl [(h0, .inr (0, [.ref ac, .ref ay, .ref ap, .int (nI 0)])), (ac, .inl (cyI, 365, .inl (pz_ar (pq_c 12)))), (ay, .inl (cyI, 60, .inl (pz_ar pq_z))), (ap, .inl (cyI, 60, .inl (pz_ar pq_z)))] H := pq_world (q := 0) hch hP
  have hD : va_D (fun _ => True) [(h0, .inr (0, [.ref ac, .ref ay, .ref ap, .int (nI 0)])), (ac, .inl (cyI, 365, .inl (pz_ar (pq_c 12)))), (ay, .inl (cyI, 60, .inl (pz_ar pq_z))), (ap, .inl (cyI, 60, .inl (pz_ar pq_z)))] := pq_apart (by rfl) hD
  have hz : s.heap.size + 0 ≤ H.size := hS.1
  refine W.widen (k := 4) (n := 489) (Nat.le_of_ble_eq_true rfl) (Nat.le_of_ble_eq_true rfl) ?_
  refine lv_astore_n (lv' := [(1, .ref h0), (0, .ref b)]) hx hb dL_law_7 rfl hl (by decide) rfl (fun ls hl => ?_)
  refine lv_iconst (v := (nI 0)) hx hb dL_law_8 (by decide) ?_
  refine lv_istore_n (lv' := [(2, .int (nI 0)), (1, .ref h0), (0, .ref b)]) hx hb dL_law_9 rfl hl (by decide) rfl (fun ls hl => ?_)
  refine lv_aload_n hx hb dL_law_10 rfl (lv_at hl 1 rfl) ?_
  refine lv_iconst (v := (nI 0)) hx hb dL_law_11 (by decide) ?_
  refine pz_SRg (rest := []) ⟨hx, hb, hml, hown, hts⟩ (k_L_isBack_0 l D h0 ac ay ap cyI []  ) (va_cwS 2 hts gL_law_L_isBack rfl rfl rfl (by decide +kernel) ⟨Nat.le_of_ble_eq_true rfl, Nat.le_of_ble_eq_true rfl⟩) hK hP hD hS hA [0, 1, 2, 3] rfl rfl rfl rfl hl.1 rfl (lv_room (Nat.le_of_ble_eq_true rfl)) dL_law_12 ⟨Nat.le_of_ble_eq_true rfl, Nat.le_of_ble_eq_true rfl⟩ (fun r H locs hg hr hP hS => ?_)
  obtain rfl : r = (nI 1) := hr
  have hz := Nat.le_trans hz hg
  refine pi_if_eq (tgt := 48) (a := (1)) hx hb (by decide +kernel) dL_law_15 (by decide) (fun h9 => absurd h9 (by decide)) (fun _ => ?_)
  refine lv_aload_n hx hb dL_law_18 rfl (lv_at hl 1 rfl) ?_
  refine lv_iconst (v := (nI 0)) hx hb dL_law_19 (by decide) ?_
  refine pz_SRg (rest := []) ⟨hx, hb, hml, hown, hts⟩ (k_L_isNext_0 l D h0 ac ay ap cyI []  ) (va_cwS 2 hts gL_law_L_isNext rfl rfl rfl (by decide +kernel) ⟨Nat.le_of_ble_eq_true rfl, Nat.le_of_ble_eq_true rfl⟩) hK hP hD hS hA [0, 1, 2, 3] rfl rfl rfl rfl hl.1 rfl (lv_room (Nat.le_of_ble_eq_true rfl)) dL_law_20 ⟨Nat.le_of_ble_eq_true rfl, Nat.le_of_ble_eq_true rfl⟩ (fun r H locs hg hr hP hS => ?_)
  obtain rfl : r = (nI 1) := hr
  have hz := Nat.le_trans hz hg
  refine pi_if_eq (tgt := 48) (a := (1)) hx hb (by decide +kernel) dL_law_23 (by decide) (fun h9 => absurd h9 (by decide)) (fun _ => ?_)
  refine lv_aload_n hx hb dL_law_26 rfl (lv_at hl 1 rfl) ?_
  refine lv_ldc (v := nI 1095749) hx hb hown (hts (.constant RL 126 (1095749)) (by decide +kernel)) dL_law_27 ?_
  refine pz_SRg (rest := []) ⟨hx, hb, hml, hown, hts⟩ (k_L_isBack_1095749 l D h0 ac ay ap cyI []  ) (va_cwS 2 hts gL_law_L_isBack rfl rfl rfl (by decide +kernel) ⟨Nat.le_of_ble_eq_true rfl, Nat.le_of_ble_eq_true rfl⟩) hK hP hD hS hA [0, 1, 2, 3] rfl rfl rfl rfl hl.1 rfl (lv_room (Nat.le_of_ble_eq_true rfl)) dL_law_29 ⟨Nat.le_of_ble_eq_true rfl, Nat.le_of_ble_eq_true rfl⟩ (fun r H locs hg hr hP hS => ?_)
  obtain rfl : r = (nI 1) := hr
  have hz := Nat.le_trans hz hg
  refine pi_if_eq (tgt := 48) (a := (1)) hx hb (by decide +kernel) dL_law_32 (by decide) (fun h9 => absurd h9 (by decide)) (fun _ => ?_)
  refine lv_aload_n hx hb dL_law_35 rfl (lv_at hl 1 rfl) ?_
  refine lv_ldc (v := nI 1095749) hx hb hown (hts (.constant RL 126 (1095749)) (by decide +kernel)) dL_law_36 ?_
  refine pz_SRg (rest := []) ⟨hx, hb, hml, hown, hts⟩ (k_L_isKept_1095749 l D h0 ac ay ap cyI []  ) (va_cwS 2 hts gL_law_L_isKept rfl rfl rfl (by decide +kernel) ⟨Nat.le_of_ble_eq_true rfl, Nat.le_of_ble_eq_true rfl⟩) hK hP hD hS hA [0, 1, 2, 3] rfl rfl rfl rfl hl.1 rfl (lv_room (Nat.le_of_ble_eq_true rfl)) dL_law_38 ⟨Nat.le_of_ble_eq_true rfl, Nat.le_of_ble_eq_true rfl⟩ (fun r H locs hg hr hP hS => ?_)
  obtain rfl : r = (nI 1) := hr
  have hz := Nat.le_trans hz hg
  refine pi_if_eq (tgt := 48) (a := (1)) hx hb (by decide +kernel) dL_law_41 (by decide) (fun h9 => absurd h9 (by decide)) (fun _ => ?_)
  refine lv_iconst (v := (nI 1)) hx hb dL_law_44 (by decide) ?_
  refine lv_goto (tgt := 49) hx hb dL_law_45 (by decide) ?_
  refine lv_istore_n (lv' := [(3, .int (nI 1)), (2, .int (nI 0)), (1, .ref h0), (0, .ref b)]) hx hb dL_law_49 rfl hl (by decide) rfl (fun ls hl => ?_)
  refine lv_aload_n hx hb dL_law_50 rfl (lv_at hl 3 rfl) ?_
  refine va_slen hx hb hX hbl (Nat.not_le.mpr hbl) hS dL_law_51 ?_
  refine pn_top (y := nI 180) rfl ?_
  refine lv_bipush (v := (nI 20)) hx hb dL_law_52 (by decide) ?_
  refine pi_icmp_ge (tgt := 62) (a := (180)) (b := (20)) hx hb (by decide +kernel) (by decide +kernel) dL_law_54 (by decide) (fun _ => ?_) (fun h9 => absurd h9 (by decide))
  refine lv_aload_n hx hb dL_law_62 rfl (lv_at hl 3 rfl) ?_
  refine va_slen hx hb hX hbl (Nat.not_le.mpr hbl) hS dL_law_63 ?_
  refine pn_top (y := nI 180) rfl ?_
  refine lv_bipush (v := (nI 60)) hx hb dL_law_64 (by decide) ?_
  refine pi_icmp_ge (tgt := 76) (a := (180)) (b := (60)) hx hb (by decide +kernel) (by decide +kernel) dL_law_66 (by decide) (fun _ => ?_) (fun h9 => absurd h9 (by decide))
  refine lv_sipush (v := (nI 180)) hx hb dL_law_76 (by decide) ?_
  refine lv_istore (lv' := [(4, .int (nI 180)), (3, .int (nI 1)), (2, .int (nI 0)), (1, .ref h0), (0, .ref b)]) hx hb dL_law_79 hl (by decide) rfl (fun ls hl => ?_)
  refine lv_iconst (v := (nI 0)) hx hb dL_law_81 (by decide) ?_
  refine lv_istore (lv' := [(5, .int (nI 0)), (4, .int (nI 180)), (3, .int (nI 1)), (2, .int (nI 0)), (1, .ref h0), (0, .ref b)]) hx hb dL_law_82 hl (by decide) rfl (fun ls hl => ?_)
  exact p36_loop hfl hr hlocks hx hb hml hown hts hX hxs hbl hth hnc hK hD 181 0 H _ ls (by decide) (by decide) hP hS (by exact hS.1) (lv_sub hl [0, 1, 2, 3, 4, 5] rfl)
