/-! ===== the law: what holds at its loop's head ===== -/
section PZH
variable {p : Program} {l : Launch} {e : Env} {R : Room} {s : State} {m : MethodId} {args : Array Value} {below : List Frame} {meth : Method} {c : Code} {H : Heap} {locs : List Loc} {cells slots : Nat} {Q : State → Prop}
variable {cc : ByteArray} {pc : Nat} {ls : Array Slot} {rest : List Value}
/-- an int of the script -/
theorem pn_sld (hx : p.tables.exec = Jvm.exec) (hb : c.code = cc) {b L : Nat} {xs : Nat → Int32} (hX : va_X b L xs s s.heap) (hbl : b < s.heap.size) (hS : va_S (fun q : Nat => s.heap.size ≤ q) s.heap H locs) {k : Nat} {v : Int32} (hk : k < L) (hL : L ≤ 3072) (he : xs k = v) (hd : decode cc pc = .ok (.iaload, 1))
    (kk : W p l e R s m args below meth c H locs cells slots Q (F0 m (pc + 1) ls (.int v :: rest))) : W p l e R s m args below meth c H locs cells slots Q (F0 m pc ls (.int (nI k) :: .ref b :: rest)) :=
  va_sld hx hb hX hbl (Nat.not_le.mpr hbl) hS (vp_in_nI hk (by omega)) hd (by rw [nI_clamp (by omega), he]; exact kk)
/-- two longs that are one -/
theorem pn_same (hx : p.tables.exec = Jvm.exec) (hb : c.code = cc) {x y : Int64} (h : x = y) (hd : decode cc pc = .ok (.lcmp, 1))
    (kk : W p l e R s m args below meth c H locs cells slots Q (F0 m (pc + 1) ls (.int (nI 0) :: rest))) : W p l e R s m args below meth c H locs cells slots Q (F0 m pc ls (.long y :: .long x :: rest)) := by
  subst h
  refine W.lcmp hx hb hd ?_
  have h9 : lg_cmp x x = nI 0 := by
    have h1 : ¬ x > x := fun h => Int.lt_irrefl x.toInt (Int64.lt_iff_toInt_lt.mp h)
    rw [lg_cmp, if_neg h1, if_pos rfl]
    rfl
  rw [h9]
  exact kk
/-- the law's fixed things -/
def pl_C (p : Program) (s : State) (m : MethodId) (c : Code) (D : va_G) (cyI cyL : ClassId) (b L : Nat) (xs : Nat → Int32) : Prop :=
  p.tables.exec = Jvm.exec ∧ c.code = cL_law ∧ c.maxLocals = 7 ∧ s.vm.findClass RL = some m.cls ∧ (∀ w ∈ wsL_law, w.before #[Value.ref b] s = true) ∧ va_X b L xs s s.heap ∧ b < s.heap.size ∧ va_K D vwCl [(cyI, .int), (cyL, .long)] s ∧ pz_thr s.heap.size s ∧ pz_NC s ∧ L ≤ 3072
/-- the state at the loop's head -/
def pl_G (s : State) (D : va_G) (cyI cyL : ClassId) (b h0 ac ay ap h1 bc bf bg oa : Nat) (H : Heap) (locs : List Loc) (ls : Array Slot) (i : Nat) : Prop :=
  ∃ (mk wr : Nat) (ch fy fp rc ff gg : Nat → Nat) (th yr mo da : Int32) (og : Nat → Int64), pz_inv mk wr ch fy fp rc ff gg ∧
    va_P D vwCl [(h0, .inr (0, [.ref ac, .ref ay, .ref ap, .int (nI mk)])), (ac, .inl (cyI, 365, .inl (pz_ar ch))), (ay, .inl (cyI, 60, .inl (pz_ar fy))), (ap, .inl (cyI, 60, .inl (pz_ar fp))), (h1, .inr (1, [.int th, .int yr, .int mo, .int da, .int (nI mk), .ref bc, .ref bf, .ref bg, .int (nI wr)])), (bc, .inl (cyI, 366, .inl (pz_ar rc))), (bf, .inl (cyI, 3001, .inl (pz_ar ff))), (bg, .inl (cyI, 3001, .inl (pz_ar gg))), (oa, .inl (cyL, 1, .inr (.inl og)))] H ∧
    va_D (fun q : Nat => s.heap.size ≤ q) [(h0, .inr (0, [.ref ac, .ref ay, .ref ap, .int (nI mk)])), (ac, .inl (cyI, 365, .inl (pz_ar ch))), (ay, .inl (cyI, 60, .inl (pz_ar fy))), (ap, .inl (cyI, 60, .inl (pz_ar fp))), (h1, .inr (1, [.int th, .int yr, .int mo, .int da, .int (nI mk), .ref bc, .ref bf, .ref bg, .int (nI wr)])), (bc, .inl (cyI, 366, .inl (pz_ar rc))), (bf, .inl (cyI, 3001, .inl (pz_ar ff))), (bg, .inl (cyI, 3001, .inl (pz_ar gg))), (oa, .inl (cyL, 1, .inr (.inl og)))] ∧
    va_S (fun q : Nat => s.heap.size ≤ q) s.heap H locs ∧ lv_has ls 7 [(0, .ref b), (1, .ref h0), (2, .ref h1), (3, .ref oa), (4, .int (nI i))]
/-- a case of the law, from its first instruction to behind the switch -/
def pl_case (p : Program) (l : Launch) (e : Env) (s : State) (m : MethodId) (below : List Frame) (meth : Method) (c : Code) (Q : State → Prop) (D : va_G) (cyI cyL : ClassId) (b L : Nat) (xs : Nat → Int32) (h0 ac ay ap h1 bc bf bg oa : Nat) (pc : Nat) : Prop :=
  ∀ (i cells slots : Nat) (H : Heap) (locs : List Loc) (ls : Array Slot), pl_C p s m c D cyI cyL b L xs → pl_G s D cyI cyL b h0 ac ay ap h1 bc bf bg oa H locs ls i → i + 6 ≤ L → cells + 1 ≤ 1049 → slots + 6 ≤ 15155 →
    (∀ (H : Heap) (locs : List Loc) (ls : Array Slot), pl_G s D cyI cyL b h0 ac ay ap h1 bc bf bg oa H locs ls i → W p l e room_1 s m #[Value.ref b] below meth c H locs (cells + 1) (slots + 6) Q (F0 m 2234 ls [])) →
    W p l e room_1 s m #[Value.ref b] below meth c H locs cells slots Q (F0 m pc ls [])
end PZH
