/-! ===== what throws: one contract for a method that throws E and changes nothing ===== -/
section PZX
variable {p : Program} {l : Launch} {e : Env} {R : Room} {s : State} {m : MethodId} {args : Array Value} {below : List Frame} {meth : Method} {c : Code} {H : Heap} {locs : List Loc} {cells slots : Nat} {Q : State → Prop}
variable {cc : ByteArray} {pc : Nat} {ls : Array Slot} {rest : List Value}
abbrev pz_ns : List String := ["java/lang/RuntimeException", "java/lang/Exception"]
def pz_strs : List (Nat × String) := [(77, "count is below 1"), (87, "no day has this count"), (94, "no doubled day is told so"), (103, "days is out of range"), (106, "the term ends behind the last day"), (128, "these can't be two consuls"), (136, "too many other years have consuls"), (142, "the year has no consuls"), (144, "time is below 1"), (155, "no such place"), (158, "no such character"), (169, "no such year"), (171, "no such month"), (173, "no such day"), (175, "no such day number"), (177, "no such anchor")]
def pz_exs : List String := ["java/lang/IndexOutOfBoundsException", "java/lang/IllegalArgumentException", "java/lang/IllegalStateException"]
def pz_dS (C : String) : MethodName := ⟨C, "<init>", "(Ljava/lang/String;)V"⟩
def pz_sup : List String := ["java/lang/RuntimeException", "java/lang/Exception", "java/lang/Throwable"]
def pz_ST (U : State) : Prop := (∀ q ∈ pz_strs, ∃ a : Nat, vk_R RX0 q.1 q.2 a U) ∧ (∀ E ∈ pz_exs, va_Nw (.castable E E) U) ∧ ∀ C ∈ pz_sup, va_Nw (.declares (pz_dS C)) U
theorem pz_ST.warm {U : State} (hW : s.WarmedH U.vm) (h : pz_ST s) : pz_ST U := ⟨fun q hq => by
  obtain ⟨a, ha⟩ := h.1 q hq
  exact ⟨a, vk_R.warm hW ha⟩, fun E hE => va_Nw.warmC hW (h.2.1 E hE), fun C hC => va_Nw.warmD hW (h.2.2 C hC)⟩
theorem pz_ST.same {u U : State} (hv : U.vm = u.vm) (h : pz_ST u) : pz_ST U := ⟨fun q hq => by
  obtain ⟨a, ha⟩ := h.1 q hq
  exact ⟨a, vk_R.same hv ha⟩, fun E hE => va_Nw.same rfl hv.symm (h.2.1 E hE), fun C hC => va_Nw.same rfl hv.symm (h.2.2 C hC)⟩
def pz_thr (sz : Nat) (U : State) : Prop := vx_Zq Bundle.tN "UNASSIGNED_STACK" Bundle.steD (fun q => sz ≤ q) U U.heap ∧ vx_Zq Bundle.tN "SUPPRESSED_SENTINEL" Bundle.listD (fun q => sz ≤ q) U U.heap ∧ pz_ST U
def pz_preX (D : va_G) (tys : List (ClassId × FieldType)) (w : va_W) (sz : Nat) (U : State) : Prop := pz_pre D tys w sz U ∧ pz_thr sz U
theorem pz_blindX {D : va_G} {tys : List (ClassId × FieldType)} {w : va_W} {sz : Nat} {av : List Value} : FrameBlind (va_Pc av (pz_preX D tys w sz)) := fun a U g mk q => by
  obtain ⟨q0, ⟨q1, qP, qK, qD⟩, q2, q3, q4⟩ := q
  exact ⟨q0, ⟨q1, qP, va_K.moved (u := U) (U := U.calling g mk a) (Vm.Alike.refl U.vm) qK, qD⟩, vx_Zq.moved (u := U) (U := U.calling g mk a) (Vm.Alike.refl U.vm) q2, vx_Zq.moved (u := U) (U := U.calling g mk a) (Vm.Alike.refl U.vm) q3, pz_ST.same (u := U) (U := U.calling g mk a) rfl q4⟩
theorem pz_thr_in (hS : va_S (fun q : Nat => s.heap.size ≤ q) s.heap H locs) (h : pz_thr s.heap.size s) : ∀ U : State, U.heap = H → s.WarmedH U.vm → pz_thr H.size U := fun U hU hW => by
  obtain ⟨h1, h2, h3⟩ := h
  subst hU
  exact ⟨vx_Zq.narrow (vx_Zq.moved hW.alike (h1.kept hS.2.1)) (fun q hq => Nat.le_trans hS.1 hq), vx_Zq.narrow (vx_Zq.moved hW.alike (h2.kept hS.2.1)) (fun q hq => Nat.le_trans hS.1 hq), h3.warm hW⟩
/-- the end of a body that throws E -/
def pz_QX (below : List Frame) (E : String) (a : Array Value) (s : State) : State → Prop := vx_MQ below (fun _ _ _ _ => False) (vx_X (fun _ : Unit => True) (fun E' _ t => E' = E ∧ s.heap.size < t.heap.size) (fun q : Nat => s.heap.size ≤ q)) a s 1 6 (fun q : Nat => s.heap.size ≤ q)
def pz_X (l : Launch) (y : MethodName) (ws : List Cond) (rm : Room) (D : va_G) (tys : List (ClassId × FieldType)) (av : List Value) (w0 : va_W) (E : String) : Prop :=
  ∀ sz : Nat, vx_Met l y ws rm (va_Pc av (pz_preX D tys w0 sz)) (fun _ _ _ _ => False) (vx_X (fun _ : Unit => True) (fun E' _ t => E' = E ∧ sz < t.heap.size) (fun q : Nat => sz ≤ q)) 1 6 (fun q : Nat => sz ≤ q)
theorem pz_X_of {y : MethodName} {ws ws' : List Cond} {rm : Room} {D : va_G} {tys : List (ClassId × FieldType)} {av : List Value} {w0 : va_W} {E : String} {maxL : Nat} {ret : Option FieldType} {own : String} (hy : plainName y.cls = true) (ho : y.cls = own) (hw : ws = Cond.code y cc maxL ret :: ws') (hm : (lg_sl av).length ≤ maxL)
    (body : ∀ (p : Program) (e : Env) (s : State) (m : MethodId) (below : List Frame) (meth : Method) (c : Code) (ls : Array Slot),
      p.tables.exec = Jvm.exec → c.code = cc → c.maxLocals = maxL → s.vm.findClass own = some m.cls → (∀ w ∈ ws, w.before av.toArray s = true) → va_K D vwCl tys s → va_P D vwCl w0 s.heap → va_D (fun _ => True) w0 → va_S (fun q : Nat => s.heap.size ≤ q) s.heap s.heap [] → (∀ q : Nat, s.heap.size ≤ q → (fun q : Nat => s.heap.size ≤ q) q) → lv_has ls maxL (lv_args 0 av) →
      pz_thr s.heap.size s → (∀ x ∈ c.exceptionTable.toList, False) → meth.locks = false →
      W p l e rm s m av.toArray below meth c s.heap [] 0 0 (pz_QX below E av.toArray s) (F0 m 0 ls [])) : pz_X l y ws rm D tys av w0 E := by
  intro sz
  refine vx_ofW (cc := cc) (maxL := maxL) (ret := ret) hy hw ?_
  intro p e s m args below meth c s₁ B hml htb hv
  obtain ⟨rfl, ⟨hsz, hP, hK, hD0⟩, hth⟩ := hv
  subst hsz
  have hts := atoms_spec (ws := ws) B.pre
  have hown : s.vm.findClass own = some m.cls := by rw [← ho]; exact findClass_of_methodNamed B.named
  have hl := lv_entry av (n := maxL) hm
  rw [lg_entry_eq]
  generalize (lg_sl av ++ List.replicate (maxL - (lg_sl av).length) Slot.unset).toArray = ls at hl ⊢
  exact body p e s m below meth c ls B.exec B.bytes hml hown hts hK hP hD0 va_S.rf (fun q h => h) hl hth htb B.notSynchronized
theorem pz_throw {Ts : List Cond} {E text : String} {ik is ic nL : Nat} (hx : p.tables.exec = Jvm.exec) (hb : c.code = cc) (hfl : l.stackTraces = false) (hown : s.vm.findClass RX0 = some m.cls) (hts : ∀ w ∈ Ts, w.before args s = true) (hEx : E ∈ pz_exs) (hfit : Bundle.fit E = true)
    (hat : ∀ w ∈ (vx_atS RX0 ic E pz_ns).filter goodWord, w ∈ Ts) (hat2 : ∀ w ∈ (vx_atS RX0 ic E pz_ns).filter (fun w => !goodWord w), w ∈ [Cond.castable E E, .declares (pz_dS "java/lang/RuntimeException"), .declares (pz_dS "java/lang/Exception"), .declares (pz_dS "java/lang/Throwable")]) (hgood : ∀ w ∈ Cond.classLink RX0 ik E :: Cond.initialized E :: vx_atS RX0 ic E pz_ns, vx_ot w = true) (hmem : (is, text) ∈ pz_strs)
    (hk : (Cond.classLink RX0 ik E).before args s = true) (hini : (Cond.initialized E).before args s = true) (hS : va_S (fun q : Nat => s.heap.size ≤ q) s.heap H locs) (hth : pz_thr s.heap.size s) (hsize : ls.size = nL) (hml : c.maxLocals = nL) (htb : ∀ x ∈ c.exceptionTable.toList, False) (hlk : meth.locks = false)
    (d0 : decode cc pc = .ok (.new ik, 3)) (d3 : decode cc (pc + 3) = .ok (.dup, 1)) (d4 : decode cc (pc + 4) = .ok (.ldc is, 2)) (d6 : decode cc (pc + 6) = .ok (.invokespecial ic, 3)) (d9 : decode cc (pc + 9) = .ok (.athrow, 1))
    (h1 : 5 < R.frames) (h2 : (rest.map fun v => v.category).sum + 82 ≤ R.locals) (h3 : 0 + 1 ≤ R.cells) (h4 : 0 + 6 ≤ R.slots) : W p l e R s m args below meth c H locs 0 0 (pz_QX below E args s) (F0 m pc ls rest) := by
  obtain ⟨hU, hN, hST⟩ := hth
  obtain ⟨sa, hstr⟩ := hST.1 _ hmem
  have hnm : ∀ n ∈ pz_ns, Bundle.fit n = true := by decide +kernel
  exact vx_throwS (names := pz_ns) (sa := sa) hx hb hfl hown hfit hnm hk hini hstr (vx_hat (fun w h => hts w (hat w h)) hat2 (vx_c (va_Nw.use rfl (hST.2.1 E hEx)) (vx_c (va_Nw.use rfl (hST.2.2 _ (by decide +kernel))) (vx_c (va_Nw.use rfl (hST.2.2 _ (by decide +kernel))) (vx_c (va_Nw.use rfl (hST.2.2 _ (by decide +kernel))) vx_n))))) hgood hU hN hS (hsize.trans hml.symm) d0 d3 d4 d6 d9 (fun x hx => (htb x hx).elim) h1 h2 h3 h4 hlk
    (fun t ht hz hq => ⟨(), trivial, ⟨rfl, Nat.lt_of_le_of_lt hS.1 hz⟩, Nat.le_of_lt (Nat.lt_of_le_of_lt hS.1 hz), fun q h5 h6 => (hq q (Nat.lt_of_lt_of_le h5 hS.1)).trans (hS.2.1 q h5 h6)⟩) hS.2.2 (Nat.le_refl _) (Nat.le_refl _)
section XCALLS
variable {y : MethodName} {bytes : ByteArray} {maxL nL n index : Nat} {ret : Option FieldType} {ws Ts : List Cond} {rm : Room} {own C E : String} {D : va_G} {tys tysC : List (ClassId × FieldType)} {w wc : va_W} {av st0 : List Value} {b : Nat}
theorem pz_thru {Qa : State → Outcome → State → Prop} (hQa : ∀ a o t, ¬ Qa a o t) (run : vx_Run p l e R s m args below meth c H locs 0 0 1 6 (F0 m pc ls st0) rest Qa (vx_X (fun _ : Unit => True) (fun E' _ t => E' = E ∧ H.size < t.heap.size) (fun q : Nat => H.size ≤ q)) (fun q : Nat => H.size ≤ q)) (hS : va_S (fun q : Nat => s.heap.size ≤ q) s.heap H locs) (htb : ∀ x ∈ c.exceptionTable.toList, False) (hlk : meth.locks = false) : W p l e R s m args below meth c H locs 0 0 (pz_QX below E args s) (F0 m pc ls st0) := by
  intro T hT X
  rcases run T hT X with ⟨v, st₀, t, T', L, h0, X', hL, e1, e2, hq, hgo⟩ | ⟨q, st₀, t, T', L, E', ce, h0, X', hL, e1, e2, hxc, hce, hcv, hcl, st⟩
  · exact absurd hq (hQa _ _ _)
  · obtain ⟨u, -, ⟨hE, hgr⟩, hF⟩ := hxc
    have hE : E' = E := hE
    subst hE
    have hgr : H.size < t.heap.size := hgr
    obtain ⟨k1, k2, k3⟩ := vx_keep (A0 := fun q : Nat => s.heap.size ≤ q) h0 e1 hS (fun q h1 h2 => absurd h1 (Nat.not_lt.mpr h2)) (fun q h => Nat.le_trans hS.1 h) hL hF
    have hout : vx_W p l e R s m args below meth c T'.heap (locs ++ L) (0 + 1) (0 + 6) (pz_QX below E' args s) (F0 m pc ls rest) q := vx_out (fun x hx => (htb x hx).elim) hlk (by rw [e1]; exact hce) hcv hcl (fun t9 ht9 _ => ⟨(), trivial, ⟨rfl, by rw [ht9, e1]; exact Nat.lt_of_le_of_lt hS.1 hgr⟩, k3.F ht9⟩) k3.2.2 (Nat.le_refl _) (Nat.le_refl _)
    obtain ⟨t9, a9, b9⟩ := hout T' rfl X'
    exact ⟨t9, st.trans a9, b9⟩
theorem pz_SX (S0 : CallFix p m c cc nL s args Ts own) (hM : pz_X l y ws rm D tysC av wc E) (cw : CallB R s args own index y bytes maxL ret ws rm 1 6 n ∧ (Cond.static y).before args s = true)
    (hKc : va_K D vwCl tysC s) (hP : va_P D vwCl w H) (hD : va_D (fun _ => True) w) (hS : va_S (fun q : Nat => s.heap.size ≤ q) s.heap H locs) (hth : pz_thr s.heap.size s) (htb : ∀ x ∈ c.exceptionTable.toList, False) (hlk : meth.locks = false) (isC : List Nat) (hC : isC.filterMap (fun i => w[i]?) = wc) (hC2 : isC.map (fun i => w[i]?) = wc.map some) (hnd : va_nd isC = true)
    (hn : av.length = n) (hsize : ls.size = nL) (hst : st0 = av.reverse ++ rest) (hcat : 2 * (F0 m pc ls rest).monitorRoom + (rest.map fun v => v.category).sum ≤ 8) (hdg : decode cc pc = .ok (.invokestatic index, 3)) (hf : 0 + 1 ≤ R.cells ∧ 0 + 6 ≤ R.slots) : W p l e R s m args below meth c H locs 0 0 (pz_QX below E args s) (F0 m pc ls st0) := by
  have hPc := hP.sub (ws' := wc) isC hC
  have hDc := hD.sub (ws' := wc) isC hnd hC2
  exact pz_thru (fun _ _ _ h => h) (vx_runS (As := av) (rest := rest) S0 (hM H.size) cw ⟨pz_blindX, fun U hU hW => ⟨rfl, pz_pre_in0 hKc hPc hDc U hU hW, pz_thr_in hS hth U hU hW⟩⟩ rfl hn hsize hst hcat hdg hf) hS htb hlk
theorem pz_VX (S0 : CallFix p m c cc nL s args Ts own) (hM : pz_X l y ws rm D tysC (.ref b :: av) wc E) (cw : CallW R s args own C index y bytes maxL ret ws rm 1 6 n)
    (hKc : va_K D vwCl tysC s) (hP : va_P D vwCl w H) (hD : va_D (fun _ => True) w) (hS : va_S (fun q : Nat => s.heap.size ≤ q) s.heap H locs) (hth : pz_thr s.heap.size s) (htb : ∀ x ∈ c.exceptionTable.toList, False) (hlk : meth.locks = false) (isC : List Nat) (hC : isC.filterMap (fun i => w[i]?) = wc) (hC2 : isC.map (fun i => w[i]?) = wc.map some) (hnd : va_nd isC = true)
    (q0 ci : Nat) {fs : List Value} {T : u_T} {N : Nat} (hc0 : vwCl[ci]? = some (C, T, N)) (he : w[q0]? = some (b, .inr (ci, fs)))
    (hn : av.length = n) (hsize : ls.size = nL) (hst : st0 = av.reverse ++ .ref b :: rest) (hcat : 2 * (F0 m pc ls rest).monitorRoom + (rest.map fun v => v.category).sum ≤ 8) (hdg : decode cc pc = .ok (.invokevirtual index, 3)) (hf : 0 + 1 ≤ R.cells ∧ 0 + 6 ≤ R.slots) : W p l e R s m args below meth c H locs 0 0 (pz_QX below E args s) (F0 m pc ls st0) := by
  have hPc := hP.sub (ws' := wc) isC hC
  have hDc := hD.sub (ws' := wc) isC hnd hC2
  exact pz_thru (fun _ _ _ h => h) (vx_runV (As := av) (rest := rest) S0 (hM H.size) cw ⟨pz_blindX, va_recv hKc hP (q := (C, T, N)) hc0 he, fun U hU hW => ⟨rfl, pz_pre_in0 hKc hPc hDc U hU hW, pz_thr_in hS hth U hU hW⟩⟩ rfl hn hsize hst hcat hdg hf) hS htb hlk
end XCALLS
end PZX
