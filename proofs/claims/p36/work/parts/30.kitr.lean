/-! ===== the law's own callers: a call whose throw is caught and told as a number ===== -/
section PZL
variable {p : Program} {l : Launch} {e : Env} {R : Room} {s : State} {m : MethodId} {args : Array Value} {below : List Frame} {meth : Method} {c : Code} {H : Heap} {locs : List Loc} {cells slots : Nat} {Q : State → Prop}
variable {cc : ByteArray} {pc : Nat} {ls : Array Slot} {rest : List Value}
def pz_NC (U : State) : Prop := va_Nc "java/lang/IllegalStateException" "java/lang/IllegalArgumentException" U ∧ va_Nc "java/lang/IllegalArgumentException" "java/lang/IllegalStateException" U ∧ va_Nc "java/lang/IndexOutOfBoundsException" "java/lang/IllegalStateException" U
def pz_preW (D : va_G) (tys : List (ClassId × FieldType)) (w : va_W) (sz : Nat) (U : State) : Prop := pz_preX D tys w sz U ∧ pz_NC U
theorem pz_blindW {D : va_G} {tys : List (ClassId × FieldType)} {w : va_W} {sz : Nat} {av : List Value} : FrameBlind (va_Pc av (pz_preW D tys w sz)) := fun a U g mk q => by
  obtain ⟨q0, q1, q2, q3, q4⟩ := q
  obtain ⟨h1, h2⟩ := pz_blindX (D := D) (tys := tys) (w := w) (sz := sz) (av := av) a U g mk ⟨q0, q1⟩
  exact ⟨h1, h2, va_Nc.moved (u := U) (U := U.calling g mk a) (Vm.Alike.refl U.vm) q2, va_Nc.moved (u := U) (U := U.calling g mk a) (Vm.Alike.refl U.vm) q3, va_Nc.moved (u := U) (U := U.calling g mk a) (Vm.Alike.refl U.vm) q4⟩
/-- a call that throws inside and answers a number; nothing old is written; the heap has grown -/
def pz_RX (l : Launch) (y : MethodName) (ws : List Cond) (rm : Room) (D : va_G) (tys : List (ClassId × FieldType)) (av : List Value) (w0 : va_W) (post : Int32 → Prop) : Prop :=
  ∀ sz : Nat, Met l y ws rm (va_Pc av (pz_preW D tys w0 sz)) (va_Qi (fun r (_ : Unit) => post r) (fun _ t => sz < t.heap.size) (va_A [] sz)) 1 6 (va_A [] sz)
theorem pz_metH {y : MethodName} {ws ws' : List Cond} {rm : Room} {Pc : Array Value → State → Prop} {Qc : Array Value → State → Outcome → State → Prop} {mc ms : Nat} {free : Addr → Prop} {maxL : Nat} {ret : Option FieldType} {hh : List (Nat × Nat × Nat × Nat)}
    (hy : plainName y.cls = true) (hw : ws = Cond.codeWith y cc maxL ret hh :: ws')
    (body : ∀ p e s m args below meth c s₁, BodyLoose p l y (headSpec ws rm) cc maxL ret e s m args below meth c s₁ → c.maxLocals = maxL → c.exceptionTable.toList = tableOf hh → Pc args s →
      W p l e (headSpec ws rm).room s m args below meth c s.heap [] 0 0 (MQ below Qc args s mc ms free) (entryFrame m args maxL)) : Met l y ws rm Pc Qc mc ms free := by
  refine MetFree.of_bodyS (code := cc) (maxLocals := maxL) (ret := ret) hy ?_ ?_
  · intro args s m h hn
    obtain ⟨m9, meth, c, hn9, h1, h2, h3, h4, -, h5, h6, -⟩ := Cond.codeWith_spec (atoms_spec (ws := ws) h _ (by rw [hw]; exact List.mem_cons_self))
    cases hn.symm.trans hn9
    exact ⟨meth, c, h1, h2, h3, h4, h5, h6⟩
  · intro p e s m args below meth c s₁ B hml hP _
    have hh0 : s₁.heap = s.heap := by rw [B.state]; rfl
    have htab : c.exceptionTable.toList = tableOf hh := vx_table (x := y) B (atoms_spec (ws := ws) B.pre _ (by rw [hw]; exact List.mem_cons_self))
    obtain ⟨t, a1, o, b1, b2, b3⟩ := body p e s m args below meth c s₁ B hml htab hP s₁ hh0 (Stand.of_body B)
    exact ⟨t, o, a1, b1, b2, ⟨b3.1, b3.2⟩⟩
theorem pz_R_ofH {y : MethodName} {ws ws' : List Cond} {rm : Room} {D : va_G} {tys : List (ClassId × FieldType)} {av : List Value} {w0 : va_W} {post : Int32 → Prop} {maxL : Nat} {ty : FieldType} {own : String} {hh : List (Nat × Nat × Nat × Nat)} (hy : plainName y.cls = true) (ho : y.cls = own) (hw : ws = Cond.codeWith y cc maxL (some ty) hh :: ws') (hm : (lg_sl av).length ≤ maxL)
    (body : ∀ (p : Program) (e : Env) (s : State) (m : MethodId) (below : List Frame) (meth : Method) (c : Code) (A : Nat → Prop) (ls : Array Slot) (Q : State → Prop),
      p.tables.exec = Jvm.exec → c.code = cc → c.maxLocals = maxL → s.vm.findClass own = some m.cls → (∀ w ∈ ws, w.before av.toArray s = true) → va_K D vwCl tys s → va_P D vwCl w0 s.heap → va_D (fun _ => True) w0 → va_S A s.heap s.heap [] → (∀ q : Nat, s.heap.size ≤ q → A q) → lv_has ls maxL (lv_args 0 av) →
      (∀ (H : Heap) (locs : List Loc) (pc : Nat) (ls : Array Slot) (v : Int32), decode cc pc = .ok (.ireturn, 1) → narrow ty (.int v) = .int v → post v → va_S A s.heap H locs → W p l e rm s m av.toArray below meth c H locs 0 0 Q (F0 m pc ls [.int v])) →
      W p l e rm s m av.toArray below meth c s.heap [] 0 0 Q (F0 m 0 ls [])) : pz_R l y ws rm D tys av w0 post := by
  intro sz
  refine pz_metH (cc := cc) (maxL := maxL) (ret := some ty) (hh := hh) hy hw ?_
  intro p e s m args below meth c s₁ B hml htab hv
  obtain ⟨rfl, hsz, hP, hK, hD0⟩ := hv
  subst hsz
  have hr := B.returns
  have hts := atoms_spec (ws := ws) B.pre
  have hown : s.vm.findClass own = some m.cls := by rw [← ho]; exact findClass_of_methodNamed B.named
  have hl := lv_entry av (n := maxL) hm
  rw [lg_entry_eq]
  generalize (lg_sl av ++ List.replicate (maxL - (lg_sl av).length) Slot.unset).toArray = ls at hl ⊢
  refine body p e s m below meth c (va_A [] s.heap.size) ls _ B.exec B.bytes hml hown hts hK hP hD0 va_S.rf (fun q h => Or.inr h) hl ?_
  intro H locs pc ls v hd hn hp hS
  exact W.zret B.exec B.bytes hr hn (fun t ht hW => ⟨⟨v, (), rfl, hp, trivial⟩, hS.F ht⟩) hS.2.2 hd B.notSynchronized
theorem pz_RX_ofH {y : MethodName} {ws ws' : List Cond} {rm : Room} {D : va_G} {tys : List (ClassId × FieldType)} {av : List Value} {w0 : va_W} {post : Int32 → Prop} {maxL : Nat} {ty : FieldType} {own : String} {hh : List (Nat × Nat × Nat × Nat)} (hy : plainName y.cls = true) (ho : y.cls = own) (hw : ws = Cond.codeWith y cc maxL (some ty) hh :: ws') (hm : (lg_sl av).length ≤ maxL)
    (body : ∀ (p : Program) (e : Env) (s : State) (m : MethodId) (below : List Frame) (meth : Method) (c : Code) (ls : Array Slot) (Q : State → Prop),
      p.tables.exec = Jvm.exec → c.code = cc → c.maxLocals = maxL → s.vm.findClass own = some m.cls → (∀ w ∈ ws, w.before av.toArray s = true) → va_K D vwCl tys s → va_P D vwCl w0 s.heap → va_D (fun _ => True) w0 → va_S (fun q : Nat => s.heap.size ≤ q) s.heap s.heap [] → lv_has ls maxL (lv_args 0 av) → pz_thr s.heap.size s → pz_NC s → c.exceptionTable.toList = tableOf hh →
      (∀ (H : Heap) (locs : List Loc) (pc : Nat) (ls : Array Slot) (v : Int32), decode cc pc = .ok (.ireturn, 1) → narrow ty (.int v) = .int v → post v → va_S (fun q : Nat => s.heap.size ≤ q) s.heap H locs → s.heap.size < H.size → W p l e rm s m av.toArray below meth c H locs (0 + 1) (0 + 6) Q (F0 m pc ls [.int v])) →
      W p l e rm s m av.toArray below meth c s.heap [] 0 0 Q (F0 m 0 ls [])) : pz_RX l y ws rm D tys av w0 post := by
  intro sz
  refine pz_metH (cc := cc) (maxL := maxL) (ret := some ty) (hh := hh) hy hw ?_
  intro p e s m args below meth c s₁ B hml htab hv
  obtain ⟨rfl, ⟨⟨hsz, hP, hK, hD0⟩, hth⟩, hnc⟩ := hv
  subst hsz
  have hr := B.returns
  have hts := atoms_spec (ws := ws) B.pre
  have hown : s.vm.findClass own = some m.cls := by rw [← ho]; exact findClass_of_methodNamed B.named
  have hl := lv_entry av (n := maxL) hm
  rw [lg_entry_eq]
  generalize (lg_sl av ++ List.replicate (maxL - (lg_sl av).length) Slot.unset).toArray = ls at hl ⊢
  refine body p e s m below meth c ls _ B.exec B.bytes hml hown hts hK hP hD0 va_S.rf hl hth hnc htab ?_
  intro H locs pc ls v hd hn hp hS hgr
  exact W.zret B.exec B.bytes hr hn (fun t ht hW => ⟨⟨v, (), rfl, hp, by show s.heap.size < t.heap.size; rw [ht]; exact hgr⟩, (hS.F ht).1, fun q h1 h2 => (hS.F ht).2 q h1 (fun h9 => h2 (Or.inr h9))⟩) (fun z hz => Or.inr (hS.2.2 z hz)) hd B.notSynchronized
theorem pz_thruK {Qa : State → Outcome → State → Prop} {st0 : List Value} {E : String} (hQa : ∀ a o t, ¬ Qa a o t) (run : vx_Run p l e R s m args below meth c H locs 0 0 1 6 (F0 m pc ls st0) rest Qa (vx_X (fun _ : Unit => True) (fun E' _ t => E' = E ∧ H.size < t.heap.size) (fun q : Nat => H.size ≤ q)) (fun q : Nat => H.size ≤ q)) (hS : va_S (fun q : Nat => s.heap.size ≤ q) s.heap H locs)
    (kk : ∀ (ce : Cell) (q9 : Addr) (H1 : Heap) (locs1 : List Loc), va_S (fun q : Nat => s.heap.size ≤ q) s.heap H1 locs1 → H.size < H1.size → H1[q9]? = some ce → ce.vm = .none → s.vm.findClass E = some ce.cls → vx_W p l e R s m args below meth c H1 locs1 (0 + 1) (0 + 6) Q (F0 m pc ls rest) q9) : W p l e R s m args below meth c H locs 0 0 Q (F0 m pc ls st0) := by
  intro T hT X
  rcases run T hT X with ⟨v, st₀, t, T', L, h0, X', hL, e1, e2, hq, hgo⟩ | ⟨q, st₀, t, T', L, E', ce, h0, X', hL, e1, e2, hxc, hce, hcv, hcl, st⟩
  · exact absurd hq (hQa _ _ _)
  · obtain ⟨u, -, ⟨hE, hgr⟩, hF⟩ := hxc
    have hE : E' = E := hE
    subst hE
    obtain ⟨k1, k2, k3⟩ := vx_keep (A0 := fun q : Nat => s.heap.size ≤ q) h0 e1 hS (fun q h1 h2 => absurd h1 (Nat.not_lt.mpr h2)) (fun q h => Nat.le_trans hS.1 h) hL hF
    obtain ⟨t9, a9, b9⟩ := kk ce q T'.heap (locs ++ L) k3 (by rw [e1]; exact hgr) (by rw [e1]; exact hce) hcv hcl T' rfl X'
    exact ⟨t9, st.trans a9, b9⟩
section LCALLS
variable {y : MethodName} {bytes : ByteArray} {maxL nL n index : Nat} {ret : Option FieldType} {ws Ts : List Cond} {rm : Room} {own C E : String} {D : va_G} {tys tysC : List (ClassId × FieldType)} {w wc wr : va_W} {av st0 : List Value} {b : Nat} {hh : List (Nat × Nat × Nat × Nat)} {A : Nat → Prop}
/-- a static call that answers an int and writes nothing old -/
theorem pz_SRW {post : Int32 → Prop} (S0 : CallFix p m c cc nL s args Ts own) (hM : pz_R l y ws rm D tysC av wc post) (cw : vx_CSW R s args own index y bytes maxL ret hh ws rm 0 0 n)
    (hKc : va_K D vwCl tysC s) (hP : va_P D vwCl w H) (hD : va_D (fun _ => True) w) (hS : va_S A s.heap H locs) (hA : ∀ q : Nat, s.heap.size ≤ q → A q) (isC : List Nat) (hC : isC.filterMap (fun i => w[i]?) = wc) (hC2 : isC.map (fun i => w[i]?) = wc.map some) (hnd : va_nd isC = true)
    (hn : av.length = n) (hsize : ls.size = nL) (hst : st0 = av.reverse ++ rest) (hcat : 2 * (F0 m pc ls rest).monitorRoom + (rest.map fun v => v.category).sum ≤ 8) (hdg : decode cc pc = .ok (.invokestatic index, 3)) (hf : cells + 0 ≤ R.cells ∧ slots + 0 ≤ R.slots)
    (kk : ∀ (r : Int32) (H1 : Heap) (locs1 : List Loc), post r → va_P D vwCl w H1 → va_S A s.heap H1 locs1 → W p l e R s m args below meth c H1 locs1 cells slots Q (F0 m (pc + 3) ls (.int r :: rest))) : W p l e R s m args below meth c H locs cells slots Q (F0 m pc ls st0) := by
  have hPc := hP.sub (ws' := wc) isC hC
  have hDc := hD.sub (ws' := wc) isC hnd hC2
  have hsz := hS.1
  refine va_calli (vx_runSW (As := av) (rest := rest) S0 (hM H.size) cw ⟨pz_blind, fun U hU hW => ⟨rfl, pz_pre_in0 hKc hPc hDc U hU hW⟩⟩ rfl hn hsize hst hcat hdg hf) hS (fun q h1 h2 => absurd (pz_Anil h2) (Nat.not_le.mpr h1)) (fun q h => hA q (Nat.le_trans hsz (pz_Anil h))) (fun r u t H1 locs1 ht hvm hw hB hz1 hk1 hS1 => ?_)
  exact kk r H1 locs1 hw (pz_keep hP hk1) hS1
/-- a static call that answers an int and writes nothing old -/
theorem pz_SRg {post : Int32 → Prop} (S0 : CallFix p m c cc nL s args Ts own) (hM : pz_R l y ws rm D tysC av wc post) (cw : CallB R s args own index y bytes maxL ret ws rm 0 0 n ∧ (Cond.static y).before args s = true)
    (hKc : va_K D vwCl tysC s) (hP : va_P D vwCl w H) (hD : va_D (fun _ => True) w) (hS : va_S A s.heap H locs) (hA : ∀ q : Nat, s.heap.size ≤ q → A q) (isC : List Nat) (hC : isC.filterMap (fun i => w[i]?) = wc) (hC2 : isC.map (fun i => w[i]?) = wc.map some) (hnd : va_nd isC = true)
    (hn : av.length = n) (hsize : ls.size = nL) (hst : st0 = av.reverse ++ rest) (hcat : 2 * (F0 m pc ls rest).monitorRoom + (rest.map fun v => v.category).sum ≤ 8) (hdg : decode cc pc = .ok (.invokestatic index, 3)) (hf : cells + 0 ≤ R.cells ∧ slots + 0 ≤ R.slots)
    (kk : ∀ (r : Int32) (H1 : Heap) (locs1 : List Loc), H.size ≤ H1.size → post r → va_P D vwCl w H1 → va_S A s.heap H1 locs1 → W p l e R s m args below meth c H1 locs1 cells slots Q (F0 m (pc + 3) ls (.int r :: rest))) : W p l e R s m args below meth c H locs cells slots Q (F0 m pc ls st0) := by
  have hPc := hP.sub (ws' := wc) isC hC
  have hDc := hD.sub (ws' := wc) isC hnd hC2
  have hsz := hS.1
  refine va_calli (va_runS (As := av) (rest := rest) S0 (hM H.size) cw ⟨pz_blind, fun U hU hW => ⟨rfl, pz_pre_in0 hKc hPc hDc U hU hW⟩⟩ rfl hn hsize hst hcat hdg hf) hS (fun q h1 h2 => absurd (pz_Anil h2) (Nat.not_le.mpr h1)) (fun q h => hA q (Nat.le_trans hsz (pz_Anil h))) (fun r u t H1 locs1 ht hvm hw hB hz1 hk1 hS1 => ?_)
  exact kk r H1 locs1 hz1 hw (pz_keep hP hk1) hS1
/-- a virtual call that answers an int and writes nothing old -/
theorem pz_VRg {post : Int32 → Prop} (S0 : CallFix p m c cc nL s args Ts own) (hM : pz_R l y ws rm D tysC (.ref b :: av) wc post) (cw : CallW R s args own C index y bytes maxL ret ws rm 0 0 n)
    (hKc : va_K D vwCl tysC s) (hP : va_P D vwCl w H) (hD : va_D (fun _ => True) w) (hS : va_S A s.heap H locs) (hA : ∀ q : Nat, s.heap.size ≤ q → A q) (isC : List Nat) (hC : isC.filterMap (fun i => w[i]?) = wc) (hC2 : isC.map (fun i => w[i]?) = wc.map some) (hnd : va_nd isC = true)
    (q0 ci : Nat) {fs : List Value} {T : u_T} {N : Nat} (hc0 : vwCl[ci]? = some (C, T, N)) (he : w[q0]? = some (b, .inr (ci, fs)))
    (hn : av.length = n) (hsize : ls.size = nL) (hst : st0 = av.reverse ++ .ref b :: rest) (hcat : 2 * (F0 m pc ls rest).monitorRoom + (rest.map fun v => v.category).sum ≤ 8) (hdg : decode cc pc = .ok (.invokevirtual index, 3)) (hf : cells + 0 ≤ R.cells ∧ slots + 0 ≤ R.slots)
    (kk : ∀ (r : Int32) (H1 : Heap) (locs1 : List Loc), H.size ≤ H1.size → post r → va_P D vwCl w H1 → va_S A s.heap H1 locs1 → W p l e R s m args below meth c H1 locs1 cells slots Q (F0 m (pc + 3) ls (.int r :: rest))) : W p l e R s m args below meth c H locs cells slots Q (F0 m pc ls st0) := by
  have hPc := hP.sub (ws' := wc) isC hC
  have hDc := hD.sub (ws' := wc) isC hnd hC2
  have hsz := hS.1
  refine va_calli (va_runV (As := av) (rest := rest) S0 (hM H.size) cw ⟨pz_blind, va_recv hKc hP (q := (C, T, N)) hc0 he, fun U hU hW => ⟨rfl, pz_pre_in0 hKc hPc hDc U hU hW⟩⟩ rfl hn hsize hst hcat hdg hf) hS (fun q h1 h2 => absurd (pz_Anil h2) (Nat.not_le.mpr h1)) (fun q h => hA q (Nat.le_trans hsz (pz_Anil h))) (fun r u t H1 locs1 ht hvm hw hB hz1 hk1 hS1 => ?_)
  exact kk r H1 locs1 hz1 hw (pz_keep hP hk1) hS1
theorem pz_VXK (S0 : CallFix p m c cc nL s args Ts own) (hM : pz_X l y ws rm D tysC (.ref b :: av) wc E) (cw : CallW R s args own C index y bytes maxL ret ws rm 1 6 n)
    (hKc : va_K D vwCl tysC s) (hP : va_P D vwCl w H) (hD : va_D (fun _ => True) w) (hS : va_S (fun q : Nat => s.heap.size ≤ q) s.heap H locs) (hth : pz_thr s.heap.size s) (isC : List Nat) (hC : isC.filterMap (fun i => w[i]?) = wc) (hC2 : isC.map (fun i => w[i]?) = wc.map some) (hnd : va_nd isC = true)
    (q0 ci : Nat) {fs : List Value} {T : u_T} {N : Nat} (hc0 : vwCl[ci]? = some (C, T, N)) (he : w[q0]? = some (b, .inr (ci, fs)))
    (hn : av.length = n) (hsize : ls.size = nL) (hst : st0 = av.reverse ++ .ref b :: rest) (hcat : 2 * (F0 m pc ls rest).monitorRoom + (rest.map fun v => v.category).sum ≤ 8) (hdg : decode cc pc = .ok (.invokevirtual index, 3)) (hf : 0 + 1 ≤ R.cells ∧ 0 + 6 ≤ R.slots)
    (kk : ∀ (ce : Cell) (q9 : Addr) (H1 : Heap) (locs1 : List Loc), va_S (fun q : Nat => s.heap.size ≤ q) s.heap H1 locs1 → H.size < H1.size → H1[q9]? = some ce → ce.vm = .none → s.vm.findClass E = some ce.cls → vx_W p l e R s m args below meth c H1 locs1 (0 + 1) (0 + 6) Q (F0 m pc ls rest) q9) : W p l e R s m args below meth c H locs 0 0 Q (F0 m pc ls st0) := by
  have hPc := hP.sub (ws' := wc) isC hC
  have hDc := hD.sub (ws' := wc) isC hnd hC2
  exact pz_thruK (fun _ _ _ h => h) (vx_runV (As := av) (rest := rest) S0 (hM H.size) cw ⟨pz_blindX, va_recv hKc hP (q := (C, T, N)) hc0 he, fun U hU hW => ⟨rfl, pz_pre_in0 hKc hPc hDc U hU hW, pz_thr_in hS hth U hU hW⟩⟩ rfl hn hsize hst hcat hdg hf) hS kk
theorem pz_SRX {post : Int32 → Prop} (S0 : CallFix p m c cc nL s args Ts own) (hM : pz_RX l y ws rm D tysC av wc post) (cw : vx_CSW R s args own index y bytes maxL ret hh ws rm 1 6 n)
    (hKc : va_K D vwCl tysC s) (hP : va_P D vwCl w H) (hD : va_D (fun _ => True) w) (hS : va_S (fun q : Nat => s.heap.size ≤ q) s.heap H locs) (hth : pz_thr s.heap.size s) (hnc : pz_NC s) (isC : List Nat) (hC : isC.filterMap (fun i => w[i]?) = wc) (hC2 : isC.map (fun i => w[i]?) = wc.map some) (hnd : va_nd isC = true)
    (hn : av.length = n) (hsize : ls.size = nL) (hst : st0 = av.reverse ++ rest) (hcat : 2 * (F0 m pc ls rest).monitorRoom + (rest.map fun v => v.category).sum ≤ 8) (hdg : decode cc pc = .ok (.invokestatic index, 3)) (hf : cells + 1 ≤ R.cells ∧ slots + 6 ≤ R.slots)
    (kk : ∀ (r : Int32) (H1 : Heap) (locs1 : List Loc), H.size < H1.size → post r → va_P D vwCl w H1 → va_S (fun q : Nat => s.heap.size ≤ q) s.heap H1 locs1 → W p l e R s m args below meth c H1 locs1 (cells + 1) (slots + 6) Q (F0 m (pc + 3) ls (.int r :: rest))) : W p l e R s m args below meth c H locs cells slots Q (F0 m pc ls st0) := by
  have hPc := hP.sub (ws' := wc) isC hC
  have hDc := hD.sub (ws' := wc) isC hnd hC2
  have hsz := hS.1
  refine va_calli (vx_runSW (As := av) (rest := rest) S0 (hM H.size) cw ⟨pz_blindW, fun U hU hW => ⟨rfl, ⟨pz_pre_in0 hKc hPc hDc U hU hW, pz_thr_in hS hth U hU hW⟩, va_Nc.moved hW.alike hnc.1, va_Nc.moved hW.alike hnc.2.1, va_Nc.moved hW.alike hnc.2.2⟩⟩ rfl hn hsize hst hcat hdg hf) hS (fun q h1 h2 => absurd (pz_Anil h2) (Nat.not_le.mpr h1)) (fun q h => Nat.le_trans hsz (pz_Anil h)) (fun r u t H1 locs1 ht hvm hw hB hz1 hk1 hS1 => ?_)
  exact kk r H1 locs1 (by rw [← ht]; exact hB) hw (pz_keep hP hk1) hS1
end LCALLS
end PZL
theorem pq_cb : ∀ k j, pq_c k j ≤ 2
  | 0, _ => by rw [pq_c]; decide
  | k + 1, j => by
    rw [pq_c]
    split
    · decide
    · exact pq_cb k j
def pq_z : Nat → Nat := fun _ => 0
theorem pq_c3 : ∀ j, j < 365 → pq_c 12 j ≤ 3 := fun j _ => Nat.le_trans (pq_cb 12 j) (by decide)
/-- the class's characters at the start, written out -/
theorem pq_same {cA : ClassId} {ch : Nat → Nat} (h : ∀ j, j < 365 → ch j = pq_c 12 j) : vp_cell cA (365, .inl (pz_ar ch)) = vp_cell cA (365, .inl (pz_ar (pq_c 12))) := by
  show arrV cA 365 (fun j => .int (pz_ar ch j)) = arrV cA 365 (fun j => .int (pz_ar (pq_c 12) j))
  have h2 : (Array.ofFn (n := 365) fun j : Fin 365 => Value.int (pz_ar ch j.val)) = Array.ofFn (n := 365) fun j : Fin 365 => Value.int (pz_ar (pq_c 12) j.val) := by
    congr 1
    funext j
    rw [pz_ar, pz_ar, h j.val j.isLt]
  unfold arrV
  rw [h2]
theorem pq_world {D : va_G} {cA : ClassId} {a q : Nat} {ch : Nat → Nat} {e1 e2 e3 : Nat × va_E} {H : Heap} (h : ∀ j, j < 365 → ch j = pq_c 12 j) (hP : va_P D vwCl [e1, (a, .inl (cA, 365, .inl (pz_ar ch))), e2, e3] H) : va_P D vwCl [e1, (a, .inl (cA, 365, .inl (pz_ar (pq_c 12)))), e2, e3] H := by
  intro k q hq
  match k, hq with
  | 0, hq => exact hP 0 q hq
  | 1, hq =>
    cases hq
    have h1 := hP 1 _ rfl
    show H[a]? = some (vp_cell cA (365, .inl (pz_ar (pq_c 12))))
    rw [← pq_same h]
    exact h1
  | 2, hq => exact hP 2 q hq
  | 3, hq => exact hP 3 q hq
  | k + 4, hq => simp at hq
