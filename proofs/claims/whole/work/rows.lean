section
-- ===== PART A: goes FIRST, ahead of the names: the tables' words, and 'selects' of the private methods out of them =====
/-- a private method of a class that the tables say can be made, by its rows of tables_1 -/
def lw_okq (q : MethodName × Nat) : Prop := (q.1.cls ≠ "java/lang/invoke/MethodHandle" ∧ q.1.cls ≠ "java/lang/invoke/VarHandle") ∧ Cond.instantiable q.1.cls q.2 ∈ tables_1 ∧ Cond.privateMethod q.1 ∈ tables_1 ∧ Cond.instanceMethod q.1 ∈ tables_1
theorem lw_p0 : lw_okq (⟨"RomanCalendar", "writeCharacter", "(II)V"⟩, 4) := ⟨⟨by decide +kernel, by decide +kernel⟩, List.mem_of_getElem? (i := 11) (by decide +kernel), List.mem_of_getElem? (i := 31) (by decide +kernel), List.mem_of_getElem? (i := 32) (by decide +kernel)⟩
theorem lw_p1 : lw_okq (⟨"java/lang/Throwable", "fillInStackTrace", "(I)Ljava/lang/Throwable;"⟩, 6) := ⟨⟨by decide +kernel, by decide +kernel⟩, List.mem_of_getElem? (i := 109) (by decide +kernel), List.mem_of_getElem? (i := 107) (by decide +kernel), List.mem_of_getElem? (i := 108) (by decide +kernel)⟩
theorem lw_p2 : lw_okq (⟨"RomanCalendar", "isMarketAt", "(I)Z"⟩, 4) := ⟨⟨by decide +kernel, by decide +kernel⟩, List.mem_of_getElem? (i := 11) (by decide +kernel), List.mem_of_getElem? (i := 375) (by decide +kernel), List.mem_of_getElem? (i := 376) (by decide +kernel)⟩
theorem lw_p3 : lw_okq (⟨"RomanCalendar", "slotOf", "(I)I"⟩, 4) := ⟨⟨by decide +kernel, by decide +kernel⟩, List.mem_of_getElem? (i := 11) (by decide +kernel), List.mem_of_getElem? (i := 410) (by decide +kernel), List.mem_of_getElem? (i := 411) (by decide +kernel)⟩
theorem lw_p4 : lw_okq (⟨"RomanCalendar", "countConsulYears", "()I"⟩, 4) := ⟨⟨by decide +kernel, by decide +kernel⟩, List.mem_of_getElem? (i := 11) (by decide +kernel), List.mem_of_getElem? (i := 418) (by decide +kernel), List.mem_of_getElem? (i := 419) (by decide +kernel)⟩
theorem lw_p5 : lw_okq (⟨"RomanCalendar", "nextYearOfPair", "(III)I"⟩, 4) := ⟨⟨by decide +kernel, by decide +kernel⟩, List.mem_of_getElem? (i := 11) (by decide +kernel), List.mem_of_getElem? (i := 452) (by decide +kernel), List.mem_of_getElem? (i := 453) (by decide +kernel)⟩
theorem lw_p6 : lw_okq (⟨"RomanCalendar", "readCharacter", "(I)I"⟩, 4) := ⟨⟨by decide +kernel, by decide +kernel⟩, List.mem_of_getElem? (i := 11) (by decide +kernel), List.mem_of_getElem? (i := 468) (by decide +kernel), List.mem_of_getElem? (i := 469) (by decide +kernel)⟩
theorem lw_p7 : lw_okq (⟨"RomanCalendar", "isVotingDay", "(I)Z"⟩, 4) := ⟨⟨by decide +kernel, by decide +kernel⟩, List.mem_of_getElem? (i := 11) (by decide +kernel), List.mem_of_getElem? (i := 486) (by decide +kernel), List.mem_of_getElem? (i := 487) (by decide +kernel)⟩
theorem lw_p8 : lw_okq (⟨"RomanCalendarModel", "splits", "(I)V"⟩, 9) := ⟨⟨by decide +kernel, by decide +kernel⟩, List.mem_of_getElem? (i := 504) (by decide +kernel), List.mem_of_getElem? (i := 510) (by decide +kernel), List.mem_of_getElem? (i := 511) (by decide +kernel)⟩
theorem lw_p9 : lw_okq (⟨"RomanCalendarModel", "isFine", "(I)Z"⟩, 9) := ⟨⟨by decide +kernel, by decide +kernel⟩, List.mem_of_getElem? (i := 504) (by decide +kernel), List.mem_of_getElem? (i := 576) (by decide +kernel), List.mem_of_getElem? (i := 577) (by decide +kernel)⟩
theorem lw_p10 : lw_okq (⟨"RomanCalendarModel", "isAsked", "(I)Z"⟩, 9) := ⟨⟨by decide +kernel, by decide +kernel⟩, List.mem_of_getElem? (i := 504) (by decide +kernel), List.mem_of_getElem? (i := 592) (by decide +kernel), List.mem_of_getElem? (i := 593) (by decide +kernel)⟩
theorem lw_p11 : lw_okq (⟨"RomanCalendarModel", "anchorNow", "()I"⟩, 9) := ⟨⟨by decide +kernel, by decide +kernel⟩, List.mem_of_getElem? (i := 504) (by decide +kernel), List.mem_of_getElem? (i := 616) (by decide +kernel), List.mem_of_getElem? (i := 617) (by decide +kernel)⟩
theorem lw_p12 : lw_okq (⟨"RomanCalendarModel", "anchorMonthNow", "()I"⟩, 9) := ⟨⟨by decide +kernel, by decide +kernel⟩, List.mem_of_getElem? (i := 504) (by decide +kernel), List.mem_of_getElem? (i := 624) (by decide +kernel), List.mem_of_getElem? (i := 625) (by decide +kernel)⟩
theorem lw_p13 : lw_okq (⟨"RomanCalendarModel", "countNow", "()I"⟩, 9) := ⟨⟨by decide +kernel, by decide +kernel⟩, List.mem_of_getElem? (i := 504) (by decide +kernel), List.mem_of_getElem? (i := 632) (by decide +kernel), List.mem_of_getElem? (i := 633) (by decide +kernel)⟩
theorem lw_p14 : lw_okq (⟨"RomanCalendarModel", "isDoubledNow", "()Z"⟩, 9) := ⟨⟨by decide +kernel, by decide +kernel⟩, List.mem_of_getElem? (i := 504) (by decide +kernel), List.mem_of_getElem? (i := 640) (by decide +kernel), List.mem_of_getElem? (i := 641) (by decide +kernel)⟩
theorem lw_p15 : lw_okq (⟨"RomanCalendarModel", "told", "(IIIIZ)I"⟩, 9) := ⟨⟨by decide +kernel, by decide +kernel⟩, List.mem_of_getElem? (i := 504) (by decide +kernel), List.mem_of_getElem? (i := 648) (by decide +kernel), List.mem_of_getElem? (i := 649) (by decide +kernel)⟩
def lw_privs_1 : List (MethodName × Nat) := [(⟨"RomanCalendar", "writeCharacter", "(II)V"⟩, 4), (⟨"java/lang/Throwable", "fillInStackTrace", "(I)Ljava/lang/Throwable;"⟩, 6), (⟨"RomanCalendar", "isMarketAt", "(I)Z"⟩, 4), (⟨"RomanCalendar", "slotOf", "(I)I"⟩, 4), (⟨"RomanCalendar", "countConsulYears", "()I"⟩, 4), (⟨"RomanCalendar", "nextYearOfPair", "(III)I"⟩, 4), (⟨"RomanCalendar", "readCharacter", "(I)I"⟩, 4), (⟨"RomanCalendar", "isVotingDay", "(I)Z"⟩, 4), (⟨"RomanCalendarModel", "splits", "(I)V"⟩, 9), (⟨"RomanCalendarModel", "isFine", "(I)Z"⟩, 9), (⟨"RomanCalendarModel", "isAsked", "(I)Z"⟩, 9), (⟨"RomanCalendarModel", "anchorNow", "()I"⟩, 9), (⟨"RomanCalendarModel", "anchorMonthNow", "()I"⟩, 9), (⟨"RomanCalendarModel", "countNow", "()I"⟩, 9), (⟨"RomanCalendarModel", "isDoubledNow", "()Z"⟩, 9), (⟨"RomanCalendarModel", "told", "(IIIIZ)I"⟩, 9)]
theorem lw_r1 : ∀ q ∈ lw_privs_1, lw_okq q := List.forall_mem_cons.mpr ⟨lw_p0, List.forall_mem_cons.mpr ⟨lw_p1, List.forall_mem_cons.mpr ⟨lw_p2, List.forall_mem_cons.mpr ⟨lw_p3, List.forall_mem_cons.mpr ⟨lw_p4, List.forall_mem_cons.mpr ⟨lw_p5, List.forall_mem_cons.mpr ⟨lw_p6, List.forall_mem_cons.mpr ⟨lw_p7, List.forall_mem_cons.mpr ⟨lw_p8, List.forall_mem_cons.mpr ⟨lw_p9, List.forall_mem_cons.mpr ⟨lw_p10, List.forall_mem_cons.mpr ⟨lw_p11, List.forall_mem_cons.mpr ⟨lw_p12, List.forall_mem_cons.mpr ⟨lw_p13, List.forall_mem_cons.mpr ⟨lw_p14, List.forall_mem_cons.mpr ⟨lw_p15, fun _ h => absurd h List.not_mem_nil⟩⟩⟩⟩⟩⟩⟩⟩⟩⟩⟩⟩⟩⟩⟩⟩
theorem lw_p16 : lw_okq (⟨"RomanCalendarModel", "lawful", "(I)I"⟩, 9) := ⟨⟨by decide +kernel, by decide +kernel⟩, List.mem_of_getElem? (i := 504) (by decide +kernel), List.mem_of_getElem? (i := 660) (by decide +kernel), List.mem_of_getElem? (i := 661) (by decide +kernel)⟩
theorem lw_p17 : lw_okq (⟨"RomanCalendarModel", "placed", "(I)I"⟩, 9) := ⟨⟨by decide +kernel, by decide +kernel⟩, List.mem_of_getElem? (i := 504) (by decide +kernel), List.mem_of_getElem? (i := 677) (by decide +kernel), List.mem_of_getElem? (i := 678) (by decide +kernel)⟩
theorem lw_p18 : lw_okq (⟨"RomanCalendarModel", "letters", "(III)I"⟩, 9) := ⟨⟨by decide +kernel, by decide +kernel⟩, List.mem_of_getElem? (i := 504) (by decide +kernel), List.mem_of_getElem? (i := 701) (by decide +kernel), List.mem_of_getElem? (i := 702) (by decide +kernel)⟩
theorem lw_p19 : lw_okq (⟨"RomanCalendarModel", "isVoting", "(I)Z"⟩, 9) := ⟨⟨by decide +kernel, by decide +kernel⟩, List.mem_of_getElem? (i := 504) (by decide +kernel), List.mem_of_getElem? (i := 741) (by decide +kernel), List.mem_of_getElem? (i := 742) (by decide +kernel)⟩
def lw_privs_2 : List (MethodName × Nat) := [(⟨"RomanCalendarModel", "lawful", "(I)I"⟩, 9), (⟨"RomanCalendarModel", "placed", "(I)I"⟩, 9), (⟨"RomanCalendarModel", "letters", "(III)I"⟩, 9), (⟨"RomanCalendarModel", "isVoting", "(I)Z"⟩, 9)]
theorem lw_r2 : ∀ q ∈ lw_privs_2, lw_okq q := List.forall_mem_cons.mpr ⟨lw_p16, List.forall_mem_cons.mpr ⟨lw_p17, List.forall_mem_cons.mpr ⟨lw_p18, List.forall_mem_cons.mpr ⟨lw_p19, fun _ h => absurd h List.not_mem_nil⟩⟩⟩⟩
def lw_privs : List (MethodName × Nat) := lw_privs_1 ++ (lw_privs_2)
def lw_tbl : List Cond := k2_sels lw_privs ++ tables_1
theorem lw_privs_ok : ∀ q ∈ lw_privs, lw_okq q := by
  show ∀ q ∈ lw_privs_1 ++ (lw_privs_2), lw_okq q
  exact List.forall_mem_append.mpr ⟨lw_r1, lw_r2⟩
-- ===== end of PART A; then your names; then what follows =====
/-! ===== BEGIN words of one list among another's, by their places ===== -/
theorem goodIn_r {big : List Cond} (ws : List Cond) (ps : List Nat) (hp : ws = ps.filterMap (fun i => big[i]?)) (h : ws.all goodWord = true) : GoodIn big ws := by
  intro w hw
  have h1 := List.all_eq_true.mp h w hw
  rw [hp] at hw
  obtain ⟨i, -, hi⟩ := List.mem_filterMap.mp hw
  have hm : w ∈ big := by first | exact List.mem_of_getElem? hi | exact List.getElem?_mem hi
  exact ⟨hm, good_of_word h1⟩
theorem goodIn_app {big a b : List Cond} (ha : GoodIn big a) (hb : GoodIn big b) : GoodIn big (a ++ b) := fun w h => (List.mem_append.mp h).elim (ha w) (hb w)
theorem goodIn_ca {big a b : List Cond} {c : Cond} (ha : GoodIn big (c :: a)) (hb : GoodIn big b) : GoodIn big (c :: (a ++ b)) := fun w h => (List.mem_cons.mp h).elim (fun e => ha w (List.mem_cons.mpr (Or.inl e))) (fun h => (List.mem_append.mp h).elim (fun h => ha w (List.mem_cons.mpr (Or.inr h))) (hb w))
theorem goodIn_sub {big ws : List Cond} (hm : ∀ w ∈ ws, w ∈ big) (h : ws.all goodWord = true) : GoodIn big ws := fun w hw => ⟨hm w hw, good_of_word (List.all_eq_true.mp h w hw)⟩
/-! ===== END ===== -/

/-! ===== BEGIN exceptions that leave a method, and their catching by the caller (launches without stack traces) ===== -/
section VXA
/-! The laws vx_back, vx_callV, vx_callS, vx_callSW, vx_throw0, vx_throwS follow proofs of the library, with one case more: JvmDerived/Free/Laws.lean (Back.of_free), Shelf42/LK1.lean (callV, callS), Shelf/KitTraced.lean (throwNew0V, throwNewS). -/
/-- where a method has thrown q: the class by its name, the cell, what was written, the world -/
def vx_T (XC : String → State → State → Prop) (st : State) (q : Addr) (t : State) (mc ms : Nat) (free : Addr → Prop) : Prop :=
  ∃ (E : String) (ce : Cell) (L : List Loc), XC E st t ∧ t.heap[q]? = some ce ∧ ce.vm = .none ∧ st.vm.findClass E = some ce.cls ∧ st.WarmedH t.vm ∧ st.sameButNew ({ t with vm := st.vm } : State) L mc ms ∧ ∀ z ∈ L, free z.base
def vx_Q (Qc : Array Value → State → Outcome → State → Prop) (XC : String → State → State → Prop) (mc ms : Nat) (free : Addr → Prop) : Array Value → State → Outcome → State → Prop := fun a st o t =>
  (Qc a st o t ∧ ∃ L, FrameEnd st o t L mc ms ∧ ∀ q ∈ L, free q.base) ∨ ∃ q, o = .threw q ∧ vx_T XC st q t mc ms free
/-- a callee that returns or throws -/
def vx_Met (l : Launch) (y : MethodName) (ws : List Cond) (rm : Room) (Pc : Array Value → State → Prop) (Qc : Array Value → State → Outcome → State → Prop) (XC : String → State → State → Prop) (mc ms : Nat) (free : Addr → Prop) : Prop :=
  MetFree l y (headSpec ws rm) Pc (fun _ _ _ _ _ => True) (vx_Q Qc XC mc ms free)
def vx_Post (XC : String → State → State → Prop) (mc ms : Nat) (free : Addr → Prop) : Pt → Array Value → Addr → Pt → Prop := fun A a q B =>
  ∃ (g : JFrame) (mk : MethodId) (t : State) (L : List Loc) (E : String) (ce : Cell), B.U.heap = t.heap ∧ B.U.vm = t.vm ∧ XC E (A.U.calling g mk a) t ∧ t.heap[q]? = some ce ∧ ce.vm = .none ∧ A.U.vm.findClass E = some ce.cls ∧ B.locs = A.locs ++ L ∧ (∀ z ∈ L, free z.base) ∧ B.cells = A.cells + mc ∧ B.slots = A.slots + ms
def vx_Back (l : Launch) (R : Room) (p : Program) (e : Env) (below : List Frame) (s : State) (sargs : Array Value) (y : MethodName) (len W9 : Nat)
    (Pre : Pt → Array Value → Prop) (Post : Pt → Array Value → Option Value → Pt → Prop) (PostX : Pt → Array Value → Addr → Pt → Prop) : Prop :=
  ∀ (m : MethodId) (meth : Method) (c : Code) (A : Pt) (g : JFrame) (ig : Instr) (mk : MethodId) (a : Array Value),
    Stand p l e R s m sargs below meth c A.U A.locs A.cells A.slots → g.method = m → g.locals.size = c.maxLocals → decode c.code g.pc = .ok (ig, len) →
    2 * g.monitorRoom + (g.stack.map fun v => v.category).sum ≤ W9 → A.U.methodNamed? y = some mk → Pre A a →
    (∃ (v : Option Value) (B : Pt), Stand p l e R s m sargs below meth c B.U B.locs B.cells B.slots ∧ Post A a v B ∧
      Steps p.tables e below (doInvoke e (A.U.setTop g) [] mk a).1 (B.U.setTop { g with pc := g.pc + len, stack := v.toList ++ g.stack })) ∨
    (∃ (q : Addr) (B : Pt), Stand p l e R s m sargs below meth c B.U B.locs B.cells B.slots ∧ PostX A a q B ∧
      Steps p.tables e below (doInvoke e (A.U.setTop g) [] mk a).1 ((B.U.setTop g).pushFrame (.throwing q)))
section Payer
variable {l : Launch} {R : Room} {p : Program} {e : Env} {below : List Frame} {s : State} {sargs : Array Value} {y : MethodName} {len W9 : Nat}
theorem vx_back {ws : List Cond} {rm : Room} {Pc : Array Value → State → Prop} {Qc : Array Value → State → Outcome → State → Prop} {XC : String → State → State → Prop} {mc ms : Nat} {free : Addr → Prop} {bytes : ByteArray} {maxL : Nat} {ret : Option FieldType}
    (hM : vx_Met l y ws rm Pc Qc XC mc ms free) (hblind : FrameBlind Pc) (hrc : rm.cells = mc) (hrs : rm.slots = ms)
    (hframes : rm.frames + 1 ≤ R.frames) (hlocals : W9 + (maxL + 11) + rm.locals ≤ R.locals)
    (hws : ∀ w ∈ ws, ∀ a' U, s.WarmedH U.vm → w.before a' U = true) (hcode : Cond.code y bytes maxL ret ∈ ws) (hinit : ∀ a' U, s.WarmedH U.vm → (Cond.initialized y.cls).before a' U = true) :
    vx_Back l R p e below s sargs y len W9 (PreOf R mc ms Pc) (PostOf Qc mc ms free) (vx_Post XC mc ms free) := by
  intro m meth c A g ig mk a X hg hsize hdg hW hn hp
  have h1 : (headSpec ws rm).pre.before a A.U = true := atoms_intro fun w hw => hws w hw _ _ X.warmed
  have h2 : (Cond.code y bytes maxL ret).before a A.U = true := hws _ hcode _ _ X.warmed
  have h3 : (Cond.initialized y.cls).before a A.U = true := hinit _ _ X.warmed
  have h4 : A.cells + (headSpec ws rm).room.cells ≤ R.cells := by rw [show (headSpec ws rm).room.cells = mc from hrc]; exact hp.1
  have h5 : A.slots + (headSpec ws rm).room.slots ≤ R.slots := by rw [show (headSpec ws rm).room.slots = ms from hrs]; exact hp.2.1
  have hPc : Pc a (A.U.calling g mk a) := hblind _ _ _ _ hp.2.2
  obtain ⟨U, Ls, c0, s0⟩ := A
  dsimp only [Pt.U, Pt.locs, Pt.cells, Pt.slots] at h1 h2 h3 h4 h5 X hn hPc ⊢
  obtain ⟨methY, cY, hmY, hcY, -, hlY, -, -, -, -⟩ := Cond.code_spec hn h2
  obtain ⟨kY, hkY, -⟩ := className_of_methodNamed hn
  have hinitY : kY.init = .initialized := Cond.initialized_spec (findClass_of_methodNamed hn) hkY h3
  have h : At U g.method c below := by rw [hg]; exact X.here
  have hlocals9 : W9 + (maxL + 11) + (headSpec ws rm).room.locals ≤ R.locals := hlocals
  have happ : (headSpec ws rm).appliesLoose y e.platform (U.calling g mk a) = true :=
    Spec.appliesLoose_calling (g := g) h hdg hn hkY hinitY
      (X.room_calling (g := g) (R' := (headSpec ws rm).room) hsize hmY hcY hframes (by rw [hlY]; omega) h4 h5) h1
  obtain ⟨mid, hmid⟩ := h.above
  have hfr : (U.setTop g).frames = (.java g :: mid) ++ below := by rw [State.frames_setTop' g h.top, hmid]; rfl
  obtain ⟨o, s₂, hsteps, -, hend, hq⟩ := Steps.callFree hM p X.admits X.cas X.clock (acts := []) hfr happ hPc trivial
  have hq' : vx_Q Qc XC mc ms free a (U.calling g mk a) o s₂ := hq
  rw [State.frames_setTop' g h.top] at hend
  obtain ⟨g₀, hg0⟩ := Option.isSome_iff_exists.mp h.top
  obtain ⟨r, hr⟩ := State.topJava?_eq_some.mp hg0
  have hr' : (({ U with heap := s₂.heap, slotsUsed := s₂.slotsUsed } : State).setVm s₂.vm).frames = .java g₀ :: r := hr
  rcases hq' with ⟨hqc, L, hfe, hL⟩ | ⟨q, rfl, E, ce, L, hx, hce, hcv, hcl, hW₂, hsm, hL⟩
  · obtain ⟨⟨v, rfl⟩, hW₂, e2, q2, q3, q4, q5, q6⟩ := id hfe
    have e3 : s₂ = ({ (U.calling g mk a).setFrames s₂.frames with heap := s₂.heap, slotsUsed := s₂.slotsUsed } : State).setVm s₂.vm := by
      have : s₂ = ({ s₂ with vm := (U.calling g mk a).vm } : State).setVm s₂.vm := rfl
      rw [e2] at this
      exact this
    obtain ⟨c₂, i₂, len₂, hc₂, hd₂, hf₂⟩ := hend
    have hW' : U.WarmedH s₂.vm := hW₂
    have hcc : c₂ = c := by
      have h1 : s₂.code? g.method = U.code? g.method := by
        rw [State.code?_eq, State.code?_eq, hW'.alike.method?]
      exact Option.some.inj (hc₂.symm.trans (h1.trans h.code))
    subst hcc
    have hlen : len₂ = len := by rw [hdg] at hd₂; cases hd₂; rfl
    subst hlen
    have hs₂ : s₂ = (({ U with heap := s₂.heap, slotsUsed := s₂.slotsUsed } : State).setVm s₂.vm).setTop { g with pc := g.pc + len₂, stack := v.toList ++ g.stack } := by
      refine e3.trans ?_
      rw [hf₂, State.calling_eq h.top, State.setFrames_setFrames, State.setTop_of_frames _ hr', hr]
      rfl
    have hsame : U.sameButNew ({ U with heap := s₂.heap, slotsUsed := s₂.slotsUsed } : State) L mc ms := by
      refine ⟨?_, q2, q3, q4, q5, q6⟩
      obtain ⟨t, ht, -⟩ := State.frames_cons hr
      show ({ U with heap := s₂.heap, slotsUsed := s₂.slotsUsed } : State) = { U.setFrames U.frames with heap := s₂.heap, slotsUsed := s₂.slotsUsed }
      rw [State.setFrames_self ht]
    subst hg
    refine Or.inl ⟨v, ⟨(({ U with heap := s₂.heap, slotsUsed := s₂.slotsUsed } : State).setVm s₂.vm), Ls ++ L, c0 + mc, s0 + ms⟩,
      ⟨X.admits, X.cas, X.clock, X.frames, X.room, X.hears, X.method, X.code, (X.here.setHeapUsed s₂.heap s₂.slotsUsed).setVm hW'.alike, X.tail, State.WarmedH.trans X.warmed hW', X.limits, X.bytes, X.same.trans (hsame.setVm s.vm)⟩,
      ⟨g, mk, s₂, L, rfl, rfl, hqc, rfl, hL, rfl, rfl⟩, ?_⟩
    show Steps p.tables e below _ ((({ U with heap := s₂.heap, slotsUsed := s₂.slotsUsed } : State).setVm s₂.vm).setTop { g with pc := g.pc + len₂, stack := v.toList ++ g.stack })
    rw [← hs₂]
    exact hsteps
  · obtain ⟨e2, q2, q3, q4, q5, q6⟩ := id hsm
    have e3 : s₂ = ({ (U.calling g mk a).setFrames s₂.frames with heap := s₂.heap, slotsUsed := s₂.slotsUsed } : State).setVm s₂.vm := by
      have : s₂ = ({ s₂ with vm := (U.calling g mk a).vm } : State).setVm s₂.vm := rfl
      rw [e2] at this
      exact this
    have hf₂ : s₂.frames = .throwing q :: .java g :: U.frames.tail := hend
    have hW' : U.WarmedH s₂.vm := hW₂
    have hs₂ : s₂ = ((({ U with heap := s₂.heap, slotsUsed := s₂.slotsUsed } : State).setVm s₂.vm).setTop g).pushFrame (.throwing q) := by
      refine e3.trans ?_
      rw [hf₂, State.calling_eq h.top, State.setFrames_setFrames, State.pushFrame, State.frames_setTop _ hr', State.setTop_of_frames _ hr', State.setFrames_setFrames, hr]
      rfl
    have hsame : U.sameButNew ({ U with heap := s₂.heap, slotsUsed := s₂.slotsUsed } : State) L mc ms := by
      refine ⟨?_, q2, q3, q4, q5, q6⟩
      obtain ⟨t, ht, -⟩ := State.frames_cons hr
      show ({ U with heap := s₂.heap, slotsUsed := s₂.slotsUsed } : State) = { U.setFrames U.frames with heap := s₂.heap, slotsUsed := s₂.slotsUsed }
      rw [State.setFrames_self ht]
    subst hg
    refine Or.inr ⟨q, ⟨(({ U with heap := s₂.heap, slotsUsed := s₂.slotsUsed } : State).setVm s₂.vm), Ls ++ L, c0 + mc, s0 + ms⟩,
      ⟨X.admits, X.cas, X.clock, X.frames, X.room, X.hears, X.method, X.code, (X.here.setHeapUsed s₂.heap s₂.slotsUsed).setVm hW'.alike, X.tail, State.WarmedH.trans X.warmed hW', X.limits, X.bytes, X.same.trans (hsame.setVm s.vm)⟩,
      ⟨g, mk, s₂, L, E, ce, rfl, rfl, hx, hce, hcv, hcl, rfl, hL, rfl, rfl⟩, ?_⟩
    show Steps p.tables e below _ (((({ U with heap := s₂.heap, slotsUsed := s₂.slotsUsed } : State).setVm s₂.vm).setTop g).pushFrame (.throwing q))
    rw [← hs₂]
    exact hsteps
end Payer
section Calls
variable {p : Program} {l : Launch} {e : Env} {R : Room} {s : State} {m : MethodId} {args : Array Value} {below : List Frame} {meth : Method} {c : Code} {T : State} {locs : List Loc} {cells slots : Nat}
theorem vx_callV (X : Stand p l e R s m args below meth c T locs cells slots) (hexec : p.tables.exec = Jvm.exec) {own C : String} {index : Nat} {y : MethodName} {bytes : ByteArray} {maxL : Nat} {ret : Option FieldType}
    (hown : s.vm.findClass own = some m.cls) (hlink : (Cond.methodLink own index y).before args s = true) (hinst : (Cond.instanceMethod y).before args s = true) (hsel : (Cond.selects C y y).before args s = true)
    (hcode : (Cond.code y bytes maxL ret).before args s = true) (hy : y.cls ≠ "java/lang/invoke/MethodHandle" ∧ y.cls ≠ "java/lang/invoke/VarHandle")
    {W9 : Nat} {Pre : Pt → Array Value → Prop} {Post : Pt → Array Value → Option Value → Pt → Prop} {PostX : Pt → Array Value → Addr → Pt → Prop} (hK : vx_Back l R p e below s args y 3 W9 Pre Post PostX)
    {b : Addr} {cellB : Cell} (hcell : T.heap[b]? = some cellB) (hobj : cellB.vm.isStatics = false) (hcls : s.vm.findClass C = some cellB.cls)
    {g : JFrame} (hg : g.method = m) (hsize : g.locals.size = c.maxLocals) {argsL rest : List Value} (hlen : ∀ sig, parseMethodDescriptor y.desc = some sig → argsL.length = sig.parameters.length)
    (hstack : g.stack = argsL.reverse ++ .ref b :: rest) (hW : 2 * g.monitorRoom + (rest.map fun v => v.category).sum ≤ W9) (hdg : decode c.code g.pc = .ok (.invokevirtual index, 3))
    (hpre : ∀ vm₁, s.WarmedH vm₁ → Pre ⟨T.setVm vm₁, locs, cells, slots⟩ (Value.ref b :: argsL).toArray) :
    (∃ (v : Option Value) (vm₁ : Vm) (B : Pt), s.WarmedH vm₁ ∧ Stand p l e R s m args below meth c B.U B.locs B.cells B.slots ∧ Post ⟨T.setVm vm₁, locs, cells, slots⟩ (Value.ref b :: argsL).toArray v B ∧
      ∀ target, Steps p.tables e below (B.U.setTop { g with pc := g.pc + 3, stack := v.toList ++ rest }) target → Steps p.tables e below (T.setTop g) target) ∨
    (∃ (q : Addr) (vm₁ : Vm) (B : Pt), s.WarmedH vm₁ ∧ Stand p l e R s m args below meth c B.U B.locs B.cells B.slots ∧ PostX ⟨T.setVm vm₁, locs, cells, slots⟩ (Value.ref b :: argsL).toArray q B ∧
      Steps p.tables e below (T.setTop g) ((B.U.setTop { g with stack := rest }).pushFrame (.throwing q))) := by
  obtain ⟨mk, methM, hnamed, hmethM, hstM, habM⟩ := Cond.instanceMethod_spec hinst
  obtain ⟨methM', cM, hmethM', -, -, -, -, -, -, hsigM⟩ := Cond.code_spec hnamed hcode
  cases hmethM.symm.trans hmethM'
  obtain ⟨c2, r2, m2, q1, q2, q3, q4, kP, hkP, hkPi⟩ := Cond.selects_spec hsel
  cases hcls.symm.trans q1
  cases (State.methodFound?_of_named hnamed hy).symm.trans q2
  cases hnamed.symm.trans q3
  have hselP : selectMethod e.platform s.vm cellB.cls mk = .method mk := by rw [Launch.admits_selectMethod X.admits]; exact q4
  obtain ⟨vm₁, X₁, hstep₁⟩ := X.invokevirtual hexec hown hlink hnamed hmethM hstM hkP hkPi hy (a := b) (cell := cellB) hcell
    (fun z h => by rw [h] at hobj; cases hobj) hselP hmethM habM hkP hkPi (g := g) hg (argsL := argsL) (rest := rest) (hlen _ hsigM) hstack hdg
  rcases hK m meth c ⟨T.setVm vm₁, locs, cells, slots⟩ { g with stack := rest } (.invokevirtual index) mk (Value.ref b :: argsL).toArray X₁ hg hsize hdg hW (X₁.named hnamed) (hpre vm₁ X₁.warmed) with ⟨v, B, X', hpost, hsteps⟩ | ⟨q, B, X', hpost, hsteps⟩
  · exact Or.inl ⟨v, vm₁, B, X₁.warmed, X', hpost, fun target h => hstep₁ _ fun acts => by rw [doInvoke_state]; exact hsteps.trans h⟩
  · exact Or.inr ⟨q, vm₁, B, X₁.warmed, X', hpost, hstep₁ _ fun acts => by rw [doInvoke_state]; exact hsteps⟩
theorem vx_callS (X : Stand p l e R s m args below meth c T locs cells slots) (hexec : p.tables.exec = Jvm.exec) {own : String} {index : Nat} {y : MethodName} {bytes : ByteArray} {maxL : Nat} {ret : Option FieldType}
    (hown : s.vm.findClass own = some m.cls) (hlink : (Cond.methodLink own index y).before args s = true) (hstat : (Cond.static y).before args s = true) (hinit : (Cond.initialized y.cls).before args s = true)
    (hcode : (Cond.code y bytes maxL ret).before args s = true) (hy : y.cls ≠ "java/lang/invoke/MethodHandle" ∧ y.cls ≠ "java/lang/invoke/VarHandle")
    {W9 : Nat} {Pre : Pt → Array Value → Prop} {Post : Pt → Array Value → Option Value → Pt → Prop} {PostX : Pt → Array Value → Addr → Pt → Prop} (hK : vx_Back l R p e below s args y 3 W9 Pre Post PostX)
    {g : JFrame} (hg : g.method = m) (hsize : g.locals.size = c.maxLocals) {argsL rest : List Value} (hlen : ∀ sig, parseMethodDescriptor y.desc = some sig → argsL.length = sig.parameters.length)
    (hstack : g.stack = argsL.reverse ++ rest) (hW : 2 * g.monitorRoom + (rest.map fun v => v.category).sum ≤ W9) (hdg : decode c.code g.pc = .ok (.invokestatic index, 3))
    (hpre : ∀ vm₁, s.WarmedH vm₁ → Pre ⟨T.setVm vm₁, locs, cells, slots⟩ argsL.toArray) :
    (∃ (v : Option Value) (vm₁ : Vm) (B : Pt), s.WarmedH vm₁ ∧ Stand p l e R s m args below meth c B.U B.locs B.cells B.slots ∧ Post ⟨T.setVm vm₁, locs, cells, slots⟩ argsL.toArray v B ∧
      ∀ target, Steps p.tables e below (B.U.setTop { g with pc := g.pc + 3, stack := v.toList ++ rest }) target → Steps p.tables e below (T.setTop g) target) ∨
    (∃ (q : Addr) (vm₁ : Vm) (B : Pt), s.WarmedH vm₁ ∧ Stand p l e R s m args below meth c B.U B.locs B.cells B.slots ∧ PostX ⟨T.setVm vm₁, locs, cells, slots⟩ argsL.toArray q B ∧
      Steps p.tables e below (T.setTop g) ((B.U.setTop { g with stack := rest }).pushFrame (.throwing q))) := by
  obtain ⟨mk, hnamed⟩ := Cond.code_named hcode
  obtain ⟨methM, cM, hmethM, -, -, -, -, -, -, hsigM⟩ := Cond.code_spec hnamed hcode
  have hstatic : methM.isStatic = true := Cond.static_spec hnamed hmethM hstat
  obtain ⟨kP, hkP, -⟩ := className_of_methodNamed hnamed
  have hinitP : kP.init = .initialized := Cond.initialized_spec (findClass_of_methodNamed hnamed) hkP hinit
  obtain ⟨vm₁, X₁, hstep₁⟩ := X.invokestatic hexec hown hlink hnamed hmethM hstatic hkP hinitP hy (g := g) hg (argsL := argsL) (rest := rest) (hlen _ hsigM) hstack hdg
  rcases hK m meth c ⟨T.setVm vm₁, locs, cells, slots⟩ { g with stack := rest } (.invokestatic index) mk argsL.toArray X₁ hg hsize hdg hW (X₁.named hnamed) (hpre vm₁ X₁.warmed) with ⟨v, B, X', hpost, hsteps⟩ | ⟨q, B, X', hpost, hsteps⟩
  · exact Or.inl ⟨v, vm₁, B, X₁.warmed, X', hpost, fun target h => hstep₁ _ fun acts => by rw [doInvoke_state]; exact hsteps.trans h⟩
  · exact Or.inr ⟨q, vm₁, B, X₁.warmed, X', hpost, hstep₁ _ fun acts => by rw [doInvoke_state]; exact hsteps⟩
end Calls
theorem vx_cls {s : State} {T : State} {vm₁ : Vm} {E : String} {k : ClassId} (hW : s.WarmedH vm₁) (h : (T.setVm vm₁).vm.findClass E = some k) : s.vm.findClass E = some k := by
  have h1 : vm₁.findClass E = some k := h
  rw [hW.alike.findClass] at h1
  exact h1
/-- the method's frame g, with q thrown over it -/
def vx_W (p : Program) (l : Launch) (e : Env) (R : Room) (s : State) (m : MethodId) (args : Array Value) (below : List Frame) (meth : Method) (c : Code) (H : Heap) (locs : List Loc) (cells slots : Nat) (Q : State → Prop) (g : JFrame) (q : Addr) : Prop :=
  ∀ T : State, T.heap = H → Stand p l e R s m args below meth c T locs cells slots → ∃ t, Steps p.tables e below ((T.setTop g).pushFrame (.throwing q)) t ∧ Q t
def vx_Run (p : Program) (l : Launch) (e : Env) (R : Room) (s : State) (m : MethodId) (args : Array Value) (below : List Frame) (meth : Method) (c : Code) (H : Heap) (locs : List Loc) (cells slots mc ms : Nat) (g : JFrame) (rest : List Value) (Qa : State → Outcome → State → Prop) (XC : String → State → State → Prop) (free : Addr → Prop) : Prop :=
  ∀ T : State, T.heap = H → Stand p l e R s m args below meth c T locs cells slots →
    (∃ (v : Option Value) (st₀ t T' : State) (L : List Loc), st₀.heap = H ∧ Stand p l e R s m args below meth c T' (locs ++ L) (cells + mc) (slots + ms) ∧ (∀ q ∈ L, free q.base) ∧ T'.heap = t.heap ∧ T'.vm = t.vm ∧ Qa st₀ (.returned v) t ∧
      Goes p e below T g T' { g with pc := g.pc + 3, stack := v.toList ++ rest }) ∨
    (∃ (q : Addr) (st₀ t T' : State) (L : List Loc) (E : String) (ce : Cell), st₀.heap = H ∧ Stand p l e R s m args below meth c T' (locs ++ L) (cells + mc) (slots + ms) ∧ (∀ z ∈ L, free z.base) ∧ T'.heap = t.heap ∧ T'.vm = t.vm ∧ XC E st₀ t ∧ t.heap[q]? = some ce ∧ ce.vm = .none ∧ s.vm.findClass E = some ce.cls ∧
      Steps p.tables e below (T.setTop g) ((T'.setTop { g with stack := rest }).pushFrame (.throwing q)))
def vx_X {S : Type} (px : S → Prop) (B : String → S → State → Prop) (A : Nat → Prop) : String → State → State → Prop := fun E st t => ∃ u : S, px u ∧ B E u t ∧ va_F A st t
section Runs
variable {p : Program} {l : Launch} {e : Env} {R : Room} {s : State} {m : MethodId} {args : Array Value} {below : List Frame} {meth : Method} {c : Code} {H : Heap} {locs : List Loc} {cells slots : Nat}
variable {y : MethodName} {bytes cc : ByteArray} {maxL nL mc ms n index : Nat} {ret : Option FieldType} {ws : List Cond} {rm : Room} {Pc : Array Value → State → Prop} {Qc : Array Value → State → Outcome → State → Prop} {XC : String → State → State → Prop} {free : Addr → Prop} {Ts : List Cond} {own C : String} {b : Addr} {As rest : List Value} {g : JFrame}
theorem vx_callBack (cb : CallB R s args own index y bytes maxL ret ws rm mc ms n) (hM : vx_Met l y ws rm Pc Qc XC mc ms free) (hbl : FrameBlind Pc) : vx_Back l R p e below s args y 3 8 (PreOf R mc ms Pc) (PostOf Qc mc ms free) (vx_Post XC mc ms free) := by
  obtain ⟨hrc, hrs, hfr, hlo, hws, hcw, -, hini, -⟩ := cb
  exact vx_back (bytes := bytes) (maxL := maxL) (ret := ret) hM hbl hrc hrs hfr hlo hws hcw (fun a' U hW => word_at hW (Or.inl (by first | rfl | simp [Cond.onTables, Cond.keeps, Cond.steady])) hini)
theorem vx_runV (S : CallFix p m c cc nL s args Ts own) (hM : vx_Met l y ws rm Pc Qc XC mc ms free) (cw : CallW R s args own C index y bytes maxL ret ws rm mc ms n) (hp : PreV s H C b Pc As)
    (hg : g.method = m) (hn : As.length = n) (hsize : g.locals.size = nL) (hstack : g.stack = As.reverse ++ .ref b :: rest) (hW : 2 * g.monitorRoom + (rest.map fun v => v.category).sum ≤ 8) (hdg : decode cc g.pc = .ok (.invokevirtual index, 3)) (hf : cells + mc ≤ R.cells ∧ slots + ms ≤ R.slots) :
    vx_Run p l e R s m args below meth c H locs cells slots mc ms g rest (Qc (Value.ref b :: As).toArray) XC free := by
  have hK : vx_Back l R p e below s args y 3 8 (PreOf R mc ms Pc) (PostOf Qc mc ms free) (vx_Post XC mc ms free) := vx_callBack cw.1 hM hp.1
  obtain ⟨⟨-, -, -, -, -, -, hcode, -, hy, hlen, hl⟩, hin, hse⟩ := cw
  obtain ⟨hx, hb, hml, ho, -⟩ := S
  obtain ⟨-, ⟨cellB, hcB, hoB, hclB⟩, hPc⟩ := hp
  intro T hT X
  rcases vx_callV X hx (C := C) (bytes := bytes) (maxL := maxL) (ret := ret) ho hl hin hse hcode hy hK (by rw [hT]; exact hcB) hoB hclB hg (hsize.trans hml.symm) (argsL := As) (rest := rest) (fun sig h => hn.trans (hlen sig h)) hstack hW (by rw [hb]; exact hdg)
    (fun vm₁ hW₁ => ⟨hf.1, hf.2, hPc (T.setVm vm₁) hT hW₁⟩) with ⟨v, vm₁, ⟨U', l2, c2, s2⟩, hW₁, X', ⟨g', mk, t, L, e1, e2, hq, h1, hL, h2, h3⟩, st⟩ | ⟨q, vm₁, ⟨U', l2, c2, s2⟩, hW₁, X', ⟨g', mk, t, L, E, ce, e1, e2, hq, hce, hcv, hcl, h1, hL, h2, h3⟩, st⟩
  · dsimp only [Pt.U, Pt.locs, Pt.cells, Pt.slots] at X' e1 e2 h1 h2 h3 st
    subst h1; subst h2; subst h3
    exact Or.inl ⟨v, (T.setVm vm₁).calling g' mk (Value.ref b :: As).toArray, t, U', L, hT, X', hL, e1, e2, hq, st⟩
  · dsimp only [Pt.U, Pt.locs, Pt.cells, Pt.slots] at X' e1 e2 h1 h2 h3 st hcl
    subst h1; subst h2; subst h3
    exact Or.inr ⟨q, (T.setVm vm₁).calling g' mk (Value.ref b :: As).toArray, t, U', L, E, ce, hT, X', hL, e1, e2, hq, hce, hcv, vx_cls hW₁ hcl, st⟩
theorem vx_runS (S : CallFix p m c cc nL s args Ts own) (hM : vx_Met l y ws rm Pc Qc XC mc ms free) (cw : CallB R s args own index y bytes maxL ret ws rm mc ms n ∧ (Cond.static y).before args s = true) (hp : PreS s H Pc As)
    (hg : g.method = m) (hn : As.length = n) (hsize : g.locals.size = nL) (hstack : g.stack = As.reverse ++ rest) (hW : 2 * g.monitorRoom + (rest.map fun v => v.category).sum ≤ 8) (hdg : decode cc g.pc = .ok (.invokestatic index, 3)) (hf : cells + mc ≤ R.cells ∧ slots + ms ≤ R.slots) :
    vx_Run p l e R s m args below meth c H locs cells slots mc ms g rest (Qc As.toArray) XC free := by
  have hK : vx_Back l R p e below s args y 3 8 (PreOf R mc ms Pc) (PostOf Qc mc ms free) (vx_Post XC mc ms free) := vx_callBack cw.1 hM hp.1
  obtain ⟨⟨-, -, -, -, -, -, hcode, hini, hy, hlen, hl⟩, hstt⟩ := cw
  obtain ⟨hx, hb, hml, ho, -⟩ := S
  intro T hT X
  rcases vx_callS X hx (bytes := bytes) (maxL := maxL) (ret := ret) ho hl hstt hini hcode hy hK hg (hsize.trans hml.symm) (argsL := As) (rest := rest) (fun sig h => hn.trans (hlen sig h)) hstack hW (by rw [hb]; exact hdg)
    (fun vm₁ hW₁ => ⟨hf.1, hf.2, hp.2 (T.setVm vm₁) hT hW₁⟩) with ⟨v, vm₁, ⟨U', l2, c2, s2⟩, hW₁, X', ⟨g', mk, t, L, e1, e2, hq, h1, hL, h2, h3⟩, st⟩ | ⟨q, vm₁, ⟨U', l2, c2, s2⟩, hW₁, X', ⟨g', mk, t, L, E, ce, e1, e2, hq, hce, hcv, hcl, h1, hL, h2, h3⟩, st⟩
  · dsimp only [Pt.U, Pt.locs, Pt.cells, Pt.slots] at X' e1 e2 h1 h2 h3 st
    subst h1; subst h2; subst h3
    exact Or.inl ⟨v, (T.setVm vm₁).calling g' mk As.toArray, t, U', L, hT, X', hL, e1, e2, hq, st⟩
  · dsimp only [Pt.U, Pt.locs, Pt.cells, Pt.slots] at X' e1 e2 h1 h2 h3 st hcl
    subst h1; subst h2; subst h3
    exact Or.inr ⟨q, (T.setVm vm₁).calling g' mk As.toArray, t, U', L, E, ce, hT, X', hL, e1, e2, hq, hce, hcv, vx_cls hW₁ hcl, st⟩
end Runs
section Rows
variable {p : Program} {l : Launch} {e : Env} {R : Room} {s : State} {m : MethodId} {args : Array Value} {below : List Frame} {meth : Method} {c : Code} {H : Heap} {locs : List Loc} {cells slots : Nat} {Q : State → Prop}
variable {mc ms : Nat} {free : Addr → Prop} {A0 A1 : Nat → Prop} {H0 : Heap} {a : Array Value} {pc : Nat} {ls : Array Slot} {st0 rest : List Value}
theorem vx_keep {st₀ t T' : State} {L : List Loc} (h0 : st₀.heap = H) (e1 : T'.heap = t.heap) (hS : va_S A0 H0 H locs) (hA : ∀ q, q < H.size → A1 q → A0 q) (hf : ∀ q, free q → A0 q) (hL : ∀ q ∈ L, free q.base) (hF : va_F A1 st₀ t) :
    H.size ≤ T'.heap.size ∧ (∀ q : Nat, q < H.size → ¬ A1 q → T'.heap[q]? = H[q]?) ∧ va_S A0 H0 T'.heap (locs ++ L) := by
  obtain ⟨hz, hk⟩ := hF
  rw [h0] at hz hk
  exact ⟨by rw [e1]; exact hz, fun q h1 h2 => by rw [e1]; exact hk q h1 h2,
    ⟨Nat.le_trans hS.1 (by rw [e1]; exact hz), fun q h1 h2 => by rw [e1, hk q (Nat.lt_of_lt_of_le h1 hS.1) (fun z => h2 (hA q (Nat.lt_of_lt_of_le h1 hS.1) z))]; exact hS.2.1 q h1 h2, fun q hq => by
      rcases List.mem_append.mp hq with h | h
      · exact hS.2.2 q h
      · exact hf _ (hL q h)⟩⟩
theorem vx_calli {S SX : Type} {post : Int32 → S → Prop} {px : SX → Prop} {B : S → State → Prop} {BX : String → SX → State → Prop} {AX : Nat → Prop} (hr : vx_Run p l e R s m args below meth c H locs cells slots mc ms (F0 m pc ls st0) rest (va_Qi post B A1 a) (vx_X px BX AX) free) (hS : va_S A0 H0 H locs) (hA : ∀ q, q < H.size → A1 q → A0 q) (hf : ∀ q, free q → A0 q) (hAX : ∀ q, q < H.size → AX q → A0 q)
    (kx : ∀ (E : String) (ce : Cell) (q9 : Addr) (u : SX) (t : State) (H1 : Heap) (locs1 : List Loc), t.heap = H1 → s.vm.Alike t.vm → px u → BX E u t → H.size ≤ H1.size → (∀ q : Nat, q < H.size → ¬ AX q → H1[q]? = H[q]?) → va_S A0 H0 H1 locs1 → H1[q9]? = some ce → ce.vm = .none → s.vm.findClass E = some ce.cls → vx_W p l e R s m args below meth c H1 locs1 (cells + mc) (slots + ms) Q (F0 m pc ls rest) q9)
    (kk : ∀ (r : Int32) (u : S) (t : State) (H1 : Heap) (locs1 : List Loc), t.heap = H1 → s.vm.Alike t.vm → post r u → B u t → H.size ≤ H1.size → (∀ q : Nat, q < H.size → ¬ A1 q → H1[q]? = H[q]?) → va_S A0 H0 H1 locs1 → W p l e R s m args below meth c H1 locs1 (cells + mc) (slots + ms) Q (F0 m (pc + 3) ls (.int r :: rest))) : W p l e R s m args below meth c H locs cells slots Q (F0 m pc ls st0) := by
  intro T hT X
  rcases hr T hT X with ⟨v, st₀, t, T', L, h0, X', hL, e1, e2, ⟨⟨r, u, hv, hp, hb⟩, hF⟩, st⟩ | ⟨q, st₀, t, T', L, E, ce, h0, X', hL, e1, e2, ⟨u, hp, hb, hF⟩, hce, hcv, hcl, st⟩
  · cases hv
    obtain ⟨k1, k2, k3⟩ := vx_keep h0 e1 hS hA hf hL hF
    obtain ⟨t2, a1, b1⟩ := kk r u t T'.heap (locs ++ L) e1.symm (by rw [← e2]; exact X'.warmed.alike) hp hb k1 k2 k3 T' rfl X'
    exact ⟨t2, st t2 a1, b1⟩
  · obtain ⟨k1, k2, k3⟩ := vx_keep h0 e1 hS hAX hf hL hF
    obtain ⟨t2, a1, b1⟩ := kx E ce q u t T'.heap (locs ++ L) e1.symm (by rw [← e2]; exact X'.warmed.alike) hp hb k1 k2 k3 (by rw [e1]; exact hce) hcv hcl T' rfl X'
    exact ⟨t2, st.trans a1, b1⟩
theorem vx_calll {S SX : Type} {post : Int64 → S → Prop} {px : SX → Prop} {B : S → State → Prop} {BX : String → SX → State → Prop} {AX : Nat → Prop} (hr : vx_Run p l e R s m args below meth c H locs cells slots mc ms (F0 m pc ls st0) rest (va_Ql post B A1 a) (vx_X px BX AX) free) (hS : va_S A0 H0 H locs) (hA : ∀ q, q < H.size → A1 q → A0 q) (hf : ∀ q, free q → A0 q) (hAX : ∀ q, q < H.size → AX q → A0 q)
    (kx : ∀ (E : String) (ce : Cell) (q9 : Addr) (u : SX) (t : State) (H1 : Heap) (locs1 : List Loc), t.heap = H1 → s.vm.Alike t.vm → px u → BX E u t → H.size ≤ H1.size → (∀ q : Nat, q < H.size → ¬ AX q → H1[q]? = H[q]?) → va_S A0 H0 H1 locs1 → H1[q9]? = some ce → ce.vm = .none → s.vm.findClass E = some ce.cls → vx_W p l e R s m args below meth c H1 locs1 (cells + mc) (slots + ms) Q (F0 m pc ls rest) q9)
    (kk : ∀ (r : Int64) (u : S) (t : State) (H1 : Heap) (locs1 : List Loc), t.heap = H1 → s.vm.Alike t.vm → post r u → B u t → H.size ≤ H1.size → (∀ q : Nat, q < H.size → ¬ A1 q → H1[q]? = H[q]?) → va_S A0 H0 H1 locs1 → W p l e R s m args below meth c H1 locs1 (cells + mc) (slots + ms) Q (F0 m (pc + 3) ls (.long r :: rest))) : W p l e R s m args below meth c H locs cells slots Q (F0 m pc ls st0) := by
  intro T hT X
  rcases hr T hT X with ⟨v, st₀, t, T', L, h0, X', hL, e1, e2, ⟨⟨r, u, hv, hp, hb⟩, hF⟩, st⟩ | ⟨q, st₀, t, T', L, E, ce, h0, X', hL, e1, e2, ⟨u, hp, hb, hF⟩, hce, hcv, hcl, st⟩
  · cases hv
    obtain ⟨k1, k2, k3⟩ := vx_keep h0 e1 hS hA hf hL hF
    obtain ⟨t2, a1, b1⟩ := kk r u t T'.heap (locs ++ L) e1.symm (by rw [← e2]; exact X'.warmed.alike) hp hb k1 k2 k3 T' rfl X'
    exact ⟨t2, st t2 a1, b1⟩
  · obtain ⟨k1, k2, k3⟩ := vx_keep h0 e1 hS hAX hf hL hF
    obtain ⟨t2, a1, b1⟩ := kx E ce q u t T'.heap (locs ++ L) e1.symm (by rw [← e2]; exact X'.warmed.alike) hp hb k1 k2 k3 (by rw [e1]; exact hce) hcv hcl T' rfl X'
    exact ⟨t2, st.trans a1, b1⟩
theorem vx_callf {S SX : Type} {post : UInt32 → S → Prop} {px : SX → Prop} {B : S → State → Prop} {BX : String → SX → State → Prop} {AX : Nat → Prop} (hr : vx_Run p l e R s m args below meth c H locs cells slots mc ms (F0 m pc ls st0) rest (va_Qf post B A1 a) (vx_X px BX AX) free) (hS : va_S A0 H0 H locs) (hA : ∀ q, q < H.size → A1 q → A0 q) (hf : ∀ q, free q → A0 q) (hAX : ∀ q, q < H.size → AX q → A0 q)
    (kx : ∀ (E : String) (ce : Cell) (q9 : Addr) (u : SX) (t : State) (H1 : Heap) (locs1 : List Loc), t.heap = H1 → s.vm.Alike t.vm → px u → BX E u t → H.size ≤ H1.size → (∀ q : Nat, q < H.size → ¬ AX q → H1[q]? = H[q]?) → va_S A0 H0 H1 locs1 → H1[q9]? = some ce → ce.vm = .none → s.vm.findClass E = some ce.cls → vx_W p l e R s m args below meth c H1 locs1 (cells + mc) (slots + ms) Q (F0 m pc ls rest) q9)
    (kk : ∀ (r : UInt32) (u : S) (t : State) (H1 : Heap) (locs1 : List Loc), t.heap = H1 → s.vm.Alike t.vm → post r u → B u t → H.size ≤ H1.size → (∀ q : Nat, q < H.size → ¬ A1 q → H1[q]? = H[q]?) → va_S A0 H0 H1 locs1 → W p l e R s m args below meth c H1 locs1 (cells + mc) (slots + ms) Q (F0 m (pc + 3) ls (.float r :: rest))) : W p l e R s m args below meth c H locs cells slots Q (F0 m pc ls st0) := by
  intro T hT X
  rcases hr T hT X with ⟨v, st₀, t, T', L, h0, X', hL, e1, e2, ⟨⟨r, u, hv, hp, hb⟩, hF⟩, st⟩ | ⟨q, st₀, t, T', L, E, ce, h0, X', hL, e1, e2, ⟨u, hp, hb, hF⟩, hce, hcv, hcl, st⟩
  · cases hv
    obtain ⟨k1, k2, k3⟩ := vx_keep h0 e1 hS hA hf hL hF
    obtain ⟨t2, a1, b1⟩ := kk r u t T'.heap (locs ++ L) e1.symm (by rw [← e2]; exact X'.warmed.alike) hp hb k1 k2 k3 T' rfl X'
    exact ⟨t2, st t2 a1, b1⟩
  · obtain ⟨k1, k2, k3⟩ := vx_keep h0 e1 hS hAX hf hL hF
    obtain ⟨t2, a1, b1⟩ := kx E ce q u t T'.heap (locs ++ L) e1.symm (by rw [← e2]; exact X'.warmed.alike) hp hb k1 k2 k3 (by rw [e1]; exact hce) hcv hcl T' rfl X'
    exact ⟨t2, st.trans a1, b1⟩
theorem vx_calld {S SX : Type} {post : UInt64 → S → Prop} {px : SX → Prop} {B : S → State → Prop} {BX : String → SX → State → Prop} {AX : Nat → Prop} (hr : vx_Run p l e R s m args below meth c H locs cells slots mc ms (F0 m pc ls st0) rest (va_Qd post B A1 a) (vx_X px BX AX) free) (hS : va_S A0 H0 H locs) (hA : ∀ q, q < H.size → A1 q → A0 q) (hf : ∀ q, free q → A0 q) (hAX : ∀ q, q < H.size → AX q → A0 q)
    (kx : ∀ (E : String) (ce : Cell) (q9 : Addr) (u : SX) (t : State) (H1 : Heap) (locs1 : List Loc), t.heap = H1 → s.vm.Alike t.vm → px u → BX E u t → H.size ≤ H1.size → (∀ q : Nat, q < H.size → ¬ AX q → H1[q]? = H[q]?) → va_S A0 H0 H1 locs1 → H1[q9]? = some ce → ce.vm = .none → s.vm.findClass E = some ce.cls → vx_W p l e R s m args below meth c H1 locs1 (cells + mc) (slots + ms) Q (F0 m pc ls rest) q9)
    (kk : ∀ (r : UInt64) (u : S) (t : State) (H1 : Heap) (locs1 : List Loc), t.heap = H1 → s.vm.Alike t.vm → post r u → B u t → H.size ≤ H1.size → (∀ q : Nat, q < H.size → ¬ A1 q → H1[q]? = H[q]?) → va_S A0 H0 H1 locs1 → W p l e R s m args below meth c H1 locs1 (cells + mc) (slots + ms) Q (F0 m (pc + 3) ls (.double r :: rest))) : W p l e R s m args below meth c H locs cells slots Q (F0 m pc ls st0) := by
  intro T hT X
  rcases hr T hT X with ⟨v, st₀, t, T', L, h0, X', hL, e1, e2, ⟨⟨r, u, hv, hp, hb⟩, hF⟩, st⟩ | ⟨q, st₀, t, T', L, E, ce, h0, X', hL, e1, e2, ⟨u, hp, hb, hF⟩, hce, hcv, hcl, st⟩
  · cases hv
    obtain ⟨k1, k2, k3⟩ := vx_keep h0 e1 hS hA hf hL hF
    obtain ⟨t2, a1, b1⟩ := kk r u t T'.heap (locs ++ L) e1.symm (by rw [← e2]; exact X'.warmed.alike) hp hb k1 k2 k3 T' rfl X'
    exact ⟨t2, st t2 a1, b1⟩
  · obtain ⟨k1, k2, k3⟩ := vx_keep h0 e1 hS hAX hf hL hF
    obtain ⟨t2, a1, b1⟩ := kx E ce q u t T'.heap (locs ++ L) e1.symm (by rw [← e2]; exact X'.warmed.alike) hp hb k1 k2 k3 (by rw [e1]; exact hce) hcv hcl T' rfl X'
    exact ⟨t2, st.trans a1, b1⟩
theorem vx_callv {S SX : Type} {post : S → Prop} {px : SX → Prop} {B : S → State → Prop} {BX : String → SX → State → Prop} {AX : Nat → Prop} (hr : vx_Run p l e R s m args below meth c H locs cells slots mc ms (F0 m pc ls st0) rest (va_Qv post B A1 a) (vx_X px BX AX) free) (hS : va_S A0 H0 H locs) (hA : ∀ q, q < H.size → A1 q → A0 q) (hf : ∀ q, free q → A0 q) (hAX : ∀ q, q < H.size → AX q → A0 q)
    (kx : ∀ (E : String) (ce : Cell) (q9 : Addr) (u : SX) (t : State) (H1 : Heap) (locs1 : List Loc), t.heap = H1 → s.vm.Alike t.vm → px u → BX E u t → H.size ≤ H1.size → (∀ q : Nat, q < H.size → ¬ AX q → H1[q]? = H[q]?) → va_S A0 H0 H1 locs1 → H1[q9]? = some ce → ce.vm = .none → s.vm.findClass E = some ce.cls → vx_W p l e R s m args below meth c H1 locs1 (cells + mc) (slots + ms) Q (F0 m pc ls rest) q9)
    (kk : ∀ (u : S) (t : State) (H1 : Heap) (locs1 : List Loc), t.heap = H1 → s.vm.Alike t.vm → post u → B u t → H.size ≤ H1.size → (∀ q : Nat, q < H.size → ¬ A1 q → H1[q]? = H[q]?) → va_S A0 H0 H1 locs1 → W p l e R s m args below meth c H1 locs1 (cells + mc) (slots + ms) Q (F0 m (pc + 3) ls (rest))) : W p l e R s m args below meth c H locs cells slots Q (F0 m pc ls st0) := by
  intro T hT X
  rcases hr T hT X with ⟨v, st₀, t, T', L, h0, X', hL, e1, e2, ⟨⟨u, hv, hp, hb⟩, hF⟩, st⟩ | ⟨q, st₀, t, T', L, E, ce, h0, X', hL, e1, e2, ⟨u, hp, hb, hF⟩, hce, hcv, hcl, st⟩
  · cases hv
    obtain ⟨k1, k2, k3⟩ := vx_keep h0 e1 hS hA hf hL hF
    obtain ⟨t2, a1, b1⟩ := kk u t T'.heap (locs ++ L) e1.symm (by rw [← e2]; exact X'.warmed.alike) hp hb k1 k2 k3 T' rfl X'
    exact ⟨t2, st t2 a1, b1⟩
  · obtain ⟨k1, k2, k3⟩ := vx_keep h0 e1 hS hAX hf hL hF
    obtain ⟨t2, a1, b1⟩ := kx E ce q u t T'.heap (locs ++ L) e1.symm (by rw [← e2]; exact X'.warmed.alike) hp hb k1 k2 k3 (by rw [e1]; exact hce) hcv hcl T' rfl X'
    exact ⟨t2, st.trans a1, b1⟩
/-- caught by the row x of this method's table; the rows ahead don't take it -/
theorem vx_catch {own name : String} {E : String} {ce : Cell} {q : Addr} (hown : s.vm.findClass own = some m.cls) (pre : List ExceptionTableEntry) (x : ExceptionTableEntry) (suf : List ExceptionTableEntry) (hsplit : c.exceptionTable.toList = pre ++ x :: suf)
    (hpass : ∀ z ∈ pre, covers z pc = false ∨ (z.catchType ≠ 0 ∧ ∃ nm : String, (Cond.classLink own z.catchType nm).before args s = true ∧ va_Nc E nm s)) (hx : covers x pc = true) (h0 : x.catchType ≠ 0)
    (hlink : (Cond.classLink own x.catchType name).before args s = true) (hcast : (Cond.castable E name).before args s = true) (hcell : H[q]? = some ce) (hv : ce.vm = .none) (hcl : s.vm.findClass E = some ce.cls)
    (kk : W p l e R s m args below meth c H locs cells slots Q (F0 m x.handlerPc ls [.ref q])) : vx_W p l e R s m args below meth c H locs cells slots Q (F0 m pc ls rest) q := by
  intro T hT X
  have hpl : e.platform.magicAccessors = ({} : Platform).magicAccessors := by rw [X.admits.platform]
  obtain ⟨c3, c4, hc3, hc4, hasg⟩ := Cond.castable_spec hcast
  cases Option.some.inj (hc3.symm.trans hcl)
  obtain ⟨c5, hc5, hcl5⟩ := Cond.classLink_spec hown hlink e.platform hpl
  cases Option.some.inj (hc4.symm.trans hc5)
  obtain ⟨vm', X', st⟩ := X.thenCaughtThrough q (g := F0 m pc ls rest) rfl (Steps.refl _) (by rw [hT]; exact hcell) (by rw [hv]; rfl) (by obtain ⟨k9, h9, -⟩ := Vm.findClass_spec hcl; exact ⟨k9, h9⟩) pre x suf hsplit
    (fun z hz => by
      rcases hpass z hz with h | ⟨hz0, nm, hl1, hn1⟩
      · exact Or.inl h
      · obtain ⟨c6, hc6, hcl6⟩ := Cond.classLink_spec hown hl1 e.platform hpl
        obtain ⟨a8, b8, h1, h2, h3⟩ := hn1
        cases Option.some.inj (h1.symm.trans hcl)
        cases Option.some.inj (h2.symm.trans hc6)
        exact Or.inr ⟨hz0, _, hcl6, h3⟩) hx (Or.inr ⟨h0, c4, hcl5, hasg⟩)
  obtain ⟨t, a1, b1⟩ := kk (T.setVm vm') hT X'
  exact ⟨t, st.trans a1, b1⟩
end Rows
section Ends
variable {p : Program} {l : Launch} {e : Env} {R : Room} {s : State} {m : MethodId} {args : Array Value} {below : List Frame} {meth : Method} {c : Code} {H : Heap} {locs : List Loc} {cells slots : Nat} {Q : State → Prop}
variable {mc ms : Nat} {free : Addr → Prop} {A0 A1 : Nat → Prop} {H0 : Heap} {a : Array Value} {ls : Array Slot} {st0 rest : List Value}
variable {Qc : Array Value → State → Outcome → State → Prop} {XC : String → State → State → Prop}
/-- what a body that may throw owes at its end -/
def vx_MQ (below : List Frame) (Qc : Array Value → State → Outcome → State → Prop) (XC : String → State → State → Prop) (a : Array Value) (s : State) (mc ms : Nat) (free : Addr → Prop) : State → Prop := fun t =>
  ∃ o, t.status = .running ∧ Ended t below o ∧ vx_Q Qc XC mc ms free a s o t
theorem vx_ret {g : JFrame} {mc ms : Nat} (k : W p l e R s m args below meth c H locs cells slots (MQ below Qc args s mc ms free) g) : W p l e R s m args below meth c H locs cells slots (vx_MQ below Qc XC args s mc ms free) g := by
  intro T hT X
  obtain ⟨t, a1, o, b1, b2, b3, b4⟩ := k T hT X
  exact ⟨t, a1, o, b1, b2, Or.inl ⟨b3, b4⟩⟩
/-- not caught here: it goes on to the caller -/
theorem vx_widen {g : JFrame} {q : Addr} {k n : Nat} (h1 : cells ≤ k) (h2 : slots ≤ n) (kk : vx_W p l e R s m args below meth c H locs k n Q g q) : vx_W p l e R s m args below meth c H locs cells slots Q g q := fun T hT X => kk T hT (stand_widen X h1 h2)
theorem vx_out {pc : Nat} {E : String} {ce : Cell} {q : Addr} {mc ms : Nat} (hout : ∀ x ∈ c.exceptionTable.toList, covers x pc = false) (hlocks : meth.locks = false) (hcell : H[q]? = some ce) (hv : ce.vm = .none) (hcl : s.vm.findClass E = some ce.cls)
    (hx : ∀ t : State, t.heap = H → s.vm.Alike t.vm → XC E s t) (hf : ∀ z ∈ locs, free z.base) (hc : cells ≤ mc) (hs : slots ≤ ms) :
    vx_W p l e R s m args below meth c H locs cells slots (vx_MQ below Qc XC args s mc ms free) (F0 m pc ls rest) q := by
  intro T hT X
  obtain ⟨st1, hrun, hend, hW, hsm⟩ := X.leaveThrown q (g := F0 m pc ls rest) rfl rfl rfl hout hlocks
  have hcell9 : (T.setFrames (.throwing q :: below)).heap[q]? = some ce := by
    show T.heap[q]? = some ce
    rw [hT]; exact hcell
  exact ⟨_, st1, .threw q, hrun, hend, Or.inr ⟨q, rfl, E, ce, locs, hx _ hT hW.alike, hcell9, hv, hcl, hW, hsm.mono hc hs, hf⟩⟩
theorem vx_frame {U : State} {k n : Nat} (h : s.sameButNew ({ U with vm := s.vm } : State) locs k n) : s.heap.size ≤ U.heap.size ∧ ∀ q : Nat, q < s.heap.size → (∀ z ∈ locs, z.base ≠ q) → U.heap[q]? = s.heap[q]? := by
  obtain ⟨-, h2, -, -, -, h6⟩ := h
  refine ⟨h2, fun q hq hz => ?_⟩
  obtain ⟨c9, e1, e2, e3, e4⟩ := h6 q _ (Array.getElem?_eq_getElem hq)
  have hs : c9.slots = (s.heap[q]).slots := Array.ext_getElem? fun i => e4 i fun hm => hz _ hm rfl
  have h9 : c9 = s.heap[q] := by
    rw [hs] at e2
    exact e2
  have e5 : U.heap[q]? = some c9 := e1
  rw [e5, h9, Array.getElem?_eq_getElem hq]
/-- the words of a throw but the four that speak of the heap -/
def vx_no (w : Cond) : Bool := decide (w ≠ .isRef (.static Bundle.tN "UNASSIGNED_STACK" Bundle.steD)) && decide (w ≠ .isRef (.static Bundle.tN "SUPPRESSED_SENTINEL" Bundle.listD)) && decide (w ≠ .laysStatic Bundle.tN "UNASSIGNED_STACK" Bundle.steD) && decide (w ≠ .laysStatic Bundle.tN "SUPPRESSED_SENTINEL" Bundle.listD)
def vx_at0 (own : String) (ic : Nat) (X : String) (names : List String) : List Cond := (Bundle.ownAtoms0 own ic X names).filter vx_no
def vx_atS (own : String) (ic : Nat) (X : String) (names : List String) : List Cond := (Bundle.ownAtoms own ic X names).filter vx_no
/-- a word that the tables alone decide, or a good one -/
def vx_ot (w : Cond) : Bool := w.onTables || goodWord w
theorem vx_ot_at {args a' : Array Value} {s U : State} {w : Cond} (hW : s.WarmedH U.vm) (hvm : s.vm = U.vm) (hg : vx_ot w = true) (h : w.before args s = true) : w.before a' U = true := by
  simp only [vx_ot, Bool.or_eq_true] at hg
  rcases hg with hg | hg
  · exact va_tabs hg hvm h
  · exact word_at hW (good_of_word hg) h
/-- a list's words: the good ones out of the method's own list, the others by premises of their own -/
theorem vx_hat {args : Array Value} {s : State} {L B : List Cond} (h1 : ∀ w ∈ L.filter goodWord, w.before args s = true) (h2 : ∀ w ∈ L.filter (fun w => !goodWord w), w ∈ B) (h3 : ∀ w ∈ B, w.before args s = true) : ∀ w ∈ L, w.before args s = true := by
  intro w hw
  by_cases g : goodWord w = true
  · exact h1 w (List.mem_filter.mpr ⟨hw, g⟩)
  · refine h3 w (h2 w (List.mem_filter.mpr ⟨hw, ?_⟩))
    show (!goodWord w) = true
    cases hgw : goodWord w
    · rfl
    · exact absurd hgw g
theorem vx_c {args : Array Value} {s : State} {w : Cond} {B : List Cond} (h : w.before args s = true) (t : ∀ w ∈ B, w.before args s = true) : ∀ w' ∈ w :: B, w'.before args s = true := fun w' h' => (List.mem_cons.mp h').elim (fun e => by rw [e]; exact h) (t w')
theorem vx_n {args : Array Value} {s : State} : ∀ w ∈ ([] : List Cond), w.before args s = true := fun _ h => nomatch h
theorem vx_own {args : Array Value} {s : State} {L : List Cond} (h1 : ∀ w ∈ L.filter vx_no, w.before args s = true)
    (hU : (Cond.isRef (.static Bundle.tN "UNASSIGNED_STACK" Bundle.steD)).before args s = true) (hN : (Cond.isRef (.static Bundle.tN "SUPPRESSED_SENTINEL" Bundle.listD)).before args s = true)
    (lU : (Cond.laysStatic Bundle.tN "UNASSIGNED_STACK" Bundle.steD).before args s = true) (lN : (Cond.laysStatic Bundle.tN "SUPPRESSED_SENTINEL" Bundle.listD).before args s = true) : ∀ w ∈ L, w.before args s = true := by
  intro w hw
  by_cases e1 : w = .isRef (.static Bundle.tN "UNASSIGNED_STACK" Bundle.steD)
  · rw [e1]; exact hU
  · by_cases e2 : w = .isRef (.static Bundle.tN "SUPPRESSED_SENTINEL" Bundle.listD)
    · rw [e2]; exact hN
    · by_cases e3 : w = .laysStatic Bundle.tN "UNASSIGNED_STACK" Bundle.steD
      · rw [e3]; exact lU
      · by_cases e4 : w = .laysStatic Bundle.tN "SUPPRESSED_SENTINEL" Bundle.listD
        · rw [e4]; exact lN
        · exact h1 w (List.mem_filter.mpr ⟨hw, by unfold vx_no; rw [decide_eq_true e1, decide_eq_true e2, decide_eq_true e3, decide_eq_true e4]; rfl⟩)
/-- where a static field lies, its class's statics cell in H -/
def vx_L (C n d : String) (A : Nat → Prop) (U : State) (H : Heap) : Prop := ∃ (c : ClassId) (k : Class) (i : Nat) (f : Field) (a : Nat) (cell : Cell), U.vm.findClass C = some c ∧ U.fieldFound? C n d = some (c, k, i, f) ∧ f.isStatic = true ∧ k.statics = some a ∧ H[a]? = some cell ∧ cell.vm.isStatics = true ∧ cell.cls = c ∧ f.slot < cell.slots.size ∧ k.staticTypes[f.slot]? = some f.type ∧ ¬ A a
theorem vx_L.moved {C n d : String} {A : Nat → Prop} {u U : State} {H : Heap} (hvm : u.vm.Alike U.vm) (h : vx_L C n d A u H) : vx_L C n d A U H := by
  obtain ⟨c, k, i, f, a, cell, h1, h2, h3, h4, h5, h6, h7, h8, h9, h10⟩ := h
  obtain ⟨k', hi', he⟩ := State.fieldFound?_setVm hvm h2
  exact ⟨c, k', i, f, a, cell, by rw [hvm.findClass]; exact h1, hi', h3, by rw [he]; exact h4, h5, h6, h7, h8, by rw [he]; exact h9, h10⟩
theorem vx_L.kept {C n d : String} {A : Nat → Prop} {U : State} {H H1 : Heap} (h : vx_L C n d A U H) (hq : ∀ a : Nat, a < H.size → ¬ A a → H1[a]? = H[a]?) : vx_L C n d A U H1 := by
  obtain ⟨c, k, i, f, a, cell, h1, h2, h3, h4, h5, h6, h7, h8, h9, h10⟩ := h
  exact ⟨c, k, i, f, a, cell, h1, h2, h3, h4, by rw [hq a (Array.getElem?_eq_some_iff.mp h5).1 h10]; exact h5, h6, h7, h8, h9, h10⟩
theorem vx_L.narrow {C n d : String} {A B : Nat → Prop} {U : State} {H : Heap} (h : vx_L C n d A U H) (hAB : ∀ q, B q → A q) : vx_L C n d B U H := by
  obtain ⟨c, k, i, f, a, cell, h1, h2, h3, h4, h5, h6, h7, h8, h9, h10⟩ := h
  exact ⟨c, k, i, f, a, cell, h1, h2, h3, h4, h5, h6, h7, h8, h9, fun z => h10 (hAB _ z)⟩
theorem vx_L.word {C n d : String} {A : Nat → Prop} {s : State} {args : Array Value} (h : vx_L C n d A s s.heap) : (Cond.laysStatic C n d).before args s = true := by
  obtain ⟨c, k, i, f, a, cell, h1, h2, h3, h4, h5, h6, h7, h8, h9, -⟩ := h
  show (Cond.laysStatic C n d).holds args s none s [] = true
  exact Cond.laysStatic_of h1 h2 h3 h4 h5 h6 h7 h8 h9
/-- .. and what it holds: null or some reference -/
def vx_Zq (C n d : String) (A : Nat → Prop) (U : State) (H : Heap) : Prop := va_Zq C n d A U H ∧ vx_L C n d A U H
theorem vx_Zq.moved {C n d : String} {A : Nat → Prop} {u U : State} {H : Heap} (hvm : u.vm.Alike U.vm) (h : vx_Zq C n d A u H) : vx_Zq C n d A U H := ⟨va_Zq.moved hvm h.1, vx_L.moved hvm h.2⟩
theorem vx_Zq.kept {C n d : String} {A : Nat → Prop} {U : State} {H H1 : Heap} (h : vx_Zq C n d A U H) (hq : ∀ a : Nat, a < H.size → ¬ A a → H1[a]? = H[a]?) : vx_Zq C n d A U H1 := ⟨va_Zq.kept h.1 hq, vx_L.kept h.2 hq⟩
theorem vx_Zq.narrow {C n d : String} {A B : Nat → Prop} {U : State} {H : Heap} (h : vx_Zq C n d A U H) (hAB : ∀ q, B q → A q) : vx_Zq C n d B U H := ⟨va_Zq.narrow h.1 hAB, vx_L.narrow h.2 hAB⟩
theorem vx_Zqof {args : Array Value} {s : State} {C n d : String} {A : Nat → Prop} (hl : (Cond.laysStatic C n d).before args s = true) (hini : (Cond.initialized C).before args s = true) (h : (Cond.isRef (.static C n d)).before args s = true) (hA : ∀ a : Nat, a < s.heap.size → ¬ A a) : vx_Zq C n d A s s.heap := by
  refine ⟨va_Zqof hl hini h hA, ?_⟩
  obtain ⟨c, k, i, f, a, cell, h1, h2, h3, h4, h5, h6, h7, h8, h9⟩ := Cond.laysStatic_spec hl
  exact ⟨c, k, i, f, a, cell, h1, h2, h3, h4, h5, h6, h7, h8, h9, hA a (Array.getElem?_eq_some_iff.mp h5).1⟩
theorem vx_isRef {C n d : String} {v : Value} {A : Nat → Prop} {s : State} {args : Array Value} (h : va_Z C n d v A s s.heap) (hv : v.isRef = true) : (Cond.isRef (.static C n d)).before args s = true := by
  obtain ⟨cf, kf, fi, f, a, cell, h1, h2, h3, h4, h5, h6, h7, -⟩ := h
  have he : (Term.static C n d).eval args s none [] s = some v := by
    simp [Term.eval, State.fieldNamed?, h1, h2, h4, h5, h6, h7]
  simp only [Cond.before, Cond.holds, Cond.value, he]
  cases v <;> simp_all [Value.isRef]
theorem vx_isRefq {C n d : String} {A : Nat → Prop} {s : State} {args : Array Value} (h : va_Zq C n d A s s.heap) : (Cond.isRef (.static C n d)).before args s = true := by
  rcases h with h | ⟨t, h⟩
  · exact vx_isRef h rfl
  · exact vx_isRef h rfl
/-- the same frame, seen from here: as if the method were called anew in this heap -/
theorem vx_rebase {T : State} (X : Stand p l e R s m args below meth c T locs cells slots) {R' : Room} (hf : R'.frames ≤ R.frames) (hl : R'.locals ≤ R.locals) (hc : cells + R'.cells ≤ R.cells) (hs : slots + R'.slots ≤ R.slots) :
    Stand p l e R' ((T.setVm s.vm).setFrames (.invoking m args :: below)) m args below meth c T [] 0 0 := by
  have htop : (T.setVm s.vm).topJava?.isSome := X.here.top
  have hF : ((T.setVm s.vm).setFrames (.invoking m args :: below)).frames = .invoking m args :: below := State.frames_setFrames _ (State.cur_lt_of_top htop)
  obtain ⟨g₀, hg0⟩ := Option.isSome_iff_exists.mp htop
  obtain ⟨r, hr⟩ := State.topJava?_eq_some.mp hg0
  have hl9 : e.platform.stackLimits (T.setVm s.vm).me = e.platform.stackLimits s.me := X.limits
  have hb9 : (T.setVm s.vm).me.stackBytes = s.me.stackBytes := X.bytes
  refine ⟨X.admits, X.cas, X.clock, hF, ?_, X.hears, X.method, X.code, X.here, X.tail, X.warmed, ?_, ?_, ?_⟩
  · have h := X.room
    have hU : ((T.setVm s.vm).setFrames (.invoking m args :: below)).localsInUse = s.localsInUse := by
      rw [State.localsInUse_invoking hF (meth := meth) (c := c) X.method X.code, State.localsInUse_invoking X.frames X.method X.code]
    simp only [State.hasRoom, Bool.and_eq_true, decide_eq_true_eq] at h ⊢
    obtain ⟨⟨⟨⟨h1, h2, h3, h4, h5, h6⟩, h7⟩, h8⟩, h9⟩ := h
    rw [X.frames, List.length_cons] at h2 h3
    have q1 := X.heapSize
    have q2 := X.used
    simp only [hF, hU, List.length_cons, State.stackLimits_setFrames, State.stackBytes_setFrames, hl9, hb9]
    refine ⟨⟨⟨⟨by omega, by omega, by omega, by omega, by omega, h6⟩, ?_⟩, ?_⟩, X.book⟩
    · show T.heap.size + R'.cells ≤ e.platform.maxCells
      omega
    · show T.slotsUsed + R'.slots ≤ e.platform.maxSlots
      omega
  · rw [State.stackLimits_setFrames]; rfl
  · rw [State.stackBytes_setFrames]; rfl
  · refine ⟨?_, Nat.le_refl _, Nat.le_refl _, ?_, ?_, fun a c9 h9 => ⟨c9, h9, rfl, rfl, fun _ _ => rfl⟩⟩
    · obtain ⟨t, ht, -⟩ := State.frames_cons hr
      show T.setVm s.vm = { ((T.setVm s.vm).setFrames (.invoking m args :: below)).setFrames (T.setVm s.vm).frames with heap := T.heap, slotsUsed := T.slotsUsed }
      rw [State.setFrames_setFrames, State.setFrames_self ht]
      rfl
    · show T.slotsUsed = T.slotsUsed + ((T.heap.toList.drop T.heap.size).map (·.slots.size)).sum
      rw [List.drop_eq_nil_of_le (Nat.le_of_eq Array.length_toList)]
      rfl
    · show ((T.heap.toList.drop T.heap.size).map (·.slots.size)).sum ≤ 0
      rw [List.drop_eq_nil_of_le (Nat.le_of_eq Array.length_toList)]
      exact Nat.le_refl _
/-- 'throw new E()': new; dup; invokespecial; athrow -/
theorem vx_throw0 {cc : ByteArray} {pc : Nat} (hexec : p.tables.exec = Jvm.exec) (hb : c.code = cc) (hl : l.stackTraces = false) {own cls : String} {names : List String} {ik ic mc ms : Nat} {A : Nat → Prop}
    (hown : s.vm.findClass own = some m.cls) (hcls : Bundle.fit cls = true) (hnames : ∀ n ∈ names, Bundle.fit n = true)
    (hk : (Cond.classLink own ik cls).before args s = true) (hini : (Cond.initialized cls).before args s = true) (hat : ∀ w ∈ vx_at0 own ic cls names, w.before args s = true)
    (hgood : ∀ w ∈ Cond.classLink own ik cls :: Cond.initialized cls :: vx_at0 own ic cls names, vx_ot w = true)
    (hU : vx_Zq Bundle.tN "UNASSIGNED_STACK" Bundle.steD A s s.heap) (hN : vx_Zq Bundle.tN "SUPPRESSED_SENTINEL" Bundle.listD A s s.heap) (hS : va_S A s.heap H locs) (hsize : ls.size = c.maxLocals)
    (d0 : decode cc pc = .ok (.new ik, 3)) (d3 : decode cc (pc + 3) = .ok (.dup, 1)) (d4 : decode cc (pc + 4) = .ok (.invokespecial ic, 3)) (d7 : decode cc (pc + 7) = .ok (.athrow, 1))
    (hout : ∀ x ∈ c.exceptionTable.toList, covers x (pc + 7) = false)
    (hRframes : names.length + 3 < R.frames) (hRlocals : (rest.map fun v => v.category).sum + (13 * (names.length + 1) + 42) ≤ R.locals) (hRcells : cells + 1 ≤ R.cells) (hRslots : slots + 6 ≤ R.slots) (hlocks : meth.locks = false)
    (hx : ∀ t : State, s.vm.Alike t.vm → H.size ≤ t.heap.size → (∀ q : Nat, q < H.size → t.heap[q]? = H[q]?) → XC cls s t)
    (hf : ∀ z ∈ locs, free z.base) (hc : cells + 1 ≤ mc) (hs : slots + 6 ≤ ms) :
    W p l e R s m args below meth c H locs cells slots (vx_MQ below Qc XC args s mc ms free) (F0 m pc ls rest) := by
  intro T hT X
  have htr : e.platform.stackTraces = false := (show e.platform.stackTraces = l.stackTraces by rw [X.admits.platform]).trans hl
  have Y := vx_rebase X (R' := { frames := R.frames, locals := R.locals, cells := 1, slots := 6 }) (Nat.le_refl _) (Nat.le_refl _) hRcells hRslots
  obtain ⟨s', hA⟩ : ∃ z, z = (T.setVm s.vm).setFrames (.invoking m args :: below) := ⟨_, rfl⟩
  rw [← hA] at Y
  have hvm : s'.vm = s.vm := by rw [hA]; rfl
  have hhp : s'.heap = H := by rw [hA]; exact hT
  have hW0 : s.WarmedH s'.vm := by rw [hvm]; exact State.WarmedH.refl s
  have hat' : ∀ w ∈ vx_at0 own ic cls names, w.before args s' = true := fun w hw => vx_ot_at hW0 hvm.symm (hgood w (List.mem_cons_of_mem _ (List.mem_cons_of_mem _ hw))) (hat w hw)
  have hk' : (Cond.classLink own ik cls).before args s' = true := vx_ot_at hW0 hvm.symm (hgood _ List.mem_cons_self) hk
  have hini' : (Cond.initialized cls).before args s' = true := vx_ot_at hW0 hvm.symm (hgood _ (List.mem_cons_of_mem _ List.mem_cons_self)) hini
  have hU' : vx_Zq Bundle.tN "UNASSIGNED_STACK" Bundle.steD A s' s'.heap := by rw [hhp]; exact vx_Zq.moved hW0.alike (hU.kept hS.2.1)
  have hN' : vx_Zq Bundle.tN "SUPPRESSED_SENTINEL" Bundle.listD A s' s'.heap := by rw [hhp]; exact vx_Zq.moved hW0.alike (hN.kept hS.2.1)
  have h : ∀ w ∈ Bundle.ownAtoms0 own ic cls names, w.before args s' = true := vx_own hat' (vx_isRefq hU'.1) (vx_isRefq hN'.1) hU'.2.word hN'.2.word
  have hown' : s'.vm.findClass own = some m.cls := by rw [hvm]; exact hown
  have hins : (Cond.instantiable cls 6).before args s' = true := h _ (by simp [Bundle.ownAtoms0])
  obtain ⟨vm₁, cX, kX, hfX, hkX, -, -, X₁, st1⟩ := Y.newCold hexec (own := own) (C := cls) (index := ik) (n := 6) hown' hk' hins hini'
    (g := F0 m pc ls rest) rfl (by rw [hb]; exact d0) (Nat.le_refl _) (Nat.le_refl _)
  generalize hT1 : (T.setVm vm₁).pushCell { cls := cX, slots := kX.instanceTypes.map defaultValue, vm := .none } = T1 at X₁ st1
  have hcat : (Value.ref T.heap.size).category = 1 := rfl
  have hcellA : T1.heap[T.heap.size]? = some (freshCell cX kX) := by rw [← hT1]; exact State.heap_pushCell_size _ _
  have d3' : decode c.code (pc + 3) = .ok (.dup, 1) := by rw [hb]; exact d3
  obtain ⟨U, hsteps, hrun, hend, hW, hsame, ce, hce, hO⟩ := X₁.ctorThrow0 hexec htr (own := own) (cls := cls) (names := names) (ic := ic) hown' hcls hnames h (fun x hx => nomatch hx) hfX hkX hcellA (by rw [hhp, hT]; exact Nat.le_refl _)
    (g := { method := m, pc := pc + 4, locals := ls, stack := .ref T.heap.size :: .ref T.heap.size :: rest, locked := none }) rfl hsize rfl rfl (rest := rest) rfl
    (by rw [hb]; exact d4) (by rw [hb]; exact d7) hout hRframes (by simp only [List.map_cons, List.sum_cons, hcat]; omega) hlocks
  obtain ⟨f1, f2⟩ := vx_frame hsame
  rw [hhp] at f1 f2
  have hWs : s.WarmedH U.vm := State.WarmedH.trans hW0 hW
  have hcl : s.vm.findClass cls = some ce.cls := by
    have h9 := hO.cls
    rw [hvm] at h9
    exact h9
  have hall : s.sameButNew ({ U with vm := s.vm } : State) locs mc ms := by
    subst hA
    obtain ⟨e1, e2⟩ := hsame
    rw [State.setFrames_setFrames] at e1
    have h2 : (T.setVm s.vm).sameButNew ({ U with vm := s.vm } : State) [] (0 + 1) (0 + 6) := ⟨e1, e2⟩
    have h3 := X.same.trans h2
    rw [List.append_nil] at h3
    exact h3.mono hc hs
  refine ⟨U, ?_, .threw T.heap.size, hrun, hend, Or.inr ⟨T.heap.size, rfl, cls, ce, locs, hx U hWs.alike f1 (fun q hq => f2 q hq (fun z hz => nomatch hz)), hce, hO.vm, hcl, hWs, hall, hf⟩⟩
  refine st1 _ ?_
  show Steps p.tables e below (T1.setTop { method := m, pc := pc + 3, locals := ls, stack := .ref T.heap.size :: rest, locked := none }) _
  jvm_step X₁.here [X₁.here.top, hexec, d3', Value.category]
  exact hsteps
/-- 'throw new E("text")': new; dup; ldc; invokespecial; athrow -/
theorem vx_throwS {cc : ByteArray} {pc : Nat} (hexec : p.tables.exec = Jvm.exec) (hb : c.code = cc) (hl : l.stackTraces = false) {own cls text : String} {names : List String} {ik is ic mc ms sa : Nat} {A : Nat → Prop}
    (hown : s.vm.findClass own = some m.cls) (hcls : Bundle.fit cls = true) (hnames : ∀ n ∈ names, Bundle.fit n = true)
    (hk : (Cond.classLink own ik cls).before args s = true) (hini : (Cond.initialized cls).before args s = true) (hstr : vk_R own is text sa s) (hat : ∀ w ∈ vx_atS own ic cls names, w.before args s = true)
    (hgood : ∀ w ∈ Cond.classLink own ik cls :: Cond.initialized cls :: vx_atS own ic cls names, vx_ot w = true)
    (hU : vx_Zq Bundle.tN "UNASSIGNED_STACK" Bundle.steD A s s.heap) (hN : vx_Zq Bundle.tN "SUPPRESSED_SENTINEL" Bundle.listD A s s.heap) (hS : va_S A s.heap H locs) (hsize : ls.size = c.maxLocals)
    (d0 : decode cc pc = .ok (.new ik, 3)) (d3 : decode cc (pc + 3) = .ok (.dup, 1)) (d4 : decode cc (pc + 4) = .ok (.ldc is, 2)) (d6 : decode cc (pc + 6) = .ok (.invokespecial ic, 3)) (d9 : decode cc (pc + 9) = .ok (.athrow, 1))
    (hout : ∀ x ∈ c.exceptionTable.toList, covers x (pc + 9) = false)
    (hRframes : names.length + 3 < R.frames) (hRlocals : (rest.map fun v => v.category).sum + (13 * (names.length + 1) + 43) ≤ R.locals) (hRcells : cells + 1 ≤ R.cells) (hRslots : slots + 6 ≤ R.slots) (hlocks : meth.locks = false)
    (hx : ∀ t : State, s.vm.Alike t.vm → H.size ≤ t.heap.size → (∀ q : Nat, q < H.size → t.heap[q]? = H[q]?) → XC cls s t)
    (hf : ∀ z ∈ locs, free z.base) (hc : cells + 1 ≤ mc) (hs : slots + 6 ≤ ms) :
    W p l e R s m args below meth c H locs cells slots (vx_MQ below Qc XC args s mc ms free) (F0 m pc ls rest) := by
  intro T hT X
  have htr : e.platform.stackTraces = false := (show e.platform.stackTraces = l.stackTraces by rw [X.admits.platform]).trans hl
  have Y := vx_rebase X (R' := { frames := R.frames, locals := R.locals, cells := 1, slots := 6 }) (Nat.le_refl _) (Nat.le_refl _) hRcells hRslots
  obtain ⟨s', hA⟩ : ∃ z, z = (T.setVm s.vm).setFrames (.invoking m args :: below) := ⟨_, rfl⟩
  rw [← hA] at Y
  have hvm : s'.vm = s.vm := by rw [hA]; rfl
  have hhp : s'.heap = H := by rw [hA]; exact hT
  have hW0 : s.WarmedH s'.vm := by rw [hvm]; exact State.WarmedH.refl s
  have hat' : ∀ w ∈ vx_atS own ic cls names, w.before args s' = true := fun w hw => vx_ot_at hW0 hvm.symm (hgood w (List.mem_cons_of_mem _ (List.mem_cons_of_mem _ hw))) (hat w hw)
  have hk' : (Cond.classLink own ik cls).before args s' = true := vx_ot_at hW0 hvm.symm (hgood _ List.mem_cons_self) hk
  have hini' : (Cond.initialized cls).before args s' = true := vx_ot_at hW0 hvm.symm (hgood _ (List.mem_cons_of_mem _ List.mem_cons_self)) hini
  have hU' : vx_Zq Bundle.tN "UNASSIGNED_STACK" Bundle.steD A s' s'.heap := by rw [hhp]; exact vx_Zq.moved hW0.alike (hU.kept hS.2.1)
  have hN' : vx_Zq Bundle.tN "SUPPRESSED_SENTINEL" Bundle.listD A s' s'.heap := by rw [hhp]; exact vx_Zq.moved hW0.alike (hN.kept hS.2.1)
  have h : ∀ w ∈ Bundle.ownAtoms own ic cls names, w.before args s' = true := vx_own hat' (vx_isRefq hU'.1) (vx_isRefq hN'.1) hU'.2.word hN'.2.word
  have hown' : s'.vm.findClass own = some m.cls := by rw [hvm]; exact hown
  have hins : (Cond.instantiable cls 6).before args s' = true := h _ (by simp [Bundle.ownAtoms])
  obtain ⟨vm₁, cX, kX, hfX, hkX, -, -, X₁, st1⟩ := Y.newCold hexec (own := own) (C := cls) (index := ik) (n := 6) hown' hk' hins hini'
    (g := F0 m pc ls rest) rfl (by rw [hb]; exact d0) (Nat.le_refl _) (Nat.le_refl _)
  generalize hT1 : (T.setVm vm₁).pushCell { cls := cX, slots := kX.instanceTypes.map defaultValue, vm := .none } = T1 at X₁ st1
  have hcat : (Value.ref T.heap.size).category = 1 := rfl
  have hcellA : T1.heap[T.heap.size]? = some (freshCell cX kX) := by rw [← hT1]; exact State.heap_pushCell_size _ _
  have d3' : decode c.code (pc + 3) = .ok (.dup, 1) := by rw [hb]; exact d3
  have d4' : decode c.code (pc + 4) = .ok (.ldc is, 2) := by rw [hb]; exact d4
  have hstr' : vk_R own is text sa s' := vk_R.warm hW0 hstr
  obtain ⟨U, hsteps, hrun, hend, hW, hsame, ce, hce, hO⟩ := X₁.ctorThrowS hexec htr (own := own) (cls := cls) (names := names) (ic := ic) hown' hcls hnames h (fun x hx => nomatch hx) hfX hkX hcellA (by rw [hhp, hT]; exact Nat.le_refl _) (msg := .ref sa) rfl
    (g := { method := m, pc := pc + 6, locals := ls, stack := .ref sa :: .ref T.heap.size :: .ref T.heap.size :: rest, locked := none }) rfl hsize rfl rfl (rest := rest) rfl
    (by rw [hb]; exact d6) (by rw [hb]; exact d9) hout hRframes (by simp only [List.map_cons, List.sum_cons, hcat]; omega) hlocks
  obtain ⟨f1, f2⟩ := vx_frame hsame
  rw [hhp] at f1 f2
  have hWs : s.WarmedH U.vm := State.WarmedH.trans hW0 hW
  have hcl : s.vm.findClass cls = some ce.cls := by
    have h9 := hO.cls
    rw [hvm] at h9
    exact h9
  have hall : s.sameButNew ({ U with vm := s.vm } : State) locs mc ms := by
    subst hA
    obtain ⟨e1, e2⟩ := hsame
    rw [State.setFrames_setFrames] at e1
    have h2 : (T.setVm s.vm).sameButNew ({ U with vm := s.vm } : State) [] (0 + 1) (0 + 6) := ⟨e1, e2⟩
    have h3 := X.same.trans h2
    rw [List.append_nil] at h3
    exact h3.mono hc hs
  refine ⟨U, ?_, .threw T.heap.size, hrun, hend, Or.inr ⟨T.heap.size, rfl, cls, ce, locs, hx U hWs.alike f1 (fun q hq => f2 q hq (fun z hz => nomatch hz)), hce, hO.vm, hcl, hWs, hall, hf⟩⟩
  refine st1 _ ?_
  show Steps p.tables e below (T1.setTop { method := m, pc := pc + 3, locals := ls, stack := .ref T.heap.size :: rest, locked := none }) _
  jvm_step X₁.here [X₁.here.top, hexec, d3', Value.category]
  exact X₁.ldcString hexec (own := own) (text := text) (index := is) (a := sa) hown' hstr'.1 hstr'.2
    (g := { method := m, pc := pc + 4, locals := ls, stack := .ref T.heap.size :: .ref T.heap.size :: rest, locked := none }) rfl d4' _ hsteps
/-- 'throw new E("text")', the text by a wide index -/
theorem vx_throwSW {cc : ByteArray} {pc : Nat} (hexec : p.tables.exec = Jvm.exec) (hb : c.code = cc) (hl : l.stackTraces = false) {own cls text : String} {names : List String} {ik is ic mc ms sa : Nat} {A : Nat → Prop}
    (hown : s.vm.findClass own = some m.cls) (hcls : Bundle.fit cls = true) (hnames : ∀ n ∈ names, Bundle.fit n = true)
    (hk : (Cond.classLink own ik cls).before args s = true) (hini : (Cond.initialized cls).before args s = true) (hstr : vk_R own is text sa s) (hat : ∀ w ∈ vx_atS own ic cls names, w.before args s = true)
    (hgood : ∀ w ∈ Cond.classLink own ik cls :: Cond.initialized cls :: vx_atS own ic cls names, vx_ot w = true)
    (hU : vx_Zq Bundle.tN "UNASSIGNED_STACK" Bundle.steD A s s.heap) (hN : vx_Zq Bundle.tN "SUPPRESSED_SENTINEL" Bundle.listD A s s.heap) (hS : va_S A s.heap H locs) (hsize : ls.size = c.maxLocals)
    (d0 : decode cc pc = .ok (.new ik, 3)) (d3 : decode cc (pc + 3) = .ok (.dup, 1)) (d4 : decode cc (pc + 4) = .ok (.ldc_w is, 3)) (d7 : decode cc (pc + 7) = .ok (.invokespecial ic, 3)) (d10 : decode cc (pc + 10) = .ok (.athrow, 1))
    (hout : ∀ x ∈ c.exceptionTable.toList, covers x (pc + 10) = false)
    (hRframes : names.length + 3 < R.frames) (hRlocals : (rest.map fun v => v.category).sum + (13 * (names.length + 1) + 43) ≤ R.locals) (hRcells : cells + 1 ≤ R.cells) (hRslots : slots + 6 ≤ R.slots) (hlocks : meth.locks = false)
    (hx : ∀ t : State, s.vm.Alike t.vm → H.size ≤ t.heap.size → (∀ q : Nat, q < H.size → t.heap[q]? = H[q]?) → XC cls s t)
    (hf : ∀ z ∈ locs, free z.base) (hc : cells + 1 ≤ mc) (hs : slots + 6 ≤ ms) :
    W p l e R s m args below meth c H locs cells slots (vx_MQ below Qc XC args s mc ms free) (F0 m pc ls rest) := by
  intro T hT X
  have htr : e.platform.stackTraces = false := (show e.platform.stackTraces = l.stackTraces by rw [X.admits.platform]).trans hl
  have Y := vx_rebase X (R' := { frames := R.frames, locals := R.locals, cells := 1, slots := 6 }) (Nat.le_refl _) (Nat.le_refl _) hRcells hRslots
  obtain ⟨s', hA⟩ : ∃ z, z = (T.setVm s.vm).setFrames (.invoking m args :: below) := ⟨_, rfl⟩
  rw [← hA] at Y
  have hvm : s'.vm = s.vm := by rw [hA]; rfl
  have hhp : s'.heap = H := by rw [hA]; exact hT
  have hW0 : s.WarmedH s'.vm := by rw [hvm]; exact State.WarmedH.refl s
  have hat' : ∀ w ∈ vx_atS own ic cls names, w.before args s' = true := fun w hw => vx_ot_at hW0 hvm.symm (hgood w (List.mem_cons_of_mem _ (List.mem_cons_of_mem _ hw))) (hat w hw)
  have hk' : (Cond.classLink own ik cls).before args s' = true := vx_ot_at hW0 hvm.symm (hgood _ List.mem_cons_self) hk
  have hini' : (Cond.initialized cls).before args s' = true := vx_ot_at hW0 hvm.symm (hgood _ (List.mem_cons_of_mem _ List.mem_cons_self)) hini
  have hU' : vx_Zq Bundle.tN "UNASSIGNED_STACK" Bundle.steD A s' s'.heap := by rw [hhp]; exact vx_Zq.moved hW0.alike (hU.kept hS.2.1)
  have hN' : vx_Zq Bundle.tN "SUPPRESSED_SENTINEL" Bundle.listD A s' s'.heap := by rw [hhp]; exact vx_Zq.moved hW0.alike (hN.kept hS.2.1)
  have h : ∀ w ∈ Bundle.ownAtoms own ic cls names, w.before args s' = true := vx_own hat' (vx_isRefq hU'.1) (vx_isRefq hN'.1) hU'.2.word hN'.2.word
  have hown' : s'.vm.findClass own = some m.cls := by rw [hvm]; exact hown
  have hins : (Cond.instantiable cls 6).before args s' = true := h _ (by simp [Bundle.ownAtoms])
  obtain ⟨vm₁, cX, kX, hfX, hkX, -, -, X₁, st1⟩ := Y.newCold hexec (own := own) (C := cls) (index := ik) (n := 6) hown' hk' hins hini'
    (g := F0 m pc ls rest) rfl (by rw [hb]; exact d0) (Nat.le_refl _) (Nat.le_refl _)
  generalize hT1 : (T.setVm vm₁).pushCell { cls := cX, slots := kX.instanceTypes.map defaultValue, vm := .none } = T1 at X₁ st1
  have hcat : (Value.ref T.heap.size).category = 1 := rfl
  have hcellA : T1.heap[T.heap.size]? = some (freshCell cX kX) := by rw [← hT1]; exact State.heap_pushCell_size _ _
  have d3' : decode c.code (pc + 3) = .ok (.dup, 1) := by rw [hb]; exact d3
  have d4' : decode c.code (pc + 4) = .ok (.ldc_w is, 3) := by rw [hb]; exact d4
  have hstr' : vk_R own is text sa s' := vk_R.warm hW0 hstr
  obtain ⟨U, hsteps, hrun, hend, hW, hsame, ce, hce, hO⟩ := X₁.ctorThrowS hexec htr (own := own) (cls := cls) (names := names) (ic := ic) hown' hcls hnames h (fun x hx => nomatch hx) hfX hkX hcellA (by rw [hhp, hT]; exact Nat.le_refl _) (msg := .ref sa) rfl
    (g := { method := m, pc := pc + 7, locals := ls, stack := .ref sa :: .ref T.heap.size :: .ref T.heap.size :: rest, locked := none }) rfl hsize rfl rfl (rest := rest) rfl
    (by rw [hb]; exact d7) (by rw [hb]; exact d10) hout hRframes (by simp only [List.map_cons, List.sum_cons, hcat]; omega) hlocks
  obtain ⟨f1, f2⟩ := vx_frame hsame
  rw [hhp] at f1 f2
  have hWs : s.WarmedH U.vm := State.WarmedH.trans hW0 hW
  have hcl : s.vm.findClass cls = some ce.cls := by
    have h9 := hO.cls
    rw [hvm] at h9
    exact h9
  have hall : s.sameButNew ({ U with vm := s.vm } : State) locs mc ms := by
    subst hA
    obtain ⟨e1, e2⟩ := hsame
    rw [State.setFrames_setFrames] at e1
    have h2 : (T.setVm s.vm).sameButNew ({ U with vm := s.vm } : State) [] (0 + 1) (0 + 6) := ⟨e1, e2⟩
    have h3 := X.same.trans h2
    rw [List.append_nil] at h3
    exact h3.mono hc hs
  refine ⟨U, ?_, .threw T.heap.size, hrun, hend, Or.inr ⟨T.heap.size, rfl, cls, ce, locs, hx U hWs.alike f1 (fun q hq => f2 q hq (fun z hz => nomatch hz)), hce, hO.vm, hcl, hWs, hall, hf⟩⟩
  refine st1 _ ?_
  show Steps p.tables e below (T1.setTop { method := m, pc := pc + 3, locals := ls, stack := .ref T.heap.size :: rest, locked := none }) _
  jvm_step X₁.here [X₁.here.top, hexec, d3', Value.category]
  exact X₁.ldcStringW hexec (own := own) (text := text) (index := is) (a := sa) hown' hstr'.1 hstr'.2
    (g := { method := m, pc := pc + 4, locals := ls, stack := .ref T.heap.size :: .ref T.heap.size :: rest, locked := none }) rfl d4' _ hsteps
end Ends
section Bodies
variable {l : Launch}
theorem vx_ofW {y : MethodName} {ws ws' : List Cond} {rm : Room} {Pc : Array Value → State → Prop} {Qc : Array Value → State → Outcome → State → Prop} {XC : String → State → State → Prop} {mc ms : Nat} {free : Addr → Prop} {cc : ByteArray} {maxL : Nat} {ret : Option FieldType}
    (hy : plainName y.cls = true) (hw : ws = Cond.code y cc maxL ret :: ws')
    (body : ∀ p e s m args below meth c s₁, BodyLoose p l y (headSpec ws rm) cc maxL ret e s m args below meth c s₁ → c.maxLocals = maxL → (∀ x ∈ c.exceptionTable.toList, False) → Pc args s →
      W p l e (headSpec ws rm).room s m args below meth c s.heap [] 0 0 (vx_MQ below Qc XC args s mc ms free) (entryFrame m args maxL)) : vx_Met l y ws rm Pc Qc XC mc ms free := by
  refine MetFree.of_bodyS (code := cc) (maxLocals := maxL) (ret := ret) hy ?_ ?_
  · intro args s m h hn
    obtain ⟨meth, c, h1, h2, h3, h4, h5, h6, -, -⟩ := Cond.code_spec hn (atoms_spec (ws := ws) h _ (by rw [hw]; exact List.mem_cons_self))
    exact ⟨meth, c, h1, h2, h3, h4, h5, h6⟩
  · intro p e s m args below meth c s₁ B hml hP _
    have hh0 : s₁.heap = s.heap := by rw [B.state]; rfl
    have ht : ∀ x ∈ c.exceptionTable.toList, False := by
      obtain ⟨meth9, c9, h1, h2, -, -, -, -, h7, -⟩ := Cond.code_spec B.named (atoms_spec (ws := ws) B.pre _ (by rw [hw]; exact List.mem_cons_self))
      cases Option.some.inj (h1.symm.trans B.method)
      cases Option.some.inj (h2.symm.trans (Stand.of_body B).code)
      intro x hx
      rw [Array.isEmpty_iff.mp h7] at hx
      cases hx
    obtain ⟨t, a1, o, b1, b2, b3⟩ := body p e s m args below meth c s₁ B hml ht hP s₁ hh0 (Stand.of_body B)
    exact ⟨t, o, a1, b1, b2, b3⟩
/-- the table of a body with handlers -/
theorem vx_table {p : Program} {x y : MethodName} {S : Spec} {cc bytes : ByteArray} {maxL maxL' : Nat} {ret ret' : Option FieldType} {e : Env} {s s₁ : State} {m : MethodId} {args : Array Value} {below : List Frame} {meth : Method} {c : Code} {hh : List (Nat × Nat × Nat × Nat)}
    (B : BodyLoose p l y S cc maxL ret e s m args below meth c s₁) (h : (Cond.codeWith y bytes maxL' ret' hh).before args s = true) : c.exceptionTable.toList = tableOf hh := by
  obtain ⟨m9, meth9, c9, hn9, h1, h2, -, -, h6, -⟩ := Cond.codeWith_spec h
  cases Option.some.inj (hn9.symm.trans B.named)
  cases Option.some.inj (h1.symm.trans B.method)
  cases Option.some.inj (h2.symm.trans (Stand.of_body B).code)
  rw [← h6, table_eq]
end Bodies
end VXA
/-! ===== END ===== -/
/-! ===== BEGIN a static call of a method with an exception table ===== -/
section VXS
variable {p : Program} {l : Launch} {e : Env} {R : Room} {s : State} {m : MethodId} {args : Array Value} {below : List Frame} {meth : Method} {c : Code} {T : State} {H : Heap} {locs : List Loc} {cells slots : Nat}
abbrev vx_CSW (R : Room) (s : State) (args : Array Value) (own : String) (index : Nat) (y : MethodName) (bytes : ByteArray) (maxL : Nat) (ret : Option FieldType) (hh : List (Nat × Nat × Nat × Nat)) (ws : List Cond) (rm : Room) (mc ms n : Nat) : Prop :=
  (rm.cells = mc ∧ rm.slots = ms ∧ rm.frames + 1 ≤ R.frames ∧ 8 + (maxL + 11) + rm.locals ≤ R.locals ∧ (∀ w ∈ ws, ∀ (a' : Array Value) (U : State), s.WarmedH U.vm → w.before a' U = true) ∧ Cond.codeWith y bytes maxL ret hh ∈ ws) ∧
  (Cond.codeWith y bytes maxL ret hh).before args s = true ∧ (Cond.initialized y.cls).before args s = true ∧ (y.cls ≠ "java/lang/invoke/MethodHandle" ∧ y.cls ≠ "java/lang/invoke/VarHandle") ∧
  (∀ sig, parseMethodDescriptor y.desc = some sig → n = sig.parameters.length) ∧ (Cond.methodLink own index y).before args s = true ∧ (Cond.static y).before args s = true
theorem vx_cwSW {own : String} {index maxL mc ms : Nat} {y : MethodName} {bytes : ByteArray} {ret : Option FieldType} {hh : List (Nat × Nat × Nat × Nat)} {Ts ws ws' : List Cond} {rm : Room} (n : Nat) (ht : ∀ w ∈ Ts, w.before args s = true) (hT : GoodIn Ts (va_wsS own index y ws)) (hw : ws = Cond.codeWith y bytes maxL ret hh :: ws') (hrc : rm.cells = mc) (hrs : rm.slots = ms)
    (hd : y.cls ≠ "java/lang/invoke/MethodHandle" ∧ y.cls ≠ "java/lang/invoke/VarHandle" ∧ (parseMethodDescriptor y.desc).map (fun d => d.parameters.length) = some n) (hR : rm.frames + 1 ≤ R.frames ∧ 8 + (maxL + 11) + rm.locals ≤ R.locals) :
    vx_CSW R s args own index y bytes maxL ret hh ws rm mc ms n := by
  have ok : ∀ w ∈ va_wsS own index y ws, w.before args s = true := fun w h => ht w (hT w h).1
  have hG : GoodIn Ts ws := fun w h => hT w (by unfold va_wsS; exact List.mem_append_right _ h)
  have hc : Cond.codeWith y bytes maxL ret hh ∈ ws := by rw [hw]; exact List.mem_cons_self
  refine ⟨⟨hrc, hrs, hR.1, hR.2, pay_in ht hG, hc⟩, ht _ (hG _ hc).1, ok _ (by simp [va_wsS]), ⟨hd.1, hd.2.1⟩, fun sig h => ?_, ok _ (by simp [va_wsS]), ok _ (by simp [va_wsS])⟩
  have h2 := hd.2.2
  rw [h] at h2
  exact (Option.some.inj h2).symm
theorem vx_callSW (X : Stand p l e R s m args below meth c T locs cells slots) (hexec : p.tables.exec = Jvm.exec) {own : String} {index : Nat} {y : MethodName} {bytes : ByteArray} {maxL : Nat} {ret : Option FieldType} {hh : List (Nat × Nat × Nat × Nat)}
    (hown : s.vm.findClass own = some m.cls) (hlink : (Cond.methodLink own index y).before args s = true) (hstat : (Cond.static y).before args s = true) (hinit : (Cond.initialized y.cls).before args s = true)
    (hcode : (Cond.codeWith y bytes maxL ret hh).before args s = true) (hy : y.cls ≠ "java/lang/invoke/MethodHandle" ∧ y.cls ≠ "java/lang/invoke/VarHandle")
    {W9 : Nat} {Pre : Pt → Array Value → Prop} {Post : Pt → Array Value → Option Value → Pt → Prop} (hK : Back l R p e below s args y 3 W9 Pre Post)
    {g : JFrame} (hg : g.method = m) (hsize : g.locals.size = c.maxLocals) {argsL rest : List Value} (hlen : ∀ sig, parseMethodDescriptor y.desc = some sig → argsL.length = sig.parameters.length)
    (hstack : g.stack = argsL.reverse ++ rest) (hW : 2 * g.monitorRoom + (rest.map fun v => v.category).sum ≤ W9) (hdg : decode c.code g.pc = .ok (.invokestatic index, 3))
    (hpre : ∀ vm₁, s.WarmedH vm₁ → Pre ⟨T.setVm vm₁, locs, cells, slots⟩ argsL.toArray) :
    ∃ (v : Option Value) (vm₁ : Vm) (B : Pt), s.WarmedH vm₁ ∧ Stand p l e R s m args below meth c B.U B.locs B.cells B.slots ∧ Post ⟨T.setVm vm₁, locs, cells, slots⟩ argsL.toArray v B ∧
      ∀ target, Steps p.tables e below (B.U.setTop { g with pc := g.pc + 3, stack := v.toList ++ rest }) target → Steps p.tables e below (T.setTop g) target := by
  obtain ⟨mk, methM, cM, hnamed, hmethM, -, -, -, -, -, -, hsigM⟩ := Cond.codeWith_spec hcode
  have hstatic : methM.isStatic = true := Cond.static_spec hnamed hmethM hstat
  obtain ⟨kP, hkP, -⟩ := className_of_methodNamed hnamed
  have hinitP : kP.init = .initialized := Cond.initialized_spec (findClass_of_methodNamed hnamed) hkP hinit
  obtain ⟨vm₁, X₁, hstep₁⟩ := X.invokestatic hexec hown hlink hnamed hmethM hstatic hkP hinitP hy (g := g) hg (argsL := argsL) (rest := rest) (hlen _ hsigM) hstack hdg
  obtain ⟨v, B, X', hpost, hsteps⟩ := hK m meth c ⟨T.setVm vm₁, locs, cells, slots⟩ { g with stack := rest } (.invokestatic index) mk argsL.toArray X₁ hg hsize hdg hW (X₁.named hnamed) (hpre vm₁ X₁.warmed)
  exact ⟨v, vm₁, B, X₁.warmed, X', hpost, fun target h => hstep₁ _ fun acts => by rw [doInvoke_state]; exact hsteps.trans h⟩
theorem vx_runSW {y : MethodName} {bytes cc : ByteArray} {maxL nL mc ms n index : Nat} {ret : Option FieldType} {hh : List (Nat × Nat × Nat × Nat)} {ws : List Cond} {rm : Room} {Pc : Array Value → State → Prop} {Qc : Array Value → State → Outcome → State → Prop} {free : Addr → Prop} {Ts : List Cond} {own : String} {As rest : List Value} {g : JFrame}
    (S : CallFix p m c cc nL s args Ts own) (hM : Met l y ws rm Pc Qc mc ms free) (cw : vx_CSW R s args own index y bytes maxL ret hh ws rm mc ms n) (hp : PreS s H Pc As)
    (hg : g.method = m) (hn : As.length = n) (hsize : g.locals.size = nL) (hstack : g.stack = As.reverse ++ rest) (hW : 2 * g.monitorRoom + (rest.map fun v => v.category).sum ≤ 8) (hdg : decode cc g.pc = .ok (.invokestatic index, 3)) (hf : cells + mc ≤ R.cells ∧ slots + ms ≤ R.slots) :
    va_Run p l e R s m args below meth c H locs cells slots mc ms g rest (Qc As.toArray) (free) := by
  obtain ⟨⟨hrc, hrs, hfr, hlo, hws, hcw⟩, hcode, hini, hy, hlen, hl, hstt⟩ := cw
  have hK : Back l R p e below s args y 3 8 (PreOf R mc ms Pc) (PostOf Qc mc ms free) := va_backW (hh := hh) (bytes := bytes) (maxL := maxL) (ret := ret) hM hp.1 hrc hrs hfr hlo hws hcw (fun a' U hW => word_at hW (Or.inl (by first | rfl | simp [Cond.onTables, Cond.keeps, Cond.steady])) hini)
  obtain ⟨hx, hb, hml, ho, -⟩ := S
  intro T hT X
  obtain ⟨v, vm₁, ⟨U', l2, c2, s2⟩, hW₁, X', ⟨g', mk, t, L, e1, e2, hq, h1, hL, h2, h3⟩, st⟩ := vx_callSW X hx (hh := hh) (bytes := bytes) (maxL := maxL) (ret := ret) ho hl hstt hini hcode hy hK hg (hsize.trans hml.symm) (argsL := As) (rest := rest) (fun sig h => hn.trans (hlen sig h)) hstack hW (by rw [hb]; exact hdg)
    (fun vm₁ hW₁ => ⟨hf.1, hf.2, hp.2 (T.setVm vm₁) hT hW₁⟩)
  dsimp only [Pt.U, Pt.locs, Pt.cells, Pt.slots] at X' e1 e2 h1 h2 h3 st
  subst h1; subst h2; subst h3
  exact ⟨v, (T.setVm vm₁).calling g' mk As.toArray, t, U', L, hT, X', hL, e1, e2, hq, st⟩
/-- not caught here, past rows that name other classes: it goes on to the caller -/
theorem vx_outP {p : Program} {l : Launch} {e : Env} {R : Room} {s : State} {m : MethodId} {args : Array Value} {below : List Frame} {meth : Method} {c : Code} {H : Heap} {locs : List Loc} {cells slots : Nat} {free : Addr → Prop} {ls : Array Slot} {rest : List Value} {Qc : Array Value → State → Outcome → State → Prop} {XC : String → State → State → Prop}
    {pc : Nat} {own E : String} {ce : Cell} {q : Addr} {mc ms : Nat} (hown : s.vm.findClass own = some m.cls) (hlocks : meth.locks = false)
    (hpass : ∀ z ∈ c.exceptionTable.toList, covers z pc = false ∨ (z.catchType ≠ 0 ∧ ∃ nm : String, (Cond.classLink own z.catchType nm).before args s = true ∧ va_Nc E nm s)) (hcell : H[q]? = some ce) (hv : ce.vm = .none) (hcl : s.vm.findClass E = some ce.cls)
    (hx : ∀ t : State, t.heap = H → s.vm.Alike t.vm → XC E s t) (hf : ∀ z ∈ locs, free z.base) (hc : cells ≤ mc) (hs : slots ≤ ms) :
    vx_W p l e R s m args below meth c H locs cells slots (vx_MQ below Qc XC args s mc ms free) (F0 m pc ls rest) q := by
  intro T hT X
  have hpl : e.platform.magicAccessors = ({} : Platform).magicAccessors := by rw [X.admits.platform]
  obtain ⟨vm', hW', X', st⟩ := X.outThrough hlocks q (g := F0 m pc ls rest) rfl rfl rfl (cell := ce) (by rw [hT]; exact hcell) (by rw [hv]; rfl)
    (by obtain ⟨k9, h9, -⟩ := Vm.findClass_spec hcl; exact ⟨k9, h9⟩) (fun z hz => by
      rcases hpass z hz with h | ⟨hz0, nm, hl1, hn1⟩
      · exact Or.inl h
      · obtain ⟨c6, hc6, hcl6⟩ := Cond.classLink_spec hown hl1 e.platform hpl
        obtain ⟨a8, b8, h1, h2, h3⟩ := hn1
        cases Option.some.inj (h1.symm.trans hcl)
        cases Option.some.inj (h2.symm.trans hc6)
        exact Or.inr ⟨hz0, _, hcl6, h3⟩)
  obtain ⟨g₀, hfr⟩ := X'.frames_eq
  have hcell9 : ((T.setVm vm').setFrames (.throwing q :: below)).heap[q]? = some ce := by
    show T.heap[q]? = some ce
    rw [hT]; exact hcell
  have hend : Ended ((T.setVm vm').setFrames (.throwing q :: below)) below (.threw q) := State.frames_setFrames _ (State.cur_lt_of_frames hfr)
  refine ⟨(T.setVm vm').setFrames (.throwing q :: below), ?_, .threw q, X'.here.running, hend, Or.inr ⟨q, rfl, E, ce, locs, hx _ hT (X'.ends _).1.alike, hcell9, hv, hcl, (X'.ends _).1, (X'.ends _).2.mono hc hs, hf⟩⟩
  rw [X.pushThrowing_eq]
  exact st
/-- a thing of a world lies in the heap -/
theorem vx_lt {D : va_G} {cl : List vw_C} {ws : va_W} {H1 : Heap} (h : va_P D cl ws H1) {k : Nat} {q : Nat × va_E} (hk : ws[k]? = some q) : q.1 < H1.size := (h k q hk).lt
end VXS
/-! ===== END ===== -/
/-! ===== BEGIN methods with a table of their own: called by a name, returning or throwing ===== -/
section VXH
/-! vx_backW, vx_callVX, vx_callSX, vx_callVW, vx_runVW, vx_runVX, vx_runSX, vx_ofWH follow the same proofs as their sisters above (Free/Laws.lean, Shelf42/LK1.lean); vx_outP calls Shelf42/NT130.lean (outThrough). -/
section
variable {l : Launch} {R : Room} {p : Program} {e : Env} {below : List Frame} {s : State} {sargs : Array Value} {y : MethodName} {len W9 : Nat}
theorem vx_backW {ws : List Cond} {rm : Room} {Pc : Array Value → State → Prop} {Qc : Array Value → State → Outcome → State → Prop} {XC : String → State → State → Prop} {mc ms : Nat} {free : Addr → Prop} {bytes : ByteArray} {maxL : Nat} {ret : Option FieldType} {hh : List (Nat × Nat × Nat × Nat)}
    (hM : vx_Met l y ws rm Pc Qc XC mc ms free) (hblind : FrameBlind Pc) (hrc : rm.cells = mc) (hrs : rm.slots = ms)
    (hframes : rm.frames + 1 ≤ R.frames) (hlocals : W9 + (maxL + 11) + rm.locals ≤ R.locals)
    (hws : ∀ w ∈ ws, ∀ a' U, s.WarmedH U.vm → w.before a' U = true) (hcode : Cond.codeWith y bytes maxL ret hh ∈ ws) (hinit : ∀ a' U, s.WarmedH U.vm → (Cond.initialized y.cls).before a' U = true) :
    vx_Back l R p e below s sargs y len W9 (PreOf R mc ms Pc) (PostOf Qc mc ms free) (vx_Post XC mc ms free) := by
  intro m meth c A g ig mk a X hg hsize hdg hW hn hp
  have h1 : (headSpec ws rm).pre.before a A.U = true := atoms_intro fun w hw => hws w hw _ _ X.warmed
  have h2 : (Cond.codeWith y bytes maxL ret hh).before a A.U = true := hws _ hcode _ _ X.warmed
  have h3 : (Cond.initialized y.cls).before a A.U = true := hinit _ _ X.warmed
  have h4 : A.cells + (headSpec ws rm).room.cells ≤ R.cells := by rw [show (headSpec ws rm).room.cells = mc from hrc]; exact hp.1
  have h5 : A.slots + (headSpec ws rm).room.slots ≤ R.slots := by rw [show (headSpec ws rm).room.slots = ms from hrs]; exact hp.2.1
  have hPc : Pc a (A.U.calling g mk a) := hblind _ _ _ _ hp.2.2
  obtain ⟨U, Ls, c0, s0⟩ := A
  dsimp only [Pt.U, Pt.locs, Pt.cells, Pt.slots] at h1 h2 h3 h4 h5 X hn hPc ⊢
  obtain ⟨m9, methY, cY, hn9, hmY, hcY, -, hlY, -⟩ := Cond.codeWith_spec h2
  cases Option.some.inj (hn9.symm.trans hn)
  obtain ⟨kY, hkY, -⟩ := className_of_methodNamed hn
  have hinitY : kY.init = .initialized := Cond.initialized_spec (findClass_of_methodNamed hn) hkY h3
  have h : At U g.method c below := by rw [hg]; exact X.here
  have hlocals9 : W9 + (maxL + 11) + (headSpec ws rm).room.locals ≤ R.locals := hlocals
  have happ : (headSpec ws rm).appliesLoose y e.platform (U.calling g mk a) = true :=
    Spec.appliesLoose_calling (g := g) h hdg hn hkY hinitY
      (X.room_calling (g := g) (R' := (headSpec ws rm).room) hsize hmY hcY hframes (by rw [hlY]; omega) h4 h5) h1
  obtain ⟨mid, hmid⟩ := h.above
  have hfr : (U.setTop g).frames = (.java g :: mid) ++ below := by rw [State.frames_setTop' g h.top, hmid]; rfl
  obtain ⟨o, s₂, hsteps, -, hend, hq⟩ := Steps.callFree hM p X.admits X.cas X.clock (acts := []) hfr happ hPc trivial
  have hq' : vx_Q Qc XC mc ms free a (U.calling g mk a) o s₂ := hq
  rw [State.frames_setTop' g h.top] at hend
  obtain ⟨g₀, hg0⟩ := Option.isSome_iff_exists.mp h.top
  obtain ⟨r, hr⟩ := State.topJava?_eq_some.mp hg0
  have hr' : (({ U with heap := s₂.heap, slotsUsed := s₂.slotsUsed } : State).setVm s₂.vm).frames = .java g₀ :: r := hr
  rcases hq' with ⟨hqc, L, hfe, hL⟩ | ⟨q, rfl, E, ce, L, hx, hce, hcv, hcl, hW₂, hsm, hL⟩
  · obtain ⟨⟨v, rfl⟩, hW₂, e2, q2, q3, q4, q5, q6⟩ := id hfe
    have e3 : s₂ = ({ (U.calling g mk a).setFrames s₂.frames with heap := s₂.heap, slotsUsed := s₂.slotsUsed } : State).setVm s₂.vm := by
      have : s₂ = ({ s₂ with vm := (U.calling g mk a).vm } : State).setVm s₂.vm := rfl
      rw [e2] at this
      exact this
    obtain ⟨c₂, i₂, len₂, hc₂, hd₂, hf₂⟩ := hend
    have hW' : U.WarmedH s₂.vm := hW₂
    have hcc : c₂ = c := by
      have h1 : s₂.code? g.method = U.code? g.method := by
        rw [State.code?_eq, State.code?_eq, hW'.alike.method?]
      exact Option.some.inj (hc₂.symm.trans (h1.trans h.code))
    subst hcc
    have hlen : len₂ = len := by rw [hdg] at hd₂; cases hd₂; rfl
    subst hlen
    have hs₂ : s₂ = (({ U with heap := s₂.heap, slotsUsed := s₂.slotsUsed } : State).setVm s₂.vm).setTop { g with pc := g.pc + len₂, stack := v.toList ++ g.stack } := by
      refine e3.trans ?_
      rw [hf₂, State.calling_eq h.top, State.setFrames_setFrames, State.setTop_of_frames _ hr', hr]
      rfl
    have hsame : U.sameButNew ({ U with heap := s₂.heap, slotsUsed := s₂.slotsUsed } : State) L mc ms := by
      refine ⟨?_, q2, q3, q4, q5, q6⟩
      obtain ⟨t, ht, -⟩ := State.frames_cons hr
      show ({ U with heap := s₂.heap, slotsUsed := s₂.slotsUsed } : State) = { U.setFrames U.frames with heap := s₂.heap, slotsUsed := s₂.slotsUsed }
      rw [State.setFrames_self ht]
    subst hg
    refine Or.inl ⟨v, ⟨(({ U with heap := s₂.heap, slotsUsed := s₂.slotsUsed } : State).setVm s₂.vm), Ls ++ L, c0 + mc, s0 + ms⟩,
      ⟨X.admits, X.cas, X.clock, X.frames, X.room, X.hears, X.method, X.code, (X.here.setHeapUsed s₂.heap s₂.slotsUsed).setVm hW'.alike, X.tail, State.WarmedH.trans X.warmed hW', X.limits, X.bytes, X.same.trans (hsame.setVm s.vm)⟩,
      ⟨g, mk, s₂, L, rfl, rfl, hqc, rfl, hL, rfl, rfl⟩, ?_⟩
    show Steps p.tables e below _ ((({ U with heap := s₂.heap, slotsUsed := s₂.slotsUsed } : State).setVm s₂.vm).setTop { g with pc := g.pc + len₂, stack := v.toList ++ g.stack })
    rw [← hs₂]
    exact hsteps
  · obtain ⟨e2, q2, q3, q4, q5, q6⟩ := id hsm
    have e3 : s₂ = ({ (U.calling g mk a).setFrames s₂.frames with heap := s₂.heap, slotsUsed := s₂.slotsUsed } : State).setVm s₂.vm := by
      have : s₂ = ({ s₂ with vm := (U.calling g mk a).vm } : State).setVm s₂.vm := rfl
      rw [e2] at this
      exact this
    have hf₂ : s₂.frames = .throwing q :: .java g :: U.frames.tail := hend
    have hW' : U.WarmedH s₂.vm := hW₂
    have hs₂ : s₂ = ((({ U with heap := s₂.heap, slotsUsed := s₂.slotsUsed } : State).setVm s₂.vm).setTop g).pushFrame (.throwing q) := by
      refine e3.trans ?_
      rw [hf₂, State.calling_eq h.top, State.setFrames_setFrames, State.pushFrame, State.frames_setTop _ hr', State.setTop_of_frames _ hr', State.setFrames_setFrames, hr]
      rfl
    have hsame : U.sameButNew ({ U with heap := s₂.heap, slotsUsed := s₂.slotsUsed } : State) L mc ms := by
      refine ⟨?_, q2, q3, q4, q5, q6⟩
      obtain ⟨t, ht, -⟩ := State.frames_cons hr
      show ({ U with heap := s₂.heap, slotsUsed := s₂.slotsUsed } : State) = { U.setFrames U.frames with heap := s₂.heap, slotsUsed := s₂.slotsUsed }
      rw [State.setFrames_self ht]
    subst hg
    refine Or.inr ⟨q, ⟨(({ U with heap := s₂.heap, slotsUsed := s₂.slotsUsed } : State).setVm s₂.vm), Ls ++ L, c0 + mc, s0 + ms⟩,
      ⟨X.admits, X.cas, X.clock, X.frames, X.room, X.hears, X.method, X.code, (X.here.setHeapUsed s₂.heap s₂.slotsUsed).setVm hW'.alike, X.tail, State.WarmedH.trans X.warmed hW', X.limits, X.bytes, X.same.trans (hsame.setVm s.vm)⟩,
      ⟨g, mk, s₂, L, E, ce, rfl, rfl, hx, hce, hcv, hcl, rfl, hL, rfl, rfl⟩, ?_⟩
    show Steps p.tables e below _ (((({ U with heap := s₂.heap, slotsUsed := s₂.slotsUsed } : State).setVm s₂.vm).setTop g).pushFrame (.throwing q))
    rw [← hs₂]
    exact hsteps
end
variable {p : Program} {l : Launch} {e : Env} {R : Room} {s : State} {m : MethodId} {args : Array Value} {below : List Frame} {meth : Method} {c : Code} {T : State} {H : Heap} {locs : List Loc} {cells slots : Nat}
theorem vx_callVX (X : Stand p l e R s m args below meth c T locs cells slots) (hexec : p.tables.exec = Jvm.exec) {own C : String} {index : Nat} {y : MethodName} {bytes : ByteArray} {maxL : Nat} {ret : Option FieldType} {hh : List (Nat × Nat × Nat × Nat)}
    (hown : s.vm.findClass own = some m.cls) (hlink : (Cond.methodLink own index y).before args s = true) (hinst : (Cond.instanceMethod y).before args s = true) (hsel : (Cond.selects C y y).before args s = true)
    (hcode : (Cond.codeWith y bytes maxL ret hh).before args s = true) (hy : y.cls ≠ "java/lang/invoke/MethodHandle" ∧ y.cls ≠ "java/lang/invoke/VarHandle")
    {W9 : Nat} {Pre : Pt → Array Value → Prop} {Post : Pt → Array Value → Option Value → Pt → Prop} {PostX : Pt → Array Value → Addr → Pt → Prop} (hK : vx_Back l R p e below s args y 3 W9 Pre Post PostX)
    {b : Addr} {cellB : Cell} (hcell : T.heap[b]? = some cellB) (hobj : cellB.vm.isStatics = false) (hcls : s.vm.findClass C = some cellB.cls)
    {g : JFrame} (hg : g.method = m) (hsize : g.locals.size = c.maxLocals) {argsL rest : List Value} (hlen : ∀ sig, parseMethodDescriptor y.desc = some sig → argsL.length = sig.parameters.length)
    (hstack : g.stack = argsL.reverse ++ .ref b :: rest) (hW : 2 * g.monitorRoom + (rest.map fun v => v.category).sum ≤ W9) (hdg : decode c.code g.pc = .ok (.invokevirtual index, 3))
    (hpre : ∀ vm₁, s.WarmedH vm₁ → Pre ⟨T.setVm vm₁, locs, cells, slots⟩ (Value.ref b :: argsL).toArray) :
    (∃ (v : Option Value) (vm₁ : Vm) (B : Pt), s.WarmedH vm₁ ∧ Stand p l e R s m args below meth c B.U B.locs B.cells B.slots ∧ Post ⟨T.setVm vm₁, locs, cells, slots⟩ (Value.ref b :: argsL).toArray v B ∧
      ∀ target, Steps p.tables e below (B.U.setTop { g with pc := g.pc + 3, stack := v.toList ++ rest }) target → Steps p.tables e below (T.setTop g) target) ∨
    (∃ (q : Addr) (vm₁ : Vm) (B : Pt), s.WarmedH vm₁ ∧ Stand p l e R s m args below meth c B.U B.locs B.cells B.slots ∧ PostX ⟨T.setVm vm₁, locs, cells, slots⟩ (Value.ref b :: argsL).toArray q B ∧
      Steps p.tables e below (T.setTop g) ((B.U.setTop { g with stack := rest }).pushFrame (.throwing q))) := by
  obtain ⟨mk, methM, hnamed, hmethM, hstM, habM⟩ := Cond.instanceMethod_spec hinst
  obtain ⟨m8, methM', cM, hn8, hmethM', -, -, -, -, -, -, hsigM⟩ := Cond.codeWith_spec hcode
  cases Option.some.inj (hn8.symm.trans hnamed)
  cases hmethM.symm.trans hmethM'
  obtain ⟨c2, r2, m2, q1, q2, q3, q4, kP, hkP, hkPi⟩ := Cond.selects_spec hsel
  cases hcls.symm.trans q1
  cases (State.methodFound?_of_named hnamed hy).symm.trans q2
  cases hnamed.symm.trans q3
  have hselP : selectMethod e.platform s.vm cellB.cls mk = .method mk := by rw [Launch.admits_selectMethod X.admits]; exact q4
  obtain ⟨vm₁, X₁, hstep₁⟩ := X.invokevirtual hexec hown hlink hnamed hmethM hstM hkP hkPi hy (a := b) (cell := cellB) hcell
    (fun z h => by rw [h] at hobj; cases hobj) hselP hmethM habM hkP hkPi (g := g) hg (argsL := argsL) (rest := rest) (hlen _ hsigM) hstack hdg
  rcases hK m meth c ⟨T.setVm vm₁, locs, cells, slots⟩ { g with stack := rest } (.invokevirtual index) mk (Value.ref b :: argsL).toArray X₁ hg hsize hdg hW (X₁.named hnamed) (hpre vm₁ X₁.warmed) with ⟨v, B, X', hpost, hsteps⟩ | ⟨q, B, X', hpost, hsteps⟩
  · exact Or.inl ⟨v, vm₁, B, X₁.warmed, X', hpost, fun target h => hstep₁ _ fun acts => by rw [doInvoke_state]; exact hsteps.trans h⟩
  · exact Or.inr ⟨q, vm₁, B, X₁.warmed, X', hpost, hstep₁ _ fun acts => by rw [doInvoke_state]; exact hsteps⟩
theorem vx_callSX (X : Stand p l e R s m args below meth c T locs cells slots) (hexec : p.tables.exec = Jvm.exec) {own : String} {index : Nat} {y : MethodName} {bytes : ByteArray} {maxL : Nat} {ret : Option FieldType} {hh : List (Nat × Nat × Nat × Nat)}
    (hown : s.vm.findClass own = some m.cls) (hlink : (Cond.methodLink own index y).before args s = true) (hstat : (Cond.static y).before args s = true) (hinit : (Cond.initialized y.cls).before args s = true)
    (hcode : (Cond.codeWith y bytes maxL ret hh).before args s = true) (hy : y.cls ≠ "java/lang/invoke/MethodHandle" ∧ y.cls ≠ "java/lang/invoke/VarHandle")
    {W9 : Nat} {Pre : Pt → Array Value → Prop} {Post : Pt → Array Value → Option Value → Pt → Prop} {PostX : Pt → Array Value → Addr → Pt → Prop} (hK : vx_Back l R p e below s args y 3 W9 Pre Post PostX)
    {g : JFrame} (hg : g.method = m) (hsize : g.locals.size = c.maxLocals) {argsL rest : List Value} (hlen : ∀ sig, parseMethodDescriptor y.desc = some sig → argsL.length = sig.parameters.length)
    (hstack : g.stack = argsL.reverse ++ rest) (hW : 2 * g.monitorRoom + (rest.map fun v => v.category).sum ≤ W9) (hdg : decode c.code g.pc = .ok (.invokestatic index, 3))
    (hpre : ∀ vm₁, s.WarmedH vm₁ → Pre ⟨T.setVm vm₁, locs, cells, slots⟩ argsL.toArray) :
    (∃ (v : Option Value) (vm₁ : Vm) (B : Pt), s.WarmedH vm₁ ∧ Stand p l e R s m args below meth c B.U B.locs B.cells B.slots ∧ Post ⟨T.setVm vm₁, locs, cells, slots⟩ argsL.toArray v B ∧
      ∀ target, Steps p.tables e below (B.U.setTop { g with pc := g.pc + 3, stack := v.toList ++ rest }) target → Steps p.tables e below (T.setTop g) target) ∨
    (∃ (q : Addr) (vm₁ : Vm) (B : Pt), s.WarmedH vm₁ ∧ Stand p l e R s m args below meth c B.U B.locs B.cells B.slots ∧ PostX ⟨T.setVm vm₁, locs, cells, slots⟩ argsL.toArray q B ∧
      Steps p.tables e below (T.setTop g) ((B.U.setTop { g with stack := rest }).pushFrame (.throwing q))) := by
  obtain ⟨mk, methM, cM, hnamed, hmethM, -, -, -, -, -, -, hsigM⟩ := Cond.codeWith_spec hcode
  have hstatic : methM.isStatic = true := Cond.static_spec hnamed hmethM hstat
  obtain ⟨kP, hkP, -⟩ := className_of_methodNamed hnamed
  have hinitP : kP.init = .initialized := Cond.initialized_spec (findClass_of_methodNamed hnamed) hkP hinit
  obtain ⟨vm₁, X₁, hstep₁⟩ := X.invokestatic hexec hown hlink hnamed hmethM hstatic hkP hinitP hy (g := g) hg (argsL := argsL) (rest := rest) (hlen _ hsigM) hstack hdg
  rcases hK m meth c ⟨T.setVm vm₁, locs, cells, slots⟩ { g with stack := rest } (.invokestatic index) mk argsL.toArray X₁ hg hsize hdg hW (X₁.named hnamed) (hpre vm₁ X₁.warmed) with ⟨v, B, X', hpost, hsteps⟩ | ⟨q, B, X', hpost, hsteps⟩
  · exact Or.inl ⟨v, vm₁, B, X₁.warmed, X', hpost, fun target h => hstep₁ _ fun acts => by rw [doInvoke_state]; exact hsteps.trans h⟩
  · exact Or.inr ⟨q, vm₁, B, X₁.warmed, X', hpost, hstep₁ _ fun acts => by rw [doInvoke_state]; exact hsteps⟩
theorem vx_callVW (X : Stand p l e R s m args below meth c T locs cells slots) (hexec : p.tables.exec = Jvm.exec) {own C : String} {index : Nat} {y : MethodName} {bytes : ByteArray} {maxL : Nat} {ret : Option FieldType} {hh : List (Nat × Nat × Nat × Nat)}
    (hown : s.vm.findClass own = some m.cls) (hlink : (Cond.methodLink own index y).before args s = true) (hinst : (Cond.instanceMethod y).before args s = true) (hsel : (Cond.selects C y y).before args s = true)
    (hcode : (Cond.codeWith y bytes maxL ret hh).before args s = true) (hy : y.cls ≠ "java/lang/invoke/MethodHandle" ∧ y.cls ≠ "java/lang/invoke/VarHandle")
    {W9 : Nat} {Pre : Pt → Array Value → Prop} {Post : Pt → Array Value → Option Value → Pt → Prop} (hK : Back l R p e below s args y 3 W9 Pre Post)
    {b : Addr} {cellB : Cell} (hcell : T.heap[b]? = some cellB) (hobj : cellB.vm.isStatics = false) (hcls : s.vm.findClass C = some cellB.cls)
    {g : JFrame} (hg : g.method = m) (hsize : g.locals.size = c.maxLocals) {argsL rest : List Value} (hlen : ∀ sig, parseMethodDescriptor y.desc = some sig → argsL.length = sig.parameters.length)
    (hstack : g.stack = argsL.reverse ++ .ref b :: rest) (hW : 2 * g.monitorRoom + (rest.map fun v => v.category).sum ≤ W9) (hdg : decode c.code g.pc = .ok (.invokevirtual index, 3))
    (hpre : ∀ vm₁, s.WarmedH vm₁ → Pre ⟨T.setVm vm₁, locs, cells, slots⟩ (Value.ref b :: argsL).toArray) :
    ∃ (v : Option Value) (vm₁ : Vm) (B : Pt), s.WarmedH vm₁ ∧ Stand p l e R s m args below meth c B.U B.locs B.cells B.slots ∧ Post ⟨T.setVm vm₁, locs, cells, slots⟩ (Value.ref b :: argsL).toArray v B ∧
      ∀ target, Steps p.tables e below (B.U.setTop { g with pc := g.pc + 3, stack := v.toList ++ rest }) target → Steps p.tables e below (T.setTop g) target := by
  obtain ⟨mk, methM, hnamed, hmethM, hstM, habM⟩ := Cond.instanceMethod_spec hinst
  obtain ⟨m8, methM', cM, hn8, hmethM', -, -, -, -, -, -, hsigM⟩ := Cond.codeWith_spec hcode
  cases Option.some.inj (hn8.symm.trans hnamed)
  cases hmethM.symm.trans hmethM'
  obtain ⟨c2, r2, m2, q1, q2, q3, q4, kP, hkP, hkPi⟩ := Cond.selects_spec hsel
  cases hcls.symm.trans q1
  cases (State.methodFound?_of_named hnamed hy).symm.trans q2
  cases hnamed.symm.trans q3
  have hselP : selectMethod e.platform s.vm cellB.cls mk = .method mk := by rw [Launch.admits_selectMethod X.admits]; exact q4
  obtain ⟨vm₁, X₁, hstep₁⟩ := X.invokevirtual hexec hown hlink hnamed hmethM hstM hkP hkPi hy (a := b) (cell := cellB) hcell
    (fun z h => by rw [h] at hobj; cases hobj) hselP hmethM habM hkP hkPi (g := g) hg (argsL := argsL) (rest := rest) (hlen _ hsigM) hstack hdg
  obtain ⟨v, B, X', hpost, hsteps⟩ := hK m meth c ⟨T.setVm vm₁, locs, cells, slots⟩ { g with stack := rest } (.invokevirtual index) mk (Value.ref b :: argsL).toArray X₁ hg hsize hdg hW (X₁.named hnamed) (hpre vm₁ X₁.warmed)
  exact ⟨v, vm₁, B, X₁.warmed, X', hpost, fun target h => hstep₁ _ fun acts => by rw [doInvoke_state]; exact hsteps.trans h⟩
abbrev vx_CVW (R : Room) (s : State) (args : Array Value) (own C : String) (index : Nat) (y : MethodName) (bytes : ByteArray) (maxL : Nat) (ret : Option FieldType) (hh : List (Nat × Nat × Nat × Nat)) (ws : List Cond) (rm : Room) (mc ms n : Nat) : Prop :=
  (rm.cells = mc ∧ rm.slots = ms ∧ rm.frames + 1 ≤ R.frames ∧ 8 + (maxL + 11) + rm.locals ≤ R.locals ∧ (∀ w ∈ ws, ∀ (a' : Array Value) (U : State), s.WarmedH U.vm → w.before a' U = true) ∧ Cond.codeWith y bytes maxL ret hh ∈ ws) ∧
  (Cond.codeWith y bytes maxL ret hh).before args s = true ∧ (Cond.initialized y.cls).before args s = true ∧ (y.cls ≠ "java/lang/invoke/MethodHandle" ∧ y.cls ≠ "java/lang/invoke/VarHandle") ∧
  (∀ sig, parseMethodDescriptor y.desc = some sig → n = sig.parameters.length) ∧ (Cond.methodLink own index y).before args s = true ∧ (Cond.instanceMethod y).before args s = true ∧ (Cond.selects C y y).before args s = true
theorem vx_cwVW {own C : String} {index maxL mc ms : Nat} {y : MethodName} {bytes : ByteArray} {ret : Option FieldType} {hh : List (Nat × Nat × Nat × Nat)} {Ts ws ws' : List Cond} {rm : Room} (n : Nat) (ht : ∀ w ∈ Ts, w.before args s = true) (hT : GoodIn Ts (wsV own index C y ws)) (hw : ws = Cond.codeWith y bytes maxL ret hh :: ws') (hrc : rm.cells = mc) (hrs : rm.slots = ms)
    (hd : y.cls = C ∧ y.cls ≠ "java/lang/invoke/MethodHandle" ∧ y.cls ≠ "java/lang/invoke/VarHandle" ∧ (parseMethodDescriptor y.desc).map (fun d => d.parameters.length) = some n) (hR : rm.frames + 1 ≤ R.frames ∧ 8 + (maxL + 11) + rm.locals ≤ R.locals) :
    vx_CVW R s args own C index y bytes maxL ret hh ws rm mc ms n := by
  obtain ⟨hC, hd⟩ := hd
  subst hC
  have ok : ∀ w ∈ wsV own index y.cls y ws, w.before args s = true := fun w h => ht w (hT w h).1
  have hG : GoodIn Ts ws := fun w h => hT w (by unfold wsV; exact List.mem_append_right _ h)
  have hc : Cond.codeWith y bytes maxL ret hh ∈ ws := by rw [hw]; exact List.mem_cons_self
  refine ⟨⟨hrc, hrs, hR.1, hR.2, pay_in ht hG, hc⟩, ht _ (hG _ hc).1, ok _ (by simp [wsV]), ⟨hd.1, hd.2.1⟩, fun sig h => ?_, ok _ (by simp [wsV]), ok _ (by simp [wsV]), ok _ (by simp [wsV])⟩
  have h2 := hd.2.2
  rw [h] at h2
  exact (Option.some.inj h2).symm
theorem vx_runVW {y : MethodName} {bytes cc : ByteArray} {maxL nL mc ms n index : Nat} {ret : Option FieldType} {hh : List (Nat × Nat × Nat × Nat)} {ws : List Cond} {rm : Room} {Pc : Array Value → State → Prop} {Qc : Array Value → State → Outcome → State → Prop} {free : Addr → Prop} {Ts : List Cond} {own C : String} {b : Addr} {As rest : List Value} {g : JFrame}
    (S : CallFix p m c cc nL s args Ts own) (hM : Met l y ws rm Pc Qc mc ms free) (cw : vx_CVW R s args own C index y bytes maxL ret hh ws rm mc ms n) (hp : PreV s H C b Pc As)
    (hg : g.method = m) (hn : As.length = n) (hsize : g.locals.size = nL) (hstack : g.stack = As.reverse ++ .ref b :: rest) (hW : 2 * g.monitorRoom + (rest.map fun v => v.category).sum ≤ 8) (hdg : decode cc g.pc = .ok (.invokevirtual index, 3)) (hf : cells + mc ≤ R.cells ∧ slots + ms ≤ R.slots) :
    va_Run p l e R s m args below meth c H locs cells slots mc ms g rest (Qc (Value.ref b :: As).toArray) free := by
  obtain ⟨⟨hrc, hrs, hfr, hlo, hws, hcw⟩, hcode, hini, hy, hlen, hl, hin, hse⟩ := cw
  have hK : Back l R p e below s args y 3 8 (PreOf R mc ms Pc) (PostOf Qc mc ms free) := va_backW (hh := hh) (bytes := bytes) (maxL := maxL) (ret := ret) hM hp.1 hrc hrs hfr hlo hws hcw (fun a' U hW => word_at hW (Or.inl (by first | rfl | simp [Cond.onTables, Cond.keeps, Cond.steady])) hini)
  obtain ⟨hx, hb, hml, ho, -⟩ := S
  obtain ⟨-, ⟨cellB, hcB, hoB, hclB⟩, hPc⟩ := hp
  intro T hT X
  obtain ⟨v, vm₁, ⟨U', l2, c2, s2⟩, hW₁, X', ⟨g', mk, t, L, e1, e2, hq, h1, hL, h2, h3⟩, st⟩ := vx_callVW X hx (C := C) (hh := hh) (bytes := bytes) (maxL := maxL) (ret := ret) ho hl hin hse hcode hy hK (by rw [hT]; exact hcB) hoB hclB hg (hsize.trans hml.symm) (argsL := As) (rest := rest) (fun sig h => hn.trans (hlen sig h)) hstack hW (by rw [hb]; exact hdg)
    (fun vm₁ hW₁ => ⟨hf.1, hf.2, hPc (T.setVm vm₁) hT hW₁⟩)
  dsimp only [Pt.U, Pt.locs, Pt.cells, Pt.slots] at X' e1 e2 h1 h2 h3 st
  subst h1; subst h2; subst h3
  exact ⟨v, (T.setVm vm₁).calling g' mk (Value.ref b :: As).toArray, t, U', L, hT, X', hL, e1, e2, hq, st⟩
section
variable {y : MethodName} {bytes cc : ByteArray} {maxL nL mc ms n index : Nat} {ret : Option FieldType} {ws : List Cond} {rm : Room} {Pc : Array Value → State → Prop} {Qc : Array Value → State → Outcome → State → Prop} {XC : String → State → State → Prop} {free : Addr → Prop} {Ts : List Cond} {own C : String} {b : Addr} {As rest : List Value} {g : JFrame}
theorem vx_runVX {hh : List (Nat × Nat × Nat × Nat)} (S : CallFix p m c cc nL s args Ts own) (hM : vx_Met l y ws rm Pc Qc XC mc ms free) (cw : vx_CVW R s args own C index y bytes maxL ret hh ws rm mc ms n) (hp : PreV s H C b Pc As)
    (hg : g.method = m) (hn : As.length = n) (hsize : g.locals.size = nL) (hstack : g.stack = As.reverse ++ .ref b :: rest) (hW : 2 * g.monitorRoom + (rest.map fun v => v.category).sum ≤ 8) (hdg : decode cc g.pc = .ok (.invokevirtual index, 3)) (hf : cells + mc ≤ R.cells ∧ slots + ms ≤ R.slots) :
    vx_Run p l e R s m args below meth c H locs cells slots mc ms g rest (Qc (Value.ref b :: As).toArray) XC free := by
  obtain ⟨⟨hrc, hrs, hfr, hlo, hws, hcw⟩, hcode, hini, hy, hlen, hl, hin, hse⟩ := cw
  have hK : vx_Back l R p e below s args y 3 8 (PreOf R mc ms Pc) (PostOf Qc mc ms free) (vx_Post XC mc ms free) := vx_backW (hh := hh) (bytes := bytes) (maxL := maxL) (ret := ret) hM hp.1 hrc hrs hfr hlo hws hcw (fun a' U hW => word_at hW (Or.inl (by first | rfl | simp [Cond.onTables, Cond.keeps, Cond.steady])) hini)
  obtain ⟨hx, hb, hml, ho, -⟩ := S
  obtain ⟨-, ⟨cellB, hcB, hoB, hclB⟩, hPc⟩ := hp
  intro T hT X
  rcases vx_callVX X hx (C := C) (hh := hh) (bytes := bytes) (maxL := maxL) (ret := ret) ho hl hin hse hcode hy hK (by rw [hT]; exact hcB) hoB hclB hg (hsize.trans hml.symm) (argsL := As) (rest := rest) (fun sig h => hn.trans (hlen sig h)) hstack hW (by rw [hb]; exact hdg)
    (fun vm₁ hW₁ => ⟨hf.1, hf.2, hPc (T.setVm vm₁) hT hW₁⟩) with ⟨v, vm₁, ⟨U', l2, c2, s2⟩, hW₁, X', ⟨g', mk, t, L, e1, e2, hq, h1, hL, h2, h3⟩, st⟩ | ⟨q, vm₁, ⟨U', l2, c2, s2⟩, hW₁, X', ⟨g', mk, t, L, E, ce, e1, e2, hq, hce, hcv, hcl, h1, hL, h2, h3⟩, st⟩
  · dsimp only [Pt.U, Pt.locs, Pt.cells, Pt.slots] at X' e1 e2 h1 h2 h3 st
    subst h1; subst h2; subst h3
    exact Or.inl ⟨v, (T.setVm vm₁).calling g' mk (Value.ref b :: As).toArray, t, U', L, hT, X', hL, e1, e2, hq, st⟩
  · dsimp only [Pt.U, Pt.locs, Pt.cells, Pt.slots] at X' e1 e2 h1 h2 h3 st hcl
    subst h1; subst h2; subst h3
    exact Or.inr ⟨q, (T.setVm vm₁).calling g' mk (Value.ref b :: As).toArray, t, U', L, E, ce, hT, X', hL, e1, e2, hq, hce, hcv, vx_cls hW₁ hcl, st⟩
theorem vx_runSX {hh : List (Nat × Nat × Nat × Nat)} (S : CallFix p m c cc nL s args Ts own) (hM : vx_Met l y ws rm Pc Qc XC mc ms free) (cw : vx_CSW R s args own index y bytes maxL ret hh ws rm mc ms n) (hp : PreS s H Pc As)
    (hg : g.method = m) (hn : As.length = n) (hsize : g.locals.size = nL) (hstack : g.stack = As.reverse ++ rest) (hW : 2 * g.monitorRoom + (rest.map fun v => v.category).sum ≤ 8) (hdg : decode cc g.pc = .ok (.invokestatic index, 3)) (hf : cells + mc ≤ R.cells ∧ slots + ms ≤ R.slots) :
    vx_Run p l e R s m args below meth c H locs cells slots mc ms g rest (Qc As.toArray) XC free := by
  obtain ⟨⟨hrc, hrs, hfr, hlo, hws, hcw⟩, hcode, hini, hy, hlen, hl, hstt⟩ := cw
  have hK : vx_Back l R p e below s args y 3 8 (PreOf R mc ms Pc) (PostOf Qc mc ms free) (vx_Post XC mc ms free) := vx_backW (hh := hh) (bytes := bytes) (maxL := maxL) (ret := ret) hM hp.1 hrc hrs hfr hlo hws hcw (fun a' U hW => word_at hW (Or.inl (by first | rfl | simp [Cond.onTables, Cond.keeps, Cond.steady])) hini)
  obtain ⟨hx, hb, hml, ho, -⟩ := S
  intro T hT X
  rcases vx_callSX X hx (hh := hh) (bytes := bytes) (maxL := maxL) (ret := ret) ho hl hstt hini hcode hy hK hg (hsize.trans hml.symm) (argsL := As) (rest := rest) (fun sig h => hn.trans (hlen sig h)) hstack hW (by rw [hb]; exact hdg)
    (fun vm₁ hW₁ => ⟨hf.1, hf.2, hp.2 (T.setVm vm₁) hT hW₁⟩) with ⟨v, vm₁, ⟨U', l2, c2, s2⟩, hW₁, X', ⟨g', mk, t, L, e1, e2, hq, h1, hL, h2, h3⟩, st⟩ | ⟨q, vm₁, ⟨U', l2, c2, s2⟩, hW₁, X', ⟨g', mk, t, L, E, ce, e1, e2, hq, hce, hcv, hcl, h1, hL, h2, h3⟩, st⟩
  · dsimp only [Pt.U, Pt.locs, Pt.cells, Pt.slots] at X' e1 e2 h1 h2 h3 st
    subst h1; subst h2; subst h3
    exact Or.inl ⟨v, (T.setVm vm₁).calling g' mk As.toArray, t, U', L, hT, X', hL, e1, e2, hq, st⟩
  · dsimp only [Pt.U, Pt.locs, Pt.cells, Pt.slots] at X' e1 e2 h1 h2 h3 st hcl
    subst h1; subst h2; subst h3
    exact Or.inr ⟨q, (T.setVm vm₁).calling g' mk As.toArray, t, U', L, E, ce, hT, X', hL, e1, e2, hq, hce, hcv, vx_cls hW₁ hcl, st⟩
end
end VXH
theorem vx_ofWH {l : Launch} {y : MethodName} {ws ws' : List Cond} {rm : Room} {Pc : Array Value → State → Prop} {Qc : Array Value → State → Outcome → State → Prop} {XC : String → State → State → Prop} {mc ms : Nat} {free : Addr → Prop} {cc : ByteArray} {maxL : Nat} {ret : Option FieldType} {hh : List (Nat × Nat × Nat × Nat)}
    (hy : plainName y.cls = true) (hw : ws = Cond.codeWith y cc maxL ret hh :: ws')
    (body : ∀ p e s m args below meth c s₁, BodyLoose p l y (headSpec ws rm) cc maxL ret e s m args below meth c s₁ → c.maxLocals = maxL → Pc args s →
      W p l e (headSpec ws rm).room s m args below meth c s.heap [] 0 0 (vx_MQ below Qc XC args s mc ms free) (entryFrame m args maxL)) : vx_Met l y ws rm Pc Qc XC mc ms free := by
  refine MetFree.of_bodyS (code := cc) (maxLocals := maxL) (ret := ret) hy ?_ ?_
  · intro args s m h hn
    obtain ⟨m9, meth, c, hn9, h1, h2, h3, h4, -, h5, h6, -⟩ := Cond.codeWith_spec (atoms_spec (ws := ws) h _ (by rw [hw]; exact List.mem_cons_self))
    cases hn.symm.trans hn9
    exact ⟨meth, c, h1, h2, h3, h4, h5, h6⟩
  · intro p e s m args below meth c s₁ B hml hP _
    have hh0 : s₁.heap = s.heap := by rw [B.state]; rfl
    obtain ⟨t, a1, o, b1, b2, b3⟩ := body p e s m args below meth c s₁ B hml hP s₁ hh0 (Stand.of_body B)
    exact ⟨t, o, a1, b1, b2, b3⟩
/-! ===== END ===== -/
end
section
/-! ===== BEGIN printed: names, fields, word lists, decode rows ===== -/
def RX0 : String := "RomanCalendar"
def TX0 : u_T := fun k => match k with
  | 0 => ("RomanCalendar", "characters", "[I", true)
  | 1 => ("RomanCalendar", "consulYears", "[I", true)
  | 2 => ("RomanCalendar", "consulPairs", "[I", true)
  | _ => ("RomanCalendar", "marketRemainder", "I", false)
def tyX0 : Nat → FieldType := fun k => match k with
  | 0 => .array .int
  | 1 => .array .int
  | 2 => .array .int
  | _ => .int
abbrev wsX00 : List Cond := u_ws RX0 TX0 4
theorem nmX0 : ∀ a, a < 4 → ∀ b, b < 4 → a ≠ b → (TX0 a).2.1 ≠ (TX0 b).2.1 := by decide +kernel
theorem tyX0_ok : ∀ k, k < 4 → parseFieldDescriptor (TX0 k).2.2.1 = some (tyX0 k) := by decide +kernel
abbrev cX0_init : ByteArray := prog_1_method_1_code
def yX0_init : MethodName := ⟨RX0, "<init>", "()V"⟩
abbrev cX0_days : ByteArray := prog_1_method_2_code
def yX0_days : MethodName := ⟨RX0, "days", "()I"⟩
abbrev cX0_number : ByteArray := prog_1_method_3_code
def yX0_number : MethodName := ⟨RX0, "number", "(III)I"⟩
abbrev cX0_numberByCounting : ByteArray := prog_1_method_4_code
def yX0_numberByCounting : MethodName := ⟨RX0, "numberByCounting", "(III)I"⟩
abbrev cX0_yearOf : ByteArray := prog_1_method_5_code
def yX0_yearOf : MethodName := ⟨RX0, "yearOf", "(I)I"⟩
abbrev cX0_monthOf : ByteArray := prog_1_method_6_code
def yX0_monthOf : MethodName := ⟨RX0, "monthOf", "(I)I"⟩
abbrev cX0_dayOf : ByteArray := prog_1_method_7_code
def yX0_dayOf : MethodName := ⟨RX0, "dayOf", "(I)I"⟩
abbrev cX0_weekdayOf : ByteArray := prog_1_method_8_code
def yX0_weekdayOf : MethodName := ⟨RX0, "weekdayOf", "(I)I"⟩
abbrev cX0_anchorOf : ByteArray := prog_1_method_9_code
def yX0_anchorOf : MethodName := ⟨RX0, "anchorOf", "(I)I"⟩
abbrev cX0_anchorMonthOf : ByteArray := prog_1_method_10_code
def yX0_anchorMonthOf : MethodName := ⟨RX0, "anchorMonthOf", "(I)I"⟩
abbrev cX0_countOf : ByteArray := prog_1_method_11_code
def yX0_countOf : MethodName := ⟨RX0, "countOf", "(I)I"⟩
abbrev cX0_isDoubled : ByteArray := prog_1_method_12_code
def yX0_isDoubled : MethodName := ⟨RX0, "isDoubled", "(I)Z"⟩
abbrev cX0_fromCount : ByteArray := prog_1_method_13_code
def yX0_fromCount : MethodName := ⟨RX0, "fromCount", "(IIIIZ)I"⟩
abbrev cX0_greatestCount : ByteArray := prog_1_method_14_code
def yX0_greatestCount : MethodName := ⟨RX0, "greatestCount", "(III)I"⟩
abbrev cX0_lawNumber : ByteArray := prog_1_method_15_code
def yX0_lawNumber : MethodName := ⟨RX0, "lawNumber", "(I)I"⟩
abbrev cX0_termEnd : ByteArray := prog_1_method_16_code
def yX0_termEnd : MethodName := ⟨RX0, "termEnd", "(II)I"⟩
abbrev cX0_lawDays : ByteArray := prog_1_method_17_code
def yX0_lawDays : MethodName := ⟨RX0, "lawDays", "(II)I"⟩
abbrev cX0_placeOf : ByteArray := prog_1_method_18_code
def yX0_placeOf : MethodName := ⟨RX0, "placeOf", "(I)I"⟩
abbrev cX0_letterOfEight : ByteArray := prog_1_method_19_code
def yX0_letterOfEight : MethodName := ⟨RX0, "letterOfEight", "(I)I"⟩
abbrev cX0_letterOfSeven : ByteArray := prog_1_method_20_code
def yX0_letterOfSeven : MethodName := ⟨RX0, "letterOfSeven", "(I)I"⟩
abbrev cX0_setMarketDay : ByteArray := prog_1_method_21_code
def yX0_setMarketDay : MethodName := ⟨RX0, "setMarketDay", "(I)I"⟩
abbrev cX0_isMarket : ByteArray := prog_1_method_22_code
def yX0_isMarket : MethodName := ⟨RX0, "isMarket", "(I)Z"⟩
abbrev cX0_marketLetters : ByteArray := prog_1_method_23_code
def yX0_marketLetters : MethodName := ⟨RX0, "marketLetters", "(I)I"⟩
abbrev cX0_sundayLetters : ByteArray := prog_1_method_24_code
def yX0_sundayLetters : MethodName := ⟨RX0, "sundayLetters", "(I)I"⟩
abbrev cX0_setConsuls : ByteArray := prog_1_method_25_code
def yX0_setConsuls : MethodName := ⟨RX0, "setConsuls", "(III)I"⟩
abbrev cX0_strikeConsuls : ByteArray := prog_1_method_26_code
def yX0_strikeConsuls : MethodName := ⟨RX0, "strikeConsuls", "(I)I"⟩
abbrev cX0_consulsOf : ByteArray := prog_1_method_27_code
def yX0_consulsOf : MethodName := ⟨RX0, "consulsOf", "(I)I"⟩
abbrev cX0_afterConsuls : ByteArray := prog_1_method_28_code
def yX0_afterConsuls : MethodName := ⟨RX0, "afterConsuls", "(I)I"⟩
abbrev cX0_yearOfConsuls : ByteArray := prog_1_method_29_code
def yX0_yearOfConsuls : MethodName := ⟨RX0, "yearOfConsuls", "(III)I"⟩
abbrev cX0_setCharacter : ByteArray := prog_1_method_30_code
def yX0_setCharacter : MethodName := ⟨RX0, "setCharacter", "(II)I"⟩
abbrev cX0_characterOf : ByteArray := prog_1_method_31_code
def yX0_characterOf : MethodName := ⟨RX0, "characterOf", "(I)I"⟩
abbrev cX0_canVote : ByteArray := prog_1_method_32_code
def yX0_canVote : MethodName := ⟨RX0, "canVote", "(I)Z"⟩
abbrev cX0_nextCourt : ByteArray := prog_1_method_33_code
def yX0_nextCourt : MethodName := ⟨RX0, "nextCourt", "(I)I"⟩
abbrev cX0_votes : ByteArray := prog_1_method_34_code
def yX0_votes : MethodName := ⟨RX0, "votes", "(I)I"⟩
abbrev cX0_checkYear : ByteArray := prog_1_method_35_code
def yX0_checkYear : MethodName := ⟨RX0, "checkYear", "(I)V"⟩
abbrev cX0_checkMonth : ByteArray := prog_1_method_36_code
def yX0_checkMonth : MethodName := ⟨RX0, "checkMonth", "(I)V"⟩
abbrev cX0_checkDate : ByteArray := prog_1_method_37_code
def yX0_checkDate : MethodName := ⟨RX0, "checkDate", "(III)V"⟩
abbrev cX0_checkNumber : ByteArray := prog_1_method_38_code
def yX0_checkNumber : MethodName := ⟨RX0, "checkNumber", "(I)V"⟩
abbrev cX0_checkAnchor : ByteArray := prog_1_method_39_code
def yX0_checkAnchor : MethodName := ⟨RX0, "checkAnchor", "(I)V"⟩
abbrev cX0_isPlace : ByteArray := prog_1_method_40_code
def yX0_isPlace : MethodName := ⟨RX0, "isPlace", "(I)Z"⟩
abbrev cX0_isConsul : ByteArray := prog_1_method_41_code
def yX0_isConsul : MethodName := ⟨RX0, "isConsul", "(I)Z"⟩
abbrev cX0_isLeap : ByteArray := prog_1_method_42_code
def yX0_isLeap : MethodName := ⟨RX0, "isLeap", "(I)Z"⟩
abbrev cX0_firstDayOf : ByteArray := prog_1_method_43_code
def yX0_firstDayOf : MethodName := ⟨RX0, "firstDayOf", "(I)I"⟩
abbrev cX0_lastDayOf : ByteArray := prog_1_method_44_code
def yX0_lastDayOf : MethodName := ⟨RX0, "lastDayOf", "(I)I"⟩
abbrev cX0_yearAt : ByteArray := prog_1_method_45_code
def yX0_yearAt : MethodName := ⟨RX0, "yearAt", "(I)I"⟩
abbrev cX0_commonLengthOf : ByteArray := prog_1_method_46_code
def yX0_commonLengthOf : MethodName := ⟨RX0, "commonLengthOf", "(I)I"⟩
abbrev cX0_lengthOf : ByteArray := prog_1_method_47_code
def yX0_lengthOf : MethodName := ⟨RX0, "lengthOf", "(II)I"⟩
abbrev cX0_commonDaysBefore : ByteArray := prog_1_method_48_code
def yX0_commonDaysBefore : MethodName := ⟨RX0, "commonDaysBefore", "(I)I"⟩
abbrev cX0_daysBefore : ByteArray := prog_1_method_49_code
def yX0_daysBefore : MethodName := ⟨RX0, "daysBefore", "(II)I"⟩
abbrev cX0_doubledDaysBefore : ByteArray := prog_1_method_50_code
def yX0_doubledDaysBefore : MethodName := ⟨RX0, "doubledDaysBefore", "(I)I"⟩
abbrev cX0_lawNumberAt : ByteArray := prog_1_method_51_code
def yX0_lawNumberAt : MethodName := ⟨RX0, "lawNumberAt", "(I)I"⟩
abbrev cX0_placeAt : ByteArray := prog_1_method_52_code
def yX0_placeAt : MethodName := ⟨RX0, "placeAt", "(I)I"⟩
abbrev cX0_lastDayOfPlace : ByteArray := prog_1_method_53_code
def yX0_lastDayOfPlace : MethodName := ⟨RX0, "lastDayOfPlace", "(II)I"⟩
abbrev cX0_monthOfPlace : ByteArray := prog_1_method_54_code
def yX0_monthOfPlace : MethodName := ⟨RX0, "monthOfPlace", "(I)I"⟩
abbrev cX0_nonesDayOf : ByteArray := prog_1_method_55_code
def yX0_nonesDayOf : MethodName := ⟨RX0, "nonesDayOf", "(I)I"⟩
abbrev cX0_placeOfAnchor : ByteArray := prog_1_method_56_code
def yX0_placeOfAnchor : MethodName := ⟨RX0, "placeOfAnchor", "(II)I"⟩
abbrev cX0_isBehindIdes : ByteArray := prog_1_method_57_code
def yX0_isBehindIdes : MethodName := ⟨RX0, "isBehindIdes", "(I)Z"⟩
abbrev cX0_anchorOfPlace : ByteArray := prog_1_method_58_code
def yX0_anchorOfPlace : MethodName := ⟨RX0, "anchorOfPlace", "(I)I"⟩
abbrev cX0_greatestCountTo : ByteArray := prog_1_method_59_code
def yX0_greatestCountTo : MethodName := ⟨RX0, "greatestCountTo", "(II)I"⟩
abbrev cX0_isToldAsDoubled : ByteArray := prog_1_method_60_code
def yX0_isToldAsDoubled : MethodName := ⟨RX0, "isToldAsDoubled", "(IIII)Z"⟩
abbrev cX0_eightLetterAt : ByteArray := prog_1_method_61_code
def yX0_eightLetterAt : MethodName := ⟨RX0, "eightLetterAt", "(I)I"⟩
abbrev cX0_sevenLetterAt : ByteArray := prog_1_method_62_code
def yX0_sevenLetterAt : MethodName := ⟨RX0, "sevenLetterAt", "(I)I"⟩
abbrev cX0_isMarketAt : ByteArray := prog_1_method_63_code
def yX0_isMarketAt : MethodName := ⟨RX0, "isMarketAt", "(I)Z"⟩
abbrev cX0_isSlot : ByteArray := prog_1_method_64_code
def yX0_isSlot : MethodName := ⟨RX0, "isSlot", "(I)Z"⟩
abbrev cX0_slotOf : ByteArray := prog_1_method_65_code
def yX0_slotOf : MethodName := ⟨RX0, "slotOf", "(I)I"⟩
abbrev cX0_countConsulYears : ByteArray := prog_1_method_66_code
def yX0_countConsulYears : MethodName := ⟨RX0, "countConsulYears", "()I"⟩
abbrev cX0_nextYearOfPair : ByteArray := prog_1_method_67_code
def yX0_nextYearOfPair : MethodName := ⟨RX0, "nextYearOfPair", "(III)I"⟩
abbrev cX0_isPair : ByteArray := prog_1_method_68_code
def yX0_isPair : MethodName := ⟨RX0, "isPair", "(III)Z"⟩
abbrev cX0_readCharacter : ByteArray := prog_1_method_69_code
def yX0_readCharacter : MethodName := ⟨RX0, "readCharacter", "(I)I"⟩
abbrev cX0_writeCharacter : ByteArray := prog_1_method_70_code
def yX0_writeCharacter : MethodName := ⟨RX0, "writeCharacter", "(II)V"⟩
abbrev cX0_isVotingDay : ByteArray := prog_1_method_71_code
def yX0_isVotingDay : MethodName := ⟨RX0, "isVotingDay", "(I)Z"⟩
def RX1 : String := "RomanCalendarModel"
def TX1 : u_T := fun k => match k with
  | 0 => ("RomanCalendarModel", "thrown", "I", false)
  | 1 => ("RomanCalendarModel", "year", "I", false)
  | 2 => ("RomanCalendarModel", "month", "I", false)
  | 3 => ("RomanCalendarModel", "day", "I", false)
  | 4 => ("RomanCalendarModel", "market", "I", false)
  | 5 => ("RomanCalendarModel", "character", "[I", true)
  | 6 => ("RomanCalendarModel", "first", "[I", true)
  | 7 => ("RomanCalendarModel", "second", "[I", true)
  | _ => ("RomanCalendarModel", "written", "I", false)
def tyX1 : Nat → FieldType := fun k => match k with
  | 0 => .int
  | 1 => .int
  | 2 => .int
  | 3 => .int
  | 4 => .int
  | 5 => .array .int
  | 6 => .array .int
  | 7 => .array .int
  | _ => .int
abbrev wsX10 : List Cond := u_ws RX1 TX1 9
theorem nmX1 : ∀ a, a < 9 → ∀ b, b < 9 → a ≠ b → (TX1 a).2.1 ≠ (TX1 b).2.1 := by decide +kernel
theorem tyX1_ok : ∀ k, k < 9 → parseFieldDescriptor (TX1 k).2.2.1 = some (tyX1 k) := by decide +kernel
abbrev cX1_init : ByteArray := prog_3_method_1_code
def yX1_init : MethodName := ⟨RX1, "<init>", "()V"⟩
abbrev cX1_thrown : ByteArray := prog_3_method_2_code
def yX1_thrown : MethodName := ⟨RX1, "thrown", "()I"⟩
abbrev cX1_isFine : ByteArray := prog_3_method_3_code
def yX1_isFine : MethodName := ⟨RX1, "isFine", "(I)Z"⟩
abbrev cX1_isIn : ByteArray := prog_3_method_4_code
def yX1_isIn : MethodName := ⟨RX1, "isIn", "(III)Z"⟩
abbrev cX1_isYear : ByteArray := prog_3_method_5_code
def yX1_isYear : MethodName := ⟨RX1, "isYear", "(I)Z"⟩
abbrev cX1_isDay : ByteArray := prog_3_method_6_code
def yX1_isDay : MethodName := ⟨RX1, "isDay", "(I)Z"⟩
abbrev cX1_isLeap : ByteArray := prog_3_method_7_code
def yX1_isLeap : MethodName := ⟨RX1, "isLeap", "(I)Z"⟩
abbrev cX1_length : ByteArray := prog_3_method_8_code
def yX1_length : MethodName := ⟨RX1, "length", "(II)I"⟩
abbrev cX1_begin : ByteArray := prog_3_method_9_code
def yX1_begin : MethodName := ⟨RX1, "begin", "(I)I"⟩
abbrev cX1_numberFor : ByteArray := prog_3_method_10_code
def yX1_numberFor : MethodName := ⟨RX1, "numberFor", "(III)I"⟩
abbrev cX1_splits : ByteArray := prog_3_method_11_code
def yX1_splits : MethodName := ⟨RX1, "splits", "(I)V"⟩
abbrev cX1_isAsked : ByteArray := prog_3_method_12_code
def yX1_isAsked : MethodName := ⟨RX1, "isAsked", "(I)Z"⟩
abbrev cX1_days : ByteArray := prog_3_method_13_code
def yX1_days : MethodName := ⟨RX1, "days", "()I"⟩
abbrev cX1_number : ByteArray := prog_3_method_14_code
def yX1_number : MethodName := ⟨RX1, "number", "(III)I"⟩
abbrev cX1_numberByCounting : ByteArray := prog_3_method_15_code
def yX1_numberByCounting : MethodName := ⟨RX1, "numberByCounting", "(III)I"⟩
abbrev cX1_yearOf : ByteArray := prog_3_method_16_code
def yX1_yearOf : MethodName := ⟨RX1, "yearOf", "(I)I"⟩
abbrev cX1_monthOf : ByteArray := prog_3_method_17_code
def yX1_monthOf : MethodName := ⟨RX1, "monthOf", "(I)I"⟩
abbrev cX1_dayOf : ByteArray := prog_3_method_18_code
def yX1_dayOf : MethodName := ⟨RX1, "dayOf", "(I)I"⟩
abbrev cX1_weekdayOf : ByteArray := prog_3_method_19_code
def yX1_weekdayOf : MethodName := ⟨RX1, "weekdayOf", "(I)I"⟩
abbrev cX1_nones : ByteArray := prog_3_method_20_code
def yX1_nones : MethodName := ⟨RX1, "nones", "(I)I"⟩
abbrev cX1_ides : ByteArray := prog_3_method_21_code
def yX1_ides : MethodName := ⟨RX1, "ides", "(I)I"⟩
abbrev cX1_isDoubledNow : ByteArray := prog_3_method_22_code
def yX1_isDoubledNow : MethodName := ⟨RX1, "isDoubledNow", "()Z"⟩
abbrev cX1_anchorNow : ByteArray := prog_3_method_23_code
def yX1_anchorNow : MethodName := ⟨RX1, "anchorNow", "()I"⟩
abbrev cX1_anchorMonthNow : ByteArray := prog_3_method_24_code
def yX1_anchorMonthNow : MethodName := ⟨RX1, "anchorMonthNow", "()I"⟩
abbrev cX1_countNow : ByteArray := prog_3_method_25_code
def yX1_countNow : MethodName := ⟨RX1, "countNow", "()I"⟩
abbrev cX1_anchorOf : ByteArray := prog_3_method_26_code
def yX1_anchorOf : MethodName := ⟨RX1, "anchorOf", "(I)I"⟩
abbrev cX1_anchorMonthOf : ByteArray := prog_3_method_27_code
def yX1_anchorMonthOf : MethodName := ⟨RX1, "anchorMonthOf", "(I)I"⟩
abbrev cX1_countOf : ByteArray := prog_3_method_28_code
def yX1_countOf : MethodName := ⟨RX1, "countOf", "(I)I"⟩
abbrev cX1_isDoubled : ByteArray := prog_3_method_29_code
def yX1_isDoubled : MethodName := ⟨RX1, "isDoubled", "(I)Z"⟩
abbrev cX1_told : ByteArray := prog_3_method_30_code
def yX1_told : MethodName := ⟨RX1, "told", "(IIIIZ)I"⟩
abbrev cX1_fromCount : ByteArray := prog_3_method_31_code
def yX1_fromCount : MethodName := ⟨RX1, "fromCount", "(IIIIZ)I"⟩
abbrev cX1_greatestCount : ByteArray := prog_3_method_32_code
def yX1_greatestCount : MethodName := ⟨RX1, "greatestCount", "(III)I"⟩
abbrev cX1_lawful : ByteArray := prog_3_method_33_code
def yX1_lawful : MethodName := ⟨RX1, "lawful", "(I)I"⟩
abbrev cX1_lawNumber : ByteArray := prog_3_method_34_code
def yX1_lawNumber : MethodName := ⟨RX1, "lawNumber", "(I)I"⟩
abbrev cX1_termEnd : ByteArray := prog_3_method_35_code
def yX1_termEnd : MethodName := ⟨RX1, "termEnd", "(II)I"⟩
abbrev cX1_lawDays : ByteArray := prog_3_method_36_code
def yX1_lawDays : MethodName := ⟨RX1, "lawDays", "(II)I"⟩
abbrev cX1_placed : ByteArray := prog_3_method_37_code
def yX1_placed : MethodName := ⟨RX1, "placed", "(I)I"⟩
abbrev cX1_placeOf : ByteArray := prog_3_method_38_code
def yX1_placeOf : MethodName := ⟨RX1, "placeOf", "(I)I"⟩
abbrev cX1_letterOfEight : ByteArray := prog_3_method_39_code
def yX1_letterOfEight : MethodName := ⟨RX1, "letterOfEight", "(I)I"⟩
abbrev cX1_letterOfSeven : ByteArray := prog_3_method_40_code
def yX1_letterOfSeven : MethodName := ⟨RX1, "letterOfSeven", "(I)I"⟩
abbrev cX1_setMarketDay : ByteArray := prog_3_method_41_code
def yX1_setMarketDay : MethodName := ⟨RX1, "setMarketDay", "(I)I"⟩
abbrev cX1_isMarket : ByteArray := prog_3_method_42_code
def yX1_isMarket : MethodName := ⟨RX1, "isMarket", "(I)Z"⟩
abbrev cX1_letters : ByteArray := prog_3_method_43_code
def yX1_letters : MethodName := ⟨RX1, "letters", "(III)I"⟩
abbrev cX1_marketLetters : ByteArray := prog_3_method_44_code
def yX1_marketLetters : MethodName := ⟨RX1, "marketLetters", "(I)I"⟩
abbrev cX1_sundayLetters : ByteArray := prog_3_method_45_code
def yX1_sundayLetters : MethodName := ⟨RX1, "sundayLetters", "(I)I"⟩
abbrev cX1_setConsuls : ByteArray := prog_3_method_46_code
def yX1_setConsuls : MethodName := ⟨RX1, "setConsuls", "(III)I"⟩
abbrev cX1_strikeConsuls : ByteArray := prog_3_method_47_code
def yX1_strikeConsuls : MethodName := ⟨RX1, "strikeConsuls", "(I)I"⟩
abbrev cX1_consulsOf : ByteArray := prog_3_method_48_code
def yX1_consulsOf : MethodName := ⟨RX1, "consulsOf", "(I)I"⟩
abbrev cX1_afterConsuls : ByteArray := prog_3_method_49_code
def yX1_afterConsuls : MethodName := ⟨RX1, "afterConsuls", "(I)I"⟩
abbrev cX1_yearOfConsuls : ByteArray := prog_3_method_50_code
def yX1_yearOfConsuls : MethodName := ⟨RX1, "yearOfConsuls", "(III)I"⟩
abbrev cX1_setCharacter : ByteArray := prog_3_method_51_code
def yX1_setCharacter : MethodName := ⟨RX1, "setCharacter", "(II)I"⟩
abbrev cX1_characterOf : ByteArray := prog_3_method_52_code
def yX1_characterOf : MethodName := ⟨RX1, "characterOf", "(I)I"⟩
abbrev cX1_isVoting : ByteArray := prog_3_method_53_code
def yX1_isVoting : MethodName := ⟨RX1, "isVoting", "(I)Z"⟩
abbrev cX1_canVote : ByteArray := prog_3_method_54_code
def yX1_canVote : MethodName := ⟨RX1, "canVote", "(I)Z"⟩
abbrev cX1_nextCourt : ByteArray := prog_3_method_55_code
def yX1_nextCourt : MethodName := ⟨RX1, "nextCourt", "(I)I"⟩
abbrev cX1_votes : ByteArray := prog_3_method_56_code
def yX1_votes : MethodName := ⟨RX1, "votes", "(I)I"⟩
def RJ9 : String := "java/lang/Math"
def TJ9 : u_T := fun k => match k with
  | _ => ("", "", "", false)
def tyJ9 : Nat → FieldType := fun k => match k with
  | _ => .int
abbrev wsJ90 : List Cond := u_ws RJ9 TJ9 0
theorem nmJ9 : ∀ a, a < 0 → ∀ b, b < 0 → a ≠ b → (TJ9 a).2.1 ≠ (TJ9 b).2.1 := by decide +kernel
theorem tyJ9_ok : ∀ k, k < 0 → parseFieldDescriptor (TJ9 k).2.2.1 = some (tyJ9 k) := by decide +kernel
abbrev cJ9_floorMod_7cf53 : ByteArray := prog_8_method_50_code
def yJ9_floorMod_7cf53 : MethodName := ⟨RJ9, "floorMod", "(II)I"⟩
abbrev cJ9_min_7cf53 : ByteArray := prog_8_method_69_code
def yJ9_min_7cf53 : MethodName := ⟨RJ9, "min", "(II)I"⟩
def RJ0 : String := "java/lang/String"
def TJ0 : u_T := fun k => match k with
  | _ => ("", "", "", false)
def tyJ0 : Nat → FieldType := fun k => match k with
  | _ => .int
abbrev wsJ00 : List Cond := u_ws RJ0 TJ0 0
theorem nmJ0 : ∀ a, a < 0 → ∀ b, b < 0 → a ≠ b → (TJ0 a).2.1 ≠ (TJ0 b).2.1 := by decide +kernel
theorem tyJ0_ok : ∀ k, k < 0 → parseFieldDescriptor (TJ0 k).2.2.1 = some (tyJ0 k) := by decide +kernel
def RL : String := "RomanCalendarLaw"
abbrev cL_number : ByteArray := method_3_code
def yL_number : MethodName := ⟨RL, "number", "(LRomanCalendar;III[J)I"⟩
abbrev cL_numberByCounting : ByteArray := method_4_code
def yL_numberByCounting : MethodName := ⟨RL, "numberByCounting", "(LRomanCalendar;III[J)I"⟩
abbrev cL_yearOf : ByteArray := method_5_code
def yL_yearOf : MethodName := ⟨RL, "yearOf", "(LRomanCalendar;I[J)I"⟩
abbrev cL_monthOf : ByteArray := method_6_code
def yL_monthOf : MethodName := ⟨RL, "monthOf", "(LRomanCalendar;I[J)I"⟩
abbrev cL_dayOf : ByteArray := method_7_code
def yL_dayOf : MethodName := ⟨RL, "dayOf", "(LRomanCalendar;I[J)I"⟩
abbrev cL_weekdayOf : ByteArray := method_8_code
def yL_weekdayOf : MethodName := ⟨RL, "weekdayOf", "(LRomanCalendar;I[J)I"⟩
abbrev cL_anchorOf : ByteArray := method_9_code
def yL_anchorOf : MethodName := ⟨RL, "anchorOf", "(LRomanCalendar;I[J)I"⟩
abbrev cL_anchorMonthOf : ByteArray := method_10_code
def yL_anchorMonthOf : MethodName := ⟨RL, "anchorMonthOf", "(LRomanCalendar;I[J)I"⟩
abbrev cL_countOf : ByteArray := method_11_code
def yL_countOf : MethodName := ⟨RL, "countOf", "(LRomanCalendar;I[J)I"⟩
abbrev cL_isDoubled : ByteArray := method_12_code
def yL_isDoubled : MethodName := ⟨RL, "isDoubled", "(LRomanCalendar;I[J)I"⟩
abbrev cL_fromCount : ByteArray := method_13_code
def yL_fromCount : MethodName := ⟨RL, "fromCount", "(LRomanCalendar;IIIIZ[J)I"⟩
abbrev cL_greatestCount : ByteArray := method_14_code
def yL_greatestCount : MethodName := ⟨RL, "greatestCount", "(LRomanCalendar;III[J)I"⟩
abbrev cL_lawNumber : ByteArray := method_15_code
def yL_lawNumber : MethodName := ⟨RL, "lawNumber", "(LRomanCalendar;I[J)I"⟩
abbrev cL_termEnd : ByteArray := method_16_code
def yL_termEnd : MethodName := ⟨RL, "termEnd", "(LRomanCalendar;II[J)I"⟩
abbrev cL_lawDays : ByteArray := method_17_code
def yL_lawDays : MethodName := ⟨RL, "lawDays", "(LRomanCalendar;II[J)I"⟩
abbrev cL_placeOf : ByteArray := method_18_code
def yL_placeOf : MethodName := ⟨RL, "placeOf", "(LRomanCalendar;I[J)I"⟩
abbrev cL_letterOfEight : ByteArray := method_19_code
def yL_letterOfEight : MethodName := ⟨RL, "letterOfEight", "(LRomanCalendar;I[J)I"⟩
abbrev cL_letterOfSeven : ByteArray := method_20_code
def yL_letterOfSeven : MethodName := ⟨RL, "letterOfSeven", "(LRomanCalendar;I[J)I"⟩
abbrev cL_setMarketDay : ByteArray := method_21_code
def yL_setMarketDay : MethodName := ⟨RL, "setMarketDay", "(LRomanCalendar;I[J)I"⟩
abbrev cL_isMarket : ByteArray := method_22_code
def yL_isMarket : MethodName := ⟨RL, "isMarket", "(LRomanCalendar;I[J)I"⟩
abbrev cL_marketLetters : ByteArray := method_23_code
def yL_marketLetters : MethodName := ⟨RL, "marketLetters", "(LRomanCalendar;I[J)I"⟩
abbrev cL_sundayLetters : ByteArray := method_24_code
def yL_sundayLetters : MethodName := ⟨RL, "sundayLetters", "(LRomanCalendar;I[J)I"⟩
abbrev cL_setConsuls : ByteArray := method_25_code
def yL_setConsuls : MethodName := ⟨RL, "setConsuls", "(LRomanCalendar;III[J)I"⟩
abbrev cL_strikeConsuls : ByteArray := method_26_code
def yL_strikeConsuls : MethodName := ⟨RL, "strikeConsuls", "(LRomanCalendar;I[J)I"⟩
abbrev cL_consulsOf : ByteArray := method_27_code
def yL_consulsOf : MethodName := ⟨RL, "consulsOf", "(LRomanCalendar;I[J)I"⟩
abbrev cL_afterConsuls : ByteArray := method_28_code
def yL_afterConsuls : MethodName := ⟨RL, "afterConsuls", "(LRomanCalendar;I[J)I"⟩
abbrev cL_yearOfConsuls : ByteArray := method_29_code
def yL_yearOfConsuls : MethodName := ⟨RL, "yearOfConsuls", "(LRomanCalendar;III[J)I"⟩
abbrev cL_setCharacter : ByteArray := method_30_code
def yL_setCharacter : MethodName := ⟨RL, "setCharacter", "(LRomanCalendar;II[J)I"⟩
abbrev cL_characterOf : ByteArray := method_31_code
def yL_characterOf : MethodName := ⟨RL, "characterOf", "(LRomanCalendar;I[J)I"⟩
abbrev cL_canVote : ByteArray := method_32_code
def yL_canVote : MethodName := ⟨RL, "canVote", "(LRomanCalendar;I[J)I"⟩
abbrev cL_nextCourt : ByteArray := method_33_code
def yL_nextCourt : MethodName := ⟨RL, "nextCourt", "(LRomanCalendar;I[J)I"⟩
abbrev cL_votes : ByteArray := method_34_code
def yL_votes : MethodName := ⟨RL, "votes", "(LRomanCalendar;I[J)I"⟩
abbrev cL_law : ByteArray := code
def yL_law : MethodName := ⟨RL, "law", "([I)Z"⟩
def wsX0_commonLengthOf : List Cond := .code yX0_commonLengthOf cX0_commonLengthOf 1 (some .int) :: ([])
def wsX0_commonDaysBefore : List Cond := .code yX0_commonDaysBefore cX0_commonDaysBefore 3 (some .int) :: ([.methodLink RX0 182 yX0_commonLengthOf, .static yX0_commonLengthOf, .initialized RX0, .code yX0_commonLengthOf cX0_commonLengthOf 1 (some .int)])
def wsX0_nonesDayOf : List Cond := .code yX0_nonesDayOf cX0_nonesDayOf 1 (some .int) :: ([])
def wsX0_placeOfAnchor : List Cond := .code yX0_placeOfAnchor cX0_placeOfAnchor 4 (some .int) :: ([.methodLink RX0 185 yX0_commonDaysBefore, .static yX0_commonDaysBefore, .initialized RX0, .code yX0_commonDaysBefore cX0_commonDaysBefore 3 (some .int), .methodLink RX0 182 yX0_commonLengthOf, .static yX0_commonLengthOf, .code yX0_commonLengthOf cX0_commonLengthOf 1 (some .int), .methodLink RX0 191 yX0_nonesDayOf, .static yX0_nonesDayOf, .code yX0_nonesDayOf cX0_nonesDayOf 1 (some .int)])
def wsX0_isPlace : List Cond := .code yX0_isPlace cX0_isPlace 1 (some .boolean) :: ([])
def wsX0_writeCharacter : List Cond := .code yX0_writeCharacter cX0_writeCharacter 3 none :: ([.fieldLink RX0 9 "RomanCalendar" "characters" "[I", .methodLink RX0 150 yX0_isPlace, .static yX0_isPlace, .initialized RX0, .code yX0_isPlace cX0_isPlace 1 (some .boolean)] ++ wsX00)
def wsX0_init_r1 : List Cond := [Cond.methodLink RX0 1 objectInit, Cond.instanceMethod objectInit, Cond.code objectInit ⟨#[0xb1]⟩ 1 none, Cond.arrayClass .int, Cond.fieldLink RX0 9 "RomanCalendar" "characters" "[I", Cond.fieldLink RX0 13 "RomanCalendar" "consulYears" "[I", Cond.fieldLink RX0 16 "RomanCalendar" "consulPairs" "[I", Cond.fieldLink RX0 19 "RomanCalendar" "marketRemainder" "I", Cond.methodLink RX0 23 yX0_placeOfAnchor, Cond.static yX0_placeOfAnchor, Cond.initialized RX0, Cond.code yX0_placeOfAnchor cX0_placeOfAnchor 4 (some .int), Cond.methodLink RX0 185 yX0_commonDaysBefore, Cond.static yX0_commonDaysBefore, Cond.code yX0_commonDaysBefore cX0_commonDaysBefore 3 (some .int), Cond.methodLink RX0 182 yX0_commonLengthOf, Cond.static yX0_commonLengthOf, Cond.code yX0_commonLengthOf cX0_commonLengthOf 1 (some .int), Cond.methodLink RX0 191 yX0_nonesDayOf, Cond.static yX0_nonesDayOf, Cond.code yX0_nonesDayOf cX0_nonesDayOf 1 (some .int), Cond.methodLink RX0 27 yX0_writeCharacter, Cond.instanceMethod yX0_writeCharacter, Cond.selects RX0 yX0_writeCharacter yX0_writeCharacter]
def wsX0_init_r2 : List Cond := [Cond.code yX0_writeCharacter cX0_writeCharacter 3 none, Cond.methodLink RX0 150 yX0_isPlace, Cond.static yX0_isPlace, Cond.code yX0_isPlace cX0_isPlace 1 (some .boolean)]
def wsX0_init : List Cond := .code yX0_init cX0_init 2 none :: ((wsX0_init_r1 ++ wsX0_init_r2) ++ wsX00)
def wsX0_days : List Cond := .code yX0_days cX0_days 1 (some .int) :: ([.constant RX0 31 (1095750)])
def wsX0_checkYear : List Cond := .code yX0_checkYear cX0_checkYear 1 none :: ([.classLink RX0 153 "java/lang/IndexOutOfBoundsException", .initialized "java/lang/IndexOutOfBoundsException"] ++ (vx_atS RX0 157 "java/lang/IndexOutOfBoundsException" ["java/lang/RuntimeException", "java/lang/Exception"]).filter goodWord)
def wsX0_checkMonth : List Cond := .code yX0_checkMonth cX0_checkMonth 1 none :: ([.classLink RX0 153 "java/lang/IndexOutOfBoundsException", .initialized "java/lang/IndexOutOfBoundsException"] ++ (vx_atS RX0 157 "java/lang/IndexOutOfBoundsException" ["java/lang/RuntimeException", "java/lang/Exception"]).filter goodWord)
def wsX0_isLeap : List Cond := .code yX0_isLeap cX0_isLeap 1 (some .boolean) :: ([])
def wsX0_lengthOf : List Cond := .code yX0_lengthOf cX0_lengthOf 3 (some .int) :: ([.methodLink RX0 179 yX0_isLeap, .static yX0_isLeap, .initialized RX0, .code yX0_isLeap cX0_isLeap 1 (some .boolean), .methodLink RX0 182 yX0_commonLengthOf, .static yX0_commonLengthOf, .code yX0_commonLengthOf cX0_commonLengthOf 1 (some .int)])
def wsX0_checkDate : List Cond := .code yX0_checkDate cX0_checkDate 3 none :: ([.classLink RX0 153 "java/lang/IndexOutOfBoundsException", .initialized "java/lang/IndexOutOfBoundsException", .methodLink RX0 66 yX0_checkYear, .static yX0_checkYear, .initialized RX0, .code yX0_checkYear cX0_checkYear 1 none, .methodLink RX0 69 yX0_checkMonth, .static yX0_checkMonth, .code yX0_checkMonth cX0_checkMonth 1 none, .methodLink RX0 43 yX0_lengthOf, .static yX0_lengthOf, .code yX0_lengthOf cX0_lengthOf 3 (some .int), .methodLink RX0 179 yX0_isLeap, .static yX0_isLeap, .code yX0_isLeap cX0_isLeap 1 (some .boolean), .methodLink RX0 182 yX0_commonLengthOf, .static yX0_commonLengthOf, .code yX0_commonLengthOf cX0_commonLengthOf 1 (some .int)] ++ (vx_atS RX0 157 "java/lang/IndexOutOfBoundsException" ["java/lang/RuntimeException", "java/lang/Exception"]).filter goodWord)
def wsX0_firstDayOf : List Cond := .code yX0_firstDayOf cX0_firstDayOf 1 (some .int) :: ([])
def wsX0_daysBefore : List Cond := .code yX0_daysBefore cX0_daysBefore 3 (some .int) :: ([.methodLink RX0 179 yX0_isLeap, .static yX0_isLeap, .initialized RX0, .code yX0_isLeap cX0_isLeap 1 (some .boolean), .methodLink RX0 185 yX0_commonDaysBefore, .static yX0_commonDaysBefore, .code yX0_commonDaysBefore cX0_commonDaysBefore 3 (some .int), .methodLink RX0 182 yX0_commonLengthOf, .static yX0_commonLengthOf, .code yX0_commonLengthOf cX0_commonLengthOf 1 (some .int)])
def wsX0_number_r1 : List Cond := [Cond.methodLink RX0 32 yX0_checkDate, Cond.static yX0_checkDate, Cond.initialized RX0, Cond.code yX0_checkDate cX0_checkDate 3 none, Cond.classLink RX0 153 "java/lang/IndexOutOfBoundsException", Cond.initialized "java/lang/IndexOutOfBoundsException", Cond.methodLink RX0 66 yX0_checkYear, Cond.static yX0_checkYear, Cond.code yX0_checkYear cX0_checkYear 1 none, Cond.methodLink RX0 69 yX0_checkMonth, Cond.static yX0_checkMonth, Cond.code yX0_checkMonth cX0_checkMonth 1 none, Cond.methodLink RX0 43 yX0_lengthOf, Cond.static yX0_lengthOf, Cond.code yX0_lengthOf cX0_lengthOf 3 (some .int), Cond.methodLink RX0 179 yX0_isLeap, Cond.static yX0_isLeap, Cond.code yX0_isLeap cX0_isLeap 1 (some .boolean), Cond.methodLink RX0 182 yX0_commonLengthOf, Cond.static yX0_commonLengthOf, Cond.code yX0_commonLengthOf cX0_commonLengthOf 1 (some .int), Cond.methodLink RX0 36 yX0_firstDayOf, Cond.static yX0_firstDayOf, Cond.code yX0_firstDayOf cX0_firstDayOf 1 (some .int)]
def wsX0_number_r2 : List Cond := [Cond.methodLink RX0 40 yX0_daysBefore, Cond.static yX0_daysBefore, Cond.code yX0_daysBefore cX0_daysBefore 3 (some .int), Cond.methodLink RX0 185 yX0_commonDaysBefore, Cond.static yX0_commonDaysBefore, Cond.code yX0_commonDaysBefore cX0_commonDaysBefore 3 (some .int)]
def wsX0_number : List Cond := .code yX0_number cX0_number 4 (some .int) :: ((wsX0_number_r1 ++ wsX0_number_r2) ++ (vx_atS RX0 157 "java/lang/IndexOutOfBoundsException" ["java/lang/RuntimeException", "java/lang/Exception"]).filter goodWord)
def wsX0_numberByCounting : List Cond := .code yX0_numberByCounting cX0_numberByCounting 8 (some .int) :: ([.methodLink RX0 32 yX0_checkDate, .static yX0_checkDate, .initialized RX0, .code yX0_checkDate cX0_checkDate 3 none, .classLink RX0 153 "java/lang/IndexOutOfBoundsException", .initialized "java/lang/IndexOutOfBoundsException", .methodLink RX0 66 yX0_checkYear, .static yX0_checkYear, .code yX0_checkYear cX0_checkYear 1 none, .methodLink RX0 69 yX0_checkMonth, .static yX0_checkMonth, .code yX0_checkMonth cX0_checkMonth 1 none, .methodLink RX0 43 yX0_lengthOf, .static yX0_lengthOf, .code yX0_lengthOf cX0_lengthOf 3 (some .int), .methodLink RX0 179 yX0_isLeap, .static yX0_isLeap, .code yX0_isLeap cX0_isLeap 1 (some .boolean), .methodLink RX0 182 yX0_commonLengthOf, .static yX0_commonLengthOf, .code yX0_commonLengthOf cX0_commonLengthOf 1 (some .int), .methodLink RX0 36 yX0_firstDayOf, .static yX0_firstDayOf, .code yX0_firstDayOf cX0_firstDayOf 1 (some .int)] ++ (vx_atS RX0 157 "java/lang/IndexOutOfBoundsException" ["java/lang/RuntimeException", "java/lang/Exception"]).filter goodWord)
def wsX0_checkNumber : List Cond := .code yX0_checkNumber cX0_checkNumber 1 none :: ([.classLink RX0 153 "java/lang/IndexOutOfBoundsException", .initialized "java/lang/IndexOutOfBoundsException", .constant RX0 31 (1095750)] ++ (vx_atS RX0 157 "java/lang/IndexOutOfBoundsException" ["java/lang/RuntimeException", "java/lang/Exception"]).filter goodWord)
def wsX0_yearAt : List Cond := .code yX0_yearAt cX0_yearAt 2 (some .int) :: ([.methodLink RX0 166 Lib.Math.min.name, .static Lib.Math.min.name, .initialized "java/lang/Math", .code Lib.Math.min.name Lib.Math.min.code 2 (some .int)])
def wsX0_yearOf : List Cond := .code yX0_yearOf cX0_yearOf 2 (some .int) :: ([.methodLink RX0 46 yX0_checkNumber, .static yX0_checkNumber, .initialized RX0, .code yX0_checkNumber cX0_checkNumber 1 none, .classLink RX0 153 "java/lang/IndexOutOfBoundsException", .initialized "java/lang/IndexOutOfBoundsException", .constant RX0 31 (1095750), .methodLink RX0 50 yX0_yearAt, .static yX0_yearAt, .code yX0_yearAt cX0_yearAt 2 (some .int), .methodLink RX0 166 Lib.Math.min.name, .static Lib.Math.min.name, .initialized "java/lang/Math", .code Lib.Math.min.name Lib.Math.min.code 2 (some .int)] ++ (vx_atS RX0 157 "java/lang/IndexOutOfBoundsException" ["java/lang/RuntimeException", "java/lang/Exception"]).filter goodWord)
def wsX0_doubledDaysBefore : List Cond := .code yX0_doubledDaysBefore cX0_doubledDaysBefore 1 (some .int) :: ([])
def wsX0_lawNumberAt : List Cond := .code yX0_lawNumberAt cX0_lawNumberAt 1 (some .int) :: ([.methodLink RX0 188 yX0_doubledDaysBefore, .static yX0_doubledDaysBefore, .initialized RX0, .code yX0_doubledDaysBefore cX0_doubledDaysBefore 1 (some .int)])
def wsX0_placeAt : List Cond := .code yX0_placeAt cX0_placeAt 1 (some .int) :: ([.methodLink RX0 99 yX0_lawNumberAt, .static yX0_lawNumberAt, .initialized RX0, .code yX0_lawNumberAt cX0_lawNumberAt 1 (some .int), .methodLink RX0 188 yX0_doubledDaysBefore, .static yX0_doubledDaysBefore, .code yX0_doubledDaysBefore cX0_doubledDaysBefore 1 (some .int)])
def wsX0_monthOfPlace : List Cond := .code yX0_monthOfPlace cX0_monthOfPlace 3 (some .int) :: ([.methodLink RX0 182 yX0_commonLengthOf, .static yX0_commonLengthOf, .initialized RX0, .code yX0_commonLengthOf cX0_commonLengthOf 1 (some .int)])
def wsX0_monthOf : List Cond := .code yX0_monthOf cX0_monthOf 2 (some .int) :: ([.methodLink RX0 46 yX0_checkNumber, .static yX0_checkNumber, .initialized RX0, .code yX0_checkNumber cX0_checkNumber 1 none, .classLink RX0 153 "java/lang/IndexOutOfBoundsException", .initialized "java/lang/IndexOutOfBoundsException", .constant RX0 31 (1095750), .methodLink RX0 53 yX0_placeAt, .static yX0_placeAt, .code yX0_placeAt cX0_placeAt 1 (some .int), .methodLink RX0 99 yX0_lawNumberAt, .static yX0_lawNumberAt, .code yX0_lawNumberAt cX0_lawNumberAt 1 (some .int), .methodLink RX0 188 yX0_doubledDaysBefore, .static yX0_doubledDaysBefore, .code yX0_doubledDaysBefore cX0_doubledDaysBefore 1 (some .int), .methodLink RX0 56 yX0_monthOfPlace, .static yX0_monthOfPlace, .code yX0_monthOfPlace cX0_monthOfPlace 3 (some .int), .methodLink RX0 182 yX0_commonLengthOf, .static yX0_commonLengthOf, .code yX0_commonLengthOf cX0_commonLengthOf 1 (some .int)] ++ (vx_atS RX0 157 "java/lang/IndexOutOfBoundsException" ["java/lang/RuntimeException", "java/lang/Exception"]).filter goodWord)
def wsX0_dayOf_r1 : List Cond := [Cond.methodLink RX0 46 yX0_checkNumber, Cond.static yX0_checkNumber, Cond.initialized RX0, Cond.code yX0_checkNumber cX0_checkNumber 1 none, Cond.classLink RX0 153 "java/lang/IndexOutOfBoundsException", Cond.initialized "java/lang/IndexOutOfBoundsException", Cond.constant RX0 31 (1095750), Cond.methodLink RX0 50 yX0_yearAt, Cond.static yX0_yearAt, Cond.code yX0_yearAt cX0_yearAt 2 (some .int), Cond.methodLink RX0 166 Lib.Math.min.name, Cond.static Lib.Math.min.name, Cond.initialized "java/lang/Math", Cond.code Lib.Math.min.name Lib.Math.min.code 2 (some .int), Cond.methodLink RX0 53 yX0_placeAt, Cond.static yX0_placeAt, Cond.code yX0_placeAt cX0_placeAt 1 (some .int), Cond.methodLink RX0 99 yX0_lawNumberAt, Cond.static yX0_lawNumberAt, Cond.code yX0_lawNumberAt cX0_lawNumberAt 1 (some .int), Cond.methodLink RX0 188 yX0_doubledDaysBefore, Cond.static yX0_doubledDaysBefore, Cond.code yX0_doubledDaysBefore cX0_doubledDaysBefore 1 (some .int), Cond.methodLink RX0 56 yX0_monthOfPlace]
def wsX0_dayOf_r2 : List Cond := [Cond.static yX0_monthOfPlace, Cond.code yX0_monthOfPlace cX0_monthOfPlace 3 (some .int), Cond.methodLink RX0 182 yX0_commonLengthOf, Cond.static yX0_commonLengthOf, Cond.code yX0_commonLengthOf cX0_commonLengthOf 1 (some .int), Cond.methodLink RX0 36 yX0_firstDayOf, Cond.static yX0_firstDayOf, Cond.code yX0_firstDayOf cX0_firstDayOf 1 (some .int), Cond.methodLink RX0 40 yX0_daysBefore, Cond.static yX0_daysBefore, Cond.code yX0_daysBefore cX0_daysBefore 3 (some .int), Cond.methodLink RX0 179 yX0_isLeap, Cond.static yX0_isLeap, Cond.code yX0_isLeap cX0_isLeap 1 (some .boolean), Cond.methodLink RX0 185 yX0_commonDaysBefore, Cond.static yX0_commonDaysBefore, Cond.code yX0_commonDaysBefore cX0_commonDaysBefore 3 (some .int)]
def wsX0_dayOf : List Cond := .code yX0_dayOf cX0_dayOf 4 (some .int) :: ((wsX0_dayOf_r1 ++ wsX0_dayOf_r2) ++ (vx_atS RX0 157 "java/lang/IndexOutOfBoundsException" ["java/lang/RuntimeException", "java/lang/Exception"]).filter goodWord)
def wsX0_weekdayOf : List Cond := .code yX0_weekdayOf cX0_weekdayOf 2 (some .int) :: ([.methodLink RX0 46 yX0_checkNumber, .static yX0_checkNumber, .initialized RX0, .code yX0_checkNumber cX0_checkNumber 1 none, .classLink RX0 153 "java/lang/IndexOutOfBoundsException", .initialized "java/lang/IndexOutOfBoundsException", .constant RX0 31 (1095750)] ++ (vx_atS RX0 157 "java/lang/IndexOutOfBoundsException" ["java/lang/RuntimeException", "java/lang/Exception"]).filter goodWord)
def wsX0_isBehindIdes : List Cond := .code yX0_isBehindIdes cX0_isBehindIdes 1 (some .boolean) :: ([.methodLink RX0 56 yX0_monthOfPlace, .static yX0_monthOfPlace, .initialized RX0, .code yX0_monthOfPlace cX0_monthOfPlace 3 (some .int), .methodLink RX0 182 yX0_commonLengthOf, .static yX0_commonLengthOf, .code yX0_commonLengthOf cX0_commonLengthOf 1 (some .int), .methodLink RX0 23 yX0_placeOfAnchor, .static yX0_placeOfAnchor, .code yX0_placeOfAnchor cX0_placeOfAnchor 4 (some .int), .methodLink RX0 185 yX0_commonDaysBefore, .static yX0_commonDaysBefore, .code yX0_commonDaysBefore cX0_commonDaysBefore 3 (some .int), .methodLink RX0 191 yX0_nonesDayOf, .static yX0_nonesDayOf, .code yX0_nonesDayOf cX0_nonesDayOf 1 (some .int)])
def wsX0_anchorOfPlace : List Cond := .code yX0_anchorOfPlace cX0_anchorOfPlace 2 (some .int) :: ([.methodLink RX0 56 yX0_monthOfPlace, .static yX0_monthOfPlace, .initialized RX0, .code yX0_monthOfPlace cX0_monthOfPlace 3 (some .int), .methodLink RX0 182 yX0_commonLengthOf, .static yX0_commonLengthOf, .code yX0_commonLengthOf cX0_commonLengthOf 1 (some .int), .methodLink RX0 23 yX0_placeOfAnchor, .static yX0_placeOfAnchor, .code yX0_placeOfAnchor cX0_placeOfAnchor 4 (some .int), .methodLink RX0 185 yX0_commonDaysBefore, .static yX0_commonDaysBefore, .code yX0_commonDaysBefore cX0_commonDaysBefore 3 (some .int), .methodLink RX0 191 yX0_nonesDayOf, .static yX0_nonesDayOf, .code yX0_nonesDayOf cX0_nonesDayOf 1 (some .int), .methodLink RX0 62 yX0_isBehindIdes, .static yX0_isBehindIdes, .code yX0_isBehindIdes cX0_isBehindIdes 1 (some .boolean)])
def wsX0_anchorOf_r1 : List Cond := [Cond.methodLink RX0 46 yX0_checkNumber, Cond.static yX0_checkNumber, Cond.initialized RX0, Cond.code yX0_checkNumber cX0_checkNumber 1 none, Cond.classLink RX0 153 "java/lang/IndexOutOfBoundsException", Cond.initialized "java/lang/IndexOutOfBoundsException", Cond.constant RX0 31 (1095750), Cond.methodLink RX0 53 yX0_placeAt, Cond.static yX0_placeAt, Cond.code yX0_placeAt cX0_placeAt 1 (some .int), Cond.methodLink RX0 99 yX0_lawNumberAt, Cond.static yX0_lawNumberAt, Cond.code yX0_lawNumberAt cX0_lawNumberAt 1 (some .int), Cond.methodLink RX0 188 yX0_doubledDaysBefore, Cond.static yX0_doubledDaysBefore, Cond.code yX0_doubledDaysBefore cX0_doubledDaysBefore 1 (some .int), Cond.methodLink RX0 59 yX0_anchorOfPlace, Cond.static yX0_anchorOfPlace, Cond.code yX0_anchorOfPlace cX0_anchorOfPlace 2 (some .int), Cond.methodLink RX0 56 yX0_monthOfPlace, Cond.static yX0_monthOfPlace, Cond.code yX0_monthOfPlace cX0_monthOfPlace 3 (some .int), Cond.methodLink RX0 182 yX0_commonLengthOf, Cond.static yX0_commonLengthOf]
def wsX0_anchorOf_r2 : List Cond := [Cond.code yX0_commonLengthOf cX0_commonLengthOf 1 (some .int), Cond.methodLink RX0 23 yX0_placeOfAnchor, Cond.static yX0_placeOfAnchor, Cond.code yX0_placeOfAnchor cX0_placeOfAnchor 4 (some .int), Cond.methodLink RX0 185 yX0_commonDaysBefore, Cond.static yX0_commonDaysBefore, Cond.code yX0_commonDaysBefore cX0_commonDaysBefore 3 (some .int), Cond.methodLink RX0 191 yX0_nonesDayOf, Cond.static yX0_nonesDayOf, Cond.code yX0_nonesDayOf cX0_nonesDayOf 1 (some .int), Cond.methodLink RX0 62 yX0_isBehindIdes, Cond.static yX0_isBehindIdes, Cond.code yX0_isBehindIdes cX0_isBehindIdes 1 (some .boolean)]
def wsX0_anchorOf : List Cond := .code yX0_anchorOf cX0_anchorOf 2 (some .int) :: ((wsX0_anchorOf_r1 ++ wsX0_anchorOf_r2) ++ (vx_atS RX0 157 "java/lang/IndexOutOfBoundsException" ["java/lang/RuntimeException", "java/lang/Exception"]).filter goodWord)
def wsX0_anchorMonthOf_r1 : List Cond := [Cond.methodLink RX0 46 yX0_checkNumber, Cond.static yX0_checkNumber, Cond.initialized RX0, Cond.code yX0_checkNumber cX0_checkNumber 1 none, Cond.classLink RX0 153 "java/lang/IndexOutOfBoundsException", Cond.initialized "java/lang/IndexOutOfBoundsException", Cond.constant RX0 31 (1095750), Cond.methodLink RX0 53 yX0_placeAt, Cond.static yX0_placeAt, Cond.code yX0_placeAt cX0_placeAt 1 (some .int), Cond.methodLink RX0 99 yX0_lawNumberAt, Cond.static yX0_lawNumberAt, Cond.code yX0_lawNumberAt cX0_lawNumberAt 1 (some .int), Cond.methodLink RX0 188 yX0_doubledDaysBefore, Cond.static yX0_doubledDaysBefore, Cond.code yX0_doubledDaysBefore cX0_doubledDaysBefore 1 (some .int), Cond.methodLink RX0 56 yX0_monthOfPlace, Cond.static yX0_monthOfPlace, Cond.code yX0_monthOfPlace cX0_monthOfPlace 3 (some .int), Cond.methodLink RX0 182 yX0_commonLengthOf, Cond.static yX0_commonLengthOf, Cond.code yX0_commonLengthOf cX0_commonLengthOf 1 (some .int), Cond.methodLink RX0 62 yX0_isBehindIdes, Cond.static yX0_isBehindIdes]
def wsX0_anchorMonthOf_r2 : List Cond := [Cond.code yX0_isBehindIdes cX0_isBehindIdes 1 (some .boolean), Cond.methodLink RX0 23 yX0_placeOfAnchor, Cond.static yX0_placeOfAnchor, Cond.code yX0_placeOfAnchor cX0_placeOfAnchor 4 (some .int), Cond.methodLink RX0 185 yX0_commonDaysBefore, Cond.static yX0_commonDaysBefore, Cond.code yX0_commonDaysBefore cX0_commonDaysBefore 3 (some .int), Cond.methodLink RX0 191 yX0_nonesDayOf, Cond.static yX0_nonesDayOf, Cond.code yX0_nonesDayOf cX0_nonesDayOf 1 (some .int)]
def wsX0_anchorMonthOf : List Cond := .code yX0_anchorMonthOf cX0_anchorMonthOf 4 (some .int) :: ((wsX0_anchorMonthOf_r1 ++ wsX0_anchorMonthOf_r2) ++ (vx_atS RX0 157 "java/lang/IndexOutOfBoundsException" ["java/lang/RuntimeException", "java/lang/Exception"]).filter goodWord)
def wsX0_countOf_r1 : List Cond := [Cond.methodLink RX0 46 yX0_checkNumber, Cond.static yX0_checkNumber, Cond.initialized RX0, Cond.code yX0_checkNumber cX0_checkNumber 1 none, Cond.classLink RX0 153 "java/lang/IndexOutOfBoundsException", Cond.initialized "java/lang/IndexOutOfBoundsException", Cond.constant RX0 31 (1095750), Cond.methodLink RX0 53 yX0_placeAt, Cond.static yX0_placeAt, Cond.code yX0_placeAt cX0_placeAt 1 (some .int), Cond.methodLink RX0 99 yX0_lawNumberAt, Cond.static yX0_lawNumberAt, Cond.code yX0_lawNumberAt cX0_lawNumberAt 1 (some .int), Cond.methodLink RX0 188 yX0_doubledDaysBefore, Cond.static yX0_doubledDaysBefore, Cond.code yX0_doubledDaysBefore cX0_doubledDaysBefore 1 (some .int), Cond.methodLink RX0 56 yX0_monthOfPlace, Cond.static yX0_monthOfPlace, Cond.code yX0_monthOfPlace cX0_monthOfPlace 3 (some .int), Cond.methodLink RX0 182 yX0_commonLengthOf, Cond.static yX0_commonLengthOf, Cond.code yX0_commonLengthOf cX0_commonLengthOf 1 (some .int), Cond.methodLink RX0 62 yX0_isBehindIdes, Cond.static yX0_isBehindIdes]
def wsX0_countOf_r2 : List Cond := [Cond.code yX0_isBehindIdes cX0_isBehindIdes 1 (some .boolean), Cond.methodLink RX0 23 yX0_placeOfAnchor, Cond.static yX0_placeOfAnchor, Cond.code yX0_placeOfAnchor cX0_placeOfAnchor 4 (some .int), Cond.methodLink RX0 185 yX0_commonDaysBefore, Cond.static yX0_commonDaysBefore, Cond.code yX0_commonDaysBefore cX0_commonDaysBefore 3 (some .int), Cond.methodLink RX0 191 yX0_nonesDayOf, Cond.static yX0_nonesDayOf, Cond.code yX0_nonesDayOf cX0_nonesDayOf 1 (some .int), Cond.methodLink RX0 59 yX0_anchorOfPlace, Cond.static yX0_anchorOfPlace, Cond.code yX0_anchorOfPlace cX0_anchorOfPlace 2 (some .int)]
def wsX0_countOf : List Cond := .code yX0_countOf cX0_countOf 5 (some .int) :: ((wsX0_countOf_r1 ++ wsX0_countOf_r2) ++ (vx_atS RX0 157 "java/lang/IndexOutOfBoundsException" ["java/lang/RuntimeException", "java/lang/Exception"]).filter goodWord)
def wsX0_isDoubled : List Cond := .code yX0_isDoubled cX0_isDoubled 2 (some .boolean) :: ([.methodLink RX0 46 yX0_checkNumber, .static yX0_checkNumber, .initialized RX0, .code yX0_checkNumber cX0_checkNumber 1 none, .classLink RX0 153 "java/lang/IndexOutOfBoundsException", .initialized "java/lang/IndexOutOfBoundsException", .constant RX0 31 (1095750)] ++ (vx_atS RX0 157 "java/lang/IndexOutOfBoundsException" ["java/lang/RuntimeException", "java/lang/Exception"]).filter goodWord)
def wsX0_checkAnchor : List Cond := .code yX0_checkAnchor cX0_checkAnchor 1 none :: ([.classLink RX0 75 "java/lang/IllegalArgumentException", .initialized "java/lang/IllegalArgumentException"] ++ (vx_atS RX0 79 "java/lang/IllegalArgumentException" ["java/lang/RuntimeException", "java/lang/Exception"]).filter goodWord)
def wsX0_greatestCountTo : List Cond := .code yX0_greatestCountTo cX0_greatestCountTo 4 (some .int) :: ([.methodLink RX0 191 yX0_nonesDayOf, .static yX0_nonesDayOf, .initialized RX0, .code yX0_nonesDayOf cX0_nonesDayOf 1 (some .int), .methodLink RX0 182 yX0_commonLengthOf, .static yX0_commonLengthOf, .code yX0_commonLengthOf cX0_commonLengthOf 1 (some .int)])
def wsX0_isToldAsDoubled : List Cond := .code yX0_isToldAsDoubled cX0_isToldAsDoubled 4 (some .boolean) :: ([.methodLink RX0 179 yX0_isLeap, .static yX0_isLeap, .initialized RX0, .code yX0_isLeap cX0_isLeap 1 (some .boolean)])
def wsX0_lastDayOfPlace : List Cond := .code yX0_lastDayOfPlace cX0_lastDayOfPlace 3 (some .int) :: ([.methodLink RX0 179 yX0_isLeap, .static yX0_isLeap, .initialized RX0, .code yX0_isLeap cX0_isLeap 1 (some .boolean), .methodLink RX0 36 yX0_firstDayOf, .static yX0_firstDayOf, .code yX0_firstDayOf cX0_firstDayOf 1 (some .int)])
def wsX0_fromCount_r1 : List Cond := [Cond.classLink RX0 75 "java/lang/IllegalArgumentException", Cond.initialized "java/lang/IllegalArgumentException", Cond.classLink RX0 85 "java/lang/IllegalStateException", Cond.initialized "java/lang/IllegalStateException", Cond.methodLink RX0 66 yX0_checkYear, Cond.static yX0_checkYear, Cond.initialized RX0, Cond.code yX0_checkYear cX0_checkYear 1 none, Cond.classLink RX0 153 "java/lang/IndexOutOfBoundsException", Cond.initialized "java/lang/IndexOutOfBoundsException", Cond.methodLink RX0 69 yX0_checkMonth, Cond.static yX0_checkMonth, Cond.code yX0_checkMonth cX0_checkMonth 1 none, Cond.methodLink RX0 72 yX0_checkAnchor, Cond.static yX0_checkAnchor, Cond.code yX0_checkAnchor cX0_checkAnchor 1 none, Cond.methodLink RX0 82 yX0_greatestCountTo, Cond.static yX0_greatestCountTo, Cond.code yX0_greatestCountTo cX0_greatestCountTo 4 (some .int), Cond.methodLink RX0 191 yX0_nonesDayOf, Cond.static yX0_nonesDayOf, Cond.code yX0_nonesDayOf cX0_nonesDayOf 1 (some .int), Cond.methodLink RX0 182 yX0_commonLengthOf, Cond.static yX0_commonLengthOf]
def wsX0_fromCount_r2 : List Cond := [Cond.code yX0_commonLengthOf cX0_commonLengthOf 1 (some .int), Cond.methodLink RX0 90 yX0_isToldAsDoubled, Cond.static yX0_isToldAsDoubled, Cond.code yX0_isToldAsDoubled cX0_isToldAsDoubled 4 (some .boolean), Cond.methodLink RX0 179 yX0_isLeap, Cond.static yX0_isLeap, Cond.code yX0_isLeap cX0_isLeap 1 (some .boolean), Cond.methodLink RX0 23 yX0_placeOfAnchor, Cond.static yX0_placeOfAnchor, Cond.code yX0_placeOfAnchor cX0_placeOfAnchor 4 (some .int), Cond.methodLink RX0 185 yX0_commonDaysBefore, Cond.static yX0_commonDaysBefore, Cond.code yX0_commonDaysBefore cX0_commonDaysBefore 3 (some .int), Cond.methodLink RX0 96 yX0_lastDayOfPlace, Cond.static yX0_lastDayOfPlace, Cond.code yX0_lastDayOfPlace cX0_lastDayOfPlace 3 (some .int), Cond.methodLink RX0 36 yX0_firstDayOf, Cond.static yX0_firstDayOf, Cond.code yX0_firstDayOf cX0_firstDayOf 1 (some .int)]
def wsX0_fromCount : List Cond := .code yX0_fromCount cX0_fromCount 8 (some .int) :: ((wsX0_fromCount_r1 ++ wsX0_fromCount_r2) ++ (vx_atS RX0 79 "java/lang/IllegalArgumentException" ["java/lang/RuntimeException", "java/lang/Exception"]).filter goodWord ++ (vx_atS RX0 89 "java/lang/IllegalStateException" ["java/lang/RuntimeException", "java/lang/Exception"]).filter goodWord ++ (vx_atS RX0 157 "java/lang/IndexOutOfBoundsException" ["java/lang/RuntimeException", "java/lang/Exception"]).filter goodWord)
def wsX0_greatestCount : List Cond := .code yX0_greatestCount cX0_greatestCount 4 (some .int) :: ([.methodLink RX0 66 yX0_checkYear, .static yX0_checkYear, .initialized RX0, .code yX0_checkYear cX0_checkYear 1 none, .classLink RX0 153 "java/lang/IndexOutOfBoundsException", .initialized "java/lang/IndexOutOfBoundsException", .methodLink RX0 69 yX0_checkMonth, .static yX0_checkMonth, .code yX0_checkMonth cX0_checkMonth 1 none, .methodLink RX0 72 yX0_checkAnchor, .static yX0_checkAnchor, .code yX0_checkAnchor cX0_checkAnchor 1 none, .classLink RX0 75 "java/lang/IllegalArgumentException", .initialized "java/lang/IllegalArgumentException", .methodLink RX0 82 yX0_greatestCountTo, .static yX0_greatestCountTo, .code yX0_greatestCountTo cX0_greatestCountTo 4 (some .int), .methodLink RX0 191 yX0_nonesDayOf, .static yX0_nonesDayOf, .code yX0_nonesDayOf cX0_nonesDayOf 1 (some .int), .methodLink RX0 182 yX0_commonLengthOf, .static yX0_commonLengthOf, .code yX0_commonLengthOf cX0_commonLengthOf 1 (some .int)] ++ (vx_atS RX0 157 "java/lang/IndexOutOfBoundsException" ["java/lang/RuntimeException", "java/lang/Exception"]).filter goodWord ++ (vx_atS RX0 79 "java/lang/IllegalArgumentException" ["java/lang/RuntimeException", "java/lang/Exception"]).filter goodWord)
def wsX0_lawNumber : List Cond := .code yX0_lawNumber cX0_lawNumber 2 (some .int) :: ([.methodLink RX0 46 yX0_checkNumber, .static yX0_checkNumber, .initialized RX0, .code yX0_checkNumber cX0_checkNumber 1 none, .classLink RX0 153 "java/lang/IndexOutOfBoundsException", .initialized "java/lang/IndexOutOfBoundsException", .constant RX0 31 (1095750), .methodLink RX0 99 yX0_lawNumberAt, .static yX0_lawNumberAt, .code yX0_lawNumberAt cX0_lawNumberAt 1 (some .int), .methodLink RX0 188 yX0_doubledDaysBefore, .static yX0_doubledDaysBefore, .code yX0_doubledDaysBefore cX0_doubledDaysBefore 1 (some .int)] ++ (vx_atS RX0 157 "java/lang/IndexOutOfBoundsException" ["java/lang/RuntimeException", "java/lang/Exception"]).filter goodWord)
def wsX0_termEnd_r1 : List Cond := [Cond.classLink RX0 75 "java/lang/IllegalArgumentException", Cond.initialized "java/lang/IllegalArgumentException", Cond.classLink RX0 85 "java/lang/IllegalStateException", Cond.initialized "java/lang/IllegalStateException", Cond.constant RX0 102 (100000), Cond.constant RX0 105 (1095749), Cond.methodLink RX0 46 yX0_checkNumber, Cond.static yX0_checkNumber, Cond.initialized RX0, Cond.code yX0_checkNumber cX0_checkNumber 1 none, Cond.classLink RX0 153 "java/lang/IndexOutOfBoundsException", Cond.initialized "java/lang/IndexOutOfBoundsException", Cond.constant RX0 31 (1095750), Cond.methodLink RX0 99 yX0_lawNumberAt, Cond.static yX0_lawNumberAt, Cond.code yX0_lawNumberAt cX0_lawNumberAt 1 (some .int), Cond.methodLink RX0 188 yX0_doubledDaysBefore, Cond.static yX0_doubledDaysBefore, Cond.code yX0_doubledDaysBefore cX0_doubledDaysBefore 1 (some .int), Cond.methodLink RX0 96 yX0_lastDayOfPlace, Cond.static yX0_lastDayOfPlace, Cond.code yX0_lastDayOfPlace cX0_lastDayOfPlace 3 (some .int), Cond.methodLink RX0 179 yX0_isLeap, Cond.static yX0_isLeap]
def wsX0_termEnd_r2 : List Cond := [Cond.code yX0_isLeap cX0_isLeap 1 (some .boolean), Cond.methodLink RX0 36 yX0_firstDayOf, Cond.static yX0_firstDayOf, Cond.code yX0_firstDayOf cX0_firstDayOf 1 (some .int)]
def wsX0_termEnd : List Cond := .code yX0_termEnd cX0_termEnd 4 (some .int) :: ((wsX0_termEnd_r1 ++ wsX0_termEnd_r2) ++ (vx_atS RX0 79 "java/lang/IllegalArgumentException" ["java/lang/RuntimeException", "java/lang/Exception"]).filter goodWord ++ (vx_atS RX0 89 "java/lang/IllegalStateException" ["java/lang/RuntimeException", "java/lang/Exception"]).filter goodWord ++ (vx_atS RX0 157 "java/lang/IndexOutOfBoundsException" ["java/lang/RuntimeException", "java/lang/Exception"]).filter goodWord)
def wsX0_lawDays : List Cond := .code yX0_lawDays cX0_lawDays 3 (some .int) :: ([.methodLink RX0 46 yX0_checkNumber, .static yX0_checkNumber, .initialized RX0, .code yX0_checkNumber cX0_checkNumber 1 none, .classLink RX0 153 "java/lang/IndexOutOfBoundsException", .initialized "java/lang/IndexOutOfBoundsException", .constant RX0 31 (1095750), .methodLink RX0 99 yX0_lawNumberAt, .static yX0_lawNumberAt, .code yX0_lawNumberAt cX0_lawNumberAt 1 (some .int), .methodLink RX0 188 yX0_doubledDaysBefore, .static yX0_doubledDaysBefore, .code yX0_doubledDaysBefore cX0_doubledDaysBefore 1 (some .int)] ++ (vx_atS RX0 157 "java/lang/IndexOutOfBoundsException" ["java/lang/RuntimeException", "java/lang/Exception"]).filter goodWord)
def wsX0_placeOf : List Cond := .code yX0_placeOf cX0_placeOf 2 (some .int) :: ([.methodLink RX0 46 yX0_checkNumber, .static yX0_checkNumber, .initialized RX0, .code yX0_checkNumber cX0_checkNumber 1 none, .classLink RX0 153 "java/lang/IndexOutOfBoundsException", .initialized "java/lang/IndexOutOfBoundsException", .constant RX0 31 (1095750), .methodLink RX0 53 yX0_placeAt, .static yX0_placeAt, .code yX0_placeAt cX0_placeAt 1 (some .int), .methodLink RX0 99 yX0_lawNumberAt, .static yX0_lawNumberAt, .code yX0_lawNumberAt cX0_lawNumberAt 1 (some .int), .methodLink RX0 188 yX0_doubledDaysBefore, .static yX0_doubledDaysBefore, .code yX0_doubledDaysBefore cX0_doubledDaysBefore 1 (some .int)] ++ (vx_atS RX0 157 "java/lang/IndexOutOfBoundsException" ["java/lang/RuntimeException", "java/lang/Exception"]).filter goodWord)
def wsX0_eightLetterAt : List Cond := .code yX0_eightLetterAt cX0_eightLetterAt 1 (some .int) :: ([.methodLink RX0 53 yX0_placeAt, .static yX0_placeAt, .initialized RX0, .code yX0_placeAt cX0_placeAt 1 (some .int), .methodLink RX0 99 yX0_lawNumberAt, .static yX0_lawNumberAt, .code yX0_lawNumberAt cX0_lawNumberAt 1 (some .int), .methodLink RX0 188 yX0_doubledDaysBefore, .static yX0_doubledDaysBefore, .code yX0_doubledDaysBefore cX0_doubledDaysBefore 1 (some .int)])
def wsX0_letterOfEight : List Cond := .code yX0_letterOfEight cX0_letterOfEight 2 (some .int) :: ([.methodLink RX0 46 yX0_checkNumber, .static yX0_checkNumber, .initialized RX0, .code yX0_checkNumber cX0_checkNumber 1 none, .classLink RX0 153 "java/lang/IndexOutOfBoundsException", .initialized "java/lang/IndexOutOfBoundsException", .constant RX0 31 (1095750), .methodLink RX0 108 yX0_eightLetterAt, .static yX0_eightLetterAt, .code yX0_eightLetterAt cX0_eightLetterAt 1 (some .int), .methodLink RX0 53 yX0_placeAt, .static yX0_placeAt, .code yX0_placeAt cX0_placeAt 1 (some .int), .methodLink RX0 99 yX0_lawNumberAt, .static yX0_lawNumberAt, .code yX0_lawNumberAt cX0_lawNumberAt 1 (some .int), .methodLink RX0 188 yX0_doubledDaysBefore, .static yX0_doubledDaysBefore, .code yX0_doubledDaysBefore cX0_doubledDaysBefore 1 (some .int)] ++ (vx_atS RX0 157 "java/lang/IndexOutOfBoundsException" ["java/lang/RuntimeException", "java/lang/Exception"]).filter goodWord)
def wsX0_sevenLetterAt : List Cond := .code yX0_sevenLetterAt cX0_sevenLetterAt 1 (some .int) :: ([.methodLink RX0 53 yX0_placeAt, .static yX0_placeAt, .initialized RX0, .code yX0_placeAt cX0_placeAt 1 (some .int), .methodLink RX0 99 yX0_lawNumberAt, .static yX0_lawNumberAt, .code yX0_lawNumberAt cX0_lawNumberAt 1 (some .int), .methodLink RX0 188 yX0_doubledDaysBefore, .static yX0_doubledDaysBefore, .code yX0_doubledDaysBefore cX0_doubledDaysBefore 1 (some .int)])
def wsX0_letterOfSeven : List Cond := .code yX0_letterOfSeven cX0_letterOfSeven 2 (some .int) :: ([.methodLink RX0 46 yX0_checkNumber, .static yX0_checkNumber, .initialized RX0, .code yX0_checkNumber cX0_checkNumber 1 none, .classLink RX0 153 "java/lang/IndexOutOfBoundsException", .initialized "java/lang/IndexOutOfBoundsException", .constant RX0 31 (1095750), .methodLink RX0 111 yX0_sevenLetterAt, .static yX0_sevenLetterAt, .code yX0_sevenLetterAt cX0_sevenLetterAt 1 (some .int), .methodLink RX0 53 yX0_placeAt, .static yX0_placeAt, .code yX0_placeAt cX0_placeAt 1 (some .int), .methodLink RX0 99 yX0_lawNumberAt, .static yX0_lawNumberAt, .code yX0_lawNumberAt cX0_lawNumberAt 1 (some .int), .methodLink RX0 188 yX0_doubledDaysBefore, .static yX0_doubledDaysBefore, .code yX0_doubledDaysBefore cX0_doubledDaysBefore 1 (some .int)] ++ (vx_atS RX0 157 "java/lang/IndexOutOfBoundsException" ["java/lang/RuntimeException", "java/lang/Exception"]).filter goodWord)
def wsX0_setMarketDay : List Cond := .code yX0_setMarketDay cX0_setMarketDay 3 (some .int) :: ([.fieldLink RX0 19 "RomanCalendar" "marketRemainder" "I", .methodLink RX0 46 yX0_checkNumber, .static yX0_checkNumber, .initialized RX0, .code yX0_checkNumber cX0_checkNumber 1 none, .classLink RX0 153 "java/lang/IndexOutOfBoundsException", .initialized "java/lang/IndexOutOfBoundsException", .constant RX0 31 (1095750)] ++ wsX00 ++ (vx_atS RX0 157 "java/lang/IndexOutOfBoundsException" ["java/lang/RuntimeException", "java/lang/Exception"]).filter goodWord)
def wsX0_isMarketAt : List Cond := .code yX0_isMarketAt cX0_isMarketAt 2 (some .boolean) :: ([.fieldLink RX0 19 "RomanCalendar" "marketRemainder" "I"] ++ wsX00)
def wsX0_isMarket : List Cond := .code yX0_isMarket cX0_isMarket 2 (some .boolean) :: ([.methodLink RX0 46 yX0_checkNumber, .static yX0_checkNumber, .initialized RX0, .code yX0_checkNumber cX0_checkNumber 1 none, .classLink RX0 153 "java/lang/IndexOutOfBoundsException", .initialized "java/lang/IndexOutOfBoundsException", .constant RX0 31 (1095750), .methodLink RX0 114 yX0_isMarketAt, .instanceMethod yX0_isMarketAt, .selects RX0 yX0_isMarketAt yX0_isMarketAt, .code yX0_isMarketAt cX0_isMarketAt 2 (some .boolean), .fieldLink RX0 19 "RomanCalendar" "marketRemainder" "I"] ++ wsX00 ++ (vx_atS RX0 157 "java/lang/IndexOutOfBoundsException" ["java/lang/RuntimeException", "java/lang/Exception"]).filter goodWord)
def wsX0_lastDayOf : List Cond := .code yX0_lastDayOf cX0_lastDayOf 1 (some .int) :: ([.methodLink RX0 36 yX0_firstDayOf, .static yX0_firstDayOf, .initialized RX0, .code yX0_firstDayOf cX0_firstDayOf 1 (some .int)])
def wsJ9_floorMod_7cf53 : List Cond := .code yJ9_floorMod_7cf53 cJ9_floorMod_7cf53 3 (some .int) :: ([])
def wsX0_marketLetters_r1 : List Cond := [Cond.fieldLink RX0 19 "RomanCalendar" "marketRemainder" "I", Cond.methodLink RX0 66 yX0_checkYear, Cond.static yX0_checkYear, Cond.initialized RX0, Cond.code yX0_checkYear cX0_checkYear 1 none, Cond.classLink RX0 153 "java/lang/IndexOutOfBoundsException", Cond.initialized "java/lang/IndexOutOfBoundsException", Cond.methodLink RX0 36 yX0_firstDayOf, Cond.static yX0_firstDayOf, Cond.code yX0_firstDayOf cX0_firstDayOf 1 (some .int), Cond.methodLink RX0 117 yX0_lastDayOf, Cond.static yX0_lastDayOf, Cond.code yX0_lastDayOf cX0_lastDayOf 1 (some .int), Cond.methodLink RX0 120 yJ9_floorMod_7cf53, Cond.static yJ9_floorMod_7cf53, Cond.initialized RJ9, Cond.code yJ9_floorMod_7cf53 cJ9_floorMod_7cf53 3 (some .int), Cond.methodLink RX0 108 yX0_eightLetterAt, Cond.static yX0_eightLetterAt, Cond.code yX0_eightLetterAt cX0_eightLetterAt 1 (some .int), Cond.methodLink RX0 53 yX0_placeAt, Cond.static yX0_placeAt, Cond.code yX0_placeAt cX0_placeAt 1 (some .int), Cond.methodLink RX0 99 yX0_lawNumberAt]
def wsX0_marketLetters_r2 : List Cond := [Cond.static yX0_lawNumberAt, Cond.code yX0_lawNumberAt cX0_lawNumberAt 1 (some .int), Cond.methodLink RX0 188 yX0_doubledDaysBefore, Cond.static yX0_doubledDaysBefore, Cond.code yX0_doubledDaysBefore cX0_doubledDaysBefore 1 (some .int)]
def wsX0_marketLetters : List Cond := .code yX0_marketLetters cX0_marketLetters 6 (some .int) :: ((wsX0_marketLetters_r1 ++ wsX0_marketLetters_r2) ++ wsX00 ++ (vx_atS RX0 157 "java/lang/IndexOutOfBoundsException" ["java/lang/RuntimeException", "java/lang/Exception"]).filter goodWord)
def wsX0_sundayLetters_r1 : List Cond := [Cond.methodLink RX0 66 yX0_checkYear, Cond.static yX0_checkYear, Cond.initialized RX0, Cond.code yX0_checkYear cX0_checkYear 1 none, Cond.classLink RX0 153 "java/lang/IndexOutOfBoundsException", Cond.initialized "java/lang/IndexOutOfBoundsException", Cond.methodLink RX0 36 yX0_firstDayOf, Cond.static yX0_firstDayOf, Cond.code yX0_firstDayOf cX0_firstDayOf 1 (some .int), Cond.methodLink RX0 117 yX0_lastDayOf, Cond.static yX0_lastDayOf, Cond.code yX0_lastDayOf cX0_lastDayOf 1 (some .int), Cond.methodLink RX0 120 yJ9_floorMod_7cf53, Cond.static yJ9_floorMod_7cf53, Cond.initialized RJ9, Cond.code yJ9_floorMod_7cf53 cJ9_floorMod_7cf53 3 (some .int), Cond.methodLink RX0 111 yX0_sevenLetterAt, Cond.static yX0_sevenLetterAt, Cond.code yX0_sevenLetterAt cX0_sevenLetterAt 1 (some .int), Cond.methodLink RX0 53 yX0_placeAt, Cond.static yX0_placeAt, Cond.code yX0_placeAt cX0_placeAt 1 (some .int), Cond.methodLink RX0 99 yX0_lawNumberAt, Cond.static yX0_lawNumberAt]
def wsX0_sundayLetters_r2 : List Cond := [Cond.code yX0_lawNumberAt cX0_lawNumberAt 1 (some .int), Cond.methodLink RX0 188 yX0_doubledDaysBefore, Cond.static yX0_doubledDaysBefore, Cond.code yX0_doubledDaysBefore cX0_doubledDaysBefore 1 (some .int)]
def wsX0_sundayLetters : List Cond := .code yX0_sundayLetters cX0_sundayLetters 6 (some .int) :: ((wsX0_sundayLetters_r1 ++ wsX0_sundayLetters_r2) ++ (vx_atS RX0 157 "java/lang/IndexOutOfBoundsException" ["java/lang/RuntimeException", "java/lang/Exception"]).filter goodWord)
def wsX0_isConsul : List Cond := .code yX0_isConsul cX0_isConsul 1 (some .boolean) :: ([])
def wsX0_slotOf : List Cond := .code yX0_slotOf cX0_slotOf 3 (some .int) :: ([.fieldLink RX0 13 "RomanCalendar" "consulYears" "[I"] ++ wsX00)
def wsX0_isSlot : List Cond := .code yX0_isSlot cX0_isSlot 1 (some .boolean) :: ([])
def wsX0_countConsulYears : List Cond := .code yX0_countConsulYears cX0_countConsulYears 3 (some .int) :: ([.fieldLink RX0 13 "RomanCalendar" "consulYears" "[I"] ++ wsX00)
def wsX0_setConsuls_r1 : List Cond := [Cond.classLink RX0 75 "java/lang/IllegalArgumentException", Cond.initialized "java/lang/IllegalArgumentException", Cond.classLink RX0 85 "java/lang/IllegalStateException", Cond.initialized "java/lang/IllegalStateException", Cond.fieldLink RX0 13 "RomanCalendar" "consulYears" "[I", Cond.fieldLink RX0 16 "RomanCalendar" "consulPairs" "[I", Cond.methodLink RX0 66 yX0_checkYear, Cond.static yX0_checkYear, Cond.initialized RX0, Cond.code yX0_checkYear cX0_checkYear 1 none, Cond.classLink RX0 153 "java/lang/IndexOutOfBoundsException", Cond.initialized "java/lang/IndexOutOfBoundsException", Cond.methodLink RX0 125 yX0_isConsul, Cond.static yX0_isConsul, Cond.code yX0_isConsul cX0_isConsul 1 (some .boolean), Cond.methodLink RX0 130 yX0_slotOf, Cond.instanceMethod yX0_slotOf, Cond.selects RX0 yX0_slotOf yX0_slotOf, Cond.code yX0_slotOf cX0_slotOf 3 (some .int), Cond.methodLink RX0 133 yX0_isSlot, Cond.static yX0_isSlot, Cond.code yX0_isSlot cX0_isSlot 1 (some .boolean), Cond.methodLink RX0 138 yX0_countConsulYears, Cond.instanceMethod yX0_countConsulYears]
def wsX0_setConsuls_r2 : List Cond := [Cond.selects RX0 yX0_countConsulYears yX0_countConsulYears, Cond.code yX0_countConsulYears cX0_countConsulYears 3 (some .int)]
def wsX0_setConsuls : List Cond := .code yX0_setConsuls cX0_setConsuls 5 (some .int) :: ((wsX0_setConsuls_r1 ++ wsX0_setConsuls_r2) ++ wsX00 ++ (vx_atS RX0 79 "java/lang/IllegalArgumentException" ["java/lang/RuntimeException", "java/lang/Exception"]).filter goodWord ++ (vx_atS RX0 89 "java/lang/IllegalStateException" ["java/lang/RuntimeException", "java/lang/Exception"]).filter goodWord ++ (vx_atS RX0 157 "java/lang/IndexOutOfBoundsException" ["java/lang/RuntimeException", "java/lang/Exception"]).filter goodWord)
def wsX0_strikeConsuls : List Cond := .code yX0_strikeConsuls cX0_strikeConsuls 3 (some .int) :: ([.classLink RX0 85 "java/lang/IllegalStateException", .initialized "java/lang/IllegalStateException", .fieldLink RX0 13 "RomanCalendar" "consulYears" "[I", .methodLink RX0 66 yX0_checkYear, .static yX0_checkYear, .initialized RX0, .code yX0_checkYear cX0_checkYear 1 none, .classLink RX0 153 "java/lang/IndexOutOfBoundsException", .initialized "java/lang/IndexOutOfBoundsException", .methodLink RX0 130 yX0_slotOf, .instanceMethod yX0_slotOf, .selects RX0 yX0_slotOf yX0_slotOf, .code yX0_slotOf cX0_slotOf 3 (some .int), .methodLink RX0 133 yX0_isSlot, .static yX0_isSlot, .code yX0_isSlot cX0_isSlot 1 (some .boolean), .methodLink RX0 138 yX0_countConsulYears, .instanceMethod yX0_countConsulYears, .selects RX0 yX0_countConsulYears yX0_countConsulYears, .code yX0_countConsulYears cX0_countConsulYears 3 (some .int)] ++ wsX00 ++ (vx_atS RX0 89 "java/lang/IllegalStateException" ["java/lang/RuntimeException", "java/lang/Exception"]).filter goodWord ++ (vx_atS RX0 157 "java/lang/IndexOutOfBoundsException" ["java/lang/RuntimeException", "java/lang/Exception"]).filter goodWord)
def wsX0_consulsOf : List Cond := .code yX0_consulsOf cX0_consulsOf 3 (some .int) :: ([.fieldLink RX0 16 "RomanCalendar" "consulPairs" "[I", .methodLink RX0 66 yX0_checkYear, .static yX0_checkYear, .initialized RX0, .code yX0_checkYear cX0_checkYear 1 none, .classLink RX0 153 "java/lang/IndexOutOfBoundsException", .initialized "java/lang/IndexOutOfBoundsException", .methodLink RX0 130 yX0_slotOf, .instanceMethod yX0_slotOf, .selects RX0 yX0_slotOf yX0_slotOf, .code yX0_slotOf cX0_slotOf 3 (some .int), .fieldLink RX0 13 "RomanCalendar" "consulYears" "[I", .methodLink RX0 133 yX0_isSlot, .static yX0_isSlot, .code yX0_isSlot cX0_isSlot 1 (some .boolean)] ++ wsX00 ++ (vx_atS RX0 157 "java/lang/IndexOutOfBoundsException" ["java/lang/RuntimeException", "java/lang/Exception"]).filter goodWord)
def wsX0_afterConsuls : List Cond := .code yX0_afterConsuls cX0_afterConsuls 5 (some .int) :: ([.fieldLink RX0 13 "RomanCalendar" "consulYears" "[I", .methodLink RX0 66 yX0_checkYear, .static yX0_checkYear, .initialized RX0, .code yX0_checkYear cX0_checkYear 1 none, .classLink RX0 153 "java/lang/IndexOutOfBoundsException", .initialized "java/lang/IndexOutOfBoundsException"] ++ wsX00 ++ (vx_atS RX0 157 "java/lang/IndexOutOfBoundsException" ["java/lang/RuntimeException", "java/lang/Exception"]).filter goodWord)
def wsX0_isPair : List Cond := .code yX0_isPair cX0_isPair 5 (some .boolean) :: ([])
def wsX0_nextYearOfPair : List Cond := .code yX0_nextYearOfPair cX0_nextYearOfPair 8 (some .int) :: ([.fieldLink RX0 13 "RomanCalendar" "consulYears" "[I", .fieldLink RX0 16 "RomanCalendar" "consulPairs" "[I", .methodLink RX0 194 yX0_isPair, .static yX0_isPair, .initialized RX0, .code yX0_isPair cX0_isPair 5 (some .boolean)] ++ wsX00)
def wsX0_yearOfConsuls : List Cond := .code yX0_yearOfConsuls cX0_yearOfConsuls 6 (some .int) :: ([.classLink RX0 75 "java/lang/IllegalArgumentException", .initialized "java/lang/IllegalArgumentException", .methodLink RX0 146 yX0_nextYearOfPair, .instanceMethod yX0_nextYearOfPair, .selects RX0 yX0_nextYearOfPair yX0_nextYearOfPair, .initialized RX0, .code yX0_nextYearOfPair cX0_nextYearOfPair 8 (some .int), .fieldLink RX0 13 "RomanCalendar" "consulYears" "[I", .fieldLink RX0 16 "RomanCalendar" "consulPairs" "[I", .methodLink RX0 194 yX0_isPair, .static yX0_isPair, .code yX0_isPair cX0_isPair 5 (some .boolean)] ++ wsX00 ++ (vx_atS RX0 79 "java/lang/IllegalArgumentException" ["java/lang/RuntimeException", "java/lang/Exception"]).filter goodWord)
def wsX0_readCharacter : List Cond := .code yX0_readCharacter cX0_readCharacter 2 (some .int) :: ([.fieldLink RX0 9 "RomanCalendar" "characters" "[I", .methodLink RX0 150 yX0_isPlace, .static yX0_isPlace, .initialized RX0, .code yX0_isPlace cX0_isPlace 1 (some .boolean)] ++ wsX00)
def wsX0_setCharacter : List Cond := .code yX0_setCharacter cX0_setCharacter 4 (some .int) :: ([.classLink RX0 153 "java/lang/IndexOutOfBoundsException", .initialized "java/lang/IndexOutOfBoundsException", .classLink RX0 75 "java/lang/IllegalArgumentException", .initialized "java/lang/IllegalArgumentException", .methodLink RX0 150 yX0_isPlace, .static yX0_isPlace, .initialized RX0, .code yX0_isPlace cX0_isPlace 1 (some .boolean), .methodLink RX0 160 yX0_readCharacter, .instanceMethod yX0_readCharacter, .selects RX0 yX0_readCharacter yX0_readCharacter, .code yX0_readCharacter cX0_readCharacter 2 (some .int), .fieldLink RX0 9 "RomanCalendar" "characters" "[I", .methodLink RX0 27 yX0_writeCharacter, .instanceMethod yX0_writeCharacter, .selects RX0 yX0_writeCharacter yX0_writeCharacter, .code yX0_writeCharacter cX0_writeCharacter 3 none] ++ wsX00 ++ (vx_atS RX0 157 "java/lang/IndexOutOfBoundsException" ["java/lang/RuntimeException", "java/lang/Exception"]).filter goodWord ++ (vx_atS RX0 79 "java/lang/IllegalArgumentException" ["java/lang/RuntimeException", "java/lang/Exception"]).filter goodWord)
def wsX0_characterOf : List Cond := .code yX0_characterOf cX0_characterOf 2 (some .int) :: ([.methodLink RX0 46 yX0_checkNumber, .static yX0_checkNumber, .initialized RX0, .code yX0_checkNumber cX0_checkNumber 1 none, .classLink RX0 153 "java/lang/IndexOutOfBoundsException", .initialized "java/lang/IndexOutOfBoundsException", .constant RX0 31 (1095750), .methodLink RX0 53 yX0_placeAt, .static yX0_placeAt, .code yX0_placeAt cX0_placeAt 1 (some .int), .methodLink RX0 99 yX0_lawNumberAt, .static yX0_lawNumberAt, .code yX0_lawNumberAt cX0_lawNumberAt 1 (some .int), .methodLink RX0 188 yX0_doubledDaysBefore, .static yX0_doubledDaysBefore, .code yX0_doubledDaysBefore cX0_doubledDaysBefore 1 (some .int), .methodLink RX0 160 yX0_readCharacter, .instanceMethod yX0_readCharacter, .selects RX0 yX0_readCharacter yX0_readCharacter, .code yX0_readCharacter cX0_readCharacter 2 (some .int), .fieldLink RX0 9 "RomanCalendar" "characters" "[I", .methodLink RX0 150 yX0_isPlace, .static yX0_isPlace, .code yX0_isPlace cX0_isPlace 1 (some .boolean)] ++ wsX00 ++ (vx_atS RX0 157 "java/lang/IndexOutOfBoundsException" ["java/lang/RuntimeException", "java/lang/Exception"]).filter goodWord)
def wsX0_isVotingDay : List Cond := .code yX0_isVotingDay cX0_isVotingDay 2 (some .boolean) :: ([.methodLink RX0 53 yX0_placeAt, .static yX0_placeAt, .initialized RX0, .code yX0_placeAt cX0_placeAt 1 (some .int), .methodLink RX0 99 yX0_lawNumberAt, .static yX0_lawNumberAt, .code yX0_lawNumberAt cX0_lawNumberAt 1 (some .int), .methodLink RX0 188 yX0_doubledDaysBefore, .static yX0_doubledDaysBefore, .code yX0_doubledDaysBefore cX0_doubledDaysBefore 1 (some .int), .methodLink RX0 160 yX0_readCharacter, .instanceMethod yX0_readCharacter, .selects RX0 yX0_readCharacter yX0_readCharacter, .code yX0_readCharacter cX0_readCharacter 2 (some .int), .fieldLink RX0 9 "RomanCalendar" "characters" "[I", .methodLink RX0 150 yX0_isPlace, .static yX0_isPlace, .code yX0_isPlace cX0_isPlace 1 (some .boolean), .methodLink RX0 114 yX0_isMarketAt, .instanceMethod yX0_isMarketAt, .selects RX0 yX0_isMarketAt yX0_isMarketAt, .code yX0_isMarketAt cX0_isMarketAt 2 (some .boolean), .fieldLink RX0 19 "RomanCalendar" "marketRemainder" "I"] ++ wsX00)
def wsX0_canVote_r1 : List Cond := [Cond.methodLink RX0 46 yX0_checkNumber, Cond.static yX0_checkNumber, Cond.initialized RX0, Cond.code yX0_checkNumber cX0_checkNumber 1 none, Cond.classLink RX0 153 "java/lang/IndexOutOfBoundsException", Cond.initialized "java/lang/IndexOutOfBoundsException", Cond.constant RX0 31 (1095750), Cond.methodLink RX0 163 yX0_isVotingDay, Cond.instanceMethod yX0_isVotingDay, Cond.selects RX0 yX0_isVotingDay yX0_isVotingDay, Cond.code yX0_isVotingDay cX0_isVotingDay 2 (some .boolean), Cond.methodLink RX0 53 yX0_placeAt, Cond.static yX0_placeAt, Cond.code yX0_placeAt cX0_placeAt 1 (some .int), Cond.methodLink RX0 99 yX0_lawNumberAt, Cond.static yX0_lawNumberAt, Cond.code yX0_lawNumberAt cX0_lawNumberAt 1 (some .int), Cond.methodLink RX0 188 yX0_doubledDaysBefore, Cond.static yX0_doubledDaysBefore, Cond.code yX0_doubledDaysBefore cX0_doubledDaysBefore 1 (some .int), Cond.methodLink RX0 160 yX0_readCharacter, Cond.instanceMethod yX0_readCharacter, Cond.selects RX0 yX0_readCharacter yX0_readCharacter, Cond.code yX0_readCharacter cX0_readCharacter 2 (some .int)]
def wsX0_canVote_r2 : List Cond := [Cond.fieldLink RX0 9 "RomanCalendar" "characters" "[I", Cond.methodLink RX0 150 yX0_isPlace, Cond.static yX0_isPlace, Cond.code yX0_isPlace cX0_isPlace 1 (some .boolean), Cond.methodLink RX0 114 yX0_isMarketAt, Cond.instanceMethod yX0_isMarketAt, Cond.selects RX0 yX0_isMarketAt yX0_isMarketAt, Cond.code yX0_isMarketAt cX0_isMarketAt 2 (some .boolean), Cond.fieldLink RX0 19 "RomanCalendar" "marketRemainder" "I"]
def wsX0_canVote : List Cond := .code yX0_canVote cX0_canVote 2 (some .boolean) :: ((wsX0_canVote_r1 ++ wsX0_canVote_r2) ++ wsX00 ++ (vx_atS RX0 157 "java/lang/IndexOutOfBoundsException" ["java/lang/RuntimeException", "java/lang/Exception"]).filter goodWord)
def wsX0_nextCourt_r1 : List Cond := [Cond.constant RX0 31 (1095750), Cond.methodLink RX0 166 Lib.Math.min.name, Cond.static Lib.Math.min.name, Cond.initialized "java/lang/Math", Cond.code Lib.Math.min.name Lib.Math.min.code 2 (some .int), Cond.methodLink RX0 46 yX0_checkNumber, Cond.static yX0_checkNumber, Cond.initialized RX0, Cond.code yX0_checkNumber cX0_checkNumber 1 none, Cond.classLink RX0 153 "java/lang/IndexOutOfBoundsException", Cond.initialized "java/lang/IndexOutOfBoundsException", Cond.methodLink RX0 53 yX0_placeAt, Cond.static yX0_placeAt, Cond.code yX0_placeAt cX0_placeAt 1 (some .int), Cond.methodLink RX0 99 yX0_lawNumberAt, Cond.static yX0_lawNumberAt, Cond.code yX0_lawNumberAt cX0_lawNumberAt 1 (some .int), Cond.methodLink RX0 188 yX0_doubledDaysBefore, Cond.static yX0_doubledDaysBefore, Cond.code yX0_doubledDaysBefore cX0_doubledDaysBefore 1 (some .int), Cond.methodLink RX0 160 yX0_readCharacter, Cond.instanceMethod yX0_readCharacter, Cond.selects RX0 yX0_readCharacter yX0_readCharacter, Cond.code yX0_readCharacter cX0_readCharacter 2 (some .int)]
def wsX0_nextCourt_r2 : List Cond := [Cond.fieldLink RX0 9 "RomanCalendar" "characters" "[I", Cond.methodLink RX0 150 yX0_isPlace, Cond.static yX0_isPlace, Cond.code yX0_isPlace cX0_isPlace 1 (some .boolean)]
def wsX0_nextCourt : List Cond := .code yX0_nextCourt cX0_nextCourt 5 (some .int) :: ((wsX0_nextCourt_r1 ++ wsX0_nextCourt_r2) ++ wsX00 ++ (vx_atS RX0 157 "java/lang/IndexOutOfBoundsException" ["java/lang/RuntimeException", "java/lang/Exception"]).filter goodWord)
def wsX0_votes_r1 : List Cond := [Cond.methodLink RX0 66 yX0_checkYear, Cond.static yX0_checkYear, Cond.initialized RX0, Cond.code yX0_checkYear cX0_checkYear 1 none, Cond.classLink RX0 153 "java/lang/IndexOutOfBoundsException", Cond.initialized "java/lang/IndexOutOfBoundsException", Cond.methodLink RX0 117 yX0_lastDayOf, Cond.static yX0_lastDayOf, Cond.code yX0_lastDayOf cX0_lastDayOf 1 (some .int), Cond.methodLink RX0 36 yX0_firstDayOf, Cond.static yX0_firstDayOf, Cond.code yX0_firstDayOf cX0_firstDayOf 1 (some .int), Cond.methodLink RX0 163 yX0_isVotingDay, Cond.instanceMethod yX0_isVotingDay, Cond.selects RX0 yX0_isVotingDay yX0_isVotingDay, Cond.code yX0_isVotingDay cX0_isVotingDay 2 (some .boolean), Cond.methodLink RX0 53 yX0_placeAt, Cond.static yX0_placeAt, Cond.code yX0_placeAt cX0_placeAt 1 (some .int), Cond.methodLink RX0 99 yX0_lawNumberAt, Cond.static yX0_lawNumberAt, Cond.code yX0_lawNumberAt cX0_lawNumberAt 1 (some .int), Cond.methodLink RX0 188 yX0_doubledDaysBefore, Cond.static yX0_doubledDaysBefore]
def wsX0_votes_r2 : List Cond := [Cond.code yX0_doubledDaysBefore cX0_doubledDaysBefore 1 (some .int), Cond.methodLink RX0 160 yX0_readCharacter, Cond.instanceMethod yX0_readCharacter, Cond.selects RX0 yX0_readCharacter yX0_readCharacter, Cond.code yX0_readCharacter cX0_readCharacter 2 (some .int), Cond.fieldLink RX0 9 "RomanCalendar" "characters" "[I", Cond.methodLink RX0 150 yX0_isPlace, Cond.static yX0_isPlace, Cond.code yX0_isPlace cX0_isPlace 1 (some .boolean), Cond.methodLink RX0 114 yX0_isMarketAt, Cond.instanceMethod yX0_isMarketAt, Cond.selects RX0 yX0_isMarketAt yX0_isMarketAt, Cond.code yX0_isMarketAt cX0_isMarketAt 2 (some .boolean), Cond.fieldLink RX0 19 "RomanCalendar" "marketRemainder" "I"]
def wsX0_votes : List Cond := .code yX0_votes cX0_votes 5 (some .int) :: ((wsX0_votes_r1 ++ wsX0_votes_r2) ++ wsX00 ++ (vx_atS RX0 157 "java/lang/IndexOutOfBoundsException" ["java/lang/RuntimeException", "java/lang/Exception"]).filter goodWord)
def wsX1_begin : List Cond := .code yX1_begin cX1_begin 1 (some .int) :: ([])
def wsX1_isLeap : List Cond := .code yX1_isLeap cX1_isLeap 1 (some .boolean) :: ([])
def wsX1_length : List Cond := .code yX1_length cX1_length 2 (some .int) :: ([.methodLink RX1 45 yX1_isLeap, .static yX1_isLeap, .initialized RX1, .code yX1_isLeap cX1_isLeap 1 (some .boolean)])
def wsX1_splits : List Cond := .code yX1_splits cX1_splits 3 none :: ([.fieldLink RX1 56 "RomanCalendarModel" "year" "I", .fieldLink RX1 27 "RomanCalendarModel" "month" "I", .fieldLink RX1 23 "RomanCalendarModel" "day" "I", .methodLink RX1 49 yX1_begin, .static yX1_begin, .initialized RX1, .code yX1_begin cX1_begin 1 (some .int), .methodLink RX1 52 yX1_length, .static yX1_length, .code yX1_length cX1_length 2 (some .int), .methodLink RX1 45 yX1_isLeap, .static yX1_isLeap, .code yX1_isLeap cX1_isLeap 1 (some .boolean)] ++ wsX10)
def wsX1_nones : List Cond := .code yX1_nones cX1_nones 1 (some .int) :: ([])
def wsX1_ides : List Cond := .code yX1_ides cX1_ides 1 (some .int) :: ([.methodLink RX1 30 yX1_nones, .static yX1_nones, .initialized RX1, .code yX1_nones cX1_nones 1 (some .int)])
def wsX1_init_r1 : List Cond := [Cond.methodLink RX1 1 objectInit, Cond.instanceMethod objectInit, Cond.code objectInit ⟨#[0xb1]⟩ 1 none, Cond.arrayClass .int, Cond.fieldLink RX1 7 "RomanCalendarModel" "character" "[I", Cond.fieldLink RX1 13 "RomanCalendarModel" "first" "[I", Cond.fieldLink RX1 16 "RomanCalendarModel" "second" "[I", Cond.fieldLink RX1 23 "RomanCalendarModel" "day" "I", Cond.fieldLink RX1 27 "RomanCalendarModel" "month" "I", Cond.methodLink RX1 19 yX1_splits, Cond.instanceMethod yX1_splits, Cond.selects RX1 yX1_splits yX1_splits, Cond.initialized RX1, Cond.code yX1_splits cX1_splits 3 none, Cond.fieldLink RX1 56 "RomanCalendarModel" "year" "I", Cond.methodLink RX1 49 yX1_begin, Cond.static yX1_begin, Cond.code yX1_begin cX1_begin 1 (some .int), Cond.methodLink RX1 52 yX1_length, Cond.static yX1_length, Cond.code yX1_length cX1_length 2 (some .int), Cond.methodLink RX1 45 yX1_isLeap, Cond.static yX1_isLeap, Cond.code yX1_isLeap cX1_isLeap 1 (some .boolean)]
def wsX1_init_r2 : List Cond := [Cond.methodLink RX1 30 yX1_nones, Cond.static yX1_nones, Cond.code yX1_nones cX1_nones 1 (some .int), Cond.methodLink RX1 34 yX1_ides, Cond.static yX1_ides, Cond.code yX1_ides cX1_ides 1 (some .int)]
def wsX1_init : List Cond := .code yX1_init cX1_init 3 none :: ((wsX1_init_r1 ++ wsX1_init_r2) ++ wsX10)
def wsX1_thrown : List Cond := .code yX1_thrown cX1_thrown 1 (some .int) :: ([.fieldLink RX1 37 "RomanCalendarModel" "thrown" "I"] ++ wsX10)
def wsX1_isFine : List Cond := .code yX1_isFine cX1_isFine 2 (some .boolean) :: ([.fieldLink RX1 37 "RomanCalendarModel" "thrown" "I"] ++ wsX10)
def wsX1_isIn : List Cond := .code yX1_isIn cX1_isIn 3 (some .boolean) :: ([])
def wsX1_isYear : List Cond := .code yX1_isYear cX1_isYear 1 (some .boolean) :: ([.methodLink RX1 40 yX1_isIn, .static yX1_isIn, .initialized RX1, .code yX1_isIn cX1_isIn 3 (some .boolean)])
def wsX1_isDay : List Cond := .code yX1_isDay cX1_isDay 1 (some .boolean) :: ([.constant RX1 44 (1095749), .methodLink RX1 40 yX1_isIn, .static yX1_isIn, .initialized RX1, .code yX1_isIn cX1_isIn 3 (some .boolean)])
def wsX1_numberFor : List Cond := .code yX1_numberFor cX1_numberFor 5 (some .int) :: ([.methodLink RX1 49 yX1_begin, .static yX1_begin, .initialized RX1, .code yX1_begin cX1_begin 1 (some .int), .methodLink RX1 52 yX1_length, .static yX1_length, .code yX1_length cX1_length 2 (some .int), .methodLink RX1 45 yX1_isLeap, .static yX1_isLeap, .code yX1_isLeap cX1_isLeap 1 (some .boolean)])
def wsX1_isAsked_r1 : List Cond := [Cond.methodLink RX1 59 yX1_isDay, Cond.static yX1_isDay, Cond.initialized RX1, Cond.code yX1_isDay cX1_isDay 1 (some .boolean), Cond.constant RX1 44 (1095749), Cond.methodLink RX1 40 yX1_isIn, Cond.static yX1_isIn, Cond.code yX1_isIn cX1_isIn 3 (some .boolean), Cond.methodLink RX1 62 yX1_isFine, Cond.instanceMethod yX1_isFine, Cond.selects RX1 yX1_isFine yX1_isFine, Cond.code yX1_isFine cX1_isFine 2 (some .boolean), Cond.fieldLink RX1 37 "RomanCalendarModel" "thrown" "I", Cond.methodLink RX1 19 yX1_splits, Cond.instanceMethod yX1_splits, Cond.selects RX1 yX1_splits yX1_splits, Cond.code yX1_splits cX1_splits 3 none, Cond.fieldLink RX1 56 "RomanCalendarModel" "year" "I", Cond.fieldLink RX1 27 "RomanCalendarModel" "month" "I", Cond.fieldLink RX1 23 "RomanCalendarModel" "day" "I", Cond.methodLink RX1 49 yX1_begin, Cond.static yX1_begin, Cond.code yX1_begin cX1_begin 1 (some .int), Cond.methodLink RX1 52 yX1_length]
def wsX1_isAsked_r2 : List Cond := [Cond.static yX1_length, Cond.code yX1_length cX1_length 2 (some .int), Cond.methodLink RX1 45 yX1_isLeap, Cond.static yX1_isLeap, Cond.code yX1_isLeap cX1_isLeap 1 (some .boolean)]
def wsX1_isAsked : List Cond := .code yX1_isAsked cX1_isAsked 3 (some .boolean) :: ((wsX1_isAsked_r1 ++ wsX1_isAsked_r2) ++ wsX10)
def wsX1_days : List Cond := .code yX1_days cX1_days 1 (some .int) :: ([.fieldLink RX1 37 "RomanCalendarModel" "thrown" "I", .constant RX1 65 (1095750)] ++ wsX10)
def wsX1_number : List Cond := .code yX1_number cX1_number 5 (some .int) :: ([.methodLink RX1 66 yX1_isYear, .static yX1_isYear, .initialized RX1, .code yX1_isYear cX1_isYear 1 (some .boolean), .methodLink RX1 40 yX1_isIn, .static yX1_isIn, .code yX1_isIn cX1_isIn 3 (some .boolean), .methodLink RX1 52 yX1_length, .static yX1_length, .code yX1_length cX1_length 2 (some .int), .methodLink RX1 45 yX1_isLeap, .static yX1_isLeap, .code yX1_isLeap cX1_isLeap 1 (some .boolean), .methodLink RX1 62 yX1_isFine, .instanceMethod yX1_isFine, .selects RX1 yX1_isFine yX1_isFine, .code yX1_isFine cX1_isFine 2 (some .boolean), .fieldLink RX1 37 "RomanCalendarModel" "thrown" "I", .methodLink RX1 69 yX1_numberFor, .static yX1_numberFor, .code yX1_numberFor cX1_numberFor 5 (some .int), .methodLink RX1 49 yX1_begin, .static yX1_begin, .code yX1_begin cX1_begin 1 (some .int)] ++ wsX10)
def wsX1_numberByCounting_r1 : List Cond := [Cond.methodLink RX1 73 yX1_number, Cond.instanceMethod yX1_number, Cond.selects RX1 yX1_number yX1_number, Cond.initialized RX1, Cond.code yX1_number cX1_number 5 (some .int), Cond.methodLink RX1 66 yX1_isYear, Cond.static yX1_isYear, Cond.code yX1_isYear cX1_isYear 1 (some .boolean), Cond.methodLink RX1 40 yX1_isIn, Cond.static yX1_isIn, Cond.code yX1_isIn cX1_isIn 3 (some .boolean), Cond.methodLink RX1 52 yX1_length, Cond.static yX1_length, Cond.code yX1_length cX1_length 2 (some .int), Cond.methodLink RX1 45 yX1_isLeap, Cond.static yX1_isLeap, Cond.code yX1_isLeap cX1_isLeap 1 (some .boolean), Cond.methodLink RX1 62 yX1_isFine, Cond.instanceMethod yX1_isFine, Cond.selects RX1 yX1_isFine yX1_isFine, Cond.code yX1_isFine cX1_isFine 2 (some .boolean), Cond.fieldLink RX1 37 "RomanCalendarModel" "thrown" "I", Cond.methodLink RX1 69 yX1_numberFor, Cond.static yX1_numberFor]
def wsX1_numberByCounting_r2 : List Cond := [Cond.code yX1_numberFor cX1_numberFor 5 (some .int), Cond.methodLink RX1 49 yX1_begin, Cond.static yX1_begin, Cond.code yX1_begin cX1_begin 1 (some .int)]
def wsX1_numberByCounting : List Cond := .code yX1_numberByCounting cX1_numberByCounting 4 (some .int) :: ((wsX1_numberByCounting_r1 ++ wsX1_numberByCounting_r2) ++ wsX10)
def wsX1_yearOf_r1 : List Cond := [Cond.fieldLink RX1 56 "RomanCalendarModel" "year" "I", Cond.methodLink RX1 76 yX1_isAsked, Cond.instanceMethod yX1_isAsked, Cond.selects RX1 yX1_isAsked yX1_isAsked, Cond.initialized RX1, Cond.code yX1_isAsked cX1_isAsked 3 (some .boolean), Cond.methodLink RX1 59 yX1_isDay, Cond.static yX1_isDay, Cond.code yX1_isDay cX1_isDay 1 (some .boolean), Cond.constant RX1 44 (1095749), Cond.methodLink RX1 40 yX1_isIn, Cond.static yX1_isIn, Cond.code yX1_isIn cX1_isIn 3 (some .boolean), Cond.methodLink RX1 62 yX1_isFine, Cond.instanceMethod yX1_isFine, Cond.selects RX1 yX1_isFine yX1_isFine, Cond.code yX1_isFine cX1_isFine 2 (some .boolean), Cond.fieldLink RX1 37 "RomanCalendarModel" "thrown" "I", Cond.methodLink RX1 19 yX1_splits, Cond.instanceMethod yX1_splits, Cond.selects RX1 yX1_splits yX1_splits, Cond.code yX1_splits cX1_splits 3 none, Cond.fieldLink RX1 27 "RomanCalendarModel" "month" "I", Cond.fieldLink RX1 23 "RomanCalendarModel" "day" "I"]
def wsX1_yearOf_r2 : List Cond := [Cond.methodLink RX1 49 yX1_begin, Cond.static yX1_begin, Cond.code yX1_begin cX1_begin 1 (some .int), Cond.methodLink RX1 52 yX1_length, Cond.static yX1_length, Cond.code yX1_length cX1_length 2 (some .int), Cond.methodLink RX1 45 yX1_isLeap, Cond.static yX1_isLeap, Cond.code yX1_isLeap cX1_isLeap 1 (some .boolean)]
def wsX1_yearOf : List Cond := .code yX1_yearOf cX1_yearOf 2 (some .int) :: ((wsX1_yearOf_r1 ++ wsX1_yearOf_r2) ++ wsX10)
def wsX1_monthOf_r1 : List Cond := [Cond.fieldLink RX1 27 "RomanCalendarModel" "month" "I", Cond.methodLink RX1 76 yX1_isAsked, Cond.instanceMethod yX1_isAsked, Cond.selects RX1 yX1_isAsked yX1_isAsked, Cond.initialized RX1, Cond.code yX1_isAsked cX1_isAsked 3 (some .boolean), Cond.methodLink RX1 59 yX1_isDay, Cond.static yX1_isDay, Cond.code yX1_isDay cX1_isDay 1 (some .boolean), Cond.constant RX1 44 (1095749), Cond.methodLink RX1 40 yX1_isIn, Cond.static yX1_isIn, Cond.code yX1_isIn cX1_isIn 3 (some .boolean), Cond.methodLink RX1 62 yX1_isFine, Cond.instanceMethod yX1_isFine, Cond.selects RX1 yX1_isFine yX1_isFine, Cond.code yX1_isFine cX1_isFine 2 (some .boolean), Cond.fieldLink RX1 37 "RomanCalendarModel" "thrown" "I", Cond.methodLink RX1 19 yX1_splits, Cond.instanceMethod yX1_splits, Cond.selects RX1 yX1_splits yX1_splits, Cond.code yX1_splits cX1_splits 3 none, Cond.fieldLink RX1 56 "RomanCalendarModel" "year" "I", Cond.fieldLink RX1 23 "RomanCalendarModel" "day" "I"]
def wsX1_monthOf_r2 : List Cond := [Cond.methodLink RX1 49 yX1_begin, Cond.static yX1_begin, Cond.code yX1_begin cX1_begin 1 (some .int), Cond.methodLink RX1 52 yX1_length, Cond.static yX1_length, Cond.code yX1_length cX1_length 2 (some .int), Cond.methodLink RX1 45 yX1_isLeap, Cond.static yX1_isLeap, Cond.code yX1_isLeap cX1_isLeap 1 (some .boolean)]
def wsX1_monthOf : List Cond := .code yX1_monthOf cX1_monthOf 2 (some .int) :: ((wsX1_monthOf_r1 ++ wsX1_monthOf_r2) ++ wsX10)
def wsX1_dayOf_r1 : List Cond := [Cond.fieldLink RX1 23 "RomanCalendarModel" "day" "I", Cond.methodLink RX1 76 yX1_isAsked, Cond.instanceMethod yX1_isAsked, Cond.selects RX1 yX1_isAsked yX1_isAsked, Cond.initialized RX1, Cond.code yX1_isAsked cX1_isAsked 3 (some .boolean), Cond.methodLink RX1 59 yX1_isDay, Cond.static yX1_isDay, Cond.code yX1_isDay cX1_isDay 1 (some .boolean), Cond.constant RX1 44 (1095749), Cond.methodLink RX1 40 yX1_isIn, Cond.static yX1_isIn, Cond.code yX1_isIn cX1_isIn 3 (some .boolean), Cond.methodLink RX1 62 yX1_isFine, Cond.instanceMethod yX1_isFine, Cond.selects RX1 yX1_isFine yX1_isFine, Cond.code yX1_isFine cX1_isFine 2 (some .boolean), Cond.fieldLink RX1 37 "RomanCalendarModel" "thrown" "I", Cond.methodLink RX1 19 yX1_splits, Cond.instanceMethod yX1_splits, Cond.selects RX1 yX1_splits yX1_splits, Cond.code yX1_splits cX1_splits 3 none, Cond.fieldLink RX1 56 "RomanCalendarModel" "year" "I", Cond.fieldLink RX1 27 "RomanCalendarModel" "month" "I"]
def wsX1_dayOf_r2 : List Cond := [Cond.methodLink RX1 49 yX1_begin, Cond.static yX1_begin, Cond.code yX1_begin cX1_begin 1 (some .int), Cond.methodLink RX1 52 yX1_length, Cond.static yX1_length, Cond.code yX1_length cX1_length 2 (some .int), Cond.methodLink RX1 45 yX1_isLeap, Cond.static yX1_isLeap, Cond.code yX1_isLeap cX1_isLeap 1 (some .boolean)]
def wsX1_dayOf : List Cond := .code yX1_dayOf cX1_dayOf 2 (some .int) :: ((wsX1_dayOf_r1 ++ wsX1_dayOf_r2) ++ wsX10)
def wsX1_weekdayOf : List Cond := .code yX1_weekdayOf cX1_weekdayOf 2 (some .int) :: ([.methodLink RX1 59 yX1_isDay, .static yX1_isDay, .initialized RX1, .code yX1_isDay cX1_isDay 1 (some .boolean), .constant RX1 44 (1095749), .methodLink RX1 40 yX1_isIn, .static yX1_isIn, .code yX1_isIn cX1_isIn 3 (some .boolean), .methodLink RX1 62 yX1_isFine, .instanceMethod yX1_isFine, .selects RX1 yX1_isFine yX1_isFine, .code yX1_isFine cX1_isFine 2 (some .boolean), .fieldLink RX1 37 "RomanCalendarModel" "thrown" "I"] ++ wsX10)
def wsX1_isDoubledNow : List Cond := .code yX1_isDoubledNow cX1_isDoubledNow 1 (some .boolean) :: ([.fieldLink RX1 56 "RomanCalendarModel" "year" "I", .fieldLink RX1 27 "RomanCalendarModel" "month" "I", .fieldLink RX1 23 "RomanCalendarModel" "day" "I", .methodLink RX1 45 yX1_isLeap, .static yX1_isLeap, .initialized RX1, .code yX1_isLeap cX1_isLeap 1 (some .boolean)] ++ wsX10)
def wsX1_anchorNow : List Cond := .code yX1_anchorNow cX1_anchorNow 1 (some .int) :: ([.fieldLink RX1 23 "RomanCalendarModel" "day" "I", .fieldLink RX1 27 "RomanCalendarModel" "month" "I", .methodLink RX1 34 yX1_ides, .static yX1_ides, .initialized RX1, .code yX1_ides cX1_ides 1 (some .int), .methodLink RX1 30 yX1_nones, .static yX1_nones, .code yX1_nones cX1_nones 1 (some .int)] ++ wsX10)
def wsX1_anchorMonthNow : List Cond := .code yX1_anchorMonthNow cX1_anchorMonthNow 1 (some .int) :: ([.fieldLink RX1 23 "RomanCalendarModel" "day" "I", .fieldLink RX1 27 "RomanCalendarModel" "month" "I", .methodLink RX1 34 yX1_ides, .static yX1_ides, .initialized RX1, .code yX1_ides cX1_ides 1 (some .int), .methodLink RX1 30 yX1_nones, .static yX1_nones, .code yX1_nones cX1_nones 1 (some .int)] ++ wsX10)
def wsX1_countNow : List Cond := .code yX1_countNow cX1_countNow 2 (some .int) :: ([.fieldLink RX1 23 "RomanCalendarModel" "day" "I", .fieldLink RX1 27 "RomanCalendarModel" "month" "I", .fieldLink RX1 56 "RomanCalendarModel" "year" "I", .methodLink RX1 34 yX1_ides, .static yX1_ides, .initialized RX1, .code yX1_ides cX1_ides 1 (some .int), .methodLink RX1 30 yX1_nones, .static yX1_nones, .code yX1_nones cX1_nones 1 (some .int), .methodLink RX1 52 yX1_length, .static yX1_length, .code yX1_length cX1_length 2 (some .int), .methodLink RX1 45 yX1_isLeap, .static yX1_isLeap, .code yX1_isLeap cX1_isLeap 1 (some .boolean)] ++ wsX10)
def wsX1_anchorOf_r1 : List Cond := [Cond.methodLink RX1 76 yX1_isAsked, Cond.instanceMethod yX1_isAsked, Cond.selects RX1 yX1_isAsked yX1_isAsked, Cond.initialized RX1, Cond.code yX1_isAsked cX1_isAsked 3 (some .boolean), Cond.methodLink RX1 59 yX1_isDay, Cond.static yX1_isDay, Cond.code yX1_isDay cX1_isDay 1 (some .boolean), Cond.constant RX1 44 (1095749), Cond.methodLink RX1 40 yX1_isIn, Cond.static yX1_isIn, Cond.code yX1_isIn cX1_isIn 3 (some .boolean), Cond.methodLink RX1 62 yX1_isFine, Cond.instanceMethod yX1_isFine, Cond.selects RX1 yX1_isFine yX1_isFine, Cond.code yX1_isFine cX1_isFine 2 (some .boolean), Cond.fieldLink RX1 37 "RomanCalendarModel" "thrown" "I", Cond.methodLink RX1 19 yX1_splits, Cond.instanceMethod yX1_splits, Cond.selects RX1 yX1_splits yX1_splits, Cond.code yX1_splits cX1_splits 3 none, Cond.fieldLink RX1 56 "RomanCalendarModel" "year" "I", Cond.fieldLink RX1 27 "RomanCalendarModel" "month" "I", Cond.fieldLink RX1 23 "RomanCalendarModel" "day" "I"]
def wsX1_anchorOf_r2 : List Cond := [Cond.methodLink RX1 49 yX1_begin, Cond.static yX1_begin, Cond.code yX1_begin cX1_begin 1 (some .int), Cond.methodLink RX1 52 yX1_length, Cond.static yX1_length, Cond.code yX1_length cX1_length 2 (some .int), Cond.methodLink RX1 45 yX1_isLeap, Cond.static yX1_isLeap, Cond.code yX1_isLeap cX1_isLeap 1 (some .boolean), Cond.methodLink RX1 79 yX1_anchorNow, Cond.instanceMethod yX1_anchorNow, Cond.selects RX1 yX1_anchorNow yX1_anchorNow, Cond.code yX1_anchorNow cX1_anchorNow 1 (some .int), Cond.methodLink RX1 34 yX1_ides, Cond.static yX1_ides, Cond.code yX1_ides cX1_ides 1 (some .int), Cond.methodLink RX1 30 yX1_nones, Cond.static yX1_nones, Cond.code yX1_nones cX1_nones 1 (some .int)]
def wsX1_anchorOf : List Cond := .code yX1_anchorOf cX1_anchorOf 2 (some .int) :: ((wsX1_anchorOf_r1 ++ wsX1_anchorOf_r2) ++ wsX10)
def wsX1_anchorMonthOf_r1 : List Cond := [Cond.methodLink RX1 76 yX1_isAsked, Cond.instanceMethod yX1_isAsked, Cond.selects RX1 yX1_isAsked yX1_isAsked, Cond.initialized RX1, Cond.code yX1_isAsked cX1_isAsked 3 (some .boolean), Cond.methodLink RX1 59 yX1_isDay, Cond.static yX1_isDay, Cond.code yX1_isDay cX1_isDay 1 (some .boolean), Cond.constant RX1 44 (1095749), Cond.methodLink RX1 40 yX1_isIn, Cond.static yX1_isIn, Cond.code yX1_isIn cX1_isIn 3 (some .boolean), Cond.methodLink RX1 62 yX1_isFine, Cond.instanceMethod yX1_isFine, Cond.selects RX1 yX1_isFine yX1_isFine, Cond.code yX1_isFine cX1_isFine 2 (some .boolean), Cond.fieldLink RX1 37 "RomanCalendarModel" "thrown" "I", Cond.methodLink RX1 19 yX1_splits, Cond.instanceMethod yX1_splits, Cond.selects RX1 yX1_splits yX1_splits, Cond.code yX1_splits cX1_splits 3 none, Cond.fieldLink RX1 56 "RomanCalendarModel" "year" "I", Cond.fieldLink RX1 27 "RomanCalendarModel" "month" "I", Cond.fieldLink RX1 23 "RomanCalendarModel" "day" "I"]
def wsX1_anchorMonthOf_r2 : List Cond := [Cond.methodLink RX1 49 yX1_begin, Cond.static yX1_begin, Cond.code yX1_begin cX1_begin 1 (some .int), Cond.methodLink RX1 52 yX1_length, Cond.static yX1_length, Cond.code yX1_length cX1_length 2 (some .int), Cond.methodLink RX1 45 yX1_isLeap, Cond.static yX1_isLeap, Cond.code yX1_isLeap cX1_isLeap 1 (some .boolean), Cond.methodLink RX1 83 yX1_anchorMonthNow, Cond.instanceMethod yX1_anchorMonthNow, Cond.selects RX1 yX1_anchorMonthNow yX1_anchorMonthNow, Cond.code yX1_anchorMonthNow cX1_anchorMonthNow 1 (some .int), Cond.methodLink RX1 34 yX1_ides, Cond.static yX1_ides, Cond.code yX1_ides cX1_ides 1 (some .int), Cond.methodLink RX1 30 yX1_nones, Cond.static yX1_nones, Cond.code yX1_nones cX1_nones 1 (some .int)]
def wsX1_anchorMonthOf : List Cond := .code yX1_anchorMonthOf cX1_anchorMonthOf 2 (some .int) :: ((wsX1_anchorMonthOf_r1 ++ wsX1_anchorMonthOf_r2) ++ wsX10)
def wsX1_countOf_r1 : List Cond := [Cond.methodLink RX1 76 yX1_isAsked, Cond.instanceMethod yX1_isAsked, Cond.selects RX1 yX1_isAsked yX1_isAsked, Cond.initialized RX1, Cond.code yX1_isAsked cX1_isAsked 3 (some .boolean), Cond.methodLink RX1 59 yX1_isDay, Cond.static yX1_isDay, Cond.code yX1_isDay cX1_isDay 1 (some .boolean), Cond.constant RX1 44 (1095749), Cond.methodLink RX1 40 yX1_isIn, Cond.static yX1_isIn, Cond.code yX1_isIn cX1_isIn 3 (some .boolean), Cond.methodLink RX1 62 yX1_isFine, Cond.instanceMethod yX1_isFine, Cond.selects RX1 yX1_isFine yX1_isFine, Cond.code yX1_isFine cX1_isFine 2 (some .boolean), Cond.fieldLink RX1 37 "RomanCalendarModel" "thrown" "I", Cond.methodLink RX1 19 yX1_splits, Cond.instanceMethod yX1_splits, Cond.selects RX1 yX1_splits yX1_splits, Cond.code yX1_splits cX1_splits 3 none, Cond.fieldLink RX1 56 "RomanCalendarModel" "year" "I", Cond.fieldLink RX1 27 "RomanCalendarModel" "month" "I", Cond.fieldLink RX1 23 "RomanCalendarModel" "day" "I"]
def wsX1_countOf_r2 : List Cond := [Cond.methodLink RX1 49 yX1_begin, Cond.static yX1_begin, Cond.code yX1_begin cX1_begin 1 (some .int), Cond.methodLink RX1 52 yX1_length, Cond.static yX1_length, Cond.code yX1_length cX1_length 2 (some .int), Cond.methodLink RX1 45 yX1_isLeap, Cond.static yX1_isLeap, Cond.code yX1_isLeap cX1_isLeap 1 (some .boolean), Cond.methodLink RX1 86 yX1_countNow, Cond.instanceMethod yX1_countNow, Cond.selects RX1 yX1_countNow yX1_countNow, Cond.code yX1_countNow cX1_countNow 2 (some .int), Cond.methodLink RX1 34 yX1_ides, Cond.static yX1_ides, Cond.code yX1_ides cX1_ides 1 (some .int), Cond.methodLink RX1 30 yX1_nones, Cond.static yX1_nones, Cond.code yX1_nones cX1_nones 1 (some .int)]
def wsX1_countOf : List Cond := .code yX1_countOf cX1_countOf 2 (some .int) :: ((wsX1_countOf_r1 ++ wsX1_countOf_r2) ++ wsX10)
def wsX1_isDoubled_r1 : List Cond := [Cond.methodLink RX1 76 yX1_isAsked, Cond.instanceMethod yX1_isAsked, Cond.selects RX1 yX1_isAsked yX1_isAsked, Cond.initialized RX1, Cond.code yX1_isAsked cX1_isAsked 3 (some .boolean), Cond.methodLink RX1 59 yX1_isDay, Cond.static yX1_isDay, Cond.code yX1_isDay cX1_isDay 1 (some .boolean), Cond.constant RX1 44 (1095749), Cond.methodLink RX1 40 yX1_isIn, Cond.static yX1_isIn, Cond.code yX1_isIn cX1_isIn 3 (some .boolean), Cond.methodLink RX1 62 yX1_isFine, Cond.instanceMethod yX1_isFine, Cond.selects RX1 yX1_isFine yX1_isFine, Cond.code yX1_isFine cX1_isFine 2 (some .boolean), Cond.fieldLink RX1 37 "RomanCalendarModel" "thrown" "I", Cond.methodLink RX1 19 yX1_splits, Cond.instanceMethod yX1_splits, Cond.selects RX1 yX1_splits yX1_splits, Cond.code yX1_splits cX1_splits 3 none, Cond.fieldLink RX1 56 "RomanCalendarModel" "year" "I", Cond.fieldLink RX1 27 "RomanCalendarModel" "month" "I", Cond.fieldLink RX1 23 "RomanCalendarModel" "day" "I"]
def wsX1_isDoubled_r2 : List Cond := [Cond.methodLink RX1 49 yX1_begin, Cond.static yX1_begin, Cond.code yX1_begin cX1_begin 1 (some .int), Cond.methodLink RX1 52 yX1_length, Cond.static yX1_length, Cond.code yX1_length cX1_length 2 (some .int), Cond.methodLink RX1 45 yX1_isLeap, Cond.static yX1_isLeap, Cond.code yX1_isLeap cX1_isLeap 1 (some .boolean), Cond.methodLink RX1 89 yX1_isDoubledNow, Cond.instanceMethod yX1_isDoubledNow, Cond.selects RX1 yX1_isDoubledNow yX1_isDoubledNow, Cond.code yX1_isDoubledNow cX1_isDoubledNow 1 (some .boolean)]
def wsX1_isDoubled : List Cond := .code yX1_isDoubled cX1_isDoubled 2 (some .boolean) :: ((wsX1_isDoubled_r1 ++ wsX1_isDoubled_r2) ++ wsX10)
def wsX1_told_r1 : List Cond := [Cond.methodLink RX1 49 yX1_begin, Cond.static yX1_begin, Cond.initialized RX1, Cond.code yX1_begin cX1_begin 1 (some .int), Cond.methodLink RX1 19 yX1_splits, Cond.instanceMethod yX1_splits, Cond.selects RX1 yX1_splits yX1_splits, Cond.code yX1_splits cX1_splits 3 none, Cond.fieldLink RX1 56 "RomanCalendarModel" "year" "I", Cond.fieldLink RX1 27 "RomanCalendarModel" "month" "I", Cond.fieldLink RX1 23 "RomanCalendarModel" "day" "I", Cond.methodLink RX1 52 yX1_length, Cond.static yX1_length, Cond.code yX1_length cX1_length 2 (some .int), Cond.methodLink RX1 45 yX1_isLeap, Cond.static yX1_isLeap, Cond.code yX1_isLeap cX1_isLeap 1 (some .boolean), Cond.methodLink RX1 79 yX1_anchorNow, Cond.instanceMethod yX1_anchorNow, Cond.selects RX1 yX1_anchorNow yX1_anchorNow, Cond.code yX1_anchorNow cX1_anchorNow 1 (some .int), Cond.methodLink RX1 34 yX1_ides, Cond.static yX1_ides, Cond.code yX1_ides cX1_ides 1 (some .int)]
def wsX1_told_r2 : List Cond := [Cond.methodLink RX1 30 yX1_nones, Cond.static yX1_nones, Cond.code yX1_nones cX1_nones 1 (some .int), Cond.methodLink RX1 83 yX1_anchorMonthNow, Cond.instanceMethod yX1_anchorMonthNow, Cond.selects RX1 yX1_anchorMonthNow yX1_anchorMonthNow, Cond.code yX1_anchorMonthNow cX1_anchorMonthNow 1 (some .int), Cond.methodLink RX1 86 yX1_countNow, Cond.instanceMethod yX1_countNow, Cond.selects RX1 yX1_countNow yX1_countNow, Cond.code yX1_countNow cX1_countNow 2 (some .int), Cond.methodLink RX1 89 yX1_isDoubledNow, Cond.instanceMethod yX1_isDoubledNow, Cond.selects RX1 yX1_isDoubledNow yX1_isDoubledNow, Cond.code yX1_isDoubledNow cX1_isDoubledNow 1 (some .boolean)]
def wsX1_told : List Cond := .code yX1_told cX1_told 7 (some .int) :: ((wsX1_told_r1 ++ wsX1_told_r2) ++ wsX10)
def wsX1_fromCount_r1 : List Cond := [Cond.methodLink RX1 66 yX1_isYear, Cond.static yX1_isYear, Cond.initialized RX1, Cond.code yX1_isYear cX1_isYear 1 (some .boolean), Cond.methodLink RX1 40 yX1_isIn, Cond.static yX1_isIn, Cond.code yX1_isIn cX1_isIn 3 (some .boolean), Cond.methodLink RX1 93 yX1_told, Cond.instanceMethod yX1_told, Cond.selects RX1 yX1_told yX1_told, Cond.code yX1_told cX1_told 7 (some .int), Cond.methodLink RX1 49 yX1_begin, Cond.static yX1_begin, Cond.code yX1_begin cX1_begin 1 (some .int), Cond.methodLink RX1 19 yX1_splits, Cond.instanceMethod yX1_splits, Cond.selects RX1 yX1_splits yX1_splits, Cond.code yX1_splits cX1_splits 3 none, Cond.fieldLink RX1 56 "RomanCalendarModel" "year" "I", Cond.fieldLink RX1 27 "RomanCalendarModel" "month" "I", Cond.fieldLink RX1 23 "RomanCalendarModel" "day" "I", Cond.methodLink RX1 52 yX1_length, Cond.static yX1_length, Cond.code yX1_length cX1_length 2 (some .int)]
def wsX1_fromCount_r2 : List Cond := [Cond.methodLink RX1 45 yX1_isLeap, Cond.static yX1_isLeap, Cond.code yX1_isLeap cX1_isLeap 1 (some .boolean), Cond.methodLink RX1 79 yX1_anchorNow, Cond.instanceMethod yX1_anchorNow, Cond.selects RX1 yX1_anchorNow yX1_anchorNow, Cond.code yX1_anchorNow cX1_anchorNow 1 (some .int), Cond.methodLink RX1 34 yX1_ides, Cond.static yX1_ides, Cond.code yX1_ides cX1_ides 1 (some .int), Cond.methodLink RX1 30 yX1_nones, Cond.static yX1_nones, Cond.code yX1_nones cX1_nones 1 (some .int), Cond.methodLink RX1 83 yX1_anchorMonthNow, Cond.instanceMethod yX1_anchorMonthNow, Cond.selects RX1 yX1_anchorMonthNow yX1_anchorMonthNow, Cond.code yX1_anchorMonthNow cX1_anchorMonthNow 1 (some .int), Cond.methodLink RX1 86 yX1_countNow, Cond.instanceMethod yX1_countNow, Cond.selects RX1 yX1_countNow yX1_countNow, Cond.code yX1_countNow cX1_countNow 2 (some .int), Cond.methodLink RX1 89 yX1_isDoubledNow, Cond.instanceMethod yX1_isDoubledNow, Cond.selects RX1 yX1_isDoubledNow yX1_isDoubledNow]
def wsX1_fromCount_r3 : List Cond := [Cond.code yX1_isDoubledNow cX1_isDoubledNow 1 (some .boolean), Cond.methodLink RX1 62 yX1_isFine, Cond.instanceMethod yX1_isFine, Cond.selects RX1 yX1_isFine yX1_isFine, Cond.code yX1_isFine cX1_isFine 2 (some .boolean), Cond.fieldLink RX1 37 "RomanCalendarModel" "thrown" "I"]
def wsX1_fromCount : List Cond := .code yX1_fromCount cX1_fromCount 9 (some .int) :: ((wsX1_fromCount_r1 ++ (wsX1_fromCount_r2 ++ wsX1_fromCount_r3)) ++ wsX10)
def wsX1_greatestCount_r1 : List Cond := [Cond.methodLink RX1 66 yX1_isYear, Cond.static yX1_isYear, Cond.initialized RX1, Cond.code yX1_isYear cX1_isYear 1 (some .boolean), Cond.methodLink RX1 40 yX1_isIn, Cond.static yX1_isIn, Cond.code yX1_isIn cX1_isIn 3 (some .boolean), Cond.methodLink RX1 62 yX1_isFine, Cond.instanceMethod yX1_isFine, Cond.selects RX1 yX1_isFine yX1_isFine, Cond.code yX1_isFine cX1_isFine 2 (some .boolean), Cond.fieldLink RX1 37 "RomanCalendarModel" "thrown" "I", Cond.methodLink RX1 49 yX1_begin, Cond.static yX1_begin, Cond.code yX1_begin cX1_begin 1 (some .int), Cond.methodLink RX1 19 yX1_splits, Cond.instanceMethod yX1_splits, Cond.selects RX1 yX1_splits yX1_splits, Cond.code yX1_splits cX1_splits 3 none, Cond.fieldLink RX1 56 "RomanCalendarModel" "year" "I", Cond.fieldLink RX1 27 "RomanCalendarModel" "month" "I", Cond.fieldLink RX1 23 "RomanCalendarModel" "day" "I", Cond.methodLink RX1 52 yX1_length, Cond.static yX1_length]
def wsX1_greatestCount_r2 : List Cond := [Cond.code yX1_length cX1_length 2 (some .int), Cond.methodLink RX1 45 yX1_isLeap, Cond.static yX1_isLeap, Cond.code yX1_isLeap cX1_isLeap 1 (some .boolean), Cond.methodLink RX1 79 yX1_anchorNow, Cond.instanceMethod yX1_anchorNow, Cond.selects RX1 yX1_anchorNow yX1_anchorNow, Cond.code yX1_anchorNow cX1_anchorNow 1 (some .int), Cond.methodLink RX1 34 yX1_ides, Cond.static yX1_ides, Cond.code yX1_ides cX1_ides 1 (some .int), Cond.methodLink RX1 30 yX1_nones, Cond.static yX1_nones, Cond.code yX1_nones cX1_nones 1 (some .int), Cond.methodLink RX1 83 yX1_anchorMonthNow, Cond.instanceMethod yX1_anchorMonthNow, Cond.selects RX1 yX1_anchorMonthNow yX1_anchorMonthNow, Cond.code yX1_anchorMonthNow cX1_anchorMonthNow 1 (some .int), Cond.methodLink RX1 86 yX1_countNow, Cond.instanceMethod yX1_countNow, Cond.selects RX1 yX1_countNow yX1_countNow, Cond.code yX1_countNow cX1_countNow 2 (some .int)]
def wsX1_greatestCount : List Cond := .code yX1_greatestCount cX1_greatestCount 6 (some .int) :: ((wsX1_greatestCount_r1 ++ wsX1_greatestCount_r2) ++ wsX10)
def wsX1_lawful : List Cond := .code yX1_lawful cX1_lawful 3 (some .int) :: ([.fieldLink RX1 56 "RomanCalendarModel" "year" "I", .fieldLink RX1 27 "RomanCalendarModel" "month" "I", .fieldLink RX1 23 "RomanCalendarModel" "day" "I", .methodLink RX1 19 yX1_splits, .instanceMethod yX1_splits, .selects RX1 yX1_splits yX1_splits, .initialized RX1, .code yX1_splits cX1_splits 3 none, .methodLink RX1 49 yX1_begin, .static yX1_begin, .code yX1_begin cX1_begin 1 (some .int), .methodLink RX1 52 yX1_length, .static yX1_length, .code yX1_length cX1_length 2 (some .int), .methodLink RX1 45 yX1_isLeap, .static yX1_isLeap, .code yX1_isLeap cX1_isLeap 1 (some .boolean)] ++ wsX10)
def wsX1_lawNumber_r1 : List Cond := [Cond.methodLink RX1 59 yX1_isDay, Cond.static yX1_isDay, Cond.initialized RX1, Cond.code yX1_isDay cX1_isDay 1 (some .boolean), Cond.constant RX1 44 (1095749), Cond.methodLink RX1 40 yX1_isIn, Cond.static yX1_isIn, Cond.code yX1_isIn cX1_isIn 3 (some .boolean), Cond.methodLink RX1 62 yX1_isFine, Cond.instanceMethod yX1_isFine, Cond.selects RX1 yX1_isFine yX1_isFine, Cond.code yX1_isFine cX1_isFine 2 (some .boolean), Cond.fieldLink RX1 37 "RomanCalendarModel" "thrown" "I", Cond.methodLink RX1 97 yX1_lawful, Cond.instanceMethod yX1_lawful, Cond.selects RX1 yX1_lawful yX1_lawful, Cond.code yX1_lawful cX1_lawful 3 (some .int), Cond.fieldLink RX1 56 "RomanCalendarModel" "year" "I", Cond.fieldLink RX1 27 "RomanCalendarModel" "month" "I", Cond.fieldLink RX1 23 "RomanCalendarModel" "day" "I", Cond.methodLink RX1 19 yX1_splits, Cond.instanceMethod yX1_splits, Cond.selects RX1 yX1_splits yX1_splits, Cond.code yX1_splits cX1_splits 3 none]
def wsX1_lawNumber_r2 : List Cond := [Cond.methodLink RX1 49 yX1_begin, Cond.static yX1_begin, Cond.code yX1_begin cX1_begin 1 (some .int), Cond.methodLink RX1 52 yX1_length, Cond.static yX1_length, Cond.code yX1_length cX1_length 2 (some .int), Cond.methodLink RX1 45 yX1_isLeap, Cond.static yX1_isLeap, Cond.code yX1_isLeap cX1_isLeap 1 (some .boolean)]
def wsX1_lawNumber : List Cond := .code yX1_lawNumber cX1_lawNumber 2 (some .int) :: ((wsX1_lawNumber_r1 ++ wsX1_lawNumber_r2) ++ wsX10)
def wsX1_termEnd_r1 : List Cond := [Cond.constant RX1 100 (100000), Cond.constant RX1 65 (1095750), Cond.methodLink RX1 59 yX1_isDay, Cond.static yX1_isDay, Cond.initialized RX1, Cond.code yX1_isDay cX1_isDay 1 (some .boolean), Cond.constant RX1 44 (1095749), Cond.methodLink RX1 40 yX1_isIn, Cond.static yX1_isIn, Cond.code yX1_isIn cX1_isIn 3 (some .boolean), Cond.methodLink RX1 97 yX1_lawful, Cond.instanceMethod yX1_lawful, Cond.selects RX1 yX1_lawful yX1_lawful, Cond.code yX1_lawful cX1_lawful 3 (some .int), Cond.fieldLink RX1 56 "RomanCalendarModel" "year" "I", Cond.fieldLink RX1 27 "RomanCalendarModel" "month" "I", Cond.fieldLink RX1 23 "RomanCalendarModel" "day" "I", Cond.methodLink RX1 19 yX1_splits, Cond.instanceMethod yX1_splits, Cond.selects RX1 yX1_splits yX1_splits, Cond.code yX1_splits cX1_splits 3 none, Cond.methodLink RX1 49 yX1_begin, Cond.static yX1_begin, Cond.code yX1_begin cX1_begin 1 (some .int)]
def wsX1_termEnd_r2 : List Cond := [Cond.methodLink RX1 52 yX1_length, Cond.static yX1_length, Cond.code yX1_length cX1_length 2 (some .int), Cond.methodLink RX1 45 yX1_isLeap, Cond.static yX1_isLeap, Cond.code yX1_isLeap cX1_isLeap 1 (some .boolean), Cond.methodLink RX1 62 yX1_isFine, Cond.instanceMethod yX1_isFine, Cond.selects RX1 yX1_isFine yX1_isFine, Cond.code yX1_isFine cX1_isFine 2 (some .boolean), Cond.fieldLink RX1 37 "RomanCalendarModel" "thrown" "I"]
def wsX1_termEnd : List Cond := .code yX1_termEnd cX1_termEnd 8 (some .int) :: ((wsX1_termEnd_r1 ++ wsX1_termEnd_r2) ++ wsX10)
def wsX1_lawDays_r1 : List Cond := [Cond.methodLink RX1 59 yX1_isDay, Cond.static yX1_isDay, Cond.initialized RX1, Cond.code yX1_isDay cX1_isDay 1 (some .boolean), Cond.constant RX1 44 (1095749), Cond.methodLink RX1 40 yX1_isIn, Cond.static yX1_isIn, Cond.code yX1_isIn cX1_isIn 3 (some .boolean), Cond.methodLink RX1 62 yX1_isFine, Cond.instanceMethod yX1_isFine, Cond.selects RX1 yX1_isFine yX1_isFine, Cond.code yX1_isFine cX1_isFine 2 (some .boolean), Cond.fieldLink RX1 37 "RomanCalendarModel" "thrown" "I", Cond.methodLink RX1 97 yX1_lawful, Cond.instanceMethod yX1_lawful, Cond.selects RX1 yX1_lawful yX1_lawful, Cond.code yX1_lawful cX1_lawful 3 (some .int), Cond.fieldLink RX1 56 "RomanCalendarModel" "year" "I", Cond.fieldLink RX1 27 "RomanCalendarModel" "month" "I", Cond.fieldLink RX1 23 "RomanCalendarModel" "day" "I", Cond.methodLink RX1 19 yX1_splits, Cond.instanceMethod yX1_splits, Cond.selects RX1 yX1_splits yX1_splits, Cond.code yX1_splits cX1_splits 3 none]
def wsX1_lawDays_r2 : List Cond := [Cond.methodLink RX1 49 yX1_begin, Cond.static yX1_begin, Cond.code yX1_begin cX1_begin 1 (some .int), Cond.methodLink RX1 52 yX1_length, Cond.static yX1_length, Cond.code yX1_length cX1_length 2 (some .int), Cond.methodLink RX1 45 yX1_isLeap, Cond.static yX1_isLeap, Cond.code yX1_isLeap cX1_isLeap 1 (some .boolean)]
def wsX1_lawDays : List Cond := .code yX1_lawDays cX1_lawDays 3 (some .int) :: ((wsX1_lawDays_r1 ++ wsX1_lawDays_r2) ++ wsX10)
def wsX1_placed : List Cond := .code yX1_placed cX1_placed 3 (some .int) :: ([.fieldLink RX1 56 "RomanCalendarModel" "year" "I", .fieldLink RX1 27 "RomanCalendarModel" "month" "I", .fieldLink RX1 23 "RomanCalendarModel" "day" "I", .methodLink RX1 19 yX1_splits, .instanceMethod yX1_splits, .selects RX1 yX1_splits yX1_splits, .initialized RX1, .code yX1_splits cX1_splits 3 none, .methodLink RX1 49 yX1_begin, .static yX1_begin, .code yX1_begin cX1_begin 1 (some .int), .methodLink RX1 52 yX1_length, .static yX1_length, .code yX1_length cX1_length 2 (some .int), .methodLink RX1 45 yX1_isLeap, .static yX1_isLeap, .code yX1_isLeap cX1_isLeap 1 (some .boolean)] ++ wsX10)
def wsX1_placeOf_r1 : List Cond := [Cond.methodLink RX1 59 yX1_isDay, Cond.static yX1_isDay, Cond.initialized RX1, Cond.code yX1_isDay cX1_isDay 1 (some .boolean), Cond.constant RX1 44 (1095749), Cond.methodLink RX1 40 yX1_isIn, Cond.static yX1_isIn, Cond.code yX1_isIn cX1_isIn 3 (some .boolean), Cond.methodLink RX1 62 yX1_isFine, Cond.instanceMethod yX1_isFine, Cond.selects RX1 yX1_isFine yX1_isFine, Cond.code yX1_isFine cX1_isFine 2 (some .boolean), Cond.fieldLink RX1 37 "RomanCalendarModel" "thrown" "I", Cond.methodLink RX1 101 yX1_placed, Cond.instanceMethod yX1_placed, Cond.selects RX1 yX1_placed yX1_placed, Cond.code yX1_placed cX1_placed 3 (some .int), Cond.fieldLink RX1 56 "RomanCalendarModel" "year" "I", Cond.fieldLink RX1 27 "RomanCalendarModel" "month" "I", Cond.fieldLink RX1 23 "RomanCalendarModel" "day" "I", Cond.methodLink RX1 19 yX1_splits, Cond.instanceMethod yX1_splits, Cond.selects RX1 yX1_splits yX1_splits, Cond.code yX1_splits cX1_splits 3 none]
def wsX1_placeOf_r2 : List Cond := [Cond.methodLink RX1 49 yX1_begin, Cond.static yX1_begin, Cond.code yX1_begin cX1_begin 1 (some .int), Cond.methodLink RX1 52 yX1_length, Cond.static yX1_length, Cond.code yX1_length cX1_length 2 (some .int), Cond.methodLink RX1 45 yX1_isLeap, Cond.static yX1_isLeap, Cond.code yX1_isLeap cX1_isLeap 1 (some .boolean)]
def wsX1_placeOf : List Cond := .code yX1_placeOf cX1_placeOf 2 (some .int) :: ((wsX1_placeOf_r1 ++ wsX1_placeOf_r2) ++ wsX10)
def wsX1_letterOfEight_r1 : List Cond := [Cond.methodLink RX1 59 yX1_isDay, Cond.static yX1_isDay, Cond.initialized RX1, Cond.code yX1_isDay cX1_isDay 1 (some .boolean), Cond.constant RX1 44 (1095749), Cond.methodLink RX1 40 yX1_isIn, Cond.static yX1_isIn, Cond.code yX1_isIn cX1_isIn 3 (some .boolean), Cond.methodLink RX1 62 yX1_isFine, Cond.instanceMethod yX1_isFine, Cond.selects RX1 yX1_isFine yX1_isFine, Cond.code yX1_isFine cX1_isFine 2 (some .boolean), Cond.fieldLink RX1 37 "RomanCalendarModel" "thrown" "I", Cond.methodLink RX1 101 yX1_placed, Cond.instanceMethod yX1_placed, Cond.selects RX1 yX1_placed yX1_placed, Cond.code yX1_placed cX1_placed 3 (some .int), Cond.fieldLink RX1 56 "RomanCalendarModel" "year" "I", Cond.fieldLink RX1 27 "RomanCalendarModel" "month" "I", Cond.fieldLink RX1 23 "RomanCalendarModel" "day" "I", Cond.methodLink RX1 19 yX1_splits, Cond.instanceMethod yX1_splits, Cond.selects RX1 yX1_splits yX1_splits, Cond.code yX1_splits cX1_splits 3 none]
def wsX1_letterOfEight_r2 : List Cond := [Cond.methodLink RX1 49 yX1_begin, Cond.static yX1_begin, Cond.code yX1_begin cX1_begin 1 (some .int), Cond.methodLink RX1 52 yX1_length, Cond.static yX1_length, Cond.code yX1_length cX1_length 2 (some .int), Cond.methodLink RX1 45 yX1_isLeap, Cond.static yX1_isLeap, Cond.code yX1_isLeap cX1_isLeap 1 (some .boolean)]
def wsX1_letterOfEight : List Cond := .code yX1_letterOfEight cX1_letterOfEight 2 (some .int) :: ((wsX1_letterOfEight_r1 ++ wsX1_letterOfEight_r2) ++ wsX10)
def wsX1_letterOfSeven_r1 : List Cond := [Cond.methodLink RX1 59 yX1_isDay, Cond.static yX1_isDay, Cond.initialized RX1, Cond.code yX1_isDay cX1_isDay 1 (some .boolean), Cond.constant RX1 44 (1095749), Cond.methodLink RX1 40 yX1_isIn, Cond.static yX1_isIn, Cond.code yX1_isIn cX1_isIn 3 (some .boolean), Cond.methodLink RX1 62 yX1_isFine, Cond.instanceMethod yX1_isFine, Cond.selects RX1 yX1_isFine yX1_isFine, Cond.code yX1_isFine cX1_isFine 2 (some .boolean), Cond.fieldLink RX1 37 "RomanCalendarModel" "thrown" "I", Cond.methodLink RX1 101 yX1_placed, Cond.instanceMethod yX1_placed, Cond.selects RX1 yX1_placed yX1_placed, Cond.code yX1_placed cX1_placed 3 (some .int), Cond.fieldLink RX1 56 "RomanCalendarModel" "year" "I", Cond.fieldLink RX1 27 "RomanCalendarModel" "month" "I", Cond.fieldLink RX1 23 "RomanCalendarModel" "day" "I", Cond.methodLink RX1 19 yX1_splits, Cond.instanceMethod yX1_splits, Cond.selects RX1 yX1_splits yX1_splits, Cond.code yX1_splits cX1_splits 3 none]
def wsX1_letterOfSeven_r2 : List Cond := [Cond.methodLink RX1 49 yX1_begin, Cond.static yX1_begin, Cond.code yX1_begin cX1_begin 1 (some .int), Cond.methodLink RX1 52 yX1_length, Cond.static yX1_length, Cond.code yX1_length cX1_length 2 (some .int), Cond.methodLink RX1 45 yX1_isLeap, Cond.static yX1_isLeap, Cond.code yX1_isLeap cX1_isLeap 1 (some .boolean)]
def wsX1_letterOfSeven : List Cond := .code yX1_letterOfSeven cX1_letterOfSeven 2 (some .int) :: ((wsX1_letterOfSeven_r1 ++ wsX1_letterOfSeven_r2) ++ wsX10)
def wsX1_setMarketDay : List Cond := .code yX1_setMarketDay cX1_setMarketDay 3 (some .int) :: ([.fieldLink RX1 104 "RomanCalendarModel" "market" "I", .methodLink RX1 59 yX1_isDay, .static yX1_isDay, .initialized RX1, .code yX1_isDay cX1_isDay 1 (some .boolean), .constant RX1 44 (1095749), .methodLink RX1 40 yX1_isIn, .static yX1_isIn, .code yX1_isIn cX1_isIn 3 (some .boolean), .methodLink RX1 62 yX1_isFine, .instanceMethod yX1_isFine, .selects RX1 yX1_isFine yX1_isFine, .code yX1_isFine cX1_isFine 2 (some .boolean), .fieldLink RX1 37 "RomanCalendarModel" "thrown" "I"] ++ wsX10)
def wsX1_isMarket : List Cond := .code yX1_isMarket cX1_isMarket 2 (some .boolean) :: ([.fieldLink RX1 104 "RomanCalendarModel" "market" "I", .methodLink RX1 59 yX1_isDay, .static yX1_isDay, .initialized RX1, .code yX1_isDay cX1_isDay 1 (some .boolean), .constant RX1 44 (1095749), .methodLink RX1 40 yX1_isIn, .static yX1_isIn, .code yX1_isIn cX1_isIn 3 (some .boolean), .methodLink RX1 62 yX1_isFine, .instanceMethod yX1_isFine, .selects RX1 yX1_isFine yX1_isFine, .code yX1_isFine cX1_isFine 2 (some .boolean), .fieldLink RX1 37 "RomanCalendarModel" "thrown" "I"] ++ wsX10)
def wsX1_letters : List Cond := .code yX1_letters cX1_letters 6 (some .int) :: ([.methodLink RX1 49 yX1_begin, .static yX1_begin, .initialized RX1, .code yX1_begin cX1_begin 1 (some .int), .methodLink RX1 101 yX1_placed, .instanceMethod yX1_placed, .selects RX1 yX1_placed yX1_placed, .code yX1_placed cX1_placed 3 (some .int), .fieldLink RX1 56 "RomanCalendarModel" "year" "I", .fieldLink RX1 27 "RomanCalendarModel" "month" "I", .fieldLink RX1 23 "RomanCalendarModel" "day" "I", .methodLink RX1 19 yX1_splits, .instanceMethod yX1_splits, .selects RX1 yX1_splits yX1_splits, .code yX1_splits cX1_splits 3 none, .methodLink RX1 52 yX1_length, .static yX1_length, .code yX1_length cX1_length 2 (some .int), .methodLink RX1 45 yX1_isLeap, .static yX1_isLeap, .code yX1_isLeap cX1_isLeap 1 (some .boolean)] ++ wsX10)
def wsX1_marketLetters_r1 : List Cond := [Cond.fieldLink RX1 104 "RomanCalendarModel" "market" "I", Cond.methodLink RX1 66 yX1_isYear, Cond.static yX1_isYear, Cond.initialized RX1, Cond.code yX1_isYear cX1_isYear 1 (some .boolean), Cond.methodLink RX1 40 yX1_isIn, Cond.static yX1_isIn, Cond.code yX1_isIn cX1_isIn 3 (some .boolean), Cond.methodLink RX1 62 yX1_isFine, Cond.instanceMethod yX1_isFine, Cond.selects RX1 yX1_isFine yX1_isFine, Cond.code yX1_isFine cX1_isFine 2 (some .boolean), Cond.fieldLink RX1 37 "RomanCalendarModel" "thrown" "I", Cond.methodLink RX1 107 yX1_letters, Cond.instanceMethod yX1_letters, Cond.selects RX1 yX1_letters yX1_letters, Cond.code yX1_letters cX1_letters 6 (some .int), Cond.methodLink RX1 49 yX1_begin, Cond.static yX1_begin, Cond.code yX1_begin cX1_begin 1 (some .int), Cond.methodLink RX1 101 yX1_placed, Cond.instanceMethod yX1_placed, Cond.selects RX1 yX1_placed yX1_placed, Cond.code yX1_placed cX1_placed 3 (some .int)]
def wsX1_marketLetters_r2 : List Cond := [Cond.fieldLink RX1 56 "RomanCalendarModel" "year" "I", Cond.fieldLink RX1 27 "RomanCalendarModel" "month" "I", Cond.fieldLink RX1 23 "RomanCalendarModel" "day" "I", Cond.methodLink RX1 19 yX1_splits, Cond.instanceMethod yX1_splits, Cond.selects RX1 yX1_splits yX1_splits, Cond.code yX1_splits cX1_splits 3 none, Cond.methodLink RX1 52 yX1_length, Cond.static yX1_length, Cond.code yX1_length cX1_length 2 (some .int), Cond.methodLink RX1 45 yX1_isLeap, Cond.static yX1_isLeap, Cond.code yX1_isLeap cX1_isLeap 1 (some .boolean)]
def wsX1_marketLetters : List Cond := .code yX1_marketLetters cX1_marketLetters 2 (some .int) :: ((wsX1_marketLetters_r1 ++ wsX1_marketLetters_r2) ++ wsX10)
def wsX1_sundayLetters_r1 : List Cond := [Cond.methodLink RX1 66 yX1_isYear, Cond.static yX1_isYear, Cond.initialized RX1, Cond.code yX1_isYear cX1_isYear 1 (some .boolean), Cond.methodLink RX1 40 yX1_isIn, Cond.static yX1_isIn, Cond.code yX1_isIn cX1_isIn 3 (some .boolean), Cond.methodLink RX1 62 yX1_isFine, Cond.instanceMethod yX1_isFine, Cond.selects RX1 yX1_isFine yX1_isFine, Cond.code yX1_isFine cX1_isFine 2 (some .boolean), Cond.fieldLink RX1 37 "RomanCalendarModel" "thrown" "I", Cond.methodLink RX1 107 yX1_letters, Cond.instanceMethod yX1_letters, Cond.selects RX1 yX1_letters yX1_letters, Cond.code yX1_letters cX1_letters 6 (some .int), Cond.methodLink RX1 49 yX1_begin, Cond.static yX1_begin, Cond.code yX1_begin cX1_begin 1 (some .int), Cond.methodLink RX1 101 yX1_placed, Cond.instanceMethod yX1_placed, Cond.selects RX1 yX1_placed yX1_placed, Cond.code yX1_placed cX1_placed 3 (some .int), Cond.fieldLink RX1 56 "RomanCalendarModel" "year" "I"]
def wsX1_sundayLetters_r2 : List Cond := [Cond.fieldLink RX1 27 "RomanCalendarModel" "month" "I", Cond.fieldLink RX1 23 "RomanCalendarModel" "day" "I", Cond.methodLink RX1 19 yX1_splits, Cond.instanceMethod yX1_splits, Cond.selects RX1 yX1_splits yX1_splits, Cond.code yX1_splits cX1_splits 3 none, Cond.methodLink RX1 52 yX1_length, Cond.static yX1_length, Cond.code yX1_length cX1_length 2 (some .int), Cond.methodLink RX1 45 yX1_isLeap, Cond.static yX1_isLeap, Cond.code yX1_isLeap cX1_isLeap 1 (some .boolean)]
def wsX1_sundayLetters : List Cond := .code yX1_sundayLetters cX1_sundayLetters 2 (some .int) :: ((wsX1_sundayLetters_r1 ++ wsX1_sundayLetters_r2) ++ wsX10)
def wsX1_setConsuls : List Cond := .code yX1_setConsuls cX1_setConsuls 5 (some .int) :: ([.fieldLink RX1 13 "RomanCalendarModel" "first" "[I", .fieldLink RX1 110 "RomanCalendarModel" "written" "I", .fieldLink RX1 16 "RomanCalendarModel" "second" "[I", .methodLink RX1 40 yX1_isIn, .static yX1_isIn, .initialized RX1, .code yX1_isIn cX1_isIn 3 (some .boolean), .methodLink RX1 66 yX1_isYear, .static yX1_isYear, .code yX1_isYear cX1_isYear 1 (some .boolean), .methodLink RX1 62 yX1_isFine, .instanceMethod yX1_isFine, .selects RX1 yX1_isFine yX1_isFine, .code yX1_isFine cX1_isFine 2 (some .boolean), .fieldLink RX1 37 "RomanCalendarModel" "thrown" "I"] ++ wsX10)
def wsX1_strikeConsuls : List Cond := .code yX1_strikeConsuls cX1_strikeConsuls 2 (some .int) :: ([.fieldLink RX1 13 "RomanCalendarModel" "first" "[I", .fieldLink RX1 16 "RomanCalendarModel" "second" "[I", .fieldLink RX1 110 "RomanCalendarModel" "written" "I", .methodLink RX1 66 yX1_isYear, .static yX1_isYear, .initialized RX1, .code yX1_isYear cX1_isYear 1 (some .boolean), .methodLink RX1 40 yX1_isIn, .static yX1_isIn, .code yX1_isIn cX1_isIn 3 (some .boolean), .methodLink RX1 62 yX1_isFine, .instanceMethod yX1_isFine, .selects RX1 yX1_isFine yX1_isFine, .code yX1_isFine cX1_isFine 2 (some .boolean), .fieldLink RX1 37 "RomanCalendarModel" "thrown" "I"] ++ wsX10)
def wsX1_consulsOf : List Cond := .code yX1_consulsOf cX1_consulsOf 2 (some .int) :: ([.fieldLink RX1 13 "RomanCalendarModel" "first" "[I", .fieldLink RX1 16 "RomanCalendarModel" "second" "[I", .methodLink RX1 66 yX1_isYear, .static yX1_isYear, .initialized RX1, .code yX1_isYear cX1_isYear 1 (some .boolean), .methodLink RX1 40 yX1_isIn, .static yX1_isIn, .code yX1_isIn cX1_isIn 3 (some .boolean), .methodLink RX1 62 yX1_isFine, .instanceMethod yX1_isFine, .selects RX1 yX1_isFine yX1_isFine, .code yX1_isFine cX1_isFine 2 (some .boolean), .fieldLink RX1 37 "RomanCalendarModel" "thrown" "I"] ++ wsX10)
def wsX1_afterConsuls : List Cond := .code yX1_afterConsuls cX1_afterConsuls 3 (some .int) :: ([.fieldLink RX1 13 "RomanCalendarModel" "first" "[I", .methodLink RX1 66 yX1_isYear, .static yX1_isYear, .initialized RX1, .code yX1_isYear cX1_isYear 1 (some .boolean), .methodLink RX1 40 yX1_isIn, .static yX1_isIn, .code yX1_isIn cX1_isIn 3 (some .boolean), .methodLink RX1 62 yX1_isFine, .instanceMethod yX1_isFine, .selects RX1 yX1_isFine yX1_isFine, .code yX1_isFine cX1_isFine 2 (some .boolean), .fieldLink RX1 37 "RomanCalendarModel" "thrown" "I"] ++ wsX10)
def wsX1_yearOfConsuls : List Cond := .code yX1_yearOfConsuls cX1_yearOfConsuls 8 (some .int) :: ([.fieldLink RX1 13 "RomanCalendarModel" "first" "[I", .fieldLink RX1 16 "RomanCalendarModel" "second" "[I", .methodLink RX1 62 yX1_isFine, .instanceMethod yX1_isFine, .selects RX1 yX1_isFine yX1_isFine, .initialized RX1, .code yX1_isFine cX1_isFine 2 (some .boolean), .fieldLink RX1 37 "RomanCalendarModel" "thrown" "I"] ++ wsX10)
def wsX1_setCharacter : List Cond := .code yX1_setCharacter cX1_setCharacter 4 (some .int) :: ([.fieldLink RX1 7 "RomanCalendarModel" "character" "[I", .methodLink RX1 40 yX1_isIn, .static yX1_isIn, .initialized RX1, .code yX1_isIn cX1_isIn 3 (some .boolean), .methodLink RX1 62 yX1_isFine, .instanceMethod yX1_isFine, .selects RX1 yX1_isFine yX1_isFine, .code yX1_isFine cX1_isFine 2 (some .boolean), .fieldLink RX1 37 "RomanCalendarModel" "thrown" "I"] ++ wsX10)
def wsX1_characterOf_r1 : List Cond := [Cond.fieldLink RX1 7 "RomanCalendarModel" "character" "[I", Cond.methodLink RX1 59 yX1_isDay, Cond.static yX1_isDay, Cond.initialized RX1, Cond.code yX1_isDay cX1_isDay 1 (some .boolean), Cond.constant RX1 44 (1095749), Cond.methodLink RX1 40 yX1_isIn, Cond.static yX1_isIn, Cond.code yX1_isIn cX1_isIn 3 (some .boolean), Cond.methodLink RX1 62 yX1_isFine, Cond.instanceMethod yX1_isFine, Cond.selects RX1 yX1_isFine yX1_isFine, Cond.code yX1_isFine cX1_isFine 2 (some .boolean), Cond.fieldLink RX1 37 "RomanCalendarModel" "thrown" "I", Cond.methodLink RX1 101 yX1_placed, Cond.instanceMethod yX1_placed, Cond.selects RX1 yX1_placed yX1_placed, Cond.code yX1_placed cX1_placed 3 (some .int), Cond.fieldLink RX1 56 "RomanCalendarModel" "year" "I", Cond.fieldLink RX1 27 "RomanCalendarModel" "month" "I", Cond.fieldLink RX1 23 "RomanCalendarModel" "day" "I", Cond.methodLink RX1 19 yX1_splits, Cond.instanceMethod yX1_splits, Cond.selects RX1 yX1_splits yX1_splits]
def wsX1_characterOf_r2 : List Cond := [Cond.code yX1_splits cX1_splits 3 none, Cond.methodLink RX1 49 yX1_begin, Cond.static yX1_begin, Cond.code yX1_begin cX1_begin 1 (some .int), Cond.methodLink RX1 52 yX1_length, Cond.static yX1_length, Cond.code yX1_length cX1_length 2 (some .int), Cond.methodLink RX1 45 yX1_isLeap, Cond.static yX1_isLeap, Cond.code yX1_isLeap cX1_isLeap 1 (some .boolean)]
def wsX1_characterOf : List Cond := .code yX1_characterOf cX1_characterOf 2 (some .int) :: ((wsX1_characterOf_r1 ++ wsX1_characterOf_r2) ++ wsX10)
def wsX1_isVoting : List Cond := .code yX1_isVoting cX1_isVoting 2 (some .boolean) :: ([.fieldLink RX1 7 "RomanCalendarModel" "character" "[I", .fieldLink RX1 104 "RomanCalendarModel" "market" "I", .methodLink RX1 101 yX1_placed, .instanceMethod yX1_placed, .selects RX1 yX1_placed yX1_placed, .initialized RX1, .code yX1_placed cX1_placed 3 (some .int), .fieldLink RX1 56 "RomanCalendarModel" "year" "I", .fieldLink RX1 27 "RomanCalendarModel" "month" "I", .fieldLink RX1 23 "RomanCalendarModel" "day" "I", .methodLink RX1 19 yX1_splits, .instanceMethod yX1_splits, .selects RX1 yX1_splits yX1_splits, .code yX1_splits cX1_splits 3 none, .methodLink RX1 49 yX1_begin, .static yX1_begin, .code yX1_begin cX1_begin 1 (some .int), .methodLink RX1 52 yX1_length, .static yX1_length, .code yX1_length cX1_length 2 (some .int), .methodLink RX1 45 yX1_isLeap, .static yX1_isLeap, .code yX1_isLeap cX1_isLeap 1 (some .boolean)] ++ wsX10)
def wsX1_canVote_r1 : List Cond := [Cond.methodLink RX1 59 yX1_isDay, Cond.static yX1_isDay, Cond.initialized RX1, Cond.code yX1_isDay cX1_isDay 1 (some .boolean), Cond.constant RX1 44 (1095749), Cond.methodLink RX1 40 yX1_isIn, Cond.static yX1_isIn, Cond.code yX1_isIn cX1_isIn 3 (some .boolean), Cond.methodLink RX1 62 yX1_isFine, Cond.instanceMethod yX1_isFine, Cond.selects RX1 yX1_isFine yX1_isFine, Cond.code yX1_isFine cX1_isFine 2 (some .boolean), Cond.fieldLink RX1 37 "RomanCalendarModel" "thrown" "I", Cond.methodLink RX1 113 yX1_isVoting, Cond.instanceMethod yX1_isVoting, Cond.selects RX1 yX1_isVoting yX1_isVoting, Cond.code yX1_isVoting cX1_isVoting 2 (some .boolean), Cond.fieldLink RX1 7 "RomanCalendarModel" "character" "[I", Cond.fieldLink RX1 104 "RomanCalendarModel" "market" "I", Cond.methodLink RX1 101 yX1_placed, Cond.instanceMethod yX1_placed, Cond.selects RX1 yX1_placed yX1_placed, Cond.code yX1_placed cX1_placed 3 (some .int), Cond.fieldLink RX1 56 "RomanCalendarModel" "year" "I"]
def wsX1_canVote_r2 : List Cond := [Cond.fieldLink RX1 27 "RomanCalendarModel" "month" "I", Cond.fieldLink RX1 23 "RomanCalendarModel" "day" "I", Cond.methodLink RX1 19 yX1_splits, Cond.instanceMethod yX1_splits, Cond.selects RX1 yX1_splits yX1_splits, Cond.code yX1_splits cX1_splits 3 none, Cond.methodLink RX1 49 yX1_begin, Cond.static yX1_begin, Cond.code yX1_begin cX1_begin 1 (some .int), Cond.methodLink RX1 52 yX1_length, Cond.static yX1_length, Cond.code yX1_length cX1_length 2 (some .int), Cond.methodLink RX1 45 yX1_isLeap, Cond.static yX1_isLeap, Cond.code yX1_isLeap cX1_isLeap 1 (some .boolean)]
def wsX1_canVote : List Cond := .code yX1_canVote cX1_canVote 2 (some .boolean) :: ((wsX1_canVote_r1 ++ wsX1_canVote_r2) ++ wsX10)
def wsX1_nextCourt_r1 : List Cond := [Cond.constant RX1 65 (1095750), Cond.fieldLink RX1 7 "RomanCalendarModel" "character" "[I", Cond.methodLink RX1 59 yX1_isDay, Cond.static yX1_isDay, Cond.initialized RX1, Cond.code yX1_isDay cX1_isDay 1 (some .boolean), Cond.constant RX1 44 (1095749), Cond.methodLink RX1 40 yX1_isIn, Cond.static yX1_isIn, Cond.code yX1_isIn cX1_isIn 3 (some .boolean), Cond.methodLink RX1 62 yX1_isFine, Cond.instanceMethod yX1_isFine, Cond.selects RX1 yX1_isFine yX1_isFine, Cond.code yX1_isFine cX1_isFine 2 (some .boolean), Cond.fieldLink RX1 37 "RomanCalendarModel" "thrown" "I", Cond.methodLink RX1 101 yX1_placed, Cond.instanceMethod yX1_placed, Cond.selects RX1 yX1_placed yX1_placed, Cond.code yX1_placed cX1_placed 3 (some .int), Cond.fieldLink RX1 56 "RomanCalendarModel" "year" "I", Cond.fieldLink RX1 27 "RomanCalendarModel" "month" "I", Cond.fieldLink RX1 23 "RomanCalendarModel" "day" "I", Cond.methodLink RX1 19 yX1_splits, Cond.instanceMethod yX1_splits]
def wsX1_nextCourt_r2 : List Cond := [Cond.selects RX1 yX1_splits yX1_splits, Cond.code yX1_splits cX1_splits 3 none, Cond.methodLink RX1 49 yX1_begin, Cond.static yX1_begin, Cond.code yX1_begin cX1_begin 1 (some .int), Cond.methodLink RX1 52 yX1_length, Cond.static yX1_length, Cond.code yX1_length cX1_length 2 (some .int), Cond.methodLink RX1 45 yX1_isLeap, Cond.static yX1_isLeap, Cond.code yX1_isLeap cX1_isLeap 1 (some .boolean)]
def wsX1_nextCourt : List Cond := .code yX1_nextCourt cX1_nextCourt 4 (some .int) :: ((wsX1_nextCourt_r1 ++ wsX1_nextCourt_r2) ++ wsX10)
def wsX1_votes_r1 : List Cond := [Cond.methodLink RX1 66 yX1_isYear, Cond.static yX1_isYear, Cond.initialized RX1, Cond.code yX1_isYear cX1_isYear 1 (some .boolean), Cond.methodLink RX1 40 yX1_isIn, Cond.static yX1_isIn, Cond.code yX1_isIn cX1_isIn 3 (some .boolean), Cond.methodLink RX1 62 yX1_isFine, Cond.instanceMethod yX1_isFine, Cond.selects RX1 yX1_isFine yX1_isFine, Cond.code yX1_isFine cX1_isFine 2 (some .boolean), Cond.fieldLink RX1 37 "RomanCalendarModel" "thrown" "I", Cond.methodLink RX1 49 yX1_begin, Cond.static yX1_begin, Cond.code yX1_begin cX1_begin 1 (some .int), Cond.methodLink RX1 113 yX1_isVoting, Cond.instanceMethod yX1_isVoting, Cond.selects RX1 yX1_isVoting yX1_isVoting, Cond.code yX1_isVoting cX1_isVoting 2 (some .boolean), Cond.fieldLink RX1 7 "RomanCalendarModel" "character" "[I", Cond.fieldLink RX1 104 "RomanCalendarModel" "market" "I", Cond.methodLink RX1 101 yX1_placed, Cond.instanceMethod yX1_placed, Cond.selects RX1 yX1_placed yX1_placed]
def wsX1_votes_r2 : List Cond := [Cond.code yX1_placed cX1_placed 3 (some .int), Cond.fieldLink RX1 56 "RomanCalendarModel" "year" "I", Cond.fieldLink RX1 27 "RomanCalendarModel" "month" "I", Cond.fieldLink RX1 23 "RomanCalendarModel" "day" "I", Cond.methodLink RX1 19 yX1_splits, Cond.instanceMethod yX1_splits, Cond.selects RX1 yX1_splits yX1_splits, Cond.code yX1_splits cX1_splits 3 none, Cond.methodLink RX1 52 yX1_length, Cond.static yX1_length, Cond.code yX1_length cX1_length 2 (some .int), Cond.methodLink RX1 45 yX1_isLeap, Cond.static yX1_isLeap, Cond.code yX1_isLeap cX1_isLeap 1 (some .boolean)]
def wsX1_votes : List Cond := .code yX1_votes cX1_votes 4 (some .int) :: ((wsX1_votes_r1 ++ wsX1_votes_r2) ++ wsX10)
def wsJ9_min_7cf53 : List Cond := .code yJ9_min_7cf53 cJ9_min_7cf53 2 (some .int) :: ([])
def wsL_number_r1 : List Cond := [Cond.classLink RL 13 "java/lang/IndexOutOfBoundsException", Cond.methodLink RL 7 yX0_number, Cond.instanceMethod yX0_number, Cond.selects RX0 yX0_number yX0_number, Cond.initialized RX0, Cond.code yX0_number cX0_number 4 (some .int), Cond.methodLink RX0 32 yX0_checkDate, Cond.static yX0_checkDate, Cond.code yX0_checkDate cX0_checkDate 3 none, Cond.classLink RX0 153 "java/lang/IndexOutOfBoundsException", Cond.initialized "java/lang/IndexOutOfBoundsException", Cond.methodLink RX0 66 yX0_checkYear, Cond.static yX0_checkYear, Cond.code yX0_checkYear cX0_checkYear 1 none, Cond.methodLink RX0 69 yX0_checkMonth, Cond.static yX0_checkMonth, Cond.code yX0_checkMonth cX0_checkMonth 1 none, Cond.methodLink RX0 43 yX0_lengthOf, Cond.static yX0_lengthOf, Cond.code yX0_lengthOf cX0_lengthOf 3 (some .int), Cond.methodLink RX0 179 yX0_isLeap, Cond.static yX0_isLeap, Cond.code yX0_isLeap cX0_isLeap 1 (some .boolean), Cond.methodLink RX0 182 yX0_commonLengthOf]
def wsL_number_r2 : List Cond := [Cond.static yX0_commonLengthOf, Cond.code yX0_commonLengthOf cX0_commonLengthOf 1 (some .int), Cond.methodLink RX0 36 yX0_firstDayOf, Cond.static yX0_firstDayOf, Cond.code yX0_firstDayOf cX0_firstDayOf 1 (some .int), Cond.methodLink RX0 40 yX0_daysBefore, Cond.static yX0_daysBefore, Cond.code yX0_daysBefore cX0_daysBefore 3 (some .int), Cond.methodLink RX0 185 yX0_commonDaysBefore, Cond.static yX0_commonDaysBefore, Cond.code yX0_commonDaysBefore cX0_commonDaysBefore 3 (some .int)]
def wsL_number : List Cond := .codeWith yL_number cL_number 6 (some .int) [(0, 12, 15, 13)] :: ((wsL_number_r1 ++ wsL_number_r2) ++ (vx_atS RX0 157 "java/lang/IndexOutOfBoundsException" ["java/lang/RuntimeException", "java/lang/Exception"]).filter goodWord)
def wsL_numberByCounting_r1 : List Cond := [Cond.classLink RL 13 "java/lang/IndexOutOfBoundsException", Cond.methodLink RL 15 yX0_numberByCounting, Cond.instanceMethod yX0_numberByCounting, Cond.selects RX0 yX0_numberByCounting yX0_numberByCounting, Cond.initialized RX0, Cond.code yX0_numberByCounting cX0_numberByCounting 8 (some .int), Cond.methodLink RX0 32 yX0_checkDate, Cond.static yX0_checkDate, Cond.code yX0_checkDate cX0_checkDate 3 none, Cond.classLink RX0 153 "java/lang/IndexOutOfBoundsException", Cond.initialized "java/lang/IndexOutOfBoundsException", Cond.methodLink RX0 66 yX0_checkYear, Cond.static yX0_checkYear, Cond.code yX0_checkYear cX0_checkYear 1 none, Cond.methodLink RX0 69 yX0_checkMonth, Cond.static yX0_checkMonth, Cond.code yX0_checkMonth cX0_checkMonth 1 none, Cond.methodLink RX0 43 yX0_lengthOf, Cond.static yX0_lengthOf, Cond.code yX0_lengthOf cX0_lengthOf 3 (some .int), Cond.methodLink RX0 179 yX0_isLeap, Cond.static yX0_isLeap, Cond.code yX0_isLeap cX0_isLeap 1 (some .boolean), Cond.methodLink RX0 182 yX0_commonLengthOf]
def wsL_numberByCounting_r2 : List Cond := [Cond.static yX0_commonLengthOf, Cond.code yX0_commonLengthOf cX0_commonLengthOf 1 (some .int), Cond.methodLink RX0 36 yX0_firstDayOf, Cond.static yX0_firstDayOf, Cond.code yX0_firstDayOf cX0_firstDayOf 1 (some .int)]
def wsL_numberByCounting : List Cond := .codeWith yL_numberByCounting cL_numberByCounting 6 (some .int) [(0, 12, 15, 13)] :: ((wsL_numberByCounting_r1 ++ wsL_numberByCounting_r2) ++ (vx_atS RX0 157 "java/lang/IndexOutOfBoundsException" ["java/lang/RuntimeException", "java/lang/Exception"]).filter goodWord)
def wsL_yearOf : List Cond := .codeWith yL_yearOf cL_yearOf 4 (some .int) [(0, 9, 12, 13)] :: ([.classLink RL 13 "java/lang/IndexOutOfBoundsException", .methodLink RL 18 yX0_yearOf, .instanceMethod yX0_yearOf, .selects RX0 yX0_yearOf yX0_yearOf, .initialized RX0, .code yX0_yearOf cX0_yearOf 2 (some .int), .methodLink RX0 46 yX0_checkNumber, .static yX0_checkNumber, .code yX0_checkNumber cX0_checkNumber 1 none, .classLink RX0 153 "java/lang/IndexOutOfBoundsException", .initialized "java/lang/IndexOutOfBoundsException", .constant RX0 31 (1095750), .methodLink RX0 50 yX0_yearAt, .static yX0_yearAt, .code yX0_yearAt cX0_yearAt 2 (some .int), .methodLink RX0 166 Lib.Math.min.name, .static Lib.Math.min.name, .initialized "java/lang/Math", .code Lib.Math.min.name Lib.Math.min.code 2 (some .int)] ++ (vx_atS RX0 157 "java/lang/IndexOutOfBoundsException" ["java/lang/RuntimeException", "java/lang/Exception"]).filter goodWord)
def wsL_monthOf_r1 : List Cond := [Cond.classLink RL 13 "java/lang/IndexOutOfBoundsException", Cond.methodLink RL 22 yX0_monthOf, Cond.instanceMethod yX0_monthOf, Cond.selects RX0 yX0_monthOf yX0_monthOf, Cond.initialized RX0, Cond.code yX0_monthOf cX0_monthOf 2 (some .int), Cond.methodLink RX0 46 yX0_checkNumber, Cond.static yX0_checkNumber, Cond.code yX0_checkNumber cX0_checkNumber 1 none, Cond.classLink RX0 153 "java/lang/IndexOutOfBoundsException", Cond.initialized "java/lang/IndexOutOfBoundsException", Cond.constant RX0 31 (1095750), Cond.methodLink RX0 53 yX0_placeAt, Cond.static yX0_placeAt, Cond.code yX0_placeAt cX0_placeAt 1 (some .int), Cond.methodLink RX0 99 yX0_lawNumberAt, Cond.static yX0_lawNumberAt, Cond.code yX0_lawNumberAt cX0_lawNumberAt 1 (some .int), Cond.methodLink RX0 188 yX0_doubledDaysBefore, Cond.static yX0_doubledDaysBefore, Cond.code yX0_doubledDaysBefore cX0_doubledDaysBefore 1 (some .int), Cond.methodLink RX0 56 yX0_monthOfPlace, Cond.static yX0_monthOfPlace, Cond.code yX0_monthOfPlace cX0_monthOfPlace 3 (some .int)]
def wsL_monthOf_r2 : List Cond := [Cond.methodLink RX0 182 yX0_commonLengthOf, Cond.static yX0_commonLengthOf, Cond.code yX0_commonLengthOf cX0_commonLengthOf 1 (some .int)]
def wsL_monthOf : List Cond := .codeWith yL_monthOf cL_monthOf 4 (some .int) [(0, 9, 12, 13)] :: ((wsL_monthOf_r1 ++ wsL_monthOf_r2) ++ (vx_atS RX0 157 "java/lang/IndexOutOfBoundsException" ["java/lang/RuntimeException", "java/lang/Exception"]).filter goodWord)
def wsL_dayOf_r1 : List Cond := [Cond.classLink RL 13 "java/lang/IndexOutOfBoundsException", Cond.methodLink RL 25 yX0_dayOf, Cond.instanceMethod yX0_dayOf, Cond.selects RX0 yX0_dayOf yX0_dayOf, Cond.initialized RX0, Cond.code yX0_dayOf cX0_dayOf 4 (some .int), Cond.methodLink RX0 46 yX0_checkNumber, Cond.static yX0_checkNumber, Cond.code yX0_checkNumber cX0_checkNumber 1 none, Cond.classLink RX0 153 "java/lang/IndexOutOfBoundsException", Cond.initialized "java/lang/IndexOutOfBoundsException", Cond.constant RX0 31 (1095750), Cond.methodLink RX0 50 yX0_yearAt, Cond.static yX0_yearAt, Cond.code yX0_yearAt cX0_yearAt 2 (some .int), Cond.methodLink RX0 166 Lib.Math.min.name, Cond.static Lib.Math.min.name, Cond.initialized "java/lang/Math", Cond.code Lib.Math.min.name Lib.Math.min.code 2 (some .int), Cond.methodLink RX0 53 yX0_placeAt, Cond.static yX0_placeAt, Cond.code yX0_placeAt cX0_placeAt 1 (some .int), Cond.methodLink RX0 99 yX0_lawNumberAt, Cond.static yX0_lawNumberAt]
def wsL_dayOf_r2 : List Cond := [Cond.code yX0_lawNumberAt cX0_lawNumberAt 1 (some .int), Cond.methodLink RX0 188 yX0_doubledDaysBefore, Cond.static yX0_doubledDaysBefore, Cond.code yX0_doubledDaysBefore cX0_doubledDaysBefore 1 (some .int), Cond.methodLink RX0 56 yX0_monthOfPlace, Cond.static yX0_monthOfPlace, Cond.code yX0_monthOfPlace cX0_monthOfPlace 3 (some .int), Cond.methodLink RX0 182 yX0_commonLengthOf, Cond.static yX0_commonLengthOf, Cond.code yX0_commonLengthOf cX0_commonLengthOf 1 (some .int), Cond.methodLink RX0 36 yX0_firstDayOf, Cond.static yX0_firstDayOf, Cond.code yX0_firstDayOf cX0_firstDayOf 1 (some .int), Cond.methodLink RX0 40 yX0_daysBefore, Cond.static yX0_daysBefore, Cond.code yX0_daysBefore cX0_daysBefore 3 (some .int), Cond.methodLink RX0 179 yX0_isLeap, Cond.static yX0_isLeap, Cond.code yX0_isLeap cX0_isLeap 1 (some .boolean), Cond.methodLink RX0 185 yX0_commonDaysBefore, Cond.static yX0_commonDaysBefore, Cond.code yX0_commonDaysBefore cX0_commonDaysBefore 3 (some .int)]
def wsL_dayOf : List Cond := .codeWith yL_dayOf cL_dayOf 4 (some .int) [(0, 9, 12, 13)] :: ((wsL_dayOf_r1 ++ wsL_dayOf_r2) ++ (vx_atS RX0 157 "java/lang/IndexOutOfBoundsException" ["java/lang/RuntimeException", "java/lang/Exception"]).filter goodWord)
def wsL_weekdayOf : List Cond := .codeWith yL_weekdayOf cL_weekdayOf 4 (some .int) [(0, 9, 12, 13)] :: ([.classLink RL 13 "java/lang/IndexOutOfBoundsException", .methodLink RL 28 yX0_weekdayOf, .instanceMethod yX0_weekdayOf, .selects RX0 yX0_weekdayOf yX0_weekdayOf, .initialized RX0, .code yX0_weekdayOf cX0_weekdayOf 2 (some .int), .methodLink RX0 46 yX0_checkNumber, .static yX0_checkNumber, .code yX0_checkNumber cX0_checkNumber 1 none, .classLink RX0 153 "java/lang/IndexOutOfBoundsException", .initialized "java/lang/IndexOutOfBoundsException", .constant RX0 31 (1095750)] ++ (vx_atS RX0 157 "java/lang/IndexOutOfBoundsException" ["java/lang/RuntimeException", "java/lang/Exception"]).filter goodWord)
def wsL_anchorOf_r1 : List Cond := [Cond.classLink RL 13 "java/lang/IndexOutOfBoundsException", Cond.methodLink RL 31 yX0_anchorOf, Cond.instanceMethod yX0_anchorOf, Cond.selects RX0 yX0_anchorOf yX0_anchorOf, Cond.initialized RX0, Cond.code yX0_anchorOf cX0_anchorOf 2 (some .int), Cond.methodLink RX0 46 yX0_checkNumber, Cond.static yX0_checkNumber, Cond.code yX0_checkNumber cX0_checkNumber 1 none, Cond.classLink RX0 153 "java/lang/IndexOutOfBoundsException", Cond.initialized "java/lang/IndexOutOfBoundsException", Cond.constant RX0 31 (1095750), Cond.methodLink RX0 53 yX0_placeAt, Cond.static yX0_placeAt, Cond.code yX0_placeAt cX0_placeAt 1 (some .int), Cond.methodLink RX0 99 yX0_lawNumberAt, Cond.static yX0_lawNumberAt, Cond.code yX0_lawNumberAt cX0_lawNumberAt 1 (some .int), Cond.methodLink RX0 188 yX0_doubledDaysBefore, Cond.static yX0_doubledDaysBefore, Cond.code yX0_doubledDaysBefore cX0_doubledDaysBefore 1 (some .int), Cond.methodLink RX0 59 yX0_anchorOfPlace, Cond.static yX0_anchorOfPlace, Cond.code yX0_anchorOfPlace cX0_anchorOfPlace 2 (some .int)]
def wsL_anchorOf_r2 : List Cond := [Cond.methodLink RX0 56 yX0_monthOfPlace, Cond.static yX0_monthOfPlace, Cond.code yX0_monthOfPlace cX0_monthOfPlace 3 (some .int), Cond.methodLink RX0 182 yX0_commonLengthOf, Cond.static yX0_commonLengthOf, Cond.code yX0_commonLengthOf cX0_commonLengthOf 1 (some .int), Cond.methodLink RX0 23 yX0_placeOfAnchor, Cond.static yX0_placeOfAnchor, Cond.code yX0_placeOfAnchor cX0_placeOfAnchor 4 (some .int), Cond.methodLink RX0 185 yX0_commonDaysBefore, Cond.static yX0_commonDaysBefore, Cond.code yX0_commonDaysBefore cX0_commonDaysBefore 3 (some .int), Cond.methodLink RX0 191 yX0_nonesDayOf, Cond.static yX0_nonesDayOf, Cond.code yX0_nonesDayOf cX0_nonesDayOf 1 (some .int), Cond.methodLink RX0 62 yX0_isBehindIdes, Cond.static yX0_isBehindIdes, Cond.code yX0_isBehindIdes cX0_isBehindIdes 1 (some .boolean)]
def wsL_anchorOf : List Cond := .codeWith yL_anchorOf cL_anchorOf 4 (some .int) [(0, 9, 12, 13)] :: ((wsL_anchorOf_r1 ++ wsL_anchorOf_r2) ++ (vx_atS RX0 157 "java/lang/IndexOutOfBoundsException" ["java/lang/RuntimeException", "java/lang/Exception"]).filter goodWord)
def wsL_anchorMonthOf_r1 : List Cond := [Cond.classLink RL 13 "java/lang/IndexOutOfBoundsException", Cond.methodLink RL 34 yX0_anchorMonthOf, Cond.instanceMethod yX0_anchorMonthOf, Cond.selects RX0 yX0_anchorMonthOf yX0_anchorMonthOf, Cond.initialized RX0, Cond.code yX0_anchorMonthOf cX0_anchorMonthOf 4 (some .int), Cond.methodLink RX0 46 yX0_checkNumber, Cond.static yX0_checkNumber, Cond.code yX0_checkNumber cX0_checkNumber 1 none, Cond.classLink RX0 153 "java/lang/IndexOutOfBoundsException", Cond.initialized "java/lang/IndexOutOfBoundsException", Cond.constant RX0 31 (1095750), Cond.methodLink RX0 53 yX0_placeAt, Cond.static yX0_placeAt, Cond.code yX0_placeAt cX0_placeAt 1 (some .int), Cond.methodLink RX0 99 yX0_lawNumberAt, Cond.static yX0_lawNumberAt, Cond.code yX0_lawNumberAt cX0_lawNumberAt 1 (some .int), Cond.methodLink RX0 188 yX0_doubledDaysBefore, Cond.static yX0_doubledDaysBefore, Cond.code yX0_doubledDaysBefore cX0_doubledDaysBefore 1 (some .int), Cond.methodLink RX0 56 yX0_monthOfPlace, Cond.static yX0_monthOfPlace, Cond.code yX0_monthOfPlace cX0_monthOfPlace 3 (some .int)]
def wsL_anchorMonthOf_r2 : List Cond := [Cond.methodLink RX0 182 yX0_commonLengthOf, Cond.static yX0_commonLengthOf, Cond.code yX0_commonLengthOf cX0_commonLengthOf 1 (some .int), Cond.methodLink RX0 62 yX0_isBehindIdes, Cond.static yX0_isBehindIdes, Cond.code yX0_isBehindIdes cX0_isBehindIdes 1 (some .boolean), Cond.methodLink RX0 23 yX0_placeOfAnchor, Cond.static yX0_placeOfAnchor, Cond.code yX0_placeOfAnchor cX0_placeOfAnchor 4 (some .int), Cond.methodLink RX0 185 yX0_commonDaysBefore, Cond.static yX0_commonDaysBefore, Cond.code yX0_commonDaysBefore cX0_commonDaysBefore 3 (some .int), Cond.methodLink RX0 191 yX0_nonesDayOf, Cond.static yX0_nonesDayOf, Cond.code yX0_nonesDayOf cX0_nonesDayOf 1 (some .int)]
def wsL_anchorMonthOf : List Cond := .codeWith yL_anchorMonthOf cL_anchorMonthOf 4 (some .int) [(0, 9, 12, 13)] :: ((wsL_anchorMonthOf_r1 ++ wsL_anchorMonthOf_r2) ++ (vx_atS RX0 157 "java/lang/IndexOutOfBoundsException" ["java/lang/RuntimeException", "java/lang/Exception"]).filter goodWord)
def wsL_countOf_r1 : List Cond := [Cond.classLink RL 13 "java/lang/IndexOutOfBoundsException", Cond.methodLink RL 37 yX0_countOf, Cond.instanceMethod yX0_countOf, Cond.selects RX0 yX0_countOf yX0_countOf, Cond.initialized RX0, Cond.code yX0_countOf cX0_countOf 5 (some .int), Cond.methodLink RX0 46 yX0_checkNumber, Cond.static yX0_checkNumber, Cond.code yX0_checkNumber cX0_checkNumber 1 none, Cond.classLink RX0 153 "java/lang/IndexOutOfBoundsException", Cond.initialized "java/lang/IndexOutOfBoundsException", Cond.constant RX0 31 (1095750), Cond.methodLink RX0 53 yX0_placeAt, Cond.static yX0_placeAt, Cond.code yX0_placeAt cX0_placeAt 1 (some .int), Cond.methodLink RX0 99 yX0_lawNumberAt, Cond.static yX0_lawNumberAt, Cond.code yX0_lawNumberAt cX0_lawNumberAt 1 (some .int), Cond.methodLink RX0 188 yX0_doubledDaysBefore, Cond.static yX0_doubledDaysBefore, Cond.code yX0_doubledDaysBefore cX0_doubledDaysBefore 1 (some .int), Cond.methodLink RX0 56 yX0_monthOfPlace, Cond.static yX0_monthOfPlace, Cond.code yX0_monthOfPlace cX0_monthOfPlace 3 (some .int)]
def wsL_countOf_r2 : List Cond := [Cond.methodLink RX0 182 yX0_commonLengthOf, Cond.static yX0_commonLengthOf, Cond.code yX0_commonLengthOf cX0_commonLengthOf 1 (some .int), Cond.methodLink RX0 62 yX0_isBehindIdes, Cond.static yX0_isBehindIdes, Cond.code yX0_isBehindIdes cX0_isBehindIdes 1 (some .boolean), Cond.methodLink RX0 23 yX0_placeOfAnchor, Cond.static yX0_placeOfAnchor, Cond.code yX0_placeOfAnchor cX0_placeOfAnchor 4 (some .int), Cond.methodLink RX0 185 yX0_commonDaysBefore, Cond.static yX0_commonDaysBefore, Cond.code yX0_commonDaysBefore cX0_commonDaysBefore 3 (some .int), Cond.methodLink RX0 191 yX0_nonesDayOf, Cond.static yX0_nonesDayOf, Cond.code yX0_nonesDayOf cX0_nonesDayOf 1 (some .int), Cond.methodLink RX0 59 yX0_anchorOfPlace, Cond.static yX0_anchorOfPlace, Cond.code yX0_anchorOfPlace cX0_anchorOfPlace 2 (some .int)]
def wsL_countOf : List Cond := .codeWith yL_countOf cL_countOf 4 (some .int) [(0, 9, 12, 13)] :: ((wsL_countOf_r1 ++ wsL_countOf_r2) ++ (vx_atS RX0 157 "java/lang/IndexOutOfBoundsException" ["java/lang/RuntimeException", "java/lang/Exception"]).filter goodWord)
def wsL_isDoubled : List Cond := .codeWith yL_isDoubled cL_isDoubled 4 (some .int) [(0, 16, 19, 13)] :: ([.classLink RL 13 "java/lang/IndexOutOfBoundsException", .methodLink RL 40 yX0_isDoubled, .instanceMethod yX0_isDoubled, .selects RX0 yX0_isDoubled yX0_isDoubled, .initialized RX0, .code yX0_isDoubled cX0_isDoubled 2 (some .boolean), .methodLink RX0 46 yX0_checkNumber, .static yX0_checkNumber, .code yX0_checkNumber cX0_checkNumber 1 none, .classLink RX0 153 "java/lang/IndexOutOfBoundsException", .initialized "java/lang/IndexOutOfBoundsException", .constant RX0 31 (1095750)] ++ (vx_atS RX0 157 "java/lang/IndexOutOfBoundsException" ["java/lang/RuntimeException", "java/lang/Exception"]).filter goodWord)
def wsL_fromCount_r1 : List Cond := [Cond.classLink RL 13 "java/lang/IndexOutOfBoundsException", Cond.classLink RL 48 "java/lang/IllegalArgumentException", Cond.classLink RL 50 "java/lang/IllegalStateException", Cond.methodLink RL 44 yX0_fromCount, Cond.instanceMethod yX0_fromCount, Cond.selects RX0 yX0_fromCount yX0_fromCount, Cond.initialized RX0, Cond.code yX0_fromCount cX0_fromCount 8 (some .int), Cond.classLink RX0 75 "java/lang/IllegalArgumentException", Cond.initialized "java/lang/IllegalArgumentException", Cond.classLink RX0 85 "java/lang/IllegalStateException", Cond.initialized "java/lang/IllegalStateException", Cond.methodLink RX0 66 yX0_checkYear, Cond.static yX0_checkYear, Cond.code yX0_checkYear cX0_checkYear 1 none, Cond.classLink RX0 153 "java/lang/IndexOutOfBoundsException", Cond.initialized "java/lang/IndexOutOfBoundsException", Cond.methodLink RX0 69 yX0_checkMonth, Cond.static yX0_checkMonth, Cond.code yX0_checkMonth cX0_checkMonth 1 none, Cond.methodLink RX0 72 yX0_checkAnchor, Cond.static yX0_checkAnchor, Cond.code yX0_checkAnchor cX0_checkAnchor 1 none, Cond.methodLink RX0 82 yX0_greatestCountTo]
def wsL_fromCount_r2 : List Cond := [Cond.static yX0_greatestCountTo, Cond.code yX0_greatestCountTo cX0_greatestCountTo 4 (some .int), Cond.methodLink RX0 191 yX0_nonesDayOf, Cond.static yX0_nonesDayOf, Cond.code yX0_nonesDayOf cX0_nonesDayOf 1 (some .int), Cond.methodLink RX0 182 yX0_commonLengthOf, Cond.static yX0_commonLengthOf, Cond.code yX0_commonLengthOf cX0_commonLengthOf 1 (some .int), Cond.methodLink RX0 90 yX0_isToldAsDoubled, Cond.static yX0_isToldAsDoubled, Cond.code yX0_isToldAsDoubled cX0_isToldAsDoubled 4 (some .boolean), Cond.methodLink RX0 179 yX0_isLeap, Cond.static yX0_isLeap, Cond.code yX0_isLeap cX0_isLeap 1 (some .boolean), Cond.methodLink RX0 23 yX0_placeOfAnchor, Cond.static yX0_placeOfAnchor, Cond.code yX0_placeOfAnchor cX0_placeOfAnchor 4 (some .int), Cond.methodLink RX0 185 yX0_commonDaysBefore, Cond.static yX0_commonDaysBefore, Cond.code yX0_commonDaysBefore cX0_commonDaysBefore 3 (some .int), Cond.methodLink RX0 96 yX0_lastDayOfPlace, Cond.static yX0_lastDayOfPlace, Cond.code yX0_lastDayOfPlace cX0_lastDayOfPlace 3 (some .int), Cond.methodLink RX0 36 yX0_firstDayOf]
def wsL_fromCount_r3 : List Cond := [Cond.static yX0_firstDayOf, Cond.code yX0_firstDayOf cX0_firstDayOf 1 (some .int)]
def wsL_fromCount : List Cond := .codeWith yL_fromCount cL_fromCount 8 (some .int) [(0, 16, 19, 13), (0, 16, 23, 48), (0, 16, 27, 50)] :: ((wsL_fromCount_r1 ++ (wsL_fromCount_r2 ++ wsL_fromCount_r3)) ++ (vx_atS RX0 79 "java/lang/IllegalArgumentException" ["java/lang/RuntimeException", "java/lang/Exception"]).filter goodWord ++ (vx_atS RX0 89 "java/lang/IllegalStateException" ["java/lang/RuntimeException", "java/lang/Exception"]).filter goodWord ++ (vx_atS RX0 157 "java/lang/IndexOutOfBoundsException" ["java/lang/RuntimeException", "java/lang/Exception"]).filter goodWord)
def wsL_greatestCount_r1 : List Cond := [Cond.classLink RL 13 "java/lang/IndexOutOfBoundsException", Cond.classLink RL 48 "java/lang/IllegalArgumentException", Cond.methodLink RL 52 yX0_greatestCount, Cond.instanceMethod yX0_greatestCount, Cond.selects RX0 yX0_greatestCount yX0_greatestCount, Cond.initialized RX0, Cond.code yX0_greatestCount cX0_greatestCount 4 (some .int), Cond.methodLink RX0 66 yX0_checkYear, Cond.static yX0_checkYear, Cond.code yX0_checkYear cX0_checkYear 1 none, Cond.classLink RX0 153 "java/lang/IndexOutOfBoundsException", Cond.initialized "java/lang/IndexOutOfBoundsException", Cond.methodLink RX0 69 yX0_checkMonth, Cond.static yX0_checkMonth, Cond.code yX0_checkMonth cX0_checkMonth 1 none, Cond.methodLink RX0 72 yX0_checkAnchor, Cond.static yX0_checkAnchor, Cond.code yX0_checkAnchor cX0_checkAnchor 1 none, Cond.classLink RX0 75 "java/lang/IllegalArgumentException", Cond.initialized "java/lang/IllegalArgumentException", Cond.methodLink RX0 82 yX0_greatestCountTo, Cond.static yX0_greatestCountTo, Cond.code yX0_greatestCountTo cX0_greatestCountTo 4 (some .int), Cond.methodLink RX0 191 yX0_nonesDayOf]
def wsL_greatestCount_r2 : List Cond := [Cond.static yX0_nonesDayOf, Cond.code yX0_nonesDayOf cX0_nonesDayOf 1 (some .int), Cond.methodLink RX0 182 yX0_commonLengthOf, Cond.static yX0_commonLengthOf, Cond.code yX0_commonLengthOf cX0_commonLengthOf 1 (some .int)]
def wsL_greatestCount : List Cond := .codeWith yL_greatestCount cL_greatestCount 6 (some .int) [(0, 12, 15, 13), (0, 12, 19, 48)] :: ((wsL_greatestCount_r1 ++ wsL_greatestCount_r2) ++ (vx_atS RX0 157 "java/lang/IndexOutOfBoundsException" ["java/lang/RuntimeException", "java/lang/Exception"]).filter goodWord ++ (vx_atS RX0 79 "java/lang/IllegalArgumentException" ["java/lang/RuntimeException", "java/lang/Exception"]).filter goodWord)
def wsL_lawNumber : List Cond := .codeWith yL_lawNumber cL_lawNumber 4 (some .int) [(0, 9, 12, 13)] :: ([.classLink RL 13 "java/lang/IndexOutOfBoundsException", .methodLink RL 55 yX0_lawNumber, .instanceMethod yX0_lawNumber, .selects RX0 yX0_lawNumber yX0_lawNumber, .initialized RX0, .code yX0_lawNumber cX0_lawNumber 2 (some .int), .methodLink RX0 46 yX0_checkNumber, .static yX0_checkNumber, .code yX0_checkNumber cX0_checkNumber 1 none, .classLink RX0 153 "java/lang/IndexOutOfBoundsException", .initialized "java/lang/IndexOutOfBoundsException", .constant RX0 31 (1095750), .methodLink RX0 99 yX0_lawNumberAt, .static yX0_lawNumberAt, .code yX0_lawNumberAt cX0_lawNumberAt 1 (some .int), .methodLink RX0 188 yX0_doubledDaysBefore, .static yX0_doubledDaysBefore, .code yX0_doubledDaysBefore cX0_doubledDaysBefore 1 (some .int)] ++ (vx_atS RX0 157 "java/lang/IndexOutOfBoundsException" ["java/lang/RuntimeException", "java/lang/Exception"]).filter goodWord)
def wsL_termEnd_r1 : List Cond := [Cond.classLink RL 13 "java/lang/IndexOutOfBoundsException", Cond.classLink RL 48 "java/lang/IllegalArgumentException", Cond.classLink RL 50 "java/lang/IllegalStateException", Cond.methodLink RL 58 yX0_termEnd, Cond.instanceMethod yX0_termEnd, Cond.selects RX0 yX0_termEnd yX0_termEnd, Cond.initialized RX0, Cond.code yX0_termEnd cX0_termEnd 4 (some .int), Cond.classLink RX0 75 "java/lang/IllegalArgumentException", Cond.initialized "java/lang/IllegalArgumentException", Cond.classLink RX0 85 "java/lang/IllegalStateException", Cond.initialized "java/lang/IllegalStateException", Cond.constant RX0 102 (100000), Cond.constant RX0 105 (1095749), Cond.methodLink RX0 46 yX0_checkNumber, Cond.static yX0_checkNumber, Cond.code yX0_checkNumber cX0_checkNumber 1 none, Cond.classLink RX0 153 "java/lang/IndexOutOfBoundsException", Cond.initialized "java/lang/IndexOutOfBoundsException", Cond.constant RX0 31 (1095750), Cond.methodLink RX0 99 yX0_lawNumberAt, Cond.static yX0_lawNumberAt, Cond.code yX0_lawNumberAt cX0_lawNumberAt 1 (some .int), Cond.methodLink RX0 188 yX0_doubledDaysBefore]
def wsL_termEnd_r2 : List Cond := [Cond.static yX0_doubledDaysBefore, Cond.code yX0_doubledDaysBefore cX0_doubledDaysBefore 1 (some .int), Cond.methodLink RX0 96 yX0_lastDayOfPlace, Cond.static yX0_lastDayOfPlace, Cond.code yX0_lastDayOfPlace cX0_lastDayOfPlace 3 (some .int), Cond.methodLink RX0 179 yX0_isLeap, Cond.static yX0_isLeap, Cond.code yX0_isLeap cX0_isLeap 1 (some .boolean), Cond.methodLink RX0 36 yX0_firstDayOf, Cond.static yX0_firstDayOf, Cond.code yX0_firstDayOf cX0_firstDayOf 1 (some .int)]
def wsL_termEnd : List Cond := .codeWith yL_termEnd cL_termEnd 5 (some .int) [(0, 10, 13, 13), (0, 10, 17, 48), (0, 10, 21, 50)] :: ((wsL_termEnd_r1 ++ wsL_termEnd_r2) ++ (vx_atS RX0 79 "java/lang/IllegalArgumentException" ["java/lang/RuntimeException", "java/lang/Exception"]).filter goodWord ++ (vx_atS RX0 89 "java/lang/IllegalStateException" ["java/lang/RuntimeException", "java/lang/Exception"]).filter goodWord ++ (vx_atS RX0 157 "java/lang/IndexOutOfBoundsException" ["java/lang/RuntimeException", "java/lang/Exception"]).filter goodWord)
def wsL_lawDays : List Cond := .codeWith yL_lawDays cL_lawDays 5 (some .int) [(0, 10, 13, 13)] :: ([.classLink RL 13 "java/lang/IndexOutOfBoundsException", .methodLink RL 62 yX0_lawDays, .instanceMethod yX0_lawDays, .selects RX0 yX0_lawDays yX0_lawDays, .initialized RX0, .code yX0_lawDays cX0_lawDays 3 (some .int), .methodLink RX0 46 yX0_checkNumber, .static yX0_checkNumber, .code yX0_checkNumber cX0_checkNumber 1 none, .classLink RX0 153 "java/lang/IndexOutOfBoundsException", .initialized "java/lang/IndexOutOfBoundsException", .constant RX0 31 (1095750), .methodLink RX0 99 yX0_lawNumberAt, .static yX0_lawNumberAt, .code yX0_lawNumberAt cX0_lawNumberAt 1 (some .int), .methodLink RX0 188 yX0_doubledDaysBefore, .static yX0_doubledDaysBefore, .code yX0_doubledDaysBefore cX0_doubledDaysBefore 1 (some .int)] ++ (vx_atS RX0 157 "java/lang/IndexOutOfBoundsException" ["java/lang/RuntimeException", "java/lang/Exception"]).filter goodWord)
def wsL_placeOf : List Cond := .codeWith yL_placeOf cL_placeOf 4 (some .int) [(0, 9, 12, 13)] :: ([.classLink RL 13 "java/lang/IndexOutOfBoundsException", .methodLink RL 65 yX0_placeOf, .instanceMethod yX0_placeOf, .selects RX0 yX0_placeOf yX0_placeOf, .initialized RX0, .code yX0_placeOf cX0_placeOf 2 (some .int), .methodLink RX0 46 yX0_checkNumber, .static yX0_checkNumber, .code yX0_checkNumber cX0_checkNumber 1 none, .classLink RX0 153 "java/lang/IndexOutOfBoundsException", .initialized "java/lang/IndexOutOfBoundsException", .constant RX0 31 (1095750), .methodLink RX0 53 yX0_placeAt, .static yX0_placeAt, .code yX0_placeAt cX0_placeAt 1 (some .int), .methodLink RX0 99 yX0_lawNumberAt, .static yX0_lawNumberAt, .code yX0_lawNumberAt cX0_lawNumberAt 1 (some .int), .methodLink RX0 188 yX0_doubledDaysBefore, .static yX0_doubledDaysBefore, .code yX0_doubledDaysBefore cX0_doubledDaysBefore 1 (some .int)] ++ (vx_atS RX0 157 "java/lang/IndexOutOfBoundsException" ["java/lang/RuntimeException", "java/lang/Exception"]).filter goodWord)
def wsL_letterOfEight : List Cond := .codeWith yL_letterOfEight cL_letterOfEight 4 (some .int) [(0, 9, 12, 13)] :: ([.classLink RL 13 "java/lang/IndexOutOfBoundsException", .methodLink RL 68 yX0_letterOfEight, .instanceMethod yX0_letterOfEight, .selects RX0 yX0_letterOfEight yX0_letterOfEight, .initialized RX0, .code yX0_letterOfEight cX0_letterOfEight 2 (some .int), .methodLink RX0 46 yX0_checkNumber, .static yX0_checkNumber, .code yX0_checkNumber cX0_checkNumber 1 none, .classLink RX0 153 "java/lang/IndexOutOfBoundsException", .initialized "java/lang/IndexOutOfBoundsException", .constant RX0 31 (1095750), .methodLink RX0 108 yX0_eightLetterAt, .static yX0_eightLetterAt, .code yX0_eightLetterAt cX0_eightLetterAt 1 (some .int), .methodLink RX0 53 yX0_placeAt, .static yX0_placeAt, .code yX0_placeAt cX0_placeAt 1 (some .int), .methodLink RX0 99 yX0_lawNumberAt, .static yX0_lawNumberAt, .code yX0_lawNumberAt cX0_lawNumberAt 1 (some .int), .methodLink RX0 188 yX0_doubledDaysBefore, .static yX0_doubledDaysBefore, .code yX0_doubledDaysBefore cX0_doubledDaysBefore 1 (some .int)] ++ (vx_atS RX0 157 "java/lang/IndexOutOfBoundsException" ["java/lang/RuntimeException", "java/lang/Exception"]).filter goodWord)
def wsL_letterOfSeven : List Cond := .codeWith yL_letterOfSeven cL_letterOfSeven 4 (some .int) [(0, 9, 12, 13)] :: ([.classLink RL 13 "java/lang/IndexOutOfBoundsException", .methodLink RL 71 yX0_letterOfSeven, .instanceMethod yX0_letterOfSeven, .selects RX0 yX0_letterOfSeven yX0_letterOfSeven, .initialized RX0, .code yX0_letterOfSeven cX0_letterOfSeven 2 (some .int), .methodLink RX0 46 yX0_checkNumber, .static yX0_checkNumber, .code yX0_checkNumber cX0_checkNumber 1 none, .classLink RX0 153 "java/lang/IndexOutOfBoundsException", .initialized "java/lang/IndexOutOfBoundsException", .constant RX0 31 (1095750), .methodLink RX0 111 yX0_sevenLetterAt, .static yX0_sevenLetterAt, .code yX0_sevenLetterAt cX0_sevenLetterAt 1 (some .int), .methodLink RX0 53 yX0_placeAt, .static yX0_placeAt, .code yX0_placeAt cX0_placeAt 1 (some .int), .methodLink RX0 99 yX0_lawNumberAt, .static yX0_lawNumberAt, .code yX0_lawNumberAt cX0_lawNumberAt 1 (some .int), .methodLink RX0 188 yX0_doubledDaysBefore, .static yX0_doubledDaysBefore, .code yX0_doubledDaysBefore cX0_doubledDaysBefore 1 (some .int)] ++ (vx_atS RX0 157 "java/lang/IndexOutOfBoundsException" ["java/lang/RuntimeException", "java/lang/Exception"]).filter goodWord)
def wsL_setMarketDay : List Cond := .codeWith yL_setMarketDay cL_setMarketDay 4 (some .int) [(0, 9, 12, 13)] :: ([.classLink RL 13 "java/lang/IndexOutOfBoundsException", .methodLink RL 74 yX0_setMarketDay, .instanceMethod yX0_setMarketDay, .selects RX0 yX0_setMarketDay yX0_setMarketDay, .initialized RX0, .code yX0_setMarketDay cX0_setMarketDay 3 (some .int), .fieldLink RX0 19 "RomanCalendar" "marketRemainder" "I", .methodLink RX0 46 yX0_checkNumber, .static yX0_checkNumber, .code yX0_checkNumber cX0_checkNumber 1 none, .classLink RX0 153 "java/lang/IndexOutOfBoundsException", .initialized "java/lang/IndexOutOfBoundsException", .constant RX0 31 (1095750)] ++ wsX00 ++ (vx_atS RX0 157 "java/lang/IndexOutOfBoundsException" ["java/lang/RuntimeException", "java/lang/Exception"]).filter goodWord)
def wsL_isMarket : List Cond := .codeWith yL_isMarket cL_isMarket 4 (some .int) [(0, 16, 19, 13)] :: ([.classLink RL 13 "java/lang/IndexOutOfBoundsException", .methodLink RL 77 yX0_isMarket, .instanceMethod yX0_isMarket, .selects RX0 yX0_isMarket yX0_isMarket, .initialized RX0, .code yX0_isMarket cX0_isMarket 2 (some .boolean), .methodLink RX0 46 yX0_checkNumber, .static yX0_checkNumber, .code yX0_checkNumber cX0_checkNumber 1 none, .classLink RX0 153 "java/lang/IndexOutOfBoundsException", .initialized "java/lang/IndexOutOfBoundsException", .constant RX0 31 (1095750), .methodLink RX0 114 yX0_isMarketAt, .instanceMethod yX0_isMarketAt, .selects RX0 yX0_isMarketAt yX0_isMarketAt, .code yX0_isMarketAt cX0_isMarketAt 2 (some .boolean), .fieldLink RX0 19 "RomanCalendar" "marketRemainder" "I"] ++ wsX00 ++ (vx_atS RX0 157 "java/lang/IndexOutOfBoundsException" ["java/lang/RuntimeException", "java/lang/Exception"]).filter goodWord)
def wsL_marketLetters_r1 : List Cond := [Cond.classLink RL 13 "java/lang/IndexOutOfBoundsException", Cond.methodLink RL 80 yX0_marketLetters, Cond.instanceMethod yX0_marketLetters, Cond.selects RX0 yX0_marketLetters yX0_marketLetters, Cond.initialized RX0, Cond.code yX0_marketLetters cX0_marketLetters 6 (some .int), Cond.fieldLink RX0 19 "RomanCalendar" "marketRemainder" "I", Cond.methodLink RX0 66 yX0_checkYear, Cond.static yX0_checkYear, Cond.code yX0_checkYear cX0_checkYear 1 none, Cond.classLink RX0 153 "java/lang/IndexOutOfBoundsException", Cond.initialized "java/lang/IndexOutOfBoundsException", Cond.methodLink RX0 36 yX0_firstDayOf, Cond.static yX0_firstDayOf, Cond.code yX0_firstDayOf cX0_firstDayOf 1 (some .int), Cond.methodLink RX0 117 yX0_lastDayOf, Cond.static yX0_lastDayOf, Cond.code yX0_lastDayOf cX0_lastDayOf 1 (some .int), Cond.methodLink RX0 120 yJ9_floorMod_7cf53, Cond.static yJ9_floorMod_7cf53, Cond.initialized RJ9, Cond.code yJ9_floorMod_7cf53 cJ9_floorMod_7cf53 3 (some .int), Cond.methodLink RX0 108 yX0_eightLetterAt, Cond.static yX0_eightLetterAt]
def wsL_marketLetters_r2 : List Cond := [Cond.code yX0_eightLetterAt cX0_eightLetterAt 1 (some .int), Cond.methodLink RX0 53 yX0_placeAt, Cond.static yX0_placeAt, Cond.code yX0_placeAt cX0_placeAt 1 (some .int), Cond.methodLink RX0 99 yX0_lawNumberAt, Cond.static yX0_lawNumberAt, Cond.code yX0_lawNumberAt cX0_lawNumberAt 1 (some .int), Cond.methodLink RX0 188 yX0_doubledDaysBefore, Cond.static yX0_doubledDaysBefore, Cond.code yX0_doubledDaysBefore cX0_doubledDaysBefore 1 (some .int)]
def wsL_marketLetters : List Cond := .codeWith yL_marketLetters cL_marketLetters 4 (some .int) [(0, 9, 12, 13)] :: ((wsL_marketLetters_r1 ++ wsL_marketLetters_r2) ++ wsX00 ++ (vx_atS RX0 157 "java/lang/IndexOutOfBoundsException" ["java/lang/RuntimeException", "java/lang/Exception"]).filter goodWord)
def wsL_sundayLetters_r1 : List Cond := [Cond.classLink RL 13 "java/lang/IndexOutOfBoundsException", Cond.methodLink RL 83 yX0_sundayLetters, Cond.instanceMethod yX0_sundayLetters, Cond.selects RX0 yX0_sundayLetters yX0_sundayLetters, Cond.initialized RX0, Cond.code yX0_sundayLetters cX0_sundayLetters 6 (some .int), Cond.methodLink RX0 66 yX0_checkYear, Cond.static yX0_checkYear, Cond.code yX0_checkYear cX0_checkYear 1 none, Cond.classLink RX0 153 "java/lang/IndexOutOfBoundsException", Cond.initialized "java/lang/IndexOutOfBoundsException", Cond.methodLink RX0 36 yX0_firstDayOf, Cond.static yX0_firstDayOf, Cond.code yX0_firstDayOf cX0_firstDayOf 1 (some .int), Cond.methodLink RX0 117 yX0_lastDayOf, Cond.static yX0_lastDayOf, Cond.code yX0_lastDayOf cX0_lastDayOf 1 (some .int), Cond.methodLink RX0 120 yJ9_floorMod_7cf53, Cond.static yJ9_floorMod_7cf53, Cond.initialized RJ9, Cond.code yJ9_floorMod_7cf53 cJ9_floorMod_7cf53 3 (some .int), Cond.methodLink RX0 111 yX0_sevenLetterAt, Cond.static yX0_sevenLetterAt, Cond.code yX0_sevenLetterAt cX0_sevenLetterAt 1 (some .int)]
def wsL_sundayLetters_r2 : List Cond := [Cond.methodLink RX0 53 yX0_placeAt, Cond.static yX0_placeAt, Cond.code yX0_placeAt cX0_placeAt 1 (some .int), Cond.methodLink RX0 99 yX0_lawNumberAt, Cond.static yX0_lawNumberAt, Cond.code yX0_lawNumberAt cX0_lawNumberAt 1 (some .int), Cond.methodLink RX0 188 yX0_doubledDaysBefore, Cond.static yX0_doubledDaysBefore, Cond.code yX0_doubledDaysBefore cX0_doubledDaysBefore 1 (some .int)]
def wsL_sundayLetters : List Cond := .codeWith yL_sundayLetters cL_sundayLetters 4 (some .int) [(0, 9, 12, 13)] :: ((wsL_sundayLetters_r1 ++ wsL_sundayLetters_r2) ++ (vx_atS RX0 157 "java/lang/IndexOutOfBoundsException" ["java/lang/RuntimeException", "java/lang/Exception"]).filter goodWord)
def wsL_setConsuls_r1 : List Cond := [Cond.classLink RL 13 "java/lang/IndexOutOfBoundsException", Cond.classLink RL 48 "java/lang/IllegalArgumentException", Cond.classLink RL 50 "java/lang/IllegalStateException", Cond.methodLink RL 86 yX0_setConsuls, Cond.instanceMethod yX0_setConsuls, Cond.selects RX0 yX0_setConsuls yX0_setConsuls, Cond.initialized RX0, Cond.code yX0_setConsuls cX0_setConsuls 5 (some .int), Cond.classLink RX0 75 "java/lang/IllegalArgumentException", Cond.initialized "java/lang/IllegalArgumentException", Cond.classLink RX0 85 "java/lang/IllegalStateException", Cond.initialized "java/lang/IllegalStateException", Cond.fieldLink RX0 13 "RomanCalendar" "consulYears" "[I", Cond.fieldLink RX0 16 "RomanCalendar" "consulPairs" "[I", Cond.methodLink RX0 66 yX0_checkYear, Cond.static yX0_checkYear, Cond.code yX0_checkYear cX0_checkYear 1 none, Cond.classLink RX0 153 "java/lang/IndexOutOfBoundsException", Cond.initialized "java/lang/IndexOutOfBoundsException", Cond.methodLink RX0 125 yX0_isConsul, Cond.static yX0_isConsul, Cond.code yX0_isConsul cX0_isConsul 1 (some .boolean), Cond.methodLink RX0 130 yX0_slotOf, Cond.instanceMethod yX0_slotOf]
def wsL_setConsuls_r2 : List Cond := [Cond.selects RX0 yX0_slotOf yX0_slotOf, Cond.code yX0_slotOf cX0_slotOf 3 (some .int), Cond.methodLink RX0 133 yX0_isSlot, Cond.static yX0_isSlot, Cond.code yX0_isSlot cX0_isSlot 1 (some .boolean), Cond.methodLink RX0 138 yX0_countConsulYears, Cond.instanceMethod yX0_countConsulYears, Cond.selects RX0 yX0_countConsulYears yX0_countConsulYears, Cond.code yX0_countConsulYears cX0_countConsulYears 3 (some .int)]
def wsL_setConsuls : List Cond := .codeWith yL_setConsuls cL_setConsuls 6 (some .int) [(0, 12, 15, 13), (0, 12, 19, 48), (0, 12, 23, 50)] :: ((wsL_setConsuls_r1 ++ wsL_setConsuls_r2) ++ wsX00 ++ (vx_atS RX0 79 "java/lang/IllegalArgumentException" ["java/lang/RuntimeException", "java/lang/Exception"]).filter goodWord ++ (vx_atS RX0 89 "java/lang/IllegalStateException" ["java/lang/RuntimeException", "java/lang/Exception"]).filter goodWord ++ (vx_atS RX0 157 "java/lang/IndexOutOfBoundsException" ["java/lang/RuntimeException", "java/lang/Exception"]).filter goodWord)
def wsL_strikeConsuls_r1 : List Cond := [Cond.classLink RL 13 "java/lang/IndexOutOfBoundsException", Cond.classLink RL 50 "java/lang/IllegalStateException", Cond.methodLink RL 89 yX0_strikeConsuls, Cond.instanceMethod yX0_strikeConsuls, Cond.selects RX0 yX0_strikeConsuls yX0_strikeConsuls, Cond.initialized RX0, Cond.code yX0_strikeConsuls cX0_strikeConsuls 3 (some .int), Cond.classLink RX0 85 "java/lang/IllegalStateException", Cond.initialized "java/lang/IllegalStateException", Cond.fieldLink RX0 13 "RomanCalendar" "consulYears" "[I", Cond.methodLink RX0 66 yX0_checkYear, Cond.static yX0_checkYear, Cond.code yX0_checkYear cX0_checkYear 1 none, Cond.classLink RX0 153 "java/lang/IndexOutOfBoundsException", Cond.initialized "java/lang/IndexOutOfBoundsException", Cond.methodLink RX0 130 yX0_slotOf, Cond.instanceMethod yX0_slotOf, Cond.selects RX0 yX0_slotOf yX0_slotOf, Cond.code yX0_slotOf cX0_slotOf 3 (some .int), Cond.methodLink RX0 133 yX0_isSlot, Cond.static yX0_isSlot, Cond.code yX0_isSlot cX0_isSlot 1 (some .boolean), Cond.methodLink RX0 138 yX0_countConsulYears, Cond.instanceMethod yX0_countConsulYears]
def wsL_strikeConsuls_r2 : List Cond := [Cond.selects RX0 yX0_countConsulYears yX0_countConsulYears, Cond.code yX0_countConsulYears cX0_countConsulYears 3 (some .int)]
def wsL_strikeConsuls : List Cond := .codeWith yL_strikeConsuls cL_strikeConsuls 4 (some .int) [(0, 9, 12, 13), (0, 9, 15, 50)] :: ((wsL_strikeConsuls_r1 ++ wsL_strikeConsuls_r2) ++ wsX00 ++ (vx_atS RX0 89 "java/lang/IllegalStateException" ["java/lang/RuntimeException", "java/lang/Exception"]).filter goodWord ++ (vx_atS RX0 157 "java/lang/IndexOutOfBoundsException" ["java/lang/RuntimeException", "java/lang/Exception"]).filter goodWord)
def wsL_consulsOf : List Cond := .codeWith yL_consulsOf cL_consulsOf 4 (some .int) [(0, 9, 12, 13)] :: ([.classLink RL 13 "java/lang/IndexOutOfBoundsException", .methodLink RL 92 yX0_consulsOf, .instanceMethod yX0_consulsOf, .selects RX0 yX0_consulsOf yX0_consulsOf, .initialized RX0, .code yX0_consulsOf cX0_consulsOf 3 (some .int), .fieldLink RX0 16 "RomanCalendar" "consulPairs" "[I", .methodLink RX0 66 yX0_checkYear, .static yX0_checkYear, .code yX0_checkYear cX0_checkYear 1 none, .classLink RX0 153 "java/lang/IndexOutOfBoundsException", .initialized "java/lang/IndexOutOfBoundsException", .methodLink RX0 130 yX0_slotOf, .instanceMethod yX0_slotOf, .selects RX0 yX0_slotOf yX0_slotOf, .code yX0_slotOf cX0_slotOf 3 (some .int), .fieldLink RX0 13 "RomanCalendar" "consulYears" "[I", .methodLink RX0 133 yX0_isSlot, .static yX0_isSlot, .code yX0_isSlot cX0_isSlot 1 (some .boolean)] ++ wsX00 ++ (vx_atS RX0 157 "java/lang/IndexOutOfBoundsException" ["java/lang/RuntimeException", "java/lang/Exception"]).filter goodWord)
def wsL_afterConsuls : List Cond := .codeWith yL_afterConsuls cL_afterConsuls 4 (some .int) [(0, 9, 12, 13)] :: ([.classLink RL 13 "java/lang/IndexOutOfBoundsException", .methodLink RL 95 yX0_afterConsuls, .instanceMethod yX0_afterConsuls, .selects RX0 yX0_afterConsuls yX0_afterConsuls, .initialized RX0, .code yX0_afterConsuls cX0_afterConsuls 5 (some .int), .fieldLink RX0 13 "RomanCalendar" "consulYears" "[I", .methodLink RX0 66 yX0_checkYear, .static yX0_checkYear, .code yX0_checkYear cX0_checkYear 1 none, .classLink RX0 153 "java/lang/IndexOutOfBoundsException", .initialized "java/lang/IndexOutOfBoundsException"] ++ wsX00 ++ (vx_atS RX0 157 "java/lang/IndexOutOfBoundsException" ["java/lang/RuntimeException", "java/lang/Exception"]).filter goodWord)
def wsL_yearOfConsuls : List Cond := .codeWith yL_yearOfConsuls cL_yearOfConsuls 6 (some .int) [(0, 12, 15, 48)] :: ([.classLink RL 48 "java/lang/IllegalArgumentException", .methodLink RL 98 yX0_yearOfConsuls, .instanceMethod yX0_yearOfConsuls, .selects RX0 yX0_yearOfConsuls yX0_yearOfConsuls, .initialized RX0, .code yX0_yearOfConsuls cX0_yearOfConsuls 6 (some .int), .classLink RX0 75 "java/lang/IllegalArgumentException", .initialized "java/lang/IllegalArgumentException", .methodLink RX0 146 yX0_nextYearOfPair, .instanceMethod yX0_nextYearOfPair, .selects RX0 yX0_nextYearOfPair yX0_nextYearOfPair, .code yX0_nextYearOfPair cX0_nextYearOfPair 8 (some .int), .fieldLink RX0 13 "RomanCalendar" "consulYears" "[I", .fieldLink RX0 16 "RomanCalendar" "consulPairs" "[I", .methodLink RX0 194 yX0_isPair, .static yX0_isPair, .code yX0_isPair cX0_isPair 5 (some .boolean)] ++ wsX00 ++ (vx_atS RX0 79 "java/lang/IllegalArgumentException" ["java/lang/RuntimeException", "java/lang/Exception"]).filter goodWord)
def wsL_setCharacter : List Cond := .codeWith yL_setCharacter cL_setCharacter 5 (some .int) [(0, 10, 13, 13), (0, 10, 17, 48)] :: ([.classLink RL 13 "java/lang/IndexOutOfBoundsException", .classLink RL 48 "java/lang/IllegalArgumentException", .methodLink RL 101 yX0_setCharacter, .instanceMethod yX0_setCharacter, .selects RX0 yX0_setCharacter yX0_setCharacter, .initialized RX0, .code yX0_setCharacter cX0_setCharacter 4 (some .int), .classLink RX0 153 "java/lang/IndexOutOfBoundsException", .initialized "java/lang/IndexOutOfBoundsException", .classLink RX0 75 "java/lang/IllegalArgumentException", .initialized "java/lang/IllegalArgumentException", .methodLink RX0 150 yX0_isPlace, .static yX0_isPlace, .code yX0_isPlace cX0_isPlace 1 (some .boolean), .methodLink RX0 160 yX0_readCharacter, .instanceMethod yX0_readCharacter, .selects RX0 yX0_readCharacter yX0_readCharacter, .code yX0_readCharacter cX0_readCharacter 2 (some .int), .fieldLink RX0 9 "RomanCalendar" "characters" "[I", .methodLink RX0 27 yX0_writeCharacter, .instanceMethod yX0_writeCharacter, .selects RX0 yX0_writeCharacter yX0_writeCharacter, .code yX0_writeCharacter cX0_writeCharacter 3 none] ++ wsX00 ++ (vx_atS RX0 157 "java/lang/IndexOutOfBoundsException" ["java/lang/RuntimeException", "java/lang/Exception"]).filter goodWord ++ (vx_atS RX0 79 "java/lang/IllegalArgumentException" ["java/lang/RuntimeException", "java/lang/Exception"]).filter goodWord)
def wsL_characterOf_r1 : List Cond := [Cond.classLink RL 13 "java/lang/IndexOutOfBoundsException", Cond.methodLink RL 104 yX0_characterOf, Cond.instanceMethod yX0_characterOf, Cond.selects RX0 yX0_characterOf yX0_characterOf, Cond.initialized RX0, Cond.code yX0_characterOf cX0_characterOf 2 (some .int), Cond.methodLink RX0 46 yX0_checkNumber, Cond.static yX0_checkNumber, Cond.code yX0_checkNumber cX0_checkNumber 1 none, Cond.classLink RX0 153 "java/lang/IndexOutOfBoundsException", Cond.initialized "java/lang/IndexOutOfBoundsException", Cond.constant RX0 31 (1095750), Cond.methodLink RX0 53 yX0_placeAt, Cond.static yX0_placeAt, Cond.code yX0_placeAt cX0_placeAt 1 (some .int), Cond.methodLink RX0 99 yX0_lawNumberAt, Cond.static yX0_lawNumberAt, Cond.code yX0_lawNumberAt cX0_lawNumberAt 1 (some .int), Cond.methodLink RX0 188 yX0_doubledDaysBefore, Cond.static yX0_doubledDaysBefore, Cond.code yX0_doubledDaysBefore cX0_doubledDaysBefore 1 (some .int), Cond.methodLink RX0 160 yX0_readCharacter, Cond.instanceMethod yX0_readCharacter, Cond.selects RX0 yX0_readCharacter yX0_readCharacter]
def wsL_characterOf_r2 : List Cond := [Cond.code yX0_readCharacter cX0_readCharacter 2 (some .int), Cond.fieldLink RX0 9 "RomanCalendar" "characters" "[I", Cond.methodLink RX0 150 yX0_isPlace, Cond.static yX0_isPlace, Cond.code yX0_isPlace cX0_isPlace 1 (some .boolean)]
def wsL_characterOf : List Cond := .codeWith yL_characterOf cL_characterOf 4 (some .int) [(0, 9, 12, 13)] :: ((wsL_characterOf_r1 ++ wsL_characterOf_r2) ++ wsX00 ++ (vx_atS RX0 157 "java/lang/IndexOutOfBoundsException" ["java/lang/RuntimeException", "java/lang/Exception"]).filter goodWord)
def wsL_canVote_r1 : List Cond := [Cond.classLink RL 13 "java/lang/IndexOutOfBoundsException", Cond.methodLink RL 107 yX0_canVote, Cond.instanceMethod yX0_canVote, Cond.selects RX0 yX0_canVote yX0_canVote, Cond.initialized RX0, Cond.code yX0_canVote cX0_canVote 2 (some .boolean), Cond.methodLink RX0 46 yX0_checkNumber, Cond.static yX0_checkNumber, Cond.code yX0_checkNumber cX0_checkNumber 1 none, Cond.classLink RX0 153 "java/lang/IndexOutOfBoundsException", Cond.initialized "java/lang/IndexOutOfBoundsException", Cond.constant RX0 31 (1095750), Cond.methodLink RX0 163 yX0_isVotingDay, Cond.instanceMethod yX0_isVotingDay, Cond.selects RX0 yX0_isVotingDay yX0_isVotingDay, Cond.code yX0_isVotingDay cX0_isVotingDay 2 (some .boolean), Cond.methodLink RX0 53 yX0_placeAt, Cond.static yX0_placeAt, Cond.code yX0_placeAt cX0_placeAt 1 (some .int), Cond.methodLink RX0 99 yX0_lawNumberAt, Cond.static yX0_lawNumberAt, Cond.code yX0_lawNumberAt cX0_lawNumberAt 1 (some .int), Cond.methodLink RX0 188 yX0_doubledDaysBefore, Cond.static yX0_doubledDaysBefore]
def wsL_canVote_r2 : List Cond := [Cond.code yX0_doubledDaysBefore cX0_doubledDaysBefore 1 (some .int), Cond.methodLink RX0 160 yX0_readCharacter, Cond.instanceMethod yX0_readCharacter, Cond.selects RX0 yX0_readCharacter yX0_readCharacter, Cond.code yX0_readCharacter cX0_readCharacter 2 (some .int), Cond.fieldLink RX0 9 "RomanCalendar" "characters" "[I", Cond.methodLink RX0 150 yX0_isPlace, Cond.static yX0_isPlace, Cond.code yX0_isPlace cX0_isPlace 1 (some .boolean), Cond.methodLink RX0 114 yX0_isMarketAt, Cond.instanceMethod yX0_isMarketAt, Cond.selects RX0 yX0_isMarketAt yX0_isMarketAt, Cond.code yX0_isMarketAt cX0_isMarketAt 2 (some .boolean), Cond.fieldLink RX0 19 "RomanCalendar" "marketRemainder" "I"]
def wsL_canVote : List Cond := .codeWith yL_canVote cL_canVote 4 (some .int) [(0, 16, 19, 13)] :: ((wsL_canVote_r1 ++ wsL_canVote_r2) ++ wsX00 ++ (vx_atS RX0 157 "java/lang/IndexOutOfBoundsException" ["java/lang/RuntimeException", "java/lang/Exception"]).filter goodWord)
def wsL_nextCourt_r1 : List Cond := [Cond.classLink RL 13 "java/lang/IndexOutOfBoundsException", Cond.methodLink RL 110 yX0_nextCourt, Cond.instanceMethod yX0_nextCourt, Cond.selects RX0 yX0_nextCourt yX0_nextCourt, Cond.initialized RX0, Cond.code yX0_nextCourt cX0_nextCourt 5 (some .int), Cond.constant RX0 31 (1095750), Cond.methodLink RX0 166 Lib.Math.min.name, Cond.static Lib.Math.min.name, Cond.initialized "java/lang/Math", Cond.code Lib.Math.min.name Lib.Math.min.code 2 (some .int), Cond.methodLink RX0 46 yX0_checkNumber, Cond.static yX0_checkNumber, Cond.code yX0_checkNumber cX0_checkNumber 1 none, Cond.classLink RX0 153 "java/lang/IndexOutOfBoundsException", Cond.initialized "java/lang/IndexOutOfBoundsException", Cond.methodLink RX0 53 yX0_placeAt, Cond.static yX0_placeAt, Cond.code yX0_placeAt cX0_placeAt 1 (some .int), Cond.methodLink RX0 99 yX0_lawNumberAt, Cond.static yX0_lawNumberAt, Cond.code yX0_lawNumberAt cX0_lawNumberAt 1 (some .int), Cond.methodLink RX0 188 yX0_doubledDaysBefore, Cond.static yX0_doubledDaysBefore]
def wsL_nextCourt_r2 : List Cond := [Cond.code yX0_doubledDaysBefore cX0_doubledDaysBefore 1 (some .int), Cond.methodLink RX0 160 yX0_readCharacter, Cond.instanceMethod yX0_readCharacter, Cond.selects RX0 yX0_readCharacter yX0_readCharacter, Cond.code yX0_readCharacter cX0_readCharacter 2 (some .int), Cond.fieldLink RX0 9 "RomanCalendar" "characters" "[I", Cond.methodLink RX0 150 yX0_isPlace, Cond.static yX0_isPlace, Cond.code yX0_isPlace cX0_isPlace 1 (some .boolean)]
def wsL_nextCourt : List Cond := .codeWith yL_nextCourt cL_nextCourt 4 (some .int) [(0, 9, 12, 13)] :: ((wsL_nextCourt_r1 ++ wsL_nextCourt_r2) ++ wsX00 ++ (vx_atS RX0 157 "java/lang/IndexOutOfBoundsException" ["java/lang/RuntimeException", "java/lang/Exception"]).filter goodWord)
def wsL_votes_r1 : List Cond := [Cond.classLink RL 13 "java/lang/IndexOutOfBoundsException", Cond.methodLink RL 113 yX0_votes, Cond.instanceMethod yX0_votes, Cond.selects RX0 yX0_votes yX0_votes, Cond.initialized RX0, Cond.code yX0_votes cX0_votes 5 (some .int), Cond.methodLink RX0 66 yX0_checkYear, Cond.static yX0_checkYear, Cond.code yX0_checkYear cX0_checkYear 1 none, Cond.classLink RX0 153 "java/lang/IndexOutOfBoundsException", Cond.initialized "java/lang/IndexOutOfBoundsException", Cond.methodLink RX0 117 yX0_lastDayOf, Cond.static yX0_lastDayOf, Cond.code yX0_lastDayOf cX0_lastDayOf 1 (some .int), Cond.methodLink RX0 36 yX0_firstDayOf, Cond.static yX0_firstDayOf, Cond.code yX0_firstDayOf cX0_firstDayOf 1 (some .int), Cond.methodLink RX0 163 yX0_isVotingDay, Cond.instanceMethod yX0_isVotingDay, Cond.selects RX0 yX0_isVotingDay yX0_isVotingDay, Cond.code yX0_isVotingDay cX0_isVotingDay 2 (some .boolean), Cond.methodLink RX0 53 yX0_placeAt, Cond.static yX0_placeAt, Cond.code yX0_placeAt cX0_placeAt 1 (some .int)]
def wsL_votes_r2 : List Cond := [Cond.methodLink RX0 99 yX0_lawNumberAt, Cond.static yX0_lawNumberAt, Cond.code yX0_lawNumberAt cX0_lawNumberAt 1 (some .int), Cond.methodLink RX0 188 yX0_doubledDaysBefore, Cond.static yX0_doubledDaysBefore, Cond.code yX0_doubledDaysBefore cX0_doubledDaysBefore 1 (some .int), Cond.methodLink RX0 160 yX0_readCharacter, Cond.instanceMethod yX0_readCharacter, Cond.selects RX0 yX0_readCharacter yX0_readCharacter, Cond.code yX0_readCharacter cX0_readCharacter 2 (some .int), Cond.fieldLink RX0 9 "RomanCalendar" "characters" "[I", Cond.methodLink RX0 150 yX0_isPlace, Cond.static yX0_isPlace, Cond.code yX0_isPlace cX0_isPlace 1 (some .boolean), Cond.methodLink RX0 114 yX0_isMarketAt, Cond.instanceMethod yX0_isMarketAt, Cond.selects RX0 yX0_isMarketAt yX0_isMarketAt, Cond.code yX0_isMarketAt cX0_isMarketAt 2 (some .boolean), Cond.fieldLink RX0 19 "RomanCalendar" "marketRemainder" "I"]
def wsL_votes : List Cond := .codeWith yL_votes cL_votes 4 (some .int) [(0, 9, 12, 13)] :: ((wsL_votes_r1 ++ wsL_votes_r2) ++ wsX00 ++ (vx_atS RX0 157 "java/lang/IndexOutOfBoundsException" ["java/lang/RuntimeException", "java/lang/Exception"]).filter goodWord)
def wsL_law0_r1 : List Cond := [Cond.classLink RL 8 RX0, Cond.instantiable RX0 4, Cond.initialized RX0, Cond.classLink RL 117 RX1, Cond.instantiable RX1 9, Cond.initialized RX1, Cond.arrayClass .long, Cond.methodLink RL 116 yX0_init, Cond.instanceMethod yX0_init, Cond.code yX0_init cX0_init 2 none, Cond.methodLink RX0 1 objectInit, Cond.instanceMethod objectInit, Cond.code objectInit ⟨#[0xb1]⟩ 1 none, Cond.arrayClass .int, Cond.fieldLink RX0 9 "RomanCalendar" "characters" "[I", Cond.fieldLink RX0 13 "RomanCalendar" "consulYears" "[I", Cond.fieldLink RX0 16 "RomanCalendar" "consulPairs" "[I", Cond.fieldLink RX0 19 "RomanCalendar" "marketRemainder" "I", Cond.methodLink RX0 23 yX0_placeOfAnchor, Cond.static yX0_placeOfAnchor, Cond.code yX0_placeOfAnchor cX0_placeOfAnchor 4 (some .int), Cond.methodLink RX0 185 yX0_commonDaysBefore, Cond.static yX0_commonDaysBefore, Cond.code yX0_commonDaysBefore cX0_commonDaysBefore 3 (some .int)]
def wsL_law0_r2 : List Cond := [Cond.methodLink RX0 182 yX0_commonLengthOf, Cond.static yX0_commonLengthOf, Cond.code yX0_commonLengthOf cX0_commonLengthOf 1 (some .int), Cond.methodLink RX0 191 yX0_nonesDayOf, Cond.static yX0_nonesDayOf, Cond.code yX0_nonesDayOf cX0_nonesDayOf 1 (some .int), Cond.methodLink RX0 27 yX0_writeCharacter, Cond.instanceMethod yX0_writeCharacter, Cond.selects RX0 yX0_writeCharacter yX0_writeCharacter, Cond.code yX0_writeCharacter cX0_writeCharacter 3 none, Cond.methodLink RX0 150 yX0_isPlace, Cond.static yX0_isPlace, Cond.code yX0_isPlace cX0_isPlace 1 (some .boolean), Cond.methodLink RL 119 yX1_init, Cond.instanceMethod yX1_init, Cond.code yX1_init cX1_init 3 none, Cond.methodLink RX1 1 objectInit, Cond.fieldLink RX1 7 "RomanCalendarModel" "character" "[I", Cond.fieldLink RX1 13 "RomanCalendarModel" "first" "[I", Cond.fieldLink RX1 16 "RomanCalendarModel" "second" "[I", Cond.fieldLink RX1 23 "RomanCalendarModel" "day" "I", Cond.fieldLink RX1 27 "RomanCalendarModel" "month" "I", Cond.methodLink RX1 19 yX1_splits, Cond.instanceMethod yX1_splits]
def wsL_law0_r3 : List Cond := [Cond.selects RX1 yX1_splits yX1_splits, Cond.code yX1_splits cX1_splits 3 none, Cond.fieldLink RX1 56 "RomanCalendarModel" "year" "I", Cond.methodLink RX1 49 yX1_begin, Cond.static yX1_begin, Cond.code yX1_begin cX1_begin 1 (some .int), Cond.methodLink RX1 52 yX1_length, Cond.static yX1_length, Cond.code yX1_length cX1_length 2 (some .int), Cond.methodLink RX1 45 yX1_isLeap, Cond.static yX1_isLeap, Cond.code yX1_isLeap cX1_isLeap 1 (some .boolean), Cond.methodLink RX1 30 yX1_nones, Cond.static yX1_nones, Cond.code yX1_nones cX1_nones 1 (some .int), Cond.methodLink RX1 34 yX1_ides, Cond.static yX1_ides, Cond.code yX1_ides cX1_ides 1 (some .int), Cond.methodLink RL 120 yX0_days, Cond.instanceMethod yX0_days, Cond.selects RX0 yX0_days yX0_days, Cond.code yX0_days cX0_days 1 (some .int), Cond.constant RX0 31 (1095750), Cond.methodLink RL 124 yX1_days]
def wsL_law0_r4 : List Cond := [Cond.instanceMethod yX1_days, Cond.selects RX1 yX1_days yX1_days, Cond.code yX1_days cX1_days 1 (some .int), Cond.fieldLink RX1 37 "RomanCalendarModel" "thrown" "I", Cond.constant RX1 65 (1095750), Cond.methodLink RL 125 yL_number, Cond.static yL_number, Cond.initialized RL, Cond.codeWith yL_number cL_number 6 (some .int) [(0, 12, 15, 13)], Cond.classLink RL 13 "java/lang/IndexOutOfBoundsException", Cond.methodLink RL 7 yX0_number, Cond.instanceMethod yX0_number, Cond.selects RX0 yX0_number yX0_number, Cond.code yX0_number cX0_number 4 (some .int), Cond.methodLink RX0 32 yX0_checkDate, Cond.static yX0_checkDate, Cond.code yX0_checkDate cX0_checkDate 3 none, Cond.classLink RX0 153 "java/lang/IndexOutOfBoundsException", Cond.initialized "java/lang/IndexOutOfBoundsException", Cond.methodLink RX0 66 yX0_checkYear, Cond.static yX0_checkYear, Cond.code yX0_checkYear cX0_checkYear 1 none, Cond.methodLink RX0 69 yX0_checkMonth, Cond.static yX0_checkMonth]
def wsL_law0_r5 : List Cond := [Cond.code yX0_checkMonth cX0_checkMonth 1 none, Cond.methodLink RX0 43 yX0_lengthOf, Cond.static yX0_lengthOf, Cond.code yX0_lengthOf cX0_lengthOf 3 (some .int), Cond.methodLink RX0 179 yX0_isLeap, Cond.static yX0_isLeap, Cond.code yX0_isLeap cX0_isLeap 1 (some .boolean), Cond.methodLink RX0 36 yX0_firstDayOf, Cond.static yX0_firstDayOf, Cond.code yX0_firstDayOf cX0_firstDayOf 1 (some .int), Cond.methodLink RX0 40 yX0_daysBefore, Cond.static yX0_daysBefore, Cond.code yX0_daysBefore cX0_daysBefore 3 (some .int), Cond.methodLink RL 130 yX1_number, Cond.instanceMethod yX1_number, Cond.selects RX1 yX1_number yX1_number, Cond.code yX1_number cX1_number 5 (some .int), Cond.methodLink RX1 66 yX1_isYear, Cond.static yX1_isYear, Cond.code yX1_isYear cX1_isYear 1 (some .boolean), Cond.methodLink RX1 40 yX1_isIn, Cond.static yX1_isIn, Cond.code yX1_isIn cX1_isIn 3 (some .boolean), Cond.methodLink RX1 62 yX1_isFine]
def wsL_law0_r6 : List Cond := [Cond.instanceMethod yX1_isFine, Cond.selects RX1 yX1_isFine yX1_isFine, Cond.code yX1_isFine cX1_isFine 2 (some .boolean), Cond.methodLink RX1 69 yX1_numberFor, Cond.static yX1_numberFor, Cond.code yX1_numberFor cX1_numberFor 5 (some .int), Cond.methodLink RL 131 yX1_thrown, Cond.instanceMethod yX1_thrown, Cond.selects RX1 yX1_thrown yX1_thrown, Cond.code yX1_thrown cX1_thrown 1 (some .int), Cond.methodLink RL 134 yL_numberByCounting, Cond.static yL_numberByCounting, Cond.codeWith yL_numberByCounting cL_numberByCounting 6 (some .int) [(0, 12, 15, 13)], Cond.methodLink RL 15 yX0_numberByCounting, Cond.instanceMethod yX0_numberByCounting, Cond.selects RX0 yX0_numberByCounting yX0_numberByCounting, Cond.code yX0_numberByCounting cX0_numberByCounting 8 (some .int), Cond.methodLink RL 136 yX1_numberByCounting, Cond.instanceMethod yX1_numberByCounting, Cond.selects RX1 yX1_numberByCounting yX1_numberByCounting, Cond.code yX1_numberByCounting cX1_numberByCounting 4 (some .int), Cond.methodLink RX1 73 yX1_number, Cond.methodLink RL 137 yL_yearOf, Cond.static yL_yearOf]
def wsL_law0_r7 : List Cond := [Cond.codeWith yL_yearOf cL_yearOf 4 (some .int) [(0, 9, 12, 13)], Cond.methodLink RL 18 yX0_yearOf, Cond.instanceMethod yX0_yearOf, Cond.selects RX0 yX0_yearOf yX0_yearOf, Cond.code yX0_yearOf cX0_yearOf 2 (some .int), Cond.methodLink RX0 46 yX0_checkNumber, Cond.static yX0_checkNumber, Cond.code yX0_checkNumber cX0_checkNumber 1 none, Cond.methodLink RX0 50 yX0_yearAt, Cond.static yX0_yearAt, Cond.code yX0_yearAt cX0_yearAt 2 (some .int), Cond.methodLink RX0 166 Lib.Math.min.name, Cond.static Lib.Math.min.name, Cond.initialized "java/lang/Math", Cond.code Lib.Math.min.name Lib.Math.min.code 2 (some .int), Cond.methodLink RL 140 yX1_yearOf, Cond.instanceMethod yX1_yearOf, Cond.selects RX1 yX1_yearOf yX1_yearOf, Cond.code yX1_yearOf cX1_yearOf 2 (some .int), Cond.methodLink RX1 76 yX1_isAsked, Cond.instanceMethod yX1_isAsked, Cond.selects RX1 yX1_isAsked yX1_isAsked, Cond.code yX1_isAsked cX1_isAsked 3 (some .boolean), Cond.methodLink RX1 59 yX1_isDay]
def wsL_law0_r8 : List Cond := [Cond.static yX1_isDay, Cond.code yX1_isDay cX1_isDay 1 (some .boolean), Cond.constant RX1 44 (1095749), Cond.methodLink RL 141 yL_monthOf, Cond.static yL_monthOf, Cond.codeWith yL_monthOf cL_monthOf 4 (some .int) [(0, 9, 12, 13)], Cond.methodLink RL 22 yX0_monthOf, Cond.instanceMethod yX0_monthOf, Cond.selects RX0 yX0_monthOf yX0_monthOf, Cond.code yX0_monthOf cX0_monthOf 2 (some .int), Cond.methodLink RX0 53 yX0_placeAt, Cond.static yX0_placeAt, Cond.code yX0_placeAt cX0_placeAt 1 (some .int), Cond.methodLink RX0 99 yX0_lawNumberAt, Cond.static yX0_lawNumberAt, Cond.code yX0_lawNumberAt cX0_lawNumberAt 1 (some .int), Cond.methodLink RX0 188 yX0_doubledDaysBefore, Cond.static yX0_doubledDaysBefore, Cond.code yX0_doubledDaysBefore cX0_doubledDaysBefore 1 (some .int), Cond.methodLink RX0 56 yX0_monthOfPlace, Cond.static yX0_monthOfPlace, Cond.code yX0_monthOfPlace cX0_monthOfPlace 3 (some .int), Cond.methodLink RL 143 yX1_monthOf, Cond.instanceMethod yX1_monthOf]
def wsL_law0_r9 : List Cond := [Cond.selects RX1 yX1_monthOf yX1_monthOf, Cond.code yX1_monthOf cX1_monthOf 2 (some .int), Cond.methodLink RL 144 yL_dayOf, Cond.static yL_dayOf, Cond.codeWith yL_dayOf cL_dayOf 4 (some .int) [(0, 9, 12, 13)], Cond.methodLink RL 25 yX0_dayOf, Cond.instanceMethod yX0_dayOf, Cond.selects RX0 yX0_dayOf yX0_dayOf, Cond.code yX0_dayOf cX0_dayOf 4 (some .int), Cond.methodLink RL 146 yX1_dayOf, Cond.instanceMethod yX1_dayOf, Cond.selects RX1 yX1_dayOf yX1_dayOf, Cond.code yX1_dayOf cX1_dayOf 2 (some .int), Cond.methodLink RL 147 yL_weekdayOf, Cond.static yL_weekdayOf, Cond.codeWith yL_weekdayOf cL_weekdayOf 4 (some .int) [(0, 9, 12, 13)], Cond.methodLink RL 28 yX0_weekdayOf, Cond.instanceMethod yX0_weekdayOf, Cond.selects RX0 yX0_weekdayOf yX0_weekdayOf, Cond.code yX0_weekdayOf cX0_weekdayOf 2 (some .int), Cond.methodLink RL 149 yX1_weekdayOf, Cond.instanceMethod yX1_weekdayOf, Cond.selects RX1 yX1_weekdayOf yX1_weekdayOf, Cond.code yX1_weekdayOf cX1_weekdayOf 2 (some .int)]
def wsL_law0_r10 : List Cond := [Cond.methodLink RL 150 yL_anchorOf, Cond.static yL_anchorOf, Cond.codeWith yL_anchorOf cL_anchorOf 4 (some .int) [(0, 9, 12, 13)], Cond.methodLink RL 31 yX0_anchorOf, Cond.instanceMethod yX0_anchorOf, Cond.selects RX0 yX0_anchorOf yX0_anchorOf, Cond.code yX0_anchorOf cX0_anchorOf 2 (some .int), Cond.methodLink RX0 59 yX0_anchorOfPlace, Cond.static yX0_anchorOfPlace, Cond.code yX0_anchorOfPlace cX0_anchorOfPlace 2 (some .int), Cond.methodLink RX0 62 yX0_isBehindIdes, Cond.static yX0_isBehindIdes, Cond.code yX0_isBehindIdes cX0_isBehindIdes 1 (some .boolean), Cond.methodLink RL 152 yX1_anchorOf, Cond.instanceMethod yX1_anchorOf, Cond.selects RX1 yX1_anchorOf yX1_anchorOf, Cond.code yX1_anchorOf cX1_anchorOf 2 (some .int), Cond.methodLink RX1 79 yX1_anchorNow, Cond.instanceMethod yX1_anchorNow, Cond.selects RX1 yX1_anchorNow yX1_anchorNow, Cond.code yX1_anchorNow cX1_anchorNow 1 (some .int), Cond.methodLink RL 153 yL_anchorMonthOf, Cond.static yL_anchorMonthOf, Cond.codeWith yL_anchorMonthOf cL_anchorMonthOf 4 (some .int) [(0, 9, 12, 13)]]
def wsL_law0_r11 : List Cond := [Cond.methodLink RL 34 yX0_anchorMonthOf, Cond.instanceMethod yX0_anchorMonthOf, Cond.selects RX0 yX0_anchorMonthOf yX0_anchorMonthOf, Cond.code yX0_anchorMonthOf cX0_anchorMonthOf 4 (some .int), Cond.methodLink RL 155 yX1_anchorMonthOf, Cond.instanceMethod yX1_anchorMonthOf, Cond.selects RX1 yX1_anchorMonthOf yX1_anchorMonthOf, Cond.code yX1_anchorMonthOf cX1_anchorMonthOf 2 (some .int), Cond.methodLink RX1 83 yX1_anchorMonthNow, Cond.instanceMethod yX1_anchorMonthNow, Cond.selects RX1 yX1_anchorMonthNow yX1_anchorMonthNow, Cond.code yX1_anchorMonthNow cX1_anchorMonthNow 1 (some .int), Cond.methodLink RL 156 yL_countOf, Cond.static yL_countOf, Cond.codeWith yL_countOf cL_countOf 4 (some .int) [(0, 9, 12, 13)], Cond.methodLink RL 37 yX0_countOf, Cond.instanceMethod yX0_countOf, Cond.selects RX0 yX0_countOf yX0_countOf, Cond.code yX0_countOf cX0_countOf 5 (some .int), Cond.methodLink RL 158 yX1_countOf, Cond.instanceMethod yX1_countOf, Cond.selects RX1 yX1_countOf yX1_countOf, Cond.code yX1_countOf cX1_countOf 2 (some .int), Cond.methodLink RX1 86 yX1_countNow]
def wsL_law0_r12 : List Cond := [Cond.instanceMethod yX1_countNow, Cond.selects RX1 yX1_countNow yX1_countNow, Cond.code yX1_countNow cX1_countNow 2 (some .int), Cond.methodLink RL 159 yL_isDoubled, Cond.static yL_isDoubled, Cond.codeWith yL_isDoubled cL_isDoubled 4 (some .int) [(0, 16, 19, 13)], Cond.methodLink RL 40 yX0_isDoubled, Cond.instanceMethod yX0_isDoubled, Cond.selects RX0 yX0_isDoubled yX0_isDoubled, Cond.code yX0_isDoubled cX0_isDoubled 2 (some .boolean), Cond.methodLink RL 161 yX1_isDoubled, Cond.instanceMethod yX1_isDoubled, Cond.selects RX1 yX1_isDoubled yX1_isDoubled, Cond.code yX1_isDoubled cX1_isDoubled 2 (some .boolean), Cond.methodLink RX1 89 yX1_isDoubledNow, Cond.instanceMethod yX1_isDoubledNow, Cond.selects RX1 yX1_isDoubledNow yX1_isDoubledNow, Cond.code yX1_isDoubledNow cX1_isDoubledNow 1 (some .boolean), Cond.methodLink RL 162 yL_fromCount, Cond.static yL_fromCount, Cond.codeWith yL_fromCount cL_fromCount 8 (some .int) [(0, 16, 19, 13), (0, 16, 23, 48), (0, 16, 27, 50)], Cond.classLink RL 48 "java/lang/IllegalArgumentException", Cond.classLink RL 50 "java/lang/IllegalStateException", Cond.methodLink RL 44 yX0_fromCount]
def wsL_law0_r13 : List Cond := [Cond.instanceMethod yX0_fromCount, Cond.selects RX0 yX0_fromCount yX0_fromCount, Cond.code yX0_fromCount cX0_fromCount 8 (some .int), Cond.classLink RX0 75 "java/lang/IllegalArgumentException", Cond.initialized "java/lang/IllegalArgumentException", Cond.classLink RX0 85 "java/lang/IllegalStateException", Cond.initialized "java/lang/IllegalStateException", Cond.methodLink RX0 72 yX0_checkAnchor, Cond.static yX0_checkAnchor, Cond.code yX0_checkAnchor cX0_checkAnchor 1 none, Cond.methodLink RX0 82 yX0_greatestCountTo, Cond.static yX0_greatestCountTo, Cond.code yX0_greatestCountTo cX0_greatestCountTo 4 (some .int), Cond.methodLink RX0 90 yX0_isToldAsDoubled, Cond.static yX0_isToldAsDoubled, Cond.code yX0_isToldAsDoubled cX0_isToldAsDoubled 4 (some .boolean), Cond.methodLink RX0 96 yX0_lastDayOfPlace, Cond.static yX0_lastDayOfPlace, Cond.code yX0_lastDayOfPlace cX0_lastDayOfPlace 3 (some .int), Cond.methodLink RL 165 yX1_fromCount, Cond.instanceMethod yX1_fromCount, Cond.selects RX1 yX1_fromCount yX1_fromCount, Cond.code yX1_fromCount cX1_fromCount 9 (some .int), Cond.methodLink RX1 93 yX1_told]
def wsL_law0_r14 : List Cond := [Cond.instanceMethod yX1_told, Cond.selects RX1 yX1_told yX1_told, Cond.code yX1_told cX1_told 7 (some .int), Cond.methodLink RL 166 yL_greatestCount, Cond.static yL_greatestCount, Cond.codeWith yL_greatestCount cL_greatestCount 6 (some .int) [(0, 12, 15, 13), (0, 12, 19, 48)], Cond.methodLink RL 52 yX0_greatestCount, Cond.instanceMethod yX0_greatestCount, Cond.selects RX0 yX0_greatestCount yX0_greatestCount, Cond.code yX0_greatestCount cX0_greatestCount 4 (some .int), Cond.methodLink RL 168 yX1_greatestCount, Cond.instanceMethod yX1_greatestCount, Cond.selects RX1 yX1_greatestCount yX1_greatestCount, Cond.code yX1_greatestCount cX1_greatestCount 6 (some .int), Cond.methodLink RL 169 yL_lawNumber, Cond.static yL_lawNumber, Cond.codeWith yL_lawNumber cL_lawNumber 4 (some .int) [(0, 9, 12, 13)], Cond.methodLink RL 55 yX0_lawNumber, Cond.instanceMethod yX0_lawNumber, Cond.selects RX0 yX0_lawNumber yX0_lawNumber, Cond.code yX0_lawNumber cX0_lawNumber 2 (some .int), Cond.methodLink RL 171 yX1_lawNumber, Cond.instanceMethod yX1_lawNumber, Cond.selects RX1 yX1_lawNumber yX1_lawNumber]
def wsL_law0_r15 : List Cond := [Cond.code yX1_lawNumber cX1_lawNumber 2 (some .int), Cond.methodLink RX1 97 yX1_lawful, Cond.instanceMethod yX1_lawful, Cond.selects RX1 yX1_lawful yX1_lawful, Cond.code yX1_lawful cX1_lawful 3 (some .int), Cond.methodLink RL 172 yL_termEnd, Cond.static yL_termEnd, Cond.codeWith yL_termEnd cL_termEnd 5 (some .int) [(0, 10, 13, 13), (0, 10, 17, 48), (0, 10, 21, 50)], Cond.methodLink RL 58 yX0_termEnd, Cond.instanceMethod yX0_termEnd, Cond.selects RX0 yX0_termEnd yX0_termEnd, Cond.code yX0_termEnd cX0_termEnd 4 (some .int), Cond.constant RX0 102 (100000), Cond.constant RX0 105 (1095749), Cond.methodLink RL 175 yX1_termEnd, Cond.instanceMethod yX1_termEnd, Cond.selects RX1 yX1_termEnd yX1_termEnd, Cond.code yX1_termEnd cX1_termEnd 8 (some .int), Cond.constant RX1 100 (100000), Cond.methodLink RL 176 yL_lawDays, Cond.static yL_lawDays, Cond.codeWith yL_lawDays cL_lawDays 5 (some .int) [(0, 10, 13, 13)], Cond.methodLink RL 62 yX0_lawDays, Cond.instanceMethod yX0_lawDays]
def wsL_law0_r16 : List Cond := [Cond.selects RX0 yX0_lawDays yX0_lawDays, Cond.code yX0_lawDays cX0_lawDays 3 (some .int), Cond.methodLink RL 178 yX1_lawDays, Cond.instanceMethod yX1_lawDays, Cond.selects RX1 yX1_lawDays yX1_lawDays, Cond.code yX1_lawDays cX1_lawDays 3 (some .int), Cond.methodLink RL 179 yL_placeOf, Cond.static yL_placeOf, Cond.codeWith yL_placeOf cL_placeOf 4 (some .int) [(0, 9, 12, 13)], Cond.methodLink RL 65 yX0_placeOf, Cond.instanceMethod yX0_placeOf, Cond.selects RX0 yX0_placeOf yX0_placeOf, Cond.code yX0_placeOf cX0_placeOf 2 (some .int), Cond.methodLink RL 181 yX1_placeOf, Cond.instanceMethod yX1_placeOf, Cond.selects RX1 yX1_placeOf yX1_placeOf, Cond.code yX1_placeOf cX1_placeOf 2 (some .int), Cond.methodLink RX1 101 yX1_placed, Cond.instanceMethod yX1_placed, Cond.selects RX1 yX1_placed yX1_placed, Cond.code yX1_placed cX1_placed 3 (some .int), Cond.methodLink RL 182 yL_letterOfEight, Cond.static yL_letterOfEight, Cond.codeWith yL_letterOfEight cL_letterOfEight 4 (some .int) [(0, 9, 12, 13)]]
def wsL_law0_r17 : List Cond := [Cond.methodLink RL 68 yX0_letterOfEight, Cond.instanceMethod yX0_letterOfEight, Cond.selects RX0 yX0_letterOfEight yX0_letterOfEight, Cond.code yX0_letterOfEight cX0_letterOfEight 2 (some .int), Cond.methodLink RX0 108 yX0_eightLetterAt, Cond.static yX0_eightLetterAt, Cond.code yX0_eightLetterAt cX0_eightLetterAt 1 (some .int), Cond.methodLink RL 184 yX1_letterOfEight, Cond.instanceMethod yX1_letterOfEight, Cond.selects RX1 yX1_letterOfEight yX1_letterOfEight, Cond.code yX1_letterOfEight cX1_letterOfEight 2 (some .int), Cond.methodLink RL 185 yL_letterOfSeven, Cond.static yL_letterOfSeven, Cond.codeWith yL_letterOfSeven cL_letterOfSeven 4 (some .int) [(0, 9, 12, 13)], Cond.methodLink RL 71 yX0_letterOfSeven, Cond.instanceMethod yX0_letterOfSeven, Cond.selects RX0 yX0_letterOfSeven yX0_letterOfSeven, Cond.code yX0_letterOfSeven cX0_letterOfSeven 2 (some .int), Cond.methodLink RX0 111 yX0_sevenLetterAt, Cond.static yX0_sevenLetterAt, Cond.code yX0_sevenLetterAt cX0_sevenLetterAt 1 (some .int), Cond.methodLink RL 187 yX1_letterOfSeven, Cond.instanceMethod yX1_letterOfSeven, Cond.selects RX1 yX1_letterOfSeven yX1_letterOfSeven]
def wsL_law0_r18 : List Cond := [Cond.code yX1_letterOfSeven cX1_letterOfSeven 2 (some .int), Cond.methodLink RL 188 yL_setMarketDay, Cond.static yL_setMarketDay, Cond.codeWith yL_setMarketDay cL_setMarketDay 4 (some .int) [(0, 9, 12, 13)], Cond.methodLink RL 74 yX0_setMarketDay, Cond.instanceMethod yX0_setMarketDay, Cond.selects RX0 yX0_setMarketDay yX0_setMarketDay, Cond.code yX0_setMarketDay cX0_setMarketDay 3 (some .int), Cond.methodLink RL 190 yX1_setMarketDay, Cond.instanceMethod yX1_setMarketDay, Cond.selects RX1 yX1_setMarketDay yX1_setMarketDay, Cond.code yX1_setMarketDay cX1_setMarketDay 3 (some .int), Cond.fieldLink RX1 104 "RomanCalendarModel" "market" "I", Cond.methodLink RL 191 yL_isMarket, Cond.static yL_isMarket, Cond.codeWith yL_isMarket cL_isMarket 4 (some .int) [(0, 16, 19, 13)], Cond.methodLink RL 77 yX0_isMarket, Cond.instanceMethod yX0_isMarket, Cond.selects RX0 yX0_isMarket yX0_isMarket, Cond.code yX0_isMarket cX0_isMarket 2 (some .boolean), Cond.methodLink RX0 114 yX0_isMarketAt, Cond.instanceMethod yX0_isMarketAt, Cond.selects RX0 yX0_isMarketAt yX0_isMarketAt, Cond.code yX0_isMarketAt cX0_isMarketAt 2 (some .boolean)]
def wsL_law0_r19 : List Cond := [Cond.methodLink RL 193 yX1_isMarket, Cond.instanceMethod yX1_isMarket, Cond.selects RX1 yX1_isMarket yX1_isMarket, Cond.code yX1_isMarket cX1_isMarket 2 (some .boolean), Cond.methodLink RL 194 yL_marketLetters, Cond.static yL_marketLetters, Cond.codeWith yL_marketLetters cL_marketLetters 4 (some .int) [(0, 9, 12, 13)], Cond.methodLink RL 80 yX0_marketLetters, Cond.instanceMethod yX0_marketLetters, Cond.selects RX0 yX0_marketLetters yX0_marketLetters, Cond.code yX0_marketLetters cX0_marketLetters 6 (some .int), Cond.methodLink RX0 117 yX0_lastDayOf, Cond.static yX0_lastDayOf, Cond.code yX0_lastDayOf cX0_lastDayOf 1 (some .int), Cond.methodLink RX0 120 yJ9_floorMod_7cf53, Cond.static yJ9_floorMod_7cf53, Cond.initialized RJ9, Cond.code yJ9_floorMod_7cf53 cJ9_floorMod_7cf53 3 (some .int), Cond.methodLink RL 196 yX1_marketLetters, Cond.instanceMethod yX1_marketLetters, Cond.selects RX1 yX1_marketLetters yX1_marketLetters, Cond.code yX1_marketLetters cX1_marketLetters 2 (some .int), Cond.methodLink RX1 107 yX1_letters, Cond.instanceMethod yX1_letters]
def wsL_law0_r20 : List Cond := [Cond.selects RX1 yX1_letters yX1_letters, Cond.code yX1_letters cX1_letters 6 (some .int), Cond.methodLink RL 197 yL_sundayLetters, Cond.static yL_sundayLetters, Cond.codeWith yL_sundayLetters cL_sundayLetters 4 (some .int) [(0, 9, 12, 13)], Cond.methodLink RL 83 yX0_sundayLetters, Cond.instanceMethod yX0_sundayLetters, Cond.selects RX0 yX0_sundayLetters yX0_sundayLetters, Cond.code yX0_sundayLetters cX0_sundayLetters 6 (some .int), Cond.methodLink RL 199 yX1_sundayLetters, Cond.instanceMethod yX1_sundayLetters, Cond.selects RX1 yX1_sundayLetters yX1_sundayLetters, Cond.code yX1_sundayLetters cX1_sundayLetters 2 (some .int), Cond.methodLink RL 200 yL_setConsuls, Cond.static yL_setConsuls, Cond.codeWith yL_setConsuls cL_setConsuls 6 (some .int) [(0, 12, 15, 13), (0, 12, 19, 48), (0, 12, 23, 50)], Cond.methodLink RL 86 yX0_setConsuls, Cond.instanceMethod yX0_setConsuls, Cond.selects RX0 yX0_setConsuls yX0_setConsuls, Cond.code yX0_setConsuls cX0_setConsuls 5 (some .int), Cond.methodLink RX0 125 yX0_isConsul, Cond.static yX0_isConsul, Cond.code yX0_isConsul cX0_isConsul 1 (some .boolean), Cond.methodLink RX0 130 yX0_slotOf]
def wsL_law0_r21 : List Cond := [Cond.instanceMethod yX0_slotOf, Cond.selects RX0 yX0_slotOf yX0_slotOf, Cond.code yX0_slotOf cX0_slotOf 3 (some .int), Cond.methodLink RX0 133 yX0_isSlot, Cond.static yX0_isSlot, Cond.code yX0_isSlot cX0_isSlot 1 (some .boolean), Cond.methodLink RX0 138 yX0_countConsulYears, Cond.instanceMethod yX0_countConsulYears, Cond.selects RX0 yX0_countConsulYears yX0_countConsulYears, Cond.code yX0_countConsulYears cX0_countConsulYears 3 (some .int), Cond.methodLink RL 202 yX1_setConsuls, Cond.instanceMethod yX1_setConsuls, Cond.selects RX1 yX1_setConsuls yX1_setConsuls, Cond.code yX1_setConsuls cX1_setConsuls 5 (some .int), Cond.fieldLink RX1 110 "RomanCalendarModel" "written" "I", Cond.methodLink RL 203 yL_strikeConsuls, Cond.static yL_strikeConsuls, Cond.codeWith yL_strikeConsuls cL_strikeConsuls 4 (some .int) [(0, 9, 12, 13), (0, 9, 15, 50)], Cond.methodLink RL 89 yX0_strikeConsuls, Cond.instanceMethod yX0_strikeConsuls, Cond.selects RX0 yX0_strikeConsuls yX0_strikeConsuls, Cond.code yX0_strikeConsuls cX0_strikeConsuls 3 (some .int), Cond.methodLink RL 205 yX1_strikeConsuls, Cond.instanceMethod yX1_strikeConsuls]
def wsL_law0_r22 : List Cond := [Cond.selects RX1 yX1_strikeConsuls yX1_strikeConsuls, Cond.code yX1_strikeConsuls cX1_strikeConsuls 2 (some .int), Cond.methodLink RL 206 yL_consulsOf, Cond.static yL_consulsOf, Cond.codeWith yL_consulsOf cL_consulsOf 4 (some .int) [(0, 9, 12, 13)], Cond.methodLink RL 92 yX0_consulsOf, Cond.instanceMethod yX0_consulsOf, Cond.selects RX0 yX0_consulsOf yX0_consulsOf, Cond.code yX0_consulsOf cX0_consulsOf 3 (some .int), Cond.methodLink RL 208 yX1_consulsOf, Cond.instanceMethod yX1_consulsOf, Cond.selects RX1 yX1_consulsOf yX1_consulsOf, Cond.code yX1_consulsOf cX1_consulsOf 2 (some .int), Cond.methodLink RL 209 yL_afterConsuls, Cond.static yL_afterConsuls, Cond.codeWith yL_afterConsuls cL_afterConsuls 4 (some .int) [(0, 9, 12, 13)], Cond.methodLink RL 95 yX0_afterConsuls, Cond.instanceMethod yX0_afterConsuls, Cond.selects RX0 yX0_afterConsuls yX0_afterConsuls, Cond.code yX0_afterConsuls cX0_afterConsuls 5 (some .int), Cond.methodLink RL 211 yX1_afterConsuls, Cond.instanceMethod yX1_afterConsuls, Cond.selects RX1 yX1_afterConsuls yX1_afterConsuls, Cond.code yX1_afterConsuls cX1_afterConsuls 3 (some .int)]
def wsL_law0_r23 : List Cond := [Cond.methodLink RL 212 yL_yearOfConsuls, Cond.static yL_yearOfConsuls, Cond.codeWith yL_yearOfConsuls cL_yearOfConsuls 6 (some .int) [(0, 12, 15, 48)], Cond.methodLink RL 98 yX0_yearOfConsuls, Cond.instanceMethod yX0_yearOfConsuls, Cond.selects RX0 yX0_yearOfConsuls yX0_yearOfConsuls, Cond.code yX0_yearOfConsuls cX0_yearOfConsuls 6 (some .int), Cond.methodLink RX0 146 yX0_nextYearOfPair, Cond.instanceMethod yX0_nextYearOfPair, Cond.selects RX0 yX0_nextYearOfPair yX0_nextYearOfPair, Cond.code yX0_nextYearOfPair cX0_nextYearOfPair 8 (some .int), Cond.methodLink RX0 194 yX0_isPair, Cond.static yX0_isPair, Cond.code yX0_isPair cX0_isPair 5 (some .boolean), Cond.methodLink RL 214 yX1_yearOfConsuls, Cond.instanceMethod yX1_yearOfConsuls, Cond.selects RX1 yX1_yearOfConsuls yX1_yearOfConsuls, Cond.code yX1_yearOfConsuls cX1_yearOfConsuls 8 (some .int), Cond.methodLink RL 215 yL_setCharacter, Cond.static yL_setCharacter, Cond.codeWith yL_setCharacter cL_setCharacter 5 (some .int) [(0, 10, 13, 13), (0, 10, 17, 48)], Cond.methodLink RL 101 yX0_setCharacter, Cond.instanceMethod yX0_setCharacter, Cond.selects RX0 yX0_setCharacter yX0_setCharacter]
def wsL_law0_r24 : List Cond := [Cond.code yX0_setCharacter cX0_setCharacter 4 (some .int), Cond.methodLink RX0 160 yX0_readCharacter, Cond.instanceMethod yX0_readCharacter, Cond.selects RX0 yX0_readCharacter yX0_readCharacter, Cond.code yX0_readCharacter cX0_readCharacter 2 (some .int), Cond.methodLink RL 217 yX1_setCharacter, Cond.instanceMethod yX1_setCharacter, Cond.selects RX1 yX1_setCharacter yX1_setCharacter, Cond.code yX1_setCharacter cX1_setCharacter 4 (some .int), Cond.methodLink RL 218 yL_characterOf, Cond.static yL_characterOf, Cond.codeWith yL_characterOf cL_characterOf 4 (some .int) [(0, 9, 12, 13)], Cond.methodLink RL 104 yX0_characterOf, Cond.instanceMethod yX0_characterOf, Cond.selects RX0 yX0_characterOf yX0_characterOf, Cond.code yX0_characterOf cX0_characterOf 2 (some .int), Cond.methodLink RL 220 yX1_characterOf, Cond.instanceMethod yX1_characterOf, Cond.selects RX1 yX1_characterOf yX1_characterOf, Cond.code yX1_characterOf cX1_characterOf 2 (some .int), Cond.methodLink RL 221 yL_canVote, Cond.static yL_canVote, Cond.codeWith yL_canVote cL_canVote 4 (some .int) [(0, 16, 19, 13)], Cond.methodLink RL 107 yX0_canVote]
def wsL_law0_r25 : List Cond := [Cond.instanceMethod yX0_canVote, Cond.selects RX0 yX0_canVote yX0_canVote, Cond.code yX0_canVote cX0_canVote 2 (some .boolean), Cond.methodLink RX0 163 yX0_isVotingDay, Cond.instanceMethod yX0_isVotingDay, Cond.selects RX0 yX0_isVotingDay yX0_isVotingDay, Cond.code yX0_isVotingDay cX0_isVotingDay 2 (some .boolean), Cond.methodLink RL 223 yX1_canVote, Cond.instanceMethod yX1_canVote, Cond.selects RX1 yX1_canVote yX1_canVote, Cond.code yX1_canVote cX1_canVote 2 (some .boolean), Cond.methodLink RX1 113 yX1_isVoting, Cond.instanceMethod yX1_isVoting, Cond.selects RX1 yX1_isVoting yX1_isVoting, Cond.code yX1_isVoting cX1_isVoting 2 (some .boolean), Cond.methodLink RL 224 yL_nextCourt, Cond.static yL_nextCourt, Cond.codeWith yL_nextCourt cL_nextCourt 4 (some .int) [(0, 9, 12, 13)], Cond.methodLink RL 110 yX0_nextCourt, Cond.instanceMethod yX0_nextCourt, Cond.selects RX0 yX0_nextCourt yX0_nextCourt, Cond.code yX0_nextCourt cX0_nextCourt 5 (some .int), Cond.methodLink RL 226 yX1_nextCourt, Cond.instanceMethod yX1_nextCourt]
def wsL_law0_r26 : List Cond := [Cond.selects RX1 yX1_nextCourt yX1_nextCourt, Cond.code yX1_nextCourt cX1_nextCourt 4 (some .int), Cond.methodLink RL 227 yL_votes, Cond.static yL_votes, Cond.codeWith yL_votes cL_votes 4 (some .int) [(0, 9, 12, 13)], Cond.methodLink RL 113 yX0_votes, Cond.instanceMethod yX0_votes, Cond.selects RX0 yX0_votes yX0_votes, Cond.code yX0_votes cX0_votes 5 (some .int), Cond.methodLink RL 229 yX1_votes, Cond.instanceMethod yX1_votes, Cond.selects RX1 yX1_votes yX1_votes, Cond.code yX1_votes cX1_votes 4 (some .int)]
def wsL_law0 : List Cond := (wsL_law0_r1 ++ (wsL_law0_r2 ++ (wsL_law0_r3 ++ (wsL_law0_r4 ++ (wsL_law0_r5 ++ (wsL_law0_r6 ++ (wsL_law0_r7 ++ (wsL_law0_r8 ++ (wsL_law0_r9 ++ (wsL_law0_r10 ++ (wsL_law0_r11 ++ (wsL_law0_r12 ++ (wsL_law0_r13 ++ (wsL_law0_r14 ++ (wsL_law0_r15 ++ (wsL_law0_r16 ++ (wsL_law0_r17 ++ (wsL_law0_r18 ++ (wsL_law0_r19 ++ (wsL_law0_r20 ++ (wsL_law0_r21 ++ (wsL_law0_r22 ++ (wsL_law0_r23 ++ (wsL_law0_r24 ++ (wsL_law0_r25 ++ wsL_law0_r26))))))))))))))))))))))))) ++ wsX00 ++ wsX10 ++ ([] : List Cond)
def wsL_law : List Cond := wsL_law0 ++ (vx_atS RX0 157 "java/lang/IndexOutOfBoundsException" ["java/lang/RuntimeException", "java/lang/Exception"]).filter goodWord ++ (vx_atS RX0 79 "java/lang/IllegalArgumentException" ["java/lang/RuntimeException", "java/lang/Exception"]).filter goodWord ++ (vx_atS RX0 89 "java/lang/IllegalStateException" ["java/lang/RuntimeException", "java/lang/Exception"]).filter goodWord
end
section
theorem pz_memr {big ws : List Cond} (ps : List Nat) (hp : ws = ps.filterMap (fun i => big[i]?)) : ∀ w ∈ ws, w ∈ big := by
  intro w hw
  rw [hp] at hw
  obtain ⟨i, -, hi⟩ := List.mem_filterMap.mp hw
  exact List.mem_of_getElem? hi
set_option maxRecDepth 20000 in
theorem pz_in__r1 : ∀ w ∈ wsL_law0_r1, w ∈ lw_tbl := pz_memr [30, 31, 21, 523, 524, 22, 772, 32, 33, 34, 35, 36, 37, 70, 57, 58, 59, 60, 38, 39, 40, 41, 42, 43] (by decide +kernel)
set_option maxRecDepth 20000 in
theorem pz_in__r2 : ∀ w ∈ wsL_law0_r2, w ∈ lw_tbl := pz_memr [44, 45, 46, 47, 48, 49, 50, 52, 0, 53, 54, 55, 56, 525, 526, 527, 528, 553, 554, 555, 551, 550, 529, 531] (by decide +kernel)
set_option maxRecDepth 20000 in
theorem pz_in__r3 : ∀ w ∈ wsL_law0_r3, w ∈ lw_tbl := pz_memr [8, 532, 549, 533, 534, 535, 536, 537, 538, 539, 540, 541, 542, 543, 544, 545, 546, 547, 71, 72, 73, 74, 75, 580] (by decide +kernel)
set_option maxRecDepth 20000 in
theorem pz_in__r4 : ∀ w ∈ wsL_law0_r4, w ∈ lw_tbl := pz_memr [581, 582, 583, 548, 584, 76, 77, 20, 78, 79, 80, 81, 82, 83, 84, 85, 86, 90, 26, 87, 88, 89, 158, 159] (by decide +kernel)
set_option maxRecDepth 20000 in
theorem pz_in__r5 : ∀ w ∈ wsL_law0_r5, w ∈ lw_tbl := pz_memr [160, 162, 163, 164, 165, 166, 167, 169, 170, 171, 172, 173, 174, 585, 586, 587, 588, 589, 590, 591, 592, 593, 594, 595] (by decide +kernel)
set_option maxRecDepth 20000 in
theorem pz_in__r6 : ∀ w ∈ wsL_law0_r6, w ∈ lw_tbl := pz_memr [597, 9, 598, 599, 600, 601, 576, 577, 578, 579, 175, 176, 177, 178, 179, 180, 181, 602, 603, 604, 605, 606, 182, 183] (by decide +kernel)
set_option maxRecDepth 20000 in
theorem pz_in__r7 : ∀ w ∈ wsL_law0_r7, w ∈ lw_tbl := pz_memr [184, 185, 186, 187, 188, 189, 190, 191, 193, 194, 195, 196, 197, 27, 198, 607, 608, 609, 610, 611, 613, 10, 614, 615] (by decide +kernel)
set_option maxRecDepth 20000 in
theorem pz_in__r8 : ∀ w ∈ wsL_law0_r8, w ∈ lw_tbl := pz_memr [616, 617, 618, 199, 200, 201, 202, 203, 204, 205, 206, 207, 208, 209, 210, 211, 212, 213, 214, 215, 216, 217, 619, 620] (by decide +kernel)
set_option maxRecDepth 20000 in
theorem pz_in__r9 : ∀ w ∈ wsL_law0_r9, w ∈ lw_tbl := pz_memr [621, 622, 218, 219, 220, 221, 222, 223, 224, 623, 624, 625, 626, 225, 226, 227, 228, 229, 230, 231, 627, 628, 629, 630] (by decide +kernel)
set_option maxRecDepth 20000 in
theorem pz_in__r10 : ∀ w ∈ wsL_law0_r10, w ∈ lw_tbl := pz_memr [232, 233, 234, 235, 236, 237, 238, 239, 240, 241, 242, 243, 244, 631, 632, 633, 634, 635, 637, 11, 638, 245, 246, 247] (by decide +kernel)
set_option maxRecDepth 20000 in
theorem pz_in__r11 : ∀ w ∈ wsL_law0_r11, w ∈ lw_tbl := pz_memr [248, 249, 250, 251, 639, 640, 641, 642, 643, 645, 12, 646, 252, 253, 254, 255, 256, 257, 258, 647, 648, 649, 650, 651] (by decide +kernel)
set_option maxRecDepth 20000 in
theorem pz_in__r12 : ∀ w ∈ wsL_law0_r12, w ∈ lw_tbl := pz_memr [653, 13, 654, 259, 260, 261, 262, 263, 264, 265, 655, 656, 657, 658, 659, 661, 14, 662, 266, 267, 268, 269, 270, 271] (by decide +kernel)
set_option maxRecDepth 20000 in
theorem pz_in__r13 : ∀ w ∈ wsL_law0_r13, w ∈ lw_tbl := pz_memr [272, 273, 274, 278, 28, 298, 29, 275, 276, 277, 295, 296, 297, 314, 315, 316, 318, 319, 320, 663, 664, 665, 666, 667] (by decide +kernel)
set_option maxRecDepth 20000 in
theorem pz_in__r14 : ∀ w ∈ wsL_law0_r14, w ∈ lw_tbl := pz_memr [669, 15, 670, 321, 322, 323, 324, 325, 326, 327, 671, 672, 673, 674, 328, 329, 330, 331, 332, 333, 334, 675, 676, 677] (by decide +kernel)
set_option maxRecDepth 20000 in
theorem pz_in__r15 : ∀ w ∈ wsL_law0_r15, w ∈ lw_tbl := pz_memr [678, 679, 681, 16, 682, 335, 336, 337, 338, 339, 340, 341, 342, 344, 683, 684, 685, 686, 687, 346, 347, 348, 349, 350] (by decide +kernel)
set_option maxRecDepth 20000 in
theorem pz_in__r16 : ∀ w ∈ wsL_law0_r16, w ∈ lw_tbl := pz_memr [351, 352, 688, 689, 690, 691, 353, 354, 355, 356, 357, 358, 359, 692, 693, 694, 695, 696, 698, 17, 699, 360, 361, 362] (by decide +kernel)
set_option maxRecDepth 20000 in
theorem pz_in__r17 : ∀ w ∈ wsL_law0_r17, w ∈ lw_tbl := pz_memr [363, 364, 365, 366, 367, 368, 369, 700, 701, 702, 703, 370, 371, 372, 373, 374, 375, 376, 377, 378, 379, 704, 705, 706] (by decide +kernel)
set_option maxRecDepth 20000 in
theorem pz_in__r18 : ∀ w ∈ wsL_law0_r18, w ∈ lw_tbl := pz_memr [707, 380, 381, 382, 383, 384, 385, 386, 708, 709, 710, 711, 552, 387, 388, 389, 390, 391, 392, 393, 394, 396, 2, 397] (by decide +kernel)
set_option maxRecDepth 20000 in
theorem pz_in__r19 : ∀ w ∈ wsL_law0_r19, w ∈ lw_tbl := pz_memr [712, 713, 714, 715, 398, 399, 400, 401, 402, 403, 404, 405, 406, 407, 408, 409, 27, 410, 716, 717, 718, 719, 720, 722] (by decide +kernel)
set_option maxRecDepth 20000 in
theorem pz_in__r20 : ∀ w ∈ wsL_law0_r20, w ∈ lw_tbl := pz_memr [18, 723, 411, 412, 413, 414, 415, 416, 417, 724, 725, 726, 727, 418, 419, 420, 421, 422, 423, 424, 425, 426, 427, 429] (by decide +kernel)
set_option maxRecDepth 20000 in
theorem pz_in__r21 : ∀ w ∈ wsL_law0_r21, w ∈ lw_tbl := pz_memr [431, 3, 432, 433, 434, 435, 437, 439, 4, 440, 728, 729, 730, 731, 556, 441, 442, 443, 444, 445, 446, 447, 732, 733] (by decide +kernel)
set_option maxRecDepth 20000 in
theorem pz_in__r22 : ∀ w ∈ wsL_law0_r22, w ∈ lw_tbl := pz_memr [734, 735, 449, 450, 451, 452, 453, 454, 455, 736, 737, 738, 739, 456, 457, 458, 459, 460, 461, 462, 740, 741, 742, 743] (by decide +kernel)
set_option maxRecDepth 20000 in
theorem pz_in__r23 : ∀ w ∈ wsL_law0_r23, w ∈ lw_tbl := pz_memr [463, 464, 465, 466, 467, 468, 469, 471, 473, 5, 474, 475, 476, 477, 744, 745, 746, 747, 478, 479, 480, 481, 482, 483] (by decide +kernel)
set_option maxRecDepth 20000 in
theorem pz_in__r24 : ∀ w ∈ wsL_law0_r24, w ∈ lw_tbl := pz_memr [484, 487, 489, 6, 490, 748, 749, 750, 751, 491, 492, 493, 494, 495, 496, 497, 752, 753, 754, 755, 498, 499, 500, 501] (by decide +kernel)
set_option maxRecDepth 20000 in
theorem pz_in__r25 : ∀ w ∈ wsL_law0_r25, w ∈ lw_tbl := pz_memr [502, 503, 504, 505, 507, 7, 508, 756, 757, 758, 759, 760, 762, 19, 763, 509, 510, 511, 512, 513, 514, 515, 764, 765] (by decide +kernel)
set_option maxRecDepth 20000 in
theorem pz_in__r26 : ∀ w ∈ wsL_law0_r26, w ∈ lw_tbl := pz_memr [766, 767, 516, 517, 518, 519, 520, 521, 522, 768, 769, 770, 771] (by decide +kernel)
theorem pz_in_X00 : ∀ w ∈ wsX00, w ∈ lw_tbl := by decide +kernel
theorem pz_in_X10 : ∀ w ∈ wsX10, w ∈ lw_tbl := by decide +kernel
theorem wsL_law_in0 : ∀ w ∈ wsL_law0, w ∈ lw_tbl := List.forall_mem_append.mpr ⟨List.forall_mem_append.mpr ⟨List.forall_mem_append.mpr ⟨List.forall_mem_append.mpr ⟨pz_in__r1, List.forall_mem_append.mpr ⟨pz_in__r2, List.forall_mem_append.mpr ⟨pz_in__r3, List.forall_mem_append.mpr ⟨pz_in__r4, List.forall_mem_append.mpr ⟨pz_in__r5, List.forall_mem_append.mpr ⟨pz_in__r6, List.forall_mem_append.mpr ⟨pz_in__r7, List.forall_mem_append.mpr ⟨pz_in__r8, List.forall_mem_append.mpr ⟨pz_in__r9, List.forall_mem_append.mpr ⟨pz_in__r10, List.forall_mem_append.mpr ⟨pz_in__r11, List.forall_mem_append.mpr ⟨pz_in__r12, List.forall_mem_append.mpr ⟨pz_in__r13, List.forall_mem_append.mpr ⟨pz_in__r14, List.forall_mem_append.mpr ⟨pz_in__r15, List.forall_mem_append.mpr ⟨pz_in__r16, List.forall_mem_append.mpr ⟨pz_in__r17, List.forall_mem_append.mpr ⟨pz_in__r18, List.forall_mem_append.mpr ⟨pz_in__r19, List.forall_mem_append.mpr ⟨pz_in__r20, List.forall_mem_append.mpr ⟨pz_in__r21, List.forall_mem_append.mpr ⟨pz_in__r22, List.forall_mem_append.mpr ⟨pz_in__r23, List.forall_mem_append.mpr ⟨pz_in__r24, List.forall_mem_append.mpr ⟨pz_in__r25, pz_in__r26⟩⟩⟩⟩⟩⟩⟩⟩⟩⟩⟩⟩⟩⟩⟩⟩⟩⟩⟩⟩⟩⟩⟩⟩⟩, pz_in_X00⟩, pz_in_X10⟩, fun _ h => absurd h List.not_mem_nil⟩
theorem wsL_law_x0 : ∀ w ∈ (vx_atS RX0 157 "java/lang/IndexOutOfBoundsException" ["java/lang/RuntimeException", "java/lang/Exception"]).filter goodWord, w ∈ lw_tbl := by decide +kernel
theorem wsL_law_x1 : ∀ w ∈ (vx_atS RX0 79 "java/lang/IllegalArgumentException" ["java/lang/RuntimeException", "java/lang/Exception"]).filter goodWord, w ∈ lw_tbl := by decide +kernel
theorem wsL_law_x2 : ∀ w ∈ (vx_atS RX0 89 "java/lang/IllegalStateException" ["java/lang/RuntimeException", "java/lang/Exception"]).filter goodWord, w ∈ lw_tbl := by decide +kernel
theorem wsL_law_in : ∀ w ∈ wsL_law, w ∈ lw_tbl := fun w h => (List.mem_append.mp h).elim (fun h => (List.mem_append.mp h).elim (fun h => (List.mem_append.mp h).elim (fun h => wsL_law_in0 w h) (fun h => wsL_law_x0 w h)) (fun h => wsL_law_x1 w h)) (fun h => wsL_law_x2 w h)
theorem inlX0 : ∀ w ∈ wsX00, w ∈ wsL_law := fun _ h => List.mem_append_left _ (List.mem_append_left _ (List.mem_append_left _ (List.mem_append_left _ (List.mem_append_left _ (List.mem_append_right _ h)))))
theorem inX0 : ∀ w ∈ wsX00, w ∈ lw_tbl := fun w h => wsL_law_in w (inlX0 w h)
theorem inlX1 : ∀ w ∈ wsX10, w ∈ wsL_law := fun _ h => List.mem_append_left _ (List.mem_append_left _ (List.mem_append_left _ (List.mem_append_left _ (List.mem_append_right _ h))))
theorem inX1 : ∀ w ∈ wsX10, w ∈ lw_tbl := fun w h => wsL_law_in w (inlX1 w h)
theorem inJ9 : ∀ w ∈ wsJ90, w ∈ lw_tbl := by decide +kernel
theorem inJ0 : ∀ w ∈ wsJ00, w ∈ lw_tbl := by decide +kernel
set_option maxRecDepth 20000 in
theorem ggX0_init_X0_placeOfAnchor : GoodIn wsX0_init wsX0_placeOfAnchor := goodIn_r _ [12, 13, 14, 11, 15, 16, 17, 18, 19, 20, 21] (by decide +kernel) (by decide +kernel)
set_option maxRecDepth 20000 in
theorem gX0_init_X0_placeOfAnchor : GoodIn wsX0_init (va_wsS RX0 23 yX0_placeOfAnchor wsX0_placeOfAnchor) := goodIn_app (goodIn_of _ (by decide +kernel)) ggX0_init_X0_placeOfAnchor
set_option maxRecDepth 20000 in
theorem ggX0_init_X0_writeCharacter : GoodIn wsX0_init wsX0_writeCharacter := goodIn_r _ [25, 5, 26, 27, 11, 28, 29, 30, 31, 32] (by decide +kernel) (by decide +kernel)
set_option maxRecDepth 20000 in
theorem gX0_init_X0_writeCharacter : GoodIn wsX0_init (wsV RX0 27 RX0 yX0_writeCharacter wsX0_writeCharacter) := goodIn_app (goodIn_of _ (by decide +kernel)) ggX0_init_X0_writeCharacter
end
section
theorem dX0_init_0 : decode cX0_init 0 = .ok (.aload_n 0, 1) := by decide +kernel
theorem dX0_init_1 : decode cX0_init 1 = .ok (.invokespecial 1, 3) := by decide +kernel
theorem dX0_init_4 : decode cX0_init 4 = .ok (.aload_n 0, 1) := by decide +kernel
theorem dX0_init_5 : decode cX0_init 5 = .ok (.sipush 365, 3) := by decide +kernel
theorem dX0_init_8 : decode cX0_init 8 = .ok (.newarray .int, 2) := by decide +kernel
theorem dX0_init_10 : decode cX0_init 10 = .ok (.putfield 9, 3) := by decide +kernel
theorem dX0_init_13 : decode cX0_init 13 = .ok (.aload_n 0, 1) := by decide +kernel
theorem dX0_init_14 : decode cX0_init 14 = .ok (.bipush 60, 2) := by decide +kernel
theorem dX0_init_16 : decode cX0_init 16 = .ok (.newarray .int, 2) := by decide +kernel
theorem dX0_init_18 : decode cX0_init 18 = .ok (.putfield 13, 3) := by decide +kernel
theorem dX0_init_21 : decode cX0_init 21 = .ok (.aload_n 0, 1) := by decide +kernel
theorem dX0_init_22 : decode cX0_init 22 = .ok (.bipush 60, 2) := by decide +kernel
theorem dX0_init_24 : decode cX0_init 24 = .ok (.newarray .int, 2) := by decide +kernel
theorem dX0_init_26 : decode cX0_init 26 = .ok (.putfield 16, 3) := by decide +kernel
theorem dX0_init_29 : decode cX0_init 29 = .ok (.aload_n 0, 1) := by decide +kernel
theorem dX0_init_30 : decode cX0_init 30 = .ok (.iconst 0, 1) := by decide +kernel
theorem dX0_init_31 : decode cX0_init 31 = .ok (.putfield 19, 3) := by decide +kernel
theorem dX0_init_34 : decode cX0_init 34 = .ok (.iconst 0, 1) := by decide +kernel
theorem dX0_init_35 : decode cX0_init 35 = .ok (.istore_n 1, 1) := by decide +kernel
theorem dX0_init_36 : decode cX0_init 36 = .ok (.iload_n 1, 1) := by decide +kernel
theorem dX0_init_37 : decode cX0_init 37 = .ok (.sipush 365, 3) := by decide +kernel
theorem dX0_init_40 : decode cX0_init 40 = .ok (.if_icmp .ge 16, 3) := by decide +kernel
theorem dX0_init_43 : decode cX0_init 43 = .ok (.aload_n 0, 1) := by decide +kernel
theorem dX0_init_44 : decode cX0_init 44 = .ok (.getfield 9, 3) := by decide +kernel
theorem dX0_init_47 : decode cX0_init 47 = .ok (.iload_n 1, 1) := by decide +kernel
theorem dX0_init_48 : decode cX0_init 48 = .ok (.iconst 2, 1) := by decide +kernel
theorem dX0_init_49 : decode cX0_init 49 = .ok (.iastore, 1) := by decide +kernel
theorem dX0_init_50 : decode cX0_init 50 = .ok (.iinc 1 1, 3) := by decide +kernel
theorem dX0_init_53 : decode cX0_init 53 = .ok (.goto (-17), 3) := by decide +kernel
theorem dX0_init_56 : decode cX0_init 56 = .ok (.iconst 1, 1) := by decide +kernel
theorem dX0_init_57 : decode cX0_init 57 = .ok (.istore_n 1, 1) := by decide +kernel
theorem dX0_init_58 : decode cX0_init 58 = .ok (.iload_n 1, 1) := by decide +kernel
theorem dX0_init_59 : decode cX0_init 59 = .ok (.bipush 12, 2) := by decide +kernel
theorem dX0_init_61 : decode cX0_init 61 = .ok (.if_icmp .gt 39, 3) := by decide +kernel
theorem dX0_init_64 : decode cX0_init 64 = .ok (.aload_n 0, 1) := by decide +kernel
theorem dX0_init_65 : decode cX0_init 65 = .ok (.iload_n 1, 1) := by decide +kernel
theorem dX0_init_66 : decode cX0_init 66 = .ok (.iconst 0, 1) := by decide +kernel
theorem dX0_init_67 : decode cX0_init 67 = .ok (.invokestatic 23, 3) := by decide +kernel
theorem dX0_init_70 : decode cX0_init 70 = .ok (.iconst 0, 1) := by decide +kernel
theorem dX0_init_71 : decode cX0_init 71 = .ok (.invokevirtual 27, 3) := by decide +kernel
theorem dX0_init_74 : decode cX0_init 74 = .ok (.aload_n 0, 1) := by decide +kernel
theorem dX0_init_75 : decode cX0_init 75 = .ok (.iload_n 1, 1) := by decide +kernel
theorem dX0_init_76 : decode cX0_init 76 = .ok (.iconst 1, 1) := by decide +kernel
theorem dX0_init_77 : decode cX0_init 77 = .ok (.invokestatic 23, 3) := by decide +kernel
theorem dX0_init_80 : decode cX0_init 80 = .ok (.iconst 0, 1) := by decide +kernel
theorem dX0_init_81 : decode cX0_init 81 = .ok (.invokevirtual 27, 3) := by decide +kernel
theorem dX0_init_84 : decode cX0_init 84 = .ok (.aload_n 0, 1) := by decide +kernel
theorem dX0_init_85 : decode cX0_init 85 = .ok (.iload_n 1, 1) := by decide +kernel
theorem dX0_init_86 : decode cX0_init 86 = .ok (.iconst 2, 1) := by decide +kernel
theorem dX0_init_87 : decode cX0_init 87 = .ok (.invokestatic 23, 3) := by decide +kernel
theorem dX0_init_90 : decode cX0_init 90 = .ok (.iconst 0, 1) := by decide +kernel
theorem dX0_init_91 : decode cX0_init 91 = .ok (.invokevirtual 27, 3) := by decide +kernel
theorem dX0_init_94 : decode cX0_init 94 = .ok (.iinc 1 1, 3) := by decide +kernel
theorem dX0_init_97 : decode cX0_init 97 = .ok (.goto (-39), 3) := by decide +kernel
theorem dX0_init_100 : decode cX0_init 100 = .ok (.return_, 1) := by decide +kernel
theorem dX0_days_0 : decode cX0_days 0 = .ok (.ldc 31, 2) := by decide +kernel
theorem dX0_days_2 : decode cX0_days 2 = .ok (.ireturn, 1) := by decide +kernel
set_option maxRecDepth 20000 in
theorem ggX0_number_X0_checkDate : GoodIn wsX0_number wsX0_checkDate := goodIn_ca (goodIn_r _ [4, 5, 6, 7, 8, 3, 9, 10, 11, 12, 13, 14, 15, 16, 17, 18, 19, 20, 21] (by decide +kernel) (by decide +kernel)) (goodIn_sub (fun _ h => List.mem_cons_of_mem _ (List.mem_append_right _ h)) (by decide +kernel))
set_option maxRecDepth 20000 in
theorem gX0_number_X0_checkDate : GoodIn wsX0_number (va_wsS RX0 32 yX0_checkDate wsX0_checkDate) := goodIn_app (goodIn_of _ (by decide +kernel)) ggX0_number_X0_checkDate
set_option maxRecDepth 20000 in
theorem ggX0_number_X0_firstDayOf : GoodIn wsX0_number wsX0_firstDayOf := goodIn_r _ [24] (by decide +kernel) (by decide +kernel)
set_option maxRecDepth 20000 in
theorem gX0_number_X0_firstDayOf : GoodIn wsX0_number (va_wsS RX0 36 yX0_firstDayOf wsX0_firstDayOf) := goodIn_app (goodIn_of _ (by decide +kernel)) ggX0_number_X0_firstDayOf
set_option maxRecDepth 20000 in
theorem ggX0_number_X0_daysBefore : GoodIn wsX0_number wsX0_daysBefore := goodIn_r _ [27, 16, 17, 3, 18, 28, 29, 30, 19, 20, 21] (by decide +kernel) (by decide +kernel)
set_option maxRecDepth 20000 in
theorem gX0_number_X0_daysBefore : GoodIn wsX0_number (va_wsS RX0 40 yX0_daysBefore wsX0_daysBefore) := goodIn_app (goodIn_of _ (by decide +kernel)) ggX0_number_X0_daysBefore
theorem dX0_number_0 : decode cX0_number 0 = .ok (.iload_n 1, 1) := by decide +kernel
theorem dX0_number_1 : decode cX0_number 1 = .ok (.iload_n 2, 1) := by decide +kernel
theorem dX0_number_2 : decode cX0_number 2 = .ok (.iload_n 3, 1) := by decide +kernel
theorem dX0_number_3 : decode cX0_number 3 = .ok (.invokestatic 32, 3) := by decide +kernel
theorem dX0_number_6 : decode cX0_number 6 = .ok (.iload_n 1, 1) := by decide +kernel
theorem dX0_number_7 : decode cX0_number 7 = .ok (.invokestatic 36, 3) := by decide +kernel
theorem dX0_number_10 : decode cX0_number 10 = .ok (.iload_n 1, 1) := by decide +kernel
theorem dX0_number_11 : decode cX0_number 11 = .ok (.iload_n 2, 1) := by decide +kernel
theorem dX0_number_12 : decode cX0_number 12 = .ok (.invokestatic 40, 3) := by decide +kernel
theorem dX0_number_15 : decode cX0_number 15 = .ok (.iadd, 1) := by decide +kernel
theorem dX0_number_16 : decode cX0_number 16 = .ok (.iload_n 3, 1) := by decide +kernel
theorem dX0_number_17 : decode cX0_number 17 = .ok (.iadd, 1) := by decide +kernel
theorem dX0_number_18 : decode cX0_number 18 = .ok (.iconst 1, 1) := by decide +kernel
theorem dX0_number_19 : decode cX0_number 19 = .ok (.isub, 1) := by decide +kernel
theorem dX0_number_20 : decode cX0_number 20 = .ok (.ireturn, 1) := by decide +kernel
set_option maxRecDepth 20000 in
theorem ggX0_numberByCounting_X0_checkDate : GoodIn wsX0_numberByCounting wsX0_checkDate := goodIn_ca (goodIn_r _ [4, 5, 6, 7, 8, 3, 9, 10, 11, 12, 13, 14, 15, 16, 17, 18, 19, 20, 21] (by decide +kernel) (by decide +kernel)) (goodIn_sub (fun _ h => List.mem_cons_of_mem _ (List.mem_append_right _ h)) (by decide +kernel))
set_option maxRecDepth 20000 in
theorem gX0_numberByCounting_X0_checkDate : GoodIn wsX0_numberByCounting (va_wsS RX0 32 yX0_checkDate wsX0_checkDate) := goodIn_app (goodIn_of _ (by decide +kernel)) ggX0_numberByCounting_X0_checkDate
set_option maxRecDepth 20000 in
theorem ggX0_numberByCounting_X0_firstDayOf : GoodIn wsX0_numberByCounting wsX0_firstDayOf := goodIn_r _ [24] (by decide +kernel) (by decide +kernel)
set_option maxRecDepth 20000 in
theorem gX0_numberByCounting_X0_firstDayOf : GoodIn wsX0_numberByCounting (va_wsS RX0 36 yX0_firstDayOf wsX0_firstDayOf) := goodIn_app (goodIn_of _ (by decide +kernel)) ggX0_numberByCounting_X0_firstDayOf
set_option maxRecDepth 20000 in
theorem ggX0_numberByCounting_X0_lengthOf : GoodIn wsX0_numberByCounting wsX0_lengthOf := goodIn_r _ [15, 16, 17, 3, 18, 19, 20, 21] (by decide +kernel) (by decide +kernel)
set_option maxRecDepth 20000 in
theorem gX0_numberByCounting_X0_lengthOf : GoodIn wsX0_numberByCounting (va_wsS RX0 43 yX0_lengthOf wsX0_lengthOf) := goodIn_app (goodIn_of _ (by decide +kernel)) ggX0_numberByCounting_X0_lengthOf
theorem dX0_numberByCounting_0 : decode cX0_numberByCounting 0 = .ok (.iload_n 1, 1) := by decide +kernel
theorem dX0_numberByCounting_1 : decode cX0_numberByCounting 1 = .ok (.iload_n 2, 1) := by decide +kernel
theorem dX0_numberByCounting_2 : decode cX0_numberByCounting 2 = .ok (.iload_n 3, 1) := by decide +kernel
theorem dX0_numberByCounting_3 : decode cX0_numberByCounting 3 = .ok (.invokestatic 32, 3) := by decide +kernel
theorem dX0_numberByCounting_6 : decode cX0_numberByCounting 6 = .ok (.iload_n 1, 1) := by decide +kernel
theorem dX0_numberByCounting_7 : decode cX0_numberByCounting 7 = .ok (.invokestatic 36, 3) := by decide +kernel
theorem dX0_numberByCounting_10 : decode cX0_numberByCounting 10 = .ok (.istore 4, 2) := by decide +kernel
theorem dX0_numberByCounting_12 : decode cX0_numberByCounting 12 = .ok (.iconst 1, 1) := by decide +kernel
theorem dX0_numberByCounting_13 : decode cX0_numberByCounting 13 = .ok (.istore 5, 2) := by decide +kernel
theorem dX0_numberByCounting_15 : decode cX0_numberByCounting 15 = .ok (.iload 5, 2) := by decide +kernel
theorem dX0_numberByCounting_17 : decode cX0_numberByCounting 17 = .ok (.iload_n 2, 1) := by decide +kernel
theorem dX0_numberByCounting_18 : decode cX0_numberByCounting 18 = .ok (.if_icmp .ge 36, 3) := by decide +kernel
theorem dX0_numberByCounting_21 : decode cX0_numberByCounting 21 = .ok (.iload_n 1, 1) := by decide +kernel
theorem dX0_numberByCounting_22 : decode cX0_numberByCounting 22 = .ok (.iload 5, 2) := by decide +kernel
theorem dX0_numberByCounting_24 : decode cX0_numberByCounting 24 = .ok (.invokestatic 43, 3) := by decide +kernel
theorem dX0_numberByCounting_27 : decode cX0_numberByCounting 27 = .ok (.istore 6, 2) := by decide +kernel
theorem dX0_numberByCounting_29 : decode cX0_numberByCounting 29 = .ok (.iconst 1, 1) := by decide +kernel
theorem dX0_numberByCounting_30 : decode cX0_numberByCounting 30 = .ok (.istore 7, 2) := by decide +kernel
theorem dX0_numberByCounting_32 : decode cX0_numberByCounting 32 = .ok (.iload 7, 2) := by decide +kernel
theorem dX0_numberByCounting_34 : decode cX0_numberByCounting 34 = .ok (.iload 6, 2) := by decide +kernel
theorem dX0_numberByCounting_36 : decode cX0_numberByCounting 36 = .ok (.if_icmp .gt 12, 3) := by decide +kernel
theorem dX0_numberByCounting_39 : decode cX0_numberByCounting 39 = .ok (.iinc 4 1, 3) := by decide +kernel
theorem dX0_numberByCounting_42 : decode cX0_numberByCounting 42 = .ok (.iinc 7 1, 3) := by decide +kernel
theorem dX0_numberByCounting_45 : decode cX0_numberByCounting 45 = .ok (.goto (-13), 3) := by decide +kernel
theorem dX0_numberByCounting_48 : decode cX0_numberByCounting 48 = .ok (.iinc 5 1, 3) := by decide +kernel
theorem dX0_numberByCounting_51 : decode cX0_numberByCounting 51 = .ok (.goto (-36), 3) := by decide +kernel
theorem dX0_numberByCounting_54 : decode cX0_numberByCounting 54 = .ok (.iconst 1, 1) := by decide +kernel
theorem dX0_numberByCounting_55 : decode cX0_numberByCounting 55 = .ok (.istore 5, 2) := by decide +kernel
theorem dX0_numberByCounting_57 : decode cX0_numberByCounting 57 = .ok (.iload 5, 2) := by decide +kernel
theorem dX0_numberByCounting_59 : decode cX0_numberByCounting 59 = .ok (.iload_n 3, 1) := by decide +kernel
theorem dX0_numberByCounting_60 : decode cX0_numberByCounting 60 = .ok (.if_icmp .ge 12, 3) := by decide +kernel
theorem dX0_numberByCounting_63 : decode cX0_numberByCounting 63 = .ok (.iinc 4 1, 3) := by decide +kernel
theorem dX0_numberByCounting_66 : decode cX0_numberByCounting 66 = .ok (.iinc 5 1, 3) := by decide +kernel
theorem dX0_numberByCounting_69 : decode cX0_numberByCounting 69 = .ok (.goto (-12), 3) := by decide +kernel
theorem dX0_numberByCounting_72 : decode cX0_numberByCounting 72 = .ok (.iload 4, 2) := by decide +kernel
theorem dX0_numberByCounting_74 : decode cX0_numberByCounting 74 = .ok (.ireturn, 1) := by decide +kernel
set_option maxRecDepth 20000 in
theorem ggX0_yearOf_X0_checkNumber : GoodIn wsX0_yearOf wsX0_checkNumber := goodIn_ca (goodIn_r _ [4, 5, 6, 7] (by decide +kernel) (by decide +kernel)) (goodIn_sub (fun _ h => List.mem_cons_of_mem _ (List.mem_append_right _ h)) (by decide +kernel))
set_option maxRecDepth 20000 in
theorem gX0_yearOf_X0_checkNumber : GoodIn wsX0_yearOf (va_wsS RX0 46 yX0_checkNumber wsX0_checkNumber) := goodIn_app (goodIn_of _ (by decide +kernel)) ggX0_yearOf_X0_checkNumber
set_option maxRecDepth 20000 in
theorem ggX0_yearOf_X0_yearAt : GoodIn wsX0_yearOf wsX0_yearAt := goodIn_r _ [10, 11, 12, 13, 14] (by decide +kernel) (by decide +kernel)
set_option maxRecDepth 20000 in
theorem gX0_yearOf_X0_yearAt : GoodIn wsX0_yearOf (va_wsS RX0 50 yX0_yearAt wsX0_yearAt) := goodIn_app (goodIn_of _ (by decide +kernel)) ggX0_yearOf_X0_yearAt
theorem dX0_yearOf_0 : decode cX0_yearOf 0 = .ok (.iload_n 1, 1) := by decide +kernel
theorem dX0_yearOf_1 : decode cX0_yearOf 1 = .ok (.invokestatic 46, 3) := by decide +kernel
theorem dX0_yearOf_4 : decode cX0_yearOf 4 = .ok (.iload_n 1, 1) := by decide +kernel
theorem dX0_yearOf_5 : decode cX0_yearOf 5 = .ok (.invokestatic 50, 3) := by decide +kernel
theorem dX0_yearOf_8 : decode cX0_yearOf 8 = .ok (.ireturn, 1) := by decide +kernel
set_option maxRecDepth 20000 in
theorem ggX0_monthOf_X0_checkNumber : GoodIn wsX0_monthOf wsX0_checkNumber := goodIn_ca (goodIn_r _ [4, 5, 6, 7] (by decide +kernel) (by decide +kernel)) (goodIn_sub (fun _ h => List.mem_cons_of_mem _ (List.mem_append_right _ h)) (by decide +kernel))
set_option maxRecDepth 20000 in
theorem gX0_monthOf_X0_checkNumber : GoodIn wsX0_monthOf (va_wsS RX0 46 yX0_checkNumber wsX0_checkNumber) := goodIn_app (goodIn_of _ (by decide +kernel)) ggX0_monthOf_X0_checkNumber
set_option maxRecDepth 20000 in
theorem ggX0_monthOf_X0_placeAt : GoodIn wsX0_monthOf wsX0_placeAt := goodIn_r _ [10, 11, 12, 3, 13, 14, 15, 16] (by decide +kernel) (by decide +kernel)
set_option maxRecDepth 20000 in
theorem gX0_monthOf_X0_placeAt : GoodIn wsX0_monthOf (va_wsS RX0 53 yX0_placeAt wsX0_placeAt) := goodIn_app (goodIn_of _ (by decide +kernel)) ggX0_monthOf_X0_placeAt
set_option maxRecDepth 20000 in
theorem ggX0_monthOf_X0_monthOfPlace : GoodIn wsX0_monthOf wsX0_monthOfPlace := goodIn_r _ [19, 20, 21, 3, 22] (by decide +kernel) (by decide +kernel)
set_option maxRecDepth 20000 in
theorem gX0_monthOf_X0_monthOfPlace : GoodIn wsX0_monthOf (va_wsS RX0 56 yX0_monthOfPlace wsX0_monthOfPlace) := goodIn_app (goodIn_of _ (by decide +kernel)) ggX0_monthOf_X0_monthOfPlace
theorem dX0_monthOf_0 : decode cX0_monthOf 0 = .ok (.iload_n 1, 1) := by decide +kernel
theorem dX0_monthOf_1 : decode cX0_monthOf 1 = .ok (.invokestatic 46, 3) := by decide +kernel
theorem dX0_monthOf_4 : decode cX0_monthOf 4 = .ok (.iload_n 1, 1) := by decide +kernel
theorem dX0_monthOf_5 : decode cX0_monthOf 5 = .ok (.invokestatic 53, 3) := by decide +kernel
theorem dX0_monthOf_8 : decode cX0_monthOf 8 = .ok (.invokestatic 56, 3) := by decide +kernel
theorem dX0_monthOf_11 : decode cX0_monthOf 11 = .ok (.ireturn, 1) := by decide +kernel
set_option maxRecDepth 20000 in
theorem ggX0_dayOf_X0_checkNumber : GoodIn wsX0_dayOf wsX0_checkNumber := goodIn_ca (goodIn_r _ [4, 5, 6, 7] (by decide +kernel) (by decide +kernel)) (goodIn_sub (fun _ h => List.mem_cons_of_mem _ (List.mem_append_right _ h)) (by decide +kernel))
set_option maxRecDepth 20000 in
theorem gX0_dayOf_X0_checkNumber : GoodIn wsX0_dayOf (va_wsS RX0 46 yX0_checkNumber wsX0_checkNumber) := goodIn_app (goodIn_of _ (by decide +kernel)) ggX0_dayOf_X0_checkNumber
set_option maxRecDepth 20000 in
theorem ggX0_dayOf_X0_yearAt : GoodIn wsX0_dayOf wsX0_yearAt := goodIn_r _ [10, 11, 12, 13, 14] (by decide +kernel) (by decide +kernel)
set_option maxRecDepth 20000 in
theorem gX0_dayOf_X0_yearAt : GoodIn wsX0_dayOf (va_wsS RX0 50 yX0_yearAt wsX0_yearAt) := goodIn_app (goodIn_of _ (by decide +kernel)) ggX0_dayOf_X0_yearAt
set_option maxRecDepth 20000 in
theorem ggX0_dayOf_X0_placeAt : GoodIn wsX0_dayOf wsX0_placeAt := goodIn_r _ [17, 18, 19, 3, 20, 21, 22, 23] (by decide +kernel) (by decide +kernel)
set_option maxRecDepth 20000 in
theorem gX0_dayOf_X0_placeAt : GoodIn wsX0_dayOf (va_wsS RX0 53 yX0_placeAt wsX0_placeAt) := goodIn_app (goodIn_of _ (by decide +kernel)) ggX0_dayOf_X0_placeAt
set_option maxRecDepth 20000 in
theorem ggX0_dayOf_X0_monthOfPlace : GoodIn wsX0_dayOf wsX0_monthOfPlace := goodIn_r _ [26, 27, 28, 3, 29] (by decide +kernel) (by decide +kernel)
set_option maxRecDepth 20000 in
theorem gX0_dayOf_X0_monthOfPlace : GoodIn wsX0_dayOf (va_wsS RX0 56 yX0_monthOfPlace wsX0_monthOfPlace) := goodIn_app (goodIn_of _ (by decide +kernel)) ggX0_dayOf_X0_monthOfPlace
set_option maxRecDepth 20000 in
theorem ggX0_dayOf_X0_firstDayOf : GoodIn wsX0_dayOf wsX0_firstDayOf := goodIn_r _ [32] (by decide +kernel) (by decide +kernel)
set_option maxRecDepth 20000 in
theorem gX0_dayOf_X0_firstDayOf : GoodIn wsX0_dayOf (va_wsS RX0 36 yX0_firstDayOf wsX0_firstDayOf) := goodIn_app (goodIn_of _ (by decide +kernel)) ggX0_dayOf_X0_firstDayOf
set_option maxRecDepth 20000 in
theorem ggX0_dayOf_X0_daysBefore : GoodIn wsX0_dayOf wsX0_daysBefore := goodIn_r _ [35, 36, 37, 3, 38, 39, 40, 41, 27, 28, 29] (by decide +kernel) (by decide +kernel)
set_option maxRecDepth 20000 in
theorem gX0_dayOf_X0_daysBefore : GoodIn wsX0_dayOf (va_wsS RX0 40 yX0_daysBefore wsX0_daysBefore) := goodIn_app (goodIn_of _ (by decide +kernel)) ggX0_dayOf_X0_daysBefore
theorem dX0_dayOf_0 : decode cX0_dayOf 0 = .ok (.iload_n 1, 1) := by decide +kernel
theorem dX0_dayOf_1 : decode cX0_dayOf 1 = .ok (.invokestatic 46, 3) := by decide +kernel
theorem dX0_dayOf_4 : decode cX0_dayOf 4 = .ok (.iload_n 1, 1) := by decide +kernel
theorem dX0_dayOf_5 : decode cX0_dayOf 5 = .ok (.invokestatic 50, 3) := by decide +kernel
theorem dX0_dayOf_8 : decode cX0_dayOf 8 = .ok (.istore_n 2, 1) := by decide +kernel
theorem dX0_dayOf_9 : decode cX0_dayOf 9 = .ok (.iload_n 1, 1) := by decide +kernel
theorem dX0_dayOf_10 : decode cX0_dayOf 10 = .ok (.invokestatic 53, 3) := by decide +kernel
theorem dX0_dayOf_13 : decode cX0_dayOf 13 = .ok (.invokestatic 56, 3) := by decide +kernel
theorem dX0_dayOf_16 : decode cX0_dayOf 16 = .ok (.istore_n 3, 1) := by decide +kernel
theorem dX0_dayOf_17 : decode cX0_dayOf 17 = .ok (.iload_n 1, 1) := by decide +kernel
theorem dX0_dayOf_18 : decode cX0_dayOf 18 = .ok (.iload_n 2, 1) := by decide +kernel
theorem dX0_dayOf_19 : decode cX0_dayOf 19 = .ok (.invokestatic 36, 3) := by decide +kernel
theorem dX0_dayOf_22 : decode cX0_dayOf 22 = .ok (.isub, 1) := by decide +kernel
theorem dX0_dayOf_23 : decode cX0_dayOf 23 = .ok (.iload_n 2, 1) := by decide +kernel
theorem dX0_dayOf_24 : decode cX0_dayOf 24 = .ok (.iload_n 3, 1) := by decide +kernel
theorem dX0_dayOf_25 : decode cX0_dayOf 25 = .ok (.invokestatic 40, 3) := by decide +kernel
theorem dX0_dayOf_28 : decode cX0_dayOf 28 = .ok (.isub, 1) := by decide +kernel
theorem dX0_dayOf_29 : decode cX0_dayOf 29 = .ok (.iconst 1, 1) := by decide +kernel
theorem dX0_dayOf_30 : decode cX0_dayOf 30 = .ok (.iadd, 1) := by decide +kernel
theorem dX0_dayOf_31 : decode cX0_dayOf 31 = .ok (.ireturn, 1) := by decide +kernel
set_option maxRecDepth 20000 in
theorem ggX0_weekdayOf_X0_checkNumber : GoodIn wsX0_weekdayOf wsX0_checkNumber := goodIn_ca (goodIn_r _ [4, 5, 6, 7] (by decide +kernel) (by decide +kernel)) (goodIn_sub (fun _ h => List.mem_cons_of_mem _ (List.mem_append_right _ h)) (by decide +kernel))
set_option maxRecDepth 20000 in
theorem gX0_weekdayOf_X0_checkNumber : GoodIn wsX0_weekdayOf (va_wsS RX0 46 yX0_checkNumber wsX0_checkNumber) := goodIn_app (goodIn_of _ (by decide +kernel)) ggX0_weekdayOf_X0_checkNumber
theorem dX0_weekdayOf_0 : decode cX0_weekdayOf 0 = .ok (.iload_n 1, 1) := by decide +kernel
theorem dX0_weekdayOf_1 : decode cX0_weekdayOf 1 = .ok (.invokestatic 46, 3) := by decide +kernel
theorem dX0_weekdayOf_4 : decode cX0_weekdayOf 4 = .ok (.iload_n 1, 1) := by decide +kernel
theorem dX0_weekdayOf_5 : decode cX0_weekdayOf 5 = .ok (.bipush 7, 2) := by decide +kernel
theorem dX0_weekdayOf_7 : decode cX0_weekdayOf 7 = .ok (.iadd, 1) := by decide +kernel
theorem dX0_weekdayOf_8 : decode cX0_weekdayOf 8 = .ok (.iconst 1, 1) := by decide +kernel
theorem dX0_weekdayOf_9 : decode cX0_weekdayOf 9 = .ok (.isub, 1) := by decide +kernel
theorem dX0_weekdayOf_10 : decode cX0_weekdayOf 10 = .ok (.bipush 7, 2) := by decide +kernel
theorem dX0_weekdayOf_12 : decode cX0_weekdayOf 12 = .ok (.irem, 1) := by decide +kernel
theorem dX0_weekdayOf_13 : decode cX0_weekdayOf 13 = .ok (.ireturn, 1) := by decide +kernel
set_option maxRecDepth 20000 in
theorem ggX0_anchorOf_X0_checkNumber : GoodIn wsX0_anchorOf wsX0_checkNumber := goodIn_ca (goodIn_r _ [4, 5, 6, 7] (by decide +kernel) (by decide +kernel)) (goodIn_sub (fun _ h => List.mem_cons_of_mem _ (List.mem_append_right _ h)) (by decide +kernel))
set_option maxRecDepth 20000 in
theorem gX0_anchorOf_X0_checkNumber : GoodIn wsX0_anchorOf (va_wsS RX0 46 yX0_checkNumber wsX0_checkNumber) := goodIn_app (goodIn_of _ (by decide +kernel)) ggX0_anchorOf_X0_checkNumber
set_option maxRecDepth 20000 in
theorem ggX0_anchorOf_X0_placeAt : GoodIn wsX0_anchorOf wsX0_placeAt := goodIn_r _ [10, 11, 12, 3, 13, 14, 15, 16] (by decide +kernel) (by decide +kernel)
set_option maxRecDepth 20000 in
theorem gX0_anchorOf_X0_placeAt : GoodIn wsX0_anchorOf (va_wsS RX0 53 yX0_placeAt wsX0_placeAt) := goodIn_app (goodIn_of _ (by decide +kernel)) ggX0_anchorOf_X0_placeAt
set_option maxRecDepth 20000 in
theorem ggX0_anchorOf_X0_anchorOfPlace : GoodIn wsX0_anchorOf wsX0_anchorOfPlace := goodIn_r _ [19, 20, 21, 3, 22, 23, 24, 25, 26, 27, 28, 29, 30, 31, 32, 33, 34, 35, 36, 37] (by decide +kernel) (by decide +kernel)
set_option maxRecDepth 20000 in
theorem gX0_anchorOf_X0_anchorOfPlace : GoodIn wsX0_anchorOf (va_wsS RX0 59 yX0_anchorOfPlace wsX0_anchorOfPlace) := goodIn_app (goodIn_of _ (by decide +kernel)) ggX0_anchorOf_X0_anchorOfPlace
theorem dX0_anchorOf_0 : decode cX0_anchorOf 0 = .ok (.iload_n 1, 1) := by decide +kernel
theorem dX0_anchorOf_1 : decode cX0_anchorOf 1 = .ok (.invokestatic 46, 3) := by decide +kernel
theorem dX0_anchorOf_4 : decode cX0_anchorOf 4 = .ok (.iload_n 1, 1) := by decide +kernel
theorem dX0_anchorOf_5 : decode cX0_anchorOf 5 = .ok (.invokestatic 53, 3) := by decide +kernel
theorem dX0_anchorOf_8 : decode cX0_anchorOf 8 = .ok (.invokestatic 59, 3) := by decide +kernel
theorem dX0_anchorOf_11 : decode cX0_anchorOf 11 = .ok (.ireturn, 1) := by decide +kernel
set_option maxRecDepth 20000 in
theorem ggX0_anchorMonthOf_X0_checkNumber : GoodIn wsX0_anchorMonthOf wsX0_checkNumber := goodIn_ca (goodIn_r _ [4, 5, 6, 7] (by decide +kernel) (by decide +kernel)) (goodIn_sub (fun _ h => List.mem_cons_of_mem _ (List.mem_append_right _ h)) (by decide +kernel))
set_option maxRecDepth 20000 in
theorem gX0_anchorMonthOf_X0_checkNumber : GoodIn wsX0_anchorMonthOf (va_wsS RX0 46 yX0_checkNumber wsX0_checkNumber) := goodIn_app (goodIn_of _ (by decide +kernel)) ggX0_anchorMonthOf_X0_checkNumber
set_option maxRecDepth 20000 in
theorem ggX0_anchorMonthOf_X0_placeAt : GoodIn wsX0_anchorMonthOf wsX0_placeAt := goodIn_r _ [10, 11, 12, 3, 13, 14, 15, 16] (by decide +kernel) (by decide +kernel)
set_option maxRecDepth 20000 in
theorem gX0_anchorMonthOf_X0_placeAt : GoodIn wsX0_anchorMonthOf (va_wsS RX0 53 yX0_placeAt wsX0_placeAt) := goodIn_app (goodIn_of _ (by decide +kernel)) ggX0_anchorMonthOf_X0_placeAt
set_option maxRecDepth 20000 in
theorem ggX0_anchorMonthOf_X0_monthOfPlace : GoodIn wsX0_anchorMonthOf wsX0_monthOfPlace := goodIn_r _ [19, 20, 21, 3, 22] (by decide +kernel) (by decide +kernel)
set_option maxRecDepth 20000 in
theorem gX0_anchorMonthOf_X0_monthOfPlace : GoodIn wsX0_anchorMonthOf (va_wsS RX0 56 yX0_monthOfPlace wsX0_monthOfPlace) := goodIn_app (goodIn_of _ (by decide +kernel)) ggX0_anchorMonthOf_X0_monthOfPlace
set_option maxRecDepth 20000 in
theorem ggX0_anchorMonthOf_X0_isBehindIdes : GoodIn wsX0_anchorMonthOf wsX0_isBehindIdes := goodIn_r _ [25, 17, 18, 3, 19, 20, 21, 22, 26, 27, 28, 29, 30, 31, 32, 33, 34] (by decide +kernel) (by decide +kernel)
set_option maxRecDepth 20000 in
theorem gX0_anchorMonthOf_X0_isBehindIdes : GoodIn wsX0_anchorMonthOf (va_wsS RX0 62 yX0_isBehindIdes wsX0_isBehindIdes) := goodIn_app (goodIn_of _ (by decide +kernel)) ggX0_anchorMonthOf_X0_isBehindIdes
theorem dX0_anchorMonthOf_0 : decode cX0_anchorMonthOf 0 = .ok (.iload_n 1, 1) := by decide +kernel
theorem dX0_anchorMonthOf_1 : decode cX0_anchorMonthOf 1 = .ok (.invokestatic 46, 3) := by decide +kernel
theorem dX0_anchorMonthOf_4 : decode cX0_anchorMonthOf 4 = .ok (.iload_n 1, 1) := by decide +kernel
theorem dX0_anchorMonthOf_5 : decode cX0_anchorMonthOf 5 = .ok (.invokestatic 53, 3) := by decide +kernel
theorem dX0_anchorMonthOf_8 : decode cX0_anchorMonthOf 8 = .ok (.istore_n 2, 1) := by decide +kernel
theorem dX0_anchorMonthOf_9 : decode cX0_anchorMonthOf 9 = .ok (.iload_n 2, 1) := by decide +kernel
theorem dX0_anchorMonthOf_10 : decode cX0_anchorMonthOf 10 = .ok (.invokestatic 56, 3) := by decide +kernel
theorem dX0_anchorMonthOf_13 : decode cX0_anchorMonthOf 13 = .ok (.istore_n 3, 1) := by decide +kernel
theorem dX0_anchorMonthOf_14 : decode cX0_anchorMonthOf 14 = .ok (.iload_n 2, 1) := by decide +kernel
theorem dX0_anchorMonthOf_15 : decode cX0_anchorMonthOf 15 = .ok (.invokestatic 62, 3) := by decide +kernel
theorem dX0_anchorMonthOf_18 : decode cX0_anchorMonthOf 18 = .ok (.ifCond .eq 12, 3) := by decide +kernel
theorem dX0_anchorMonthOf_21 : decode cX0_anchorMonthOf 21 = .ok (.iload_n 3, 1) := by decide +kernel
theorem dX0_anchorMonthOf_22 : decode cX0_anchorMonthOf 22 = .ok (.bipush 12, 2) := by decide +kernel
theorem dX0_anchorMonthOf_24 : decode cX0_anchorMonthOf 24 = .ok (.irem, 1) := by decide +kernel
theorem dX0_anchorMonthOf_25 : decode cX0_anchorMonthOf 25 = .ok (.iconst 1, 1) := by decide +kernel
theorem dX0_anchorMonthOf_26 : decode cX0_anchorMonthOf 26 = .ok (.iadd, 1) := by decide +kernel
theorem dX0_anchorMonthOf_27 : decode cX0_anchorMonthOf 27 = .ok (.goto 4, 3) := by decide +kernel
theorem dX0_anchorMonthOf_30 : decode cX0_anchorMonthOf 30 = .ok (.iload_n 3, 1) := by decide +kernel
theorem dX0_anchorMonthOf_31 : decode cX0_anchorMonthOf 31 = .ok (.ireturn, 1) := by decide +kernel
set_option maxRecDepth 20000 in
theorem ggX0_countOf_X0_checkNumber : GoodIn wsX0_countOf wsX0_checkNumber := goodIn_ca (goodIn_r _ [4, 5, 6, 7] (by decide +kernel) (by decide +kernel)) (goodIn_sub (fun _ h => List.mem_cons_of_mem _ (List.mem_append_right _ h)) (by decide +kernel))
set_option maxRecDepth 20000 in
theorem gX0_countOf_X0_checkNumber : GoodIn wsX0_countOf (va_wsS RX0 46 yX0_checkNumber wsX0_checkNumber) := goodIn_app (goodIn_of _ (by decide +kernel)) ggX0_countOf_X0_checkNumber
set_option maxRecDepth 20000 in
theorem ggX0_countOf_X0_placeAt : GoodIn wsX0_countOf wsX0_placeAt := goodIn_r _ [10, 11, 12, 3, 13, 14, 15, 16] (by decide +kernel) (by decide +kernel)
set_option maxRecDepth 20000 in
theorem gX0_countOf_X0_placeAt : GoodIn wsX0_countOf (va_wsS RX0 53 yX0_placeAt wsX0_placeAt) := goodIn_app (goodIn_of _ (by decide +kernel)) ggX0_countOf_X0_placeAt
set_option maxRecDepth 20000 in
theorem ggX0_countOf_X0_monthOfPlace : GoodIn wsX0_countOf wsX0_monthOfPlace := goodIn_r _ [19, 20, 21, 3, 22] (by decide +kernel) (by decide +kernel)
set_option maxRecDepth 20000 in
theorem gX0_countOf_X0_monthOfPlace : GoodIn wsX0_countOf (va_wsS RX0 56 yX0_monthOfPlace wsX0_monthOfPlace) := goodIn_app (goodIn_of _ (by decide +kernel)) ggX0_countOf_X0_monthOfPlace
set_option maxRecDepth 20000 in
theorem ggX0_countOf_X0_isBehindIdes : GoodIn wsX0_countOf wsX0_isBehindIdes := goodIn_r _ [25, 17, 18, 3, 19, 20, 21, 22, 26, 27, 28, 29, 30, 31, 32, 33, 34] (by decide +kernel) (by decide +kernel)
set_option maxRecDepth 20000 in
theorem gX0_countOf_X0_isBehindIdes : GoodIn wsX0_countOf (va_wsS RX0 62 yX0_isBehindIdes wsX0_isBehindIdes) := goodIn_app (goodIn_of _ (by decide +kernel)) ggX0_countOf_X0_isBehindIdes
set_option maxRecDepth 20000 in
theorem ggX0_countOf_X0_placeOfAnchor : GoodIn wsX0_countOf wsX0_placeOfAnchor := goodIn_r _ [28, 29, 30, 3, 31, 20, 21, 22, 32, 33, 34] (by decide +kernel) (by decide +kernel)
set_option maxRecDepth 20000 in
theorem gX0_countOf_X0_placeOfAnchor : GoodIn wsX0_countOf (va_wsS RX0 23 yX0_placeOfAnchor wsX0_placeOfAnchor) := goodIn_app (goodIn_of _ (by decide +kernel)) ggX0_countOf_X0_placeOfAnchor
set_option maxRecDepth 20000 in
theorem ggX0_countOf_X0_anchorOfPlace : GoodIn wsX0_countOf wsX0_anchorOfPlace := goodIn_r _ [37, 17, 18, 3, 19, 20, 21, 22, 26, 27, 28, 29, 30, 31, 32, 33, 34, 23, 24, 25] (by decide +kernel) (by decide +kernel)
set_option maxRecDepth 20000 in
theorem gX0_countOf_X0_anchorOfPlace : GoodIn wsX0_countOf (va_wsS RX0 59 yX0_anchorOfPlace wsX0_anchorOfPlace) := goodIn_app (goodIn_of _ (by decide +kernel)) ggX0_countOf_X0_anchorOfPlace
theorem dX0_countOf_0 : decode cX0_countOf 0 = .ok (.iload_n 1, 1) := by decide +kernel
theorem dX0_countOf_1 : decode cX0_countOf 1 = .ok (.invokestatic 46, 3) := by decide +kernel
theorem dX0_countOf_4 : decode cX0_countOf 4 = .ok (.iload_n 1, 1) := by decide +kernel
theorem dX0_countOf_5 : decode cX0_countOf 5 = .ok (.invokestatic 53, 3) := by decide +kernel
theorem dX0_countOf_8 : decode cX0_countOf 8 = .ok (.istore_n 2, 1) := by decide +kernel
theorem dX0_countOf_9 : decode cX0_countOf 9 = .ok (.iload_n 2, 1) := by decide +kernel
theorem dX0_countOf_10 : decode cX0_countOf 10 = .ok (.invokestatic 56, 3) := by decide +kernel
theorem dX0_countOf_13 : decode cX0_countOf 13 = .ok (.istore_n 3, 1) := by decide +kernel
theorem dX0_countOf_14 : decode cX0_countOf 14 = .ok (.iload_n 2, 1) := by decide +kernel
theorem dX0_countOf_15 : decode cX0_countOf 15 = .ok (.invokestatic 62, 3) := by decide +kernel
theorem dX0_countOf_18 : decode cX0_countOf 18 = .ok (.ifCond .eq 13, 3) := by decide +kernel
theorem dX0_countOf_21 : decode cX0_countOf 21 = .ok (.iload_n 3, 1) := by decide +kernel
theorem dX0_countOf_22 : decode cX0_countOf 22 = .ok (.iconst 1, 1) := by decide +kernel
theorem dX0_countOf_23 : decode cX0_countOf 23 = .ok (.iadd, 1) := by decide +kernel
theorem dX0_countOf_24 : decode cX0_countOf 24 = .ok (.iconst 0, 1) := by decide +kernel
theorem dX0_countOf_25 : decode cX0_countOf 25 = .ok (.invokestatic 23, 3) := by decide +kernel
theorem dX0_countOf_28 : decode cX0_countOf 28 = .ok (.goto 11, 3) := by decide +kernel
theorem dX0_countOf_31 : decode cX0_countOf 31 = .ok (.iload_n 3, 1) := by decide +kernel
theorem dX0_countOf_32 : decode cX0_countOf 32 = .ok (.iload_n 2, 1) := by decide +kernel
theorem dX0_countOf_33 : decode cX0_countOf 33 = .ok (.invokestatic 59, 3) := by decide +kernel
theorem dX0_countOf_36 : decode cX0_countOf 36 = .ok (.invokestatic 23, 3) := by decide +kernel
theorem dX0_countOf_39 : decode cX0_countOf 39 = .ok (.istore 4, 2) := by decide +kernel
theorem dX0_countOf_41 : decode cX0_countOf 41 = .ok (.iload 4, 2) := by decide +kernel
theorem dX0_countOf_43 : decode cX0_countOf 43 = .ok (.iload_n 2, 1) := by decide +kernel
theorem dX0_countOf_44 : decode cX0_countOf 44 = .ok (.isub, 1) := by decide +kernel
theorem dX0_countOf_45 : decode cX0_countOf 45 = .ok (.iconst 1, 1) := by decide +kernel
theorem dX0_countOf_46 : decode cX0_countOf 46 = .ok (.iadd, 1) := by decide +kernel
theorem dX0_countOf_47 : decode cX0_countOf 47 = .ok (.ireturn, 1) := by decide +kernel
set_option maxRecDepth 20000 in
theorem ggX0_isDoubled_X0_checkNumber : GoodIn wsX0_isDoubled wsX0_checkNumber := goodIn_ca (goodIn_r _ [4, 5, 6, 7] (by decide +kernel) (by decide +kernel)) (goodIn_sub (fun _ h => List.mem_cons_of_mem _ (List.mem_append_right _ h)) (by decide +kernel))
set_option maxRecDepth 20000 in
theorem gX0_isDoubled_X0_checkNumber : GoodIn wsX0_isDoubled (va_wsS RX0 46 yX0_checkNumber wsX0_checkNumber) := goodIn_app (goodIn_of _ (by decide +kernel)) ggX0_isDoubled_X0_checkNumber
theorem dX0_isDoubled_0 : decode cX0_isDoubled 0 = .ok (.iload_n 1, 1) := by decide +kernel
theorem dX0_isDoubled_1 : decode cX0_isDoubled 1 = .ok (.invokestatic 46, 3) := by decide +kernel
theorem dX0_isDoubled_4 : decode cX0_isDoubled 4 = .ok (.iload_n 1, 1) := by decide +kernel
theorem dX0_isDoubled_5 : decode cX0_isDoubled 5 = .ok (.sipush 1461, 3) := by decide +kernel
theorem dX0_isDoubled_8 : decode cX0_isDoubled 8 = .ok (.irem, 1) := by decide +kernel
theorem dX0_isDoubled_9 : decode cX0_isDoubled 9 = .ok (.sipush 1149, 3) := by decide +kernel
theorem dX0_isDoubled_12 : decode cX0_isDoubled 12 = .ok (.if_icmp .ne 7, 3) := by decide +kernel
theorem dX0_isDoubled_15 : decode cX0_isDoubled 15 = .ok (.iconst 1, 1) := by decide +kernel
theorem dX0_isDoubled_16 : decode cX0_isDoubled 16 = .ok (.goto 4, 3) := by decide +kernel
theorem dX0_isDoubled_19 : decode cX0_isDoubled 19 = .ok (.iconst 0, 1) := by decide +kernel
theorem dX0_isDoubled_20 : decode cX0_isDoubled 20 = .ok (.ireturn, 1) := by decide +kernel
set_option maxRecDepth 20000 in
theorem ggX0_fromCount_X0_checkYear : GoodIn wsX0_fromCount wsX0_checkYear := goodIn_ca (goodIn_r _ [8, 9, 10] (by decide +kernel) (by decide +kernel)) (goodIn_sub (fun _ h => List.mem_cons_of_mem _ (List.mem_append_right _ h)) (by decide +kernel))
set_option maxRecDepth 20000 in
theorem gX0_fromCount_X0_checkYear : GoodIn wsX0_fromCount (va_wsS RX0 66 yX0_checkYear wsX0_checkYear) := goodIn_app (goodIn_of _ (by decide +kernel)) ggX0_fromCount_X0_checkYear
set_option maxRecDepth 20000 in
theorem ggX0_fromCount_X0_checkMonth : GoodIn wsX0_fromCount wsX0_checkMonth := goodIn_ca (goodIn_r _ [13, 9, 10] (by decide +kernel) (by decide +kernel)) (goodIn_sub (fun _ h => List.mem_cons_of_mem _ (List.mem_append_right _ h)) (by decide +kernel))
set_option maxRecDepth 20000 in
theorem gX0_fromCount_X0_checkMonth : GoodIn wsX0_fromCount (va_wsS RX0 69 yX0_checkMonth wsX0_checkMonth) := goodIn_app (goodIn_of _ (by decide +kernel)) ggX0_fromCount_X0_checkMonth
set_option maxRecDepth 20000 in
theorem ggX0_fromCount_X0_checkAnchor : GoodIn wsX0_fromCount wsX0_checkAnchor := goodIn_ca (goodIn_r _ [16, 1, 2] (by decide +kernel) (by decide +kernel)) (goodIn_sub (fun _ h => List.mem_cons_of_mem _ (List.mem_append_left _ (List.mem_append_left _ (List.mem_append_right _ h)))) (by decide +kernel))
set_option maxRecDepth 20000 in
theorem gX0_fromCount_X0_checkAnchor : GoodIn wsX0_fromCount (va_wsS RX0 72 yX0_checkAnchor wsX0_checkAnchor) := goodIn_app (goodIn_of _ (by decide +kernel)) ggX0_fromCount_X0_checkAnchor
set_option maxRecDepth 20000 in
theorem ggX0_fromCount_X0_greatestCountTo : GoodIn wsX0_fromCount wsX0_greatestCountTo := goodIn_r _ [19, 20, 21, 7, 22, 23, 24, 25] (by decide +kernel) (by decide +kernel)
set_option maxRecDepth 20000 in
theorem gX0_fromCount_X0_greatestCountTo : GoodIn wsX0_fromCount (va_wsS RX0 82 yX0_greatestCountTo wsX0_greatestCountTo) := goodIn_app (goodIn_of _ (by decide +kernel)) ggX0_fromCount_X0_greatestCountTo
set_option maxRecDepth 20000 in
theorem ggX0_fromCount_X0_isToldAsDoubled : GoodIn wsX0_fromCount wsX0_isToldAsDoubled := goodIn_r _ [28, 29, 30, 7, 31] (by decide +kernel) (by decide +kernel)
set_option maxRecDepth 20000 in
theorem gX0_fromCount_X0_isToldAsDoubled : GoodIn wsX0_fromCount (va_wsS RX0 90 yX0_isToldAsDoubled wsX0_isToldAsDoubled) := goodIn_app (goodIn_of _ (by decide +kernel)) ggX0_fromCount_X0_isToldAsDoubled
set_option maxRecDepth 20000 in
theorem ggX0_fromCount_X0_placeOfAnchor : GoodIn wsX0_fromCount wsX0_placeOfAnchor := goodIn_r _ [34, 35, 36, 7, 37, 23, 24, 25, 20, 21, 22] (by decide +kernel) (by decide +kernel)
set_option maxRecDepth 20000 in
theorem gX0_fromCount_X0_placeOfAnchor : GoodIn wsX0_fromCount (va_wsS RX0 23 yX0_placeOfAnchor wsX0_placeOfAnchor) := goodIn_app (goodIn_of _ (by decide +kernel)) ggX0_fromCount_X0_placeOfAnchor
set_option maxRecDepth 20000 in
theorem ggX0_fromCount_X0_lastDayOfPlace : GoodIn wsX0_fromCount wsX0_lastDayOfPlace := goodIn_r _ [40, 29, 30, 7, 31, 41, 42, 43] (by decide +kernel) (by decide +kernel)
set_option maxRecDepth 20000 in
theorem gX0_fromCount_X0_lastDayOfPlace : GoodIn wsX0_fromCount (va_wsS RX0 96 yX0_lastDayOfPlace wsX0_lastDayOfPlace) := goodIn_app (goodIn_of _ (by decide +kernel)) ggX0_fromCount_X0_lastDayOfPlace
theorem dX0_fromCount_0 : decode cX0_fromCount 0 = .ok (.iload_n 1, 1) := by decide +kernel
theorem dX0_fromCount_1 : decode cX0_fromCount 1 = .ok (.invokestatic 66, 3) := by decide +kernel
theorem dX0_fromCount_4 : decode cX0_fromCount 4 = .ok (.iload_n 2, 1) := by decide +kernel
theorem dX0_fromCount_5 : decode cX0_fromCount 5 = .ok (.invokestatic 69, 3) := by decide +kernel
theorem dX0_fromCount_8 : decode cX0_fromCount 8 = .ok (.iload_n 3, 1) := by decide +kernel
theorem dX0_fromCount_9 : decode cX0_fromCount 9 = .ok (.invokestatic 72, 3) := by decide +kernel
theorem dX0_fromCount_12 : decode cX0_fromCount 12 = .ok (.iload 4, 2) := by decide +kernel
theorem dX0_fromCount_14 : decode cX0_fromCount 14 = .ok (.iconst 1, 1) := by decide +kernel
theorem dX0_fromCount_15 : decode cX0_fromCount 15 = .ok (.if_icmp .ge 13, 3) := by decide +kernel
theorem dX0_fromCount_18 : decode cX0_fromCount 18 = .ok (.new 75, 3) := by decide +kernel
theorem dX0_fromCount_21 : decode cX0_fromCount 21 = .ok (.dup, 1) := by decide +kernel
theorem dX0_fromCount_22 : decode cX0_fromCount 22 = .ok (.ldc 77, 2) := by decide +kernel
theorem dX0_fromCount_24 : decode cX0_fromCount 24 = .ok (.invokespecial 79, 3) := by decide +kernel
theorem dX0_fromCount_27 : decode cX0_fromCount 27 = .ok (.athrow, 1) := by decide +kernel
theorem dX0_fromCount_28 : decode cX0_fromCount 28 = .ok (.iload 4, 2) := by decide +kernel
theorem dX0_fromCount_30 : decode cX0_fromCount 30 = .ok (.iload_n 2, 1) := by decide +kernel
theorem dX0_fromCount_31 : decode cX0_fromCount 31 = .ok (.iload_n 3, 1) := by decide +kernel
theorem dX0_fromCount_32 : decode cX0_fromCount 32 = .ok (.invokestatic 82, 3) := by decide +kernel
theorem dX0_fromCount_35 : decode cX0_fromCount 35 = .ok (.if_icmp .le 13, 3) := by decide +kernel
theorem dX0_fromCount_38 : decode cX0_fromCount 38 = .ok (.new 85, 3) := by decide +kernel
theorem dX0_fromCount_41 : decode cX0_fromCount 41 = .ok (.dup, 1) := by decide +kernel
theorem dX0_fromCount_42 : decode cX0_fromCount 42 = .ok (.ldc 87, 2) := by decide +kernel
theorem dX0_fromCount_44 : decode cX0_fromCount 44 = .ok (.invokespecial 89, 3) := by decide +kernel
theorem dX0_fromCount_47 : decode cX0_fromCount 47 = .ok (.athrow, 1) := by decide +kernel
theorem dX0_fromCount_48 : decode cX0_fromCount 48 = .ok (.iload 5, 2) := by decide +kernel
theorem dX0_fromCount_50 : decode cX0_fromCount 50 = .ok (.ifCond .eq 24, 3) := by decide +kernel
theorem dX0_fromCount_53 : decode cX0_fromCount 53 = .ok (.iload_n 1, 1) := by decide +kernel
theorem dX0_fromCount_54 : decode cX0_fromCount 54 = .ok (.iload_n 2, 1) := by decide +kernel
theorem dX0_fromCount_55 : decode cX0_fromCount 55 = .ok (.iload_n 3, 1) := by decide +kernel
theorem dX0_fromCount_56 : decode cX0_fromCount 56 = .ok (.iload 4, 2) := by decide +kernel
theorem dX0_fromCount_58 : decode cX0_fromCount 58 = .ok (.invokestatic 90, 3) := by decide +kernel
theorem dX0_fromCount_61 : decode cX0_fromCount 61 = .ok (.ifCond .ne 13, 3) := by decide +kernel
theorem dX0_fromCount_64 : decode cX0_fromCount 64 = .ok (.new 85, 3) := by decide +kernel
theorem dX0_fromCount_67 : decode cX0_fromCount 67 = .ok (.dup, 1) := by decide +kernel
theorem dX0_fromCount_68 : decode cX0_fromCount 68 = .ok (.ldc 94, 2) := by decide +kernel
theorem dX0_fromCount_70 : decode cX0_fromCount 70 = .ok (.invokespecial 89, 3) := by decide +kernel
theorem dX0_fromCount_73 : decode cX0_fromCount 73 = .ok (.athrow, 1) := by decide +kernel
theorem dX0_fromCount_74 : decode cX0_fromCount 74 = .ok (.iload_n 2, 1) := by decide +kernel
theorem dX0_fromCount_75 : decode cX0_fromCount 75 = .ok (.iload_n 3, 1) := by decide +kernel
theorem dX0_fromCount_76 : decode cX0_fromCount 76 = .ok (.invokestatic 23, 3) := by decide +kernel
theorem dX0_fromCount_79 : decode cX0_fromCount 79 = .ok (.iload 4, 2) := by decide +kernel
theorem dX0_fromCount_81 : decode cX0_fromCount 81 = .ok (.isub, 1) := by decide +kernel
theorem dX0_fromCount_82 : decode cX0_fromCount 82 = .ok (.iconst 1, 1) := by decide +kernel
theorem dX0_fromCount_83 : decode cX0_fromCount 83 = .ok (.iadd, 1) := by decide +kernel
theorem dX0_fromCount_84 : decode cX0_fromCount 84 = .ok (.istore 6, 2) := by decide +kernel
theorem dX0_fromCount_86 : decode cX0_fromCount 86 = .ok (.iload 6, 2) := by decide +kernel
theorem dX0_fromCount_88 : decode cX0_fromCount 88 = .ok (.iconst 1, 1) := by decide +kernel
theorem dX0_fromCount_89 : decode cX0_fromCount 89 = .ok (.if_icmp .ge 9, 3) := by decide +kernel
theorem dX0_fromCount_92 : decode cX0_fromCount 92 = .ok (.iinc 6 365, 6) := by decide +kernel
theorem dX0_fromCount_98 : decode cX0_fromCount 98 = .ok (.iload_n 1, 1) := by decide +kernel
theorem dX0_fromCount_99 : decode cX0_fromCount 99 = .ok (.iload 6, 2) := by decide +kernel
theorem dX0_fromCount_101 : decode cX0_fromCount 101 = .ok (.invokestatic 96, 3) := by decide +kernel
theorem dX0_fromCount_104 : decode cX0_fromCount 104 = .ok (.istore 7, 2) := by decide +kernel
theorem dX0_fromCount_106 : decode cX0_fromCount 106 = .ok (.iload 5, 2) := by decide +kernel
theorem dX0_fromCount_108 : decode cX0_fromCount 108 = .ok (.ifCond .eq 10, 3) := by decide +kernel
theorem dX0_fromCount_111 : decode cX0_fromCount 111 = .ok (.iload 7, 2) := by decide +kernel
theorem dX0_fromCount_113 : decode cX0_fromCount 113 = .ok (.iconst 1, 1) := by decide +kernel
theorem dX0_fromCount_114 : decode cX0_fromCount 114 = .ok (.isub, 1) := by decide +kernel
theorem dX0_fromCount_115 : decode cX0_fromCount 115 = .ok (.goto 5, 3) := by decide +kernel
theorem dX0_fromCount_118 : decode cX0_fromCount 118 = .ok (.iload 7, 2) := by decide +kernel
theorem dX0_fromCount_120 : decode cX0_fromCount 120 = .ok (.ireturn, 1) := by decide +kernel
set_option maxRecDepth 20000 in
theorem ggX0_greatestCount_X0_checkYear : GoodIn wsX0_greatestCount wsX0_checkYear := goodIn_ca (goodIn_r _ [4, 5, 6] (by decide +kernel) (by decide +kernel)) (goodIn_sub (fun _ h => List.mem_cons_of_mem _ (List.mem_append_left _ (List.mem_append_right _ h))) (by decide +kernel))
set_option maxRecDepth 20000 in
theorem gX0_greatestCount_X0_checkYear : GoodIn wsX0_greatestCount (va_wsS RX0 66 yX0_checkYear wsX0_checkYear) := goodIn_app (goodIn_of _ (by decide +kernel)) ggX0_greatestCount_X0_checkYear
set_option maxRecDepth 20000 in
theorem ggX0_greatestCount_X0_checkMonth : GoodIn wsX0_greatestCount wsX0_checkMonth := goodIn_ca (goodIn_r _ [9, 5, 6] (by decide +kernel) (by decide +kernel)) (goodIn_sub (fun _ h => List.mem_cons_of_mem _ (List.mem_append_left _ (List.mem_append_right _ h))) (by decide +kernel))
set_option maxRecDepth 20000 in
theorem gX0_greatestCount_X0_checkMonth : GoodIn wsX0_greatestCount (va_wsS RX0 69 yX0_checkMonth wsX0_checkMonth) := goodIn_app (goodIn_of _ (by decide +kernel)) ggX0_greatestCount_X0_checkMonth
set_option maxRecDepth 20000 in
theorem ggX0_greatestCount_X0_checkAnchor : GoodIn wsX0_greatestCount wsX0_checkAnchor := goodIn_ca (goodIn_r _ [12, 13, 14] (by decide +kernel) (by decide +kernel)) (goodIn_sub (fun _ h => List.mem_cons_of_mem _ (List.mem_append_right _ h)) (by decide +kernel))
set_option maxRecDepth 20000 in
theorem gX0_greatestCount_X0_checkAnchor : GoodIn wsX0_greatestCount (va_wsS RX0 72 yX0_checkAnchor wsX0_checkAnchor) := goodIn_app (goodIn_of _ (by decide +kernel)) ggX0_greatestCount_X0_checkAnchor
set_option maxRecDepth 20000 in
theorem ggX0_greatestCount_X0_greatestCountTo : GoodIn wsX0_greatestCount wsX0_greatestCountTo := goodIn_r _ [17, 18, 19, 3, 20, 21, 22, 23] (by decide +kernel) (by decide +kernel)
set_option maxRecDepth 20000 in
theorem gX0_greatestCount_X0_greatestCountTo : GoodIn wsX0_greatestCount (va_wsS RX0 82 yX0_greatestCountTo wsX0_greatestCountTo) := goodIn_app (goodIn_of _ (by decide +kernel)) ggX0_greatestCount_X0_greatestCountTo
theorem dX0_greatestCount_0 : decode cX0_greatestCount 0 = .ok (.iload_n 1, 1) := by decide +kernel
theorem dX0_greatestCount_1 : decode cX0_greatestCount 1 = .ok (.invokestatic 66, 3) := by decide +kernel
theorem dX0_greatestCount_4 : decode cX0_greatestCount 4 = .ok (.iload_n 2, 1) := by decide +kernel
theorem dX0_greatestCount_5 : decode cX0_greatestCount 5 = .ok (.invokestatic 69, 3) := by decide +kernel
theorem dX0_greatestCount_8 : decode cX0_greatestCount 8 = .ok (.iload_n 3, 1) := by decide +kernel
theorem dX0_greatestCount_9 : decode cX0_greatestCount 9 = .ok (.invokestatic 72, 3) := by decide +kernel
theorem dX0_greatestCount_12 : decode cX0_greatestCount 12 = .ok (.iload_n 2, 1) := by decide +kernel
theorem dX0_greatestCount_13 : decode cX0_greatestCount 13 = .ok (.iload_n 3, 1) := by decide +kernel
theorem dX0_greatestCount_14 : decode cX0_greatestCount 14 = .ok (.invokestatic 82, 3) := by decide +kernel
theorem dX0_greatestCount_17 : decode cX0_greatestCount 17 = .ok (.ireturn, 1) := by decide +kernel
set_option maxRecDepth 20000 in
theorem ggX0_lawNumber_X0_checkNumber : GoodIn wsX0_lawNumber wsX0_checkNumber := goodIn_ca (goodIn_r _ [4, 5, 6, 7] (by decide +kernel) (by decide +kernel)) (goodIn_sub (fun _ h => List.mem_cons_of_mem _ (List.mem_append_right _ h)) (by decide +kernel))
set_option maxRecDepth 20000 in
theorem gX0_lawNumber_X0_checkNumber : GoodIn wsX0_lawNumber (va_wsS RX0 46 yX0_checkNumber wsX0_checkNumber) := goodIn_app (goodIn_of _ (by decide +kernel)) ggX0_lawNumber_X0_checkNumber
set_option maxRecDepth 20000 in
theorem ggX0_lawNumber_X0_lawNumberAt : GoodIn wsX0_lawNumber wsX0_lawNumberAt := goodIn_r _ [10, 11, 12, 3, 13] (by decide +kernel) (by decide +kernel)
set_option maxRecDepth 20000 in
theorem gX0_lawNumber_X0_lawNumberAt : GoodIn wsX0_lawNumber (va_wsS RX0 99 yX0_lawNumberAt wsX0_lawNumberAt) := goodIn_app (goodIn_of _ (by decide +kernel)) ggX0_lawNumber_X0_lawNumberAt
theorem dX0_lawNumber_0 : decode cX0_lawNumber 0 = .ok (.iload_n 1, 1) := by decide +kernel
theorem dX0_lawNumber_1 : decode cX0_lawNumber 1 = .ok (.invokestatic 46, 3) := by decide +kernel
theorem dX0_lawNumber_4 : decode cX0_lawNumber 4 = .ok (.iload_n 1, 1) := by decide +kernel
theorem dX0_lawNumber_5 : decode cX0_lawNumber 5 = .ok (.invokestatic 99, 3) := by decide +kernel
theorem dX0_lawNumber_8 : decode cX0_lawNumber 8 = .ok (.ireturn, 1) := by decide +kernel
set_option maxRecDepth 20000 in
theorem ggX0_termEnd_X0_checkNumber : GoodIn wsX0_termEnd wsX0_checkNumber := goodIn_ca (goodIn_r _ [10, 11, 12, 13] (by decide +kernel) (by decide +kernel)) (goodIn_sub (fun _ h => List.mem_cons_of_mem _ (List.mem_append_right _ h)) (by decide +kernel))
set_option maxRecDepth 20000 in
theorem gX0_termEnd_X0_checkNumber : GoodIn wsX0_termEnd (va_wsS RX0 46 yX0_checkNumber wsX0_checkNumber) := goodIn_app (goodIn_of _ (by decide +kernel)) ggX0_termEnd_X0_checkNumber
set_option maxRecDepth 20000 in
theorem ggX0_termEnd_X0_lawNumberAt : GoodIn wsX0_termEnd wsX0_lawNumberAt := goodIn_r _ [16, 17, 18, 9, 19] (by decide +kernel) (by decide +kernel)
set_option maxRecDepth 20000 in
theorem gX0_termEnd_X0_lawNumberAt : GoodIn wsX0_termEnd (va_wsS RX0 99 yX0_lawNumberAt wsX0_lawNumberAt) := goodIn_app (goodIn_of _ (by decide +kernel)) ggX0_termEnd_X0_lawNumberAt
set_option maxRecDepth 20000 in
theorem ggX0_termEnd_X0_lastDayOfPlace : GoodIn wsX0_termEnd wsX0_lastDayOfPlace := goodIn_r _ [22, 23, 24, 9, 25, 26, 27, 28] (by decide +kernel) (by decide +kernel)
set_option maxRecDepth 20000 in
theorem gX0_termEnd_X0_lastDayOfPlace : GoodIn wsX0_termEnd (va_wsS RX0 96 yX0_lastDayOfPlace wsX0_lastDayOfPlace) := goodIn_app (goodIn_of _ (by decide +kernel)) ggX0_termEnd_X0_lastDayOfPlace
theorem dX0_termEnd_0 : decode cX0_termEnd 0 = .ok (.iload_n 1, 1) := by decide +kernel
theorem dX0_termEnd_1 : decode cX0_termEnd 1 = .ok (.invokestatic 46, 3) := by decide +kernel
theorem dX0_termEnd_4 : decode cX0_termEnd 4 = .ok (.iload_n 2, 1) := by decide +kernel
theorem dX0_termEnd_5 : decode cX0_termEnd 5 = .ok (.ifCond .lt 9, 3) := by decide +kernel
theorem dX0_termEnd_8 : decode cX0_termEnd 8 = .ok (.iload_n 2, 1) := by decide +kernel
theorem dX0_termEnd_9 : decode cX0_termEnd 9 = .ok (.ldc 102, 2) := by decide +kernel
theorem dX0_termEnd_11 : decode cX0_termEnd 11 = .ok (.if_icmp .le 13, 3) := by decide +kernel
theorem dX0_termEnd_14 : decode cX0_termEnd 14 = .ok (.new 75, 3) := by decide +kernel
theorem dX0_termEnd_17 : decode cX0_termEnd 17 = .ok (.dup, 1) := by decide +kernel
theorem dX0_termEnd_18 : decode cX0_termEnd 18 = .ok (.ldc 103, 2) := by decide +kernel
theorem dX0_termEnd_20 : decode cX0_termEnd 20 = .ok (.invokespecial 79, 3) := by decide +kernel
theorem dX0_termEnd_23 : decode cX0_termEnd 23 = .ok (.athrow, 1) := by decide +kernel
theorem dX0_termEnd_24 : decode cX0_termEnd 24 = .ok (.iload_n 1, 1) := by decide +kernel
theorem dX0_termEnd_25 : decode cX0_termEnd 25 = .ok (.invokestatic 99, 3) := by decide +kernel
theorem dX0_termEnd_28 : decode cX0_termEnd 28 = .ok (.iload_n 2, 1) := by decide +kernel
theorem dX0_termEnd_29 : decode cX0_termEnd 29 = .ok (.iadd, 1) := by decide +kernel
theorem dX0_termEnd_30 : decode cX0_termEnd 30 = .ok (.istore_n 3, 1) := by decide +kernel
theorem dX0_termEnd_31 : decode cX0_termEnd 31 = .ok (.iload_n 3, 1) := by decide +kernel
theorem dX0_termEnd_32 : decode cX0_termEnd 32 = .ok (.ldc 105, 2) := by decide +kernel
theorem dX0_termEnd_34 : decode cX0_termEnd 34 = .ok (.invokestatic 99, 3) := by decide +kernel
theorem dX0_termEnd_37 : decode cX0_termEnd 37 = .ok (.if_icmp .le 13, 3) := by decide +kernel
theorem dX0_termEnd_40 : decode cX0_termEnd 40 = .ok (.new 85, 3) := by decide +kernel
theorem dX0_termEnd_43 : decode cX0_termEnd 43 = .ok (.dup, 1) := by decide +kernel
theorem dX0_termEnd_44 : decode cX0_termEnd 44 = .ok (.ldc 106, 2) := by decide +kernel
theorem dX0_termEnd_46 : decode cX0_termEnd 46 = .ok (.invokespecial 89, 3) := by decide +kernel
theorem dX0_termEnd_49 : decode cX0_termEnd 49 = .ok (.athrow, 1) := by decide +kernel
theorem dX0_termEnd_50 : decode cX0_termEnd 50 = .ok (.iload_n 3, 1) := by decide +kernel
theorem dX0_termEnd_51 : decode cX0_termEnd 51 = .ok (.sipush 365, 3) := by decide +kernel
theorem dX0_termEnd_54 : decode cX0_termEnd 54 = .ok (.idiv, 1) := by decide +kernel
theorem dX0_termEnd_55 : decode cX0_termEnd 55 = .ok (.iconst 1, 1) := by decide +kernel
theorem dX0_termEnd_56 : decode cX0_termEnd 56 = .ok (.iadd, 1) := by decide +kernel
theorem dX0_termEnd_57 : decode cX0_termEnd 57 = .ok (.iload_n 3, 1) := by decide +kernel
theorem dX0_termEnd_58 : decode cX0_termEnd 58 = .ok (.sipush 365, 3) := by decide +kernel
theorem dX0_termEnd_61 : decode cX0_termEnd 61 = .ok (.irem, 1) := by decide +kernel
theorem dX0_termEnd_62 : decode cX0_termEnd 62 = .ok (.iconst 1, 1) := by decide +kernel
theorem dX0_termEnd_63 : decode cX0_termEnd 63 = .ok (.iadd, 1) := by decide +kernel
theorem dX0_termEnd_64 : decode cX0_termEnd 64 = .ok (.invokestatic 96, 3) := by decide +kernel
theorem dX0_termEnd_67 : decode cX0_termEnd 67 = .ok (.ireturn, 1) := by decide +kernel
set_option maxRecDepth 20000 in
theorem ggX0_lawDays_X0_checkNumber : GoodIn wsX0_lawDays wsX0_checkNumber := goodIn_ca (goodIn_r _ [4, 5, 6, 7] (by decide +kernel) (by decide +kernel)) (goodIn_sub (fun _ h => List.mem_cons_of_mem _ (List.mem_append_right _ h)) (by decide +kernel))
set_option maxRecDepth 20000 in
theorem gX0_lawDays_X0_checkNumber : GoodIn wsX0_lawDays (va_wsS RX0 46 yX0_checkNumber wsX0_checkNumber) := goodIn_app (goodIn_of _ (by decide +kernel)) ggX0_lawDays_X0_checkNumber
set_option maxRecDepth 20000 in
theorem ggX0_lawDays_X0_lawNumberAt : GoodIn wsX0_lawDays wsX0_lawNumberAt := goodIn_r _ [10, 11, 12, 3, 13] (by decide +kernel) (by decide +kernel)
set_option maxRecDepth 20000 in
theorem gX0_lawDays_X0_lawNumberAt : GoodIn wsX0_lawDays (va_wsS RX0 99 yX0_lawNumberAt wsX0_lawNumberAt) := goodIn_app (goodIn_of _ (by decide +kernel)) ggX0_lawDays_X0_lawNumberAt
theorem dX0_lawDays_0 : decode cX0_lawDays 0 = .ok (.iload_n 1, 1) := by decide +kernel
theorem dX0_lawDays_1 : decode cX0_lawDays 1 = .ok (.invokestatic 46, 3) := by decide +kernel
theorem dX0_lawDays_4 : decode cX0_lawDays 4 = .ok (.iload_n 2, 1) := by decide +kernel
theorem dX0_lawDays_5 : decode cX0_lawDays 5 = .ok (.invokestatic 46, 3) := by decide +kernel
theorem dX0_lawDays_8 : decode cX0_lawDays 8 = .ok (.iload_n 2, 1) := by decide +kernel
theorem dX0_lawDays_9 : decode cX0_lawDays 9 = .ok (.invokestatic 99, 3) := by decide +kernel
theorem dX0_lawDays_12 : decode cX0_lawDays 12 = .ok (.iload_n 1, 1) := by decide +kernel
theorem dX0_lawDays_13 : decode cX0_lawDays 13 = .ok (.invokestatic 99, 3) := by decide +kernel
theorem dX0_lawDays_16 : decode cX0_lawDays 16 = .ok (.isub, 1) := by decide +kernel
theorem dX0_lawDays_17 : decode cX0_lawDays 17 = .ok (.ireturn, 1) := by decide +kernel
set_option maxRecDepth 20000 in
theorem ggX0_placeOf_X0_checkNumber : GoodIn wsX0_placeOf wsX0_checkNumber := goodIn_ca (goodIn_r _ [4, 5, 6, 7] (by decide +kernel) (by decide +kernel)) (goodIn_sub (fun _ h => List.mem_cons_of_mem _ (List.mem_append_right _ h)) (by decide +kernel))
set_option maxRecDepth 20000 in
theorem gX0_placeOf_X0_checkNumber : GoodIn wsX0_placeOf (va_wsS RX0 46 yX0_checkNumber wsX0_checkNumber) := goodIn_app (goodIn_of _ (by decide +kernel)) ggX0_placeOf_X0_checkNumber
set_option maxRecDepth 20000 in
theorem ggX0_placeOf_X0_placeAt : GoodIn wsX0_placeOf wsX0_placeAt := goodIn_r _ [10, 11, 12, 3, 13, 14, 15, 16] (by decide +kernel) (by decide +kernel)
set_option maxRecDepth 20000 in
theorem gX0_placeOf_X0_placeAt : GoodIn wsX0_placeOf (va_wsS RX0 53 yX0_placeAt wsX0_placeAt) := goodIn_app (goodIn_of _ (by decide +kernel)) ggX0_placeOf_X0_placeAt
theorem dX0_placeOf_0 : decode cX0_placeOf 0 = .ok (.iload_n 1, 1) := by decide +kernel
theorem dX0_placeOf_1 : decode cX0_placeOf 1 = .ok (.invokestatic 46, 3) := by decide +kernel
theorem dX0_placeOf_4 : decode cX0_placeOf 4 = .ok (.iload_n 1, 1) := by decide +kernel
theorem dX0_placeOf_5 : decode cX0_placeOf 5 = .ok (.invokestatic 53, 3) := by decide +kernel
theorem dX0_placeOf_8 : decode cX0_placeOf 8 = .ok (.ireturn, 1) := by decide +kernel
set_option maxRecDepth 20000 in
theorem ggX0_letterOfEight_X0_checkNumber : GoodIn wsX0_letterOfEight wsX0_checkNumber := goodIn_ca (goodIn_r _ [4, 5, 6, 7] (by decide +kernel) (by decide +kernel)) (goodIn_sub (fun _ h => List.mem_cons_of_mem _ (List.mem_append_right _ h)) (by decide +kernel))
set_option maxRecDepth 20000 in
theorem gX0_letterOfEight_X0_checkNumber : GoodIn wsX0_letterOfEight (va_wsS RX0 46 yX0_checkNumber wsX0_checkNumber) := goodIn_app (goodIn_of _ (by decide +kernel)) ggX0_letterOfEight_X0_checkNumber
set_option maxRecDepth 20000 in
theorem ggX0_letterOfEight_X0_eightLetterAt : GoodIn wsX0_letterOfEight wsX0_eightLetterAt := goodIn_r _ [10, 11, 12, 3, 13, 14, 15, 16, 17, 18, 19] (by decide +kernel) (by decide +kernel)
set_option maxRecDepth 20000 in
theorem gX0_letterOfEight_X0_eightLetterAt : GoodIn wsX0_letterOfEight (va_wsS RX0 108 yX0_eightLetterAt wsX0_eightLetterAt) := goodIn_app (goodIn_of _ (by decide +kernel)) ggX0_letterOfEight_X0_eightLetterAt
theorem dX0_letterOfEight_0 : decode cX0_letterOfEight 0 = .ok (.iload_n 1, 1) := by decide +kernel
theorem dX0_letterOfEight_1 : decode cX0_letterOfEight 1 = .ok (.invokestatic 46, 3) := by decide +kernel
theorem dX0_letterOfEight_4 : decode cX0_letterOfEight 4 = .ok (.iload_n 1, 1) := by decide +kernel
theorem dX0_letterOfEight_5 : decode cX0_letterOfEight 5 = .ok (.invokestatic 108, 3) := by decide +kernel
theorem dX0_letterOfEight_8 : decode cX0_letterOfEight 8 = .ok (.ireturn, 1) := by decide +kernel
set_option maxRecDepth 20000 in
theorem ggX0_letterOfSeven_X0_checkNumber : GoodIn wsX0_letterOfSeven wsX0_checkNumber := goodIn_ca (goodIn_r _ [4, 5, 6, 7] (by decide +kernel) (by decide +kernel)) (goodIn_sub (fun _ h => List.mem_cons_of_mem _ (List.mem_append_right _ h)) (by decide +kernel))
set_option maxRecDepth 20000 in
theorem gX0_letterOfSeven_X0_checkNumber : GoodIn wsX0_letterOfSeven (va_wsS RX0 46 yX0_checkNumber wsX0_checkNumber) := goodIn_app (goodIn_of _ (by decide +kernel)) ggX0_letterOfSeven_X0_checkNumber
set_option maxRecDepth 20000 in
theorem ggX0_letterOfSeven_X0_sevenLetterAt : GoodIn wsX0_letterOfSeven wsX0_sevenLetterAt := goodIn_r _ [10, 11, 12, 3, 13, 14, 15, 16, 17, 18, 19] (by decide +kernel) (by decide +kernel)
set_option maxRecDepth 20000 in
theorem gX0_letterOfSeven_X0_sevenLetterAt : GoodIn wsX0_letterOfSeven (va_wsS RX0 111 yX0_sevenLetterAt wsX0_sevenLetterAt) := goodIn_app (goodIn_of _ (by decide +kernel)) ggX0_letterOfSeven_X0_sevenLetterAt
theorem dX0_letterOfSeven_0 : decode cX0_letterOfSeven 0 = .ok (.iload_n 1, 1) := by decide +kernel
theorem dX0_letterOfSeven_1 : decode cX0_letterOfSeven 1 = .ok (.invokestatic 46, 3) := by decide +kernel
theorem dX0_letterOfSeven_4 : decode cX0_letterOfSeven 4 = .ok (.iload_n 1, 1) := by decide +kernel
theorem dX0_letterOfSeven_5 : decode cX0_letterOfSeven 5 = .ok (.invokestatic 111, 3) := by decide +kernel
theorem dX0_letterOfSeven_8 : decode cX0_letterOfSeven 8 = .ok (.ireturn, 1) := by decide +kernel
set_option maxRecDepth 20000 in
theorem ggX0_setMarketDay_X0_checkNumber : GoodIn wsX0_setMarketDay wsX0_checkNumber := goodIn_ca (goodIn_r _ [5, 6, 7, 8] (by decide +kernel) (by decide +kernel)) (goodIn_sub (fun _ h => List.mem_cons_of_mem _ (List.mem_append_right _ h)) (by decide +kernel))
set_option maxRecDepth 20000 in
theorem gX0_setMarketDay_X0_checkNumber : GoodIn wsX0_setMarketDay (va_wsS RX0 46 yX0_checkNumber wsX0_checkNumber) := goodIn_app (goodIn_of _ (by decide +kernel)) ggX0_setMarketDay_X0_checkNumber
theorem dX0_setMarketDay_0 : decode cX0_setMarketDay 0 = .ok (.iload_n 1, 1) := by decide +kernel
theorem dX0_setMarketDay_1 : decode cX0_setMarketDay 1 = .ok (.invokestatic 46, 3) := by decide +kernel
theorem dX0_setMarketDay_4 : decode cX0_setMarketDay 4 = .ok (.aload_n 0, 1) := by decide +kernel
theorem dX0_setMarketDay_5 : decode cX0_setMarketDay 5 = .ok (.getfield 19, 3) := by decide +kernel
theorem dX0_setMarketDay_8 : decode cX0_setMarketDay 8 = .ok (.istore_n 2, 1) := by decide +kernel
theorem dX0_setMarketDay_9 : decode cX0_setMarketDay 9 = .ok (.aload_n 0, 1) := by decide +kernel
theorem dX0_setMarketDay_10 : decode cX0_setMarketDay 10 = .ok (.iload_n 1, 1) := by decide +kernel
theorem dX0_setMarketDay_11 : decode cX0_setMarketDay 11 = .ok (.bipush 8, 2) := by decide +kernel
theorem dX0_setMarketDay_13 : decode cX0_setMarketDay 13 = .ok (.irem, 1) := by decide +kernel
theorem dX0_setMarketDay_14 : decode cX0_setMarketDay 14 = .ok (.putfield 19, 3) := by decide +kernel
theorem dX0_setMarketDay_17 : decode cX0_setMarketDay 17 = .ok (.iload_n 2, 1) := by decide +kernel
theorem dX0_setMarketDay_18 : decode cX0_setMarketDay 18 = .ok (.ireturn, 1) := by decide +kernel
set_option maxRecDepth 20000 in
theorem ggX0_isMarket_X0_checkNumber : GoodIn wsX0_isMarket wsX0_checkNumber := goodIn_ca (goodIn_r _ [4, 5, 6, 7] (by decide +kernel) (by decide +kernel)) (goodIn_sub (fun _ h => List.mem_cons_of_mem _ (List.mem_append_right _ h)) (by decide +kernel))
set_option maxRecDepth 20000 in
theorem gX0_isMarket_X0_checkNumber : GoodIn wsX0_isMarket (va_wsS RX0 46 yX0_checkNumber wsX0_checkNumber) := goodIn_app (goodIn_of _ (by decide +kernel)) ggX0_isMarket_X0_checkNumber
set_option maxRecDepth 20000 in
theorem ggX0_isMarket_X0_isMarketAt : GoodIn wsX0_isMarket wsX0_isMarketAt := goodIn_r _ [11, 12, 13, 14, 15, 16] (by decide +kernel) (by decide +kernel)
set_option maxRecDepth 20000 in
theorem gX0_isMarket_X0_isMarketAt : GoodIn wsX0_isMarket (wsV RX0 114 RX0 yX0_isMarketAt wsX0_isMarketAt) := goodIn_app (goodIn_of _ (by decide +kernel)) ggX0_isMarket_X0_isMarketAt
theorem dX0_isMarket_0 : decode cX0_isMarket 0 = .ok (.iload_n 1, 1) := by decide +kernel
theorem dX0_isMarket_1 : decode cX0_isMarket 1 = .ok (.invokestatic 46, 3) := by decide +kernel
theorem dX0_isMarket_4 : decode cX0_isMarket 4 = .ok (.aload_n 0, 1) := by decide +kernel
theorem dX0_isMarket_5 : decode cX0_isMarket 5 = .ok (.iload_n 1, 1) := by decide +kernel
theorem dX0_isMarket_6 : decode cX0_isMarket 6 = .ok (.invokevirtual 114, 3) := by decide +kernel
theorem dX0_isMarket_9 : decode cX0_isMarket 9 = .ok (.ireturn, 1) := by decide +kernel
set_option maxRecDepth 20000 in
theorem ggX0_marketLetters_X0_checkYear : GoodIn wsX0_marketLetters wsX0_checkYear := goodIn_ca (goodIn_r _ [5, 6, 7] (by decide +kernel) (by decide +kernel)) (goodIn_sub (fun _ h => List.mem_cons_of_mem _ (List.mem_append_right _ h)) (by decide +kernel))
set_option maxRecDepth 20000 in
theorem gX0_marketLetters_X0_checkYear : GoodIn wsX0_marketLetters (va_wsS RX0 66 yX0_checkYear wsX0_checkYear) := goodIn_app (goodIn_of _ (by decide +kernel)) ggX0_marketLetters_X0_checkYear
set_option maxRecDepth 20000 in
theorem ggX0_marketLetters_X0_firstDayOf : GoodIn wsX0_marketLetters wsX0_firstDayOf := goodIn_r _ [10] (by decide +kernel) (by decide +kernel)
set_option maxRecDepth 20000 in
theorem gX0_marketLetters_X0_firstDayOf : GoodIn wsX0_marketLetters (va_wsS RX0 36 yX0_firstDayOf wsX0_firstDayOf) := goodIn_app (goodIn_of _ (by decide +kernel)) ggX0_marketLetters_X0_firstDayOf
set_option maxRecDepth 20000 in
theorem ggX0_marketLetters_X0_lastDayOf : GoodIn wsX0_marketLetters wsX0_lastDayOf := goodIn_r _ [13, 8, 9, 4, 10] (by decide +kernel) (by decide +kernel)
set_option maxRecDepth 20000 in
theorem gX0_marketLetters_X0_lastDayOf : GoodIn wsX0_marketLetters (va_wsS RX0 117 yX0_lastDayOf wsX0_lastDayOf) := goodIn_app (goodIn_of _ (by decide +kernel)) ggX0_marketLetters_X0_lastDayOf
set_option maxRecDepth 20000 in
theorem ggX0_marketLetters_J9_floorMod_7cf53 : GoodIn wsX0_marketLetters wsJ9_floorMod_7cf53 := goodIn_r _ [17] (by decide +kernel) (by decide +kernel)
set_option maxRecDepth 20000 in
theorem gX0_marketLetters_J9_floorMod_7cf53 : GoodIn wsX0_marketLetters (va_wsS RX0 120 yJ9_floorMod_7cf53 wsJ9_floorMod_7cf53) := goodIn_app (goodIn_of _ (by decide +kernel)) ggX0_marketLetters_J9_floorMod_7cf53
set_option maxRecDepth 20000 in
theorem ggX0_marketLetters_X0_eightLetterAt : GoodIn wsX0_marketLetters wsX0_eightLetterAt := goodIn_r _ [20, 21, 22, 4, 23, 24, 25, 26, 27, 28, 29] (by decide +kernel) (by decide +kernel)
set_option maxRecDepth 20000 in
theorem gX0_marketLetters_X0_eightLetterAt : GoodIn wsX0_marketLetters (va_wsS RX0 108 yX0_eightLetterAt wsX0_eightLetterAt) := goodIn_app (goodIn_of _ (by decide +kernel)) ggX0_marketLetters_X0_eightLetterAt
theorem dX0_marketLetters_0 : decode cX0_marketLetters 0 = .ok (.iload_n 1, 1) := by decide +kernel
theorem dX0_marketLetters_1 : decode cX0_marketLetters 1 = .ok (.invokestatic 66, 3) := by decide +kernel
theorem dX0_marketLetters_4 : decode cX0_marketLetters 4 = .ok (.iload_n 1, 1) := by decide +kernel
theorem dX0_marketLetters_5 : decode cX0_marketLetters 5 = .ok (.invokestatic 36, 3) := by decide +kernel
theorem dX0_marketLetters_8 : decode cX0_marketLetters 8 = .ok (.istore_n 2, 1) := by decide +kernel
theorem dX0_marketLetters_9 : decode cX0_marketLetters 9 = .ok (.iload_n 1, 1) := by decide +kernel
theorem dX0_marketLetters_10 : decode cX0_marketLetters 10 = .ok (.invokestatic 117, 3) := by decide +kernel
theorem dX0_marketLetters_13 : decode cX0_marketLetters 13 = .ok (.istore_n 3, 1) := by decide +kernel
theorem dX0_marketLetters_14 : decode cX0_marketLetters 14 = .ok (.iload_n 2, 1) := by decide +kernel
theorem dX0_marketLetters_15 : decode cX0_marketLetters 15 = .ok (.aload_n 0, 1) := by decide +kernel
theorem dX0_marketLetters_16 : decode cX0_marketLetters 16 = .ok (.getfield 19, 3) := by decide +kernel
theorem dX0_marketLetters_19 : decode cX0_marketLetters 19 = .ok (.iload_n 2, 1) := by decide +kernel
theorem dX0_marketLetters_20 : decode cX0_marketLetters 20 = .ok (.isub, 1) := by decide +kernel
theorem dX0_marketLetters_21 : decode cX0_marketLetters 21 = .ok (.bipush 8, 2) := by decide +kernel
theorem dX0_marketLetters_23 : decode cX0_marketLetters 23 = .ok (.invokestatic 120, 3) := by decide +kernel
theorem dX0_marketLetters_26 : decode cX0_marketLetters 26 = .ok (.iadd, 1) := by decide +kernel
theorem dX0_marketLetters_27 : decode cX0_marketLetters 27 = .ok (.istore 4, 2) := by decide +kernel
theorem dX0_marketLetters_29 : decode cX0_marketLetters 29 = .ok (.iload_n 3, 1) := by decide +kernel
theorem dX0_marketLetters_30 : decode cX0_marketLetters 30 = .ok (.iload_n 3, 1) := by decide +kernel
theorem dX0_marketLetters_31 : decode cX0_marketLetters 31 = .ok (.aload_n 0, 1) := by decide +kernel
theorem dX0_marketLetters_32 : decode cX0_marketLetters 32 = .ok (.getfield 19, 3) := by decide +kernel
theorem dX0_marketLetters_35 : decode cX0_marketLetters 35 = .ok (.isub, 1) := by decide +kernel
theorem dX0_marketLetters_36 : decode cX0_marketLetters 36 = .ok (.bipush 8, 2) := by decide +kernel
theorem dX0_marketLetters_38 : decode cX0_marketLetters 38 = .ok (.invokestatic 120, 3) := by decide +kernel
theorem dX0_marketLetters_41 : decode cX0_marketLetters 41 = .ok (.isub, 1) := by decide +kernel
theorem dX0_marketLetters_42 : decode cX0_marketLetters 42 = .ok (.istore 5, 2) := by decide +kernel
theorem dX0_marketLetters_44 : decode cX0_marketLetters 44 = .ok (.bipush 10, 2) := by decide +kernel
theorem dX0_marketLetters_46 : decode cX0_marketLetters 46 = .ok (.iload 4, 2) := by decide +kernel
theorem dX0_marketLetters_48 : decode cX0_marketLetters 48 = .ok (.invokestatic 108, 3) := by decide +kernel
theorem dX0_marketLetters_51 : decode cX0_marketLetters 51 = .ok (.imul, 1) := by decide +kernel
theorem dX0_marketLetters_52 : decode cX0_marketLetters 52 = .ok (.iload 5, 2) := by decide +kernel
theorem dX0_marketLetters_54 : decode cX0_marketLetters 54 = .ok (.invokestatic 108, 3) := by decide +kernel
theorem dX0_marketLetters_57 : decode cX0_marketLetters 57 = .ok (.iadd, 1) := by decide +kernel
theorem dX0_marketLetters_58 : decode cX0_marketLetters 58 = .ok (.ireturn, 1) := by decide +kernel
set_option maxRecDepth 20000 in
theorem ggX0_sundayLetters_X0_checkYear : GoodIn wsX0_sundayLetters wsX0_checkYear := goodIn_ca (goodIn_r _ [4, 5, 6] (by decide +kernel) (by decide +kernel)) (goodIn_sub (fun _ h => List.mem_cons_of_mem _ (List.mem_append_right _ h)) (by decide +kernel))
set_option maxRecDepth 20000 in
theorem gX0_sundayLetters_X0_checkYear : GoodIn wsX0_sundayLetters (va_wsS RX0 66 yX0_checkYear wsX0_checkYear) := goodIn_app (goodIn_of _ (by decide +kernel)) ggX0_sundayLetters_X0_checkYear
set_option maxRecDepth 20000 in
theorem ggX0_sundayLetters_X0_firstDayOf : GoodIn wsX0_sundayLetters wsX0_firstDayOf := goodIn_r _ [9] (by decide +kernel) (by decide +kernel)
set_option maxRecDepth 20000 in
theorem gX0_sundayLetters_X0_firstDayOf : GoodIn wsX0_sundayLetters (va_wsS RX0 36 yX0_firstDayOf wsX0_firstDayOf) := goodIn_app (goodIn_of _ (by decide +kernel)) ggX0_sundayLetters_X0_firstDayOf
set_option maxRecDepth 20000 in
theorem ggX0_sundayLetters_X0_lastDayOf : GoodIn wsX0_sundayLetters wsX0_lastDayOf := goodIn_r _ [12, 7, 8, 3, 9] (by decide +kernel) (by decide +kernel)
set_option maxRecDepth 20000 in
theorem gX0_sundayLetters_X0_lastDayOf : GoodIn wsX0_sundayLetters (va_wsS RX0 117 yX0_lastDayOf wsX0_lastDayOf) := goodIn_app (goodIn_of _ (by decide +kernel)) ggX0_sundayLetters_X0_lastDayOf
set_option maxRecDepth 20000 in
theorem ggX0_sundayLetters_J9_floorMod_7cf53 : GoodIn wsX0_sundayLetters wsJ9_floorMod_7cf53 := goodIn_r _ [16] (by decide +kernel) (by decide +kernel)
set_option maxRecDepth 20000 in
theorem gX0_sundayLetters_J9_floorMod_7cf53 : GoodIn wsX0_sundayLetters (va_wsS RX0 120 yJ9_floorMod_7cf53 wsJ9_floorMod_7cf53) := goodIn_app (goodIn_of _ (by decide +kernel)) ggX0_sundayLetters_J9_floorMod_7cf53
set_option maxRecDepth 20000 in
theorem ggX0_sundayLetters_X0_sevenLetterAt : GoodIn wsX0_sundayLetters wsX0_sevenLetterAt := goodIn_r _ [19, 20, 21, 3, 22, 23, 24, 25, 26, 27, 28] (by decide +kernel) (by decide +kernel)
set_option maxRecDepth 20000 in
theorem gX0_sundayLetters_X0_sevenLetterAt : GoodIn wsX0_sundayLetters (va_wsS RX0 111 yX0_sevenLetterAt wsX0_sevenLetterAt) := goodIn_app (goodIn_of _ (by decide +kernel)) ggX0_sundayLetters_X0_sevenLetterAt
theorem dX0_sundayLetters_0 : decode cX0_sundayLetters 0 = .ok (.iload_n 1, 1) := by decide +kernel
theorem dX0_sundayLetters_1 : decode cX0_sundayLetters 1 = .ok (.invokestatic 66, 3) := by decide +kernel
theorem dX0_sundayLetters_4 : decode cX0_sundayLetters 4 = .ok (.iload_n 1, 1) := by decide +kernel
theorem dX0_sundayLetters_5 : decode cX0_sundayLetters 5 = .ok (.invokestatic 36, 3) := by decide +kernel
theorem dX0_sundayLetters_8 : decode cX0_sundayLetters 8 = .ok (.istore_n 2, 1) := by decide +kernel
theorem dX0_sundayLetters_9 : decode cX0_sundayLetters 9 = .ok (.iload_n 1, 1) := by decide +kernel
theorem dX0_sundayLetters_10 : decode cX0_sundayLetters 10 = .ok (.invokestatic 117, 3) := by decide +kernel
theorem dX0_sundayLetters_13 : decode cX0_sundayLetters 13 = .ok (.istore_n 3, 1) := by decide +kernel
theorem dX0_sundayLetters_14 : decode cX0_sundayLetters 14 = .ok (.iload_n 2, 1) := by decide +kernel
theorem dX0_sundayLetters_15 : decode cX0_sundayLetters 15 = .ok (.iconst 1, 1) := by decide +kernel
theorem dX0_sundayLetters_16 : decode cX0_sundayLetters 16 = .ok (.iload_n 2, 1) := by decide +kernel
theorem dX0_sundayLetters_17 : decode cX0_sundayLetters 17 = .ok (.isub, 1) := by decide +kernel
theorem dX0_sundayLetters_18 : decode cX0_sundayLetters 18 = .ok (.bipush 7, 2) := by decide +kernel
theorem dX0_sundayLetters_20 : decode cX0_sundayLetters 20 = .ok (.invokestatic 120, 3) := by decide +kernel
theorem dX0_sundayLetters_23 : decode cX0_sundayLetters 23 = .ok (.iadd, 1) := by decide +kernel
theorem dX0_sundayLetters_24 : decode cX0_sundayLetters 24 = .ok (.istore 4, 2) := by decide +kernel
theorem dX0_sundayLetters_26 : decode cX0_sundayLetters 26 = .ok (.iload_n 3, 1) := by decide +kernel
theorem dX0_sundayLetters_27 : decode cX0_sundayLetters 27 = .ok (.iload_n 3, 1) := by decide +kernel
theorem dX0_sundayLetters_28 : decode cX0_sundayLetters 28 = .ok (.iconst 1, 1) := by decide +kernel
theorem dX0_sundayLetters_29 : decode cX0_sundayLetters 29 = .ok (.isub, 1) := by decide +kernel
theorem dX0_sundayLetters_30 : decode cX0_sundayLetters 30 = .ok (.bipush 7, 2) := by decide +kernel
theorem dX0_sundayLetters_32 : decode cX0_sundayLetters 32 = .ok (.invokestatic 120, 3) := by decide +kernel
theorem dX0_sundayLetters_35 : decode cX0_sundayLetters 35 = .ok (.isub, 1) := by decide +kernel
theorem dX0_sundayLetters_36 : decode cX0_sundayLetters 36 = .ok (.istore 5, 2) := by decide +kernel
theorem dX0_sundayLetters_38 : decode cX0_sundayLetters 38 = .ok (.bipush 10, 2) := by decide +kernel
theorem dX0_sundayLetters_40 : decode cX0_sundayLetters 40 = .ok (.iload 4, 2) := by decide +kernel
theorem dX0_sundayLetters_42 : decode cX0_sundayLetters 42 = .ok (.invokestatic 111, 3) := by decide +kernel
theorem dX0_sundayLetters_45 : decode cX0_sundayLetters 45 = .ok (.imul, 1) := by decide +kernel
theorem dX0_sundayLetters_46 : decode cX0_sundayLetters 46 = .ok (.iload 5, 2) := by decide +kernel
theorem dX0_sundayLetters_48 : decode cX0_sundayLetters 48 = .ok (.invokestatic 111, 3) := by decide +kernel
theorem dX0_sundayLetters_51 : decode cX0_sundayLetters 51 = .ok (.iadd, 1) := by decide +kernel
theorem dX0_sundayLetters_52 : decode cX0_sundayLetters 52 = .ok (.ireturn, 1) := by decide +kernel
set_option maxRecDepth 20000 in
theorem ggX0_setConsuls_X0_checkYear : GoodIn wsX0_setConsuls wsX0_checkYear := goodIn_ca (goodIn_r _ [10, 11, 12] (by decide +kernel) (by decide +kernel)) (goodIn_sub (fun _ h => List.mem_cons_of_mem _ (List.mem_append_right _ h)) (by decide +kernel))
set_option maxRecDepth 20000 in
theorem gX0_setConsuls_X0_checkYear : GoodIn wsX0_setConsuls (va_wsS RX0 66 yX0_checkYear wsX0_checkYear) := goodIn_app (goodIn_of _ (by decide +kernel)) ggX0_setConsuls_X0_checkYear
set_option maxRecDepth 20000 in
theorem ggX0_setConsuls_X0_isConsul : GoodIn wsX0_setConsuls wsX0_isConsul := goodIn_r _ [15] (by decide +kernel) (by decide +kernel)
set_option maxRecDepth 20000 in
theorem gX0_setConsuls_X0_isConsul : GoodIn wsX0_setConsuls (va_wsS RX0 125 yX0_isConsul wsX0_isConsul) := goodIn_app (goodIn_of _ (by decide +kernel)) ggX0_setConsuls_X0_isConsul
set_option maxRecDepth 20000 in
theorem ggX0_setConsuls_X0_slotOf : GoodIn wsX0_setConsuls wsX0_slotOf := goodIn_r _ [19, 5, 27, 28, 29, 30] (by decide +kernel) (by decide +kernel)
set_option maxRecDepth 20000 in
theorem gX0_setConsuls_X0_slotOf : GoodIn wsX0_setConsuls (wsV RX0 130 RX0 yX0_slotOf wsX0_slotOf) := goodIn_app (goodIn_of _ (by decide +kernel)) ggX0_setConsuls_X0_slotOf
set_option maxRecDepth 20000 in
theorem ggX0_setConsuls_X0_isSlot : GoodIn wsX0_setConsuls wsX0_isSlot := goodIn_r _ [22] (by decide +kernel) (by decide +kernel)
set_option maxRecDepth 20000 in
theorem gX0_setConsuls_X0_isSlot : GoodIn wsX0_setConsuls (va_wsS RX0 133 yX0_isSlot wsX0_isSlot) := goodIn_app (goodIn_of _ (by decide +kernel)) ggX0_setConsuls_X0_isSlot
set_option maxRecDepth 20000 in
theorem ggX0_setConsuls_X0_countConsulYears : GoodIn wsX0_setConsuls wsX0_countConsulYears := goodIn_r _ [26, 5, 27, 28, 29, 30] (by decide +kernel) (by decide +kernel)
set_option maxRecDepth 20000 in
theorem gX0_setConsuls_X0_countConsulYears : GoodIn wsX0_setConsuls (wsV RX0 138 RX0 yX0_countConsulYears wsX0_countConsulYears) := goodIn_app (goodIn_of _ (by decide +kernel)) ggX0_setConsuls_X0_countConsulYears
theorem dX0_setConsuls_0 : decode cX0_setConsuls 0 = .ok (.iload_n 1, 1) := by decide +kernel
theorem dX0_setConsuls_1 : decode cX0_setConsuls 1 = .ok (.invokestatic 66, 3) := by decide +kernel
theorem dX0_setConsuls_4 : decode cX0_setConsuls 4 = .ok (.iload_n 2, 1) := by decide +kernel
theorem dX0_setConsuls_5 : decode cX0_setConsuls 5 = .ok (.invokestatic 125, 3) := by decide +kernel
theorem dX0_setConsuls_8 : decode cX0_setConsuls 8 = .ok (.ifCond .eq 15, 3) := by decide +kernel
theorem dX0_setConsuls_11 : decode cX0_setConsuls 11 = .ok (.iload_n 3, 1) := by decide +kernel
theorem dX0_setConsuls_12 : decode cX0_setConsuls 12 = .ok (.invokestatic 125, 3) := by decide +kernel
theorem dX0_setConsuls_15 : decode cX0_setConsuls 15 = .ok (.ifCond .eq 8, 3) := by decide +kernel
theorem dX0_setConsuls_18 : decode cX0_setConsuls 18 = .ok (.iload_n 2, 1) := by decide +kernel
theorem dX0_setConsuls_19 : decode cX0_setConsuls 19 = .ok (.iload_n 3, 1) := by decide +kernel
theorem dX0_setConsuls_20 : decode cX0_setConsuls 20 = .ok (.if_icmp .ne 13, 3) := by decide +kernel
theorem dX0_setConsuls_23 : decode cX0_setConsuls 23 = .ok (.new 75, 3) := by decide +kernel
theorem dX0_setConsuls_26 : decode cX0_setConsuls 26 = .ok (.dup, 1) := by decide +kernel
theorem dX0_setConsuls_27 : decode cX0_setConsuls 27 = .ok (.ldc 128, 2) := by decide +kernel
theorem dX0_setConsuls_29 : decode cX0_setConsuls 29 = .ok (.invokespecial 79, 3) := by decide +kernel
theorem dX0_setConsuls_32 : decode cX0_setConsuls 32 = .ok (.athrow, 1) := by decide +kernel
theorem dX0_setConsuls_33 : decode cX0_setConsuls 33 = .ok (.aload_n 0, 1) := by decide +kernel
theorem dX0_setConsuls_34 : decode cX0_setConsuls 34 = .ok (.iload_n 1, 1) := by decide +kernel
theorem dX0_setConsuls_35 : decode cX0_setConsuls 35 = .ok (.invokevirtual 130, 3) := by decide +kernel
theorem dX0_setConsuls_38 : decode cX0_setConsuls 38 = .ok (.istore 4, 2) := by decide +kernel
theorem dX0_setConsuls_40 : decode cX0_setConsuls 40 = .ok (.iload 4, 2) := by decide +kernel
theorem dX0_setConsuls_42 : decode cX0_setConsuls 42 = .ok (.invokestatic 133, 3) := by decide +kernel
theorem dX0_setConsuls_45 : decode cX0_setConsuls 45 = .ok (.ifCond .ne 10, 3) := by decide +kernel
theorem dX0_setConsuls_48 : decode cX0_setConsuls 48 = .ok (.aload_n 0, 1) := by decide +kernel
theorem dX0_setConsuls_49 : decode cX0_setConsuls 49 = .ok (.iconst 0, 1) := by decide +kernel
theorem dX0_setConsuls_50 : decode cX0_setConsuls 50 = .ok (.invokevirtual 130, 3) := by decide +kernel
theorem dX0_setConsuls_53 : decode cX0_setConsuls 53 = .ok (.istore 4, 2) := by decide +kernel
theorem dX0_setConsuls_55 : decode cX0_setConsuls 55 = .ok (.iload 4, 2) := by decide +kernel
theorem dX0_setConsuls_57 : decode cX0_setConsuls 57 = .ok (.invokestatic 133, 3) := by decide +kernel
theorem dX0_setConsuls_60 : decode cX0_setConsuls 60 = .ok (.ifCond .ne 13, 3) := by decide +kernel
theorem dX0_setConsuls_63 : decode cX0_setConsuls 63 = .ok (.new 85, 3) := by decide +kernel
theorem dX0_setConsuls_66 : decode cX0_setConsuls 66 = .ok (.dup, 1) := by decide +kernel
theorem dX0_setConsuls_67 : decode cX0_setConsuls 67 = .ok (.ldc 136, 2) := by decide +kernel
theorem dX0_setConsuls_69 : decode cX0_setConsuls 69 = .ok (.invokespecial 89, 3) := by decide +kernel
theorem dX0_setConsuls_72 : decode cX0_setConsuls 72 = .ok (.athrow, 1) := by decide +kernel
theorem dX0_setConsuls_73 : decode cX0_setConsuls 73 = .ok (.aload_n 0, 1) := by decide +kernel
theorem dX0_setConsuls_74 : decode cX0_setConsuls 74 = .ok (.getfield 13, 3) := by decide +kernel
theorem dX0_setConsuls_77 : decode cX0_setConsuls 77 = .ok (.iload 4, 2) := by decide +kernel
theorem dX0_setConsuls_79 : decode cX0_setConsuls 79 = .ok (.iload_n 1, 1) := by decide +kernel
theorem dX0_setConsuls_80 : decode cX0_setConsuls 80 = .ok (.iastore, 1) := by decide +kernel
theorem dX0_setConsuls_81 : decode cX0_setConsuls 81 = .ok (.aload_n 0, 1) := by decide +kernel
theorem dX0_setConsuls_82 : decode cX0_setConsuls 82 = .ok (.getfield 16, 3) := by decide +kernel
theorem dX0_setConsuls_85 : decode cX0_setConsuls 85 = .ok (.iload 4, 2) := by decide +kernel
theorem dX0_setConsuls_87 : decode cX0_setConsuls 87 = .ok (.sipush 1000, 3) := by decide +kernel
theorem dX0_setConsuls_90 : decode cX0_setConsuls 90 = .ok (.iload_n 2, 1) := by decide +kernel
theorem dX0_setConsuls_91 : decode cX0_setConsuls 91 = .ok (.imul, 1) := by decide +kernel
theorem dX0_setConsuls_92 : decode cX0_setConsuls 92 = .ok (.iload_n 3, 1) := by decide +kernel
theorem dX0_setConsuls_93 : decode cX0_setConsuls 93 = .ok (.iadd, 1) := by decide +kernel
theorem dX0_setConsuls_94 : decode cX0_setConsuls 94 = .ok (.iastore, 1) := by decide +kernel
theorem dX0_setConsuls_95 : decode cX0_setConsuls 95 = .ok (.aload_n 0, 1) := by decide +kernel
theorem dX0_setConsuls_96 : decode cX0_setConsuls 96 = .ok (.invokevirtual 138, 3) := by decide +kernel
theorem dX0_setConsuls_99 : decode cX0_setConsuls 99 = .ok (.ireturn, 1) := by decide +kernel
set_option maxRecDepth 20000 in
theorem ggX0_strikeConsuls_X0_checkYear : GoodIn wsX0_strikeConsuls wsX0_checkYear := goodIn_ca (goodIn_r _ [7, 8, 9] (by decide +kernel) (by decide +kernel)) (goodIn_sub (fun _ h => List.mem_cons_of_mem _ (List.mem_append_right _ h)) (by decide +kernel))
set_option maxRecDepth 20000 in
theorem gX0_strikeConsuls_X0_checkYear : GoodIn wsX0_strikeConsuls (va_wsS RX0 66 yX0_checkYear wsX0_checkYear) := goodIn_app (goodIn_of _ (by decide +kernel)) ggX0_strikeConsuls_X0_checkYear
set_option maxRecDepth 20000 in
theorem ggX0_strikeConsuls_X0_slotOf : GoodIn wsX0_strikeConsuls wsX0_slotOf := goodIn_r _ [13, 3, 21, 22, 23, 24] (by decide +kernel) (by decide +kernel)
set_option maxRecDepth 20000 in
theorem gX0_strikeConsuls_X0_slotOf : GoodIn wsX0_strikeConsuls (wsV RX0 130 RX0 yX0_slotOf wsX0_slotOf) := goodIn_app (goodIn_of _ (by decide +kernel)) ggX0_strikeConsuls_X0_slotOf
set_option maxRecDepth 20000 in
theorem ggX0_strikeConsuls_X0_isSlot : GoodIn wsX0_strikeConsuls wsX0_isSlot := goodIn_r _ [16] (by decide +kernel) (by decide +kernel)
set_option maxRecDepth 20000 in
theorem gX0_strikeConsuls_X0_isSlot : GoodIn wsX0_strikeConsuls (va_wsS RX0 133 yX0_isSlot wsX0_isSlot) := goodIn_app (goodIn_of _ (by decide +kernel)) ggX0_strikeConsuls_X0_isSlot
set_option maxRecDepth 20000 in
theorem ggX0_strikeConsuls_X0_countConsulYears : GoodIn wsX0_strikeConsuls wsX0_countConsulYears := goodIn_r _ [20, 3, 21, 22, 23, 24] (by decide +kernel) (by decide +kernel)
set_option maxRecDepth 20000 in
theorem gX0_strikeConsuls_X0_countConsulYears : GoodIn wsX0_strikeConsuls (wsV RX0 138 RX0 yX0_countConsulYears wsX0_countConsulYears) := goodIn_app (goodIn_of _ (by decide +kernel)) ggX0_strikeConsuls_X0_countConsulYears
theorem dX0_strikeConsuls_0 : decode cX0_strikeConsuls 0 = .ok (.iload_n 1, 1) := by decide +kernel
theorem dX0_strikeConsuls_1 : decode cX0_strikeConsuls 1 = .ok (.invokestatic 66, 3) := by decide +kernel
theorem dX0_strikeConsuls_4 : decode cX0_strikeConsuls 4 = .ok (.aload_n 0, 1) := by decide +kernel
theorem dX0_strikeConsuls_5 : decode cX0_strikeConsuls 5 = .ok (.iload_n 1, 1) := by decide +kernel
theorem dX0_strikeConsuls_6 : decode cX0_strikeConsuls 6 = .ok (.invokevirtual 130, 3) := by decide +kernel
theorem dX0_strikeConsuls_9 : decode cX0_strikeConsuls 9 = .ok (.istore_n 2, 1) := by decide +kernel
theorem dX0_strikeConsuls_10 : decode cX0_strikeConsuls 10 = .ok (.iload_n 2, 1) := by decide +kernel
theorem dX0_strikeConsuls_11 : decode cX0_strikeConsuls 11 = .ok (.invokestatic 133, 3) := by decide +kernel
theorem dX0_strikeConsuls_14 : decode cX0_strikeConsuls 14 = .ok (.ifCond .ne 13, 3) := by decide +kernel
theorem dX0_strikeConsuls_17 : decode cX0_strikeConsuls 17 = .ok (.new 85, 3) := by decide +kernel
theorem dX0_strikeConsuls_20 : decode cX0_strikeConsuls 20 = .ok (.dup, 1) := by decide +kernel
theorem dX0_strikeConsuls_21 : decode cX0_strikeConsuls 21 = .ok (.ldc 142, 2) := by decide +kernel
theorem dX0_strikeConsuls_23 : decode cX0_strikeConsuls 23 = .ok (.invokespecial 89, 3) := by decide +kernel
theorem dX0_strikeConsuls_26 : decode cX0_strikeConsuls 26 = .ok (.athrow, 1) := by decide +kernel
theorem dX0_strikeConsuls_27 : decode cX0_strikeConsuls 27 = .ok (.aload_n 0, 1) := by decide +kernel
theorem dX0_strikeConsuls_28 : decode cX0_strikeConsuls 28 = .ok (.getfield 13, 3) := by decide +kernel
theorem dX0_strikeConsuls_31 : decode cX0_strikeConsuls 31 = .ok (.iload_n 2, 1) := by decide +kernel
theorem dX0_strikeConsuls_32 : decode cX0_strikeConsuls 32 = .ok (.iconst 0, 1) := by decide +kernel
theorem dX0_strikeConsuls_33 : decode cX0_strikeConsuls 33 = .ok (.iastore, 1) := by decide +kernel
theorem dX0_strikeConsuls_34 : decode cX0_strikeConsuls 34 = .ok (.aload_n 0, 1) := by decide +kernel
theorem dX0_strikeConsuls_35 : decode cX0_strikeConsuls 35 = .ok (.invokevirtual 138, 3) := by decide +kernel
theorem dX0_strikeConsuls_38 : decode cX0_strikeConsuls 38 = .ok (.ireturn, 1) := by decide +kernel
set_option maxRecDepth 20000 in
theorem ggX0_consulsOf_X0_checkYear : GoodIn wsX0_consulsOf wsX0_checkYear := goodIn_ca (goodIn_r _ [5, 6, 7] (by decide +kernel) (by decide +kernel)) (goodIn_sub (fun _ h => List.mem_cons_of_mem _ (List.mem_append_right _ h)) (by decide +kernel))
set_option maxRecDepth 20000 in
theorem gX0_consulsOf_X0_checkYear : GoodIn wsX0_consulsOf (va_wsS RX0 66 yX0_checkYear wsX0_checkYear) := goodIn_app (goodIn_of _ (by decide +kernel)) ggX0_consulsOf_X0_checkYear
set_option maxRecDepth 20000 in
theorem ggX0_consulsOf_X0_slotOf : GoodIn wsX0_consulsOf wsX0_slotOf := goodIn_r _ [11, 12, 16, 17, 18, 19] (by decide +kernel) (by decide +kernel)
set_option maxRecDepth 20000 in
theorem gX0_consulsOf_X0_slotOf : GoodIn wsX0_consulsOf (wsV RX0 130 RX0 yX0_slotOf wsX0_slotOf) := goodIn_app (goodIn_of _ (by decide +kernel)) ggX0_consulsOf_X0_slotOf
set_option maxRecDepth 20000 in
theorem ggX0_consulsOf_X0_isSlot : GoodIn wsX0_consulsOf wsX0_isSlot := goodIn_r _ [15] (by decide +kernel) (by decide +kernel)
set_option maxRecDepth 20000 in
theorem gX0_consulsOf_X0_isSlot : GoodIn wsX0_consulsOf (va_wsS RX0 133 yX0_isSlot wsX0_isSlot) := goodIn_app (goodIn_of _ (by decide +kernel)) ggX0_consulsOf_X0_isSlot
theorem dX0_consulsOf_0 : decode cX0_consulsOf 0 = .ok (.iload_n 1, 1) := by decide +kernel
theorem dX0_consulsOf_1 : decode cX0_consulsOf 1 = .ok (.invokestatic 66, 3) := by decide +kernel
theorem dX0_consulsOf_4 : decode cX0_consulsOf 4 = .ok (.aload_n 0, 1) := by decide +kernel
theorem dX0_consulsOf_5 : decode cX0_consulsOf 5 = .ok (.iload_n 1, 1) := by decide +kernel
theorem dX0_consulsOf_6 : decode cX0_consulsOf 6 = .ok (.invokevirtual 130, 3) := by decide +kernel
theorem dX0_consulsOf_9 : decode cX0_consulsOf 9 = .ok (.istore_n 2, 1) := by decide +kernel
theorem dX0_consulsOf_10 : decode cX0_consulsOf 10 = .ok (.iload_n 2, 1) := by decide +kernel
theorem dX0_consulsOf_11 : decode cX0_consulsOf 11 = .ok (.invokestatic 133, 3) := by decide +kernel
theorem dX0_consulsOf_14 : decode cX0_consulsOf 14 = .ok (.ifCond .eq 12, 3) := by decide +kernel
theorem dX0_consulsOf_17 : decode cX0_consulsOf 17 = .ok (.aload_n 0, 1) := by decide +kernel
theorem dX0_consulsOf_18 : decode cX0_consulsOf 18 = .ok (.getfield 16, 3) := by decide +kernel
theorem dX0_consulsOf_21 : decode cX0_consulsOf 21 = .ok (.iload_n 2, 1) := by decide +kernel
theorem dX0_consulsOf_22 : decode cX0_consulsOf 22 = .ok (.iaload, 1) := by decide +kernel
theorem dX0_consulsOf_23 : decode cX0_consulsOf 23 = .ok (.goto 4, 3) := by decide +kernel
theorem dX0_consulsOf_26 : decode cX0_consulsOf 26 = .ok (.iconst (-1), 1) := by decide +kernel
theorem dX0_consulsOf_27 : decode cX0_consulsOf 27 = .ok (.ireturn, 1) := by decide +kernel
set_option maxRecDepth 20000 in
theorem ggX0_afterConsuls_X0_checkYear : GoodIn wsX0_afterConsuls wsX0_checkYear := goodIn_ca (goodIn_r _ [5, 6, 7] (by decide +kernel) (by decide +kernel)) (goodIn_sub (fun _ h => List.mem_cons_of_mem _ (List.mem_append_right _ h)) (by decide +kernel))
set_option maxRecDepth 20000 in
theorem gX0_afterConsuls_X0_checkYear : GoodIn wsX0_afterConsuls (va_wsS RX0 66 yX0_checkYear wsX0_checkYear) := goodIn_app (goodIn_of _ (by decide +kernel)) ggX0_afterConsuls_X0_checkYear
theorem dX0_afterConsuls_0 : decode cX0_afterConsuls 0 = .ok (.iload_n 1, 1) := by decide +kernel
theorem dX0_afterConsuls_1 : decode cX0_afterConsuls 1 = .ok (.invokestatic 66, 3) := by decide +kernel
theorem dX0_afterConsuls_4 : decode cX0_afterConsuls 4 = .ok (.iconst 0, 1) := by decide +kernel
theorem dX0_afterConsuls_5 : decode cX0_afterConsuls 5 = .ok (.istore_n 2, 1) := by decide +kernel
theorem dX0_afterConsuls_6 : decode cX0_afterConsuls 6 = .ok (.iconst 0, 1) := by decide +kernel
theorem dX0_afterConsuls_7 : decode cX0_afterConsuls 7 = .ok (.istore_n 3, 1) := by decide +kernel
theorem dX0_afterConsuls_8 : decode cX0_afterConsuls 8 = .ok (.iload_n 3, 1) := by decide +kernel
theorem dX0_afterConsuls_9 : decode cX0_afterConsuls 9 = .ok (.bipush 60, 2) := by decide +kernel
theorem dX0_afterConsuls_11 : decode cX0_afterConsuls 11 = .ok (.if_icmp .ge 32, 3) := by decide +kernel
theorem dX0_afterConsuls_14 : decode cX0_afterConsuls 14 = .ok (.aload_n 0, 1) := by decide +kernel
theorem dX0_afterConsuls_15 : decode cX0_afterConsuls 15 = .ok (.getfield 13, 3) := by decide +kernel
theorem dX0_afterConsuls_18 : decode cX0_afterConsuls 18 = .ok (.iload_n 3, 1) := by decide +kernel
theorem dX0_afterConsuls_19 : decode cX0_afterConsuls 19 = .ok (.iaload, 1) := by decide +kernel
theorem dX0_afterConsuls_20 : decode cX0_afterConsuls 20 = .ok (.istore 4, 2) := by decide +kernel
theorem dX0_afterConsuls_22 : decode cX0_afterConsuls 22 = .ok (.iload 4, 2) := by decide +kernel
theorem dX0_afterConsuls_24 : decode cX0_afterConsuls 24 = .ok (.iload_n 1, 1) := by decide +kernel
theorem dX0_afterConsuls_25 : decode cX0_afterConsuls 25 = .ok (.if_icmp .gt 12, 3) := by decide +kernel
theorem dX0_afterConsuls_28 : decode cX0_afterConsuls 28 = .ok (.iload 4, 2) := by decide +kernel
theorem dX0_afterConsuls_30 : decode cX0_afterConsuls 30 = .ok (.iload_n 2, 1) := by decide +kernel
theorem dX0_afterConsuls_31 : decode cX0_afterConsuls 31 = .ok (.if_icmp .le 6, 3) := by decide +kernel
theorem dX0_afterConsuls_34 : decode cX0_afterConsuls 34 = .ok (.iload 4, 2) := by decide +kernel
theorem dX0_afterConsuls_36 : decode cX0_afterConsuls 36 = .ok (.istore_n 2, 1) := by decide +kernel
theorem dX0_afterConsuls_37 : decode cX0_afterConsuls 37 = .ok (.iinc 3 1, 3) := by decide +kernel
theorem dX0_afterConsuls_40 : decode cX0_afterConsuls 40 = .ok (.goto (-32), 3) := by decide +kernel
theorem dX0_afterConsuls_43 : decode cX0_afterConsuls 43 = .ok (.iload_n 2, 1) := by decide +kernel
theorem dX0_afterConsuls_44 : decode cX0_afterConsuls 44 = .ok (.ifCond .ne 7, 3) := by decide +kernel
theorem dX0_afterConsuls_47 : decode cX0_afterConsuls 47 = .ok (.iconst (-1), 1) := by decide +kernel
theorem dX0_afterConsuls_48 : decode cX0_afterConsuls 48 = .ok (.goto 6, 3) := by decide +kernel
theorem dX0_afterConsuls_51 : decode cX0_afterConsuls 51 = .ok (.iload_n 1, 1) := by decide +kernel
theorem dX0_afterConsuls_52 : decode cX0_afterConsuls 52 = .ok (.iload_n 2, 1) := by decide +kernel
theorem dX0_afterConsuls_53 : decode cX0_afterConsuls 53 = .ok (.isub, 1) := by decide +kernel
theorem dX0_afterConsuls_54 : decode cX0_afterConsuls 54 = .ok (.ireturn, 1) := by decide +kernel
set_option maxRecDepth 20000 in
theorem ggX0_yearOfConsuls_X0_nextYearOfPair : GoodIn wsX0_yearOfConsuls wsX0_nextYearOfPair := goodIn_r _ [7, 8, 9, 10, 11, 6, 12, 13, 14, 15, 16] (by decide +kernel) (by decide +kernel)
set_option maxRecDepth 20000 in
theorem gX0_yearOfConsuls_X0_nextYearOfPair : GoodIn wsX0_yearOfConsuls (wsV RX0 146 RX0 yX0_nextYearOfPair wsX0_nextYearOfPair) := goodIn_app (goodIn_of _ (by decide +kernel)) ggX0_yearOfConsuls_X0_nextYearOfPair
theorem dX0_yearOfConsuls_0 : decode cX0_yearOfConsuls 0 = .ok (.iload_n 3, 1) := by decide +kernel
theorem dX0_yearOfConsuls_1 : decode cX0_yearOfConsuls 1 = .ok (.iconst 1, 1) := by decide +kernel
theorem dX0_yearOfConsuls_2 : decode cX0_yearOfConsuls 2 = .ok (.if_icmp .ge 13, 3) := by decide +kernel
theorem dX0_yearOfConsuls_5 : decode cX0_yearOfConsuls 5 = .ok (.new 75, 3) := by decide +kernel
theorem dX0_yearOfConsuls_8 : decode cX0_yearOfConsuls 8 = .ok (.dup, 1) := by decide +kernel
theorem dX0_yearOfConsuls_9 : decode cX0_yearOfConsuls 9 = .ok (.ldc 144, 2) := by decide +kernel
theorem dX0_yearOfConsuls_11 : decode cX0_yearOfConsuls 11 = .ok (.invokespecial 79, 3) := by decide +kernel
theorem dX0_yearOfConsuls_14 : decode cX0_yearOfConsuls 14 = .ok (.athrow, 1) := by decide +kernel
theorem dX0_yearOfConsuls_15 : decode cX0_yearOfConsuls 15 = .ok (.iload_n 3, 1) := by decide +kernel
theorem dX0_yearOfConsuls_16 : decode cX0_yearOfConsuls 16 = .ok (.bipush 60, 2) := by decide +kernel
theorem dX0_yearOfConsuls_18 : decode cX0_yearOfConsuls 18 = .ok (.if_icmp .le 5, 3) := by decide +kernel
theorem dX0_yearOfConsuls_21 : decode cX0_yearOfConsuls 21 = .ok (.iconst (-1), 1) := by decide +kernel
theorem dX0_yearOfConsuls_22 : decode cX0_yearOfConsuls 22 = .ok (.ireturn, 1) := by decide +kernel
theorem dX0_yearOfConsuls_23 : decode cX0_yearOfConsuls 23 = .ok (.aload_n 0, 1) := by decide +kernel
theorem dX0_yearOfConsuls_24 : decode cX0_yearOfConsuls 24 = .ok (.iload_n 1, 1) := by decide +kernel
theorem dX0_yearOfConsuls_25 : decode cX0_yearOfConsuls 25 = .ok (.iload_n 2, 1) := by decide +kernel
theorem dX0_yearOfConsuls_26 : decode cX0_yearOfConsuls 26 = .ok (.iconst 0, 1) := by decide +kernel
theorem dX0_yearOfConsuls_27 : decode cX0_yearOfConsuls 27 = .ok (.invokevirtual 146, 3) := by decide +kernel
theorem dX0_yearOfConsuls_30 : decode cX0_yearOfConsuls 30 = .ok (.istore 4, 2) := by decide +kernel
theorem dX0_yearOfConsuls_32 : decode cX0_yearOfConsuls 32 = .ok (.iconst 1, 1) := by decide +kernel
theorem dX0_yearOfConsuls_33 : decode cX0_yearOfConsuls 33 = .ok (.istore 5, 2) := by decide +kernel
theorem dX0_yearOfConsuls_35 : decode cX0_yearOfConsuls 35 = .ok (.iload 5, 2) := by decide +kernel
theorem dX0_yearOfConsuls_37 : decode cX0_yearOfConsuls 37 = .ok (.iload_n 3, 1) := by decide +kernel
theorem dX0_yearOfConsuls_38 : decode cX0_yearOfConsuls 38 = .ok (.if_icmp .ge 25, 3) := by decide +kernel
theorem dX0_yearOfConsuls_41 : decode cX0_yearOfConsuls 41 = .ok (.iload 4, 2) := by decide +kernel
theorem dX0_yearOfConsuls_43 : decode cX0_yearOfConsuls 43 = .ok (.iconst (-1), 1) := by decide +kernel
theorem dX0_yearOfConsuls_44 : decode cX0_yearOfConsuls 44 = .ok (.if_icmp .eq 19, 3) := by decide +kernel
theorem dX0_yearOfConsuls_47 : decode cX0_yearOfConsuls 47 = .ok (.aload_n 0, 1) := by decide +kernel
theorem dX0_yearOfConsuls_48 : decode cX0_yearOfConsuls 48 = .ok (.iload_n 1, 1) := by decide +kernel
theorem dX0_yearOfConsuls_49 : decode cX0_yearOfConsuls 49 = .ok (.iload_n 2, 1) := by decide +kernel
theorem dX0_yearOfConsuls_50 : decode cX0_yearOfConsuls 50 = .ok (.iload 4, 2) := by decide +kernel
theorem dX0_yearOfConsuls_52 : decode cX0_yearOfConsuls 52 = .ok (.invokevirtual 146, 3) := by decide +kernel
theorem dX0_yearOfConsuls_55 : decode cX0_yearOfConsuls 55 = .ok (.istore 4, 2) := by decide +kernel
theorem dX0_yearOfConsuls_57 : decode cX0_yearOfConsuls 57 = .ok (.iinc 5 1, 3) := by decide +kernel
theorem dX0_yearOfConsuls_60 : decode cX0_yearOfConsuls 60 = .ok (.goto (-25), 3) := by decide +kernel
theorem dX0_yearOfConsuls_63 : decode cX0_yearOfConsuls 63 = .ok (.iload 4, 2) := by decide +kernel
theorem dX0_yearOfConsuls_65 : decode cX0_yearOfConsuls 65 = .ok (.ireturn, 1) := by decide +kernel
set_option maxRecDepth 20000 in
theorem ggX0_setCharacter_X0_isPlace : GoodIn wsX0_setCharacter wsX0_isPlace := goodIn_r _ [8] (by decide +kernel) (by decide +kernel)
set_option maxRecDepth 20000 in
theorem gX0_setCharacter_X0_isPlace : GoodIn wsX0_setCharacter (va_wsS RX0 150 yX0_isPlace wsX0_isPlace) := goodIn_app (goodIn_of _ (by decide +kernel)) ggX0_setCharacter_X0_isPlace
set_option maxRecDepth 20000 in
theorem ggX0_setCharacter_X0_readCharacter : GoodIn wsX0_setCharacter wsX0_readCharacter := goodIn_r _ [12, 13, 5, 6, 7, 8, 18, 19, 20, 21] (by decide +kernel) (by decide +kernel)
set_option maxRecDepth 20000 in
theorem gX0_setCharacter_X0_readCharacter : GoodIn wsX0_setCharacter (wsV RX0 160 RX0 yX0_readCharacter wsX0_readCharacter) := goodIn_app (goodIn_of _ (by decide +kernel)) ggX0_setCharacter_X0_readCharacter
set_option maxRecDepth 20000 in
theorem ggX0_setCharacter_X0_writeCharacter : GoodIn wsX0_setCharacter wsX0_writeCharacter := goodIn_r _ [17, 13, 5, 6, 7, 8, 18, 19, 20, 21] (by decide +kernel) (by decide +kernel)
set_option maxRecDepth 20000 in
theorem gX0_setCharacter_X0_writeCharacter : GoodIn wsX0_setCharacter (wsV RX0 27 RX0 yX0_writeCharacter wsX0_writeCharacter) := goodIn_app (goodIn_of _ (by decide +kernel)) ggX0_setCharacter_X0_writeCharacter
theorem dX0_setCharacter_0 : decode cX0_setCharacter 0 = .ok (.iload_n 1, 1) := by decide +kernel
theorem dX0_setCharacter_1 : decode cX0_setCharacter 1 = .ok (.invokestatic 150, 3) := by decide +kernel
theorem dX0_setCharacter_4 : decode cX0_setCharacter 4 = .ok (.ifCond .ne 13, 3) := by decide +kernel
theorem dX0_setCharacter_7 : decode cX0_setCharacter 7 = .ok (.new 153, 3) := by decide +kernel
theorem dX0_setCharacter_10 : decode cX0_setCharacter 10 = .ok (.dup, 1) := by decide +kernel
theorem dX0_setCharacter_11 : decode cX0_setCharacter 11 = .ok (.ldc 155, 2) := by decide +kernel
theorem dX0_setCharacter_13 : decode cX0_setCharacter 13 = .ok (.invokespecial 157, 3) := by decide +kernel
theorem dX0_setCharacter_16 : decode cX0_setCharacter 16 = .ok (.athrow, 1) := by decide +kernel
theorem dX0_setCharacter_17 : decode cX0_setCharacter 17 = .ok (.iload_n 2, 1) := by decide +kernel
theorem dX0_setCharacter_18 : decode cX0_setCharacter 18 = .ok (.ifCond .lt 8, 3) := by decide +kernel
theorem dX0_setCharacter_21 : decode cX0_setCharacter 21 = .ok (.iload_n 2, 1) := by decide +kernel
theorem dX0_setCharacter_22 : decode cX0_setCharacter 22 = .ok (.iconst 3, 1) := by decide +kernel
theorem dX0_setCharacter_23 : decode cX0_setCharacter 23 = .ok (.if_icmp .le 13, 3) := by decide +kernel
theorem dX0_setCharacter_26 : decode cX0_setCharacter 26 = .ok (.new 75, 3) := by decide +kernel
theorem dX0_setCharacter_29 : decode cX0_setCharacter 29 = .ok (.dup, 1) := by decide +kernel
theorem dX0_setCharacter_30 : decode cX0_setCharacter 30 = .ok (.ldc 158, 2) := by decide +kernel
theorem dX0_setCharacter_32 : decode cX0_setCharacter 32 = .ok (.invokespecial 79, 3) := by decide +kernel
theorem dX0_setCharacter_35 : decode cX0_setCharacter 35 = .ok (.athrow, 1) := by decide +kernel
theorem dX0_setCharacter_36 : decode cX0_setCharacter 36 = .ok (.aload_n 0, 1) := by decide +kernel
theorem dX0_setCharacter_37 : decode cX0_setCharacter 37 = .ok (.iload_n 1, 1) := by decide +kernel
theorem dX0_setCharacter_38 : decode cX0_setCharacter 38 = .ok (.invokevirtual 160, 3) := by decide +kernel
theorem dX0_setCharacter_41 : decode cX0_setCharacter 41 = .ok (.istore_n 3, 1) := by decide +kernel
theorem dX0_setCharacter_42 : decode cX0_setCharacter 42 = .ok (.aload_n 0, 1) := by decide +kernel
theorem dX0_setCharacter_43 : decode cX0_setCharacter 43 = .ok (.iload_n 1, 1) := by decide +kernel
theorem dX0_setCharacter_44 : decode cX0_setCharacter 44 = .ok (.iload_n 2, 1) := by decide +kernel
theorem dX0_setCharacter_45 : decode cX0_setCharacter 45 = .ok (.invokevirtual 27, 3) := by decide +kernel
theorem dX0_setCharacter_48 : decode cX0_setCharacter 48 = .ok (.iload_n 3, 1) := by decide +kernel
theorem dX0_setCharacter_49 : decode cX0_setCharacter 49 = .ok (.ireturn, 1) := by decide +kernel
set_option maxRecDepth 20000 in
theorem ggX0_characterOf_X0_checkNumber : GoodIn wsX0_characterOf wsX0_checkNumber := goodIn_ca (goodIn_r _ [4, 5, 6, 7] (by decide +kernel) (by decide +kernel)) (goodIn_sub (fun _ h => List.mem_cons_of_mem _ (List.mem_append_right _ h)) (by decide +kernel))
set_option maxRecDepth 20000 in
theorem gX0_characterOf_X0_checkNumber : GoodIn wsX0_characterOf (va_wsS RX0 46 yX0_checkNumber wsX0_checkNumber) := goodIn_app (goodIn_of _ (by decide +kernel)) ggX0_characterOf_X0_checkNumber
set_option maxRecDepth 20000 in
theorem ggX0_characterOf_X0_placeAt : GoodIn wsX0_characterOf wsX0_placeAt := goodIn_r _ [10, 11, 12, 3, 13, 14, 15, 16] (by decide +kernel) (by decide +kernel)
set_option maxRecDepth 20000 in
theorem gX0_characterOf_X0_placeAt : GoodIn wsX0_characterOf (va_wsS RX0 53 yX0_placeAt wsX0_placeAt) := goodIn_app (goodIn_of _ (by decide +kernel)) ggX0_characterOf_X0_placeAt
set_option maxRecDepth 20000 in
theorem ggX0_characterOf_X0_readCharacter : GoodIn wsX0_characterOf wsX0_readCharacter := goodIn_r _ [20, 21, 22, 23, 3, 24, 25, 26, 27, 28] (by decide +kernel) (by decide +kernel)
set_option maxRecDepth 20000 in
theorem gX0_characterOf_X0_readCharacter : GoodIn wsX0_characterOf (wsV RX0 160 RX0 yX0_readCharacter wsX0_readCharacter) := goodIn_app (goodIn_of _ (by decide +kernel)) ggX0_characterOf_X0_readCharacter
theorem dX0_characterOf_0 : decode cX0_characterOf 0 = .ok (.iload_n 1, 1) := by decide +kernel
theorem dX0_characterOf_1 : decode cX0_characterOf 1 = .ok (.invokestatic 46, 3) := by decide +kernel
theorem dX0_characterOf_4 : decode cX0_characterOf 4 = .ok (.aload_n 0, 1) := by decide +kernel
theorem dX0_characterOf_5 : decode cX0_characterOf 5 = .ok (.iload_n 1, 1) := by decide +kernel
theorem dX0_characterOf_6 : decode cX0_characterOf 6 = .ok (.invokestatic 53, 3) := by decide +kernel
theorem dX0_characterOf_9 : decode cX0_characterOf 9 = .ok (.invokevirtual 160, 3) := by decide +kernel
theorem dX0_characterOf_12 : decode cX0_characterOf 12 = .ok (.ireturn, 1) := by decide +kernel
set_option maxRecDepth 20000 in
theorem ggX0_canVote_X0_checkNumber : GoodIn wsX0_canVote wsX0_checkNumber := goodIn_ca (goodIn_r _ [4, 5, 6, 7] (by decide +kernel) (by decide +kernel)) (goodIn_sub (fun _ h => List.mem_cons_of_mem _ (List.mem_append_right _ h)) (by decide +kernel))
set_option maxRecDepth 20000 in
theorem gX0_canVote_X0_checkNumber : GoodIn wsX0_canVote (va_wsS RX0 46 yX0_checkNumber wsX0_checkNumber) := goodIn_app (goodIn_of _ (by decide +kernel)) ggX0_canVote_X0_checkNumber
set_option maxRecDepth 20000 in
theorem ggX0_canVote_X0_isVotingDay : GoodIn wsX0_canVote wsX0_isVotingDay := goodIn_r _ [11, 12, 13, 3, 14, 15, 16, 17, 18, 19, 20, 21, 22, 23, 24, 25, 26, 27, 28, 29, 30, 31, 32, 33, 34, 35, 36, 37] (by decide +kernel) (by decide +kernel)
set_option maxRecDepth 20000 in
theorem gX0_canVote_X0_isVotingDay : GoodIn wsX0_canVote (wsV RX0 163 RX0 yX0_isVotingDay wsX0_isVotingDay) := goodIn_app (goodIn_of _ (by decide +kernel)) ggX0_canVote_X0_isVotingDay
theorem dX0_canVote_0 : decode cX0_canVote 0 = .ok (.iload_n 1, 1) := by decide +kernel
theorem dX0_canVote_1 : decode cX0_canVote 1 = .ok (.invokestatic 46, 3) := by decide +kernel
theorem dX0_canVote_4 : decode cX0_canVote 4 = .ok (.aload_n 0, 1) := by decide +kernel
theorem dX0_canVote_5 : decode cX0_canVote 5 = .ok (.iload_n 1, 1) := by decide +kernel
theorem dX0_canVote_6 : decode cX0_canVote 6 = .ok (.invokevirtual 163, 3) := by decide +kernel
theorem dX0_canVote_9 : decode cX0_canVote 9 = .ok (.ireturn, 1) := by decide +kernel
set_option maxRecDepth 20000 in
theorem ggX0_nextCourt_X0_checkNumber : GoodIn wsX0_nextCourt wsX0_checkNumber := goodIn_ca (goodIn_r _ [9, 10, 11, 1] (by decide +kernel) (by decide +kernel)) (goodIn_sub (fun _ h => List.mem_cons_of_mem _ (List.mem_append_right _ h)) (by decide +kernel))
set_option maxRecDepth 20000 in
theorem gX0_nextCourt_X0_checkNumber : GoodIn wsX0_nextCourt (va_wsS RX0 46 yX0_checkNumber wsX0_checkNumber) := goodIn_app (goodIn_of _ (by decide +kernel)) ggX0_nextCourt_X0_checkNumber
set_option maxRecDepth 20000 in
theorem ggX0_nextCourt_X0_placeAt : GoodIn wsX0_nextCourt wsX0_placeAt := goodIn_r _ [14, 15, 16, 8, 17, 18, 19, 20] (by decide +kernel) (by decide +kernel)
set_option maxRecDepth 20000 in
theorem gX0_nextCourt_X0_placeAt : GoodIn wsX0_nextCourt (va_wsS RX0 53 yX0_placeAt wsX0_placeAt) := goodIn_app (goodIn_of _ (by decide +kernel)) ggX0_nextCourt_X0_placeAt
set_option maxRecDepth 20000 in
theorem ggX0_nextCourt_X0_readCharacter : GoodIn wsX0_nextCourt wsX0_readCharacter := goodIn_r _ [24, 25, 26, 27, 8, 28, 29, 30, 31, 32] (by decide +kernel) (by decide +kernel)
set_option maxRecDepth 20000 in
theorem gX0_nextCourt_X0_readCharacter : GoodIn wsX0_nextCourt (wsV RX0 160 RX0 yX0_readCharacter wsX0_readCharacter) := goodIn_app (goodIn_of _ (by decide +kernel)) ggX0_nextCourt_X0_readCharacter
theorem dX0_nextCourt_0 : decode cX0_nextCourt 0 = .ok (.iload_n 1, 1) := by decide +kernel
theorem dX0_nextCourt_1 : decode cX0_nextCourt 1 = .ok (.invokestatic 46, 3) := by decide +kernel
theorem dX0_nextCourt_4 : decode cX0_nextCourt 4 = .ok (.iload_n 1, 1) := by decide +kernel
theorem dX0_nextCourt_5 : decode cX0_nextCourt 5 = .ok (.sipush 365, 3) := by decide +kernel
theorem dX0_nextCourt_8 : decode cX0_nextCourt 8 = .ok (.iadd, 1) := by decide +kernel
theorem dX0_nextCourt_9 : decode cX0_nextCourt 9 = .ok (.iconst 1, 1) := by decide +kernel
theorem dX0_nextCourt_10 : decode cX0_nextCourt 10 = .ok (.iadd, 1) := by decide +kernel
theorem dX0_nextCourt_11 : decode cX0_nextCourt 11 = .ok (.ldc 31, 2) := by decide +kernel
theorem dX0_nextCourt_13 : decode cX0_nextCourt 13 = .ok (.invokestatic 166, 3) := by decide +kernel
theorem dX0_nextCourt_16 : decode cX0_nextCourt 16 = .ok (.istore_n 2, 1) := by decide +kernel
theorem dX0_nextCourt_17 : decode cX0_nextCourt 17 = .ok (.iload_n 1, 1) := by decide +kernel
theorem dX0_nextCourt_18 : decode cX0_nextCourt 18 = .ok (.istore_n 3, 1) := by decide +kernel
theorem dX0_nextCourt_19 : decode cX0_nextCourt 19 = .ok (.iload_n 3, 1) := by decide +kernel
theorem dX0_nextCourt_20 : decode cX0_nextCourt 20 = .ok (.iload_n 2, 1) := by decide +kernel
theorem dX0_nextCourt_21 : decode cX0_nextCourt 21 = .ok (.if_icmp .ge 32, 3) := by decide +kernel
theorem dX0_nextCourt_24 : decode cX0_nextCourt 24 = .ok (.aload_n 0, 1) := by decide +kernel
theorem dX0_nextCourt_25 : decode cX0_nextCourt 25 = .ok (.iload_n 3, 1) := by decide +kernel
theorem dX0_nextCourt_26 : decode cX0_nextCourt 26 = .ok (.invokestatic 53, 3) := by decide +kernel
theorem dX0_nextCourt_29 : decode cX0_nextCourt 29 = .ok (.invokevirtual 160, 3) := by decide +kernel
theorem dX0_nextCourt_32 : decode cX0_nextCourt 32 = .ok (.istore 4, 2) := by decide +kernel
theorem dX0_nextCourt_34 : decode cX0_nextCourt 34 = .ok (.iload 4, 2) := by decide +kernel
theorem dX0_nextCourt_36 : decode cX0_nextCourt 36 = .ok (.ifCond .eq 9, 3) := by decide +kernel
theorem dX0_nextCourt_39 : decode cX0_nextCourt 39 = .ok (.iload 4, 2) := by decide +kernel
theorem dX0_nextCourt_41 : decode cX0_nextCourt 41 = .ok (.iconst 2, 1) := by decide +kernel
theorem dX0_nextCourt_42 : decode cX0_nextCourt 42 = .ok (.if_icmp .ne 5, 3) := by decide +kernel
theorem dX0_nextCourt_45 : decode cX0_nextCourt 45 = .ok (.iload_n 3, 1) := by decide +kernel
theorem dX0_nextCourt_46 : decode cX0_nextCourt 46 = .ok (.ireturn, 1) := by decide +kernel
theorem dX0_nextCourt_47 : decode cX0_nextCourt 47 = .ok (.iinc 3 1, 3) := by decide +kernel
theorem dX0_nextCourt_50 : decode cX0_nextCourt 50 = .ok (.goto (-31), 3) := by decide +kernel
theorem dX0_nextCourt_53 : decode cX0_nextCourt 53 = .ok (.iconst (-1), 1) := by decide +kernel
theorem dX0_nextCourt_54 : decode cX0_nextCourt 54 = .ok (.ireturn, 1) := by decide +kernel
set_option maxRecDepth 20000 in
theorem ggX0_votes_X0_checkYear : GoodIn wsX0_votes wsX0_checkYear := goodIn_ca (goodIn_r _ [4, 5, 6] (by decide +kernel) (by decide +kernel)) (goodIn_sub (fun _ h => List.mem_cons_of_mem _ (List.mem_append_right _ h)) (by decide +kernel))
set_option maxRecDepth 20000 in
theorem gX0_votes_X0_checkYear : GoodIn wsX0_votes (va_wsS RX0 66 yX0_checkYear wsX0_checkYear) := goodIn_app (goodIn_of _ (by decide +kernel)) ggX0_votes_X0_checkYear
set_option maxRecDepth 20000 in
theorem ggX0_votes_X0_lastDayOf : GoodIn wsX0_votes wsX0_lastDayOf := goodIn_r _ [9, 10, 11, 3, 12] (by decide +kernel) (by decide +kernel)
set_option maxRecDepth 20000 in
theorem gX0_votes_X0_lastDayOf : GoodIn wsX0_votes (va_wsS RX0 117 yX0_lastDayOf wsX0_lastDayOf) := goodIn_app (goodIn_of _ (by decide +kernel)) ggX0_votes_X0_lastDayOf
set_option maxRecDepth 20000 in
theorem ggX0_votes_X0_firstDayOf : GoodIn wsX0_votes wsX0_firstDayOf := goodIn_r _ [12] (by decide +kernel) (by decide +kernel)
set_option maxRecDepth 20000 in
theorem gX0_votes_X0_firstDayOf : GoodIn wsX0_votes (va_wsS RX0 36 yX0_firstDayOf wsX0_firstDayOf) := goodIn_app (goodIn_of _ (by decide +kernel)) ggX0_votes_X0_firstDayOf
set_option maxRecDepth 20000 in
theorem ggX0_votes_X0_isVotingDay : GoodIn wsX0_votes wsX0_isVotingDay := goodIn_r _ [16, 17, 18, 3, 19, 20, 21, 22, 23, 24, 25, 26, 27, 28, 29, 30, 31, 32, 33, 34, 35, 36, 37, 38, 39, 40, 41, 42] (by decide +kernel) (by decide +kernel)
set_option maxRecDepth 20000 in
theorem gX0_votes_X0_isVotingDay : GoodIn wsX0_votes (wsV RX0 163 RX0 yX0_isVotingDay wsX0_isVotingDay) := goodIn_app (goodIn_of _ (by decide +kernel)) ggX0_votes_X0_isVotingDay
theorem dX0_votes_0 : decode cX0_votes 0 = .ok (.iload_n 1, 1) := by decide +kernel
theorem dX0_votes_1 : decode cX0_votes 1 = .ok (.invokestatic 66, 3) := by decide +kernel
theorem dX0_votes_4 : decode cX0_votes 4 = .ok (.iload_n 1, 1) := by decide +kernel
theorem dX0_votes_5 : decode cX0_votes 5 = .ok (.invokestatic 117, 3) := by decide +kernel
theorem dX0_votes_8 : decode cX0_votes 8 = .ok (.istore_n 2, 1) := by decide +kernel
theorem dX0_votes_9 : decode cX0_votes 9 = .ok (.iconst 0, 1) := by decide +kernel
theorem dX0_votes_10 : decode cX0_votes 10 = .ok (.istore_n 3, 1) := by decide +kernel
theorem dX0_votes_11 : decode cX0_votes 11 = .ok (.iload_n 1, 1) := by decide +kernel
theorem dX0_votes_12 : decode cX0_votes 12 = .ok (.invokestatic 36, 3) := by decide +kernel
theorem dX0_votes_15 : decode cX0_votes 15 = .ok (.istore 4, 2) := by decide +kernel
theorem dX0_votes_17 : decode cX0_votes 17 = .ok (.iload 4, 2) := by decide +kernel
theorem dX0_votes_19 : decode cX0_votes 19 = .ok (.iload_n 2, 1) := by decide +kernel
theorem dX0_votes_20 : decode cX0_votes 20 = .ok (.if_icmp .gt 21, 3) := by decide +kernel
theorem dX0_votes_23 : decode cX0_votes 23 = .ok (.aload_n 0, 1) := by decide +kernel
theorem dX0_votes_24 : decode cX0_votes 24 = .ok (.iload 4, 2) := by decide +kernel
theorem dX0_votes_26 : decode cX0_votes 26 = .ok (.invokevirtual 163, 3) := by decide +kernel
theorem dX0_votes_29 : decode cX0_votes 29 = .ok (.ifCond .eq 6, 3) := by decide +kernel
theorem dX0_votes_32 : decode cX0_votes 32 = .ok (.iinc 3 1, 3) := by decide +kernel
theorem dX0_votes_35 : decode cX0_votes 35 = .ok (.iinc 4 1, 3) := by decide +kernel
theorem dX0_votes_38 : decode cX0_votes 38 = .ok (.goto (-21), 3) := by decide +kernel
theorem dX0_votes_41 : decode cX0_votes 41 = .ok (.iload_n 3, 1) := by decide +kernel
theorem dX0_votes_42 : decode cX0_votes 42 = .ok (.ireturn, 1) := by decide +kernel
theorem dX0_checkYear_0 : decode cX0_checkYear 0 = .ok (.iload_n 0, 1) := by decide +kernel
theorem dX0_checkYear_1 : decode cX0_checkYear 1 = .ok (.iconst 1, 1) := by decide +kernel
theorem dX0_checkYear_2 : decode cX0_checkYear 2 = .ok (.if_icmp .lt 10, 3) := by decide +kernel
theorem dX0_checkYear_5 : decode cX0_checkYear 5 = .ok (.iload_n 0, 1) := by decide +kernel
theorem dX0_checkYear_6 : decode cX0_checkYear 6 = .ok (.sipush 3000, 3) := by decide +kernel
theorem dX0_checkYear_9 : decode cX0_checkYear 9 = .ok (.if_icmp .le 13, 3) := by decide +kernel
theorem dX0_checkYear_12 : decode cX0_checkYear 12 = .ok (.new 153, 3) := by decide +kernel
theorem dX0_checkYear_15 : decode cX0_checkYear 15 = .ok (.dup, 1) := by decide +kernel
theorem dX0_checkYear_16 : decode cX0_checkYear 16 = .ok (.ldc 169, 2) := by decide +kernel
theorem dX0_checkYear_18 : decode cX0_checkYear 18 = .ok (.invokespecial 157, 3) := by decide +kernel
theorem dX0_checkYear_21 : decode cX0_checkYear 21 = .ok (.athrow, 1) := by decide +kernel
theorem dX0_checkYear_22 : decode cX0_checkYear 22 = .ok (.return_, 1) := by decide +kernel
theorem dX0_checkMonth_0 : decode cX0_checkMonth 0 = .ok (.iload_n 0, 1) := by decide +kernel
theorem dX0_checkMonth_1 : decode cX0_checkMonth 1 = .ok (.iconst 1, 1) := by decide +kernel
theorem dX0_checkMonth_2 : decode cX0_checkMonth 2 = .ok (.if_icmp .lt 9, 3) := by decide +kernel
theorem dX0_checkMonth_5 : decode cX0_checkMonth 5 = .ok (.iload_n 0, 1) := by decide +kernel
theorem dX0_checkMonth_6 : decode cX0_checkMonth 6 = .ok (.bipush 12, 2) := by decide +kernel
theorem dX0_checkMonth_8 : decode cX0_checkMonth 8 = .ok (.if_icmp .le 13, 3) := by decide +kernel
theorem dX0_checkMonth_11 : decode cX0_checkMonth 11 = .ok (.new 153, 3) := by decide +kernel
theorem dX0_checkMonth_14 : decode cX0_checkMonth 14 = .ok (.dup, 1) := by decide +kernel
theorem dX0_checkMonth_15 : decode cX0_checkMonth 15 = .ok (.ldc 171, 2) := by decide +kernel
theorem dX0_checkMonth_17 : decode cX0_checkMonth 17 = .ok (.invokespecial 157, 3) := by decide +kernel
theorem dX0_checkMonth_20 : decode cX0_checkMonth 20 = .ok (.athrow, 1) := by decide +kernel
theorem dX0_checkMonth_21 : decode cX0_checkMonth 21 = .ok (.return_, 1) := by decide +kernel
set_option maxRecDepth 20000 in
theorem ggX0_checkDate_X0_checkYear : GoodIn wsX0_checkDate wsX0_checkYear := goodIn_ca (goodIn_r _ [6, 1, 2] (by decide +kernel) (by decide +kernel)) (goodIn_sub (fun _ h => List.mem_cons_of_mem _ (List.mem_append_right _ h)) (by decide +kernel))
set_option maxRecDepth 20000 in
theorem gX0_checkDate_X0_checkYear : GoodIn wsX0_checkDate (va_wsS RX0 66 yX0_checkYear wsX0_checkYear) := goodIn_app (goodIn_of _ (by decide +kernel)) ggX0_checkDate_X0_checkYear
set_option maxRecDepth 20000 in
theorem ggX0_checkDate_X0_checkMonth : GoodIn wsX0_checkDate wsX0_checkMonth := goodIn_ca (goodIn_r _ [9, 1, 2] (by decide +kernel) (by decide +kernel)) (goodIn_sub (fun _ h => List.mem_cons_of_mem _ (List.mem_append_right _ h)) (by decide +kernel))
set_option maxRecDepth 20000 in
theorem gX0_checkDate_X0_checkMonth : GoodIn wsX0_checkDate (va_wsS RX0 69 yX0_checkMonth wsX0_checkMonth) := goodIn_app (goodIn_of _ (by decide +kernel)) ggX0_checkDate_X0_checkMonth
set_option maxRecDepth 20000 in
theorem ggX0_checkDate_X0_lengthOf : GoodIn wsX0_checkDate wsX0_lengthOf := goodIn_r _ [12, 13, 14, 5, 15, 16, 17, 18] (by decide +kernel) (by decide +kernel)
set_option maxRecDepth 20000 in
theorem gX0_checkDate_X0_lengthOf : GoodIn wsX0_checkDate (va_wsS RX0 43 yX0_lengthOf wsX0_lengthOf) := goodIn_app (goodIn_of _ (by decide +kernel)) ggX0_checkDate_X0_lengthOf
theorem dX0_checkDate_0 : decode cX0_checkDate 0 = .ok (.iload_n 0, 1) := by decide +kernel
theorem dX0_checkDate_1 : decode cX0_checkDate 1 = .ok (.invokestatic 66, 3) := by decide +kernel
theorem dX0_checkDate_4 : decode cX0_checkDate 4 = .ok (.iload_n 1, 1) := by decide +kernel
theorem dX0_checkDate_5 : decode cX0_checkDate 5 = .ok (.invokestatic 69, 3) := by decide +kernel
theorem dX0_checkDate_8 : decode cX0_checkDate 8 = .ok (.iload_n 2, 1) := by decide +kernel
theorem dX0_checkDate_9 : decode cX0_checkDate 9 = .ok (.iconst 1, 1) := by decide +kernel
theorem dX0_checkDate_10 : decode cX0_checkDate 10 = .ok (.if_icmp .lt 12, 3) := by decide +kernel
theorem dX0_checkDate_13 : decode cX0_checkDate 13 = .ok (.iload_n 2, 1) := by decide +kernel
theorem dX0_checkDate_14 : decode cX0_checkDate 14 = .ok (.iload_n 0, 1) := by decide +kernel
theorem dX0_checkDate_15 : decode cX0_checkDate 15 = .ok (.iload_n 1, 1) := by decide +kernel
theorem dX0_checkDate_16 : decode cX0_checkDate 16 = .ok (.invokestatic 43, 3) := by decide +kernel
theorem dX0_checkDate_19 : decode cX0_checkDate 19 = .ok (.if_icmp .le 13, 3) := by decide +kernel
theorem dX0_checkDate_22 : decode cX0_checkDate 22 = .ok (.new 153, 3) := by decide +kernel
theorem dX0_checkDate_25 : decode cX0_checkDate 25 = .ok (.dup, 1) := by decide +kernel
theorem dX0_checkDate_26 : decode cX0_checkDate 26 = .ok (.ldc 173, 2) := by decide +kernel
theorem dX0_checkDate_28 : decode cX0_checkDate 28 = .ok (.invokespecial 157, 3) := by decide +kernel
theorem dX0_checkDate_31 : decode cX0_checkDate 31 = .ok (.athrow, 1) := by decide +kernel
theorem dX0_checkDate_32 : decode cX0_checkDate 32 = .ok (.return_, 1) := by decide +kernel
theorem dX0_checkNumber_0 : decode cX0_checkNumber 0 = .ok (.iload_n 0, 1) := by decide +kernel
theorem dX0_checkNumber_1 : decode cX0_checkNumber 1 = .ok (.ifCond .lt 9, 3) := by decide +kernel
theorem dX0_checkNumber_4 : decode cX0_checkNumber 4 = .ok (.iload_n 0, 1) := by decide +kernel
theorem dX0_checkNumber_5 : decode cX0_checkNumber 5 = .ok (.ldc 31, 2) := by decide +kernel
theorem dX0_checkNumber_7 : decode cX0_checkNumber 7 = .ok (.if_icmp .lt 13, 3) := by decide +kernel
theorem dX0_checkNumber_10 : decode cX0_checkNumber 10 = .ok (.new 153, 3) := by decide +kernel
theorem dX0_checkNumber_13 : decode cX0_checkNumber 13 = .ok (.dup, 1) := by decide +kernel
theorem dX0_checkNumber_14 : decode cX0_checkNumber 14 = .ok (.ldc 175, 2) := by decide +kernel
theorem dX0_checkNumber_16 : decode cX0_checkNumber 16 = .ok (.invokespecial 157, 3) := by decide +kernel
theorem dX0_checkNumber_19 : decode cX0_checkNumber 19 = .ok (.athrow, 1) := by decide +kernel
theorem dX0_checkNumber_20 : decode cX0_checkNumber 20 = .ok (.return_, 1) := by decide +kernel
theorem dX0_checkAnchor_0 : decode cX0_checkAnchor 0 = .ok (.iload_n 0, 1) := by decide +kernel
theorem dX0_checkAnchor_1 : decode cX0_checkAnchor 1 = .ok (.ifCond .lt 8, 3) := by decide +kernel
theorem dX0_checkAnchor_4 : decode cX0_checkAnchor 4 = .ok (.iload_n 0, 1) := by decide +kernel
theorem dX0_checkAnchor_5 : decode cX0_checkAnchor 5 = .ok (.iconst 2, 1) := by decide +kernel
theorem dX0_checkAnchor_6 : decode cX0_checkAnchor 6 = .ok (.if_icmp .le 13, 3) := by decide +kernel
theorem dX0_checkAnchor_9 : decode cX0_checkAnchor 9 = .ok (.new 75, 3) := by decide +kernel
theorem dX0_checkAnchor_12 : decode cX0_checkAnchor 12 = .ok (.dup, 1) := by decide +kernel
theorem dX0_checkAnchor_13 : decode cX0_checkAnchor 13 = .ok (.ldc 177, 2) := by decide +kernel
theorem dX0_checkAnchor_15 : decode cX0_checkAnchor 15 = .ok (.invokespecial 79, 3) := by decide +kernel
theorem dX0_checkAnchor_18 : decode cX0_checkAnchor 18 = .ok (.athrow, 1) := by decide +kernel
theorem dX0_checkAnchor_19 : decode cX0_checkAnchor 19 = .ok (.return_, 1) := by decide +kernel
theorem dX0_isPlace_0 : decode cX0_isPlace 0 = .ok (.iload_n 0, 1) := by decide +kernel
theorem dX0_isPlace_1 : decode cX0_isPlace 1 = .ok (.iconst 1, 1) := by decide +kernel
theorem dX0_isPlace_2 : decode cX0_isPlace 2 = .ok (.if_icmp .lt 14, 3) := by decide +kernel
theorem dX0_isPlace_5 : decode cX0_isPlace 5 = .ok (.iload_n 0, 1) := by decide +kernel
theorem dX0_isPlace_6 : decode cX0_isPlace 6 = .ok (.sipush 365, 3) := by decide +kernel
theorem dX0_isPlace_9 : decode cX0_isPlace 9 = .ok (.if_icmp .gt 7, 3) := by decide +kernel
theorem dX0_isPlace_12 : decode cX0_isPlace 12 = .ok (.iconst 1, 1) := by decide +kernel
theorem dX0_isPlace_13 : decode cX0_isPlace 13 = .ok (.goto 4, 3) := by decide +kernel
theorem dX0_isPlace_16 : decode cX0_isPlace 16 = .ok (.iconst 0, 1) := by decide +kernel
theorem dX0_isPlace_17 : decode cX0_isPlace 17 = .ok (.ireturn, 1) := by decide +kernel
theorem dX0_isConsul_0 : decode cX0_isConsul 0 = .ok (.iload_n 0, 1) := by decide +kernel
theorem dX0_isConsul_1 : decode cX0_isConsul 1 = .ok (.iconst 1, 1) := by decide +kernel
theorem dX0_isConsul_2 : decode cX0_isConsul 2 = .ok (.if_icmp .lt 14, 3) := by decide +kernel
theorem dX0_isConsul_5 : decode cX0_isConsul 5 = .ok (.iload_n 0, 1) := by decide +kernel
theorem dX0_isConsul_6 : decode cX0_isConsul 6 = .ok (.sipush 999, 3) := by decide +kernel
theorem dX0_isConsul_9 : decode cX0_isConsul 9 = .ok (.if_icmp .gt 7, 3) := by decide +kernel
theorem dX0_isConsul_12 : decode cX0_isConsul 12 = .ok (.iconst 1, 1) := by decide +kernel
theorem dX0_isConsul_13 : decode cX0_isConsul 13 = .ok (.goto 4, 3) := by decide +kernel
theorem dX0_isConsul_16 : decode cX0_isConsul 16 = .ok (.iconst 0, 1) := by decide +kernel
theorem dX0_isConsul_17 : decode cX0_isConsul 17 = .ok (.ireturn, 1) := by decide +kernel
theorem dX0_isLeap_0 : decode cX0_isLeap 0 = .ok (.iload_n 0, 1) := by decide +kernel
theorem dX0_isLeap_1 : decode cX0_isLeap 1 = .ok (.iconst 4, 1) := by decide +kernel
theorem dX0_isLeap_2 : decode cX0_isLeap 2 = .ok (.irem, 1) := by decide +kernel
theorem dX0_isLeap_3 : decode cX0_isLeap 3 = .ok (.ifCond .ne 7, 3) := by decide +kernel
theorem dX0_isLeap_6 : decode cX0_isLeap 6 = .ok (.iconst 1, 1) := by decide +kernel
theorem dX0_isLeap_7 : decode cX0_isLeap 7 = .ok (.goto 4, 3) := by decide +kernel
theorem dX0_isLeap_10 : decode cX0_isLeap 10 = .ok (.iconst 0, 1) := by decide +kernel
theorem dX0_isLeap_11 : decode cX0_isLeap 11 = .ok (.ireturn, 1) := by decide +kernel
theorem dX0_firstDayOf_0 : decode cX0_firstDayOf 0 = .ok (.iload_n 0, 1) := by decide +kernel
theorem dX0_firstDayOf_1 : decode cX0_firstDayOf 1 = .ok (.iconst 1, 1) := by decide +kernel
theorem dX0_firstDayOf_2 : decode cX0_firstDayOf 2 = .ok (.isub, 1) := by decide +kernel
theorem dX0_firstDayOf_3 : decode cX0_firstDayOf 3 = .ok (.sipush 365, 3) := by decide +kernel
theorem dX0_firstDayOf_6 : decode cX0_firstDayOf 6 = .ok (.imul, 1) := by decide +kernel
theorem dX0_firstDayOf_7 : decode cX0_firstDayOf 7 = .ok (.iload_n 0, 1) := by decide +kernel
theorem dX0_firstDayOf_8 : decode cX0_firstDayOf 8 = .ok (.iconst 1, 1) := by decide +kernel
theorem dX0_firstDayOf_9 : decode cX0_firstDayOf 9 = .ok (.isub, 1) := by decide +kernel
theorem dX0_firstDayOf_10 : decode cX0_firstDayOf 10 = .ok (.iconst 4, 1) := by decide +kernel
theorem dX0_firstDayOf_11 : decode cX0_firstDayOf 11 = .ok (.idiv, 1) := by decide +kernel
theorem dX0_firstDayOf_12 : decode cX0_firstDayOf 12 = .ok (.iadd, 1) := by decide +kernel
theorem dX0_firstDayOf_13 : decode cX0_firstDayOf 13 = .ok (.ireturn, 1) := by decide +kernel
set_option maxRecDepth 20000 in
theorem ggX0_lastDayOf_X0_firstDayOf : GoodIn wsX0_lastDayOf wsX0_firstDayOf := goodIn_r _ [4] (by decide +kernel) (by decide +kernel)
set_option maxRecDepth 20000 in
theorem gX0_lastDayOf_X0_firstDayOf : GoodIn wsX0_lastDayOf (va_wsS RX0 36 yX0_firstDayOf wsX0_firstDayOf) := goodIn_app (goodIn_of _ (by decide +kernel)) ggX0_lastDayOf_X0_firstDayOf
theorem dX0_lastDayOf_0 : decode cX0_lastDayOf 0 = .ok (.iload_n 0, 1) := by decide +kernel
theorem dX0_lastDayOf_1 : decode cX0_lastDayOf 1 = .ok (.iconst 1, 1) := by decide +kernel
theorem dX0_lastDayOf_2 : decode cX0_lastDayOf 2 = .ok (.iadd, 1) := by decide +kernel
theorem dX0_lastDayOf_3 : decode cX0_lastDayOf 3 = .ok (.invokestatic 36, 3) := by decide +kernel
theorem dX0_lastDayOf_6 : decode cX0_lastDayOf 6 = .ok (.iconst 1, 1) := by decide +kernel
theorem dX0_lastDayOf_7 : decode cX0_lastDayOf 7 = .ok (.isub, 1) := by decide +kernel
theorem dX0_lastDayOf_8 : decode cX0_lastDayOf 8 = .ok (.ireturn, 1) := by decide +kernel
theorem dX0_yearAt_0 : decode cX0_yearAt 0 = .ok (.iload_n 0, 1) := by decide +kernel
theorem dX0_yearAt_1 : decode cX0_yearAt 1 = .ok (.sipush 1461, 3) := by decide +kernel
theorem dX0_yearAt_4 : decode cX0_yearAt 4 = .ok (.irem, 1) := by decide +kernel
theorem dX0_yearAt_5 : decode cX0_yearAt 5 = .ok (.sipush 365, 3) := by decide +kernel
theorem dX0_yearAt_8 : decode cX0_yearAt 8 = .ok (.idiv, 1) := by decide +kernel
theorem dX0_yearAt_9 : decode cX0_yearAt 9 = .ok (.iconst 3, 1) := by decide +kernel
theorem dX0_yearAt_10 : decode cX0_yearAt 10 = .ok (.invokestatic 166, 3) := by decide +kernel
theorem dX0_yearAt_13 : decode cX0_yearAt 13 = .ok (.istore_n 1, 1) := by decide +kernel
theorem dX0_yearAt_14 : decode cX0_yearAt 14 = .ok (.iload_n 0, 1) := by decide +kernel
theorem dX0_yearAt_15 : decode cX0_yearAt 15 = .ok (.sipush 1461, 3) := by decide +kernel
theorem dX0_yearAt_18 : decode cX0_yearAt 18 = .ok (.idiv, 1) := by decide +kernel
theorem dX0_yearAt_19 : decode cX0_yearAt 19 = .ok (.iconst 4, 1) := by decide +kernel
theorem dX0_yearAt_20 : decode cX0_yearAt 20 = .ok (.imul, 1) := by decide +kernel
theorem dX0_yearAt_21 : decode cX0_yearAt 21 = .ok (.iload_n 1, 1) := by decide +kernel
theorem dX0_yearAt_22 : decode cX0_yearAt 22 = .ok (.iadd, 1) := by decide +kernel
theorem dX0_yearAt_23 : decode cX0_yearAt 23 = .ok (.iconst 1, 1) := by decide +kernel
theorem dX0_yearAt_24 : decode cX0_yearAt 24 = .ok (.iadd, 1) := by decide +kernel
theorem dX0_yearAt_25 : decode cX0_yearAt 25 = .ok (.ireturn, 1) := by decide +kernel
theorem dX0_commonLengthOf_0 : decode cX0_commonLengthOf 0 = .ok (.iload_n 0, 1) := by decide +kernel
theorem dX0_commonLengthOf_1 : decode cX0_commonLengthOf 1 = .ok (.tableswitch 61 2 11 #[55, 61, 58, 61, 58, 61, 61, 58, 61, 58], 55) := by decide +kernel
theorem dX0_commonLengthOf_56 : decode cX0_commonLengthOf 56 = .ok (.bipush 28, 2) := by decide +kernel
theorem dX0_commonLengthOf_58 : decode cX0_commonLengthOf 58 = .ok (.ireturn, 1) := by decide +kernel
theorem dX0_commonLengthOf_59 : decode cX0_commonLengthOf 59 = .ok (.bipush 30, 2) := by decide +kernel
theorem dX0_commonLengthOf_61 : decode cX0_commonLengthOf 61 = .ok (.ireturn, 1) := by decide +kernel
theorem dX0_commonLengthOf_62 : decode cX0_commonLengthOf 62 = .ok (.bipush 31, 2) := by decide +kernel
theorem dX0_commonLengthOf_64 : decode cX0_commonLengthOf 64 = .ok (.ireturn, 1) := by decide +kernel
set_option maxRecDepth 20000 in
theorem ggX0_lengthOf_X0_isLeap : GoodIn wsX0_lengthOf wsX0_isLeap := goodIn_r _ [4] (by decide +kernel) (by decide +kernel)
set_option maxRecDepth 20000 in
theorem gX0_lengthOf_X0_isLeap : GoodIn wsX0_lengthOf (va_wsS RX0 179 yX0_isLeap wsX0_isLeap) := goodIn_app (goodIn_of _ (by decide +kernel)) ggX0_lengthOf_X0_isLeap
set_option maxRecDepth 20000 in
theorem ggX0_lengthOf_X0_commonLengthOf : GoodIn wsX0_lengthOf wsX0_commonLengthOf := goodIn_r _ [7] (by decide +kernel) (by decide +kernel)
set_option maxRecDepth 20000 in
theorem gX0_lengthOf_X0_commonLengthOf : GoodIn wsX0_lengthOf (va_wsS RX0 182 yX0_commonLengthOf wsX0_commonLengthOf) := goodIn_app (goodIn_of _ (by decide +kernel)) ggX0_lengthOf_X0_commonLengthOf
theorem dX0_lengthOf_0 : decode cX0_lengthOf 0 = .ok (.iload_n 1, 1) := by decide +kernel
theorem dX0_lengthOf_1 : decode cX0_lengthOf 1 = .ok (.iconst 2, 1) := by decide +kernel
theorem dX0_lengthOf_2 : decode cX0_lengthOf 2 = .ok (.if_icmp .ne 14, 3) := by decide +kernel
theorem dX0_lengthOf_5 : decode cX0_lengthOf 5 = .ok (.iload_n 0, 1) := by decide +kernel
theorem dX0_lengthOf_6 : decode cX0_lengthOf 6 = .ok (.invokestatic 179, 3) := by decide +kernel
theorem dX0_lengthOf_9 : decode cX0_lengthOf 9 = .ok (.ifCond .eq 7, 3) := by decide +kernel
theorem dX0_lengthOf_12 : decode cX0_lengthOf 12 = .ok (.iconst 1, 1) := by decide +kernel
theorem dX0_lengthOf_13 : decode cX0_lengthOf 13 = .ok (.goto 4, 3) := by decide +kernel
theorem dX0_lengthOf_16 : decode cX0_lengthOf 16 = .ok (.iconst 0, 1) := by decide +kernel
theorem dX0_lengthOf_17 : decode cX0_lengthOf 17 = .ok (.istore_n 2, 1) := by decide +kernel
theorem dX0_lengthOf_18 : decode cX0_lengthOf 18 = .ok (.iload_n 2, 1) := by decide +kernel
theorem dX0_lengthOf_19 : decode cX0_lengthOf 19 = .ok (.ifCond .eq 12, 3) := by decide +kernel
theorem dX0_lengthOf_22 : decode cX0_lengthOf 22 = .ok (.iload_n 1, 1) := by decide +kernel
theorem dX0_lengthOf_23 : decode cX0_lengthOf 23 = .ok (.invokestatic 182, 3) := by decide +kernel
theorem dX0_lengthOf_26 : decode cX0_lengthOf 26 = .ok (.iconst 1, 1) := by decide +kernel
theorem dX0_lengthOf_27 : decode cX0_lengthOf 27 = .ok (.iadd, 1) := by decide +kernel
theorem dX0_lengthOf_28 : decode cX0_lengthOf 28 = .ok (.goto 7, 3) := by decide +kernel
theorem dX0_lengthOf_31 : decode cX0_lengthOf 31 = .ok (.iload_n 1, 1) := by decide +kernel
theorem dX0_lengthOf_32 : decode cX0_lengthOf 32 = .ok (.invokestatic 182, 3) := by decide +kernel
theorem dX0_lengthOf_35 : decode cX0_lengthOf 35 = .ok (.ireturn, 1) := by decide +kernel
set_option maxRecDepth 20000 in
theorem ggX0_commonDaysBefore_X0_commonLengthOf : GoodIn wsX0_commonDaysBefore wsX0_commonLengthOf := goodIn_r _ [4] (by decide +kernel) (by decide +kernel)
set_option maxRecDepth 20000 in
theorem gX0_commonDaysBefore_X0_commonLengthOf : GoodIn wsX0_commonDaysBefore (va_wsS RX0 182 yX0_commonLengthOf wsX0_commonLengthOf) := goodIn_app (goodIn_of _ (by decide +kernel)) ggX0_commonDaysBefore_X0_commonLengthOf
theorem dX0_commonDaysBefore_0 : decode cX0_commonDaysBefore 0 = .ok (.iconst 0, 1) := by decide +kernel
theorem dX0_commonDaysBefore_1 : decode cX0_commonDaysBefore 1 = .ok (.istore_n 1, 1) := by decide +kernel
theorem dX0_commonDaysBefore_2 : decode cX0_commonDaysBefore 2 = .ok (.iconst 1, 1) := by decide +kernel
theorem dX0_commonDaysBefore_3 : decode cX0_commonDaysBefore 3 = .ok (.istore_n 2, 1) := by decide +kernel
theorem dX0_commonDaysBefore_4 : decode cX0_commonDaysBefore 4 = .ok (.iload_n 2, 1) := by decide +kernel
theorem dX0_commonDaysBefore_5 : decode cX0_commonDaysBefore 5 = .ok (.iload_n 0, 1) := by decide +kernel
theorem dX0_commonDaysBefore_6 : decode cX0_commonDaysBefore 6 = .ok (.if_icmp .ge 16, 3) := by decide +kernel
theorem dX0_commonDaysBefore_9 : decode cX0_commonDaysBefore 9 = .ok (.iload_n 1, 1) := by decide +kernel
theorem dX0_commonDaysBefore_10 : decode cX0_commonDaysBefore 10 = .ok (.iload_n 2, 1) := by decide +kernel
theorem dX0_commonDaysBefore_11 : decode cX0_commonDaysBefore 11 = .ok (.invokestatic 182, 3) := by decide +kernel
theorem dX0_commonDaysBefore_14 : decode cX0_commonDaysBefore 14 = .ok (.iadd, 1) := by decide +kernel
theorem dX0_commonDaysBefore_15 : decode cX0_commonDaysBefore 15 = .ok (.istore_n 1, 1) := by decide +kernel
theorem dX0_commonDaysBefore_16 : decode cX0_commonDaysBefore 16 = .ok (.iinc 2 1, 3) := by decide +kernel
theorem dX0_commonDaysBefore_19 : decode cX0_commonDaysBefore 19 = .ok (.goto (-15), 3) := by decide +kernel
theorem dX0_commonDaysBefore_22 : decode cX0_commonDaysBefore 22 = .ok (.iload_n 1, 1) := by decide +kernel
theorem dX0_commonDaysBefore_23 : decode cX0_commonDaysBefore 23 = .ok (.ireturn, 1) := by decide +kernel
set_option maxRecDepth 20000 in
theorem ggX0_daysBefore_X0_isLeap : GoodIn wsX0_daysBefore wsX0_isLeap := goodIn_r _ [4] (by decide +kernel) (by decide +kernel)
set_option maxRecDepth 20000 in
theorem gX0_daysBefore_X0_isLeap : GoodIn wsX0_daysBefore (va_wsS RX0 179 yX0_isLeap wsX0_isLeap) := goodIn_app (goodIn_of _ (by decide +kernel)) ggX0_daysBefore_X0_isLeap
set_option maxRecDepth 20000 in
theorem ggX0_daysBefore_X0_commonDaysBefore : GoodIn wsX0_daysBefore wsX0_commonDaysBefore := goodIn_r _ [7, 8, 9, 3, 10] (by decide +kernel) (by decide +kernel)
set_option maxRecDepth 20000 in
theorem gX0_daysBefore_X0_commonDaysBefore : GoodIn wsX0_daysBefore (va_wsS RX0 185 yX0_commonDaysBefore wsX0_commonDaysBefore) := goodIn_app (goodIn_of _ (by decide +kernel)) ggX0_daysBefore_X0_commonDaysBefore
theorem dX0_daysBefore_0 : decode cX0_daysBefore 0 = .ok (.iload_n 1, 1) := by decide +kernel
theorem dX0_daysBefore_1 : decode cX0_daysBefore 1 = .ok (.iconst 2, 1) := by decide +kernel
theorem dX0_daysBefore_2 : decode cX0_daysBefore 2 = .ok (.if_icmp .le 14, 3) := by decide +kernel
theorem dX0_daysBefore_5 : decode cX0_daysBefore 5 = .ok (.iload_n 0, 1) := by decide +kernel
theorem dX0_daysBefore_6 : decode cX0_daysBefore 6 = .ok (.invokestatic 179, 3) := by decide +kernel
theorem dX0_daysBefore_9 : decode cX0_daysBefore 9 = .ok (.ifCond .eq 7, 3) := by decide +kernel
theorem dX0_daysBefore_12 : decode cX0_daysBefore 12 = .ok (.iconst 1, 1) := by decide +kernel
theorem dX0_daysBefore_13 : decode cX0_daysBefore 13 = .ok (.goto 4, 3) := by decide +kernel
theorem dX0_daysBefore_16 : decode cX0_daysBefore 16 = .ok (.iconst 0, 1) := by decide +kernel
theorem dX0_daysBefore_17 : decode cX0_daysBefore 17 = .ok (.istore_n 2, 1) := by decide +kernel
theorem dX0_daysBefore_18 : decode cX0_daysBefore 18 = .ok (.iload_n 2, 1) := by decide +kernel
theorem dX0_daysBefore_19 : decode cX0_daysBefore 19 = .ok (.ifCond .eq 12, 3) := by decide +kernel
theorem dX0_daysBefore_22 : decode cX0_daysBefore 22 = .ok (.iload_n 1, 1) := by decide +kernel
theorem dX0_daysBefore_23 : decode cX0_daysBefore 23 = .ok (.invokestatic 185, 3) := by decide +kernel
theorem dX0_daysBefore_26 : decode cX0_daysBefore 26 = .ok (.iconst 1, 1) := by decide +kernel
theorem dX0_daysBefore_27 : decode cX0_daysBefore 27 = .ok (.iadd, 1) := by decide +kernel
theorem dX0_daysBefore_28 : decode cX0_daysBefore 28 = .ok (.goto 7, 3) := by decide +kernel
theorem dX0_daysBefore_31 : decode cX0_daysBefore 31 = .ok (.iload_n 1, 1) := by decide +kernel
theorem dX0_daysBefore_32 : decode cX0_daysBefore 32 = .ok (.invokestatic 185, 3) := by decide +kernel
theorem dX0_daysBefore_35 : decode cX0_daysBefore 35 = .ok (.ireturn, 1) := by decide +kernel
theorem dX0_doubledDaysBefore_0 : decode cX0_doubledDaysBefore 0 = .ok (.iload_n 0, 1) := by decide +kernel
theorem dX0_doubledDaysBefore_1 : decode cX0_doubledDaysBefore 1 = .ok (.sipush 1461, 3) := by decide +kernel
theorem dX0_doubledDaysBefore_4 : decode cX0_doubledDaysBefore 4 = .ok (.iadd, 1) := by decide +kernel
theorem dX0_doubledDaysBefore_5 : decode cX0_doubledDaysBefore 5 = .ok (.iconst 1, 1) := by decide +kernel
theorem dX0_doubledDaysBefore_6 : decode cX0_doubledDaysBefore 6 = .ok (.isub, 1) := by decide +kernel
theorem dX0_doubledDaysBefore_7 : decode cX0_doubledDaysBefore 7 = .ok (.sipush 1149, 3) := by decide +kernel
theorem dX0_doubledDaysBefore_10 : decode cX0_doubledDaysBefore 10 = .ok (.isub, 1) := by decide +kernel
theorem dX0_doubledDaysBefore_11 : decode cX0_doubledDaysBefore 11 = .ok (.sipush 1461, 3) := by decide +kernel
theorem dX0_doubledDaysBefore_14 : decode cX0_doubledDaysBefore 14 = .ok (.idiv, 1) := by decide +kernel
theorem dX0_doubledDaysBefore_15 : decode cX0_doubledDaysBefore 15 = .ok (.ireturn, 1) := by decide +kernel
set_option maxRecDepth 20000 in
theorem ggX0_lawNumberAt_X0_doubledDaysBefore : GoodIn wsX0_lawNumberAt wsX0_doubledDaysBefore := goodIn_r _ [4] (by decide +kernel) (by decide +kernel)
set_option maxRecDepth 20000 in
theorem gX0_lawNumberAt_X0_doubledDaysBefore : GoodIn wsX0_lawNumberAt (va_wsS RX0 188 yX0_doubledDaysBefore wsX0_doubledDaysBefore) := goodIn_app (goodIn_of _ (by decide +kernel)) ggX0_lawNumberAt_X0_doubledDaysBefore
theorem dX0_lawNumberAt_0 : decode cX0_lawNumberAt 0 = .ok (.iload_n 0, 1) := by decide +kernel
theorem dX0_lawNumberAt_1 : decode cX0_lawNumberAt 1 = .ok (.iload_n 0, 1) := by decide +kernel
theorem dX0_lawNumberAt_2 : decode cX0_lawNumberAt 2 = .ok (.invokestatic 188, 3) := by decide +kernel
theorem dX0_lawNumberAt_5 : decode cX0_lawNumberAt 5 = .ok (.isub, 1) := by decide +kernel
theorem dX0_lawNumberAt_6 : decode cX0_lawNumberAt 6 = .ok (.ireturn, 1) := by decide +kernel
set_option maxRecDepth 20000 in
theorem ggX0_placeAt_X0_lawNumberAt : GoodIn wsX0_placeAt wsX0_lawNumberAt := goodIn_r _ [4, 5, 6, 3, 7] (by decide +kernel) (by decide +kernel)
set_option maxRecDepth 20000 in
theorem gX0_placeAt_X0_lawNumberAt : GoodIn wsX0_placeAt (va_wsS RX0 99 yX0_lawNumberAt wsX0_lawNumberAt) := goodIn_app (goodIn_of _ (by decide +kernel)) ggX0_placeAt_X0_lawNumberAt
theorem dX0_placeAt_0 : decode cX0_placeAt 0 = .ok (.iload_n 0, 1) := by decide +kernel
theorem dX0_placeAt_1 : decode cX0_placeAt 1 = .ok (.invokestatic 99, 3) := by decide +kernel
theorem dX0_placeAt_4 : decode cX0_placeAt 4 = .ok (.sipush 365, 3) := by decide +kernel
theorem dX0_placeAt_7 : decode cX0_placeAt 7 = .ok (.irem, 1) := by decide +kernel
theorem dX0_placeAt_8 : decode cX0_placeAt 8 = .ok (.iconst 1, 1) := by decide +kernel
theorem dX0_placeAt_9 : decode cX0_placeAt 9 = .ok (.iadd, 1) := by decide +kernel
theorem dX0_placeAt_10 : decode cX0_placeAt 10 = .ok (.ireturn, 1) := by decide +kernel
set_option maxRecDepth 20000 in
theorem ggX0_lastDayOfPlace_X0_isLeap : GoodIn wsX0_lastDayOfPlace wsX0_isLeap := goodIn_r _ [4] (by decide +kernel) (by decide +kernel)
set_option maxRecDepth 20000 in
theorem gX0_lastDayOfPlace_X0_isLeap : GoodIn wsX0_lastDayOfPlace (va_wsS RX0 179 yX0_isLeap wsX0_isLeap) := goodIn_app (goodIn_of _ (by decide +kernel)) ggX0_lastDayOfPlace_X0_isLeap
set_option maxRecDepth 20000 in
theorem ggX0_lastDayOfPlace_X0_firstDayOf : GoodIn wsX0_lastDayOfPlace wsX0_firstDayOf := goodIn_r _ [7] (by decide +kernel) (by decide +kernel)
set_option maxRecDepth 20000 in
theorem gX0_lastDayOfPlace_X0_firstDayOf : GoodIn wsX0_lastDayOfPlace (va_wsS RX0 36 yX0_firstDayOf wsX0_firstDayOf) := goodIn_app (goodIn_of _ (by decide +kernel)) ggX0_lastDayOfPlace_X0_firstDayOf
theorem dX0_lastDayOfPlace_0 : decode cX0_lastDayOfPlace 0 = .ok (.iload_n 0, 1) := by decide +kernel
theorem dX0_lastDayOfPlace_1 : decode cX0_lastDayOfPlace 1 = .ok (.invokestatic 179, 3) := by decide +kernel
theorem dX0_lastDayOfPlace_4 : decode cX0_lastDayOfPlace 4 = .ok (.ifCond .eq 13, 3) := by decide +kernel
theorem dX0_lastDayOfPlace_7 : decode cX0_lastDayOfPlace 7 = .ok (.iload_n 1, 1) := by decide +kernel
theorem dX0_lastDayOfPlace_8 : decode cX0_lastDayOfPlace 8 = .ok (.bipush 55, 2) := by decide +kernel
theorem dX0_lastDayOfPlace_10 : decode cX0_lastDayOfPlace 10 = .ok (.if_icmp .lt 7, 3) := by decide +kernel
theorem dX0_lastDayOfPlace_13 : decode cX0_lastDayOfPlace 13 = .ok (.iconst 1, 1) := by decide +kernel
theorem dX0_lastDayOfPlace_14 : decode cX0_lastDayOfPlace 14 = .ok (.goto 4, 3) := by decide +kernel
theorem dX0_lastDayOfPlace_17 : decode cX0_lastDayOfPlace 17 = .ok (.iconst 0, 1) := by decide +kernel
theorem dX0_lastDayOfPlace_18 : decode cX0_lastDayOfPlace 18 = .ok (.istore_n 2, 1) := by decide +kernel
theorem dX0_lastDayOfPlace_19 : decode cX0_lastDayOfPlace 19 = .ok (.iload_n 0, 1) := by decide +kernel
theorem dX0_lastDayOfPlace_20 : decode cX0_lastDayOfPlace 20 = .ok (.invokestatic 36, 3) := by decide +kernel
theorem dX0_lastDayOfPlace_23 : decode cX0_lastDayOfPlace 23 = .ok (.iload_n 1, 1) := by decide +kernel
theorem dX0_lastDayOfPlace_24 : decode cX0_lastDayOfPlace 24 = .ok (.iadd, 1) := by decide +kernel
theorem dX0_lastDayOfPlace_25 : decode cX0_lastDayOfPlace 25 = .ok (.iconst 1, 1) := by decide +kernel
theorem dX0_lastDayOfPlace_26 : decode cX0_lastDayOfPlace 26 = .ok (.isub, 1) := by decide +kernel
theorem dX0_lastDayOfPlace_27 : decode cX0_lastDayOfPlace 27 = .ok (.iload_n 2, 1) := by decide +kernel
theorem dX0_lastDayOfPlace_28 : decode cX0_lastDayOfPlace 28 = .ok (.ifCond .eq 7, 3) := by decide +kernel
theorem dX0_lastDayOfPlace_31 : decode cX0_lastDayOfPlace 31 = .ok (.iconst 1, 1) := by decide +kernel
theorem dX0_lastDayOfPlace_32 : decode cX0_lastDayOfPlace 32 = .ok (.goto 4, 3) := by decide +kernel
theorem dX0_lastDayOfPlace_35 : decode cX0_lastDayOfPlace 35 = .ok (.iconst 0, 1) := by decide +kernel
theorem dX0_lastDayOfPlace_36 : decode cX0_lastDayOfPlace 36 = .ok (.iadd, 1) := by decide +kernel
theorem dX0_lastDayOfPlace_37 : decode cX0_lastDayOfPlace 37 = .ok (.ireturn, 1) := by decide +kernel
set_option maxRecDepth 20000 in
theorem ggX0_monthOfPlace_X0_commonLengthOf : GoodIn wsX0_monthOfPlace wsX0_commonLengthOf := goodIn_r _ [4] (by decide +kernel) (by decide +kernel)
set_option maxRecDepth 20000 in
theorem gX0_monthOfPlace_X0_commonLengthOf : GoodIn wsX0_monthOfPlace (va_wsS RX0 182 yX0_commonLengthOf wsX0_commonLengthOf) := goodIn_app (goodIn_of _ (by decide +kernel)) ggX0_monthOfPlace_X0_commonLengthOf
theorem dX0_monthOfPlace_0 : decode cX0_monthOfPlace 0 = .ok (.iconst 1, 1) := by decide +kernel
theorem dX0_monthOfPlace_1 : decode cX0_monthOfPlace 1 = .ok (.istore_n 1, 1) := by decide +kernel
theorem dX0_monthOfPlace_2 : decode cX0_monthOfPlace 2 = .ok (.iload_n 1, 1) := by decide +kernel
theorem dX0_monthOfPlace_3 : decode cX0_monthOfPlace 3 = .ok (.invokestatic 182, 3) := by decide +kernel
theorem dX0_monthOfPlace_6 : decode cX0_monthOfPlace 6 = .ok (.istore_n 2, 1) := by decide +kernel
theorem dX0_monthOfPlace_7 : decode cX0_monthOfPlace 7 = .ok (.iload_n 1, 1) := by decide +kernel
theorem dX0_monthOfPlace_8 : decode cX0_monthOfPlace 8 = .ok (.bipush 12, 2) := by decide +kernel
theorem dX0_monthOfPlace_10 : decode cX0_monthOfPlace 10 = .ok (.if_icmp .ge 21, 3) := by decide +kernel
theorem dX0_monthOfPlace_13 : decode cX0_monthOfPlace 13 = .ok (.iload_n 0, 1) := by decide +kernel
theorem dX0_monthOfPlace_14 : decode cX0_monthOfPlace 14 = .ok (.iload_n 2, 1) := by decide +kernel
theorem dX0_monthOfPlace_15 : decode cX0_monthOfPlace 15 = .ok (.if_icmp .le 16, 3) := by decide +kernel
theorem dX0_monthOfPlace_18 : decode cX0_monthOfPlace 18 = .ok (.iinc 1 1, 3) := by decide +kernel
theorem dX0_monthOfPlace_21 : decode cX0_monthOfPlace 21 = .ok (.iload_n 2, 1) := by decide +kernel
theorem dX0_monthOfPlace_22 : decode cX0_monthOfPlace 22 = .ok (.iload_n 1, 1) := by decide +kernel
theorem dX0_monthOfPlace_23 : decode cX0_monthOfPlace 23 = .ok (.invokestatic 182, 3) := by decide +kernel
theorem dX0_monthOfPlace_26 : decode cX0_monthOfPlace 26 = .ok (.iadd, 1) := by decide +kernel
theorem dX0_monthOfPlace_27 : decode cX0_monthOfPlace 27 = .ok (.istore_n 2, 1) := by decide +kernel
theorem dX0_monthOfPlace_28 : decode cX0_monthOfPlace 28 = .ok (.goto (-21), 3) := by decide +kernel
theorem dX0_monthOfPlace_31 : decode cX0_monthOfPlace 31 = .ok (.iload_n 1, 1) := by decide +kernel
theorem dX0_monthOfPlace_32 : decode cX0_monthOfPlace 32 = .ok (.ireturn, 1) := by decide +kernel
theorem dX0_nonesDayOf_0 : decode cX0_nonesDayOf 0 = .ok (.iload_n 0, 1) := by decide +kernel
theorem dX0_nonesDayOf_1 : decode cX0_nonesDayOf 1 = .ok (.tableswitch 50 3 10 #[47, 50, 47, 50, 47, 50, 50, 47], 47) := by decide +kernel
theorem dX0_nonesDayOf_48 : decode cX0_nonesDayOf 48 = .ok (.bipush 7, 2) := by decide +kernel
theorem dX0_nonesDayOf_50 : decode cX0_nonesDayOf 50 = .ok (.ireturn, 1) := by decide +kernel
theorem dX0_nonesDayOf_51 : decode cX0_nonesDayOf 51 = .ok (.iconst 5, 1) := by decide +kernel
theorem dX0_nonesDayOf_52 : decode cX0_nonesDayOf 52 = .ok (.ireturn, 1) := by decide +kernel
set_option maxRecDepth 20000 in
theorem ggX0_placeOfAnchor_X0_commonDaysBefore : GoodIn wsX0_placeOfAnchor wsX0_commonDaysBefore := goodIn_r _ [4, 5, 6, 3, 7] (by decide +kernel) (by decide +kernel)
set_option maxRecDepth 20000 in
theorem gX0_placeOfAnchor_X0_commonDaysBefore : GoodIn wsX0_placeOfAnchor (va_wsS RX0 185 yX0_commonDaysBefore wsX0_commonDaysBefore) := goodIn_app (goodIn_of _ (by decide +kernel)) ggX0_placeOfAnchor_X0_commonDaysBefore
set_option maxRecDepth 20000 in
theorem ggX0_placeOfAnchor_X0_nonesDayOf : GoodIn wsX0_placeOfAnchor wsX0_nonesDayOf := goodIn_r _ [10] (by decide +kernel) (by decide +kernel)
set_option maxRecDepth 20000 in
theorem gX0_placeOfAnchor_X0_nonesDayOf : GoodIn wsX0_placeOfAnchor (va_wsS RX0 191 yX0_nonesDayOf wsX0_nonesDayOf) := goodIn_app (goodIn_of _ (by decide +kernel)) ggX0_placeOfAnchor_X0_nonesDayOf
theorem dX0_placeOfAnchor_0 : decode cX0_placeOfAnchor 0 = .ok (.iload_n 0, 1) := by decide +kernel
theorem dX0_placeOfAnchor_1 : decode cX0_placeOfAnchor 1 = .ok (.invokestatic 185, 3) := by decide +kernel
theorem dX0_placeOfAnchor_4 : decode cX0_placeOfAnchor 4 = .ok (.istore_n 2, 1) := by decide +kernel
theorem dX0_placeOfAnchor_5 : decode cX0_placeOfAnchor 5 = .ok (.iload_n 1, 1) := by decide +kernel
theorem dX0_placeOfAnchor_6 : decode cX0_placeOfAnchor 6 = .ok (.ifCond .ne 7, 3) := by decide +kernel
theorem dX0_placeOfAnchor_9 : decode cX0_placeOfAnchor 9 = .ok (.iload_n 2, 1) := by decide +kernel
theorem dX0_placeOfAnchor_10 : decode cX0_placeOfAnchor 10 = .ok (.iconst 1, 1) := by decide +kernel
theorem dX0_placeOfAnchor_11 : decode cX0_placeOfAnchor 11 = .ok (.iadd, 1) := by decide +kernel
theorem dX0_placeOfAnchor_12 : decode cX0_placeOfAnchor 12 = .ok (.ireturn, 1) := by decide +kernel
theorem dX0_placeOfAnchor_13 : decode cX0_placeOfAnchor 13 = .ok (.iload_n 2, 1) := by decide +kernel
theorem dX0_placeOfAnchor_14 : decode cX0_placeOfAnchor 14 = .ok (.iload_n 0, 1) := by decide +kernel
theorem dX0_placeOfAnchor_15 : decode cX0_placeOfAnchor 15 = .ok (.invokestatic 191, 3) := by decide +kernel
theorem dX0_placeOfAnchor_18 : decode cX0_placeOfAnchor 18 = .ok (.iadd, 1) := by decide +kernel
theorem dX0_placeOfAnchor_19 : decode cX0_placeOfAnchor 19 = .ok (.istore_n 3, 1) := by decide +kernel
theorem dX0_placeOfAnchor_20 : decode cX0_placeOfAnchor 20 = .ok (.iload_n 1, 1) := by decide +kernel
theorem dX0_placeOfAnchor_21 : decode cX0_placeOfAnchor 21 = .ok (.iconst 1, 1) := by decide +kernel
theorem dX0_placeOfAnchor_22 : decode cX0_placeOfAnchor 22 = .ok (.if_icmp .ne 7, 3) := by decide +kernel
theorem dX0_placeOfAnchor_25 : decode cX0_placeOfAnchor 25 = .ok (.iload_n 3, 1) := by decide +kernel
theorem dX0_placeOfAnchor_26 : decode cX0_placeOfAnchor 26 = .ok (.goto 7, 3) := by decide +kernel
theorem dX0_placeOfAnchor_29 : decode cX0_placeOfAnchor 29 = .ok (.iload_n 3, 1) := by decide +kernel
theorem dX0_placeOfAnchor_30 : decode cX0_placeOfAnchor 30 = .ok (.bipush 8, 2) := by decide +kernel
theorem dX0_placeOfAnchor_32 : decode cX0_placeOfAnchor 32 = .ok (.iadd, 1) := by decide +kernel
theorem dX0_placeOfAnchor_33 : decode cX0_placeOfAnchor 33 = .ok (.ireturn, 1) := by decide +kernel
set_option maxRecDepth 20000 in
theorem ggX0_isBehindIdes_X0_monthOfPlace : GoodIn wsX0_isBehindIdes wsX0_monthOfPlace := goodIn_r _ [4, 5, 6, 3, 7] (by decide +kernel) (by decide +kernel)
set_option maxRecDepth 20000 in
theorem gX0_isBehindIdes_X0_monthOfPlace : GoodIn wsX0_isBehindIdes (va_wsS RX0 56 yX0_monthOfPlace wsX0_monthOfPlace) := goodIn_app (goodIn_of _ (by decide +kernel)) ggX0_isBehindIdes_X0_monthOfPlace
set_option maxRecDepth 20000 in
theorem ggX0_isBehindIdes_X0_placeOfAnchor : GoodIn wsX0_isBehindIdes wsX0_placeOfAnchor := goodIn_r _ [10, 11, 12, 3, 13, 5, 6, 7, 14, 15, 16] (by decide +kernel) (by decide +kernel)
set_option maxRecDepth 20000 in
theorem gX0_isBehindIdes_X0_placeOfAnchor : GoodIn wsX0_isBehindIdes (va_wsS RX0 23 yX0_placeOfAnchor wsX0_placeOfAnchor) := goodIn_app (goodIn_of _ (by decide +kernel)) ggX0_isBehindIdes_X0_placeOfAnchor
theorem dX0_isBehindIdes_0 : decode cX0_isBehindIdes 0 = .ok (.iload_n 0, 1) := by decide +kernel
theorem dX0_isBehindIdes_1 : decode cX0_isBehindIdes 1 = .ok (.iload_n 0, 1) := by decide +kernel
theorem dX0_isBehindIdes_2 : decode cX0_isBehindIdes 2 = .ok (.invokestatic 56, 3) := by decide +kernel
theorem dX0_isBehindIdes_5 : decode cX0_isBehindIdes 5 = .ok (.iconst 2, 1) := by decide +kernel
theorem dX0_isBehindIdes_6 : decode cX0_isBehindIdes 6 = .ok (.invokestatic 23, 3) := by decide +kernel
theorem dX0_isBehindIdes_9 : decode cX0_isBehindIdes 9 = .ok (.if_icmp .le 7, 3) := by decide +kernel
theorem dX0_isBehindIdes_12 : decode cX0_isBehindIdes 12 = .ok (.iconst 1, 1) := by decide +kernel
theorem dX0_isBehindIdes_13 : decode cX0_isBehindIdes 13 = .ok (.goto 4, 3) := by decide +kernel
theorem dX0_isBehindIdes_16 : decode cX0_isBehindIdes 16 = .ok (.iconst 0, 1) := by decide +kernel
theorem dX0_isBehindIdes_17 : decode cX0_isBehindIdes 17 = .ok (.ireturn, 1) := by decide +kernel
set_option maxRecDepth 20000 in
theorem ggX0_anchorOfPlace_X0_monthOfPlace : GoodIn wsX0_anchorOfPlace wsX0_monthOfPlace := goodIn_r _ [4, 5, 6, 3, 7] (by decide +kernel) (by decide +kernel)
set_option maxRecDepth 20000 in
theorem gX0_anchorOfPlace_X0_monthOfPlace : GoodIn wsX0_anchorOfPlace (va_wsS RX0 56 yX0_monthOfPlace wsX0_monthOfPlace) := goodIn_app (goodIn_of _ (by decide +kernel)) ggX0_anchorOfPlace_X0_monthOfPlace
set_option maxRecDepth 20000 in
theorem ggX0_anchorOfPlace_X0_placeOfAnchor : GoodIn wsX0_anchorOfPlace wsX0_placeOfAnchor := goodIn_r _ [10, 11, 12, 3, 13, 5, 6, 7, 14, 15, 16] (by decide +kernel) (by decide +kernel)
set_option maxRecDepth 20000 in
theorem gX0_anchorOfPlace_X0_placeOfAnchor : GoodIn wsX0_anchorOfPlace (va_wsS RX0 23 yX0_placeOfAnchor wsX0_placeOfAnchor) := goodIn_app (goodIn_of _ (by decide +kernel)) ggX0_anchorOfPlace_X0_placeOfAnchor
set_option maxRecDepth 20000 in
theorem ggX0_anchorOfPlace_X0_isBehindIdes : GoodIn wsX0_anchorOfPlace wsX0_isBehindIdes := goodIn_r _ [19, 1, 2, 3, 4, 5, 6, 7, 8, 9, 10, 11, 12, 13, 14, 15, 16] (by decide +kernel) (by decide +kernel)
set_option maxRecDepth 20000 in
theorem gX0_anchorOfPlace_X0_isBehindIdes : GoodIn wsX0_anchorOfPlace (va_wsS RX0 62 yX0_isBehindIdes wsX0_isBehindIdes) := goodIn_app (goodIn_of _ (by decide +kernel)) ggX0_anchorOfPlace_X0_isBehindIdes
theorem dX0_anchorOfPlace_0 : decode cX0_anchorOfPlace 0 = .ok (.iload_n 0, 1) := by decide +kernel
theorem dX0_anchorOfPlace_1 : decode cX0_anchorOfPlace 1 = .ok (.invokestatic 56, 3) := by decide +kernel
theorem dX0_anchorOfPlace_4 : decode cX0_anchorOfPlace 4 = .ok (.istore_n 1, 1) := by decide +kernel
theorem dX0_anchorOfPlace_5 : decode cX0_anchorOfPlace 5 = .ok (.iload_n 0, 1) := by decide +kernel
theorem dX0_anchorOfPlace_6 : decode cX0_anchorOfPlace 6 = .ok (.iload_n 1, 1) := by decide +kernel
theorem dX0_anchorOfPlace_7 : decode cX0_anchorOfPlace 7 = .ok (.iconst 0, 1) := by decide +kernel
theorem dX0_anchorOfPlace_8 : decode cX0_anchorOfPlace 8 = .ok (.invokestatic 23, 3) := by decide +kernel
theorem dX0_anchorOfPlace_11 : decode cX0_anchorOfPlace 11 = .ok (.if_icmp .eq 10, 3) := by decide +kernel
theorem dX0_anchorOfPlace_14 : decode cX0_anchorOfPlace 14 = .ok (.iload_n 0, 1) := by decide +kernel
theorem dX0_anchorOfPlace_15 : decode cX0_anchorOfPlace 15 = .ok (.invokestatic 62, 3) := by decide +kernel
theorem dX0_anchorOfPlace_18 : decode cX0_anchorOfPlace 18 = .ok (.ifCond .eq 5, 3) := by decide +kernel
theorem dX0_anchorOfPlace_21 : decode cX0_anchorOfPlace 21 = .ok (.iconst 0, 1) := by decide +kernel
theorem dX0_anchorOfPlace_22 : decode cX0_anchorOfPlace 22 = .ok (.ireturn, 1) := by decide +kernel
theorem dX0_anchorOfPlace_23 : decode cX0_anchorOfPlace 23 = .ok (.iload_n 0, 1) := by decide +kernel
theorem dX0_anchorOfPlace_24 : decode cX0_anchorOfPlace 24 = .ok (.iload_n 1, 1) := by decide +kernel
theorem dX0_anchorOfPlace_25 : decode cX0_anchorOfPlace 25 = .ok (.iconst 1, 1) := by decide +kernel
theorem dX0_anchorOfPlace_26 : decode cX0_anchorOfPlace 26 = .ok (.invokestatic 23, 3) := by decide +kernel
theorem dX0_anchorOfPlace_29 : decode cX0_anchorOfPlace 29 = .ok (.if_icmp .gt 7, 3) := by decide +kernel
theorem dX0_anchorOfPlace_32 : decode cX0_anchorOfPlace 32 = .ok (.iconst 1, 1) := by decide +kernel
theorem dX0_anchorOfPlace_33 : decode cX0_anchorOfPlace 33 = .ok (.goto 4, 3) := by decide +kernel
theorem dX0_anchorOfPlace_36 : decode cX0_anchorOfPlace 36 = .ok (.iconst 2, 1) := by decide +kernel
theorem dX0_anchorOfPlace_37 : decode cX0_anchorOfPlace 37 = .ok (.ireturn, 1) := by decide +kernel
set_option maxRecDepth 20000 in
theorem ggX0_greatestCountTo_X0_nonesDayOf : GoodIn wsX0_greatestCountTo wsX0_nonesDayOf := goodIn_r _ [4] (by decide +kernel) (by decide +kernel)
set_option maxRecDepth 20000 in
theorem gX0_greatestCountTo_X0_nonesDayOf : GoodIn wsX0_greatestCountTo (va_wsS RX0 191 yX0_nonesDayOf wsX0_nonesDayOf) := goodIn_app (goodIn_of _ (by decide +kernel)) ggX0_greatestCountTo_X0_nonesDayOf
set_option maxRecDepth 20000 in
theorem ggX0_greatestCountTo_X0_commonLengthOf : GoodIn wsX0_greatestCountTo wsX0_commonLengthOf := goodIn_r _ [7] (by decide +kernel) (by decide +kernel)
set_option maxRecDepth 20000 in
theorem gX0_greatestCountTo_X0_commonLengthOf : GoodIn wsX0_greatestCountTo (va_wsS RX0 182 yX0_commonLengthOf wsX0_commonLengthOf) := goodIn_app (goodIn_of _ (by decide +kernel)) ggX0_greatestCountTo_X0_commonLengthOf
theorem dX0_greatestCountTo_0 : decode cX0_greatestCountTo 0 = .ok (.iload_n 1, 1) := by decide +kernel
theorem dX0_greatestCountTo_1 : decode cX0_greatestCountTo 1 = .ok (.iconst 2, 1) := by decide +kernel
theorem dX0_greatestCountTo_2 : decode cX0_greatestCountTo 2 = .ok (.if_icmp .ne 6, 3) := by decide +kernel
theorem dX0_greatestCountTo_5 : decode cX0_greatestCountTo 5 = .ok (.bipush 8, 2) := by decide +kernel
theorem dX0_greatestCountTo_7 : decode cX0_greatestCountTo 7 = .ok (.ireturn, 1) := by decide +kernel
theorem dX0_greatestCountTo_8 : decode cX0_greatestCountTo 8 = .ok (.iload_n 1, 1) := by decide +kernel
theorem dX0_greatestCountTo_9 : decode cX0_greatestCountTo 9 = .ok (.iconst 1, 1) := by decide +kernel
theorem dX0_greatestCountTo_10 : decode cX0_greatestCountTo 10 = .ok (.if_icmp .ne 10, 3) := by decide +kernel
theorem dX0_greatestCountTo_13 : decode cX0_greatestCountTo 13 = .ok (.iload_n 0, 1) := by decide +kernel
theorem dX0_greatestCountTo_14 : decode cX0_greatestCountTo 14 = .ok (.invokestatic 191, 3) := by decide +kernel
theorem dX0_greatestCountTo_17 : decode cX0_greatestCountTo 17 = .ok (.iconst 1, 1) := by decide +kernel
theorem dX0_greatestCountTo_18 : decode cX0_greatestCountTo 18 = .ok (.isub, 1) := by decide +kernel
theorem dX0_greatestCountTo_19 : decode cX0_greatestCountTo 19 = .ok (.ireturn, 1) := by decide +kernel
theorem dX0_greatestCountTo_20 : decode cX0_greatestCountTo 20 = .ok (.iload_n 0, 1) := by decide +kernel
theorem dX0_greatestCountTo_21 : decode cX0_greatestCountTo 21 = .ok (.iconst 1, 1) := by decide +kernel
theorem dX0_greatestCountTo_22 : decode cX0_greatestCountTo 22 = .ok (.if_icmp .ne 8, 3) := by decide +kernel
theorem dX0_greatestCountTo_25 : decode cX0_greatestCountTo 25 = .ok (.bipush 12, 2) := by decide +kernel
theorem dX0_greatestCountTo_27 : decode cX0_greatestCountTo 27 = .ok (.goto 6, 3) := by decide +kernel
theorem dX0_greatestCountTo_30 : decode cX0_greatestCountTo 30 = .ok (.iload_n 0, 1) := by decide +kernel
theorem dX0_greatestCountTo_31 : decode cX0_greatestCountTo 31 = .ok (.iconst 1, 1) := by decide +kernel
theorem dX0_greatestCountTo_32 : decode cX0_greatestCountTo 32 = .ok (.isub, 1) := by decide +kernel
theorem dX0_greatestCountTo_33 : decode cX0_greatestCountTo 33 = .ok (.istore_n 2, 1) := by decide +kernel
theorem dX0_greatestCountTo_34 : decode cX0_greatestCountTo 34 = .ok (.iload_n 2, 1) := by decide +kernel
theorem dX0_greatestCountTo_35 : decode cX0_greatestCountTo 35 = .ok (.invokestatic 191, 3) := by decide +kernel
theorem dX0_greatestCountTo_38 : decode cX0_greatestCountTo 38 = .ok (.bipush 8, 2) := by decide +kernel
theorem dX0_greatestCountTo_40 : decode cX0_greatestCountTo 40 = .ok (.iadd, 1) := by decide +kernel
theorem dX0_greatestCountTo_41 : decode cX0_greatestCountTo 41 = .ok (.istore_n 3, 1) := by decide +kernel
theorem dX0_greatestCountTo_42 : decode cX0_greatestCountTo 42 = .ok (.iload_n 2, 1) := by decide +kernel
theorem dX0_greatestCountTo_43 : decode cX0_greatestCountTo 43 = .ok (.invokestatic 182, 3) := by decide +kernel
theorem dX0_greatestCountTo_46 : decode cX0_greatestCountTo 46 = .ok (.iload_n 3, 1) := by decide +kernel
theorem dX0_greatestCountTo_47 : decode cX0_greatestCountTo 47 = .ok (.isub, 1) := by decide +kernel
theorem dX0_greatestCountTo_48 : decode cX0_greatestCountTo 48 = .ok (.iconst 1, 1) := by decide +kernel
theorem dX0_greatestCountTo_49 : decode cX0_greatestCountTo 49 = .ok (.iadd, 1) := by decide +kernel
theorem dX0_greatestCountTo_50 : decode cX0_greatestCountTo 50 = .ok (.ireturn, 1) := by decide +kernel
set_option maxRecDepth 20000 in
theorem ggX0_isToldAsDoubled_X0_isLeap : GoodIn wsX0_isToldAsDoubled wsX0_isLeap := goodIn_r _ [4] (by decide +kernel) (by decide +kernel)
set_option maxRecDepth 20000 in
theorem gX0_isToldAsDoubled_X0_isLeap : GoodIn wsX0_isToldAsDoubled (va_wsS RX0 179 yX0_isLeap wsX0_isLeap) := goodIn_app (goodIn_of _ (by decide +kernel)) ggX0_isToldAsDoubled_X0_isLeap
theorem dX0_isToldAsDoubled_0 : decode cX0_isToldAsDoubled 0 = .ok (.iload_n 0, 1) := by decide +kernel
theorem dX0_isToldAsDoubled_1 : decode cX0_isToldAsDoubled 1 = .ok (.invokestatic 179, 3) := by decide +kernel
theorem dX0_isToldAsDoubled_4 : decode cX0_isToldAsDoubled 4 = .ok (.ifCond .eq 22, 3) := by decide +kernel
theorem dX0_isToldAsDoubled_7 : decode cX0_isToldAsDoubled 7 = .ok (.iload_n 1, 1) := by decide +kernel
theorem dX0_isToldAsDoubled_8 : decode cX0_isToldAsDoubled 8 = .ok (.iconst 3, 1) := by decide +kernel
theorem dX0_isToldAsDoubled_9 : decode cX0_isToldAsDoubled 9 = .ok (.if_icmp .ne 17, 3) := by decide +kernel
theorem dX0_isToldAsDoubled_12 : decode cX0_isToldAsDoubled 12 = .ok (.iload_n 2, 1) := by decide +kernel
theorem dX0_isToldAsDoubled_13 : decode cX0_isToldAsDoubled 13 = .ok (.ifCond .ne 13, 3) := by decide +kernel
theorem dX0_isToldAsDoubled_16 : decode cX0_isToldAsDoubled 16 = .ok (.iload_n 3, 1) := by decide +kernel
theorem dX0_isToldAsDoubled_17 : decode cX0_isToldAsDoubled 17 = .ok (.bipush 6, 2) := by decide +kernel
theorem dX0_isToldAsDoubled_19 : decode cX0_isToldAsDoubled 19 = .ok (.if_icmp .ne 7, 3) := by decide +kernel
theorem dX0_isToldAsDoubled_22 : decode cX0_isToldAsDoubled 22 = .ok (.iconst 1, 1) := by decide +kernel
theorem dX0_isToldAsDoubled_23 : decode cX0_isToldAsDoubled 23 = .ok (.goto 4, 3) := by decide +kernel
theorem dX0_isToldAsDoubled_26 : decode cX0_isToldAsDoubled 26 = .ok (.iconst 0, 1) := by decide +kernel
theorem dX0_isToldAsDoubled_27 : decode cX0_isToldAsDoubled 27 = .ok (.ireturn, 1) := by decide +kernel
set_option maxRecDepth 20000 in
theorem ggX0_eightLetterAt_X0_placeAt : GoodIn wsX0_eightLetterAt wsX0_placeAt := goodIn_r _ [4, 5, 6, 3, 7, 8, 9, 10] (by decide +kernel) (by decide +kernel)
set_option maxRecDepth 20000 in
theorem gX0_eightLetterAt_X0_placeAt : GoodIn wsX0_eightLetterAt (va_wsS RX0 53 yX0_placeAt wsX0_placeAt) := goodIn_app (goodIn_of _ (by decide +kernel)) ggX0_eightLetterAt_X0_placeAt
theorem dX0_eightLetterAt_0 : decode cX0_eightLetterAt 0 = .ok (.iload_n 0, 1) := by decide +kernel
theorem dX0_eightLetterAt_1 : decode cX0_eightLetterAt 1 = .ok (.invokestatic 53, 3) := by decide +kernel
theorem dX0_eightLetterAt_4 : decode cX0_eightLetterAt 4 = .ok (.iconst 1, 1) := by decide +kernel
theorem dX0_eightLetterAt_5 : decode cX0_eightLetterAt 5 = .ok (.isub, 1) := by decide +kernel
theorem dX0_eightLetterAt_6 : decode cX0_eightLetterAt 6 = .ok (.bipush 8, 2) := by decide +kernel
theorem dX0_eightLetterAt_8 : decode cX0_eightLetterAt 8 = .ok (.irem, 1) := by decide +kernel
theorem dX0_eightLetterAt_9 : decode cX0_eightLetterAt 9 = .ok (.ireturn, 1) := by decide +kernel
set_option maxRecDepth 20000 in
theorem ggX0_sevenLetterAt_X0_placeAt : GoodIn wsX0_sevenLetterAt wsX0_placeAt := goodIn_r _ [4, 5, 6, 3, 7, 8, 9, 10] (by decide +kernel) (by decide +kernel)
set_option maxRecDepth 20000 in
theorem gX0_sevenLetterAt_X0_placeAt : GoodIn wsX0_sevenLetterAt (va_wsS RX0 53 yX0_placeAt wsX0_placeAt) := goodIn_app (goodIn_of _ (by decide +kernel)) ggX0_sevenLetterAt_X0_placeAt
theorem dX0_sevenLetterAt_0 : decode cX0_sevenLetterAt 0 = .ok (.iload_n 0, 1) := by decide +kernel
theorem dX0_sevenLetterAt_1 : decode cX0_sevenLetterAt 1 = .ok (.invokestatic 53, 3) := by decide +kernel
theorem dX0_sevenLetterAt_4 : decode cX0_sevenLetterAt 4 = .ok (.iconst 1, 1) := by decide +kernel
theorem dX0_sevenLetterAt_5 : decode cX0_sevenLetterAt 5 = .ok (.isub, 1) := by decide +kernel
theorem dX0_sevenLetterAt_6 : decode cX0_sevenLetterAt 6 = .ok (.bipush 7, 2) := by decide +kernel
theorem dX0_sevenLetterAt_8 : decode cX0_sevenLetterAt 8 = .ok (.irem, 1) := by decide +kernel
theorem dX0_sevenLetterAt_9 : decode cX0_sevenLetterAt 9 = .ok (.ireturn, 1) := by decide +kernel
theorem dX0_isMarketAt_0 : decode cX0_isMarketAt 0 = .ok (.iload_n 1, 1) := by decide +kernel
theorem dX0_isMarketAt_1 : decode cX0_isMarketAt 1 = .ok (.bipush 8, 2) := by decide +kernel
theorem dX0_isMarketAt_3 : decode cX0_isMarketAt 3 = .ok (.irem, 1) := by decide +kernel
theorem dX0_isMarketAt_4 : decode cX0_isMarketAt 4 = .ok (.aload_n 0, 1) := by decide +kernel
theorem dX0_isMarketAt_5 : decode cX0_isMarketAt 5 = .ok (.getfield 19, 3) := by decide +kernel
theorem dX0_isMarketAt_8 : decode cX0_isMarketAt 8 = .ok (.if_icmp .ne 7, 3) := by decide +kernel
theorem dX0_isMarketAt_11 : decode cX0_isMarketAt 11 = .ok (.iconst 1, 1) := by decide +kernel
theorem dX0_isMarketAt_12 : decode cX0_isMarketAt 12 = .ok (.goto 4, 3) := by decide +kernel
theorem dX0_isMarketAt_15 : decode cX0_isMarketAt 15 = .ok (.iconst 0, 1) := by decide +kernel
theorem dX0_isMarketAt_16 : decode cX0_isMarketAt 16 = .ok (.ireturn, 1) := by decide +kernel
theorem dX0_isSlot_0 : decode cX0_isSlot 0 = .ok (.iload_n 0, 1) := by decide +kernel
theorem dX0_isSlot_1 : decode cX0_isSlot 1 = .ok (.ifCond .lt 13, 3) := by decide +kernel
theorem dX0_isSlot_4 : decode cX0_isSlot 4 = .ok (.iload_n 0, 1) := by decide +kernel
theorem dX0_isSlot_5 : decode cX0_isSlot 5 = .ok (.bipush 60, 2) := by decide +kernel
theorem dX0_isSlot_7 : decode cX0_isSlot 7 = .ok (.if_icmp .ge 7, 3) := by decide +kernel
theorem dX0_isSlot_10 : decode cX0_isSlot 10 = .ok (.iconst 1, 1) := by decide +kernel
theorem dX0_isSlot_11 : decode cX0_isSlot 11 = .ok (.goto 4, 3) := by decide +kernel
theorem dX0_isSlot_14 : decode cX0_isSlot 14 = .ok (.iconst 0, 1) := by decide +kernel
theorem dX0_isSlot_15 : decode cX0_isSlot 15 = .ok (.ireturn, 1) := by decide +kernel
theorem dX0_slotOf_0 : decode cX0_slotOf 0 = .ok (.iconst 0, 1) := by decide +kernel
theorem dX0_slotOf_1 : decode cX0_slotOf 1 = .ok (.istore_n 2, 1) := by decide +kernel
theorem dX0_slotOf_2 : decode cX0_slotOf 2 = .ok (.iload_n 2, 1) := by decide +kernel
theorem dX0_slotOf_3 : decode cX0_slotOf 3 = .ok (.bipush 60, 2) := by decide +kernel
theorem dX0_slotOf_5 : decode cX0_slotOf 5 = .ok (.if_icmp .ge 21, 3) := by decide +kernel
theorem dX0_slotOf_8 : decode cX0_slotOf 8 = .ok (.aload_n 0, 1) := by decide +kernel
theorem dX0_slotOf_9 : decode cX0_slotOf 9 = .ok (.getfield 13, 3) := by decide +kernel
theorem dX0_slotOf_12 : decode cX0_slotOf 12 = .ok (.iload_n 2, 1) := by decide +kernel
theorem dX0_slotOf_13 : decode cX0_slotOf 13 = .ok (.iaload, 1) := by decide +kernel
theorem dX0_slotOf_14 : decode cX0_slotOf 14 = .ok (.iload_n 1, 1) := by decide +kernel
theorem dX0_slotOf_15 : decode cX0_slotOf 15 = .ok (.if_icmp .ne 5, 3) := by decide +kernel
theorem dX0_slotOf_18 : decode cX0_slotOf 18 = .ok (.iload_n 2, 1) := by decide +kernel
theorem dX0_slotOf_19 : decode cX0_slotOf 19 = .ok (.ireturn, 1) := by decide +kernel
theorem dX0_slotOf_20 : decode cX0_slotOf 20 = .ok (.iinc 2 1, 3) := by decide +kernel
theorem dX0_slotOf_23 : decode cX0_slotOf 23 = .ok (.goto (-21), 3) := by decide +kernel
theorem dX0_slotOf_26 : decode cX0_slotOf 26 = .ok (.iconst (-1), 1) := by decide +kernel
theorem dX0_slotOf_27 : decode cX0_slotOf 27 = .ok (.ireturn, 1) := by decide +kernel
theorem dX0_countConsulYears_0 : decode cX0_countConsulYears 0 = .ok (.iconst 0, 1) := by decide +kernel
theorem dX0_countConsulYears_1 : decode cX0_countConsulYears 1 = .ok (.istore_n 1, 1) := by decide +kernel
theorem dX0_countConsulYears_2 : decode cX0_countConsulYears 2 = .ok (.iconst 0, 1) := by decide +kernel
theorem dX0_countConsulYears_3 : decode cX0_countConsulYears 3 = .ok (.istore_n 2, 1) := by decide +kernel
theorem dX0_countConsulYears_4 : decode cX0_countConsulYears 4 = .ok (.iload_n 2, 1) := by decide +kernel
theorem dX0_countConsulYears_5 : decode cX0_countConsulYears 5 = .ok (.bipush 60, 2) := by decide +kernel
theorem dX0_countConsulYears_7 : decode cX0_countConsulYears 7 = .ok (.if_icmp .ge 21, 3) := by decide +kernel
theorem dX0_countConsulYears_10 : decode cX0_countConsulYears 10 = .ok (.aload_n 0, 1) := by decide +kernel
theorem dX0_countConsulYears_11 : decode cX0_countConsulYears 11 = .ok (.getfield 13, 3) := by decide +kernel
theorem dX0_countConsulYears_14 : decode cX0_countConsulYears 14 = .ok (.iload_n 2, 1) := by decide +kernel
theorem dX0_countConsulYears_15 : decode cX0_countConsulYears 15 = .ok (.iaload, 1) := by decide +kernel
theorem dX0_countConsulYears_16 : decode cX0_countConsulYears 16 = .ok (.ifCond .eq 6, 3) := by decide +kernel
theorem dX0_countConsulYears_19 : decode cX0_countConsulYears 19 = .ok (.iinc 1 1, 3) := by decide +kernel
theorem dX0_countConsulYears_22 : decode cX0_countConsulYears 22 = .ok (.iinc 2 1, 3) := by decide +kernel
theorem dX0_countConsulYears_25 : decode cX0_countConsulYears 25 = .ok (.goto (-21), 3) := by decide +kernel
theorem dX0_countConsulYears_28 : decode cX0_countConsulYears 28 = .ok (.iload_n 1, 1) := by decide +kernel
theorem dX0_countConsulYears_29 : decode cX0_countConsulYears 29 = .ok (.ireturn, 1) := by decide +kernel
set_option maxRecDepth 20000 in
theorem ggX0_nextYearOfPair_X0_isPair : GoodIn wsX0_nextYearOfPair wsX0_isPair := goodIn_r _ [6] (by decide +kernel) (by decide +kernel)
set_option maxRecDepth 20000 in
theorem gX0_nextYearOfPair_X0_isPair : GoodIn wsX0_nextYearOfPair (va_wsS RX0 194 yX0_isPair wsX0_isPair) := goodIn_app (goodIn_of _ (by decide +kernel)) ggX0_nextYearOfPair_X0_isPair
theorem dX0_nextYearOfPair_0 : decode cX0_nextYearOfPair 0 = .ok (.iconst (-1), 1) := by decide +kernel
theorem dX0_nextYearOfPair_1 : decode cX0_nextYearOfPair 1 = .ok (.istore 4, 2) := by decide +kernel
theorem dX0_nextYearOfPair_3 : decode cX0_nextYearOfPair 3 = .ok (.iconst 0, 1) := by decide +kernel
theorem dX0_nextYearOfPair_4 : decode cX0_nextYearOfPair 4 = .ok (.istore 5, 2) := by decide +kernel
theorem dX0_nextYearOfPair_6 : decode cX0_nextYearOfPair 6 = .ok (.iload 5, 2) := by decide +kernel
theorem dX0_nextYearOfPair_8 : decode cX0_nextYearOfPair 8 = .ok (.bipush 60, 2) := by decide +kernel
theorem dX0_nextYearOfPair_10 : decode cX0_nextYearOfPair 10 = .ok (.if_icmp .ge 68, 3) := by decide +kernel
theorem dX0_nextYearOfPair_13 : decode cX0_nextYearOfPair 13 = .ok (.aload_n 0, 1) := by decide +kernel
theorem dX0_nextYearOfPair_14 : decode cX0_nextYearOfPair 14 = .ok (.getfield 13, 3) := by decide +kernel
theorem dX0_nextYearOfPair_17 : decode cX0_nextYearOfPair 17 = .ok (.iload 5, 2) := by decide +kernel
theorem dX0_nextYearOfPair_19 : decode cX0_nextYearOfPair 19 = .ok (.iaload, 1) := by decide +kernel
theorem dX0_nextYearOfPair_20 : decode cX0_nextYearOfPair 20 = .ok (.istore 6, 2) := by decide +kernel
theorem dX0_nextYearOfPair_22 : decode cX0_nextYearOfPair 22 = .ok (.iload 4, 2) := by decide +kernel
theorem dX0_nextYearOfPair_24 : decode cX0_nextYearOfPair 24 = .ok (.iconst (-1), 1) := by decide +kernel
theorem dX0_nextYearOfPair_25 : decode cX0_nextYearOfPair 25 = .ok (.if_icmp .eq 10, 3) := by decide +kernel
theorem dX0_nextYearOfPair_28 : decode cX0_nextYearOfPair 28 = .ok (.iload 6, 2) := by decide +kernel
theorem dX0_nextYearOfPair_30 : decode cX0_nextYearOfPair 30 = .ok (.iload 4, 2) := by decide +kernel
theorem dX0_nextYearOfPair_32 : decode cX0_nextYearOfPair 32 = .ok (.if_icmp .ge 7, 3) := by decide +kernel
theorem dX0_nextYearOfPair_35 : decode cX0_nextYearOfPair 35 = .ok (.iconst 1, 1) := by decide +kernel
theorem dX0_nextYearOfPair_36 : decode cX0_nextYearOfPair 36 = .ok (.goto 4, 3) := by decide +kernel
theorem dX0_nextYearOfPair_39 : decode cX0_nextYearOfPair 39 = .ok (.iconst 0, 1) := by decide +kernel
theorem dX0_nextYearOfPair_40 : decode cX0_nextYearOfPair 40 = .ok (.istore 7, 2) := by decide +kernel
theorem dX0_nextYearOfPair_42 : decode cX0_nextYearOfPair 42 = .ok (.iload 6, 2) := by decide +kernel
theorem dX0_nextYearOfPair_44 : decode cX0_nextYearOfPair 44 = .ok (.iload_n 3, 1) := by decide +kernel
theorem dX0_nextYearOfPair_45 : decode cX0_nextYearOfPair 45 = .ok (.if_icmp .le 27, 3) := by decide +kernel
theorem dX0_nextYearOfPair_48 : decode cX0_nextYearOfPair 48 = .ok (.iload 7, 2) := by decide +kernel
theorem dX0_nextYearOfPair_50 : decode cX0_nextYearOfPair 50 = .ok (.ifCond .eq 22, 3) := by decide +kernel
theorem dX0_nextYearOfPair_53 : decode cX0_nextYearOfPair 53 = .ok (.aload_n 0, 1) := by decide +kernel
theorem dX0_nextYearOfPair_54 : decode cX0_nextYearOfPair 54 = .ok (.getfield 16, 3) := by decide +kernel
theorem dX0_nextYearOfPair_57 : decode cX0_nextYearOfPair 57 = .ok (.iload 5, 2) := by decide +kernel
theorem dX0_nextYearOfPair_59 : decode cX0_nextYearOfPair 59 = .ok (.iaload, 1) := by decide +kernel
theorem dX0_nextYearOfPair_60 : decode cX0_nextYearOfPair 60 = .ok (.iload_n 1, 1) := by decide +kernel
theorem dX0_nextYearOfPair_61 : decode cX0_nextYearOfPair 61 = .ok (.iload_n 2, 1) := by decide +kernel
theorem dX0_nextYearOfPair_62 : decode cX0_nextYearOfPair 62 = .ok (.invokestatic 194, 3) := by decide +kernel
theorem dX0_nextYearOfPair_65 : decode cX0_nextYearOfPair 65 = .ok (.ifCond .eq 7, 3) := by decide +kernel
theorem dX0_nextYearOfPair_68 : decode cX0_nextYearOfPair 68 = .ok (.iload 6, 2) := by decide +kernel
theorem dX0_nextYearOfPair_70 : decode cX0_nextYearOfPair 70 = .ok (.istore 4, 2) := by decide +kernel
theorem dX0_nextYearOfPair_72 : decode cX0_nextYearOfPair 72 = .ok (.iinc 5 1, 3) := by decide +kernel
theorem dX0_nextYearOfPair_75 : decode cX0_nextYearOfPair 75 = .ok (.goto (-69), 3) := by decide +kernel
theorem dX0_nextYearOfPair_78 : decode cX0_nextYearOfPair 78 = .ok (.iload 4, 2) := by decide +kernel
theorem dX0_nextYearOfPair_80 : decode cX0_nextYearOfPair 80 = .ok (.ireturn, 1) := by decide +kernel
theorem dX0_isPair_0 : decode cX0_isPair 0 = .ok (.iload_n 0, 1) := by decide +kernel
theorem dX0_isPair_1 : decode cX0_isPair 1 = .ok (.sipush 1000, 3) := by decide +kernel
theorem dX0_isPair_4 : decode cX0_isPair 4 = .ok (.idiv, 1) := by decide +kernel
theorem dX0_isPair_5 : decode cX0_isPair 5 = .ok (.istore_n 3, 1) := by decide +kernel
theorem dX0_isPair_6 : decode cX0_isPair 6 = .ok (.iload_n 0, 1) := by decide +kernel
theorem dX0_isPair_7 : decode cX0_isPair 7 = .ok (.sipush 1000, 3) := by decide +kernel
theorem dX0_isPair_10 : decode cX0_isPair 10 = .ok (.irem, 1) := by decide +kernel
theorem dX0_isPair_11 : decode cX0_isPair 11 = .ok (.istore 4, 2) := by decide +kernel
theorem dX0_isPair_13 : decode cX0_isPair 13 = .ok (.iload_n 3, 1) := by decide +kernel
theorem dX0_isPair_14 : decode cX0_isPair 14 = .ok (.iload_n 1, 1) := by decide +kernel
theorem dX0_isPair_15 : decode cX0_isPair 15 = .ok (.if_icmp .ne 9, 3) := by decide +kernel
theorem dX0_isPair_18 : decode cX0_isPair 18 = .ok (.iload 4, 2) := by decide +kernel
theorem dX0_isPair_20 : decode cX0_isPair 20 = .ok (.iload_n 2, 1) := by decide +kernel
theorem dX0_isPair_21 : decode cX0_isPair 21 = .ok (.if_icmp .eq 14, 3) := by decide +kernel
theorem dX0_isPair_24 : decode cX0_isPair 24 = .ok (.iload_n 3, 1) := by decide +kernel
theorem dX0_isPair_25 : decode cX0_isPair 25 = .ok (.iload_n 2, 1) := by decide +kernel
theorem dX0_isPair_26 : decode cX0_isPair 26 = .ok (.if_icmp .ne 13, 3) := by decide +kernel
theorem dX0_isPair_29 : decode cX0_isPair 29 = .ok (.iload 4, 2) := by decide +kernel
theorem dX0_isPair_31 : decode cX0_isPair 31 = .ok (.iload_n 1, 1) := by decide +kernel
theorem dX0_isPair_32 : decode cX0_isPair 32 = .ok (.if_icmp .ne 7, 3) := by decide +kernel
theorem dX0_isPair_35 : decode cX0_isPair 35 = .ok (.iconst 1, 1) := by decide +kernel
theorem dX0_isPair_36 : decode cX0_isPair 36 = .ok (.goto 4, 3) := by decide +kernel
theorem dX0_isPair_39 : decode cX0_isPair 39 = .ok (.iconst 0, 1) := by decide +kernel
theorem dX0_isPair_40 : decode cX0_isPair 40 = .ok (.ireturn, 1) := by decide +kernel
set_option maxRecDepth 20000 in
theorem ggX0_readCharacter_X0_isPlace : GoodIn wsX0_readCharacter wsX0_isPlace := goodIn_r _ [5] (by decide +kernel) (by decide +kernel)
set_option maxRecDepth 20000 in
theorem gX0_readCharacter_X0_isPlace : GoodIn wsX0_readCharacter (va_wsS RX0 150 yX0_isPlace wsX0_isPlace) := goodIn_app (goodIn_of _ (by decide +kernel)) ggX0_readCharacter_X0_isPlace
theorem dX0_readCharacter_0 : decode cX0_readCharacter 0 = .ok (.iload_n 1, 1) := by decide +kernel
theorem dX0_readCharacter_1 : decode cX0_readCharacter 1 = .ok (.invokestatic 150, 3) := by decide +kernel
theorem dX0_readCharacter_4 : decode cX0_readCharacter 4 = .ok (.ifCond .eq 14, 3) := by decide +kernel
theorem dX0_readCharacter_7 : decode cX0_readCharacter 7 = .ok (.aload_n 0, 1) := by decide +kernel
theorem dX0_readCharacter_8 : decode cX0_readCharacter 8 = .ok (.getfield 9, 3) := by decide +kernel
theorem dX0_readCharacter_11 : decode cX0_readCharacter 11 = .ok (.iload_n 1, 1) := by decide +kernel
theorem dX0_readCharacter_12 : decode cX0_readCharacter 12 = .ok (.iconst 1, 1) := by decide +kernel
theorem dX0_readCharacter_13 : decode cX0_readCharacter 13 = .ok (.isub, 1) := by decide +kernel
theorem dX0_readCharacter_14 : decode cX0_readCharacter 14 = .ok (.iaload, 1) := by decide +kernel
theorem dX0_readCharacter_15 : decode cX0_readCharacter 15 = .ok (.goto 4, 3) := by decide +kernel
theorem dX0_readCharacter_18 : decode cX0_readCharacter 18 = .ok (.iconst (-1), 1) := by decide +kernel
theorem dX0_readCharacter_19 : decode cX0_readCharacter 19 = .ok (.ireturn, 1) := by decide +kernel
set_option maxRecDepth 20000 in
theorem ggX0_writeCharacter_X0_isPlace : GoodIn wsX0_writeCharacter wsX0_isPlace := goodIn_r _ [5] (by decide +kernel) (by decide +kernel)
set_option maxRecDepth 20000 in
theorem gX0_writeCharacter_X0_isPlace : GoodIn wsX0_writeCharacter (va_wsS RX0 150 yX0_isPlace wsX0_isPlace) := goodIn_app (goodIn_of _ (by decide +kernel)) ggX0_writeCharacter_X0_isPlace
theorem dX0_writeCharacter_0 : decode cX0_writeCharacter 0 = .ok (.iload_n 1, 1) := by decide +kernel
theorem dX0_writeCharacter_1 : decode cX0_writeCharacter 1 = .ok (.invokestatic 150, 3) := by decide +kernel
theorem dX0_writeCharacter_4 : decode cX0_writeCharacter 4 = .ok (.ifCond .eq 12, 3) := by decide +kernel
theorem dX0_writeCharacter_7 : decode cX0_writeCharacter 7 = .ok (.aload_n 0, 1) := by decide +kernel
theorem dX0_writeCharacter_8 : decode cX0_writeCharacter 8 = .ok (.getfield 9, 3) := by decide +kernel
theorem dX0_writeCharacter_11 : decode cX0_writeCharacter 11 = .ok (.iload_n 1, 1) := by decide +kernel
theorem dX0_writeCharacter_12 : decode cX0_writeCharacter 12 = .ok (.iconst 1, 1) := by decide +kernel
theorem dX0_writeCharacter_13 : decode cX0_writeCharacter 13 = .ok (.isub, 1) := by decide +kernel
theorem dX0_writeCharacter_14 : decode cX0_writeCharacter 14 = .ok (.iload_n 2, 1) := by decide +kernel
theorem dX0_writeCharacter_15 : decode cX0_writeCharacter 15 = .ok (.iastore, 1) := by decide +kernel
theorem dX0_writeCharacter_16 : decode cX0_writeCharacter 16 = .ok (.return_, 1) := by decide +kernel
set_option maxRecDepth 20000 in
theorem ggX0_isVotingDay_X0_placeAt : GoodIn wsX0_isVotingDay wsX0_placeAt := goodIn_r _ [4, 5, 6, 3, 7, 8, 9, 10] (by decide +kernel) (by decide +kernel)
set_option maxRecDepth 20000 in
theorem gX0_isVotingDay_X0_placeAt : GoodIn wsX0_isVotingDay (va_wsS RX0 53 yX0_placeAt wsX0_placeAt) := goodIn_app (goodIn_of _ (by decide +kernel)) ggX0_isVotingDay_X0_placeAt
set_option maxRecDepth 20000 in
theorem ggX0_isVotingDay_X0_readCharacter : GoodIn wsX0_isVotingDay wsX0_readCharacter := goodIn_r _ [14, 15, 16, 17, 3, 18, 24, 25, 26, 27] (by decide +kernel) (by decide +kernel)
set_option maxRecDepth 20000 in
theorem gX0_isVotingDay_X0_readCharacter : GoodIn wsX0_isVotingDay (wsV RX0 160 RX0 yX0_readCharacter wsX0_readCharacter) := goodIn_app (goodIn_of _ (by decide +kernel)) ggX0_isVotingDay_X0_readCharacter
set_option maxRecDepth 20000 in
theorem ggX0_isVotingDay_X0_isMarketAt : GoodIn wsX0_isVotingDay wsX0_isMarketAt := goodIn_r _ [22, 23, 24, 25, 26, 27] (by decide +kernel) (by decide +kernel)
set_option maxRecDepth 20000 in
theorem gX0_isVotingDay_X0_isMarketAt : GoodIn wsX0_isVotingDay (wsV RX0 114 RX0 yX0_isMarketAt wsX0_isMarketAt) := goodIn_app (goodIn_of _ (by decide +kernel)) ggX0_isVotingDay_X0_isMarketAt
theorem dX0_isVotingDay_0 : decode cX0_isVotingDay 0 = .ok (.aload_n 0, 1) := by decide +kernel
theorem dX0_isVotingDay_1 : decode cX0_isVotingDay 1 = .ok (.iload_n 1, 1) := by decide +kernel
theorem dX0_isVotingDay_2 : decode cX0_isVotingDay 2 = .ok (.invokestatic 53, 3) := by decide +kernel
theorem dX0_isVotingDay_5 : decode cX0_isVotingDay 5 = .ok (.invokevirtual 160, 3) := by decide +kernel
theorem dX0_isVotingDay_8 : decode cX0_isVotingDay 8 = .ok (.iconst 2, 1) := by decide +kernel
theorem dX0_isVotingDay_9 : decode cX0_isVotingDay 9 = .ok (.if_icmp .ne 15, 3) := by decide +kernel
theorem dX0_isVotingDay_12 : decode cX0_isVotingDay 12 = .ok (.aload_n 0, 1) := by decide +kernel
theorem dX0_isVotingDay_13 : decode cX0_isVotingDay 13 = .ok (.iload_n 1, 1) := by decide +kernel
theorem dX0_isVotingDay_14 : decode cX0_isVotingDay 14 = .ok (.invokevirtual 114, 3) := by decide +kernel
theorem dX0_isVotingDay_17 : decode cX0_isVotingDay 17 = .ok (.ifCond .ne 7, 3) := by decide +kernel
theorem dX0_isVotingDay_20 : decode cX0_isVotingDay 20 = .ok (.iconst 1, 1) := by decide +kernel
theorem dX0_isVotingDay_21 : decode cX0_isVotingDay 21 = .ok (.goto 4, 3) := by decide +kernel
theorem dX0_isVotingDay_24 : decode cX0_isVotingDay 24 = .ok (.iconst 0, 1) := by decide +kernel
theorem dX0_isVotingDay_25 : decode cX0_isVotingDay 25 = .ok (.ireturn, 1) := by decide +kernel
set_option maxRecDepth 20000 in
theorem ggX1_init_X1_splits : GoodIn wsX1_init wsX1_splits := goodIn_r _ [14, 15, 9, 8, 16, 17, 13, 18, 19, 20, 21, 22, 23, 24, 31, 32, 33, 34, 35, 36, 37, 38, 39] (by decide +kernel) (by decide +kernel)
set_option maxRecDepth 20000 in
theorem gX1_init_X1_splits : GoodIn wsX1_init (wsV RX1 19 RX1 yX1_splits wsX1_splits) := goodIn_app (goodIn_of _ (by decide +kernel)) ggX1_init_X1_splits
set_option maxRecDepth 20000 in
theorem ggX1_init_X1_nones : GoodIn wsX1_init wsX1_nones := goodIn_r _ [27] (by decide +kernel) (by decide +kernel)
set_option maxRecDepth 20000 in
theorem gX1_init_X1_nones : GoodIn wsX1_init (va_wsS RX1 30 yX1_nones wsX1_nones) := goodIn_app (goodIn_of _ (by decide +kernel)) ggX1_init_X1_nones
set_option maxRecDepth 20000 in
theorem ggX1_init_X1_ides : GoodIn wsX1_init wsX1_ides := goodIn_r _ [30, 25, 26, 13, 27] (by decide +kernel) (by decide +kernel)
set_option maxRecDepth 20000 in
theorem gX1_init_X1_ides : GoodIn wsX1_init (va_wsS RX1 34 yX1_ides wsX1_ides) := goodIn_app (goodIn_of _ (by decide +kernel)) ggX1_init_X1_ides
end
section
theorem dX1_init_0 : decode cX1_init 0 = .ok (.aload_n 0, 1) := by decide +kernel
theorem dX1_init_1 : decode cX1_init 1 = .ok (.invokespecial 1, 3) := by decide +kernel
theorem dX1_init_4 : decode cX1_init 4 = .ok (.aload_n 0, 1) := by decide +kernel
theorem dX1_init_5 : decode cX1_init 5 = .ok (.sipush 366, 3) := by decide +kernel
theorem dX1_init_8 : decode cX1_init 8 = .ok (.newarray .int, 2) := by decide +kernel
theorem dX1_init_10 : decode cX1_init 10 = .ok (.putfield 7, 3) := by decide +kernel
theorem dX1_init_13 : decode cX1_init 13 = .ok (.aload_n 0, 1) := by decide +kernel
theorem dX1_init_14 : decode cX1_init 14 = .ok (.sipush 3001, 3) := by decide +kernel
theorem dX1_init_17 : decode cX1_init 17 = .ok (.newarray .int, 2) := by decide +kernel
theorem dX1_init_19 : decode cX1_init 19 = .ok (.putfield 13, 3) := by decide +kernel
theorem dX1_init_22 : decode cX1_init 22 = .ok (.aload_n 0, 1) := by decide +kernel
theorem dX1_init_23 : decode cX1_init 23 = .ok (.sipush 3001, 3) := by decide +kernel
theorem dX1_init_26 : decode cX1_init 26 = .ok (.newarray .int, 2) := by decide +kernel
theorem dX1_init_28 : decode cX1_init 28 = .ok (.putfield 16, 3) := by decide +kernel
theorem dX1_init_31 : decode cX1_init 31 = .ok (.iconst 1, 1) := by decide +kernel
theorem dX1_init_32 : decode cX1_init 32 = .ok (.istore_n 1, 1) := by decide +kernel
theorem dX1_init_33 : decode cX1_init 33 = .ok (.iload_n 1, 1) := by decide +kernel
theorem dX1_init_34 : decode cX1_init 34 = .ok (.sipush 365, 3) := by decide +kernel
theorem dX1_init_37 : decode cX1_init 37 = .ok (.if_icmp .gt 73, 3) := by decide +kernel
theorem dX1_init_40 : decode cX1_init 40 = .ok (.aload_n 0, 1) := by decide +kernel
theorem dX1_init_41 : decode cX1_init 41 = .ok (.iload_n 1, 1) := by decide +kernel
theorem dX1_init_42 : decode cX1_init 42 = .ok (.iconst 1, 1) := by decide +kernel
theorem dX1_init_43 : decode cX1_init 43 = .ok (.isub, 1) := by decide +kernel
theorem dX1_init_44 : decode cX1_init 44 = .ok (.invokevirtual 19, 3) := by decide +kernel
theorem dX1_init_47 : decode cX1_init 47 = .ok (.aload_n 0, 1) := by decide +kernel
theorem dX1_init_48 : decode cX1_init 48 = .ok (.getfield 23, 3) := by decide +kernel
theorem dX1_init_51 : decode cX1_init 51 = .ok (.iconst 1, 1) := by decide +kernel
theorem dX1_init_52 : decode cX1_init 52 = .ok (.if_icmp .eq 31, 3) := by decide +kernel
theorem dX1_init_55 : decode cX1_init 55 = .ok (.aload_n 0, 1) := by decide +kernel
theorem dX1_init_56 : decode cX1_init 56 = .ok (.getfield 23, 3) := by decide +kernel
theorem dX1_init_59 : decode cX1_init 59 = .ok (.aload_n 0, 1) := by decide +kernel
theorem dX1_init_60 : decode cX1_init 60 = .ok (.getfield 27, 3) := by decide +kernel
theorem dX1_init_63 : decode cX1_init 63 = .ok (.invokestatic 30, 3) := by decide +kernel
theorem dX1_init_66 : decode cX1_init 66 = .ok (.if_icmp .eq 17, 3) := by decide +kernel
theorem dX1_init_69 : decode cX1_init 69 = .ok (.aload_n 0, 1) := by decide +kernel
theorem dX1_init_70 : decode cX1_init 70 = .ok (.getfield 23, 3) := by decide +kernel
theorem dX1_init_73 : decode cX1_init 73 = .ok (.aload_n 0, 1) := by decide +kernel
theorem dX1_init_74 : decode cX1_init 74 = .ok (.getfield 27, 3) := by decide +kernel
theorem dX1_init_77 : decode cX1_init 77 = .ok (.invokestatic 34, 3) := by decide +kernel
theorem dX1_init_80 : decode cX1_init 80 = .ok (.if_icmp .ne 7, 3) := by decide +kernel
theorem dX1_init_83 : decode cX1_init 83 = .ok (.iconst 1, 1) := by decide +kernel
theorem dX1_init_84 : decode cX1_init 84 = .ok (.goto 4, 3) := by decide +kernel
theorem dX1_init_87 : decode cX1_init 87 = .ok (.iconst 0, 1) := by decide +kernel
theorem dX1_init_88 : decode cX1_init 88 = .ok (.istore_n 2, 1) := by decide +kernel
theorem dX1_init_89 : decode cX1_init 89 = .ok (.aload_n 0, 1) := by decide +kernel
theorem dX1_init_90 : decode cX1_init 90 = .ok (.getfield 7, 3) := by decide +kernel
theorem dX1_init_93 : decode cX1_init 93 = .ok (.iload_n 1, 1) := by decide +kernel
theorem dX1_init_94 : decode cX1_init 94 = .ok (.iload_n 2, 1) := by decide +kernel
theorem dX1_init_95 : decode cX1_init 95 = .ok (.ifCond .eq 7, 3) := by decide +kernel
theorem dX1_init_98 : decode cX1_init 98 = .ok (.iconst 0, 1) := by decide +kernel
theorem dX1_init_99 : decode cX1_init 99 = .ok (.goto 4, 3) := by decide +kernel
theorem dX1_init_102 : decode cX1_init 102 = .ok (.iconst 2, 1) := by decide +kernel
theorem dX1_init_103 : decode cX1_init 103 = .ok (.iastore, 1) := by decide +kernel
theorem dX1_init_104 : decode cX1_init 104 = .ok (.iinc 1 1, 3) := by decide +kernel
theorem dX1_init_107 : decode cX1_init 107 = .ok (.goto (-74), 3) := by decide +kernel
theorem dX1_init_110 : decode cX1_init 110 = .ok (.return_, 1) := by decide +kernel
theorem dX1_thrown_0 : decode cX1_thrown 0 = .ok (.aload_n 0, 1) := by decide +kernel
theorem dX1_thrown_1 : decode cX1_thrown 1 = .ok (.getfield 37, 3) := by decide +kernel
theorem dX1_thrown_4 : decode cX1_thrown 4 = .ok (.ireturn, 1) := by decide +kernel
theorem dX1_isFine_0 : decode cX1_isFine 0 = .ok (.aload_n 0, 1) := by decide +kernel
theorem dX1_isFine_1 : decode cX1_isFine 1 = .ok (.iload_n 1, 1) := by decide +kernel
theorem dX1_isFine_2 : decode cX1_isFine 2 = .ok (.putfield 37, 3) := by decide +kernel
theorem dX1_isFine_5 : decode cX1_isFine 5 = .ok (.iload_n 1, 1) := by decide +kernel
theorem dX1_isFine_6 : decode cX1_isFine 6 = .ok (.ifCond .ne 7, 3) := by decide +kernel
theorem dX1_isFine_9 : decode cX1_isFine 9 = .ok (.iconst 1, 1) := by decide +kernel
theorem dX1_isFine_10 : decode cX1_isFine 10 = .ok (.goto 4, 3) := by decide +kernel
theorem dX1_isFine_13 : decode cX1_isFine 13 = .ok (.iconst 0, 1) := by decide +kernel
theorem dX1_isFine_14 : decode cX1_isFine 14 = .ok (.ireturn, 1) := by decide +kernel
theorem dX1_isIn_0 : decode cX1_isIn 0 = .ok (.iload_n 0, 1) := by decide +kernel
theorem dX1_isIn_1 : decode cX1_isIn 1 = .ok (.iload_n 1, 1) := by decide +kernel
theorem dX1_isIn_2 : decode cX1_isIn 2 = .ok (.if_icmp .lt 12, 3) := by decide +kernel
theorem dX1_isIn_5 : decode cX1_isIn 5 = .ok (.iload_n 0, 1) := by decide +kernel
theorem dX1_isIn_6 : decode cX1_isIn 6 = .ok (.iload_n 2, 1) := by decide +kernel
theorem dX1_isIn_7 : decode cX1_isIn 7 = .ok (.if_icmp .gt 7, 3) := by decide +kernel
theorem dX1_isIn_10 : decode cX1_isIn 10 = .ok (.iconst 1, 1) := by decide +kernel
theorem dX1_isIn_11 : decode cX1_isIn 11 = .ok (.goto 4, 3) := by decide +kernel
theorem dX1_isIn_14 : decode cX1_isIn 14 = .ok (.iconst 0, 1) := by decide +kernel
theorem dX1_isIn_15 : decode cX1_isIn 15 = .ok (.ireturn, 1) := by decide +kernel
set_option maxRecDepth 20000 in
theorem ggX1_isYear_X1_isIn : GoodIn wsX1_isYear wsX1_isIn := goodIn_r _ [4] (by decide +kernel) (by decide +kernel)
set_option maxRecDepth 20000 in
theorem gX1_isYear_X1_isIn : GoodIn wsX1_isYear (va_wsS RX1 40 yX1_isIn wsX1_isIn) := goodIn_app (goodIn_of _ (by decide +kernel)) ggX1_isYear_X1_isIn
theorem dX1_isYear_0 : decode cX1_isYear 0 = .ok (.iload_n 0, 1) := by decide +kernel
theorem dX1_isYear_1 : decode cX1_isYear 1 = .ok (.iconst 1, 1) := by decide +kernel
theorem dX1_isYear_2 : decode cX1_isYear 2 = .ok (.sipush 3000, 3) := by decide +kernel
theorem dX1_isYear_5 : decode cX1_isYear 5 = .ok (.invokestatic 40, 3) := by decide +kernel
theorem dX1_isYear_8 : decode cX1_isYear 8 = .ok (.ireturn, 1) := by decide +kernel
set_option maxRecDepth 20000 in
theorem ggX1_isDay_X1_isIn : GoodIn wsX1_isDay wsX1_isIn := goodIn_r _ [5] (by decide +kernel) (by decide +kernel)
set_option maxRecDepth 20000 in
theorem gX1_isDay_X1_isIn : GoodIn wsX1_isDay (va_wsS RX1 40 yX1_isIn wsX1_isIn) := goodIn_app (goodIn_of _ (by decide +kernel)) ggX1_isDay_X1_isIn
theorem dX1_isDay_0 : decode cX1_isDay 0 = .ok (.iload_n 0, 1) := by decide +kernel
theorem dX1_isDay_1 : decode cX1_isDay 1 = .ok (.iconst 0, 1) := by decide +kernel
theorem dX1_isDay_2 : decode cX1_isDay 2 = .ok (.ldc 44, 2) := by decide +kernel
theorem dX1_isDay_4 : decode cX1_isDay 4 = .ok (.invokestatic 40, 3) := by decide +kernel
theorem dX1_isDay_7 : decode cX1_isDay 7 = .ok (.ireturn, 1) := by decide +kernel
theorem dX1_isLeap_0 : decode cX1_isLeap 0 = .ok (.iload_n 0, 1) := by decide +kernel
theorem dX1_isLeap_1 : decode cX1_isLeap 1 = .ok (.iconst 4, 1) := by decide +kernel
theorem dX1_isLeap_2 : decode cX1_isLeap 2 = .ok (.irem, 1) := by decide +kernel
theorem dX1_isLeap_3 : decode cX1_isLeap 3 = .ok (.ifCond .ne 7, 3) := by decide +kernel
theorem dX1_isLeap_6 : decode cX1_isLeap 6 = .ok (.iconst 1, 1) := by decide +kernel
theorem dX1_isLeap_7 : decode cX1_isLeap 7 = .ok (.goto 4, 3) := by decide +kernel
theorem dX1_isLeap_10 : decode cX1_isLeap 10 = .ok (.iconst 0, 1) := by decide +kernel
theorem dX1_isLeap_11 : decode cX1_isLeap 11 = .ok (.ireturn, 1) := by decide +kernel
set_option maxRecDepth 20000 in
theorem ggX1_length_X1_isLeap : GoodIn wsX1_length wsX1_isLeap := goodIn_r _ [4] (by decide +kernel) (by decide +kernel)
set_option maxRecDepth 20000 in
theorem gX1_length_X1_isLeap : GoodIn wsX1_length (va_wsS RX1 45 yX1_isLeap wsX1_isLeap) := goodIn_app (goodIn_of _ (by decide +kernel)) ggX1_length_X1_isLeap
theorem dX1_length_0 : decode cX1_length 0 = .ok (.iload_n 1, 1) := by decide +kernel
theorem dX1_length_1 : decode cX1_length 1 = .ok (.iconst 2, 1) := by decide +kernel
theorem dX1_length_2 : decode cX1_length 2 = .ok (.if_icmp .ne 18, 3) := by decide +kernel
theorem dX1_length_5 : decode cX1_length 5 = .ok (.iload_n 0, 1) := by decide +kernel
theorem dX1_length_6 : decode cX1_length 6 = .ok (.invokestatic 45, 3) := by decide +kernel
theorem dX1_length_9 : decode cX1_length 9 = .ok (.ifCond .eq 8, 3) := by decide +kernel
theorem dX1_length_12 : decode cX1_length 12 = .ok (.bipush 29, 2) := by decide +kernel
theorem dX1_length_14 : decode cX1_length 14 = .ok (.goto 5, 3) := by decide +kernel
theorem dX1_length_17 : decode cX1_length 17 = .ok (.bipush 28, 2) := by decide +kernel
theorem dX1_length_19 : decode cX1_length 19 = .ok (.ireturn, 1) := by decide +kernel
theorem dX1_length_20 : decode cX1_length 20 = .ok (.iload_n 1, 1) := by decide +kernel
theorem dX1_length_21 : decode cX1_length 21 = .ok (.iconst 4, 1) := by decide +kernel
theorem dX1_length_22 : decode cX1_length 22 = .ok (.if_icmp .eq 21, 3) := by decide +kernel
theorem dX1_length_25 : decode cX1_length 25 = .ok (.iload_n 1, 1) := by decide +kernel
theorem dX1_length_26 : decode cX1_length 26 = .ok (.bipush 6, 2) := by decide +kernel
theorem dX1_length_28 : decode cX1_length 28 = .ok (.if_icmp .eq 15, 3) := by decide +kernel
theorem dX1_length_31 : decode cX1_length 31 = .ok (.iload_n 1, 1) := by decide +kernel
theorem dX1_length_32 : decode cX1_length 32 = .ok (.bipush 9, 2) := by decide +kernel
theorem dX1_length_34 : decode cX1_length 34 = .ok (.if_icmp .eq 9, 3) := by decide +kernel
theorem dX1_length_37 : decode cX1_length 37 = .ok (.iload_n 1, 1) := by decide +kernel
theorem dX1_length_38 : decode cX1_length 38 = .ok (.bipush 11, 2) := by decide +kernel
theorem dX1_length_40 : decode cX1_length 40 = .ok (.if_icmp .ne 8, 3) := by decide +kernel
theorem dX1_length_43 : decode cX1_length 43 = .ok (.bipush 30, 2) := by decide +kernel
theorem dX1_length_45 : decode cX1_length 45 = .ok (.goto 5, 3) := by decide +kernel
theorem dX1_length_48 : decode cX1_length 48 = .ok (.bipush 31, 2) := by decide +kernel
theorem dX1_length_50 : decode cX1_length 50 = .ok (.ireturn, 1) := by decide +kernel
theorem dX1_begin_0 : decode cX1_begin 0 = .ok (.sipush 365, 3) := by decide +kernel
theorem dX1_begin_3 : decode cX1_begin 3 = .ok (.iload_n 0, 1) := by decide +kernel
theorem dX1_begin_4 : decode cX1_begin 4 = .ok (.iconst 1, 1) := by decide +kernel
theorem dX1_begin_5 : decode cX1_begin 5 = .ok (.isub, 1) := by decide +kernel
theorem dX1_begin_6 : decode cX1_begin 6 = .ok (.imul, 1) := by decide +kernel
theorem dX1_begin_7 : decode cX1_begin 7 = .ok (.iload_n 0, 1) := by decide +kernel
theorem dX1_begin_8 : decode cX1_begin 8 = .ok (.iconst 1, 1) := by decide +kernel
theorem dX1_begin_9 : decode cX1_begin 9 = .ok (.isub, 1) := by decide +kernel
theorem dX1_begin_10 : decode cX1_begin 10 = .ok (.iconst 4, 1) := by decide +kernel
theorem dX1_begin_11 : decode cX1_begin 11 = .ok (.idiv, 1) := by decide +kernel
theorem dX1_begin_12 : decode cX1_begin 12 = .ok (.iadd, 1) := by decide +kernel
theorem dX1_begin_13 : decode cX1_begin 13 = .ok (.ireturn, 1) := by decide +kernel
set_option maxRecDepth 20000 in
theorem ggX1_numberFor_X1_begin : GoodIn wsX1_numberFor wsX1_begin := goodIn_r _ [4] (by decide +kernel) (by decide +kernel)
set_option maxRecDepth 20000 in
theorem gX1_numberFor_X1_begin : GoodIn wsX1_numberFor (va_wsS RX1 49 yX1_begin wsX1_begin) := goodIn_app (goodIn_of _ (by decide +kernel)) ggX1_numberFor_X1_begin
set_option maxRecDepth 20000 in
theorem ggX1_numberFor_X1_length : GoodIn wsX1_numberFor wsX1_length := goodIn_r _ [7, 8, 9, 3, 10] (by decide +kernel) (by decide +kernel)
set_option maxRecDepth 20000 in
theorem gX1_numberFor_X1_length : GoodIn wsX1_numberFor (va_wsS RX1 52 yX1_length wsX1_length) := goodIn_app (goodIn_of _ (by decide +kernel)) ggX1_numberFor_X1_length
theorem dX1_numberFor_0 : decode cX1_numberFor 0 = .ok (.iload_n 0, 1) := by decide +kernel
theorem dX1_numberFor_1 : decode cX1_numberFor 1 = .ok (.invokestatic 49, 3) := by decide +kernel
theorem dX1_numberFor_4 : decode cX1_numberFor 4 = .ok (.iload_n 2, 1) := by decide +kernel
theorem dX1_numberFor_5 : decode cX1_numberFor 5 = .ok (.iadd, 1) := by decide +kernel
theorem dX1_numberFor_6 : decode cX1_numberFor 6 = .ok (.iconst 1, 1) := by decide +kernel
theorem dX1_numberFor_7 : decode cX1_numberFor 7 = .ok (.isub, 1) := by decide +kernel
theorem dX1_numberFor_8 : decode cX1_numberFor 8 = .ok (.istore_n 3, 1) := by decide +kernel
theorem dX1_numberFor_9 : decode cX1_numberFor 9 = .ok (.iconst 1, 1) := by decide +kernel
theorem dX1_numberFor_10 : decode cX1_numberFor 10 = .ok (.istore 4, 2) := by decide +kernel
theorem dX1_numberFor_12 : decode cX1_numberFor 12 = .ok (.iload 4, 2) := by decide +kernel
theorem dX1_numberFor_14 : decode cX1_numberFor 14 = .ok (.iload_n 1, 1) := by decide +kernel
theorem dX1_numberFor_15 : decode cX1_numberFor 15 = .ok (.if_icmp .ge 18, 3) := by decide +kernel
theorem dX1_numberFor_18 : decode cX1_numberFor 18 = .ok (.iload_n 3, 1) := by decide +kernel
theorem dX1_numberFor_19 : decode cX1_numberFor 19 = .ok (.iload_n 0, 1) := by decide +kernel
theorem dX1_numberFor_20 : decode cX1_numberFor 20 = .ok (.iload 4, 2) := by decide +kernel
theorem dX1_numberFor_22 : decode cX1_numberFor 22 = .ok (.invokestatic 52, 3) := by decide +kernel
theorem dX1_numberFor_25 : decode cX1_numberFor 25 = .ok (.iadd, 1) := by decide +kernel
theorem dX1_numberFor_26 : decode cX1_numberFor 26 = .ok (.istore_n 3, 1) := by decide +kernel
theorem dX1_numberFor_27 : decode cX1_numberFor 27 = .ok (.iinc 4 1, 3) := by decide +kernel
theorem dX1_numberFor_30 : decode cX1_numberFor 30 = .ok (.goto (-18), 3) := by decide +kernel
theorem dX1_numberFor_33 : decode cX1_numberFor 33 = .ok (.iload_n 3, 1) := by decide +kernel
theorem dX1_numberFor_34 : decode cX1_numberFor 34 = .ok (.ireturn, 1) := by decide +kernel
set_option maxRecDepth 20000 in
theorem ggX1_splits_X1_begin : GoodIn wsX1_splits wsX1_begin := goodIn_r _ [7] (by decide +kernel) (by decide +kernel)
set_option maxRecDepth 20000 in
theorem gX1_splits_X1_begin : GoodIn wsX1_splits (va_wsS RX1 49 yX1_begin wsX1_begin) := goodIn_app (goodIn_of _ (by decide +kernel)) ggX1_splits_X1_begin
set_option maxRecDepth 20000 in
theorem ggX1_splits_X1_length : GoodIn wsX1_splits wsX1_length := goodIn_r _ [10, 11, 12, 6, 13] (by decide +kernel) (by decide +kernel)
set_option maxRecDepth 20000 in
theorem gX1_splits_X1_length : GoodIn wsX1_splits (va_wsS RX1 52 yX1_length wsX1_length) := goodIn_app (goodIn_of _ (by decide +kernel)) ggX1_splits_X1_length
theorem dX1_splits_0 : decode cX1_splits 0 = .ok (.iload_n 1, 1) := by decide +kernel
theorem dX1_splits_1 : decode cX1_splits 1 = .ok (.sipush 1461, 3) := by decide +kernel
theorem dX1_splits_4 : decode cX1_splits 4 = .ok (.irem, 1) := by decide +kernel
theorem dX1_splits_5 : decode cX1_splits 5 = .ok (.istore_n 2, 1) := by decide +kernel
theorem dX1_splits_6 : decode cX1_splits 6 = .ok (.aload_n 0, 1) := by decide +kernel
theorem dX1_splits_7 : decode cX1_splits 7 = .ok (.iconst 4, 1) := by decide +kernel
theorem dX1_splits_8 : decode cX1_splits 8 = .ok (.iload_n 1, 1) := by decide +kernel
theorem dX1_splits_9 : decode cX1_splits 9 = .ok (.sipush 1461, 3) := by decide +kernel
theorem dX1_splits_12 : decode cX1_splits 12 = .ok (.idiv, 1) := by decide +kernel
theorem dX1_splits_13 : decode cX1_splits 13 = .ok (.imul, 1) := by decide +kernel
theorem dX1_splits_14 : decode cX1_splits 14 = .ok (.iconst 1, 1) := by decide +kernel
theorem dX1_splits_15 : decode cX1_splits 15 = .ok (.iadd, 1) := by decide +kernel
theorem dX1_splits_16 : decode cX1_splits 16 = .ok (.iload_n 2, 1) := by decide +kernel
theorem dX1_splits_17 : decode cX1_splits 17 = .ok (.sipush 365, 3) := by decide +kernel
theorem dX1_splits_20 : decode cX1_splits 20 = .ok (.idiv, 1) := by decide +kernel
theorem dX1_splits_21 : decode cX1_splits 21 = .ok (.iconst 3, 1) := by decide +kernel
theorem dX1_splits_22 : decode cX1_splits 22 = .ok (.if_icmp .le 7, 3) := by decide +kernel
theorem dX1_splits_25 : decode cX1_splits 25 = .ok (.iconst 3, 1) := by decide +kernel
theorem dX1_splits_26 : decode cX1_splits 26 = .ok (.goto 8, 3) := by decide +kernel
theorem dX1_splits_29 : decode cX1_splits 29 = .ok (.iload_n 2, 1) := by decide +kernel
theorem dX1_splits_30 : decode cX1_splits 30 = .ok (.sipush 365, 3) := by decide +kernel
theorem dX1_splits_33 : decode cX1_splits 33 = .ok (.idiv, 1) := by decide +kernel
theorem dX1_splits_34 : decode cX1_splits 34 = .ok (.iadd, 1) := by decide +kernel
theorem dX1_splits_35 : decode cX1_splits 35 = .ok (.putfield 56, 3) := by decide +kernel
theorem dX1_splits_38 : decode cX1_splits 38 = .ok (.aload_n 0, 1) := by decide +kernel
theorem dX1_splits_39 : decode cX1_splits 39 = .ok (.iconst 1, 1) := by decide +kernel
theorem dX1_splits_40 : decode cX1_splits 40 = .ok (.putfield 27, 3) := by decide +kernel
theorem dX1_splits_43 : decode cX1_splits 43 = .ok (.aload_n 0, 1) := by decide +kernel
theorem dX1_splits_44 : decode cX1_splits 44 = .ok (.iload_n 1, 1) := by decide +kernel
theorem dX1_splits_45 : decode cX1_splits 45 = .ok (.aload_n 0, 1) := by decide +kernel
theorem dX1_splits_46 : decode cX1_splits 46 = .ok (.getfield 56, 3) := by decide +kernel
theorem dX1_splits_49 : decode cX1_splits 49 = .ok (.invokestatic 49, 3) := by decide +kernel
theorem dX1_splits_52 : decode cX1_splits 52 = .ok (.isub, 1) := by decide +kernel
theorem dX1_splits_53 : decode cX1_splits 53 = .ok (.iconst 1, 1) := by decide +kernel
theorem dX1_splits_54 : decode cX1_splits 54 = .ok (.iadd, 1) := by decide +kernel
theorem dX1_splits_55 : decode cX1_splits 55 = .ok (.putfield 23, 3) := by decide +kernel
theorem dX1_splits_58 : decode cX1_splits 58 = .ok (.aload_n 0, 1) := by decide +kernel
theorem dX1_splits_59 : decode cX1_splits 59 = .ok (.getfield 23, 3) := by decide +kernel
theorem dX1_splits_62 : decode cX1_splits 62 = .ok (.aload_n 0, 1) := by decide +kernel
theorem dX1_splits_63 : decode cX1_splits 63 = .ok (.getfield 56, 3) := by decide +kernel
theorem dX1_splits_66 : decode cX1_splits 66 = .ok (.aload_n 0, 1) := by decide +kernel
theorem dX1_splits_67 : decode cX1_splits 67 = .ok (.getfield 27, 3) := by decide +kernel
theorem dX1_splits_70 : decode cX1_splits 70 = .ok (.invokestatic 52, 3) := by decide +kernel
theorem dX1_splits_73 : decode cX1_splits 73 = .ok (.if_icmp .le 36, 3) := by decide +kernel
theorem dX1_splits_76 : decode cX1_splits 76 = .ok (.aload_n 0, 1) := by decide +kernel
theorem dX1_splits_77 : decode cX1_splits 77 = .ok (.dup, 1) := by decide +kernel
theorem dX1_splits_78 : decode cX1_splits 78 = .ok (.getfield 23, 3) := by decide +kernel
theorem dX1_splits_81 : decode cX1_splits 81 = .ok (.aload_n 0, 1) := by decide +kernel
theorem dX1_splits_82 : decode cX1_splits 82 = .ok (.getfield 56, 3) := by decide +kernel
theorem dX1_splits_85 : decode cX1_splits 85 = .ok (.aload_n 0, 1) := by decide +kernel
theorem dX1_splits_86 : decode cX1_splits 86 = .ok (.getfield 27, 3) := by decide +kernel
theorem dX1_splits_89 : decode cX1_splits 89 = .ok (.invokestatic 52, 3) := by decide +kernel
theorem dX1_splits_92 : decode cX1_splits 92 = .ok (.isub, 1) := by decide +kernel
theorem dX1_splits_93 : decode cX1_splits 93 = .ok (.putfield 23, 3) := by decide +kernel
theorem dX1_splits_96 : decode cX1_splits 96 = .ok (.aload_n 0, 1) := by decide +kernel
theorem dX1_splits_97 : decode cX1_splits 97 = .ok (.dup, 1) := by decide +kernel
theorem dX1_splits_98 : decode cX1_splits 98 = .ok (.getfield 27, 3) := by decide +kernel
theorem dX1_splits_101 : decode cX1_splits 101 = .ok (.iconst 1, 1) := by decide +kernel
theorem dX1_splits_102 : decode cX1_splits 102 = .ok (.iadd, 1) := by decide +kernel
theorem dX1_splits_103 : decode cX1_splits 103 = .ok (.putfield 27, 3) := by decide +kernel
theorem dX1_splits_106 : decode cX1_splits 106 = .ok (.goto (-48), 3) := by decide +kernel
theorem dX1_splits_109 : decode cX1_splits 109 = .ok (.return_, 1) := by decide +kernel
set_option maxRecDepth 20000 in
theorem ggX1_isAsked_X1_isDay : GoodIn wsX1_isAsked wsX1_isDay := goodIn_r _ [4, 5, 6, 7, 3, 8] (by decide +kernel) (by decide +kernel)
set_option maxRecDepth 20000 in
theorem gX1_isAsked_X1_isDay : GoodIn wsX1_isAsked (va_wsS RX1 59 yX1_isDay wsX1_isDay) := goodIn_app (goodIn_of _ (by decide +kernel)) ggX1_isAsked_X1_isDay
set_option maxRecDepth 20000 in
theorem ggX1_isAsked_X1_isFine : GoodIn wsX1_isAsked wsX1_isFine := goodIn_r _ [12, 13, 30, 31, 32, 33, 34, 35, 36, 37, 38] (by decide +kernel) (by decide +kernel)
set_option maxRecDepth 20000 in
theorem gX1_isAsked_X1_isFine : GoodIn wsX1_isAsked (wsV RX1 62 RX1 yX1_isFine wsX1_isFine) := goodIn_app (goodIn_of _ (by decide +kernel)) ggX1_isAsked_X1_isFine
set_option maxRecDepth 20000 in
theorem ggX1_isAsked_X1_splits : GoodIn wsX1_isAsked wsX1_splits := goodIn_r _ [17, 18, 19, 20, 21, 22, 3, 23, 24, 25, 26, 27, 28, 29, 30, 31, 32, 33, 34, 35, 36, 37, 38] (by decide +kernel) (by decide +kernel)
set_option maxRecDepth 20000 in
theorem gX1_isAsked_X1_splits : GoodIn wsX1_isAsked (wsV RX1 19 RX1 yX1_splits wsX1_splits) := goodIn_app (goodIn_of _ (by decide +kernel)) ggX1_isAsked_X1_splits
theorem dX1_isAsked_0 : decode cX1_isAsked 0 = .ok (.aload_n 0, 1) := by decide +kernel
theorem dX1_isAsked_1 : decode cX1_isAsked 1 = .ok (.iload_n 1, 1) := by decide +kernel
theorem dX1_isAsked_2 : decode cX1_isAsked 2 = .ok (.invokestatic 59, 3) := by decide +kernel
theorem dX1_isAsked_5 : decode cX1_isAsked 5 = .ok (.ifCond .eq 7, 3) := by decide +kernel
theorem dX1_isAsked_8 : decode cX1_isAsked 8 = .ok (.iconst 0, 1) := by decide +kernel
theorem dX1_isAsked_9 : decode cX1_isAsked 9 = .ok (.goto 4, 3) := by decide +kernel
theorem dX1_isAsked_12 : decode cX1_isAsked 12 = .ok (.iconst 1, 1) := by decide +kernel
theorem dX1_isAsked_13 : decode cX1_isAsked 13 = .ok (.invokevirtual 62, 3) := by decide +kernel
theorem dX1_isAsked_16 : decode cX1_isAsked 16 = .ok (.istore_n 2, 1) := by decide +kernel
theorem dX1_isAsked_17 : decode cX1_isAsked 17 = .ok (.iload_n 2, 1) := by decide +kernel
theorem dX1_isAsked_18 : decode cX1_isAsked 18 = .ok (.ifCond .eq 8, 3) := by decide +kernel
theorem dX1_isAsked_21 : decode cX1_isAsked 21 = .ok (.aload_n 0, 1) := by decide +kernel
theorem dX1_isAsked_22 : decode cX1_isAsked 22 = .ok (.iload_n 1, 1) := by decide +kernel
theorem dX1_isAsked_23 : decode cX1_isAsked 23 = .ok (.invokevirtual 19, 3) := by decide +kernel
theorem dX1_isAsked_26 : decode cX1_isAsked 26 = .ok (.iload_n 2, 1) := by decide +kernel
theorem dX1_isAsked_27 : decode cX1_isAsked 27 = .ok (.ireturn, 1) := by decide +kernel
theorem dX1_days_0 : decode cX1_days 0 = .ok (.aload_n 0, 1) := by decide +kernel
theorem dX1_days_1 : decode cX1_days 1 = .ok (.iconst 0, 1) := by decide +kernel
theorem dX1_days_2 : decode cX1_days 2 = .ok (.putfield 37, 3) := by decide +kernel
theorem dX1_days_5 : decode cX1_days 5 = .ok (.ldc 65, 2) := by decide +kernel
theorem dX1_days_7 : decode cX1_days 7 = .ok (.ireturn, 1) := by decide +kernel
set_option maxRecDepth 20000 in
theorem ggX1_number_X1_isYear : GoodIn wsX1_number wsX1_isYear := goodIn_r _ [4, 5, 6, 3, 7] (by decide +kernel) (by decide +kernel)
set_option maxRecDepth 20000 in
theorem gX1_number_X1_isYear : GoodIn wsX1_number (va_wsS RX1 66 yX1_isYear wsX1_isYear) := goodIn_app (goodIn_of _ (by decide +kernel)) ggX1_number_X1_isYear
set_option maxRecDepth 20000 in
theorem ggX1_number_X1_isIn : GoodIn wsX1_number wsX1_isIn := goodIn_r _ [7] (by decide +kernel) (by decide +kernel)
set_option maxRecDepth 20000 in
theorem gX1_number_X1_isIn : GoodIn wsX1_number (va_wsS RX1 40 yX1_isIn wsX1_isIn) := goodIn_app (goodIn_of _ (by decide +kernel)) ggX1_number_X1_isIn
set_option maxRecDepth 20000 in
theorem ggX1_number_X1_length : GoodIn wsX1_number wsX1_length := goodIn_r _ [10, 11, 12, 3, 13] (by decide +kernel) (by decide +kernel)
set_option maxRecDepth 20000 in
theorem gX1_number_X1_length : GoodIn wsX1_number (va_wsS RX1 52 yX1_length wsX1_length) := goodIn_app (goodIn_of _ (by decide +kernel)) ggX1_number_X1_length
set_option maxRecDepth 20000 in
theorem ggX1_number_X1_isFine : GoodIn wsX1_number wsX1_isFine := goodIn_r _ [17, 18, 25, 26, 27, 28, 29, 30, 31, 32, 33] (by decide +kernel) (by decide +kernel)
set_option maxRecDepth 20000 in
theorem gX1_number_X1_isFine : GoodIn wsX1_number (wsV RX1 62 RX1 yX1_isFine wsX1_isFine) := goodIn_app (goodIn_of _ (by decide +kernel)) ggX1_number_X1_isFine
set_option maxRecDepth 20000 in
theorem ggX1_number_X1_numberFor : GoodIn wsX1_number wsX1_numberFor := goodIn_r _ [21, 22, 23, 3, 24, 8, 9, 10, 11, 12, 13] (by decide +kernel) (by decide +kernel)
set_option maxRecDepth 20000 in
theorem gX1_number_X1_numberFor : GoodIn wsX1_number (va_wsS RX1 69 yX1_numberFor wsX1_numberFor) := goodIn_app (goodIn_of _ (by decide +kernel)) ggX1_number_X1_numberFor
theorem dX1_number_0 : decode cX1_number 0 = .ok (.iload_n 1, 1) := by decide +kernel
theorem dX1_number_1 : decode cX1_number 1 = .ok (.invokestatic 66, 3) := by decide +kernel
theorem dX1_number_4 : decode cX1_number 4 = .ok (.ifCond .eq 30, 3) := by decide +kernel
theorem dX1_number_7 : decode cX1_number 7 = .ok (.iload_n 2, 1) := by decide +kernel
theorem dX1_number_8 : decode cX1_number 8 = .ok (.iconst 1, 1) := by decide +kernel
theorem dX1_number_9 : decode cX1_number 9 = .ok (.bipush 12, 2) := by decide +kernel
theorem dX1_number_11 : decode cX1_number 11 = .ok (.invokestatic 40, 3) := by decide +kernel
theorem dX1_number_14 : decode cX1_number 14 = .ok (.ifCond .eq 20, 3) := by decide +kernel
theorem dX1_number_17 : decode cX1_number 17 = .ok (.iload_n 3, 1) := by decide +kernel
theorem dX1_number_18 : decode cX1_number 18 = .ok (.iconst 1, 1) := by decide +kernel
theorem dX1_number_19 : decode cX1_number 19 = .ok (.iload_n 1, 1) := by decide +kernel
theorem dX1_number_20 : decode cX1_number 20 = .ok (.iload_n 2, 1) := by decide +kernel
theorem dX1_number_21 : decode cX1_number 21 = .ok (.invokestatic 52, 3) := by decide +kernel
theorem dX1_number_24 : decode cX1_number 24 = .ok (.invokestatic 40, 3) := by decide +kernel
theorem dX1_number_27 : decode cX1_number 27 = .ok (.ifCond .eq 7, 3) := by decide +kernel
theorem dX1_number_30 : decode cX1_number 30 = .ok (.iconst 1, 1) := by decide +kernel
theorem dX1_number_31 : decode cX1_number 31 = .ok (.goto 4, 3) := by decide +kernel
theorem dX1_number_34 : decode cX1_number 34 = .ok (.iconst 0, 1) := by decide +kernel
theorem dX1_number_35 : decode cX1_number 35 = .ok (.istore 4, 2) := by decide +kernel
theorem dX1_number_37 : decode cX1_number 37 = .ok (.aload_n 0, 1) := by decide +kernel
theorem dX1_number_38 : decode cX1_number 38 = .ok (.iload 4, 2) := by decide +kernel
theorem dX1_number_40 : decode cX1_number 40 = .ok (.ifCond .eq 7, 3) := by decide +kernel
theorem dX1_number_43 : decode cX1_number 43 = .ok (.iconst 0, 1) := by decide +kernel
theorem dX1_number_44 : decode cX1_number 44 = .ok (.goto 4, 3) := by decide +kernel
theorem dX1_number_47 : decode cX1_number 47 = .ok (.iconst 1, 1) := by decide +kernel
theorem dX1_number_48 : decode cX1_number 48 = .ok (.invokevirtual 62, 3) := by decide +kernel
theorem dX1_number_51 : decode cX1_number 51 = .ok (.ifCond .eq 12, 3) := by decide +kernel
theorem dX1_number_54 : decode cX1_number 54 = .ok (.iload_n 1, 1) := by decide +kernel
theorem dX1_number_55 : decode cX1_number 55 = .ok (.iload_n 2, 1) := by decide +kernel
theorem dX1_number_56 : decode cX1_number 56 = .ok (.iload_n 3, 1) := by decide +kernel
theorem dX1_number_57 : decode cX1_number 57 = .ok (.invokestatic 69, 3) := by decide +kernel
theorem dX1_number_60 : decode cX1_number 60 = .ok (.goto 4, 3) := by decide +kernel
theorem dX1_number_63 : decode cX1_number 63 = .ok (.iconst 0, 1) := by decide +kernel
theorem dX1_number_64 : decode cX1_number 64 = .ok (.ireturn, 1) := by decide +kernel
set_option maxRecDepth 20000 in
theorem ggX1_numberByCounting_X1_number : GoodIn wsX1_numberByCounting wsX1_number := goodIn_r _ [5, 6, 7, 4, 8, 9, 10, 11, 12, 13, 14, 15, 16, 17, 18, 19, 20, 21, 22, 23, 24, 25, 26, 27, 28, 29, 30, 31, 32, 33, 34, 35, 36, 37] (by decide +kernel) (by decide +kernel)
set_option maxRecDepth 20000 in
theorem gX1_numberByCounting_X1_number : GoodIn wsX1_numberByCounting (wsV RX1 73 RX1 yX1_number wsX1_number) := goodIn_app (goodIn_of _ (by decide +kernel)) ggX1_numberByCounting_X1_number
theorem dX1_numberByCounting_0 : decode cX1_numberByCounting 0 = .ok (.aload_n 0, 1) := by decide +kernel
theorem dX1_numberByCounting_1 : decode cX1_numberByCounting 1 = .ok (.iload_n 1, 1) := by decide +kernel
theorem dX1_numberByCounting_2 : decode cX1_numberByCounting 2 = .ok (.iload_n 2, 1) := by decide +kernel
theorem dX1_numberByCounting_3 : decode cX1_numberByCounting 3 = .ok (.iload_n 3, 1) := by decide +kernel
theorem dX1_numberByCounting_4 : decode cX1_numberByCounting 4 = .ok (.invokevirtual 73, 3) := by decide +kernel
theorem dX1_numberByCounting_7 : decode cX1_numberByCounting 7 = .ok (.ireturn, 1) := by decide +kernel
set_option maxRecDepth 20000 in
theorem ggX1_yearOf_X1_isAsked : GoodIn wsX1_yearOf wsX1_isAsked := goodIn_r _ [6, 7, 8, 5, 9, 10, 11, 12, 13, 14, 15, 16, 17, 18, 19, 20, 21, 22, 1, 23, 24, 25, 26, 27, 28, 29, 30, 31, 32, 33, 34, 35, 36, 37, 38, 39, 40, 41, 42] (by decide +kernel) (by decide +kernel)
set_option maxRecDepth 20000 in
theorem gX1_yearOf_X1_isAsked : GoodIn wsX1_yearOf (wsV RX1 76 RX1 yX1_isAsked wsX1_isAsked) := goodIn_app (goodIn_of _ (by decide +kernel)) ggX1_yearOf_X1_isAsked
theorem dX1_yearOf_0 : decode cX1_yearOf 0 = .ok (.aload_n 0, 1) := by decide +kernel
theorem dX1_yearOf_1 : decode cX1_yearOf 1 = .ok (.iload_n 1, 1) := by decide +kernel
theorem dX1_yearOf_2 : decode cX1_yearOf 2 = .ok (.invokevirtual 76, 3) := by decide +kernel
theorem dX1_yearOf_5 : decode cX1_yearOf 5 = .ok (.ifCond .eq 10, 3) := by decide +kernel
theorem dX1_yearOf_8 : decode cX1_yearOf 8 = .ok (.aload_n 0, 1) := by decide +kernel
theorem dX1_yearOf_9 : decode cX1_yearOf 9 = .ok (.getfield 56, 3) := by decide +kernel
theorem dX1_yearOf_12 : decode cX1_yearOf 12 = .ok (.goto 4, 3) := by decide +kernel
theorem dX1_yearOf_15 : decode cX1_yearOf 15 = .ok (.iconst 0, 1) := by decide +kernel
theorem dX1_yearOf_16 : decode cX1_yearOf 16 = .ok (.ireturn, 1) := by decide +kernel
set_option maxRecDepth 20000 in
theorem ggX1_monthOf_X1_isAsked : GoodIn wsX1_monthOf wsX1_isAsked := goodIn_r _ [6, 7, 8, 5, 9, 10, 11, 12, 13, 14, 15, 16, 17, 18, 19, 20, 21, 22, 23, 1, 24, 25, 26, 27, 28, 29, 30, 31, 32, 33, 34, 35, 36, 37, 38, 39, 40, 41, 42] (by decide +kernel) (by decide +kernel)
set_option maxRecDepth 20000 in
theorem gX1_monthOf_X1_isAsked : GoodIn wsX1_monthOf (wsV RX1 76 RX1 yX1_isAsked wsX1_isAsked) := goodIn_app (goodIn_of _ (by decide +kernel)) ggX1_monthOf_X1_isAsked
theorem dX1_monthOf_0 : decode cX1_monthOf 0 = .ok (.aload_n 0, 1) := by decide +kernel
theorem dX1_monthOf_1 : decode cX1_monthOf 1 = .ok (.iload_n 1, 1) := by decide +kernel
theorem dX1_monthOf_2 : decode cX1_monthOf 2 = .ok (.invokevirtual 76, 3) := by decide +kernel
theorem dX1_monthOf_5 : decode cX1_monthOf 5 = .ok (.ifCond .eq 10, 3) := by decide +kernel
theorem dX1_monthOf_8 : decode cX1_monthOf 8 = .ok (.aload_n 0, 1) := by decide +kernel
theorem dX1_monthOf_9 : decode cX1_monthOf 9 = .ok (.getfield 27, 3) := by decide +kernel
theorem dX1_monthOf_12 : decode cX1_monthOf 12 = .ok (.goto 4, 3) := by decide +kernel
theorem dX1_monthOf_15 : decode cX1_monthOf 15 = .ok (.iconst 0, 1) := by decide +kernel
theorem dX1_monthOf_16 : decode cX1_monthOf 16 = .ok (.ireturn, 1) := by decide +kernel
set_option maxRecDepth 20000 in
theorem ggX1_dayOf_X1_isAsked : GoodIn wsX1_dayOf wsX1_isAsked := goodIn_r _ [6, 7, 8, 5, 9, 10, 11, 12, 13, 14, 15, 16, 17, 18, 19, 20, 21, 22, 23, 24, 1, 25, 26, 27, 28, 29, 30, 31, 32, 33, 34, 35, 36, 37, 38, 39, 40, 41, 42] (by decide +kernel) (by decide +kernel)
set_option maxRecDepth 20000 in
theorem gX1_dayOf_X1_isAsked : GoodIn wsX1_dayOf (wsV RX1 76 RX1 yX1_isAsked wsX1_isAsked) := goodIn_app (goodIn_of _ (by decide +kernel)) ggX1_dayOf_X1_isAsked
theorem dX1_dayOf_0 : decode cX1_dayOf 0 = .ok (.aload_n 0, 1) := by decide +kernel
theorem dX1_dayOf_1 : decode cX1_dayOf 1 = .ok (.iload_n 1, 1) := by decide +kernel
theorem dX1_dayOf_2 : decode cX1_dayOf 2 = .ok (.invokevirtual 76, 3) := by decide +kernel
theorem dX1_dayOf_5 : decode cX1_dayOf 5 = .ok (.ifCond .eq 10, 3) := by decide +kernel
theorem dX1_dayOf_8 : decode cX1_dayOf 8 = .ok (.aload_n 0, 1) := by decide +kernel
theorem dX1_dayOf_9 : decode cX1_dayOf 9 = .ok (.getfield 23, 3) := by decide +kernel
theorem dX1_dayOf_12 : decode cX1_dayOf 12 = .ok (.goto 4, 3) := by decide +kernel
theorem dX1_dayOf_15 : decode cX1_dayOf 15 = .ok (.iconst 0, 1) := by decide +kernel
theorem dX1_dayOf_16 : decode cX1_dayOf 16 = .ok (.ireturn, 1) := by decide +kernel
set_option maxRecDepth 20000 in
theorem ggX1_weekdayOf_X1_isDay : GoodIn wsX1_weekdayOf wsX1_isDay := goodIn_r _ [4, 5, 6, 7, 3, 8] (by decide +kernel) (by decide +kernel)
set_option maxRecDepth 20000 in
theorem gX1_weekdayOf_X1_isDay : GoodIn wsX1_weekdayOf (va_wsS RX1 59 yX1_isDay wsX1_isDay) := goodIn_app (goodIn_of _ (by decide +kernel)) ggX1_weekdayOf_X1_isDay
set_option maxRecDepth 20000 in
theorem ggX1_weekdayOf_X1_isFine : GoodIn wsX1_weekdayOf wsX1_isFine := goodIn_r _ [12, 13, 14, 15, 16, 17, 18, 19, 20, 21, 22] (by decide +kernel) (by decide +kernel)
set_option maxRecDepth 20000 in
theorem gX1_weekdayOf_X1_isFine : GoodIn wsX1_weekdayOf (wsV RX1 62 RX1 yX1_isFine wsX1_isFine) := goodIn_app (goodIn_of _ (by decide +kernel)) ggX1_weekdayOf_X1_isFine
theorem dX1_weekdayOf_0 : decode cX1_weekdayOf 0 = .ok (.aload_n 0, 1) := by decide +kernel
theorem dX1_weekdayOf_1 : decode cX1_weekdayOf 1 = .ok (.iload_n 1, 1) := by decide +kernel
theorem dX1_weekdayOf_2 : decode cX1_weekdayOf 2 = .ok (.invokestatic 59, 3) := by decide +kernel
theorem dX1_weekdayOf_5 : decode cX1_weekdayOf 5 = .ok (.ifCond .eq 7, 3) := by decide +kernel
theorem dX1_weekdayOf_8 : decode cX1_weekdayOf 8 = .ok (.iconst 0, 1) := by decide +kernel
theorem dX1_weekdayOf_9 : decode cX1_weekdayOf 9 = .ok (.goto 4, 3) := by decide +kernel
theorem dX1_weekdayOf_12 : decode cX1_weekdayOf 12 = .ok (.iconst 1, 1) := by decide +kernel
theorem dX1_weekdayOf_13 : decode cX1_weekdayOf 13 = .ok (.invokevirtual 62, 3) := by decide +kernel
theorem dX1_weekdayOf_16 : decode cX1_weekdayOf 16 = .ok (.ifCond .eq 13, 3) := by decide +kernel
theorem dX1_weekdayOf_19 : decode cX1_weekdayOf 19 = .ok (.iload_n 1, 1) := by decide +kernel
theorem dX1_weekdayOf_20 : decode cX1_weekdayOf 20 = .ok (.bipush 6, 2) := by decide +kernel
theorem dX1_weekdayOf_22 : decode cX1_weekdayOf 22 = .ok (.iadd, 1) := by decide +kernel
theorem dX1_weekdayOf_23 : decode cX1_weekdayOf 23 = .ok (.bipush 7, 2) := by decide +kernel
theorem dX1_weekdayOf_25 : decode cX1_weekdayOf 25 = .ok (.irem, 1) := by decide +kernel
theorem dX1_weekdayOf_26 : decode cX1_weekdayOf 26 = .ok (.goto 4, 3) := by decide +kernel
theorem dX1_weekdayOf_29 : decode cX1_weekdayOf 29 = .ok (.iconst 0, 1) := by decide +kernel
theorem dX1_weekdayOf_30 : decode cX1_weekdayOf 30 = .ok (.ireturn, 1) := by decide +kernel
theorem dX1_nones_0 : decode cX1_nones 0 = .ok (.iload_n 0, 1) := by decide +kernel
theorem dX1_nones_1 : decode cX1_nones 1 = .ok (.iconst 3, 1) := by decide +kernel
theorem dX1_nones_2 : decode cX1_nones 2 = .ok (.if_icmp .eq 20, 3) := by decide +kernel
theorem dX1_nones_5 : decode cX1_nones 5 = .ok (.iload_n 0, 1) := by decide +kernel
theorem dX1_nones_6 : decode cX1_nones 6 = .ok (.iconst 5, 1) := by decide +kernel
theorem dX1_nones_7 : decode cX1_nones 7 = .ok (.if_icmp .eq 15, 3) := by decide +kernel
theorem dX1_nones_10 : decode cX1_nones 10 = .ok (.iload_n 0, 1) := by decide +kernel
theorem dX1_nones_11 : decode cX1_nones 11 = .ok (.bipush 7, 2) := by decide +kernel
theorem dX1_nones_13 : decode cX1_nones 13 = .ok (.if_icmp .eq 9, 3) := by decide +kernel
theorem dX1_nones_16 : decode cX1_nones 16 = .ok (.iload_n 0, 1) := by decide +kernel
theorem dX1_nones_17 : decode cX1_nones 17 = .ok (.bipush 10, 2) := by decide +kernel
theorem dX1_nones_19 : decode cX1_nones 19 = .ok (.if_icmp .ne 8, 3) := by decide +kernel
theorem dX1_nones_22 : decode cX1_nones 22 = .ok (.bipush 7, 2) := by decide +kernel
theorem dX1_nones_24 : decode cX1_nones 24 = .ok (.goto 4, 3) := by decide +kernel
theorem dX1_nones_27 : decode cX1_nones 27 = .ok (.iconst 5, 1) := by decide +kernel
theorem dX1_nones_28 : decode cX1_nones 28 = .ok (.ireturn, 1) := by decide +kernel
set_option maxRecDepth 20000 in
theorem ggX1_ides_X1_nones : GoodIn wsX1_ides wsX1_nones := goodIn_r _ [4] (by decide +kernel) (by decide +kernel)
set_option maxRecDepth 20000 in
theorem gX1_ides_X1_nones : GoodIn wsX1_ides (va_wsS RX1 30 yX1_nones wsX1_nones) := goodIn_app (goodIn_of _ (by decide +kernel)) ggX1_ides_X1_nones
theorem dX1_ides_0 : decode cX1_ides 0 = .ok (.iload_n 0, 1) := by decide +kernel
theorem dX1_ides_1 : decode cX1_ides 1 = .ok (.invokestatic 30, 3) := by decide +kernel
theorem dX1_ides_4 : decode cX1_ides 4 = .ok (.bipush 8, 2) := by decide +kernel
theorem dX1_ides_6 : decode cX1_ides 6 = .ok (.iadd, 1) := by decide +kernel
theorem dX1_ides_7 : decode cX1_ides 7 = .ok (.ireturn, 1) := by decide +kernel
set_option maxRecDepth 20000 in
theorem ggX1_isDoubledNow_X1_isLeap : GoodIn wsX1_isDoubledNow wsX1_isLeap := goodIn_r _ [7] (by decide +kernel) (by decide +kernel)
set_option maxRecDepth 20000 in
theorem gX1_isDoubledNow_X1_isLeap : GoodIn wsX1_isDoubledNow (va_wsS RX1 45 yX1_isLeap wsX1_isLeap) := goodIn_app (goodIn_of _ (by decide +kernel)) ggX1_isDoubledNow_X1_isLeap
theorem dX1_isDoubledNow_0 : decode cX1_isDoubledNow 0 = .ok (.aload_n 0, 1) := by decide +kernel
theorem dX1_isDoubledNow_1 : decode cX1_isDoubledNow 1 = .ok (.getfield 56, 3) := by decide +kernel
theorem dX1_isDoubledNow_4 : decode cX1_isDoubledNow 4 = .ok (.invokestatic 45, 3) := by decide +kernel
theorem dX1_isDoubledNow_7 : decode cX1_isDoubledNow 7 = .ok (.ifCond .eq 24, 3) := by decide +kernel
theorem dX1_isDoubledNow_10 : decode cX1_isDoubledNow 10 = .ok (.aload_n 0, 1) := by decide +kernel
theorem dX1_isDoubledNow_11 : decode cX1_isDoubledNow 11 = .ok (.getfield 27, 3) := by decide +kernel
theorem dX1_isDoubledNow_14 : decode cX1_isDoubledNow 14 = .ok (.iconst 2, 1) := by decide +kernel
theorem dX1_isDoubledNow_15 : decode cX1_isDoubledNow 15 = .ok (.if_icmp .ne 16, 3) := by decide +kernel
theorem dX1_isDoubledNow_18 : decode cX1_isDoubledNow 18 = .ok (.aload_n 0, 1) := by decide +kernel
theorem dX1_isDoubledNow_19 : decode cX1_isDoubledNow 19 = .ok (.getfield 23, 3) := by decide +kernel
theorem dX1_isDoubledNow_22 : decode cX1_isDoubledNow 22 = .ok (.bipush 24, 2) := by decide +kernel
theorem dX1_isDoubledNow_24 : decode cX1_isDoubledNow 24 = .ok (.if_icmp .ne 7, 3) := by decide +kernel
theorem dX1_isDoubledNow_27 : decode cX1_isDoubledNow 27 = .ok (.iconst 1, 1) := by decide +kernel
theorem dX1_isDoubledNow_28 : decode cX1_isDoubledNow 28 = .ok (.goto 4, 3) := by decide +kernel
theorem dX1_isDoubledNow_31 : decode cX1_isDoubledNow 31 = .ok (.iconst 0, 1) := by decide +kernel
theorem dX1_isDoubledNow_32 : decode cX1_isDoubledNow 32 = .ok (.ireturn, 1) := by decide +kernel
set_option maxRecDepth 20000 in
theorem ggX1_anchorNow_X1_ides : GoodIn wsX1_anchorNow wsX1_ides := goodIn_r _ [6, 7, 8, 5, 9] (by decide +kernel) (by decide +kernel)
set_option maxRecDepth 20000 in
theorem gX1_anchorNow_X1_ides : GoodIn wsX1_anchorNow (va_wsS RX1 34 yX1_ides wsX1_ides) := goodIn_app (goodIn_of _ (by decide +kernel)) ggX1_anchorNow_X1_ides
set_option maxRecDepth 20000 in
theorem ggX1_anchorNow_X1_nones : GoodIn wsX1_anchorNow wsX1_nones := goodIn_r _ [9] (by decide +kernel) (by decide +kernel)
set_option maxRecDepth 20000 in
theorem gX1_anchorNow_X1_nones : GoodIn wsX1_anchorNow (va_wsS RX1 30 yX1_nones wsX1_nones) := goodIn_app (goodIn_of _ (by decide +kernel)) ggX1_anchorNow_X1_nones
theorem dX1_anchorNow_0 : decode cX1_anchorNow 0 = .ok (.aload_n 0, 1) := by decide +kernel
theorem dX1_anchorNow_1 : decode cX1_anchorNow 1 = .ok (.getfield 23, 3) := by decide +kernel
theorem dX1_anchorNow_4 : decode cX1_anchorNow 4 = .ok (.iconst 1, 1) := by decide +kernel
theorem dX1_anchorNow_5 : decode cX1_anchorNow 5 = .ok (.if_icmp .eq 17, 3) := by decide +kernel
theorem dX1_anchorNow_8 : decode cX1_anchorNow 8 = .ok (.aload_n 0, 1) := by decide +kernel
theorem dX1_anchorNow_9 : decode cX1_anchorNow 9 = .ok (.getfield 23, 3) := by decide +kernel
theorem dX1_anchorNow_12 : decode cX1_anchorNow 12 = .ok (.aload_n 0, 1) := by decide +kernel
theorem dX1_anchorNow_13 : decode cX1_anchorNow 13 = .ok (.getfield 27, 3) := by decide +kernel
theorem dX1_anchorNow_16 : decode cX1_anchorNow 16 = .ok (.invokestatic 34, 3) := by decide +kernel
theorem dX1_anchorNow_19 : decode cX1_anchorNow 19 = .ok (.if_icmp .le 7, 3) := by decide +kernel
theorem dX1_anchorNow_22 : decode cX1_anchorNow 22 = .ok (.iconst 0, 1) := by decide +kernel
theorem dX1_anchorNow_23 : decode cX1_anchorNow 23 = .ok (.goto 22, 3) := by decide +kernel
theorem dX1_anchorNow_26 : decode cX1_anchorNow 26 = .ok (.aload_n 0, 1) := by decide +kernel
theorem dX1_anchorNow_27 : decode cX1_anchorNow 27 = .ok (.getfield 23, 3) := by decide +kernel
theorem dX1_anchorNow_30 : decode cX1_anchorNow 30 = .ok (.aload_n 0, 1) := by decide +kernel
theorem dX1_anchorNow_31 : decode cX1_anchorNow 31 = .ok (.getfield 27, 3) := by decide +kernel
theorem dX1_anchorNow_34 : decode cX1_anchorNow 34 = .ok (.invokestatic 30, 3) := by decide +kernel
theorem dX1_anchorNow_37 : decode cX1_anchorNow 37 = .ok (.if_icmp .gt 7, 3) := by decide +kernel
theorem dX1_anchorNow_40 : decode cX1_anchorNow 40 = .ok (.iconst 1, 1) := by decide +kernel
theorem dX1_anchorNow_41 : decode cX1_anchorNow 41 = .ok (.goto 4, 3) := by decide +kernel
theorem dX1_anchorNow_44 : decode cX1_anchorNow 44 = .ok (.iconst 2, 1) := by decide +kernel
theorem dX1_anchorNow_45 : decode cX1_anchorNow 45 = .ok (.ireturn, 1) := by decide +kernel
set_option maxRecDepth 20000 in
theorem ggX1_anchorMonthNow_X1_ides : GoodIn wsX1_anchorMonthNow wsX1_ides := goodIn_r _ [6, 7, 8, 5, 9] (by decide +kernel) (by decide +kernel)
set_option maxRecDepth 20000 in
theorem gX1_anchorMonthNow_X1_ides : GoodIn wsX1_anchorMonthNow (va_wsS RX1 34 yX1_ides wsX1_ides) := goodIn_app (goodIn_of _ (by decide +kernel)) ggX1_anchorMonthNow_X1_ides
theorem dX1_anchorMonthNow_0 : decode cX1_anchorMonthNow 0 = .ok (.aload_n 0, 1) := by decide +kernel
theorem dX1_anchorMonthNow_1 : decode cX1_anchorMonthNow 1 = .ok (.getfield 23, 3) := by decide +kernel
theorem dX1_anchorMonthNow_4 : decode cX1_anchorMonthNow 4 = .ok (.aload_n 0, 1) := by decide +kernel
theorem dX1_anchorMonthNow_5 : decode cX1_anchorMonthNow 5 = .ok (.getfield 27, 3) := by decide +kernel
theorem dX1_anchorMonthNow_8 : decode cX1_anchorMonthNow 8 = .ok (.invokestatic 34, 3) := by decide +kernel
theorem dX1_anchorMonthNow_11 : decode cX1_anchorMonthNow 11 = .ok (.if_icmp .le 15, 3) := by decide +kernel
theorem dX1_anchorMonthNow_14 : decode cX1_anchorMonthNow 14 = .ok (.aload_n 0, 1) := by decide +kernel
theorem dX1_anchorMonthNow_15 : decode cX1_anchorMonthNow 15 = .ok (.getfield 27, 3) := by decide +kernel
theorem dX1_anchorMonthNow_18 : decode cX1_anchorMonthNow 18 = .ok (.bipush 12, 2) := by decide +kernel
theorem dX1_anchorMonthNow_20 : decode cX1_anchorMonthNow 20 = .ok (.irem, 1) := by decide +kernel
theorem dX1_anchorMonthNow_21 : decode cX1_anchorMonthNow 21 = .ok (.iconst 1, 1) := by decide +kernel
theorem dX1_anchorMonthNow_22 : decode cX1_anchorMonthNow 22 = .ok (.iadd, 1) := by decide +kernel
theorem dX1_anchorMonthNow_23 : decode cX1_anchorMonthNow 23 = .ok (.goto 7, 3) := by decide +kernel
theorem dX1_anchorMonthNow_26 : decode cX1_anchorMonthNow 26 = .ok (.aload_n 0, 1) := by decide +kernel
theorem dX1_anchorMonthNow_27 : decode cX1_anchorMonthNow 27 = .ok (.getfield 27, 3) := by decide +kernel
theorem dX1_anchorMonthNow_30 : decode cX1_anchorMonthNow 30 = .ok (.ireturn, 1) := by decide +kernel
set_option maxRecDepth 20000 in
theorem ggX1_countNow_X1_ides : GoodIn wsX1_countNow wsX1_ides := goodIn_r _ [7, 8, 9, 6, 10] (by decide +kernel) (by decide +kernel)
set_option maxRecDepth 20000 in
theorem gX1_countNow_X1_ides : GoodIn wsX1_countNow (va_wsS RX1 34 yX1_ides wsX1_ides) := goodIn_app (goodIn_of _ (by decide +kernel)) ggX1_countNow_X1_ides
set_option maxRecDepth 20000 in
theorem ggX1_countNow_X1_nones : GoodIn wsX1_countNow wsX1_nones := goodIn_r _ [10] (by decide +kernel) (by decide +kernel)
set_option maxRecDepth 20000 in
theorem gX1_countNow_X1_nones : GoodIn wsX1_countNow (va_wsS RX1 30 yX1_nones wsX1_nones) := goodIn_app (goodIn_of _ (by decide +kernel)) ggX1_countNow_X1_nones
set_option maxRecDepth 20000 in
theorem ggX1_countNow_X1_length : GoodIn wsX1_countNow wsX1_length := goodIn_r _ [13, 14, 15, 6, 16] (by decide +kernel) (by decide +kernel)
set_option maxRecDepth 20000 in
theorem gX1_countNow_X1_length : GoodIn wsX1_countNow (va_wsS RX1 52 yX1_length wsX1_length) := goodIn_app (goodIn_of _ (by decide +kernel)) ggX1_countNow_X1_length
theorem dX1_countNow_0 : decode cX1_countNow 0 = .ok (.aload_n 0, 1) := by decide +kernel
theorem dX1_countNow_1 : decode cX1_countNow 1 = .ok (.getfield 23, 3) := by decide +kernel
theorem dX1_countNow_4 : decode cX1_countNow 4 = .ok (.iconst 1, 1) := by decide +kernel
theorem dX1_countNow_5 : decode cX1_countNow 5 = .ok (.if_icmp .ne 5, 3) := by decide +kernel
theorem dX1_countNow_8 : decode cX1_countNow 8 = .ok (.iconst 1, 1) := by decide +kernel
theorem dX1_countNow_9 : decode cX1_countNow 9 = .ok (.ireturn, 1) := by decide +kernel
theorem dX1_countNow_10 : decode cX1_countNow 10 = .ok (.aload_n 0, 1) := by decide +kernel
theorem dX1_countNow_11 : decode cX1_countNow 11 = .ok (.getfield 23, 3) := by decide +kernel
theorem dX1_countNow_14 : decode cX1_countNow 14 = .ok (.aload_n 0, 1) := by decide +kernel
theorem dX1_countNow_15 : decode cX1_countNow 15 = .ok (.getfield 27, 3) := by decide +kernel
theorem dX1_countNow_18 : decode cX1_countNow 18 = .ok (.invokestatic 34, 3) := by decide +kernel
theorem dX1_countNow_21 : decode cX1_countNow 21 = .ok (.if_icmp .gt 42, 3) := by decide +kernel
theorem dX1_countNow_24 : decode cX1_countNow 24 = .ok (.aload_n 0, 1) := by decide +kernel
theorem dX1_countNow_25 : decode cX1_countNow 25 = .ok (.getfield 23, 3) := by decide +kernel
theorem dX1_countNow_28 : decode cX1_countNow 28 = .ok (.aload_n 0, 1) := by decide +kernel
theorem dX1_countNow_29 : decode cX1_countNow 29 = .ok (.getfield 27, 3) := by decide +kernel
theorem dX1_countNow_32 : decode cX1_countNow 32 = .ok (.invokestatic 30, 3) := by decide +kernel
theorem dX1_countNow_35 : decode cX1_countNow 35 = .ok (.if_icmp .gt 13, 3) := by decide +kernel
theorem dX1_countNow_38 : decode cX1_countNow 38 = .ok (.aload_n 0, 1) := by decide +kernel
theorem dX1_countNow_39 : decode cX1_countNow 39 = .ok (.getfield 27, 3) := by decide +kernel
theorem dX1_countNow_42 : decode cX1_countNow 42 = .ok (.invokestatic 30, 3) := by decide +kernel
theorem dX1_countNow_45 : decode cX1_countNow 45 = .ok (.goto 10, 3) := by decide +kernel
theorem dX1_countNow_48 : decode cX1_countNow 48 = .ok (.aload_n 0, 1) := by decide +kernel
theorem dX1_countNow_49 : decode cX1_countNow 49 = .ok (.getfield 27, 3) := by decide +kernel
theorem dX1_countNow_52 : decode cX1_countNow 52 = .ok (.invokestatic 34, 3) := by decide +kernel
theorem dX1_countNow_55 : decode cX1_countNow 55 = .ok (.aload_n 0, 1) := by decide +kernel
theorem dX1_countNow_56 : decode cX1_countNow 56 = .ok (.getfield 23, 3) := by decide +kernel
theorem dX1_countNow_59 : decode cX1_countNow 59 = .ok (.isub, 1) := by decide +kernel
theorem dX1_countNow_60 : decode cX1_countNow 60 = .ok (.iconst 1, 1) := by decide +kernel
theorem dX1_countNow_61 : decode cX1_countNow 61 = .ok (.iadd, 1) := by decide +kernel
theorem dX1_countNow_62 : decode cX1_countNow 62 = .ok (.ireturn, 1) := by decide +kernel
theorem dX1_countNow_63 : decode cX1_countNow 63 = .ok (.aload_n 0, 1) := by decide +kernel
theorem dX1_countNow_64 : decode cX1_countNow 64 = .ok (.getfield 27, 3) := by decide +kernel
theorem dX1_countNow_67 : decode cX1_countNow 67 = .ok (.iconst 2, 1) := by decide +kernel
theorem dX1_countNow_68 : decode cX1_countNow 68 = .ok (.if_icmp .ne 17, 3) := by decide +kernel
theorem dX1_countNow_71 : decode cX1_countNow 71 = .ok (.aload_n 0, 1) := by decide +kernel
theorem dX1_countNow_72 : decode cX1_countNow 72 = .ok (.getfield 23, 3) := by decide +kernel
theorem dX1_countNow_75 : decode cX1_countNow 75 = .ok (.bipush 24, 2) := by decide +kernel
theorem dX1_countNow_77 : decode cX1_countNow 77 = .ok (.if_icmp .gt 8, 3) := by decide +kernel
theorem dX1_countNow_80 : decode cX1_countNow 80 = .ok (.bipush 28, 2) := by decide +kernel
theorem dX1_countNow_82 : decode cX1_countNow 82 = .ok (.goto 14, 3) := by decide +kernel
theorem dX1_countNow_85 : decode cX1_countNow 85 = .ok (.aload_n 0, 1) := by decide +kernel
theorem dX1_countNow_86 : decode cX1_countNow 86 = .ok (.getfield 56, 3) := by decide +kernel
theorem dX1_countNow_89 : decode cX1_countNow 89 = .ok (.aload_n 0, 1) := by decide +kernel
theorem dX1_countNow_90 : decode cX1_countNow 90 = .ok (.getfield 27, 3) := by decide +kernel
theorem dX1_countNow_93 : decode cX1_countNow 93 = .ok (.invokestatic 52, 3) := by decide +kernel
theorem dX1_countNow_96 : decode cX1_countNow 96 = .ok (.istore_n 1, 1) := by decide +kernel
theorem dX1_countNow_97 : decode cX1_countNow 97 = .ok (.iload_n 1, 1) := by decide +kernel
theorem dX1_countNow_98 : decode cX1_countNow 98 = .ok (.aload_n 0, 1) := by decide +kernel
theorem dX1_countNow_99 : decode cX1_countNow 99 = .ok (.getfield 23, 3) := by decide +kernel
theorem dX1_countNow_102 : decode cX1_countNow 102 = .ok (.isub, 1) := by decide +kernel
theorem dX1_countNow_103 : decode cX1_countNow 103 = .ok (.iconst 2, 1) := by decide +kernel
theorem dX1_countNow_104 : decode cX1_countNow 104 = .ok (.iadd, 1) := by decide +kernel
theorem dX1_countNow_105 : decode cX1_countNow 105 = .ok (.ireturn, 1) := by decide +kernel
set_option maxRecDepth 20000 in
theorem ggX1_anchorOf_X1_isAsked : GoodIn wsX1_anchorOf wsX1_isAsked := goodIn_r _ [5, 6, 7, 4, 8, 9, 10, 11, 12, 13, 14, 15, 16, 17, 18, 19, 20, 21, 22, 23, 24, 25, 26, 27, 28, 29, 30, 31, 32, 33, 44, 45, 46, 47, 48, 49, 50, 51, 52] (by decide +kernel) (by decide +kernel)
set_option maxRecDepth 20000 in
theorem gX1_anchorOf_X1_isAsked : GoodIn wsX1_anchorOf (wsV RX1 76 RX1 yX1_isAsked wsX1_isAsked) := goodIn_app (goodIn_of _ (by decide +kernel)) ggX1_anchorOf_X1_isAsked
set_option maxRecDepth 20000 in
theorem ggX1_anchorOf_X1_anchorNow : GoodIn wsX1_anchorOf wsX1_anchorNow := goodIn_r _ [37, 24, 23, 38, 39, 4, 40, 41, 42, 43, 44, 45, 46, 47, 48, 49, 50, 51, 52] (by decide +kernel) (by decide +kernel)
set_option maxRecDepth 20000 in
theorem gX1_anchorOf_X1_anchorNow : GoodIn wsX1_anchorOf (wsV RX1 79 RX1 yX1_anchorNow wsX1_anchorNow) := goodIn_app (goodIn_of _ (by decide +kernel)) ggX1_anchorOf_X1_anchorNow
theorem dX1_anchorOf_0 : decode cX1_anchorOf 0 = .ok (.aload_n 0, 1) := by decide +kernel
theorem dX1_anchorOf_1 : decode cX1_anchorOf 1 = .ok (.iload_n 1, 1) := by decide +kernel
theorem dX1_anchorOf_2 : decode cX1_anchorOf 2 = .ok (.invokevirtual 76, 3) := by decide +kernel
theorem dX1_anchorOf_5 : decode cX1_anchorOf 5 = .ok (.ifCond .eq 10, 3) := by decide +kernel
theorem dX1_anchorOf_8 : decode cX1_anchorOf 8 = .ok (.aload_n 0, 1) := by decide +kernel
theorem dX1_anchorOf_9 : decode cX1_anchorOf 9 = .ok (.invokevirtual 79, 3) := by decide +kernel
theorem dX1_anchorOf_12 : decode cX1_anchorOf 12 = .ok (.goto 4, 3) := by decide +kernel
theorem dX1_anchorOf_15 : decode cX1_anchorOf 15 = .ok (.iconst 0, 1) := by decide +kernel
theorem dX1_anchorOf_16 : decode cX1_anchorOf 16 = .ok (.ireturn, 1) := by decide +kernel
set_option maxRecDepth 20000 in
theorem ggX1_anchorMonthOf_X1_isAsked : GoodIn wsX1_anchorMonthOf wsX1_isAsked := goodIn_r _ [5, 6, 7, 4, 8, 9, 10, 11, 12, 13, 14, 15, 16, 17, 18, 19, 20, 21, 22, 23, 24, 25, 26, 27, 28, 29, 30, 31, 32, 33, 44, 45, 46, 47, 48, 49, 50, 51, 52] (by decide +kernel) (by decide +kernel)
set_option maxRecDepth 20000 in
theorem gX1_anchorMonthOf_X1_isAsked : GoodIn wsX1_anchorMonthOf (wsV RX1 76 RX1 yX1_isAsked wsX1_isAsked) := goodIn_app (goodIn_of _ (by decide +kernel)) ggX1_anchorMonthOf_X1_isAsked
set_option maxRecDepth 20000 in
theorem ggX1_anchorMonthOf_X1_anchorMonthNow : GoodIn wsX1_anchorMonthOf wsX1_anchorMonthNow := goodIn_r _ [37, 24, 23, 38, 39, 4, 40, 41, 42, 43, 44, 45, 46, 47, 48, 49, 50, 51, 52] (by decide +kernel) (by decide +kernel)
set_option maxRecDepth 20000 in
theorem gX1_anchorMonthOf_X1_anchorMonthNow : GoodIn wsX1_anchorMonthOf (wsV RX1 83 RX1 yX1_anchorMonthNow wsX1_anchorMonthNow) := goodIn_app (goodIn_of _ (by decide +kernel)) ggX1_anchorMonthOf_X1_anchorMonthNow
theorem dX1_anchorMonthOf_0 : decode cX1_anchorMonthOf 0 = .ok (.aload_n 0, 1) := by decide +kernel
theorem dX1_anchorMonthOf_1 : decode cX1_anchorMonthOf 1 = .ok (.iload_n 1, 1) := by decide +kernel
theorem dX1_anchorMonthOf_2 : decode cX1_anchorMonthOf 2 = .ok (.invokevirtual 76, 3) := by decide +kernel
theorem dX1_anchorMonthOf_5 : decode cX1_anchorMonthOf 5 = .ok (.ifCond .eq 10, 3) := by decide +kernel
theorem dX1_anchorMonthOf_8 : decode cX1_anchorMonthOf 8 = .ok (.aload_n 0, 1) := by decide +kernel
theorem dX1_anchorMonthOf_9 : decode cX1_anchorMonthOf 9 = .ok (.invokevirtual 83, 3) := by decide +kernel
theorem dX1_anchorMonthOf_12 : decode cX1_anchorMonthOf 12 = .ok (.goto 4, 3) := by decide +kernel
theorem dX1_anchorMonthOf_15 : decode cX1_anchorMonthOf 15 = .ok (.iconst 0, 1) := by decide +kernel
theorem dX1_anchorMonthOf_16 : decode cX1_anchorMonthOf 16 = .ok (.ireturn, 1) := by decide +kernel
set_option maxRecDepth 20000 in
theorem ggX1_countOf_X1_isAsked : GoodIn wsX1_countOf wsX1_isAsked := goodIn_r _ [5, 6, 7, 4, 8, 9, 10, 11, 12, 13, 14, 15, 16, 17, 18, 19, 20, 21, 22, 23, 24, 25, 26, 27, 28, 29, 30, 31, 32, 33, 44, 45, 46, 47, 48, 49, 50, 51, 52] (by decide +kernel) (by decide +kernel)
set_option maxRecDepth 20000 in
theorem gX1_countOf_X1_isAsked : GoodIn wsX1_countOf (wsV RX1 76 RX1 yX1_isAsked wsX1_isAsked) := goodIn_app (goodIn_of _ (by decide +kernel)) ggX1_countOf_X1_isAsked
set_option maxRecDepth 20000 in
theorem ggX1_countOf_X1_countNow : GoodIn wsX1_countOf wsX1_countNow := goodIn_r _ [37, 24, 23, 22, 38, 39, 4, 40, 41, 42, 43, 28, 29, 30, 31, 32, 33, 44, 45, 46, 47, 48, 49, 50, 51, 52] (by decide +kernel) (by decide +kernel)
set_option maxRecDepth 20000 in
theorem gX1_countOf_X1_countNow : GoodIn wsX1_countOf (wsV RX1 86 RX1 yX1_countNow wsX1_countNow) := goodIn_app (goodIn_of _ (by decide +kernel)) ggX1_countOf_X1_countNow
theorem dX1_countOf_0 : decode cX1_countOf 0 = .ok (.aload_n 0, 1) := by decide +kernel
theorem dX1_countOf_1 : decode cX1_countOf 1 = .ok (.iload_n 1, 1) := by decide +kernel
theorem dX1_countOf_2 : decode cX1_countOf 2 = .ok (.invokevirtual 76, 3) := by decide +kernel
theorem dX1_countOf_5 : decode cX1_countOf 5 = .ok (.ifCond .eq 10, 3) := by decide +kernel
theorem dX1_countOf_8 : decode cX1_countOf 8 = .ok (.aload_n 0, 1) := by decide +kernel
theorem dX1_countOf_9 : decode cX1_countOf 9 = .ok (.invokevirtual 86, 3) := by decide +kernel
theorem dX1_countOf_12 : decode cX1_countOf 12 = .ok (.goto 4, 3) := by decide +kernel
theorem dX1_countOf_15 : decode cX1_countOf 15 = .ok (.iconst 0, 1) := by decide +kernel
theorem dX1_countOf_16 : decode cX1_countOf 16 = .ok (.ireturn, 1) := by decide +kernel
set_option maxRecDepth 20000 in
theorem ggX1_isDoubled_X1_isAsked : GoodIn wsX1_isDoubled wsX1_isAsked := goodIn_r _ [5, 6, 7, 4, 8, 9, 10, 11, 12, 13, 14, 15, 16, 17, 18, 19, 20, 21, 22, 23, 24, 25, 26, 27, 28, 29, 30, 31, 32, 33, 38, 39, 40, 41, 42, 43, 44, 45, 46] (by decide +kernel) (by decide +kernel)
set_option maxRecDepth 20000 in
theorem gX1_isDoubled_X1_isAsked : GoodIn wsX1_isDoubled (wsV RX1 76 RX1 yX1_isAsked wsX1_isAsked) := goodIn_app (goodIn_of _ (by decide +kernel)) ggX1_isDoubled_X1_isAsked
set_option maxRecDepth 20000 in
theorem ggX1_isDoubled_X1_isDoubledNow : GoodIn wsX1_isDoubled wsX1_isDoubledNow := goodIn_r _ [37, 22, 23, 24, 31, 32, 4, 33, 38, 39, 40, 41, 42, 43, 44, 45, 46] (by decide +kernel) (by decide +kernel)
set_option maxRecDepth 20000 in
theorem gX1_isDoubled_X1_isDoubledNow : GoodIn wsX1_isDoubled (wsV RX1 89 RX1 yX1_isDoubledNow wsX1_isDoubledNow) := goodIn_app (goodIn_of _ (by decide +kernel)) ggX1_isDoubled_X1_isDoubledNow
theorem dX1_isDoubled_0 : decode cX1_isDoubled 0 = .ok (.aload_n 0, 1) := by decide +kernel
theorem dX1_isDoubled_1 : decode cX1_isDoubled 1 = .ok (.iload_n 1, 1) := by decide +kernel
theorem dX1_isDoubled_2 : decode cX1_isDoubled 2 = .ok (.invokevirtual 76, 3) := by decide +kernel
theorem dX1_isDoubled_5 : decode cX1_isDoubled 5 = .ok (.ifCond .eq 14, 3) := by decide +kernel
theorem dX1_isDoubled_8 : decode cX1_isDoubled 8 = .ok (.aload_n 0, 1) := by decide +kernel
theorem dX1_isDoubled_9 : decode cX1_isDoubled 9 = .ok (.invokevirtual 89, 3) := by decide +kernel
theorem dX1_isDoubled_12 : decode cX1_isDoubled 12 = .ok (.ifCond .eq 7, 3) := by decide +kernel
theorem dX1_isDoubled_15 : decode cX1_isDoubled 15 = .ok (.iconst 1, 1) := by decide +kernel
theorem dX1_isDoubled_16 : decode cX1_isDoubled 16 = .ok (.goto 4, 3) := by decide +kernel
theorem dX1_isDoubled_19 : decode cX1_isDoubled 19 = .ok (.iconst 0, 1) := by decide +kernel
theorem dX1_isDoubled_20 : decode cX1_isDoubled 20 = .ok (.ireturn, 1) := by decide +kernel
set_option maxRecDepth 20000 in
theorem ggX1_told_X1_begin : GoodIn wsX1_told wsX1_begin := goodIn_r _ [4] (by decide +kernel) (by decide +kernel)
set_option maxRecDepth 20000 in
theorem gX1_told_X1_begin : GoodIn wsX1_told (va_wsS RX1 49 yX1_begin wsX1_begin) := goodIn_app (goodIn_of _ (by decide +kernel)) ggX1_told_X1_begin
set_option maxRecDepth 20000 in
theorem ggX1_told_X1_splits : GoodIn wsX1_told wsX1_splits := goodIn_r _ [8, 9, 10, 11, 1, 2, 3, 4, 12, 13, 14, 15, 16, 17, 40, 41, 42, 43, 44, 45, 46, 47, 48] (by decide +kernel) (by decide +kernel)
set_option maxRecDepth 20000 in
theorem gX1_told_X1_splits : GoodIn wsX1_told (wsV RX1 19 RX1 yX1_splits wsX1_splits) := goodIn_app (goodIn_of _ (by decide +kernel)) ggX1_told_X1_splits
set_option maxRecDepth 20000 in
theorem ggX1_told_X1_anchorNow : GoodIn wsX1_told wsX1_anchorNow := goodIn_r _ [21, 11, 10, 22, 23, 3, 24, 25, 26, 27, 40, 41, 42, 43, 44, 45, 46, 47, 48] (by decide +kernel) (by decide +kernel)
set_option maxRecDepth 20000 in
theorem gX1_told_X1_anchorNow : GoodIn wsX1_told (wsV RX1 79 RX1 yX1_anchorNow wsX1_anchorNow) := goodIn_app (goodIn_of _ (by decide +kernel)) ggX1_told_X1_anchorNow
set_option maxRecDepth 20000 in
theorem ggX1_told_X1_anchorMonthNow : GoodIn wsX1_told wsX1_anchorMonthNow := goodIn_r _ [31, 11, 10, 22, 23, 3, 24, 25, 26, 27, 40, 41, 42, 43, 44, 45, 46, 47, 48] (by decide +kernel) (by decide +kernel)
set_option maxRecDepth 20000 in
theorem gX1_told_X1_anchorMonthNow : GoodIn wsX1_told (wsV RX1 83 RX1 yX1_anchorMonthNow wsX1_anchorMonthNow) := goodIn_app (goodIn_of _ (by decide +kernel)) ggX1_told_X1_anchorMonthNow
set_option maxRecDepth 20000 in
theorem ggX1_told_X1_countNow : GoodIn wsX1_told wsX1_countNow := goodIn_r _ [35, 11, 10, 9, 22, 23, 3, 24, 25, 26, 27, 12, 13, 14, 15, 16, 17, 40, 41, 42, 43, 44, 45, 46, 47, 48] (by decide +kernel) (by decide +kernel)
set_option maxRecDepth 20000 in
theorem gX1_told_X1_countNow : GoodIn wsX1_told (wsV RX1 86 RX1 yX1_countNow wsX1_countNow) := goodIn_app (goodIn_of _ (by decide +kernel)) ggX1_told_X1_countNow
set_option maxRecDepth 20000 in
theorem ggX1_told_X1_isDoubledNow : GoodIn wsX1_told wsX1_isDoubledNow := goodIn_r _ [39, 9, 10, 11, 15, 16, 3, 17, 40, 41, 42, 43, 44, 45, 46, 47, 48] (by decide +kernel) (by decide +kernel)
set_option maxRecDepth 20000 in
theorem gX1_told_X1_isDoubledNow : GoodIn wsX1_told (wsV RX1 89 RX1 yX1_isDoubledNow wsX1_isDoubledNow) := goodIn_app (goodIn_of _ (by decide +kernel)) ggX1_told_X1_isDoubledNow
theorem dX1_told_0 : decode cX1_told 0 = .ok (.iload_n 1, 1) := by decide +kernel
theorem dX1_told_1 : decode cX1_told 1 = .ok (.invokestatic 49, 3) := by decide +kernel
theorem dX1_told_4 : decode cX1_told 4 = .ok (.istore 6, 2) := by decide +kernel
theorem dX1_told_6 : decode cX1_told 6 = .ok (.iload 6, 2) := by decide +kernel
theorem dX1_told_8 : decode cX1_told 8 = .ok (.iload_n 1, 1) := by decide +kernel
theorem dX1_told_9 : decode cX1_told 9 = .ok (.iconst 1, 1) := by decide +kernel
theorem dX1_told_10 : decode cX1_told 10 = .ok (.iadd, 1) := by decide +kernel
theorem dX1_told_11 : decode cX1_told 11 = .ok (.invokestatic 49, 3) := by decide +kernel
theorem dX1_told_14 : decode cX1_told 14 = .ok (.if_icmp .ge 52, 3) := by decide +kernel
theorem dX1_told_17 : decode cX1_told 17 = .ok (.aload_n 0, 1) := by decide +kernel
theorem dX1_told_18 : decode cX1_told 18 = .ok (.iload 6, 2) := by decide +kernel
theorem dX1_told_20 : decode cX1_told 20 = .ok (.invokevirtual 19, 3) := by decide +kernel
theorem dX1_told_23 : decode cX1_told 23 = .ok (.aload_n 0, 1) := by decide +kernel
theorem dX1_told_24 : decode cX1_told 24 = .ok (.invokevirtual 79, 3) := by decide +kernel
theorem dX1_told_27 : decode cX1_told 27 = .ok (.iload_n 3, 1) := by decide +kernel
theorem dX1_told_28 : decode cX1_told 28 = .ok (.if_icmp .ne 32, 3) := by decide +kernel
theorem dX1_told_31 : decode cX1_told 31 = .ok (.aload_n 0, 1) := by decide +kernel
theorem dX1_told_32 : decode cX1_told 32 = .ok (.invokevirtual 83, 3) := by decide +kernel
theorem dX1_told_35 : decode cX1_told 35 = .ok (.iload_n 2, 1) := by decide +kernel
theorem dX1_told_36 : decode cX1_told 36 = .ok (.if_icmp .ne 24, 3) := by decide +kernel
theorem dX1_told_39 : decode cX1_told 39 = .ok (.aload_n 0, 1) := by decide +kernel
theorem dX1_told_40 : decode cX1_told 40 = .ok (.invokevirtual 86, 3) := by decide +kernel
theorem dX1_told_43 : decode cX1_told 43 = .ok (.iload 4, 2) := by decide +kernel
theorem dX1_told_45 : decode cX1_told 45 = .ok (.if_icmp .ne 15, 3) := by decide +kernel
theorem dX1_told_48 : decode cX1_told 48 = .ok (.aload_n 0, 1) := by decide +kernel
theorem dX1_told_49 : decode cX1_told 49 = .ok (.invokevirtual 89, 3) := by decide +kernel
theorem dX1_told_52 : decode cX1_told 52 = .ok (.iload 5, 2) := by decide +kernel
theorem dX1_told_54 : decode cX1_told 54 = .ok (.if_icmp .ne 6, 3) := by decide +kernel
theorem dX1_told_57 : decode cX1_told 57 = .ok (.iload 6, 2) := by decide +kernel
theorem dX1_told_59 : decode cX1_told 59 = .ok (.ireturn, 1) := by decide +kernel
theorem dX1_told_60 : decode cX1_told 60 = .ok (.iinc 6 1, 3) := by decide +kernel
theorem dX1_told_63 : decode cX1_told 63 = .ok (.goto (-57), 3) := by decide +kernel
theorem dX1_told_66 : decode cX1_told 66 = .ok (.iconst (-1), 1) := by decide +kernel
theorem dX1_told_67 : decode cX1_told 67 = .ok (.ireturn, 1) := by decide +kernel
set_option maxRecDepth 20000 in
theorem ggX1_fromCount_X1_isYear : GoodIn wsX1_fromCount wsX1_isYear := goodIn_r _ [4, 5, 6, 3, 7] (by decide +kernel) (by decide +kernel)
set_option maxRecDepth 20000 in
theorem gX1_fromCount_X1_isYear : GoodIn wsX1_fromCount (va_wsS RX1 66 yX1_isYear wsX1_isYear) := goodIn_app (goodIn_of _ (by decide +kernel)) ggX1_fromCount_X1_isYear
set_option maxRecDepth 20000 in
theorem ggX1_fromCount_X1_isIn : GoodIn wsX1_fromCount wsX1_isIn := goodIn_r _ [7] (by decide +kernel) (by decide +kernel)
set_option maxRecDepth 20000 in
theorem gX1_fromCount_X1_isIn : GoodIn wsX1_fromCount (va_wsS RX1 40 yX1_isIn wsX1_isIn) := goodIn_app (goodIn_of _ (by decide +kernel)) ggX1_fromCount_X1_isIn
set_option maxRecDepth 20000 in
theorem ggX1_fromCount_X1_told : GoodIn wsX1_fromCount wsX1_told := goodIn_r _ [11, 12, 13, 3, 14, 15, 16, 17, 18, 19, 20, 21, 22, 23, 24, 25, 26, 27, 28, 29, 30, 31, 32, 33, 34, 35, 36, 37, 38, 39, 40, 41, 42, 43, 44, 45, 46, 47, 48, 49, 55, 56, 57, 58, 59, 60, 61, 62, 63] (by decide +kernel) (by decide +kernel)
set_option maxRecDepth 20000 in
theorem gX1_fromCount_X1_told : GoodIn wsX1_fromCount (wsV RX1 93 RX1 yX1_told wsX1_told) := goodIn_app (goodIn_of _ (by decide +kernel)) ggX1_fromCount_X1_told
set_option maxRecDepth 20000 in
theorem ggX1_fromCount_X1_isFine : GoodIn wsX1_fromCount wsX1_isFine := goodIn_r _ [53, 54, 55, 56, 57, 58, 59, 60, 61, 62, 63] (by decide +kernel) (by decide +kernel)
set_option maxRecDepth 20000 in
theorem gX1_fromCount_X1_isFine : GoodIn wsX1_fromCount (wsV RX1 62 RX1 yX1_isFine wsX1_isFine) := goodIn_app (goodIn_of _ (by decide +kernel)) ggX1_fromCount_X1_isFine
theorem dX1_fromCount_0 : decode cX1_fromCount 0 = .ok (.iload_n 1, 1) := by decide +kernel
theorem dX1_fromCount_1 : decode cX1_fromCount 1 = .ok (.invokestatic 66, 3) := by decide +kernel
theorem dX1_fromCount_4 : decode cX1_fromCount 4 = .ok (.ifCond .eq 17, 3) := by decide +kernel
theorem dX1_fromCount_7 : decode cX1_fromCount 7 = .ok (.iload_n 2, 1) := by decide +kernel
theorem dX1_fromCount_8 : decode cX1_fromCount 8 = .ok (.iconst 1, 1) := by decide +kernel
theorem dX1_fromCount_9 : decode cX1_fromCount 9 = .ok (.bipush 12, 2) := by decide +kernel
theorem dX1_fromCount_11 : decode cX1_fromCount 11 = .ok (.invokestatic 40, 3) := by decide +kernel
theorem dX1_fromCount_14 : decode cX1_fromCount 14 = .ok (.ifCond .eq 7, 3) := by decide +kernel
theorem dX1_fromCount_17 : decode cX1_fromCount 17 = .ok (.iconst 1, 1) := by decide +kernel
theorem dX1_fromCount_18 : decode cX1_fromCount 18 = .ok (.goto 4, 3) := by decide +kernel
theorem dX1_fromCount_21 : decode cX1_fromCount 21 = .ok (.iconst 0, 1) := by decide +kernel
theorem dX1_fromCount_22 : decode cX1_fromCount 22 = .ok (.istore 6, 2) := by decide +kernel
theorem dX1_fromCount_24 : decode cX1_fromCount 24 = .ok (.iload_n 3, 1) := by decide +kernel
theorem dX1_fromCount_25 : decode cX1_fromCount 25 = .ok (.iconst 0, 1) := by decide +kernel
theorem dX1_fromCount_26 : decode cX1_fromCount 26 = .ok (.iconst 2, 1) := by decide +kernel
theorem dX1_fromCount_27 : decode cX1_fromCount 27 = .ok (.invokestatic 40, 3) := by decide +kernel
theorem dX1_fromCount_30 : decode cX1_fromCount 30 = .ok (.ifCond .eq 13, 3) := by decide +kernel
theorem dX1_fromCount_33 : decode cX1_fromCount 33 = .ok (.iload 4, 2) := by decide +kernel
theorem dX1_fromCount_35 : decode cX1_fromCount 35 = .ok (.iconst 1, 1) := by decide +kernel
theorem dX1_fromCount_36 : decode cX1_fromCount 36 = .ok (.if_icmp .lt 7, 3) := by decide +kernel
theorem dX1_fromCount_39 : decode cX1_fromCount 39 = .ok (.iconst 1, 1) := by decide +kernel
theorem dX1_fromCount_40 : decode cX1_fromCount 40 = .ok (.goto 4, 3) := by decide +kernel
theorem dX1_fromCount_43 : decode cX1_fromCount 43 = .ok (.iconst 0, 1) := by decide +kernel
theorem dX1_fromCount_44 : decode cX1_fromCount 44 = .ok (.istore 7, 2) := by decide +kernel
theorem dX1_fromCount_46 : decode cX1_fromCount 46 = .ok (.iload 6, 2) := by decide +kernel
theorem dX1_fromCount_48 : decode cX1_fromCount 48 = .ok (.ifCond .eq 22, 3) := by decide +kernel
theorem dX1_fromCount_51 : decode cX1_fromCount 51 = .ok (.iload 7, 2) := by decide +kernel
theorem dX1_fromCount_53 : decode cX1_fromCount 53 = .ok (.ifCond .eq 17, 3) := by decide +kernel
theorem dX1_fromCount_56 : decode cX1_fromCount 56 = .ok (.aload_n 0, 1) := by decide +kernel
theorem dX1_fromCount_57 : decode cX1_fromCount 57 = .ok (.iload_n 1, 1) := by decide +kernel
theorem dX1_fromCount_58 : decode cX1_fromCount 58 = .ok (.iload_n 2, 1) := by decide +kernel
theorem dX1_fromCount_59 : decode cX1_fromCount 59 = .ok (.iload_n 3, 1) := by decide +kernel
theorem dX1_fromCount_60 : decode cX1_fromCount 60 = .ok (.iload 4, 2) := by decide +kernel
theorem dX1_fromCount_62 : decode cX1_fromCount 62 = .ok (.iload 5, 2) := by decide +kernel
theorem dX1_fromCount_64 : decode cX1_fromCount 64 = .ok (.invokevirtual 93, 3) := by decide +kernel
theorem dX1_fromCount_67 : decode cX1_fromCount 67 = .ok (.goto 4, 3) := by decide +kernel
theorem dX1_fromCount_70 : decode cX1_fromCount 70 = .ok (.iconst (-1), 1) := by decide +kernel
theorem dX1_fromCount_71 : decode cX1_fromCount 71 = .ok (.istore 8, 2) := by decide +kernel
theorem dX1_fromCount_73 : decode cX1_fromCount 73 = .ok (.aload_n 0, 1) := by decide +kernel
theorem dX1_fromCount_74 : decode cX1_fromCount 74 = .ok (.iload 6, 2) := by decide +kernel
theorem dX1_fromCount_76 : decode cX1_fromCount 76 = .ok (.ifCond .ne 7, 3) := by decide +kernel
theorem dX1_fromCount_79 : decode cX1_fromCount 79 = .ok (.iconst 1, 1) := by decide +kernel
theorem dX1_fromCount_80 : decode cX1_fromCount 80 = .ok (.goto 23, 3) := by decide +kernel
theorem dX1_fromCount_83 : decode cX1_fromCount 83 = .ok (.iload 7, 2) := by decide +kernel
theorem dX1_fromCount_85 : decode cX1_fromCount 85 = .ok (.ifCond .ne 7, 3) := by decide +kernel
theorem dX1_fromCount_88 : decode cX1_fromCount 88 = .ok (.iconst 2, 1) := by decide +kernel
theorem dX1_fromCount_89 : decode cX1_fromCount 89 = .ok (.goto 14, 3) := by decide +kernel
theorem dX1_fromCount_92 : decode cX1_fromCount 92 = .ok (.iload 8, 2) := by decide +kernel
theorem dX1_fromCount_94 : decode cX1_fromCount 94 = .ok (.iconst (-1), 1) := by decide +kernel
theorem dX1_fromCount_95 : decode cX1_fromCount 95 = .ok (.if_icmp .ne 7, 3) := by decide +kernel
theorem dX1_fromCount_98 : decode cX1_fromCount 98 = .ok (.iconst 3, 1) := by decide +kernel
theorem dX1_fromCount_99 : decode cX1_fromCount 99 = .ok (.goto 4, 3) := by decide +kernel
theorem dX1_fromCount_102 : decode cX1_fromCount 102 = .ok (.iconst 0, 1) := by decide +kernel
theorem dX1_fromCount_103 : decode cX1_fromCount 103 = .ok (.invokevirtual 62, 3) := by decide +kernel
theorem dX1_fromCount_106 : decode cX1_fromCount 106 = .ok (.ifCond .eq 8, 3) := by decide +kernel
theorem dX1_fromCount_109 : decode cX1_fromCount 109 = .ok (.iload 8, 2) := by decide +kernel
theorem dX1_fromCount_111 : decode cX1_fromCount 111 = .ok (.goto 4, 3) := by decide +kernel
theorem dX1_fromCount_114 : decode cX1_fromCount 114 = .ok (.iconst 0, 1) := by decide +kernel
theorem dX1_fromCount_115 : decode cX1_fromCount 115 = .ok (.ireturn, 1) := by decide +kernel
set_option maxRecDepth 20000 in
theorem ggX1_greatestCount_X1_isYear : GoodIn wsX1_greatestCount wsX1_isYear := goodIn_r _ [4, 5, 6, 3, 7] (by decide +kernel) (by decide +kernel)
set_option maxRecDepth 20000 in
theorem gX1_greatestCount_X1_isYear : GoodIn wsX1_greatestCount (va_wsS RX1 66 yX1_isYear wsX1_isYear) := goodIn_app (goodIn_of _ (by decide +kernel)) ggX1_greatestCount_X1_isYear
set_option maxRecDepth 20000 in
theorem ggX1_greatestCount_X1_isIn : GoodIn wsX1_greatestCount wsX1_isIn := goodIn_r _ [7] (by decide +kernel) (by decide +kernel)
set_option maxRecDepth 20000 in
theorem gX1_greatestCount_X1_isIn : GoodIn wsX1_greatestCount (va_wsS RX1 40 yX1_isIn wsX1_isIn) := goodIn_app (goodIn_of _ (by decide +kernel)) ggX1_greatestCount_X1_isIn
set_option maxRecDepth 20000 in
theorem ggX1_greatestCount_X1_isFine : GoodIn wsX1_greatestCount wsX1_isFine := goodIn_r _ [11, 12, 47, 48, 49, 50, 51, 52, 53, 54, 55] (by decide +kernel) (by decide +kernel)
set_option maxRecDepth 20000 in
theorem gX1_greatestCount_X1_isFine : GoodIn wsX1_greatestCount (wsV RX1 62 RX1 yX1_isFine wsX1_isFine) := goodIn_app (goodIn_of _ (by decide +kernel)) ggX1_greatestCount_X1_isFine
set_option maxRecDepth 20000 in
theorem ggX1_greatestCount_X1_begin : GoodIn wsX1_greatestCount wsX1_begin := goodIn_r _ [15] (by decide +kernel) (by decide +kernel)
set_option maxRecDepth 20000 in
theorem gX1_greatestCount_X1_begin : GoodIn wsX1_greatestCount (va_wsS RX1 49 yX1_begin wsX1_begin) := goodIn_app (goodIn_of _ (by decide +kernel)) ggX1_greatestCount_X1_begin
set_option maxRecDepth 20000 in
theorem ggX1_greatestCount_X1_splits : GoodIn wsX1_greatestCount wsX1_splits := goodIn_r _ [19, 20, 21, 22, 13, 14, 3, 15, 23, 24, 25, 26, 27, 28, 47, 48, 49, 50, 51, 52, 53, 54, 55] (by decide +kernel) (by decide +kernel)
set_option maxRecDepth 20000 in
theorem gX1_greatestCount_X1_splits : GoodIn wsX1_greatestCount (wsV RX1 19 RX1 yX1_splits wsX1_splits) := goodIn_app (goodIn_of _ (by decide +kernel)) ggX1_greatestCount_X1_splits
set_option maxRecDepth 20000 in
theorem ggX1_greatestCount_X1_anchorNow : GoodIn wsX1_greatestCount wsX1_anchorNow := goodIn_r _ [32, 22, 21, 33, 34, 3, 35, 36, 37, 38, 47, 48, 49, 50, 51, 52, 53, 54, 55] (by decide +kernel) (by decide +kernel)
set_option maxRecDepth 20000 in
theorem gX1_greatestCount_X1_anchorNow : GoodIn wsX1_greatestCount (wsV RX1 79 RX1 yX1_anchorNow wsX1_anchorNow) := goodIn_app (goodIn_of _ (by decide +kernel)) ggX1_greatestCount_X1_anchorNow
set_option maxRecDepth 20000 in
theorem ggX1_greatestCount_X1_anchorMonthNow : GoodIn wsX1_greatestCount wsX1_anchorMonthNow := goodIn_r _ [42, 22, 21, 33, 34, 3, 35, 36, 37, 38, 47, 48, 49, 50, 51, 52, 53, 54, 55] (by decide +kernel) (by decide +kernel)
set_option maxRecDepth 20000 in
theorem gX1_greatestCount_X1_anchorMonthNow : GoodIn wsX1_greatestCount (wsV RX1 83 RX1 yX1_anchorMonthNow wsX1_anchorMonthNow) := goodIn_app (goodIn_of _ (by decide +kernel)) ggX1_greatestCount_X1_anchorMonthNow
set_option maxRecDepth 20000 in
theorem ggX1_greatestCount_X1_countNow : GoodIn wsX1_greatestCount wsX1_countNow := goodIn_r _ [46, 22, 21, 20, 33, 34, 3, 35, 36, 37, 38, 23, 24, 25, 26, 27, 28, 47, 48, 49, 50, 51, 52, 53, 54, 55] (by decide +kernel) (by decide +kernel)
set_option maxRecDepth 20000 in
theorem gX1_greatestCount_X1_countNow : GoodIn wsX1_greatestCount (wsV RX1 86 RX1 yX1_countNow wsX1_countNow) := goodIn_app (goodIn_of _ (by decide +kernel)) ggX1_greatestCount_X1_countNow
theorem dX1_greatestCount_0 : decode cX1_greatestCount 0 = .ok (.aload_n 0, 1) := by decide +kernel
theorem dX1_greatestCount_1 : decode cX1_greatestCount 1 = .ok (.iload_n 1, 1) := by decide +kernel
theorem dX1_greatestCount_2 : decode cX1_greatestCount 2 = .ok (.invokestatic 66, 3) := by decide +kernel
theorem dX1_greatestCount_5 : decode cX1_greatestCount 5 = .ok (.ifCond .eq 13, 3) := by decide +kernel
theorem dX1_greatestCount_8 : decode cX1_greatestCount 8 = .ok (.iload_n 2, 1) := by decide +kernel
theorem dX1_greatestCount_9 : decode cX1_greatestCount 9 = .ok (.iconst 1, 1) := by decide +kernel
theorem dX1_greatestCount_10 : decode cX1_greatestCount 10 = .ok (.bipush 12, 2) := by decide +kernel
theorem dX1_greatestCount_12 : decode cX1_greatestCount 12 = .ok (.invokestatic 40, 3) := by decide +kernel
theorem dX1_greatestCount_15 : decode cX1_greatestCount 15 = .ok (.ifCond .ne 7, 3) := by decide +kernel
theorem dX1_greatestCount_18 : decode cX1_greatestCount 18 = .ok (.iconst 1, 1) := by decide +kernel
theorem dX1_greatestCount_19 : decode cX1_greatestCount 19 = .ok (.goto 17, 3) := by decide +kernel
theorem dX1_greatestCount_22 : decode cX1_greatestCount 22 = .ok (.iload_n 3, 1) := by decide +kernel
theorem dX1_greatestCount_23 : decode cX1_greatestCount 23 = .ok (.iconst 0, 1) := by decide +kernel
theorem dX1_greatestCount_24 : decode cX1_greatestCount 24 = .ok (.iconst 2, 1) := by decide +kernel
theorem dX1_greatestCount_25 : decode cX1_greatestCount 25 = .ok (.invokestatic 40, 3) := by decide +kernel
theorem dX1_greatestCount_28 : decode cX1_greatestCount 28 = .ok (.ifCond .ne 7, 3) := by decide +kernel
theorem dX1_greatestCount_31 : decode cX1_greatestCount 31 = .ok (.iconst 2, 1) := by decide +kernel
theorem dX1_greatestCount_32 : decode cX1_greatestCount 32 = .ok (.goto 4, 3) := by decide +kernel
theorem dX1_greatestCount_35 : decode cX1_greatestCount 35 = .ok (.iconst 0, 1) := by decide +kernel
theorem dX1_greatestCount_36 : decode cX1_greatestCount 36 = .ok (.invokevirtual 62, 3) := by decide +kernel
theorem dX1_greatestCount_39 : decode cX1_greatestCount 39 = .ok (.ifCond .ne 5, 3) := by decide +kernel
theorem dX1_greatestCount_42 : decode cX1_greatestCount 42 = .ok (.iconst 0, 1) := by decide +kernel
theorem dX1_greatestCount_43 : decode cX1_greatestCount 43 = .ok (.ireturn, 1) := by decide +kernel
theorem dX1_greatestCount_44 : decode cX1_greatestCount 44 = .ok (.iconst 0, 1) := by decide +kernel
theorem dX1_greatestCount_45 : decode cX1_greatestCount 45 = .ok (.istore 4, 2) := by decide +kernel
theorem dX1_greatestCount_47 : decode cX1_greatestCount 47 = .ok (.iload_n 1, 1) := by decide +kernel
theorem dX1_greatestCount_48 : decode cX1_greatestCount 48 = .ok (.invokestatic 49, 3) := by decide +kernel
theorem dX1_greatestCount_51 : decode cX1_greatestCount 51 = .ok (.istore 5, 2) := by decide +kernel
theorem dX1_greatestCount_53 : decode cX1_greatestCount 53 = .ok (.iload 5, 2) := by decide +kernel
theorem dX1_greatestCount_55 : decode cX1_greatestCount 55 = .ok (.iload_n 1, 1) := by decide +kernel
theorem dX1_greatestCount_56 : decode cX1_greatestCount 56 = .ok (.iconst 1, 1) := by decide +kernel
theorem dX1_greatestCount_57 : decode cX1_greatestCount 57 = .ok (.iadd, 1) := by decide +kernel
theorem dX1_greatestCount_58 : decode cX1_greatestCount 58 = .ok (.invokestatic 49, 3) := by decide +kernel
theorem dX1_greatestCount_61 : decode cX1_greatestCount 61 = .ok (.if_icmp .ge 51, 3) := by decide +kernel
theorem dX1_greatestCount_64 : decode cX1_greatestCount 64 = .ok (.aload_n 0, 1) := by decide +kernel
theorem dX1_greatestCount_65 : decode cX1_greatestCount 65 = .ok (.iload 5, 2) := by decide +kernel
theorem dX1_greatestCount_67 : decode cX1_greatestCount 67 = .ok (.invokevirtual 19, 3) := by decide +kernel
theorem dX1_greatestCount_70 : decode cX1_greatestCount 70 = .ok (.aload_n 0, 1) := by decide +kernel
theorem dX1_greatestCount_71 : decode cX1_greatestCount 71 = .ok (.invokevirtual 79, 3) := by decide +kernel
theorem dX1_greatestCount_74 : decode cX1_greatestCount 74 = .ok (.iload_n 3, 1) := by decide +kernel
theorem dX1_greatestCount_75 : decode cX1_greatestCount 75 = .ok (.if_icmp .ne 27, 3) := by decide +kernel
theorem dX1_greatestCount_78 : decode cX1_greatestCount 78 = .ok (.aload_n 0, 1) := by decide +kernel
theorem dX1_greatestCount_79 : decode cX1_greatestCount 79 = .ok (.invokevirtual 83, 3) := by decide +kernel
theorem dX1_greatestCount_82 : decode cX1_greatestCount 82 = .ok (.iload_n 2, 1) := by decide +kernel
theorem dX1_greatestCount_83 : decode cX1_greatestCount 83 = .ok (.if_icmp .ne 19, 3) := by decide +kernel
theorem dX1_greatestCount_86 : decode cX1_greatestCount 86 = .ok (.aload_n 0, 1) := by decide +kernel
theorem dX1_greatestCount_87 : decode cX1_greatestCount 87 = .ok (.invokevirtual 86, 3) := by decide +kernel
theorem dX1_greatestCount_90 : decode cX1_greatestCount 90 = .ok (.iload 4, 2) := by decide +kernel
theorem dX1_greatestCount_92 : decode cX1_greatestCount 92 = .ok (.if_icmp .le 10, 3) := by decide +kernel
theorem dX1_greatestCount_95 : decode cX1_greatestCount 95 = .ok (.aload_n 0, 1) := by decide +kernel
theorem dX1_greatestCount_96 : decode cX1_greatestCount 96 = .ok (.invokevirtual 86, 3) := by decide +kernel
theorem dX1_greatestCount_99 : decode cX1_greatestCount 99 = .ok (.goto 5, 3) := by decide +kernel
theorem dX1_greatestCount_102 : decode cX1_greatestCount 102 = .ok (.iload 4, 2) := by decide +kernel
theorem dX1_greatestCount_104 : decode cX1_greatestCount 104 = .ok (.istore 4, 2) := by decide +kernel
theorem dX1_greatestCount_106 : decode cX1_greatestCount 106 = .ok (.iinc 5 1, 3) := by decide +kernel
theorem dX1_greatestCount_109 : decode cX1_greatestCount 109 = .ok (.goto (-56), 3) := by decide +kernel
theorem dX1_greatestCount_112 : decode cX1_greatestCount 112 = .ok (.iload 4, 2) := by decide +kernel
theorem dX1_greatestCount_114 : decode cX1_greatestCount 114 = .ok (.ireturn, 1) := by decide +kernel
set_option maxRecDepth 20000 in
theorem ggX1_lawful_X1_splits : GoodIn wsX1_lawful wsX1_splits := goodIn_r _ [8, 1, 2, 3, 9, 10, 7, 11, 12, 13, 14, 15, 16, 17, 18, 19, 20, 21, 22, 23, 24, 25, 26] (by decide +kernel) (by decide +kernel)
set_option maxRecDepth 20000 in
theorem gX1_lawful_X1_splits : GoodIn wsX1_lawful (wsV RX1 19 RX1 yX1_splits wsX1_splits) := goodIn_app (goodIn_of _ (by decide +kernel)) ggX1_lawful_X1_splits
set_option maxRecDepth 20000 in
theorem ggX1_lawful_X1_isLeap : GoodIn wsX1_lawful wsX1_isLeap := goodIn_r _ [17] (by decide +kernel) (by decide +kernel)
set_option maxRecDepth 20000 in
theorem gX1_lawful_X1_isLeap : GoodIn wsX1_lawful (va_wsS RX1 45 yX1_isLeap wsX1_isLeap) := goodIn_app (goodIn_of _ (by decide +kernel)) ggX1_lawful_X1_isLeap
theorem dX1_lawful_0 : decode cX1_lawful 0 = .ok (.aload_n 0, 1) := by decide +kernel
theorem dX1_lawful_1 : decode cX1_lawful 1 = .ok (.iload_n 1, 1) := by decide +kernel
theorem dX1_lawful_2 : decode cX1_lawful 2 = .ok (.invokevirtual 19, 3) := by decide +kernel
theorem dX1_lawful_5 : decode cX1_lawful 5 = .ok (.aload_n 0, 1) := by decide +kernel
theorem dX1_lawful_6 : decode cX1_lawful 6 = .ok (.getfield 56, 3) := by decide +kernel
theorem dX1_lawful_9 : decode cX1_lawful 9 = .ok (.invokestatic 45, 3) := by decide +kernel
theorem dX1_lawful_12 : decode cX1_lawful 12 = .ok (.ifCond .eq 32, 3) := by decide +kernel
theorem dX1_lawful_15 : decode cX1_lawful 15 = .ok (.aload_n 0, 1) := by decide +kernel
theorem dX1_lawful_16 : decode cX1_lawful 16 = .ok (.getfield 27, 3) := by decide +kernel
theorem dX1_lawful_19 : decode cX1_lawful 19 = .ok (.iconst 2, 1) := by decide +kernel
theorem dX1_lawful_20 : decode cX1_lawful 20 = .ok (.if_icmp .gt 20, 3) := by decide +kernel
theorem dX1_lawful_23 : decode cX1_lawful 23 = .ok (.aload_n 0, 1) := by decide +kernel
theorem dX1_lawful_24 : decode cX1_lawful 24 = .ok (.getfield 27, 3) := by decide +kernel
theorem dX1_lawful_27 : decode cX1_lawful 27 = .ok (.iconst 2, 1) := by decide +kernel
theorem dX1_lawful_28 : decode cX1_lawful 28 = .ok (.if_icmp .ne 16, 3) := by decide +kernel
theorem dX1_lawful_31 : decode cX1_lawful 31 = .ok (.aload_n 0, 1) := by decide +kernel
theorem dX1_lawful_32 : decode cX1_lawful 32 = .ok (.getfield 23, 3) := by decide +kernel
theorem dX1_lawful_35 : decode cX1_lawful 35 = .ok (.bipush 24, 2) := by decide +kernel
theorem dX1_lawful_37 : decode cX1_lawful 37 = .ok (.if_icmp .le 7, 3) := by decide +kernel
theorem dX1_lawful_40 : decode cX1_lawful 40 = .ok (.iconst 1, 1) := by decide +kernel
theorem dX1_lawful_41 : decode cX1_lawful 41 = .ok (.goto 4, 3) := by decide +kernel
theorem dX1_lawful_44 : decode cX1_lawful 44 = .ok (.iconst 0, 1) := by decide +kernel
theorem dX1_lawful_45 : decode cX1_lawful 45 = .ok (.istore_n 2, 1) := by decide +kernel
theorem dX1_lawful_46 : decode cX1_lawful 46 = .ok (.iload_n 1, 1) := by decide +kernel
theorem dX1_lawful_47 : decode cX1_lawful 47 = .ok (.aload_n 0, 1) := by decide +kernel
theorem dX1_lawful_48 : decode cX1_lawful 48 = .ok (.getfield 56, 3) := by decide +kernel
theorem dX1_lawful_51 : decode cX1_lawful 51 = .ok (.iconst 1, 1) := by decide +kernel
theorem dX1_lawful_52 : decode cX1_lawful 52 = .ok (.isub, 1) := by decide +kernel
theorem dX1_lawful_53 : decode cX1_lawful 53 = .ok (.iconst 4, 1) := by decide +kernel
theorem dX1_lawful_54 : decode cX1_lawful 54 = .ok (.idiv, 1) := by decide +kernel
theorem dX1_lawful_55 : decode cX1_lawful 55 = .ok (.isub, 1) := by decide +kernel
theorem dX1_lawful_56 : decode cX1_lawful 56 = .ok (.iload_n 2, 1) := by decide +kernel
theorem dX1_lawful_57 : decode cX1_lawful 57 = .ok (.ifCond .eq 7, 3) := by decide +kernel
theorem dX1_lawful_60 : decode cX1_lawful 60 = .ok (.iconst 1, 1) := by decide +kernel
theorem dX1_lawful_61 : decode cX1_lawful 61 = .ok (.goto 4, 3) := by decide +kernel
theorem dX1_lawful_64 : decode cX1_lawful 64 = .ok (.iconst 0, 1) := by decide +kernel
theorem dX1_lawful_65 : decode cX1_lawful 65 = .ok (.isub, 1) := by decide +kernel
theorem dX1_lawful_66 : decode cX1_lawful 66 = .ok (.ireturn, 1) := by decide +kernel
set_option maxRecDepth 20000 in
theorem ggX1_lawNumber_X1_isDay : GoodIn wsX1_lawNumber wsX1_isDay := goodIn_r _ [4, 5, 6, 7, 3, 8] (by decide +kernel) (by decide +kernel)
set_option maxRecDepth 20000 in
theorem gX1_lawNumber_X1_isDay : GoodIn wsX1_lawNumber (va_wsS RX1 59 yX1_isDay wsX1_isDay) := goodIn_app (goodIn_of _ (by decide +kernel)) ggX1_lawNumber_X1_isDay
set_option maxRecDepth 20000 in
theorem ggX1_lawNumber_X1_isFine : GoodIn wsX1_lawNumber wsX1_isFine := goodIn_r _ [12, 13, 34, 35, 36, 37, 38, 39, 40, 41, 42] (by decide +kernel) (by decide +kernel)
set_option maxRecDepth 20000 in
theorem gX1_lawNumber_X1_isFine : GoodIn wsX1_lawNumber (wsV RX1 62 RX1 yX1_isFine wsX1_isFine) := goodIn_app (goodIn_of _ (by decide +kernel)) ggX1_lawNumber_X1_isFine
set_option maxRecDepth 20000 in
theorem ggX1_lawNumber_X1_lawful : GoodIn wsX1_lawNumber wsX1_lawful := goodIn_r _ [17, 18, 19, 20, 21, 22, 23, 3, 24, 25, 26, 27, 28, 29, 30, 31, 32, 33, 34, 35, 36, 37, 38, 39, 40, 41, 42] (by decide +kernel) (by decide +kernel)
set_option maxRecDepth 20000 in
theorem gX1_lawNumber_X1_lawful : GoodIn wsX1_lawNumber (wsV RX1 97 RX1 yX1_lawful wsX1_lawful) := goodIn_app (goodIn_of _ (by decide +kernel)) ggX1_lawNumber_X1_lawful
theorem dX1_lawNumber_0 : decode cX1_lawNumber 0 = .ok (.aload_n 0, 1) := by decide +kernel
theorem dX1_lawNumber_1 : decode cX1_lawNumber 1 = .ok (.iload_n 1, 1) := by decide +kernel
theorem dX1_lawNumber_2 : decode cX1_lawNumber 2 = .ok (.invokestatic 59, 3) := by decide +kernel
theorem dX1_lawNumber_5 : decode cX1_lawNumber 5 = .ok (.ifCond .eq 7, 3) := by decide +kernel
theorem dX1_lawNumber_8 : decode cX1_lawNumber 8 = .ok (.iconst 0, 1) := by decide +kernel
theorem dX1_lawNumber_9 : decode cX1_lawNumber 9 = .ok (.goto 4, 3) := by decide +kernel
theorem dX1_lawNumber_12 : decode cX1_lawNumber 12 = .ok (.iconst 1, 1) := by decide +kernel
theorem dX1_lawNumber_13 : decode cX1_lawNumber 13 = .ok (.invokevirtual 62, 3) := by decide +kernel
theorem dX1_lawNumber_16 : decode cX1_lawNumber 16 = .ok (.ifCond .eq 11, 3) := by decide +kernel
theorem dX1_lawNumber_19 : decode cX1_lawNumber 19 = .ok (.aload_n 0, 1) := by decide +kernel
theorem dX1_lawNumber_20 : decode cX1_lawNumber 20 = .ok (.iload_n 1, 1) := by decide +kernel
theorem dX1_lawNumber_21 : decode cX1_lawNumber 21 = .ok (.invokevirtual 97, 3) := by decide +kernel
theorem dX1_lawNumber_24 : decode cX1_lawNumber 24 = .ok (.goto 4, 3) := by decide +kernel
theorem dX1_lawNumber_27 : decode cX1_lawNumber 27 = .ok (.iconst 0, 1) := by decide +kernel
theorem dX1_lawNumber_28 : decode cX1_lawNumber 28 = .ok (.ireturn, 1) := by decide +kernel
set_option maxRecDepth 20000 in
theorem ggX1_termEnd_X1_isDay : GoodIn wsX1_termEnd wsX1_isDay := goodIn_r _ [6, 7, 8, 9, 5, 10] (by decide +kernel) (by decide +kernel)
set_option maxRecDepth 20000 in
theorem gX1_termEnd_X1_isDay : GoodIn wsX1_termEnd (va_wsS RX1 59 yX1_isDay wsX1_isDay) := goodIn_app (goodIn_of _ (by decide +kernel)) ggX1_termEnd_X1_isDay
set_option maxRecDepth 20000 in
theorem ggX1_termEnd_X1_isIn : GoodIn wsX1_termEnd wsX1_isIn := goodIn_r _ [10] (by decide +kernel) (by decide +kernel)
set_option maxRecDepth 20000 in
theorem gX1_termEnd_X1_isIn : GoodIn wsX1_termEnd (va_wsS RX1 40 yX1_isIn wsX1_isIn) := goodIn_app (goodIn_of _ (by decide +kernel)) ggX1_termEnd_X1_isIn
set_option maxRecDepth 20000 in
theorem ggX1_termEnd_X1_lawful : GoodIn wsX1_termEnd wsX1_lawful := goodIn_r _ [14, 15, 16, 17, 18, 19, 20, 5, 21, 22, 23, 24, 25, 26, 27, 28, 29, 30, 36, 37, 38, 39, 40, 41, 42, 43, 44] (by decide +kernel) (by decide +kernel)
set_option maxRecDepth 20000 in
theorem gX1_termEnd_X1_lawful : GoodIn wsX1_termEnd (wsV RX1 97 RX1 yX1_lawful wsX1_lawful) := goodIn_app (goodIn_of _ (by decide +kernel)) ggX1_termEnd_X1_lawful
set_option maxRecDepth 20000 in
theorem ggX1_termEnd_X1_isFine : GoodIn wsX1_termEnd wsX1_isFine := goodIn_r _ [34, 35, 36, 37, 38, 39, 40, 41, 42, 43, 44] (by decide +kernel) (by decide +kernel)
set_option maxRecDepth 20000 in
theorem gX1_termEnd_X1_isFine : GoodIn wsX1_termEnd (wsV RX1 62 RX1 yX1_isFine wsX1_isFine) := goodIn_app (goodIn_of _ (by decide +kernel)) ggX1_termEnd_X1_isFine
theorem dX1_termEnd_0 : decode cX1_termEnd 0 = .ok (.iload_n 1, 1) := by decide +kernel
theorem dX1_termEnd_1 : decode cX1_termEnd 1 = .ok (.invokestatic 59, 3) := by decide +kernel
theorem dX1_termEnd_4 : decode cX1_termEnd 4 = .ok (.istore_n 3, 1) := by decide +kernel
theorem dX1_termEnd_5 : decode cX1_termEnd 5 = .ok (.iload_n 2, 1) := by decide +kernel
theorem dX1_termEnd_6 : decode cX1_termEnd 6 = .ok (.iconst 0, 1) := by decide +kernel
theorem dX1_termEnd_7 : decode cX1_termEnd 7 = .ok (.ldc 100, 2) := by decide +kernel
theorem dX1_termEnd_9 : decode cX1_termEnd 9 = .ok (.invokestatic 40, 3) := by decide +kernel
theorem dX1_termEnd_12 : decode cX1_termEnd 12 = .ok (.istore 4, 2) := by decide +kernel
theorem dX1_termEnd_14 : decode cX1_termEnd 14 = .ok (.iload_n 3, 1) := by decide +kernel
theorem dX1_termEnd_15 : decode cX1_termEnd 15 = .ok (.ifCond .eq 18, 3) := by decide +kernel
theorem dX1_termEnd_18 : decode cX1_termEnd 18 = .ok (.iload 4, 2) := by decide +kernel
theorem dX1_termEnd_20 : decode cX1_termEnd 20 = .ok (.ifCond .eq 13, 3) := by decide +kernel
theorem dX1_termEnd_23 : decode cX1_termEnd 23 = .ok (.aload_n 0, 1) := by decide +kernel
theorem dX1_termEnd_24 : decode cX1_termEnd 24 = .ok (.iload_n 1, 1) := by decide +kernel
theorem dX1_termEnd_25 : decode cX1_termEnd 25 = .ok (.invokevirtual 97, 3) := by decide +kernel
theorem dX1_termEnd_28 : decode cX1_termEnd 28 = .ok (.iload_n 2, 1) := by decide +kernel
theorem dX1_termEnd_29 : decode cX1_termEnd 29 = .ok (.iadd, 1) := by decide +kernel
theorem dX1_termEnd_30 : decode cX1_termEnd 30 = .ok (.goto 4, 3) := by decide +kernel
theorem dX1_termEnd_33 : decode cX1_termEnd 33 = .ok (.iconst 0, 1) := by decide +kernel
theorem dX1_termEnd_34 : decode cX1_termEnd 34 = .ok (.istore 5, 2) := by decide +kernel
theorem dX1_termEnd_36 : decode cX1_termEnd 36 = .ok (.iload_n 3, 1) := by decide +kernel
theorem dX1_termEnd_37 : decode cX1_termEnd 37 = .ok (.ifCond .eq 14, 3) := by decide +kernel
theorem dX1_termEnd_40 : decode cX1_termEnd 40 = .ok (.iload 4, 2) := by decide +kernel
theorem dX1_termEnd_42 : decode cX1_termEnd 42 = .ok (.ifCond .eq 9, 3) := by decide +kernel
theorem dX1_termEnd_45 : decode cX1_termEnd 45 = .ok (.iload_n 1, 1) := by decide +kernel
theorem dX1_termEnd_46 : decode cX1_termEnd 46 = .ok (.iload_n 2, 1) := by decide +kernel
theorem dX1_termEnd_47 : decode cX1_termEnd 47 = .ok (.iadd, 1) := by decide +kernel
theorem dX1_termEnd_48 : decode cX1_termEnd 48 = .ok (.goto 4, 3) := by decide +kernel
theorem dX1_termEnd_51 : decode cX1_termEnd 51 = .ok (.iconst 0, 1) := by decide +kernel
theorem dX1_termEnd_52 : decode cX1_termEnd 52 = .ok (.istore 6, 2) := by decide +kernel
theorem dX1_termEnd_54 : decode cX1_termEnd 54 = .ok (.iload 6, 2) := by decide +kernel
theorem dX1_termEnd_56 : decode cX1_termEnd 56 = .ok (.iconst 1, 1) := by decide +kernel
theorem dX1_termEnd_57 : decode cX1_termEnd 57 = .ok (.iadd, 1) := by decide +kernel
theorem dX1_termEnd_58 : decode cX1_termEnd 58 = .ok (.ldc 65, 2) := by decide +kernel
theorem dX1_termEnd_60 : decode cX1_termEnd 60 = .ok (.if_icmp .ge 31, 3) := by decide +kernel
theorem dX1_termEnd_63 : decode cX1_termEnd 63 = .ok (.iload_n 3, 1) := by decide +kernel
theorem dX1_termEnd_64 : decode cX1_termEnd 64 = .ok (.ifCond .eq 27, 3) := by decide +kernel
theorem dX1_termEnd_67 : decode cX1_termEnd 67 = .ok (.iload 4, 2) := by decide +kernel
theorem dX1_termEnd_69 : decode cX1_termEnd 69 = .ok (.ifCond .eq 22, 3) := by decide +kernel
theorem dX1_termEnd_72 : decode cX1_termEnd 72 = .ok (.aload_n 0, 1) := by decide +kernel
theorem dX1_termEnd_73 : decode cX1_termEnd 73 = .ok (.iload 6, 2) := by decide +kernel
theorem dX1_termEnd_75 : decode cX1_termEnd 75 = .ok (.iconst 1, 1) := by decide +kernel
theorem dX1_termEnd_76 : decode cX1_termEnd 76 = .ok (.iadd, 1) := by decide +kernel
theorem dX1_termEnd_77 : decode cX1_termEnd 77 = .ok (.invokevirtual 97, 3) := by decide +kernel
theorem dX1_termEnd_80 : decode cX1_termEnd 80 = .ok (.iload 5, 2) := by decide +kernel
theorem dX1_termEnd_82 : decode cX1_termEnd 82 = .ok (.if_icmp .gt 9, 3) := by decide +kernel
theorem dX1_termEnd_85 : decode cX1_termEnd 85 = .ok (.iinc 6 1, 3) := by decide +kernel
theorem dX1_termEnd_88 : decode cX1_termEnd 88 = .ok (.goto (-34), 3) := by decide +kernel
theorem dX1_termEnd_91 : decode cX1_termEnd 91 = .ok (.iload 6, 2) := by decide +kernel
theorem dX1_termEnd_93 : decode cX1_termEnd 93 = .ok (.ldc 65, 2) := by decide +kernel
theorem dX1_termEnd_95 : decode cX1_termEnd 95 = .ok (.if_icmp .ge 18, 3) := by decide +kernel
theorem dX1_termEnd_98 : decode cX1_termEnd 98 = .ok (.aload_n 0, 1) := by decide +kernel
theorem dX1_termEnd_99 : decode cX1_termEnd 99 = .ok (.iload 6, 2) := by decide +kernel
theorem dX1_termEnd_101 : decode cX1_termEnd 101 = .ok (.invokevirtual 97, 3) := by decide +kernel
theorem dX1_termEnd_104 : decode cX1_termEnd 104 = .ok (.iload 5, 2) := by decide +kernel
theorem dX1_termEnd_106 : decode cX1_termEnd 106 = .ok (.if_icmp .ne 7, 3) := by decide +kernel
theorem dX1_termEnd_109 : decode cX1_termEnd 109 = .ok (.iconst 1, 1) := by decide +kernel
theorem dX1_termEnd_110 : decode cX1_termEnd 110 = .ok (.goto 4, 3) := by decide +kernel
theorem dX1_termEnd_113 : decode cX1_termEnd 113 = .ok (.iconst 0, 1) := by decide +kernel
theorem dX1_termEnd_114 : decode cX1_termEnd 114 = .ok (.istore 7, 2) := by decide +kernel
theorem dX1_termEnd_116 : decode cX1_termEnd 116 = .ok (.aload_n 0, 1) := by decide +kernel
theorem dX1_termEnd_117 : decode cX1_termEnd 117 = .ok (.iload_n 3, 1) := by decide +kernel
theorem dX1_termEnd_118 : decode cX1_termEnd 118 = .ok (.ifCond .ne 7, 3) := by decide +kernel
theorem dX1_termEnd_121 : decode cX1_termEnd 121 = .ok (.iconst 1, 1) := by decide +kernel
theorem dX1_termEnd_122 : decode cX1_termEnd 122 = .ok (.goto 22, 3) := by decide +kernel
theorem dX1_termEnd_125 : decode cX1_termEnd 125 = .ok (.iload 4, 2) := by decide +kernel
theorem dX1_termEnd_127 : decode cX1_termEnd 127 = .ok (.ifCond .ne 7, 3) := by decide +kernel
theorem dX1_termEnd_130 : decode cX1_termEnd 130 = .ok (.iconst 2, 1) := by decide +kernel
theorem dX1_termEnd_131 : decode cX1_termEnd 131 = .ok (.goto 13, 3) := by decide +kernel
theorem dX1_termEnd_134 : decode cX1_termEnd 134 = .ok (.iload 7, 2) := by decide +kernel
theorem dX1_termEnd_136 : decode cX1_termEnd 136 = .ok (.ifCond .ne 7, 3) := by decide +kernel
theorem dX1_termEnd_139 : decode cX1_termEnd 139 = .ok (.iconst 3, 1) := by decide +kernel
theorem dX1_termEnd_140 : decode cX1_termEnd 140 = .ok (.goto 4, 3) := by decide +kernel
theorem dX1_termEnd_143 : decode cX1_termEnd 143 = .ok (.iconst 0, 1) := by decide +kernel
theorem dX1_termEnd_144 : decode cX1_termEnd 144 = .ok (.invokevirtual 62, 3) := by decide +kernel
theorem dX1_termEnd_147 : decode cX1_termEnd 147 = .ok (.ifCond .eq 8, 3) := by decide +kernel
theorem dX1_termEnd_150 : decode cX1_termEnd 150 = .ok (.iload 6, 2) := by decide +kernel
theorem dX1_termEnd_152 : decode cX1_termEnd 152 = .ok (.goto 4, 3) := by decide +kernel
theorem dX1_termEnd_155 : decode cX1_termEnd 155 = .ok (.iconst 0, 1) := by decide +kernel
theorem dX1_termEnd_156 : decode cX1_termEnd 156 = .ok (.ireturn, 1) := by decide +kernel
set_option maxRecDepth 20000 in
theorem ggX1_lawDays_X1_isDay : GoodIn wsX1_lawDays wsX1_isDay := goodIn_r _ [4, 5, 6, 7, 3, 8] (by decide +kernel) (by decide +kernel)
set_option maxRecDepth 20000 in
theorem gX1_lawDays_X1_isDay : GoodIn wsX1_lawDays (va_wsS RX1 59 yX1_isDay wsX1_isDay) := goodIn_app (goodIn_of _ (by decide +kernel)) ggX1_lawDays_X1_isDay
set_option maxRecDepth 20000 in
theorem ggX1_lawDays_X1_isFine : GoodIn wsX1_lawDays wsX1_isFine := goodIn_r _ [12, 13, 34, 35, 36, 37, 38, 39, 40, 41, 42] (by decide +kernel) (by decide +kernel)
set_option maxRecDepth 20000 in
theorem gX1_lawDays_X1_isFine : GoodIn wsX1_lawDays (wsV RX1 62 RX1 yX1_isFine wsX1_isFine) := goodIn_app (goodIn_of _ (by decide +kernel)) ggX1_lawDays_X1_isFine
set_option maxRecDepth 20000 in
theorem ggX1_lawDays_X1_lawful : GoodIn wsX1_lawDays wsX1_lawful := goodIn_r _ [17, 18, 19, 20, 21, 22, 23, 3, 24, 25, 26, 27, 28, 29, 30, 31, 32, 33, 34, 35, 36, 37, 38, 39, 40, 41, 42] (by decide +kernel) (by decide +kernel)
set_option maxRecDepth 20000 in
theorem gX1_lawDays_X1_lawful : GoodIn wsX1_lawDays (wsV RX1 97 RX1 yX1_lawful wsX1_lawful) := goodIn_app (goodIn_of _ (by decide +kernel)) ggX1_lawDays_X1_lawful
theorem dX1_lawDays_0 : decode cX1_lawDays 0 = .ok (.aload_n 0, 1) := by decide +kernel
theorem dX1_lawDays_1 : decode cX1_lawDays 1 = .ok (.iload_n 1, 1) := by decide +kernel
theorem dX1_lawDays_2 : decode cX1_lawDays 2 = .ok (.invokestatic 59, 3) := by decide +kernel
theorem dX1_lawDays_5 : decode cX1_lawDays 5 = .ok (.ifCond .eq 14, 3) := by decide +kernel
theorem dX1_lawDays_8 : decode cX1_lawDays 8 = .ok (.iload_n 2, 1) := by decide +kernel
theorem dX1_lawDays_9 : decode cX1_lawDays 9 = .ok (.invokestatic 59, 3) := by decide +kernel
theorem dX1_lawDays_12 : decode cX1_lawDays 12 = .ok (.ifCond .eq 7, 3) := by decide +kernel
theorem dX1_lawDays_15 : decode cX1_lawDays 15 = .ok (.iconst 0, 1) := by decide +kernel
theorem dX1_lawDays_16 : decode cX1_lawDays 16 = .ok (.goto 4, 3) := by decide +kernel
theorem dX1_lawDays_19 : decode cX1_lawDays 19 = .ok (.iconst 1, 1) := by decide +kernel
theorem dX1_lawDays_20 : decode cX1_lawDays 20 = .ok (.invokevirtual 62, 3) := by decide +kernel
theorem dX1_lawDays_23 : decode cX1_lawDays 23 = .ok (.ifCond .eq 17, 3) := by decide +kernel
theorem dX1_lawDays_26 : decode cX1_lawDays 26 = .ok (.aload_n 0, 1) := by decide +kernel
theorem dX1_lawDays_27 : decode cX1_lawDays 27 = .ok (.iload_n 2, 1) := by decide +kernel
theorem dX1_lawDays_28 : decode cX1_lawDays 28 = .ok (.invokevirtual 97, 3) := by decide +kernel
theorem dX1_lawDays_31 : decode cX1_lawDays 31 = .ok (.aload_n 0, 1) := by decide +kernel
theorem dX1_lawDays_32 : decode cX1_lawDays 32 = .ok (.iload_n 1, 1) := by decide +kernel
theorem dX1_lawDays_33 : decode cX1_lawDays 33 = .ok (.invokevirtual 97, 3) := by decide +kernel
theorem dX1_lawDays_36 : decode cX1_lawDays 36 = .ok (.isub, 1) := by decide +kernel
theorem dX1_lawDays_37 : decode cX1_lawDays 37 = .ok (.goto 4, 3) := by decide +kernel
theorem dX1_lawDays_40 : decode cX1_lawDays 40 = .ok (.iconst 0, 1) := by decide +kernel
theorem dX1_lawDays_41 : decode cX1_lawDays 41 = .ok (.ireturn, 1) := by decide +kernel
set_option maxRecDepth 20000 in
theorem ggX1_placed_X1_splits : GoodIn wsX1_placed wsX1_splits := goodIn_r _ [8, 1, 2, 3, 9, 10, 7, 11, 12, 13, 14, 15, 16, 17, 18, 19, 20, 21, 22, 23, 24, 25, 26] (by decide +kernel) (by decide +kernel)
set_option maxRecDepth 20000 in
theorem gX1_placed_X1_splits : GoodIn wsX1_placed (wsV RX1 19 RX1 yX1_splits wsX1_splits) := goodIn_app (goodIn_of _ (by decide +kernel)) ggX1_placed_X1_splits
set_option maxRecDepth 20000 in
theorem ggX1_placed_X1_isLeap : GoodIn wsX1_placed wsX1_isLeap := goodIn_r _ [17] (by decide +kernel) (by decide +kernel)
set_option maxRecDepth 20000 in
theorem gX1_placed_X1_isLeap : GoodIn wsX1_placed (va_wsS RX1 45 yX1_isLeap wsX1_isLeap) := goodIn_app (goodIn_of _ (by decide +kernel)) ggX1_placed_X1_isLeap
set_option maxRecDepth 20000 in
theorem ggX1_placed_X1_begin : GoodIn wsX1_placed wsX1_begin := goodIn_r _ [11] (by decide +kernel) (by decide +kernel)
set_option maxRecDepth 20000 in
theorem gX1_placed_X1_begin : GoodIn wsX1_placed (va_wsS RX1 49 yX1_begin wsX1_begin) := goodIn_app (goodIn_of _ (by decide +kernel)) ggX1_placed_X1_begin
theorem dX1_placed_0 : decode cX1_placed 0 = .ok (.aload_n 0, 1) := by decide +kernel
theorem dX1_placed_1 : decode cX1_placed 1 = .ok (.iload_n 1, 1) := by decide +kernel
theorem dX1_placed_2 : decode cX1_placed 2 = .ok (.invokevirtual 19, 3) := by decide +kernel
theorem dX1_placed_5 : decode cX1_placed 5 = .ok (.aload_n 0, 1) := by decide +kernel
theorem dX1_placed_6 : decode cX1_placed 6 = .ok (.getfield 56, 3) := by decide +kernel
theorem dX1_placed_9 : decode cX1_placed 9 = .ok (.invokestatic 45, 3) := by decide +kernel
theorem dX1_placed_12 : decode cX1_placed 12 = .ok (.ifCond .eq 32, 3) := by decide +kernel
theorem dX1_placed_15 : decode cX1_placed 15 = .ok (.aload_n 0, 1) := by decide +kernel
theorem dX1_placed_16 : decode cX1_placed 16 = .ok (.getfield 27, 3) := by decide +kernel
theorem dX1_placed_19 : decode cX1_placed 19 = .ok (.iconst 2, 1) := by decide +kernel
theorem dX1_placed_20 : decode cX1_placed 20 = .ok (.if_icmp .gt 20, 3) := by decide +kernel
theorem dX1_placed_23 : decode cX1_placed 23 = .ok (.aload_n 0, 1) := by decide +kernel
theorem dX1_placed_24 : decode cX1_placed 24 = .ok (.getfield 27, 3) := by decide +kernel
theorem dX1_placed_27 : decode cX1_placed 27 = .ok (.iconst 2, 1) := by decide +kernel
theorem dX1_placed_28 : decode cX1_placed 28 = .ok (.if_icmp .ne 16, 3) := by decide +kernel
theorem dX1_placed_31 : decode cX1_placed 31 = .ok (.aload_n 0, 1) := by decide +kernel
theorem dX1_placed_32 : decode cX1_placed 32 = .ok (.getfield 23, 3) := by decide +kernel
theorem dX1_placed_35 : decode cX1_placed 35 = .ok (.bipush 24, 2) := by decide +kernel
theorem dX1_placed_37 : decode cX1_placed 37 = .ok (.if_icmp .le 7, 3) := by decide +kernel
theorem dX1_placed_40 : decode cX1_placed 40 = .ok (.iconst 1, 1) := by decide +kernel
theorem dX1_placed_41 : decode cX1_placed 41 = .ok (.goto 4, 3) := by decide +kernel
theorem dX1_placed_44 : decode cX1_placed 44 = .ok (.iconst 0, 1) := by decide +kernel
theorem dX1_placed_45 : decode cX1_placed 45 = .ok (.istore_n 2, 1) := by decide +kernel
theorem dX1_placed_46 : decode cX1_placed 46 = .ok (.iload_n 1, 1) := by decide +kernel
theorem dX1_placed_47 : decode cX1_placed 47 = .ok (.aload_n 0, 1) := by decide +kernel
theorem dX1_placed_48 : decode cX1_placed 48 = .ok (.getfield 56, 3) := by decide +kernel
theorem dX1_placed_51 : decode cX1_placed 51 = .ok (.invokestatic 49, 3) := by decide +kernel
theorem dX1_placed_54 : decode cX1_placed 54 = .ok (.isub, 1) := by decide +kernel
theorem dX1_placed_55 : decode cX1_placed 55 = .ok (.iconst 1, 1) := by decide +kernel
theorem dX1_placed_56 : decode cX1_placed 56 = .ok (.iadd, 1) := by decide +kernel
theorem dX1_placed_57 : decode cX1_placed 57 = .ok (.iload_n 2, 1) := by decide +kernel
theorem dX1_placed_58 : decode cX1_placed 58 = .ok (.ifCond .eq 7, 3) := by decide +kernel
theorem dX1_placed_61 : decode cX1_placed 61 = .ok (.iconst 1, 1) := by decide +kernel
theorem dX1_placed_62 : decode cX1_placed 62 = .ok (.goto 4, 3) := by decide +kernel
theorem dX1_placed_65 : decode cX1_placed 65 = .ok (.iconst 0, 1) := by decide +kernel
theorem dX1_placed_66 : decode cX1_placed 66 = .ok (.isub, 1) := by decide +kernel
theorem dX1_placed_67 : decode cX1_placed 67 = .ok (.ireturn, 1) := by decide +kernel
set_option maxRecDepth 20000 in
theorem ggX1_placeOf_X1_isDay : GoodIn wsX1_placeOf wsX1_isDay := goodIn_r _ [4, 5, 6, 7, 3, 8] (by decide +kernel) (by decide +kernel)
set_option maxRecDepth 20000 in
theorem gX1_placeOf_X1_isDay : GoodIn wsX1_placeOf (va_wsS RX1 59 yX1_isDay wsX1_isDay) := goodIn_app (goodIn_of _ (by decide +kernel)) ggX1_placeOf_X1_isDay
set_option maxRecDepth 20000 in
theorem ggX1_placeOf_X1_isFine : GoodIn wsX1_placeOf wsX1_isFine := goodIn_r _ [12, 13, 34, 35, 36, 37, 38, 39, 40, 41, 42] (by decide +kernel) (by decide +kernel)
set_option maxRecDepth 20000 in
theorem gX1_placeOf_X1_isFine : GoodIn wsX1_placeOf (wsV RX1 62 RX1 yX1_isFine wsX1_isFine) := goodIn_app (goodIn_of _ (by decide +kernel)) ggX1_placeOf_X1_isFine
set_option maxRecDepth 20000 in
theorem ggX1_placeOf_X1_placed : GoodIn wsX1_placeOf wsX1_placed := goodIn_r _ [17, 18, 19, 20, 21, 22, 23, 3, 24, 25, 26, 27, 28, 29, 30, 31, 32, 33, 34, 35, 36, 37, 38, 39, 40, 41, 42] (by decide +kernel) (by decide +kernel)
set_option maxRecDepth 20000 in
theorem gX1_placeOf_X1_placed : GoodIn wsX1_placeOf (wsV RX1 101 RX1 yX1_placed wsX1_placed) := goodIn_app (goodIn_of _ (by decide +kernel)) ggX1_placeOf_X1_placed
theorem dX1_placeOf_0 : decode cX1_placeOf 0 = .ok (.aload_n 0, 1) := by decide +kernel
theorem dX1_placeOf_1 : decode cX1_placeOf 1 = .ok (.iload_n 1, 1) := by decide +kernel
theorem dX1_placeOf_2 : decode cX1_placeOf 2 = .ok (.invokestatic 59, 3) := by decide +kernel
theorem dX1_placeOf_5 : decode cX1_placeOf 5 = .ok (.ifCond .eq 7, 3) := by decide +kernel
theorem dX1_placeOf_8 : decode cX1_placeOf 8 = .ok (.iconst 0, 1) := by decide +kernel
theorem dX1_placeOf_9 : decode cX1_placeOf 9 = .ok (.goto 4, 3) := by decide +kernel
theorem dX1_placeOf_12 : decode cX1_placeOf 12 = .ok (.iconst 1, 1) := by decide +kernel
theorem dX1_placeOf_13 : decode cX1_placeOf 13 = .ok (.invokevirtual 62, 3) := by decide +kernel
theorem dX1_placeOf_16 : decode cX1_placeOf 16 = .ok (.ifCond .eq 11, 3) := by decide +kernel
theorem dX1_placeOf_19 : decode cX1_placeOf 19 = .ok (.aload_n 0, 1) := by decide +kernel
theorem dX1_placeOf_20 : decode cX1_placeOf 20 = .ok (.iload_n 1, 1) := by decide +kernel
theorem dX1_placeOf_21 : decode cX1_placeOf 21 = .ok (.invokevirtual 101, 3) := by decide +kernel
theorem dX1_placeOf_24 : decode cX1_placeOf 24 = .ok (.goto 4, 3) := by decide +kernel
theorem dX1_placeOf_27 : decode cX1_placeOf 27 = .ok (.iconst 0, 1) := by decide +kernel
theorem dX1_placeOf_28 : decode cX1_placeOf 28 = .ok (.ireturn, 1) := by decide +kernel
set_option maxRecDepth 20000 in
theorem ggX1_letterOfEight_X1_isDay : GoodIn wsX1_letterOfEight wsX1_isDay := goodIn_r _ [4, 5, 6, 7, 3, 8] (by decide +kernel) (by decide +kernel)
set_option maxRecDepth 20000 in
theorem gX1_letterOfEight_X1_isDay : GoodIn wsX1_letterOfEight (va_wsS RX1 59 yX1_isDay wsX1_isDay) := goodIn_app (goodIn_of _ (by decide +kernel)) ggX1_letterOfEight_X1_isDay
set_option maxRecDepth 20000 in
theorem ggX1_letterOfEight_X1_isFine : GoodIn wsX1_letterOfEight wsX1_isFine := goodIn_r _ [12, 13, 34, 35, 36, 37, 38, 39, 40, 41, 42] (by decide +kernel) (by decide +kernel)
set_option maxRecDepth 20000 in
theorem gX1_letterOfEight_X1_isFine : GoodIn wsX1_letterOfEight (wsV RX1 62 RX1 yX1_isFine wsX1_isFine) := goodIn_app (goodIn_of _ (by decide +kernel)) ggX1_letterOfEight_X1_isFine
set_option maxRecDepth 20000 in
theorem ggX1_letterOfEight_X1_placed : GoodIn wsX1_letterOfEight wsX1_placed := goodIn_r _ [17, 18, 19, 20, 21, 22, 23, 3, 24, 25, 26, 27, 28, 29, 30, 31, 32, 33, 34, 35, 36, 37, 38, 39, 40, 41, 42] (by decide +kernel) (by decide +kernel)
set_option maxRecDepth 20000 in
theorem gX1_letterOfEight_X1_placed : GoodIn wsX1_letterOfEight (wsV RX1 101 RX1 yX1_placed wsX1_placed) := goodIn_app (goodIn_of _ (by decide +kernel)) ggX1_letterOfEight_X1_placed
theorem dX1_letterOfEight_0 : decode cX1_letterOfEight 0 = .ok (.aload_n 0, 1) := by decide +kernel
theorem dX1_letterOfEight_1 : decode cX1_letterOfEight 1 = .ok (.iload_n 1, 1) := by decide +kernel
theorem dX1_letterOfEight_2 : decode cX1_letterOfEight 2 = .ok (.invokestatic 59, 3) := by decide +kernel
theorem dX1_letterOfEight_5 : decode cX1_letterOfEight 5 = .ok (.ifCond .eq 7, 3) := by decide +kernel
theorem dX1_letterOfEight_8 : decode cX1_letterOfEight 8 = .ok (.iconst 0, 1) := by decide +kernel
theorem dX1_letterOfEight_9 : decode cX1_letterOfEight 9 = .ok (.goto 4, 3) := by decide +kernel
theorem dX1_letterOfEight_12 : decode cX1_letterOfEight 12 = .ok (.iconst 1, 1) := by decide +kernel
theorem dX1_letterOfEight_13 : decode cX1_letterOfEight 13 = .ok (.invokevirtual 62, 3) := by decide +kernel
theorem dX1_letterOfEight_16 : decode cX1_letterOfEight 16 = .ok (.ifCond .eq 16, 3) := by decide +kernel
theorem dX1_letterOfEight_19 : decode cX1_letterOfEight 19 = .ok (.aload_n 0, 1) := by decide +kernel
theorem dX1_letterOfEight_20 : decode cX1_letterOfEight 20 = .ok (.iload_n 1, 1) := by decide +kernel
theorem dX1_letterOfEight_21 : decode cX1_letterOfEight 21 = .ok (.invokevirtual 101, 3) := by decide +kernel
theorem dX1_letterOfEight_24 : decode cX1_letterOfEight 24 = .ok (.iconst 1, 1) := by decide +kernel
theorem dX1_letterOfEight_25 : decode cX1_letterOfEight 25 = .ok (.isub, 1) := by decide +kernel
theorem dX1_letterOfEight_26 : decode cX1_letterOfEight 26 = .ok (.bipush 8, 2) := by decide +kernel
theorem dX1_letterOfEight_28 : decode cX1_letterOfEight 28 = .ok (.irem, 1) := by decide +kernel
theorem dX1_letterOfEight_29 : decode cX1_letterOfEight 29 = .ok (.goto 4, 3) := by decide +kernel
theorem dX1_letterOfEight_32 : decode cX1_letterOfEight 32 = .ok (.iconst 0, 1) := by decide +kernel
theorem dX1_letterOfEight_33 : decode cX1_letterOfEight 33 = .ok (.ireturn, 1) := by decide +kernel
set_option maxRecDepth 20000 in
theorem ggX1_letterOfSeven_X1_isDay : GoodIn wsX1_letterOfSeven wsX1_isDay := goodIn_r _ [4, 5, 6, 7, 3, 8] (by decide +kernel) (by decide +kernel)
set_option maxRecDepth 20000 in
theorem gX1_letterOfSeven_X1_isDay : GoodIn wsX1_letterOfSeven (va_wsS RX1 59 yX1_isDay wsX1_isDay) := goodIn_app (goodIn_of _ (by decide +kernel)) ggX1_letterOfSeven_X1_isDay
set_option maxRecDepth 20000 in
theorem ggX1_letterOfSeven_X1_isFine : GoodIn wsX1_letterOfSeven wsX1_isFine := goodIn_r _ [12, 13, 34, 35, 36, 37, 38, 39, 40, 41, 42] (by decide +kernel) (by decide +kernel)
set_option maxRecDepth 20000 in
theorem gX1_letterOfSeven_X1_isFine : GoodIn wsX1_letterOfSeven (wsV RX1 62 RX1 yX1_isFine wsX1_isFine) := goodIn_app (goodIn_of _ (by decide +kernel)) ggX1_letterOfSeven_X1_isFine
set_option maxRecDepth 20000 in
theorem ggX1_letterOfSeven_X1_placed : GoodIn wsX1_letterOfSeven wsX1_placed := goodIn_r _ [17, 18, 19, 20, 21, 22, 23, 3, 24, 25, 26, 27, 28, 29, 30, 31, 32, 33, 34, 35, 36, 37, 38, 39, 40, 41, 42] (by decide +kernel) (by decide +kernel)
set_option maxRecDepth 20000 in
theorem gX1_letterOfSeven_X1_placed : GoodIn wsX1_letterOfSeven (wsV RX1 101 RX1 yX1_placed wsX1_placed) := goodIn_app (goodIn_of _ (by decide +kernel)) ggX1_letterOfSeven_X1_placed
theorem dX1_letterOfSeven_0 : decode cX1_letterOfSeven 0 = .ok (.aload_n 0, 1) := by decide +kernel
theorem dX1_letterOfSeven_1 : decode cX1_letterOfSeven 1 = .ok (.iload_n 1, 1) := by decide +kernel
theorem dX1_letterOfSeven_2 : decode cX1_letterOfSeven 2 = .ok (.invokestatic 59, 3) := by decide +kernel
theorem dX1_letterOfSeven_5 : decode cX1_letterOfSeven 5 = .ok (.ifCond .eq 7, 3) := by decide +kernel
theorem dX1_letterOfSeven_8 : decode cX1_letterOfSeven 8 = .ok (.iconst 0, 1) := by decide +kernel
theorem dX1_letterOfSeven_9 : decode cX1_letterOfSeven 9 = .ok (.goto 4, 3) := by decide +kernel
theorem dX1_letterOfSeven_12 : decode cX1_letterOfSeven 12 = .ok (.iconst 1, 1) := by decide +kernel
theorem dX1_letterOfSeven_13 : decode cX1_letterOfSeven 13 = .ok (.invokevirtual 62, 3) := by decide +kernel
theorem dX1_letterOfSeven_16 : decode cX1_letterOfSeven 16 = .ok (.ifCond .eq 16, 3) := by decide +kernel
theorem dX1_letterOfSeven_19 : decode cX1_letterOfSeven 19 = .ok (.aload_n 0, 1) := by decide +kernel
theorem dX1_letterOfSeven_20 : decode cX1_letterOfSeven 20 = .ok (.iload_n 1, 1) := by decide +kernel
theorem dX1_letterOfSeven_21 : decode cX1_letterOfSeven 21 = .ok (.invokevirtual 101, 3) := by decide +kernel
theorem dX1_letterOfSeven_24 : decode cX1_letterOfSeven 24 = .ok (.iconst 1, 1) := by decide +kernel
theorem dX1_letterOfSeven_25 : decode cX1_letterOfSeven 25 = .ok (.isub, 1) := by decide +kernel
theorem dX1_letterOfSeven_26 : decode cX1_letterOfSeven 26 = .ok (.bipush 7, 2) := by decide +kernel
theorem dX1_letterOfSeven_28 : decode cX1_letterOfSeven 28 = .ok (.irem, 1) := by decide +kernel
theorem dX1_letterOfSeven_29 : decode cX1_letterOfSeven 29 = .ok (.goto 4, 3) := by decide +kernel
theorem dX1_letterOfSeven_32 : decode cX1_letterOfSeven 32 = .ok (.iconst 0, 1) := by decide +kernel
theorem dX1_letterOfSeven_33 : decode cX1_letterOfSeven 33 = .ok (.ireturn, 1) := by decide +kernel
set_option maxRecDepth 20000 in
theorem ggX1_setMarketDay_X1_isDay : GoodIn wsX1_setMarketDay wsX1_isDay := goodIn_r _ [5, 6, 7, 8, 4, 9] (by decide +kernel) (by decide +kernel)
set_option maxRecDepth 20000 in
theorem gX1_setMarketDay_X1_isDay : GoodIn wsX1_setMarketDay (va_wsS RX1 59 yX1_isDay wsX1_isDay) := goodIn_app (goodIn_of _ (by decide +kernel)) ggX1_setMarketDay_X1_isDay
set_option maxRecDepth 20000 in
theorem ggX1_setMarketDay_X1_isFine : GoodIn wsX1_setMarketDay wsX1_isFine := goodIn_r _ [13, 14, 15, 16, 17, 18, 19, 20, 21, 22, 23] (by decide +kernel) (by decide +kernel)
set_option maxRecDepth 20000 in
theorem gX1_setMarketDay_X1_isFine : GoodIn wsX1_setMarketDay (wsV RX1 62 RX1 yX1_isFine wsX1_isFine) := goodIn_app (goodIn_of _ (by decide +kernel)) ggX1_setMarketDay_X1_isFine
theorem dX1_setMarketDay_0 : decode cX1_setMarketDay 0 = .ok (.aload_n 0, 1) := by decide +kernel
theorem dX1_setMarketDay_1 : decode cX1_setMarketDay 1 = .ok (.iload_n 1, 1) := by decide +kernel
theorem dX1_setMarketDay_2 : decode cX1_setMarketDay 2 = .ok (.invokestatic 59, 3) := by decide +kernel
theorem dX1_setMarketDay_5 : decode cX1_setMarketDay 5 = .ok (.ifCond .eq 7, 3) := by decide +kernel
theorem dX1_setMarketDay_8 : decode cX1_setMarketDay 8 = .ok (.iconst 0, 1) := by decide +kernel
theorem dX1_setMarketDay_9 : decode cX1_setMarketDay 9 = .ok (.goto 4, 3) := by decide +kernel
theorem dX1_setMarketDay_12 : decode cX1_setMarketDay 12 = .ok (.iconst 1, 1) := by decide +kernel
theorem dX1_setMarketDay_13 : decode cX1_setMarketDay 13 = .ok (.invokevirtual 62, 3) := by decide +kernel
theorem dX1_setMarketDay_16 : decode cX1_setMarketDay 16 = .ok (.ifCond .ne 5, 3) := by decide +kernel
theorem dX1_setMarketDay_19 : decode cX1_setMarketDay 19 = .ok (.iconst 0, 1) := by decide +kernel
theorem dX1_setMarketDay_20 : decode cX1_setMarketDay 20 = .ok (.ireturn, 1) := by decide +kernel
theorem dX1_setMarketDay_21 : decode cX1_setMarketDay 21 = .ok (.aload_n 0, 1) := by decide +kernel
theorem dX1_setMarketDay_22 : decode cX1_setMarketDay 22 = .ok (.getfield 104, 3) := by decide +kernel
theorem dX1_setMarketDay_25 : decode cX1_setMarketDay 25 = .ok (.istore_n 2, 1) := by decide +kernel
theorem dX1_setMarketDay_26 : decode cX1_setMarketDay 26 = .ok (.aload_n 0, 1) := by decide +kernel
theorem dX1_setMarketDay_27 : decode cX1_setMarketDay 27 = .ok (.iload_n 1, 1) := by decide +kernel
theorem dX1_setMarketDay_28 : decode cX1_setMarketDay 28 = .ok (.bipush 8, 2) := by decide +kernel
theorem dX1_setMarketDay_30 : decode cX1_setMarketDay 30 = .ok (.irem, 1) := by decide +kernel
theorem dX1_setMarketDay_31 : decode cX1_setMarketDay 31 = .ok (.putfield 104, 3) := by decide +kernel
theorem dX1_setMarketDay_34 : decode cX1_setMarketDay 34 = .ok (.iload_n 2, 1) := by decide +kernel
theorem dX1_setMarketDay_35 : decode cX1_setMarketDay 35 = .ok (.ireturn, 1) := by decide +kernel
set_option maxRecDepth 20000 in
theorem ggX1_isMarket_X1_isDay : GoodIn wsX1_isMarket wsX1_isDay := goodIn_r _ [5, 6, 7, 8, 4, 9] (by decide +kernel) (by decide +kernel)
set_option maxRecDepth 20000 in
theorem gX1_isMarket_X1_isDay : GoodIn wsX1_isMarket (va_wsS RX1 59 yX1_isDay wsX1_isDay) := goodIn_app (goodIn_of _ (by decide +kernel)) ggX1_isMarket_X1_isDay
set_option maxRecDepth 20000 in
theorem ggX1_isMarket_X1_isFine : GoodIn wsX1_isMarket wsX1_isFine := goodIn_r _ [13, 14, 15, 16, 17, 18, 19, 20, 21, 22, 23] (by decide +kernel) (by decide +kernel)
set_option maxRecDepth 20000 in
theorem gX1_isMarket_X1_isFine : GoodIn wsX1_isMarket (wsV RX1 62 RX1 yX1_isFine wsX1_isFine) := goodIn_app (goodIn_of _ (by decide +kernel)) ggX1_isMarket_X1_isFine
theorem dX1_isMarket_0 : decode cX1_isMarket 0 = .ok (.aload_n 0, 1) := by decide +kernel
theorem dX1_isMarket_1 : decode cX1_isMarket 1 = .ok (.iload_n 1, 1) := by decide +kernel
theorem dX1_isMarket_2 : decode cX1_isMarket 2 = .ok (.invokestatic 59, 3) := by decide +kernel
theorem dX1_isMarket_5 : decode cX1_isMarket 5 = .ok (.ifCond .eq 7, 3) := by decide +kernel
theorem dX1_isMarket_8 : decode cX1_isMarket 8 = .ok (.iconst 0, 1) := by decide +kernel
theorem dX1_isMarket_9 : decode cX1_isMarket 9 = .ok (.goto 4, 3) := by decide +kernel
theorem dX1_isMarket_12 : decode cX1_isMarket 12 = .ok (.iconst 1, 1) := by decide +kernel
theorem dX1_isMarket_13 : decode cX1_isMarket 13 = .ok (.invokevirtual 62, 3) := by decide +kernel
theorem dX1_isMarket_16 : decode cX1_isMarket 16 = .ok (.ifCond .eq 18, 3) := by decide +kernel
theorem dX1_isMarket_19 : decode cX1_isMarket 19 = .ok (.iload_n 1, 1) := by decide +kernel
theorem dX1_isMarket_20 : decode cX1_isMarket 20 = .ok (.bipush 8, 2) := by decide +kernel
theorem dX1_isMarket_22 : decode cX1_isMarket 22 = .ok (.irem, 1) := by decide +kernel
theorem dX1_isMarket_23 : decode cX1_isMarket 23 = .ok (.aload_n 0, 1) := by decide +kernel
theorem dX1_isMarket_24 : decode cX1_isMarket 24 = .ok (.getfield 104, 3) := by decide +kernel
theorem dX1_isMarket_27 : decode cX1_isMarket 27 = .ok (.if_icmp .ne 7, 3) := by decide +kernel
theorem dX1_isMarket_30 : decode cX1_isMarket 30 = .ok (.iconst 1, 1) := by decide +kernel
theorem dX1_isMarket_31 : decode cX1_isMarket 31 = .ok (.goto 4, 3) := by decide +kernel
theorem dX1_isMarket_34 : decode cX1_isMarket 34 = .ok (.iconst 0, 1) := by decide +kernel
theorem dX1_isMarket_35 : decode cX1_isMarket 35 = .ok (.ireturn, 1) := by decide +kernel
set_option maxRecDepth 20000 in
theorem ggX1_letters_X1_begin : GoodIn wsX1_letters wsX1_begin := goodIn_r _ [4] (by decide +kernel) (by decide +kernel)
set_option maxRecDepth 20000 in
theorem gX1_letters_X1_begin : GoodIn wsX1_letters (va_wsS RX1 49 yX1_begin wsX1_begin) := goodIn_app (goodIn_of _ (by decide +kernel)) ggX1_letters_X1_begin
set_option maxRecDepth 20000 in
theorem ggX1_letters_X1_placed : GoodIn wsX1_letters wsX1_placed := goodIn_r _ [8, 9, 10, 11, 12, 13, 14, 3, 15, 1, 2, 4, 16, 17, 18, 19, 20, 21, 22, 23, 24, 25, 26, 27, 28, 29, 30] (by decide +kernel) (by decide +kernel)
set_option maxRecDepth 20000 in
theorem gX1_letters_X1_placed : GoodIn wsX1_letters (wsV RX1 101 RX1 yX1_placed wsX1_placed) := goodIn_app (goodIn_of _ (by decide +kernel)) ggX1_letters_X1_placed
theorem dX1_letters_0 : decode cX1_letters 0 = .ok (.iload_n 1, 1) := by decide +kernel
theorem dX1_letters_1 : decode cX1_letters 1 = .ok (.invokestatic 49, 3) := by decide +kernel
theorem dX1_letters_4 : decode cX1_letters 4 = .ok (.istore 4, 2) := by decide +kernel
theorem dX1_letters_6 : decode cX1_letters 6 = .ok (.iload 4, 2) := by decide +kernel
theorem dX1_letters_8 : decode cX1_letters 8 = .ok (.iload_n 2, 1) := by decide +kernel
theorem dX1_letters_9 : decode cX1_letters 9 = .ok (.irem, 1) := by decide +kernel
theorem dX1_letters_10 : decode cX1_letters 10 = .ok (.iload_n 3, 1) := by decide +kernel
theorem dX1_letters_11 : decode cX1_letters 11 = .ok (.if_icmp .eq 9, 3) := by decide +kernel
theorem dX1_letters_14 : decode cX1_letters 14 = .ok (.iinc 4 1, 3) := by decide +kernel
theorem dX1_letters_17 : decode cX1_letters 17 = .ok (.goto (-11), 3) := by decide +kernel
theorem dX1_letters_20 : decode cX1_letters 20 = .ok (.iload_n 1, 1) := by decide +kernel
theorem dX1_letters_21 : decode cX1_letters 21 = .ok (.iconst 1, 1) := by decide +kernel
theorem dX1_letters_22 : decode cX1_letters 22 = .ok (.iadd, 1) := by decide +kernel
theorem dX1_letters_23 : decode cX1_letters 23 = .ok (.invokestatic 49, 3) := by decide +kernel
theorem dX1_letters_26 : decode cX1_letters 26 = .ok (.iconst 1, 1) := by decide +kernel
theorem dX1_letters_27 : decode cX1_letters 27 = .ok (.isub, 1) := by decide +kernel
theorem dX1_letters_28 : decode cX1_letters 28 = .ok (.istore 5, 2) := by decide +kernel
theorem dX1_letters_30 : decode cX1_letters 30 = .ok (.iload 5, 2) := by decide +kernel
theorem dX1_letters_32 : decode cX1_letters 32 = .ok (.iload_n 2, 1) := by decide +kernel
theorem dX1_letters_33 : decode cX1_letters 33 = .ok (.irem, 1) := by decide +kernel
theorem dX1_letters_34 : decode cX1_letters 34 = .ok (.iload_n 3, 1) := by decide +kernel
theorem dX1_letters_35 : decode cX1_letters 35 = .ok (.if_icmp .eq 9, 3) := by decide +kernel
theorem dX1_letters_38 : decode cX1_letters 38 = .ok (.iinc 5 (-1), 3) := by decide +kernel
theorem dX1_letters_41 : decode cX1_letters 41 = .ok (.goto (-11), 3) := by decide +kernel
theorem dX1_letters_44 : decode cX1_letters 44 = .ok (.bipush 10, 2) := by decide +kernel
theorem dX1_letters_46 : decode cX1_letters 46 = .ok (.aload_n 0, 1) := by decide +kernel
theorem dX1_letters_47 : decode cX1_letters 47 = .ok (.iload 4, 2) := by decide +kernel
theorem dX1_letters_49 : decode cX1_letters 49 = .ok (.invokevirtual 101, 3) := by decide +kernel
theorem dX1_letters_52 : decode cX1_letters 52 = .ok (.iconst 1, 1) := by decide +kernel
theorem dX1_letters_53 : decode cX1_letters 53 = .ok (.isub, 1) := by decide +kernel
theorem dX1_letters_54 : decode cX1_letters 54 = .ok (.iload_n 2, 1) := by decide +kernel
theorem dX1_letters_55 : decode cX1_letters 55 = .ok (.irem, 1) := by decide +kernel
theorem dX1_letters_56 : decode cX1_letters 56 = .ok (.imul, 1) := by decide +kernel
theorem dX1_letters_57 : decode cX1_letters 57 = .ok (.aload_n 0, 1) := by decide +kernel
theorem dX1_letters_58 : decode cX1_letters 58 = .ok (.iload 5, 2) := by decide +kernel
theorem dX1_letters_60 : decode cX1_letters 60 = .ok (.invokevirtual 101, 3) := by decide +kernel
theorem dX1_letters_63 : decode cX1_letters 63 = .ok (.iconst 1, 1) := by decide +kernel
theorem dX1_letters_64 : decode cX1_letters 64 = .ok (.isub, 1) := by decide +kernel
theorem dX1_letters_65 : decode cX1_letters 65 = .ok (.iload_n 2, 1) := by decide +kernel
theorem dX1_letters_66 : decode cX1_letters 66 = .ok (.irem, 1) := by decide +kernel
theorem dX1_letters_67 : decode cX1_letters 67 = .ok (.iadd, 1) := by decide +kernel
theorem dX1_letters_68 : decode cX1_letters 68 = .ok (.ireturn, 1) := by decide +kernel
set_option maxRecDepth 20000 in
theorem ggX1_marketLetters_X1_isYear : GoodIn wsX1_marketLetters wsX1_isYear := goodIn_r _ [5, 6, 7, 4, 8] (by decide +kernel) (by decide +kernel)
set_option maxRecDepth 20000 in
theorem gX1_marketLetters_X1_isYear : GoodIn wsX1_marketLetters (va_wsS RX1 66 yX1_isYear wsX1_isYear) := goodIn_app (goodIn_of _ (by decide +kernel)) ggX1_marketLetters_X1_isYear
set_option maxRecDepth 20000 in
theorem ggX1_marketLetters_X1_isFine : GoodIn wsX1_marketLetters wsX1_isFine := goodIn_r _ [12, 13, 38, 39, 40, 41, 42, 43, 44, 45, 46] (by decide +kernel) (by decide +kernel)
set_option maxRecDepth 20000 in
theorem gX1_marketLetters_X1_isFine : GoodIn wsX1_marketLetters (wsV RX1 62 RX1 yX1_isFine wsX1_isFine) := goodIn_app (goodIn_of _ (by decide +kernel)) ggX1_marketLetters_X1_isFine
set_option maxRecDepth 20000 in
theorem ggX1_marketLetters_X1_letters : GoodIn wsX1_marketLetters wsX1_letters := goodIn_r _ [17, 18, 19, 4, 20, 21, 22, 23, 24, 25, 26, 27, 28, 29, 30, 31, 32, 33, 34, 35, 36, 37, 38, 39, 40, 41, 42, 43, 44, 45, 46] (by decide +kernel) (by decide +kernel)
set_option maxRecDepth 20000 in
theorem gX1_marketLetters_X1_letters : GoodIn wsX1_marketLetters (wsV RX1 107 RX1 yX1_letters wsX1_letters) := goodIn_app (goodIn_of _ (by decide +kernel)) ggX1_marketLetters_X1_letters
theorem dX1_marketLetters_0 : decode cX1_marketLetters 0 = .ok (.aload_n 0, 1) := by decide +kernel
theorem dX1_marketLetters_1 : decode cX1_marketLetters 1 = .ok (.iload_n 1, 1) := by decide +kernel
theorem dX1_marketLetters_2 : decode cX1_marketLetters 2 = .ok (.invokestatic 66, 3) := by decide +kernel
theorem dX1_marketLetters_5 : decode cX1_marketLetters 5 = .ok (.ifCond .eq 7, 3) := by decide +kernel
theorem dX1_marketLetters_8 : decode cX1_marketLetters 8 = .ok (.iconst 0, 1) := by decide +kernel
theorem dX1_marketLetters_9 : decode cX1_marketLetters 9 = .ok (.goto 4, 3) := by decide +kernel
theorem dX1_marketLetters_12 : decode cX1_marketLetters 12 = .ok (.iconst 1, 1) := by decide +kernel
theorem dX1_marketLetters_13 : decode cX1_marketLetters 13 = .ok (.invokevirtual 62, 3) := by decide +kernel
theorem dX1_marketLetters_16 : decode cX1_marketLetters 16 = .ok (.ifCond .eq 17, 3) := by decide +kernel
theorem dX1_marketLetters_19 : decode cX1_marketLetters 19 = .ok (.aload_n 0, 1) := by decide +kernel
theorem dX1_marketLetters_20 : decode cX1_marketLetters 20 = .ok (.iload_n 1, 1) := by decide +kernel
theorem dX1_marketLetters_21 : decode cX1_marketLetters 21 = .ok (.bipush 8, 2) := by decide +kernel
theorem dX1_marketLetters_23 : decode cX1_marketLetters 23 = .ok (.aload_n 0, 1) := by decide +kernel
theorem dX1_marketLetters_24 : decode cX1_marketLetters 24 = .ok (.getfield 104, 3) := by decide +kernel
theorem dX1_marketLetters_27 : decode cX1_marketLetters 27 = .ok (.invokevirtual 107, 3) := by decide +kernel
theorem dX1_marketLetters_30 : decode cX1_marketLetters 30 = .ok (.goto 4, 3) := by decide +kernel
theorem dX1_marketLetters_33 : decode cX1_marketLetters 33 = .ok (.iconst 0, 1) := by decide +kernel
theorem dX1_marketLetters_34 : decode cX1_marketLetters 34 = .ok (.ireturn, 1) := by decide +kernel
set_option maxRecDepth 20000 in
theorem ggX1_sundayLetters_X1_isYear : GoodIn wsX1_sundayLetters wsX1_isYear := goodIn_r _ [4, 5, 6, 3, 7] (by decide +kernel) (by decide +kernel)
set_option maxRecDepth 20000 in
theorem gX1_sundayLetters_X1_isYear : GoodIn wsX1_sundayLetters (va_wsS RX1 66 yX1_isYear wsX1_isYear) := goodIn_app (goodIn_of _ (by decide +kernel)) ggX1_sundayLetters_X1_isYear
set_option maxRecDepth 20000 in
theorem ggX1_sundayLetters_X1_isFine : GoodIn wsX1_sundayLetters wsX1_isFine := goodIn_r _ [11, 12, 37, 38, 39, 40, 41, 42, 43, 44, 45] (by decide +kernel) (by decide +kernel)
set_option maxRecDepth 20000 in
theorem gX1_sundayLetters_X1_isFine : GoodIn wsX1_sundayLetters (wsV RX1 62 RX1 yX1_isFine wsX1_isFine) := goodIn_app (goodIn_of _ (by decide +kernel)) ggX1_sundayLetters_X1_isFine
set_option maxRecDepth 20000 in
theorem ggX1_sundayLetters_X1_letters : GoodIn wsX1_sundayLetters wsX1_letters := goodIn_r _ [16, 17, 18, 3, 19, 20, 21, 22, 23, 24, 25, 26, 27, 28, 29, 30, 31, 32, 33, 34, 35, 36, 37, 38, 39, 40, 41, 42, 43, 44, 45] (by decide +kernel) (by decide +kernel)
set_option maxRecDepth 20000 in
theorem gX1_sundayLetters_X1_letters : GoodIn wsX1_sundayLetters (wsV RX1 107 RX1 yX1_letters wsX1_letters) := goodIn_app (goodIn_of _ (by decide +kernel)) ggX1_sundayLetters_X1_letters
theorem dX1_sundayLetters_0 : decode cX1_sundayLetters 0 = .ok (.aload_n 0, 1) := by decide +kernel
theorem dX1_sundayLetters_1 : decode cX1_sundayLetters 1 = .ok (.iload_n 1, 1) := by decide +kernel
theorem dX1_sundayLetters_2 : decode cX1_sundayLetters 2 = .ok (.invokestatic 66, 3) := by decide +kernel
theorem dX1_sundayLetters_5 : decode cX1_sundayLetters 5 = .ok (.ifCond .eq 7, 3) := by decide +kernel
theorem dX1_sundayLetters_8 : decode cX1_sundayLetters 8 = .ok (.iconst 0, 1) := by decide +kernel
theorem dX1_sundayLetters_9 : decode cX1_sundayLetters 9 = .ok (.goto 4, 3) := by decide +kernel
theorem dX1_sundayLetters_12 : decode cX1_sundayLetters 12 = .ok (.iconst 1, 1) := by decide +kernel
theorem dX1_sundayLetters_13 : decode cX1_sundayLetters 13 = .ok (.invokevirtual 62, 3) := by decide +kernel
theorem dX1_sundayLetters_16 : decode cX1_sundayLetters 16 = .ok (.ifCond .eq 14, 3) := by decide +kernel
theorem dX1_sundayLetters_19 : decode cX1_sundayLetters 19 = .ok (.aload_n 0, 1) := by decide +kernel
theorem dX1_sundayLetters_20 : decode cX1_sundayLetters 20 = .ok (.iload_n 1, 1) := by decide +kernel
theorem dX1_sundayLetters_21 : decode cX1_sundayLetters 21 = .ok (.bipush 7, 2) := by decide +kernel
theorem dX1_sundayLetters_23 : decode cX1_sundayLetters 23 = .ok (.iconst 1, 1) := by decide +kernel
theorem dX1_sundayLetters_24 : decode cX1_sundayLetters 24 = .ok (.invokevirtual 107, 3) := by decide +kernel
theorem dX1_sundayLetters_27 : decode cX1_sundayLetters 27 = .ok (.goto 4, 3) := by decide +kernel
theorem dX1_sundayLetters_30 : decode cX1_sundayLetters 30 = .ok (.iconst 0, 1) := by decide +kernel
theorem dX1_sundayLetters_31 : decode cX1_sundayLetters 31 = .ok (.ireturn, 1) := by decide +kernel
set_option maxRecDepth 20000 in
theorem ggX1_setConsuls_X1_isIn : GoodIn wsX1_setConsuls wsX1_isIn := goodIn_r _ [7] (by decide +kernel) (by decide +kernel)
set_option maxRecDepth 20000 in
theorem gX1_setConsuls_X1_isIn : GoodIn wsX1_setConsuls (va_wsS RX1 40 yX1_isIn wsX1_isIn) := goodIn_app (goodIn_of _ (by decide +kernel)) ggX1_setConsuls_X1_isIn
set_option maxRecDepth 20000 in
theorem ggX1_setConsuls_X1_isYear : GoodIn wsX1_setConsuls wsX1_isYear := goodIn_r _ [10, 4, 5, 6, 7] (by decide +kernel) (by decide +kernel)
set_option maxRecDepth 20000 in
theorem gX1_setConsuls_X1_isYear : GoodIn wsX1_setConsuls (va_wsS RX1 66 yX1_isYear wsX1_isYear) := goodIn_app (goodIn_of _ (by decide +kernel)) ggX1_setConsuls_X1_isYear
set_option maxRecDepth 20000 in
theorem ggX1_setConsuls_X1_isFine : GoodIn wsX1_setConsuls wsX1_isFine := goodIn_r _ [14, 15, 16, 17, 18, 19, 20, 21, 22, 23, 24] (by decide +kernel) (by decide +kernel)
set_option maxRecDepth 20000 in
theorem gX1_setConsuls_X1_isFine : GoodIn wsX1_setConsuls (wsV RX1 62 RX1 yX1_isFine wsX1_isFine) := goodIn_app (goodIn_of _ (by decide +kernel)) ggX1_setConsuls_X1_isFine
theorem dX1_setConsuls_0 : decode cX1_setConsuls 0 = .ok (.iload_n 2, 1) := by decide +kernel
theorem dX1_setConsuls_1 : decode cX1_setConsuls 1 = .ok (.iconst 1, 1) := by decide +kernel
theorem dX1_setConsuls_2 : decode cX1_setConsuls 2 = .ok (.sipush 999, 3) := by decide +kernel
theorem dX1_setConsuls_5 : decode cX1_setConsuls 5 = .ok (.invokestatic 40, 3) := by decide +kernel
theorem dX1_setConsuls_8 : decode cX1_setConsuls 8 = .ok (.ifCond .eq 23, 3) := by decide +kernel
theorem dX1_setConsuls_11 : decode cX1_setConsuls 11 = .ok (.iload_n 3, 1) := by decide +kernel
theorem dX1_setConsuls_12 : decode cX1_setConsuls 12 = .ok (.iconst 1, 1) := by decide +kernel
theorem dX1_setConsuls_13 : decode cX1_setConsuls 13 = .ok (.sipush 999, 3) := by decide +kernel
theorem dX1_setConsuls_16 : decode cX1_setConsuls 16 = .ok (.invokestatic 40, 3) := by decide +kernel
theorem dX1_setConsuls_19 : decode cX1_setConsuls 19 = .ok (.ifCond .eq 12, 3) := by decide +kernel
theorem dX1_setConsuls_22 : decode cX1_setConsuls 22 = .ok (.iload_n 2, 1) := by decide +kernel
theorem dX1_setConsuls_23 : decode cX1_setConsuls 23 = .ok (.iload_n 3, 1) := by decide +kernel
theorem dX1_setConsuls_24 : decode cX1_setConsuls 24 = .ok (.if_icmp .eq 7, 3) := by decide +kernel
theorem dX1_setConsuls_27 : decode cX1_setConsuls 27 = .ok (.iconst 1, 1) := by decide +kernel
theorem dX1_setConsuls_28 : decode cX1_setConsuls 28 = .ok (.goto 4, 3) := by decide +kernel
theorem dX1_setConsuls_31 : decode cX1_setConsuls 31 = .ok (.iconst 0, 1) := by decide +kernel
theorem dX1_setConsuls_32 : decode cX1_setConsuls 32 = .ok (.istore 4, 2) := by decide +kernel
theorem dX1_setConsuls_34 : decode cX1_setConsuls 34 = .ok (.aload_n 0, 1) := by decide +kernel
theorem dX1_setConsuls_35 : decode cX1_setConsuls 35 = .ok (.iload_n 1, 1) := by decide +kernel
theorem dX1_setConsuls_36 : decode cX1_setConsuls 36 = .ok (.invokestatic 66, 3) := by decide +kernel
theorem dX1_setConsuls_39 : decode cX1_setConsuls 39 = .ok (.ifCond .ne 7, 3) := by decide +kernel
theorem dX1_setConsuls_42 : decode cX1_setConsuls 42 = .ok (.iconst 1, 1) := by decide +kernel
theorem dX1_setConsuls_43 : decode cX1_setConsuls 43 = .ok (.goto 35, 3) := by decide +kernel
theorem dX1_setConsuls_46 : decode cX1_setConsuls 46 = .ok (.iload 4, 2) := by decide +kernel
theorem dX1_setConsuls_48 : decode cX1_setConsuls 48 = .ok (.ifCond .ne 7, 3) := by decide +kernel
theorem dX1_setConsuls_51 : decode cX1_setConsuls 51 = .ok (.iconst 2, 1) := by decide +kernel
theorem dX1_setConsuls_52 : decode cX1_setConsuls 52 = .ok (.goto 26, 3) := by decide +kernel
theorem dX1_setConsuls_55 : decode cX1_setConsuls 55 = .ok (.aload_n 0, 1) := by decide +kernel
theorem dX1_setConsuls_56 : decode cX1_setConsuls 56 = .ok (.getfield 13, 3) := by decide +kernel
theorem dX1_setConsuls_59 : decode cX1_setConsuls 59 = .ok (.iload_n 1, 1) := by decide +kernel
theorem dX1_setConsuls_60 : decode cX1_setConsuls 60 = .ok (.iaload, 1) := by decide +kernel
theorem dX1_setConsuls_61 : decode cX1_setConsuls 61 = .ok (.ifCond .ne 16, 3) := by decide +kernel
theorem dX1_setConsuls_64 : decode cX1_setConsuls 64 = .ok (.aload_n 0, 1) := by decide +kernel
theorem dX1_setConsuls_65 : decode cX1_setConsuls 65 = .ok (.getfield 110, 3) := by decide +kernel
theorem dX1_setConsuls_68 : decode cX1_setConsuls 68 = .ok (.bipush 60, 2) := by decide +kernel
theorem dX1_setConsuls_70 : decode cX1_setConsuls 70 = .ok (.if_icmp .ne 7, 3) := by decide +kernel
theorem dX1_setConsuls_73 : decode cX1_setConsuls 73 = .ok (.iconst 3, 1) := by decide +kernel
theorem dX1_setConsuls_74 : decode cX1_setConsuls 74 = .ok (.goto 4, 3) := by decide +kernel
theorem dX1_setConsuls_77 : decode cX1_setConsuls 77 = .ok (.iconst 0, 1) := by decide +kernel
theorem dX1_setConsuls_78 : decode cX1_setConsuls 78 = .ok (.invokevirtual 62, 3) := by decide +kernel
theorem dX1_setConsuls_81 : decode cX1_setConsuls 81 = .ok (.ifCond .ne 5, 3) := by decide +kernel
theorem dX1_setConsuls_84 : decode cX1_setConsuls 84 = .ok (.iconst 0, 1) := by decide +kernel
theorem dX1_setConsuls_85 : decode cX1_setConsuls 85 = .ok (.ireturn, 1) := by decide +kernel
theorem dX1_setConsuls_86 : decode cX1_setConsuls 86 = .ok (.aload_n 0, 1) := by decide +kernel
theorem dX1_setConsuls_87 : decode cX1_setConsuls 87 = .ok (.dup, 1) := by decide +kernel
theorem dX1_setConsuls_88 : decode cX1_setConsuls 88 = .ok (.getfield 110, 3) := by decide +kernel
theorem dX1_setConsuls_91 : decode cX1_setConsuls 91 = .ok (.aload_n 0, 1) := by decide +kernel
theorem dX1_setConsuls_92 : decode cX1_setConsuls 92 = .ok (.getfield 13, 3) := by decide +kernel
theorem dX1_setConsuls_95 : decode cX1_setConsuls 95 = .ok (.iload_n 1, 1) := by decide +kernel
theorem dX1_setConsuls_96 : decode cX1_setConsuls 96 = .ok (.iaload, 1) := by decide +kernel
theorem dX1_setConsuls_97 : decode cX1_setConsuls 97 = .ok (.ifCond .ne 7, 3) := by decide +kernel
theorem dX1_setConsuls_100 : decode cX1_setConsuls 100 = .ok (.iconst 1, 1) := by decide +kernel
theorem dX1_setConsuls_101 : decode cX1_setConsuls 101 = .ok (.goto 4, 3) := by decide +kernel
theorem dX1_setConsuls_104 : decode cX1_setConsuls 104 = .ok (.iconst 0, 1) := by decide +kernel
theorem dX1_setConsuls_105 : decode cX1_setConsuls 105 = .ok (.iadd, 1) := by decide +kernel
theorem dX1_setConsuls_106 : decode cX1_setConsuls 106 = .ok (.putfield 110, 3) := by decide +kernel
theorem dX1_setConsuls_109 : decode cX1_setConsuls 109 = .ok (.aload_n 0, 1) := by decide +kernel
theorem dX1_setConsuls_110 : decode cX1_setConsuls 110 = .ok (.getfield 13, 3) := by decide +kernel
theorem dX1_setConsuls_113 : decode cX1_setConsuls 113 = .ok (.iload_n 1, 1) := by decide +kernel
theorem dX1_setConsuls_114 : decode cX1_setConsuls 114 = .ok (.iload_n 2, 1) := by decide +kernel
theorem dX1_setConsuls_115 : decode cX1_setConsuls 115 = .ok (.iastore, 1) := by decide +kernel
theorem dX1_setConsuls_116 : decode cX1_setConsuls 116 = .ok (.aload_n 0, 1) := by decide +kernel
theorem dX1_setConsuls_117 : decode cX1_setConsuls 117 = .ok (.getfield 16, 3) := by decide +kernel
theorem dX1_setConsuls_120 : decode cX1_setConsuls 120 = .ok (.iload_n 1, 1) := by decide +kernel
theorem dX1_setConsuls_121 : decode cX1_setConsuls 121 = .ok (.iload_n 3, 1) := by decide +kernel
theorem dX1_setConsuls_122 : decode cX1_setConsuls 122 = .ok (.iastore, 1) := by decide +kernel
theorem dX1_setConsuls_123 : decode cX1_setConsuls 123 = .ok (.aload_n 0, 1) := by decide +kernel
theorem dX1_setConsuls_124 : decode cX1_setConsuls 124 = .ok (.getfield 110, 3) := by decide +kernel
theorem dX1_setConsuls_127 : decode cX1_setConsuls 127 = .ok (.ireturn, 1) := by decide +kernel
set_option maxRecDepth 20000 in
theorem ggX1_strikeConsuls_X1_isYear : GoodIn wsX1_strikeConsuls wsX1_isYear := goodIn_r _ [7, 8, 9, 6, 10] (by decide +kernel) (by decide +kernel)
set_option maxRecDepth 20000 in
theorem gX1_strikeConsuls_X1_isYear : GoodIn wsX1_strikeConsuls (va_wsS RX1 66 yX1_isYear wsX1_isYear) := goodIn_app (goodIn_of _ (by decide +kernel)) ggX1_strikeConsuls_X1_isYear
set_option maxRecDepth 20000 in
theorem ggX1_strikeConsuls_X1_isFine : GoodIn wsX1_strikeConsuls wsX1_isFine := goodIn_r _ [14, 15, 16, 17, 18, 19, 20, 21, 22, 23, 24] (by decide +kernel) (by decide +kernel)
set_option maxRecDepth 20000 in
theorem gX1_strikeConsuls_X1_isFine : GoodIn wsX1_strikeConsuls (wsV RX1 62 RX1 yX1_isFine wsX1_isFine) := goodIn_app (goodIn_of _ (by decide +kernel)) ggX1_strikeConsuls_X1_isFine
theorem dX1_strikeConsuls_0 : decode cX1_strikeConsuls 0 = .ok (.aload_n 0, 1) := by decide +kernel
theorem dX1_strikeConsuls_1 : decode cX1_strikeConsuls 1 = .ok (.iload_n 1, 1) := by decide +kernel
theorem dX1_strikeConsuls_2 : decode cX1_strikeConsuls 2 = .ok (.invokestatic 66, 3) := by decide +kernel
theorem dX1_strikeConsuls_5 : decode cX1_strikeConsuls 5 = .ok (.ifCond .ne 7, 3) := by decide +kernel
theorem dX1_strikeConsuls_8 : decode cX1_strikeConsuls 8 = .ok (.iconst 1, 1) := by decide +kernel
theorem dX1_strikeConsuls_9 : decode cX1_strikeConsuls 9 = .ok (.goto 17, 3) := by decide +kernel
theorem dX1_strikeConsuls_12 : decode cX1_strikeConsuls 12 = .ok (.aload_n 0, 1) := by decide +kernel
theorem dX1_strikeConsuls_13 : decode cX1_strikeConsuls 13 = .ok (.getfield 13, 3) := by decide +kernel
theorem dX1_strikeConsuls_16 : decode cX1_strikeConsuls 16 = .ok (.iload_n 1, 1) := by decide +kernel
theorem dX1_strikeConsuls_17 : decode cX1_strikeConsuls 17 = .ok (.iaload, 1) := by decide +kernel
theorem dX1_strikeConsuls_18 : decode cX1_strikeConsuls 18 = .ok (.ifCond .ne 7, 3) := by decide +kernel
theorem dX1_strikeConsuls_21 : decode cX1_strikeConsuls 21 = .ok (.iconst 2, 1) := by decide +kernel
theorem dX1_strikeConsuls_22 : decode cX1_strikeConsuls 22 = .ok (.goto 4, 3) := by decide +kernel
theorem dX1_strikeConsuls_25 : decode cX1_strikeConsuls 25 = .ok (.iconst 0, 1) := by decide +kernel
theorem dX1_strikeConsuls_26 : decode cX1_strikeConsuls 26 = .ok (.invokevirtual 62, 3) := by decide +kernel
theorem dX1_strikeConsuls_29 : decode cX1_strikeConsuls 29 = .ok (.ifCond .ne 5, 3) := by decide +kernel
theorem dX1_strikeConsuls_32 : decode cX1_strikeConsuls 32 = .ok (.iconst 0, 1) := by decide +kernel
theorem dX1_strikeConsuls_33 : decode cX1_strikeConsuls 33 = .ok (.ireturn, 1) := by decide +kernel
theorem dX1_strikeConsuls_34 : decode cX1_strikeConsuls 34 = .ok (.aload_n 0, 1) := by decide +kernel
theorem dX1_strikeConsuls_35 : decode cX1_strikeConsuls 35 = .ok (.getfield 13, 3) := by decide +kernel
theorem dX1_strikeConsuls_38 : decode cX1_strikeConsuls 38 = .ok (.iload_n 1, 1) := by decide +kernel
theorem dX1_strikeConsuls_39 : decode cX1_strikeConsuls 39 = .ok (.iconst 0, 1) := by decide +kernel
theorem dX1_strikeConsuls_40 : decode cX1_strikeConsuls 40 = .ok (.iastore, 1) := by decide +kernel
theorem dX1_strikeConsuls_41 : decode cX1_strikeConsuls 41 = .ok (.aload_n 0, 1) := by decide +kernel
theorem dX1_strikeConsuls_42 : decode cX1_strikeConsuls 42 = .ok (.getfield 16, 3) := by decide +kernel
theorem dX1_strikeConsuls_45 : decode cX1_strikeConsuls 45 = .ok (.iload_n 1, 1) := by decide +kernel
theorem dX1_strikeConsuls_46 : decode cX1_strikeConsuls 46 = .ok (.iconst 0, 1) := by decide +kernel
theorem dX1_strikeConsuls_47 : decode cX1_strikeConsuls 47 = .ok (.iastore, 1) := by decide +kernel
theorem dX1_strikeConsuls_48 : decode cX1_strikeConsuls 48 = .ok (.aload_n 0, 1) := by decide +kernel
theorem dX1_strikeConsuls_49 : decode cX1_strikeConsuls 49 = .ok (.dup, 1) := by decide +kernel
theorem dX1_strikeConsuls_50 : decode cX1_strikeConsuls 50 = .ok (.getfield 110, 3) := by decide +kernel
theorem dX1_strikeConsuls_53 : decode cX1_strikeConsuls 53 = .ok (.iconst 1, 1) := by decide +kernel
theorem dX1_strikeConsuls_54 : decode cX1_strikeConsuls 54 = .ok (.isub, 1) := by decide +kernel
theorem dX1_strikeConsuls_55 : decode cX1_strikeConsuls 55 = .ok (.putfield 110, 3) := by decide +kernel
theorem dX1_strikeConsuls_58 : decode cX1_strikeConsuls 58 = .ok (.aload_n 0, 1) := by decide +kernel
theorem dX1_strikeConsuls_59 : decode cX1_strikeConsuls 59 = .ok (.getfield 110, 3) := by decide +kernel
theorem dX1_strikeConsuls_62 : decode cX1_strikeConsuls 62 = .ok (.ireturn, 1) := by decide +kernel
set_option maxRecDepth 20000 in
theorem ggX1_consulsOf_X1_isYear : GoodIn wsX1_consulsOf wsX1_isYear := goodIn_r _ [6, 7, 8, 5, 9] (by decide +kernel) (by decide +kernel)
set_option maxRecDepth 20000 in
theorem gX1_consulsOf_X1_isYear : GoodIn wsX1_consulsOf (va_wsS RX1 66 yX1_isYear wsX1_isYear) := goodIn_app (goodIn_of _ (by decide +kernel)) ggX1_consulsOf_X1_isYear
set_option maxRecDepth 20000 in
theorem ggX1_consulsOf_X1_isFine : GoodIn wsX1_consulsOf wsX1_isFine := goodIn_r _ [13, 14, 15, 16, 17, 18, 19, 20, 21, 22, 23] (by decide +kernel) (by decide +kernel)
set_option maxRecDepth 20000 in
theorem gX1_consulsOf_X1_isFine : GoodIn wsX1_consulsOf (wsV RX1 62 RX1 yX1_isFine wsX1_isFine) := goodIn_app (goodIn_of _ (by decide +kernel)) ggX1_consulsOf_X1_isFine
theorem dX1_consulsOf_0 : decode cX1_consulsOf 0 = .ok (.aload_n 0, 1) := by decide +kernel
theorem dX1_consulsOf_1 : decode cX1_consulsOf 1 = .ok (.iload_n 1, 1) := by decide +kernel
theorem dX1_consulsOf_2 : decode cX1_consulsOf 2 = .ok (.invokestatic 66, 3) := by decide +kernel
theorem dX1_consulsOf_5 : decode cX1_consulsOf 5 = .ok (.ifCond .eq 7, 3) := by decide +kernel
theorem dX1_consulsOf_8 : decode cX1_consulsOf 8 = .ok (.iconst 0, 1) := by decide +kernel
theorem dX1_consulsOf_9 : decode cX1_consulsOf 9 = .ok (.goto 4, 3) := by decide +kernel
theorem dX1_consulsOf_12 : decode cX1_consulsOf 12 = .ok (.iconst 1, 1) := by decide +kernel
theorem dX1_consulsOf_13 : decode cX1_consulsOf 13 = .ok (.invokevirtual 62, 3) := by decide +kernel
theorem dX1_consulsOf_16 : decode cX1_consulsOf 16 = .ok (.ifCond .ne 5, 3) := by decide +kernel
theorem dX1_consulsOf_19 : decode cX1_consulsOf 19 = .ok (.iconst 0, 1) := by decide +kernel
theorem dX1_consulsOf_20 : decode cX1_consulsOf 20 = .ok (.ireturn, 1) := by decide +kernel
theorem dX1_consulsOf_21 : decode cX1_consulsOf 21 = .ok (.aload_n 0, 1) := by decide +kernel
theorem dX1_consulsOf_22 : decode cX1_consulsOf 22 = .ok (.getfield 13, 3) := by decide +kernel
theorem dX1_consulsOf_25 : decode cX1_consulsOf 25 = .ok (.iload_n 1, 1) := by decide +kernel
theorem dX1_consulsOf_26 : decode cX1_consulsOf 26 = .ok (.iaload, 1) := by decide +kernel
theorem dX1_consulsOf_27 : decode cX1_consulsOf 27 = .ok (.ifCond .ne 7, 3) := by decide +kernel
theorem dX1_consulsOf_30 : decode cX1_consulsOf 30 = .ok (.iconst (-1), 1) := by decide +kernel
theorem dX1_consulsOf_31 : decode cX1_consulsOf 31 = .ok (.goto 20, 3) := by decide +kernel
theorem dX1_consulsOf_34 : decode cX1_consulsOf 34 = .ok (.sipush 1000, 3) := by decide +kernel
theorem dX1_consulsOf_37 : decode cX1_consulsOf 37 = .ok (.aload_n 0, 1) := by decide +kernel
theorem dX1_consulsOf_38 : decode cX1_consulsOf 38 = .ok (.getfield 13, 3) := by decide +kernel
theorem dX1_consulsOf_41 : decode cX1_consulsOf 41 = .ok (.iload_n 1, 1) := by decide +kernel
theorem dX1_consulsOf_42 : decode cX1_consulsOf 42 = .ok (.iaload, 1) := by decide +kernel
theorem dX1_consulsOf_43 : decode cX1_consulsOf 43 = .ok (.imul, 1) := by decide +kernel
theorem dX1_consulsOf_44 : decode cX1_consulsOf 44 = .ok (.aload_n 0, 1) := by decide +kernel
theorem dX1_consulsOf_45 : decode cX1_consulsOf 45 = .ok (.getfield 16, 3) := by decide +kernel
theorem dX1_consulsOf_48 : decode cX1_consulsOf 48 = .ok (.iload_n 1, 1) := by decide +kernel
theorem dX1_consulsOf_49 : decode cX1_consulsOf 49 = .ok (.iaload, 1) := by decide +kernel
theorem dX1_consulsOf_50 : decode cX1_consulsOf 50 = .ok (.iadd, 1) := by decide +kernel
theorem dX1_consulsOf_51 : decode cX1_consulsOf 51 = .ok (.ireturn, 1) := by decide +kernel
set_option maxRecDepth 20000 in
theorem ggX1_afterConsuls_X1_isYear : GoodIn wsX1_afterConsuls wsX1_isYear := goodIn_r _ [5, 6, 7, 4, 8] (by decide +kernel) (by decide +kernel)
set_option maxRecDepth 20000 in
theorem gX1_afterConsuls_X1_isYear : GoodIn wsX1_afterConsuls (va_wsS RX1 66 yX1_isYear wsX1_isYear) := goodIn_app (goodIn_of _ (by decide +kernel)) ggX1_afterConsuls_X1_isYear
set_option maxRecDepth 20000 in
theorem ggX1_afterConsuls_X1_isFine : GoodIn wsX1_afterConsuls wsX1_isFine := goodIn_r _ [12, 13, 14, 15, 16, 17, 18, 19, 20, 21, 22] (by decide +kernel) (by decide +kernel)
set_option maxRecDepth 20000 in
theorem gX1_afterConsuls_X1_isFine : GoodIn wsX1_afterConsuls (wsV RX1 62 RX1 yX1_isFine wsX1_isFine) := goodIn_app (goodIn_of _ (by decide +kernel)) ggX1_afterConsuls_X1_isFine
theorem dX1_afterConsuls_0 : decode cX1_afterConsuls 0 = .ok (.aload_n 0, 1) := by decide +kernel
theorem dX1_afterConsuls_1 : decode cX1_afterConsuls 1 = .ok (.iload_n 1, 1) := by decide +kernel
theorem dX1_afterConsuls_2 : decode cX1_afterConsuls 2 = .ok (.invokestatic 66, 3) := by decide +kernel
theorem dX1_afterConsuls_5 : decode cX1_afterConsuls 5 = .ok (.ifCond .eq 7, 3) := by decide +kernel
theorem dX1_afterConsuls_8 : decode cX1_afterConsuls 8 = .ok (.iconst 0, 1) := by decide +kernel
theorem dX1_afterConsuls_9 : decode cX1_afterConsuls 9 = .ok (.goto 4, 3) := by decide +kernel
theorem dX1_afterConsuls_12 : decode cX1_afterConsuls 12 = .ok (.iconst 1, 1) := by decide +kernel
theorem dX1_afterConsuls_13 : decode cX1_afterConsuls 13 = .ok (.invokevirtual 62, 3) := by decide +kernel
theorem dX1_afterConsuls_16 : decode cX1_afterConsuls 16 = .ok (.ifCond .ne 5, 3) := by decide +kernel
theorem dX1_afterConsuls_19 : decode cX1_afterConsuls 19 = .ok (.iconst 0, 1) := by decide +kernel
theorem dX1_afterConsuls_20 : decode cX1_afterConsuls 20 = .ok (.ireturn, 1) := by decide +kernel
theorem dX1_afterConsuls_21 : decode cX1_afterConsuls 21 = .ok (.iload_n 1, 1) := by decide +kernel
theorem dX1_afterConsuls_22 : decode cX1_afterConsuls 22 = .ok (.istore_n 2, 1) := by decide +kernel
theorem dX1_afterConsuls_23 : decode cX1_afterConsuls 23 = .ok (.iload_n 2, 1) := by decide +kernel
theorem dX1_afterConsuls_24 : decode cX1_afterConsuls 24 = .ok (.ifCond .le 18, 3) := by decide +kernel
theorem dX1_afterConsuls_27 : decode cX1_afterConsuls 27 = .ok (.aload_n 0, 1) := by decide +kernel
theorem dX1_afterConsuls_28 : decode cX1_afterConsuls 28 = .ok (.getfield 13, 3) := by decide +kernel
theorem dX1_afterConsuls_31 : decode cX1_afterConsuls 31 = .ok (.iload_n 2, 1) := by decide +kernel
theorem dX1_afterConsuls_32 : decode cX1_afterConsuls 32 = .ok (.iaload, 1) := by decide +kernel
theorem dX1_afterConsuls_33 : decode cX1_afterConsuls 33 = .ok (.ifCond .ne 9, 3) := by decide +kernel
theorem dX1_afterConsuls_36 : decode cX1_afterConsuls 36 = .ok (.iinc 2 (-1), 3) := by decide +kernel
theorem dX1_afterConsuls_39 : decode cX1_afterConsuls 39 = .ok (.goto (-16), 3) := by decide +kernel
theorem dX1_afterConsuls_42 : decode cX1_afterConsuls 42 = .ok (.iload_n 2, 1) := by decide +kernel
theorem dX1_afterConsuls_43 : decode cX1_afterConsuls 43 = .ok (.ifCond .ne 7, 3) := by decide +kernel
theorem dX1_afterConsuls_46 : decode cX1_afterConsuls 46 = .ok (.iconst (-1), 1) := by decide +kernel
theorem dX1_afterConsuls_47 : decode cX1_afterConsuls 47 = .ok (.goto 6, 3) := by decide +kernel
theorem dX1_afterConsuls_50 : decode cX1_afterConsuls 50 = .ok (.iload_n 1, 1) := by decide +kernel
theorem dX1_afterConsuls_51 : decode cX1_afterConsuls 51 = .ok (.iload_n 2, 1) := by decide +kernel
theorem dX1_afterConsuls_52 : decode cX1_afterConsuls 52 = .ok (.isub, 1) := by decide +kernel
theorem dX1_afterConsuls_53 : decode cX1_afterConsuls 53 = .ok (.ireturn, 1) := by decide +kernel
set_option maxRecDepth 20000 in
theorem ggX1_yearOfConsuls_X1_isFine : GoodIn wsX1_yearOfConsuls wsX1_isFine := goodIn_r _ [7, 8, 9, 10, 11, 12, 13, 14, 15, 16, 17] (by decide +kernel) (by decide +kernel)
set_option maxRecDepth 20000 in
theorem gX1_yearOfConsuls_X1_isFine : GoodIn wsX1_yearOfConsuls (wsV RX1 62 RX1 yX1_isFine wsX1_isFine) := goodIn_app (goodIn_of _ (by decide +kernel)) ggX1_yearOfConsuls_X1_isFine
theorem dX1_yearOfConsuls_0 : decode cX1_yearOfConsuls 0 = .ok (.aload_n 0, 1) := by decide +kernel
theorem dX1_yearOfConsuls_1 : decode cX1_yearOfConsuls 1 = .ok (.iload_n 3, 1) := by decide +kernel
theorem dX1_yearOfConsuls_2 : decode cX1_yearOfConsuls 2 = .ok (.iconst 1, 1) := by decide +kernel
theorem dX1_yearOfConsuls_3 : decode cX1_yearOfConsuls 3 = .ok (.if_icmp .lt 7, 3) := by decide +kernel
theorem dX1_yearOfConsuls_6 : decode cX1_yearOfConsuls 6 = .ok (.iconst 0, 1) := by decide +kernel
theorem dX1_yearOfConsuls_7 : decode cX1_yearOfConsuls 7 = .ok (.goto 4, 3) := by decide +kernel
theorem dX1_yearOfConsuls_10 : decode cX1_yearOfConsuls 10 = .ok (.iconst 1, 1) := by decide +kernel
theorem dX1_yearOfConsuls_11 : decode cX1_yearOfConsuls 11 = .ok (.invokevirtual 62, 3) := by decide +kernel
theorem dX1_yearOfConsuls_14 : decode cX1_yearOfConsuls 14 = .ok (.ifCond .ne 5, 3) := by decide +kernel
theorem dX1_yearOfConsuls_17 : decode cX1_yearOfConsuls 17 = .ok (.iconst 0, 1) := by decide +kernel
theorem dX1_yearOfConsuls_18 : decode cX1_yearOfConsuls 18 = .ok (.ireturn, 1) := by decide +kernel
theorem dX1_yearOfConsuls_19 : decode cX1_yearOfConsuls 19 = .ok (.iload_n 3, 1) := by decide +kernel
theorem dX1_yearOfConsuls_20 : decode cX1_yearOfConsuls 20 = .ok (.istore 4, 2) := by decide +kernel
theorem dX1_yearOfConsuls_22 : decode cX1_yearOfConsuls 22 = .ok (.iconst 1, 1) := by decide +kernel
theorem dX1_yearOfConsuls_23 : decode cX1_yearOfConsuls 23 = .ok (.istore 5, 2) := by decide +kernel
theorem dX1_yearOfConsuls_25 : decode cX1_yearOfConsuls 25 = .ok (.iload 5, 2) := by decide +kernel
theorem dX1_yearOfConsuls_27 : decode cX1_yearOfConsuls 27 = .ok (.sipush 3000, 3) := by decide +kernel
theorem dX1_yearOfConsuls_30 : decode cX1_yearOfConsuls 30 = .ok (.if_icmp .gt 67, 3) := by decide +kernel
theorem dX1_yearOfConsuls_33 : decode cX1_yearOfConsuls 33 = .ok (.aload_n 0, 1) := by decide +kernel
theorem dX1_yearOfConsuls_34 : decode cX1_yearOfConsuls 34 = .ok (.getfield 13, 3) := by decide +kernel
theorem dX1_yearOfConsuls_37 : decode cX1_yearOfConsuls 37 = .ok (.iload 5, 2) := by decide +kernel
theorem dX1_yearOfConsuls_39 : decode cX1_yearOfConsuls 39 = .ok (.iaload, 1) := by decide +kernel
theorem dX1_yearOfConsuls_40 : decode cX1_yearOfConsuls 40 = .ok (.istore 6, 2) := by decide +kernel
theorem dX1_yearOfConsuls_42 : decode cX1_yearOfConsuls 42 = .ok (.aload_n 0, 1) := by decide +kernel
theorem dX1_yearOfConsuls_43 : decode cX1_yearOfConsuls 43 = .ok (.getfield 16, 3) := by decide +kernel
theorem dX1_yearOfConsuls_46 : decode cX1_yearOfConsuls 46 = .ok (.iload 5, 2) := by decide +kernel
theorem dX1_yearOfConsuls_48 : decode cX1_yearOfConsuls 48 = .ok (.iaload, 1) := by decide +kernel
theorem dX1_yearOfConsuls_49 : decode cX1_yearOfConsuls 49 = .ok (.istore 7, 2) := by decide +kernel
theorem dX1_yearOfConsuls_51 : decode cX1_yearOfConsuls 51 = .ok (.iload 6, 2) := by decide +kernel
theorem dX1_yearOfConsuls_53 : decode cX1_yearOfConsuls 53 = .ok (.ifCond .le 38, 3) := by decide +kernel
theorem dX1_yearOfConsuls_56 : decode cX1_yearOfConsuls 56 = .ok (.iload 6, 2) := by decide +kernel
theorem dX1_yearOfConsuls_58 : decode cX1_yearOfConsuls 58 = .ok (.iload_n 1, 1) := by decide +kernel
theorem dX1_yearOfConsuls_59 : decode cX1_yearOfConsuls 59 = .ok (.if_icmp .ne 9, 3) := by decide +kernel
theorem dX1_yearOfConsuls_62 : decode cX1_yearOfConsuls 62 = .ok (.iload 7, 2) := by decide +kernel
theorem dX1_yearOfConsuls_64 : decode cX1_yearOfConsuls 64 = .ok (.iload_n 2, 1) := by decide +kernel
theorem dX1_yearOfConsuls_65 : decode cX1_yearOfConsuls 65 = .ok (.if_icmp .eq 15, 3) := by decide +kernel
theorem dX1_yearOfConsuls_68 : decode cX1_yearOfConsuls 68 = .ok (.iload 6, 2) := by decide +kernel
theorem dX1_yearOfConsuls_70 : decode cX1_yearOfConsuls 70 = .ok (.iload_n 2, 1) := by decide +kernel
theorem dX1_yearOfConsuls_71 : decode cX1_yearOfConsuls 71 = .ok (.if_icmp .ne 20, 3) := by decide +kernel
theorem dX1_yearOfConsuls_74 : decode cX1_yearOfConsuls 74 = .ok (.iload 7, 2) := by decide +kernel
theorem dX1_yearOfConsuls_76 : decode cX1_yearOfConsuls 76 = .ok (.iload_n 1, 1) := by decide +kernel
theorem dX1_yearOfConsuls_77 : decode cX1_yearOfConsuls 77 = .ok (.if_icmp .ne 14, 3) := by decide +kernel
theorem dX1_yearOfConsuls_80 : decode cX1_yearOfConsuls 80 = .ok (.iinc 4 (-1), 3) := by decide +kernel
theorem dX1_yearOfConsuls_83 : decode cX1_yearOfConsuls 83 = .ok (.iload 4, 2) := by decide +kernel
theorem dX1_yearOfConsuls_85 : decode cX1_yearOfConsuls 85 = .ok (.ifCond .ne 6, 3) := by decide +kernel
theorem dX1_yearOfConsuls_88 : decode cX1_yearOfConsuls 88 = .ok (.iload 5, 2) := by decide +kernel
theorem dX1_yearOfConsuls_90 : decode cX1_yearOfConsuls 90 = .ok (.ireturn, 1) := by decide +kernel
theorem dX1_yearOfConsuls_91 : decode cX1_yearOfConsuls 91 = .ok (.iinc 5 1, 3) := by decide +kernel
theorem dX1_yearOfConsuls_94 : decode cX1_yearOfConsuls 94 = .ok (.goto (-69), 3) := by decide +kernel
theorem dX1_yearOfConsuls_97 : decode cX1_yearOfConsuls 97 = .ok (.iconst (-1), 1) := by decide +kernel
theorem dX1_yearOfConsuls_98 : decode cX1_yearOfConsuls 98 = .ok (.ireturn, 1) := by decide +kernel
set_option maxRecDepth 20000 in
theorem ggX1_setCharacter_X1_isIn : GoodIn wsX1_setCharacter wsX1_isIn := goodIn_r _ [5] (by decide +kernel) (by decide +kernel)
set_option maxRecDepth 20000 in
theorem gX1_setCharacter_X1_isIn : GoodIn wsX1_setCharacter (va_wsS RX1 40 yX1_isIn wsX1_isIn) := goodIn_app (goodIn_of _ (by decide +kernel)) ggX1_setCharacter_X1_isIn
set_option maxRecDepth 20000 in
theorem ggX1_setCharacter_X1_isFine : GoodIn wsX1_setCharacter wsX1_isFine := goodIn_r _ [9, 10, 11, 12, 13, 14, 15, 16, 17, 18, 19] (by decide +kernel) (by decide +kernel)
set_option maxRecDepth 20000 in
theorem gX1_setCharacter_X1_isFine : GoodIn wsX1_setCharacter (wsV RX1 62 RX1 yX1_isFine wsX1_isFine) := goodIn_app (goodIn_of _ (by decide +kernel)) ggX1_setCharacter_X1_isFine
theorem dX1_setCharacter_0 : decode cX1_setCharacter 0 = .ok (.aload_n 0, 1) := by decide +kernel
theorem dX1_setCharacter_1 : decode cX1_setCharacter 1 = .ok (.iload_n 1, 1) := by decide +kernel
theorem dX1_setCharacter_2 : decode cX1_setCharacter 2 = .ok (.iconst 1, 1) := by decide +kernel
theorem dX1_setCharacter_3 : decode cX1_setCharacter 3 = .ok (.sipush 365, 3) := by decide +kernel
theorem dX1_setCharacter_6 : decode cX1_setCharacter 6 = .ok (.invokestatic 40, 3) := by decide +kernel
theorem dX1_setCharacter_9 : decode cX1_setCharacter 9 = .ok (.ifCond .ne 7, 3) := by decide +kernel
theorem dX1_setCharacter_12 : decode cX1_setCharacter 12 = .ok (.iconst 1, 1) := by decide +kernel
theorem dX1_setCharacter_13 : decode cX1_setCharacter 13 = .ok (.goto 17, 3) := by decide +kernel
theorem dX1_setCharacter_16 : decode cX1_setCharacter 16 = .ok (.iload_n 2, 1) := by decide +kernel
theorem dX1_setCharacter_17 : decode cX1_setCharacter 17 = .ok (.iconst 0, 1) := by decide +kernel
theorem dX1_setCharacter_18 : decode cX1_setCharacter 18 = .ok (.iconst 3, 1) := by decide +kernel
theorem dX1_setCharacter_19 : decode cX1_setCharacter 19 = .ok (.invokestatic 40, 3) := by decide +kernel
theorem dX1_setCharacter_22 : decode cX1_setCharacter 22 = .ok (.ifCond .ne 7, 3) := by decide +kernel
theorem dX1_setCharacter_25 : decode cX1_setCharacter 25 = .ok (.iconst 2, 1) := by decide +kernel
theorem dX1_setCharacter_26 : decode cX1_setCharacter 26 = .ok (.goto 4, 3) := by decide +kernel
theorem dX1_setCharacter_29 : decode cX1_setCharacter 29 = .ok (.iconst 0, 1) := by decide +kernel
theorem dX1_setCharacter_30 : decode cX1_setCharacter 30 = .ok (.invokevirtual 62, 3) := by decide +kernel
theorem dX1_setCharacter_33 : decode cX1_setCharacter 33 = .ok (.ifCond .ne 5, 3) := by decide +kernel
theorem dX1_setCharacter_36 : decode cX1_setCharacter 36 = .ok (.iconst 0, 1) := by decide +kernel
theorem dX1_setCharacter_37 : decode cX1_setCharacter 37 = .ok (.ireturn, 1) := by decide +kernel
theorem dX1_setCharacter_38 : decode cX1_setCharacter 38 = .ok (.aload_n 0, 1) := by decide +kernel
theorem dX1_setCharacter_39 : decode cX1_setCharacter 39 = .ok (.getfield 7, 3) := by decide +kernel
theorem dX1_setCharacter_42 : decode cX1_setCharacter 42 = .ok (.iload_n 1, 1) := by decide +kernel
theorem dX1_setCharacter_43 : decode cX1_setCharacter 43 = .ok (.iaload, 1) := by decide +kernel
theorem dX1_setCharacter_44 : decode cX1_setCharacter 44 = .ok (.istore_n 3, 1) := by decide +kernel
theorem dX1_setCharacter_45 : decode cX1_setCharacter 45 = .ok (.aload_n 0, 1) := by decide +kernel
theorem dX1_setCharacter_46 : decode cX1_setCharacter 46 = .ok (.getfield 7, 3) := by decide +kernel
theorem dX1_setCharacter_49 : decode cX1_setCharacter 49 = .ok (.iload_n 1, 1) := by decide +kernel
theorem dX1_setCharacter_50 : decode cX1_setCharacter 50 = .ok (.iload_n 2, 1) := by decide +kernel
theorem dX1_setCharacter_51 : decode cX1_setCharacter 51 = .ok (.iastore, 1) := by decide +kernel
theorem dX1_setCharacter_52 : decode cX1_setCharacter 52 = .ok (.iload_n 3, 1) := by decide +kernel
theorem dX1_setCharacter_53 : decode cX1_setCharacter 53 = .ok (.ireturn, 1) := by decide +kernel
set_option maxRecDepth 20000 in
theorem ggX1_characterOf_X1_isDay : GoodIn wsX1_characterOf wsX1_isDay := goodIn_r _ [5, 6, 7, 8, 4, 9] (by decide +kernel) (by decide +kernel)
set_option maxRecDepth 20000 in
theorem gX1_characterOf_X1_isDay : GoodIn wsX1_characterOf (va_wsS RX1 59 yX1_isDay wsX1_isDay) := goodIn_app (goodIn_of _ (by decide +kernel)) ggX1_characterOf_X1_isDay
set_option maxRecDepth 20000 in
theorem ggX1_characterOf_X1_isFine : GoodIn wsX1_characterOf wsX1_isFine := goodIn_r _ [13, 14, 35, 36, 37, 38, 39, 40, 41, 42, 43] (by decide +kernel) (by decide +kernel)
set_option maxRecDepth 20000 in
theorem gX1_characterOf_X1_isFine : GoodIn wsX1_characterOf (wsV RX1 62 RX1 yX1_isFine wsX1_isFine) := goodIn_app (goodIn_of _ (by decide +kernel)) ggX1_characterOf_X1_isFine
set_option maxRecDepth 20000 in
theorem ggX1_characterOf_X1_placed : GoodIn wsX1_characterOf wsX1_placed := goodIn_r _ [18, 19, 20, 21, 22, 23, 24, 4, 25, 26, 27, 28, 29, 30, 31, 32, 33, 34, 35, 36, 37, 38, 39, 40, 41, 42, 43] (by decide +kernel) (by decide +kernel)
set_option maxRecDepth 20000 in
theorem gX1_characterOf_X1_placed : GoodIn wsX1_characterOf (wsV RX1 101 RX1 yX1_placed wsX1_placed) := goodIn_app (goodIn_of _ (by decide +kernel)) ggX1_characterOf_X1_placed
theorem dX1_characterOf_0 : decode cX1_characterOf 0 = .ok (.aload_n 0, 1) := by decide +kernel
theorem dX1_characterOf_1 : decode cX1_characterOf 1 = .ok (.iload_n 1, 1) := by decide +kernel
theorem dX1_characterOf_2 : decode cX1_characterOf 2 = .ok (.invokestatic 59, 3) := by decide +kernel
theorem dX1_characterOf_5 : decode cX1_characterOf 5 = .ok (.ifCond .eq 7, 3) := by decide +kernel
theorem dX1_characterOf_8 : decode cX1_characterOf 8 = .ok (.iconst 0, 1) := by decide +kernel
theorem dX1_characterOf_9 : decode cX1_characterOf 9 = .ok (.goto 4, 3) := by decide +kernel
theorem dX1_characterOf_12 : decode cX1_characterOf 12 = .ok (.iconst 1, 1) := by decide +kernel
theorem dX1_characterOf_13 : decode cX1_characterOf 13 = .ok (.invokevirtual 62, 3) := by decide +kernel
theorem dX1_characterOf_16 : decode cX1_characterOf 16 = .ok (.ifCond .eq 16, 3) := by decide +kernel
theorem dX1_characterOf_19 : decode cX1_characterOf 19 = .ok (.aload_n 0, 1) := by decide +kernel
theorem dX1_characterOf_20 : decode cX1_characterOf 20 = .ok (.getfield 7, 3) := by decide +kernel
theorem dX1_characterOf_23 : decode cX1_characterOf 23 = .ok (.aload_n 0, 1) := by decide +kernel
theorem dX1_characterOf_24 : decode cX1_characterOf 24 = .ok (.iload_n 1, 1) := by decide +kernel
theorem dX1_characterOf_25 : decode cX1_characterOf 25 = .ok (.invokevirtual 101, 3) := by decide +kernel
theorem dX1_characterOf_28 : decode cX1_characterOf 28 = .ok (.iaload, 1) := by decide +kernel
theorem dX1_characterOf_29 : decode cX1_characterOf 29 = .ok (.goto 4, 3) := by decide +kernel
theorem dX1_characterOf_32 : decode cX1_characterOf 32 = .ok (.iconst 0, 1) := by decide +kernel
theorem dX1_characterOf_33 : decode cX1_characterOf 33 = .ok (.ireturn, 1) := by decide +kernel
set_option maxRecDepth 20000 in
theorem ggX1_isVoting_X1_placed : GoodIn wsX1_isVoting wsX1_placed := goodIn_r _ [7, 8, 9, 10, 11, 12, 13, 6, 14, 15, 16, 17, 18, 19, 20, 21, 22, 23, 24, 25, 26, 27, 28, 29, 30, 31, 32] (by decide +kernel) (by decide +kernel)
set_option maxRecDepth 20000 in
theorem gX1_isVoting_X1_placed : GoodIn wsX1_isVoting (wsV RX1 101 RX1 yX1_placed wsX1_placed) := goodIn_app (goodIn_of _ (by decide +kernel)) ggX1_isVoting_X1_placed
theorem dX1_isVoting_0 : decode cX1_isVoting 0 = .ok (.aload_n 0, 1) := by decide +kernel
theorem dX1_isVoting_1 : decode cX1_isVoting 1 = .ok (.getfield 7, 3) := by decide +kernel
theorem dX1_isVoting_4 : decode cX1_isVoting 4 = .ok (.aload_n 0, 1) := by decide +kernel
theorem dX1_isVoting_5 : decode cX1_isVoting 5 = .ok (.iload_n 1, 1) := by decide +kernel
theorem dX1_isVoting_6 : decode cX1_isVoting 6 = .ok (.invokevirtual 101, 3) := by decide +kernel
theorem dX1_isVoting_9 : decode cX1_isVoting 9 = .ok (.iaload, 1) := by decide +kernel
theorem dX1_isVoting_10 : decode cX1_isVoting 10 = .ok (.iconst 2, 1) := by decide +kernel
theorem dX1_isVoting_11 : decode cX1_isVoting 11 = .ok (.if_icmp .ne 18, 3) := by decide +kernel
theorem dX1_isVoting_14 : decode cX1_isVoting 14 = .ok (.iload_n 1, 1) := by decide +kernel
theorem dX1_isVoting_15 : decode cX1_isVoting 15 = .ok (.bipush 8, 2) := by decide +kernel
theorem dX1_isVoting_17 : decode cX1_isVoting 17 = .ok (.irem, 1) := by decide +kernel
theorem dX1_isVoting_18 : decode cX1_isVoting 18 = .ok (.aload_n 0, 1) := by decide +kernel
theorem dX1_isVoting_19 : decode cX1_isVoting 19 = .ok (.getfield 104, 3) := by decide +kernel
theorem dX1_isVoting_22 : decode cX1_isVoting 22 = .ok (.if_icmp .eq 7, 3) := by decide +kernel
theorem dX1_isVoting_25 : decode cX1_isVoting 25 = .ok (.iconst 1, 1) := by decide +kernel
theorem dX1_isVoting_26 : decode cX1_isVoting 26 = .ok (.goto 4, 3) := by decide +kernel
theorem dX1_isVoting_29 : decode cX1_isVoting 29 = .ok (.iconst 0, 1) := by decide +kernel
theorem dX1_isVoting_30 : decode cX1_isVoting 30 = .ok (.ireturn, 1) := by decide +kernel
set_option maxRecDepth 20000 in
theorem ggX1_canVote_X1_isDay : GoodIn wsX1_canVote wsX1_isDay := goodIn_r _ [4, 5, 6, 7, 3, 8] (by decide +kernel) (by decide +kernel)
set_option maxRecDepth 20000 in
theorem gX1_canVote_X1_isDay : GoodIn wsX1_canVote (va_wsS RX1 59 yX1_isDay wsX1_isDay) := goodIn_app (goodIn_of _ (by decide +kernel)) ggX1_canVote_X1_isDay
set_option maxRecDepth 20000 in
theorem ggX1_canVote_X1_isFine : GoodIn wsX1_canVote wsX1_isFine := goodIn_r _ [12, 13, 40, 41, 42, 43, 44, 45, 46, 47, 48] (by decide +kernel) (by decide +kernel)
set_option maxRecDepth 20000 in
theorem gX1_canVote_X1_isFine : GoodIn wsX1_canVote (wsV RX1 62 RX1 yX1_isFine wsX1_isFine) := goodIn_app (goodIn_of _ (by decide +kernel)) ggX1_canVote_X1_isFine
set_option maxRecDepth 20000 in
theorem ggX1_canVote_X1_isVoting : GoodIn wsX1_canVote wsX1_isVoting := goodIn_r _ [17, 18, 19, 20, 21, 22, 3, 23, 24, 25, 26, 27, 28, 29, 30, 31, 32, 33, 34, 35, 36, 37, 38, 39, 40, 41, 42, 43, 44, 45, 46, 47, 48] (by decide +kernel) (by decide +kernel)
set_option maxRecDepth 20000 in
theorem gX1_canVote_X1_isVoting : GoodIn wsX1_canVote (wsV RX1 113 RX1 yX1_isVoting wsX1_isVoting) := goodIn_app (goodIn_of _ (by decide +kernel)) ggX1_canVote_X1_isVoting
theorem dX1_canVote_0 : decode cX1_canVote 0 = .ok (.aload_n 0, 1) := by decide +kernel
theorem dX1_canVote_1 : decode cX1_canVote 1 = .ok (.iload_n 1, 1) := by decide +kernel
theorem dX1_canVote_2 : decode cX1_canVote 2 = .ok (.invokestatic 59, 3) := by decide +kernel
theorem dX1_canVote_5 : decode cX1_canVote 5 = .ok (.ifCond .eq 7, 3) := by decide +kernel
theorem dX1_canVote_8 : decode cX1_canVote 8 = .ok (.iconst 0, 1) := by decide +kernel
theorem dX1_canVote_9 : decode cX1_canVote 9 = .ok (.goto 4, 3) := by decide +kernel
theorem dX1_canVote_12 : decode cX1_canVote 12 = .ok (.iconst 1, 1) := by decide +kernel
theorem dX1_canVote_13 : decode cX1_canVote 13 = .ok (.invokevirtual 62, 3) := by decide +kernel
theorem dX1_canVote_16 : decode cX1_canVote 16 = .ok (.ifCond .eq 15, 3) := by decide +kernel
theorem dX1_canVote_19 : decode cX1_canVote 19 = .ok (.aload_n 0, 1) := by decide +kernel
theorem dX1_canVote_20 : decode cX1_canVote 20 = .ok (.iload_n 1, 1) := by decide +kernel
theorem dX1_canVote_21 : decode cX1_canVote 21 = .ok (.invokevirtual 113, 3) := by decide +kernel
theorem dX1_canVote_24 : decode cX1_canVote 24 = .ok (.ifCond .eq 7, 3) := by decide +kernel
theorem dX1_canVote_27 : decode cX1_canVote 27 = .ok (.iconst 1, 1) := by decide +kernel
theorem dX1_canVote_28 : decode cX1_canVote 28 = .ok (.goto 4, 3) := by decide +kernel
theorem dX1_canVote_31 : decode cX1_canVote 31 = .ok (.iconst 0, 1) := by decide +kernel
theorem dX1_canVote_32 : decode cX1_canVote 32 = .ok (.ireturn, 1) := by decide +kernel
set_option maxRecDepth 20000 in
theorem ggX1_nextCourt_X1_isDay : GoodIn wsX1_nextCourt wsX1_isDay := goodIn_r _ [6, 7, 8, 9, 5, 10] (by decide +kernel) (by decide +kernel)
set_option maxRecDepth 20000 in
theorem gX1_nextCourt_X1_isDay : GoodIn wsX1_nextCourt (va_wsS RX1 59 yX1_isDay wsX1_isDay) := goodIn_app (goodIn_of _ (by decide +kernel)) ggX1_nextCourt_X1_isDay
set_option maxRecDepth 20000 in
theorem ggX1_nextCourt_X1_isFine : GoodIn wsX1_nextCourt wsX1_isFine := goodIn_r _ [14, 15, 36, 37, 38, 39, 40, 41, 42, 43, 44] (by decide +kernel) (by decide +kernel)
set_option maxRecDepth 20000 in
theorem gX1_nextCourt_X1_isFine : GoodIn wsX1_nextCourt (wsV RX1 62 RX1 yX1_isFine wsX1_isFine) := goodIn_app (goodIn_of _ (by decide +kernel)) ggX1_nextCourt_X1_isFine
set_option maxRecDepth 20000 in
theorem ggX1_nextCourt_X1_placed : GoodIn wsX1_nextCourt wsX1_placed := goodIn_r _ [19, 20, 21, 22, 23, 24, 25, 5, 26, 27, 28, 29, 30, 31, 32, 33, 34, 35, 36, 37, 38, 39, 40, 41, 42, 43, 44] (by decide +kernel) (by decide +kernel)
set_option maxRecDepth 20000 in
theorem gX1_nextCourt_X1_placed : GoodIn wsX1_nextCourt (wsV RX1 101 RX1 yX1_placed wsX1_placed) := goodIn_app (goodIn_of _ (by decide +kernel)) ggX1_nextCourt_X1_placed
theorem dX1_nextCourt_0 : decode cX1_nextCourt 0 = .ok (.aload_n 0, 1) := by decide +kernel
theorem dX1_nextCourt_1 : decode cX1_nextCourt 1 = .ok (.iload_n 1, 1) := by decide +kernel
theorem dX1_nextCourt_2 : decode cX1_nextCourt 2 = .ok (.invokestatic 59, 3) := by decide +kernel
theorem dX1_nextCourt_5 : decode cX1_nextCourt 5 = .ok (.ifCond .eq 7, 3) := by decide +kernel
theorem dX1_nextCourt_8 : decode cX1_nextCourt 8 = .ok (.iconst 0, 1) := by decide +kernel
theorem dX1_nextCourt_9 : decode cX1_nextCourt 9 = .ok (.goto 4, 3) := by decide +kernel
theorem dX1_nextCourt_12 : decode cX1_nextCourt 12 = .ok (.iconst 1, 1) := by decide +kernel
theorem dX1_nextCourt_13 : decode cX1_nextCourt 13 = .ok (.invokevirtual 62, 3) := by decide +kernel
theorem dX1_nextCourt_16 : decode cX1_nextCourt 16 = .ok (.ifCond .ne 5, 3) := by decide +kernel
theorem dX1_nextCourt_19 : decode cX1_nextCourt 19 = .ok (.iconst 0, 1) := by decide +kernel
theorem dX1_nextCourt_20 : decode cX1_nextCourt 20 = .ok (.ireturn, 1) := by decide +kernel
theorem dX1_nextCourt_21 : decode cX1_nextCourt 21 = .ok (.iload_n 1, 1) := by decide +kernel
theorem dX1_nextCourt_22 : decode cX1_nextCourt 22 = .ok (.istore_n 2, 1) := by decide +kernel
theorem dX1_nextCourt_23 : decode cX1_nextCourt 23 = .ok (.iload_n 2, 1) := by decide +kernel
theorem dX1_nextCourt_24 : decode cX1_nextCourt 24 = .ok (.ldc 65, 2) := by decide +kernel
theorem dX1_nextCourt_26 : decode cX1_nextCourt 26 = .ok (.if_icmp .ge 40, 3) := by decide +kernel
theorem dX1_nextCourt_29 : decode cX1_nextCourt 29 = .ok (.iload_n 2, 1) := by decide +kernel
theorem dX1_nextCourt_30 : decode cX1_nextCourt 30 = .ok (.iload_n 1, 1) := by decide +kernel
theorem dX1_nextCourt_31 : decode cX1_nextCourt 31 = .ok (.sipush 367, 3) := by decide +kernel
theorem dX1_nextCourt_34 : decode cX1_nextCourt 34 = .ok (.iadd, 1) := by decide +kernel
theorem dX1_nextCourt_35 : decode cX1_nextCourt 35 = .ok (.if_icmp .ge 31, 3) := by decide +kernel
theorem dX1_nextCourt_38 : decode cX1_nextCourt 38 = .ok (.aload_n 0, 1) := by decide +kernel
theorem dX1_nextCourt_39 : decode cX1_nextCourt 39 = .ok (.getfield 7, 3) := by decide +kernel
theorem dX1_nextCourt_42 : decode cX1_nextCourt 42 = .ok (.aload_n 0, 1) := by decide +kernel
theorem dX1_nextCourt_43 : decode cX1_nextCourt 43 = .ok (.iload_n 2, 1) := by decide +kernel
theorem dX1_nextCourt_44 : decode cX1_nextCourt 44 = .ok (.invokevirtual 101, 3) := by decide +kernel
theorem dX1_nextCourt_47 : decode cX1_nextCourt 47 = .ok (.iaload, 1) := by decide +kernel
theorem dX1_nextCourt_48 : decode cX1_nextCourt 48 = .ok (.istore_n 3, 1) := by decide +kernel
theorem dX1_nextCourt_49 : decode cX1_nextCourt 49 = .ok (.iload_n 3, 1) := by decide +kernel
theorem dX1_nextCourt_50 : decode cX1_nextCourt 50 = .ok (.ifCond .eq 8, 3) := by decide +kernel
theorem dX1_nextCourt_53 : decode cX1_nextCourt 53 = .ok (.iload_n 3, 1) := by decide +kernel
theorem dX1_nextCourt_54 : decode cX1_nextCourt 54 = .ok (.iconst 2, 1) := by decide +kernel
theorem dX1_nextCourt_55 : decode cX1_nextCourt 55 = .ok (.if_icmp .ne 5, 3) := by decide +kernel
theorem dX1_nextCourt_58 : decode cX1_nextCourt 58 = .ok (.iload_n 2, 1) := by decide +kernel
theorem dX1_nextCourt_59 : decode cX1_nextCourt 59 = .ok (.ireturn, 1) := by decide +kernel
theorem dX1_nextCourt_60 : decode cX1_nextCourt 60 = .ok (.iinc 2 1, 3) := by decide +kernel
theorem dX1_nextCourt_63 : decode cX1_nextCourt 63 = .ok (.goto (-40), 3) := by decide +kernel
theorem dX1_nextCourt_66 : decode cX1_nextCourt 66 = .ok (.iconst (-1), 1) := by decide +kernel
theorem dX1_nextCourt_67 : decode cX1_nextCourt 67 = .ok (.ireturn, 1) := by decide +kernel
set_option maxRecDepth 20000 in
theorem ggX1_votes_X1_isYear : GoodIn wsX1_votes wsX1_isYear := goodIn_r _ [4, 5, 6, 3, 7] (by decide +kernel) (by decide +kernel)
set_option maxRecDepth 20000 in
theorem gX1_votes_X1_isYear : GoodIn wsX1_votes (va_wsS RX1 66 yX1_isYear wsX1_isYear) := goodIn_app (goodIn_of _ (by decide +kernel)) ggX1_votes_X1_isYear
set_option maxRecDepth 20000 in
theorem ggX1_votes_X1_isFine : GoodIn wsX1_votes wsX1_isFine := goodIn_r _ [11, 12, 39, 40, 41, 42, 43, 44, 45, 46, 47] (by decide +kernel) (by decide +kernel)
set_option maxRecDepth 20000 in
theorem gX1_votes_X1_isFine : GoodIn wsX1_votes (wsV RX1 62 RX1 yX1_isFine wsX1_isFine) := goodIn_app (goodIn_of _ (by decide +kernel)) ggX1_votes_X1_isFine
set_option maxRecDepth 20000 in
theorem ggX1_votes_X1_begin : GoodIn wsX1_votes wsX1_begin := goodIn_r _ [15] (by decide +kernel) (by decide +kernel)
set_option maxRecDepth 20000 in
theorem gX1_votes_X1_begin : GoodIn wsX1_votes (va_wsS RX1 49 yX1_begin wsX1_begin) := goodIn_app (goodIn_of _ (by decide +kernel)) ggX1_votes_X1_begin
set_option maxRecDepth 20000 in
theorem ggX1_votes_X1_isVoting : GoodIn wsX1_votes wsX1_isVoting := goodIn_r _ [19, 20, 21, 22, 23, 24, 3, 25, 26, 27, 28, 29, 30, 31, 32, 13, 14, 15, 33, 34, 35, 36, 37, 38, 39, 40, 41, 42, 43, 44, 45, 46, 47] (by decide +kernel) (by decide +kernel)
set_option maxRecDepth 20000 in
theorem gX1_votes_X1_isVoting : GoodIn wsX1_votes (wsV RX1 113 RX1 yX1_isVoting wsX1_isVoting) := goodIn_app (goodIn_of _ (by decide +kernel)) ggX1_votes_X1_isVoting
theorem dX1_votes_0 : decode cX1_votes 0 = .ok (.aload_n 0, 1) := by decide +kernel
theorem dX1_votes_1 : decode cX1_votes 1 = .ok (.iload_n 1, 1) := by decide +kernel
theorem dX1_votes_2 : decode cX1_votes 2 = .ok (.invokestatic 66, 3) := by decide +kernel
theorem dX1_votes_5 : decode cX1_votes 5 = .ok (.ifCond .eq 7, 3) := by decide +kernel
theorem dX1_votes_8 : decode cX1_votes 8 = .ok (.iconst 0, 1) := by decide +kernel
theorem dX1_votes_9 : decode cX1_votes 9 = .ok (.goto 4, 3) := by decide +kernel
theorem dX1_votes_12 : decode cX1_votes 12 = .ok (.iconst 1, 1) := by decide +kernel
theorem dX1_votes_13 : decode cX1_votes 13 = .ok (.invokevirtual 62, 3) := by decide +kernel
theorem dX1_votes_16 : decode cX1_votes 16 = .ok (.ifCond .ne 5, 3) := by decide +kernel
theorem dX1_votes_19 : decode cX1_votes 19 = .ok (.iconst 0, 1) := by decide +kernel
theorem dX1_votes_20 : decode cX1_votes 20 = .ok (.ireturn, 1) := by decide +kernel
theorem dX1_votes_21 : decode cX1_votes 21 = .ok (.iconst 0, 1) := by decide +kernel
theorem dX1_votes_22 : decode cX1_votes 22 = .ok (.istore_n 2, 1) := by decide +kernel
theorem dX1_votes_23 : decode cX1_votes 23 = .ok (.iload_n 1, 1) := by decide +kernel
theorem dX1_votes_24 : decode cX1_votes 24 = .ok (.invokestatic 49, 3) := by decide +kernel
theorem dX1_votes_27 : decode cX1_votes 27 = .ok (.istore_n 3, 1) := by decide +kernel
theorem dX1_votes_28 : decode cX1_votes 28 = .ok (.iload_n 3, 1) := by decide +kernel
theorem dX1_votes_29 : decode cX1_votes 29 = .ok (.iload_n 1, 1) := by decide +kernel
theorem dX1_votes_30 : decode cX1_votes 30 = .ok (.iconst 1, 1) := by decide +kernel
theorem dX1_votes_31 : decode cX1_votes 31 = .ok (.iadd, 1) := by decide +kernel
theorem dX1_votes_32 : decode cX1_votes 32 = .ok (.invokestatic 49, 3) := by decide +kernel
theorem dX1_votes_35 : decode cX1_votes 35 = .ok (.if_icmp .ge 25, 3) := by decide +kernel
theorem dX1_votes_38 : decode cX1_votes 38 = .ok (.iload_n 2, 1) := by decide +kernel
theorem dX1_votes_39 : decode cX1_votes 39 = .ok (.aload_n 0, 1) := by decide +kernel
theorem dX1_votes_40 : decode cX1_votes 40 = .ok (.iload_n 3, 1) := by decide +kernel
theorem dX1_votes_41 : decode cX1_votes 41 = .ok (.invokevirtual 113, 3) := by decide +kernel
theorem dX1_votes_44 : decode cX1_votes 44 = .ok (.ifCond .eq 7, 3) := by decide +kernel
theorem dX1_votes_47 : decode cX1_votes 47 = .ok (.iconst 1, 1) := by decide +kernel
theorem dX1_votes_48 : decode cX1_votes 48 = .ok (.goto 4, 3) := by decide +kernel
theorem dX1_votes_51 : decode cX1_votes 51 = .ok (.iconst 0, 1) := by decide +kernel
theorem dX1_votes_52 : decode cX1_votes 52 = .ok (.iadd, 1) := by decide +kernel
theorem dX1_votes_53 : decode cX1_votes 53 = .ok (.istore_n 2, 1) := by decide +kernel
theorem dX1_votes_54 : decode cX1_votes 54 = .ok (.iinc 3 1, 3) := by decide +kernel
theorem dX1_votes_57 : decode cX1_votes 57 = .ok (.goto (-29), 3) := by decide +kernel
theorem dX1_votes_60 : decode cX1_votes 60 = .ok (.iload_n 2, 1) := by decide +kernel
theorem dX1_votes_61 : decode cX1_votes 61 = .ok (.ireturn, 1) := by decide +kernel
end
section
theorem dJ9_floorMod_7cf53_0 : decode cJ9_floorMod_7cf53 0 = .ok (.iload_n 0, 1) := by decide +kernel
theorem dJ9_floorMod_7cf53_1 : decode cJ9_floorMod_7cf53 1 = .ok (.iload_n 1, 1) := by decide +kernel
theorem dJ9_floorMod_7cf53_2 : decode cJ9_floorMod_7cf53 2 = .ok (.irem, 1) := by decide +kernel
theorem dJ9_floorMod_7cf53_3 : decode cJ9_floorMod_7cf53 3 = .ok (.istore_n 2, 1) := by decide +kernel
theorem dJ9_floorMod_7cf53_4 : decode cJ9_floorMod_7cf53 4 = .ok (.iload_n 0, 1) := by decide +kernel
theorem dJ9_floorMod_7cf53_5 : decode cJ9_floorMod_7cf53 5 = .ok (.iload_n 1, 1) := by decide +kernel
theorem dJ9_floorMod_7cf53_6 : decode cJ9_floorMod_7cf53 6 = .ok (.ixor, 1) := by decide +kernel
theorem dJ9_floorMod_7cf53_7 : decode cJ9_floorMod_7cf53 7 = .ok (.ifCond .ge 11, 3) := by decide +kernel
theorem dJ9_floorMod_7cf53_10 : decode cJ9_floorMod_7cf53 10 = .ok (.iload_n 2, 1) := by decide +kernel
theorem dJ9_floorMod_7cf53_11 : decode cJ9_floorMod_7cf53 11 = .ok (.ifCond .eq 7, 3) := by decide +kernel
theorem dJ9_floorMod_7cf53_14 : decode cJ9_floorMod_7cf53 14 = .ok (.iload_n 2, 1) := by decide +kernel
theorem dJ9_floorMod_7cf53_15 : decode cJ9_floorMod_7cf53 15 = .ok (.iload_n 1, 1) := by decide +kernel
theorem dJ9_floorMod_7cf53_16 : decode cJ9_floorMod_7cf53 16 = .ok (.iadd, 1) := by decide +kernel
theorem dJ9_floorMod_7cf53_17 : decode cJ9_floorMod_7cf53 17 = .ok (.ireturn, 1) := by decide +kernel
theorem dJ9_floorMod_7cf53_18 : decode cJ9_floorMod_7cf53 18 = .ok (.iload_n 2, 1) := by decide +kernel
theorem dJ9_floorMod_7cf53_19 : decode cJ9_floorMod_7cf53 19 = .ok (.ireturn, 1) := by decide +kernel
theorem dJ9_min_7cf53_0 : decode cJ9_min_7cf53 0 = .ok (.iload_n 0, 1) := by decide +kernel
theorem dJ9_min_7cf53_1 : decode cJ9_min_7cf53 1 = .ok (.iload_n 1, 1) := by decide +kernel
theorem dJ9_min_7cf53_2 : decode cJ9_min_7cf53 2 = .ok (.if_icmp .gt 7, 3) := by decide +kernel
theorem dJ9_min_7cf53_5 : decode cJ9_min_7cf53 5 = .ok (.iload_n 0, 1) := by decide +kernel
theorem dJ9_min_7cf53_6 : decode cJ9_min_7cf53 6 = .ok (.goto 4, 3) := by decide +kernel
theorem dJ9_min_7cf53_9 : decode cJ9_min_7cf53 9 = .ok (.iload_n 1, 1) := by decide +kernel
theorem dJ9_min_7cf53_10 : decode cJ9_min_7cf53 10 = .ok (.ireturn, 1) := by decide +kernel
set_option maxRecDepth 20000 in
theorem ggL_number_X0_number : GoodIn wsL_number wsX0_number := goodIn_ca (goodIn_r _ [6, 7, 8, 5, 9, 10, 11, 12, 13, 14, 15, 16, 17, 18, 19, 20, 21, 22, 23, 24, 25, 26, 27, 28, 29, 30, 31, 32, 33, 34, 35] (by decide +kernel) (by decide +kernel)) (goodIn_sub (fun _ h => List.mem_cons_of_mem _ (List.mem_append_right _ h)) (by decide +kernel))
set_option maxRecDepth 20000 in
theorem gL_number_X0_number : GoodIn wsL_number (wsV RL 7 RX0 yX0_number wsX0_number) := goodIn_app (goodIn_of _ (by decide +kernel)) ggL_number_X0_number
theorem dL_number_0 : decode cL_number 0 = .ok (.aload 4, 2) := by decide +kernel
theorem dL_number_2 : decode cL_number 2 = .ok (.iconst 0, 1) := by decide +kernel
theorem dL_number_3 : decode cL_number 3 = .ok (.aload_n 0, 1) := by decide +kernel
theorem dL_number_4 : decode cL_number 4 = .ok (.iload_n 1, 1) := by decide +kernel
theorem dL_number_5 : decode cL_number 5 = .ok (.iload_n 2, 1) := by decide +kernel
theorem dL_number_6 : decode cL_number 6 = .ok (.iload_n 3, 1) := by decide +kernel
theorem dL_number_7 : decode cL_number 7 = .ok (.invokevirtual 7, 3) := by decide +kernel
theorem dL_number_10 : decode cL_number 10 = .ok (.i2l, 1) := by decide +kernel
theorem dL_number_11 : decode cL_number 11 = .ok (.lastore, 1) := by decide +kernel
theorem dL_number_12 : decode cL_number 12 = .ok (.goto 7, 3) := by decide +kernel
theorem dL_number_15 : decode cL_number 15 = .ok (.astore 5, 2) := by decide +kernel
theorem dL_number_17 : decode cL_number 17 = .ok (.iconst 1, 1) := by decide +kernel
theorem dL_number_18 : decode cL_number 18 = .ok (.ireturn, 1) := by decide +kernel
theorem dL_number_19 : decode cL_number 19 = .ok (.iconst 0, 1) := by decide +kernel
theorem dL_number_20 : decode cL_number 20 = .ok (.ireturn, 1) := by decide +kernel
set_option maxRecDepth 20000 in
theorem ggL_numberByCounting_X0_numberByCounting : GoodIn wsL_numberByCounting wsX0_numberByCounting := goodIn_ca (goodIn_r _ [6, 7, 8, 5, 9, 10, 11, 12, 13, 14, 15, 16, 17, 18, 19, 20, 21, 22, 23, 24, 25, 26, 27, 28, 29] (by decide +kernel) (by decide +kernel)) (goodIn_sub (fun _ h => List.mem_cons_of_mem _ (List.mem_append_right _ h)) (by decide +kernel))
set_option maxRecDepth 20000 in
theorem gL_numberByCounting_X0_numberByCounting : GoodIn wsL_numberByCounting (wsV RL 15 RX0 yX0_numberByCounting wsX0_numberByCounting) := goodIn_app (goodIn_of _ (by decide +kernel)) ggL_numberByCounting_X0_numberByCounting
theorem dL_numberByCounting_0 : decode cL_numberByCounting 0 = .ok (.aload 4, 2) := by decide +kernel
theorem dL_numberByCounting_2 : decode cL_numberByCounting 2 = .ok (.iconst 0, 1) := by decide +kernel
theorem dL_numberByCounting_3 : decode cL_numberByCounting 3 = .ok (.aload_n 0, 1) := by decide +kernel
theorem dL_numberByCounting_4 : decode cL_numberByCounting 4 = .ok (.iload_n 1, 1) := by decide +kernel
theorem dL_numberByCounting_5 : decode cL_numberByCounting 5 = .ok (.iload_n 2, 1) := by decide +kernel
theorem dL_numberByCounting_6 : decode cL_numberByCounting 6 = .ok (.iload_n 3, 1) := by decide +kernel
theorem dL_numberByCounting_7 : decode cL_numberByCounting 7 = .ok (.invokevirtual 15, 3) := by decide +kernel
theorem dL_numberByCounting_10 : decode cL_numberByCounting 10 = .ok (.i2l, 1) := by decide +kernel
theorem dL_numberByCounting_11 : decode cL_numberByCounting 11 = .ok (.lastore, 1) := by decide +kernel
theorem dL_numberByCounting_12 : decode cL_numberByCounting 12 = .ok (.goto 7, 3) := by decide +kernel
theorem dL_numberByCounting_15 : decode cL_numberByCounting 15 = .ok (.astore 5, 2) := by decide +kernel
theorem dL_numberByCounting_17 : decode cL_numberByCounting 17 = .ok (.iconst 1, 1) := by decide +kernel
theorem dL_numberByCounting_18 : decode cL_numberByCounting 18 = .ok (.ireturn, 1) := by decide +kernel
theorem dL_numberByCounting_19 : decode cL_numberByCounting 19 = .ok (.iconst 0, 1) := by decide +kernel
theorem dL_numberByCounting_20 : decode cL_numberByCounting 20 = .ok (.ireturn, 1) := by decide +kernel
set_option maxRecDepth 20000 in
theorem ggL_yearOf_X0_yearOf : GoodIn wsL_yearOf wsX0_yearOf := goodIn_ca (goodIn_r _ [6, 7, 8, 5, 9, 10, 11, 12, 13, 14, 15, 16, 17, 18, 19] (by decide +kernel) (by decide +kernel)) (goodIn_sub (fun _ h => List.mem_cons_of_mem _ (List.mem_append_right _ h)) (by decide +kernel))
set_option maxRecDepth 20000 in
theorem gL_yearOf_X0_yearOf : GoodIn wsL_yearOf (wsV RL 18 RX0 yX0_yearOf wsX0_yearOf) := goodIn_app (goodIn_of _ (by decide +kernel)) ggL_yearOf_X0_yearOf
theorem dL_yearOf_0 : decode cL_yearOf 0 = .ok (.aload_n 2, 1) := by decide +kernel
theorem dL_yearOf_1 : decode cL_yearOf 1 = .ok (.iconst 0, 1) := by decide +kernel
theorem dL_yearOf_2 : decode cL_yearOf 2 = .ok (.aload_n 0, 1) := by decide +kernel
theorem dL_yearOf_3 : decode cL_yearOf 3 = .ok (.iload_n 1, 1) := by decide +kernel
theorem dL_yearOf_4 : decode cL_yearOf 4 = .ok (.invokevirtual 18, 3) := by decide +kernel
theorem dL_yearOf_7 : decode cL_yearOf 7 = .ok (.i2l, 1) := by decide +kernel
theorem dL_yearOf_8 : decode cL_yearOf 8 = .ok (.lastore, 1) := by decide +kernel
theorem dL_yearOf_9 : decode cL_yearOf 9 = .ok (.goto 6, 3) := by decide +kernel
theorem dL_yearOf_12 : decode cL_yearOf 12 = .ok (.astore_n 3, 1) := by decide +kernel
theorem dL_yearOf_13 : decode cL_yearOf 13 = .ok (.iconst 1, 1) := by decide +kernel
theorem dL_yearOf_14 : decode cL_yearOf 14 = .ok (.ireturn, 1) := by decide +kernel
theorem dL_yearOf_15 : decode cL_yearOf 15 = .ok (.iconst 0, 1) := by decide +kernel
theorem dL_yearOf_16 : decode cL_yearOf 16 = .ok (.ireturn, 1) := by decide +kernel
set_option maxRecDepth 20000 in
theorem ggL_monthOf_X0_monthOf : GoodIn wsL_monthOf wsX0_monthOf := goodIn_ca (goodIn_r _ [6, 7, 8, 5, 9, 10, 11, 12, 13, 14, 15, 16, 17, 18, 19, 20, 21, 22, 23, 24, 25, 26, 27] (by decide +kernel) (by decide +kernel)) (goodIn_sub (fun _ h => List.mem_cons_of_mem _ (List.mem_append_right _ h)) (by decide +kernel))
set_option maxRecDepth 20000 in
theorem gL_monthOf_X0_monthOf : GoodIn wsL_monthOf (wsV RL 22 RX0 yX0_monthOf wsX0_monthOf) := goodIn_app (goodIn_of _ (by decide +kernel)) ggL_monthOf_X0_monthOf
theorem dL_monthOf_0 : decode cL_monthOf 0 = .ok (.aload_n 2, 1) := by decide +kernel
theorem dL_monthOf_1 : decode cL_monthOf 1 = .ok (.iconst 0, 1) := by decide +kernel
theorem dL_monthOf_2 : decode cL_monthOf 2 = .ok (.aload_n 0, 1) := by decide +kernel
theorem dL_monthOf_3 : decode cL_monthOf 3 = .ok (.iload_n 1, 1) := by decide +kernel
theorem dL_monthOf_4 : decode cL_monthOf 4 = .ok (.invokevirtual 22, 3) := by decide +kernel
theorem dL_monthOf_7 : decode cL_monthOf 7 = .ok (.i2l, 1) := by decide +kernel
theorem dL_monthOf_8 : decode cL_monthOf 8 = .ok (.lastore, 1) := by decide +kernel
theorem dL_monthOf_9 : decode cL_monthOf 9 = .ok (.goto 6, 3) := by decide +kernel
theorem dL_monthOf_12 : decode cL_monthOf 12 = .ok (.astore_n 3, 1) := by decide +kernel
theorem dL_monthOf_13 : decode cL_monthOf 13 = .ok (.iconst 1, 1) := by decide +kernel
theorem dL_monthOf_14 : decode cL_monthOf 14 = .ok (.ireturn, 1) := by decide +kernel
theorem dL_monthOf_15 : decode cL_monthOf 15 = .ok (.iconst 0, 1) := by decide +kernel
theorem dL_monthOf_16 : decode cL_monthOf 16 = .ok (.ireturn, 1) := by decide +kernel
set_option maxRecDepth 20000 in
theorem ggL_dayOf_X0_dayOf : GoodIn wsL_dayOf wsX0_dayOf := goodIn_ca (goodIn_r _ [6, 7, 8, 5, 9, 10, 11, 12, 13, 14, 15, 16, 17, 18, 19, 20, 21, 22, 23, 24, 25, 26, 27, 28, 29, 30, 31, 32, 33, 34, 35, 36, 37, 38, 39, 40, 41, 42, 43, 44, 45, 46] (by decide +kernel) (by decide +kernel)) (goodIn_sub (fun _ h => List.mem_cons_of_mem _ (List.mem_append_right _ h)) (by decide +kernel))
set_option maxRecDepth 20000 in
theorem gL_dayOf_X0_dayOf : GoodIn wsL_dayOf (wsV RL 25 RX0 yX0_dayOf wsX0_dayOf) := goodIn_app (goodIn_of _ (by decide +kernel)) ggL_dayOf_X0_dayOf
theorem dL_dayOf_0 : decode cL_dayOf 0 = .ok (.aload_n 2, 1) := by decide +kernel
theorem dL_dayOf_1 : decode cL_dayOf 1 = .ok (.iconst 0, 1) := by decide +kernel
theorem dL_dayOf_2 : decode cL_dayOf 2 = .ok (.aload_n 0, 1) := by decide +kernel
theorem dL_dayOf_3 : decode cL_dayOf 3 = .ok (.iload_n 1, 1) := by decide +kernel
theorem dL_dayOf_4 : decode cL_dayOf 4 = .ok (.invokevirtual 25, 3) := by decide +kernel
theorem dL_dayOf_7 : decode cL_dayOf 7 = .ok (.i2l, 1) := by decide +kernel
theorem dL_dayOf_8 : decode cL_dayOf 8 = .ok (.lastore, 1) := by decide +kernel
theorem dL_dayOf_9 : decode cL_dayOf 9 = .ok (.goto 6, 3) := by decide +kernel
theorem dL_dayOf_12 : decode cL_dayOf 12 = .ok (.astore_n 3, 1) := by decide +kernel
theorem dL_dayOf_13 : decode cL_dayOf 13 = .ok (.iconst 1, 1) := by decide +kernel
theorem dL_dayOf_14 : decode cL_dayOf 14 = .ok (.ireturn, 1) := by decide +kernel
theorem dL_dayOf_15 : decode cL_dayOf 15 = .ok (.iconst 0, 1) := by decide +kernel
theorem dL_dayOf_16 : decode cL_dayOf 16 = .ok (.ireturn, 1) := by decide +kernel
set_option maxRecDepth 20000 in
theorem ggL_weekdayOf_X0_weekdayOf : GoodIn wsL_weekdayOf wsX0_weekdayOf := goodIn_ca (goodIn_r _ [6, 7, 8, 5, 9, 10, 11, 12] (by decide +kernel) (by decide +kernel)) (goodIn_sub (fun _ h => List.mem_cons_of_mem _ (List.mem_append_right _ h)) (by decide +kernel))
set_option maxRecDepth 20000 in
theorem gL_weekdayOf_X0_weekdayOf : GoodIn wsL_weekdayOf (wsV RL 28 RX0 yX0_weekdayOf wsX0_weekdayOf) := goodIn_app (goodIn_of _ (by decide +kernel)) ggL_weekdayOf_X0_weekdayOf
theorem dL_weekdayOf_0 : decode cL_weekdayOf 0 = .ok (.aload_n 2, 1) := by decide +kernel
theorem dL_weekdayOf_1 : decode cL_weekdayOf 1 = .ok (.iconst 0, 1) := by decide +kernel
theorem dL_weekdayOf_2 : decode cL_weekdayOf 2 = .ok (.aload_n 0, 1) := by decide +kernel
theorem dL_weekdayOf_3 : decode cL_weekdayOf 3 = .ok (.iload_n 1, 1) := by decide +kernel
theorem dL_weekdayOf_4 : decode cL_weekdayOf 4 = .ok (.invokevirtual 28, 3) := by decide +kernel
theorem dL_weekdayOf_7 : decode cL_weekdayOf 7 = .ok (.i2l, 1) := by decide +kernel
theorem dL_weekdayOf_8 : decode cL_weekdayOf 8 = .ok (.lastore, 1) := by decide +kernel
theorem dL_weekdayOf_9 : decode cL_weekdayOf 9 = .ok (.goto 6, 3) := by decide +kernel
theorem dL_weekdayOf_12 : decode cL_weekdayOf 12 = .ok (.astore_n 3, 1) := by decide +kernel
theorem dL_weekdayOf_13 : decode cL_weekdayOf 13 = .ok (.iconst 1, 1) := by decide +kernel
theorem dL_weekdayOf_14 : decode cL_weekdayOf 14 = .ok (.ireturn, 1) := by decide +kernel
theorem dL_weekdayOf_15 : decode cL_weekdayOf 15 = .ok (.iconst 0, 1) := by decide +kernel
theorem dL_weekdayOf_16 : decode cL_weekdayOf 16 = .ok (.ireturn, 1) := by decide +kernel
set_option maxRecDepth 20000 in
theorem ggL_anchorOf_X0_anchorOf : GoodIn wsL_anchorOf wsX0_anchorOf := goodIn_ca (goodIn_r _ [6, 7, 8, 5, 9, 10, 11, 12, 13, 14, 15, 16, 17, 18, 19, 20, 21, 22, 23, 24, 25, 26, 27, 28, 29, 30, 31, 32, 33, 34, 35, 36, 37, 38, 39, 40, 41, 42] (by decide +kernel) (by decide +kernel)) (goodIn_sub (fun _ h => List.mem_cons_of_mem _ (List.mem_append_right _ h)) (by decide +kernel))
set_option maxRecDepth 20000 in
theorem gL_anchorOf_X0_anchorOf : GoodIn wsL_anchorOf (wsV RL 31 RX0 yX0_anchorOf wsX0_anchorOf) := goodIn_app (goodIn_of _ (by decide +kernel)) ggL_anchorOf_X0_anchorOf
theorem dL_anchorOf_0 : decode cL_anchorOf 0 = .ok (.aload_n 2, 1) := by decide +kernel
theorem dL_anchorOf_1 : decode cL_anchorOf 1 = .ok (.iconst 0, 1) := by decide +kernel
theorem dL_anchorOf_2 : decode cL_anchorOf 2 = .ok (.aload_n 0, 1) := by decide +kernel
theorem dL_anchorOf_3 : decode cL_anchorOf 3 = .ok (.iload_n 1, 1) := by decide +kernel
theorem dL_anchorOf_4 : decode cL_anchorOf 4 = .ok (.invokevirtual 31, 3) := by decide +kernel
theorem dL_anchorOf_7 : decode cL_anchorOf 7 = .ok (.i2l, 1) := by decide +kernel
theorem dL_anchorOf_8 : decode cL_anchorOf 8 = .ok (.lastore, 1) := by decide +kernel
theorem dL_anchorOf_9 : decode cL_anchorOf 9 = .ok (.goto 6, 3) := by decide +kernel
theorem dL_anchorOf_12 : decode cL_anchorOf 12 = .ok (.astore_n 3, 1) := by decide +kernel
theorem dL_anchorOf_13 : decode cL_anchorOf 13 = .ok (.iconst 1, 1) := by decide +kernel
theorem dL_anchorOf_14 : decode cL_anchorOf 14 = .ok (.ireturn, 1) := by decide +kernel
theorem dL_anchorOf_15 : decode cL_anchorOf 15 = .ok (.iconst 0, 1) := by decide +kernel
theorem dL_anchorOf_16 : decode cL_anchorOf 16 = .ok (.ireturn, 1) := by decide +kernel
set_option maxRecDepth 20000 in
theorem ggL_anchorMonthOf_X0_anchorMonthOf : GoodIn wsL_anchorMonthOf wsX0_anchorMonthOf := goodIn_ca (goodIn_r _ [6, 7, 8, 5, 9, 10, 11, 12, 13, 14, 15, 16, 17, 18, 19, 20, 21, 22, 23, 24, 25, 26, 27, 28, 29, 30, 31, 32, 33, 34, 35, 36, 37, 38, 39] (by decide +kernel) (by decide +kernel)) (goodIn_sub (fun _ h => List.mem_cons_of_mem _ (List.mem_append_right _ h)) (by decide +kernel))
set_option maxRecDepth 20000 in
theorem gL_anchorMonthOf_X0_anchorMonthOf : GoodIn wsL_anchorMonthOf (wsV RL 34 RX0 yX0_anchorMonthOf wsX0_anchorMonthOf) := goodIn_app (goodIn_of _ (by decide +kernel)) ggL_anchorMonthOf_X0_anchorMonthOf
theorem dL_anchorMonthOf_0 : decode cL_anchorMonthOf 0 = .ok (.aload_n 2, 1) := by decide +kernel
theorem dL_anchorMonthOf_1 : decode cL_anchorMonthOf 1 = .ok (.iconst 0, 1) := by decide +kernel
theorem dL_anchorMonthOf_2 : decode cL_anchorMonthOf 2 = .ok (.aload_n 0, 1) := by decide +kernel
theorem dL_anchorMonthOf_3 : decode cL_anchorMonthOf 3 = .ok (.iload_n 1, 1) := by decide +kernel
theorem dL_anchorMonthOf_4 : decode cL_anchorMonthOf 4 = .ok (.invokevirtual 34, 3) := by decide +kernel
theorem dL_anchorMonthOf_7 : decode cL_anchorMonthOf 7 = .ok (.i2l, 1) := by decide +kernel
theorem dL_anchorMonthOf_8 : decode cL_anchorMonthOf 8 = .ok (.lastore, 1) := by decide +kernel
theorem dL_anchorMonthOf_9 : decode cL_anchorMonthOf 9 = .ok (.goto 6, 3) := by decide +kernel
theorem dL_anchorMonthOf_12 : decode cL_anchorMonthOf 12 = .ok (.astore_n 3, 1) := by decide +kernel
theorem dL_anchorMonthOf_13 : decode cL_anchorMonthOf 13 = .ok (.iconst 1, 1) := by decide +kernel
theorem dL_anchorMonthOf_14 : decode cL_anchorMonthOf 14 = .ok (.ireturn, 1) := by decide +kernel
theorem dL_anchorMonthOf_15 : decode cL_anchorMonthOf 15 = .ok (.iconst 0, 1) := by decide +kernel
theorem dL_anchorMonthOf_16 : decode cL_anchorMonthOf 16 = .ok (.ireturn, 1) := by decide +kernel
set_option maxRecDepth 20000 in
theorem ggL_countOf_X0_countOf : GoodIn wsL_countOf wsX0_countOf := goodIn_ca (goodIn_r _ [6, 7, 8, 5, 9, 10, 11, 12, 13, 14, 15, 16, 17, 18, 19, 20, 21, 22, 23, 24, 25, 26, 27, 28, 29, 30, 31, 32, 33, 34, 35, 36, 37, 38, 39, 40, 41, 42] (by decide +kernel) (by decide +kernel)) (goodIn_sub (fun _ h => List.mem_cons_of_mem _ (List.mem_append_right _ h)) (by decide +kernel))
set_option maxRecDepth 20000 in
theorem gL_countOf_X0_countOf : GoodIn wsL_countOf (wsV RL 37 RX0 yX0_countOf wsX0_countOf) := goodIn_app (goodIn_of _ (by decide +kernel)) ggL_countOf_X0_countOf
theorem dL_countOf_0 : decode cL_countOf 0 = .ok (.aload_n 2, 1) := by decide +kernel
theorem dL_countOf_1 : decode cL_countOf 1 = .ok (.iconst 0, 1) := by decide +kernel
theorem dL_countOf_2 : decode cL_countOf 2 = .ok (.aload_n 0, 1) := by decide +kernel
theorem dL_countOf_3 : decode cL_countOf 3 = .ok (.iload_n 1, 1) := by decide +kernel
theorem dL_countOf_4 : decode cL_countOf 4 = .ok (.invokevirtual 37, 3) := by decide +kernel
theorem dL_countOf_7 : decode cL_countOf 7 = .ok (.i2l, 1) := by decide +kernel
theorem dL_countOf_8 : decode cL_countOf 8 = .ok (.lastore, 1) := by decide +kernel
theorem dL_countOf_9 : decode cL_countOf 9 = .ok (.goto 6, 3) := by decide +kernel
theorem dL_countOf_12 : decode cL_countOf 12 = .ok (.astore_n 3, 1) := by decide +kernel
theorem dL_countOf_13 : decode cL_countOf 13 = .ok (.iconst 1, 1) := by decide +kernel
theorem dL_countOf_14 : decode cL_countOf 14 = .ok (.ireturn, 1) := by decide +kernel
theorem dL_countOf_15 : decode cL_countOf 15 = .ok (.iconst 0, 1) := by decide +kernel
theorem dL_countOf_16 : decode cL_countOf 16 = .ok (.ireturn, 1) := by decide +kernel
set_option maxRecDepth 20000 in
theorem ggL_isDoubled_X0_isDoubled : GoodIn wsL_isDoubled wsX0_isDoubled := goodIn_ca (goodIn_r _ [6, 7, 8, 5, 9, 10, 11, 12] (by decide +kernel) (by decide +kernel)) (goodIn_sub (fun _ h => List.mem_cons_of_mem _ (List.mem_append_right _ h)) (by decide +kernel))
set_option maxRecDepth 20000 in
theorem gL_isDoubled_X0_isDoubled : GoodIn wsL_isDoubled (wsV RL 40 RX0 yX0_isDoubled wsX0_isDoubled) := goodIn_app (goodIn_of _ (by decide +kernel)) ggL_isDoubled_X0_isDoubled
theorem dL_isDoubled_0 : decode cL_isDoubled 0 = .ok (.aload_n 2, 1) := by decide +kernel
theorem dL_isDoubled_1 : decode cL_isDoubled 1 = .ok (.iconst 0, 1) := by decide +kernel
theorem dL_isDoubled_2 : decode cL_isDoubled 2 = .ok (.aload_n 0, 1) := by decide +kernel
theorem dL_isDoubled_3 : decode cL_isDoubled 3 = .ok (.iload_n 1, 1) := by decide +kernel
theorem dL_isDoubled_4 : decode cL_isDoubled 4 = .ok (.invokevirtual 40, 3) := by decide +kernel
theorem dL_isDoubled_7 : decode cL_isDoubled 7 = .ok (.ifCond .eq 7, 3) := by decide +kernel
theorem dL_isDoubled_10 : decode cL_isDoubled 10 = .ok (.lconst 1, 1) := by decide +kernel
theorem dL_isDoubled_11 : decode cL_isDoubled 11 = .ok (.goto 4, 3) := by decide +kernel
theorem dL_isDoubled_14 : decode cL_isDoubled 14 = .ok (.lconst 0, 1) := by decide +kernel
theorem dL_isDoubled_15 : decode cL_isDoubled 15 = .ok (.lastore, 1) := by decide +kernel
theorem dL_isDoubled_16 : decode cL_isDoubled 16 = .ok (.goto 6, 3) := by decide +kernel
theorem dL_isDoubled_19 : decode cL_isDoubled 19 = .ok (.astore_n 3, 1) := by decide +kernel
theorem dL_isDoubled_20 : decode cL_isDoubled 20 = .ok (.iconst 1, 1) := by decide +kernel
theorem dL_isDoubled_21 : decode cL_isDoubled 21 = .ok (.ireturn, 1) := by decide +kernel
theorem dL_isDoubled_22 : decode cL_isDoubled 22 = .ok (.iconst 0, 1) := by decide +kernel
theorem dL_isDoubled_23 : decode cL_isDoubled 23 = .ok (.ireturn, 1) := by decide +kernel
set_option maxRecDepth 20000 in
theorem ggL_fromCount_X0_fromCount : GoodIn wsL_fromCount wsX0_fromCount := goodIn_ca (goodIn_ca (goodIn_ca (goodIn_r _ [8, 9, 10, 11, 12, 13, 14, 7, 15, 16, 17, 18, 19, 20, 21, 22, 23, 24, 25, 26, 27, 28, 29, 30, 31, 32, 33, 34, 35, 36, 37, 38, 39, 40, 41, 42, 43, 44, 45, 46, 47, 48, 49, 50] (by decide +kernel) (by decide +kernel)) (goodIn_sub (fun _ h => List.mem_cons_of_mem _ (List.mem_append_left _ (List.mem_append_left _ (List.mem_append_right _ h)))) (by decide +kernel))) (goodIn_sub (fun _ h => List.mem_cons_of_mem _ (List.mem_append_left _ (List.mem_append_right _ h))) (by decide +kernel))) (goodIn_sub (fun _ h => List.mem_cons_of_mem _ (List.mem_append_right _ h)) (by decide +kernel))
set_option maxRecDepth 20000 in
theorem gL_fromCount_X0_fromCount : GoodIn wsL_fromCount (wsV RL 44 RX0 yX0_fromCount wsX0_fromCount) := goodIn_app (goodIn_of _ (by decide +kernel)) ggL_fromCount_X0_fromCount
theorem dL_fromCount_0 : decode cL_fromCount 0 = .ok (.aload 6, 2) := by decide +kernel
theorem dL_fromCount_2 : decode cL_fromCount 2 = .ok (.iconst 0, 1) := by decide +kernel
theorem dL_fromCount_3 : decode cL_fromCount 3 = .ok (.aload_n 0, 1) := by decide +kernel
theorem dL_fromCount_4 : decode cL_fromCount 4 = .ok (.iload_n 1, 1) := by decide +kernel
theorem dL_fromCount_5 : decode cL_fromCount 5 = .ok (.iload_n 2, 1) := by decide +kernel
theorem dL_fromCount_6 : decode cL_fromCount 6 = .ok (.iload_n 3, 1) := by decide +kernel
theorem dL_fromCount_7 : decode cL_fromCount 7 = .ok (.iload 4, 2) := by decide +kernel
theorem dL_fromCount_9 : decode cL_fromCount 9 = .ok (.iload 5, 2) := by decide +kernel
theorem dL_fromCount_11 : decode cL_fromCount 11 = .ok (.invokevirtual 44, 3) := by decide +kernel
theorem dL_fromCount_14 : decode cL_fromCount 14 = .ok (.i2l, 1) := by decide +kernel
theorem dL_fromCount_15 : decode cL_fromCount 15 = .ok (.lastore, 1) := by decide +kernel
theorem dL_fromCount_16 : decode cL_fromCount 16 = .ok (.goto 15, 3) := by decide +kernel
theorem dL_fromCount_19 : decode cL_fromCount 19 = .ok (.astore 7, 2) := by decide +kernel
theorem dL_fromCount_21 : decode cL_fromCount 21 = .ok (.iconst 1, 1) := by decide +kernel
theorem dL_fromCount_22 : decode cL_fromCount 22 = .ok (.ireturn, 1) := by decide +kernel
theorem dL_fromCount_23 : decode cL_fromCount 23 = .ok (.astore 7, 2) := by decide +kernel
theorem dL_fromCount_25 : decode cL_fromCount 25 = .ok (.iconst 2, 1) := by decide +kernel
theorem dL_fromCount_26 : decode cL_fromCount 26 = .ok (.ireturn, 1) := by decide +kernel
theorem dL_fromCount_27 : decode cL_fromCount 27 = .ok (.astore 7, 2) := by decide +kernel
theorem dL_fromCount_29 : decode cL_fromCount 29 = .ok (.iconst 3, 1) := by decide +kernel
theorem dL_fromCount_30 : decode cL_fromCount 30 = .ok (.ireturn, 1) := by decide +kernel
theorem dL_fromCount_31 : decode cL_fromCount 31 = .ok (.iconst 0, 1) := by decide +kernel
theorem dL_fromCount_32 : decode cL_fromCount 32 = .ok (.ireturn, 1) := by decide +kernel
set_option maxRecDepth 20000 in
theorem ggL_greatestCount_X0_greatestCount : GoodIn wsL_greatestCount wsX0_greatestCount := goodIn_ca (goodIn_ca (goodIn_r _ [7, 8, 9, 6, 10, 11, 12, 13, 14, 15, 16, 17, 18, 19, 20, 21, 22, 23, 24, 25, 26, 27, 28, 29] (by decide +kernel) (by decide +kernel)) (goodIn_sub (fun _ h => List.mem_cons_of_mem _ (List.mem_append_left _ (List.mem_append_right _ h))) (by decide +kernel))) (goodIn_sub (fun _ h => List.mem_cons_of_mem _ (List.mem_append_right _ h)) (by decide +kernel))
set_option maxRecDepth 20000 in
theorem gL_greatestCount_X0_greatestCount : GoodIn wsL_greatestCount (wsV RL 52 RX0 yX0_greatestCount wsX0_greatestCount) := goodIn_app (goodIn_of _ (by decide +kernel)) ggL_greatestCount_X0_greatestCount
theorem dL_greatestCount_0 : decode cL_greatestCount 0 = .ok (.aload 4, 2) := by decide +kernel
theorem dL_greatestCount_2 : decode cL_greatestCount 2 = .ok (.iconst 0, 1) := by decide +kernel
theorem dL_greatestCount_3 : decode cL_greatestCount 3 = .ok (.aload_n 0, 1) := by decide +kernel
theorem dL_greatestCount_4 : decode cL_greatestCount 4 = .ok (.iload_n 1, 1) := by decide +kernel
theorem dL_greatestCount_5 : decode cL_greatestCount 5 = .ok (.iload_n 2, 1) := by decide +kernel
theorem dL_greatestCount_6 : decode cL_greatestCount 6 = .ok (.iload_n 3, 1) := by decide +kernel
theorem dL_greatestCount_7 : decode cL_greatestCount 7 = .ok (.invokevirtual 52, 3) := by decide +kernel
theorem dL_greatestCount_10 : decode cL_greatestCount 10 = .ok (.i2l, 1) := by decide +kernel
theorem dL_greatestCount_11 : decode cL_greatestCount 11 = .ok (.lastore, 1) := by decide +kernel
theorem dL_greatestCount_12 : decode cL_greatestCount 12 = .ok (.goto 11, 3) := by decide +kernel
theorem dL_greatestCount_15 : decode cL_greatestCount 15 = .ok (.astore 5, 2) := by decide +kernel
theorem dL_greatestCount_17 : decode cL_greatestCount 17 = .ok (.iconst 1, 1) := by decide +kernel
theorem dL_greatestCount_18 : decode cL_greatestCount 18 = .ok (.ireturn, 1) := by decide +kernel
theorem dL_greatestCount_19 : decode cL_greatestCount 19 = .ok (.astore 5, 2) := by decide +kernel
theorem dL_greatestCount_21 : decode cL_greatestCount 21 = .ok (.iconst 2, 1) := by decide +kernel
theorem dL_greatestCount_22 : decode cL_greatestCount 22 = .ok (.ireturn, 1) := by decide +kernel
theorem dL_greatestCount_23 : decode cL_greatestCount 23 = .ok (.iconst 0, 1) := by decide +kernel
theorem dL_greatestCount_24 : decode cL_greatestCount 24 = .ok (.ireturn, 1) := by decide +kernel
set_option maxRecDepth 20000 in
theorem ggL_lawNumber_X0_lawNumber : GoodIn wsL_lawNumber wsX0_lawNumber := goodIn_ca (goodIn_r _ [6, 7, 8, 5, 9, 10, 11, 12, 13, 14, 15, 16, 17, 18] (by decide +kernel) (by decide +kernel)) (goodIn_sub (fun _ h => List.mem_cons_of_mem _ (List.mem_append_right _ h)) (by decide +kernel))
set_option maxRecDepth 20000 in
theorem gL_lawNumber_X0_lawNumber : GoodIn wsL_lawNumber (wsV RL 55 RX0 yX0_lawNumber wsX0_lawNumber) := goodIn_app (goodIn_of _ (by decide +kernel)) ggL_lawNumber_X0_lawNumber
theorem dL_lawNumber_0 : decode cL_lawNumber 0 = .ok (.aload_n 2, 1) := by decide +kernel
theorem dL_lawNumber_1 : decode cL_lawNumber 1 = .ok (.iconst 0, 1) := by decide +kernel
theorem dL_lawNumber_2 : decode cL_lawNumber 2 = .ok (.aload_n 0, 1) := by decide +kernel
theorem dL_lawNumber_3 : decode cL_lawNumber 3 = .ok (.iload_n 1, 1) := by decide +kernel
theorem dL_lawNumber_4 : decode cL_lawNumber 4 = .ok (.invokevirtual 55, 3) := by decide +kernel
theorem dL_lawNumber_7 : decode cL_lawNumber 7 = .ok (.i2l, 1) := by decide +kernel
theorem dL_lawNumber_8 : decode cL_lawNumber 8 = .ok (.lastore, 1) := by decide +kernel
theorem dL_lawNumber_9 : decode cL_lawNumber 9 = .ok (.goto 6, 3) := by decide +kernel
theorem dL_lawNumber_12 : decode cL_lawNumber 12 = .ok (.astore_n 3, 1) := by decide +kernel
theorem dL_lawNumber_13 : decode cL_lawNumber 13 = .ok (.iconst 1, 1) := by decide +kernel
theorem dL_lawNumber_14 : decode cL_lawNumber 14 = .ok (.ireturn, 1) := by decide +kernel
theorem dL_lawNumber_15 : decode cL_lawNumber 15 = .ok (.iconst 0, 1) := by decide +kernel
theorem dL_lawNumber_16 : decode cL_lawNumber 16 = .ok (.ireturn, 1) := by decide +kernel
set_option maxRecDepth 20000 in
theorem ggL_termEnd_X0_termEnd : GoodIn wsL_termEnd wsX0_termEnd := goodIn_ca (goodIn_ca (goodIn_ca (goodIn_r _ [8, 9, 10, 11, 12, 13, 14, 15, 16, 7, 17, 18, 19, 20, 21, 22, 23, 24, 25, 26, 27, 28, 29, 30, 31, 32, 33, 34, 35] (by decide +kernel) (by decide +kernel)) (goodIn_sub (fun _ h => List.mem_cons_of_mem _ (List.mem_append_left _ (List.mem_append_left _ (List.mem_append_right _ h)))) (by decide +kernel))) (goodIn_sub (fun _ h => List.mem_cons_of_mem _ (List.mem_append_left _ (List.mem_append_right _ h))) (by decide +kernel))) (goodIn_sub (fun _ h => List.mem_cons_of_mem _ (List.mem_append_right _ h)) (by decide +kernel))
set_option maxRecDepth 20000 in
theorem gL_termEnd_X0_termEnd : GoodIn wsL_termEnd (wsV RL 58 RX0 yX0_termEnd wsX0_termEnd) := goodIn_app (goodIn_of _ (by decide +kernel)) ggL_termEnd_X0_termEnd
theorem dL_termEnd_0 : decode cL_termEnd 0 = .ok (.aload_n 3, 1) := by decide +kernel
theorem dL_termEnd_1 : decode cL_termEnd 1 = .ok (.iconst 0, 1) := by decide +kernel
theorem dL_termEnd_2 : decode cL_termEnd 2 = .ok (.aload_n 0, 1) := by decide +kernel
theorem dL_termEnd_3 : decode cL_termEnd 3 = .ok (.iload_n 1, 1) := by decide +kernel
theorem dL_termEnd_4 : decode cL_termEnd 4 = .ok (.iload_n 2, 1) := by decide +kernel
theorem dL_termEnd_5 : decode cL_termEnd 5 = .ok (.invokevirtual 58, 3) := by decide +kernel
theorem dL_termEnd_8 : decode cL_termEnd 8 = .ok (.i2l, 1) := by decide +kernel
theorem dL_termEnd_9 : decode cL_termEnd 9 = .ok (.lastore, 1) := by decide +kernel
theorem dL_termEnd_10 : decode cL_termEnd 10 = .ok (.goto 15, 3) := by decide +kernel
theorem dL_termEnd_13 : decode cL_termEnd 13 = .ok (.astore 4, 2) := by decide +kernel
theorem dL_termEnd_15 : decode cL_termEnd 15 = .ok (.iconst 1, 1) := by decide +kernel
theorem dL_termEnd_16 : decode cL_termEnd 16 = .ok (.ireturn, 1) := by decide +kernel
theorem dL_termEnd_17 : decode cL_termEnd 17 = .ok (.astore 4, 2) := by decide +kernel
theorem dL_termEnd_19 : decode cL_termEnd 19 = .ok (.iconst 2, 1) := by decide +kernel
theorem dL_termEnd_20 : decode cL_termEnd 20 = .ok (.ireturn, 1) := by decide +kernel
theorem dL_termEnd_21 : decode cL_termEnd 21 = .ok (.astore 4, 2) := by decide +kernel
theorem dL_termEnd_23 : decode cL_termEnd 23 = .ok (.iconst 3, 1) := by decide +kernel
theorem dL_termEnd_24 : decode cL_termEnd 24 = .ok (.ireturn, 1) := by decide +kernel
theorem dL_termEnd_25 : decode cL_termEnd 25 = .ok (.iconst 0, 1) := by decide +kernel
theorem dL_termEnd_26 : decode cL_termEnd 26 = .ok (.ireturn, 1) := by decide +kernel
set_option maxRecDepth 20000 in
theorem ggL_lawDays_X0_lawDays : GoodIn wsL_lawDays wsX0_lawDays := goodIn_ca (goodIn_r _ [6, 7, 8, 5, 9, 10, 11, 12, 13, 14, 15, 16, 17, 18] (by decide +kernel) (by decide +kernel)) (goodIn_sub (fun _ h => List.mem_cons_of_mem _ (List.mem_append_right _ h)) (by decide +kernel))
set_option maxRecDepth 20000 in
theorem gL_lawDays_X0_lawDays : GoodIn wsL_lawDays (wsV RL 62 RX0 yX0_lawDays wsX0_lawDays) := goodIn_app (goodIn_of _ (by decide +kernel)) ggL_lawDays_X0_lawDays
theorem dL_lawDays_0 : decode cL_lawDays 0 = .ok (.aload_n 3, 1) := by decide +kernel
theorem dL_lawDays_1 : decode cL_lawDays 1 = .ok (.iconst 0, 1) := by decide +kernel
theorem dL_lawDays_2 : decode cL_lawDays 2 = .ok (.aload_n 0, 1) := by decide +kernel
theorem dL_lawDays_3 : decode cL_lawDays 3 = .ok (.iload_n 1, 1) := by decide +kernel
theorem dL_lawDays_4 : decode cL_lawDays 4 = .ok (.iload_n 2, 1) := by decide +kernel
theorem dL_lawDays_5 : decode cL_lawDays 5 = .ok (.invokevirtual 62, 3) := by decide +kernel
theorem dL_lawDays_8 : decode cL_lawDays 8 = .ok (.i2l, 1) := by decide +kernel
theorem dL_lawDays_9 : decode cL_lawDays 9 = .ok (.lastore, 1) := by decide +kernel
theorem dL_lawDays_10 : decode cL_lawDays 10 = .ok (.goto 7, 3) := by decide +kernel
theorem dL_lawDays_13 : decode cL_lawDays 13 = .ok (.astore 4, 2) := by decide +kernel
theorem dL_lawDays_15 : decode cL_lawDays 15 = .ok (.iconst 1, 1) := by decide +kernel
theorem dL_lawDays_16 : decode cL_lawDays 16 = .ok (.ireturn, 1) := by decide +kernel
theorem dL_lawDays_17 : decode cL_lawDays 17 = .ok (.iconst 0, 1) := by decide +kernel
theorem dL_lawDays_18 : decode cL_lawDays 18 = .ok (.ireturn, 1) := by decide +kernel
set_option maxRecDepth 20000 in
theorem ggL_placeOf_X0_placeOf : GoodIn wsL_placeOf wsX0_placeOf := goodIn_ca (goodIn_r _ [6, 7, 8, 5, 9, 10, 11, 12, 13, 14, 15, 16, 17, 18, 19, 20, 21] (by decide +kernel) (by decide +kernel)) (goodIn_sub (fun _ h => List.mem_cons_of_mem _ (List.mem_append_right _ h)) (by decide +kernel))
set_option maxRecDepth 20000 in
theorem gL_placeOf_X0_placeOf : GoodIn wsL_placeOf (wsV RL 65 RX0 yX0_placeOf wsX0_placeOf) := goodIn_app (goodIn_of _ (by decide +kernel)) ggL_placeOf_X0_placeOf
theorem dL_placeOf_0 : decode cL_placeOf 0 = .ok (.aload_n 2, 1) := by decide +kernel
theorem dL_placeOf_1 : decode cL_placeOf 1 = .ok (.iconst 0, 1) := by decide +kernel
theorem dL_placeOf_2 : decode cL_placeOf 2 = .ok (.aload_n 0, 1) := by decide +kernel
theorem dL_placeOf_3 : decode cL_placeOf 3 = .ok (.iload_n 1, 1) := by decide +kernel
theorem dL_placeOf_4 : decode cL_placeOf 4 = .ok (.invokevirtual 65, 3) := by decide +kernel
theorem dL_placeOf_7 : decode cL_placeOf 7 = .ok (.i2l, 1) := by decide +kernel
theorem dL_placeOf_8 : decode cL_placeOf 8 = .ok (.lastore, 1) := by decide +kernel
theorem dL_placeOf_9 : decode cL_placeOf 9 = .ok (.goto 6, 3) := by decide +kernel
theorem dL_placeOf_12 : decode cL_placeOf 12 = .ok (.astore_n 3, 1) := by decide +kernel
theorem dL_placeOf_13 : decode cL_placeOf 13 = .ok (.iconst 1, 1) := by decide +kernel
theorem dL_placeOf_14 : decode cL_placeOf 14 = .ok (.ireturn, 1) := by decide +kernel
theorem dL_placeOf_15 : decode cL_placeOf 15 = .ok (.iconst 0, 1) := by decide +kernel
theorem dL_placeOf_16 : decode cL_placeOf 16 = .ok (.ireturn, 1) := by decide +kernel
set_option maxRecDepth 20000 in
theorem ggL_letterOfEight_X0_letterOfEight : GoodIn wsL_letterOfEight wsX0_letterOfEight := goodIn_ca (goodIn_r _ [6, 7, 8, 5, 9, 10, 11, 12, 13, 14, 15, 16, 17, 18, 19, 20, 21, 22, 23, 24] (by decide +kernel) (by decide +kernel)) (goodIn_sub (fun _ h => List.mem_cons_of_mem _ (List.mem_append_right _ h)) (by decide +kernel))
set_option maxRecDepth 20000 in
theorem gL_letterOfEight_X0_letterOfEight : GoodIn wsL_letterOfEight (wsV RL 68 RX0 yX0_letterOfEight wsX0_letterOfEight) := goodIn_app (goodIn_of _ (by decide +kernel)) ggL_letterOfEight_X0_letterOfEight
theorem dL_letterOfEight_0 : decode cL_letterOfEight 0 = .ok (.aload_n 2, 1) := by decide +kernel
theorem dL_letterOfEight_1 : decode cL_letterOfEight 1 = .ok (.iconst 0, 1) := by decide +kernel
theorem dL_letterOfEight_2 : decode cL_letterOfEight 2 = .ok (.aload_n 0, 1) := by decide +kernel
theorem dL_letterOfEight_3 : decode cL_letterOfEight 3 = .ok (.iload_n 1, 1) := by decide +kernel
theorem dL_letterOfEight_4 : decode cL_letterOfEight 4 = .ok (.invokevirtual 68, 3) := by decide +kernel
theorem dL_letterOfEight_7 : decode cL_letterOfEight 7 = .ok (.i2l, 1) := by decide +kernel
theorem dL_letterOfEight_8 : decode cL_letterOfEight 8 = .ok (.lastore, 1) := by decide +kernel
theorem dL_letterOfEight_9 : decode cL_letterOfEight 9 = .ok (.goto 6, 3) := by decide +kernel
theorem dL_letterOfEight_12 : decode cL_letterOfEight 12 = .ok (.astore_n 3, 1) := by decide +kernel
theorem dL_letterOfEight_13 : decode cL_letterOfEight 13 = .ok (.iconst 1, 1) := by decide +kernel
theorem dL_letterOfEight_14 : decode cL_letterOfEight 14 = .ok (.ireturn, 1) := by decide +kernel
theorem dL_letterOfEight_15 : decode cL_letterOfEight 15 = .ok (.iconst 0, 1) := by decide +kernel
theorem dL_letterOfEight_16 : decode cL_letterOfEight 16 = .ok (.ireturn, 1) := by decide +kernel
set_option maxRecDepth 20000 in
theorem ggL_letterOfSeven_X0_letterOfSeven : GoodIn wsL_letterOfSeven wsX0_letterOfSeven := goodIn_ca (goodIn_r _ [6, 7, 8, 5, 9, 10, 11, 12, 13, 14, 15, 16, 17, 18, 19, 20, 21, 22, 23, 24] (by decide +kernel) (by decide +kernel)) (goodIn_sub (fun _ h => List.mem_cons_of_mem _ (List.mem_append_right _ h)) (by decide +kernel))
set_option maxRecDepth 20000 in
theorem gL_letterOfSeven_X0_letterOfSeven : GoodIn wsL_letterOfSeven (wsV RL 71 RX0 yX0_letterOfSeven wsX0_letterOfSeven) := goodIn_app (goodIn_of _ (by decide +kernel)) ggL_letterOfSeven_X0_letterOfSeven
theorem dL_letterOfSeven_0 : decode cL_letterOfSeven 0 = .ok (.aload_n 2, 1) := by decide +kernel
theorem dL_letterOfSeven_1 : decode cL_letterOfSeven 1 = .ok (.iconst 0, 1) := by decide +kernel
theorem dL_letterOfSeven_2 : decode cL_letterOfSeven 2 = .ok (.aload_n 0, 1) := by decide +kernel
theorem dL_letterOfSeven_3 : decode cL_letterOfSeven 3 = .ok (.iload_n 1, 1) := by decide +kernel
theorem dL_letterOfSeven_4 : decode cL_letterOfSeven 4 = .ok (.invokevirtual 71, 3) := by decide +kernel
theorem dL_letterOfSeven_7 : decode cL_letterOfSeven 7 = .ok (.i2l, 1) := by decide +kernel
theorem dL_letterOfSeven_8 : decode cL_letterOfSeven 8 = .ok (.lastore, 1) := by decide +kernel
theorem dL_letterOfSeven_9 : decode cL_letterOfSeven 9 = .ok (.goto 6, 3) := by decide +kernel
theorem dL_letterOfSeven_12 : decode cL_letterOfSeven 12 = .ok (.astore_n 3, 1) := by decide +kernel
theorem dL_letterOfSeven_13 : decode cL_letterOfSeven 13 = .ok (.iconst 1, 1) := by decide +kernel
theorem dL_letterOfSeven_14 : decode cL_letterOfSeven 14 = .ok (.ireturn, 1) := by decide +kernel
theorem dL_letterOfSeven_15 : decode cL_letterOfSeven 15 = .ok (.iconst 0, 1) := by decide +kernel
theorem dL_letterOfSeven_16 : decode cL_letterOfSeven 16 = .ok (.ireturn, 1) := by decide +kernel
set_option maxRecDepth 20000 in
theorem ggL_setMarketDay_X0_setMarketDay : GoodIn wsL_setMarketDay wsX0_setMarketDay := goodIn_ca (goodIn_r _ [6, 7, 8, 9, 5, 10, 11, 12, 13, 14, 15, 16, 17] (by decide +kernel) (by decide +kernel)) (goodIn_sub (fun _ h => List.mem_cons_of_mem _ (List.mem_append_right _ h)) (by decide +kernel))
set_option maxRecDepth 20000 in
theorem gL_setMarketDay_X0_setMarketDay : GoodIn wsL_setMarketDay (wsV RL 74 RX0 yX0_setMarketDay wsX0_setMarketDay) := goodIn_app (goodIn_of _ (by decide +kernel)) ggL_setMarketDay_X0_setMarketDay
theorem dL_setMarketDay_0 : decode cL_setMarketDay 0 = .ok (.aload_n 2, 1) := by decide +kernel
theorem dL_setMarketDay_1 : decode cL_setMarketDay 1 = .ok (.iconst 0, 1) := by decide +kernel
theorem dL_setMarketDay_2 : decode cL_setMarketDay 2 = .ok (.aload_n 0, 1) := by decide +kernel
theorem dL_setMarketDay_3 : decode cL_setMarketDay 3 = .ok (.iload_n 1, 1) := by decide +kernel
theorem dL_setMarketDay_4 : decode cL_setMarketDay 4 = .ok (.invokevirtual 74, 3) := by decide +kernel
theorem dL_setMarketDay_7 : decode cL_setMarketDay 7 = .ok (.i2l, 1) := by decide +kernel
theorem dL_setMarketDay_8 : decode cL_setMarketDay 8 = .ok (.lastore, 1) := by decide +kernel
theorem dL_setMarketDay_9 : decode cL_setMarketDay 9 = .ok (.goto 6, 3) := by decide +kernel
theorem dL_setMarketDay_12 : decode cL_setMarketDay 12 = .ok (.astore_n 3, 1) := by decide +kernel
theorem dL_setMarketDay_13 : decode cL_setMarketDay 13 = .ok (.iconst 1, 1) := by decide +kernel
theorem dL_setMarketDay_14 : decode cL_setMarketDay 14 = .ok (.ireturn, 1) := by decide +kernel
theorem dL_setMarketDay_15 : decode cL_setMarketDay 15 = .ok (.iconst 0, 1) := by decide +kernel
theorem dL_setMarketDay_16 : decode cL_setMarketDay 16 = .ok (.ireturn, 1) := by decide +kernel
set_option maxRecDepth 20000 in
theorem ggL_isMarket_X0_isMarket : GoodIn wsL_isMarket wsX0_isMarket := goodIn_ca (goodIn_r _ [6, 7, 8, 5, 9, 10, 11, 12, 13, 14, 15, 16, 17, 18, 19, 20, 21] (by decide +kernel) (by decide +kernel)) (goodIn_sub (fun _ h => List.mem_cons_of_mem _ (List.mem_append_right _ h)) (by decide +kernel))
set_option maxRecDepth 20000 in
theorem gL_isMarket_X0_isMarket : GoodIn wsL_isMarket (wsV RL 77 RX0 yX0_isMarket wsX0_isMarket) := goodIn_app (goodIn_of _ (by decide +kernel)) ggL_isMarket_X0_isMarket
theorem dL_isMarket_0 : decode cL_isMarket 0 = .ok (.aload_n 2, 1) := by decide +kernel
theorem dL_isMarket_1 : decode cL_isMarket 1 = .ok (.iconst 0, 1) := by decide +kernel
theorem dL_isMarket_2 : decode cL_isMarket 2 = .ok (.aload_n 0, 1) := by decide +kernel
theorem dL_isMarket_3 : decode cL_isMarket 3 = .ok (.iload_n 1, 1) := by decide +kernel
theorem dL_isMarket_4 : decode cL_isMarket 4 = .ok (.invokevirtual 77, 3) := by decide +kernel
theorem dL_isMarket_7 : decode cL_isMarket 7 = .ok (.ifCond .eq 7, 3) := by decide +kernel
theorem dL_isMarket_10 : decode cL_isMarket 10 = .ok (.lconst 1, 1) := by decide +kernel
theorem dL_isMarket_11 : decode cL_isMarket 11 = .ok (.goto 4, 3) := by decide +kernel
theorem dL_isMarket_14 : decode cL_isMarket 14 = .ok (.lconst 0, 1) := by decide +kernel
theorem dL_isMarket_15 : decode cL_isMarket 15 = .ok (.lastore, 1) := by decide +kernel
theorem dL_isMarket_16 : decode cL_isMarket 16 = .ok (.goto 6, 3) := by decide +kernel
theorem dL_isMarket_19 : decode cL_isMarket 19 = .ok (.astore_n 3, 1) := by decide +kernel
theorem dL_isMarket_20 : decode cL_isMarket 20 = .ok (.iconst 1, 1) := by decide +kernel
theorem dL_isMarket_21 : decode cL_isMarket 21 = .ok (.ireturn, 1) := by decide +kernel
theorem dL_isMarket_22 : decode cL_isMarket 22 = .ok (.iconst 0, 1) := by decide +kernel
theorem dL_isMarket_23 : decode cL_isMarket 23 = .ok (.ireturn, 1) := by decide +kernel
set_option maxRecDepth 20000 in
theorem ggL_marketLetters_X0_marketLetters : GoodIn wsL_marketLetters wsX0_marketLetters := goodIn_ca (goodIn_r _ [6, 7, 8, 9, 5, 10, 11, 12, 13, 14, 15, 16, 17, 18, 19, 20, 21, 22, 23, 24, 25, 26, 27, 28, 29, 30, 31, 32, 33, 34, 35, 36, 37, 38] (by decide +kernel) (by decide +kernel)) (goodIn_sub (fun _ h => List.mem_cons_of_mem _ (List.mem_append_right _ h)) (by decide +kernel))
set_option maxRecDepth 20000 in
theorem gL_marketLetters_X0_marketLetters : GoodIn wsL_marketLetters (wsV RL 80 RX0 yX0_marketLetters wsX0_marketLetters) := goodIn_app (goodIn_of _ (by decide +kernel)) ggL_marketLetters_X0_marketLetters
theorem dL_marketLetters_0 : decode cL_marketLetters 0 = .ok (.aload_n 2, 1) := by decide +kernel
theorem dL_marketLetters_1 : decode cL_marketLetters 1 = .ok (.iconst 0, 1) := by decide +kernel
theorem dL_marketLetters_2 : decode cL_marketLetters 2 = .ok (.aload_n 0, 1) := by decide +kernel
theorem dL_marketLetters_3 : decode cL_marketLetters 3 = .ok (.iload_n 1, 1) := by decide +kernel
theorem dL_marketLetters_4 : decode cL_marketLetters 4 = .ok (.invokevirtual 80, 3) := by decide +kernel
theorem dL_marketLetters_7 : decode cL_marketLetters 7 = .ok (.i2l, 1) := by decide +kernel
theorem dL_marketLetters_8 : decode cL_marketLetters 8 = .ok (.lastore, 1) := by decide +kernel
theorem dL_marketLetters_9 : decode cL_marketLetters 9 = .ok (.goto 6, 3) := by decide +kernel
theorem dL_marketLetters_12 : decode cL_marketLetters 12 = .ok (.astore_n 3, 1) := by decide +kernel
theorem dL_marketLetters_13 : decode cL_marketLetters 13 = .ok (.iconst 1, 1) := by decide +kernel
theorem dL_marketLetters_14 : decode cL_marketLetters 14 = .ok (.ireturn, 1) := by decide +kernel
theorem dL_marketLetters_15 : decode cL_marketLetters 15 = .ok (.iconst 0, 1) := by decide +kernel
theorem dL_marketLetters_16 : decode cL_marketLetters 16 = .ok (.ireturn, 1) := by decide +kernel
set_option maxRecDepth 20000 in
theorem ggL_sundayLetters_X0_sundayLetters : GoodIn wsL_sundayLetters wsX0_sundayLetters := goodIn_ca (goodIn_r _ [6, 7, 8, 5, 9, 10, 11, 12, 13, 14, 15, 16, 17, 18, 19, 20, 21, 22, 23, 24, 25, 26, 27, 28, 29, 30, 31, 32, 33] (by decide +kernel) (by decide +kernel)) (goodIn_sub (fun _ h => List.mem_cons_of_mem _ (List.mem_append_right _ h)) (by decide +kernel))
set_option maxRecDepth 20000 in
theorem gL_sundayLetters_X0_sundayLetters : GoodIn wsL_sundayLetters (wsV RL 83 RX0 yX0_sundayLetters wsX0_sundayLetters) := goodIn_app (goodIn_of _ (by decide +kernel)) ggL_sundayLetters_X0_sundayLetters
theorem dL_sundayLetters_0 : decode cL_sundayLetters 0 = .ok (.aload_n 2, 1) := by decide +kernel
theorem dL_sundayLetters_1 : decode cL_sundayLetters 1 = .ok (.iconst 0, 1) := by decide +kernel
theorem dL_sundayLetters_2 : decode cL_sundayLetters 2 = .ok (.aload_n 0, 1) := by decide +kernel
theorem dL_sundayLetters_3 : decode cL_sundayLetters 3 = .ok (.iload_n 1, 1) := by decide +kernel
theorem dL_sundayLetters_4 : decode cL_sundayLetters 4 = .ok (.invokevirtual 83, 3) := by decide +kernel
theorem dL_sundayLetters_7 : decode cL_sundayLetters 7 = .ok (.i2l, 1) := by decide +kernel
theorem dL_sundayLetters_8 : decode cL_sundayLetters 8 = .ok (.lastore, 1) := by decide +kernel
theorem dL_sundayLetters_9 : decode cL_sundayLetters 9 = .ok (.goto 6, 3) := by decide +kernel
theorem dL_sundayLetters_12 : decode cL_sundayLetters 12 = .ok (.astore_n 3, 1) := by decide +kernel
theorem dL_sundayLetters_13 : decode cL_sundayLetters 13 = .ok (.iconst 1, 1) := by decide +kernel
theorem dL_sundayLetters_14 : decode cL_sundayLetters 14 = .ok (.ireturn, 1) := by decide +kernel
theorem dL_sundayLetters_15 : decode cL_sundayLetters 15 = .ok (.iconst 0, 1) := by decide +kernel
theorem dL_sundayLetters_16 : decode cL_sundayLetters 16 = .ok (.ireturn, 1) := by decide +kernel
set_option maxRecDepth 20000 in
theorem ggL_setConsuls_X0_setConsuls : GoodIn wsL_setConsuls wsX0_setConsuls := goodIn_ca (goodIn_ca (goodIn_ca (goodIn_r _ [8, 9, 10, 11, 12, 13, 14, 15, 16, 7, 17, 18, 19, 20, 21, 22, 23, 24, 25, 26, 27, 28, 29, 30, 31, 32, 33, 34, 35, 36, 37] (by decide +kernel) (by decide +kernel)) (goodIn_sub (fun _ h => List.mem_cons_of_mem _ (List.mem_append_left _ (List.mem_append_left _ (List.mem_append_right _ h)))) (by decide +kernel))) (goodIn_sub (fun _ h => List.mem_cons_of_mem _ (List.mem_append_left _ (List.mem_append_right _ h))) (by decide +kernel))) (goodIn_sub (fun _ h => List.mem_cons_of_mem _ (List.mem_append_right _ h)) (by decide +kernel))
set_option maxRecDepth 20000 in
theorem gL_setConsuls_X0_setConsuls : GoodIn wsL_setConsuls (wsV RL 86 RX0 yX0_setConsuls wsX0_setConsuls) := goodIn_app (goodIn_of _ (by decide +kernel)) ggL_setConsuls_X0_setConsuls
theorem dL_setConsuls_0 : decode cL_setConsuls 0 = .ok (.aload 4, 2) := by decide +kernel
theorem dL_setConsuls_2 : decode cL_setConsuls 2 = .ok (.iconst 0, 1) := by decide +kernel
theorem dL_setConsuls_3 : decode cL_setConsuls 3 = .ok (.aload_n 0, 1) := by decide +kernel
theorem dL_setConsuls_4 : decode cL_setConsuls 4 = .ok (.iload_n 1, 1) := by decide +kernel
theorem dL_setConsuls_5 : decode cL_setConsuls 5 = .ok (.iload_n 2, 1) := by decide +kernel
theorem dL_setConsuls_6 : decode cL_setConsuls 6 = .ok (.iload_n 3, 1) := by decide +kernel
theorem dL_setConsuls_7 : decode cL_setConsuls 7 = .ok (.invokevirtual 86, 3) := by decide +kernel
theorem dL_setConsuls_10 : decode cL_setConsuls 10 = .ok (.i2l, 1) := by decide +kernel
theorem dL_setConsuls_11 : decode cL_setConsuls 11 = .ok (.lastore, 1) := by decide +kernel
theorem dL_setConsuls_12 : decode cL_setConsuls 12 = .ok (.goto 15, 3) := by decide +kernel
theorem dL_setConsuls_15 : decode cL_setConsuls 15 = .ok (.astore 5, 2) := by decide +kernel
theorem dL_setConsuls_17 : decode cL_setConsuls 17 = .ok (.iconst 1, 1) := by decide +kernel
theorem dL_setConsuls_18 : decode cL_setConsuls 18 = .ok (.ireturn, 1) := by decide +kernel
theorem dL_setConsuls_19 : decode cL_setConsuls 19 = .ok (.astore 5, 2) := by decide +kernel
theorem dL_setConsuls_21 : decode cL_setConsuls 21 = .ok (.iconst 2, 1) := by decide +kernel
theorem dL_setConsuls_22 : decode cL_setConsuls 22 = .ok (.ireturn, 1) := by decide +kernel
theorem dL_setConsuls_23 : decode cL_setConsuls 23 = .ok (.astore 5, 2) := by decide +kernel
theorem dL_setConsuls_25 : decode cL_setConsuls 25 = .ok (.iconst 3, 1) := by decide +kernel
theorem dL_setConsuls_26 : decode cL_setConsuls 26 = .ok (.ireturn, 1) := by decide +kernel
theorem dL_setConsuls_27 : decode cL_setConsuls 27 = .ok (.iconst 0, 1) := by decide +kernel
theorem dL_setConsuls_28 : decode cL_setConsuls 28 = .ok (.ireturn, 1) := by decide +kernel
set_option maxRecDepth 20000 in
theorem ggL_strikeConsuls_X0_strikeConsuls : GoodIn wsL_strikeConsuls wsX0_strikeConsuls := goodIn_ca (goodIn_ca (goodIn_r _ [7, 8, 9, 10, 11, 12, 6, 13, 14, 15, 16, 17, 18, 19, 20, 21, 22, 23, 24, 25, 26, 27, 28, 29, 30] (by decide +kernel) (by decide +kernel)) (goodIn_sub (fun _ h => List.mem_cons_of_mem _ (List.mem_append_left _ (List.mem_append_right _ h))) (by decide +kernel))) (goodIn_sub (fun _ h => List.mem_cons_of_mem _ (List.mem_append_right _ h)) (by decide +kernel))
set_option maxRecDepth 20000 in
theorem gL_strikeConsuls_X0_strikeConsuls : GoodIn wsL_strikeConsuls (wsV RL 89 RX0 yX0_strikeConsuls wsX0_strikeConsuls) := goodIn_app (goodIn_of _ (by decide +kernel)) ggL_strikeConsuls_X0_strikeConsuls
theorem dL_strikeConsuls_0 : decode cL_strikeConsuls 0 = .ok (.aload_n 2, 1) := by decide +kernel
theorem dL_strikeConsuls_1 : decode cL_strikeConsuls 1 = .ok (.iconst 0, 1) := by decide +kernel
theorem dL_strikeConsuls_2 : decode cL_strikeConsuls 2 = .ok (.aload_n 0, 1) := by decide +kernel
theorem dL_strikeConsuls_3 : decode cL_strikeConsuls 3 = .ok (.iload_n 1, 1) := by decide +kernel
theorem dL_strikeConsuls_4 : decode cL_strikeConsuls 4 = .ok (.invokevirtual 89, 3) := by decide +kernel
theorem dL_strikeConsuls_7 : decode cL_strikeConsuls 7 = .ok (.i2l, 1) := by decide +kernel
theorem dL_strikeConsuls_8 : decode cL_strikeConsuls 8 = .ok (.lastore, 1) := by decide +kernel
theorem dL_strikeConsuls_9 : decode cL_strikeConsuls 9 = .ok (.goto 9, 3) := by decide +kernel
theorem dL_strikeConsuls_12 : decode cL_strikeConsuls 12 = .ok (.astore_n 3, 1) := by decide +kernel
theorem dL_strikeConsuls_13 : decode cL_strikeConsuls 13 = .ok (.iconst 1, 1) := by decide +kernel
theorem dL_strikeConsuls_14 : decode cL_strikeConsuls 14 = .ok (.ireturn, 1) := by decide +kernel
theorem dL_strikeConsuls_15 : decode cL_strikeConsuls 15 = .ok (.astore_n 3, 1) := by decide +kernel
theorem dL_strikeConsuls_16 : decode cL_strikeConsuls 16 = .ok (.iconst 2, 1) := by decide +kernel
theorem dL_strikeConsuls_17 : decode cL_strikeConsuls 17 = .ok (.ireturn, 1) := by decide +kernel
theorem dL_strikeConsuls_18 : decode cL_strikeConsuls 18 = .ok (.iconst 0, 1) := by decide +kernel
theorem dL_strikeConsuls_19 : decode cL_strikeConsuls 19 = .ok (.ireturn, 1) := by decide +kernel
set_option maxRecDepth 20000 in
theorem ggL_consulsOf_X0_consulsOf : GoodIn wsL_consulsOf wsX0_consulsOf := goodIn_ca (goodIn_r _ [6, 7, 8, 9, 5, 10, 11, 12, 13, 14, 15, 16, 17, 18, 19, 20, 21, 22, 23, 24] (by decide +kernel) (by decide +kernel)) (goodIn_sub (fun _ h => List.mem_cons_of_mem _ (List.mem_append_right _ h)) (by decide +kernel))
set_option maxRecDepth 20000 in
theorem gL_consulsOf_X0_consulsOf : GoodIn wsL_consulsOf (wsV RL 92 RX0 yX0_consulsOf wsX0_consulsOf) := goodIn_app (goodIn_of _ (by decide +kernel)) ggL_consulsOf_X0_consulsOf
theorem dL_consulsOf_0 : decode cL_consulsOf 0 = .ok (.aload_n 2, 1) := by decide +kernel
theorem dL_consulsOf_1 : decode cL_consulsOf 1 = .ok (.iconst 0, 1) := by decide +kernel
theorem dL_consulsOf_2 : decode cL_consulsOf 2 = .ok (.aload_n 0, 1) := by decide +kernel
theorem dL_consulsOf_3 : decode cL_consulsOf 3 = .ok (.iload_n 1, 1) := by decide +kernel
theorem dL_consulsOf_4 : decode cL_consulsOf 4 = .ok (.invokevirtual 92, 3) := by decide +kernel
theorem dL_consulsOf_7 : decode cL_consulsOf 7 = .ok (.i2l, 1) := by decide +kernel
theorem dL_consulsOf_8 : decode cL_consulsOf 8 = .ok (.lastore, 1) := by decide +kernel
theorem dL_consulsOf_9 : decode cL_consulsOf 9 = .ok (.goto 6, 3) := by decide +kernel
theorem dL_consulsOf_12 : decode cL_consulsOf 12 = .ok (.astore_n 3, 1) := by decide +kernel
theorem dL_consulsOf_13 : decode cL_consulsOf 13 = .ok (.iconst 1, 1) := by decide +kernel
theorem dL_consulsOf_14 : decode cL_consulsOf 14 = .ok (.ireturn, 1) := by decide +kernel
theorem dL_consulsOf_15 : decode cL_consulsOf 15 = .ok (.iconst 0, 1) := by decide +kernel
theorem dL_consulsOf_16 : decode cL_consulsOf 16 = .ok (.ireturn, 1) := by decide +kernel
set_option maxRecDepth 20000 in
theorem ggL_afterConsuls_X0_afterConsuls : GoodIn wsL_afterConsuls wsX0_afterConsuls := goodIn_ca (goodIn_r _ [6, 7, 8, 9, 5, 10, 11, 12, 13, 14, 15, 16] (by decide +kernel) (by decide +kernel)) (goodIn_sub (fun _ h => List.mem_cons_of_mem _ (List.mem_append_right _ h)) (by decide +kernel))
set_option maxRecDepth 20000 in
theorem gL_afterConsuls_X0_afterConsuls : GoodIn wsL_afterConsuls (wsV RL 95 RX0 yX0_afterConsuls wsX0_afterConsuls) := goodIn_app (goodIn_of _ (by decide +kernel)) ggL_afterConsuls_X0_afterConsuls
theorem dL_afterConsuls_0 : decode cL_afterConsuls 0 = .ok (.aload_n 2, 1) := by decide +kernel
theorem dL_afterConsuls_1 : decode cL_afterConsuls 1 = .ok (.iconst 0, 1) := by decide +kernel
theorem dL_afterConsuls_2 : decode cL_afterConsuls 2 = .ok (.aload_n 0, 1) := by decide +kernel
theorem dL_afterConsuls_3 : decode cL_afterConsuls 3 = .ok (.iload_n 1, 1) := by decide +kernel
theorem dL_afterConsuls_4 : decode cL_afterConsuls 4 = .ok (.invokevirtual 95, 3) := by decide +kernel
theorem dL_afterConsuls_7 : decode cL_afterConsuls 7 = .ok (.i2l, 1) := by decide +kernel
theorem dL_afterConsuls_8 : decode cL_afterConsuls 8 = .ok (.lastore, 1) := by decide +kernel
theorem dL_afterConsuls_9 : decode cL_afterConsuls 9 = .ok (.goto 6, 3) := by decide +kernel
theorem dL_afterConsuls_12 : decode cL_afterConsuls 12 = .ok (.astore_n 3, 1) := by decide +kernel
theorem dL_afterConsuls_13 : decode cL_afterConsuls 13 = .ok (.iconst 1, 1) := by decide +kernel
theorem dL_afterConsuls_14 : decode cL_afterConsuls 14 = .ok (.ireturn, 1) := by decide +kernel
theorem dL_afterConsuls_15 : decode cL_afterConsuls 15 = .ok (.iconst 0, 1) := by decide +kernel
theorem dL_afterConsuls_16 : decode cL_afterConsuls 16 = .ok (.ireturn, 1) := by decide +kernel
set_option maxRecDepth 20000 in
theorem ggL_yearOfConsuls_X0_yearOfConsuls : GoodIn wsL_yearOfConsuls wsX0_yearOfConsuls := goodIn_ca (goodIn_r _ [6, 7, 8, 9, 10, 11, 5, 12, 13, 14, 15, 16, 17, 18, 19, 20, 21] (by decide +kernel) (by decide +kernel)) (goodIn_sub (fun _ h => List.mem_cons_of_mem _ (List.mem_append_right _ h)) (by decide +kernel))
set_option maxRecDepth 20000 in
theorem gL_yearOfConsuls_X0_yearOfConsuls : GoodIn wsL_yearOfConsuls (wsV RL 98 RX0 yX0_yearOfConsuls wsX0_yearOfConsuls) := goodIn_app (goodIn_of _ (by decide +kernel)) ggL_yearOfConsuls_X0_yearOfConsuls
theorem dL_yearOfConsuls_0 : decode cL_yearOfConsuls 0 = .ok (.aload 4, 2) := by decide +kernel
theorem dL_yearOfConsuls_2 : decode cL_yearOfConsuls 2 = .ok (.iconst 0, 1) := by decide +kernel
theorem dL_yearOfConsuls_3 : decode cL_yearOfConsuls 3 = .ok (.aload_n 0, 1) := by decide +kernel
theorem dL_yearOfConsuls_4 : decode cL_yearOfConsuls 4 = .ok (.iload_n 1, 1) := by decide +kernel
theorem dL_yearOfConsuls_5 : decode cL_yearOfConsuls 5 = .ok (.iload_n 2, 1) := by decide +kernel
theorem dL_yearOfConsuls_6 : decode cL_yearOfConsuls 6 = .ok (.iload_n 3, 1) := by decide +kernel
theorem dL_yearOfConsuls_7 : decode cL_yearOfConsuls 7 = .ok (.invokevirtual 98, 3) := by decide +kernel
theorem dL_yearOfConsuls_10 : decode cL_yearOfConsuls 10 = .ok (.i2l, 1) := by decide +kernel
theorem dL_yearOfConsuls_11 : decode cL_yearOfConsuls 11 = .ok (.lastore, 1) := by decide +kernel
theorem dL_yearOfConsuls_12 : decode cL_yearOfConsuls 12 = .ok (.goto 7, 3) := by decide +kernel
theorem dL_yearOfConsuls_15 : decode cL_yearOfConsuls 15 = .ok (.astore 5, 2) := by decide +kernel
theorem dL_yearOfConsuls_17 : decode cL_yearOfConsuls 17 = .ok (.iconst 1, 1) := by decide +kernel
theorem dL_yearOfConsuls_18 : decode cL_yearOfConsuls 18 = .ok (.ireturn, 1) := by decide +kernel
theorem dL_yearOfConsuls_19 : decode cL_yearOfConsuls 19 = .ok (.iconst 0, 1) := by decide +kernel
theorem dL_yearOfConsuls_20 : decode cL_yearOfConsuls 20 = .ok (.ireturn, 1) := by decide +kernel
set_option maxRecDepth 20000 in
theorem ggL_setCharacter_X0_setCharacter : GoodIn wsL_setCharacter wsX0_setCharacter := goodIn_ca (goodIn_ca (goodIn_r _ [7, 8, 9, 10, 11, 12, 13, 6, 14, 15, 16, 17, 18, 19, 20, 21, 22, 23, 24, 25, 26, 27] (by decide +kernel) (by decide +kernel)) (goodIn_sub (fun _ h => List.mem_cons_of_mem _ (List.mem_append_left _ (List.mem_append_right _ h))) (by decide +kernel))) (goodIn_sub (fun _ h => List.mem_cons_of_mem _ (List.mem_append_right _ h)) (by decide +kernel))
set_option maxRecDepth 20000 in
theorem gL_setCharacter_X0_setCharacter : GoodIn wsL_setCharacter (wsV RL 101 RX0 yX0_setCharacter wsX0_setCharacter) := goodIn_app (goodIn_of _ (by decide +kernel)) ggL_setCharacter_X0_setCharacter
theorem dL_setCharacter_0 : decode cL_setCharacter 0 = .ok (.aload_n 3, 1) := by decide +kernel
theorem dL_setCharacter_1 : decode cL_setCharacter 1 = .ok (.iconst 0, 1) := by decide +kernel
theorem dL_setCharacter_2 : decode cL_setCharacter 2 = .ok (.aload_n 0, 1) := by decide +kernel
theorem dL_setCharacter_3 : decode cL_setCharacter 3 = .ok (.iload_n 1, 1) := by decide +kernel
theorem dL_setCharacter_4 : decode cL_setCharacter 4 = .ok (.iload_n 2, 1) := by decide +kernel
theorem dL_setCharacter_5 : decode cL_setCharacter 5 = .ok (.invokevirtual 101, 3) := by decide +kernel
theorem dL_setCharacter_8 : decode cL_setCharacter 8 = .ok (.i2l, 1) := by decide +kernel
theorem dL_setCharacter_9 : decode cL_setCharacter 9 = .ok (.lastore, 1) := by decide +kernel
theorem dL_setCharacter_10 : decode cL_setCharacter 10 = .ok (.goto 11, 3) := by decide +kernel
theorem dL_setCharacter_13 : decode cL_setCharacter 13 = .ok (.astore 4, 2) := by decide +kernel
theorem dL_setCharacter_15 : decode cL_setCharacter 15 = .ok (.iconst 1, 1) := by decide +kernel
theorem dL_setCharacter_16 : decode cL_setCharacter 16 = .ok (.ireturn, 1) := by decide +kernel
theorem dL_setCharacter_17 : decode cL_setCharacter 17 = .ok (.astore 4, 2) := by decide +kernel
theorem dL_setCharacter_19 : decode cL_setCharacter 19 = .ok (.iconst 2, 1) := by decide +kernel
theorem dL_setCharacter_20 : decode cL_setCharacter 20 = .ok (.ireturn, 1) := by decide +kernel
theorem dL_setCharacter_21 : decode cL_setCharacter 21 = .ok (.iconst 0, 1) := by decide +kernel
theorem dL_setCharacter_22 : decode cL_setCharacter 22 = .ok (.ireturn, 1) := by decide +kernel
set_option maxRecDepth 20000 in
theorem ggL_characterOf_X0_characterOf : GoodIn wsL_characterOf wsX0_characterOf := goodIn_ca (goodIn_r _ [6, 7, 8, 5, 9, 10, 11, 12, 13, 14, 15, 16, 17, 18, 19, 20, 21, 22, 23, 24, 25, 26, 27, 28, 29, 30, 31, 32, 33] (by decide +kernel) (by decide +kernel)) (goodIn_sub (fun _ h => List.mem_cons_of_mem _ (List.mem_append_right _ h)) (by decide +kernel))
set_option maxRecDepth 20000 in
theorem gL_characterOf_X0_characterOf : GoodIn wsL_characterOf (wsV RL 104 RX0 yX0_characterOf wsX0_characterOf) := goodIn_app (goodIn_of _ (by decide +kernel)) ggL_characterOf_X0_characterOf
theorem dL_characterOf_0 : decode cL_characterOf 0 = .ok (.aload_n 2, 1) := by decide +kernel
theorem dL_characterOf_1 : decode cL_characterOf 1 = .ok (.iconst 0, 1) := by decide +kernel
theorem dL_characterOf_2 : decode cL_characterOf 2 = .ok (.aload_n 0, 1) := by decide +kernel
theorem dL_characterOf_3 : decode cL_characterOf 3 = .ok (.iload_n 1, 1) := by decide +kernel
theorem dL_characterOf_4 : decode cL_characterOf 4 = .ok (.invokevirtual 104, 3) := by decide +kernel
theorem dL_characterOf_7 : decode cL_characterOf 7 = .ok (.i2l, 1) := by decide +kernel
theorem dL_characterOf_8 : decode cL_characterOf 8 = .ok (.lastore, 1) := by decide +kernel
theorem dL_characterOf_9 : decode cL_characterOf 9 = .ok (.goto 6, 3) := by decide +kernel
theorem dL_characterOf_12 : decode cL_characterOf 12 = .ok (.astore_n 3, 1) := by decide +kernel
theorem dL_characterOf_13 : decode cL_characterOf 13 = .ok (.iconst 1, 1) := by decide +kernel
theorem dL_characterOf_14 : decode cL_characterOf 14 = .ok (.ireturn, 1) := by decide +kernel
theorem dL_characterOf_15 : decode cL_characterOf 15 = .ok (.iconst 0, 1) := by decide +kernel
theorem dL_characterOf_16 : decode cL_characterOf 16 = .ok (.ireturn, 1) := by decide +kernel
set_option maxRecDepth 20000 in
theorem ggL_canVote_X0_canVote : GoodIn wsL_canVote wsX0_canVote := goodIn_ca (goodIn_r _ [6, 7, 8, 5, 9, 10, 11, 12, 13, 14, 15, 16, 17, 18, 19, 20, 21, 22, 23, 24, 25, 26, 27, 28, 29, 30, 31, 32, 33, 34, 35, 36, 37, 38, 39, 40, 41, 42] (by decide +kernel) (by decide +kernel)) (goodIn_sub (fun _ h => List.mem_cons_of_mem _ (List.mem_append_right _ h)) (by decide +kernel))
set_option maxRecDepth 20000 in
theorem gL_canVote_X0_canVote : GoodIn wsL_canVote (wsV RL 107 RX0 yX0_canVote wsX0_canVote) := goodIn_app (goodIn_of _ (by decide +kernel)) ggL_canVote_X0_canVote
theorem dL_canVote_0 : decode cL_canVote 0 = .ok (.aload_n 2, 1) := by decide +kernel
theorem dL_canVote_1 : decode cL_canVote 1 = .ok (.iconst 0, 1) := by decide +kernel
theorem dL_canVote_2 : decode cL_canVote 2 = .ok (.aload_n 0, 1) := by decide +kernel
theorem dL_canVote_3 : decode cL_canVote 3 = .ok (.iload_n 1, 1) := by decide +kernel
theorem dL_canVote_4 : decode cL_canVote 4 = .ok (.invokevirtual 107, 3) := by decide +kernel
theorem dL_canVote_7 : decode cL_canVote 7 = .ok (.ifCond .eq 7, 3) := by decide +kernel
theorem dL_canVote_10 : decode cL_canVote 10 = .ok (.lconst 1, 1) := by decide +kernel
theorem dL_canVote_11 : decode cL_canVote 11 = .ok (.goto 4, 3) := by decide +kernel
theorem dL_canVote_14 : decode cL_canVote 14 = .ok (.lconst 0, 1) := by decide +kernel
theorem dL_canVote_15 : decode cL_canVote 15 = .ok (.lastore, 1) := by decide +kernel
theorem dL_canVote_16 : decode cL_canVote 16 = .ok (.goto 6, 3) := by decide +kernel
theorem dL_canVote_19 : decode cL_canVote 19 = .ok (.astore_n 3, 1) := by decide +kernel
theorem dL_canVote_20 : decode cL_canVote 20 = .ok (.iconst 1, 1) := by decide +kernel
theorem dL_canVote_21 : decode cL_canVote 21 = .ok (.ireturn, 1) := by decide +kernel
theorem dL_canVote_22 : decode cL_canVote 22 = .ok (.iconst 0, 1) := by decide +kernel
theorem dL_canVote_23 : decode cL_canVote 23 = .ok (.ireturn, 1) := by decide +kernel
set_option maxRecDepth 20000 in
theorem ggL_nextCourt_X0_nextCourt : GoodIn wsL_nextCourt wsX0_nextCourt := goodIn_ca (goodIn_r _ [6, 7, 8, 9, 10, 11, 12, 13, 5, 14, 15, 16, 17, 18, 19, 20, 21, 22, 23, 24, 25, 26, 27, 28, 29, 30, 31, 32, 33, 34, 35, 36, 37] (by decide +kernel) (by decide +kernel)) (goodIn_sub (fun _ h => List.mem_cons_of_mem _ (List.mem_append_right _ h)) (by decide +kernel))
set_option maxRecDepth 20000 in
theorem gL_nextCourt_X0_nextCourt : GoodIn wsL_nextCourt (wsV RL 110 RX0 yX0_nextCourt wsX0_nextCourt) := goodIn_app (goodIn_of _ (by decide +kernel)) ggL_nextCourt_X0_nextCourt
theorem dL_nextCourt_0 : decode cL_nextCourt 0 = .ok (.aload_n 2, 1) := by decide +kernel
theorem dL_nextCourt_1 : decode cL_nextCourt 1 = .ok (.iconst 0, 1) := by decide +kernel
theorem dL_nextCourt_2 : decode cL_nextCourt 2 = .ok (.aload_n 0, 1) := by decide +kernel
theorem dL_nextCourt_3 : decode cL_nextCourt 3 = .ok (.iload_n 1, 1) := by decide +kernel
theorem dL_nextCourt_4 : decode cL_nextCourt 4 = .ok (.invokevirtual 110, 3) := by decide +kernel
theorem dL_nextCourt_7 : decode cL_nextCourt 7 = .ok (.i2l, 1) := by decide +kernel
theorem dL_nextCourt_8 : decode cL_nextCourt 8 = .ok (.lastore, 1) := by decide +kernel
theorem dL_nextCourt_9 : decode cL_nextCourt 9 = .ok (.goto 6, 3) := by decide +kernel
theorem dL_nextCourt_12 : decode cL_nextCourt 12 = .ok (.astore_n 3, 1) := by decide +kernel
theorem dL_nextCourt_13 : decode cL_nextCourt 13 = .ok (.iconst 1, 1) := by decide +kernel
theorem dL_nextCourt_14 : decode cL_nextCourt 14 = .ok (.ireturn, 1) := by decide +kernel
theorem dL_nextCourt_15 : decode cL_nextCourt 15 = .ok (.iconst 0, 1) := by decide +kernel
theorem dL_nextCourt_16 : decode cL_nextCourt 16 = .ok (.ireturn, 1) := by decide +kernel
set_option maxRecDepth 20000 in
theorem ggL_votes_X0_votes : GoodIn wsL_votes wsX0_votes := goodIn_ca (goodIn_r _ [6, 7, 8, 5, 9, 10, 11, 12, 13, 14, 15, 16, 17, 18, 19, 20, 21, 22, 23, 24, 25, 26, 27, 28, 29, 30, 31, 32, 33, 34, 35, 36, 37, 38, 39, 40, 41, 42, 43, 44, 45, 46, 47] (by decide +kernel) (by decide +kernel)) (goodIn_sub (fun _ h => List.mem_cons_of_mem _ (List.mem_append_right _ h)) (by decide +kernel))
set_option maxRecDepth 20000 in
theorem gL_votes_X0_votes : GoodIn wsL_votes (wsV RL 113 RX0 yX0_votes wsX0_votes) := goodIn_app (goodIn_of _ (by decide +kernel)) ggL_votes_X0_votes
theorem dL_votes_0 : decode cL_votes 0 = .ok (.aload_n 2, 1) := by decide +kernel
theorem dL_votes_1 : decode cL_votes 1 = .ok (.iconst 0, 1) := by decide +kernel
theorem dL_votes_2 : decode cL_votes 2 = .ok (.aload_n 0, 1) := by decide +kernel
theorem dL_votes_3 : decode cL_votes 3 = .ok (.iload_n 1, 1) := by decide +kernel
theorem dL_votes_4 : decode cL_votes 4 = .ok (.invokevirtual 113, 3) := by decide +kernel
theorem dL_votes_7 : decode cL_votes 7 = .ok (.i2l, 1) := by decide +kernel
theorem dL_votes_8 : decode cL_votes 8 = .ok (.lastore, 1) := by decide +kernel
theorem dL_votes_9 : decode cL_votes 9 = .ok (.goto 6, 3) := by decide +kernel
theorem dL_votes_12 : decode cL_votes 12 = .ok (.astore_n 3, 1) := by decide +kernel
theorem dL_votes_13 : decode cL_votes 13 = .ok (.iconst 1, 1) := by decide +kernel
theorem dL_votes_14 : decode cL_votes 14 = .ok (.ireturn, 1) := by decide +kernel
theorem dL_votes_15 : decode cL_votes 15 = .ok (.iconst 0, 1) := by decide +kernel
theorem dL_votes_16 : decode cL_votes 16 = .ok (.ireturn, 1) := by decide +kernel
end
section
/-! ===== one kind of contract for what reads, one for what writes, one for what throws; rows over counted numbers ===== -/
abbrev vwCl : List vw_C := [(RX0, TX0, 4), (RX1, TX1, 9)]
section PZK
variable {p : Program} {l : Launch} {e : Env} {R : Room} {s : State} {m : MethodId} {args : Array Value} {below : List Frame} {meth : Method} {c : Code} {H : Heap} {locs : List Loc} {cells slots : Nat} {Q : State → Prop}
variable {cc : ByteArray} {pc : Nat} {ls : Array Slot} {rest : List Value}
def pz_pre (D : va_G) (tys : List (ClassId × FieldType)) (w : va_W) (sz : Nat) (U : State) : Prop := U.heap.size = sz ∧ va_P D vwCl w U.heap ∧ va_K D vwCl tys U ∧ va_D (fun _ => True) w
theorem pz_blind {D : va_G} {tys : List (ClassId × FieldType)} {w : va_W} {sz : Nat} {av : List Value} : FrameBlind (va_Pc av (pz_pre D tys w sz)) := fun a U g mk q => by
  obtain ⟨q0, q1, qP, qK, qD⟩ := q
  exact ⟨q0, q1, qP, va_K.moved (u := U) (U := U.calling g mk a) (Vm.Alike.refl U.vm) qK, qD⟩
/-- answers an int, writes nothing that was there -/
def pz_R (l : Launch) (y : MethodName) (ws : List Cond) (rm : Room) (D : va_G) (tys : List (ClassId × FieldType)) (av : List Value) (w0 : va_W) (post : Int32 → Prop) : Prop :=
  ∀ sz : Nat, Met l y ws rm (va_Pc av (pz_pre D tys w0 sz)) (va_Qi (fun r (_ : Unit) => post r) (fun _ _ => True) (va_A [] sz)) 0 0 (va_A [] sz)
/-- answers nothing, writes nothing that was there -/
def pz_RV (l : Launch) (y : MethodName) (ws : List Cond) (rm : Room) (D : va_G) (tys : List (ClassId × FieldType)) (av : List Value) (w0 : va_W) : Prop :=
  ∀ sz : Nat, Met l y ws rm (va_Pc av (pz_pre D tys w0 sz)) (va_Qv (fun (_ : Unit) => True) (fun _ _ => True) (va_A [] sz)) 0 0 (va_A [] sz)
/-- answers an int, the cells w0 become w1 u -/
def pz_I (l : Launch) (y : MethodName) (ws : List Cond) (rm : Room) (D : va_G) (tys : List (ClassId × FieldType)) (av : List Value) (w0 : va_W) {S : Type} (post : Int32 → S → Prop) (w1 : S → va_W) : Prop :=
  ∀ sz : Nat, Met l y ws rm (va_Pc av (pz_pre D tys w0 sz)) (va_Qi post (fun u t => va_P D vwCl (w1 u) t.heap ∧ va_D (va_A w0 sz) (w1 u)) (va_A w0 sz)) 0 0 (va_A w0 sz)
/-- answers nothing, the cells w0 become w1 u -/
def pz_V (l : Launch) (y : MethodName) (ws : List Cond) (rm : Room) (D : va_G) (tys : List (ClassId × FieldType)) (av : List Value) (w0 : va_W) {S : Type} (post : S → Prop) (w1 : S → va_W) : Prop :=
  ∀ sz : Nat, Met l y ws rm (va_Pc av (pz_pre D tys w0 sz)) (va_Qv post (fun u t => va_P D vwCl (w1 u) t.heap ∧ va_D (va_A w0 sz) (w1 u)) (va_A w0 sz)) 0 0 (va_A w0 sz)
theorem pz_Anil {sz : Nat} {q : Nat} (h : va_A [] sz q) : sz ≤ q := by
  rcases h with ⟨k, e, h⟩ | h
  · simp at h
  · exact h
theorem pz_R_of {y : MethodName} {ws ws' : List Cond} {rm : Room} {D : va_G} {tys : List (ClassId × FieldType)} {av : List Value} {w0 : va_W} {post : Int32 → Prop} {maxL : Nat} {ty : FieldType} {own : String} (hy : plainName y.cls = true) (ho : y.cls = own) (hw : ws = Cond.code y cc maxL (some ty) :: ws') (hm : (lg_sl av).length ≤ maxL)
    (body : ∀ (p : Program) (e : Env) (s : State) (m : MethodId) (below : List Frame) (meth : Method) (c : Code) (A : Nat → Prop) (ls : Array Slot) (Q : State → Prop),
      p.tables.exec = Jvm.exec → c.code = cc → c.maxLocals = maxL → s.vm.findClass own = some m.cls → (∀ w ∈ ws, w.before av.toArray s = true) → va_K D vwCl tys s → va_P D vwCl w0 s.heap → va_D (fun _ => True) w0 → va_S A s.heap s.heap [] → (∀ q : Nat, s.heap.size ≤ q → A q) → lv_has ls maxL (lv_args 0 av) →
      (∀ (H : Heap) (locs : List Loc) (pc : Nat) (ls : Array Slot) (v : Int32), decode cc pc = .ok (.ireturn, 1) → narrow ty (.int v) = .int v → post v → va_S A s.heap H locs → W p l e rm s m av.toArray below meth c H locs 0 0 Q (F0 m pc ls [.int v])) →
      W p l e rm s m av.toArray below meth c s.heap [] 0 0 Q (F0 m 0 ls [])) : pz_R l y ws rm D tys av w0 post := by
  intro sz
  refine Met.ofW (cc := cc) (maxL := maxL) (ret := some ty) hy hw ?_
  intro p e s m args below meth c s₁ B hml hv
  obtain ⟨rfl, hsz, hP, hK, hD0⟩ := hv
  subst hsz
  have hr := B.returns
  have hts := atoms_spec (ws := ws) B.pre
  have hown : s.vm.findClass own = some m.cls := by rw [← ho]; exact findClass_of_methodNamed B.named
  have hl := lv_entry av (n := maxL) hm
  rw [lg_entry_eq]
  generalize (lg_sl av ++ List.replicate (maxL - (lg_sl av).length) Slot.unset).toArray = ls at hl ⊢
  refine body p e s m below meth c (va_A [] s.heap.size) ls _ B.exec B.bytes hml hown hts hK hP hD0 va_S.rf (fun q h => Or.inr h) hl ?_
  intro H locs pc ls v hd hn hp hS
  exact W.zret B.exec B.bytes hr hn (fun t ht hW => ⟨⟨v, (), rfl, hp, trivial⟩, hS.F ht⟩) hS.2.2 hd B.notSynchronized
theorem pz_RV_of {y : MethodName} {ws ws' : List Cond} {rm : Room} {D : va_G} {tys : List (ClassId × FieldType)} {av : List Value} {w0 : va_W} {maxL : Nat} {own : String} (hy : plainName y.cls = true) (ho : y.cls = own) (hw : ws = Cond.code y cc maxL none :: ws') (hm : (lg_sl av).length ≤ maxL)
    (body : ∀ (p : Program) (e : Env) (s : State) (m : MethodId) (below : List Frame) (meth : Method) (c : Code) (A : Nat → Prop) (ls : Array Slot) (Q : State → Prop),
      p.tables.exec = Jvm.exec → c.code = cc → c.maxLocals = maxL → s.vm.findClass own = some m.cls → (∀ w ∈ ws, w.before av.toArray s = true) → va_K D vwCl tys s → va_P D vwCl w0 s.heap → va_D (fun _ => True) w0 → va_S A s.heap s.heap [] → (∀ q : Nat, s.heap.size ≤ q → A q) → lv_has ls maxL (lv_args 0 av) →
      (∀ (H : Heap) (locs : List Loc) (pc : Nat) (ls : Array Slot), decode cc pc = .ok (.return_, 1) → va_S A s.heap H locs → W p l e rm s m av.toArray below meth c H locs 0 0 Q (F0 m pc ls [])) →
      W p l e rm s m av.toArray below meth c s.heap [] 0 0 Q (F0 m 0 ls [])) : pz_RV l y ws rm D tys av w0 := by
  intro sz
  refine Met.ofW (cc := cc) (maxL := maxL) (ret := none) hy hw ?_
  intro p e s m args below meth c s₁ B hml hv
  obtain ⟨rfl, hsz, hP, hK, hD0⟩ := hv
  subst hsz
  have hr := B.returns
  have hts := atoms_spec (ws := ws) B.pre
  have hown : s.vm.findClass own = some m.cls := by rw [← ho]; exact findClass_of_methodNamed B.named
  have hl := lv_entry av (n := maxL) hm
  rw [lg_entry_eq]
  generalize (lg_sl av ++ List.replicate (maxL - (lg_sl av).length) Slot.unset).toArray = ls at hl ⊢
  refine body p e s m below meth c (va_A [] s.heap.size) ls _ B.exec B.bytes hml hown hts hK hP hD0 va_S.rf (fun q h => Or.inr h) hl ?_
  intro H locs pc ls hd hS
  exact W.vret B.exec B.bytes hr (fun t ht hW => ⟨⟨(), rfl, trivial, trivial⟩, hS.F ht⟩) hS.2.2 hd B.notSynchronized
theorem pz_I_of {y : MethodName} {ws ws' : List Cond} {rm : Room} {D : va_G} {tys : List (ClassId × FieldType)} {av : List Value} {w0 : va_W} {S : Type} {post : Int32 → S → Prop} {w1 : S → va_W} {maxL : Nat} {ty : FieldType} {own : String} (hy : plainName y.cls = true) (ho : y.cls = own) (hw : ws = Cond.code y cc maxL (some ty) :: ws') (hm : (lg_sl av).length ≤ maxL)
    (body : ∀ (p : Program) (e : Env) (s : State) (m : MethodId) (below : List Frame) (meth : Method) (c : Code) (A : Nat → Prop) (ls : Array Slot) (Q : State → Prop),
      p.tables.exec = Jvm.exec → c.code = cc → c.maxLocals = maxL → s.vm.findClass own = some m.cls → (∀ w ∈ ws, w.before av.toArray s = true) → va_K D vwCl tys s → va_P D vwCl w0 s.heap → va_D A w0 → va_S A s.heap s.heap [] → (∀ q : Nat, s.heap.size ≤ q → A q) → lv_has ls maxL (lv_args 0 av) →
      (∀ (H : Heap) (locs : List Loc) (pc : Nat) (ls : Array Slot) (v : Int32) (u : S), decode cc pc = .ok (.ireturn, 1) → narrow ty (.int v) = .int v → post v u → va_P D vwCl (w1 u) H → va_D A (w1 u) → va_S A s.heap H locs → W p l e rm s m av.toArray below meth c H locs 0 0 Q (F0 m pc ls [.int v])) →
      W p l e rm s m av.toArray below meth c s.heap [] 0 0 Q (F0 m 0 ls [])) : pz_I l y ws rm D tys av w0 post w1 := by
  intro sz
  refine Met.ofW (cc := cc) (maxL := maxL) (ret := some ty) hy hw ?_
  intro p e s m args below meth c s₁ B hml hv
  obtain ⟨rfl, hsz, hP, hK, hD0⟩ := hv
  subst hsz
  have hr := B.returns
  have hts := atoms_spec (ws := ws) B.pre
  have hown : s.vm.findClass own = some m.cls := by rw [← ho]; exact findClass_of_methodNamed B.named
  have hl := lv_entry av (n := maxL) hm
  rw [lg_entry_eq]
  generalize (lg_sl av ++ List.replicate (maxL - (lg_sl av).length) Slot.unset).toArray = ls at hl ⊢
  refine body p e s m below meth c (va_A w0 s.heap.size) ls _ B.exec B.bytes hml hown hts hK hP (hD0.self (sz := s.heap.size)) va_S.rf (fun q h => Or.inr h) hl ?_
  intro H locs pc ls v u hd hn hp hP1 hD1 hS
  exact W.zret B.exec B.bytes hr hn (fun t ht hW => ⟨⟨v, u, rfl, hp, by rw [ht]; exact hP1, hD1⟩, hS.F ht⟩) hS.2.2 hd B.notSynchronized
theorem pz_V_of {y : MethodName} {ws ws' : List Cond} {rm : Room} {D : va_G} {tys : List (ClassId × FieldType)} {av : List Value} {w0 : va_W} {S : Type} {post : S → Prop} {w1 : S → va_W} {maxL : Nat} {own : String} (hy : plainName y.cls = true) (ho : y.cls = own) (hw : ws = Cond.code y cc maxL none :: ws') (hm : (lg_sl av).length ≤ maxL)
    (body : ∀ (p : Program) (e : Env) (s : State) (m : MethodId) (below : List Frame) (meth : Method) (c : Code) (A : Nat → Prop) (ls : Array Slot) (Q : State → Prop),
      p.tables.exec = Jvm.exec → c.code = cc → c.maxLocals = maxL → s.vm.findClass own = some m.cls → (∀ w ∈ ws, w.before av.toArray s = true) → va_K D vwCl tys s → va_P D vwCl w0 s.heap → va_D A w0 → va_S A s.heap s.heap [] → (∀ q : Nat, s.heap.size ≤ q → A q) → lv_has ls maxL (lv_args 0 av) →
      (∀ (H : Heap) (locs : List Loc) (pc : Nat) (ls : Array Slot) (u : S), decode cc pc = .ok (.return_, 1) → post u → va_P D vwCl (w1 u) H → va_D A (w1 u) → va_S A s.heap H locs → W p l e rm s m av.toArray below meth c H locs 0 0 Q (F0 m pc ls [])) →
      W p l e rm s m av.toArray below meth c s.heap [] 0 0 Q (F0 m 0 ls [])) : pz_V l y ws rm D tys av w0 post w1 := by
  intro sz
  refine Met.ofW (cc := cc) (maxL := maxL) (ret := none) hy hw ?_
  intro p e s m args below meth c s₁ B hml hv
  obtain ⟨rfl, hsz, hP, hK, hD0⟩ := hv
  subst hsz
  have hr := B.returns
  have hts := atoms_spec (ws := ws) B.pre
  have hown : s.vm.findClass own = some m.cls := by rw [← ho]; exact findClass_of_methodNamed B.named
  have hl := lv_entry av (n := maxL) hm
  rw [lg_entry_eq]
  generalize (lg_sl av ++ List.replicate (maxL - (lg_sl av).length) Slot.unset).toArray = ls at hl ⊢
  refine body p e s m below meth c (va_A w0 s.heap.size) ls _ B.exec B.bytes hml hown hts hK hP (hD0.self (sz := s.heap.size)) va_S.rf (fun q h => Or.inr h) hl ?_
  intro H locs pc ls u hd hp hP1 hD1 hS
  exact W.vret B.exec B.bytes hr (fun t ht hW => ⟨⟨u, rfl, hp, by rw [ht]; exact hP1, hD1⟩, hS.F ht⟩) hS.2.2 hd B.notSynchronized
-- calls
theorem pz_pre_in {D : va_G} {tysC : List (ClassId × FieldType)} {wc : va_W} {A : Nat → Prop} (hKc : va_K D vwCl tysC s) (hPc : va_P D vwCl wc H) (hDc : va_D A wc) : ∀ U : State, U.heap = H → s.WarmedH U.vm → pz_pre D tysC wc H.size U := fun U hU hW => ⟨by rw [hU], by rw [hU]; exact hPc, va_K.moved hW.alike hKc, hDc.weaken (fun _ _ _ _ => trivial)⟩
theorem pz_pre_in0 {D : va_G} {tysC : List (ClassId × FieldType)} {wc : va_W} (hKc : va_K D vwCl tysC s) (hPc : va_P D vwCl wc H) (hDc : va_D (fun _ => True) wc) : ∀ U : State, U.heap = H → s.WarmedH U.vm → pz_pre D tysC wc H.size U := fun U hU hW => ⟨by rw [hU], by rw [hU]; exact hPc, va_K.moved hW.alike hKc, hDc⟩
theorem pz_D0 {A : Nat → Prop} : va_D A [] := ⟨fun i j p q h => by simp at h, fun k q h => by simp at h⟩
theorem pz_P0 {D : va_G} : va_P D vwCl [] H := fun k q h => by simp at h
/-- what is read stays, in a heap that changed no old cell -/
theorem pz_keep {D : va_G} {w : va_W} {H1 : Heap} (hP : va_P D vwCl w H) (h : ∀ q : Nat, q < H.size → ¬ va_A [] H.size q → H1[q]? = H[q]?) : va_P D vwCl w H1 := hP.kept fun k q hk => h q.1 (hP k q hk).lt (fun h9 => absurd (pz_Anil h9) (Nat.not_le.mpr (hP k q hk).lt))
section CALLS
variable {y : MethodName} {bytes : ByteArray} {maxL nL n index : Nat} {ret : Option FieldType} {ws Ts : List Cond} {rm : Room} {own C : String} {D : va_G} {tys tysC : List (ClassId × FieldType)} {w wc wr : va_W} {A : Nat → Prop} {av st0 : List Value} {b : Nat}
/-- a static call that answers an int and writes nothing old -/
theorem pz_SR {post : Int32 → Prop} (S0 : CallFix p m c cc nL s args Ts own) (hM : pz_R l y ws rm D tysC av wc post) (cw : CallB R s args own index y bytes maxL ret ws rm 0 0 n ∧ (Cond.static y).before args s = true)
    (hKc : va_K D vwCl tysC s) (hP : va_P D vwCl w H) (hD : va_D (fun _ => True) w) (hS : va_S A s.heap H locs) (hA : ∀ q : Nat, s.heap.size ≤ q → A q) (isC : List Nat) (hC : isC.filterMap (fun i => w[i]?) = wc) (hC2 : isC.map (fun i => w[i]?) = wc.map some) (hnd : va_nd isC = true)
    (hn : av.length = n) (hsize : ls.size = nL) (hst : st0 = av.reverse ++ rest) (hcat : 2 * (F0 m pc ls rest).monitorRoom + (rest.map fun v => v.category).sum ≤ 8) (hdg : decode cc pc = .ok (.invokestatic index, 3)) (hf : cells + 0 ≤ R.cells ∧ slots + 0 ≤ R.slots)
    (kk : ∀ (r : Int32) (H1 : Heap) (locs1 : List Loc), post r → va_P D vwCl w H1 → va_S A s.heap H1 locs1 → W p l e R s m args below meth c H1 locs1 cells slots Q (F0 m (pc + 3) ls (.int r :: rest))) : W p l e R s m args below meth c H locs cells slots Q (F0 m pc ls st0) := by
  have hPc := hP.sub (ws' := wc) isC hC
  have hDc := hD.sub (ws' := wc) isC hnd hC2
  have hsz := hS.1
  refine va_calli (va_runS (As := av) (rest := rest) S0 (hM H.size) cw ⟨pz_blind, fun U hU hW => ⟨rfl, pz_pre_in0 hKc hPc hDc U hU hW⟩⟩ rfl hn hsize hst hcat hdg hf) hS (fun q h1 h2 => absurd (pz_Anil h2) (Nat.not_le.mpr h1)) (fun q h => hA q (Nat.le_trans hsz (pz_Anil h))) (fun r u t H1 locs1 ht hvm hw hB hz1 hk1 hS1 => ?_)
  exact kk r H1 locs1 hw (pz_keep hP hk1) hS1
theorem pz_SRV (S0 : CallFix p m c cc nL s args Ts own) (hM : pz_RV l y ws rm D tysC av wc) (cw : CallB R s args own index y bytes maxL ret ws rm 0 0 n ∧ (Cond.static y).before args s = true)
    (hKc : va_K D vwCl tysC s) (hP : va_P D vwCl w H) (hD : va_D (fun _ => True) w) (hS : va_S A s.heap H locs) (hA : ∀ q : Nat, s.heap.size ≤ q → A q) (isC : List Nat) (hC : isC.filterMap (fun i => w[i]?) = wc) (hC2 : isC.map (fun i => w[i]?) = wc.map some) (hnd : va_nd isC = true)
    (hn : av.length = n) (hsize : ls.size = nL) (hst : st0 = av.reverse ++ rest) (hcat : 2 * (F0 m pc ls rest).monitorRoom + (rest.map fun v => v.category).sum ≤ 8) (hdg : decode cc pc = .ok (.invokestatic index, 3)) (hf : cells + 0 ≤ R.cells ∧ slots + 0 ≤ R.slots)
    (kk : ∀ (H1 : Heap) (locs1 : List Loc), va_P D vwCl w H1 → va_S A s.heap H1 locs1 → W p l e R s m args below meth c H1 locs1 cells slots Q (F0 m (pc + 3) ls rest)) : W p l e R s m args below meth c H locs cells slots Q (F0 m pc ls st0) := by
  have hPc := hP.sub (ws' := wc) isC hC
  have hDc := hD.sub (ws' := wc) isC hnd hC2
  have hsz := hS.1
  refine va_callv (va_runS (As := av) (rest := rest) S0 (hM H.size) cw ⟨pz_blind, fun U hU hW => ⟨rfl, pz_pre_in0 hKc hPc hDc U hU hW⟩⟩ rfl hn hsize hst hcat hdg hf) hS (fun q h1 h2 => absurd (pz_Anil h2) (Nat.not_le.mpr h1)) (fun q h => hA q (Nat.le_trans hsz (pz_Anil h))) (fun u t H1 locs1 ht hvm hw hB hz1 hk1 hS1 => ?_)
  exact kk H1 locs1 (pz_keep hP hk1) hS1
/-- a virtual call that answers an int and writes nothing old -/
theorem pz_VR {post : Int32 → Prop} (S0 : CallFix p m c cc nL s args Ts own) (hM : pz_R l y ws rm D tysC (.ref b :: av) wc post) (cw : CallW R s args own C index y bytes maxL ret ws rm 0 0 n)
    (hKc : va_K D vwCl tysC s) (hP : va_P D vwCl w H) (hD : va_D (fun _ => True) w) (hS : va_S A s.heap H locs) (hA : ∀ q : Nat, s.heap.size ≤ q → A q) (isC : List Nat) (hC : isC.filterMap (fun i => w[i]?) = wc) (hC2 : isC.map (fun i => w[i]?) = wc.map some) (hnd : va_nd isC = true)
    (q0 ci : Nat) {fs : List Value} {T : u_T} {N : Nat} (hc0 : vwCl[ci]? = some (C, T, N)) (he : w[q0]? = some (b, .inr (ci, fs)))
    (hn : av.length = n) (hsize : ls.size = nL) (hst : st0 = av.reverse ++ .ref b :: rest) (hcat : 2 * (F0 m pc ls rest).monitorRoom + (rest.map fun v => v.category).sum ≤ 8) (hdg : decode cc pc = .ok (.invokevirtual index, 3)) (hf : cells + 0 ≤ R.cells ∧ slots + 0 ≤ R.slots)
    (kk : ∀ (r : Int32) (H1 : Heap) (locs1 : List Loc), post r → va_P D vwCl w H1 → va_S A s.heap H1 locs1 → W p l e R s m args below meth c H1 locs1 cells slots Q (F0 m (pc + 3) ls (.int r :: rest))) : W p l e R s m args below meth c H locs cells slots Q (F0 m pc ls st0) := by
  have hPc := hP.sub (ws' := wc) isC hC
  have hDc := hD.sub (ws' := wc) isC hnd hC2
  have hsz := hS.1
  refine va_calli (va_runV (As := av) (rest := rest) S0 (hM H.size) cw ⟨pz_blind, va_recv hKc hP (q := (C, T, N)) hc0 he, fun U hU hW => ⟨rfl, pz_pre_in0 hKc hPc hDc U hU hW⟩⟩ rfl hn hsize hst hcat hdg hf) hS (fun q h1 h2 => absurd (pz_Anil h2) (Nat.not_le.mpr h1)) (fun q h => hA q (Nat.le_trans hsz (pz_Anil h))) (fun r u t H1 locs1 ht hvm hw hB hz1 hk1 hS1 => ?_)
  exact kk r H1 locs1 hw (pz_keep hP hk1) hS1
/-- a virtual call that answers an int and writes its cells -/
theorem pz_VI {S : Type} {post : Int32 → S → Prop} {w1 : S → va_W} (S0 : CallFix p m c cc nL s args Ts own) (hM : pz_I l y ws rm D tysC (.ref b :: av) wc post w1) (cw : CallW R s args own C index y bytes maxL ret ws rm 0 0 n)
    (hKc : va_K D vwCl tysC s) (hP : va_P D vwCl w H) (hD : va_D A w) (hS : va_S A s.heap H locs) (hA : ∀ q : Nat, s.heap.size ≤ q → A q) (isC isR : List Nat) (hC : isC.filterMap (fun i => w[i]?) = wc) (hC2 : isC.map (fun i => w[i]?) = wc.map some) (hnd : va_nd isC = true) (hR : isR.map (fun i => w[i]?) = wr.map some) (hnR : va_nd isR = true) (hdis : ∀ i ∈ isR, i ∉ isC)
    (q0 ci : Nat) {fs : List Value} {T : u_T} {N : Nat} (hc0 : vwCl[ci]? = some (C, T, N)) (he : w[q0]? = some (b, .inr (ci, fs)))
    (hn : av.length = n) (hsize : ls.size = nL) (hst : st0 = av.reverse ++ .ref b :: rest) (hcat : 2 * (F0 m pc ls rest).monitorRoom + (rest.map fun v => v.category).sum ≤ 8) (hdg : decode cc pc = .ok (.invokevirtual index, 3)) (hf : cells + 0 ≤ R.cells ∧ slots + 0 ≤ R.slots)
    (kk : ∀ (r : Int32) (u : S) (H1 : Heap) (locs1 : List Loc), post r u → va_P D vwCl (wr ++ w1 u) H1 → va_D A (wr ++ w1 u) → va_S A s.heap H1 locs1 → W p l e R s m args below meth c H1 locs1 cells slots Q (F0 m (pc + 3) ls (.int r :: rest))) : W p l e R s m args below meth c H locs cells slots Q (F0 m pc ls st0) := by
  have hPc := hP.sub (ws' := wc) isC hC
  have hDc := hD.sub (ws' := wc) isC hnd hC2
  have hFc := va_free (wc := wc) hD hS hA isC hC2
  refine va_calli (va_runV (As := av) (rest := rest) S0 (hM H.size) cw ⟨pz_blind, va_recv hKc hP (q := (C, T, N)) hc0 he, fun U hU hW => ⟨rfl, pz_pre_in hKc hPc hDc U hU hW⟩⟩ rfl hn hsize hst hcat hdg hf) hS (fun q _ h => hFc q h) hFc (fun r u t H1 locs1 ht hvm hw hB hz1 hk1 hS1 => ?_)
  obtain ⟨hP1, hD1⟩ := hB
  rw [ht] at hP1
  obtain ⟨hP2, hD2⟩ := va_join (wr := wr) (w1 := w1 u) hP hD isC isR hC2 hR hnR hdis hk1 hFc hP1 hD1
  exact kk r u H1 locs1 hw hP2 hD2 hS1
/-- a virtual call that answers nothing and writes its cells -/
theorem pz_VV {S : Type} {post : S → Prop} {w1 : S → va_W} (S0 : CallFix p m c cc nL s args Ts own) (hM : pz_V l y ws rm D tysC (.ref b :: av) wc post w1) (cw : CallW R s args own C index y bytes maxL ret ws rm 0 0 n)
    (hKc : va_K D vwCl tysC s) (hP : va_P D vwCl w H) (hD : va_D A w) (hS : va_S A s.heap H locs) (hA : ∀ q : Nat, s.heap.size ≤ q → A q) (isC isR : List Nat) (hC : isC.filterMap (fun i => w[i]?) = wc) (hC2 : isC.map (fun i => w[i]?) = wc.map some) (hnd : va_nd isC = true) (hR : isR.map (fun i => w[i]?) = wr.map some) (hnR : va_nd isR = true) (hdis : ∀ i ∈ isR, i ∉ isC)
    (q0 ci : Nat) {fs : List Value} {T : u_T} {N : Nat} (hc0 : vwCl[ci]? = some (C, T, N)) (he : w[q0]? = some (b, .inr (ci, fs)))
    (hn : av.length = n) (hsize : ls.size = nL) (hst : st0 = av.reverse ++ .ref b :: rest) (hcat : 2 * (F0 m pc ls rest).monitorRoom + (rest.map fun v => v.category).sum ≤ 8) (hdg : decode cc pc = .ok (.invokevirtual index, 3)) (hf : cells + 0 ≤ R.cells ∧ slots + 0 ≤ R.slots)
    (kk : ∀ (u : S) (H1 : Heap) (locs1 : List Loc), post u → va_P D vwCl (wr ++ w1 u) H1 → va_D A (wr ++ w1 u) → va_S A s.heap H1 locs1 → W p l e R s m args below meth c H1 locs1 cells slots Q (F0 m (pc + 3) ls rest)) : W p l e R s m args below meth c H locs cells slots Q (F0 m pc ls st0) := by
  have hPc := hP.sub (ws' := wc) isC hC
  have hDc := hD.sub (ws' := wc) isC hnd hC2
  have hFc := va_free (wc := wc) hD hS hA isC hC2
  refine va_callv (va_runV (As := av) (rest := rest) S0 (hM H.size) cw ⟨pz_blind, va_recv hKc hP (q := (C, T, N)) hc0 he, fun U hU hW => ⟨rfl, pz_pre_in hKc hPc hDc U hU hW⟩⟩ rfl hn hsize hst hcat hdg hf) hS (fun q _ h => hFc q h) hFc (fun u t H1 locs1 ht hvm hw hB hz1 hk1 hS1 => ?_)
  obtain ⟨hP1, hD1⟩ := hB
  rw [ht] at hP1
  obtain ⟨hP2, hD2⟩ := va_join (wr := wr) (w1 := w1 u) hP hD isC isR hC2 hR hnR hdis hk1 hFc hP1 hD1
  exact kk u H1 locs1 hw hP2 hD2 hS1
end CALLS
-- numbers
theorem pn_iadd (hx : p.tables.exec = Jvm.exec) (hb : c.code = cc) {a b : Nat} (hd : decode cc pc = .ok (.iadd, 1)) (k : W p l e R s m args below meth c H locs cells slots Q (F0 m (pc + 1) ls (.int (nI (a + b)) :: rest))) : W p l e R s m args below meth c H locs cells slots Q (F0 m pc ls (.int (nI b) :: .int (nI a) :: rest)) := lv_iadd hx hb hd (by rw [nI_add]; exact k)
theorem pn_isub (hx : p.tables.exec = Jvm.exec) (hb : c.code = cc) {a b : Nat} (h : b ≤ a) (hd : decode cc pc = .ok (.isub, 1)) (k : W p l e R s m args below meth c H locs cells slots Q (F0 m (pc + 1) ls (.int (nI (a - b)) :: rest))) : W p l e R s m args below meth c H locs cells slots Q (F0 m pc ls (.int (nI b) :: .int (nI a) :: rest)) := lv_isub hx hb hd (by rw [pk_sub h]; exact k)
theorem pn_imul (hx : p.tables.exec = Jvm.exec) (hb : c.code = cc) {a b : Nat} (hd : decode cc pc = .ok (.imul, 1)) (k : W p l e R s m args below meth c H locs cells slots Q (F0 m (pc + 1) ls (.int (nI (a * b)) :: rest))) : W p l e R s m args below meth c H locs cells slots Q (F0 m pc ls (.int (nI b) :: .int (nI a) :: rest)) := lv_imul hx hb hd (by rw [pk_mul]; exact k)
theorem pn_idiv (hx : p.tables.exec = Jvm.exec) (hb : c.code = cc) {a b : Nat} (ha : a < 2 ^ 31) (h0 : 0 < b) (hb2 : b < 2 ^ 31) (hd : decode cc pc = .ok (.idiv, 1)) (k : W p l e R s m args below meth c H locs cells slots Q (F0 m (pc + 1) ls (.int (nI (a / b)) :: rest))) : W p l e R s m args below meth c H locs cells slots Q (F0 m pc ls (.int (nI b) :: .int (nI a) :: rest)) := lv_idiv hx hb hd (nI_ne0 h0 hb2) (by rw [pk_div ha h0 hb2]; exact k)
theorem pn_irem (hx : p.tables.exec = Jvm.exec) (hb : c.code = cc) {a b : Nat} (ha : a < 2 ^ 31) (h0 : 0 < b) (hb2 : b < 2 ^ 31) (hd : decode cc pc = .ok (.irem, 1)) (k : W p l e R s m args below meth c H locs cells slots Q (F0 m (pc + 1) ls (.int (nI (a % b)) :: rest))) : W p l e R s m args below meth c H locs cells slots Q (F0 m pc ls (.int (nI b) :: .int (nI a) :: rest)) := lv_irem hx hb hd (nI_ne0 h0 hb2) (by rw [pk_rem ha h0 hb2]; exact k)
theorem pn_if_eq (hx : p.tables.exec = Jvm.exec) (hb : c.code = cc) {a : Nat} {off : Int} {tgt : Nat} (ha : a < 2 ^ 31) (hd : decode cc pc = .ok (.ifCond .eq off, 3)) (ht : (pc : Int) + off = (tgt : Int)) (kt : a = 0 → W p l e R s m args below meth c H locs cells slots Q (F0 m tgt ls rest)) (kf : ¬ a = 0 → W p l e R s m args below meth c H locs cells slots Q (F0 m (pc + 3) ls rest)) : W p l e R s m args below meth c H locs cells slots Q (F0 m pc ls (.int (nI a) :: rest)) := lv_if_eq hx hb hd ht (fun h => kt ((nI_eq ha (by decide)).mp (h.trans nI_0.symm))) (fun h => kf fun h9 => h (by rw [h9]; exact nI_0))
theorem pn_if_ne (hx : p.tables.exec = Jvm.exec) (hb : c.code = cc) {a : Nat} {off : Int} {tgt : Nat} (ha : a < 2 ^ 31) (hd : decode cc pc = .ok (.ifCond .ne off, 3)) (ht : (pc : Int) + off = (tgt : Int)) (kt : ¬ a = 0 → W p l e R s m args below meth c H locs cells slots Q (F0 m tgt ls rest)) (kf : a = 0 → W p l e R s m args below meth c H locs cells slots Q (F0 m (pc + 3) ls rest)) : W p l e R s m args below meth c H locs cells slots Q (F0 m pc ls (.int (nI a) :: rest)) := lv_if_ne hx hb hd ht (fun h => kt fun h9 => h (by rw [h9]; exact nI_0)) (fun h => kf ((nI_eq ha (by decide)).mp (h.trans nI_0.symm)))
theorem pn_if_lt (hx : p.tables.exec = Jvm.exec) (hb : c.code = cc) {a : Nat} {off : Int} {tgt : Nat} (ha : a < 2 ^ 31) (hd : decode cc pc = .ok (.ifCond .lt off, 3)) (ht : (pc : Int) + off = (tgt : Int)) (kf : W p l e R s m args below meth c H locs cells slots Q (F0 m (pc + 3) ls rest)) : W p l e R s m args below meth c H locs cells slots Q (F0 m pc ls (.int (nI a) :: rest)) := lv_if_lt hx hb hd ht (fun h => absurd h (nI_pos ha)) (fun _ => kf)
theorem pn_if_ge (hx : p.tables.exec = Jvm.exec) (hb : c.code = cc) {a : Nat} {off : Int} {tgt : Nat} (ha : a < 2 ^ 31) (hd : decode cc pc = .ok (.ifCond .ge off, 3)) (ht : (pc : Int) + off = (tgt : Int)) (kt : W p l e R s m args below meth c H locs cells slots Q (F0 m tgt ls rest)) : W p l e R s m args below meth c H locs cells slots Q (F0 m pc ls (.int (nI a) :: rest)) := lv_if_ge hx hb hd ht (fun _ => kt) (fun h => absurd (nI_pos' ha) h)
theorem pn_if_gt (hx : p.tables.exec = Jvm.exec) (hb : c.code = cc) {a : Nat} {off : Int} {tgt : Nat} (ha : a < 2 ^ 31) (hd : decode cc pc = .ok (.ifCond .gt off, 3)) (ht : (pc : Int) + off = (tgt : Int)) (kt : 0 < a → W p l e R s m args below meth c H locs cells slots Q (F0 m tgt ls rest)) (kf : ¬ 0 < a → W p l e R s m args below meth c H locs cells slots Q (F0 m (pc + 3) ls rest)) : W p l e R s m args below meth c H locs cells slots Q (F0 m pc ls (.int (nI a) :: rest)) := lv_if_gt hx hb hd ht (fun h => kt ((nI_ltI (by decide) ha).mp (by rw [nI_0]; exact h))) (fun h => kf fun h9 => h (by rw [← nI_0]; exact (nI_ltI (by decide) ha).mpr h9))
theorem pn_if_le (hx : p.tables.exec = Jvm.exec) (hb : c.code = cc) {a : Nat} {off : Int} {tgt : Nat} (ha : a < 2 ^ 31) (hd : decode cc pc = .ok (.ifCond .le off, 3)) (ht : (pc : Int) + off = (tgt : Int)) (kt : ¬ 0 < a → W p l e R s m args below meth c H locs cells slots Q (F0 m tgt ls rest)) (kf : 0 < a → W p l e R s m args below meth c H locs cells slots Q (F0 m (pc + 3) ls rest)) : W p l e R s m args below meth c H locs cells slots Q (F0 m pc ls (.int (nI a) :: rest)) := lv_if_le hx hb hd ht (fun h => kt fun h9 => absurd h (nI_nle h9 ha)) (fun h => kf (Nat.pos_of_ne_zero fun h9 => h (by rw [h9, nI_0]; exact Int32.le_refl 0)))
theorem pn_icmp_eq (hx : p.tables.exec = Jvm.exec) (hb : c.code = cc) {a b : Nat} {off : Int} {tgt : Nat} (ha : a < 2 ^ 31) (hb2 : b < 2 ^ 31) (hd : decode cc pc = .ok (.if_icmp .eq off, 3)) (ht : (pc : Int) + off = (tgt : Int)) (kt : a = b → W p l e R s m args below meth c H locs cells slots Q (F0 m tgt ls rest)) (kf : ¬ a = b → W p l e R s m args below meth c H locs cells slots Q (F0 m (pc + 3) ls rest)) : W p l e R s m args below meth c H locs cells slots Q (F0 m pc ls (.int (nI b) :: .int (nI a) :: rest)) := lv_icmp_eq hx hb hd ht (fun h => kt ((nI_eq ha hb2).mp h)) (fun h => kf fun h9 => h (by rw [h9]))
theorem pn_icmp_ne (hx : p.tables.exec = Jvm.exec) (hb : c.code = cc) {a b : Nat} {off : Int} {tgt : Nat} (ha : a < 2 ^ 31) (hb2 : b < 2 ^ 31) (hd : decode cc pc = .ok (.if_icmp .ne off, 3)) (ht : (pc : Int) + off = (tgt : Int)) (kt : ¬ a = b → W p l e R s m args below meth c H locs cells slots Q (F0 m tgt ls rest)) (kf : a = b → W p l e R s m args below meth c H locs cells slots Q (F0 m (pc + 3) ls rest)) : W p l e R s m args below meth c H locs cells slots Q (F0 m pc ls (.int (nI b) :: .int (nI a) :: rest)) := lv_icmp_ne hx hb hd ht (fun h => kt fun h9 => h (by rw [h9])) (fun h => kf ((nI_eq ha hb2).mp h))
theorem pn_icmp_lt (hx : p.tables.exec = Jvm.exec) (hb : c.code = cc) {a b : Nat} {off : Int} {tgt : Nat} (ha : a < 2 ^ 31) (hb2 : b < 2 ^ 31) (hd : decode cc pc = .ok (.if_icmp .lt off, 3)) (ht : (pc : Int) + off = (tgt : Int)) (kt : a < b → W p l e R s m args below meth c H locs cells slots Q (F0 m tgt ls rest)) (kf : ¬ a < b → W p l e R s m args below meth c H locs cells slots Q (F0 m (pc + 3) ls rest)) : W p l e R s m args below meth c H locs cells slots Q (F0 m pc ls (.int (nI b) :: .int (nI a) :: rest)) := lv_icmp_lt hx hb hd ht (fun h => kt ((nI_ltI ha hb2).mp h)) (fun h => kf fun h9 => h ((nI_ltI ha hb2).mpr h9))
theorem pn_icmp_ge (hx : p.tables.exec = Jvm.exec) (hb : c.code = cc) {a b : Nat} {off : Int} {tgt : Nat} (ha : a < 2 ^ 31) (hb2 : b < 2 ^ 31) (hd : decode cc pc = .ok (.if_icmp .ge off, 3)) (ht : (pc : Int) + off = (tgt : Int)) (kt : b ≤ a → W p l e R s m args below meth c H locs cells slots Q (F0 m tgt ls rest)) (kf : ¬ b ≤ a → W p l e R s m args below meth c H locs cells slots Q (F0 m (pc + 3) ls rest)) : W p l e R s m args below meth c H locs cells slots Q (F0 m pc ls (.int (nI b) :: .int (nI a) :: rest)) := lv_icmp_ge hx hb hd ht (fun h => kt ((nI_leI hb2 ha).mp h)) (fun h => kf fun h9 => h ((nI_leI hb2 ha).mpr h9))
theorem pn_icmp_gt (hx : p.tables.exec = Jvm.exec) (hb : c.code = cc) {a b : Nat} {off : Int} {tgt : Nat} (ha : a < 2 ^ 31) (hb2 : b < 2 ^ 31) (hd : decode cc pc = .ok (.if_icmp .gt off, 3)) (ht : (pc : Int) + off = (tgt : Int)) (kt : b < a → W p l e R s m args below meth c H locs cells slots Q (F0 m tgt ls rest)) (kf : ¬ b < a → W p l e R s m args below meth c H locs cells slots Q (F0 m (pc + 3) ls rest)) : W p l e R s m args below meth c H locs cells slots Q (F0 m pc ls (.int (nI b) :: .int (nI a) :: rest)) := lv_icmp_gt hx hb hd ht (fun h => kt ((nI_ltI hb2 ha).mp h)) (fun h => kf fun h9 => h ((nI_ltI hb2 ha).mpr h9))
theorem pn_icmp_le (hx : p.tables.exec = Jvm.exec) (hb : c.code = cc) {a b : Nat} {off : Int} {tgt : Nat} (ha : a < 2 ^ 31) (hb2 : b < 2 ^ 31) (hd : decode cc pc = .ok (.if_icmp .le off, 3)) (ht : (pc : Int) + off = (tgt : Int)) (kt : a ≤ b → W p l e R s m args below meth c H locs cells slots Q (F0 m tgt ls rest)) (kf : ¬ a ≤ b → W p l e R s m args below meth c H locs cells slots Q (F0 m (pc + 3) ls rest)) : W p l e R s m args below meth c H locs cells slots Q (F0 m pc ls (.int (nI b) :: .int (nI a) :: rest)) := lv_icmp_le hx hb hd ht (fun h => kt ((nI_leI ha hb2).mp h)) (fun h => kf fun h9 => h ((nI_leI ha hb2).mpr h9))
/-- a row of counted numbers -/
def pz_ar (F : Nat → Nat) : Nat → Int32 := fun j => nI (F j)
def pz_u (F : Nat → Nat) (k v : Nat) : Nat → Nat := fun j => if j = k then v else F j
theorem pz_u_same {F : Nat → Nat} {k v : Nat} : pz_u F k v k = v := by rw [pz_u, if_pos rfl]
theorem pz_u_ne {F : Nat → Nat} {k v j : Nat} (h : j ≠ k) : pz_u F k v j = F j := by rw [pz_u, if_neg h]
theorem pz_ar_u {F : Nat → Nat} {k v : Nat} : upd (pz_ar F) k (nI v) = pz_ar (pz_u F k v) := by
  funext j
  by_cases h : j = k
  · rw [upd, if_pos h, pz_ar, pz_u, if_pos h]
  · rw [upd, if_neg h, pz_ar, pz_ar, pz_u, if_neg h]
theorem pn_iald {D : va_G} {tys : List (ClassId × FieldType)} {w : va_W} {a : Nat} (hx : p.tables.exec = Jvm.exec) (hb : c.code = cc) (hK : va_K D vwCl tys s) (hP : va_P D vwCl w H) (q0 t0 : Nat) {cA : ClassId} {n : Nat} {F : Nat → Nat} (ha : w[q0]? = some (a, .inl (cA, n, .inl (pz_ar F)))) (ht : tys[t0]? = some (cA, .int)) {k : Nat} (hk : k < n) (hn : n < 2 ^ 31) (hd : decode cc pc = .ok (.iaload, 1))
    (kk : W p l e R s m args below meth c H locs cells slots Q (F0 m (pc + 1) ls (.int (nI (F k)) :: rest))) : W p l e R s m args below meth c H locs cells slots Q (F0 m pc ls (.int (nI k) :: .ref a :: rest)) := va_iald hx hb hK hP q0 t0 ha ht (vp_in_nI hk hn) hd (by rw [nI_clamp (Nat.lt_trans hk hn)]; exact kk)
theorem pn_iast {D : va_G} {tys : List (ClassId × FieldType)} {w : va_W} {a : Nat} {A : Nat → Prop} {H0 : Heap} (hx : p.tables.exec = Jvm.exec) (hb : c.code = cc) (hK : va_K D vwCl tys s) (hP : va_P D vwCl w H) (hD : va_D A w) (hS : va_S A H0 H locs) (q0 t0 : Nat) {cA : ClassId} {n : Nat} {F : Nat → Nat} (ha : w[q0]? = some (a, .inl (cA, n, .inl (pz_ar F)))) (ht : tys[t0]? = some (cA, .int)) {k v : Nat} (hk : k < n) (hn : n < 2 ^ 31) (hd : decode cc pc = .ok (.iastore, 1))
    (kk : ∀ (H1 : Heap) (locs1 : List Loc), va_P D vwCl (w.set q0 (a, .inl (cA, n, .inl (pz_ar (pz_u F k v))))) H1 → va_D A (w.set q0 (a, .inl (cA, n, .inl (pz_ar (pz_u F k v))))) → va_S A H0 H1 locs1 → W p l e R s m args below meth c H1 locs1 cells slots Q (F0 m (pc + 1) ls rest)) : W p l e R s m args below meth c H locs cells slots Q (F0 m pc ls (.int (nI v) :: .int (nI k) :: .ref a :: rest)) := va_iast hx hb hK hP hD hS q0 t0 ha ht (vp_in_nI hk hn) hd (by rw [nI_clamp (Nat.lt_trans hk hn), pz_ar_u]; exact kk)
theorem pz_lt (a b : Int32) : a < b ↔ a.toInt < b.toInt := Int32.lt_iff_toInt_lt
theorem pz_le (a b : Int32) : a ≤ b ↔ a.toInt ≤ b.toInt := Int32.le_iff_toInt_le
theorem pz_eq (a b : Int32) : a = b ↔ a.toInt = b.toInt := Int32.toInt_inj.symm
theorem pi_if_lt (hx : p.tables.exec = Jvm.exec) (hb : c.code = cc) {x : Int32} {a : Int} {off : Int} {tgt : Nat} (hxa : x.toInt = a) (hd : decode cc pc = .ok (.ifCond .lt off, 3)) (ht : (pc : Int) + off = (tgt : Int)) (kt : a < 0 → W p l e R s m args below meth c H locs cells slots Q (F0 m tgt ls rest)) (kf : ¬ a < 0 → W p l e R s m args below meth c H locs cells slots Q (F0 m (pc + 3) ls rest)) : W p l e R s m args below meth c H locs cells slots Q (F0 m pc ls (.int x :: rest)) := by
  subst hxa
  exact lv_if_lt hx hb hd ht (fun h => kt ((pz_lt _ _).mp h)) (fun h => kf (fun h9 => h ((pz_lt _ _).mpr h9)))
theorem pi_if_ge (hx : p.tables.exec = Jvm.exec) (hb : c.code = cc) {x : Int32} {a : Int} {off : Int} {tgt : Nat} (hxa : x.toInt = a) (hd : decode cc pc = .ok (.ifCond .ge off, 3)) (ht : (pc : Int) + off = (tgt : Int)) (kt : 0 ≤ a → W p l e R s m args below meth c H locs cells slots Q (F0 m tgt ls rest)) (kf : ¬ 0 ≤ a → W p l e R s m args below meth c H locs cells slots Q (F0 m (pc + 3) ls rest)) : W p l e R s m args below meth c H locs cells slots Q (F0 m pc ls (.int x :: rest)) := by
  subst hxa
  exact lv_if_ge hx hb hd ht (fun h => kt ((pz_le _ _).mp h)) (fun h => kf (fun h9 => h ((pz_le _ _).mpr h9)))
theorem pi_if_gt (hx : p.tables.exec = Jvm.exec) (hb : c.code = cc) {x : Int32} {a : Int} {off : Int} {tgt : Nat} (hxa : x.toInt = a) (hd : decode cc pc = .ok (.ifCond .gt off, 3)) (ht : (pc : Int) + off = (tgt : Int)) (kt : 0 < a → W p l e R s m args below meth c H locs cells slots Q (F0 m tgt ls rest)) (kf : ¬ 0 < a → W p l e R s m args below meth c H locs cells slots Q (F0 m (pc + 3) ls rest)) : W p l e R s m args below meth c H locs cells slots Q (F0 m pc ls (.int x :: rest)) := by
  subst hxa
  exact lv_if_gt hx hb hd ht (fun h => kt ((pz_lt _ _).mp h)) (fun h => kf (fun h9 => h ((pz_lt _ _).mpr h9)))
theorem pi_if_le (hx : p.tables.exec = Jvm.exec) (hb : c.code = cc) {x : Int32} {a : Int} {off : Int} {tgt : Nat} (hxa : x.toInt = a) (hd : decode cc pc = .ok (.ifCond .le off, 3)) (ht : (pc : Int) + off = (tgt : Int)) (kt : a ≤ 0 → W p l e R s m args below meth c H locs cells slots Q (F0 m tgt ls rest)) (kf : ¬ a ≤ 0 → W p l e R s m args below meth c H locs cells slots Q (F0 m (pc + 3) ls rest)) : W p l e R s m args below meth c H locs cells slots Q (F0 m pc ls (.int x :: rest)) := by
  subst hxa
  exact lv_if_le hx hb hd ht (fun h => kt ((pz_le _ _).mp h)) (fun h => kf (fun h9 => h ((pz_le _ _).mpr h9)))
theorem pi_if_eq (hx : p.tables.exec = Jvm.exec) (hb : c.code = cc) {x : Int32} {a : Int} {off : Int} {tgt : Nat} (hxa : x.toInt = a) (hd : decode cc pc = .ok (.ifCond .eq off, 3)) (ht : (pc : Int) + off = (tgt : Int)) (kt : a = 0 → W p l e R s m args below meth c H locs cells slots Q (F0 m tgt ls rest)) (kf : ¬ a = 0 → W p l e R s m args below meth c H locs cells slots Q (F0 m (pc + 3) ls rest)) : W p l e R s m args below meth c H locs cells slots Q (F0 m pc ls (.int x :: rest)) := by
  subst hxa
  exact lv_if_eq hx hb hd ht (fun h => kt ((pz_eq _ _).mp h)) (fun h => kf (fun h9 => h ((pz_eq _ _).mpr h9)))
theorem pi_if_ne (hx : p.tables.exec = Jvm.exec) (hb : c.code = cc) {x : Int32} {a : Int} {off : Int} {tgt : Nat} (hxa : x.toInt = a) (hd : decode cc pc = .ok (.ifCond .ne off, 3)) (ht : (pc : Int) + off = (tgt : Int)) (kt : ¬ a = 0 → W p l e R s m args below meth c H locs cells slots Q (F0 m tgt ls rest)) (kf : a = 0 → W p l e R s m args below meth c H locs cells slots Q (F0 m (pc + 3) ls rest)) : W p l e R s m args below meth c H locs cells slots Q (F0 m pc ls (.int x :: rest)) := by
  subst hxa
  exact lv_if_ne hx hb hd ht (fun h => kt (fun h9 => h ((pz_eq _ _).mpr h9))) (fun h => kf ((pz_eq _ _).mp h))
theorem pi_icmp_lt (hx : p.tables.exec = Jvm.exec) (hb : c.code = cc) {x y : Int32} {a b : Int} {off : Int} {tgt : Nat} (hxa : x.toInt = a) (hyb : y.toInt = b) (hd : decode cc pc = .ok (.if_icmp .lt off, 3)) (ht : (pc : Int) + off = (tgt : Int)) (kt : a < b → W p l e R s m args below meth c H locs cells slots Q (F0 m tgt ls rest)) (kf : ¬ a < b → W p l e R s m args below meth c H locs cells slots Q (F0 m (pc + 3) ls rest)) : W p l e R s m args below meth c H locs cells slots Q (F0 m pc ls (.int y :: .int x :: rest)) := by
  subst hxa
  subst hyb
  exact lv_icmp_lt hx hb hd ht (fun h => kt ((pz_lt _ _).mp h)) (fun h => kf (fun h9 => h ((pz_lt _ _).mpr h9)))
theorem pi_icmp_ge (hx : p.tables.exec = Jvm.exec) (hb : c.code = cc) {x y : Int32} {a b : Int} {off : Int} {tgt : Nat} (hxa : x.toInt = a) (hyb : y.toInt = b) (hd : decode cc pc = .ok (.if_icmp .ge off, 3)) (ht : (pc : Int) + off = (tgt : Int)) (kt : b ≤ a → W p l e R s m args below meth c H locs cells slots Q (F0 m tgt ls rest)) (kf : ¬ b ≤ a → W p l e R s m args below meth c H locs cells slots Q (F0 m (pc + 3) ls rest)) : W p l e R s m args below meth c H locs cells slots Q (F0 m pc ls (.int y :: .int x :: rest)) := by
  subst hxa
  subst hyb
  exact lv_icmp_ge hx hb hd ht (fun h => kt ((pz_le _ _).mp h)) (fun h => kf (fun h9 => h ((pz_le _ _).mpr h9)))
theorem pi_icmp_gt (hx : p.tables.exec = Jvm.exec) (hb : c.code = cc) {x y : Int32} {a b : Int} {off : Int} {tgt : Nat} (hxa : x.toInt = a) (hyb : y.toInt = b) (hd : decode cc pc = .ok (.if_icmp .gt off, 3)) (ht : (pc : Int) + off = (tgt : Int)) (kt : b < a → W p l e R s m args below meth c H locs cells slots Q (F0 m tgt ls rest)) (kf : ¬ b < a → W p l e R s m args below meth c H locs cells slots Q (F0 m (pc + 3) ls rest)) : W p l e R s m args below meth c H locs cells slots Q (F0 m pc ls (.int y :: .int x :: rest)) := by
  subst hxa
  subst hyb
  exact lv_icmp_gt hx hb hd ht (fun h => kt ((pz_lt _ _).mp h)) (fun h => kf (fun h9 => h ((pz_lt _ _).mpr h9)))
theorem pi_icmp_le (hx : p.tables.exec = Jvm.exec) (hb : c.code = cc) {x y : Int32} {a b : Int} {off : Int} {tgt : Nat} (hxa : x.toInt = a) (hyb : y.toInt = b) (hd : decode cc pc = .ok (.if_icmp .le off, 3)) (ht : (pc : Int) + off = (tgt : Int)) (kt : a ≤ b → W p l e R s m args below meth c H locs cells slots Q (F0 m tgt ls rest)) (kf : ¬ a ≤ b → W p l e R s m args below meth c H locs cells slots Q (F0 m (pc + 3) ls rest)) : W p l e R s m args below meth c H locs cells slots Q (F0 m pc ls (.int y :: .int x :: rest)) := by
  subst hxa
  subst hyb
  exact lv_icmp_le hx hb hd ht (fun h => kt ((pz_le _ _).mp h)) (fun h => kf (fun h9 => h ((pz_le _ _).mpr h9)))
theorem pi_icmp_eq (hx : p.tables.exec = Jvm.exec) (hb : c.code = cc) {x y : Int32} {a b : Int} {off : Int} {tgt : Nat} (hxa : x.toInt = a) (hyb : y.toInt = b) (hd : decode cc pc = .ok (.if_icmp .eq off, 3)) (ht : (pc : Int) + off = (tgt : Int)) (kt : a = b → W p l e R s m args below meth c H locs cells slots Q (F0 m tgt ls rest)) (kf : ¬ a = b → W p l e R s m args below meth c H locs cells slots Q (F0 m (pc + 3) ls rest)) : W p l e R s m args below meth c H locs cells slots Q (F0 m pc ls (.int y :: .int x :: rest)) := by
  subst hxa
  subst hyb
  exact lv_icmp_eq hx hb hd ht (fun h => kt ((pz_eq _ _).mp h)) (fun h => kf (fun h9 => h ((pz_eq _ _).mpr h9)))
theorem pi_icmp_ne (hx : p.tables.exec = Jvm.exec) (hb : c.code = cc) {x y : Int32} {a b : Int} {off : Int} {tgt : Nat} (hxa : x.toInt = a) (hyb : y.toInt = b) (hd : decode cc pc = .ok (.if_icmp .ne off, 3)) (ht : (pc : Int) + off = (tgt : Int)) (kt : ¬ a = b → W p l e R s m args below meth c H locs cells slots Q (F0 m tgt ls rest)) (kf : a = b → W p l e R s m args below meth c H locs cells slots Q (F0 m (pc + 3) ls rest)) : W p l e R s m args below meth c H locs cells slots Q (F0 m pc ls (.int y :: .int x :: rest)) := by
  subst hxa
  subst hyb
  exact lv_icmp_ne hx hb hd ht (fun h => kt (fun h9 => h ((pz_eq _ _).mpr h9))) (fun h => kf ((pz_eq _ _).mp h))
theorem pn_dec {a : Nat} (h : 1 ≤ a) : nI a + Int32.ofInt (-1) = nI (a - 1) := by
  obtain ⟨b, rfl⟩ : ∃ b, a = b + 1 := ⟨a - 1, by omega⟩
  exact pk_m1 b
theorem pn_tout (hx : p.tables.exec = Jvm.exec) (hb : c.code = cc) {dflt lo hi : Int} {offs : Array Int} {len : Nat} {a : Nat} {tgt : Nat} (ha : a < 2 ^ 31) (hd : decode cc pc = .ok (.tableswitch dflt lo hi offs, len)) (h : (a : Int) < lo ∨ hi < (a : Int)) (ht : (pc : Int) + dflt = (tgt : Int)) (k : W p l e R s m args below meth c H locs cells slots Q (F0 m tgt ls rest)) : W p l e R s m args below meth c H locs cells slots Q (F0 m pc ls (.int (nI a) :: rest)) := lv_tableOut hx hb hd (by rw [nI_toInt ha]; exact h) ht k
theorem pn_tin (hx : p.tables.exec = Jvm.exec) (hb : c.code = cc) {dflt lo hi : Int} {offs : Array Int} {len : Nat} {a : Nat} {off : Int} {tgt : Nat} (ha : a < 2 ^ 31) (hd : decode cc pc = .ok (.tableswitch dflt lo hi offs, len)) (h1 : ¬ (a : Int) < lo) (h2 : ¬ hi < (a : Int)) (ho : offs[((a : Int) - lo).toNat]? = some off) (ht : (pc : Int) + off = (tgt : Int)) (k : W p l e R s m args below meth c H locs cells slots Q (F0 m tgt ls rest)) : W p l e R s m args below meth c H locs cells slots Q (F0 m pc ls (.int (nI a) :: rest)) := lv_tableIn hx hb hd (by rw [nI_toInt ha]; exact h1) (by rw [nI_toInt ha]; exact h2) (by rw [nI_toInt ha]; exact ho) ht k
theorem pn_top {x y : Int32} (h : x = y) (k : W p l e R s m args below meth c H locs cells slots Q (F0 m pc ls (.int y :: rest))) : W p l e R s m args below meth c H locs cells slots Q (F0 m pc ls (.int x :: rest)) := by rw [h]; exact k
theorem pn_min (hx : p.tables.exec = Jvm.exec) (hb : c.code = cc) (hml : c.maxLocals = ls.size) {own : String} {index : Nat} (hown : s.vm.findClass own = some m.cls) (hlink : (Cond.methodLink own index Lib.Math.min.name).before args s = true) (hstat : (Cond.static Lib.Math.min.name).before args s = true) (hini : (Cond.initialized "java/lang/Math").before args s = true) (hcode : (Cond.code Lib.Math.min.name Lib.Math.min.code 2 (some .int)).before args s = true)
    (hframes : 1 ≤ R.frames) (hlocals : (rest.map fun v => v.category).sum + 13 ≤ R.locals) (hc : cells ≤ R.cells) (hs : slots ≤ R.slots) {a b : Nat} (ha : a < 2 ^ 31) (hb2 : b < 2 ^ 31) (hd : decode cc pc = .ok (.invokestatic index, 3))
    (kk : W p l e R s m args below meth c H locs cells slots Q (F0 m (pc + 3) ls (.int (nI (min a b)) :: rest))) : W p l e R s m args below meth c H locs cells slots Q (F0 m pc ls (.int (nI b) :: .int (nI a) :: rest)) := by
  refine va_mmin hx hb hml hown hlink hstat hini hcode hframes hlocals hc hs hd ?_
  have h9 : (if nI b < nI a then nI b else nI a) = nI (min a b) := by
    by_cases h : b < a
    · rw [if_pos ((nI_ltI hb2 ha).mpr h), Nat.min_eq_right (Nat.le_of_lt h)]
    · rw [if_neg (fun h9 => h ((nI_ltI hb2 ha).mp h9)), Nat.min_eq_left (Nat.le_of_not_lt h)]
  rw [h9]
  exact kk
/-- a boolean answer -/
def pz_b (C : Prop) [Decidable C] : Int32 := if C then nI 1 else nI 0
theorem pz_bt {C : Prop} [Decidable C] (h : C) : nI 1 = pz_b C := by rw [pz_b, if_pos h]
theorem pz_bf {C : Prop} [Decidable C] (h : ¬ C) : nI 0 = pz_b C := by rw [pz_b, if_neg h]
theorem pz_nb {C : Prop} [Decidable C] : narrow .boolean (.int (pz_b C)) = .int (pz_b C) := by
  by_cases h : C
  · rw [pz_b, if_pos h]; decide
  · rw [pz_b, if_neg h]; decide
theorem pz_b0 {C : Prop} [Decidable C] : pz_b C = 0 ↔ ¬ C := by
  by_cases h : C
  · rw [pz_b, if_pos h]; exact ⟨fun h9 => absurd h9 (by decide), fun h9 => absurd h h9⟩
  · rw [pz_b, if_neg h]; exact ⟨fun _ => h, fun _ => by decide⟩
theorem pz_bc {C E : Prop} [Decidable C] [Decidable E] (h : C ↔ E) : pz_b C = pz_b E := by
  by_cases h1 : C
  · rw [pz_b, pz_b, if_pos h1, if_pos (h.mp h1)]
  · rw [pz_b, pz_b, if_neg h1, if_neg (fun h9 => h1 (h.mpr h9))]
theorem pb_if_eq (hx : p.tables.exec = Jvm.exec) (hb : c.code = cc) {C : Prop} [Decidable C] {off : Int} {tgt : Nat} (hd : decode cc pc = .ok (.ifCond .eq off, 3)) (ht : (pc : Int) + off = (tgt : Int)) (kt : ¬ C → W p l e R s m args below meth c H locs cells slots Q (F0 m tgt ls rest)) (kf : C → W p l e R s m args below meth c H locs cells slots Q (F0 m (pc + 3) ls rest)) : W p l e R s m args below meth c H locs cells slots Q (F0 m pc ls (.int (pz_b C) :: rest)) := lv_if_eq hx hb hd ht (fun h => kt (pz_b0.mp h)) (fun h => kf (Decidable.not_not.mp fun h9 => h (pz_b0.mpr h9)))
theorem pb_if_ne (hx : p.tables.exec = Jvm.exec) (hb : c.code = cc) {C : Prop} [Decidable C] {off : Int} {tgt : Nat} (hd : decode cc pc = .ok (.ifCond .ne off, 3)) (ht : (pc : Int) + off = (tgt : Int)) (kt : C → W p l e R s m args below meth c H locs cells slots Q (F0 m tgt ls rest)) (kf : ¬ C → W p l e R s m args below meth c H locs cells slots Q (F0 m (pc + 3) ls rest)) : W p l e R s m args below meth c H locs cells slots Q (F0 m pc ls (.int (pz_b C) :: rest)) := lv_if_ne hx hb hd ht (fun h => kt (Decidable.not_not.mp fun h9 => h (pz_b0.mpr h9))) (fun h => kf (pz_b0.mp h))
end PZK
end
section
/-! ===== the calendar in numbers ===== -/
def pm_fd (y : Nat) : Nat := (y - 1) * 365 + (y - 1) / 4
def pm_cl (m : Nat) : Nat := if m = 2 then 28 else if m = 4 ∨ m = 6 ∨ m = 9 ∨ m = 11 then 30 else 31
def pm_ln (y m : Nat) : Nat := if m = 2 ∧ y % 4 = 0 then 29 else pm_cl m
def pm_cb : Nat → Nat
  | 0 => 0
  | m + 1 => if m = 0 then 0 else pm_cb m + pm_cl m
def pm_db (y m : Nat) : Nat := pm_cb m + (if 2 < m ∧ y % 4 = 0 then 1 else 0)
def pm_lw (n : Nat) : Nat := n - (n + 311) / 1461
def pm_pl (n : Nat) : Nat := pm_lw n % 365 + 1
def pm_yr (n : Nat) : Nat := n / 1461 * 4 + min (n % 1461 / 365) 3 + 1
def pm_mp (p : Nat) : Nat := if p ≤ 31 then 1 else if p ≤ 59 then 2 else if p ≤ 90 then 3 else if p ≤ 120 then 4 else if p ≤ 151 then 5 else if p ≤ 181 then 6 else if p ≤ 212 then 7 else if p ≤ 243 then 8 else if p ≤ 273 then 9 else if p ≤ 304 then 10 else if p ≤ 334 then 11 else 12
def pm_nn (m : Nat) : Nat := if m = 3 ∨ m = 5 ∨ m = 7 ∨ m = 10 then 7 else 5
def pm_an (m a : Nat) : Nat := pm_cb m + (if a = 0 then 1 else if a = 1 then pm_nn m else pm_nn m + 8)
def pm_ld (y p : Nat) : Nat := pm_fd y + p - 1 + (if y % 4 = 0 ∧ 55 ≤ p then 1 else 0)
def pm_ap (p : Nat) : Nat := if p = pm_an (pm_mp p) 0 ∨ pm_an (pm_mp p) 2 < p then 0 else if p ≤ pm_an (pm_mp p) 1 then 1 else 2
def pm_gc (m a : Nat) : Nat := if a = 2 then 8 else if a = 1 then pm_nn m - 1 else pm_cl (if m = 1 then 12 else m - 1) - (pm_nn (if m = 1 then 12 else m - 1) + 8) + 1
theorem pm_cl_b (m : Nat) : 28 ≤ pm_cl m ∧ pm_cl m ≤ 31 := by
  unfold pm_cl
  split
  · omega
  · split <;> omega
theorem pm_ln_b (y m : Nat) : 28 ≤ pm_ln y m ∧ pm_ln y m ≤ 31 := by
  unfold pm_ln
  have h := pm_cl_b m
  split <;> omega
theorem pm_nn_b (m : Nat) : 5 ≤ pm_nn m ∧ pm_nn m ≤ 7 := by
  unfold pm_nn
  split <;> omega
theorem pm_cb_s {m : Nat} (h : 1 ≤ m) : pm_cb (m + 1) = pm_cb m + pm_cl m := by
  rw [pm_cb, if_neg (by omega)]
theorem pm_cb_1 : pm_cb 1 = 0 := by decide
theorem pm_m12 {m : Nat} (h1 : 1 ≤ m) (h2 : m ≤ 12) : m = 1 ∨ m = 2 ∨ m = 3 ∨ m = 4 ∨ m = 5 ∨ m = 6 ∨ m = 7 ∨ m = 8 ∨ m = 9 ∨ m = 10 ∨ m = 11 ∨ m = 12 := by omega
theorem pm_cb_b (m : Nat) (h : m ≤ 13) : pm_cb m ≤ 365 := by
  have h9 : ∀ k, k < 14 → pm_cb k ≤ 365 := by decide
  exact h9 m (by omega)
theorem pm_mp_b (p : Nat) : 1 ≤ pm_mp p ∧ pm_mp p ≤ 12 := by
  unfold pm_mp
  repeat' split
  all_goals omega
theorem pm_mp_s {p k : Nat} (hp : p ≤ 366) (h1 : 1 ≤ k) (h2 : k ≤ 12) : k < pm_mp p ↔ k < 12 ∧ pm_cb (k + 1) < p := by
  have h9 : ∀ q, q < 367 → ∀ j, j < 13 → 1 ≤ j → (j < pm_mp q ↔ j < 12 ∧ pm_cb (j + 1) < q) := by decide +kernel
  exact h9 p (by omega) k (by omega) h1
theorem pm_lw_b (n : Nat) : pm_lw n ≤ n := Nat.sub_le _ _
theorem pm_pl_b (n : Nat) : 1 ≤ pm_pl n ∧ pm_pl n ≤ 365 := by
  unfold pm_pl
  have h := Nat.mod_lt (pm_lw n) (show 0 < 365 by decide)
  omega
theorem pm_yr_b {n : Nat} (h : n < 1095750) : 1 ≤ pm_yr n ∧ pm_yr n ≤ 3000 := by
  unfold pm_yr
  omega
theorem pm_an_b (m a : Nat) (h : m ≤ 13) : pm_cb m + 1 ≤ pm_an m a ∧ pm_an m a ≤ pm_cb m + 15 := by
  unfold pm_an
  have h := pm_nn_b m
  split
  · omega
  · split <;> omega
theorem pm_db_b (y m : Nat) (h : m ≤ 13) : pm_db y m ≤ 366 := by
  unfold pm_db
  have h9 := pm_cb_b m h
  split <;> omega
theorem pm_ld_b (y p : Nat) (hy : 1 ≤ y) (hp : 1 ≤ p) : pm_ld y p ≤ (y - 1) * 365 + (y - 1) / 4 + p := by
  unfold pm_ld pm_fd
  split <;> omega
theorem pm_ap_b (q : Nat) : pm_ap q ≤ 2 := by
  unfold pm_ap
  (repeat' split) <;> omega
theorem pm_gc_b (m a : Nat) : 1 ≤ pm_gc m a ∧ pm_gc m a ≤ 19 := by
  unfold pm_gc
  generalize (if m = 1 then 12 else m - 1) = z
  have h1 := pm_nn_b m
  have h2 := pm_nn_b z
  have h3 := pm_cl_b z
  (repeat' split) <;> omega
theorem pm_fd_e (y : Nat) : pm_fd y = (y - 1) * 365 + (y - 1) / 4 := rfl
end
section
section PZ1
set_option maxHeartbeats 4000000 in
set_option maxRecDepth 100000 in
theorem k_X0_isPlace (l : Launch) (D : va_G) (ts : List (ClassId × FieldType)) (x : Int32)  : pz_R l yX0_isPlace wsX0_isPlace ({ frames := 0, cells := 0, slots := 0, locals := 0 } : Room) D ts [.int x] [] (fun r => r = pz_b (1 ≤ x.toInt ∧ x.toInt ≤ 365)) := by
  refine pz_R_of (cc := cX0_isPlace) (maxL := 1) (ty := .boolean) (own := RX0) (by decide) rfl rfl (Nat.le_of_ble_eq_true rfl) ?_
  intro p e s m below meth c A ls Q hx hb hml hown hts hK hP hD hS hA hl hQ
  have hl : lv_has ls 1 [(0, .int x)] := hl
  refine lv_iload_n hx hb dX0_isPlace_0 rfl (lv_at hl 0 rfl) ?_
  refine lv_iconst (v := nI 1) hx hb dX0_isPlace_1 (by decide) ?_
  refine pi_icmp_lt (tgt := 16) (a := (x).toInt) (b := ((1 : Nat) : Int)) hx hb rfl (nI_toInt (by omega)) dX0_isPlace_2 (by decide) (fun c_1 => ?_) (fun c_1 => ?_)
  · -- 2 yes
    refine lv_iconst (v := nI 0) hx hb dX0_isPlace_16 (by decide) ?_
    exact hQ _ _ _ _ _ dX0_isPlace_17 (by decide) (pz_bf (by omega)) hS
  · -- 2 no
    refine lv_iload_n hx hb dX0_isPlace_5 rfl (lv_at hl 0 rfl) ?_
    refine lv_sipush (v := nI 365) hx hb dX0_isPlace_6 (by decide) ?_
    refine pi_icmp_gt (tgt := 16) (a := (x).toInt) (b := ((365 : Nat) : Int)) hx hb rfl (nI_toInt (by omega)) dX0_isPlace_9 (by decide) (fun c_2 => ?_) (fun c_2 => ?_)
    · -- 9 yes
      refine lv_iconst (v := nI 0) hx hb dX0_isPlace_16 (by decide) ?_
      exact hQ _ _ _ _ _ dX0_isPlace_17 (by decide) (pz_bf (by omega)) hS
    · -- 9 no
      refine lv_iconst (v := nI 1) hx hb dX0_isPlace_12 (by decide) ?_
      refine lv_goto (tgt := 17) hx hb dX0_isPlace_13 (by decide) ?_
      exact hQ _ _ _ _ _ dX0_isPlace_17 (by decide) (pz_bt (by omega)) hS
set_option maxHeartbeats 4000000 in
set_option maxRecDepth 100000 in
theorem k_X0_isConsul (l : Launch) (D : va_G) (ts : List (ClassId × FieldType)) (x : Int32)  : pz_R l yX0_isConsul wsX0_isConsul ({ frames := 0, cells := 0, slots := 0, locals := 0 } : Room) D ts [.int x] [] (fun r => r = pz_b (1 ≤ x.toInt ∧ x.toInt ≤ 999)) := by
  refine pz_R_of (cc := cX0_isConsul) (maxL := 1) (ty := .boolean) (own := RX0) (by decide) rfl rfl (Nat.le_of_ble_eq_true rfl) ?_
  intro p e s m below meth c A ls Q hx hb hml hown hts hK hP hD hS hA hl hQ
  have hl : lv_has ls 1 [(0, .int x)] := hl
  refine lv_iload_n hx hb dX0_isConsul_0 rfl (lv_at hl 0 rfl) ?_
  refine lv_iconst (v := nI 1) hx hb dX0_isConsul_1 (by decide) ?_
  refine pi_icmp_lt (tgt := 16) (a := (x).toInt) (b := ((1 : Nat) : Int)) hx hb rfl (nI_toInt (by omega)) dX0_isConsul_2 (by decide) (fun c_1 => ?_) (fun c_1 => ?_)
  · -- 2 yes
    refine lv_iconst (v := nI 0) hx hb dX0_isConsul_16 (by decide) ?_
    exact hQ _ _ _ _ _ dX0_isConsul_17 (by decide) (pz_bf (by omega)) hS
  · -- 2 no
    refine lv_iload_n hx hb dX0_isConsul_5 rfl (lv_at hl 0 rfl) ?_
    refine lv_sipush (v := nI 999) hx hb dX0_isConsul_6 (by decide) ?_
    refine pi_icmp_gt (tgt := 16) (a := (x).toInt) (b := ((999 : Nat) : Int)) hx hb rfl (nI_toInt (by omega)) dX0_isConsul_9 (by decide) (fun c_2 => ?_) (fun c_2 => ?_)
    · -- 9 yes
      refine lv_iconst (v := nI 0) hx hb dX0_isConsul_16 (by decide) ?_
      exact hQ _ _ _ _ _ dX0_isConsul_17 (by decide) (pz_bf (by omega)) hS
    · -- 9 no
      refine lv_iconst (v := nI 1) hx hb dX0_isConsul_12 (by decide) ?_
      refine lv_goto (tgt := 17) hx hb dX0_isConsul_13 (by decide) ?_
      exact hQ _ _ _ _ _ dX0_isConsul_17 (by decide) (pz_bt (by omega)) hS
set_option maxHeartbeats 4000000 in
set_option maxRecDepth 100000 in
theorem k_X0_isSlot (l : Launch) (D : va_G) (ts : List (ClassId × FieldType)) (x : Int32)  : pz_R l yX0_isSlot wsX0_isSlot ({ frames := 0, cells := 0, slots := 0, locals := 0 } : Room) D ts [.int x] [] (fun r => r = pz_b (0 ≤ x.toInt ∧ x.toInt < 60)) := by
  refine pz_R_of (cc := cX0_isSlot) (maxL := 1) (ty := .boolean) (own := RX0) (by decide) rfl rfl (Nat.le_of_ble_eq_true rfl) ?_
  intro p e s m below meth c A ls Q hx hb hml hown hts hK hP hD hS hA hl hQ
  have hl : lv_has ls 1 [(0, .int x)] := hl
  refine lv_iload_n hx hb dX0_isSlot_0 rfl (lv_at hl 0 rfl) ?_
  refine pi_if_lt (tgt := 14) (a := (x).toInt) hx hb rfl dX0_isSlot_1 (by decide) (fun c_1 => ?_) (fun c_1 => ?_)
  · -- 1 yes
    refine lv_iconst (v := nI 0) hx hb dX0_isSlot_14 (by decide) ?_
    exact hQ _ _ _ _ _ dX0_isSlot_15 (by decide) (pz_bf (by omega)) hS
  · -- 1 no
    refine lv_iload_n hx hb dX0_isSlot_4 rfl (lv_at hl 0 rfl) ?_
    refine lv_bipush (v := nI 60) hx hb dX0_isSlot_5 (by decide) ?_
    refine pi_icmp_ge (tgt := 14) (a := (x).toInt) (b := ((60 : Nat) : Int)) hx hb rfl (nI_toInt (by omega)) dX0_isSlot_7 (by decide) (fun c_2 => ?_) (fun c_2 => ?_)
    · -- 7 yes
      refine lv_iconst (v := nI 0) hx hb dX0_isSlot_14 (by decide) ?_
      exact hQ _ _ _ _ _ dX0_isSlot_15 (by decide) (pz_bf (by omega)) hS
    · -- 7 no
      refine lv_iconst (v := nI 1) hx hb dX0_isSlot_10 (by decide) ?_
      refine lv_goto (tgt := 15) hx hb dX0_isSlot_11 (by decide) ?_
      exact hQ _ _ _ _ _ dX0_isSlot_15 (by decide) (pz_bt (by omega)) hS
set_option maxHeartbeats 4000000 in
set_option maxRecDepth 100000 in
theorem k_X0_isLeap (l : Launch) (D : va_G) (ts : List (ClassId × FieldType)) (y : Nat) (hy0 : y ≤ 4000) : pz_R l yX0_isLeap wsX0_isLeap ({ frames := 0, cells := 0, slots := 0, locals := 0 } : Room) D ts [.int (nI y)] [] (fun r => r = pz_b (y % 4 = 0)) := by
  refine pz_R_of (cc := cX0_isLeap) (maxL := 1) (ty := .boolean) (own := RX0) (by decide) rfl rfl (Nat.le_of_ble_eq_true rfl) ?_
  intro p e s m below meth c A ls Q hx hb hml hown hts hK hP hD hS hA hl hQ
  have hl : lv_has ls 1 [(0, .int (nI y))] := hl
  refine lv_iload_n hx hb dX0_isLeap_0 rfl (lv_at hl 0 rfl) ?_
  refine lv_iconst (v := nI 4) hx hb dX0_isLeap_1 (by decide) ?_
  refine pn_irem hx hb (by omega) (by omega) (by omega) dX0_isLeap_2 ?_
  refine pn_if_ne (tgt := 10) hx hb (by omega) dX0_isLeap_3 (by decide) (fun c_1 => ?_) (fun c_1 => ?_)
  · -- 3 yes
    refine lv_iconst (v := nI 0) hx hb dX0_isLeap_10 (by decide) ?_
    exact hQ _ _ _ _ _ dX0_isLeap_11 (by decide) (pz_bf (by omega)) hS
  · -- 3 no
    refine lv_iconst (v := nI 1) hx hb dX0_isLeap_6 (by decide) ?_
    refine lv_goto (tgt := 11) hx hb dX0_isLeap_7 (by decide) ?_
    exact hQ _ _ _ _ _ dX0_isLeap_11 (by decide) (pz_bt (by omega)) hS
set_option maxHeartbeats 4000000 in
set_option maxRecDepth 100000 in
theorem k_X0_firstDayOf (l : Launch) (D : va_G) (ts : List (ClassId × FieldType)) (y : Nat) (hy0 : 1 ≤ y) (hy1 : y ≤ 3001) : pz_R l yX0_firstDayOf wsX0_firstDayOf ({ frames := 0, cells := 0, slots := 0, locals := 0 } : Room) D ts [.int (nI y)] [] (fun r => r = nI (pm_fd y)) := by
  refine pz_R_of (cc := cX0_firstDayOf) (maxL := 1) (ty := .int) (own := RX0) (by decide) rfl rfl (Nat.le_of_ble_eq_true rfl) ?_
  intro p e s m below meth c A ls Q hx hb hml hown hts hK hP hD hS hA hl hQ
  have hl : lv_has ls 1 [(0, .int (nI y))] := hl
  refine lv_iload_n hx hb dX0_firstDayOf_0 rfl (lv_at hl 0 rfl) ?_
  refine lv_iconst (v := nI 1) hx hb dX0_firstDayOf_1 (by decide) ?_
  refine pn_isub hx hb (by omega) dX0_firstDayOf_2 ?_
  refine lv_sipush (v := nI 365) hx hb dX0_firstDayOf_3 (by decide) ?_
  refine pn_imul hx hb dX0_firstDayOf_6 ?_
  refine lv_iload_n hx hb dX0_firstDayOf_7 rfl (lv_at hl 0 rfl) ?_
  refine lv_iconst (v := nI 1) hx hb dX0_firstDayOf_8 (by decide) ?_
  refine pn_isub hx hb (by omega) dX0_firstDayOf_9 ?_
  refine lv_iconst (v := nI 4) hx hb dX0_firstDayOf_10 (by decide) ?_
  refine pn_idiv hx hb (by omega) (by omega) (by omega) dX0_firstDayOf_11 ?_
  refine pn_iadd hx hb dX0_firstDayOf_12 ?_
  exact hQ _ _ _ _ _ dX0_firstDayOf_13 rfl (congrArg nI (by rfl)) hS
set_option maxHeartbeats 4000000 in
set_option maxRecDepth 100000 in
theorem k_X0_lastDayOf (l : Launch) (D : va_G) (ts : List (ClassId × FieldType)) (y : Nat) (hy0 : 1 ≤ y) (hy1 : y ≤ 3000) : pz_R l yX0_lastDayOf wsX0_lastDayOf ({ frames := 1, cells := 0, slots := 0, locals := 20 } : Room) D ts [.int (nI y)] [] (fun r => r = nI (pm_fd (y + 1) - 1)) := by
  refine pz_R_of (cc := cX0_lastDayOf) (maxL := 1) (ty := .int) (own := RX0) (by decide) rfl rfl (Nat.le_of_ble_eq_true rfl) ?_
  intro p e s m below meth c A ls Q hx hb hml hown hts hK hP hD hS hA hl hQ
  have hl : lv_has ls 1 [(0, .int (nI y))] := hl
  refine lv_iload_n hx hb dX0_lastDayOf_0 rfl (lv_at hl 0 rfl) ?_
  refine lv_iconst (v := nI 1) hx hb dX0_lastDayOf_1 (by decide) ?_
  refine pn_iadd hx hb dX0_lastDayOf_2 ?_
  refine pz_SR (rest := []) ⟨hx, hb, hml, hown, hts⟩ (k_X0_firstDayOf l D ts (y + 1) (by omega) (by omega)) (va_cwS 1 hts gX0_lastDayOf_X0_firstDayOf rfl rfl rfl (by decide +kernel) ⟨Nat.le_of_ble_eq_true rfl, Nat.le_of_ble_eq_true rfl⟩) hK hP hD hS hA [] rfl rfl rfl rfl hl.1 rfl (lv_room (Nat.le_of_ble_eq_true rfl)) dX0_lastDayOf_3 ⟨Nat.le_of_ble_eq_true rfl, Nat.le_of_ble_eq_true rfl⟩ (fun r H locs hr hP hS => ?_)
  obtain rfl : r = (nI (pm_fd (y + 1))) := hr
  have hf_2 := pm_fd_e (y + 1)
  refine lv_iconst (v := nI 1) hx hb dX0_lastDayOf_6 (by decide) ?_
  refine pn_isub hx hb (by omega) dX0_lastDayOf_7 ?_
  exact hQ _ _ _ _ _ dX0_lastDayOf_8 rfl (congrArg nI (by rfl)) hS
set_option maxHeartbeats 4000000 in
set_option maxRecDepth 100000 in
theorem k_X0_yearAt (l : Launch) (D : va_G) (ts : List (ClassId × FieldType)) (n : Nat) (hy0 : n < 1095750) : pz_R l yX0_yearAt wsX0_yearAt ({ frames := 1, cells := 0, slots := 0, locals := 21 } : Room) D ts [.int (nI n)] [] (fun r => r = nI (pm_yr n)) := by
  refine pz_R_of (cc := cX0_yearAt) (maxL := 2) (ty := .int) (own := RX0) (by decide) rfl rfl (Nat.le_of_ble_eq_true rfl) ?_
  intro p e s m below meth c A ls Q hx hb hml hown hts hK hP hD hS hA hl hQ
  have hl : lv_has ls 2 [(0, .int (nI n))] := hl
  refine lv_iload_n hx hb dX0_yearAt_0 rfl (lv_at hl 0 rfl) ?_
  refine lv_sipush (v := nI 1461) hx hb dX0_yearAt_1 (by decide) ?_
  refine pn_irem hx hb (by omega) (by omega) (by omega) dX0_yearAt_4 ?_
  refine lv_sipush (v := nI 365) hx hb dX0_yearAt_5 (by decide) ?_
  refine pn_idiv hx hb (by omega) (by omega) (by omega) dX0_yearAt_8 ?_
  refine lv_iconst (v := nI 3) hx hb dX0_yearAt_9 (by decide) ?_
  refine pn_min hx hb (by rw [hml]; exact hl.1.symm) hown (hts (.methodLink RX0 166 Lib.Math.min.name) (by decide +kernel)) (hts (.static Lib.Math.min.name) (by decide +kernel)) (hts (.initialized "java/lang/Math") (by decide +kernel)) (hts (.code Lib.Math.min.name Lib.Math.min.code 2 (some .int)) (by decide +kernel)) (Nat.le_of_ble_eq_true rfl) (Nat.le_of_ble_eq_true rfl) (Nat.zero_le _) (Nat.zero_le _) (by omega) (by omega) dX0_yearAt_10 ?_
  refine lv_istore_n (lv' := [(1, .int (nI (min ((n % 1461) / 365) 3))), (0, .int (nI n))]) hx hb dX0_yearAt_13 rfl hl (by decide) rfl (fun ls hl => ?_)
  refine lv_iload_n hx hb dX0_yearAt_14 rfl (lv_at hl 1 rfl) ?_
  refine lv_sipush (v := nI 1461) hx hb dX0_yearAt_15 (by decide) ?_
  refine pn_idiv hx hb (by omega) (by omega) (by omega) dX0_yearAt_18 ?_
  refine lv_iconst (v := nI 4) hx hb dX0_yearAt_19 (by decide) ?_
  refine pn_imul hx hb dX0_yearAt_20 ?_
  refine lv_iload_n hx hb dX0_yearAt_21 rfl (lv_at hl 0 rfl) ?_
  refine pn_iadd hx hb dX0_yearAt_22 ?_
  refine lv_iconst (v := nI 1) hx hb dX0_yearAt_23 (by decide) ?_
  refine pn_iadd hx hb dX0_yearAt_24 ?_
  exact hQ _ _ _ _ _ dX0_yearAt_25 rfl (congrArg nI (by rfl)) hS
set_option maxHeartbeats 4000000 in
set_option maxRecDepth 100000 in
theorem k_X0_commonLengthOf (l : Launch) (D : va_G) (ts : List (ClassId × FieldType)) (mm : Nat) (hy0 : mm ≤ 13) : pz_R l yX0_commonLengthOf wsX0_commonLengthOf ({ frames := 0, cells := 0, slots := 0, locals := 0 } : Room) D ts [.int (nI mm)] [] (fun r => r = nI (pm_cl mm)) := by
  refine pz_R_of (cc := cX0_commonLengthOf) (maxL := 1) (ty := .int) (own := RX0) (by decide) rfl rfl (Nat.le_of_ble_eq_true rfl) ?_
  intro p e s m below meth c A ls Q hx hb hml hown hts hK hP hD hS hA hl hQ
  have hl : lv_has ls 1 [(0, .int (nI mm))] := hl
  refine lv_iload_n hx hb dX0_commonLengthOf_0 rfl (lv_at hl 0 rfl) ?_
  rcases (by omega : mm = 2 ∨ mm = 3 ∨ mm = 4 ∨ mm = 5 ∨ mm = 6 ∨ mm = 7 ∨ mm = 8 ∨ mm = 9 ∨ mm = 10 ∨ mm = 11 ∨ (mm < 2 ∨ 11 < mm)) with rfl | rfl | rfl | rfl | rfl | rfl | rfl | rfl | rfl | rfl | hsw
  · -- case 2
    refine pn_tin (off := 55) (tgt := 56) hx hb (by decide) dX0_commonLengthOf_1 (by decide) (by decide) (by decide) (by decide) ?_
    refine lv_bipush (v := nI 28) hx hb dX0_commonLengthOf_56 (by decide) ?_
    exact hQ _ _ _ _ _ dX0_commonLengthOf_58 rfl (congrArg nI (by first | decide | (unfold pm_cl; (repeat' split) <;> omega))) hS
  · -- case 3
    refine pn_tin (off := 61) (tgt := 62) hx hb (by decide) dX0_commonLengthOf_1 (by decide) (by decide) (by decide) (by decide) ?_
    refine lv_bipush (v := nI 31) hx hb dX0_commonLengthOf_62 (by decide) ?_
    exact hQ _ _ _ _ _ dX0_commonLengthOf_64 rfl (congrArg nI (by first | decide | (unfold pm_cl; (repeat' split) <;> omega))) hS
  · -- case 4
    refine pn_tin (off := 58) (tgt := 59) hx hb (by decide) dX0_commonLengthOf_1 (by decide) (by decide) (by decide) (by decide) ?_
    refine lv_bipush (v := nI 30) hx hb dX0_commonLengthOf_59 (by decide) ?_
    exact hQ _ _ _ _ _ dX0_commonLengthOf_61 rfl (congrArg nI (by first | decide | (unfold pm_cl; (repeat' split) <;> omega))) hS
  · -- case 5
    refine pn_tin (off := 61) (tgt := 62) hx hb (by decide) dX0_commonLengthOf_1 (by decide) (by decide) (by decide) (by decide) ?_
    refine lv_bipush (v := nI 31) hx hb dX0_commonLengthOf_62 (by decide) ?_
    exact hQ _ _ _ _ _ dX0_commonLengthOf_64 rfl (congrArg nI (by first | decide | (unfold pm_cl; (repeat' split) <;> omega))) hS
  · -- case 6
    refine pn_tin (off := 58) (tgt := 59) hx hb (by decide) dX0_commonLengthOf_1 (by decide) (by decide) (by decide) (by decide) ?_
    refine lv_bipush (v := nI 30) hx hb dX0_commonLengthOf_59 (by decide) ?_
    exact hQ _ _ _ _ _ dX0_commonLengthOf_61 rfl (congrArg nI (by first | decide | (unfold pm_cl; (repeat' split) <;> omega))) hS
  · -- case 7
    refine pn_tin (off := 61) (tgt := 62) hx hb (by decide) dX0_commonLengthOf_1 (by decide) (by decide) (by decide) (by decide) ?_
    refine lv_bipush (v := nI 31) hx hb dX0_commonLengthOf_62 (by decide) ?_
    exact hQ _ _ _ _ _ dX0_commonLengthOf_64 rfl (congrArg nI (by first | decide | (unfold pm_cl; (repeat' split) <;> omega))) hS
  · -- case 8
    refine pn_tin (off := 61) (tgt := 62) hx hb (by decide) dX0_commonLengthOf_1 (by decide) (by decide) (by decide) (by decide) ?_
    refine lv_bipush (v := nI 31) hx hb dX0_commonLengthOf_62 (by decide) ?_
    exact hQ _ _ _ _ _ dX0_commonLengthOf_64 rfl (congrArg nI (by first | decide | (unfold pm_cl; (repeat' split) <;> omega))) hS
  · -- case 9
    refine pn_tin (off := 58) (tgt := 59) hx hb (by decide) dX0_commonLengthOf_1 (by decide) (by decide) (by decide) (by decide) ?_
    refine lv_bipush (v := nI 30) hx hb dX0_commonLengthOf_59 (by decide) ?_
    exact hQ _ _ _ _ _ dX0_commonLengthOf_61 rfl (congrArg nI (by first | decide | (unfold pm_cl; (repeat' split) <;> omega))) hS
  · -- case 10
    refine pn_tin (off := 61) (tgt := 62) hx hb (by decide) dX0_commonLengthOf_1 (by decide) (by decide) (by decide) (by decide) ?_
    refine lv_bipush (v := nI 31) hx hb dX0_commonLengthOf_62 (by decide) ?_
    exact hQ _ _ _ _ _ dX0_commonLengthOf_64 rfl (congrArg nI (by first | decide | (unfold pm_cl; (repeat' split) <;> omega))) hS
  · -- case 11
    refine pn_tin (off := 58) (tgt := 59) hx hb (by decide) dX0_commonLengthOf_1 (by decide) (by decide) (by decide) (by decide) ?_
    refine lv_bipush (v := nI 30) hx hb dX0_commonLengthOf_59 (by decide) ?_
    exact hQ _ _ _ _ _ dX0_commonLengthOf_61 rfl (congrArg nI (by first | decide | (unfold pm_cl; (repeat' split) <;> omega))) hS
  · -- default
    refine pn_tout (tgt := 62) hx hb (by omega) dX0_commonLengthOf_1 (by omega) (by decide) ?_
    refine lv_bipush (v := nI 31) hx hb dX0_commonLengthOf_62 (by decide) ?_
    exact hQ _ _ _ _ _ dX0_commonLengthOf_64 rfl (congrArg nI (by first | decide | (unfold pm_cl; (repeat' split) <;> omega))) hS
set_option maxHeartbeats 4000000 in
set_option maxRecDepth 100000 in
theorem k_X0_nonesDayOf (l : Launch) (D : va_G) (ts : List (ClassId × FieldType)) (mm : Nat) (hy0 : mm ≤ 13) : pz_R l yX0_nonesDayOf wsX0_nonesDayOf ({ frames := 0, cells := 0, slots := 0, locals := 0 } : Room) D ts [.int (nI mm)] [] (fun r => r = nI (pm_nn mm)) := by
  refine pz_R_of (cc := cX0_nonesDayOf) (maxL := 1) (ty := .int) (own := RX0) (by decide) rfl rfl (Nat.le_of_ble_eq_true rfl) ?_
  intro p e s m below meth c A ls Q hx hb hml hown hts hK hP hD hS hA hl hQ
  have hl : lv_has ls 1 [(0, .int (nI mm))] := hl
  refine lv_iload_n hx hb dX0_nonesDayOf_0 rfl (lv_at hl 0 rfl) ?_
  rcases (by omega : mm = 3 ∨ mm = 4 ∨ mm = 5 ∨ mm = 6 ∨ mm = 7 ∨ mm = 8 ∨ mm = 9 ∨ mm = 10 ∨ (mm < 3 ∨ 10 < mm)) with rfl | rfl | rfl | rfl | rfl | rfl | rfl | rfl | hsw
  · -- case 3
    refine pn_tin (off := 47) (tgt := 48) hx hb (by decide) dX0_nonesDayOf_1 (by decide) (by decide) (by decide) (by decide) ?_
    refine lv_bipush (v := nI 7) hx hb dX0_nonesDayOf_48 (by decide) ?_
    exact hQ _ _ _ _ _ dX0_nonesDayOf_50 rfl (congrArg nI (by first | decide | (unfold pm_nn; (repeat' split) <;> omega))) hS
  · -- case 4
    refine pn_tin (off := 50) (tgt := 51) hx hb (by decide) dX0_nonesDayOf_1 (by decide) (by decide) (by decide) (by decide) ?_
    refine lv_iconst (v := nI 5) hx hb dX0_nonesDayOf_51 (by decide) ?_
    exact hQ _ _ _ _ _ dX0_nonesDayOf_52 rfl (congrArg nI (by first | decide | (unfold pm_nn; (repeat' split) <;> omega))) hS
  · -- case 5
    refine pn_tin (off := 47) (tgt := 48) hx hb (by decide) dX0_nonesDayOf_1 (by decide) (by decide) (by decide) (by decide) ?_
    refine lv_bipush (v := nI 7) hx hb dX0_nonesDayOf_48 (by decide) ?_
    exact hQ _ _ _ _ _ dX0_nonesDayOf_50 rfl (congrArg nI (by first | decide | (unfold pm_nn; (repeat' split) <;> omega))) hS
  · -- case 6
    refine pn_tin (off := 50) (tgt := 51) hx hb (by decide) dX0_nonesDayOf_1 (by decide) (by decide) (by decide) (by decide) ?_
    refine lv_iconst (v := nI 5) hx hb dX0_nonesDayOf_51 (by decide) ?_
    exact hQ _ _ _ _ _ dX0_nonesDayOf_52 rfl (congrArg nI (by first | decide | (unfold pm_nn; (repeat' split) <;> omega))) hS
  · -- case 7
    refine pn_tin (off := 47) (tgt := 48) hx hb (by decide) dX0_nonesDayOf_1 (by decide) (by decide) (by decide) (by decide) ?_
    refine lv_bipush (v := nI 7) hx hb dX0_nonesDayOf_48 (by decide) ?_
    exact hQ _ _ _ _ _ dX0_nonesDayOf_50 rfl (congrArg nI (by first | decide | (unfold pm_nn; (repeat' split) <;> omega))) hS
  · -- case 8
    refine pn_tin (off := 50) (tgt := 51) hx hb (by decide) dX0_nonesDayOf_1 (by decide) (by decide) (by decide) (by decide) ?_
    refine lv_iconst (v := nI 5) hx hb dX0_nonesDayOf_51 (by decide) ?_
    exact hQ _ _ _ _ _ dX0_nonesDayOf_52 rfl (congrArg nI (by first | decide | (unfold pm_nn; (repeat' split) <;> omega))) hS
  · -- case 9
    refine pn_tin (off := 50) (tgt := 51) hx hb (by decide) dX0_nonesDayOf_1 (by decide) (by decide) (by decide) (by decide) ?_
    refine lv_iconst (v := nI 5) hx hb dX0_nonesDayOf_51 (by decide) ?_
    exact hQ _ _ _ _ _ dX0_nonesDayOf_52 rfl (congrArg nI (by first | decide | (unfold pm_nn; (repeat' split) <;> omega))) hS
  · -- case 10
    refine pn_tin (off := 47) (tgt := 48) hx hb (by decide) dX0_nonesDayOf_1 (by decide) (by decide) (by decide) (by decide) ?_
    refine lv_bipush (v := nI 7) hx hb dX0_nonesDayOf_48 (by decide) ?_
    exact hQ _ _ _ _ _ dX0_nonesDayOf_50 rfl (congrArg nI (by first | decide | (unfold pm_nn; (repeat' split) <;> omega))) hS
  · -- default
    refine pn_tout (tgt := 51) hx hb (by omega) dX0_nonesDayOf_1 (by omega) (by decide) ?_
    refine lv_iconst (v := nI 5) hx hb dX0_nonesDayOf_51 (by decide) ?_
    exact hQ _ _ _ _ _ dX0_nonesDayOf_52 rfl (congrArg nI (by first | decide | (unfold pm_nn; (repeat' split) <;> omega))) hS
set_option maxHeartbeats 4000000 in
set_option maxRecDepth 100000 in
theorem k_X0_lengthOf (l : Launch) (D : va_G) (ts : List (ClassId × FieldType)) (y mm : Nat) (hy0 : y ≤ 4000) (hy1 : mm ≤ 13) : pz_R l yX0_lengthOf wsX0_lengthOf ({ frames := 1, cells := 0, slots := 0, locals := 20 } : Room) D ts [.int (nI y), .int (nI mm)] [] (fun r => r = nI (pm_ln y mm)) := by
  refine pz_R_of (cc := cX0_lengthOf) (maxL := 3) (ty := .int) (own := RX0) (by decide) rfl rfl (Nat.le_of_ble_eq_true rfl) ?_
  intro p e s m below meth c A ls Q hx hb hml hown hts hK hP hD hS hA hl hQ
  have hl : lv_has ls 3 [(0, .int (nI y)), (1, .int (nI mm))] := hl
  refine lv_iload_n hx hb dX0_lengthOf_0 rfl (lv_at hl 1 rfl) ?_
  refine lv_iconst (v := nI 2) hx hb dX0_lengthOf_1 (by decide) ?_
  refine pn_icmp_ne (tgt := 16) hx hb (by omega) (by omega) dX0_lengthOf_2 (by decide) (fun c_1 => ?_) (fun c_1 => ?_)
  · -- 2 yes
    refine lv_iconst (v := nI 0) hx hb dX0_lengthOf_16 (by decide) ?_
    refine lv_istore_n (lv' := [(2, .int (nI 0)), (0, .int (nI y)), (1, .int (nI mm))]) hx hb dX0_lengthOf_17 rfl hl (by decide) rfl (fun ls hl => ?_)
    refine lv_iload_n hx hb dX0_lengthOf_18 rfl (lv_at hl 0 rfl) ?_
    refine pn_if_eq (tgt := 31) hx hb (by omega) dX0_lengthOf_19 (by decide) (fun _ => ?_) (fun c_2 => absurd c_2 (by decide))
    refine lv_iload_n hx hb dX0_lengthOf_31 rfl (lv_at hl 2 rfl) ?_
    refine pz_SR (rest := []) ⟨hx, hb, hml, hown, hts⟩ (k_X0_commonLengthOf l D ts mm (by omega)) (va_cwS 1 hts gX0_lengthOf_X0_commonLengthOf rfl rfl rfl (by decide +kernel) ⟨Nat.le_of_ble_eq_true rfl, Nat.le_of_ble_eq_true rfl⟩) hK hP hD hS hA [] rfl rfl rfl rfl hl.1 rfl (lv_room (Nat.le_of_ble_eq_true rfl)) dX0_lengthOf_32 ⟨Nat.le_of_ble_eq_true rfl, Nat.le_of_ble_eq_true rfl⟩ (fun r H locs hr hP hS => ?_)
    obtain rfl : r = (nI (pm_cl mm)) := hr
    have hf_4 := pm_cl_b mm
    exact hQ _ _ _ _ _ dX0_lengthOf_35 rfl (congrArg nI (by unfold pm_ln; split <;> first | omega | (have h9 : pm_cl 2 = 28 := rfl; simp_all))) hS
  · -- 2 no
    refine lv_iload_n hx hb dX0_lengthOf_5 rfl (lv_at hl 0 rfl) ?_
    refine pz_SR (rest := []) ⟨hx, hb, hml, hown, hts⟩ (k_X0_isLeap l D ts y (by omega)) (va_cwS 1 hts gX0_lengthOf_X0_isLeap rfl rfl rfl (by decide +kernel) ⟨Nat.le_of_ble_eq_true rfl, Nat.le_of_ble_eq_true rfl⟩) hK hP hD hS hA [] rfl rfl rfl rfl hl.1 rfl (lv_room (Nat.le_of_ble_eq_true rfl)) dX0_lengthOf_6 ⟨Nat.le_of_ble_eq_true rfl, Nat.le_of_ble_eq_true rfl⟩ (fun r H locs hr hP hS => ?_)
    obtain rfl : r = (pz_b (y % 4 = 0)) := hr
    refine pb_if_eq (tgt := 16) hx hb dX0_lengthOf_9 (by decide) (fun c_6 => ?_) (fun c_6 => ?_)
    · -- 9 yes
      refine lv_iconst (v := nI 0) hx hb dX0_lengthOf_16 (by decide) ?_
      refine lv_istore_n (lv' := [(2, .int (nI 0)), (0, .int (nI y)), (1, .int (nI mm))]) hx hb dX0_lengthOf_17 rfl hl (by decide) rfl (fun ls hl => ?_)
      refine lv_iload_n hx hb dX0_lengthOf_18 rfl (lv_at hl 0 rfl) ?_
      refine pn_if_eq (tgt := 31) hx hb (by omega) dX0_lengthOf_19 (by decide) (fun _ => ?_) (fun c_7 => absurd c_7 (by decide))
      refine lv_iload_n hx hb dX0_lengthOf_31 rfl (lv_at hl 2 rfl) ?_
      refine pz_SR (rest := []) ⟨hx, hb, hml, hown, hts⟩ (k_X0_commonLengthOf l D ts mm (by omega)) (va_cwS 1 hts gX0_lengthOf_X0_commonLengthOf rfl rfl rfl (by decide +kernel) ⟨Nat.le_of_ble_eq_true rfl, Nat.le_of_ble_eq_true rfl⟩) hK hP hD hS hA [] rfl rfl rfl rfl hl.1 rfl (lv_room (Nat.le_of_ble_eq_true rfl)) dX0_lengthOf_32 ⟨Nat.le_of_ble_eq_true rfl, Nat.le_of_ble_eq_true rfl⟩ (fun r H locs hr hP hS => ?_)
      obtain rfl : r = (nI (pm_cl mm)) := hr
      have hf_9 := pm_cl_b mm
      exact hQ _ _ _ _ _ dX0_lengthOf_35 rfl (congrArg nI (by unfold pm_ln; split <;> first | omega | (have h9 : pm_cl 2 = 28 := rfl; simp_all))) hS
    · -- 9 no
      refine lv_iconst (v := nI 1) hx hb dX0_lengthOf_12 (by decide) ?_
      refine lv_goto (tgt := 17) hx hb dX0_lengthOf_13 (by decide) ?_
      refine lv_istore_n (lv' := [(2, .int (nI 1)), (0, .int (nI y)), (1, .int (nI mm))]) hx hb dX0_lengthOf_17 rfl hl (by decide) rfl (fun ls hl => ?_)
      refine lv_iload_n hx hb dX0_lengthOf_18 rfl (lv_at hl 0 rfl) ?_
      refine pn_if_eq (tgt := 31) hx hb (by omega) dX0_lengthOf_19 (by decide) (fun c_10 => absurd c_10 (by decide)) (fun _ => ?_)
      refine lv_iload_n hx hb dX0_lengthOf_22 rfl (lv_at hl 2 rfl) ?_
      refine pz_SR (rest := []) ⟨hx, hb, hml, hown, hts⟩ (k_X0_commonLengthOf l D ts mm (by omega)) (va_cwS 1 hts gX0_lengthOf_X0_commonLengthOf rfl rfl rfl (by decide +kernel) ⟨Nat.le_of_ble_eq_true rfl, Nat.le_of_ble_eq_true rfl⟩) hK hP hD hS hA [] rfl rfl rfl rfl hl.1 rfl (lv_room (Nat.le_of_ble_eq_true rfl)) dX0_lengthOf_23 ⟨Nat.le_of_ble_eq_true rfl, Nat.le_of_ble_eq_true rfl⟩ (fun r H locs hr hP hS => ?_)
      obtain rfl : r = (nI (pm_cl mm)) := hr
      have hf_12 := pm_cl_b mm
      refine lv_iconst (v := nI 1) hx hb dX0_lengthOf_26 (by decide) ?_
      refine pn_iadd hx hb dX0_lengthOf_27 ?_
      refine lv_goto (tgt := 35) hx hb dX0_lengthOf_28 (by decide) ?_
      exact hQ _ _ _ _ _ dX0_lengthOf_35 rfl (congrArg nI (by unfold pm_ln; split <;> first | omega | (have h9 : pm_cl 2 = 28 := rfl; simp_all))) hS
set_option maxHeartbeats 4000000 in
set_option maxRecDepth 100000 in
theorem k_X0_commonDaysBefore (l : Launch) (D : va_G) (ts : List (ClassId × FieldType)) (mm : Nat) (hy0 : 1 ≤ mm) (hy1 : mm ≤ 13) : pz_R l yX0_commonDaysBefore wsX0_commonDaysBefore ({ frames := 1, cells := 0, slots := 0, locals := 20 } : Room) D ts [.int (nI mm)] [] (fun r => r = nI (pm_cb mm)) := by
  refine pz_R_of (cc := cX0_commonDaysBefore) (maxL := 3) (ty := .int) (own := RX0) (by decide) rfl rfl (Nat.le_of_ble_eq_true rfl) ?_
  intro p e s m below meth c A ls Q hx hb hml hown hts hK hP hD hS hA hl hQ
  have hl : lv_has ls 3 [(0, .int (nI mm))] := hl
  refine lv_iconst (v := nI 0) hx hb dX0_commonDaysBefore_0 (by decide) ?_
  refine lv_istore_n (lv' := [(1, .int (nI 0)), (0, .int (nI mm))]) hx hb dX0_commonDaysBefore_1 rfl hl (by decide) rfl (fun ls hl => ?_)
  refine lv_iconst (v := nI 1) hx hb dX0_commonDaysBefore_2 (by decide) ?_
  refine lv_istore_n (lv' := [(2, .int (nI 1)), (1, .int (nI 0)), (0, .int (nI mm))]) hx hb dX0_commonDaysBefore_3 rfl hl (by decide) rfl (fun ls hl => ?_)
  have LP4 : ∀ (N : Nat) (k : Nat) (H : Heap) (locs : List Loc) (ls : Array Slot), mm - k < N → (1 ≤ k) → (k ≤ mm) → va_P D vwCl [] H → va_S A s.heap H locs → lv_has ls 3 [(1, .int (nI (pm_cb k))), (2, .int (nI k)), (0, .int (nI mm))] → W p l e ({ frames := 1, cells := 0, slots := 0, locals := 20 } : Room) s m ([.int (nI mm)] : List Value).toArray below meth c H locs 0 0 Q (F0 m 4 ls []) := by
    intro N
    induction N with
    | zero => intro k H locs ls hN; exact absurd hN (Nat.not_lt_zero _)
    | succ N ih =>
      intro k H locs ls hN hi4_0 hi4_1 hP hS hl
      have ih4 := ih
      refine lv_iload_n hx hb dX0_commonDaysBefore_4 rfl (lv_at hl 1 rfl) ?_
      refine lv_iload_n hx hb dX0_commonDaysBefore_5 rfl (lv_at hl 2 rfl) ?_
      refine pn_icmp_ge (tgt := 22) hx hb (by omega) (by omega) dX0_commonDaysBefore_6 (by decide) (fun c_1 => ?_) (fun c_1 => ?_)
      · -- 6 yes
        refine lv_iload_n hx hb dX0_commonDaysBefore_22 rfl (lv_at hl 0 rfl) ?_
        exact hQ _ _ _ _ _ dX0_commonDaysBefore_23 rfl (congrArg nI (by (have h9 : k = mm := by omega); rw [h9])) hS
      · -- 6 no
        refine lv_iload_n hx hb dX0_commonDaysBefore_9 rfl (lv_at hl 0 rfl) ?_
        refine lv_iload_n hx hb dX0_commonDaysBefore_10 rfl (lv_at hl 1 rfl) ?_
        refine pz_SR (rest := [.int (nI (pm_cb k))]) ⟨hx, hb, hml, hown, hts⟩ (k_X0_commonLengthOf l D ts k (by omega)) (va_cwS 1 hts gX0_commonDaysBefore_X0_commonLengthOf rfl rfl rfl (by decide +kernel) ⟨Nat.le_of_ble_eq_true rfl, Nat.le_of_ble_eq_true rfl⟩) hK hP hD hS hA [] rfl rfl rfl rfl hl.1 rfl (lv_room (Nat.le_of_ble_eq_true rfl)) dX0_commonDaysBefore_11 ⟨Nat.le_of_ble_eq_true rfl, Nat.le_of_ble_eq_true rfl⟩ (fun r H locs hr hP hS => ?_)
        obtain rfl : r = (nI (pm_cl k)) := hr
        have hf_3 := pm_cl_b k
        have h9_2 := pm_cb_s hi4_0
        have h8_2 := pm_cb_b k (by omega)
        refine pn_iadd hx hb dX0_commonDaysBefore_14 ?_
        refine lv_istore_n (lv' := [(1, .int (nI ((pm_cb k) + (pm_cl k)))), (2, .int (nI k)), (0, .int (nI mm))]) hx hb dX0_commonDaysBefore_15 rfl hl (by decide) rfl (fun ls hl => ?_)
        refine lv_iinc (v := (nI (k + 1))) (lv' := [(2, .int (nI (k + 1))), (1, .int (nI ((pm_cb k) + (pm_cl k)))), (0, .int (nI mm))]) hx hb dX0_commonDaysBefore_16 hl (k := 1) rfl (by exact nI_add _ 1) (by decide) rfl (fun ls hl => ?_)
        refine lv_goto (tgt := 4) hx hb dX0_commonDaysBefore_19 (by decide) ?_
        have hq4 : (pm_cb k) + (pm_cl k) = pm_cb (k + 1) := by first | exact pm_cb_1.symm | omega
        exact ih4 (k + 1) _ _ _ (by omega) (by omega) (by omega) hP hS (by rw [← hq4]; exact lv_sub hl [1, 0, 2] rfl)
  have hq5 : 0 = pm_cb 1 := by first | exact pm_cb_1.symm | omega
  exact LP4 _ 1 _ _ _ (Nat.lt_succ_self _) (by omega) (by omega) hP hS (by rw [← hq5]; exact lv_sub hl [1, 0, 2] rfl)
set_option maxHeartbeats 4000000 in
set_option maxRecDepth 100000 in
theorem k_X0_daysBefore (l : Launch) (D : va_G) (ts : List (ClassId × FieldType)) (y mm : Nat) (hy0 : y ≤ 4000) (hy1 : 1 ≤ mm) (hy2 : mm ≤ 13) : pz_R l yX0_daysBefore wsX0_daysBefore ({ frames := 2, cells := 0, slots := 0, locals := 42 } : Room) D ts [.int (nI y), .int (nI mm)] [] (fun r => r = nI (pm_db y mm)) := by
  refine pz_R_of (cc := cX0_daysBefore) (maxL := 3) (ty := .int) (own := RX0) (by decide) rfl rfl (Nat.le_of_ble_eq_true rfl) ?_
  intro p e s m below meth c A ls Q hx hb hml hown hts hK hP hD hS hA hl hQ
  have hl : lv_has ls 3 [(0, .int (nI y)), (1, .int (nI mm))] := hl
  refine lv_iload_n hx hb dX0_daysBefore_0 rfl (lv_at hl 1 rfl) ?_
  refine lv_iconst (v := nI 2) hx hb dX0_daysBefore_1 (by decide) ?_
  refine pn_icmp_le (tgt := 16) hx hb (by omega) (by omega) dX0_daysBefore_2 (by decide) (fun c_1 => ?_) (fun c_1 => ?_)
  · -- 2 yes
    refine lv_iconst (v := nI 0) hx hb dX0_daysBefore_16 (by decide) ?_
    refine lv_istore_n (lv' := [(2, .int (nI 0)), (0, .int (nI y)), (1, .int (nI mm))]) hx hb dX0_daysBefore_17 rfl hl (by decide) rfl (fun ls hl => ?_)
    refine lv_iload_n hx hb dX0_daysBefore_18 rfl (lv_at hl 0 rfl) ?_
    refine pn_if_eq (tgt := 31) hx hb (by omega) dX0_daysBefore_19 (by decide) (fun _ => ?_) (fun c_2 => absurd c_2 (by decide))
    refine lv_iload_n hx hb dX0_daysBefore_31 rfl (lv_at hl 2 rfl) ?_
    refine pz_SR (rest := []) ⟨hx, hb, hml, hown, hts⟩ (k_X0_commonDaysBefore l D ts mm (by omega) (by omega)) (va_cwS 1 hts gX0_daysBefore_X0_commonDaysBefore rfl rfl rfl (by decide +kernel) ⟨Nat.le_of_ble_eq_true rfl, Nat.le_of_ble_eq_true rfl⟩) hK hP hD hS hA [] rfl rfl rfl rfl hl.1 rfl (lv_room (Nat.le_of_ble_eq_true rfl)) dX0_daysBefore_32 ⟨Nat.le_of_ble_eq_true rfl, Nat.le_of_ble_eq_true rfl⟩ (fun r H locs hr hP hS => ?_)
    obtain rfl : r = (nI (pm_cb mm)) := hr
    have hf_4 := pm_cb_b mm (by omega)
    exact hQ _ _ _ _ _ dX0_daysBefore_35 rfl (congrArg nI (by unfold pm_db; split <;> omega)) hS
  · -- 2 no
    refine lv_iload_n hx hb dX0_daysBefore_5 rfl (lv_at hl 0 rfl) ?_
    refine pz_SR (rest := []) ⟨hx, hb, hml, hown, hts⟩ (k_X0_isLeap l D ts y (by omega)) (va_cwS 1 hts gX0_daysBefore_X0_isLeap rfl rfl rfl (by decide +kernel) ⟨Nat.le_of_ble_eq_true rfl, Nat.le_of_ble_eq_true rfl⟩) hK hP hD hS hA [] rfl rfl rfl rfl hl.1 rfl (lv_room (Nat.le_of_ble_eq_true rfl)) dX0_daysBefore_6 ⟨Nat.le_of_ble_eq_true rfl, Nat.le_of_ble_eq_true rfl⟩ (fun r H locs hr hP hS => ?_)
    obtain rfl : r = (pz_b (y % 4 = 0)) := hr
    refine pb_if_eq (tgt := 16) hx hb dX0_daysBefore_9 (by decide) (fun c_6 => ?_) (fun c_6 => ?_)
    · -- 9 yes
      refine lv_iconst (v := nI 0) hx hb dX0_daysBefore_16 (by decide) ?_
      refine lv_istore_n (lv' := [(2, .int (nI 0)), (0, .int (nI y)), (1, .int (nI mm))]) hx hb dX0_daysBefore_17 rfl hl (by decide) rfl (fun ls hl => ?_)
      refine lv_iload_n hx hb dX0_daysBefore_18 rfl (lv_at hl 0 rfl) ?_
      refine pn_if_eq (tgt := 31) hx hb (by omega) dX0_daysBefore_19 (by decide) (fun _ => ?_) (fun c_7 => absurd c_7 (by decide))
      refine lv_iload_n hx hb dX0_daysBefore_31 rfl (lv_at hl 2 rfl) ?_
      refine pz_SR (rest := []) ⟨hx, hb, hml, hown, hts⟩ (k_X0_commonDaysBefore l D ts mm (by omega) (by omega)) (va_cwS 1 hts gX0_daysBefore_X0_commonDaysBefore rfl rfl rfl (by decide +kernel) ⟨Nat.le_of_ble_eq_true rfl, Nat.le_of_ble_eq_true rfl⟩) hK hP hD hS hA [] rfl rfl rfl rfl hl.1 rfl (lv_room (Nat.le_of_ble_eq_true rfl)) dX0_daysBefore_32 ⟨Nat.le_of_ble_eq_true rfl, Nat.le_of_ble_eq_true rfl⟩ (fun r H locs hr hP hS => ?_)
      obtain rfl : r = (nI (pm_cb mm)) := hr
      have hf_9 := pm_cb_b mm (by omega)
      exact hQ _ _ _ _ _ dX0_daysBefore_35 rfl (congrArg nI (by unfold pm_db; split <;> omega)) hS
    · -- 9 no
      refine lv_iconst (v := nI 1) hx hb dX0_daysBefore_12 (by decide) ?_
      refine lv_goto (tgt := 17) hx hb dX0_daysBefore_13 (by decide) ?_
      refine lv_istore_n (lv' := [(2, .int (nI 1)), (0, .int (nI y)), (1, .int (nI mm))]) hx hb dX0_daysBefore_17 rfl hl (by decide) rfl (fun ls hl => ?_)
      refine lv_iload_n hx hb dX0_daysBefore_18 rfl (lv_at hl 0 rfl) ?_
      refine pn_if_eq (tgt := 31) hx hb (by omega) dX0_daysBefore_19 (by decide) (fun c_10 => absurd c_10 (by decide)) (fun _ => ?_)
      refine lv_iload_n hx hb dX0_daysBefore_22 rfl (lv_at hl 2 rfl) ?_
      refine pz_SR (rest := []) ⟨hx, hb, hml, hown, hts⟩ (k_X0_commonDaysBefore l D ts mm (by omega) (by omega)) (va_cwS 1 hts gX0_daysBefore_X0_commonDaysBefore rfl rfl rfl (by decide +kernel) ⟨Nat.le_of_ble_eq_true rfl, Nat.le_of_ble_eq_true rfl⟩) hK hP hD hS hA [] rfl rfl rfl rfl hl.1 rfl (lv_room (Nat.le_of_ble_eq_true rfl)) dX0_daysBefore_23 ⟨Nat.le_of_ble_eq_true rfl, Nat.le_of_ble_eq_true rfl⟩ (fun r H locs hr hP hS => ?_)
      obtain rfl : r = (nI (pm_cb mm)) := hr
      have hf_12 := pm_cb_b mm (by omega)
      refine lv_iconst (v := nI 1) hx hb dX0_daysBefore_26 (by decide) ?_
      refine pn_iadd hx hb dX0_daysBefore_27 ?_
      refine lv_goto (tgt := 35) hx hb dX0_daysBefore_28 (by decide) ?_
      exact hQ _ _ _ _ _ dX0_daysBefore_35 rfl (congrArg nI (by unfold pm_db; split <;> omega)) hS
set_option maxHeartbeats 4000000 in
set_option maxRecDepth 100000 in
theorem k_X0_doubledDaysBefore (l : Launch) (D : va_G) (ts : List (ClassId × FieldType)) (n : Nat) (hy0 : n < 1095751) : pz_R l yX0_doubledDaysBefore wsX0_doubledDaysBefore ({ frames := 0, cells := 0, slots := 0, locals := 0 } : Room) D ts [.int (nI n)] [] (fun r => r = nI ((n + 311) / 1461)) := by
  refine pz_R_of (cc := cX0_doubledDaysBefore) (maxL := 1) (ty := .int) (own := RX0) (by decide) rfl rfl (Nat.le_of_ble_eq_true rfl) ?_
  intro p e s m below meth c A ls Q hx hb hml hown hts hK hP hD hS hA hl hQ
  have hl : lv_has ls 1 [(0, .int (nI n))] := hl
  refine lv_iload_n hx hb dX0_doubledDaysBefore_0 rfl (lv_at hl 0 rfl) ?_
  refine lv_sipush (v := nI 1461) hx hb dX0_doubledDaysBefore_1 (by decide) ?_
  refine pn_iadd hx hb dX0_doubledDaysBefore_4 ?_
  refine lv_iconst (v := nI 1) hx hb dX0_doubledDaysBefore_5 (by decide) ?_
  refine pn_isub hx hb (by omega) dX0_doubledDaysBefore_6 ?_
  refine lv_sipush (v := nI 1149) hx hb dX0_doubledDaysBefore_7 (by decide) ?_
  refine pn_isub hx hb (by omega) dX0_doubledDaysBefore_10 ?_
  refine lv_sipush (v := nI 1461) hx hb dX0_doubledDaysBefore_11 (by decide) ?_
  refine pn_idiv hx hb (by omega) (by omega) (by omega) dX0_doubledDaysBefore_14 ?_
  exact hQ _ _ _ _ _ dX0_doubledDaysBefore_15 rfl (congrArg nI (by omega)) hS
set_option maxHeartbeats 4000000 in
set_option maxRecDepth 100000 in
theorem k_X0_lawNumberAt (l : Launch) (D : va_G) (ts : List (ClassId × FieldType)) (n : Nat) (hy0 : n < 1095751) : pz_R l yX0_lawNumberAt wsX0_lawNumberAt ({ frames := 1, cells := 0, slots := 0, locals := 20 } : Room) D ts [.int (nI n)] [] (fun r => r = nI (pm_lw n)) := by
  refine pz_R_of (cc := cX0_lawNumberAt) (maxL := 1) (ty := .int) (own := RX0) (by decide) rfl rfl (Nat.le_of_ble_eq_true rfl) ?_
  intro p e s m below meth c A ls Q hx hb hml hown hts hK hP hD hS hA hl hQ
  have hl : lv_has ls 1 [(0, .int (nI n))] := hl
  refine lv_iload_n hx hb dX0_lawNumberAt_0 rfl (lv_at hl 0 rfl) ?_
  refine lv_iload_n hx hb dX0_lawNumberAt_1 rfl (lv_at hl 0 rfl) ?_
  refine pz_SR (rest := [.int (nI n)]) ⟨hx, hb, hml, hown, hts⟩ (k_X0_doubledDaysBefore l D ts n (by omega)) (va_cwS 1 hts gX0_lawNumberAt_X0_doubledDaysBefore rfl rfl rfl (by decide +kernel) ⟨Nat.le_of_ble_eq_true rfl, Nat.le_of_ble_eq_true rfl⟩) hK hP hD hS hA [] rfl rfl rfl rfl hl.1 rfl (lv_room (Nat.le_of_ble_eq_true rfl)) dX0_lawNumberAt_2 ⟨Nat.le_of_ble_eq_true rfl, Nat.le_of_ble_eq_true rfl⟩ (fun r H locs hr hP hS => ?_)
  obtain rfl : r = (nI ((n + 311) / 1461)) := hr
  refine pn_isub hx hb (by omega) dX0_lawNumberAt_5 ?_
  exact hQ _ _ _ _ _ dX0_lawNumberAt_6 rfl (congrArg nI (by rfl)) hS
set_option maxHeartbeats 4000000 in
set_option maxRecDepth 100000 in
theorem k_X0_placeAt (l : Launch) (D : va_G) (ts : List (ClassId × FieldType)) (n : Nat) (hy0 : n < 1095751) : pz_R l yX0_placeAt wsX0_placeAt ({ frames := 2, cells := 0, slots := 0, locals := 40 } : Room) D ts [.int (nI n)] [] (fun r => r = nI (pm_pl n)) := by
  refine pz_R_of (cc := cX0_placeAt) (maxL := 1) (ty := .int) (own := RX0) (by decide) rfl rfl (Nat.le_of_ble_eq_true rfl) ?_
  intro p e s m below meth c A ls Q hx hb hml hown hts hK hP hD hS hA hl hQ
  have hl : lv_has ls 1 [(0, .int (nI n))] := hl
  refine lv_iload_n hx hb dX0_placeAt_0 rfl (lv_at hl 0 rfl) ?_
  refine pz_SR (rest := []) ⟨hx, hb, hml, hown, hts⟩ (k_X0_lawNumberAt l D ts n (by omega)) (va_cwS 1 hts gX0_placeAt_X0_lawNumberAt rfl rfl rfl (by decide +kernel) ⟨Nat.le_of_ble_eq_true rfl, Nat.le_of_ble_eq_true rfl⟩) hK hP hD hS hA [] rfl rfl rfl rfl hl.1 rfl (lv_room (Nat.le_of_ble_eq_true rfl)) dX0_placeAt_1 ⟨Nat.le_of_ble_eq_true rfl, Nat.le_of_ble_eq_true rfl⟩ (fun r H locs hr hP hS => ?_)
  obtain rfl : r = (nI (pm_lw n)) := hr
  have hf_2 := pm_lw_b n
  refine lv_sipush (v := nI 365) hx hb dX0_placeAt_4 (by decide) ?_
  refine pn_irem hx hb (by omega) (by omega) (by omega) dX0_placeAt_7 ?_
  refine lv_iconst (v := nI 1) hx hb dX0_placeAt_8 (by decide) ?_
  refine pn_iadd hx hb dX0_placeAt_9 ?_
  exact hQ _ _ _ _ _ dX0_placeAt_10 rfl (congrArg nI (by rfl)) hS
set_option maxHeartbeats 4000000 in
set_option maxRecDepth 100000 in
theorem k_X0_lastDayOfPlace (l : Launch) (D : va_G) (ts : List (ClassId × FieldType)) (y pp : Nat) (hy0 : 1 ≤ y) (hy1 : y ≤ 3001) (hy2 : 1 ≤ pp) (hy3 : pp ≤ 365) : pz_R l yX0_lastDayOfPlace wsX0_lastDayOfPlace ({ frames := 1, cells := 0, slots := 0, locals := 20 } : Room) D ts [.int (nI y), .int (nI pp)] [] (fun r => r = nI (pm_ld y pp)) := by
  refine pz_R_of (cc := cX0_lastDayOfPlace) (maxL := 3) (ty := .int) (own := RX0) (by decide) rfl rfl (Nat.le_of_ble_eq_true rfl) ?_
  intro p e s m below meth c A ls Q hx hb hml hown hts hK hP hD hS hA hl hQ
  have hl : lv_has ls 3 [(0, .int (nI y)), (1, .int (nI pp))] := hl
  refine lv_iload_n hx hb dX0_lastDayOfPlace_0 rfl (lv_at hl 0 rfl) ?_
  refine pz_SR (rest := []) ⟨hx, hb, hml, hown, hts⟩ (k_X0_isLeap l D ts y (by omega)) (va_cwS 1 hts gX0_lastDayOfPlace_X0_isLeap rfl rfl rfl (by decide +kernel) ⟨Nat.le_of_ble_eq_true rfl, Nat.le_of_ble_eq_true rfl⟩) hK hP hD hS hA [] rfl rfl rfl rfl hl.1 rfl (lv_room (Nat.le_of_ble_eq_true rfl)) dX0_lastDayOfPlace_1 ⟨Nat.le_of_ble_eq_true rfl, Nat.le_of_ble_eq_true rfl⟩ (fun r H locs hr hP hS => ?_)
  obtain rfl : r = (pz_b (y % 4 = 0)) := hr
  refine pb_if_eq (tgt := 17) hx hb dX0_lastDayOfPlace_4 (by decide) (fun c_2 => ?_) (fun c_2 => ?_)
  · -- 4 yes
    refine lv_iconst (v := nI 0) hx hb dX0_lastDayOfPlace_17 (by decide) ?_
    refine lv_istore_n (lv' := [(2, .int (nI 0)), (0, .int (nI y)), (1, .int (nI pp))]) hx hb dX0_lastDayOfPlace_18 rfl hl (by decide) rfl (fun ls hl => ?_)
    refine lv_iload_n hx hb dX0_lastDayOfPlace_19 rfl (lv_at hl 1 rfl) ?_
    refine pz_SR (rest := []) ⟨hx, hb, hml, hown, hts⟩ (k_X0_firstDayOf l D ts y (by omega) (by omega)) (va_cwS 1 hts gX0_lastDayOfPlace_X0_firstDayOf rfl rfl rfl (by decide +kernel) ⟨Nat.le_of_ble_eq_true rfl, Nat.le_of_ble_eq_true rfl⟩) hK hP hD hS hA [] rfl rfl rfl rfl hl.1 rfl (lv_room (Nat.le_of_ble_eq_true rfl)) dX0_lastDayOfPlace_20 ⟨Nat.le_of_ble_eq_true rfl, Nat.le_of_ble_eq_true rfl⟩ (fun r H locs hr hP hS => ?_)
    obtain rfl : r = (nI (pm_fd y)) := hr
    have hf_4 := pm_fd_e y
    refine lv_iload_n hx hb dX0_lastDayOfPlace_23 rfl (lv_at hl 2 rfl) ?_
    refine pn_iadd hx hb dX0_lastDayOfPlace_24 ?_
    refine lv_iconst (v := nI 1) hx hb dX0_lastDayOfPlace_25 (by decide) ?_
    refine pn_isub hx hb (by omega) dX0_lastDayOfPlace_26 ?_
    refine lv_iload_n hx hb dX0_lastDayOfPlace_27 rfl (lv_at hl 0 rfl) ?_
    refine pn_if_eq (tgt := 35) hx hb (by omega) dX0_lastDayOfPlace_28 (by decide) (fun _ => ?_) (fun c_5 => absurd c_5 (by decide))
    refine lv_iconst (v := nI 0) hx hb dX0_lastDayOfPlace_35 (by decide) ?_
    refine pn_iadd hx hb dX0_lastDayOfPlace_36 ?_
    exact hQ _ _ _ _ _ dX0_lastDayOfPlace_37 rfl (congrArg nI (by unfold pm_ld; split <;> omega)) hS
  · -- 4 no
    refine lv_iload_n hx hb dX0_lastDayOfPlace_7 rfl (lv_at hl 1 rfl) ?_
    refine lv_bipush (v := nI 55) hx hb dX0_lastDayOfPlace_8 (by decide) ?_
    refine pn_icmp_lt (tgt := 17) hx hb (by omega) (by omega) dX0_lastDayOfPlace_10 (by decide) (fun c_6 => ?_) (fun c_6 => ?_)
    · -- 10 yes
      refine lv_iconst (v := nI 0) hx hb dX0_lastDayOfPlace_17 (by decide) ?_
      refine lv_istore_n (lv' := [(2, .int (nI 0)), (0, .int (nI y)), (1, .int (nI pp))]) hx hb dX0_lastDayOfPlace_18 rfl hl (by decide) rfl (fun ls hl => ?_)
      refine lv_iload_n hx hb dX0_lastDayOfPlace_19 rfl (lv_at hl 1 rfl) ?_
      refine pz_SR (rest := []) ⟨hx, hb, hml, hown, hts⟩ (k_X0_firstDayOf l D ts y (by omega) (by omega)) (va_cwS 1 hts gX0_lastDayOfPlace_X0_firstDayOf rfl rfl rfl (by decide +kernel) ⟨Nat.le_of_ble_eq_true rfl, Nat.le_of_ble_eq_true rfl⟩) hK hP hD hS hA [] rfl rfl rfl rfl hl.1 rfl (lv_room (Nat.le_of_ble_eq_true rfl)) dX0_lastDayOfPlace_20 ⟨Nat.le_of_ble_eq_true rfl, Nat.le_of_ble_eq_true rfl⟩ (fun r H locs hr hP hS => ?_)
      obtain rfl : r = (nI (pm_fd y)) := hr
      have hf_8 := pm_fd_e y
      refine lv_iload_n hx hb dX0_lastDayOfPlace_23 rfl (lv_at hl 2 rfl) ?_
      refine pn_iadd hx hb dX0_lastDayOfPlace_24 ?_
      refine lv_iconst (v := nI 1) hx hb dX0_lastDayOfPlace_25 (by decide) ?_
      refine pn_isub hx hb (by omega) dX0_lastDayOfPlace_26 ?_
      refine lv_iload_n hx hb dX0_lastDayOfPlace_27 rfl (lv_at hl 0 rfl) ?_
      refine pn_if_eq (tgt := 35) hx hb (by omega) dX0_lastDayOfPlace_28 (by decide) (fun _ => ?_) (fun c_9 => absurd c_9 (by decide))
      refine lv_iconst (v := nI 0) hx hb dX0_lastDayOfPlace_35 (by decide) ?_
      refine pn_iadd hx hb dX0_lastDayOfPlace_36 ?_
      exact hQ _ _ _ _ _ dX0_lastDayOfPlace_37 rfl (congrArg nI (by unfold pm_ld; split <;> omega)) hS
    · -- 10 no
      refine lv_iconst (v := nI 1) hx hb dX0_lastDayOfPlace_13 (by decide) ?_
      refine lv_goto (tgt := 18) hx hb dX0_lastDayOfPlace_14 (by decide) ?_
      refine lv_istore_n (lv' := [(2, .int (nI 1)), (0, .int (nI y)), (1, .int (nI pp))]) hx hb dX0_lastDayOfPlace_18 rfl hl (by decide) rfl (fun ls hl => ?_)
      refine lv_iload_n hx hb dX0_lastDayOfPlace_19 rfl (lv_at hl 1 rfl) ?_
      refine pz_SR (rest := []) ⟨hx, hb, hml, hown, hts⟩ (k_X0_firstDayOf l D ts y (by omega) (by omega)) (va_cwS 1 hts gX0_lastDayOfPlace_X0_firstDayOf rfl rfl rfl (by decide +kernel) ⟨Nat.le_of_ble_eq_true rfl, Nat.le_of_ble_eq_true rfl⟩) hK hP hD hS hA [] rfl rfl rfl rfl hl.1 rfl (lv_room (Nat.le_of_ble_eq_true rfl)) dX0_lastDayOfPlace_20 ⟨Nat.le_of_ble_eq_true rfl, Nat.le_of_ble_eq_true rfl⟩ (fun r H locs hr hP hS => ?_)
      obtain rfl : r = (nI (pm_fd y)) := hr
      have hf_11 := pm_fd_e y
      refine lv_iload_n hx hb dX0_lastDayOfPlace_23 rfl (lv_at hl 2 rfl) ?_
      refine pn_iadd hx hb dX0_lastDayOfPlace_24 ?_
      refine lv_iconst (v := nI 1) hx hb dX0_lastDayOfPlace_25 (by decide) ?_
      refine pn_isub hx hb (by omega) dX0_lastDayOfPlace_26 ?_
      refine lv_iload_n hx hb dX0_lastDayOfPlace_27 rfl (lv_at hl 0 rfl) ?_
      refine pn_if_eq (tgt := 35) hx hb (by omega) dX0_lastDayOfPlace_28 (by decide) (fun c_12 => absurd c_12 (by decide)) (fun _ => ?_)
      refine lv_iconst (v := nI 1) hx hb dX0_lastDayOfPlace_31 (by decide) ?_
      refine lv_goto (tgt := 36) hx hb dX0_lastDayOfPlace_32 (by decide) ?_
      refine pn_iadd hx hb dX0_lastDayOfPlace_36 ?_
      exact hQ _ _ _ _ _ dX0_lastDayOfPlace_37 rfl (congrArg nI (by unfold pm_ld; split <;> omega)) hS
set_option maxHeartbeats 4000000 in
set_option maxRecDepth 100000 in
theorem k_X0_monthOfPlace (l : Launch) (D : va_G) (ts : List (ClassId × FieldType)) (q : Nat) (hy0 : q ≤ 366) : pz_R l yX0_monthOfPlace wsX0_monthOfPlace ({ frames := 1, cells := 0, slots := 0, locals := 20 } : Room) D ts [.int (nI q)] [] (fun r => r = nI (pm_mp q)) := by
  refine pz_R_of (cc := cX0_monthOfPlace) (maxL := 3) (ty := .int) (own := RX0) (by decide) rfl rfl (Nat.le_of_ble_eq_true rfl) ?_
  intro p e s m below meth c A ls Q hx hb hml hown hts hK hP hD hS hA hl hQ
  have hl : lv_has ls 3 [(0, .int (nI q))] := hl
  refine lv_iconst (v := nI 1) hx hb dX0_monthOfPlace_0 (by decide) ?_
  refine lv_istore_n (lv' := [(1, .int (nI 1)), (0, .int (nI q))]) hx hb dX0_monthOfPlace_1 rfl hl (by decide) rfl (fun ls hl => ?_)
  refine lv_iload_n hx hb dX0_monthOfPlace_2 rfl (lv_at hl 0 rfl) ?_
  refine pz_SR (rest := []) ⟨hx, hb, hml, hown, hts⟩ (k_X0_commonLengthOf l D ts 1 (by omega)) (va_cwS 1 hts gX0_monthOfPlace_X0_commonLengthOf rfl rfl rfl (by decide +kernel) ⟨Nat.le_of_ble_eq_true rfl, Nat.le_of_ble_eq_true rfl⟩) hK hP hD hS hA [] rfl rfl rfl rfl hl.1 rfl (lv_room (Nat.le_of_ble_eq_true rfl)) dX0_monthOfPlace_3 ⟨Nat.le_of_ble_eq_true rfl, Nat.le_of_ble_eq_true rfl⟩ (fun r H locs hr hP hS => ?_)
  obtain rfl : r = (nI (pm_cl 1)) := hr
  have hf_2 := pm_cl_b 1
  refine lv_istore_n (lv' := [(2, .int (nI (pm_cl 1))), (1, .int (nI 1)), (0, .int (nI q))]) hx hb dX0_monthOfPlace_6 rfl hl (by decide) rfl (fun ls hl => ?_)
  have LP7 : ∀ (N : Nat) (k : Nat) (H : Heap) (locs : List Loc) (ls : Array Slot), 12 - k < N → (1 ≤ k) → (k ≤ pm_mp q) → va_P D vwCl [] H → va_S A s.heap H locs → lv_has ls 3 [(2, .int (nI (pm_cb (k + 1)))), (1, .int (nI k)), (0, .int (nI q))] → W p l e ({ frames := 1, cells := 0, slots := 0, locals := 20 } : Room) s m ([.int (nI q)] : List Value).toArray below meth c H locs 0 0 Q (F0 m 7 ls []) := by
    intro N
    induction N with
    | zero => intro k H locs ls hN; exact absurd hN (Nat.not_lt_zero _)
    | succ N ih =>
      intro k H locs ls hN hi7_0 hi7_1 hP hS hl
      have hb_0 := pm_mp_b q
      have hs_0 := pm_mp_s (p := q) (by omega) hi7_0 (by omega)
      have h8_0 := pm_cb_b (k + 1) (by omega)
      have ih7 := ih
      refine lv_iload_n hx hb dX0_monthOfPlace_7 rfl (lv_at hl 1 rfl) ?_
      refine lv_bipush (v := nI 12) hx hb dX0_monthOfPlace_8 (by decide) ?_
      refine pn_icmp_ge (tgt := 31) hx hb (by omega) (by omega) dX0_monthOfPlace_10 (by decide) (fun c_3 => ?_) (fun c_3 => ?_)
      · -- 10 yes
        refine lv_iload_n hx hb dX0_monthOfPlace_31 rfl (lv_at hl 1 rfl) ?_
        exact hQ _ _ _ _ _ dX0_monthOfPlace_32 rfl (congrArg nI (by omega)) hS
      · -- 10 no
        refine lv_iload_n hx hb dX0_monthOfPlace_13 rfl (lv_at hl 2 rfl) ?_
        refine lv_iload_n hx hb dX0_monthOfPlace_14 rfl (lv_at hl 0 rfl) ?_
        refine pn_icmp_le (tgt := 31) hx hb (by omega) (by omega) dX0_monthOfPlace_15 (by decide) (fun c_4 => ?_) (fun c_4 => ?_)
        · -- 15 yes
          refine lv_iload_n hx hb dX0_monthOfPlace_31 rfl (lv_at hl 1 rfl) ?_
          exact hQ _ _ _ _ _ dX0_monthOfPlace_32 rfl (congrArg nI (by omega)) hS
        · -- 15 no
          refine lv_iinc (v := (nI (k + 1))) (lv' := [(1, .int (nI (k + 1))), (2, .int (nI (pm_cb (k + 1)))), (0, .int (nI q))]) hx hb dX0_monthOfPlace_18 hl (k := 1) rfl (by exact nI_add _ 1) (by decide) rfl (fun ls hl => ?_)
          refine lv_iload_n hx hb dX0_monthOfPlace_21 rfl (lv_at hl 1 rfl) ?_
          refine lv_iload_n hx hb dX0_monthOfPlace_22 rfl (lv_at hl 0 rfl) ?_
          refine pz_SR (rest := [.int (nI (pm_cb (k + 1)))]) ⟨hx, hb, hml, hown, hts⟩ (k_X0_commonLengthOf l D ts (k + 1) (by omega)) (va_cwS 1 hts gX0_monthOfPlace_X0_commonLengthOf rfl rfl rfl (by decide +kernel) ⟨Nat.le_of_ble_eq_true rfl, Nat.le_of_ble_eq_true rfl⟩) hK hP hD hS hA [] rfl rfl rfl rfl hl.1 rfl (lv_room (Nat.le_of_ble_eq_true rfl)) dX0_monthOfPlace_23 ⟨Nat.le_of_ble_eq_true rfl, Nat.le_of_ble_eq_true rfl⟩ (fun r H locs hr hP hS => ?_)
          obtain rfl : r = (nI (pm_cl (k + 1))) := hr
          have hf_6 := pm_cl_b (k + 1)
          have h9_5 := pm_cb_s (m := k + 1) (by omega)
          refine pn_iadd hx hb dX0_monthOfPlace_26 ?_
          refine lv_istore_n (lv' := [(2, .int (nI ((pm_cb (k + 1)) + (pm_cl (k + 1))))), (1, .int (nI (k + 1))), (0, .int (nI q))]) hx hb dX0_monthOfPlace_27 rfl hl (by decide) rfl (fun ls hl => ?_)
          refine lv_goto (tgt := 7) hx hb dX0_monthOfPlace_28 (by decide) ?_
          have hq7 : (pm_cb (k + 1)) + (pm_cl (k + 1)) = pm_cb ((k + 1) + 1) := by first | decide | omega
          exact ih7 (k + 1) _ _ _ (by omega) (by omega) (by first | omega | exact (pm_mp_b q).1) hP hS (by rw [← hq7]; exact lv_sub hl [0, 1, 2] rfl)
  have hq8 : pm_cl 1 = pm_cb (1 + 1) := by first | decide | omega
  exact LP7 _ 1 _ _ _ (Nat.lt_succ_self _) (by omega) (by first | omega | exact (pm_mp_b q).1) hP hS (by rw [← hq8]; exact lv_sub hl [0, 1, 2] rfl)
set_option maxHeartbeats 4000000 in
set_option maxRecDepth 100000 in
theorem k_X0_placeOfAnchor (l : Launch) (D : va_G) (ts : List (ClassId × FieldType)) (mm a : Nat) (hy0 : 1 ≤ mm) (hy1 : mm ≤ 13) (hy2 : a ≤ 2) : pz_R l yX0_placeOfAnchor wsX0_placeOfAnchor ({ frames := 2, cells := 0, slots := 0, locals := 42 } : Room) D ts [.int (nI mm), .int (nI a)] [] (fun r => r = nI (pm_an mm a)) := by
  refine pz_R_of (cc := cX0_placeOfAnchor) (maxL := 4) (ty := .int) (own := RX0) (by decide) rfl rfl (Nat.le_of_ble_eq_true rfl) ?_
  intro p e s m below meth c A ls Q hx hb hml hown hts hK hP hD hS hA hl hQ
  have hl : lv_has ls 4 [(0, .int (nI mm)), (1, .int (nI a))] := hl
  refine lv_iload_n hx hb dX0_placeOfAnchor_0 rfl (lv_at hl 0 rfl) ?_
  refine pz_SR (rest := []) ⟨hx, hb, hml, hown, hts⟩ (k_X0_commonDaysBefore l D ts mm (by omega) (by omega)) (va_cwS 1 hts gX0_placeOfAnchor_X0_commonDaysBefore rfl rfl rfl (by decide +kernel) ⟨Nat.le_of_ble_eq_true rfl, Nat.le_of_ble_eq_true rfl⟩) hK hP hD hS hA [] rfl rfl rfl rfl hl.1 rfl (lv_room (Nat.le_of_ble_eq_true rfl)) dX0_placeOfAnchor_1 ⟨Nat.le_of_ble_eq_true rfl, Nat.le_of_ble_eq_true rfl⟩ (fun r H locs hr hP hS => ?_)
  obtain rfl : r = (nI (pm_cb mm)) := hr
  have hf_2 := pm_cb_b mm (by omega)
  refine lv_istore_n (lv' := [(2, .int (nI (pm_cb mm))), (0, .int (nI mm)), (1, .int (nI a))]) hx hb dX0_placeOfAnchor_4 rfl hl (by decide) rfl (fun ls hl => ?_)
  refine lv_iload_n hx hb dX0_placeOfAnchor_5 rfl (lv_at hl 2 rfl) ?_
  refine pn_if_ne (tgt := 13) hx hb (by omega) dX0_placeOfAnchor_6 (by decide) (fun c_3 => ?_) (fun c_3 => ?_)
  · -- 6 yes
    refine lv_iload_n hx hb dX0_placeOfAnchor_13 rfl (lv_at hl 0 rfl) ?_
    refine lv_iload_n hx hb dX0_placeOfAnchor_14 rfl (lv_at hl 1 rfl) ?_
    refine pz_SR (rest := [.int (nI (pm_cb mm))]) ⟨hx, hb, hml, hown, hts⟩ (k_X0_nonesDayOf l D ts mm (by omega)) (va_cwS 1 hts gX0_placeOfAnchor_X0_nonesDayOf rfl rfl rfl (by decide +kernel) ⟨Nat.le_of_ble_eq_true rfl, Nat.le_of_ble_eq_true rfl⟩) hK hP hD hS hA [] rfl rfl rfl rfl hl.1 rfl (lv_room (Nat.le_of_ble_eq_true rfl)) dX0_placeOfAnchor_15 ⟨Nat.le_of_ble_eq_true rfl, Nat.le_of_ble_eq_true rfl⟩ (fun r H locs hr hP hS => ?_)
    obtain rfl : r = (nI (pm_nn mm)) := hr
    have hf_5 := pm_nn_b mm
    refine pn_iadd hx hb dX0_placeOfAnchor_18 ?_
    refine lv_istore_n (lv' := [(3, .int (nI ((pm_cb mm) + (pm_nn mm)))), (2, .int (nI (pm_cb mm))), (0, .int (nI mm)), (1, .int (nI a))]) hx hb dX0_placeOfAnchor_19 rfl hl (by decide) rfl (fun ls hl => ?_)
    refine lv_iload_n hx hb dX0_placeOfAnchor_20 rfl (lv_at hl 3 rfl) ?_
    refine lv_iconst (v := nI 1) hx hb dX0_placeOfAnchor_21 (by decide) ?_
    refine pn_icmp_ne (tgt := 29) hx hb (by omega) (by omega) dX0_placeOfAnchor_22 (by decide) (fun c_6 => ?_) (fun c_6 => ?_)
    · -- 22 yes
      refine lv_iload_n hx hb dX0_placeOfAnchor_29 rfl (lv_at hl 0 rfl) ?_
      refine lv_bipush (v := nI 8) hx hb dX0_placeOfAnchor_30 (by decide) ?_
      refine pn_iadd hx hb dX0_placeOfAnchor_32 ?_
      exact hQ _ _ _ _ _ dX0_placeOfAnchor_33 rfl (congrArg nI (by unfold pm_an; (repeat' split) <;> omega)) hS
    · -- 22 no
      refine lv_iload_n hx hb dX0_placeOfAnchor_25 rfl (lv_at hl 0 rfl) ?_
      refine lv_goto (tgt := 33) hx hb dX0_placeOfAnchor_26 (by decide) ?_
      exact hQ _ _ _ _ _ dX0_placeOfAnchor_33 rfl (congrArg nI (by unfold pm_an; (repeat' split) <;> omega)) hS
  · -- 6 no
    refine lv_iload_n hx hb dX0_placeOfAnchor_9 rfl (lv_at hl 0 rfl) ?_
    refine lv_iconst (v := nI 1) hx hb dX0_placeOfAnchor_10 (by decide) ?_
    refine pn_iadd hx hb dX0_placeOfAnchor_11 ?_
    exact hQ _ _ _ _ _ dX0_placeOfAnchor_12 rfl (congrArg nI (by unfold pm_an; (repeat' split) <;> omega)) hS
set_option maxHeartbeats 4000000 in
set_option maxRecDepth 100000 in
theorem k_X0_isBehindIdes (l : Launch) (D : va_G) (ts : List (ClassId × FieldType)) (q : Nat) (hy0 : q ≤ 366) : pz_R l yX0_isBehindIdes wsX0_isBehindIdes ({ frames := 3, cells := 0, slots := 0, locals := 65 } : Room) D ts [.int (nI q)] [] (fun r => r = pz_b (pm_an (pm_mp q) 2 < q)) := by
  refine pz_R_of (cc := cX0_isBehindIdes) (maxL := 1) (ty := .boolean) (own := RX0) (by decide) rfl rfl (Nat.le_of_ble_eq_true rfl) ?_
  intro p e s m below meth c A ls Q hx hb hml hown hts hK hP hD hS hA hl hQ
  have hl : lv_has ls 1 [(0, .int (nI q))] := hl
  refine lv_iload_n hx hb dX0_isBehindIdes_0 rfl (lv_at hl 0 rfl) ?_
  refine lv_iload_n hx hb dX0_isBehindIdes_1 rfl (lv_at hl 0 rfl) ?_
  refine pz_SR (rest := [.int (nI q)]) ⟨hx, hb, hml, hown, hts⟩ (k_X0_monthOfPlace l D ts q (by omega)) (va_cwS 1 hts gX0_isBehindIdes_X0_monthOfPlace rfl rfl rfl (by decide +kernel) ⟨Nat.le_of_ble_eq_true rfl, Nat.le_of_ble_eq_true rfl⟩) hK hP hD hS hA [] rfl rfl rfl rfl hl.1 rfl (lv_room (Nat.le_of_ble_eq_true rfl)) dX0_isBehindIdes_2 ⟨Nat.le_of_ble_eq_true rfl, Nat.le_of_ble_eq_true rfl⟩ (fun r H locs hr hP hS => ?_)
  obtain rfl : r = (nI (pm_mp q)) := hr
  have hf_2 := pm_mp_b q
  refine lv_iconst (v := nI 2) hx hb dX0_isBehindIdes_5 (by decide) ?_
  refine pz_SR (rest := [.int (nI q)]) ⟨hx, hb, hml, hown, hts⟩ (k_X0_placeOfAnchor l D ts (pm_mp q) 2 (by omega) (by omega) (by omega)) (va_cwS 2 hts gX0_isBehindIdes_X0_placeOfAnchor rfl rfl rfl (by decide +kernel) ⟨Nat.le_of_ble_eq_true rfl, Nat.le_of_ble_eq_true rfl⟩) hK hP hD hS hA [] rfl rfl rfl rfl hl.1 rfl (lv_room (Nat.le_of_ble_eq_true rfl)) dX0_isBehindIdes_6 ⟨Nat.le_of_ble_eq_true rfl, Nat.le_of_ble_eq_true rfl⟩ (fun r H locs hr hP hS => ?_)
  obtain rfl : r = (nI (pm_an (pm_mp q) 2)) := hr
  have hf_4 := pm_an_b (pm_mp q) 2 (by omega)
  have hf_5 := pm_cb_b (pm_mp q) (by omega)
  refine pn_icmp_le (tgt := 16) hx hb (by omega) (by omega) dX0_isBehindIdes_9 (by decide) (fun c_6 => ?_) (fun c_6 => ?_)
  · -- 9 yes
    refine lv_iconst (v := nI 0) hx hb dX0_isBehindIdes_16 (by decide) ?_
    exact hQ _ _ _ _ _ dX0_isBehindIdes_17 (by decide) (pz_bf (by omega)) hS
  · -- 9 no
    refine lv_iconst (v := nI 1) hx hb dX0_isBehindIdes_12 (by decide) ?_
    refine lv_goto (tgt := 17) hx hb dX0_isBehindIdes_13 (by decide) ?_
    exact hQ _ _ _ _ _ dX0_isBehindIdes_17 (by decide) (pz_bt (by omega)) hS
set_option maxHeartbeats 4000000 in
set_option maxRecDepth 100000 in
theorem k_X0_anchorOfPlace (l : Launch) (D : va_G) (ts : List (ClassId × FieldType)) (q : Nat) (hy0 : q ≤ 366) : pz_R l yX0_anchorOfPlace wsX0_anchorOfPlace ({ frames := 4, cells := 0, slots := 0, locals := 85 } : Room) D ts [.int (nI q)] [] (fun r => r = nI (pm_ap q)) := by
  refine pz_R_of (cc := cX0_anchorOfPlace) (maxL := 2) (ty := .int) (own := RX0) (by decide) rfl rfl (Nat.le_of_ble_eq_true rfl) ?_
  intro p e s m below meth c A ls Q hx hb hml hown hts hK hP hD hS hA hl hQ
  have hl : lv_has ls 2 [(0, .int (nI q))] := hl
  refine lv_iload_n hx hb dX0_anchorOfPlace_0 rfl (lv_at hl 0 rfl) ?_
  refine pz_SR (rest := []) ⟨hx, hb, hml, hown, hts⟩ (k_X0_monthOfPlace l D ts q (by omega)) (va_cwS 1 hts gX0_anchorOfPlace_X0_monthOfPlace rfl rfl rfl (by decide +kernel) ⟨Nat.le_of_ble_eq_true rfl, Nat.le_of_ble_eq_true rfl⟩) hK hP hD hS hA [] rfl rfl rfl rfl hl.1 rfl (lv_room (Nat.le_of_ble_eq_true rfl)) dX0_anchorOfPlace_1 ⟨Nat.le_of_ble_eq_true rfl, Nat.le_of_ble_eq_true rfl⟩ (fun r H locs hr hP hS => ?_)
  obtain rfl : r = (nI (pm_mp q)) := hr
  have hf_2 := pm_mp_b q
  refine lv_istore_n (lv' := [(1, .int (nI (pm_mp q))), (0, .int (nI q))]) hx hb dX0_anchorOfPlace_4 rfl hl (by decide) rfl (fun ls hl => ?_)
  refine lv_iload_n hx hb dX0_anchorOfPlace_5 rfl (lv_at hl 1 rfl) ?_
  refine lv_iload_n hx hb dX0_anchorOfPlace_6 rfl (lv_at hl 0 rfl) ?_
  refine lv_iconst (v := nI 0) hx hb dX0_anchorOfPlace_7 (by decide) ?_
  refine pz_SR (rest := [.int (nI q)]) ⟨hx, hb, hml, hown, hts⟩ (k_X0_placeOfAnchor l D ts (pm_mp q) 0 (by omega) (by omega) (by omega)) (va_cwS 2 hts gX0_anchorOfPlace_X0_placeOfAnchor rfl rfl rfl (by decide +kernel) ⟨Nat.le_of_ble_eq_true rfl, Nat.le_of_ble_eq_true rfl⟩) hK hP hD hS hA [] rfl rfl rfl rfl hl.1 rfl (lv_room (Nat.le_of_ble_eq_true rfl)) dX0_anchorOfPlace_8 ⟨Nat.le_of_ble_eq_true rfl, Nat.le_of_ble_eq_true rfl⟩ (fun r H locs hr hP hS => ?_)
  obtain rfl : r = (nI (pm_an (pm_mp q) 0)) := hr
  have hf_4 := pm_an_b (pm_mp q) 0 (by omega)
  have hf_5 := pm_cb_b (pm_mp q) (by omega)
  refine pn_icmp_eq (tgt := 21) hx hb (by omega) (by omega) dX0_anchorOfPlace_11 (by decide) (fun c_6 => ?_) (fun c_6 => ?_)
  · -- 11 yes
    refine lv_iconst (v := nI 0) hx hb dX0_anchorOfPlace_21 (by decide) ?_
    exact hQ _ _ _ _ _ dX0_anchorOfPlace_22 rfl (congrArg nI (by unfold pm_ap; (repeat' split) <;> omega)) hS
  · -- 11 no
    refine lv_iload_n hx hb dX0_anchorOfPlace_14 rfl (lv_at hl 1 rfl) ?_
    refine pz_SR (rest := []) ⟨hx, hb, hml, hown, hts⟩ (k_X0_isBehindIdes l D ts q (by omega)) (va_cwS 1 hts gX0_anchorOfPlace_X0_isBehindIdes rfl rfl rfl (by decide +kernel) ⟨Nat.le_of_ble_eq_true rfl, Nat.le_of_ble_eq_true rfl⟩) hK hP hD hS hA [] rfl rfl rfl rfl hl.1 rfl (lv_room (Nat.le_of_ble_eq_true rfl)) dX0_anchorOfPlace_15 ⟨Nat.le_of_ble_eq_true rfl, Nat.le_of_ble_eq_true rfl⟩ (fun r H locs hr hP hS => ?_)
    obtain rfl : r = (pz_b (pm_an (pm_mp q) 2 < q)) := hr
    refine pb_if_eq (tgt := 23) hx hb dX0_anchorOfPlace_18 (by decide) (fun c_8 => ?_) (fun c_8 => ?_)
    · -- 18 yes
      refine lv_iload_n hx hb dX0_anchorOfPlace_23 rfl (lv_at hl 1 rfl) ?_
      refine lv_iload_n hx hb dX0_anchorOfPlace_24 rfl (lv_at hl 0 rfl) ?_
      refine lv_iconst (v := nI 1) hx hb dX0_anchorOfPlace_25 (by decide) ?_
      refine pz_SR (rest := [.int (nI q)]) ⟨hx, hb, hml, hown, hts⟩ (k_X0_placeOfAnchor l D ts (pm_mp q) 1 (by omega) (by omega) (by omega)) (va_cwS 2 hts gX0_anchorOfPlace_X0_placeOfAnchor rfl rfl rfl (by decide +kernel) ⟨Nat.le_of_ble_eq_true rfl, Nat.le_of_ble_eq_true rfl⟩) hK hP hD hS hA [] rfl rfl rfl rfl hl.1 rfl (lv_room (Nat.le_of_ble_eq_true rfl)) dX0_anchorOfPlace_26 ⟨Nat.le_of_ble_eq_true rfl, Nat.le_of_ble_eq_true rfl⟩ (fun r H locs hr hP hS => ?_)
      obtain rfl : r = (nI (pm_an (pm_mp q) 1)) := hr
      have hf_10 := pm_an_b (pm_mp q) 1 (by omega)
      have hf_11 := pm_cb_b (pm_mp q) (by omega)
      refine pn_icmp_gt (tgt := 36) hx hb (by omega) (by omega) dX0_anchorOfPlace_29 (by decide) (fun c_12 => ?_) (fun c_12 => ?_)
      · -- 29 yes
        refine lv_iconst (v := nI 2) hx hb dX0_anchorOfPlace_36 (by decide) ?_
        exact hQ _ _ _ _ _ dX0_anchorOfPlace_37 rfl (congrArg nI (by unfold pm_ap; (repeat' split) <;> omega)) hS
      · -- 29 no
        refine lv_iconst (v := nI 1) hx hb dX0_anchorOfPlace_32 (by decide) ?_
        refine lv_goto (tgt := 37) hx hb dX0_anchorOfPlace_33 (by decide) ?_
        exact hQ _ _ _ _ _ dX0_anchorOfPlace_37 rfl (congrArg nI (by unfold pm_ap; (repeat' split) <;> omega)) hS
    · -- 18 no
      refine lv_iconst (v := nI 0) hx hb dX0_anchorOfPlace_21 (by decide) ?_
      exact hQ _ _ _ _ _ dX0_anchorOfPlace_22 rfl (congrArg nI (by unfold pm_ap; (repeat' split) <;> omega)) hS
set_option maxHeartbeats 4000000 in
set_option maxRecDepth 100000 in
theorem k_X0_greatestCountTo (l : Launch) (D : va_G) (ts : List (ClassId × FieldType)) (mm a : Nat) (hy0 : 1 ≤ mm) (hy1 : mm ≤ 12) (hy2 : a ≤ 2) : pz_R l yX0_greatestCountTo wsX0_greatestCountTo ({ frames := 1, cells := 0, slots := 0, locals := 20 } : Room) D ts [.int (nI mm), .int (nI a)] [] (fun r => r = nI (pm_gc mm a)) := by
  refine pz_R_of (cc := cX0_greatestCountTo) (maxL := 4) (ty := .int) (own := RX0) (by decide) rfl rfl (Nat.le_of_ble_eq_true rfl) ?_
  intro p e s m below meth c A ls Q hx hb hml hown hts hK hP hD hS hA hl hQ
  have hl : lv_has ls 4 [(0, .int (nI mm)), (1, .int (nI a))] := hl
  refine lv_iload_n hx hb dX0_greatestCountTo_0 rfl (lv_at hl 1 rfl) ?_
  refine lv_iconst (v := nI 2) hx hb dX0_greatestCountTo_1 (by decide) ?_
  refine pn_icmp_ne (tgt := 8) hx hb (by omega) (by omega) dX0_greatestCountTo_2 (by decide) (fun c_1 => ?_) (fun c_1 => ?_)
  · -- 2 yes
    refine lv_iload_n hx hb dX0_greatestCountTo_8 rfl (lv_at hl 1 rfl) ?_
    refine lv_iconst (v := nI 1) hx hb dX0_greatestCountTo_9 (by decide) ?_
    refine pn_icmp_ne (tgt := 20) hx hb (by omega) (by omega) dX0_greatestCountTo_10 (by decide) (fun c_2 => ?_) (fun c_2 => ?_)
    · -- 10 yes
      refine lv_iload_n hx hb dX0_greatestCountTo_20 rfl (lv_at hl 0 rfl) ?_
      refine lv_iconst (v := nI 1) hx hb dX0_greatestCountTo_21 (by decide) ?_
      refine pn_icmp_ne (tgt := 30) hx hb (by omega) (by omega) dX0_greatestCountTo_22 (by decide) (fun c_3 => ?_) (fun c_3 => ?_)
      · -- 22 yes
        refine lv_iload_n hx hb dX0_greatestCountTo_30 rfl (lv_at hl 0 rfl) ?_
        refine lv_iconst (v := nI 1) hx hb dX0_greatestCountTo_31 (by decide) ?_
        refine pn_isub hx hb (by omega) dX0_greatestCountTo_32 ?_
        refine lv_istore_n (lv' := [(2, .int (nI (mm - 1))), (0, .int (nI mm)), (1, .int (nI a))]) hx hb dX0_greatestCountTo_33 rfl hl (by decide) rfl (fun ls hl => ?_)
        refine lv_iload_n hx hb dX0_greatestCountTo_34 rfl (lv_at hl 0 rfl) ?_
        refine pz_SR (rest := []) ⟨hx, hb, hml, hown, hts⟩ (k_X0_nonesDayOf l D ts (mm - 1) (by omega)) (va_cwS 1 hts gX0_greatestCountTo_X0_nonesDayOf rfl rfl rfl (by decide +kernel) ⟨Nat.le_of_ble_eq_true rfl, Nat.le_of_ble_eq_true rfl⟩) hK hP hD hS hA [] rfl rfl rfl rfl hl.1 rfl (lv_room (Nat.le_of_ble_eq_true rfl)) dX0_greatestCountTo_35 ⟨Nat.le_of_ble_eq_true rfl, Nat.le_of_ble_eq_true rfl⟩ (fun r H locs hr hP hS => ?_)
        obtain rfl : r = (nI (pm_nn (mm - 1))) := hr
        have hf_5 := pm_nn_b (mm - 1)
        refine lv_bipush (v := nI 8) hx hb dX0_greatestCountTo_38 (by decide) ?_
        refine pn_iadd hx hb dX0_greatestCountTo_40 ?_
        refine lv_istore_n (lv' := [(3, .int (nI ((pm_nn (mm - 1)) + 8))), (2, .int (nI (mm - 1))), (0, .int (nI mm)), (1, .int (nI a))]) hx hb dX0_greatestCountTo_41 rfl hl (by decide) rfl (fun ls hl => ?_)
        refine lv_iload_n hx hb dX0_greatestCountTo_42 rfl (lv_at hl 1 rfl) ?_
        refine pz_SR (rest := []) ⟨hx, hb, hml, hown, hts⟩ (k_X0_commonLengthOf l D ts (mm - 1) (by omega)) (va_cwS 1 hts gX0_greatestCountTo_X0_commonLengthOf rfl rfl rfl (by decide +kernel) ⟨Nat.le_of_ble_eq_true rfl, Nat.le_of_ble_eq_true rfl⟩) hK hP hD hS hA [] rfl rfl rfl rfl hl.1 rfl (lv_room (Nat.le_of_ble_eq_true rfl)) dX0_greatestCountTo_43 ⟨Nat.le_of_ble_eq_true rfl, Nat.le_of_ble_eq_true rfl⟩ (fun r H locs hr hP hS => ?_)
        obtain rfl : r = (nI (pm_cl (mm - 1))) := hr
        have hf_7 := pm_cl_b (mm - 1)
        refine lv_iload_n hx hb dX0_greatestCountTo_46 rfl (lv_at hl 0 rfl) ?_
        refine pn_isub hx hb (by omega) dX0_greatestCountTo_47 ?_
        refine lv_iconst (v := nI 1) hx hb dX0_greatestCountTo_48 (by decide) ?_
        refine pn_iadd hx hb dX0_greatestCountTo_49 ?_
        exact hQ _ _ _ _ _ dX0_greatestCountTo_50 rfl (congrArg nI (by unfold pm_gc; simp_all)) hS
      · -- 22 no
        refine lv_bipush (v := nI 12) hx hb dX0_greatestCountTo_25 (by decide) ?_
        refine lv_goto (tgt := 33) hx hb dX0_greatestCountTo_27 (by decide) ?_
        refine lv_istore_n (lv' := [(2, .int (nI 12)), (0, .int (nI mm)), (1, .int (nI a))]) hx hb dX0_greatestCountTo_33 rfl hl (by decide) rfl (fun ls hl => ?_)
        refine lv_iload_n hx hb dX0_greatestCountTo_34 rfl (lv_at hl 0 rfl) ?_
        refine pz_SR (rest := []) ⟨hx, hb, hml, hown, hts⟩ (k_X0_nonesDayOf l D ts 12 (by omega)) (va_cwS 1 hts gX0_greatestCountTo_X0_nonesDayOf rfl rfl rfl (by decide +kernel) ⟨Nat.le_of_ble_eq_true rfl, Nat.le_of_ble_eq_true rfl⟩) hK hP hD hS hA [] rfl rfl rfl rfl hl.1 rfl (lv_room (Nat.le_of_ble_eq_true rfl)) dX0_greatestCountTo_35 ⟨Nat.le_of_ble_eq_true rfl, Nat.le_of_ble_eq_true rfl⟩ (fun r H locs hr hP hS => ?_)
        obtain rfl : r = (nI (pm_nn 12)) := hr
        have hf_9 := pm_nn_b 12
        refine lv_bipush (v := nI 8) hx hb dX0_greatestCountTo_38 (by decide) ?_
        refine pn_iadd hx hb dX0_greatestCountTo_40 ?_
        refine lv_istore_n (lv' := [(3, .int (nI ((pm_nn 12) + 8))), (2, .int (nI 12)), (0, .int (nI mm)), (1, .int (nI a))]) hx hb dX0_greatestCountTo_41 rfl hl (by decide) rfl (fun ls hl => ?_)
        refine lv_iload_n hx hb dX0_greatestCountTo_42 rfl (lv_at hl 1 rfl) ?_
        refine pz_SR (rest := []) ⟨hx, hb, hml, hown, hts⟩ (k_X0_commonLengthOf l D ts 12 (by omega)) (va_cwS 1 hts gX0_greatestCountTo_X0_commonLengthOf rfl rfl rfl (by decide +kernel) ⟨Nat.le_of_ble_eq_true rfl, Nat.le_of_ble_eq_true rfl⟩) hK hP hD hS hA [] rfl rfl rfl rfl hl.1 rfl (lv_room (Nat.le_of_ble_eq_true rfl)) dX0_greatestCountTo_43 ⟨Nat.le_of_ble_eq_true rfl, Nat.le_of_ble_eq_true rfl⟩ (fun r H locs hr hP hS => ?_)
        obtain rfl : r = (nI (pm_cl 12)) := hr
        have hf_11 := pm_cl_b 12
        refine lv_iload_n hx hb dX0_greatestCountTo_46 rfl (lv_at hl 0 rfl) ?_
        refine pn_isub hx hb (by omega) dX0_greatestCountTo_47 ?_
        refine lv_iconst (v := nI 1) hx hb dX0_greatestCountTo_48 (by decide) ?_
        refine pn_iadd hx hb dX0_greatestCountTo_49 ?_
        exact hQ _ _ _ _ _ dX0_greatestCountTo_50 rfl (congrArg nI (by unfold pm_gc; simp_all)) hS
    · -- 10 no
      refine lv_iload_n hx hb dX0_greatestCountTo_13 rfl (lv_at hl 0 rfl) ?_
      refine pz_SR (rest := []) ⟨hx, hb, hml, hown, hts⟩ (k_X0_nonesDayOf l D ts mm (by omega)) (va_cwS 1 hts gX0_greatestCountTo_X0_nonesDayOf rfl rfl rfl (by decide +kernel) ⟨Nat.le_of_ble_eq_true rfl, Nat.le_of_ble_eq_true rfl⟩) hK hP hD hS hA [] rfl rfl rfl rfl hl.1 rfl (lv_room (Nat.le_of_ble_eq_true rfl)) dX0_greatestCountTo_14 ⟨Nat.le_of_ble_eq_true rfl, Nat.le_of_ble_eq_true rfl⟩ (fun r H locs hr hP hS => ?_)
      obtain rfl : r = (nI (pm_nn mm)) := hr
      have hf_13 := pm_nn_b mm
      refine lv_iconst (v := nI 1) hx hb dX0_greatestCountTo_17 (by decide) ?_
      refine pn_isub hx hb (by omega) dX0_greatestCountTo_18 ?_
      exact hQ _ _ _ _ _ dX0_greatestCountTo_19 rfl (congrArg nI (by unfold pm_gc; simp_all)) hS
  · -- 2 no
    refine lv_bipush (v := nI 8) hx hb dX0_greatestCountTo_5 (by decide) ?_
    exact hQ _ _ _ _ _ dX0_greatestCountTo_7 rfl (congrArg nI (by unfold pm_gc; simp_all)) hS
set_option maxHeartbeats 4000000 in
set_option maxRecDepth 100000 in
theorem k_X0_isToldAsDoubled (l : Launch) (D : va_G) (ts : List (ClassId × FieldType)) (y mm a k : Nat) (hy0 : y ≤ 4000) (hy1 : mm ≤ 13) (hy2 : a ≤ 2) (hy3 : k < 2147483648) : pz_R l yX0_isToldAsDoubled wsX0_isToldAsDoubled ({ frames := 1, cells := 0, slots := 0, locals := 20 } : Room) D ts [.int (nI y), .int (nI mm), .int (nI a), .int (nI k)] [] (fun r => r = pz_b (y % 4 = 0 ∧ mm = 3 ∧ a = 0 ∧ k = 6)) := by
  refine pz_R_of (cc := cX0_isToldAsDoubled) (maxL := 4) (ty := .boolean) (own := RX0) (by decide) rfl rfl (Nat.le_of_ble_eq_true rfl) ?_
  intro p e s m below meth c A ls Q hx hb hml hown hts hK hP hD hS hA hl hQ
  have hl : lv_has ls 4 [(0, .int (nI y)), (1, .int (nI mm)), (2, .int (nI a)), (3, .int (nI k))] := hl
  refine lv_iload_n hx hb dX0_isToldAsDoubled_0 rfl (lv_at hl 0 rfl) ?_
  refine pz_SR (rest := []) ⟨hx, hb, hml, hown, hts⟩ (k_X0_isLeap l D ts y (by omega)) (va_cwS 1 hts gX0_isToldAsDoubled_X0_isLeap rfl rfl rfl (by decide +kernel) ⟨Nat.le_of_ble_eq_true rfl, Nat.le_of_ble_eq_true rfl⟩) hK hP hD hS hA [] rfl rfl rfl rfl hl.1 rfl (lv_room (Nat.le_of_ble_eq_true rfl)) dX0_isToldAsDoubled_1 ⟨Nat.le_of_ble_eq_true rfl, Nat.le_of_ble_eq_true rfl⟩ (fun r H locs hr hP hS => ?_)
  obtain rfl : r = (pz_b (y % 4 = 0)) := hr
  refine pb_if_eq (tgt := 26) hx hb dX0_isToldAsDoubled_4 (by decide) (fun c_2 => ?_) (fun c_2 => ?_)
  · -- 4 yes
    refine lv_iconst (v := nI 0) hx hb dX0_isToldAsDoubled_26 (by decide) ?_
    exact hQ _ _ _ _ _ dX0_isToldAsDoubled_27 (by decide) (pz_bf (by omega)) hS
  · -- 4 no
    refine lv_iload_n hx hb dX0_isToldAsDoubled_7 rfl (lv_at hl 1 rfl) ?_
    refine lv_iconst (v := nI 3) hx hb dX0_isToldAsDoubled_8 (by decide) ?_
    refine pn_icmp_ne (tgt := 26) hx hb (by omega) (by omega) dX0_isToldAsDoubled_9 (by decide) (fun c_3 => ?_) (fun c_3 => ?_)
    · -- 9 yes
      refine lv_iconst (v := nI 0) hx hb dX0_isToldAsDoubled_26 (by decide) ?_
      exact hQ _ _ _ _ _ dX0_isToldAsDoubled_27 (by decide) (pz_bf (by omega)) hS
    · -- 9 no
      refine lv_iload_n hx hb dX0_isToldAsDoubled_12 rfl (lv_at hl 2 rfl) ?_
      refine pn_if_ne (tgt := 26) hx hb (by omega) dX0_isToldAsDoubled_13 (by decide) (fun c_4 => ?_) (fun c_4 => ?_)
      · -- 13 yes
        refine lv_iconst (v := nI 0) hx hb dX0_isToldAsDoubled_26 (by decide) ?_
        exact hQ _ _ _ _ _ dX0_isToldAsDoubled_27 (by decide) (pz_bf (by omega)) hS
      · -- 13 no
        refine lv_iload_n hx hb dX0_isToldAsDoubled_16 rfl (lv_at hl 3 rfl) ?_
        refine lv_bipush (v := nI 6) hx hb dX0_isToldAsDoubled_17 (by decide) ?_
        refine pn_icmp_ne (tgt := 26) hx hb (by omega) (by omega) dX0_isToldAsDoubled_19 (by decide) (fun c_5 => ?_) (fun c_5 => ?_)
        · -- 19 yes
          refine lv_iconst (v := nI 0) hx hb dX0_isToldAsDoubled_26 (by decide) ?_
          exact hQ _ _ _ _ _ dX0_isToldAsDoubled_27 (by decide) (pz_bf (by omega)) hS
        · -- 19 no
          refine lv_iconst (v := nI 1) hx hb dX0_isToldAsDoubled_22 (by decide) ?_
          refine lv_goto (tgt := 27) hx hb dX0_isToldAsDoubled_23 (by decide) ?_
          exact hQ _ _ _ _ _ dX0_isToldAsDoubled_27 (by decide) (pz_bt (by omega)) hS
set_option maxHeartbeats 4000000 in
set_option maxRecDepth 100000 in
theorem k_X0_eightLetterAt (l : Launch) (D : va_G) (ts : List (ClassId × FieldType)) (n : Nat) (hy0 : n < 1095751) : pz_R l yX0_eightLetterAt wsX0_eightLetterAt ({ frames := 3, cells := 0, slots := 0, locals := 60 } : Room) D ts [.int (nI n)] [] (fun r => r = nI ((pm_pl n - 1) % 8)) := by
  refine pz_R_of (cc := cX0_eightLetterAt) (maxL := 1) (ty := .int) (own := RX0) (by decide) rfl rfl (Nat.le_of_ble_eq_true rfl) ?_
  intro p e s m below meth c A ls Q hx hb hml hown hts hK hP hD hS hA hl hQ
  have hl : lv_has ls 1 [(0, .int (nI n))] := hl
  refine lv_iload_n hx hb dX0_eightLetterAt_0 rfl (lv_at hl 0 rfl) ?_
  refine pz_SR (rest := []) ⟨hx, hb, hml, hown, hts⟩ (k_X0_placeAt l D ts n (by omega)) (va_cwS 1 hts gX0_eightLetterAt_X0_placeAt rfl rfl rfl (by decide +kernel) ⟨Nat.le_of_ble_eq_true rfl, Nat.le_of_ble_eq_true rfl⟩) hK hP hD hS hA [] rfl rfl rfl rfl hl.1 rfl (lv_room (Nat.le_of_ble_eq_true rfl)) dX0_eightLetterAt_1 ⟨Nat.le_of_ble_eq_true rfl, Nat.le_of_ble_eq_true rfl⟩ (fun r H locs hr hP hS => ?_)
  obtain rfl : r = (nI (pm_pl n)) := hr
  have hf_2 := pm_pl_b n
  refine lv_iconst (v := nI 1) hx hb dX0_eightLetterAt_4 (by decide) ?_
  refine pn_isub hx hb (by omega) dX0_eightLetterAt_5 ?_
  refine lv_bipush (v := nI 8) hx hb dX0_eightLetterAt_6 (by decide) ?_
  refine pn_irem hx hb (by omega) (by omega) (by omega) dX0_eightLetterAt_8 ?_
  exact hQ _ _ _ _ _ dX0_eightLetterAt_9 rfl (congrArg nI (by rfl)) hS
set_option maxHeartbeats 4000000 in
set_option maxRecDepth 100000 in
theorem k_X0_sevenLetterAt (l : Launch) (D : va_G) (ts : List (ClassId × FieldType)) (n : Nat) (hy0 : n < 1095751) : pz_R l yX0_sevenLetterAt wsX0_sevenLetterAt ({ frames := 3, cells := 0, slots := 0, locals := 60 } : Room) D ts [.int (nI n)] [] (fun r => r = nI ((pm_pl n - 1) % 7)) := by
  refine pz_R_of (cc := cX0_sevenLetterAt) (maxL := 1) (ty := .int) (own := RX0) (by decide) rfl rfl (Nat.le_of_ble_eq_true rfl) ?_
  intro p e s m below meth c A ls Q hx hb hml hown hts hK hP hD hS hA hl hQ
  have hl : lv_has ls 1 [(0, .int (nI n))] := hl
  refine lv_iload_n hx hb dX0_sevenLetterAt_0 rfl (lv_at hl 0 rfl) ?_
  refine pz_SR (rest := []) ⟨hx, hb, hml, hown, hts⟩ (k_X0_placeAt l D ts n (by omega)) (va_cwS 1 hts gX0_sevenLetterAt_X0_placeAt rfl rfl rfl (by decide +kernel) ⟨Nat.le_of_ble_eq_true rfl, Nat.le_of_ble_eq_true rfl⟩) hK hP hD hS hA [] rfl rfl rfl rfl hl.1 rfl (lv_room (Nat.le_of_ble_eq_true rfl)) dX0_sevenLetterAt_1 ⟨Nat.le_of_ble_eq_true rfl, Nat.le_of_ble_eq_true rfl⟩ (fun r H locs hr hP hS => ?_)
  obtain rfl : r = (nI (pm_pl n)) := hr
  have hf_2 := pm_pl_b n
  refine lv_iconst (v := nI 1) hx hb dX0_sevenLetterAt_4 (by decide) ?_
  refine pn_isub hx hb (by omega) dX0_sevenLetterAt_5 ?_
  refine lv_bipush (v := nI 7) hx hb dX0_sevenLetterAt_6 (by decide) ?_
  refine pn_irem hx hb (by omega) (by omega) (by omega) dX0_sevenLetterAt_8 ?_
  exact hQ _ _ _ _ _ dX0_sevenLetterAt_9 rfl (congrArg nI (by rfl)) hS
end PZ1
end
section
/-! ===== what throws: one contract for a method that throws E and changes nothing ===== -/
section PZX
variable {p : Program} {l : Launch} {e : Env} {R : Room} {s : State} {m : MethodId} {args : Array Value} {below : List Frame} {meth : Method} {c : Code} {H : Heap} {locs : List Loc} {cells slots : Nat} {Q : State → Prop}
variable {cc : ByteArray} {pc : Nat} {ls : Array Slot} {rest : List Value}
abbrev pz_ns : List String := ["java/lang/RuntimeException", "java/lang/Exception"]
def pz_strs : List (Nat × String) := [(77, "count is below 1"), (87, "no day has this count"), (94, "no doubled day is told so"), (103, "days is out of range"), (106, "the term ends behind the last day"), (128, "these can't be two consuls"), (136, "too many other years have consuls"), (142, "the year has no consuls"), (144, "time is below 1"), (155, "no such place"), (158, "no such character"), (169, "no such year"), (171, "no such month"), (173, "no such day"), (175, "no such day number"), (177, "no such anchor")]
def pz_exs : List String := ["java/lang/IndexOutOfBoundsException", "java/lang/IllegalArgumentException", "java/lang/IllegalStateException"]
def pz_ST (U : State) : Prop := (∀ q ∈ pz_strs, ∃ a : Nat, vk_R RX0 q.1 q.2 a U) ∧ ∀ E ∈ pz_exs, va_Nw (.castable E E) U
theorem pz_ST.warm {U : State} (hW : s.WarmedH U.vm) (h : pz_ST s) : pz_ST U := ⟨fun q hq => by
  obtain ⟨a, ha⟩ := h.1 q hq
  exact ⟨a, vk_R.warm hW ha⟩, fun E hE => va_Nw.warmC hW (h.2 E hE)⟩
theorem pz_ST.same {u U : State} (hv : U.vm = u.vm) (h : pz_ST u) : pz_ST U := ⟨fun q hq => by
  obtain ⟨a, ha⟩ := h.1 q hq
  exact ⟨a, vk_R.same hv ha⟩, fun E hE => va_Nw.same rfl hv.symm (h.2 E hE)⟩
def pz_thr (sz : Nat) (U : State) : Prop := vx_Zq Bundle.tN "UNASSIGNED_STACK" Bundle.steD (fun q => sz ≤ q) U U.heap ∧ vx_Zq Bundle.tN "SUPPRESSED_SENTINEL" Bundle.listD (fun q => sz ≤ q) U U.heap ∧ pz_ST U
def pz_preX (D : va_G) (tys : List (ClassId × FieldType)) (w : va_W) (sz : Nat) (U : State) : Prop := pz_pre D tys w sz U ∧ pz_thr sz U
theorem pz_blindX {D : va_G} {tys : List (ClassId × FieldType)} {w : va_W} {sz : Nat} {av : List Value} : FrameBlind (va_Pc av (pz_preX D tys w sz)) := fun a U g mk q => by
  obtain ⟨q0, ⟨q1, qP, qK, qD⟩, q2, q3, q4⟩ := q
  exact ⟨q0, ⟨q1, qP, va_K.moved (u := U) (U := U.calling g mk a) (Vm.Alike.refl U.vm) qK, qD⟩, vx_Zq.moved (u := U) (U := U.calling g mk a) (Vm.Alike.refl U.vm) q2, vx_Zq.moved (u := U) (U := U.calling g mk a) (Vm.Alike.refl U.vm) q3, pz_ST.same (u := U) (U := U.calling g mk a) rfl q4⟩
theorem pz_thr_in (hS : va_S (fun q : Nat => s.heap.size ≤ q) s.heap H locs) (h : pz_thr s.heap.size s) : ∀ U : State, U.heap = H → s.WarmedH U.vm → pz_thr H.size U := fun U hU hW => by
  obtain ⟨h1, h2, h3⟩ := h
  subst hU
  exact ⟨vx_Zq.narrow (vx_Zq.moved hW.alike (h1.kept hS.2.1)) (fun q hq => Nat.le_trans hS.1 hq), vx_Zq.narrow (vx_Zq.moved hW.alike (h2.kept hS.2.1)) (fun q hq => Nat.le_trans hS.1 hq), h3.warm hW⟩
/-- the end of a body that throws E -/
def pz_QX (below : List Frame) (E : String) (a : Array Value) (s : State) : State → Prop := vx_MQ below (fun _ _ _ _ => False) (vx_X (fun _ : Unit => True) (fun E' _ _ => E' = E) (fun q : Nat => s.heap.size ≤ q)) a s 1 6 (fun q : Nat => s.heap.size ≤ q)
def pz_X (l : Launch) (y : MethodName) (ws : List Cond) (rm : Room) (D : va_G) (tys : List (ClassId × FieldType)) (av : List Value) (w0 : va_W) (E : String) : Prop :=
  ∀ sz : Nat, vx_Met l y ws rm (va_Pc av (pz_preX D tys w0 sz)) (fun _ _ _ _ => False) (vx_X (fun _ : Unit => True) (fun E' _ _ => E' = E) (fun q : Nat => sz ≤ q)) 1 6 (fun q : Nat => sz ≤ q)
theorem pz_X_of {y : MethodName} {ws ws' : List Cond} {rm : Room} {D : va_G} {tys : List (ClassId × FieldType)} {av : List Value} {w0 : va_W} {E : String} {maxL : Nat} {ret : Option FieldType} {own : String} (hy : plainName y.cls = true) (ho : y.cls = own) (hw : ws = Cond.code y cc maxL ret :: ws') (hm : (lg_sl av).length ≤ maxL)
    (body : ∀ (p : Program) (e : Env) (s : State) (m : MethodId) (below : List Frame) (meth : Method) (c : Code) (ls : Array Slot),
      p.tables.exec = Jvm.exec → c.code = cc → c.maxLocals = maxL → s.vm.findClass own = some m.cls → (∀ w ∈ ws, w.before av.toArray s = true) → va_K D vwCl tys s → va_P D vwCl w0 s.heap → va_D (fun _ => True) w0 → va_S (fun q : Nat => s.heap.size ≤ q) s.heap s.heap [] → (∀ q : Nat, s.heap.size ≤ q → (fun q : Nat => s.heap.size ≤ q) q) → lv_has ls maxL (lv_args 0 av) →
      pz_thr s.heap.size s → (∀ x ∈ c.exceptionTable.toList, False) → meth.locks = false →
      W p l e rm s m av.toArray below meth c s.heap [] 0 0 (pz_QX below E av.toArray s) (F0 m 0 ls [])) : pz_X l y ws rm D tys av w0 E := by
  intro sz
  refine vx_ofW (cc := cc) (maxL := maxL) (ret := ret) hy hw ?_
  intro p e s m args below meth c s₁ B hml htb hv
  obtain ⟨rfl, ⟨hsz, hP, hK, hD0⟩, hth⟩ := hv
  subst hsz
  have hts := atoms_spec (ws := ws) B.pre
  have hown : s.vm.findClass own = some m.cls := by rw [← ho]; exact findClass_of_methodNamed B.named
  have hl := lv_entry av (n := maxL) hm
  rw [lg_entry_eq]
  generalize (lg_sl av ++ List.replicate (maxL - (lg_sl av).length) Slot.unset).toArray = ls at hl ⊢
  exact body p e s m below meth c ls B.exec B.bytes hml hown hts hK hP hD0 va_S.rf (fun q h => h) hl hth htb B.notSynchronized
theorem pz_throw {Ts : List Cond} {E text : String} {ik is ic nL : Nat} (hx : p.tables.exec = Jvm.exec) (hb : c.code = cc) (hfl : l.stackTraces = false) (hown : s.vm.findClass RX0 = some m.cls) (hts : ∀ w ∈ Ts, w.before args s = true) (hEx : E ∈ pz_exs) (hfit : Bundle.fit E = true)
    (hat : ∀ w ∈ (vx_atS RX0 ic E pz_ns).filter goodWord, w ∈ Ts) (hat2 : ∀ w ∈ (vx_atS RX0 ic E pz_ns).filter (fun w => !goodWord w), w ∈ [Cond.castable E E]) (hgood : ∀ w ∈ Cond.classLink RX0 ik E :: Cond.initialized E :: vx_atS RX0 ic E pz_ns, vx_ot w = true) (hmem : (is, text) ∈ pz_strs)
    (hk : (Cond.classLink RX0 ik E).before args s = true) (hini : (Cond.initialized E).before args s = true) (hS : va_S (fun q : Nat => s.heap.size ≤ q) s.heap H locs) (hth : pz_thr s.heap.size s) (hsize : ls.size = nL) (hml : c.maxLocals = nL) (htb : ∀ x ∈ c.exceptionTable.toList, False) (hlk : meth.locks = false)
    (d0 : decode cc pc = .ok (.new ik, 3)) (d3 : decode cc (pc + 3) = .ok (.dup, 1)) (d4 : decode cc (pc + 4) = .ok (.ldc is, 2)) (d6 : decode cc (pc + 6) = .ok (.invokespecial ic, 3)) (d9 : decode cc (pc + 9) = .ok (.athrow, 1))
    (h1 : 5 < R.frames) (h2 : (rest.map fun v => v.category).sum + 82 ≤ R.locals) (h3 : 0 + 1 ≤ R.cells) (h4 : 0 + 6 ≤ R.slots) : W p l e R s m args below meth c H locs 0 0 (pz_QX below E args s) (F0 m pc ls rest) := by
  obtain ⟨hU, hN, hST⟩ := hth
  obtain ⟨sa, hstr⟩ := hST.1 _ hmem
  have hnm : ∀ n ∈ pz_ns, Bundle.fit n = true := by decide +kernel
  exact vx_throwS (names := pz_ns) (sa := sa) hx hb hfl hown hfit hnm hk hini hstr (vx_hat (fun w h => hts w (hat w h)) hat2 (vx_c (va_Nw.use rfl (hST.2 E hEx)) vx_n)) hgood hU hN hS (hsize.trans hml.symm) d0 d3 d4 d6 d9 (fun x hx => (htb x hx).elim) h1 h2 h3 h4 hlk
    (fun t ht hz hq => ⟨(), trivial, rfl, Nat.le_trans hS.1 hz, fun q h5 h6 => (hq q (Nat.lt_of_lt_of_le h5 hS.1)).trans (hS.2.1 q h5 h6)⟩) hS.2.2 (Nat.le_refl _) (Nat.le_refl _)
section XCALLS
variable {y : MethodName} {bytes : ByteArray} {maxL nL n index : Nat} {ret : Option FieldType} {ws Ts : List Cond} {rm : Room} {own C E : String} {D : va_G} {tys tysC : List (ClassId × FieldType)} {w wc : va_W} {av st0 : List Value} {b : Nat}
theorem pz_thru {Qa : State → Outcome → State → Prop} (hQa : ∀ a o t, ¬ Qa a o t) (run : vx_Run p l e R s m args below meth c H locs 0 0 1 6 (F0 m pc ls st0) rest Qa (vx_X (fun _ : Unit => True) (fun E' _ _ => E' = E) (fun q : Nat => H.size ≤ q)) (fun q : Nat => H.size ≤ q)) (hS : va_S (fun q : Nat => s.heap.size ≤ q) s.heap H locs) (htb : ∀ x ∈ c.exceptionTable.toList, False) (hlk : meth.locks = false) : W p l e R s m args below meth c H locs 0 0 (pz_QX below E args s) (F0 m pc ls st0) := by
  intro T hT X
  rcases run T hT X with ⟨v, st₀, t, T', L, h0, X', hL, e1, e2, hq, hgo⟩ | ⟨q, st₀, t, T', L, E', ce, h0, X', hL, e1, e2, hxc, hce, hcv, hcl, st⟩
  · exact absurd hq (hQa _ _ _)
  · obtain ⟨u, -, hE, hF⟩ := hxc
    have hE : E' = E := hE
    subst hE
    obtain ⟨k1, k2, k3⟩ := vx_keep (A0 := fun q : Nat => s.heap.size ≤ q) h0 e1 hS (fun q h1 h2 => absurd h1 (Nat.not_lt.mpr h2)) (fun q h => Nat.le_trans hS.1 h) hL hF
    have hout : vx_W p l e R s m args below meth c T'.heap (locs ++ L) (0 + 1) (0 + 6) (pz_QX below E' args s) (F0 m pc ls rest) q := vx_out (fun x hx => (htb x hx).elim) hlk (by rw [e1]; exact hce) hcv hcl (fun t9 ht9 _ => ⟨(), trivial, rfl, k3.F ht9⟩) k3.2.2 (Nat.le_refl _) (Nat.le_refl _)
    obtain ⟨t9, a9, b9⟩ := hout T' rfl X'
    exact ⟨t9, st.trans a9, b9⟩
theorem pz_SX (S0 : CallFix p m c cc nL s args Ts own) (hM : pz_X l y ws rm D tysC av wc E) (cw : CallB R s args own index y bytes maxL ret ws rm 1 6 n ∧ (Cond.static y).before args s = true)
    (hKc : va_K D vwCl tysC s) (hP : va_P D vwCl w H) (hD : va_D (fun _ => True) w) (hS : va_S (fun q : Nat => s.heap.size ≤ q) s.heap H locs) (hth : pz_thr s.heap.size s) (htb : ∀ x ∈ c.exceptionTable.toList, False) (hlk : meth.locks = false) (isC : List Nat) (hC : isC.filterMap (fun i => w[i]?) = wc) (hC2 : isC.map (fun i => w[i]?) = wc.map some) (hnd : va_nd isC = true)
    (hn : av.length = n) (hsize : ls.size = nL) (hst : st0 = av.reverse ++ rest) (hcat : 2 * (F0 m pc ls rest).monitorRoom + (rest.map fun v => v.category).sum ≤ 8) (hdg : decode cc pc = .ok (.invokestatic index, 3)) (hf : 0 + 1 ≤ R.cells ∧ 0 + 6 ≤ R.slots) : W p l e R s m args below meth c H locs 0 0 (pz_QX below E args s) (F0 m pc ls st0) := by
  have hPc := hP.sub (ws' := wc) isC hC
  have hDc := hD.sub (ws' := wc) isC hnd hC2
  exact pz_thru (fun _ _ _ h => h) (vx_runS (As := av) (rest := rest) S0 (hM H.size) cw ⟨pz_blindX, fun U hU hW => ⟨rfl, pz_pre_in0 hKc hPc hDc U hU hW, pz_thr_in hS hth U hU hW⟩⟩ rfl hn hsize hst hcat hdg hf) hS htb hlk
theorem pz_VX (S0 : CallFix p m c cc nL s args Ts own) (hM : pz_X l y ws rm D tysC (.ref b :: av) wc E) (cw : CallW R s args own C index y bytes maxL ret ws rm 1 6 n)
    (hKc : va_K D vwCl tysC s) (hP : va_P D vwCl w H) (hD : va_D (fun _ => True) w) (hS : va_S (fun q : Nat => s.heap.size ≤ q) s.heap H locs) (hth : pz_thr s.heap.size s) (htb : ∀ x ∈ c.exceptionTable.toList, False) (hlk : meth.locks = false) (isC : List Nat) (hC : isC.filterMap (fun i => w[i]?) = wc) (hC2 : isC.map (fun i => w[i]?) = wc.map some) (hnd : va_nd isC = true)
    (q0 ci : Nat) {fs : List Value} {T : u_T} {N : Nat} (hc0 : vwCl[ci]? = some (C, T, N)) (he : w[q0]? = some (b, .inr (ci, fs)))
    (hn : av.length = n) (hsize : ls.size = nL) (hst : st0 = av.reverse ++ .ref b :: rest) (hcat : 2 * (F0 m pc ls rest).monitorRoom + (rest.map fun v => v.category).sum ≤ 8) (hdg : decode cc pc = .ok (.invokevirtual index, 3)) (hf : 0 + 1 ≤ R.cells ∧ 0 + 6 ≤ R.slots) : W p l e R s m args below meth c H locs 0 0 (pz_QX below E args s) (F0 m pc ls st0) := by
  have hPc := hP.sub (ws' := wc) isC hC
  have hDc := hD.sub (ws' := wc) isC hnd hC2
  exact pz_thru (fun _ _ _ h => h) (vx_runV (As := av) (rest := rest) S0 (hM H.size) cw ⟨pz_blindX, va_recv hKc hP (q := (C, T, N)) hc0 he, fun U hU hW => ⟨rfl, pz_pre_in0 hKc hPc hDc U hU hW, pz_thr_in hS hth U hU hW⟩⟩ rfl hn hsize hst hcat hdg hf) hS htb hlk
end XCALLS
end PZX
end
