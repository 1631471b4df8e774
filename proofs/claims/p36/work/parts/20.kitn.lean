/-! ===== constructors: a contract, a call ===== -/
section PZN
variable {p : Program} {l : Launch} {e : Env} {R : Room} {s : State} {m : MethodId} {args : Array Value} {below : List Frame} {meth : Method} {c : Code} {H : Heap} {locs : List Loc} {cells slots : Nat} {Q : State → Prop}
variable {cc : ByteArray} {pc : Nat} {ls : Array Slot} {rest : List Value}
/-- makes: the cells w0 become w1 u, with array classes ty1 u -/
def pz_N (l : Launch) (y : MethodName) (ws : List Cond) (rm : Room) (D : va_G) (av : List Value) (w0 : va_W) {S : Type} (post : S → Prop) (w1 : S → va_W) (ty1 : S → List (ClassId × FieldType)) (mc ms : Nat) : Prop :=
  ∀ sz : Nat, Met l y ws rm (va_Pc av (pz_pre D [] w0 sz)) (va_Qv post (fun u t => va_P D vwCl (w1 u) t.heap ∧ va_K D vwCl (ty1 u) t ∧ va_D (va_A w0 sz) (w1 u)) (va_A w0 sz)) mc ms (va_A w0 sz)
theorem pz_N_of {y : MethodName} {ws ws' : List Cond} {rm : Room} {D : va_G} {av : List Value} {w0 : va_W} {S : Type} {post : S → Prop} {w1 : S → va_W} {ty1 : S → List (ClassId × FieldType)} {mc ms maxL : Nat} {own : String} (hy : plainName y.cls = true) (ho : y.cls = own) (hyn : y.name = "<init>") (hw : ws = Cond.code y cc maxL none :: ws') (hm : (lg_sl av).length ≤ maxL)
    (body : ∀ (p : Program) (e : Env) (s : State) (m : MethodId) (below : List Frame) (meth : Method) (c : Code) (A : Nat → Prop) (ls : Array Slot) (Q : State → Prop),
      p.tables.exec = Jvm.exec → c.code = cc → c.maxLocals = maxL → s.vm.findClass own = some m.cls → (∀ w ∈ ws, w.before av.toArray s = true) → meth.name = "<init>" → va_K D vwCl [] s → va_P D vwCl w0 s.heap → va_D A w0 → va_S A s.heap s.heap [] → (∀ q : Nat, s.heap.size ≤ q → A q) → lv_has ls maxL (lv_args 0 av) →
      (∀ (H : Heap) (locs : List Loc) (pc : Nat) (ls : Array Slot) (u : S), decode cc pc = .ok (.return_, 1) → post u → va_P D vwCl (w1 u) H → va_K D vwCl (ty1 u) s → va_D A (w1 u) → va_S A s.heap H locs → W p l e rm s m av.toArray below meth c H locs mc ms Q (F0 m pc ls [])) →
      W p l e rm s m av.toArray below meth c s.heap [] 0 0 Q (F0 m 0 ls [])) : pz_N l y ws rm D av w0 post w1 ty1 mc ms := by
  intro sz
  refine Met.ofW (cc := cc) (maxL := maxL) (ret := none) hy hw ?_
  intro p e s m args below meth c s₁ B hml hv
  obtain ⟨rfl, hsz, hP, hK, hD0⟩ := hv
  subst hsz
  have hr := B.returns
  have hts := atoms_spec (ws := ws) B.pre
  have hown : s.vm.findClass own = some m.cls := by rw [← ho]; exact findClass_of_methodNamed B.named
  have hin : meth.name = "<init>" := by rw [← hyn]; exact (name_of_methodNamed B.named B.method).1
  have hl := lv_entry av (n := maxL) hm
  rw [lg_entry_eq]
  generalize (lg_sl av ++ List.replicate (maxL - (lg_sl av).length) Slot.unset).toArray = ls at hl ⊢
  refine body p e s m below meth c (va_A w0 s.heap.size) ls _ B.exec B.bytes hml hown hts hin hK hP (hD0.self (sz := s.heap.size)) va_S.rf (fun q h => Or.inr h) hl ?_
  intro H locs pc ls u hd hp hP1 hK1 hD1 hS
  exact W.vret B.exec B.bytes hr (fun t ht hW => ⟨⟨u, rfl, hp, by rw [ht]; exact hP1, va_K.moved hW.alike hK1, hD1⟩, hS.F ht⟩) hS.2.2 hd B.notSynchronized
/-- the call of a constructor on the new cell -/
theorem pz_NC_ {y : MethodName} {bytes : ByteArray} {maxL nL n index mc ms : Nat} {ws Ts : List Cond} {rm : Room} {own : String} {D : va_G} {tys : List (ClassId × FieldType)} {w wc wr : va_W} {A : Nat → Prop} {av st0 : List Value} {b : Nat} {S : Type} {post : S → Prop} {w1 : S → va_W} {ty1 : S → List (ClassId × FieldType)} (S0 : CallFix p m c cc nL s args Ts own) (hM : pz_N l y ws rm D (.ref b :: av) wc post w1 ty1 mc ms) (cw : CallB R s args own index y bytes maxL none ws rm mc ms n ∧ y.name = "<init>" ∧ (Cond.instanceMethod y).before args s = true)
    (hK : va_K D vwCl tys s) (hP : va_P D vwCl w H) (hD : va_D A w) (hS : va_S A s.heap H locs) (hA : ∀ q : Nat, s.heap.size ≤ q → A q) (isC isR : List Nat) (hC : isC.filterMap (fun i => w[i]?) = wc) (hC2 : isC.map (fun i => w[i]?) = wc.map some) (hnd : va_nd isC = true) (hR : isR.map (fun i => w[i]?) = wr.map some) (hnR : va_nd isR = true) (hdis : ∀ i ∈ isR, i ∉ isC)
    (hn : av.length = n) (hsize : ls.size = nL) (hst : st0 = av.reverse ++ .ref b :: rest) (hcat : 2 * (F0 m pc ls rest).monitorRoom + (rest.map fun v => v.category).sum ≤ 8) (hdg : decode cc pc = .ok (.invokespecial index, 3)) (hf : cells + mc ≤ R.cells ∧ slots + ms ≤ R.slots)
    (kk : ∀ (u : S) (H1 : Heap) (locs1 : List Loc), post u → va_K D vwCl (tys ++ ty1 u) s → va_P D vwCl (wr ++ w1 u) H1 → va_D A (wr ++ w1 u) → va_S A s.heap H1 locs1 → W p l e R s m args below meth c H1 locs1 (cells + mc) (slots + ms) Q (F0 m (pc + 3) ls rest)) : W p l e R s m args below meth c H locs cells slots Q (F0 m pc ls st0) := by
  have hPc := hP.sub (ws' := wc) isC hC
  have hDc := hD.sub (ws' := wc) isC hnd hC2
  have hKc := hK.sub (tys' := []) [] rfl
  have hFc := va_free (wc := wc) hD hS hA isC hC2
  refine va_callv (va_runI (As := av) (rest := rest) S0 (hM H.size) cw ⟨pz_blind, fun U hU hW => ⟨rfl, pz_pre_in hKc hPc hDc U hU hW⟩⟩ rfl hn hsize hst hcat hdg hf) hS (fun q _ h => hFc q h) hFc (fun u t H1 locs1 ht hvm hw hB hz1 hk1 hS1 => ?_)
  obtain ⟨hP1, hK1, hD1⟩ := hB
  rw [ht] at hP1
  have hK1 := va_K.moved hvm.symm hK1
  obtain ⟨hP2, hD2⟩ := va_join (wr := wr) (w1 := w1 u) hP hD isC isR hC2 hR hnR hdis hk1 hFc hP1 hD1
  exact kk u H1 locs1 hw (hK.app hK1) hP2 hD2 hS1
theorem pz_one {D : va_G} {tys : List (ClassId × FieldType)} (hK : va_K D vwCl tys s) {i j : Nat} {a b : ClassId} (hi : tys[i]? = some (a, .int)) (hj : tys[j]? = some (b, .int)) : a = b := by
  have h1 := va_nm_int (s := s) (cA := a) (hK.2 i _ hi).2
  have h2 := va_nm_int (s := s) (cA := b) (hK.2 j _ hj).2
  exact Option.some.inj (h1.symm.trans h2)
theorem pz_nar {n : Nat} (cA : ClassId) : vp_cell cA (n, .inl (pz_ar (fun _ => 0))) = arrV cA n (fun _ => defaultValue .int) := rfl
end PZN
/-- the class's days at the start: fixed days of the months -/
def pq_c : Nat → Nat → Nat
  | 0, _ => 2
  | k + 1, j => if pm_an (k + 1) 0 = j + 1 ∨ pm_an (k + 1) 1 = j + 1 ∨ pm_an (k + 1) 2 = j + 1 then 0 else pq_c k j
theorem pq_b_d : ((List.range 13).all fun k => (List.range 3).all fun a => decide (1 ≤ k → 1 ≤ pm_an k a ∧ pm_an k a ≤ 365)) = true := by decide +kernel
theorem pq_b {k a : Nat} (h1 : 1 ≤ k) (h2 : k ≤ 12) (h3 : a ≤ 2) : 1 ≤ pm_an k a ∧ pm_an k a ≤ 365 := by
  exact of_decide_eq_true (List.all_eq_true.mp (List.all_eq_true.mp pq_b_d k (List.mem_range.mpr (by omega))) a (List.mem_range.mpr (by omega))) h1
theorem pq_s {ch : Nat → Nat} {k : Nat} (h1 : 1 ≤ k) (h2 : k ≤ 12) (h : ∀ j, j < 365 → ch j = pq_c (k - 1) j) : ∀ j, j < 365 → pz_u (pz_u (pz_u ch (pm_an k 0 - 1) 0) (pm_an k 1 - 1) 0) (pm_an k 2 - 1) 0 j = pq_c (k + 1 - 1) j := by
  intro j hj
  have b0 := pq_b (a := 0) h1 h2 (by decide)
  have b1 := pq_b (a := 1) h1 h2 (by decide)
  have b2 := pq_b (a := 2) h1 h2 (by decide)
  have h3 := h j hj
  obtain ⟨i, rfl⟩ : ∃ i, k = i + 1 := ⟨k - 1, by omega⟩
  rw [show i + 1 + 1 - 1 = i + 1 from rfl, pq_c]
  rw [show i + 1 - 1 = i from rfl] at h3
  unfold pz_u
  by_cases c2 : j = pm_an (i + 1) 2 - 1
  · rw [if_pos c2, if_pos (by omega)]
  · rw [if_neg c2]
    by_cases c1 : j = pm_an (i + 1) 1 - 1
    · rw [if_pos c1, if_pos (by omega)]
    · rw [if_neg c1]
      by_cases c0 : j = pm_an (i + 1) 0 - 1
      · rw [if_pos c0, if_pos (by omega)]
      · rw [if_neg c0, if_neg (by omega)]
        exact h3
