/-! ===== remainders, rows of years and pairs, votes ===== -/
theorem pz_xor_neg {x : Int32} {b : Nat} (hb : b < 2147483648) : ((x ^^^ nI b).toInt < 0) ↔ x.toInt < 0 := by
  have h1 : ∀ z : Int32, z.toBitVec.msb = decide (z.toInt < 0) := fun z => BitVec.msb_eq_toInt
  have h2 := h1 (x ^^^ nI b)
  rw [Int32.toBitVec_xor, BitVec.msb_xor, h1 x, h1 (nI b), nI_toInt hb] at h2
  have h3 : decide ((b : Int) < 0) = false := by simp
  rw [h3] at h2
  simp at h2
  exact h2.symm
theorem pz_rng32 (x : Int32) : -2147483648 ≤ x.toInt ∧ x.toInt < 2147483648 := by
  have h1 := Int32.le_toInt x
  have h2 := Int32.toInt_lt x
  omega
theorem pz_bm {z : Int} (h1 : -2147483648 ≤ z) (h2 : z < 2147483648) : z.bmod (2 ^ 32) = z := by
  rw [Int.bmod_eq_of_le (by omega) (by omega)]
theorem pz_ofI {z : Int} (h1 : -2147483648 ≤ z) (h2 : z < 2147483648) : (Int32.ofInt z).toInt = z := by
  rw [Int32.toInt_ofInt, pz_bm h1 h2]
theorem pz_tm (X : Int) (b : Int) : X.tmod b = if 0 ≤ X then X % b else -((-X) % b) := by
  by_cases h : 0 ≤ X
  · rw [if_pos h, Int.tmod_eq_emod_of_nonneg h]
  · rw [if_neg h]
    have h2 : X = -(-X) := by omega
    rw [h2, Int.neg_tmod, Int.tmod_eq_emod_of_nonneg (by omega)]
    congr 1
    congr 1
    omega
theorem pz_irem8 (x : Int32) : x - x / nI 8 * nI 8 = Int32.ofInt (x.toInt.tmod 8) := by
  have hx := pz_rng32 x
  have e8 : (nI 8).toInt = 8 := by decide
  have h1 : -268435456 ≤ x.toInt.tdiv 8 ∧ x.toInt.tdiv 8 ≤ 268435456 ∧ -8 < x.toInt.tmod 8 ∧ x.toInt.tmod 8 < 8 := by
    have h3 := Int.tmod_lt_of_pos x.toInt (show (0 : Int) < 8 by decide)
    have h4 := Int.lt_tmod_of_pos x.toInt (show (0 : Int) < 8 by decide)
    have h5 := Int.mul_tdiv_add_tmod x.toInt 8
    omega
  have hs : (0 ≤ x.toInt → 0 ≤ x.toInt.tmod 8) ∧ (x.toInt ≤ 0 → x.toInt.tmod 8 ≤ 0) := by
    rw [pz_tm]
    split <;> omega
  have h5 := Int.mul_tdiv_add_tmod x.toInt 8
  apply Int32.toInt_inj.mp
  rw [pz_ofI (by omega) (by omega), Int32.toInt_sub, Int32.toInt_mul, Int32.toInt_div, e8]
  rw [pz_bm (z := x.toInt.tdiv 8) (by omega) (by omega), pz_bm (z := x.toInt.tdiv 8 * 8) (by omega) (by omega), pz_bm (z := x.toInt - x.toInt.tdiv 8 * 8) (by omega) (by omega)]
  omega
theorem pz_irem7 (x : Int32) : x - x / nI 7 * nI 7 = Int32.ofInt (x.toInt.tmod 7) := by
  have hx := pz_rng32 x
  have e8 : (nI 7).toInt = 7 := by decide
  have h1 : -306783379 ≤ x.toInt.tdiv 7 ∧ x.toInt.tdiv 7 ≤ 306783379 ∧ -7 < x.toInt.tmod 7 ∧ x.toInt.tmod 7 < 7 := by
    have h3 := Int.tmod_lt_of_pos x.toInt (show (0 : Int) < 7 by decide)
    have h4 := Int.lt_tmod_of_pos x.toInt (show (0 : Int) < 7 by decide)
    have h5 := Int.mul_tdiv_add_tmod x.toInt 7
    omega
  have hs : (0 ≤ x.toInt → 0 ≤ x.toInt.tmod 7) ∧ (x.toInt ≤ 0 → x.toInt.tmod 7 ≤ 0) := by
    rw [pz_tm]
    split <;> omega
  have h5 := Int.mul_tdiv_add_tmod x.toInt 7
  apply Int32.toInt_inj.mp
  rw [pz_ofI (by omega) (by omega), Int32.toInt_sub, Int32.toInt_mul, Int32.toInt_div, e8]
  rw [pz_bm (z := x.toInt.tdiv 7) (by omega) (by omega), pz_bm (z := x.toInt.tdiv 7 * 7) (by omega) (by omega), pz_bm (z := x.toInt - x.toInt.tdiv 7 * 7) (by omega) (by omega)]
  omega
theorem pz_nIof {z : Int} (h1 : 0 ≤ z) (h2 : z < 2147483648) : Int32.ofInt z = nI z.toNat := by
  apply Int32.toInt_inj.mp
  rw [pz_ofI (by omega) h2, nI_toInt (by omega)]
  omega
abbrev pm_mt (f g : Int32) (pr : Nat) : Prop := (((pr / 1000 : Nat) : Int) = f.toInt ∧ ((pr % 1000 : Nat) : Int) = g.toInt) ∨ (((pr / 1000 : Nat) : Int) = g.toInt ∧ ((pr % 1000 : Nat) : Int) = f.toInt)
def pm_cc (fy : Nat → Nat) : Nat → Nat
  | 0 => 0
  | n + 1 => pm_cc fy n + (if fy n = 0 then 0 else 1)
theorem pm_cc_b (fy : Nat → Nat) : ∀ n, pm_cc fy n ≤ n
  | 0 => Nat.le_refl 0
  | n + 1 => by
    have h := pm_cc_b fy n
    unfold pm_cc
    split <;> omega
theorem pm_cc_0 {fy : Nat → Nat} {n : Nat} (h : fy n = 0) : pm_cc fy (n + 1) = pm_cc fy n := by rw [pm_cc, if_pos h, Nat.add_zero]
theorem pm_cc_1 {fy : Nat → Nat} {n : Nat} (h : ¬ fy n = 0) : pm_cc fy (n + 1) = pm_cc fy n + 1 := by rw [pm_cc, if_neg h]
abbrev pm_vt (g : Nat → Nat) (mk n : Nat) : Prop := g (pm_pl n) = 2 ∧ ¬ n % 8 = mk
abbrev pm_sh (ch : Nat → Nat) : Nat → Nat := fun q => ch (q - 1)
def pm_vc (g : Nat → Nat) (mk a : Nat) : Nat → Nat
  | 0 => 0
  | n + 1 => pm_vc g mk a n + (if pm_vt g mk (a + n) then 1 else 0)
theorem pm_vc_b (g : Nat → Nat) (mk a : Nat) : ∀ n, pm_vc g mk a n ≤ n
  | 0 => Nat.le_refl 0
  | n + 1 => by
    have h := pm_vc_b g mk a n
    unfold pm_vc
    split <;> omega
theorem pm_vc_1 {g : Nat → Nat} {mk a n : Nat} (h : pm_vt g mk (a + n)) : pm_vc g mk a (n + 1) = pm_vc g mk a n + 1 := by rw [pm_vc, if_pos h]
theorem pm_vc_0 {g : Nat → Nat} {mk a n : Nat} (h : ¬ pm_vt g mk (a + n)) : pm_vc g mk a (n + 1) = pm_vc g mk a n := by rw [pm_vc, if_neg h, Nat.add_zero]
-- days told by an anchor and a count
def pm_fp (mm a k : Nat) : Nat := if k ≤ pm_an mm a then pm_an mm a + 1 - k else pm_an mm a + 366 - k
def pm_fc (y mm a k bd : Nat) : Nat := pm_ld y (pm_fp mm a k) - bd
theorem pm_fp_d : ((List.range 13).all fun mm => (List.range 3).all fun a => (List.range 20).all fun k => decide (1 ≤ mm → 1 ≤ k → k ≤ pm_gc mm a → 1 ≤ pm_fp mm a k ∧ pm_fp mm a k ≤ 365 ∧ k ≤ pm_an mm a + 365)) = true := by decide +kernel
theorem pm_fp_b {mm a k : Nat} (h1 : mm < 13) (h2 : 1 ≤ mm) (h3 : a < 3) (h4 : 1 ≤ k) (h5 : k ≤ pm_gc mm a) : 1 ≤ pm_fp mm a k ∧ pm_fp mm a k ≤ 365 ∧ k ≤ pm_an mm a + 365 := by
  have h6 := pm_gc_b mm a
  have h7 := List.all_eq_true.mp pm_fp_d mm (List.mem_range.mpr h1)
  have h8 := List.all_eq_true.mp h7 a (List.mem_range.mpr h3)
  have h9 := List.all_eq_true.mp h8 k (List.mem_range.mpr (by omega))
  exact of_decide_eq_true h9 h2 h4 h5
theorem pz_sub1 {A k : Nat} (hA : A < 1000) (hk : k < 1000) : (nI A - nI k + nI 1).toInt = (A : Int) - k + 1 := by
  rw [Int32.toInt_add, Int32.toInt_sub, nI_toInt (by omega), nI_toInt (by omega), nI_toInt (by omega), pz_bm (z := (A : Int) - (k : Int)) (by omega) (by omega), pz_bm (by omega) (by omega)]
  rfl
theorem pz_sub2 {A k : Nat} (hA : A < 1000) (hk : k < 1000) (h : A < k) (h2 : k ≤ A + 365) : nI A - nI k + nI 1 + Int32.ofInt 365 = nI (A + 366 - k) := by
  apply Int32.toInt_inj.mp
  rw [Int32.toInt_add, pz_sub1 hA hk, nI_toInt (by omega), show (Int32.ofInt 365).toInt = 365 from by decide, pz_bm (by omega) (by omega)]
  omega
/-! ===== a method of the JDK that has no row of its own among the natives ===== -/
theorem pz_metF {l : Launch} {y : MethodName} {ws ws' : List Cond} {rm : Room} {Pc : Array Value → State → Prop} {Qc : Array Value → State → Outcome → State → Prop} {mc ms : Nat} {free : Addr → Prop} {cc : ByteArray} {maxL : Nat} {ret : Option FieldType}
    (hy : plainFor y = true) (hw : ws = Cond.code y cc maxL ret :: ws')
    (body : ∀ p e s m args below meth c s₁, BodyLoose p l y (headSpec ws rm) cc maxL ret e s m args below meth c s₁ → c.maxLocals = maxL → Pc args s →
      W p l e (headSpec ws rm).room s m args below meth c s.heap [] 0 0 (MQ below Qc args s mc ms free) (entryFrame m args maxL)) : Met l y ws rm Pc Qc mc ms free := by
  refine MetFree.of_bodySF (code := cc) (maxLocals := maxL) (ret := ret) hy ?_ ?_
  · intro args s m h hn
    obtain ⟨meth, c, h1, h2, h3, h4, h5, h6, -, -⟩ := Cond.code_spec hn (atoms_spec (ws := ws) h _ (by rw [hw]; exact List.mem_cons_self))
    exact ⟨meth, c, h1, h2, h3, h4, h5, h6⟩
  · intro p e s m args below meth c s₁ B hml hP _
    have hh0 : s₁.heap = s.heap := by rw [B.state]; rfl
    obtain ⟨t, a1, o, b1, b2, b3⟩ := body p e s m args below meth c s₁ B hml hP s₁ hh0 (Stand.of_body B)
    exact ⟨t, o, a1, b1, b2, ⟨b3.1, b3.2⟩⟩
theorem pz_R_ofF {cc : ByteArray} {l : Launch} {y : MethodName} {ws ws' : List Cond} {rm : Room} {D : va_G} {tys : List (ClassId × FieldType)} {av : List Value} {w0 : va_W} {post : Int32 → Prop} {maxL : Nat} {ty : FieldType} {own : String} (hy : plainFor y = true) (ho : y.cls = own) (hw : ws = Cond.code y cc maxL (some ty) :: ws') (hm : (lg_sl av).length ≤ maxL)
    (body : ∀ (p : Program) (e : Env) (s : State) (m : MethodId) (below : List Frame) (meth : Method) (c : Code) (A : Nat → Prop) (ls : Array Slot) (Q : State → Prop),
      p.tables.exec = Jvm.exec → c.code = cc → c.maxLocals = maxL → s.vm.findClass own = some m.cls → (∀ w ∈ ws, w.before av.toArray s = true) → va_K D vwCl tys s → va_P D vwCl w0 s.heap → va_D (fun _ => True) w0 → va_S A s.heap s.heap [] → (∀ q : Nat, s.heap.size ≤ q → A q) → lv_has ls maxL (lv_args 0 av) →
      (∀ (H : Heap) (locs : List Loc) (pc : Nat) (ls : Array Slot) (v : Int32), decode cc pc = .ok (.ireturn, 1) → narrow ty (.int v) = .int v → post v → va_S A s.heap H locs → W p l e rm s m av.toArray below meth c H locs 0 0 Q (F0 m pc ls [.int v])) →
      W p l e rm s m av.toArray below meth c s.heap [] 0 0 Q (F0 m 0 ls [])) : pz_R l y ws rm D tys av w0 post := by
  intro sz
  refine pz_metF (cc := cc) (maxL := maxL) (ret := some ty) hy hw ?_
  intro p e s m args below meth c s₁ B hml hv
  obtain ⟨rfl, hsz, hP, hK, hD0⟩ := hv
  subst hsz
  have hr := B.returns
  have hts := atoms_spec (ws := ws) B.pre
  have hown : s.vm.findClass own = some m.cls := by rw [← ho]; exact findClass_of_methodNamed B.named
  have hl := lv_entry av (n := maxL) hm
  rw [lg_entry_eq]
  generalize (lg_sl av ++ List.replicate (maxL - (lg_sl av).length) Slot.unset).toArray = ls at hl ⊢
  refine body p e s m below meth c (va_A [] s.heap.size) ls _ B.exec B.bytes hml hown hts hK hP hD0 va_S.rf (fun q h => Or.inr h) hl ?_
  intro H locs pc ls v hd hn hp hS
  exact W.zret B.exec B.bytes hr hn (fun t ht hW => ⟨⟨v, (), rfl, hp, trivial⟩, hS.F ht⟩) hS.2.2 hd B.notSynchronized
theorem pm_db_1 (y : Nat) : pm_db y 1 = 0 := by
  unfold pm_db
  rw [if_neg (by omega), pm_cb_1]
theorem pm_db_s (y k : Nat) (h : 1 ≤ k) : pm_db y (k + 1) = pm_db y k + pm_ln y k := by
  unfold pm_db pm_ln
  rw [pm_cb_s h]
  by_cases h2 : k = 2
  · subst h2
    have e : pm_cl 2 = 28 := by decide
    by_cases h4 : y % 4 = 0
    · rw [if_pos (by omega), if_neg (by omega), if_pos (by omega)]; omega
    · rw [if_neg (by omega), if_neg (by omega), if_neg (by omega)]; omega
  · by_cases h4 : y % 4 = 0
    · by_cases h5 : 2 < k
      · rw [if_pos (by omega), if_pos (by omega), if_neg (by omega)]; omega
      · rw [if_neg (by omega), if_neg (by omega), if_neg (by omega)]; omega
    · rw [if_neg (by omega), if_neg (by omega), if_neg (by omega)]; omega
theorem pm_ld_g (y q : Nat) (hy : 1 ≤ y) (hq : 1 ≤ q) : pm_ld y q + 1 ≥ q ∧ (y % 4 = 0 ∧ 55 ≤ q → 1 ≤ pm_ld y q) := by
  unfold pm_ld pm_fd
  split <;> omega
