/-! ===== what is claimed of the script of 180 eights, and what the machine does ===== -/
theorem p36_xs : ∀ j, j < 180 → (List.replicate 180 (8 : Int32)).getD j 0 = nI 8 := by decide +kernel
theorem p36_len : (List.replicate 180 (8 : Int32)).length = 180 := by decide +kernel
def p36_P (b : Addr) (xs : List Int32) (args : Array Value) (s : State) : Prop := args = #[.ref b] ∧ s.IntsAt b xs ∧ (Jvm.Cond.and given_1 narrow_1).before args s = true
set_option maxHeartbeats 4000000 in
/-- over a room that is large enough the law answers 1 on that script, and leaves at least 180 new cells -/
theorem p36_met (l : Launch) (hflags : l.flags = flags0) (b : Addr) (xs : List Int32) (hlen : xs.length = 180) (h8 : ∀ j, j < 180 → xs.getD j 0 = nI 8) : MetFree l x (headSpec (Jvm.Cond.code x code maxLocals ret :: tables_1) p36_R) (p36_P b xs) (fun _ _ _ _ _ => True) p36_Q := by
  refine MetFree.of_bodyS (code := code) (maxLocals := maxLocals) (ret := ret) (by decide) ?_ ?_
  · intro args s m h hn
    obtain ⟨meth, c, h1, h2, h3, h4, h5, h6, -, -⟩ := Cond.code_spec hn (atoms_spec (ws := Jvm.Cond.code x code maxLocals ret :: tables_1) h _ List.mem_cons_self)
    exact ⟨meth, c, h1, h2, h3, h4, h5, h6⟩
  · intro p e s m args below meth c s₁ B hml0 hP _
    obtain ⟨rfl, hx, hgv⟩ := hP
    obtain ⟨scr, harrAt, hlist, hof, hsmall⟩ := hx
    obtain ⟨hcb, hkn, -, -⟩ := State.arrayAt?_spec harrAt
    have hown : s.vm.findClass RL = some m.cls := findClass_of_methodNamed B.named
    have hts0 : ∀ c ∈ (Jvm.Cond.code x code maxLocals ret :: tables_1), c.before #[Value.ref b] s = true := atoms_spec (ws := Jvm.Cond.code x code maxLocals ret :: tables_1) B.pre
    have htt : ∀ w ∈ lw_tbl, w.before #[Value.ref b] s = true := k2_hts_sels lw_privs (fun w hw => hts0 w (List.mem_cons_of_mem _ hw)) lw_privs_ok
    have hts : ∀ w ∈ wsL_law, w.before #[Value.ref b] s = true := fun w h => htt w (wsL_law_in w h)
    have hml : c.maxLocals = 16 := B.maxLocals_eq (hts0 _ List.mem_cons_self)
    have X₀ : Stand p l e p36_R s m #[Value.ref b] below meth c s₁ [] 0 0 := Stand.of_body B
    have hh0 : s₁.heap = s.heap := by rw [B.state]; rfl
    have hsz : scr.slots.size = 180 := by rw [← Array.length_toList, hlist, List.length_map, hlen]
    have hval : ∀ j : Nat, j < 180 → scr.slots[j]? = some (.int (xs.getD j 0)) := fun j hj => by
      have hj2 : j < xs.length := by omega
      rw [← Array.getElem?_toList, hlist]
      simp [hj2]
    have hbl : b < s.heap.size := (Array.getElem?_eq_some_iff.mp hcb).1
    have hX : va_X b 180 (fun j => xs.getD j 0) s s.heap := ⟨scr, hcb, hof, hkn, hsz, hval⟩
    have hfl : l.stackTraces = false := by unfold Launch.stackTraces; rw [hflags]; decide
    obtain ⟨hth, hnc⟩ := pl_thr htt hgv
    have K : W p l e p36_R s m #[Value.ref b] below meth c s₁.heap [] 0 0 (MQ below p36_Q #[Value.ref b] s 184 1569 (fun q : Nat => s.heap.size ≤ q)) (entryFrame m ([Value.ref b] : List Value).toArray 16) := by
      rw [hh0]
      exact p36_start htt hfl B.returns B.notSynchronized B.exec B.bytes hml hown hts hX h8 hbl hth hnc
    obtain ⟨t, a1, o, b1, b2, b3, -⟩ := K s₁ rfl X₀
    exact ⟨t, o, a1, b1, b2, b3⟩
/-- so from a start over that script, in a machine that has the room, what is claimed is false: at most 106 new cells are allowed, and the law leaves 180 and more -/
theorem p36_not {p : Program} {e : Env} {s : State} {m : MethodId} {below : List Frame} {b : Addr} (hA : AtStart classFile x code maxLocals ret World_1 tables_1 room_1 Calls_1 rest_1 Pre_1 launch0 p e s m #[Value.ref b] below)
    (happ2 : (headSpec (Jvm.Cond.code x code maxLocals ret :: tables_1) p36_R).applies x e.platform s = true) (hxs : s.IntsAt b (List.replicate 180 8)) : ¬ Claimed_1_1 := by
  intro h
  obtain ⟨hL, hW, ha, -, hc, hk, hf, hfit, hheap, happ, hcalls, hrest, hpre⟩ := hA
  obtain ⟨n, o, h1, h2, h3, -, hF⟩ := h launch0 rfl hL hW p e ha hc hk s m #[Value.ref b] below hf hfit hheap happ ⟨hcalls, hrest, hpre⟩
  obtain ⟨n', o', g1, g2, g3, -, hQ⟩ := p36_met launch0 rfl b _ p36_len p36_xs p e ha hc hk s m #[Value.ref b] below hf ((Spec.applies_iff_loose hf).mp happ2).1 ⟨rfl, hxs, hpre⟩ trivial
  have e1 : n = n' := by
    rcases Nat.lt_trichotomy n n' with q | q | q
    · exact absurd (g1 n q) h3.not_within
    · exact q
    · exact absurd (h1 n' q) g3.not_within
  subst e1
  obtain ⟨-, -, hs⟩ := hF
  have h9 : (stepsAlone p.tables e n s).heap.size ≤ s.heap.size + 106 := hs.2.2.1
  omega
