/-! ===== what the start gives: the three throws' words, the texts, what isn't castable ===== -/
section PZP
theorem pl_str {args : Array Value} {s : State} {k : Nat} {tx : String} (h1 : (Cond.stringRef RX0 k tx).before args s = true) (h2 : (Cond.exactly (.string RX0 k) "java/lang/String").before args s = true) : ∃ a : Nat, vk_R RX0 k tx a s := by
  obtain ⟨a, c, cA, kA, q1, -⟩ := Cond.exactly_spec (args := args) (first := s) (o := none) (s := s) (idx := []) (t := .string RX0 k) (cls := "java/lang/String") h2
  exact ⟨a, vk_R.of h1 q1⟩
set_option maxRecDepth 100000 in
theorem pl_m1 : ∀ q ∈ pz_strs, Cond.stringRef RX0 q.1 q.2 ∈ lw_tbl := by decide +kernel
set_option maxRecDepth 100000 in
theorem pl_m2 : ∀ q ∈ pz_strs, Cond.exactly (.string RX0 q.1) "java/lang/String" ∈ flatC (Jvm.Cond.and given_1 narrow_1) := by decide +kernel
set_option maxRecDepth 100000 in
theorem pl_m3 : ∀ E ∈ pz_exs, Cond.castable E E ∈ lw_tbl := by decide +kernel
set_option maxRecDepth 100000 in
theorem pl_m4 : ∀ C ∈ pz_sup, Cond.declares (pz_dS C) ∈ lw_tbl := by decide +kernel
set_option maxRecDepth 100000 in
theorem pl_m5 : Cond.laysStatic Bundle.tN "UNASSIGNED_STACK" Bundle.steD ∈ lw_tbl ∧ Cond.laysStatic Bundle.tN "SUPPRESSED_SENTINEL" Bundle.listD ∈ lw_tbl ∧ Cond.initialized Bundle.tN ∈ lw_tbl := by decide +kernel
set_option maxRecDepth 100000 in
theorem pl_m6 : Cond.isRef (.static Bundle.tN "UNASSIGNED_STACK" Bundle.steD) ∈ flatC (Jvm.Cond.and given_1 narrow_1) ∧ Cond.isRef (.static Bundle.tN "SUPPRESSED_SENTINEL" Bundle.listD) ∈ flatC (Jvm.Cond.and given_1 narrow_1) := by decide +kernel
set_option maxRecDepth 100000 in
theorem pl_m7 : Cond.not (.castable "java/lang/IllegalStateException" "java/lang/IllegalArgumentException") ∈ flatC (Jvm.Cond.and given_1 narrow_1) ∧ Cond.not (.castable "java/lang/IllegalArgumentException" "java/lang/IllegalStateException") ∈ flatC (Jvm.Cond.and given_1 narrow_1) ∧ Cond.not (.castable "java/lang/IndexOutOfBoundsException" "java/lang/IllegalStateException") ∈ flatC (Jvm.Cond.and given_1 narrow_1) := by decide +kernel
theorem pl_thr {args : Array Value} {s : State} (hts : ∀ w ∈ lw_tbl, w.before args s = true) (hg : (Jvm.Cond.and given_1 narrow_1).before args s = true) : pz_thr s.heap.size s ∧ pz_NC s := by
  have hs := flat_of_before _ hg
  refine ⟨⟨vx_Zqof (hts _ pl_m5.1) (hts _ pl_m5.2.2) (hs _ pl_m6.1) (fun a h => Nat.not_le.mpr h), vx_Zqof (hts _ pl_m5.2.1) (hts _ pl_m5.2.2) (hs _ pl_m6.2) (fun a h => Nat.not_le.mpr h), fun q hq => pl_str (hts _ (pl_m1 q hq)) (hs _ (pl_m2 q hq)), fun E hE => va_Nw.of rfl (hts _ (pl_m3 E hE)), fun C hC => va_Nw.of rfl (hts _ (pl_m4 C hC))⟩, va_Nc.of (hs _ pl_m7.1), va_Nc.of (hs _ pl_m7.2.1), va_Nc.of (hs _ pl_m7.2.2)⟩
end PZP
