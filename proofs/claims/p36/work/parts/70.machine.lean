/-! ===== such a start: the witness's machine with a script of 180 eights in the place of its own ===== -/
def p36_cells : Array Value := (List.replicate 180 (Value.int 8)).toArray
def p36_s : State := start1.aboutOf p36_cells
theorem p36_code (c : Cond) (h : su_isCode c = true) : c.before start1.args0 p36_s = c.before start1.args0 start1.about := by
  cases c <;> first | (cases h; done) | rfl
theorem p36_word {c : Cond} (hc : c ∈ Cond.code x code maxLocals ret :: tables_1) (h : (su_isCode c || c.before start1.args0 p36_s) = true) : c.before start1.args0 p36_s = true := by
  cases hq : su_isCode c with
  | false => simpa [hq] using h
  | true => rw [p36_code c hq]; exact start1.words c hc
set_option maxRecDepth 16384 in
theorem p36_o1_0 : (tables_1_1.take 60).all (fun c => su_isCode c || c.before start1.args0 p36_s) = true := by decide +kernel
set_option maxRecDepth 16384 in
theorem p36_o1_1 : ((tables_1_1.drop 60).take 60).all (fun c => su_isCode c || c.before start1.args0 p36_s) = true := by decide +kernel
set_option maxRecDepth 16384 in
theorem p36_o1_2 : (((tables_1_1.drop 60).drop 60).take 60).all (fun c => su_isCode c || c.before start1.args0 p36_s) = true := by decide +kernel
set_option maxRecDepth 16384 in
theorem p36_o1_3 : (((tables_1_1.drop 60).drop 60).drop 60).all (fun c => su_isCode c || c.before start1.args0 p36_s) = true := by decide +kernel
set_option maxRecDepth 16384 in
theorem p36_o2_0 : (tables_1_2.take 60).all (fun c => su_isCode c || c.before start1.args0 p36_s) = true := by decide +kernel
set_option maxRecDepth 16384 in
theorem p36_o2_1 : ((tables_1_2.drop 60).take 60).all (fun c => su_isCode c || c.before start1.args0 p36_s) = true := by decide +kernel
set_option maxRecDepth 16384 in
theorem p36_o2_2 : (((tables_1_2.drop 60).drop 60).take 60).all (fun c => su_isCode c || c.before start1.args0 p36_s) = true := by decide +kernel
set_option maxRecDepth 16384 in
theorem p36_o2_3 : (((tables_1_2.drop 60).drop 60).drop 60).all (fun c => su_isCode c || c.before start1.args0 p36_s) = true := by decide +kernel
theorem p36_o1 : tables_1_1.all (fun c => su_isCode c || c.before start1.args0 p36_s) = true := start1.su_all_split _ 60 _ p36_o1_0 (start1.su_all_split _ 60 _ p36_o1_1 (start1.su_all_split _ 60 _ p36_o1_2 p36_o1_3))
theorem p36_o2 : tables_1_2.all (fun c => su_isCode c || c.before start1.args0 p36_s) = true := start1.su_all_split _ 60 _ p36_o2_0 (start1.su_all_split _ 60 _ p36_o2_1 (start1.su_all_split _ 60 _ p36_o2_2 p36_o2_3))
theorem p36_words : ∀ c ∈ (Cond.code x code maxLocals ret :: tables_1), c.before start1.args0 p36_s = true := by
  intro c hc
  refine p36_word hc ?_
  rcases List.mem_cons.mp hc with h | h
  · rw [h]; rfl
  · have h1 : c ∈ tables_1_1 ++ tables_1_2 := h
    rcases List.mem_append.mp h1 with h2 | h2
    · exact List.all_eq_true.mp p36_o1 c h2
    · exact List.all_eq_true.mp p36_o2 c h2
set_option maxRecDepth 16384 in
theorem p36_atStart : AtStart classFile x code maxLocals ret World_1 tables_1 room_1 Calls_1 rest_1 Pre_1 launch0 start1.p0 start1.e0 p36_s ⟨0, 0⟩ #[Value.ref 0] Lib.HandBits.below0 :=
  ⟨lists_1, trivial, launch0.admits_env _ _ _, launch0.least_env, fairChoices_fair.cas, fairChoices_fair.clock, rfl, by decide +kernel, by decide +kernel,
    (Spec.applies_iff rfl).mpr ⟨rfl, rfl, rfl, by decide +kernel, by decide +kernel, by decide +kernel, launch0.hasRoom_least _ room_1 (by decide +kernel) (by decide +kernel) (by decide +kernel) (by decide +kernel) (by decide +kernel) (by decide +kernel), atoms_intro p36_words⟩,
    trivial, (show rest_1_c.before start1.args0 p36_s = true by decide +kernel), (show (Cond.and given_1 narrow_1).before start1.args0 p36_s = true by decide +kernel)⟩
set_option maxRecDepth 16384 in
theorem p36_applies : (headSpec (Jvm.Cond.code x code maxLocals ret :: tables_1) p36_R).applies x start1.e0.platform p36_s = true :=
  (Spec.applies_iff rfl).mpr ⟨rfl, rfl, rfl, by decide +kernel, by decide +kernel, by decide +kernel, launch0.hasRoom_least _ p36_R (by decide +kernel) (by decide +kernel) (by decide +kernel) (by decide +kernel) (by decide +kernel) (by decide +kernel), atoms_intro p36_words⟩
