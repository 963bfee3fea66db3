set_option maxRecDepth 16384
set_option maxRecDepth 16384 in
theorem zst1.others_6_6 : ((((((tables_1_6.drop 40).drop 40).drop 40).drop 39).drop 28).drop 40).all (fun c => zsu_isCode c || c.before args0 about) = true := by decide +kernel
theorem zst1.others_hold_6 : tables_1_6.all (fun c => zsu_isCode c || c.before args0 about) = true := zsu_all_split _ 40 tables_1_6 others_6_0 (zsu_all_split _ 40 (tables_1_6.drop 40) others_6_1 (zsu_all_split _ 40 ((tables_1_6.drop 40).drop 40) others_6_2 (zsu_all_split _ 39 (((tables_1_6.drop 40).drop 40).drop 40) others_6_3 (zsu_all_split _ 28 ((((tables_1_6.drop 40).drop 40).drop 40).drop 39) others_6_4 (zsu_all_split _ 40 (((((tables_1_6.drop 40).drop 40).drop 40).drop 39).drop 28) others_6_5 others_6_6)))))
theorem zst1.words_6 : ∀ c ∈ tables_1_6, c.before args0 about = true := fun c h => zsu_words others_hold_6 codes_hold_6 c h
set_option maxRecDepth 16384 in
theorem zst1.codes_are_7 : tables_1_7.filter zsu_isCode = [] := by
  first
  | rfl
  | simp only [tables_1_7, List.filter, zsu_isCode]
theorem zst1.codes_hold_7 : ∀ c ∈ tables_1_7.filter zsu_isCode, c.before args0 about = true := by
  rw [codes_are_7]
  exact List.forall_mem_nil _
set_option maxRecDepth 16384 in
theorem zst1.others_7_0 : (tables_1_7.take 40).all (fun c => zsu_isCode c || c.before args0 about) = true := by decide +kernel
set_option maxRecDepth 16384 in
theorem zst1.others_7_1 : (tables_1_7.drop 40).all (fun c => zsu_isCode c || c.before args0 about) = true := by decide +kernel
theorem zst1.others_hold_7 : tables_1_7.all (fun c => zsu_isCode c || c.before args0 about) = true := zsu_all_split _ 40 tables_1_7 others_7_0 others_7_1
theorem zst1.words_7 : ∀ c ∈ tables_1_7, c.before args0 about = true := fun c h => zsu_words others_hold_7 codes_hold_7 c h
theorem zst1.words : ∀ c ∈ (Cond.code x code maxLocals ret :: tables_1), c.before args0 about = true := by
  intro c hc
  rcases List.mem_cons.mp hc with h | h
  · rw [h]; exact word_code
  · have h1 : c ∈ tables_1_1 ++ (tables_1_2 ++ (tables_1_3 ++ (tables_1_4 ++ (tables_1_5 ++ (tables_1_6 ++ tables_1_7))))) := h
    rcases List.mem_append.mp h1 with h2 | h1
    · exact words_1 c h2
    rcases List.mem_append.mp h1 with h2 | h1
    · exact words_2 c h2
    rcases List.mem_append.mp h1 with h2 | h1
    · exact words_3 c h2
    rcases List.mem_append.mp h1 with h2 | h1
    · exact words_4 c h2
    rcases List.mem_append.mp h1 with h2 | h1
    · exact words_5 c h2
    rcases List.mem_append.mp h1 with h2 | h1
    · exact words_6 c h2
    exact words_7 c h1
