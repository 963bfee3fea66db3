set_option maxRecDepth 16384
theorem zst1.code162 : (Jvm.Cond.code (⟨"Deeprows", "twin", "(I)I"⟩ : Jvm.MethodName) prog_1_method_14_code 3 (some .int)).before args0 about = true :=
  zsu_hand_word (m := ⟨2, 13⟩) (by decide +kernel) rfl (by decide +kernel) (by decide +kernel)
theorem zst1.code163 : (Jvm.Cond.code (⟨"Deeprows", "copied", "(LDeeprows$Row;I)LDeeprows$Row;"⟩ : Jvm.MethodName) prog_1_method_44_code 5 (some (.object "Deeprows$Row"))).before args0 about = true :=
  zsu_hand_word (m := ⟨2, 43⟩) (by decide +kernel) rfl (by decide +kernel) (by decide +kernel)
theorem zst1.code164 : (Jvm.Cond.code (⟨"Deeprows", "deepTwin", "(I)I"⟩ : Jvm.MethodName) prog_1_method_15_code 3 (some .int)).before args0 about = true :=
  zsu_hand_word (m := ⟨2, 14⟩) (by decide +kernel) rfl (by decide +kernel) (by decide +kernel)
theorem zst1.code165 : (Jvm.Cond.code (⟨"Deeprows", "rowsInDeepTwin", "(LDeeprows$Row;I)I"⟩ : Jvm.MethodName) prog_1_method_45_code 5 (some .int)).before args0 about = true :=
  zsu_hand_word (m := ⟨2, 44⟩) (by decide +kernel) rfl (by decide +kernel) (by decide +kernel)
theorem zst1.code166 : (Jvm.Cond.code (⟨"Deeprows", "addDeepTwin", "(LDeeprows;LDeeprows$Row;I)LDeeprows$Row;"⟩ : Jvm.MethodName) prog_1_method_46_code 6 (some (.object "Deeprows$Row"))).before args0 about = true :=
  zsu_hand_word (m := ⟨2, 45⟩) (by decide +kernel) rfl (by decide +kernel) (by decide +kernel)
theorem zst1.code167 : (Jvm.Cond.code (⟨"Deeprows", "copy", "(II)I"⟩ : Jvm.MethodName) prog_1_method_16_code 4 (some .int)).before args0 about = true :=
  zsu_hand_word (m := ⟨2, 15⟩) (by decide +kernel) rfl (by decide +kernel) (by decide +kernel)
theorem zst1.code168 : (Jvm.Cond.code (⟨"Deeprows", "kind", "(I)I"⟩ : Jvm.MethodName) prog_1_method_17_code 2 (some .int)).before args0 about = true :=
  zsu_hand_word (m := ⟨2, 16⟩) (by decide +kernel) rfl (by decide +kernel) (by decide +kernel)
theorem zst1.code169 : (Jvm.Cond.code (⟨"Deeprows", "length", "(I)I"⟩ : Jvm.MethodName) prog_1_method_18_code 2 (some .int)).before args0 about = true :=
  zsu_hand_word (m := ⟨2, 17⟩) (by decide +kernel) rfl (by decide +kernel) (by decide +kernel)
theorem zst1.code170 : (Jvm.Cond.code (⟨"Deeprows", "depth", "(I)I"⟩ : Jvm.MethodName) prog_1_method_19_code 2 (some .int)).before args0 about = true :=
  zsu_hand_word (m := ⟨2, 18⟩) (by decide +kernel) rfl (by decide +kernel) (by decide +kernel)
theorem zst1.code171 : (Jvm.Cond.code (⟨"Deeprows", "isFlat", "(II)Z"⟩ : Jvm.MethodName) prog_1_method_23_code 5 (some .boolean)).before args0 about = true :=
  zsu_hand_word (m := ⟨2, 22⟩) (by decide +kernel) rfl (by decide +kernel) (by decide +kernel)
theorem zst1.code172 : (Jvm.Cond.code (⟨"Deeprows", "requireLikeKinds", "(LDeeprows$Row;LDeeprows$Row;)V"⟩ : Jvm.MethodName) prog_1_method_39_code 2 none).before args0 about = true :=
  zsu_hand_word (m := ⟨2, 38⟩) (by decide +kernel) rfl (by decide +kernel) (by decide +kernel)
theorem zst1.code173 : (Jvm.Cond.code (⟨"Deeprows", "areDeep", "(IIII)Z"⟩ : Jvm.MethodName) prog_1_method_24_code 7 (some .boolean)).before args0 about = true :=
  zsu_hand_word (m := ⟨2, 23⟩) (by decide +kernel) rfl (by decide +kernel) (by decide +kernel)
theorem zst1.code174 : (Jvm.Cond.code (⟨"Deeprows", "hash", "(I)I"⟩ : Jvm.MethodName) prog_1_method_25_code 2 (some .int)).before args0 about = true :=
  zsu_hand_word (m := ⟨2, 24⟩) (by decide +kernel) rfl (by decide +kernel) (by decide +kernel)
theorem zst1.code175 : (Jvm.Cond.code (⟨"Deeprows", "flatHash", "(I)I"⟩ : Jvm.MethodName) prog_1_method_26_code 4 (some .int)).before args0 about = true :=
  zsu_hand_word (m := ⟨2, 25⟩) (by decide +kernel) rfl (by decide +kernel) (by decide +kernel)
theorem zst1.code176 : (Jvm.Cond.code (⟨"Deeprows", "text", "(I)Ljava/lang/String;"⟩ : Jvm.MethodName) prog_1_method_27_code 2 (some (.object "java/lang/String"))).before args0 about = true :=
  zsu_hand_word (m := ⟨2, 26⟩) (by decide +kernel) rfl (by decide +kernel) (by decide +kernel)
theorem zst1.code177 : (Jvm.Cond.code (⟨"Deeprows", "differ", "(II)I"⟩ : Jvm.MethodName) prog_1_method_28_code 5 (some .int)).before args0 about = true :=
  zsu_hand_word (m := ⟨2, 27⟩) (by decide +kernel) rfl (by decide +kernel) (by decide +kernel)
theorem zst1.code178 : (Jvm.Cond.code (⟨"Deeprows", "compare", "(II)I"⟩ : Jvm.MethodName) prog_1_method_29_code 7 (some .int)).before args0 about = true :=
  zsu_hand_word (m := ⟨2, 28⟩) (by decide +kernel) rfl (by decide +kernel) (by decide +kernel)
theorem zst1.code179 : (Jvm.Cond.code (⟨"DeeprowsModel", "<init>", "()V"⟩ : Jvm.MethodName) prog_5_method_3_code 1 none).before args0 about = true :=
  zsu_hand_word (m := ⟨5, 2⟩) (by decide +kernel) rfl (by decide +kernel) (by decide +kernel)
theorem zst1.code180 : (Jvm.Cond.code (⟨"DeeprowsModel", "thrown", "()I"⟩ : Jvm.MethodName) prog_5_method_4_code 1 (some .int)).before args0 about = true :=
  zsu_hand_word (m := ⟨5, 3⟩) (by decide +kernel) rfl (by decide +kernel) (by decide +kernel)
theorem zst1.code181 : (Jvm.Cond.code (⟨"DeeprowsModel", "make", "(II)I"⟩ : Jvm.MethodName) prog_5_method_12_code 3 (some .int)).before args0 about = true :=
  zsu_hand_word (m := ⟨5, 11⟩) (by decide +kernel) rfl (by decide +kernel) (by decide +kernel)
theorem zst1.code182 : (Jvm.Cond.code (⟨"DeeprowsModel", "isIn", "(III)Z"⟩ : Jvm.MethodName) prog_5_method_1_code 3 (some .boolean)).before args0 about = true :=
  zsu_hand_word (m := ⟨5, 0⟩) (by decide +kernel) rfl (by decide +kernel) (by decide +kernel)
theorem zst1.code183 : (Jvm.Cond.code (⟨"DeeprowsModel", "start", "(ZI)Z"⟩ : Jvm.MethodName) prog_5_method_6_code 3 (some .boolean)).before args0 about = true :=
  zsu_hand_word (m := ⟨5, 5⟩) (by decide +kernel) rfl (by decide +kernel) (by decide +kernel)
theorem zst1.code184 : (Jvm.Cond.code (⟨"DeeprowsModel", "refuse", "(ZI)Z"⟩ : Jvm.MethodName) prog_5_method_5_code 3 (some .boolean)).before args0 about = true :=
  zsu_hand_word (m := ⟨5, 4⟩) (by decide +kernel) rfl (by decide +kernel) (by decide +kernel)
theorem zst1.code185 : (Jvm.Cond.code (⟨"DeeprowsModel$Row", "<init>", "(II)V"⟩ : Jvm.MethodName) prog_6_method_1_code 4 none).before args0 about = true :=
  zsu_hand_word (m := ⟨11, 0⟩) (by decide +kernel) rfl (by decide +kernel) (by decide +kernel)
theorem zst1.code186 : (Jvm.Cond.code (⟨"DeeprowsModel$Row", "put", "(III)V"⟩ : Jvm.MethodName) prog_6_method_3_code 4 none).before args0 about = true :=
  zsu_hand_word (m := ⟨11, 2⟩) (by decide +kernel) rfl (by decide +kernel) (by decide +kernel)
theorem zst1.code187 : (Jvm.Cond.code (⟨"DeeprowsModel", "drop", "()I"⟩ : Jvm.MethodName) prog_5_method_13_code 1 (some .int)).before args0 about = true :=
  zsu_hand_word (m := ⟨5, 12⟩) (by decide +kernel) rfl (by decide +kernel) (by decide +kernel)
theorem zst1.code188 : (Jvm.Cond.code (⟨"DeeprowsModel", "empty", "()I"⟩ : Jvm.MethodName) prog_5_method_14_code 2 (some .int)).before args0 about = true :=
  zsu_hand_word (m := ⟨5, 13⟩) (by decide +kernel) rfl (by decide +kernel) (by decide +kernel)
theorem zst1.code189 : (Jvm.Cond.code (⟨"DeeprowsModel", "put", "(III)I"⟩ : Jvm.MethodName) prog_5_method_15_code 4 (some .int)).before args0 about = true :=
  zsu_hand_word (m := ⟨5, 14⟩) (by decide +kernel) rfl (by decide +kernel) (by decide +kernel)
theorem zst1.code190 : (Jvm.Cond.code (⟨"DeeprowsModel", "isNoPlace", "(II)Z"⟩ : Jvm.MethodName) prog_5_method_8_code 3 (some .boolean)).before args0 about = true :=
  zsu_hand_word (m := ⟨5, 7⟩) (by decide +kernel) rfl (by decide +kernel) (by decide +kernel)
theorem zst1.code191 : (Jvm.Cond.code (⟨"DeeprowsModel", "isNoRow", "(I)Z"⟩ : Jvm.MethodName) prog_5_method_7_code 2 (some .boolean)).before args0 about = true :=
  zsu_hand_word (m := ⟨5, 6⟩) (by decide +kernel) rfl (by decide +kernel) (by decide +kernel)
theorem zst1.code192 : (Jvm.Cond.code (⟨"DeeprowsModel$Row", "length", "()I"⟩ : Jvm.MethodName) prog_6_method_2_code 1 (some .int)).before args0 about = true :=
  zsu_hand_word (m := ⟨11, 1⟩) (by decide +kernel) rfl (by decide +kernel) (by decide +kernel)
theorem zst1.code193 : (Jvm.Cond.code (⟨"DeeprowsModel", "isNoNumber", "(I)Z"⟩ : Jvm.MethodName) prog_5_method_9_code 1 (some .boolean)).before args0 about = true :=
  zsu_hand_word (m := ⟨5, 8⟩) (by decide +kernel) rfl (by decide +kernel) (by decide +kernel)
theorem zst1.code194 : (Jvm.Cond.code (⟨"DeeprowsModel$Row", "number", "(II)V"⟩ : Jvm.MethodName) prog_6_method_4_code 3 none).before args0 about = true :=
  zsu_hand_word (m := ⟨11, 3⟩) (by decide +kernel) rfl (by decide +kernel) (by decide +kernel)
theorem zst1.code195 : (Jvm.Cond.code (⟨"DeeprowsModel", "one", "(Z)I"⟩ : Jvm.MethodName) prog_5_method_2_code 1 (some .int)).before args0 about = true :=
  zsu_hand_word (m := ⟨5, 1⟩) (by decide +kernel) rfl (by decide +kernel) (by decide +kernel)
theorem zst1.code196 : (Jvm.Cond.code (⟨"DeeprowsModel", "say", "(III)I"⟩ : Jvm.MethodName) prog_5_method_16_code 4 (some .int)).before args0 about = true :=
  zsu_hand_word (m := ⟨5, 15⟩) (by decide +kernel) rfl (by decide +kernel) (by decide +kernel)
set_option maxRecDepth 16384 in
theorem zst1.codes_are_5 : tables_1_5.filter zsu_isCode = [Jvm.Cond.code (⟨"Deeprows", "twin", "(I)I"⟩ : Jvm.MethodName) prog_1_method_14_code 3 (some .int),
    Jvm.Cond.code (⟨"Deeprows", "copied", "(LDeeprows$Row;I)LDeeprows$Row;"⟩ : Jvm.MethodName) prog_1_method_44_code 5 (some (.object "Deeprows$Row")),
    Jvm.Cond.code (⟨"Deeprows", "deepTwin", "(I)I"⟩ : Jvm.MethodName) prog_1_method_15_code 3 (some .int),
    Jvm.Cond.code (⟨"Deeprows", "rowsInDeepTwin", "(LDeeprows$Row;I)I"⟩ : Jvm.MethodName) prog_1_method_45_code 5 (some .int),
    Jvm.Cond.code (⟨"Deeprows", "addDeepTwin", "(LDeeprows;LDeeprows$Row;I)LDeeprows$Row;"⟩ : Jvm.MethodName) prog_1_method_46_code 6 (some (.object "Deeprows$Row")),
    Jvm.Cond.code (⟨"Deeprows", "copy", "(II)I"⟩ : Jvm.MethodName) prog_1_method_16_code 4 (some .int),
    Jvm.Cond.code (⟨"Deeprows", "kind", "(I)I"⟩ : Jvm.MethodName) prog_1_method_17_code 2 (some .int),
    Jvm.Cond.code (⟨"Deeprows", "length", "(I)I"⟩ : Jvm.MethodName) prog_1_method_18_code 2 (some .int),
    Jvm.Cond.code (⟨"Deeprows", "depth", "(I)I"⟩ : Jvm.MethodName) prog_1_method_19_code 2 (some .int),
    Jvm.Cond.code (⟨"Deeprows", "isFlat", "(II)Z"⟩ : Jvm.MethodName) prog_1_method_23_code 5 (some .boolean),
    Jvm.Cond.code (⟨"Deeprows", "requireLikeKinds", "(LDeeprows$Row;LDeeprows$Row;)V"⟩ : Jvm.MethodName) prog_1_method_39_code 2 none,
    Jvm.Cond.code (⟨"Deeprows", "areDeep", "(IIII)Z"⟩ : Jvm.MethodName) prog_1_method_24_code 7 (some .boolean),
    Jvm.Cond.code (⟨"Deeprows", "hash", "(I)I"⟩ : Jvm.MethodName) prog_1_method_25_code 2 (some .int),
    Jvm.Cond.code (⟨"Deeprows", "flatHash", "(I)I"⟩ : Jvm.MethodName) prog_1_method_26_code 4 (some .int),
    Jvm.Cond.code (⟨"Deeprows", "text", "(I)Ljava/lang/String;"⟩ : Jvm.MethodName) prog_1_method_27_code 2 (some (.object "java/lang/String")),
    Jvm.Cond.code (⟨"Deeprows", "differ", "(II)I"⟩ : Jvm.MethodName) prog_1_method_28_code 5 (some .int),
    Jvm.Cond.code (⟨"Deeprows", "compare", "(II)I"⟩ : Jvm.MethodName) prog_1_method_29_code 7 (some .int),
    Jvm.Cond.code (⟨"DeeprowsModel", "<init>", "()V"⟩ : Jvm.MethodName) prog_5_method_3_code 1 none,
    Jvm.Cond.code (⟨"DeeprowsModel", "thrown", "()I"⟩ : Jvm.MethodName) prog_5_method_4_code 1 (some .int),
    Jvm.Cond.code (⟨"DeeprowsModel", "make", "(II)I"⟩ : Jvm.MethodName) prog_5_method_12_code 3 (some .int),
    Jvm.Cond.code (⟨"DeeprowsModel", "isIn", "(III)Z"⟩ : Jvm.MethodName) prog_5_method_1_code 3 (some .boolean),
    Jvm.Cond.code (⟨"DeeprowsModel", "start", "(ZI)Z"⟩ : Jvm.MethodName) prog_5_method_6_code 3 (some .boolean),
    Jvm.Cond.code (⟨"DeeprowsModel", "refuse", "(ZI)Z"⟩ : Jvm.MethodName) prog_5_method_5_code 3 (some .boolean),
    Jvm.Cond.code (⟨"DeeprowsModel$Row", "<init>", "(II)V"⟩ : Jvm.MethodName) prog_6_method_1_code 4 none,
    Jvm.Cond.code (⟨"DeeprowsModel$Row", "put", "(III)V"⟩ : Jvm.MethodName) prog_6_method_3_code 4 none,
    Jvm.Cond.code (⟨"DeeprowsModel", "drop", "()I"⟩ : Jvm.MethodName) prog_5_method_13_code 1 (some .int),
    Jvm.Cond.code (⟨"DeeprowsModel", "empty", "()I"⟩ : Jvm.MethodName) prog_5_method_14_code 2 (some .int),
    Jvm.Cond.code (⟨"DeeprowsModel", "put", "(III)I"⟩ : Jvm.MethodName) prog_5_method_15_code 4 (some .int),
    Jvm.Cond.code (⟨"DeeprowsModel", "isNoPlace", "(II)Z"⟩ : Jvm.MethodName) prog_5_method_8_code 3 (some .boolean),
    Jvm.Cond.code (⟨"DeeprowsModel", "isNoRow", "(I)Z"⟩ : Jvm.MethodName) prog_5_method_7_code 2 (some .boolean),
    Jvm.Cond.code (⟨"DeeprowsModel$Row", "length", "()I"⟩ : Jvm.MethodName) prog_6_method_2_code 1 (some .int),
    Jvm.Cond.code (⟨"DeeprowsModel", "isNoNumber", "(I)Z"⟩ : Jvm.MethodName) prog_5_method_9_code 1 (some .boolean),
    Jvm.Cond.code (⟨"DeeprowsModel$Row", "number", "(II)V"⟩ : Jvm.MethodName) prog_6_method_4_code 3 none,
    Jvm.Cond.code (⟨"DeeprowsModel", "one", "(Z)I"⟩ : Jvm.MethodName) prog_5_method_2_code 1 (some .int),
    Jvm.Cond.code (⟨"DeeprowsModel", "say", "(III)I"⟩ : Jvm.MethodName) prog_5_method_16_code 4 (some .int)] := by
  first
  | rfl
  | simp only [tables_1_5, List.filter, zsu_isCode]
theorem zst1.codes_hold_5 : ∀ c ∈ tables_1_5.filter zsu_isCode, c.before args0 about = true := by
  rw [codes_are_5]
  exact List.forall_mem_cons.mpr ⟨code162, List.forall_mem_cons.mpr ⟨code163, List.forall_mem_cons.mpr ⟨code164, List.forall_mem_cons.mpr ⟨code165, List.forall_mem_cons.mpr ⟨code166, List.forall_mem_cons.mpr ⟨code167, List.forall_mem_cons.mpr ⟨code168, List.forall_mem_cons.mpr ⟨code169, List.forall_mem_cons.mpr ⟨code170, List.forall_mem_cons.mpr ⟨code171, List.forall_mem_cons.mpr ⟨code172, List.forall_mem_cons.mpr ⟨code173, List.forall_mem_cons.mpr ⟨code174, List.forall_mem_cons.mpr ⟨code175, List.forall_mem_cons.mpr ⟨code176, List.forall_mem_cons.mpr ⟨code177, List.forall_mem_cons.mpr ⟨code178, List.forall_mem_cons.mpr ⟨code179, List.forall_mem_cons.mpr ⟨code180, List.forall_mem_cons.mpr ⟨code181, List.forall_mem_cons.mpr ⟨code182, List.forall_mem_cons.mpr ⟨code183, List.forall_mem_cons.mpr ⟨code184, List.forall_mem_cons.mpr ⟨code185, List.forall_mem_cons.mpr ⟨code186, List.forall_mem_cons.mpr ⟨code187, List.forall_mem_cons.mpr ⟨code188, List.forall_mem_cons.mpr ⟨code189, List.forall_mem_cons.mpr ⟨code190, List.forall_mem_cons.mpr ⟨code191, List.forall_mem_cons.mpr ⟨code192, List.forall_mem_cons.mpr ⟨code193, List.forall_mem_cons.mpr ⟨code194, List.forall_mem_cons.mpr ⟨code195, List.forall_mem_cons.mpr ⟨code196, List.forall_mem_nil _⟩⟩⟩⟩⟩⟩⟩⟩⟩⟩⟩⟩⟩⟩⟩⟩⟩⟩⟩⟩⟩⟩⟩⟩⟩⟩⟩⟩⟩⟩⟩⟩⟩⟩⟩
set_option maxRecDepth 16384 in
theorem zst1.others_5_0 : (tables_1_5.take 40).all (fun c => zsu_isCode c || c.before args0 about) = true := by decide +kernel
set_option maxRecDepth 16384 in
theorem zst1.others_5_1 : ((tables_1_5.drop 40).take 40).all (fun c => zsu_isCode c || c.before args0 about) = true := by decide +kernel
set_option maxRecDepth 16384 in
theorem zst1.others_5_2 : (((tables_1_5.drop 40).drop 40).take 40).all (fun c => zsu_isCode c || c.before args0 about) = true := by decide +kernel
set_option maxRecDepth 16384 in
theorem zst1.others_5_3 : ((((tables_1_5.drop 40).drop 40).drop 40).take 40).all (fun c => zsu_isCode c || c.before args0 about) = true := by decide +kernel
set_option maxRecDepth 16384 in
theorem zst1.others_5_4 : (((((tables_1_5.drop 40).drop 40).drop 40).drop 40).take 40).all (fun c => zsu_isCode c || c.before args0 about) = true := by decide +kernel
set_option maxRecDepth 16384 in
theorem zst1.others_5_5 : (((((tables_1_5.drop 40).drop 40).drop 40).drop 40).drop 40).all (fun c => zsu_isCode c || c.before args0 about) = true := by decide +kernel
theorem zst1.others_hold_5 : tables_1_5.all (fun c => zsu_isCode c || c.before args0 about) = true := zsu_all_split _ 40 tables_1_5 others_5_0 (zsu_all_split _ 40 (tables_1_5.drop 40) others_5_1 (zsu_all_split _ 40 ((tables_1_5.drop 40).drop 40) others_5_2 (zsu_all_split _ 40 (((tables_1_5.drop 40).drop 40).drop 40) others_5_3 (zsu_all_split _ 40 ((((tables_1_5.drop 40).drop 40).drop 40).drop 40) others_5_4 others_5_5))))
theorem zst1.words_5 : ∀ c ∈ tables_1_5, c.before args0 about = true := fun c h => zsu_words others_hold_5 codes_hold_5 c h
