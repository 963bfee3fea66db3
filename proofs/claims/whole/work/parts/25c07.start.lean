set_option maxRecDepth 16384
theorem zst1.code123 : (Jvm.Cond.code (⟨"Deeprows", "at", "(II)I"⟩ : Jvm.MethodName) prog_1_method_21_code 5 (some .int)).before args0 about = true :=
  zsu_hand_word (m := ⟨2, 20⟩) (by decide +kernel) rfl (by decide +kernel) (by decide +kernel)
theorem zst1.code124 : (Jvm.Cond.code (⟨"Deeprows", "isDeep", "(II)Z"⟩ : Jvm.MethodName) prog_1_method_22_code 3 (some .boolean)).before args0 about = true :=
  zsu_hand_word (m := ⟨2, 21⟩) (by decide +kernel) rfl (by decide +kernel) (by decide +kernel)
theorem zst1.code125 : (Jvm.Cond.code (⟨"DeeprowsLaw$Out", "<init>", "()V"⟩ : Jvm.MethodName) prog_4_method_1_code 1 none).before args0 about = true :=
  zsu_hand_word (m := ⟨6, 0⟩) (by decide +kernel) rfl (by decide +kernel) (by decide +kernel)
theorem zst1.code126 : (Jvm.Cond.code (⟨"Deeprows", "make", "(II)I"⟩ : Jvm.MethodName) prog_1_method_2_code 3 (some .int)).before args0 about = true :=
  zsu_hand_word (m := ⟨2, 1⟩) (by decide +kernel) rfl (by decide +kernel) (by decide +kernel)
theorem zst1.code127 : (Jvm.Cond.code (⟨"Deeprows", "requireLength", "(I)V"⟩ : Jvm.MethodName) prog_1_method_37_code 1 none).before args0 about = true :=
  zsu_hand_word (m := ⟨2, 36⟩) (by decide +kernel) rfl (by decide +kernel) (by decide +kernel)
theorem zst1.code128 : (Jvm.Cond.code (⟨"Deeprows", "requireRoom", "(I)V"⟩ : Jvm.MethodName) prog_1_method_41_code 2 none).before args0 about = true :=
  zsu_hand_word (m := ⟨2, 40⟩) (by decide +kernel) rfl (by decide +kernel) (by decide +kernel)
theorem zst1.code129 : (Jvm.Cond.code (⟨"java/lang/IllegalStateException", "<init>", "(Ljava/lang/String;)V"⟩ : Jvm.MethodName) prog_16_method_2_code 2 none).before args0 about = true :=
  zsu_hand_word (m := ⟨39, 0⟩) (by decide +kernel) rfl (by decide +kernel) (by decide +kernel)
theorem zst1.code130 : (Jvm.Cond.code (⟨"Deeprows", "addRow", "(LDeeprows$Row;)LDeeprows$Row;"⟩ : Jvm.MethodName) prog_1_method_43_code 2 (some (.object "Deeprows$Row"))).before args0 about = true :=
  zsu_hand_word (m := ⟨2, 42⟩) (by decide +kernel) rfl (by decide +kernel) (by decide +kernel)
theorem zst1.code131 : (Jvm.Cond.code (⟨"java/util/ArrayList", "add", "(Ljava/lang/Object;)Z"⟩ : Jvm.MethodName) prog_35_method_25_code 2 (some .boolean)).before args0 about = true :=
  zsu_hand_word (m := ⟨41, 8⟩) (by decide +kernel) rfl (by decide +kernel) (by decide +kernel)
theorem zst1.code132 : (Jvm.Cond.code (⟨"java/util/ArrayList", "add", "(Ljava/lang/Object;[Ljava/lang/Object;I)V"⟩ : Jvm.MethodName) prog_35_method_24_code 4 none).before args0 about = true :=
  zsu_hand_word (m := ⟨41, 7⟩) (by decide +kernel) rfl (by decide +kernel) (by decide +kernel)
theorem zst1.code133 : (Jvm.Cond.code (⟨"java/util/ArrayList", "grow", "()[Ljava/lang/Object;"⟩ : Jvm.MethodName) prog_35_method_7_code 1 (some (.array (.object "java/lang/Object")))).before args0 about = true :=
  zsu_hand_word (m := ⟨41, 2⟩) (by decide +kernel) rfl (by decide +kernel) (by decide +kernel)
theorem zst1.code134 : (Jvm.Cond.code (⟨"java/util/ArrayList", "grow", "(I)[Ljava/lang/Object;"⟩ : Jvm.MethodName) prog_35_method_6_code 4 (some (.array (.object "java/lang/Object")))).before args0 about = true :=
  zsu_hand_word (m := ⟨41, 1⟩) (by decide +kernel) rfl (by decide +kernel) (by decide +kernel)
theorem zst1.code135 : (Jvm.Cond.code (⟨"java/util/Arrays", "copyOf", "([Ljava/lang/Object;I)[Ljava/lang/Object;"⟩ : Jvm.MethodName) prog_36_method_119_code 2 (some (.array (.object "java/lang/Object")))).before args0 about = true :=
  zsu_hand_word (m := ⟨9, 2⟩) (by decide +kernel) rfl (by decide +kernel) (by decide +kernel)
theorem zst1.code136 : (Jvm.Cond.code (⟨"java/util/Arrays", "copyOf", "([Ljava/lang/Object;ILjava/lang/Class;)[Ljava/lang/Object;"⟩ : Jvm.MethodName) prog_36_method_120_code 4 (some (.array (.object "java/lang/Object")))).before args0 about = true :=
  zsu_hand_word (m := ⟨9, 3⟩) (by decide +kernel) rfl (by decide +kernel) (by decide +kernel)
theorem zst1.code137 : (Jvm.Cond.code (⟨"Deeprows", "drop", "()I"⟩ : Jvm.MethodName) prog_1_method_3_code 1 (some .int)).before args0 about = true :=
  zsu_hand_word (m := ⟨2, 2⟩) (by decide +kernel) rfl (by decide +kernel) (by decide +kernel)
theorem zst1.code138 : (Jvm.Cond.code (⟨"java/util/ArrayList", "isEmpty", "()Z"⟩ : Jvm.MethodName) prog_35_method_9_code 1 (some .boolean)).before args0 about = true :=
  zsu_hand_word (m := ⟨41, 4⟩) (by decide +kernel) rfl (by decide +kernel) (by decide +kernel)
theorem zst1.code139 : (Jvm.Cond.code (⟨"java/util/ArrayList", "remove", "(I)Ljava/lang/Object;"⟩ : Jvm.MethodName) prog_35_method_29_code 4 (some (.object "java/lang/Object"))).before args0 about = true :=
  zsu_hand_word (m := ⟨41, 9⟩) (by decide +kernel) rfl (by decide +kernel) (by decide +kernel)
theorem zst1.code140 : (Jvm.Cond.code (⟨"java/util/ArrayList", "fastRemove", "([Ljava/lang/Object;I)V"⟩ : Jvm.MethodName) prog_35_method_39_code 4 none).before args0 about = true :=
  zsu_hand_word (m := ⟨41, 10⟩) (by decide +kernel) rfl (by decide +kernel) (by decide +kernel)
theorem zst1.code141 : (Jvm.Cond.code (⟨"Deeprows", "put", "(III)I"⟩ : Jvm.MethodName) prog_1_method_5_code 5 (some .int)).before args0 about = true :=
  zsu_hand_word (m := ⟨2, 4⟩) (by decide +kernel) rfl (by decide +kernel) (by decide +kernel)
theorem zst1.code142 : (Jvm.Cond.code (⟨"Deeprows", "requireNumber", "(I)V"⟩ : Jvm.MethodName) prog_1_method_36_code 1 none).before args0 about = true :=
  zsu_hand_word (m := ⟨2, 35⟩) (by decide +kernel) rfl (by decide +kernel) (by decide +kernel)
theorem zst1.code143 : (Jvm.Cond.code (⟨"Deeprows$Row", "putNumber", "(II)V"⟩ : Jvm.MethodName) prog_2_method_3_code 3 none).before args0 about = true :=
  zsu_hand_word (m := ⟨3, 2⟩) (by decide +kernel) rfl (by decide +kernel) (by decide +kernel)
theorem zst1.code144 : (Jvm.Cond.code (⟨"Deeprows", "fitting", "(II)I"⟩ : Jvm.MethodName) prog_1_method_47_code 2 (some .int)).before args0 about = true :=
  zsu_hand_word (m := ⟨2, 46⟩) (by decide +kernel) rfl (by decide +kernel) (by decide +kernel)
theorem zst1.code145 : (Jvm.Cond.code (⟨"java/lang/Math", "floorMod", "(II)I"⟩ : Jvm.MethodName) prog_21_method_50_code 3 (some .int)).before args0 about = true :=
  zsu_hand_word (m := ⟨8, 0⟩) (by decide +kernel) rfl (by decide +kernel) (by decide +kernel)
theorem zst1.code146 : (Jvm.Cond.code (⟨"Deeprows", "say", "(III)I"⟩ : Jvm.MethodName) prog_1_method_6_code 5 (some .int)).before args0 about = true :=
  zsu_hand_word (m := ⟨2, 5⟩) (by decide +kernel) rfl (by decide +kernel) (by decide +kernel)
theorem zst1.code147 : (Jvm.Cond.code (⟨"Deeprows", "requireThings", "(LDeeprows$Row;)V"⟩ : Jvm.MethodName) prog_1_method_38_code 1 none).before args0 about = true :=
  zsu_hand_word (m := ⟨2, 37⟩) (by decide +kernel) rfl (by decide +kernel) (by decide +kernel)
theorem zst1.code148 : (Jvm.Cond.code (⟨"Deeprows$Row", "putText", "(II)V"⟩ : Jvm.MethodName) prog_2_method_4_code 3 none).before args0 about = true :=
  zsu_hand_word (m := ⟨3, 3⟩) (by decide +kernel) rfl (by decide +kernel) (by decide +kernel)
theorem zst1.code149 : (Jvm.Cond.code (⟨"Deeprows", "none", "(II)I"⟩ : Jvm.MethodName) prog_1_method_7_code 4 (some .int)).before args0 about = true :=
  zsu_hand_word (m := ⟨2, 6⟩) (by decide +kernel) rfl (by decide +kernel) (by decide +kernel)
theorem zst1.code150 : (Jvm.Cond.code (⟨"Deeprows$Row", "putNothing", "(I)V"⟩ : Jvm.MethodName) prog_2_method_5_code 2 none).before args0 about = true :=
  zsu_hand_word (m := ⟨3, 4⟩) (by decide +kernel) rfl (by decide +kernel) (by decide +kernel)
theorem zst1.code151 : (Jvm.Cond.code (⟨"Deeprows", "hang", "(III)I"⟩ : Jvm.MethodName) prog_1_method_8_code 7 (some .int)).before args0 about = true :=
  zsu_hand_word (m := ⟨2, 7⟩) (by decide +kernel) rfl (by decide +kernel) (by decide +kernel)
theorem zst1.code152 : (Jvm.Cond.code (⟨"Deeprows", "requireLess", "(II)V"⟩ : Jvm.MethodName) prog_1_method_40_code 2 none).before args0 about = true :=
  zsu_hand_word (m := ⟨2, 39⟩) (by decide +kernel) rfl (by decide +kernel) (by decide +kernel)
theorem zst1.code153 : (Jvm.Cond.code (⟨"Deeprows", "depthBeside", "(LDeeprows$Row;I)I"⟩ : Jvm.MethodName) prog_1_method_51_code 5 (some .int)).before args0 about = true :=
  zsu_hand_word (m := ⟨2, 50⟩) (by decide +kernel) rfl (by decide +kernel) (by decide +kernel)
theorem zst1.code154 : (Jvm.Cond.code (⟨"Deeprows", "requireDepths", "(LDeeprows$Row;I)V"⟩ : Jvm.MethodName) prog_1_method_42_code 4 none).before args0 about = true :=
  zsu_hand_word (m := ⟨2, 41⟩) (by decide +kernel) rfl (by decide +kernel) (by decide +kernel)
theorem zst1.code155 : (Jvm.Cond.code (⟨"Deeprows", "swap", "(III)I"⟩ : Jvm.MethodName) prog_1_method_9_code 8 (some .int)).before args0 about = true :=
  zsu_hand_word (m := ⟨2, 8⟩) (by decide +kernel) rfl (by decide +kernel) (by decide +kernel)
theorem zst1.code156 : (Jvm.Cond.code (⟨"Deeprows$Row", "putSame", "(ILDeeprows$Row;I)V"⟩ : Jvm.MethodName) prog_2_method_7_code 4 none).before args0 about = true :=
  zsu_hand_word (m := ⟨3, 6⟩) (by decide +kernel) rfl (by decide +kernel) (by decide +kernel)
theorem zst1.code157 : (Jvm.Cond.code (⟨"Deeprows", "fill", "(II)I"⟩ : Jvm.MethodName) prog_1_method_10_code 5 (some .int)).before args0 about = true :=
  zsu_hand_word (m := ⟨2, 9⟩) (by decide +kernel) rfl (by decide +kernel) (by decide +kernel)
theorem zst1.code158 : (Jvm.Cond.code (⟨"Deeprows", "fillRow", "(II)I"⟩ : Jvm.MethodName) prog_1_method_11_code 7 (some .int)).before args0 about = true :=
  zsu_hand_word (m := ⟨2, 10⟩) (by decide +kernel) rfl (by decide +kernel) (by decide +kernel)
theorem zst1.code159 : (Jvm.Cond.code (⟨"Deeprows", "setAll", "(IIII)I"⟩ : Jvm.MethodName) prog_1_method_12_code 7 (some .int)).before args0 about = true :=
  zsu_hand_word (m := ⟨2, 11⟩) (by decide +kernel) rfl (by decide +kernel) (by decide +kernel)
theorem zst1.code160 : (Jvm.Cond.code (⟨"Deeprows", "bounded", "(I)I"⟩ : Jvm.MethodName) prog_1_method_48_code 1 (some .int)).before args0 about = true :=
  zsu_hand_word (m := ⟨2, 47⟩) (by decide +kernel) rfl (by decide +kernel) (by decide +kernel)
theorem zst1.code161 : (Jvm.Cond.code (⟨"Deeprows", "setRows", "(II)I"⟩ : Jvm.MethodName) prog_1_method_13_code 6 (some .int)).before args0 about = true :=
  zsu_hand_word (m := ⟨2, 12⟩) (by decide +kernel) rfl (by decide +kernel) (by decide +kernel)
set_option maxRecDepth 16384 in
theorem zst1.codes_are_4 : tables_1_4.filter zsu_isCode = [Jvm.Cond.code (⟨"Deeprows", "at", "(II)I"⟩ : Jvm.MethodName) prog_1_method_21_code 5 (some .int),
    Jvm.Cond.code (⟨"Deeprows", "isDeep", "(II)Z"⟩ : Jvm.MethodName) prog_1_method_22_code 3 (some .boolean),
    Jvm.Cond.code (⟨"DeeprowsLaw$Out", "<init>", "()V"⟩ : Jvm.MethodName) prog_4_method_1_code 1 none,
    Jvm.Cond.code (⟨"Deeprows", "make", "(II)I"⟩ : Jvm.MethodName) prog_1_method_2_code 3 (some .int),
    Jvm.Cond.code (⟨"Deeprows", "requireLength", "(I)V"⟩ : Jvm.MethodName) prog_1_method_37_code 1 none,
    Jvm.Cond.code (⟨"Deeprows", "requireRoom", "(I)V"⟩ : Jvm.MethodName) prog_1_method_41_code 2 none,
    Jvm.Cond.code (⟨"java/lang/IllegalStateException", "<init>", "(Ljava/lang/String;)V"⟩ : Jvm.MethodName) prog_16_method_2_code 2 none,
    Jvm.Cond.code (⟨"Deeprows", "addRow", "(LDeeprows$Row;)LDeeprows$Row;"⟩ : Jvm.MethodName) prog_1_method_43_code 2 (some (.object "Deeprows$Row")),
    Jvm.Cond.code (⟨"java/util/ArrayList", "add", "(Ljava/lang/Object;)Z"⟩ : Jvm.MethodName) prog_35_method_25_code 2 (some .boolean),
    Jvm.Cond.code (⟨"java/util/ArrayList", "add", "(Ljava/lang/Object;[Ljava/lang/Object;I)V"⟩ : Jvm.MethodName) prog_35_method_24_code 4 none,
    Jvm.Cond.code (⟨"java/util/ArrayList", "grow", "()[Ljava/lang/Object;"⟩ : Jvm.MethodName) prog_35_method_7_code 1 (some (.array (.object "java/lang/Object"))),
    Jvm.Cond.code (⟨"java/util/ArrayList", "grow", "(I)[Ljava/lang/Object;"⟩ : Jvm.MethodName) prog_35_method_6_code 4 (some (.array (.object "java/lang/Object"))),
    Jvm.Cond.code (⟨"java/util/Arrays", "copyOf", "([Ljava/lang/Object;I)[Ljava/lang/Object;"⟩ : Jvm.MethodName) prog_36_method_119_code 2 (some (.array (.object "java/lang/Object"))),
    Jvm.Cond.code (⟨"java/util/Arrays", "copyOf", "([Ljava/lang/Object;ILjava/lang/Class;)[Ljava/lang/Object;"⟩ : Jvm.MethodName) prog_36_method_120_code 4 (some (.array (.object "java/lang/Object"))),
    Jvm.Cond.code (⟨"Deeprows", "drop", "()I"⟩ : Jvm.MethodName) prog_1_method_3_code 1 (some .int),
    Jvm.Cond.code (⟨"java/util/ArrayList", "isEmpty", "()Z"⟩ : Jvm.MethodName) prog_35_method_9_code 1 (some .boolean),
    Jvm.Cond.code (⟨"java/util/ArrayList", "remove", "(I)Ljava/lang/Object;"⟩ : Jvm.MethodName) prog_35_method_29_code 4 (some (.object "java/lang/Object")),
    Jvm.Cond.code (⟨"java/util/ArrayList", "fastRemove", "([Ljava/lang/Object;I)V"⟩ : Jvm.MethodName) prog_35_method_39_code 4 none,
    Jvm.Cond.code (⟨"Deeprows", "put", "(III)I"⟩ : Jvm.MethodName) prog_1_method_5_code 5 (some .int),
    Jvm.Cond.code (⟨"Deeprows", "requireNumber", "(I)V"⟩ : Jvm.MethodName) prog_1_method_36_code 1 none,
    Jvm.Cond.code (⟨"Deeprows$Row", "putNumber", "(II)V"⟩ : Jvm.MethodName) prog_2_method_3_code 3 none,
    Jvm.Cond.code (⟨"Deeprows", "fitting", "(II)I"⟩ : Jvm.MethodName) prog_1_method_47_code 2 (some .int),
    Jvm.Cond.code (⟨"java/lang/Math", "floorMod", "(II)I"⟩ : Jvm.MethodName) prog_21_method_50_code 3 (some .int),
    Jvm.Cond.code (⟨"Deeprows", "say", "(III)I"⟩ : Jvm.MethodName) prog_1_method_6_code 5 (some .int),
    Jvm.Cond.code (⟨"Deeprows", "requireThings", "(LDeeprows$Row;)V"⟩ : Jvm.MethodName) prog_1_method_38_code 1 none,
    Jvm.Cond.code (⟨"Deeprows$Row", "putText", "(II)V"⟩ : Jvm.MethodName) prog_2_method_4_code 3 none,
    Jvm.Cond.code (⟨"Deeprows", "none", "(II)I"⟩ : Jvm.MethodName) prog_1_method_7_code 4 (some .int),
    Jvm.Cond.code (⟨"Deeprows$Row", "putNothing", "(I)V"⟩ : Jvm.MethodName) prog_2_method_5_code 2 none,
    Jvm.Cond.code (⟨"Deeprows", "hang", "(III)I"⟩ : Jvm.MethodName) prog_1_method_8_code 7 (some .int),
    Jvm.Cond.code (⟨"Deeprows", "requireLess", "(II)V"⟩ : Jvm.MethodName) prog_1_method_40_code 2 none,
    Jvm.Cond.code (⟨"Deeprows", "depthBeside", "(LDeeprows$Row;I)I"⟩ : Jvm.MethodName) prog_1_method_51_code 5 (some .int),
    Jvm.Cond.code (⟨"Deeprows", "requireDepths", "(LDeeprows$Row;I)V"⟩ : Jvm.MethodName) prog_1_method_42_code 4 none,
    Jvm.Cond.code (⟨"Deeprows", "swap", "(III)I"⟩ : Jvm.MethodName) prog_1_method_9_code 8 (some .int),
    Jvm.Cond.code (⟨"Deeprows$Row", "putSame", "(ILDeeprows$Row;I)V"⟩ : Jvm.MethodName) prog_2_method_7_code 4 none,
    Jvm.Cond.code (⟨"Deeprows", "fill", "(II)I"⟩ : Jvm.MethodName) prog_1_method_10_code 5 (some .int),
    Jvm.Cond.code (⟨"Deeprows", "fillRow", "(II)I"⟩ : Jvm.MethodName) prog_1_method_11_code 7 (some .int),
    Jvm.Cond.code (⟨"Deeprows", "setAll", "(IIII)I"⟩ : Jvm.MethodName) prog_1_method_12_code 7 (some .int),
    Jvm.Cond.code (⟨"Deeprows", "bounded", "(I)I"⟩ : Jvm.MethodName) prog_1_method_48_code 1 (some .int),
    Jvm.Cond.code (⟨"Deeprows", "setRows", "(II)I"⟩ : Jvm.MethodName) prog_1_method_13_code 6 (some .int)] := by
  first
  | rfl
  | simp only [tables_1_4, List.filter, zsu_isCode]
theorem zst1.codes_hold_4 : ∀ c ∈ tables_1_4.filter zsu_isCode, c.before args0 about = true := by
  rw [codes_are_4]
  exact List.forall_mem_cons.mpr ⟨code123, List.forall_mem_cons.mpr ⟨code124, List.forall_mem_cons.mpr ⟨code125, List.forall_mem_cons.mpr ⟨code126, List.forall_mem_cons.mpr ⟨code127, List.forall_mem_cons.mpr ⟨code128, List.forall_mem_cons.mpr ⟨code129, List.forall_mem_cons.mpr ⟨code130, List.forall_mem_cons.mpr ⟨code131, List.forall_mem_cons.mpr ⟨code132, List.forall_mem_cons.mpr ⟨code133, List.forall_mem_cons.mpr ⟨code134, List.forall_mem_cons.mpr ⟨code135, List.forall_mem_cons.mpr ⟨code136, List.forall_mem_cons.mpr ⟨code137, List.forall_mem_cons.mpr ⟨code138, List.forall_mem_cons.mpr ⟨code139, List.forall_mem_cons.mpr ⟨code140, List.forall_mem_cons.mpr ⟨code141, List.forall_mem_cons.mpr ⟨code142, List.forall_mem_cons.mpr ⟨code143, List.forall_mem_cons.mpr ⟨code144, List.forall_mem_cons.mpr ⟨code145, List.forall_mem_cons.mpr ⟨code146, List.forall_mem_cons.mpr ⟨code147, List.forall_mem_cons.mpr ⟨code148, List.forall_mem_cons.mpr ⟨code149, List.forall_mem_cons.mpr ⟨code150, List.forall_mem_cons.mpr ⟨code151, List.forall_mem_cons.mpr ⟨code152, List.forall_mem_cons.mpr ⟨code153, List.forall_mem_cons.mpr ⟨code154, List.forall_mem_cons.mpr ⟨code155, List.forall_mem_cons.mpr ⟨code156, List.forall_mem_cons.mpr ⟨code157, List.forall_mem_cons.mpr ⟨code158, List.forall_mem_cons.mpr ⟨code159, List.forall_mem_cons.mpr ⟨code160, List.forall_mem_cons.mpr ⟨code161, List.forall_mem_nil _⟩⟩⟩⟩⟩⟩⟩⟩⟩⟩⟩⟩⟩⟩⟩⟩⟩⟩⟩⟩⟩⟩⟩⟩⟩⟩⟩⟩⟩⟩⟩⟩⟩⟩⟩⟩⟩⟩⟩
set_option maxRecDepth 16384 in
theorem zst1.others_4_0 : (tables_1_4.take 40).all (fun c => zsu_isCode c || c.before args0 about) = true := by decide +kernel
set_option maxRecDepth 16384 in
theorem zst1.others_4_1 : ((tables_1_4.drop 40).take 39).all (fun c => zsu_isCode c || c.before args0 about) = true := by decide +kernel
set_option maxRecDepth 16384 in
theorem zst1.others_4_2 : (((tables_1_4.drop 40).drop 39).take 24).all (fun c => zsu_isCode c || c.before args0 about) = true := by decide +kernel
set_option maxRecDepth 16384 in
theorem zst1.others_4_3 : ((((tables_1_4.drop 40).drop 39).drop 24).take 36).all (fun c => zsu_isCode c || c.before args0 about) = true := by decide +kernel
set_option maxRecDepth 16384 in
theorem zst1.others_4_4 : (((((tables_1_4.drop 40).drop 39).drop 24).drop 36).take 40).all (fun c => zsu_isCode c || c.before args0 about) = true := by decide +kernel
set_option maxRecDepth 16384 in
theorem zst1.others_4_5 : ((((((tables_1_4.drop 40).drop 39).drop 24).drop 36).drop 40).take 40).all (fun c => zsu_isCode c || c.before args0 about) = true := by decide +kernel
set_option maxRecDepth 16384 in
theorem zst1.others_4_6 : ((((((tables_1_4.drop 40).drop 39).drop 24).drop 36).drop 40).drop 40).all (fun c => zsu_isCode c || c.before args0 about) = true := by decide +kernel
theorem zst1.others_hold_4 : tables_1_4.all (fun c => zsu_isCode c || c.before args0 about) = true := zsu_all_split _ 40 tables_1_4 others_4_0 (zsu_all_split _ 39 (tables_1_4.drop 40) others_4_1 (zsu_all_split _ 24 ((tables_1_4.drop 40).drop 39) others_4_2 (zsu_all_split _ 36 (((tables_1_4.drop 40).drop 39).drop 24) others_4_3 (zsu_all_split _ 40 ((((tables_1_4.drop 40).drop 39).drop 24).drop 36) others_4_4 (zsu_all_split _ 40 (((((tables_1_4.drop 40).drop 39).drop 24).drop 36).drop 40) others_4_5 others_4_6)))))
theorem zst1.words_4 : ∀ c ∈ tables_1_4, c.before args0 about = true := fun c h => zsu_words others_hold_4 codes_hold_4 c h
