set_option maxRecDepth 16384
def zst1.about : State := aboutOf cells0
def zst1.p0 : Program := .bare "" "" ""
def zst1.e0 : Env := launch0.env 0 0 0
theorem zst1.word_code : (Cond.code x code maxLocals ret).before args0 about = true := zsu_hand_word (m := ⟨0, 0⟩) (by decide +kernel) rfl (by decide +kernel) (by decide +kernel)
theorem zst1.zsu_all_split {α : Type} (p : α → Bool) (n : Nat) (l : List α) (h1 : (l.take n).all p = true) (h2 : (l.drop n).all p = true) : l.all p = true := by
  apply List.all_eq_true.mpr
  intro x hx
  have hx' : x ∈ l.take n ++ l.drop n := by rw [List.take_append_drop]; exact hx
  rcases List.mem_append.mp hx' with h | h
  · exact List.all_eq_true.mp h1 x h
  · exact List.all_eq_true.mp h2 x h
theorem zst1.code0 : (Jvm.Cond.code (⟨"Deeprows", "<init>", "()V"⟩ : Jvm.MethodName) prog_1_method_1_code 1 none).before args0 about = true :=
  zsu_hand_word (m := ⟨2, 0⟩) (by decide +kernel) rfl (by decide +kernel) (by decide +kernel)
theorem zst1.code1 : (Jvm.Cond.code (⟨"java/lang/Object", "<init>", "()V"⟩ : Jvm.MethodName) object_method_1_code 1 none).before args0 about = true :=
  zsu_hand_word (m := ⟨1, 0⟩) (by decide +kernel) rfl (by decide +kernel) (by decide +kernel)
theorem zst1.code2 : (Jvm.Cond.code (⟨"java/util/ArrayList", "<init>", "()V"⟩ : Jvm.MethodName) prog_35_method_2_code 1 none).before args0 about = true :=
  zsu_hand_word (m := ⟨41, 0⟩) (by decide +kernel) rfl (by decide +kernel) (by decide +kernel)
theorem zst1.code3 : (Jvm.Cond.code (⟨"java/util/AbstractList", "<init>", "()V"⟩ : Jvm.MethodName) prog_34_method_1_code 1 none).before args0 about = true :=
  zsu_hand_word (m := ⟨37, 0⟩) (by decide +kernel) rfl (by decide +kernel) (by decide +kernel)
theorem zst1.code4 : (Jvm.Cond.code (⟨"java/util/AbstractCollection", "<init>", "()V"⟩ : Jvm.MethodName) prog_33_method_1_code 1 none).before args0 about = true :=
  zsu_hand_word (m := ⟨29, 0⟩) (by decide +kernel) rfl (by decide +kernel) (by decide +kernel)
theorem zst1.code5 : (Jvm.Cond.code (⟨"Deeprows$Row", "<init>", "(II)V"⟩ : Jvm.MethodName) prog_2_method_1_code 4 none).before args0 about = true :=
  zsu_hand_word (m := ⟨3, 0⟩) (by decide +kernel) rfl (by decide +kernel) (by decide +kernel)
theorem zst1.code6 : (Jvm.Cond.code (⟨"java/lang/StringBuilder", "<init>", "()V"⟩ : Jvm.MethodName) prog_25_method_1_code 1 none).before args0 about = true :=
  zsu_hand_word (m := ⟨30, 0⟩) (by decide +kernel) rfl (by decide +kernel) (by decide +kernel)
theorem zst1.code7 : (Jvm.Cond.code (⟨"java/lang/AbstractStringBuilder", "<init>", "(I)V"⟩ : Jvm.MethodName) prog_8_method_2_code 2 none).before args0 about = true :=
  zsu_hand_word (m := ⟨24, 0⟩) (by decide +kernel) rfl (by decide +kernel) (by decide +kernel)
theorem zst1.code8 : (Jvm.Cond.code (⟨"java/lang/StringUTF16", "newBytesFor", "(I)[B"⟩ : Jvm.MethodName) prog_28_method_2_code 1 (some (.array .byte))).before args0 about = true :=
  zsu_hand_word (m := ⟨4, 0⟩) (by decide +kernel) rfl (by decide +kernel) (by decide +kernel)
theorem zst1.code9 : (Jvm.Cond.code (⟨"java/lang/StringUTF16", "newBytesLength", "(I)I"⟩ : Jvm.MethodName) prog_28_method_3_code 1 (some .int)).before args0 about = true :=
  zsu_hand_word (m := ⟨4, 1⟩) (by decide +kernel) rfl (by decide +kernel) (by decide +kernel)
theorem zst1.code10 : (Jvm.Cond.code (⟨"Deeprows", "empty", "()I"⟩ : Jvm.MethodName) prog_1_method_4_code 2 (some .int)).before args0 about = true :=
  zsu_hand_word (m := ⟨2, 3⟩) (by decide +kernel) rfl (by decide +kernel) (by decide +kernel)
theorem zst1.code11 : (Jvm.Cond.code (⟨"java/util/ArrayList", "size", "()I"⟩ : Jvm.MethodName) prog_35_method_8_code 1 (some .int)).before args0 about = true :=
  zsu_hand_word (m := ⟨41, 3⟩) (by decide +kernel) rfl (by decide +kernel) (by decide +kernel)
theorem zst1.code12 : (Jvm.Cond.code (⟨"java/util/ArrayList", "clear", "()V"⟩ : Jvm.MethodName) prog_35_method_40_code 4 none).before args0 about = true :=
  zsu_hand_word (m := ⟨41, 11⟩) (by decide +kernel) rfl (by decide +kernel) (by decide +kernel)
theorem zst1.code13 : (Jvm.Cond.code (⟨"Deeprows", "knock", "()I"⟩ : Jvm.MethodName) prog_1_method_30_code 1 (some .int)).before args0 about = true :=
  zsu_hand_word (m := ⟨2, 29⟩) (by decide +kernel) rfl (by decide +kernel) (by decide +kernel)
theorem zst1.code14 : (Jvm.Cond.code (⟨"Deeprows", "isSound", "()Z"⟩ : Jvm.MethodName) prog_1_method_32_code 4 (some .boolean)).before args0 about = true :=
  zsu_hand_word (m := ⟨2, 31⟩) (by decide +kernel) rfl (by decide +kernel) (by decide +kernel)
theorem zst1.code15 : (Jvm.Cond.code (⟨"java/util/ArrayList", "get", "(I)Ljava/lang/Object;"⟩ : Jvm.MethodName) prog_35_method_20_code 2 (some (.object "java/lang/Object"))).before args0 about = true :=
  zsu_hand_word (m := ⟨41, 6⟩) (by decide +kernel) rfl (by decide +kernel) (by decide +kernel)
theorem zst1.code16 : (Jvm.Cond.code (⟨"java/util/Objects", "checkIndex", "(II)I"⟩ : Jvm.MethodName) prog_39_method_17_code 2 (some .int)).before args0 about = true :=
  zsu_hand_word (m := ⟨12, 0⟩) (by decide +kernel) rfl (by decide +kernel) (by decide +kernel)
theorem zst1.code17 : (Jvm.Cond.code (⟨"jdk/internal/util/Preconditions", "checkIndex", "(IILjava/util/function/BiFunction;)I"⟩ : Jvm.MethodName) prog_43_method_11_code 3 (some .int)).before args0 about = true :=
  zsu_hand_word (m := ⟨13, 0⟩) (by decide +kernel) rfl (by decide +kernel) (by decide +kernel)
theorem zst1.code18 : (Jvm.Cond.code (⟨"java/util/ArrayList", "elementData", "(I)Ljava/lang/Object;"⟩ : Jvm.MethodName) prog_35_method_18_code 2 (some (.object "java/lang/Object"))).before args0 about = true :=
  zsu_hand_word (m := ⟨41, 5⟩) (by decide +kernel) rfl (by decide +kernel) (by decide +kernel)
theorem zst1.code19 : (Jvm.Cond.code (⟨"Deeprows", "writeAnew", "(Ljava/lang/StringBuilder;LDeeprows$Row;)V"⟩ : Jvm.MethodName) prog_1_method_64_code 2 none).before args0 about = true :=
  zsu_hand_word (m := ⟨2, 63⟩) (by decide +kernel) rfl (by decide +kernel) (by decide +kernel)
theorem zst1.code20 : (Jvm.Cond.code (⟨"java/lang/StringBuilder", "setLength", "(I)V"⟩ : Jvm.MethodName) prog_25_method_89_code 2 none).before args0 about = true :=
  zsu_hand_word (m := ⟨30, 7⟩) (by decide +kernel) rfl (by decide +kernel) (by decide +kernel)
theorem zst1.code21 : (Jvm.Cond.code (⟨"java/lang/AbstractStringBuilder", "setLength", "(I)V"⟩ : Jvm.MethodName) prog_8_method_13_code 2 none).before args0 about = true :=
  zsu_hand_word (m := ⟨24, 5⟩) (by decide +kernel) rfl (by decide +kernel) (by decide +kernel)
theorem zst1.code22 : (Jvm.Cond.code (⟨"java/lang/StringIndexOutOfBoundsException", "<init>", "(I)V"⟩ : Jvm.MethodName) prog_26_method_3_code 2 none).before args0 about = true :=
  zsu_hand_word (m := ⟨42, 0⟩) (by decide +kernel) rfl (by decide +kernel) (by decide +kernel)
theorem zst1.code23 : (Jvm.Cond.code (⟨"java/lang/StringBuilder", "append", "(Ljava/lang/String;)Ljava/lang/StringBuilder;"⟩ : Jvm.MethodName) prog_25_method_7_code 2 (some (.object "java/lang/StringBuilder"))).before args0 about = true :=
  zsu_hand_word (m := ⟨30, 1⟩) (by decide +kernel) rfl (by decide +kernel) (by decide +kernel)
theorem zst1.code24 : (Jvm.Cond.code (⟨"java/lang/AbstractStringBuilder", "append", "(Ljava/lang/String;)Ljava/lang/AbstractStringBuilder;"⟩ : Jvm.MethodName) prog_8_method_22_code 3 (some (.object "java/lang/AbstractStringBuilder"))).before args0 about = true :=
  zsu_hand_word (m := ⟨24, 7⟩) (by decide +kernel) rfl (by decide +kernel) (by decide +kernel)
theorem zst1.code25 : (Jvm.Cond.code (⟨"java/lang/AbstractStringBuilder", "appendNull", "()Ljava/lang/AbstractStringBuilder;"⟩ : Jvm.MethodName) prog_8_method_26_code 3 (some (.object "java/lang/AbstractStringBuilder"))).before args0 about = true :=
  zsu_hand_word (m := ⟨24, 8⟩) (by decide +kernel) rfl (by decide +kernel) (by decide +kernel)
theorem zst1.code26 : (Jvm.Cond.code (⟨"java/lang/AbstractStringBuilder", "ensureCapacityInternal", "(I)V"⟩ : Jvm.MethodName) prog_8_method_9_code 3 none).before args0 about = true :=
  zsu_hand_word (m := ⟨24, 2⟩) (by decide +kernel) rfl (by decide +kernel) (by decide +kernel)
theorem zst1.code27 : (Jvm.Cond.code (⟨"java/lang/AbstractStringBuilder", "newCapacity", "(I)I"⟩ : Jvm.MethodName) prog_8_method_10_code 6 (some .int)).before args0 about = true :=
  zsu_hand_word (m := ⟨24, 3⟩) (by decide +kernel) rfl (by decide +kernel) (by decide +kernel)
theorem zst1.code28 : (Jvm.Cond.code (⟨"jdk/internal/util/ArraysSupport", "newLength", "(III)I"⟩ : Jvm.MethodName) prog_42_method_27_code 4 (some .int)).before args0 about = true :=
  zsu_hand_word (m := ⟨7, 0⟩) (by decide +kernel) rfl (by decide +kernel) (by decide +kernel)
theorem zst1.code29 : (Jvm.Cond.code (⟨"java/lang/Math", "max", "(II)I"⟩ : Jvm.MethodName) prog_21_method_65_code 2 (some .int)).before args0 about = true :=
  zsu_hand_word (m := ⟨8, 1⟩) (by decide +kernel) rfl (by decide +kernel) (by decide +kernel)
theorem zst1.code30 : (Jvm.Cond.code (⟨"jdk/internal/util/ArraysSupport", "hugeLength", "(II)I"⟩ : Jvm.MethodName) prog_42_method_28_code 3 (some .int)).before args0 about = true :=
  zsu_hand_word (m := ⟨7, 1⟩) (by decide +kernel) rfl (by decide +kernel) (by decide +kernel)
set_option maxRecDepth 16384 in
theorem zst1.codes_are_1 : tables_1_1.filter zsu_isCode = [Jvm.Cond.code (⟨"Deeprows", "<init>", "()V"⟩ : Jvm.MethodName) prog_1_method_1_code 1 none,
    Jvm.Cond.code (⟨"java/lang/Object", "<init>", "()V"⟩ : Jvm.MethodName) object_method_1_code 1 none,
    Jvm.Cond.code (⟨"java/util/ArrayList", "<init>", "()V"⟩ : Jvm.MethodName) prog_35_method_2_code 1 none,
    Jvm.Cond.code (⟨"java/util/AbstractList", "<init>", "()V"⟩ : Jvm.MethodName) prog_34_method_1_code 1 none,
    Jvm.Cond.code (⟨"java/util/AbstractCollection", "<init>", "()V"⟩ : Jvm.MethodName) prog_33_method_1_code 1 none,
    Jvm.Cond.code (⟨"Deeprows$Row", "<init>", "(II)V"⟩ : Jvm.MethodName) prog_2_method_1_code 4 none,
    Jvm.Cond.code (⟨"java/lang/StringBuilder", "<init>", "()V"⟩ : Jvm.MethodName) prog_25_method_1_code 1 none,
    Jvm.Cond.code (⟨"java/lang/AbstractStringBuilder", "<init>", "(I)V"⟩ : Jvm.MethodName) prog_8_method_2_code 2 none,
    Jvm.Cond.code (⟨"java/lang/StringUTF16", "newBytesFor", "(I)[B"⟩ : Jvm.MethodName) prog_28_method_2_code 1 (some (.array .byte)),
    Jvm.Cond.code (⟨"java/lang/StringUTF16", "newBytesLength", "(I)I"⟩ : Jvm.MethodName) prog_28_method_3_code 1 (some .int),
    Jvm.Cond.code (⟨"Deeprows", "empty", "()I"⟩ : Jvm.MethodName) prog_1_method_4_code 2 (some .int),
    Jvm.Cond.code (⟨"java/util/ArrayList", "size", "()I"⟩ : Jvm.MethodName) prog_35_method_8_code 1 (some .int),
    Jvm.Cond.code (⟨"java/util/ArrayList", "clear", "()V"⟩ : Jvm.MethodName) prog_35_method_40_code 4 none,
    Jvm.Cond.code (⟨"Deeprows", "knock", "()I"⟩ : Jvm.MethodName) prog_1_method_30_code 1 (some .int),
    Jvm.Cond.code (⟨"Deeprows", "isSound", "()Z"⟩ : Jvm.MethodName) prog_1_method_32_code 4 (some .boolean),
    Jvm.Cond.code (⟨"java/util/ArrayList", "get", "(I)Ljava/lang/Object;"⟩ : Jvm.MethodName) prog_35_method_20_code 2 (some (.object "java/lang/Object")),
    Jvm.Cond.code (⟨"java/util/Objects", "checkIndex", "(II)I"⟩ : Jvm.MethodName) prog_39_method_17_code 2 (some .int),
    Jvm.Cond.code (⟨"jdk/internal/util/Preconditions", "checkIndex", "(IILjava/util/function/BiFunction;)I"⟩ : Jvm.MethodName) prog_43_method_11_code 3 (some .int),
    Jvm.Cond.code (⟨"java/util/ArrayList", "elementData", "(I)Ljava/lang/Object;"⟩ : Jvm.MethodName) prog_35_method_18_code 2 (some (.object "java/lang/Object")),
    Jvm.Cond.code (⟨"Deeprows", "writeAnew", "(Ljava/lang/StringBuilder;LDeeprows$Row;)V"⟩ : Jvm.MethodName) prog_1_method_64_code 2 none,
    Jvm.Cond.code (⟨"java/lang/StringBuilder", "setLength", "(I)V"⟩ : Jvm.MethodName) prog_25_method_89_code 2 none,
    Jvm.Cond.code (⟨"java/lang/AbstractStringBuilder", "setLength", "(I)V"⟩ : Jvm.MethodName) prog_8_method_13_code 2 none,
    Jvm.Cond.code (⟨"java/lang/StringIndexOutOfBoundsException", "<init>", "(I)V"⟩ : Jvm.MethodName) prog_26_method_3_code 2 none,
    Jvm.Cond.code (⟨"java/lang/StringBuilder", "append", "(Ljava/lang/String;)Ljava/lang/StringBuilder;"⟩ : Jvm.MethodName) prog_25_method_7_code 2 (some (.object "java/lang/StringBuilder")),
    Jvm.Cond.code (⟨"java/lang/AbstractStringBuilder", "append", "(Ljava/lang/String;)Ljava/lang/AbstractStringBuilder;"⟩ : Jvm.MethodName) prog_8_method_22_code 3 (some (.object "java/lang/AbstractStringBuilder")),
    Jvm.Cond.code (⟨"java/lang/AbstractStringBuilder", "appendNull", "()Ljava/lang/AbstractStringBuilder;"⟩ : Jvm.MethodName) prog_8_method_26_code 3 (some (.object "java/lang/AbstractStringBuilder")),
    Jvm.Cond.code (⟨"java/lang/AbstractStringBuilder", "ensureCapacityInternal", "(I)V"⟩ : Jvm.MethodName) prog_8_method_9_code 3 none,
    Jvm.Cond.code (⟨"java/lang/AbstractStringBuilder", "newCapacity", "(I)I"⟩ : Jvm.MethodName) prog_8_method_10_code 6 (some .int),
    Jvm.Cond.code (⟨"jdk/internal/util/ArraysSupport", "newLength", "(III)I"⟩ : Jvm.MethodName) prog_42_method_27_code 4 (some .int),
    Jvm.Cond.code (⟨"java/lang/Math", "max", "(II)I"⟩ : Jvm.MethodName) prog_21_method_65_code 2 (some .int),
    Jvm.Cond.code (⟨"jdk/internal/util/ArraysSupport", "hugeLength", "(II)I"⟩ : Jvm.MethodName) prog_42_method_28_code 3 (some .int)] := by
  first
  | rfl
  | simp only [tables_1_1, List.filter, zsu_isCode]
theorem zst1.codes_hold_1 : ∀ c ∈ tables_1_1.filter zsu_isCode, c.before args0 about = true := by
  rw [codes_are_1]
  exact List.forall_mem_cons.mpr ⟨code0, List.forall_mem_cons.mpr ⟨code1, List.forall_mem_cons.mpr ⟨code2, List.forall_mem_cons.mpr ⟨code3, List.forall_mem_cons.mpr ⟨code4, List.forall_mem_cons.mpr ⟨code5, List.forall_mem_cons.mpr ⟨code6, List.forall_mem_cons.mpr ⟨code7, List.forall_mem_cons.mpr ⟨code8, List.forall_mem_cons.mpr ⟨code9, List.forall_mem_cons.mpr ⟨code10, List.forall_mem_cons.mpr ⟨code11, List.forall_mem_cons.mpr ⟨code12, List.forall_mem_cons.mpr ⟨code13, List.forall_mem_cons.mpr ⟨code14, List.forall_mem_cons.mpr ⟨code15, List.forall_mem_cons.mpr ⟨code16, List.forall_mem_cons.mpr ⟨code17, List.forall_mem_cons.mpr ⟨code18, List.forall_mem_cons.mpr ⟨code19, List.forall_mem_cons.mpr ⟨code20, List.forall_mem_cons.mpr ⟨code21, List.forall_mem_cons.mpr ⟨code22, List.forall_mem_cons.mpr ⟨code23, List.forall_mem_cons.mpr ⟨code24, List.forall_mem_cons.mpr ⟨code25, List.forall_mem_cons.mpr ⟨code26, List.forall_mem_cons.mpr ⟨code27, List.forall_mem_cons.mpr ⟨code28, List.forall_mem_cons.mpr ⟨code29, List.forall_mem_cons.mpr ⟨code30, List.forall_mem_nil _⟩⟩⟩⟩⟩⟩⟩⟩⟩⟩⟩⟩⟩⟩⟩⟩⟩⟩⟩⟩⟩⟩⟩⟩⟩⟩⟩⟩⟩⟩⟩
set_option maxRecDepth 16384 in
theorem zst1.others_1_0 : (tables_1_1.take 40).all (fun c => zsu_isCode c || c.before args0 about) = true := by decide +kernel
set_option maxRecDepth 16384 in
theorem zst1.others_1_1 : ((tables_1_1.drop 40).take 40).all (fun c => zsu_isCode c || c.before args0 about) = true := by decide +kernel
set_option maxRecDepth 16384 in
theorem zst1.others_1_2 : (((tables_1_1.drop 40).drop 40).take 39).all (fun c => zsu_isCode c || c.before args0 about) = true := by decide +kernel
set_option maxRecDepth 16384 in
theorem zst1.others_1_3 : ((((tables_1_1.drop 40).drop 40).drop 39).take 34).all (fun c => zsu_isCode c || c.before args0 about) = true := by decide +kernel
set_option maxRecDepth 16384 in
theorem zst1.others_1_4 : (((((tables_1_1.drop 40).drop 40).drop 39).drop 34).take 38).all (fun c => zsu_isCode c || c.before args0 about) = true := by decide +kernel
set_option maxRecDepth 16384 in
theorem zst1.others_1_5 : ((((((tables_1_1.drop 40).drop 40).drop 39).drop 34).drop 38).take 35).all (fun c => zsu_isCode c || c.before args0 about) = true := by decide +kernel
set_option maxRecDepth 16384 in
theorem zst1.others_1_6 : ((((((tables_1_1.drop 40).drop 40).drop 39).drop 34).drop 38).drop 35).all (fun c => zsu_isCode c || c.before args0 about) = true := by decide +kernel
theorem zst1.others_hold_1 : tables_1_1.all (fun c => zsu_isCode c || c.before args0 about) = true := zsu_all_split _ 40 tables_1_1 others_1_0 (zsu_all_split _ 40 (tables_1_1.drop 40) others_1_1 (zsu_all_split _ 39 ((tables_1_1.drop 40).drop 40) others_1_2 (zsu_all_split _ 34 (((tables_1_1.drop 40).drop 40).drop 39) others_1_3 (zsu_all_split _ 38 ((((tables_1_1.drop 40).drop 40).drop 39).drop 34) others_1_4 (zsu_all_split _ 35 (((((tables_1_1.drop 40).drop 40).drop 39).drop 34).drop 38) others_1_5 others_1_6)))))
theorem zst1.words_1 : ∀ c ∈ tables_1_1, c.before args0 about = true := fun c h => zsu_words others_hold_1 codes_hold_1 c h
