set_option maxRecDepth 16384
theorem zst1.code197 : (Jvm.Cond.code (⟨"DeeprowsModel", "none", "(II)I"⟩ : Jvm.MethodName) prog_5_method_17_code 3 (some .int)).before args0 about = true :=
  zsu_hand_word (m := ⟨5, 16⟩) (by decide +kernel) rfl (by decide +kernel) (by decide +kernel)
theorem zst1.code198 : (Jvm.Cond.code (⟨"DeeprowsModel", "hang", "(III)I"⟩ : Jvm.MethodName) prog_5_method_19_code 5 (some .int)).before args0 about = true :=
  zsu_hand_word (m := ⟨5, 18⟩) (by decide +kernel) rfl (by decide +kernel) (by decide +kernel)
theorem zst1.code199 : (Jvm.Cond.code (⟨"DeeprowsModel", "nowhere", "(I)[I"⟩ : Jvm.MethodName) prog_5_method_18_code 4 (some (.array .int))).before args0 about = true :=
  zsu_hand_word (m := ⟨5, 17⟩) (by decide +kernel) rfl (by decide +kernel) (by decide +kernel)
theorem zst1.code200 : (Jvm.Cond.code (⟨"DeeprowsModel", "areHung", "(I[I)Z"⟩ : Jvm.MethodName) prog_5_method_11_code 7 (some .boolean)).before args0 about = true :=
  zsu_hand_word (m := ⟨5, 10⟩) (by decide +kernel) rfl (by decide +kernel) (by decide +kernel)
theorem zst1.code201 : (Jvm.Cond.code (⟨"DeeprowsModel$Row", "twin", "(I)LDeeprowsModel$Row;"⟩ : Jvm.MethodName) prog_6_method_6_code 4 (some (.object "DeeprowsModel$Row"))).before args0 about = true :=
  zsu_hand_word (m := ⟨11, 5⟩) (by decide +kernel) rfl (by decide +kernel) (by decide +kernel)
theorem zst1.code202 : (Jvm.Cond.code (⟨"DeeprowsModel", "depthOf", "(I)I"⟩ : Jvm.MethodName) prog_5_method_10_code 6 (some .int)).before args0 about = true :=
  zsu_hand_word (m := ⟨5, 9⟩) (by decide +kernel) rfl (by decide +kernel) (by decide +kernel)
theorem zst1.code203 : (Jvm.Cond.code (⟨"DeeprowsModel$Row", "hangs", "(I)Z"⟩ : Jvm.MethodName) prog_6_method_5_code 2 (some .boolean)).before args0 about = true :=
  zsu_hand_word (m := ⟨11, 4⟩) (by decide +kernel) rfl (by decide +kernel) (by decide +kernel)
theorem zst1.code204 : (Jvm.Cond.code (⟨"DeeprowsModel", "swap", "(III)I"⟩ : Jvm.MethodName) prog_5_method_20_code 7 (some .int)).before args0 about = true :=
  zsu_hand_word (m := ⟨5, 19⟩) (by decide +kernel) rfl (by decide +kernel) (by decide +kernel)
theorem zst1.code205 : (Jvm.Cond.code (⟨"DeeprowsModel", "fill", "(II)I"⟩ : Jvm.MethodName) prog_5_method_21_code 5 (some .int)).before args0 about = true :=
  zsu_hand_word (m := ⟨5, 20⟩) (by decide +kernel) rfl (by decide +kernel) (by decide +kernel)
theorem zst1.code206 : (Jvm.Cond.code (⟨"DeeprowsModel", "fillRow", "(II)I"⟩ : Jvm.MethodName) prog_5_method_22_code 5 (some .int)).before args0 about = true :=
  zsu_hand_word (m := ⟨5, 21⟩) (by decide +kernel) rfl (by decide +kernel) (by decide +kernel)
theorem zst1.code207 : (Jvm.Cond.code (⟨"DeeprowsModel", "setAll", "(IIII)I"⟩ : Jvm.MethodName) prog_5_method_23_code 7 (some .int)).before args0 about = true :=
  zsu_hand_word (m := ⟨5, 22⟩) (by decide +kernel) rfl (by decide +kernel) (by decide +kernel)
theorem zst1.code208 : (Jvm.Cond.code (⟨"DeeprowsModel", "setRows", "(II)I"⟩ : Jvm.MethodName) prog_5_method_24_code 6 (some .int)).before args0 about = true :=
  zsu_hand_word (m := ⟨5, 23⟩) (by decide +kernel) rfl (by decide +kernel) (by decide +kernel)
theorem zst1.code209 : (Jvm.Cond.code (⟨"DeeprowsModel", "twin", "(I)I"⟩ : Jvm.MethodName) prog_5_method_25_code 2 (some .int)).before args0 about = true :=
  zsu_hand_word (m := ⟨5, 24⟩) (by decide +kernel) rfl (by decide +kernel) (by decide +kernel)
theorem zst1.code210 : (Jvm.Cond.code (⟨"DeeprowsModel", "deepTwin", "(I)I"⟩ : Jvm.MethodName) prog_5_method_28_code 2 (some .int)).before args0 about = true :=
  zsu_hand_word (m := ⟨5, 27⟩) (by decide +kernel) rfl (by decide +kernel) (by decide +kernel)
theorem zst1.code211 : (Jvm.Cond.code (⟨"DeeprowsModel", "manyIn", "(I)I"⟩ : Jvm.MethodName) prog_5_method_26_code 5 (some .int)).before args0 about = true :=
  zsu_hand_word (m := ⟨5, 25⟩) (by decide +kernel) rfl (by decide +kernel) (by decide +kernel)
theorem zst1.code212 : (Jvm.Cond.code (⟨"DeeprowsModel", "deepTwinOf", "(I)I"⟩ : Jvm.MethodName) prog_5_method_27_code 5 (some .int)).before args0 about = true :=
  zsu_hand_word (m := ⟨5, 26⟩) (by decide +kernel) rfl (by decide +kernel) (by decide +kernel)
theorem zst1.code213 : (Jvm.Cond.code (⟨"DeeprowsModel", "copy", "(II)I"⟩ : Jvm.MethodName) prog_5_method_29_code 3 (some .int)).before args0 about = true :=
  zsu_hand_word (m := ⟨5, 28⟩) (by decide +kernel) rfl (by decide +kernel) (by decide +kernel)
theorem zst1.code214 : (Jvm.Cond.code (⟨"DeeprowsModel", "kind", "(I)I"⟩ : Jvm.MethodName) prog_5_method_30_code 2 (some .int)).before args0 about = true :=
  zsu_hand_word (m := ⟨5, 29⟩) (by decide +kernel) rfl (by decide +kernel) (by decide +kernel)
theorem zst1.code215 : (Jvm.Cond.code (⟨"DeeprowsModel", "length", "(I)I"⟩ : Jvm.MethodName) prog_5_method_31_code 2 (some .int)).before args0 about = true :=
  zsu_hand_word (m := ⟨5, 30⟩) (by decide +kernel) rfl (by decide +kernel) (by decide +kernel)
theorem zst1.code216 : (Jvm.Cond.code (⟨"DeeprowsModel", "depth", "(I)I"⟩ : Jvm.MethodName) prog_5_method_32_code 2 (some .int)).before args0 about = true :=
  zsu_hand_word (m := ⟨5, 31⟩) (by decide +kernel) rfl (by decide +kernel) (by decide +kernel)
theorem zst1.code217 : (Jvm.Cond.code (⟨"DeeprowsModel", "what", "(II)I"⟩ : Jvm.MethodName) prog_5_method_33_code 3 (some .int)).before args0 about = true :=
  zsu_hand_word (m := ⟨5, 32⟩) (by decide +kernel) rfl (by decide +kernel) (by decide +kernel)
theorem zst1.code218 : (Jvm.Cond.code (⟨"DeeprowsModel", "at", "(II)I"⟩ : Jvm.MethodName) prog_5_method_34_code 3 (some .int)).before args0 about = true :=
  zsu_hand_word (m := ⟨5, 33⟩) (by decide +kernel) rfl (by decide +kernel) (by decide +kernel)
theorem zst1.code219 : (Jvm.Cond.code (⟨"DeeprowsModel", "isDeep", "(II)Z"⟩ : Jvm.MethodName) prog_5_method_37_code 3 (some .boolean)).before args0 about = true :=
  zsu_hand_word (m := ⟨5, 36⟩) (by decide +kernel) rfl (by decide +kernel) (by decide +kernel)
theorem zst1.code220 : (Jvm.Cond.code (⟨"DeeprowsModel", "isDeepOf", "(II)Z"⟩ : Jvm.MethodName) prog_5_method_36_code 7 (some .boolean)).before args0 about = true :=
  zsu_hand_word (m := ⟨5, 35⟩) (by decide +kernel) rfl (by decide +kernel) (by decide +kernel)
theorem zst1.code221 : (Jvm.Cond.code (⟨"DeeprowsModel", "areAlike", "(LDeeprowsModel$Row;ILDeeprowsModel$Row;IZ)Z"⟩ : Jvm.MethodName) prog_5_method_35_code 7 (some .boolean)).before args0 about = true :=
  zsu_hand_word (m := ⟨5, 34⟩) (by decide +kernel) rfl (by decide +kernel) (by decide +kernel)
theorem zst1.code222 : (Jvm.Cond.code (⟨"DeeprowsModel", "isFlat", "(II)Z"⟩ : Jvm.MethodName) prog_5_method_40_code 3 (some .boolean)).before args0 about = true :=
  zsu_hand_word (m := ⟨5, 39⟩) (by decide +kernel) rfl (by decide +kernel) (by decide +kernel)
theorem zst1.code223 : (Jvm.Cond.code (⟨"DeeprowsModel", "areUnlikeKinds", "(II)Z"⟩ : Jvm.MethodName) prog_5_method_38_code 3 (some .boolean)).before args0 about = true :=
  zsu_hand_word (m := ⟨5, 37⟩) (by decide +kernel) rfl (by decide +kernel) (by decide +kernel)
theorem zst1.code224 : (Jvm.Cond.code (⟨"DeeprowsModel", "differOf", "(II)I"⟩ : Jvm.MethodName) prog_5_method_39_code 7 (some .int)).before args0 about = true :=
  zsu_hand_word (m := ⟨5, 38⟩) (by decide +kernel) rfl (by decide +kernel) (by decide +kernel)
theorem zst1.code225 : (Jvm.Cond.code (⟨"DeeprowsModel", "areDeep", "(IIII)Z"⟩ : Jvm.MethodName) prog_5_method_41_code 5 (some .boolean)).before args0 about = true :=
  zsu_hand_word (m := ⟨5, 40⟩) (by decide +kernel) rfl (by decide +kernel) (by decide +kernel)
theorem zst1.code226 : (Jvm.Cond.code (⟨"DeeprowsModel", "hash", "(I)I"⟩ : Jvm.MethodName) prog_5_method_45_code 2 (some .int)).before args0 about = true :=
  zsu_hand_word (m := ⟨5, 44⟩) (by decide +kernel) rfl (by decide +kernel) (by decide +kernel)
theorem zst1.code227 : (Jvm.Cond.code (⟨"DeeprowsModel", "hashOf", "(I)I"⟩ : Jvm.MethodName) prog_5_method_44_code 5 (some .int)).before args0 about = true :=
  zsu_hand_word (m := ⟨5, 43⟩) (by decide +kernel) rfl (by decide +kernel) (by decide +kernel)
theorem zst1.code228 : (Jvm.Cond.code (⟨"DeeprowsModel", "hashAt", "(LDeeprowsModel$Row;I)I"⟩ : Jvm.MethodName) prog_5_method_43_code 6 (some .int)).before args0 about = true :=
  zsu_hand_word (m := ⟨5, 42⟩) (by decide +kernel) rfl (by decide +kernel) (by decide +kernel)
theorem zst1.code229 : (Jvm.Cond.code (⟨"DeeprowsModel", "hashOf", "(Ljava/lang/String;)I"⟩ : Jvm.MethodName) prog_5_method_42_code 3 (some .int)).before args0 about = true :=
  zsu_hand_word (m := ⟨5, 41⟩) (by decide +kernel) rfl (by decide +kernel) (by decide +kernel)
theorem zst1.code230 : (Jvm.Cond.code (⟨"DeeprowsModel", "flatHash", "(I)I"⟩ : Jvm.MethodName) prog_5_method_46_code 2 (some .int)).before args0 about = true :=
  zsu_hand_word (m := ⟨5, 45⟩) (by decide +kernel) rfl (by decide +kernel) (by decide +kernel)
theorem zst1.code231 : (Jvm.Cond.code (⟨"DeeprowsModel", "text", "(I)Ljava/lang/String;"⟩ : Jvm.MethodName) prog_5_method_49_code 2 (some (.object "java/lang/String"))).before args0 about = true :=
  zsu_hand_word (m := ⟨5, 48⟩) (by decide +kernel) rfl (by decide +kernel) (by decide +kernel)
theorem zst1.code232 : (Jvm.Cond.code (⟨"DeeprowsModel", "textOf", "(I)Ljava/lang/String;"⟩ : Jvm.MethodName) prog_5_method_48_code 5 (some (.object "java/lang/String"))).before args0 about = true :=
  zsu_hand_word (m := ⟨5, 47⟩) (by decide +kernel) rfl (by decide +kernel) (by decide +kernel)
theorem zst1.code233 : (Jvm.Cond.code (⟨"DeeprowsModel", "textAt", "(LDeeprowsModel$Row;I)Ljava/lang/String;"⟩ : Jvm.MethodName) prog_5_method_47_code 4 (some (.object "java/lang/String"))).before args0 about = true :=
  zsu_hand_word (m := ⟨5, 46⟩) (by decide +kernel) rfl (by decide +kernel) (by decide +kernel)
theorem zst1.code234 : (Jvm.Cond.code (⟨"java/lang/StringBuilder", "append", "(J)Ljava/lang/StringBuilder;"⟩ : Jvm.MethodName) prog_25_method_16_code 3 (some (.object "java/lang/StringBuilder"))).before args0 about = true :=
  zsu_hand_word (m := ⟨30, 4⟩) (by decide +kernel) rfl (by decide +kernel) (by decide +kernel)
theorem zst1.code235 : (Jvm.Cond.code (⟨"java/lang/AbstractStringBuilder", "append", "(J)Ljava/lang/AbstractStringBuilder;"⟩ : Jvm.MethodName) prog_8_method_33_code 5 (some (.object "java/lang/AbstractStringBuilder"))).before args0 about = true :=
  zsu_hand_word (m := ⟨24, 11⟩) (by decide +kernel) rfl (by decide +kernel) (by decide +kernel)
theorem zst1.code236 : (Jvm.Cond.code (⟨"java/lang/Long", "stringSize", "(J)I"⟩ : Jvm.MethodName) prog_20_method_15_code 6 (some .int)).before args0 about = true :=
  zsu_hand_word (m := ⟨33, 1⟩) (by decide +kernel) rfl (by decide +kernel) (by decide +kernel)
theorem zst1.code237 : (Jvm.Cond.code (⟨"java/lang/Long", "getChars", "(JI[B)I"⟩ : Jvm.MethodName) prog_20_method_14_code 11 (some .int)).before args0 about = true :=
  zsu_hand_word (m := ⟨33, 0⟩) (by decide +kernel) rfl (by decide +kernel) (by decide +kernel)
theorem zst1.code238 : (Jvm.Cond.code (⟨"java/lang/StringUTF16", "getChars", "(JII[B)I"⟩ : Jvm.MethodName) prog_28_method_78_code 6 (some .int)).before args0 about = true :=
  zsu_hand_word (m := ⟨4, 11⟩) (by decide +kernel) rfl (by decide +kernel) (by decide +kernel)
theorem zst1.code239 : (Jvm.Cond.code (⟨"java/lang/StringUTF16", "getChars", "(JI[B)I"⟩ : Jvm.MethodName) prog_28_method_90_code 11 (some .int)).before args0 about = true :=
  zsu_hand_word (m := ⟨4, 16⟩) (by decide +kernel) rfl (by decide +kernel) (by decide +kernel)
theorem zst1.code240 : (Jvm.Cond.code (⟨"DeeprowsModel", "differ", "(II)I"⟩ : Jvm.MethodName) prog_5_method_50_code 3 (some .int)).before args0 about = true :=
  zsu_hand_word (m := ⟨5, 49⟩) (by decide +kernel) rfl (by decide +kernel) (by decide +kernel)
theorem zst1.code241 : (Jvm.Cond.code (⟨"DeeprowsModel", "compare", "(II)I"⟩ : Jvm.MethodName) prog_5_method_51_code 6 (some .int)).before args0 about = true :=
  zsu_hand_word (m := ⟨5, 50⟩) (by decide +kernel) rfl (by decide +kernel) (by decide +kernel)
theorem zst1.code242 : (Jvm.Cond.code (⟨"DeeprowsModel", "knock", "()I"⟩ : Jvm.MethodName) prog_5_method_52_code 1 (some .int)).before args0 about = true :=
  zsu_hand_word (m := ⟨5, 51⟩) (by decide +kernel) rfl (by decide +kernel) (by decide +kernel)
theorem zst1.code243 : (Jvm.Cond.code (⟨"DeeprowsModel", "house", "(I)I"⟩ : Jvm.MethodName) prog_5_method_54_code 2 (some .int)).before args0 about = true :=
  zsu_hand_word (m := ⟨5, 53⟩) (by decide +kernel) rfl (by decide +kernel) (by decide +kernel)
theorem zst1.code244 : (Jvm.Cond.code (⟨"DeeprowsModel", "houseTold", "(I)I"⟩ : Jvm.MethodName) prog_5_method_53_code 6 (some .int)).before args0 about = true :=
  zsu_hand_word (m := ⟨5, 52⟩) (by decide +kernel) rfl (by decide +kernel) (by decide +kernel)
theorem zst1.code245 : (Jvm.Cond.code (⟨"DeeprowsModel", "isSound", "()Z"⟩ : Jvm.MethodName) prog_5_method_55_code 1 (some .boolean)).before args0 about = true :=
  zsu_hand_word (m := ⟨5, 54⟩) (by decide +kernel) rfl (by decide +kernel) (by decide +kernel)
theorem zst1.code246 : (Jvm.Cond.code (⟨"DeeprowsModel", "digest", "()J"⟩ : Jvm.MethodName) prog_5_method_57_code 6 (some .long)).before args0 about = true :=
  zsu_hand_word (m := ⟨5, 56⟩) (by decide +kernel) rfl (by decide +kernel) (by decide +kernel)
theorem zst1.code247 : (Jvm.Cond.code (⟨"DeeprowsModel", "add", "(JJ)J"⟩ : Jvm.MethodName) prog_5_method_56_code 4 (some .long)).before args0 about = true :=
  zsu_hand_word (m := ⟨5, 55⟩) (by decide +kernel) rfl (by decide +kernel) (by decide +kernel)
theorem zst1.code248 : (Jvm.Cond.code (⟨"java/lang/String", "equals", "(Ljava/lang/Object;)Z"⟩ : Jvm.MethodName) prog_24_method_66_code 3 (some .boolean)).before args0 about = true :=
  zsu_hand_word (m := ⟨25, 3⟩) (by decide +kernel) rfl (by decide +kernel) (by decide +kernel)
theorem zst1.code249 : (Jvm.Cond.code (⟨"java/lang/StringLatin1", "equals", "([B[B)Z"⟩ : Jvm.MethodName) prog_27_method_13_code 3 (some .boolean)).before args0 about = true :=
  zsu_hand_word (m := ⟨14, 2⟩) (by decide +kernel) rfl (by decide +kernel) (by decide +kernel)
set_option maxRecDepth 16384 in
theorem zst1.codes_are_6 : tables_1_6.filter zsu_isCode = [Jvm.Cond.code (⟨"DeeprowsModel", "none", "(II)I"⟩ : Jvm.MethodName) prog_5_method_17_code 3 (some .int),
    Jvm.Cond.code (⟨"DeeprowsModel", "hang", "(III)I"⟩ : Jvm.MethodName) prog_5_method_19_code 5 (some .int),
    Jvm.Cond.code (⟨"DeeprowsModel", "nowhere", "(I)[I"⟩ : Jvm.MethodName) prog_5_method_18_code 4 (some (.array .int)),
    Jvm.Cond.code (⟨"DeeprowsModel", "areHung", "(I[I)Z"⟩ : Jvm.MethodName) prog_5_method_11_code 7 (some .boolean),
    Jvm.Cond.code (⟨"DeeprowsModel$Row", "twin", "(I)LDeeprowsModel$Row;"⟩ : Jvm.MethodName) prog_6_method_6_code 4 (some (.object "DeeprowsModel$Row")),
    Jvm.Cond.code (⟨"DeeprowsModel", "depthOf", "(I)I"⟩ : Jvm.MethodName) prog_5_method_10_code 6 (some .int),
    Jvm.Cond.code (⟨"DeeprowsModel$Row", "hangs", "(I)Z"⟩ : Jvm.MethodName) prog_6_method_5_code 2 (some .boolean),
    Jvm.Cond.code (⟨"DeeprowsModel", "swap", "(III)I"⟩ : Jvm.MethodName) prog_5_method_20_code 7 (some .int),
    Jvm.Cond.code (⟨"DeeprowsModel", "fill", "(II)I"⟩ : Jvm.MethodName) prog_5_method_21_code 5 (some .int),
    Jvm.Cond.code (⟨"DeeprowsModel", "fillRow", "(II)I"⟩ : Jvm.MethodName) prog_5_method_22_code 5 (some .int),
    Jvm.Cond.code (⟨"DeeprowsModel", "setAll", "(IIII)I"⟩ : Jvm.MethodName) prog_5_method_23_code 7 (some .int),
    Jvm.Cond.code (⟨"DeeprowsModel", "setRows", "(II)I"⟩ : Jvm.MethodName) prog_5_method_24_code 6 (some .int),
    Jvm.Cond.code (⟨"DeeprowsModel", "twin", "(I)I"⟩ : Jvm.MethodName) prog_5_method_25_code 2 (some .int),
    Jvm.Cond.code (⟨"DeeprowsModel", "deepTwin", "(I)I"⟩ : Jvm.MethodName) prog_5_method_28_code 2 (some .int),
    Jvm.Cond.code (⟨"DeeprowsModel", "manyIn", "(I)I"⟩ : Jvm.MethodName) prog_5_method_26_code 5 (some .int),
    Jvm.Cond.code (⟨"DeeprowsModel", "deepTwinOf", "(I)I"⟩ : Jvm.MethodName) prog_5_method_27_code 5 (some .int),
    Jvm.Cond.code (⟨"DeeprowsModel", "copy", "(II)I"⟩ : Jvm.MethodName) prog_5_method_29_code 3 (some .int),
    Jvm.Cond.code (⟨"DeeprowsModel", "kind", "(I)I"⟩ : Jvm.MethodName) prog_5_method_30_code 2 (some .int),
    Jvm.Cond.code (⟨"DeeprowsModel", "length", "(I)I"⟩ : Jvm.MethodName) prog_5_method_31_code 2 (some .int),
    Jvm.Cond.code (⟨"DeeprowsModel", "depth", "(I)I"⟩ : Jvm.MethodName) prog_5_method_32_code 2 (some .int),
    Jvm.Cond.code (⟨"DeeprowsModel", "what", "(II)I"⟩ : Jvm.MethodName) prog_5_method_33_code 3 (some .int),
    Jvm.Cond.code (⟨"DeeprowsModel", "at", "(II)I"⟩ : Jvm.MethodName) prog_5_method_34_code 3 (some .int),
    Jvm.Cond.code (⟨"DeeprowsModel", "isDeep", "(II)Z"⟩ : Jvm.MethodName) prog_5_method_37_code 3 (some .boolean),
    Jvm.Cond.code (⟨"DeeprowsModel", "isDeepOf", "(II)Z"⟩ : Jvm.MethodName) prog_5_method_36_code 7 (some .boolean),
    Jvm.Cond.code (⟨"DeeprowsModel", "areAlike", "(LDeeprowsModel$Row;ILDeeprowsModel$Row;IZ)Z"⟩ : Jvm.MethodName) prog_5_method_35_code 7 (some .boolean),
    Jvm.Cond.code (⟨"DeeprowsModel", "isFlat", "(II)Z"⟩ : Jvm.MethodName) prog_5_method_40_code 3 (some .boolean),
    Jvm.Cond.code (⟨"DeeprowsModel", "areUnlikeKinds", "(II)Z"⟩ : Jvm.MethodName) prog_5_method_38_code 3 (some .boolean),
    Jvm.Cond.code (⟨"DeeprowsModel", "differOf", "(II)I"⟩ : Jvm.MethodName) prog_5_method_39_code 7 (some .int),
    Jvm.Cond.code (⟨"DeeprowsModel", "areDeep", "(IIII)Z"⟩ : Jvm.MethodName) prog_5_method_41_code 5 (some .boolean),
    Jvm.Cond.code (⟨"DeeprowsModel", "hash", "(I)I"⟩ : Jvm.MethodName) prog_5_method_45_code 2 (some .int),
    Jvm.Cond.code (⟨"DeeprowsModel", "hashOf", "(I)I"⟩ : Jvm.MethodName) prog_5_method_44_code 5 (some .int),
    Jvm.Cond.code (⟨"DeeprowsModel", "hashAt", "(LDeeprowsModel$Row;I)I"⟩ : Jvm.MethodName) prog_5_method_43_code 6 (some .int),
    Jvm.Cond.code (⟨"DeeprowsModel", "hashOf", "(Ljava/lang/String;)I"⟩ : Jvm.MethodName) prog_5_method_42_code 3 (some .int),
    Jvm.Cond.code (⟨"DeeprowsModel", "flatHash", "(I)I"⟩ : Jvm.MethodName) prog_5_method_46_code 2 (some .int),
    Jvm.Cond.code (⟨"DeeprowsModel", "text", "(I)Ljava/lang/String;"⟩ : Jvm.MethodName) prog_5_method_49_code 2 (some (.object "java/lang/String")),
    Jvm.Cond.code (⟨"DeeprowsModel", "textOf", "(I)Ljava/lang/String;"⟩ : Jvm.MethodName) prog_5_method_48_code 5 (some (.object "java/lang/String")),
    Jvm.Cond.code (⟨"DeeprowsModel", "textAt", "(LDeeprowsModel$Row;I)Ljava/lang/String;"⟩ : Jvm.MethodName) prog_5_method_47_code 4 (some (.object "java/lang/String")),
    Jvm.Cond.code (⟨"java/lang/StringBuilder", "append", "(J)Ljava/lang/StringBuilder;"⟩ : Jvm.MethodName) prog_25_method_16_code 3 (some (.object "java/lang/StringBuilder")),
    Jvm.Cond.code (⟨"java/lang/AbstractStringBuilder", "append", "(J)Ljava/lang/AbstractStringBuilder;"⟩ : Jvm.MethodName) prog_8_method_33_code 5 (some (.object "java/lang/AbstractStringBuilder")),
    Jvm.Cond.code (⟨"java/lang/Long", "stringSize", "(J)I"⟩ : Jvm.MethodName) prog_20_method_15_code 6 (some .int),
    Jvm.Cond.code (⟨"java/lang/Long", "getChars", "(JI[B)I"⟩ : Jvm.MethodName) prog_20_method_14_code 11 (some .int),
    Jvm.Cond.code (⟨"java/lang/StringUTF16", "getChars", "(JII[B)I"⟩ : Jvm.MethodName) prog_28_method_78_code 6 (some .int),
    Jvm.Cond.code (⟨"java/lang/StringUTF16", "getChars", "(JI[B)I"⟩ : Jvm.MethodName) prog_28_method_90_code 11 (some .int),
    Jvm.Cond.code (⟨"DeeprowsModel", "differ", "(II)I"⟩ : Jvm.MethodName) prog_5_method_50_code 3 (some .int),
    Jvm.Cond.code (⟨"DeeprowsModel", "compare", "(II)I"⟩ : Jvm.MethodName) prog_5_method_51_code 6 (some .int),
    Jvm.Cond.code (⟨"DeeprowsModel", "knock", "()I"⟩ : Jvm.MethodName) prog_5_method_52_code 1 (some .int),
    Jvm.Cond.code (⟨"DeeprowsModel", "house", "(I)I"⟩ : Jvm.MethodName) prog_5_method_54_code 2 (some .int),
    Jvm.Cond.code (⟨"DeeprowsModel", "houseTold", "(I)I"⟩ : Jvm.MethodName) prog_5_method_53_code 6 (some .int),
    Jvm.Cond.code (⟨"DeeprowsModel", "isSound", "()Z"⟩ : Jvm.MethodName) prog_5_method_55_code 1 (some .boolean),
    Jvm.Cond.code (⟨"DeeprowsModel", "digest", "()J"⟩ : Jvm.MethodName) prog_5_method_57_code 6 (some .long),
    Jvm.Cond.code (⟨"DeeprowsModel", "add", "(JJ)J"⟩ : Jvm.MethodName) prog_5_method_56_code 4 (some .long),
    Jvm.Cond.code (⟨"java/lang/String", "equals", "(Ljava/lang/Object;)Z"⟩ : Jvm.MethodName) prog_24_method_66_code 3 (some .boolean),
    Jvm.Cond.code (⟨"java/lang/StringLatin1", "equals", "([B[B)Z"⟩ : Jvm.MethodName) prog_27_method_13_code 3 (some .boolean)] := by
  first
  | rfl
  | simp only [tables_1_6, List.filter, zsu_isCode]
theorem zst1.codes_hold_6 : ∀ c ∈ tables_1_6.filter zsu_isCode, c.before args0 about = true := by
  rw [codes_are_6]
  exact List.forall_mem_cons.mpr ⟨code197, List.forall_mem_cons.mpr ⟨code198, List.forall_mem_cons.mpr ⟨code199, List.forall_mem_cons.mpr ⟨code200, List.forall_mem_cons.mpr ⟨code201, List.forall_mem_cons.mpr ⟨code202, List.forall_mem_cons.mpr ⟨code203, List.forall_mem_cons.mpr ⟨code204, List.forall_mem_cons.mpr ⟨code205, List.forall_mem_cons.mpr ⟨code206, List.forall_mem_cons.mpr ⟨code207, List.forall_mem_cons.mpr ⟨code208, List.forall_mem_cons.mpr ⟨code209, List.forall_mem_cons.mpr ⟨code210, List.forall_mem_cons.mpr ⟨code211, List.forall_mem_cons.mpr ⟨code212, List.forall_mem_cons.mpr ⟨code213, List.forall_mem_cons.mpr ⟨code214, List.forall_mem_cons.mpr ⟨code215, List.forall_mem_cons.mpr ⟨code216, List.forall_mem_cons.mpr ⟨code217, List.forall_mem_cons.mpr ⟨code218, List.forall_mem_cons.mpr ⟨code219, List.forall_mem_cons.mpr ⟨code220, List.forall_mem_cons.mpr ⟨code221, List.forall_mem_cons.mpr ⟨code222, List.forall_mem_cons.mpr ⟨code223, List.forall_mem_cons.mpr ⟨code224, List.forall_mem_cons.mpr ⟨code225, List.forall_mem_cons.mpr ⟨code226, List.forall_mem_cons.mpr ⟨code227, List.forall_mem_cons.mpr ⟨code228, List.forall_mem_cons.mpr ⟨code229, List.forall_mem_cons.mpr ⟨code230, List.forall_mem_cons.mpr ⟨code231, List.forall_mem_cons.mpr ⟨code232, List.forall_mem_cons.mpr ⟨code233, List.forall_mem_cons.mpr ⟨code234, List.forall_mem_cons.mpr ⟨code235, List.forall_mem_cons.mpr ⟨code236, List.forall_mem_cons.mpr ⟨code237, List.forall_mem_cons.mpr ⟨code238, List.forall_mem_cons.mpr ⟨code239, List.forall_mem_cons.mpr ⟨code240, List.forall_mem_cons.mpr ⟨code241, List.forall_mem_cons.mpr ⟨code242, List.forall_mem_cons.mpr ⟨code243, List.forall_mem_cons.mpr ⟨code244, List.forall_mem_cons.mpr ⟨code245, List.forall_mem_cons.mpr ⟨code246, List.forall_mem_cons.mpr ⟨code247, List.forall_mem_cons.mpr ⟨code248, List.forall_mem_cons.mpr ⟨code249, List.forall_mem_nil _⟩⟩⟩⟩⟩⟩⟩⟩⟩⟩⟩⟩⟩⟩⟩⟩⟩⟩⟩⟩⟩⟩⟩⟩⟩⟩⟩⟩⟩⟩⟩⟩⟩⟩⟩⟩⟩⟩⟩⟩⟩⟩⟩⟩⟩⟩⟩⟩⟩⟩⟩⟩⟩
set_option maxRecDepth 16384 in
theorem zst1.others_6_0 : (tables_1_6.take 40).all (fun c => zsu_isCode c || c.before args0 about) = true := by decide +kernel
set_option maxRecDepth 16384 in
theorem zst1.others_6_1 : ((tables_1_6.drop 40).take 40).all (fun c => zsu_isCode c || c.before args0 about) = true := by decide +kernel
set_option maxRecDepth 16384 in
theorem zst1.others_6_2 : (((tables_1_6.drop 40).drop 40).take 40).all (fun c => zsu_isCode c || c.before args0 about) = true := by decide +kernel
set_option maxRecDepth 16384 in
theorem zst1.others_6_3 : ((((tables_1_6.drop 40).drop 40).drop 40).take 39).all (fun c => zsu_isCode c || c.before args0 about) = true := by decide +kernel
set_option maxRecDepth 16384 in
theorem zst1.others_6_4 : (((((tables_1_6.drop 40).drop 40).drop 40).drop 39).take 28).all (fun c => zsu_isCode c || c.before args0 about) = true := by decide +kernel
set_option maxRecDepth 16384 in
theorem zst1.others_6_5 : ((((((tables_1_6.drop 40).drop 40).drop 40).drop 39).drop 28).take 40).all (fun c => zsu_isCode c || c.before args0 about) = true := by decide +kernel
