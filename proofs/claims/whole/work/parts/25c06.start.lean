set_option maxRecDepth 16384
theorem zst1.code75 : (Jvm.Cond.code (⟨"java/lang/IndexOutOfBoundsException", "<init>", "(Ljava/lang/String;)V"⟩ : Jvm.MethodName) prog_17_method_2_code 2 none).before args0 about = true :=
  zsu_hand_word (m := ⟨40, 1⟩) (by decide +kernel) rfl (by decide +kernel) (by decide +kernel)
theorem zst1.code76 : (Jvm.Cond.code (⟨"java/lang/StringLatin1", "fillNull", "([BII)V"⟩ : Jvm.MethodName) prog_27_method_48_code 3 none).before args0 about = true :=
  zsu_hand_word (m := ⟨14, 3⟩) (by decide +kernel) rfl (by decide +kernel) (by decide +kernel)
theorem zst1.code77 : (Jvm.Cond.code (⟨"java/util/Arrays", "fill", "([BIIB)V"⟩ : Jvm.MethodName) prog_36_method_110_code 5 none).before args0 about = true :=
  zsu_hand_word (m := ⟨9, 1⟩) (by decide +kernel) rfl (by decide +kernel) (by decide +kernel)
theorem zst1.code78 : (Jvm.Cond.code (⟨"java/util/Arrays", "rangeCheck", "(III)V"⟩ : Jvm.MethodName) prog_36_method_30_code 3 none).before args0 about = true :=
  zsu_hand_word (m := ⟨9, 0⟩) (by decide +kernel) rfl (by decide +kernel) (by decide +kernel)
theorem zst1.code79 : (Jvm.Cond.code (⟨"java/lang/ArrayIndexOutOfBoundsException", "<init>", "(I)V"⟩ : Jvm.MethodName) prog_10_method_3_code 2 none).before args0 about = true :=
  zsu_hand_word (m := ⟨43, 0⟩) (by decide +kernel) rfl (by decide +kernel) (by decide +kernel)
theorem zst1.code80 : (Jvm.Cond.code (⟨"java/lang/StringUTF16", "fillNull", "([BII)V"⟩ : Jvm.MethodName) prog_28_method_70_code 3 none).before args0 about = true :=
  zsu_hand_word (m := ⟨4, 8⟩) (by decide +kernel) rfl (by decide +kernel) (by decide +kernel)
theorem zst1.code81 : (Jvm.Cond.code (⟨"Deeprows", "writeRow", "(Ljava/lang/StringBuilder;LDeeprows$Row;I)V"⟩ : Jvm.MethodName) prog_1_method_65_code 4 none).before args0 about = true :=
  zsu_hand_word (m := ⟨2, 64⟩) (by decide +kernel) rfl (by decide +kernel) (by decide +kernel)
theorem zst1.code82 : (Jvm.Cond.code (⟨"java/lang/StringBuilder", "append", "(C)Ljava/lang/StringBuilder;"⟩ : Jvm.MethodName) prog_25_method_14_code 2 (some (.object "java/lang/StringBuilder"))).before args0 about = true :=
  zsu_hand_word (m := ⟨30, 2⟩) (by decide +kernel) rfl (by decide +kernel) (by decide +kernel)
theorem zst1.code83 : (Jvm.Cond.code (⟨"java/lang/AbstractStringBuilder", "append", "(C)Ljava/lang/AbstractStringBuilder;"⟩ : Jvm.MethodName) prog_8_method_31_code 2 (some (.object "java/lang/AbstractStringBuilder"))).before args0 about = true :=
  zsu_hand_word (m := ⟨24, 9⟩) (by decide +kernel) rfl (by decide +kernel) (by decide +kernel)
theorem zst1.code84 : (Jvm.Cond.code (⟨"java/lang/StringLatin1", "canEncode", "(C)Z"⟩ : Jvm.MethodName) prog_27_method_3_code 1 (some .boolean)).before args0 about = true :=
  zsu_hand_word (m := ⟨14, 1⟩) (by decide +kernel) rfl (by decide +kernel) (by decide +kernel)
theorem zst1.code85 : (Jvm.Cond.code (⟨"java/lang/StringUTF16", "putCharSB", "([BII)V"⟩ : Jvm.MethodName) prog_28_method_71_code 3 none).before args0 about = true :=
  zsu_hand_word (m := ⟨4, 9⟩) (by decide +kernel) rfl (by decide +kernel) (by decide +kernel)
theorem zst1.code86 : (Jvm.Cond.code (⟨"java/lang/StringUTF16", "checkIndex", "(I[B)V"⟩ : Jvm.MethodName) prog_28_method_91_code 2 none).before args0 about = true :=
  zsu_hand_word (m := ⟨4, 17⟩) (by decide +kernel) rfl (by decide +kernel) (by decide +kernel)
theorem zst1.code87 : (Jvm.Cond.code (⟨"java/lang/String", "checkIndex", "(II)V"⟩ : Jvm.MethodName) prog_24_method_155_code 2 none).before args0 about = true :=
  zsu_hand_word (m := ⟨25, 8⟩) (by decide +kernel) rfl (by decide +kernel) (by decide +kernel)
theorem zst1.code88 : (Jvm.Cond.code (⟨"Deeprows", "writeSigns", "(Ljava/lang/StringBuilder;Ljava/lang/String;)V"⟩ : Jvm.MethodName) prog_1_method_69_code 3 none).before args0 about = true :=
  zsu_hand_word (m := ⟨2, 68⟩) (by decide +kernel) rfl (by decide +kernel) (by decide +kernel)
theorem zst1.code89 : (Jvm.Cond.code (⟨"java/lang/String", "charAt", "(I)C"⟩ : Jvm.MethodName) prog_24_method_56_code 2 (some .char)).before args0 about = true :=
  zsu_hand_word (m := ⟨25, 2⟩) (by decide +kernel) rfl (by decide +kernel) (by decide +kernel)
theorem zst1.code90 : (Jvm.Cond.code (⟨"java/lang/String", "isLatin1", "()Z"⟩ : Jvm.MethodName) prog_24_method_154_code 1 (some .boolean)).before args0 about = true :=
  zsu_hand_word (m := ⟨25, 7⟩) (by decide +kernel) rfl (by decide +kernel) (by decide +kernel)
theorem zst1.code91 : (Jvm.Cond.code (⟨"java/lang/StringLatin1", "charAt", "([BI)C"⟩ : Jvm.MethodName) prog_27_method_2_code 2 (some .char)).before args0 about = true :=
  zsu_hand_word (m := ⟨14, 0⟩) (by decide +kernel) rfl (by decide +kernel) (by decide +kernel)
theorem zst1.code92 : (Jvm.Cond.code (⟨"java/lang/StringUTF16", "charAt", "([BI)C"⟩ : Jvm.MethodName) prog_28_method_83_code 2 (some .char)).before args0 about = true :=
  zsu_hand_word (m := ⟨4, 13⟩) (by decide +kernel) rfl (by decide +kernel) (by decide +kernel)
theorem zst1.code93 : (Jvm.Cond.code (⟨"Deeprows", "writePlace", "(Ljava/lang/StringBuilder;LDeeprows$Row;II)V"⟩ : Jvm.MethodName) prog_1_method_66_code 5 none).before args0 about = true :=
  zsu_hand_word (m := ⟨2, 65⟩) (by decide +kernel) rfl (by decide +kernel) (by decide +kernel)
theorem zst1.code94 : (Jvm.Cond.code (⟨"Deeprows", "writeNumber", "(Ljava/lang/StringBuilder;II)V"⟩ : Jvm.MethodName) prog_1_method_67_code 3 none).before args0 about = true :=
  zsu_hand_word (m := ⟨2, 66⟩) (by decide +kernel) rfl (by decide +kernel) (by decide +kernel)
theorem zst1.code95 : (Jvm.Cond.code (⟨"Deeprows", "writeDigits", "(Ljava/lang/StringBuilder;I)V"⟩ : Jvm.MethodName) prog_1_method_68_code 4 none).before args0 about = true :=
  zsu_hand_word (m := ⟨2, 67⟩) (by decide +kernel) rfl (by decide +kernel) (by decide +kernel)
theorem zst1.code96 : (Jvm.Cond.code (⟨"Deeprows", "signsOf", "(I)Ljava/lang/String;"⟩ : Jvm.MethodName) prog_1_method_63_code 1 (some (.object "java/lang/String"))).before args0 about = true :=
  zsu_hand_word (m := ⟨2, 62⟩) (by decide +kernel) rfl (by decide +kernel) (by decide +kernel)
theorem zst1.code97 : (Jvm.Cond.code (⟨"Deeprows", "isSoundAlone", "(LDeeprows$Row;)Z"⟩ : Jvm.MethodName) prog_1_method_70_code 3 (some .boolean)).before args0 about = true :=
  zsu_hand_word (m := ⟨2, 69⟩) (by decide +kernel) rfl (by decide +kernel) (by decide +kernel)
theorem zst1.code98 : (Jvm.Cond.code (⟨"java/lang/StringBuilder", "charAt", "(I)C"⟩ : Jvm.MethodName) prog_25_method_88_code 2 (some .char)).before args0 about = true :=
  zsu_hand_word (m := ⟨30, 6⟩) (by decide +kernel) rfl (by decide +kernel) (by decide +kernel)
theorem zst1.code99 : (Jvm.Cond.code (⟨"java/lang/AbstractStringBuilder", "charAt", "(I)C"⟩ : Jvm.MethodName) prog_8_method_14_code 5 (some .char)).before args0 about = true :=
  zsu_hand_word (m := ⟨24, 6⟩) (by decide +kernel) rfl (by decide +kernel) (by decide +kernel)
theorem zst1.code100 : (Jvm.Cond.code (⟨"Deeprows$Row", "putRow", "(ILDeeprows$Row;)V"⟩ : Jvm.MethodName) prog_2_method_6_code 3 none).before args0 about = true :=
  zsu_hand_word (m := ⟨3, 5⟩) (by decide +kernel) rfl (by decide +kernel) (by decide +kernel)
theorem zst1.code101 : (Jvm.Cond.code (⟨"Deeprows$Row", "change", "(IIILDeeprows$Row;)V"⟩ : Jvm.MethodName) prog_2_method_2_code 5 none).before args0 about = true :=
  zsu_hand_word (m := ⟨3, 1⟩) (by decide +kernel) rfl (by decide +kernel) (by decide +kernel)
theorem zst1.code102 : (Jvm.Cond.code (⟨"Deeprows", "hashOf", "(LDeeprows$Row;I)I"⟩ : Jvm.MethodName) prog_1_method_59_code 4 (some .int)).before args0 about = true :=
  zsu_hand_word (m := ⟨2, 58⟩) (by decide +kernel) rfl (by decide +kernel) (by decide +kernel)
theorem zst1.code103 : (Jvm.Cond.code (⟨"Deeprows", "hashOfPlace", "(LDeeprows$Row;II)I"⟩ : Jvm.MethodName) prog_1_method_60_code 4 (some .int)).before args0 about = true :=
  zsu_hand_word (m := ⟨2, 59⟩) (by decide +kernel) rfl (by decide +kernel) (by decide +kernel)
theorem zst1.code104 : (Jvm.Cond.code (⟨"Deeprows", "hashOfNumber", "(II)I"⟩ : Jvm.MethodName) prog_1_method_61_code 4 (some .int)).before args0 about = true :=
  zsu_hand_word (m := ⟨2, 60⟩) (by decide +kernel) rfl (by decide +kernel) (by decide +kernel)
theorem zst1.code105 : (Jvm.Cond.code (⟨"Deeprows", "hashOfText", "(Ljava/lang/String;)I"⟩ : Jvm.MethodName) prog_1_method_62_code 3 (some .int)).before args0 about = true :=
  zsu_hand_word (m := ⟨2, 61⟩) (by decide +kernel) rfl (by decide +kernel) (by decide +kernel)
theorem zst1.code106 : (Jvm.Cond.code (⟨"Deeprows", "isSoundPair", "(LDeeprows$Row;LDeeprows$Row;)Z"⟩ : Jvm.MethodName) prog_1_method_71_code 5 (some .boolean)).before args0 about = true :=
  zsu_hand_word (m := ⟨2, 70⟩) (by decide +kernel) rfl (by decide +kernel) (by decide +kernel)
theorem zst1.code107 : (Jvm.Cond.code (⟨"Deeprows", "areRowsDeep", "(LDeeprows$Row;LDeeprows$Row;I)Z"⟩ : Jvm.MethodName) prog_1_method_53_code 4 (some .boolean)).before args0 about = true :=
  zsu_hand_word (m := ⟨2, 52⟩) (by decide +kernel) rfl (by decide +kernel) (by decide +kernel)
theorem zst1.code108 : (Jvm.Cond.code (⟨"Deeprows", "arePlacesDeep", "(LDeeprows$Row;ILDeeprows$Row;II)Z"⟩ : Jvm.MethodName) prog_1_method_54_code 7 (some .boolean)).before args0 about = true :=
  zsu_hand_word (m := ⟨2, 53⟩) (by decide +kernel) rfl (by decide +kernel) (by decide +kernel)
theorem zst1.code109 : (Jvm.Cond.code (⟨"Deeprows", "arePlacesFlat", "(LDeeprows$Row;ILDeeprows$Row;I)Z"⟩ : Jvm.MethodName) prog_1_method_56_code 4 (some .boolean)).before args0 about = true :=
  zsu_hand_word (m := ⟨2, 55⟩) (by decide +kernel) rfl (by decide +kernel) (by decide +kernel)
theorem zst1.code110 : (Jvm.Cond.code (⟨"Deeprows", "tellTheSame", "(LDeeprows$Row;LDeeprows$Row;)Z"⟩ : Jvm.MethodName) prog_1_method_72_code 4 (some .boolean)).before args0 about = true :=
  zsu_hand_word (m := ⟨2, 71⟩) (by decide +kernel) rfl (by decide +kernel) (by decide +kernel)
theorem zst1.code111 : (Jvm.Cond.code (⟨"Deeprows", "areRowsFlat", "(LDeeprows$Row;LDeeprows$Row;)Z"⟩ : Jvm.MethodName) prog_1_method_55_code 3 (some .boolean)).before args0 about = true :=
  zsu_hand_word (m := ⟨2, 54⟩) (by decide +kernel) rfl (by decide +kernel) (by decide +kernel)
theorem zst1.code112 : (Jvm.Cond.code (⟨"Deeprows", "firstUnlike", "(LDeeprows$Row;LDeeprows$Row;)I"⟩ : Jvm.MethodName) prog_1_method_57_code 4 (some .int)).before args0 about = true :=
  zsu_hand_word (m := ⟨2, 56⟩) (by decide +kernel) rfl (by decide +kernel) (by decide +kernel)
theorem zst1.code113 : (Jvm.Cond.code (⟨"Deeprows", "digest", "()J"⟩ : Jvm.MethodName) prog_1_method_33_code 5 (some .long)).before args0 about = true :=
  zsu_hand_word (m := ⟨2, 32⟩) (by decide +kernel) rfl (by decide +kernel) (by decide +kernel)
theorem zst1.code114 : (Jvm.Cond.code (⟨"Deeprows", "house", "(I)I"⟩ : Jvm.MethodName) prog_1_method_31_code 2 (some .int)).before args0 about = true :=
  zsu_hand_word (m := ⟨2, 30⟩) (by decide +kernel) rfl (by decide +kernel) (by decide +kernel)
theorem zst1.code115 : (Jvm.Cond.code (⟨"Deeprows", "pairsDeep", "()I"⟩ : Jvm.MethodName) prog_1_method_58_code 4 (some .int)).before args0 about = true :=
  zsu_hand_word (m := ⟨2, 57⟩) (by decide +kernel) rfl (by decide +kernel) (by decide +kernel)
theorem zst1.code116 : (Jvm.Cond.code (⟨"Deeprows", "greatestDepth", "()I"⟩ : Jvm.MethodName) prog_1_method_52_code 3 (some .int)).before args0 about = true :=
  zsu_hand_word (m := ⟨2, 51⟩) (by decide +kernel) rfl (by decide +kernel) (by decide +kernel)
theorem zst1.code117 : (Jvm.Cond.code (⟨"Deeprows", "depthOf", "(LDeeprows$Row;)I"⟩ : Jvm.MethodName) prog_1_method_49_code 1 (some .int)).before args0 about = true :=
  zsu_hand_word (m := ⟨2, 48⟩) (by decide +kernel) rfl (by decide +kernel) (by decide +kernel)
theorem zst1.code118 : (Jvm.Cond.code (⟨"Deeprows", "depthIf", "(LDeeprows$Row;LDeeprows$Row;II)I"⟩ : Jvm.MethodName) prog_1_method_50_code 7 (some .int)).before args0 about = true :=
  zsu_hand_word (m := ⟨2, 49⟩) (by decide +kernel) rfl (by decide +kernel) (by decide +kernel)
theorem zst1.code119 : (Jvm.Cond.code (⟨"Deeprows", "digestOfRow", "(JI)J"⟩ : Jvm.MethodName) prog_1_method_73_code 8 (some .long)).before args0 about = true :=
  zsu_hand_word (m := ⟨2, 72⟩) (by decide +kernel) rfl (by decide +kernel) (by decide +kernel)
theorem zst1.code120 : (Jvm.Cond.code (⟨"Deeprows", "rowOf", "(I)LDeeprows$Row;"⟩ : Jvm.MethodName) prog_1_method_34_code 2 (some (.object "Deeprows$Row"))).before args0 about = true :=
  zsu_hand_word (m := ⟨2, 33⟩) (by decide +kernel) rfl (by decide +kernel) (by decide +kernel)
theorem zst1.code121 : (Jvm.Cond.code (⟨"Deeprows", "what", "(II)I"⟩ : Jvm.MethodName) prog_1_method_20_code 4 (some .int)).before args0 about = true :=
  zsu_hand_word (m := ⟨2, 19⟩) (by decide +kernel) rfl (by decide +kernel) (by decide +kernel)
theorem zst1.code122 : (Jvm.Cond.code (⟨"Deeprows", "requirePlace", "(LDeeprows$Row;I)V"⟩ : Jvm.MethodName) prog_1_method_35_code 2 none).before args0 about = true :=
  zsu_hand_word (m := ⟨2, 34⟩) (by decide +kernel) rfl (by decide +kernel) (by decide +kernel)
set_option maxRecDepth 16384 in
theorem zst1.codes_are_3 : tables_1_3.filter zsu_isCode = [Jvm.Cond.code (⟨"java/lang/IndexOutOfBoundsException", "<init>", "(Ljava/lang/String;)V"⟩ : Jvm.MethodName) prog_17_method_2_code 2 none,
    Jvm.Cond.code (⟨"java/lang/StringLatin1", "fillNull", "([BII)V"⟩ : Jvm.MethodName) prog_27_method_48_code 3 none,
    Jvm.Cond.code (⟨"java/util/Arrays", "fill", "([BIIB)V"⟩ : Jvm.MethodName) prog_36_method_110_code 5 none,
    Jvm.Cond.code (⟨"java/util/Arrays", "rangeCheck", "(III)V"⟩ : Jvm.MethodName) prog_36_method_30_code 3 none,
    Jvm.Cond.code (⟨"java/lang/ArrayIndexOutOfBoundsException", "<init>", "(I)V"⟩ : Jvm.MethodName) prog_10_method_3_code 2 none,
    Jvm.Cond.code (⟨"java/lang/StringUTF16", "fillNull", "([BII)V"⟩ : Jvm.MethodName) prog_28_method_70_code 3 none,
    Jvm.Cond.code (⟨"Deeprows", "writeRow", "(Ljava/lang/StringBuilder;LDeeprows$Row;I)V"⟩ : Jvm.MethodName) prog_1_method_65_code 4 none,
    Jvm.Cond.code (⟨"java/lang/StringBuilder", "append", "(C)Ljava/lang/StringBuilder;"⟩ : Jvm.MethodName) prog_25_method_14_code 2 (some (.object "java/lang/StringBuilder")),
    Jvm.Cond.code (⟨"java/lang/AbstractStringBuilder", "append", "(C)Ljava/lang/AbstractStringBuilder;"⟩ : Jvm.MethodName) prog_8_method_31_code 2 (some (.object "java/lang/AbstractStringBuilder")),
    Jvm.Cond.code (⟨"java/lang/StringLatin1", "canEncode", "(C)Z"⟩ : Jvm.MethodName) prog_27_method_3_code 1 (some .boolean),
    Jvm.Cond.code (⟨"java/lang/StringUTF16", "putCharSB", "([BII)V"⟩ : Jvm.MethodName) prog_28_method_71_code 3 none,
    Jvm.Cond.code (⟨"java/lang/StringUTF16", "checkIndex", "(I[B)V"⟩ : Jvm.MethodName) prog_28_method_91_code 2 none,
    Jvm.Cond.code (⟨"java/lang/String", "checkIndex", "(II)V"⟩ : Jvm.MethodName) prog_24_method_155_code 2 none,
    Jvm.Cond.code (⟨"Deeprows", "writeSigns", "(Ljava/lang/StringBuilder;Ljava/lang/String;)V"⟩ : Jvm.MethodName) prog_1_method_69_code 3 none,
    Jvm.Cond.code (⟨"java/lang/String", "charAt", "(I)C"⟩ : Jvm.MethodName) prog_24_method_56_code 2 (some .char),
    Jvm.Cond.code (⟨"java/lang/String", "isLatin1", "()Z"⟩ : Jvm.MethodName) prog_24_method_154_code 1 (some .boolean),
    Jvm.Cond.code (⟨"java/lang/StringLatin1", "charAt", "([BI)C"⟩ : Jvm.MethodName) prog_27_method_2_code 2 (some .char),
    Jvm.Cond.code (⟨"java/lang/StringUTF16", "charAt", "([BI)C"⟩ : Jvm.MethodName) prog_28_method_83_code 2 (some .char),
    Jvm.Cond.code (⟨"Deeprows", "writePlace", "(Ljava/lang/StringBuilder;LDeeprows$Row;II)V"⟩ : Jvm.MethodName) prog_1_method_66_code 5 none,
    Jvm.Cond.code (⟨"Deeprows", "writeNumber", "(Ljava/lang/StringBuilder;II)V"⟩ : Jvm.MethodName) prog_1_method_67_code 3 none,
    Jvm.Cond.code (⟨"Deeprows", "writeDigits", "(Ljava/lang/StringBuilder;I)V"⟩ : Jvm.MethodName) prog_1_method_68_code 4 none,
    Jvm.Cond.code (⟨"Deeprows", "signsOf", "(I)Ljava/lang/String;"⟩ : Jvm.MethodName) prog_1_method_63_code 1 (some (.object "java/lang/String")),
    Jvm.Cond.code (⟨"Deeprows", "isSoundAlone", "(LDeeprows$Row;)Z"⟩ : Jvm.MethodName) prog_1_method_70_code 3 (some .boolean),
    Jvm.Cond.code (⟨"java/lang/StringBuilder", "charAt", "(I)C"⟩ : Jvm.MethodName) prog_25_method_88_code 2 (some .char),
    Jvm.Cond.code (⟨"java/lang/AbstractStringBuilder", "charAt", "(I)C"⟩ : Jvm.MethodName) prog_8_method_14_code 5 (some .char),
    Jvm.Cond.code (⟨"Deeprows$Row", "putRow", "(ILDeeprows$Row;)V"⟩ : Jvm.MethodName) prog_2_method_6_code 3 none,
    Jvm.Cond.code (⟨"Deeprows$Row", "change", "(IIILDeeprows$Row;)V"⟩ : Jvm.MethodName) prog_2_method_2_code 5 none,
    Jvm.Cond.code (⟨"Deeprows", "hashOf", "(LDeeprows$Row;I)I"⟩ : Jvm.MethodName) prog_1_method_59_code 4 (some .int),
    Jvm.Cond.code (⟨"Deeprows", "hashOfPlace", "(LDeeprows$Row;II)I"⟩ : Jvm.MethodName) prog_1_method_60_code 4 (some .int),
    Jvm.Cond.code (⟨"Deeprows", "hashOfNumber", "(II)I"⟩ : Jvm.MethodName) prog_1_method_61_code 4 (some .int),
    Jvm.Cond.code (⟨"Deeprows", "hashOfText", "(Ljava/lang/String;)I"⟩ : Jvm.MethodName) prog_1_method_62_code 3 (some .int),
    Jvm.Cond.code (⟨"Deeprows", "isSoundPair", "(LDeeprows$Row;LDeeprows$Row;)Z"⟩ : Jvm.MethodName) prog_1_method_71_code 5 (some .boolean),
    Jvm.Cond.code (⟨"Deeprows", "areRowsDeep", "(LDeeprows$Row;LDeeprows$Row;I)Z"⟩ : Jvm.MethodName) prog_1_method_53_code 4 (some .boolean),
    Jvm.Cond.code (⟨"Deeprows", "arePlacesDeep", "(LDeeprows$Row;ILDeeprows$Row;II)Z"⟩ : Jvm.MethodName) prog_1_method_54_code 7 (some .boolean),
    Jvm.Cond.code (⟨"Deeprows", "arePlacesFlat", "(LDeeprows$Row;ILDeeprows$Row;I)Z"⟩ : Jvm.MethodName) prog_1_method_56_code 4 (some .boolean),
    Jvm.Cond.code (⟨"Deeprows", "tellTheSame", "(LDeeprows$Row;LDeeprows$Row;)Z"⟩ : Jvm.MethodName) prog_1_method_72_code 4 (some .boolean),
    Jvm.Cond.code (⟨"Deeprows", "areRowsFlat", "(LDeeprows$Row;LDeeprows$Row;)Z"⟩ : Jvm.MethodName) prog_1_method_55_code 3 (some .boolean),
    Jvm.Cond.code (⟨"Deeprows", "firstUnlike", "(LDeeprows$Row;LDeeprows$Row;)I"⟩ : Jvm.MethodName) prog_1_method_57_code 4 (some .int),
    Jvm.Cond.code (⟨"Deeprows", "digest", "()J"⟩ : Jvm.MethodName) prog_1_method_33_code 5 (some .long),
    Jvm.Cond.code (⟨"Deeprows", "house", "(I)I"⟩ : Jvm.MethodName) prog_1_method_31_code 2 (some .int),
    Jvm.Cond.code (⟨"Deeprows", "pairsDeep", "()I"⟩ : Jvm.MethodName) prog_1_method_58_code 4 (some .int),
    Jvm.Cond.code (⟨"Deeprows", "greatestDepth", "()I"⟩ : Jvm.MethodName) prog_1_method_52_code 3 (some .int),
    Jvm.Cond.code (⟨"Deeprows", "depthOf", "(LDeeprows$Row;)I"⟩ : Jvm.MethodName) prog_1_method_49_code 1 (some .int),
    Jvm.Cond.code (⟨"Deeprows", "depthIf", "(LDeeprows$Row;LDeeprows$Row;II)I"⟩ : Jvm.MethodName) prog_1_method_50_code 7 (some .int),
    Jvm.Cond.code (⟨"Deeprows", "digestOfRow", "(JI)J"⟩ : Jvm.MethodName) prog_1_method_73_code 8 (some .long),
    Jvm.Cond.code (⟨"Deeprows", "rowOf", "(I)LDeeprows$Row;"⟩ : Jvm.MethodName) prog_1_method_34_code 2 (some (.object "Deeprows$Row")),
    Jvm.Cond.code (⟨"Deeprows", "what", "(II)I"⟩ : Jvm.MethodName) prog_1_method_20_code 4 (some .int),
    Jvm.Cond.code (⟨"Deeprows", "requirePlace", "(LDeeprows$Row;I)V"⟩ : Jvm.MethodName) prog_1_method_35_code 2 none] := by
  first
  | rfl
  | simp only [tables_1_3, List.filter, zsu_isCode]
theorem zst1.codes_hold_3 : ∀ c ∈ tables_1_3.filter zsu_isCode, c.before args0 about = true := by
  rw [codes_are_3]
  exact List.forall_mem_cons.mpr ⟨code75, List.forall_mem_cons.mpr ⟨code76, List.forall_mem_cons.mpr ⟨code77, List.forall_mem_cons.mpr ⟨code78, List.forall_mem_cons.mpr ⟨code79, List.forall_mem_cons.mpr ⟨code80, List.forall_mem_cons.mpr ⟨code81, List.forall_mem_cons.mpr ⟨code82, List.forall_mem_cons.mpr ⟨code83, List.forall_mem_cons.mpr ⟨code84, List.forall_mem_cons.mpr ⟨code85, List.forall_mem_cons.mpr ⟨code86, List.forall_mem_cons.mpr ⟨code87, List.forall_mem_cons.mpr ⟨code88, List.forall_mem_cons.mpr ⟨code89, List.forall_mem_cons.mpr ⟨code90, List.forall_mem_cons.mpr ⟨code91, List.forall_mem_cons.mpr ⟨code92, List.forall_mem_cons.mpr ⟨code93, List.forall_mem_cons.mpr ⟨code94, List.forall_mem_cons.mpr ⟨code95, List.forall_mem_cons.mpr ⟨code96, List.forall_mem_cons.mpr ⟨code97, List.forall_mem_cons.mpr ⟨code98, List.forall_mem_cons.mpr ⟨code99, List.forall_mem_cons.mpr ⟨code100, List.forall_mem_cons.mpr ⟨code101, List.forall_mem_cons.mpr ⟨code102, List.forall_mem_cons.mpr ⟨code103, List.forall_mem_cons.mpr ⟨code104, List.forall_mem_cons.mpr ⟨code105, List.forall_mem_cons.mpr ⟨code106, List.forall_mem_cons.mpr ⟨code107, List.forall_mem_cons.mpr ⟨code108, List.forall_mem_cons.mpr ⟨code109, List.forall_mem_cons.mpr ⟨code110, List.forall_mem_cons.mpr ⟨code111, List.forall_mem_cons.mpr ⟨code112, List.forall_mem_cons.mpr ⟨code113, List.forall_mem_cons.mpr ⟨code114, List.forall_mem_cons.mpr ⟨code115, List.forall_mem_cons.mpr ⟨code116, List.forall_mem_cons.mpr ⟨code117, List.forall_mem_cons.mpr ⟨code118, List.forall_mem_cons.mpr ⟨code119, List.forall_mem_cons.mpr ⟨code120, List.forall_mem_cons.mpr ⟨code121, List.forall_mem_cons.mpr ⟨code122, List.forall_mem_nil _⟩⟩⟩⟩⟩⟩⟩⟩⟩⟩⟩⟩⟩⟩⟩⟩⟩⟩⟩⟩⟩⟩⟩⟩⟩⟩⟩⟩⟩⟩⟩⟩⟩⟩⟩⟩⟩⟩⟩⟩⟩⟩⟩⟩⟩⟩⟩⟩
set_option maxRecDepth 16384 in
theorem zst1.others_3_0 : (tables_1_3.take 23).all (fun c => zsu_isCode c || c.before args0 about) = true := by decide +kernel
set_option maxRecDepth 16384 in
theorem zst1.others_3_1 : ((tables_1_3.drop 23).take 18).all (fun c => zsu_isCode c || c.before args0 about) = true := by decide +kernel
set_option maxRecDepth 16384 in
theorem zst1.others_3_2 : (((tables_1_3.drop 23).drop 18).take 32).all (fun c => zsu_isCode c || c.before args0 about) = true := by decide +kernel
set_option maxRecDepth 16384 in
theorem zst1.others_3_3 : ((((tables_1_3.drop 23).drop 18).drop 32).take 16).all (fun c => zsu_isCode c || c.before args0 about) = true := by decide +kernel
set_option maxRecDepth 16384 in
theorem zst1.others_3_4 : (((((tables_1_3.drop 23).drop 18).drop 32).drop 16).take 22).all (fun c => zsu_isCode c || c.before args0 about) = true := by decide +kernel
set_option maxRecDepth 16384 in
theorem zst1.others_3_5 : ((((((tables_1_3.drop 23).drop 18).drop 32).drop 16).drop 22).take 40).all (fun c => zsu_isCode c || c.before args0 about) = true := by decide +kernel
set_option maxRecDepth 16384 in
theorem zst1.others_3_6 : (((((((tables_1_3.drop 23).drop 18).drop 32).drop 16).drop 22).drop 40).take 40).all (fun c => zsu_isCode c || c.before args0 about) = true := by decide +kernel
set_option maxRecDepth 16384 in
theorem zst1.others_3_7 : ((((((((tables_1_3.drop 23).drop 18).drop 32).drop 16).drop 22).drop 40).drop 40).take 40).all (fun c => zsu_isCode c || c.before args0 about) = true := by decide +kernel
set_option maxRecDepth 16384 in
theorem zst1.others_3_8 : ((((((((tables_1_3.drop 23).drop 18).drop 32).drop 16).drop 22).drop 40).drop 40).drop 40).all (fun c => zsu_isCode c || c.before args0 about) = true := by decide +kernel
theorem zst1.others_hold_3 : tables_1_3.all (fun c => zsu_isCode c || c.before args0 about) = true := zsu_all_split _ 23 tables_1_3 others_3_0 (zsu_all_split _ 18 (tables_1_3.drop 23) others_3_1 (zsu_all_split _ 32 ((tables_1_3.drop 23).drop 18) others_3_2 (zsu_all_split _ 16 (((tables_1_3.drop 23).drop 18).drop 32) others_3_3 (zsu_all_split _ 22 ((((tables_1_3.drop 23).drop 18).drop 32).drop 16) others_3_4 (zsu_all_split _ 40 (((((tables_1_3.drop 23).drop 18).drop 32).drop 16).drop 22) others_3_5 (zsu_all_split _ 40 ((((((tables_1_3.drop 23).drop 18).drop 32).drop 16).drop 22).drop 40) others_3_6 (zsu_all_split _ 40 (((((((tables_1_3.drop 23).drop 18).drop 32).drop 16).drop 22).drop 40).drop 40) others_3_7 others_3_8)))))))
theorem zst1.words_3 : ∀ c ∈ tables_1_3, c.before args0 about = true := fun c h => zsu_words others_hold_3 codes_hold_3 c h
