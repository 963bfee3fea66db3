set_option maxRecDepth 16384
theorem zst1.code31 : (Jvm.Cond.code (⟨"java/util/Arrays", "copyOf", "([BI)[B"⟩ : Jvm.MethodName) prog_36_method_121_code 3 (some (.array .byte))).before args0 about = true :=
  zsu_hand_word (m := ⟨9, 4⟩) (by decide +kernel) rfl (by decide +kernel) (by decide +kernel)
theorem zst1.code32 : (Jvm.Cond.code (⟨"java/lang/Math", "min", "(II)I"⟩ : Jvm.MethodName) prog_21_method_69_code 2 (some .int)).before args0 about = true :=
  zsu_hand_word (m := ⟨8, 2⟩) (by decide +kernel) rfl (by decide +kernel) (by decide +kernel)
theorem zst1.code33 : (Jvm.Cond.code (⟨"java/lang/AbstractStringBuilder", "isLatin1", "()Z"⟩ : Jvm.MethodName) prog_8_method_68_code 1 (some .boolean)).before args0 about = true :=
  zsu_hand_word (m := ⟨24, 13⟩) (by decide +kernel) rfl (by decide +kernel) (by decide +kernel)
theorem zst1.code34 : (Jvm.Cond.code (⟨"java/lang/StringUTF16", "putCharsAt", "([BICCCC)I"⟩ : Jvm.MethodName) prog_28_method_81_code 7 (some .int)).before args0 about = true :=
  zsu_hand_word (m := ⟨4, 12⟩) (by decide +kernel) rfl (by decide +kernel) (by decide +kernel)
theorem zst1.code35 : (Jvm.Cond.code (⟨"java/lang/StringUTF16", "checkBoundsBeginEnd", "(II[B)V"⟩ : Jvm.MethodName) prog_28_method_93_code 3 none).before args0 about = true :=
  zsu_hand_word (m := ⟨4, 18⟩) (by decide +kernel) rfl (by decide +kernel) (by decide +kernel)
theorem zst1.code36 : (Jvm.Cond.code (⟨"java/lang/StringUTF16", "length", "([B)I"⟩ : Jvm.MethodName) prog_28_method_6_code 1 (some .int)).before args0 about = true :=
  zsu_hand_word (m := ⟨4, 4⟩) (by decide +kernel) rfl (by decide +kernel) (by decide +kernel)
theorem zst1.code37 : (Jvm.Cond.code (⟨"java/lang/String", "checkBoundsBeginEnd", "(III)V"⟩ : Jvm.MethodName) prog_24_method_158_code 3 none).before args0 about = true :=
  zsu_hand_word (m := ⟨25, 10⟩) (by decide +kernel) rfl (by decide +kernel) (by decide +kernel)
theorem zst1.code38 : (Jvm.Cond.code (⟨"jdk/internal/util/Preconditions", "checkFromToIndex", "(IIILjava/util/function/BiFunction;)I"⟩ : Jvm.MethodName) prog_43_method_12_code 4 (some .int)).before args0 about = true :=
  zsu_hand_word (m := ⟨13, 1⟩) (by decide +kernel) rfl (by decide +kernel) (by decide +kernel)
theorem zst1.code39 : (Jvm.Cond.code (⟨"java/lang/StringUTF16", "putChar", "([BII)V"⟩ : Jvm.MethodName) prog_28_method_4_code 3 none).before args0 about = true :=
  zsu_hand_word (m := ⟨4, 2⟩) (by decide +kernel) rfl (by decide +kernel) (by decide +kernel)
theorem zst1.code40 : (Jvm.Cond.code (⟨"java/lang/String", "length", "()I"⟩ : Jvm.MethodName) prog_24_method_54_code 1 (some .int)).before args0 about = true :=
  zsu_hand_word (m := ⟨25, 1⟩) (by decide +kernel) rfl (by decide +kernel) (by decide +kernel)
theorem zst1.code41 : (Jvm.Cond.code (⟨"java/lang/String", "coder", "()B"⟩ : Jvm.MethodName) prog_24_method_152_code 1 (some .byte)).before args0 about = true :=
  zsu_hand_word (m := ⟨25, 6⟩) (by decide +kernel) rfl (by decide +kernel) (by decide +kernel)
theorem zst1.code42 : (Jvm.Cond.code (⟨"java/lang/AbstractStringBuilder", "putStringAt", "(ILjava/lang/String;)V"⟩ : Jvm.MethodName) prog_8_method_73_code 3 none).before args0 about = true :=
  zsu_hand_word (m := ⟨24, 15⟩) (by decide +kernel) rfl (by decide +kernel) (by decide +kernel)
theorem zst1.code43 : (Jvm.Cond.code (⟨"java/lang/AbstractStringBuilder", "inflateIfNeededFor", "(Ljava/lang/String;)V"⟩ : Jvm.MethodName) prog_8_method_71_code 2 none).before args0 about = true :=
  zsu_hand_word (m := ⟨24, 14⟩) (by decide +kernel) rfl (by decide +kernel) (by decide +kernel)
theorem zst1.code44 : (Jvm.Cond.code (⟨"java/lang/AbstractStringBuilder", "inflate", "()V"⟩ : Jvm.MethodName) prog_8_method_11_code 2 none).before args0 about = true :=
  zsu_hand_word (m := ⟨24, 4⟩) (by decide +kernel) rfl (by decide +kernel) (by decide +kernel)
theorem zst1.code45 : (Jvm.Cond.code (⟨"java/lang/StringLatin1", "inflate", "([BI[BII)V"⟩ : Jvm.MethodName) prog_27_method_50_code 5 none).before args0 about = true :=
  zsu_hand_word (m := ⟨14, 4⟩) (by decide +kernel) rfl (by decide +kernel) (by decide +kernel)
theorem zst1.code46 : (Jvm.Cond.code (⟨"java/lang/StringUTF16", "inflate", "([BI[BII)V"⟩ : Jvm.MethodName) prog_28_method_86_code 6 none).before args0 about = true :=
  zsu_hand_word (m := ⟨4, 14⟩) (by decide +kernel) rfl (by decide +kernel) (by decide +kernel)
theorem zst1.code47 : (Jvm.Cond.code (⟨"java/lang/StringUTF16", "checkBoundsOffCount", "(II[B)V"⟩ : Jvm.MethodName) prog_28_method_94_code 3 none).before args0 about = true :=
  zsu_hand_word (m := ⟨4, 19⟩) (by decide +kernel) rfl (by decide +kernel) (by decide +kernel)
theorem zst1.code48 : (Jvm.Cond.code (⟨"java/lang/String", "checkBoundsOffCount", "(III)I"⟩ : Jvm.MethodName) prog_24_method_157_code 3 (some .int)).before args0 about = true :=
  zsu_hand_word (m := ⟨25, 9⟩) (by decide +kernel) rfl (by decide +kernel) (by decide +kernel)
theorem zst1.code49 : (Jvm.Cond.code (⟨"jdk/internal/util/Preconditions", "checkFromIndexSize", "(IIILjava/util/function/BiFunction;)I"⟩ : Jvm.MethodName) prog_43_method_13_code 4 (some .int)).before args0 about = true :=
  zsu_hand_word (m := ⟨13, 2⟩) (by decide +kernel) rfl (by decide +kernel) (by decide +kernel)
theorem zst1.code50 : (Jvm.Cond.code (⟨"java/lang/String", "getBytes", "([BIB)V"⟩ : Jvm.MethodName) prog_24_method_147_code 4 none).before args0 about = true :=
  zsu_hand_word (m := ⟨25, 4⟩) (by decide +kernel) rfl (by decide +kernel) (by decide +kernel)
theorem zst1.code51 : (Jvm.Cond.code (⟨"java/lang/StringBuilder", "append", "(I)Ljava/lang/StringBuilder;"⟩ : Jvm.MethodName) prog_25_method_15_code 2 (some (.object "java/lang/StringBuilder"))).before args0 about = true :=
  zsu_hand_word (m := ⟨30, 3⟩) (by decide +kernel) rfl (by decide +kernel) (by decide +kernel)
theorem zst1.code52 : (Jvm.Cond.code (⟨"java/lang/AbstractStringBuilder", "append", "(I)Ljava/lang/AbstractStringBuilder;"⟩ : Jvm.MethodName) prog_8_method_32_code 4 (some (.object "java/lang/AbstractStringBuilder"))).before args0 about = true :=
  zsu_hand_word (m := ⟨24, 10⟩) (by decide +kernel) rfl (by decide +kernel) (by decide +kernel)
theorem zst1.code53 : (Jvm.Cond.code (⟨"java/lang/Integer", "stringSize", "(I)I"⟩ : Jvm.MethodName) prog_18_method_13_code 4 (some .int)).before args0 about = true :=
  zsu_hand_word (m := ⟨32, 1⟩) (by decide +kernel) rfl (by decide +kernel) (by decide +kernel)
theorem zst1.code54 : (Jvm.Cond.code (⟨"java/lang/Integer", "getChars", "(II[B)I"⟩ : Jvm.MethodName) prog_18_method_12_code 7 (some .int)).before args0 about = true :=
  zsu_hand_word (m := ⟨32, 0⟩) (by decide +kernel) rfl (by decide +kernel) (by decide +kernel)
theorem zst1.code55 : (Jvm.Cond.code (⟨"java/lang/StringUTF16", "getChars", "(III[B)I"⟩ : Jvm.MethodName) prog_28_method_77_code 5 (some .int)).before args0 about = true :=
  zsu_hand_word (m := ⟨4, 10⟩) (by decide +kernel) rfl (by decide +kernel) (by decide +kernel)
theorem zst1.code56 : (Jvm.Cond.code (⟨"java/lang/StringUTF16", "getChars", "(II[B)I"⟩ : Jvm.MethodName) prog_28_method_89_code 7 (some .int)).before args0 about = true :=
  zsu_hand_word (m := ⟨4, 15⟩) (by decide +kernel) rfl (by decide +kernel) (by decide +kernel)
theorem zst1.code57 : (Jvm.Cond.code (⟨"java/lang/StringBuilder", "toString", "()Ljava/lang/String;"⟩ : Jvm.MethodName) prog_25_method_42_code 1 (some (.object "java/lang/String"))).before args0 about = true :=
  zsu_hand_word (m := ⟨30, 5⟩) (by decide +kernel) rfl (by decide +kernel) (by decide +kernel)
theorem zst1.code58 : (Jvm.Cond.code (⟨"java/lang/String", "<init>", "(Ljava/lang/StringBuilder;)V"⟩ : Jvm.MethodName) prog_24_method_53_code 2 none).before args0 about = true :=
  zsu_hand_word (m := ⟨25, 0⟩) (by decide +kernel) rfl (by decide +kernel) (by decide +kernel)
theorem zst1.code59 : (Jvm.Cond.code (⟨"java/lang/String", "<init>", "(Ljava/lang/AbstractStringBuilder;Ljava/lang/Void;)V"⟩ : Jvm.MethodName) prog_24_method_150_code 5 none).before args0 about = true :=
  zsu_hand_word (m := ⟨25, 5⟩) (by decide +kernel) rfl (by decide +kernel) (by decide +kernel)
theorem zst1.code60 : (Jvm.Cond.code (⟨"java/lang/AbstractStringBuilder", "getValue", "()[B"⟩ : Jvm.MethodName) prog_8_method_64_code 1 (some (.array .byte))).before args0 about = true :=
  zsu_hand_word (m := ⟨24, 12⟩) (by decide +kernel) rfl (by decide +kernel) (by decide +kernel)
theorem zst1.code61 : (Jvm.Cond.code (⟨"java/lang/StringBuilder", "length", "()I"⟩ : Jvm.MethodName) prog_25_method_93_code 1 (some .int)).before args0 about = true :=
  zsu_hand_word (m := ⟨30, 8⟩) (by decide +kernel) rfl (by decide +kernel) (by decide +kernel)
theorem zst1.code62 : (Jvm.Cond.code (⟨"java/lang/AbstractStringBuilder", "length", "()I"⟩ : Jvm.MethodName) prog_8_method_6_code 1 (some .int)).before args0 about = true :=
  zsu_hand_word (m := ⟨24, 1⟩) (by decide +kernel) rfl (by decide +kernel) (by decide +kernel)
theorem zst1.code63 : (Jvm.Cond.code (⟨"java/util/Arrays", "copyOfRange", "([BII)[B"⟩ : Jvm.MethodName) prog_36_method_132_code 3 (some (.array .byte))).before args0 about = true :=
  zsu_hand_word (m := ⟨9, 6⟩) (by decide +kernel) rfl (by decide +kernel) (by decide +kernel)
theorem zst1.code64 : (Jvm.Cond.code (⟨"java/util/Arrays", "copyOfRangeByte", "([BII)[B"⟩ : Jvm.MethodName) prog_36_method_133_code 5 (some (.array .byte))).before args0 about = true :=
  zsu_hand_word (m := ⟨9, 7⟩) (by decide +kernel) rfl (by decide +kernel) (by decide +kernel)
theorem zst1.code65 : (Jvm.Cond.code (⟨"java/util/Arrays", "checkLength", "(II)V"⟩ : Jvm.MethodName) prog_36_method_131_code 2 none).before args0 about = true :=
  zsu_hand_word (m := ⟨9, 5⟩) (by decide +kernel) rfl (by decide +kernel) (by decide +kernel)
theorem zst1.code66 : (Jvm.Cond.code (⟨"java/lang/Throwable", "<init>", "()V"⟩ : Jvm.MethodName) prog_30_method_1_code 1 none).before args0 about = true :=
  zsu_hand_word (m := ⟨26, 0⟩) (by decide +kernel) rfl (by decide +kernel) (by decide +kernel)
theorem zst1.code67 : (Jvm.Cond.code (⟨"java/lang/IllegalArgumentException", "<init>", "(Ljava/lang/String;)V"⟩ : Jvm.MethodName) prog_15_method_2_code 2 none).before args0 about = true :=
  zsu_hand_word (m := ⟨38, 0⟩) (by decide +kernel) rfl (by decide +kernel) (by decide +kernel)
theorem zst1.code68 : (Jvm.Cond.code (⟨"java/lang/RuntimeException", "<init>", "(Ljava/lang/String;)V"⟩ : Jvm.MethodName) prog_23_method_2_code 2 none).before args0 about = true :=
  zsu_hand_word (m := ⟨35, 1⟩) (by decide +kernel) rfl (by decide +kernel) (by decide +kernel)
theorem zst1.code69 : (Jvm.Cond.code (⟨"java/lang/Exception", "<init>", "(Ljava/lang/String;)V"⟩ : Jvm.MethodName) prog_14_method_2_code 2 none).before args0 about = true :=
  zsu_hand_word (m := ⟨31, 1⟩) (by decide +kernel) rfl (by decide +kernel) (by decide +kernel)
theorem zst1.code70 : (Jvm.Cond.code (⟨"java/lang/Throwable", "<init>", "(Ljava/lang/String;)V"⟩ : Jvm.MethodName) prog_30_method_2_code 2 none).before args0 about = true :=
  zsu_hand_word (m := ⟨26, 1⟩) (by decide +kernel) rfl (by decide +kernel) (by decide +kernel)
theorem zst1.code71 : (Jvm.Cond.code (⟨"java/lang/StringUTF16", "compress", "([BII)[B"⟩ : Jvm.MethodName) prog_28_method_17_code 6 (some (.array .byte))).before args0 about = true :=
  zsu_hand_word (m := ⟨4, 6⟩) (by decide +kernel) rfl (by decide +kernel) (by decide +kernel)
theorem zst1.code72 : (Jvm.Cond.code (⟨"java/lang/StringUTF16", "compress", "([BI[BII)I"⟩ : Jvm.MethodName) prog_28_method_22_code 7 (some .int)).before args0 about = true :=
  zsu_hand_word (m := ⟨4, 7⟩) (by decide +kernel) rfl (by decide +kernel) (by decide +kernel)
theorem zst1.code73 : (Jvm.Cond.code (⟨"java/lang/StringUTF16", "getChar", "([BI)C"⟩ : Jvm.MethodName) prog_28_method_5_code 2 (some .char)).before args0 about = true :=
  zsu_hand_word (m := ⟨4, 3⟩) (by decide +kernel) rfl (by decide +kernel) (by decide +kernel)
theorem zst1.code74 : (Jvm.Cond.code (⟨"java/lang/StringUTF16", "coderFromArrayLen", "([BI)B"⟩ : Jvm.MethodName) prog_28_method_15_code 2 (some .byte)).before args0 about = true :=
  zsu_hand_word (m := ⟨4, 5⟩) (by decide +kernel) rfl (by decide +kernel) (by decide +kernel)
set_option maxRecDepth 16384 in
theorem zst1.codes_are_2 : tables_1_2.filter zsu_isCode = [Jvm.Cond.code (⟨"java/util/Arrays", "copyOf", "([BI)[B"⟩ : Jvm.MethodName) prog_36_method_121_code 3 (some (.array .byte)),
    Jvm.Cond.code (⟨"java/lang/Math", "min", "(II)I"⟩ : Jvm.MethodName) prog_21_method_69_code 2 (some .int),
    Jvm.Cond.code (⟨"java/lang/AbstractStringBuilder", "isLatin1", "()Z"⟩ : Jvm.MethodName) prog_8_method_68_code 1 (some .boolean),
    Jvm.Cond.code (⟨"java/lang/StringUTF16", "putCharsAt", "([BICCCC)I"⟩ : Jvm.MethodName) prog_28_method_81_code 7 (some .int),
    Jvm.Cond.code (⟨"java/lang/StringUTF16", "checkBoundsBeginEnd", "(II[B)V"⟩ : Jvm.MethodName) prog_28_method_93_code 3 none,
    Jvm.Cond.code (⟨"java/lang/StringUTF16", "length", "([B)I"⟩ : Jvm.MethodName) prog_28_method_6_code 1 (some .int),
    Jvm.Cond.code (⟨"java/lang/String", "checkBoundsBeginEnd", "(III)V"⟩ : Jvm.MethodName) prog_24_method_158_code 3 none,
    Jvm.Cond.code (⟨"jdk/internal/util/Preconditions", "checkFromToIndex", "(IIILjava/util/function/BiFunction;)I"⟩ : Jvm.MethodName) prog_43_method_12_code 4 (some .int),
    Jvm.Cond.code (⟨"java/lang/StringUTF16", "putChar", "([BII)V"⟩ : Jvm.MethodName) prog_28_method_4_code 3 none,
    Jvm.Cond.code (⟨"java/lang/String", "length", "()I"⟩ : Jvm.MethodName) prog_24_method_54_code 1 (some .int),
    Jvm.Cond.code (⟨"java/lang/String", "coder", "()B"⟩ : Jvm.MethodName) prog_24_method_152_code 1 (some .byte),
    Jvm.Cond.code (⟨"java/lang/AbstractStringBuilder", "putStringAt", "(ILjava/lang/String;)V"⟩ : Jvm.MethodName) prog_8_method_73_code 3 none,
    Jvm.Cond.code (⟨"java/lang/AbstractStringBuilder", "inflateIfNeededFor", "(Ljava/lang/String;)V"⟩ : Jvm.MethodName) prog_8_method_71_code 2 none,
    Jvm.Cond.code (⟨"java/lang/AbstractStringBuilder", "inflate", "()V"⟩ : Jvm.MethodName) prog_8_method_11_code 2 none,
    Jvm.Cond.code (⟨"java/lang/StringLatin1", "inflate", "([BI[BII)V"⟩ : Jvm.MethodName) prog_27_method_50_code 5 none,
    Jvm.Cond.code (⟨"java/lang/StringUTF16", "inflate", "([BI[BII)V"⟩ : Jvm.MethodName) prog_28_method_86_code 6 none,
    Jvm.Cond.code (⟨"java/lang/StringUTF16", "checkBoundsOffCount", "(II[B)V"⟩ : Jvm.MethodName) prog_28_method_94_code 3 none,
    Jvm.Cond.code (⟨"java/lang/String", "checkBoundsOffCount", "(III)I"⟩ : Jvm.MethodName) prog_24_method_157_code 3 (some .int),
    Jvm.Cond.code (⟨"jdk/internal/util/Preconditions", "checkFromIndexSize", "(IIILjava/util/function/BiFunction;)I"⟩ : Jvm.MethodName) prog_43_method_13_code 4 (some .int),
    Jvm.Cond.code (⟨"java/lang/String", "getBytes", "([BIB)V"⟩ : Jvm.MethodName) prog_24_method_147_code 4 none,
    Jvm.Cond.code (⟨"java/lang/StringBuilder", "append", "(I)Ljava/lang/StringBuilder;"⟩ : Jvm.MethodName) prog_25_method_15_code 2 (some (.object "java/lang/StringBuilder")),
    Jvm.Cond.code (⟨"java/lang/AbstractStringBuilder", "append", "(I)Ljava/lang/AbstractStringBuilder;"⟩ : Jvm.MethodName) prog_8_method_32_code 4 (some (.object "java/lang/AbstractStringBuilder")),
    Jvm.Cond.code (⟨"java/lang/Integer", "stringSize", "(I)I"⟩ : Jvm.MethodName) prog_18_method_13_code 4 (some .int),
    Jvm.Cond.code (⟨"java/lang/Integer", "getChars", "(II[B)I"⟩ : Jvm.MethodName) prog_18_method_12_code 7 (some .int),
    Jvm.Cond.code (⟨"java/lang/StringUTF16", "getChars", "(III[B)I"⟩ : Jvm.MethodName) prog_28_method_77_code 5 (some .int),
    Jvm.Cond.code (⟨"java/lang/StringUTF16", "getChars", "(II[B)I"⟩ : Jvm.MethodName) prog_28_method_89_code 7 (some .int),
    Jvm.Cond.code (⟨"java/lang/StringBuilder", "toString", "()Ljava/lang/String;"⟩ : Jvm.MethodName) prog_25_method_42_code 1 (some (.object "java/lang/String")),
    Jvm.Cond.code (⟨"java/lang/String", "<init>", "(Ljava/lang/StringBuilder;)V"⟩ : Jvm.MethodName) prog_24_method_53_code 2 none,
    Jvm.Cond.code (⟨"java/lang/String", "<init>", "(Ljava/lang/AbstractStringBuilder;Ljava/lang/Void;)V"⟩ : Jvm.MethodName) prog_24_method_150_code 5 none,
    Jvm.Cond.code (⟨"java/lang/AbstractStringBuilder", "getValue", "()[B"⟩ : Jvm.MethodName) prog_8_method_64_code 1 (some (.array .byte)),
    Jvm.Cond.code (⟨"java/lang/StringBuilder", "length", "()I"⟩ : Jvm.MethodName) prog_25_method_93_code 1 (some .int),
    Jvm.Cond.code (⟨"java/lang/AbstractStringBuilder", "length", "()I"⟩ : Jvm.MethodName) prog_8_method_6_code 1 (some .int),
    Jvm.Cond.code (⟨"java/util/Arrays", "copyOfRange", "([BII)[B"⟩ : Jvm.MethodName) prog_36_method_132_code 3 (some (.array .byte)),
    Jvm.Cond.code (⟨"java/util/Arrays", "copyOfRangeByte", "([BII)[B"⟩ : Jvm.MethodName) prog_36_method_133_code 5 (some (.array .byte)),
    Jvm.Cond.code (⟨"java/util/Arrays", "checkLength", "(II)V"⟩ : Jvm.MethodName) prog_36_method_131_code 2 none,
    Jvm.Cond.code (⟨"java/lang/Throwable", "<init>", "()V"⟩ : Jvm.MethodName) prog_30_method_1_code 1 none,
    Jvm.Cond.code (⟨"java/lang/IllegalArgumentException", "<init>", "(Ljava/lang/String;)V"⟩ : Jvm.MethodName) prog_15_method_2_code 2 none,
    Jvm.Cond.code (⟨"java/lang/RuntimeException", "<init>", "(Ljava/lang/String;)V"⟩ : Jvm.MethodName) prog_23_method_2_code 2 none,
    Jvm.Cond.code (⟨"java/lang/Exception", "<init>", "(Ljava/lang/String;)V"⟩ : Jvm.MethodName) prog_14_method_2_code 2 none,
    Jvm.Cond.code (⟨"java/lang/Throwable", "<init>", "(Ljava/lang/String;)V"⟩ : Jvm.MethodName) prog_30_method_2_code 2 none,
    Jvm.Cond.code (⟨"java/lang/StringUTF16", "compress", "([BII)[B"⟩ : Jvm.MethodName) prog_28_method_17_code 6 (some (.array .byte)),
    Jvm.Cond.code (⟨"java/lang/StringUTF16", "compress", "([BI[BII)I"⟩ : Jvm.MethodName) prog_28_method_22_code 7 (some .int),
    Jvm.Cond.code (⟨"java/lang/StringUTF16", "getChar", "([BI)C"⟩ : Jvm.MethodName) prog_28_method_5_code 2 (some .char),
    Jvm.Cond.code (⟨"java/lang/StringUTF16", "coderFromArrayLen", "([BI)B"⟩ : Jvm.MethodName) prog_28_method_15_code 2 (some .byte)] := by
  first
  | rfl
  | simp only [tables_1_2, List.filter, zsu_isCode]
theorem zst1.codes_hold_2 : ∀ c ∈ tables_1_2.filter zsu_isCode, c.before args0 about = true := by
  rw [codes_are_2]
  exact List.forall_mem_cons.mpr ⟨code31, List.forall_mem_cons.mpr ⟨code32, List.forall_mem_cons.mpr ⟨code33, List.forall_mem_cons.mpr ⟨code34, List.forall_mem_cons.mpr ⟨code35, List.forall_mem_cons.mpr ⟨code36, List.forall_mem_cons.mpr ⟨code37, List.forall_mem_cons.mpr ⟨code38, List.forall_mem_cons.mpr ⟨code39, List.forall_mem_cons.mpr ⟨code40, List.forall_mem_cons.mpr ⟨code41, List.forall_mem_cons.mpr ⟨code42, List.forall_mem_cons.mpr ⟨code43, List.forall_mem_cons.mpr ⟨code44, List.forall_mem_cons.mpr ⟨code45, List.forall_mem_cons.mpr ⟨code46, List.forall_mem_cons.mpr ⟨code47, List.forall_mem_cons.mpr ⟨code48, List.forall_mem_cons.mpr ⟨code49, List.forall_mem_cons.mpr ⟨code50, List.forall_mem_cons.mpr ⟨code51, List.forall_mem_cons.mpr ⟨code52, List.forall_mem_cons.mpr ⟨code53, List.forall_mem_cons.mpr ⟨code54, List.forall_mem_cons.mpr ⟨code55, List.forall_mem_cons.mpr ⟨code56, List.forall_mem_cons.mpr ⟨code57, List.forall_mem_cons.mpr ⟨code58, List.forall_mem_cons.mpr ⟨code59, List.forall_mem_cons.mpr ⟨code60, List.forall_mem_cons.mpr ⟨code61, List.forall_mem_cons.mpr ⟨code62, List.forall_mem_cons.mpr ⟨code63, List.forall_mem_cons.mpr ⟨code64, List.forall_mem_cons.mpr ⟨code65, List.forall_mem_cons.mpr ⟨code66, List.forall_mem_cons.mpr ⟨code67, List.forall_mem_cons.mpr ⟨code68, List.forall_mem_cons.mpr ⟨code69, List.forall_mem_cons.mpr ⟨code70, List.forall_mem_cons.mpr ⟨code71, List.forall_mem_cons.mpr ⟨code72, List.forall_mem_cons.mpr ⟨code73, List.forall_mem_cons.mpr ⟨code74, List.forall_mem_nil _⟩⟩⟩⟩⟩⟩⟩⟩⟩⟩⟩⟩⟩⟩⟩⟩⟩⟩⟩⟩⟩⟩⟩⟩⟩⟩⟩⟩⟩⟩⟩⟩⟩⟩⟩⟩⟩⟩⟩⟩⟩⟩⟩⟩
set_option maxRecDepth 16384 in
theorem zst1.others_2_0 : (tables_1_2.take 22).all (fun c => zsu_isCode c || c.before args0 about) = true := by decide +kernel
set_option maxRecDepth 16384 in
theorem zst1.others_2_1 : ((tables_1_2.drop 22).take 20).all (fun c => zsu_isCode c || c.before args0 about) = true := by decide +kernel
set_option maxRecDepth 16384 in
theorem zst1.others_2_2 : (((tables_1_2.drop 22).drop 20).take 15).all (fun c => zsu_isCode c || c.before args0 about) = true := by decide +kernel
set_option maxRecDepth 16384 in
theorem zst1.others_2_3 : ((((tables_1_2.drop 22).drop 20).drop 15).take 21).all (fun c => zsu_isCode c || c.before args0 about) = true := by decide +kernel
set_option maxRecDepth 16384 in
theorem zst1.others_2_4 : (((((tables_1_2.drop 22).drop 20).drop 15).drop 21).take 20).all (fun c => zsu_isCode c || c.before args0 about) = true := by decide +kernel
set_option maxRecDepth 16384 in
theorem zst1.others_2_5 : ((((((tables_1_2.drop 22).drop 20).drop 15).drop 21).drop 20).take 22).all (fun c => zsu_isCode c || c.before args0 about) = true := by decide +kernel
set_option maxRecDepth 16384 in
theorem zst1.others_2_6 : (((((((tables_1_2.drop 22).drop 20).drop 15).drop 21).drop 20).drop 22).take 18).all (fun c => zsu_isCode c || c.before args0 about) = true := by decide +kernel
set_option maxRecDepth 16384 in
theorem zst1.others_2_7 : ((((((((tables_1_2.drop 22).drop 20).drop 15).drop 21).drop 20).drop 22).drop 18).take 10).all (fun c => zsu_isCode c || c.before args0 about) = true := by decide +kernel
set_option maxRecDepth 16384 in
theorem zst1.others_2_8 : (((((((((tables_1_2.drop 22).drop 20).drop 15).drop 21).drop 20).drop 22).drop 18).drop 10).take 40).all (fun c => zsu_isCode c || c.before args0 about) = true := by decide +kernel
set_option maxRecDepth 16384 in
theorem zst1.others_2_9 : ((((((((((tables_1_2.drop 22).drop 20).drop 15).drop 21).drop 20).drop 22).drop 18).drop 10).drop 40).take 30).all (fun c => zsu_isCode c || c.before args0 about) = true := by decide +kernel
set_option maxRecDepth 16384 in
theorem zst1.others_2_10 : (((((((((((tables_1_2.drop 22).drop 20).drop 15).drop 21).drop 20).drop 22).drop 18).drop 10).drop 40).drop 30).take 20).all (fun c => zsu_isCode c || c.before args0 about) = true := by decide +kernel
set_option maxRecDepth 16384 in
theorem zst1.others_2_11 : (((((((((((tables_1_2.drop 22).drop 20).drop 15).drop 21).drop 20).drop 22).drop 18).drop 10).drop 40).drop 30).drop 20).all (fun c => zsu_isCode c || c.before args0 about) = true := by decide +kernel
theorem zst1.others_hold_2 : tables_1_2.all (fun c => zsu_isCode c || c.before args0 about) = true := zsu_all_split _ 22 tables_1_2 others_2_0 (zsu_all_split _ 20 (tables_1_2.drop 22) others_2_1 (zsu_all_split _ 15 ((tables_1_2.drop 22).drop 20) others_2_2 (zsu_all_split _ 21 (((tables_1_2.drop 22).drop 20).drop 15) others_2_3 (zsu_all_split _ 20 ((((tables_1_2.drop 22).drop 20).drop 15).drop 21) others_2_4 (zsu_all_split _ 22 (((((tables_1_2.drop 22).drop 20).drop 15).drop 21).drop 20) others_2_5 (zsu_all_split _ 18 ((((((tables_1_2.drop 22).drop 20).drop 15).drop 21).drop 20).drop 22) others_2_6 (zsu_all_split _ 10 (((((((tables_1_2.drop 22).drop 20).drop 15).drop 21).drop 20).drop 22).drop 18) others_2_7 (zsu_all_split _ 40 ((((((((tables_1_2.drop 22).drop 20).drop 15).drop 21).drop 20).drop 22).drop 18).drop 10) others_2_8 (zsu_all_split _ 30 (((((((((tables_1_2.drop 22).drop 20).drop 15).drop 21).drop 20).drop 22).drop 18).drop 10).drop 40) others_2_9 (zsu_all_split _ 20 ((((((((((tables_1_2.drop 22).drop 20).drop 15).drop 21).drop 20).drop 22).drop 18).drop 10).drop 40).drop 30) others_2_10 others_2_11))))))))))
theorem zst1.words_2 : ∀ c ∈ tables_1_2, c.before args0 about = true := fun c h => zsu_words others_hold_2 codes_hold_2 c h
