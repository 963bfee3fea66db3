set_option maxRecDepth 16384
def zst1.c3 : Class := { zsu_own "Deeprows$Row" 0x30
    [(1, 3, "java/lang/Object", "<init>", "()V", 1, 0),
     (0, 9, "Deeprows$Row", "kind", "I", 3, 0),
     (2, 10, "Deeprows$Row", "", "", 3, 0),
     (0, 15, "Deeprows$Row", "length", "I", 3, 1),
     (0, 18, "Deeprows$Row", "whats", "[I", 3, 2),
     (0, 22, "Deeprows$Row", "values", "[I", 3, 3),
     (0, 25, "Deeprows$Row", "hung", "[LDeeprows$Row;", 3, 4),
     (1, 29, "Deeprows", "fitting", "(II)I", 2, 46),
     (1, 33, "Deeprows$Row", "change", "(IIILDeeprows$Row;)V", 3, 1)]
    [("kind", .int, 0x12), ("length", .int, 0x12), ("whats", .array .int, 0x12), ("values", .array .int, 0x12), ("hung", .array (.object "Deeprows$Row"), 0x12), ("number", .int, 0x2)] (Lib.HandJ.method "<init>" "(II)V" [.int, .int] none 0x0 4 prog_2_method_1_code) with
  methods := #[Lib.HandJ.method "<init>" "(II)V" [.int, .int] none 0x0 4 prog_2_method_1_code,
    Lib.HandJ.method "change" "(IIILDeeprows$Row;)V" [.int, .int, .int, .object "Deeprows$Row"] none 0x2 5 prog_2_method_2_code,
    Lib.HandJ.method "putNumber" "(II)V" [.int, .int] none 0x0 3 prog_2_method_3_code,
    Lib.HandJ.method "putText" "(II)V" [.int, .int] none 0x0 3 prog_2_method_4_code,
    Lib.HandJ.method "putNothing" "(I)V" [.int] none 0x0 2 prog_2_method_5_code,
    Lib.HandJ.method "putRow" "(ILDeeprows$Row;)V" [.int, .object "Deeprows$Row"] none 0x0 3 prog_2_method_6_code,
    Lib.HandJ.method "putSame" "(ILDeeprows$Row;I)V" [.int, .object "Deeprows$Row", .int] none 0x0 4 prog_2_method_7_code],
  nestHost := some 2 }
def zst1.c4 : Class := { zsu_own "java/lang/StringUTF16" 0x30
    [(1, 11, "java/lang/StringUTF16", "newBytesLength", "(I)I", 4, 1),
     (5, 20, "", "", "", 1073741823, 0),
     (0, 44, "java/lang/StringUTF16", "$assertionsDisabled", "Z", 4, 3),
     (1, 48, "java/lang/StringUTF16", "length", "([B)I", 4, 4),
     (0, 59, "java/lang/StringUTF16", "HI_BYTE_SHIFT", "I", 4, 0),
     (0, 63, "java/lang/StringUTF16", "LO_BYTE_SHIFT", "I", 4, 1),
     (1, 67, "java/lang/StringUTF16", "checkIndex", "(I[B)V", 4, 17),
     (1, 71, "java/lang/StringUTF16", "getChar", "([BI)C", 4, 3),
     (1, 96, "java/lang/StringUTF16", "checkBoundsBeginEnd", "(II[B)V", 4, 18),
     (1, 111, "java/lang/StringUTF16", "putChar", "([BII)V", 4, 2),
     (1, 123, "java/lang/StringUTF16", "compress", "([BI[BII)I", 4, 7),
     (1, 126, "java/util/Arrays", "copyOfRange", "([BII)[B", 9, 6),
     (1, 173, "java/lang/StringUTF16", "checkBoundsOffCount", "(II[B)V", 4, 19),
     (1, 241, "java/lang/String", "checkBoundsBeginEnd", "(III)V", 25, 10),
     (1, 380, "java/util/Arrays", "fill", "([BIIB)V", 9, 1),
     (1, 393, "java/lang/StringUTF16", "getChars", "(II[B)I", 4, 15),
     (1, 396, "java/lang/StringUTF16", "getChars", "(JI[B)I", 4, 16),
     (0, 403, "java/lang/Integer", "DigitOnes", "[B", 32, 6),
     (0, 407, "java/lang/Integer", "DigitTens", "[B", 32, 5),
     (4, 410, "", "", "", 18446744071562067968, 0),
     (4, 412, "", "", "", 100, 0),
     (1, 414, "java/lang/String", "checkIndex", "(II)V", 25, 8),
     (1, 419, "java/lang/String", "checkBoundsOffCount", "(III)I", 25, 9)]
    [] (Lib.HandJ.method "newBytesFor" "(I)[B" [.int] (some (.array .byte)) 0x9 1 prog_28_method_2_code) with
  methods := #[Lib.HandJ.method "newBytesFor" "(I)[B" [.int] (some (.array .byte)) 0x9 1 prog_28_method_2_code,
    Lib.HandJ.method "newBytesLength" "(I)I" [.int] (some .int) 0x9 1 prog_28_method_3_code,
    Lib.HandJ.method "putChar" "([BII)V" [.array .byte, .int, .int] none 0x8 3 prog_28_method_4_code,
    Lib.HandJ.method "getChar" "([BI)C" [.array .byte, .int] (some .char) 0x8 2 prog_28_method_5_code,
    Lib.HandJ.method "length" "([B)I" [.array .byte] (some .int) 0x9 1 prog_28_method_6_code,
    Lib.HandJ.method "coderFromArrayLen" "([BI)B" [.array .byte, .int] (some .byte) 0x8 2 prog_28_method_15_code,
    Lib.HandJ.method "compress" "([BII)[B" [.array .byte, .int, .int] (some (.array .byte)) 0x9 6 prog_28_method_17_code,
    Lib.HandJ.method "compress" "([BI[BII)I" [.array .byte, .int, .array .byte, .int, .int] (some .int) 0x9 7 prog_28_method_22_code,
    Lib.HandJ.method "fillNull" "([BII)V" [.array .byte, .int, .int] none 0x9 3 prog_28_method_70_code,
    Lib.HandJ.method "putCharSB" "([BII)V" [.array .byte, .int, .int] none 0x9 3 prog_28_method_71_code,
    Lib.HandJ.method "getChars" "(III[B)I" [.int, .int, .int, .array .byte] (some .int) 0x9 5 prog_28_method_77_code,
    Lib.HandJ.method "getChars" "(JII[B)I" [.long, .int, .int, .array .byte] (some .int) 0x9 6 prog_28_method_78_code,
    Lib.HandJ.method "putCharsAt" "([BICCCC)I" [.array .byte, .int, .char, .char, .char, .char] (some .int) 0x9 7 prog_28_method_81_code,
    Lib.HandJ.method "charAt" "([BI)C" [.array .byte, .int] (some .char) 0x9 2 prog_28_method_83_code,
    Lib.HandJ.method "inflate" "([BI[BII)V" [.array .byte, .int, .array .byte, .int, .int] none 0x9 6 prog_28_method_86_code,
    Lib.HandJ.method "getChars" "(II[B)I" [.int, .int, .array .byte] (some .int) 0x8 7 prog_28_method_89_code,
    Lib.HandJ.method "getChars" "(JI[B)I" [.long, .int, .array .byte] (some .int) 0x8 11 prog_28_method_90_code,
    Lib.HandJ.method "checkIndex" "(I[B)V" [.int, .array .byte] none 0x9 2 prog_28_method_91_code,
    Lib.HandJ.method "checkBoundsBeginEnd" "(II[B)V" [.int, .int, .array .byte] none 0x9 3 prog_28_method_93_code,
    Lib.HandJ.method "checkBoundsOffCount" "(II[B)V" [.int, .int, .array .byte] none 0x9 3 prog_28_method_94_code],
  fields := (Lib.HandW.fieldsFrom [] 0).toArray ++ #[{ name := "HI_BYTE_SHIFT", type := .int, accessFlags := 0x1a, slot := 0, constantValue := 0 }, { name := "LO_BYTE_SHIFT", type := .int, accessFlags := 0x1a, slot := 1, constantValue := 0 }, { name := "MAX_LENGTH", type := .int, accessFlags := 0x18, slot := 2, constantValue := 0 }, { name := "$assertionsDisabled", type := .boolean, accessFlags := 0x1018, slot := 3, constantValue := 0 }],
  staticTypes := #[.int, .int, .int, .boolean],
  statics := some 1 }
def zst1.c5 : Class := { zsu_own "DeeprowsModel" 0x31
    [(1, 1, "java/lang/Object", "<init>", "()V", 1, 0),
     (2, 7, "java/util/ArrayList", "", "", 41, 0),
     (1, 9, "java/util/ArrayList", "<init>", "()V", 41, 0),
     (0, 10, "DeeprowsModel", "rows", "Ljava/util/ArrayList;", 5, 1),
     (0, 16, "DeeprowsModel", "thrown", "I", 5, 0),
     (1, 20, "DeeprowsModel", "refuse", "(ZI)Z", 5, 4),
     (1, 24, "java/util/ArrayList", "size", "()I", 41, 3),
     (1, 28, "DeeprowsModel", "isIn", "(III)Z", 5, 0),
     (1, 32, "DeeprowsModel", "isNoRow", "(I)Z", 5, 6),
     (1, 36, "java/util/ArrayList", "get", "(I)Ljava/lang/Object;", 41, 6),
     (2, 40, "DeeprowsModel$Row", "", "", 11, 0),
     (1, 42, "DeeprowsModel$Row", "length", "()I", 11, 1),
     (1, 45, "DeeprowsModel$Row", "hangs", "(I)Z", 11, 4),
     (0, 48, "DeeprowsModel$Row", "numbers", "[I", 11, 2),
     (1, 52, "java/lang/Math", "max", "(II)I", 8, 1),
     (1, 58, "DeeprowsModel$Row", "twin", "(I)LDeeprowsModel$Row;", 11, 5),
     (1, 62, "DeeprowsModel$Row", "put", "(III)V", 11, 2),
     (1, 66, "DeeprowsModel", "depthOf", "(I)I", 5, 9),
     (0, 70, "DeeprowsModel$Row", "whats", "[I", 11, 1),
     (1, 73, "DeeprowsModel", "start", "(ZI)Z", 5, 5),
     (1, 76, "DeeprowsModel$Row", "<init>", "(II)V", 11, 0),
     (1, 79, "java/util/ArrayList", "add", "(Ljava/lang/Object;)Z", 41, 8),
     (1, 83, "java/util/ArrayList", "isEmpty", "()Z", 41, 4),
     (1, 87, "java/util/ArrayList", "remove", "(I)Ljava/lang/Object;", 41, 9),
     (1, 90, "java/util/ArrayList", "clear", "()V", 41, 11),
     (1, 93, "DeeprowsModel", "isNoPlace", "(II)Z", 5, 7),
     (1, 97, "DeeprowsModel", "isNoNumber", "(I)Z", 5, 8),
     (1, 100, "DeeprowsModel$Row", "number", "(II)V", 11, 3),
     (0, 103, "DeeprowsModel$Row", "kind", "I", 11, 0),
     (1, 106, "DeeprowsModel", "nowhere", "(I)[I", 5, 17),
     (1, 110, "DeeprowsModel", "areHung", "(I[I)Z", 5, 10),
     (0, 114, "DeeprowsModel", "refused", "I", 5, 3),
     (1, 117, "java/lang/Math", "min", "(II)I", 8, 2),
     (0, 120, "DeeprowsModel", "made", "I", 5, 2),
     (1, 123, "DeeprowsModel", "manyIn", "(I)I", 5, 25),
     (1, 126, "DeeprowsModel", "deepTwinOf", "(I)I", 5, 26),
     (1, 129, "DeeprowsModel", "isDeepOf", "(II)Z", 5, 35),
     (1, 132, "DeeprowsModel", "areAlike", "(LDeeprowsModel$Row;ILDeeprowsModel$Row;IZ)Z", 5, 34),
     (1, 136, "DeeprowsModel", "areUnlikeKinds", "(II)Z", 5, 37),
     (1, 139, "DeeprowsModel", "differOf", "(II)I", 5, 38),
     (1, 142, "java/lang/String", "length", "()I", 25, 1),
     (1, 145, "java/lang/String", "charAt", "(I)C", 25, 2),
     (4, 149, "", "", "", 3000000000, 0),
     (0, 151, "DeeprowsModel", "TEXTS", "[Ljava/lang/String;", 5, 20),
     (1, 155, "DeeprowsModel", "hashOf", "(Ljava/lang/String;)I", 5, 41),
     (1, 159, "DeeprowsModel", "hashOf", "(I)I", 5, 43),
     (1, 161, "DeeprowsModel", "hashAt", "(LDeeprowsModel$Row;I)I", 5, 42),
     (2, 165, "java/lang/StringBuilder", "", "", 30, 0),
     (1, 167, "java/lang/StringBuilder", "<init>", "()V", 30, 0),
     (3, 168, "", "", "", 26, 0),
     (1, 170, "java/lang/StringBuilder", "append", "(Ljava/lang/String;)Ljava/lang/StringBuilder;", 30, 1),
     (1, 174, "java/lang/StringBuilder", "append", "(I)Ljava/lang/StringBuilder;", 30, 3),
     (1, 177, "java/lang/StringBuilder", "toString", "()Ljava/lang/String;", 30, 5),
     (1, 181, "java/lang/StringBuilder", "append", "(J)Ljava/lang/StringBuilder;", 30, 4),
     (3, 184, "", "true", "", 30, 0),
     (3, 186, "", "false", "", 32, 0),
     (1, 188, "java/lang/StringBuilder", "append", "(C)Ljava/lang/StringBuilder;", 30, 2),
     (3, 191, "", "null", "", 34, 0),
     (1, 193, "DeeprowsModel", "textOf", "(I)Ljava/lang/String;", 5, 47),
     (3, 197, "", "[", "", 88, 0),
     (3, 199, "", ", ", "", 24, 0),
     (1, 201, "DeeprowsModel", "textAt", "(LDeeprowsModel$Row;I)Ljava/lang/String;", 5, 46),
     (3, 205, "", "]", "", 90, 0),
     (0, 207, "DeeprowsModel", "knocked", "I", 5, 4),
     (1, 210, "DeeprowsModel", "one", "(Z)I", 5, 1),
     (1, 214, "DeeprowsModel", "houseTold", "(I)I", 5, 52),
     (4, 217, "", "", "", 31, 0),
     (4, 219, "", "", "", 7779, 0),
     (1, 221, "DeeprowsModel", "add", "(JJ)J", 5, 55),
     (3, 224, "", "1", "", 36, 0),
     (3, 226, "", "1, 2", "", 38, 0),
     (3, 228, "", "[]", "", 40, 0),
     (3, 230, "", "a", "", 42, 0),
     (3, 232, "", "ab", "", 44, 0),
     (3, 234, "", "-1", "", 46, 0),
     (3, 236, "", "[1]", "", 48, 0)]
    [("thrown", .int, 0x2), ("rows", .object "java/util/ArrayList", 0x12), ("made", .int, 0x2), ("refused", .int, 0x2), ("knocked", .int, 0x2)] (Lib.HandJ.method "isIn" "(III)Z" [.int, .int, .int] (some .boolean) 0xa 3 prog_5_method_1_code) with
  methods := #[Lib.HandJ.method "isIn" "(III)Z" [.int, .int, .int] (some .boolean) 0xa 3 prog_5_method_1_code,
    Lib.HandJ.method "one" "(Z)I" [.boolean] (some .int) 0xa 1 prog_5_method_2_code,
    Lib.HandJ.method "<init>" "()V" [] none 0x1 1 prog_5_method_3_code,
    Lib.HandJ.method "thrown" "()I" [] (some .int) 0x1 1 prog_5_method_4_code,
    Lib.HandJ.method "refuse" "(ZI)Z" [.boolean, .int] (some .boolean) 0x2 3 prog_5_method_5_code,
    Lib.HandJ.method "start" "(ZI)Z" [.boolean, .int] (some .boolean) 0x2 3 prog_5_method_6_code,
    Lib.HandJ.method "isNoRow" "(I)Z" [.int] (some .boolean) 0x2 2 prog_5_method_7_code,
    Lib.HandJ.method "isNoPlace" "(II)Z" [.int, .int] (some .boolean) 0x2 3 prog_5_method_8_code,
    Lib.HandJ.method "isNoNumber" "(I)Z" [.int] (some .boolean) 0xa 1 prog_5_method_9_code,
    Lib.HandJ.method "depthOf" "(I)I" [.int] (some .int) 0x2 6 prog_5_method_10_code,
    Lib.HandJ.method "areHung" "(I[I)Z" [.int, .array .int] (some .boolean) 0x2 7 prog_5_method_11_code,
    Lib.HandJ.method "make" "(II)I" [.int, .int] (some .int) 0x1 3 prog_5_method_12_code,
    Lib.HandJ.method "drop" "()I" [] (some .int) 0x1 1 prog_5_method_13_code,
    Lib.HandJ.method "empty" "()I" [] (some .int) 0x1 2 prog_5_method_14_code,
    Lib.HandJ.method "put" "(III)I" [.int, .int, .int] (some .int) 0x1 4 prog_5_method_15_code,
    Lib.HandJ.method "say" "(III)I" [.int, .int, .int] (some .int) 0x1 4 prog_5_method_16_code,
    Lib.HandJ.method "none" "(II)I" [.int, .int] (some .int) 0x1 3 prog_5_method_17_code,
    Lib.HandJ.method "nowhere" "(I)[I" [.int] (some (.array .int)) 0x2 4 prog_5_method_18_code,
    Lib.HandJ.method "hang" "(III)I" [.int, .int, .int] (some .int) 0x1 5 prog_5_method_19_code,
    Lib.HandJ.method "swap" "(III)I" [.int, .int, .int] (some .int) 0x1 7 prog_5_method_20_code,
    Lib.HandJ.method "fill" "(II)I" [.int, .int] (some .int) 0x1 5 prog_5_method_21_code,
    Lib.HandJ.method "fillRow" "(II)I" [.int, .int] (some .int) 0x1 5 prog_5_method_22_code,
    Lib.HandJ.method "setAll" "(IIII)I" [.int, .int, .int, .int] (some .int) 0x1 7 prog_5_method_23_code,
    Lib.HandJ.method "setRows" "(II)I" [.int, .int] (some .int) 0x1 6 prog_5_method_24_code,
    Lib.HandJ.method "twin" "(I)I" [.int] (some .int) 0x1 2 prog_5_method_25_code,
    Lib.HandJ.method "manyIn" "(I)I" [.int] (some .int) 0x2 5 prog_5_method_26_code,
    Lib.HandJ.method "deepTwinOf" "(I)I" [.int] (some .int) 0x2 5 prog_5_method_27_code,
    Lib.HandJ.method "deepTwin" "(I)I" [.int] (some .int) 0x1 2 prog_5_method_28_code,
    Lib.HandJ.method "copy" "(II)I" [.int, .int] (some .int) 0x1 3 prog_5_method_29_code,
    Lib.HandJ.method "kind" "(I)I" [.int] (some .int) 0x1 2 prog_5_method_30_code,
    Lib.HandJ.method "length" "(I)I" [.int] (some .int) 0x1 2 prog_5_method_31_code,
    Lib.HandJ.method "depth" "(I)I" [.int] (some .int) 0x1 2 prog_5_method_32_code,
    Lib.HandJ.method "what" "(II)I" [.int, .int] (some .int) 0x1 3 prog_5_method_33_code,
    Lib.HandJ.method "at" "(II)I" [.int, .int] (some .int) 0x1 3 prog_5_method_34_code,
    Lib.HandJ.method "areAlike" "(LDeeprowsModel$Row;ILDeeprowsModel$Row;IZ)Z" [.object "DeeprowsModel$Row", .int, .object "DeeprowsModel$Row", .int, .boolean] (some .boolean) 0x2 7 prog_5_method_35_code,
    Lib.HandJ.method "isDeepOf" "(II)Z" [.int, .int] (some .boolean) 0x2 7 prog_5_method_36_code,
    Lib.HandJ.method "isDeep" "(II)Z" [.int, .int] (some .boolean) 0x1 3 prog_5_method_37_code,
    Lib.HandJ.method "areUnlikeKinds" "(II)Z" [.int, .int] (some .boolean) 0x2 3 prog_5_method_38_code,
    Lib.HandJ.method "differOf" "(II)I" [.int, .int] (some .int) 0x2 7 prog_5_method_39_code,
    Lib.HandJ.method "isFlat" "(II)Z" [.int, .int] (some .boolean) 0x1 3 prog_5_method_40_code,
    Lib.HandJ.method "areDeep" "(IIII)Z" [.int, .int, .int, .int] (some .boolean) 0x1 5 prog_5_method_41_code,
    Lib.HandJ.method "hashOf" "(Ljava/lang/String;)I" [.object "java/lang/String"] (some .int) 0xa 3 prog_5_method_42_code,
    Lib.HandJ.method "hashAt" "(LDeeprowsModel$Row;I)I" [.object "DeeprowsModel$Row", .int] (some .int) 0x2 6 prog_5_method_43_code,
    Lib.HandJ.method "hashOf" "(I)I" [.int] (some .int) 0x2 5 prog_5_method_44_code,
    Lib.HandJ.method "hash" "(I)I" [.int] (some .int) 0x1 2 prog_5_method_45_code,
    Lib.HandJ.method "flatHash" "(I)I" [.int] (some .int) 0x1 2 prog_5_method_46_code,
    Lib.HandJ.method "textAt" "(LDeeprowsModel$Row;I)Ljava/lang/String;" [.object "DeeprowsModel$Row", .int] (some (.object "java/lang/String")) 0x2 4 prog_5_method_47_code,
    Lib.HandJ.method "textOf" "(I)Ljava/lang/String;" [.int] (some (.object "java/lang/String")) 0x2 5 prog_5_method_48_code,
    Lib.HandJ.method "text" "(I)Ljava/lang/String;" [.int] (some (.object "java/lang/String")) 0x1 2 prog_5_method_49_code,
    Lib.HandJ.method "differ" "(II)I" [.int, .int] (some .int) 0x1 3 prog_5_method_50_code,
    Lib.HandJ.method "compare" "(II)I" [.int, .int] (some .int) 0x1 6 prog_5_method_51_code,
    Lib.HandJ.method "knock" "()I" [] (some .int) 0x1 1 prog_5_method_52_code,
    Lib.HandJ.method "houseTold" "(I)I" [.int] (some .int) 0x2 6 prog_5_method_53_code,
    Lib.HandJ.method "house" "(I)I" [.int] (some .int) 0x1 2 prog_5_method_54_code,
    Lib.HandJ.method "isSound" "()Z" [] (some .boolean) 0x1 1 prog_5_method_55_code,
    Lib.HandJ.method "add" "(JJ)J" [.long, .long] (some .long) 0xa 4 prog_5_method_56_code,
    Lib.HandJ.method "digest" "()J" [] (some .long) 0x1 6 prog_5_method_57_code],
  fields := (Lib.HandW.fieldsFrom [("thrown", .int, 0x2), ("rows", .object "java/util/ArrayList", 0x12), ("made", .int, 0x2), ("refused", .int, 0x2), ("knocked", .int, 0x2)] 0).toArray ++ #[{ name := "NONE", type := .int, accessFlags := 0x1a, slot := 0, constantValue := 0 }, { name := "REFUSED", type := .int, accessFlags := 0x1a, slot := 1, constantValue := 0 }, { name := "MOST", type := .int, accessFlags := 0x1a, slot := 2, constantValue := 0 }, { name := "LONGEST", type := .int, accessFlags := 0x1a, slot := 3, constantValue := 0 }, { name := "DEEPEST", type := .int, accessFlags := 0x1a, slot := 4, constantValue := 0 }, { name := "INTS", type := .int, accessFlags := 0x1a, slot := 5, constantValue := 0 }, { name := "LONGS", type := .int, accessFlags := 0x1a, slot := 6, constantValue := 0 }, { name := "TRUTHS", type := .int, accessFlags := 0x1a, slot := 7, constantValue := 0 }, { name := "SIGNS", type := .int, accessFlags := 0x1a, slot := 8, constantValue := 0 }, { name := "THINGS", type := .int, accessFlags := 0x1a, slot := 9, constantValue := 0 }, { name := "NOTHING", type := .int, accessFlags := 0x1a, slot := 10, constantValue := 0 }, { name := "NUMBER", type := .int, accessFlags := 0x1a, slot := 11, constantValue := 0 }, { name := "TEXT", type := .int, accessFlags := 0x1a, slot := 12, constantValue := 0 }, { name := "ROW", type := .int, accessFlags := 0x1a, slot := 13, constantValue := 0 }, { name := "TIMES", type := .long, accessFlags := 0x1a, slot := 14, constantValue := 0 }, { name := "TEXTS", type := .array (.object "java/lang/String"), accessFlags := 0x1a, slot := 15, constantValue := 0 }],
  staticTypes := #[.int, .int, .int, .int, .int, .int, .int, .int, .int, .int, .int, .int, .int, .int, .long, .array (.object "java/lang/String")],
  statics := some 2 }
def zst1.c6 : Class := { zsu_own "DeeprowsLaw$Out" 0x30
    [(1, 1, "java/lang/Object", "<init>", "()V", 1, 0)]
    [("n", .long, 0x2), ("s", .object "java/lang/String", 0x2)] (Lib.HandJ.method "<init>" "()V" [] none 0x2 1 prog_4_method_1_code) with
  methods := #[Lib.HandJ.method "<init>" "()V" [] none 0x2 1 prog_4_method_1_code],
  nestHost := some 0 }
def zst1.c7 : Class := { zsu_own "jdk/internal/util/ArraysSupport" 0x21
    [(1, 194, "java/lang/Math", "max", "(II)I", 8, 1),
     (5, 200, "", "", "", 2147483639, 0),
     (1, 201, "jdk/internal/util/ArraysSupport", "hugeLength", "(II)I", 7, 1)]
    [] (Lib.HandJ.method "newLength" "(III)I" [.int, .int, .int] (some .int) 0x9 4 prog_42_method_27_code) with
  methods := #[Lib.HandJ.method "newLength" "(III)I" [.int, .int, .int] (some .int) 0x9 4 prog_42_method_27_code,
    Lib.HandJ.method "hugeLength" "(II)I" [.int, .int] (some .int) 0xa 3 prog_42_method_28_code] }
def zst1.c8 : Class := { zsu_own "java/lang/Math" 0x31
    []
    [] (Lib.HandJ.method "floorMod" "(II)I" [.int, .int] (some .int) 0x9 3 prog_21_method_50_code) with
  methods := #[Lib.HandJ.method "floorMod" "(II)I" [.int, .int] (some .int) 0x9 3 prog_21_method_50_code,
    Lib.HandJ.method "max" "(II)I" [.int, .int] (some .int) 0x9 2 prog_21_method_65_code,
    Lib.HandJ.method "min" "(II)I" [.int, .int] (some .int) 0x9 2 prog_21_method_69_code] }
def zst1.c9 : Class := zsuRes [(477, .cls 47)] <| { zsu_own "java/util/Arrays" 0x31
    [(2, 2, "java/lang/Object", "", "", 1, 0),
     (1, 13, "java/util/Arrays", "rangeCheck", "(III)V", 9, 0),
     (2, 43, "java/lang/IllegalArgumentException", "", "", 38, 0),
     (2, 45, "java/lang/StringBuilder", "", "", 30, 0),
     (1, 47, "java/lang/StringBuilder", "<init>", "()V", 30, 0),
     (3, 48, "", "fromIndex(", "", 16, 0),
     (1, 50, "java/lang/StringBuilder", "append", "(Ljava/lang/String;)Ljava/lang/StringBuilder;", 30, 1),
     (1, 54, "java/lang/StringBuilder", "append", "(I)Ljava/lang/StringBuilder;", 30, 3),
     (3, 57, "", ") > toIndex(", "", 18, 0),
     (3, 59, "", ")", "", 20, 0),
     (1, 61, "java/lang/StringBuilder", "toString", "()Ljava/lang/String;", 30, 5),
     (1, 65, "java/lang/IllegalArgumentException", "<init>", "(Ljava/lang/String;)V", 38, 0),
     (2, 68, "java/lang/ArrayIndexOutOfBoundsException", "", "", 43, 0),
     (1, 70, "java/lang/ArrayIndexOutOfBoundsException", "<init>", "(I)V", 43, 0),
     (1, 86, "java/lang/Object", "getClass", "()Ljava/lang/Class;", 1, 2),
     (2, 110, "[Ljava/lang/Object;", "", "", 49, 0),
     (1, 150, "java/lang/System", "arraycopy", "(Ljava/lang/Object;ILjava/lang/Object;II)V", 10, 0),
     (1, 300, "java/util/Arrays", "copyOf", "([Ljava/lang/Object;ILjava/lang/Class;)[Ljava/lang/Object;", 9, 3),
     (1, 304, "java/lang/Math", "min", "(II)I", 8, 2),
     (1, 310, "[B", "clone", "()Ljava/lang/Object;", 1, 1),
     (2, 311, "[B", "", "", 47, 0),
     (3, 337, "", " > ", "", 14, 0),
     (1, 339, "java/util/Arrays", "copyOfRangeByte", "([BII)[B", 9, 7),
     (1, 343, "java/util/Arrays", "checkLength", "(II)V", 9, 5)]
    [] (Lib.HandJ.method "rangeCheck" "(III)V" [.int, .int, .int] none 0x8 3 prog_36_method_30_code) with
  methods := #[Lib.HandJ.method "rangeCheck" "(III)V" [.int, .int, .int] none 0x8 3 prog_36_method_30_code,
    Lib.HandJ.method "fill" "([BIIB)V" [.array .byte, .int, .int, .byte] none 0x9 5 prog_36_method_110_code,
    Lib.HandJ.method "copyOf" "([Ljava/lang/Object;I)[Ljava/lang/Object;" [.array (.object "java/lang/Object"), .int] (some (.array (.object "java/lang/Object"))) 0x9 2 prog_36_method_119_code,
    Lib.HandJ.method "copyOf" "([Ljava/lang/Object;ILjava/lang/Class;)[Ljava/lang/Object;" [.array (.object "java/lang/Object"), .int, .object "java/lang/Class"] (some (.array (.object "java/lang/Object"))) 0x9 4 prog_36_method_120_code,
    Lib.HandJ.method "copyOf" "([BI)[B" [.array .byte, .int] (some (.array .byte)) 0x9 3 prog_36_method_121_code,
    Lib.HandJ.method "checkLength" "(II)V" [.int, .int] none 0xa 2 prog_36_method_131_code,
    Lib.HandJ.method "copyOfRange" "([BII)[B" [.array .byte, .int, .int] (some (.array .byte)) 0x9 3 prog_36_method_132_code,
    Lib.HandJ.method "copyOfRangeByte" "([BII)[B" [.array .byte, .int, .int] (some (.array .byte)) 0xa 5 prog_36_method_133_code] }
def zst1.c10 : Class := { zsu_own "java/lang/System" 0x31
    []
    [] ({ name := "arraycopy", desc := "(Ljava/lang/Object;ILjava/lang/Object;II)V", sig := { parameters := [.object "java/lang/Object", .int, .object "java/lang/Object", .int, .int], returnType := none }, accessFlags := 0x109, code := none }) with
  methods := #[{ name := "arraycopy", desc := "(Ljava/lang/Object;ILjava/lang/Object;II)V", sig := { parameters := [.object "java/lang/Object", .int, .object "java/lang/Object", .int, .int], returnType := none }, accessFlags := 0x109, code := none }] }
def zst1.c11 : Class := { zsu_own "DeeprowsModel$Row" 0x30
    [(1, 3, "java/lang/Object", "<init>", "()V", 1, 0),
     (0, 9, "DeeprowsModel$Row", "kind", "I", 11, 0),
     (2, 10, "DeeprowsModel$Row", "", "", 11, 0),
     (0, 15, "DeeprowsModel$Row", "whats", "[I", 11, 1),
     (0, 19, "DeeprowsModel$Row", "numbers", "[I", 11, 2),
     (1, 22, "DeeprowsModel$Row", "put", "(III)V", 11, 2),
     (1, 26, "DeeprowsModel", "one", "(Z)I", 5, 1),
     (1, 30, "java/lang/Math", "floorMod", "(II)I", 8, 0),
     (1, 36, "DeeprowsModel$Row", "<init>", "(II)V", 11, 0),
     (1, 39, "DeeprowsModel$Row", "length", "()I", 11, 1)]
    [("kind", .int, 0x10), ("whats", .array .int, 0x10), ("numbers", .array .int, 0x10)] (Lib.HandJ.method "<init>" "(II)V" [.int, .int] none 0x0 4 prog_6_method_1_code) with
  methods := #[Lib.HandJ.method "<init>" "(II)V" [.int, .int] none 0x0 4 prog_6_method_1_code,
    Lib.HandJ.method "length" "()I" [] (some .int) 0x0 1 prog_6_method_2_code,
    Lib.HandJ.method "put" "(III)V" [.int, .int, .int] none 0x0 4 prog_6_method_3_code,
    Lib.HandJ.method "number" "(II)V" [.int, .int] none 0x0 3 prog_6_method_4_code,
    Lib.HandJ.method "hangs" "(I)Z" [.int] (some .boolean) 0x0 2 prog_6_method_5_code,
    Lib.HandJ.method "twin" "(I)LDeeprowsModel$Row;" [.int] (some (.object "DeeprowsModel$Row")) 0x0 4 prog_6_method_6_code],
  nestHost := some 5 }
def zst1.c12 : Class := { zsu_own "java/util/Objects" 0x31
    [(1, 105, "jdk/internal/util/Preconditions", "checkIndex", "(IILjava/util/function/BiFunction;)I", 13, 0)]
    [] (Lib.HandJ.method "checkIndex" "(II)I" [.int, .int] (some .int) 0x9 2 prog_39_method_17_code) with
  methods := #[Lib.HandJ.method "checkIndex" "(II)I" [.int, .int] (some .int) 0x9 2 prog_39_method_17_code] }
def zst1.c13 : Class := { zsu_own "jdk/internal/util/Preconditions" 0x21
    []
    [] (Lib.HandJ.method "checkIndex" "(IILjava/util/function/BiFunction;)I" [.int, .int, .object "java/util/function/BiFunction"] (some .int) 0x9 3 prog_43_method_11_code) with
  methods := #[Lib.HandJ.method "checkIndex" "(IILjava/util/function/BiFunction;)I" [.int, .int, .object "java/util/function/BiFunction"] (some .int) 0x9 3 prog_43_method_11_code,
    Lib.HandJ.method "checkFromToIndex" "(IIILjava/util/function/BiFunction;)I" [.int, .int, .int, .object "java/util/function/BiFunction"] (some .int) 0x9 4 prog_43_method_12_code,
    Lib.HandJ.method "checkFromIndexSize" "(IIILjava/util/function/BiFunction;)I" [.int, .int, .int, .object "java/util/function/BiFunction"] (some .int) 0x9 4 prog_43_method_13_code],
  fields := (Lib.HandW.fieldsFrom [] 0).toArray ++ #[{ name := "SIOOBE_FORMATTER", type := .object "java/util/function/BiFunction", accessFlags := 0x19, slot := 0, constantValue := 0 }, { name := "AIOOBE_FORMATTER", type := .object "java/util/function/BiFunction", accessFlags := 0x19, slot := 1, constantValue := 0 }, { name := "IOOBE_FORMATTER", type := .object "java/util/function/BiFunction", accessFlags := 0x19, slot := 2, constantValue := 0 }],
  staticTypes := #[.object "java/util/function/BiFunction", .object "java/util/function/BiFunction", .object "java/util/function/BiFunction"],
  statics := some 3 }
def zst1.c14 : Class := { zsu_own "java/lang/StringLatin1" 0x30
    [(1, 9, "java/lang/String", "checkIndex", "(II)V", 25, 8),
     (1, 236, "java/util/Arrays", "fill", "([BIIB)V", 9, 1),
     (1, 240, "java/lang/StringUTF16", "inflate", "([BI[BII)V", 4, 14)]
    [] (Lib.HandJ.method "charAt" "([BI)C" [.array .byte, .int] (some .char) 0x9 2 prog_27_method_2_code) with
  methods := #[Lib.HandJ.method "charAt" "([BI)C" [.array .byte, .int] (some .char) 0x9 2 prog_27_method_2_code,
    Lib.HandJ.method "canEncode" "(C)Z" [.char] (some .boolean) 0x9 1 prog_27_method_3_code,
    Lib.HandJ.method "equals" "([B[B)Z" [.array .byte, .array .byte] (some .boolean) 0x9 3 prog_27_method_13_code,
    Lib.HandJ.method "fillNull" "([BII)V" [.array .byte, .int, .int] none 0x9 3 prog_27_method_48_code,
    Lib.HandJ.method "inflate" "([BI[BII)V" [.array .byte, .int, .array .byte, .int, .int] none 0x9 5 prog_27_method_50_code] }
def zst1.c15 : Class := { zsu_own "java/lang/Cloneable" 0x601
    []
    [] mLaw with
  methods := #[] }
def zst1.c16 : Class := { zsu_own "java/util/RandomAccess" 0x601
    []
    [] mLaw with
  methods := #[] }
def zst1.c17 : Class := { zsu_own "java/io/Serializable" 0x601
    []
    [] mLaw with
  methods := #[] }
def zst1.c18 : Class := { zsu_own "java/lang/Appendable" 0x601
    []
    [] mLaw with
  methods := #[] }
def zst1.c19 : Class := { zsu_own "java/lang/CharSequence" 0x601
    []
    [] mLaw with
  methods := #[] }
def zst1.c20 : Class := { zsu_own "java/lang/Comparable" 0x601
    []
    [] mLaw with
  methods := #[] }
def zst1.c21 : Class := { zsu_own "java/lang/constant/Constable" 0x601
    []
    [] mLaw with
  methods := #[] }
def zst1.c22 : Class := { zsu_own "java/lang/constant/ConstantDesc" 0x601
    []
    [] mLaw with
  methods := #[] }
def zst1.c23 : Class := { zsu_own "java/lang/Iterable" 0x601
    []
    [] mLaw with
  methods := #[] }
def zst1.c24 : Class := { zsu_own "java/lang/AbstractStringBuilder" 0x420
    [(1, 3, "java/lang/Object", "<init>", "()V", 1, 0),
     (0, 15, "java/lang/AbstractStringBuilder", "value", "[B", 24, 0),
     (0, 18, "java/lang/String", "COMPACT_STRINGS", "Z", 25, 5),
     (0, 22, "java/lang/AbstractStringBuilder", "coder", "B", 24, 1),
     (1, 26, "java/lang/StringUTF16", "newBytesFor", "(I)[B", 4, 0),
     (1, 32, "java/lang/String", "length", "()I", 25, 1),
     (5, 39, "", "", "", 2147483647, 0),
     (1, 40, "java/lang/String", "coder", "()B", 25, 6),
     (0, 73, "java/lang/AbstractStringBuilder", "maybeLatin1", "Z", 24, 2),
     (0, 79, "java/lang/AbstractStringBuilder", "count", "I", 24, 3),
     (1, 83, "java/lang/AbstractStringBuilder", "isLatin1", "()Z", 24, 13),
     (1, 100, "java/lang/AbstractStringBuilder", "ensureCapacityInternal", "(I)V", 24, 2),
     (1, 104, "java/lang/AbstractStringBuilder", "newCapacity", "(I)I", 24, 3),
     (1, 108, "java/util/Arrays", "copyOf", "([BI)[B", 9, 4),
     (1, 114, "jdk/internal/util/ArraysSupport", "newLength", "(III)I", 7, 0),
     (1, 125, "java/lang/StringLatin1", "inflate", "([BI[BII)V", 14, 4),
     (2, 129, "java/lang/StringIndexOutOfBoundsException", "", "", 42, 0),
     (1, 131, "java/lang/StringIndexOutOfBoundsException", "<init>", "(I)V", 42, 0),
     (1, 133, "java/lang/StringLatin1", "fillNull", "([BII)V", 14, 3),
     (1, 137, "java/lang/StringUTF16", "fillNull", "([BII)V", 4, 8),
     (1, 138, "java/lang/Math", "min", "(II)I", 8, 2),
     (1, 144, "java/lang/String", "checkIndex", "(II)V", 25, 8),
     (1, 148, "java/lang/StringUTF16", "getChar", "([BI)C", 4, 3),
     (1, 191, "java/lang/StringLatin1", "canEncode", "(C)Z", 14, 1),
     (1, 195, "java/lang/AbstractStringBuilder", "inflate", "()V", 24, 4),
     (1, 197, "java/lang/StringUTF16", "putCharSB", "([BII)V", 4, 9),
     (1, 204, "java/lang/AbstractStringBuilder", "appendNull", "()Ljava/lang/AbstractStringBuilder;", 24, 8),
     (1, 208, "java/lang/AbstractStringBuilder", "putStringAt", "(ILjava/lang/String;)V", 24, 15),
     (1, 226, "java/lang/StringUTF16", "putCharsAt", "([BICCCC)I", 4, 12),
     (1, 245, "java/lang/Integer", "stringSize", "(I)I", 32, 1),
     (1, 248, "java/lang/Integer", "getChars", "(II[B)I", 32, 0),
     (1, 251, "java/lang/StringUTF16", "getChars", "(III[B)I", 4, 10),
     (1, 254, "java/lang/Long", "stringSize", "(J)I", 33, 1),
     (1, 259, "java/lang/Long", "getChars", "(JI[B)I", 33, 0),
     (1, 262, "java/lang/StringUTF16", "getChars", "(JII[B)I", 4, 11),
     (1, 397, "java/lang/AbstractStringBuilder", "inflateIfNeededFor", "(Ljava/lang/String;)V", 24, 14),
     (1, 399, "java/lang/String", "getBytes", "([BIB)V", 25, 4)]
    [("value", .array .byte, 0x0), ("coder", .byte, 0x0), ("maybeLatin1", .boolean, 0x0), ("count", .int, 0x0)] (Lib.HandJ.method "<init>" "(I)V" [.int] none 0x0 2 prog_8_method_2_code) with
  methods := #[Lib.HandJ.method "<init>" "(I)V" [.int] none 0x0 2 prog_8_method_2_code,
    Lib.HandJ.method "length" "()I" [] (some .int) 0x1 1 prog_8_method_6_code,
    Lib.HandJ.method "ensureCapacityInternal" "(I)V" [.int] none 0x2 3 prog_8_method_9_code,
    Lib.HandJ.method "newCapacity" "(I)I" [.int] (some .int) 0x2 6 prog_8_method_10_code,
    Lib.HandJ.method "inflate" "()V" [] none 0x2 2 prog_8_method_11_code,
    Lib.HandJ.method "setLength" "(I)V" [.int] none 0x1 2 prog_8_method_13_code,
    Lib.HandJ.method "charAt" "(I)C" [.int] (some .char) 0x1 5 prog_8_method_14_code,
    Lib.HandJ.method "append" "(Ljava/lang/String;)Ljava/lang/AbstractStringBuilder;" [.object "java/lang/String"] (some (.object "java/lang/AbstractStringBuilder")) 0x1 3 prog_8_method_22_code,
    Lib.HandJ.method "appendNull" "()Ljava/lang/AbstractStringBuilder;" [] (some (.object "java/lang/AbstractStringBuilder")) 0x2 3 prog_8_method_26_code,
    Lib.HandJ.method "append" "(C)Ljava/lang/AbstractStringBuilder;" [.char] (some (.object "java/lang/AbstractStringBuilder")) 0x1 2 prog_8_method_31_code,
    Lib.HandJ.method "append" "(I)Ljava/lang/AbstractStringBuilder;" [.int] (some (.object "java/lang/AbstractStringBuilder")) 0x1 4 prog_8_method_32_code,
    Lib.HandJ.method "append" "(J)Ljava/lang/AbstractStringBuilder;" [.long] (some (.object "java/lang/AbstractStringBuilder")) 0x1 5 prog_8_method_33_code,
    Lib.HandJ.method "getValue" "()[B" [] (some (.array .byte)) 0x10 1 prog_8_method_64_code,
    Lib.HandJ.method "isLatin1" "()Z" [] (some .boolean) 0x10 1 prog_8_method_68_code,
    Lib.HandJ.method "inflateIfNeededFor" "(Ljava/lang/String;)V" [.object "java/lang/String"] none 0x2 2 prog_8_method_71_code,
    Lib.HandJ.method "putStringAt" "(ILjava/lang/String;)V" [.int, .object "java/lang/String"] none 0x2 3 prog_8_method_73_code],
  interfaces := #[18, 19] }
