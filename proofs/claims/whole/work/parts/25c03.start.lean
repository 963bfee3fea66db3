set_option maxRecDepth 16384
def zst1.c25 : Class := { zsu_own "java/lang/String" 0x31
    [(1, 1, "java/lang/Object", "<init>", "()V", 1, 0),
     (0, 9, "java/lang/String", "value", "[B", 25, 0),
     (2, 10, "java/lang/String", "", "", 25, 0),
     (0, 15, "java/lang/String", "coder", "B", 25, 1),
     (0, 38, "java/lang/String", "COMPACT_STRINGS", "Z", 25, 5),
     (1, 47, "java/lang/StringUTF16", "coderFromArrayLen", "([BI)B", 4, 5),
     (1, 54, "java/util/Arrays", "copyOfRange", "([BII)[B", 9, 6),
     (1, 106, "java/lang/StringLatin1", "inflate", "([BI[BII)V", 14, 4),
     (1, 212, "java/lang/System", "arraycopy", "(Ljava/lang/Object;ILjava/lang/Object;II)V", 10, 0),
     (1, 335, "java/lang/String", "coder", "()B", 25, 6),
     (1, 489, "java/lang/String", "<init>", "(Ljava/lang/AbstractStringBuilder;Ljava/lang/Void;)V", 25, 5),
     (1, 492, "java/lang/String", "isLatin1", "()Z", 25, 7),
     (1, 495, "java/lang/StringLatin1", "charAt", "([BI)C", 14, 0),
     (1, 498, "java/lang/StringUTF16", "charAt", "([BI)C", 4, 13),
     (1, 541, "java/lang/StringLatin1", "equals", "([B[B)Z", 14, 2),
     (1, 549, "java/lang/AbstractStringBuilder", "length", "()I", 24, 1),
     (1, 552, "java/lang/AbstractStringBuilder", "getValue", "()[B", 24, 12),
     (1, 1047, "java/lang/AbstractStringBuilder", "isLatin1", "()Z", 24, 13),
     (0, 1048, "java/lang/AbstractStringBuilder", "maybeLatin1", "Z", 24, 2),
     (1, 1051, "java/lang/StringUTF16", "compress", "([BII)[B", 4, 6),
     (0, 1053, "jdk/internal/util/Preconditions", "SIOOBE_FORMATTER", "Ljava/util/function/BiFunction;", 13, 0),
     (1, 1059, "jdk/internal/util/Preconditions", "checkIndex", "(IILjava/util/function/BiFunction;)I", 13, 0),
     (1, 1062, "jdk/internal/util/Preconditions", "checkFromToIndex", "(IIILjava/util/function/BiFunction;)I", 13, 1),
     (1, 1065, "jdk/internal/util/Preconditions", "checkFromIndexSize", "(IIILjava/util/function/BiFunction;)I", 13, 2)]
    [("value", .array .byte, 0x12), ("coder", .byte, 0x12), ("hash", .int, 0x2), ("hashIsZero", .boolean, 0x2)] (Lib.HandJ.method "<init>" "(Ljava/lang/StringBuilder;)V" [.object "java/lang/StringBuilder"] none 0x1 2 prog_24_method_53_code) with
  methods := #[Lib.HandJ.method "<init>" "(Ljava/lang/StringBuilder;)V" [.object "java/lang/StringBuilder"] none 0x1 2 prog_24_method_53_code,
    Lib.HandJ.method "length" "()I" [] (some .int) 0x1 1 prog_24_method_54_code,
    Lib.HandJ.method "charAt" "(I)C" [.int] (some .char) 0x1 2 prog_24_method_56_code,
    Lib.HandJ.method "equals" "(Ljava/lang/Object;)Z" [.object "java/lang/Object"] (some .boolean) 0x1 3 prog_24_method_66_code,
    Lib.HandJ.method "getBytes" "([BIB)V" [.array .byte, .int, .byte] none 0x0 4 prog_24_method_147_code,
    Lib.HandJ.method "<init>" "(Ljava/lang/AbstractStringBuilder;Ljava/lang/Void;)V" [.object "java/lang/AbstractStringBuilder", .object "java/lang/Void"] none 0x0 5 prog_24_method_150_code,
    Lib.HandJ.method "coder" "()B" [] (some .byte) 0x0 1 prog_24_method_152_code,
    Lib.HandJ.method "isLatin1" "()Z" [] (some .boolean) 0x0 1 prog_24_method_154_code,
    Lib.HandJ.method "checkIndex" "(II)V" [.int, .int] none 0x8 2 prog_24_method_155_code,
    Lib.HandJ.method "checkBoundsOffCount" "(III)I" [.int, .int, .int] (some .int) 0x8 3 prog_24_method_157_code,
    Lib.HandJ.method "checkBoundsBeginEnd" "(III)V" [.int, .int, .int] none 0x8 3 prog_24_method_158_code],
  interfaces := #[17, 20, 19, 21, 22],
  fields := (Lib.HandW.fieldsFrom [("value", .array .byte, 0x12), ("coder", .byte, 0x12), ("hash", .int, 0x2), ("hashIsZero", .boolean, 0x2)] 0).toArray ++ #[{ name := "serialVersionUID", type := .long, accessFlags := 0x1a, slot := 0, constantValue := 0 }, { name := "COMPACT_STRINGS", type := .boolean, accessFlags := 0x18, slot := 1, constantValue := 0 }, { name := "serialPersistentFields", type := .array (.object "java/io/ObjectStreamField"), accessFlags := 0x1a, slot := 2, constantValue := 0 }, { name := "REPL", type := .char, accessFlags := 0x1a, slot := 3, constantValue := 0 }, { name := "CASE_INSENSITIVE_ORDER", type := .object "java/util/Comparator", accessFlags := 0x19, slot := 4, constantValue := 0 }, { name := "LATIN1", type := .byte, accessFlags := 0x18, slot := 5, constantValue := 0 }, { name := "UTF16", type := .byte, accessFlags := 0x18, slot := 6, constantValue := 0 }],
  staticTypes := #[.long, .boolean, .array (.object "java/io/ObjectStreamField"), .char, .object "java/util/Comparator", .byte, .byte],
  statics := some 4 }
def zst1.c26 : Class := { zsu_own "java/lang/Throwable" 0x21
    [(1, 1, "java/lang/Object", "<init>", "()V", 1, 0),
     (0, 7, "java/lang/Throwable", "cause", "Ljava/lang/Throwable;", 26, 2),
     (0, 13, "java/lang/Throwable", "UNASSIGNED_STACK", "[Ljava/lang/StackTraceElement;", 26, 7),
     (0, 17, "java/lang/Throwable", "stackTrace", "[Ljava/lang/StackTraceElement;", 26, 3),
     (0, 20, "java/lang/Throwable", "SUPPRESSED_SENTINEL", "Ljava/util/List;", 26, 8),
     (0, 24, "java/lang/Throwable", "suppressedExceptions", "Ljava/util/List;", 26, 5),
     (1, 27, "java/lang/Throwable", "fillInStackTrace", "()Ljava/lang/Throwable;", 26, 2),
     (0, 31, "java/lang/Throwable", "detailMessage", "Ljava/lang/String;", 26, 1),
     (0, 198, "java/lang/Throwable", "backtrace", "Ljava/lang/Object;", 26, 0),
     (1, 202, "java/lang/Throwable", "fillInStackTrace", "(I)Ljava/lang/Throwable;", 26, 3)]
    [("backtrace", .object "java/lang/Object", 0x82), ("detailMessage", .object "java/lang/String", 0x2), ("cause", .object "java/lang/Throwable", 0x2), ("stackTrace", .array (.object "java/lang/StackTraceElement"), 0x2), ("depth", .int, 0x82), ("suppressedExceptions", .object "java/util/List", 0x2)] (Lib.HandJ.method "<init>" "()V" [] none 0x1 1 prog_30_method_1_code) with
  methods := #[Lib.HandJ.method "<init>" "()V" [] none 0x1 1 prog_30_method_1_code,
    Lib.HandJ.method "<init>" "(Ljava/lang/String;)V" [.object "java/lang/String"] none 0x1 2 prog_30_method_2_code,
    Lib.HandJ.method "fillInStackTrace" "()Ljava/lang/Throwable;" [] (some (.object "java/lang/Throwable")) 0x21 1 prog_30_method_18_code,
    { name := "fillInStackTrace", desc := "(I)Ljava/lang/Throwable;", sig := { parameters := [.int], returnType := some (.object "java/lang/Throwable") }, accessFlags := 0x102, code := none }],
  interfaces := #[17],
  fields := (Lib.HandW.fieldsFrom [("backtrace", .object "java/lang/Object", 0x82), ("detailMessage", .object "java/lang/String", 0x2), ("cause", .object "java/lang/Throwable", 0x2), ("stackTrace", .array (.object "java/lang/StackTraceElement"), 0x2), ("depth", .int, 0x82), ("suppressedExceptions", .object "java/util/List", 0x2)] 0).toArray ++ #[{ name := "serialVersionUID", type := .long, accessFlags := 0x1a, slot := 0, constantValue := 0 }, { name := "UNASSIGNED_STACK", type := .array (.object "java/lang/StackTraceElement"), accessFlags := 0x1a, slot := 1, constantValue := 0 }, { name := "SUPPRESSED_SENTINEL", type := .object "java/util/List", accessFlags := 0x1a, slot := 2, constantValue := 0 }, { name := "NULL_CAUSE_MESSAGE", type := .object "java/lang/String", accessFlags := 0x1a, slot := 3, constantValue := 0 }, { name := "SELF_SUPPRESSION_MESSAGE", type := .object "java/lang/String", accessFlags := 0x1a, slot := 4, constantValue := 0 }, { name := "CAUSE_CAPTION", type := .object "java/lang/String", accessFlags := 0x1a, slot := 5, constantValue := 0 }, { name := "SUPPRESSED_CAPTION", type := .object "java/lang/String", accessFlags := 0x1a, slot := 6, constantValue := 0 }, { name := "EMPTY_THROWABLE_ARRAY", type := .array (.object "java/lang/Throwable"), accessFlags := 0x1a, slot := 7, constantValue := 0 }, { name := "$assertionsDisabled", type := .boolean, accessFlags := 0x1018, slot := 8, constantValue := 0 }],
  staticTypes := #[.long, .array (.object "java/lang/StackTraceElement"), .object "java/util/List", .object "java/lang/String", .object "java/lang/String", .object "java/lang/String", .object "java/lang/String", .array (.object "java/lang/Throwable"), .boolean],
  statics := some 5 }
def zst1.c27 : Class := { zsu_own "java/lang/Number" 0x421
    []
    [] mLaw with
  methods := #[],
  interfaces := #[17] }
def zst1.c28 : Class := { zsu_own "java/util/Collection" 0x601
    []
    [] mLaw with
  methods := #[],
  interfaces := #[23] }
def zst1.c29 : Class := { zsu_own "java/util/AbstractCollection" 0x421
    [(1, 1, "java/lang/Object", "<init>", "()V", 1, 0)]
    [] (Lib.HandJ.method "<init>" "()V" [] none 0x4 1 prog_33_method_1_code) with
  methods := #[Lib.HandJ.method "<init>" "()V" [] none 0x4 1 prog_33_method_1_code],
  interfaces := #[28] }
def zst1.c30 : Class := { zsu_own "java/lang/StringBuilder" 0x31
    [(1, 1, "java/lang/AbstractStringBuilder", "<init>", "(I)V", 24, 0),
     (2, 18, "java/lang/String", "", "", 25, 0),
     (1, 29, "java/lang/AbstractStringBuilder", "append", "(Ljava/lang/String;)Ljava/lang/AbstractStringBuilder;", 24, 7),
     (1, 50, "java/lang/AbstractStringBuilder", "append", "(C)Ljava/lang/AbstractStringBuilder;", 24, 9),
     (1, 53, "java/lang/AbstractStringBuilder", "append", "(I)Ljava/lang/AbstractStringBuilder;", 24, 10),
     (1, 56, "java/lang/AbstractStringBuilder", "append", "(J)Ljava/lang/AbstractStringBuilder;", 24, 11),
     (1, 137, "java/lang/String", "<init>", "(Ljava/lang/StringBuilder;)V", 25, 0),
     (1, 329, "java/lang/AbstractStringBuilder", "charAt", "(I)C", 24, 6),
     (1, 333, "java/lang/AbstractStringBuilder", "setLength", "(I)V", 24, 5),
     (1, 343, "java/lang/AbstractStringBuilder", "length", "()I", 24, 1)]
    [] (Lib.HandJ.method "<init>" "()V" [] none 0x1 1 prog_25_method_1_code) with
  methods := #[Lib.HandJ.method "<init>" "()V" [] none 0x1 1 prog_25_method_1_code,
    Lib.HandJ.method "append" "(Ljava/lang/String;)Ljava/lang/StringBuilder;" [.object "java/lang/String"] (some (.object "java/lang/StringBuilder")) 0x1 2 prog_25_method_7_code,
    Lib.HandJ.method "append" "(C)Ljava/lang/StringBuilder;" [.char] (some (.object "java/lang/StringBuilder")) 0x1 2 prog_25_method_14_code,
    Lib.HandJ.method "append" "(I)Ljava/lang/StringBuilder;" [.int] (some (.object "java/lang/StringBuilder")) 0x1 2 prog_25_method_15_code,
    Lib.HandJ.method "append" "(J)Ljava/lang/StringBuilder;" [.long] (some (.object "java/lang/StringBuilder")) 0x1 3 prog_25_method_16_code,
    Lib.HandJ.method "toString" "()Ljava/lang/String;" [] (some (.object "java/lang/String")) 0x1 1 prog_25_method_42_code,
    Lib.HandJ.method "charAt" "(I)C" [.int] (some .char) 0x1041 2 prog_25_method_88_code,
    Lib.HandJ.method "setLength" "(I)V" [.int] none 0x1041 2 prog_25_method_89_code,
    Lib.HandJ.method "length" "()I" [] (some .int) 0x1041 1 prog_25_method_93_code],
  interfaces := #[18, 17, 20, 19],
  super := some 24,
  instanceTypes := #[.array .byte, .byte, .boolean, .int],
  fields := (Lib.HandW.fieldsFrom [] 4).toArray }
def zst1.c31 : Class := { zsu_own "java/lang/Exception" 0x21
    [(1, 7, "java/lang/Throwable", "<init>", "(Ljava/lang/String;)V", 26, 1)]
    [] ({ name := "<init>", desc := "()V", sig := { parameters := [], returnType := none }, accessFlags := 0x1, code := none }) with
  methods := #[{ name := "<init>", desc := "()V", sig := { parameters := [], returnType := none }, accessFlags := 0x1, code := none },
    Lib.HandJ.method "<init>" "(Ljava/lang/String;)V" [.object "java/lang/String"] none 0x1 2 prog_14_method_2_code],
  super := some 26,
  instanceTypes := #[.object "java/lang/Object", .object "java/lang/String", .object "java/lang/Throwable", .array (.object "java/lang/StackTraceElement"), .int, .object "java/util/List"],
  fields := (Lib.HandW.fieldsFrom [] 6).toArray }
def zst1.c32 : Class := { zsu_own "java/lang/Integer" 0x31
    [(0, 83, "java/lang/Integer", "DigitOnes", "[B", 32, 6),
     (0, 87, "java/lang/Integer", "DigitTens", "[B", 32, 5)]
    [("value", .int, 0x12)] (Lib.HandJ.method "getChars" "(II[B)I" [.int, .int, .array .byte] (some .int) 0x8 7 prog_18_method_12_code) with
  methods := #[Lib.HandJ.method "getChars" "(II[B)I" [.int, .int, .array .byte] (some .int) 0x8 7 prog_18_method_12_code,
    Lib.HandJ.method "stringSize" "(I)I" [.int] (some .int) 0x8 4 prog_18_method_13_code],
  interfaces := #[20, 21, 22],
  super := some 27,
  instanceTypes := #[.int],
  fields := (Lib.HandW.fieldsFrom [("value", .int, 0x12)] 0).toArray ++ #[{ name := "MIN_VALUE", type := .int, accessFlags := 0x19, slot := 0, constantValue := 0 }, { name := "MAX_VALUE", type := .int, accessFlags := 0x19, slot := 1, constantValue := 0 }, { name := "TYPE", type := .object "java/lang/Class", accessFlags := 0x19, slot := 2, constantValue := 0 }, { name := "digits", type := .array .char, accessFlags := 0x18, slot := 3, constantValue := 0 }, { name := "DigitTens", type := .array .byte, accessFlags := 0x18, slot := 4, constantValue := 0 }, { name := "DigitOnes", type := .array .byte, accessFlags := 0x18, slot := 5, constantValue := 0 }, { name := "SIZE", type := .int, accessFlags := 0x19, slot := 6, constantValue := 0 }, { name := "BYTES", type := .int, accessFlags := 0x19, slot := 7, constantValue := 0 }, { name := "serialVersionUID", type := .long, accessFlags := 0x1a, slot := 8, constantValue := 0 }],
  staticTypes := #[.int, .int, .object "java/lang/Class", .array .char, .array .byte, .array .byte, .int, .int, .long],
  statics := some 6 }
def zst1.c33 : Class := { zsu_own "java/lang/Long" 0x31
    [(4, 53, "", "", "", 10, 0),
     (4, 129, "", "", "", 18446744071562067968, 0),
     (4, 131, "", "", "", 100, 0),
     (0, 133, "java/lang/Integer", "DigitOnes", "[B", 32, 6),
     (0, 137, "java/lang/Integer", "DigitTens", "[B", 32, 5),
     (4, 140, "", "", "", 18446744073709551606, 0)]
    [("value", .long, 0x12)] (Lib.HandJ.method "getChars" "(JI[B)I" [.long, .int, .array .byte] (some .int) 0x8 11 prog_20_method_14_code) with
  methods := #[Lib.HandJ.method "getChars" "(JI[B)I" [.long, .int, .array .byte] (some .int) 0x8 11 prog_20_method_14_code,
    Lib.HandJ.method "stringSize" "(J)I" [.long] (some .int) 0x8 6 prog_20_method_15_code],
  interfaces := #[20, 21, 22],
  super := some 27,
  instanceTypes := #[.long],
  fields := (Lib.HandW.fieldsFrom [("value", .long, 0x12)] 0).toArray }
def zst1.c34 : Class := { zsu_own "java/util/SequencedCollection" 0x601
    []
    [] mLaw with
  methods := #[],
  interfaces := #[28] }
def zst1.c35 : Class := { zsu_own "java/lang/RuntimeException" 0x21
    [(1, 7, "java/lang/Exception", "<init>", "(Ljava/lang/String;)V", 31, 1)]
    [] ({ name := "<init>", desc := "()V", sig := { parameters := [], returnType := none }, accessFlags := 0x1, code := none }) with
  methods := #[{ name := "<init>", desc := "()V", sig := { parameters := [], returnType := none }, accessFlags := 0x1, code := none },
    Lib.HandJ.method "<init>" "(Ljava/lang/String;)V" [.object "java/lang/String"] none 0x1 2 prog_23_method_2_code],
  super := some 31,
  instanceTypes := #[.object "java/lang/Object", .object "java/lang/String", .object "java/lang/Throwable", .array (.object "java/lang/StackTraceElement"), .int, .object "java/util/List"],
  fields := (Lib.HandW.fieldsFrom [] 6).toArray }
def zst1.c36 : Class := { zsu_own "java/util/List" 0x601
    []
    [] mLaw with
  methods := #[],
  interfaces := #[34] }
def zst1.c37 : Class := { zsu_own "java/util/AbstractList" 0x421
    [(1, 1, "java/util/AbstractCollection", "<init>", "()V", 29, 0),
     (0, 7, "java/util/AbstractList", "modCount", "I", 37, 0)]
    [("modCount", .int, 0x84)] (Lib.HandJ.method "<init>" "()V" [] none 0x4 1 prog_34_method_1_code) with
  methods := #[Lib.HandJ.method "<init>" "()V" [] none 0x4 1 prog_34_method_1_code],
  interfaces := #[36],
  super := some 29,
  instanceTypes := #[.int],
  fields := (Lib.HandW.fieldsFrom [("modCount", .int, 0x84)] 0).toArray }
def zst1.c38 : Class := { zsu_own "java/lang/IllegalArgumentException" 0x21
    [(1, 7, "java/lang/RuntimeException", "<init>", "(Ljava/lang/String;)V", 35, 1)]
    [] (Lib.HandJ.method "<init>" "(Ljava/lang/String;)V" [.object "java/lang/String"] none 0x1 2 prog_15_method_2_code) with
  methods := #[Lib.HandJ.method "<init>" "(Ljava/lang/String;)V" [.object "java/lang/String"] none 0x1 2 prog_15_method_2_code],
  super := some 35,
  instanceTypes := #[.object "java/lang/Object", .object "java/lang/String", .object "java/lang/Throwable", .array (.object "java/lang/StackTraceElement"), .int, .object "java/util/List"],
  fields := (Lib.HandW.fieldsFrom [] 6).toArray }
def zst1.c39 : Class := { zsu_own "java/lang/IllegalStateException" 0x21
    [(1, 7, "java/lang/RuntimeException", "<init>", "(Ljava/lang/String;)V", 35, 1)]
    [] (Lib.HandJ.method "<init>" "(Ljava/lang/String;)V" [.object "java/lang/String"] none 0x1 2 prog_16_method_2_code) with
  methods := #[Lib.HandJ.method "<init>" "(Ljava/lang/String;)V" [.object "java/lang/String"] none 0x1 2 prog_16_method_2_code],
  super := some 35,
  instanceTypes := #[.object "java/lang/Object", .object "java/lang/String", .object "java/lang/Throwable", .array (.object "java/lang/StackTraceElement"), .int, .object "java/util/List"],
  fields := (Lib.HandW.fieldsFrom [] 6).toArray }
def zst1.c40 : Class := { zsu_own "java/lang/IndexOutOfBoundsException" 0x21
    [(1, 7, "java/lang/RuntimeException", "<init>", "(Ljava/lang/String;)V", 35, 1)]
    [] ({ name := "<init>", desc := "()V", sig := { parameters := [], returnType := none }, accessFlags := 0x1, code := none }) with
  methods := #[{ name := "<init>", desc := "()V", sig := { parameters := [], returnType := none }, accessFlags := 0x1, code := none },
    Lib.HandJ.method "<init>" "(Ljava/lang/String;)V" [.object "java/lang/String"] none 0x1 2 prog_17_method_2_code],
  super := some 35,
  instanceTypes := #[.object "java/lang/Object", .object "java/lang/String", .object "java/lang/Throwable", .array (.object "java/lang/StackTraceElement"), .int, .object "java/util/List"],
  fields := (Lib.HandW.fieldsFrom [] 6).toArray }
def zst1.c41 : Class := zsuRes [(180, .cls 41)] <| { zsu_own "java/util/ArrayList" 0x21
    [(1, 1, "java/util/AbstractList", "<init>", "()V", 37, 0),
     (2, 7, "java/lang/Object", "", "", 1, 0),
     (0, 9, "java/util/ArrayList", "elementData", "[Ljava/lang/Object;", 41, 0),
     (0, 39, "java/util/ArrayList", "DEFAULTCAPACITY_EMPTY_ELEMENTDATA", "[Ljava/lang/Object;", 41, 5),
     (0, 48, "java/util/ArrayList", "size", "I", 41, 1),
     (0, 63, "java/util/ArrayList", "modCount", "I", 37, 0),
     (1, 66, "java/util/Arrays", "copyOf", "([Ljava/lang/Object;I)[Ljava/lang/Object;", 9, 2),
     (1, 69, "java/util/ArrayList", "grow", "(I)[Ljava/lang/Object;", 41, 1),
     (1, 73, "jdk/internal/util/ArraysSupport", "newLength", "(III)I", 7, 0),
     (1, 79, "java/lang/Math", "max", "(II)I", 8, 1),
     (1, 112, "java/lang/System", "arraycopy", "(Ljava/lang/Object;ILjava/lang/Object;II)V", 10, 0),
     (1, 118, "java/util/Objects", "checkIndex", "(II)I", 12, 0),
     (1, 123, "java/util/ArrayList", "elementData", "(I)Ljava/lang/Object;", 41, 5),
     (1, 129, "java/util/ArrayList", "grow", "()[Ljava/lang/Object;", 41, 2),
     (1, 131, "java/util/ArrayList", "add", "(Ljava/lang/Object;[Ljava/lang/Object;I)V", 41, 7),
     (1, 144, "java/util/ArrayList", "fastRemove", "([Ljava/lang/Object;I)V", 41, 10)]
    [("elementData", .array (.object "java/lang/Object"), 0x80), ("size", .int, 0x2)] (Lib.HandJ.method "<init>" "()V" [] none 0x1 1 prog_35_method_2_code) with
  methods := #[Lib.HandJ.method "<init>" "()V" [] none 0x1 1 prog_35_method_2_code,
    Lib.HandJ.method "grow" "(I)[Ljava/lang/Object;" [.int] (some (.array (.object "java/lang/Object"))) 0x2 4 prog_35_method_6_code,
    Lib.HandJ.method "grow" "()[Ljava/lang/Object;" [] (some (.array (.object "java/lang/Object"))) 0x2 1 prog_35_method_7_code,
    Lib.HandJ.method "size" "()I" [] (some .int) 0x1 1 prog_35_method_8_code,
    Lib.HandJ.method "isEmpty" "()Z" [] (some .boolean) 0x1 1 prog_35_method_9_code,
    Lib.HandJ.method "elementData" "(I)Ljava/lang/Object;" [.int] (some (.object "java/lang/Object")) 0x0 2 prog_35_method_18_code,
    Lib.HandJ.method "get" "(I)Ljava/lang/Object;" [.int] (some (.object "java/lang/Object")) 0x1 2 prog_35_method_20_code,
    Lib.HandJ.method "add" "(Ljava/lang/Object;[Ljava/lang/Object;I)V" [.object "java/lang/Object", .array (.object "java/lang/Object"), .int] none 0x2 4 prog_35_method_24_code,
    Lib.HandJ.method "add" "(Ljava/lang/Object;)Z" [.object "java/lang/Object"] (some .boolean) 0x1 2 prog_35_method_25_code,
    Lib.HandJ.method "remove" "(I)Ljava/lang/Object;" [.int] (some (.object "java/lang/Object")) 0x1 4 prog_35_method_29_code,
    Lib.HandJ.method "fastRemove" "([Ljava/lang/Object;I)V" [.array (.object "java/lang/Object"), .int] none 0x2 4 prog_35_method_39_code,
    Lib.HandJ.method "clear" "()V" [] none 0x1 4 prog_35_method_40_code],
  interfaces := #[36, 16, 15, 17],
  super := some 37,
  instanceTypes := #[.int, .array (.object "java/lang/Object"), .int],
  fields := (Lib.HandW.fieldsFrom [("elementData", .array (.object "java/lang/Object"), 0x80), ("size", .int, 0x2)] 1).toArray ++ #[{ name := "serialVersionUID", type := .long, accessFlags := 0x1a, slot := 0, constantValue := 0 }, { name := "DEFAULT_CAPACITY", type := .int, accessFlags := 0x1a, slot := 1, constantValue := 0 }, { name := "EMPTY_ELEMENTDATA", type := .array (.object "java/lang/Object"), accessFlags := 0x1a, slot := 2, constantValue := 0 }, { name := "DEFAULTCAPACITY_EMPTY_ELEMENTDATA", type := .array (.object "java/lang/Object"), accessFlags := 0x1a, slot := 3, constantValue := 0 }],
  staticTypes := #[.long, .int, .array (.object "java/lang/Object"), .array (.object "java/lang/Object")],
  statics := some 7 }
def zst1.c42 : Class := { zsu_own "java/lang/StringIndexOutOfBoundsException" 0x21
    [(1, 7, "java/lang/IndexOutOfBoundsException", "<init>", "(Ljava/lang/String;)V", 40, 1),
     (2, 10, "java/lang/StringBuilder", "", "", 30, 0),
     (1, 12, "java/lang/StringBuilder", "<init>", "()V", 30, 0),
     (3, 13, "", "String index out of range: ", "", 12, 0),
     (1, 15, "java/lang/StringBuilder", "append", "(Ljava/lang/String;)Ljava/lang/StringBuilder;", 30, 1),
     (1, 19, "java/lang/StringBuilder", "append", "(I)Ljava/lang/StringBuilder;", 30, 3),
     (1, 22, "java/lang/StringBuilder", "toString", "()Ljava/lang/String;", 30, 5)]
    [] (Lib.HandJ.method "<init>" "(I)V" [.int] none 0x1 2 prog_26_method_3_code) with
  methods := #[Lib.HandJ.method "<init>" "(I)V" [.int] none 0x1 2 prog_26_method_3_code],
  super := some 40,
  instanceTypes := #[.object "java/lang/Object", .object "java/lang/String", .object "java/lang/Throwable", .array (.object "java/lang/StackTraceElement"), .int, .object "java/util/List"],
  fields := (Lib.HandW.fieldsFrom [] 6).toArray }
def zst1.c43 : Class := { zsu_own "java/lang/ArrayIndexOutOfBoundsException" 0x21
    [(1, 7, "java/lang/IndexOutOfBoundsException", "<init>", "(Ljava/lang/String;)V", 40, 1),
     (2, 10, "java/lang/StringBuilder", "", "", 30, 0),
     (1, 12, "java/lang/StringBuilder", "<init>", "()V", 30, 0),
     (3, 13, "", "Array index out of range: ", "", 22, 0),
     (1, 15, "java/lang/StringBuilder", "append", "(Ljava/lang/String;)Ljava/lang/StringBuilder;", 30, 1),
     (1, 19, "java/lang/StringBuilder", "append", "(I)Ljava/lang/StringBuilder;", 30, 3),
     (1, 22, "java/lang/StringBuilder", "toString", "()Ljava/lang/String;", 30, 5)]
    [] (Lib.HandJ.method "<init>" "(I)V" [.int] none 0x1 2 prog_10_method_3_code) with
  methods := #[Lib.HandJ.method "<init>" "(I)V" [.int] none 0x1 2 prog_10_method_3_code],
  super := some 40,
  instanceTypes := #[.object "java/lang/Object", .object "java/lang/String", .object "java/lang/Throwable", .array (.object "java/lang/StackTraceElement"), .int, .object "java/util/List"],
  fields := (Lib.HandW.fieldsFrom [] 6).toArray }
def zst1.cPrim (name : String) (ch : Char) : Class := { Lib.HandJ.cls name #[] #[] 0x411 #[] #[] #[] with kind := .primitive ch, cf := none }
def zst1.cArr (name : String) (prim : Nat) (t : FieldType) : Class := { Lib.HandJ.cls name #[] #[] 0x411 #[] #[] #[] with kind := .array prim t, super := some 1, cf := none }
def zst1.cSTE : Class := { Lib.HandJ.cls "java/lang/StackTraceElement" #[] #[] 0x31 #[] #[] #[] with super := some 1 }
def zst1.args0 : Array Value := #[.ref 0]
def zst1.cells0 : Array Value := #[.int (-49), .int (-12), .int 25, .int 62, .int 99, .int 136, .int 173, .int (-41), .int (-4), .int 33, .int 70, .int 107, .int 144, .int 181, .int (-33), .int 4, .int 41, .int 78, .int 115, .int 152, .int 189, .int (-25), .int 12, .int 49, .int 86, .int 123, .int 160, .int (-54), .int (-17), .int 20, .int 57, .int 94, .int 131, .int 168, .int (-46), .int (-9), .int 28, .int 65, .int 102, .int 139, .int 176, .int (-38), .int (-1), .int 36, .int 73, .int 110, .int 147, .int 184, .int (-30), .int 7, .int 44, .int 81, .int 118, .int 155, .int (-59), .int (-22), .int 15, .int 52, .int 89, .int 126, .int 163, .int (-51), .int (-14), .int 23, .int 60, .int 97, .int 134, .int 171, .int (-43), .int (-6), .int 31, .int 68, .int 105, .int 142, .int 179, .int (-35), .int 2, .int 39, .int 76, .int 113, .int 150, .int 187, .int (-27), .int 10, .int 47, .int 84, .int 121, .int 158, .int (-56), .int (-19), .int 18, .int 55, .int 92, .int 129, .int 166, .int (-48), .int (-11), .int 26, .int 63, .int 100]
def zst1.aboutOf (script : Array Value) : State where
  vm := { classes := #[c0, cObjectC, c2, c3, c4, c5, c6, c7, c8, c9, c10, c11, c12, c13, c14, c15, c16, c17, c18, c19, c20, c21, c22, c23, c24, c25, c26, c27, c28, c29, c30, c31, c32, c33, c34, c35, c36, c37, c38, c39, c40, c41, c42, c43, cPrim "int" 'I', { cArr "[I" 44 .int with interfaces := #[15] }, cPrim "byte" 'B', { cArr "[B" 46 .byte with interfaces := #[15] }, { cArr "[LDeeprows$Row;" 3 (.object "Deeprows$Row") with interfaces := #[15] }, { cArr "[Ljava/lang/Object;" 1 (.object "java/lang/Object") with mirror := some 92, interfaces := #[15] }, { cArr "[Ljava/lang/String;" 25 (.object "java/lang/String") with interfaces := #[15] }, cSTE, { cArr "[Ljava/lang/StackTraceElement;" 51 (.object "java/lang/StackTraceElement") with interfaces := #[15] }] }
  heap := #[{ cls := 45, slots := script, vm := .none }, { cls := 4, slots := #[.int (0), .int (8), .int 0, .int (1)], vm := .statics 4 }, { cls := 5, slots := #[.int 0, .int 0, .int 0, .int 0, .int 0, .int 0, .int 0, .int 0, .int 0, .int 0, .int 0, .int 0, .int 0, .int 0, .long 0, .ref 11], vm := .statics 5 }, { cls := 13, slots := #[.null, .null, .null], vm := .statics 13 }, { cls := 25, slots := #[.long 0, .int (1), .null, .int 0, .null, .int 0, .int 0], vm := .statics 25 }, { cls := 26, slots := #[.long 0, .null, .null, .null, .null, .null, .null, .null, .int 0], vm := .statics 26 }, { cls := 32, slots := #[.int 0, .int 0, .null, .null, .ref 10, .ref 9, .int 0, .int 0, .long 0], vm := .statics 32 }, { cls := 41, slots := #[.long 0, .int 0, .null, .ref 8], vm := .statics 41 }, { cls := 49, slots := #[], vm := .none }, { cls := 47, slots := #[.int (48), .int (49), .int (50), .int (51), .int (52), .int (53), .int (54), .int (55), .int (56), .int (57), .int (48), .int (49), .int (50), .int (51), .int (52), .int (53), .int (54), .int (55), .int (56), .int (57), .int (48), .int (49), .int (50), .int (51), .int (52), .int (53), .int (54), .int (55), .int (56), .int (57), .int (48), .int (49), .int (50), .int (51), .int (52), .int (53), .int (54), .int (55), .int (56), .int (57), .int (48), .int (49), .int (50), .int (51), .int (52), .int (53), .int (54), .int (55), .int (56), .int (57), .int (48), .int (49), .int (50), .int (51), .int (52), .int (53), .int (54), .int (55), .int (56), .int (57), .int (48), .int (49), .int (50), .int (51), .int (52), .int (53), .int (54), .int (55), .int (56), .int (57), .int (48), .int (49), .int (50), .int (51), .int (52), .int (53), .int (54), .int (55), .int (56), .int (57), .int (48), .int (49), .int (50), .int (51), .int (52), .int (53), .int (54), .int (55), .int (56), .int (57), .int (48), .int (49), .int (50), .int (51), .int (52), .int (53), .int (54), .int (55), .int (56), .int (57)], vm := .none }, { cls := 47, slots := #[.int (48), .int (48), .int (48), .int (48), .int (48), .int (48), .int (48), .int (48), .int (48), .int (48), .int (49), .int (49), .int (49), .int (49), .int (49), .int (49), .int (49), .int (49), .int (49), .int (49), .int (50), .int (50), .int (50), .int (50), .int (50), .int (50), .int (50), .int (50), .int (50), .int (50), .int (51), .int (51), .int (51), .int (51), .int (51), .int (51), .int (51), .int (51), .int (51), .int (51), .int (52), .int (52), .int (52), .int (52), .int (52), .int (52), .int (52), .int (52), .int (52), .int (52), .int (53), .int (53), .int (53), .int (53), .int (53), .int (53), .int (53), .int (53), .int (53), .int (53), .int (54), .int (54), .int (54), .int (54), .int (54), .int (54), .int (54), .int (54), .int (54), .int (54), .int (55), .int (55), .int (55), .int (55), .int (55), .int (55), .int (55), .int (55), .int (55), .int (55), .int (56), .int (56), .int (56), .int (56), .int (56), .int (56), .int (56), .int (56), .int (56), .int (56), .int (57), .int (57), .int (57), .int (57), .int (57), .int (57), .int (57), .int (57), .int (57), .int (57)], vm := .none }, { cls := 50, slots := #[.ref 26, .ref 34, .ref 36, .ref 38, .ref 40, .ref 30, .ref 42, .ref 44, .ref 46, .ref 48], vm := .none }, { cls := 25, slots := #[.ref 13, .int 0, .int 0, .int 0], vm := .none }, { cls := 47, slots := #[.int 83, .int 116, .int 114, .int 105, .int 110, .int 103, .int 32, .int 105, .int 110, .int 100, .int 101, .int 120, .int 32, .int 111, .int 117, .int 116, .int 32, .int 111, .int 102, .int 32, .int 114, .int 97, .int 110, .int 103, .int 101, .int 58, .int 32], vm := .none }, { cls := 25, slots := #[.ref 15, .int 0, .int 0, .int 0], vm := .none }, { cls := 47, slots := #[.int 32, .int 62, .int 32], vm := .none }, { cls := 25, slots := #[.ref 17, .int 0, .int 0, .int 0], vm := .none }, { cls := 47, slots := #[.int 102, .int 114, .int 111, .int 109, .int 73, .int 110, .int 100, .int 101, .int 120, .int 40], vm := .none }, { cls := 25, slots := #[.ref 19, .int 0, .int 0, .int 0], vm := .none }, { cls := 47, slots := #[.int 41, .int 32, .int 62, .int 32, .int 116, .int 111, .int 73, .int 110, .int 100, .int 101, .int 120, .int 40], vm := .none }, { cls := 25, slots := #[.ref 21, .int 0, .int 0, .int 0], vm := .none }, { cls := 47, slots := #[.int 41], vm := .none }, { cls := 25, slots := #[.ref 23, .int 0, .int 0, .int 0], vm := .none }, { cls := 47, slots := #[.int 65, .int 114, .int 114, .int 97, .int 121, .int 32, .int 105, .int 110, .int 100, .int 101, .int 120, .int 32, .int 111, .int 117, .int 116, .int 32, .int 111, .int 102, .int 32, .int 114, .int 97, .int 110, .int 103, .int 101, .int 58, .int 32], vm := .none }, { cls := 25, slots := #[.ref 25, .int 0, .int 0, .int 0], vm := .none }, { cls := 47, slots := #[.int 44, .int 32], vm := .none }, { cls := 25, slots := #[.ref 27, .int 0, .int 0, .int 0], vm := .none }, { cls := 47, slots := #[], vm := .none }, { cls := 25, slots := #[.ref 29, .int 0, .int 0, .int 0], vm := .none }, { cls := 47, slots := #[.int 48, .int 48, .int 48, .int 48, .int 48, .int 48, .int 48, .int 48, .int 48], vm := .none }, { cls := 25, slots := #[.ref 31, .int 0, .int 0, .int 0], vm := .none }, { cls := 47, slots := #[.int 116, .int 114, .int 117, .int 101], vm := .none }, { cls := 25, slots := #[.ref 33, .int 0, .int 0, .int 0], vm := .none }, { cls := 47, slots := #[.int 102, .int 97, .int 108, .int 115, .int 101], vm := .none }, { cls := 25, slots := #[.ref 35, .int 0, .int 0, .int 0], vm := .none }, { cls := 47, slots := #[.int 110, .int 117, .int 108, .int 108], vm := .none }, { cls := 25, slots := #[.ref 37, .int 0, .int 0, .int 0], vm := .none }, { cls := 47, slots := #[.int 49], vm := .none }, { cls := 25, slots := #[.ref 39, .int 0, .int 0, .int 0], vm := .none }, { cls := 47, slots := #[.int 49, .int 44, .int 32, .int 50], vm := .none }, { cls := 25, slots := #[.ref 41, .int 0, .int 0, .int 0], vm := .none }, { cls := 47, slots := #[.int 91, .int 93], vm := .none }, { cls := 25, slots := #[.ref 43, .int 0, .int 0, .int 0], vm := .none }, { cls := 47, slots := #[.int 97], vm := .none }, { cls := 25, slots := #[.ref 45, .int 0, .int 0, .int 0], vm := .none }, { cls := 47, slots := #[.int 97, .int 98], vm := .none }, { cls := 25, slots := #[.ref 47, .int 0, .int 0, .int 0], vm := .none }, { cls := 47, slots := #[.int 45, .int 49], vm := .none }, { cls := 25, slots := #[.ref 49, .int 0, .int 0, .int 0], vm := .none }, { cls := 47, slots := #[.int 91, .int 49, .int 93], vm := .none }, { cls := 25, slots := #[.ref 51, .int 0, .int 0, .int 0], vm := .none }, { cls := 47, slots := #[.int 110, .int 111, .int 116, .int 104, .int 105, .int 110, .int 103, .int 32, .int 116, .int 111, .int 32, .int 116, .int 101, .int 108, .int 108, .int 32, .int 111, .int 102, .int 32, .int 116, .int 104, .int 97, .int 116], vm := .none }, { cls := 25, slots := #[.ref 53, .int 0, .int 0, .int 0], vm := .none }, { cls := 47, slots := #[.int 110, .int 111, .int 32, .int 115, .int 117, .int 99, .int 104, .int 32, .int 114, .int 111, .int 119], vm := .none }, { cls := 25, slots := #[.ref 55, .int 0, .int 0, .int 0], vm := .none }, { cls := 47, slots := #[.int 110, .int 111, .int 32, .int 115, .int 117, .int 99, .int 104, .int 32, .int 112, .int 108, .int 97, .int 99, .int 101], vm := .none }, { cls := 25, slots := #[.ref 57, .int 0, .int 0, .int 0], vm := .none }, { cls := 47, slots := #[.int 110, .int 111, .int 32, .int 115, .int 117, .int 99, .int 104, .int 32, .int 107, .int 105, .int 110, .int 100], vm := .none }, { cls := 25, slots := #[.ref 59, .int 0, .int 0, .int 0], vm := .none }, { cls := 47, slots := #[.int 110, .int 111, .int 32, .int 115, .int 117, .int 99, .int 104, .int 32, .int 108, .int 101, .int 110, .int 103, .int 116, .int 104], vm := .none }, { cls := 25, slots := #[.ref 61, .int 0, .int 0, .int 0], vm := .none }, { cls := 47, slots := #[.int 116, .int 111, .int 111, .int 32, .int 109, .int 97, .int 110, .int 121, .int 32, .int 114, .int 111, .int 119, .int 115], vm := .none }, { cls := 25, slots := #[.ref 63, .int 0, .int 0, .int 0], vm := .none }, { cls := 47, slots := #[.int 116, .int 104, .int 101, .int 114, .int 101, .int 32, .int 105, .int 115, .int 32, .int 110, .int 111, .int 32, .int 114, .int 111, .int 119], vm := .none }, { cls := 25, slots := #[.ref 65, .int 0, .int 0, .int 0], vm := .none }, { cls := 47, slots := #[.int 110, .int 111, .int 32, .int 110, .int 117, .int 109, .int 98, .int 101, .int 114], vm := .none }, { cls := 25, slots := #[.ref 67, .int 0, .int 0, .int 0], vm := .none }, { cls := 47, slots := #[.int 110, .int 111, .int 32, .int 115, .int 117, .int 99, .int 104, .int 32, .int 116, .int 101, .int 120, .int 116], vm := .none }, { cls := 25, slots := #[.ref 69, .int 0, .int 0, .int 0], vm := .none }, { cls := 47, slots := #[.int 110, .int 111, .int 32, .int 114, .int 111, .int 119, .int 32, .int 111, .int 102, .int 32, .int 116, .int 104, .int 105, .int 110, .int 103, .int 115], vm := .none }, { cls := 25, slots := #[.ref 71, .int 0, .int 0, .int 0], vm := .none }, { cls := 47, slots := #[.int 97, .int 32, .int 114, .int 111, .int 119, .int 32, .int 104, .int 97, .int 110, .int 103, .int 115, .int 32, .int 111, .int 110, .int 108, .int 121, .int 32, .int 105, .int 110, .int 32, .int 114, .int 111, .int 119, .int 115, .int 32, .int 119, .int 105, .int 116, .int 104, .int 32, .int 103, .int 114, .int 101, .int 97, .int 116, .int 101, .int 114, .int 32, .int 110, .int 117, .int 109, .int 98, .int 101, .int 114, .int 115], vm := .none }, { cls := 25, slots := #[.ref 73, .int 0, .int 0, .int 0], vm := .none }, { cls := 47, slots := #[.int 97, .int 32, .int 114, .int 111, .int 119, .int 32, .int 119, .int 111, .int 117, .int 108, .int 100, .int 32, .int 98, .int 101, .int 32, .int 116, .int 111, .int 111, .int 32, .int 100, .int 101, .int 101, .int 112], vm := .none }, { cls := 25, slots := #[.ref 75, .int 0, .int 0, .int 0], vm := .none }, { cls := 47, slots := #[.int 110, .int 111, .int 32, .int 109, .int 97, .int 107, .int 101, .int 114, .int 32, .int 109, .int 97, .int 107, .int 101, .int 115, .int 32, .int 116, .int 114, .int 117, .int 116, .int 104, .int 115, .int 32, .int 111, .int 114, .int 32, .int 115, .int 105, .int 103, .int 110, .int 115], vm := .none }, { cls := 25, slots := #[.ref 77, .int 0, .int 0, .int 0], vm := .none }, { cls := 47, slots := #[.int 110, .int 111, .int 32, .int 115, .int 117, .int 99, .int 104, .int 32, .int 115, .int 116, .int 111, .int 112], vm := .none }, { cls := 25, slots := #[.ref 79, .int 0, .int 0, .int 0], vm := .none }, { cls := 47, slots := #[.int 102, .int 114, .int 111, .int 109, .int 32, .int 105, .int 115, .int 32, .int 98, .int 101, .int 108, .int 111, .int 119, .int 32, .int 48], vm := .none }, { cls := 25, slots := #[.ref 81, .int 0, .int 0, .int 0], vm := .none }, { cls := 47, slots := #[.int 97, .int 32, .int 114, .int 111, .int 119, .int 32, .int 111, .int 102, .int 32, .int 116, .int 104, .int 105, .int 110, .int 103, .int 115, .int 32, .int 105, .int 115, .int 32, .int 110, .int 111, .int 116, .int 32, .int 99, .int 111, .int 112, .int 105, .int 101, .int 100], vm := .none }, { cls := 25, slots := #[.ref 83, .int 0, .int 0, .int 0], vm := .none }, { cls := 47, slots := #[.int 114, .int 111, .int 119, .int 115, .int 32, .int 111, .int 102, .int 32, .int 117, .int 110, .int 108, .int 105, .int 107, .int 101, .int 32, .int 107, .int 105, .int 110, .int 100, .int 115], vm := .none }, { cls := 25, slots := #[.ref 85, .int 0, .int 0, .int 0], vm := .none }, { cls := 47, slots := #[.int 97, .int 32, .int 114, .int 111, .int 119, .int 32, .int 104, .int 97, .int 110, .int 103, .int 115, .int 32, .int 105, .int 110, .int 32, .int 105, .int 116], vm := .none }, { cls := 25, slots := #[.ref 87, .int 0, .int 0, .int 0], vm := .none }, { cls := 47, slots := #[.int 114, .int 111, .int 119, .int 115, .int 32, .int 111, .int 102, .int 32, .int 116, .int 104, .int 105, .int 110, .int 103, .int 115, .int 32, .int 97, .int 114, .int 101, .int 32, .int 110, .int 111, .int 116, .int 32, .int 99, .int 111, .int 109, .int 112, .int 97, .int 114, .int 101, .int 100], vm := .none }, { cls := 25, slots := #[.ref 89, .int 0, .int 0, .int 0], vm := .none }, { cls := 47, slots := #[.int 91], vm := .none }, { cls := 25, slots := #[.ref 91, .int 0, .int 0, .int 0], vm := .none }, { cls := 47, slots := #[.int 93], vm := .none }, { cls := 1, slots := #[], vm := .none }]
  slotsUsed := script.size + 902
  threads := #[{ frames := .invoking ⟨0, 0⟩ args0 :: Lib.HandBits.below0 }]
