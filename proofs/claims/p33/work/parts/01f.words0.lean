set_option maxRecDepth 20000 in
theorem zw_0 : Cond.selects RJ4 ⟨"java/lang/AbstractStringBuilder", "ensureCapacityInternal", "(I)V"⟩ yJ5_ensureCapacityInternal_d00df ∈ zbig := zw_of 0 (by decide +kernel) (by decide +kernel)
set_option maxRecDepth 20000 in
theorem zw_1 : Cond.selects RJ4 ⟨"java/lang/AbstractStringBuilder", "newCapacity", "(I)I"⟩ yJ5_newCapacity_0f7a4 ∈ zbig := zw_of 1 (by decide +kernel) (by decide +kernel)
set_option maxRecDepth 20000 in
theorem zw_4 : Cond.selects RJ4 ⟨"java/lang/AbstractStringBuilder", "putStringAt", "(ILjava/lang/String;)V"⟩ yJ5_putStringAt_47b60 ∈ zbig := zw_of 4 (by decide +kernel) (by decide +kernel)
set_option maxRecDepth 20000 in
theorem zw_5 : Cond.selects RJ4 ⟨"java/lang/AbstractStringBuilder", "inflateIfNeededFor", "(Ljava/lang/String;)V"⟩ yJ5_inflateIfNeededFor_a7421 ∈ zbig := zw_of 5 (by decide +kernel) (by decide +kernel)
set_option maxRecDepth 20000 in
theorem zw_8 : Cond.selects RX0 yX0_change yX0_change ∈ zbig := zw_of 8 (by decide +kernel) (by decide +kernel)
set_option maxRecDepth 20000 in
theorem zw_14 : Cond.selects RX1 yX1_rowOf yX1_rowOf ∈ zbig := zw_of 14 (by decide +kernel) (by decide +kernel)
set_option maxRecDepth 20000 in
theorem zw_15 : Cond.selects RX1 yX1_requireRoom yX1_requireRoom ∈ zbig := zw_of 15 (by decide +kernel) (by decide +kernel)
set_option maxRecDepth 20000 in
theorem zw_16 : Cond.selects RX1 yX1_addRow yX1_addRow ∈ zbig := zw_of 16 (by decide +kernel) (by decide +kernel)
set_option maxRecDepth 20000 in
theorem zw_17 : Cond.selects RJx4a65c yJx4a65c_add_72be8 yJx4a65c_add_72be8 ∈ zbig := zw_of 17 (by decide +kernel) (by decide +kernel)
set_option maxRecDepth 20000 in
theorem zw_18 : Cond.selects RJx4a65c yJx4a65c_grow_d5877 yJx4a65c_grow_d5877 ∈ zbig := zw_of 18 (by decide +kernel) (by decide +kernel)
set_option maxRecDepth 20000 in
theorem zw_19 : Cond.selects RJx4a65c yJx4a65c_grow_92f84 yJx4a65c_grow_92f84 ∈ zbig := zw_of 19 (by decide +kernel) (by decide +kernel)
set_option maxRecDepth 20000 in
theorem zw_21 : Cond.selects RX1 yX1_requireDepths yX1_requireDepths ∈ zbig := zw_of 21 (by decide +kernel) (by decide +kernel)
set_option maxRecDepth 20000 in
theorem zw_22 : Cond.selects RX4 yX4_start yX4_start ∈ zbig := zw_of 22 (by decide +kernel) (by decide +kernel)
set_option maxRecDepth 20000 in
theorem zw_23 : Cond.selects RX4 yX4_refuse yX4_refuse ∈ zbig := zw_of 23 (by decide +kernel) (by decide +kernel)
set_option maxRecDepth 20000 in
theorem zw_25 : Cond.selects RX4 yX4_isNoRow yX4_isNoRow ∈ zbig := zw_of 25 (by decide +kernel) (by decide +kernel)
set_option maxRecDepth 20000 in
theorem zw_26 : Cond.selects RX4 yX4_nowhere yX4_nowhere ∈ zbig := zw_of 26 (by decide +kernel) (by decide +kernel)
set_option maxRecDepth 20000 in
theorem zw_27 : Cond.selects RX4 yX4_areHung yX4_areHung ∈ zbig := zw_of 27 (by decide +kernel) (by decide +kernel)
set_option maxRecDepth 20000 in
theorem zw_28 : Cond.selects RX4 yX4_depthOf yX4_depthOf ∈ zbig := zw_of 28 (by decide +kernel) (by decide +kernel)
set_option maxRecDepth 20000 in
theorem zw_37 : Cond.selects RX4 yX4_textOf yX4_textOf ∈ zbig := zw_of 37 (by decide +kernel) (by decide +kernel)
set_option maxRecDepth 20000 in
theorem zw_38 : Cond.selects RX4 yX4_textAt yX4_textAt ∈ zbig := zw_of 38 (by decide +kernel) (by decide +kernel)
set_option maxRecDepth 20000 in
theorem zw_40 : Cond.initialized "DeeprowsLaw" ∈ zbig := zw_of 40 (by decide +kernel) (by decide +kernel)
set_option maxRecDepth 20000 in
theorem zw_41 : Cond.initialized RX1 ∈ zbig := zw_of 41 (by decide +kernel) (by decide +kernel)
set_option maxRecDepth 20000 in
theorem zw_42 : Cond.initialized RJxa1e45 ∈ zbig := zw_of 42 (by decide +kernel) (by decide +kernel)
set_option maxRecDepth 20000 in
theorem zw_43 : Cond.initialized RJxc12de ∈ zbig := zw_of 43 (by decide +kernel) (by decide +kernel)
set_option maxRecDepth 20000 in
theorem zw_44 : Cond.initialized RJx4a65c ∈ zbig := zw_of 44 (by decide +kernel) (by decide +kernel)
set_option maxRecDepth 20000 in
theorem zw_45 : Cond.initialized RX0 ∈ zbig := zw_of 45 (by decide +kernel) (by decide +kernel)
set_option maxRecDepth 20000 in
theorem zw_46 : Cond.initialized RJ5 ∈ zbig := zw_of 46 (by decide +kernel) (by decide +kernel)
set_option maxRecDepth 20000 in
theorem zw_47 : Cond.initialized RJ4 ∈ zbig := zw_of 47 (by decide +kernel) (by decide +kernel)
set_option maxRecDepth 20000 in
theorem zw_48 : Cond.initialized RJ0 ∈ zbig := zw_of 48 (by decide +kernel) (by decide +kernel)
set_option maxRecDepth 20000 in
theorem zw_50 : Cond.initialized RX4 ∈ zbig := zw_of 50 (by decide +kernel) (by decide +kernel)
set_option maxRecDepth 20000 in
theorem zw_51 : Cond.initialized RX2 ∈ zbig := zw_of 51 (by decide +kernel) (by decide +kernel)
set_option maxRecDepth 20000 in
theorem zw_57 : Cond.initialized "jdk/internal/util/ArraysSupport" ∈ zbig := zw_of 57 (by decide +kernel) (by decide +kernel)
set_option maxRecDepth 20000 in
theorem zw_58 : Cond.initialized "java/lang/Math" ∈ zbig := zw_of 58 (by decide +kernel) (by decide +kernel)
set_option maxRecDepth 20000 in
theorem zw_59 : Cond.initialized "java/util/Arrays" ∈ zbig := zw_of 59 (by decide +kernel) (by decide +kernel)
set_option maxRecDepth 20000 in
theorem zw_60 : Cond.initialized "java/lang/System" ∈ zbig := zw_of 60 (by decide +kernel) (by decide +kernel)
set_option maxRecDepth 20000 in
theorem zw_61 : Cond.initialized RX3 ∈ zbig := zw_of 61 (by decide +kernel) (by decide +kernel)
set_option maxRecDepth 20000 in
theorem zw_62 : Cond.initialized "java/util/Objects" ∈ zbig := zw_of 62 (by decide +kernel) (by decide +kernel)
set_option maxRecDepth 20000 in
theorem zw_63 : Cond.initialized "jdk/internal/util/Preconditions" ∈ zbig := zw_of 63 (by decide +kernel) (by decide +kernel)
set_option maxRecDepth 20000 in
theorem zw_65 : Cond.initialized "java/lang/StringLatin1" ∈ zbig := zw_of 65 (by decide +kernel) (by decide +kernel)
set_option maxRecDepth 20000 in
theorem zw_71 : Cond.classLink RL 8 RX1 ∈ zbig := zw_of 71 (by decide +kernel) (by decide +kernel)
set_option maxRecDepth 20000 in
theorem zw_72 : Cond.instantiable RX1 8 ∈ zbig := zw_of 72 (by decide +kernel) (by decide +kernel)
set_option maxRecDepth 20000 in
theorem zw_73 : Cond.methodLink RL 117 yX1_init ∈ zbig := zw_of 73 (by decide +kernel) (by decide +kernel)
set_option maxRecDepth 20000 in
theorem zw_74 : Cond.instanceMethod yX1_init ∈ zbig := zw_of 74 (by decide +kernel) (by decide +kernel)
set_option maxRecDepth 20000 in
theorem zw_75 : Cond.code yX1_init cX1_init 1 none ∈ zbig := zw_of 75 (by decide +kernel) (by decide +kernel)
set_option maxRecDepth 20000 in
theorem zw_76 : Cond.methodLink RX1 3 objectInit ∈ zbig := zw_of 76 (by decide +kernel) (by decide +kernel)
set_option maxRecDepth 20000 in
theorem zw_77 : Cond.instanceMethod objectInit ∈ zbig := zw_of 77 (by decide +kernel) (by decide +kernel)
set_option maxRecDepth 20000 in
theorem zw_78 : Cond.code objectInit ⟨#[0xb1]⟩ 1 none ∈ zbig := zw_of 78 (by decide +kernel) (by decide +kernel)
set_option maxRecDepth 20000 in
theorem zw_79 : Cond.classLink RX1 9 RJx4a65c ∈ zbig := zw_of 79 (by decide +kernel) (by decide +kernel)
set_option maxRecDepth 20000 in
theorem zw_80 : Cond.instantiable RJx4a65c 3 ∈ zbig := zw_of 80 (by decide +kernel) (by decide +kernel)
set_option maxRecDepth 20000 in
theorem zw_81 : Cond.methodLink RX1 11 yJx4a65c_init_da8c8 ∈ zbig := zw_of 81 (by decide +kernel) (by decide +kernel)
set_option maxRecDepth 20000 in
theorem zw_82 : Cond.instanceMethod yJx4a65c_init_da8c8 ∈ zbig := zw_of 82 (by decide +kernel) (by decide +kernel)
set_option maxRecDepth 20000 in
theorem zw_83 : Cond.code yJx4a65c_init_da8c8 cJx4a65c_init_da8c8 1 none ∈ zbig := zw_of 83 (by decide +kernel) (by decide +kernel)
set_option maxRecDepth 20000 in
theorem zw_84 : Cond.methodLink RJx4a65c 1 yJxc12de_init_da8c8 ∈ zbig := zw_of 84 (by decide +kernel) (by decide +kernel)
set_option maxRecDepth 20000 in
theorem zw_85 : Cond.instanceMethod yJxc12de_init_da8c8 ∈ zbig := zw_of 85 (by decide +kernel) (by decide +kernel)
set_option maxRecDepth 20000 in
theorem zw_86 : Cond.code yJxc12de_init_da8c8 cJxc12de_init_da8c8 1 none ∈ zbig := zw_of 86 (by decide +kernel) (by decide +kernel)
set_option maxRecDepth 20000 in
theorem zw_87 : Cond.methodLink RJxc12de 1 yJxa1e45_init_da8c8 ∈ zbig := zw_of 87 (by decide +kernel) (by decide +kernel)
set_option maxRecDepth 20000 in
theorem zw_88 : Cond.instanceMethod yJxa1e45_init_da8c8 ∈ zbig := zw_of 88 (by decide +kernel) (by decide +kernel)
set_option maxRecDepth 20000 in
theorem zw_89 : Cond.code yJxa1e45_init_da8c8 cJxa1e45_init_da8c8 1 none ∈ zbig := zw_of 89 (by decide +kernel) (by decide +kernel)
set_option maxRecDepth 20000 in
theorem zw_90 : Cond.methodLink RJxa1e45 1 objectInit ∈ zbig := zw_of 90 (by decide +kernel) (by decide +kernel)
set_option maxRecDepth 20000 in
theorem zw_91 : Cond.fieldLink RJx4a65c 39 "java/util/ArrayList" "DEFAULTCAPACITY_EMPTY_ELEMENTDATA" "[Ljava/lang/Object;" ∈ zbig := zw_of 91 (by decide +kernel) (by decide +kernel)
set_option maxRecDepth 20000 in
theorem zw_93 : Cond.fieldLink RJx4a65c 9 "java/util/ArrayList" "elementData" "[Ljava/lang/Object;" ∈ zbig := zw_of 93 (by decide +kernel) (by decide +kernel)
set_option maxRecDepth 20000 in
theorem zw_94 : Cond.fieldLink RJx4a65c 48 "java/util/ArrayList" "size" "I" ∈ zbig := zw_of 94 (by decide +kernel) (by decide +kernel)
set_option maxRecDepth 20000 in
theorem zw_95 : Cond.fieldLink RJxc12de 7 "java/util/AbstractList" "modCount" "I" ∈ zbig := zw_of 95 (by decide +kernel) (by decide +kernel)
set_option maxRecDepth 20000 in
theorem zw_96 : Cond.fieldLink RJx4a65c 63 "java/util/ArrayList" "modCount" "I" ∈ zbig := zw_of 96 (by decide +kernel) (by decide +kernel)
set_option maxRecDepth 20000 in
theorem zw_97 : Cond.sameField "java/util/ArrayList" "java/util/AbstractList" "modCount" "I" ∈ zbig := zw_of 97 (by decide +kernel) (by decide +kernel)
set_option maxRecDepth 20000 in
theorem zw_105 : Cond.classLink RX1 26 "Deeprows$Row" ∈ zbig := zw_of 105 (by decide +kernel) (by decide +kernel)
set_option maxRecDepth 20000 in
theorem zw_106 : Cond.instantiable RX0 6 ∈ zbig := zw_of 106 (by decide +kernel) (by decide +kernel)
set_option maxRecDepth 20000 in
theorem zw_107 : Cond.methodLink RX1 28 yX0_init ∈ zbig := zw_of 107 (by decide +kernel) (by decide +kernel)
set_option maxRecDepth 20000 in
theorem zw_108 : Cond.instanceMethod yX0_init ∈ zbig := zw_of 108 (by decide +kernel) (by decide +kernel)
set_option maxRecDepth 20000 in
theorem zw_109 : Cond.code yX0_init cX0_init 4 none ∈ zbig := zw_of 109 (by decide +kernel) (by decide +kernel)
set_option maxRecDepth 20000 in
theorem zw_110 : Cond.methodLink RX0 3 objectInit ∈ zbig := zw_of 110 (by decide +kernel) (by decide +kernel)
set_option maxRecDepth 20000 in
theorem zw_111 : Cond.classLink RX0 10 RX0 ∈ zbig := zw_of 111 (by decide +kernel) (by decide +kernel)
set_option maxRecDepth 20000 in
theorem zw_113 : Cond.fieldLink RX0 9 "Deeprows$Row" "kind" "I" ∈ zbig := zw_of 113 (by decide +kernel) (by decide +kernel)
set_option maxRecDepth 20000 in
theorem zw_115 : Cond.fieldLink RX0 15 "Deeprows$Row" "length" "I" ∈ zbig := zw_of 115 (by decide +kernel) (by decide +kernel)
set_option maxRecDepth 20000 in
theorem zw_117 : Cond.fieldLink RX0 18 "Deeprows$Row" "whats" "[I" ∈ zbig := zw_of 117 (by decide +kernel) (by decide +kernel)
set_option maxRecDepth 20000 in
theorem zw_119 : Cond.fieldLink RX0 22 "Deeprows$Row" "values" "[I" ∈ zbig := zw_of 119 (by decide +kernel) (by decide +kernel)
set_option maxRecDepth 20000 in
theorem zw_121 : Cond.fieldLink RX0 25 "Deeprows$Row" "hung" "[LDeeprows$Row;" ∈ zbig := zw_of 121 (by decide +kernel) (by decide +kernel)
set_option maxRecDepth 20000 in
theorem zw_137 : Cond.arrayClass .int ∈ zbig := zw_of 137 (by decide +kernel) (by decide +kernel)
set_option maxRecDepth 20000 in
theorem zw_138 : Cond.classLink RX1 38 RJ4 ∈ zbig := zw_of 138 (by decide +kernel) (by decide +kernel)
set_option maxRecDepth 20000 in
theorem zw_139 : Cond.instantiable RJ4 4 ∈ zbig := zw_of 139 (by decide +kernel) (by decide +kernel)
set_option maxRecDepth 20000 in
theorem zw_140 : Cond.methodLink RX1 40 yJ4_init_da8c8 ∈ zbig := zw_of 140 (by decide +kernel) (by decide +kernel)
set_option maxRecDepth 20000 in
theorem zw_141 : Cond.instanceMethod yJ4_init_da8c8 ∈ zbig := zw_of 141 (by decide +kernel) (by decide +kernel)
set_option maxRecDepth 20000 in
theorem zw_142 : Cond.code yJ4_init_da8c8 cJ4_init_da8c8 1 none ∈ zbig := zw_of 142 (by decide +kernel) (by decide +kernel)
set_option maxRecDepth 20000 in
theorem zw_143 : Cond.methodLink RJ4 1 yJ5_init_d00df ∈ zbig := zw_of 143 (by decide +kernel) (by decide +kernel)
set_option maxRecDepth 20000 in
theorem zw_144 : Cond.instanceMethod yJ5_init_d00df ∈ zbig := zw_of 144 (by decide +kernel) (by decide +kernel)
set_option maxRecDepth 20000 in
theorem zw_145 : Cond.code yJ5_init_d00df cJ5_init_d00df 2 none ∈ zbig := zw_of 145 (by decide +kernel) (by decide +kernel)
set_option maxRecDepth 20000 in
theorem zw_146 : Cond.methodLink RJ5 3 objectInit ∈ zbig := zw_of 146 (by decide +kernel) (by decide +kernel)
set_option maxRecDepth 20000 in
theorem zw_147 : Cond.fieldLink RJ5 18 "java/lang/String" "COMPACT_STRINGS" "Z" ∈ zbig := zw_of 147 (by decide +kernel) (by decide +kernel)
set_option maxRecDepth 20000 in
theorem zw_156 : Cond.fieldLink RJ5 15 "java/lang/AbstractStringBuilder" "value" "[B" ∈ zbig := zw_of 156 (by decide +kernel) (by decide +kernel)
set_option maxRecDepth 20000 in
theorem zw_157 : Cond.fieldLink RJ5 22 "java/lang/AbstractStringBuilder" "coder" "B" ∈ zbig := zw_of 157 (by decide +kernel) (by decide +kernel)
set_option maxRecDepth 20000 in
theorem zw_158 : Cond.fieldLink RJ5 73 "java/lang/AbstractStringBuilder" "maybeLatin1" "Z" ∈ zbig := zw_of 158 (by decide +kernel) (by decide +kernel)
set_option maxRecDepth 20000 in
theorem zw_160 : Cond.fieldLink RJ5 79 "java/lang/AbstractStringBuilder" "count" "I" ∈ zbig := zw_of 160 (by decide +kernel) (by decide +kernel)
set_option maxRecDepth 20000 in
theorem zw_169 : Cond.superclass RJ4 "java/lang/AbstractStringBuilder" ∈ zbig := zw_of 169 (by decide +kernel) (by decide +kernel)
set_option maxRecDepth 20000 in
theorem zw_170 : Cond.arrayClass .byte ∈ zbig := zw_of 170 (by decide +kernel) (by decide +kernel)
set_option maxRecDepth 20000 in
theorem zw_171 : Cond.fieldLink RX1 12 "Deeprows" "rows" "Ljava/util/ArrayList;" ∈ zbig := zw_of 171 (by decide +kernel) (by decide +kernel)
set_option maxRecDepth 20000 in
theorem zw_172 : Cond.fieldLink RX1 16 "Deeprows" "makerMade" "I" ∈ zbig := zw_of 172 (by decide +kernel) (by decide +kernel)
set_option maxRecDepth 20000 in
theorem zw_173 : Cond.fieldLink RX1 20 "Deeprows" "makerRefused" "I" ∈ zbig := zw_of 173 (by decide +kernel) (by decide +kernel)
set_option maxRecDepth 20000 in
theorem zw_174 : Cond.fieldLink RX1 23 "Deeprows" "knocks" "I" ∈ zbig := zw_of 174 (by decide +kernel) (by decide +kernel)
set_option maxRecDepth 20000 in
theorem zw_175 : Cond.fieldLink RX1 31 "Deeprows" "shell" "LDeeprows$Row;" ∈ zbig := zw_of 175 (by decide +kernel) (by decide +kernel)
set_option maxRecDepth 20000 in
theorem zw_176 : Cond.fieldLink RX1 35 "Deeprows" "otherShell" "LDeeprows$Row;" ∈ zbig := zw_of 176 (by decide +kernel) (by decide +kernel)
set_option maxRecDepth 20000 in
theorem zw_177 : Cond.fieldLink RX1 41 "Deeprows" "words" "Ljava/lang/StringBuilder;" ∈ zbig := zw_of 177 (by decide +kernel) (by decide +kernel)
set_option maxRecDepth 20000 in
theorem zw_178 : Cond.fieldLink RX1 45 "Deeprows" "otherWords" "Ljava/lang/StringBuilder;" ∈ zbig := zw_of 178 (by decide +kernel) (by decide +kernel)
set_option maxRecDepth 20000 in
theorem zw_200 : Cond.methodLink RX1 78 yJx4a65c_size_8abf5 ∈ zbig := zw_of 200 (by decide +kernel) (by decide +kernel)
set_option maxRecDepth 20000 in
theorem zw_201 : Cond.instanceMethod yJx4a65c_size_8abf5 ∈ zbig := zw_of 201 (by decide +kernel) (by decide +kernel)
set_option maxRecDepth 20000 in
theorem zw_202 : Cond.selects RJx4a65c yJx4a65c_size_8abf5 yJx4a65c_size_8abf5 ∈ zbig := zw_of 202 (by decide +kernel) (by decide +kernel)
set_option maxRecDepth 20000 in
theorem zw_203 : Cond.code yJx4a65c_size_8abf5 cJx4a65c_size_8abf5 1 (some .int) ∈ zbig := zw_of 203 (by decide +kernel) (by decide +kernel)
set_option maxRecDepth 20000 in
theorem zw_216 : Cond.methodLink RX1 233 yJx4a65c_get_915e3 ∈ zbig := zw_of 216 (by decide +kernel) (by decide +kernel)
set_option maxRecDepth 20000 in
theorem zw_217 : Cond.instanceMethod yJx4a65c_get_915e3 ∈ zbig := zw_of 217 (by decide +kernel) (by decide +kernel)
set_option maxRecDepth 20000 in
theorem zw_218 : Cond.selects RJx4a65c yJx4a65c_get_915e3 yJx4a65c_get_915e3 ∈ zbig := zw_of 218 (by decide +kernel) (by decide +kernel)
set_option maxRecDepth 20000 in
theorem zw_219 : Cond.code yJx4a65c_get_915e3 cJx4a65c_get_915e3 2 (some (.object "java/lang/Object")) ∈ zbig := zw_of 219 (by decide +kernel) (by decide +kernel)
set_option maxRecDepth 20000 in
theorem zw_220 : Cond.methodLink RJx4a65c 118 yJ15_checkIndex_7cf53 ∈ zbig := zw_of 220 (by decide +kernel) (by decide +kernel)
set_option maxRecDepth 20000 in
theorem zw_221 : Cond.static yJ15_checkIndex_7cf53 ∈ zbig := zw_of 221 (by decide +kernel) (by decide +kernel)
set_option maxRecDepth 20000 in
theorem zw_222 : Cond.code yJ15_checkIndex_7cf53 cJ15_checkIndex_7cf53 2 (some .int) ∈ zbig := zw_of 222 (by decide +kernel) (by decide +kernel)
set_option maxRecDepth 20000 in
theorem zw_223 : Cond.methodLink RJ15 105 yJ3_checkIndex_8e157 ∈ zbig := zw_of 223 (by decide +kernel) (by decide +kernel)
set_option maxRecDepth 20000 in
theorem zw_224 : Cond.static yJ3_checkIndex_8e157 ∈ zbig := zw_of 224 (by decide +kernel) (by decide +kernel)
set_option maxRecDepth 20000 in
theorem zw_225 : Cond.code yJ3_checkIndex_8e157 cJ3_checkIndex_8e157 3 (some .int) ∈ zbig := zw_of 225 (by decide +kernel) (by decide +kernel)
set_option maxRecDepth 20000 in
theorem zw_226 : Cond.methodLink RJx4a65c 123 yJx4a65c_elementData_915e3 ∈ zbig := zw_of 226 (by decide +kernel) (by decide +kernel)
set_option maxRecDepth 20000 in
theorem zw_227 : Cond.instanceMethod yJx4a65c_elementData_915e3 ∈ zbig := zw_of 227 (by decide +kernel) (by decide +kernel)
set_option maxRecDepth 20000 in
theorem zw_228 : Cond.selects RJx4a65c yJx4a65c_elementData_915e3 yJx4a65c_elementData_915e3 ∈ zbig := zw_of 228 (by decide +kernel) (by decide +kernel)
set_option maxRecDepth 20000 in
theorem zw_229 : Cond.code yJx4a65c_elementData_915e3 cJx4a65c_elementData_915e3 2 (some (.object "java/lang/Object")) ∈ zbig := zw_of 229 (by decide +kernel) (by decide +kernel)
set_option maxRecDepth 20000 in
theorem zw_230 : Cond.methodLink RX1 208 yX1_writeAnew ∈ zbig := zw_of 230 (by decide +kernel) (by decide +kernel)
set_option maxRecDepth 20000 in
theorem zw_231 : Cond.static yX1_writeAnew ∈ zbig := zw_of 231 (by decide +kernel) (by decide +kernel)
set_option maxRecDepth 20000 in
theorem zw_232 : Cond.code yX1_writeAnew cX1_writeAnew 2 none ∈ zbig := zw_of 232 (by decide +kernel) (by decide +kernel)
set_option maxRecDepth 20000 in
theorem zw_233 : Cond.methodLink RX1 342 yJ4_setLength_d00df ∈ zbig := zw_of 233 (by decide +kernel) (by decide +kernel)
set_option maxRecDepth 20000 in
theorem zw_234 : Cond.instanceMethod yJ4_setLength_d00df ∈ zbig := zw_of 234 (by decide +kernel) (by decide +kernel)
set_option maxRecDepth 20000 in
theorem zw_235 : Cond.selects RJ4 yJ4_setLength_d00df yJ4_setLength_d00df ∈ zbig := zw_of 235 (by decide +kernel) (by decide +kernel)
set_option maxRecDepth 20000 in
theorem zw_236 : Cond.code yJ4_setLength_d00df cJ4_setLength_d00df 2 none ∈ zbig := zw_of 236 (by decide +kernel) (by decide +kernel)
set_option maxRecDepth 20000 in
theorem zw_237 : Cond.methodLink RJ4 333 yJ5_setLength_d00df ∈ zbig := zw_of 237 (by decide +kernel) (by decide +kernel)
set_option maxRecDepth 20000 in
theorem zw_238 : Cond.instanceMethod yJ5_setLength_d00df ∈ zbig := zw_of 238 (by decide +kernel) (by decide +kernel)
set_option maxRecDepth 20000 in
theorem zw_239 : Cond.code yJ5_setLength_d00df cJ5_setLength_d00df 2 none ∈ zbig := zw_of 239 (by decide +kernel) (by decide +kernel)
set_option maxRecDepth 20000 in
theorem zw_249 : Cond.instanceMethod yJ4_append_15ec4 ∈ zbig := zw_of 249 (by decide +kernel) (by decide +kernel)
set_option maxRecDepth 20000 in
theorem zw_250 : Cond.selects RJ4 yJ4_append_15ec4 yJ4_append_15ec4 ∈ zbig := zw_of 250 (by decide +kernel) (by decide +kernel)
set_option maxRecDepth 20000 in
theorem zw_251 : Cond.code yJ4_append_15ec4 cJ4_append_15ec4 2 (some (.object "java/lang/StringBuilder")) ∈ zbig := zw_of 251 (by decide +kernel) (by decide +kernel)
set_option maxRecDepth 20000 in
theorem zw_252 : Cond.methodLink RJ4 29 yJ5_append_cf1ce ∈ zbig := zw_of 252 (by decide +kernel) (by decide +kernel)
set_option maxRecDepth 20000 in
theorem zw_253 : Cond.instanceMethod yJ5_append_cf1ce ∈ zbig := zw_of 253 (by decide +kernel) (by decide +kernel)
set_option maxRecDepth 20000 in
theorem zw_254 : Cond.code yJ5_append_cf1ce cJ5_append_cf1ce 3 (some (.object "java/lang/AbstractStringBuilder")) ∈ zbig := zw_of 254 (by decide +kernel) (by decide +kernel)
set_option maxRecDepth 20000 in
theorem zw_259 : Cond.methodLink RJ5 100 ⟨"java/lang/AbstractStringBuilder", "ensureCapacityInternal", "(I)V"⟩ ∈ zbig := zw_of 259 (by decide +kernel) (by decide +kernel)
set_option maxRecDepth 20000 in
theorem zw_261 : Cond.instanceMethod yJ5_ensureCapacityInternal_d00df ∈ zbig := zw_of 261 (by decide +kernel) (by decide +kernel)
set_option maxRecDepth 20000 in
theorem zw_262 : Cond.code yJ5_ensureCapacityInternal_d00df cJ5_ensureCapacityInternal_d00df 3 none ∈ zbig := zw_of 262 (by decide +kernel) (by decide +kernel)
set_option maxRecDepth 20000 in
theorem zw_263 : Cond.methodLink RJ5 104 ⟨"java/lang/AbstractStringBuilder", "newCapacity", "(I)I"⟩ ∈ zbig := zw_of 263 (by decide +kernel) (by decide +kernel)
set_option maxRecDepth 20000 in
theorem zw_265 : Cond.instanceMethod yJ5_newCapacity_0f7a4 ∈ zbig := zw_of 265 (by decide +kernel) (by decide +kernel)
set_option maxRecDepth 20000 in
theorem zw_266 : Cond.code yJ5_newCapacity_0f7a4 cJ5_newCapacity_0f7a4 6 (some .int) ∈ zbig := zw_of 266 (by decide +kernel) (by decide +kernel)
set_option maxRecDepth 20000 in
theorem zw_267 : Cond.methodLink RJ5 114 yJ8_newLength_cabcc ∈ zbig := zw_of 267 (by decide +kernel) (by decide +kernel)
set_option maxRecDepth 20000 in
theorem zw_268 : Cond.static yJ8_newLength_cabcc ∈ zbig := zw_of 268 (by decide +kernel) (by decide +kernel)
set_option maxRecDepth 20000 in
theorem zw_269 : Cond.code yJ8_newLength_cabcc cJ8_newLength_cabcc 4 (some .int) ∈ zbig := zw_of 269 (by decide +kernel) (by decide +kernel)
set_option maxRecDepth 20000 in
theorem zw_270 : Cond.methodLink RJ8 194 Lib.Math.max.name ∈ zbig := zw_of 270 (by decide +kernel) (by decide +kernel)
set_option maxRecDepth 20000 in
theorem zw_271 : Cond.static Lib.Math.max.name ∈ zbig := zw_of 271 (by decide +kernel) (by decide +kernel)
set_option maxRecDepth 20000 in
theorem zw_272 : Cond.code Lib.Math.max.name Lib.Math.max.code 2 (some .int) ∈ zbig := zw_of 272 (by decide +kernel) (by decide +kernel)
set_option maxRecDepth 20000 in
theorem zw_273 : Cond.constant RJ8 200 (2147483639) ∈ zbig := zw_of 273 (by decide +kernel) (by decide +kernel)
set_option maxRecDepth 20000 in
theorem zw_277 : Cond.constant RJ5 39 (2147483647) ∈ zbig := zw_of 277 (by decide +kernel) (by decide +kernel)
set_option maxRecDepth 20000 in
theorem zw_278 : Cond.methodLink RJ5 108 yJ7_copyOf_9075b ∈ zbig := zw_of 278 (by decide +kernel) (by decide +kernel)
set_option maxRecDepth 20000 in
theorem zw_279 : Cond.static yJ7_copyOf_9075b ∈ zbig := zw_of 279 (by decide +kernel) (by decide +kernel)
set_option maxRecDepth 20000 in
theorem zw_280 : Cond.code yJ7_copyOf_9075b cJ7_copyOf_9075b 3 (some (.array .byte)) ∈ zbig := zw_of 280 (by decide +kernel) (by decide +kernel)
set_option maxRecDepth 20000 in
theorem zw_281 : Cond.methodLink RJ7 310 ⟨"[B", "clone", "()Ljava/lang/Object;"⟩ ∈ zbig := zw_of 281 (by decide +kernel) (by decide +kernel)
set_option maxRecDepth 20000 in
theorem zw_282 : Cond.sameMethod "[B" "java/lang/Object" "clone" "()Ljava/lang/Object;" ∈ zbig := zw_of 282 (by decide +kernel) (by decide +kernel)
set_option maxRecDepth 20000 in
theorem zw_283 : Cond.native ⟨"java/lang/Object", "clone", "()Ljava/lang/Object;"⟩ ∈ zbig := zw_of 283 (by decide +kernel) (by decide +kernel)
set_option maxRecDepth 20000 in
theorem zw_284 : Cond.instanceMethod ⟨"java/lang/Object", "clone", "()Ljava/lang/Object;"⟩ ∈ zbig := zw_of 284 (by decide +kernel) (by decide +kernel)
set_option maxRecDepth 20000 in
theorem zw_285 : Cond.selects "[B" ⟨"[B", "clone", "()Ljava/lang/Object;"⟩ ⟨"java/lang/Object", "clone", "()Ljava/lang/Object;"⟩ ∈ zbig := zw_of 285 (by decide +kernel) (by decide +kernel)
set_option maxRecDepth 20000 in
theorem zw_287 : Cond.classLink RJ7 311 "[B" ∈ zbig := zw_of 287 (by decide +kernel) (by decide +kernel)
set_option maxRecDepth 20000 in
theorem zw_288 : Cond.methodLink RJ7 304 Lib.Math.min.name ∈ zbig := zw_of 288 (by decide +kernel) (by decide +kernel)
set_option maxRecDepth 20000 in
theorem zw_289 : Cond.static Lib.Math.min.name ∈ zbig := zw_of 289 (by decide +kernel) (by decide +kernel)
set_option maxRecDepth 20000 in
theorem zw_290 : Cond.code Lib.Math.min.name Lib.Math.min.code 2 (some .int) ∈ zbig := zw_of 290 (by decide +kernel) (by decide +kernel)
set_option maxRecDepth 20000 in
theorem zw_291 : Cond.methodLink RJ7 150 arraycopyName ∈ zbig := zw_of 291 (by decide +kernel) (by decide +kernel)
set_option maxRecDepth 20000 in
theorem zw_292 : Cond.static arraycopyName ∈ zbig := zw_of 292 (by decide +kernel) (by decide +kernel)
set_option maxRecDepth 20000 in
theorem zw_293 : Cond.native arraycopyName ∈ zbig := zw_of 293 (by decide +kernel) (by decide +kernel)
set_option maxRecDepth 20000 in
theorem zw_294 : Cond.methodLink RJ5 83 ⟨"java/lang/AbstractStringBuilder", "isLatin1", "()Z"⟩ ∈ zbig := zw_of 294 (by decide +kernel) (by decide +kernel)
set_option maxRecDepth 20000 in
theorem zw_295 : Cond.instanceMethod yJ5_isLatin1_aae02 ∈ zbig := zw_of 295 (by decide +kernel) (by decide +kernel)
set_option maxRecDepth 20000 in
theorem zw_296 : Cond.sameMethod "java/lang/AbstractStringBuilder" "java/lang/AbstractStringBuilder" "isLatin1" "()Z" ∈ zbig := zw_of 296 (by decide +kernel) (by decide +kernel)
set_option maxRecDepth 20000 in
theorem zw_297 : Cond.selects RJ4 ⟨"java/lang/AbstractStringBuilder", "isLatin1", "()Z"⟩ yJ5_isLatin1_aae02 ∈ zbig := zw_of 297 (by decide +kernel) (by decide +kernel)
set_option maxRecDepth 20000 in
theorem zw_298 : Cond.code yJ5_isLatin1_aae02 cJ5_isLatin1_aae02 1 (some .boolean) ∈ zbig := zw_of 298 (by decide +kernel) (by decide +kernel)
set_option maxRecDepth 20000 in
theorem zw_311 : Cond.fieldLink RJ0 1053 "jdk/internal/util/Preconditions" "SIOOBE_FORMATTER" "Ljava/util/function/BiFunction;" ∈ zbig := zw_of 311 (by decide +kernel) (by decide +kernel)
set_option maxRecDepth 20000 in
theorem zw_325 : Cond.methodLink RJ5 32 yJ0_length_8abf5 ∈ zbig := zw_of 325 (by decide +kernel) (by decide +kernel)
set_option maxRecDepth 20000 in
theorem zw_326 : Cond.instanceMethod yJ0_length_8abf5 ∈ zbig := zw_of 326 (by decide +kernel) (by decide +kernel)
set_option maxRecDepth 20000 in
theorem zw_327 : Cond.selects RJ0 yJ0_length_8abf5 yJ0_length_8abf5 ∈ zbig := zw_of 327 (by decide +kernel) (by decide +kernel)
set_option maxRecDepth 20000 in
theorem zw_328 : Cond.code yJ0_length_8abf5 cJ0_length_8abf5 1 (some .int) ∈ zbig := zw_of 328 (by decide +kernel) (by decide +kernel)
set_option maxRecDepth 20000 in
theorem zw_329 : Cond.methodLink RJ0 335 yJ0_coder_7d493 ∈ zbig := zw_of 329 (by decide +kernel) (by decide +kernel)
set_option maxRecDepth 20000 in
theorem zw_330 : Cond.instanceMethod yJ0_coder_7d493 ∈ zbig := zw_of 330 (by decide +kernel) (by decide +kernel)
set_option maxRecDepth 20000 in
theorem zw_331 : Cond.selects RJ0 yJ0_coder_7d493 yJ0_coder_7d493 ∈ zbig := zw_of 331 (by decide +kernel) (by decide +kernel)
set_option maxRecDepth 20000 in
theorem zw_332 : Cond.code yJ0_coder_7d493 cJ0_coder_7d493 1 (some .byte) ∈ zbig := zw_of 332 (by decide +kernel) (by decide +kernel)
set_option maxRecDepth 20000 in
theorem zw_333 : Cond.fieldLink RJ0 38 "java/lang/String" "COMPACT_STRINGS" "Z" ∈ zbig := zw_of 333 (by decide +kernel) (by decide +kernel)
set_option maxRecDepth 20000 in
theorem zw_334 : Cond.methodLink RJ5 208 ⟨"java/lang/AbstractStringBuilder", "putStringAt", "(ILjava/lang/String;)V"⟩ ∈ zbig := zw_of 334 (by decide +kernel) (by decide +kernel)
set_option maxRecDepth 20000 in
theorem zw_336 : Cond.instanceMethod yJ5_putStringAt_47b60 ∈ zbig := zw_of 336 (by decide +kernel) (by decide +kernel)
set_option maxRecDepth 20000 in
theorem zw_337 : Cond.code yJ5_putStringAt_47b60 cJ5_putStringAt_47b60 3 none ∈ zbig := zw_of 337 (by decide +kernel) (by decide +kernel)
set_option maxRecDepth 20000 in
theorem zw_338 : Cond.methodLink RJ5 397 ⟨"java/lang/AbstractStringBuilder", "inflateIfNeededFor", "(Ljava/lang/String;)V"⟩ ∈ zbig := zw_of 338 (by decide +kernel) (by decide +kernel)
set_option maxRecDepth 20000 in
theorem zw_340 : Cond.instanceMethod yJ5_inflateIfNeededFor_a7421 ∈ zbig := zw_of 340 (by decide +kernel) (by decide +kernel)
set_option maxRecDepth 20000 in
theorem zw_341 : Cond.code yJ5_inflateIfNeededFor_a7421 cJ5_inflateIfNeededFor_a7421 2 none ∈ zbig := zw_of 341 (by decide +kernel) (by decide +kernel)
set_option maxRecDepth 20000 in
theorem zw_342 : Cond.methodLink RJ5 40 yJ0_coder_7d493 ∈ zbig := zw_of 342 (by decide +kernel) (by decide +kernel)
set_option maxRecDepth 20000 in
theorem zw_362 : Cond.methodLink RJ5 399 yJ0_getBytes_840e7 ∈ zbig := zw_of 362 (by decide +kernel) (by decide +kernel)
set_option maxRecDepth 20000 in
theorem zw_363 : Cond.instanceMethod yJ0_getBytes_840e7 ∈ zbig := zw_of 363 (by decide +kernel) (by decide +kernel)
set_option maxRecDepth 20000 in
theorem zw_364 : Cond.selects RJ0 yJ0_getBytes_840e7 yJ0_getBytes_840e7 ∈ zbig := zw_of 364 (by decide +kernel) (by decide +kernel)
set_option maxRecDepth 20000 in
theorem zw_365 : Cond.code yJ0_getBytes_840e7 cJ0_getBytes_840e7 4 none ∈ zbig := zw_of 365 (by decide +kernel) (by decide +kernel)
set_option maxRecDepth 20000 in
theorem zw_366 : Cond.methodLink RJ0 212 arraycopyName ∈ zbig := zw_of 366 (by decide +kernel) (by decide +kernel)
set_option maxRecDepth 20000 in
theorem zw_394 : Cond.instanceMethod yJ4_toString_0e30d ∈ zbig := zw_of 394 (by decide +kernel) (by decide +kernel)
set_option maxRecDepth 20000 in
theorem zw_395 : Cond.selects RJ4 yJ4_toString_0e30d yJ4_toString_0e30d ∈ zbig := zw_of 395 (by decide +kernel) (by decide +kernel)
set_option maxRecDepth 20000 in
theorem zw_396 : Cond.code yJ4_toString_0e30d cJ4_toString_0e30d 1 (some (.object "java/lang/String")) ∈ zbig := zw_of 396 (by decide +kernel) (by decide +kernel)
set_option maxRecDepth 20000 in
theorem zw_397 : Cond.classLink RJ4 18 RJ0 ∈ zbig := zw_of 397 (by decide +kernel) (by decide +kernel)
set_option maxRecDepth 20000 in
theorem zw_398 : Cond.instantiable RJ0 4 ∈ zbig := zw_of 398 (by decide +kernel) (by decide +kernel)
set_option maxRecDepth 20000 in
theorem zw_399 : Cond.methodLink RJ4 137 yJ0_init_81219 ∈ zbig := zw_of 399 (by decide +kernel) (by decide +kernel)
set_option maxRecDepth 20000 in
theorem zw_400 : Cond.instanceMethod yJ0_init_81219 ∈ zbig := zw_of 400 (by decide +kernel) (by decide +kernel)
set_option maxRecDepth 20000 in
theorem zw_401 : Cond.code yJ0_init_81219 cJ0_init_81219 2 none ∈ zbig := zw_of 401 (by decide +kernel) (by decide +kernel)
set_option maxRecDepth 20000 in
theorem zw_402 : Cond.methodLink RJ0 489 yJ0_init_db425 ∈ zbig := zw_of 402 (by decide +kernel) (by decide +kernel)
set_option maxRecDepth 20000 in
theorem zw_403 : Cond.instanceMethod yJ0_init_db425 ∈ zbig := zw_of 403 (by decide +kernel) (by decide +kernel)
set_option maxRecDepth 20000 in
theorem zw_404 : Cond.code yJ0_init_db425 cJ0_init_db425 5 none ∈ zbig := zw_of 404 (by decide +kernel) (by decide +kernel)
set_option maxRecDepth 20000 in
theorem zw_405 : Cond.methodLink RJ0 1 objectInit ∈ zbig := zw_of 405 (by decide +kernel) (by decide +kernel)
set_option maxRecDepth 20000 in
theorem zw_406 : Cond.methodLink RJ0 552 ⟨"java/lang/AbstractStringBuilder", "getValue", "()[B"⟩ ∈ zbig := zw_of 406 (by decide +kernel) (by decide +kernel)
set_option maxRecDepth 20000 in
theorem zw_407 : Cond.instanceMethod yJ5_getValue_6d5f1 ∈ zbig := zw_of 407 (by decide +kernel) (by decide +kernel)
set_option maxRecDepth 20000 in
theorem zw_408 : Cond.sameMethod "java/lang/AbstractStringBuilder" "java/lang/AbstractStringBuilder" "getValue" "()[B" ∈ zbig := zw_of 408 (by decide +kernel) (by decide +kernel)
set_option maxRecDepth 20000 in
theorem zw_409 : Cond.selects RJ4 ⟨"java/lang/AbstractStringBuilder", "getValue", "()[B"⟩ yJ5_getValue_6d5f1 ∈ zbig := zw_of 409 (by decide +kernel) (by decide +kernel)
set_option maxRecDepth 20000 in
theorem zw_410 : Cond.code yJ5_getValue_6d5f1 cJ5_getValue_6d5f1 1 (some (.array .byte)) ∈ zbig := zw_of 410 (by decide +kernel) (by decide +kernel)
set_option maxRecDepth 20000 in
theorem zw_411 : Cond.methodLink RJ0 549 ⟨"java/lang/AbstractStringBuilder", "length", "()I"⟩ ∈ zbig := zw_of 411 (by decide +kernel) (by decide +kernel)
set_option maxRecDepth 20000 in
theorem zw_412 : Cond.instanceMethod ⟨"java/lang/AbstractStringBuilder", "length", "()I"⟩ ∈ zbig := zw_of 412 (by decide +kernel) (by decide +kernel)
set_option maxRecDepth 20000 in
theorem zw_413 : Cond.sameMethod "java/lang/AbstractStringBuilder" "java/lang/AbstractStringBuilder" "length" "()I" ∈ zbig := zw_of 413 (by decide +kernel) (by decide +kernel)
set_option maxRecDepth 20000 in
theorem zw_414 : Cond.selects RJ4 ⟨"java/lang/AbstractStringBuilder", "length", "()I"⟩ yJ4_length_8abf5 ∈ zbig := zw_of 414 (by decide +kernel) (by decide +kernel)
set_option maxRecDepth 20000 in
theorem zw_415 : Cond.instanceMethod yJ4_length_8abf5 ∈ zbig := zw_of 415 (by decide +kernel) (by decide +kernel)
set_option maxRecDepth 20000 in
theorem zw_416 : Cond.code yJ4_length_8abf5 cJ4_length_8abf5 1 (some .int) ∈ zbig := zw_of 416 (by decide +kernel) (by decide +kernel)
set_option maxRecDepth 20000 in
theorem zw_417 : Cond.methodLink RJ4 343 yJ5_length_8abf5 ∈ zbig := zw_of 417 (by decide +kernel) (by decide +kernel)
set_option maxRecDepth 20000 in
theorem zw_418 : Cond.code yJ5_length_8abf5 cJ5_length_8abf5 1 (some .int) ∈ zbig := zw_of 418 (by decide +kernel) (by decide +kernel)
set_option maxRecDepth 20000 in
theorem zw_419 : Cond.methodLink RJ0 1047 ⟨"java/lang/AbstractStringBuilder", "isLatin1", "()Z"⟩ ∈ zbig := zw_of 419 (by decide +kernel) (by decide +kernel)
set_option maxRecDepth 20000 in
theorem zw_420 : Cond.methodLink RJ0 54 yJ7_copyOfRange_39247 ∈ zbig := zw_of 420 (by decide +kernel) (by decide +kernel)
