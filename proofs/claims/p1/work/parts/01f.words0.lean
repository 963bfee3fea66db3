set_option maxRecDepth 20000 in
theorem zw_5 : Cond.selects RX1 yX1_pairsDeep yX1_pairsDeep ∈ zbig := zw_of 5 (by decide +kernel) (by decide +kernel)
set_option maxRecDepth 20000 in
theorem zw_6 : Cond.selects RX1 yX1_greatestDepth yX1_greatestDepth ∈ zbig := zw_of 6 (by decide +kernel) (by decide +kernel)
set_option maxRecDepth 20000 in
theorem zw_8 : Cond.selects RX1 yX1_rowOf yX1_rowOf ∈ zbig := zw_of 8 (by decide +kernel) (by decide +kernel)
set_option maxRecDepth 20000 in
theorem zw_9 : Cond.selects RX1 yX1_requireRoom yX1_requireRoom ∈ zbig := zw_of 9 (by decide +kernel) (by decide +kernel)
set_option maxRecDepth 20000 in
theorem zw_10 : Cond.selects RX1 yX1_addRow yX1_addRow ∈ zbig := zw_of 10 (by decide +kernel) (by decide +kernel)
set_option maxRecDepth 20000 in
theorem zw_11 : Cond.selects RJx4a65c yJx4a65c_add_72be8 yJx4a65c_add_72be8 ∈ zbig := zw_of 11 (by decide +kernel) (by decide +kernel)
set_option maxRecDepth 20000 in
theorem zw_12 : Cond.selects RJx4a65c yJx4a65c_grow_d5877 yJx4a65c_grow_d5877 ∈ zbig := zw_of 12 (by decide +kernel) (by decide +kernel)
set_option maxRecDepth 20000 in
theorem zw_13 : Cond.selects RJx4a65c yJx4a65c_grow_92f84 yJx4a65c_grow_92f84 ∈ zbig := zw_of 13 (by decide +kernel) (by decide +kernel)
set_option maxRecDepth 20000 in
theorem zw_16 : Cond.selects RX4 yX4_start yX4_start ∈ zbig := zw_of 16 (by decide +kernel) (by decide +kernel)
set_option maxRecDepth 20000 in
theorem zw_17 : Cond.selects RX4 yX4_refuse yX4_refuse ∈ zbig := zw_of 17 (by decide +kernel) (by decide +kernel)
set_option maxRecDepth 20000 in
theorem zw_18 : Cond.selects RX4 yX4_isNoPlace yX4_isNoPlace ∈ zbig := zw_of 18 (by decide +kernel) (by decide +kernel)
set_option maxRecDepth 20000 in
theorem zw_19 : Cond.selects RX4 yX4_isNoRow yX4_isNoRow ∈ zbig := zw_of 19 (by decide +kernel) (by decide +kernel)
set_option maxRecDepth 20000 in
theorem zw_33 : Cond.selects RX4 yX4_houseTold yX4_houseTold ∈ zbig := zw_of 33 (by decide +kernel) (by decide +kernel)
set_option maxRecDepth 20000 in
theorem zw_34 : Cond.initialized "DeeprowsLaw" ∈ zbig := zw_of 34 (by decide +kernel) (by decide +kernel)
set_option maxRecDepth 20000 in
theorem zw_35 : Cond.initialized RX1 ∈ zbig := zw_of 35 (by decide +kernel) (by decide +kernel)
set_option maxRecDepth 20000 in
theorem zw_36 : Cond.initialized RJxa1e45 ∈ zbig := zw_of 36 (by decide +kernel) (by decide +kernel)
set_option maxRecDepth 20000 in
theorem zw_37 : Cond.initialized RJxc12de ∈ zbig := zw_of 37 (by decide +kernel) (by decide +kernel)
set_option maxRecDepth 20000 in
theorem zw_38 : Cond.initialized RJx4a65c ∈ zbig := zw_of 38 (by decide +kernel) (by decide +kernel)
set_option maxRecDepth 20000 in
theorem zw_39 : Cond.initialized RX0 ∈ zbig := zw_of 39 (by decide +kernel) (by decide +kernel)
set_option maxRecDepth 20000 in
theorem zw_40 : Cond.initialized RJ5 ∈ zbig := zw_of 40 (by decide +kernel) (by decide +kernel)
set_option maxRecDepth 20000 in
theorem zw_41 : Cond.initialized RJ4 ∈ zbig := zw_of 41 (by decide +kernel) (by decide +kernel)
set_option maxRecDepth 20000 in
theorem zw_44 : Cond.initialized RX4 ∈ zbig := zw_of 44 (by decide +kernel) (by decide +kernel)
set_option maxRecDepth 20000 in
theorem zw_45 : Cond.initialized RX2 ∈ zbig := zw_of 45 (by decide +kernel) (by decide +kernel)
set_option maxRecDepth 20000 in
theorem zw_49 : Cond.initialized "java/lang/IllegalArgumentException" ∈ zbig := zw_of 49 (by decide +kernel) (by decide +kernel)
set_option maxRecDepth 20000 in
theorem zw_50 : Cond.initialized "java/lang/IllegalStateException" ∈ zbig := zw_of 50 (by decide +kernel) (by decide +kernel)
set_option maxRecDepth 20000 in
theorem zw_52 : Cond.initialized "java/lang/Math" ∈ zbig := zw_of 52 (by decide +kernel) (by decide +kernel)
set_option maxRecDepth 20000 in
theorem zw_55 : Cond.initialized RX3 ∈ zbig := zw_of 55 (by decide +kernel) (by decide +kernel)
set_option maxRecDepth 20000 in
theorem zw_58 : Cond.initialized "java/lang/IndexOutOfBoundsException" ∈ zbig := zw_of 58 (by decide +kernel) (by decide +kernel)
set_option maxRecDepth 20000 in
theorem zw_65 : Cond.classLink RL 8 RX1 ∈ zbig := zw_of 65 (by decide +kernel) (by decide +kernel)
set_option maxRecDepth 20000 in
theorem zw_66 : Cond.instantiable RX1 8 ∈ zbig := zw_of 66 (by decide +kernel) (by decide +kernel)
set_option maxRecDepth 20000 in
theorem zw_67 : Cond.methodLink RL 117 yX1_init ∈ zbig := zw_of 67 (by decide +kernel) (by decide +kernel)
set_option maxRecDepth 20000 in
theorem zw_68 : Cond.instanceMethod yX1_init ∈ zbig := zw_of 68 (by decide +kernel) (by decide +kernel)
set_option maxRecDepth 20000 in
theorem zw_69 : Cond.code yX1_init cX1_init 1 none ∈ zbig := zw_of 69 (by decide +kernel) (by decide +kernel)
set_option maxRecDepth 20000 in
theorem zw_70 : Cond.methodLink RX1 3 objectInit ∈ zbig := zw_of 70 (by decide +kernel) (by decide +kernel)
set_option maxRecDepth 20000 in
theorem zw_71 : Cond.instanceMethod objectInit ∈ zbig := zw_of 71 (by decide +kernel) (by decide +kernel)
set_option maxRecDepth 20000 in
theorem zw_72 : Cond.code objectInit ⟨#[0xb1]⟩ 1 none ∈ zbig := zw_of 72 (by decide +kernel) (by decide +kernel)
set_option maxRecDepth 20000 in
theorem zw_73 : Cond.classLink RX1 9 RJx4a65c ∈ zbig := zw_of 73 (by decide +kernel) (by decide +kernel)
set_option maxRecDepth 20000 in
theorem zw_74 : Cond.instantiable RJx4a65c 3 ∈ zbig := zw_of 74 (by decide +kernel) (by decide +kernel)
set_option maxRecDepth 20000 in
theorem zw_75 : Cond.methodLink RX1 11 yJx4a65c_init_da8c8 ∈ zbig := zw_of 75 (by decide +kernel) (by decide +kernel)
set_option maxRecDepth 20000 in
theorem zw_76 : Cond.instanceMethod yJx4a65c_init_da8c8 ∈ zbig := zw_of 76 (by decide +kernel) (by decide +kernel)
set_option maxRecDepth 20000 in
theorem zw_77 : Cond.code yJx4a65c_init_da8c8 cJx4a65c_init_da8c8 1 none ∈ zbig := zw_of 77 (by decide +kernel) (by decide +kernel)
set_option maxRecDepth 20000 in
theorem zw_78 : Cond.methodLink RJx4a65c 1 yJxc12de_init_da8c8 ∈ zbig := zw_of 78 (by decide +kernel) (by decide +kernel)
set_option maxRecDepth 20000 in
theorem zw_79 : Cond.instanceMethod yJxc12de_init_da8c8 ∈ zbig := zw_of 79 (by decide +kernel) (by decide +kernel)
set_option maxRecDepth 20000 in
theorem zw_80 : Cond.code yJxc12de_init_da8c8 cJxc12de_init_da8c8 1 none ∈ zbig := zw_of 80 (by decide +kernel) (by decide +kernel)
set_option maxRecDepth 20000 in
theorem zw_81 : Cond.methodLink RJxc12de 1 yJxa1e45_init_da8c8 ∈ zbig := zw_of 81 (by decide +kernel) (by decide +kernel)
set_option maxRecDepth 20000 in
theorem zw_82 : Cond.instanceMethod yJxa1e45_init_da8c8 ∈ zbig := zw_of 82 (by decide +kernel) (by decide +kernel)
set_option maxRecDepth 20000 in
theorem zw_83 : Cond.code yJxa1e45_init_da8c8 cJxa1e45_init_da8c8 1 none ∈ zbig := zw_of 83 (by decide +kernel) (by decide +kernel)
set_option maxRecDepth 20000 in
theorem zw_84 : Cond.methodLink RJxa1e45 1 objectInit ∈ zbig := zw_of 84 (by decide +kernel) (by decide +kernel)
set_option maxRecDepth 20000 in
theorem zw_85 : Cond.fieldLink RJx4a65c 39 "java/util/ArrayList" "DEFAULTCAPACITY_EMPTY_ELEMENTDATA" "[Ljava/lang/Object;" ∈ zbig := zw_of 85 (by decide +kernel) (by decide +kernel)
set_option maxRecDepth 20000 in
theorem zw_87 : Cond.fieldLink RJx4a65c 9 "java/util/ArrayList" "elementData" "[Ljava/lang/Object;" ∈ zbig := zw_of 87 (by decide +kernel) (by decide +kernel)
set_option maxRecDepth 20000 in
theorem zw_88 : Cond.fieldLink RJx4a65c 48 "java/util/ArrayList" "size" "I" ∈ zbig := zw_of 88 (by decide +kernel) (by decide +kernel)
set_option maxRecDepth 20000 in
theorem zw_89 : Cond.fieldLink RJxc12de 7 "java/util/AbstractList" "modCount" "I" ∈ zbig := zw_of 89 (by decide +kernel) (by decide +kernel)
set_option maxRecDepth 20000 in
theorem zw_90 : Cond.fieldLink RJx4a65c 63 "java/util/ArrayList" "modCount" "I" ∈ zbig := zw_of 90 (by decide +kernel) (by decide +kernel)
set_option maxRecDepth 20000 in
theorem zw_91 : Cond.sameField "java/util/ArrayList" "java/util/AbstractList" "modCount" "I" ∈ zbig := zw_of 91 (by decide +kernel) (by decide +kernel)
set_option maxRecDepth 20000 in
theorem zw_99 : Cond.classLink RX1 26 "Deeprows$Row" ∈ zbig := zw_of 99 (by decide +kernel) (by decide +kernel)
set_option maxRecDepth 20000 in
theorem zw_100 : Cond.instantiable RX0 6 ∈ zbig := zw_of 100 (by decide +kernel) (by decide +kernel)
set_option maxRecDepth 20000 in
theorem zw_101 : Cond.methodLink RX1 28 yX0_init ∈ zbig := zw_of 101 (by decide +kernel) (by decide +kernel)
set_option maxRecDepth 20000 in
theorem zw_102 : Cond.instanceMethod yX0_init ∈ zbig := zw_of 102 (by decide +kernel) (by decide +kernel)
set_option maxRecDepth 20000 in
theorem zw_103 : Cond.code yX0_init cX0_init 4 none ∈ zbig := zw_of 103 (by decide +kernel) (by decide +kernel)
set_option maxRecDepth 20000 in
theorem zw_104 : Cond.methodLink RX0 3 objectInit ∈ zbig := zw_of 104 (by decide +kernel) (by decide +kernel)
set_option maxRecDepth 20000 in
theorem zw_105 : Cond.classLink RX0 10 RX0 ∈ zbig := zw_of 105 (by decide +kernel) (by decide +kernel)
set_option maxRecDepth 20000 in
theorem zw_107 : Cond.fieldLink RX0 9 "Deeprows$Row" "kind" "I" ∈ zbig := zw_of 107 (by decide +kernel) (by decide +kernel)
set_option maxRecDepth 20000 in
theorem zw_109 : Cond.fieldLink RX0 15 "Deeprows$Row" "length" "I" ∈ zbig := zw_of 109 (by decide +kernel) (by decide +kernel)
set_option maxRecDepth 20000 in
theorem zw_111 : Cond.fieldLink RX0 18 "Deeprows$Row" "whats" "[I" ∈ zbig := zw_of 111 (by decide +kernel) (by decide +kernel)
set_option maxRecDepth 20000 in
theorem zw_113 : Cond.fieldLink RX0 22 "Deeprows$Row" "values" "[I" ∈ zbig := zw_of 113 (by decide +kernel) (by decide +kernel)
set_option maxRecDepth 20000 in
theorem zw_115 : Cond.fieldLink RX0 25 "Deeprows$Row" "hung" "[LDeeprows$Row;" ∈ zbig := zw_of 115 (by decide +kernel) (by decide +kernel)
set_option maxRecDepth 20000 in
theorem zw_131 : Cond.arrayClass .int ∈ zbig := zw_of 131 (by decide +kernel) (by decide +kernel)
set_option maxRecDepth 20000 in
theorem zw_132 : Cond.classLink RX1 38 RJ4 ∈ zbig := zw_of 132 (by decide +kernel) (by decide +kernel)
set_option maxRecDepth 20000 in
theorem zw_133 : Cond.instantiable RJ4 4 ∈ zbig := zw_of 133 (by decide +kernel) (by decide +kernel)
set_option maxRecDepth 20000 in
theorem zw_134 : Cond.methodLink RX1 40 yJ4_init_da8c8 ∈ zbig := zw_of 134 (by decide +kernel) (by decide +kernel)
set_option maxRecDepth 20000 in
theorem zw_135 : Cond.instanceMethod yJ4_init_da8c8 ∈ zbig := zw_of 135 (by decide +kernel) (by decide +kernel)
set_option maxRecDepth 20000 in
theorem zw_136 : Cond.code yJ4_init_da8c8 cJ4_init_da8c8 1 none ∈ zbig := zw_of 136 (by decide +kernel) (by decide +kernel)
set_option maxRecDepth 20000 in
theorem zw_137 : Cond.methodLink RJ4 1 yJ5_init_d00df ∈ zbig := zw_of 137 (by decide +kernel) (by decide +kernel)
set_option maxRecDepth 20000 in
theorem zw_138 : Cond.instanceMethod yJ5_init_d00df ∈ zbig := zw_of 138 (by decide +kernel) (by decide +kernel)
set_option maxRecDepth 20000 in
theorem zw_139 : Cond.code yJ5_init_d00df cJ5_init_d00df 2 none ∈ zbig := zw_of 139 (by decide +kernel) (by decide +kernel)
set_option maxRecDepth 20000 in
theorem zw_140 : Cond.methodLink RJ5 3 objectInit ∈ zbig := zw_of 140 (by decide +kernel) (by decide +kernel)
set_option maxRecDepth 20000 in
theorem zw_141 : Cond.fieldLink RJ5 18 "java/lang/String" "COMPACT_STRINGS" "Z" ∈ zbig := zw_of 141 (by decide +kernel) (by decide +kernel)
set_option maxRecDepth 20000 in
theorem zw_150 : Cond.fieldLink RJ5 15 "java/lang/AbstractStringBuilder" "value" "[B" ∈ zbig := zw_of 150 (by decide +kernel) (by decide +kernel)
set_option maxRecDepth 20000 in
theorem zw_151 : Cond.fieldLink RJ5 22 "java/lang/AbstractStringBuilder" "coder" "B" ∈ zbig := zw_of 151 (by decide +kernel) (by decide +kernel)
set_option maxRecDepth 20000 in
theorem zw_164 : Cond.arrayClass .byte ∈ zbig := zw_of 164 (by decide +kernel) (by decide +kernel)
set_option maxRecDepth 20000 in
theorem zw_165 : Cond.fieldLink RX1 12 "Deeprows" "rows" "Ljava/util/ArrayList;" ∈ zbig := zw_of 165 (by decide +kernel) (by decide +kernel)
set_option maxRecDepth 20000 in
theorem zw_166 : Cond.fieldLink RX1 16 "Deeprows" "makerMade" "I" ∈ zbig := zw_of 166 (by decide +kernel) (by decide +kernel)
set_option maxRecDepth 20000 in
theorem zw_167 : Cond.fieldLink RX1 20 "Deeprows" "makerRefused" "I" ∈ zbig := zw_of 167 (by decide +kernel) (by decide +kernel)
set_option maxRecDepth 20000 in
theorem zw_168 : Cond.fieldLink RX1 23 "Deeprows" "knocks" "I" ∈ zbig := zw_of 168 (by decide +kernel) (by decide +kernel)
set_option maxRecDepth 20000 in
theorem zw_169 : Cond.fieldLink RX1 31 "Deeprows" "shell" "LDeeprows$Row;" ∈ zbig := zw_of 169 (by decide +kernel) (by decide +kernel)
set_option maxRecDepth 20000 in
theorem zw_170 : Cond.fieldLink RX1 35 "Deeprows" "otherShell" "LDeeprows$Row;" ∈ zbig := zw_of 170 (by decide +kernel) (by decide +kernel)
set_option maxRecDepth 20000 in
theorem zw_171 : Cond.fieldLink RX1 41 "Deeprows" "words" "Ljava/lang/StringBuilder;" ∈ zbig := zw_of 171 (by decide +kernel) (by decide +kernel)
set_option maxRecDepth 20000 in
theorem zw_172 : Cond.fieldLink RX1 45 "Deeprows" "otherWords" "Ljava/lang/StringBuilder;" ∈ zbig := zw_of 172 (by decide +kernel) (by decide +kernel)
set_option maxRecDepth 20000 in
theorem zw_190 : Cond.methodLink RL 135 yX1_empty ∈ zbig := zw_of 190 (by decide +kernel) (by decide +kernel)
set_option maxRecDepth 20000 in
theorem zw_191 : Cond.instanceMethod yX1_empty ∈ zbig := zw_of 191 (by decide +kernel) (by decide +kernel)
set_option maxRecDepth 20000 in
theorem zw_192 : Cond.selects RX1 yX1_empty yX1_empty ∈ zbig := zw_of 192 (by decide +kernel) (by decide +kernel)
set_option maxRecDepth 20000 in
theorem zw_193 : Cond.code yX1_empty cX1_empty 2 (some .int) ∈ zbig := zw_of 193 (by decide +kernel) (by decide +kernel)
set_option maxRecDepth 20000 in
theorem zw_194 : Cond.methodLink RX1 78 yJx4a65c_size_8abf5 ∈ zbig := zw_of 194 (by decide +kernel) (by decide +kernel)
set_option maxRecDepth 20000 in
theorem zw_195 : Cond.instanceMethod yJx4a65c_size_8abf5 ∈ zbig := zw_of 195 (by decide +kernel) (by decide +kernel)
set_option maxRecDepth 20000 in
theorem zw_196 : Cond.selects RJx4a65c yJx4a65c_size_8abf5 yJx4a65c_size_8abf5 ∈ zbig := zw_of 196 (by decide +kernel) (by decide +kernel)
set_option maxRecDepth 20000 in
theorem zw_197 : Cond.code yJx4a65c_size_8abf5 cJx4a65c_size_8abf5 1 (some .int) ∈ zbig := zw_of 197 (by decide +kernel) (by decide +kernel)
set_option maxRecDepth 20000 in
theorem zw_198 : Cond.methodLink RX1 86 yJx4a65c_clear_da8c8 ∈ zbig := zw_of 198 (by decide +kernel) (by decide +kernel)
set_option maxRecDepth 20000 in
theorem zw_199 : Cond.instanceMethod yJx4a65c_clear_da8c8 ∈ zbig := zw_of 199 (by decide +kernel) (by decide +kernel)
set_option maxRecDepth 20000 in
theorem zw_200 : Cond.selects RJx4a65c yJx4a65c_clear_da8c8 yJx4a65c_clear_da8c8 ∈ zbig := zw_of 200 (by decide +kernel) (by decide +kernel)
set_option maxRecDepth 20000 in
theorem zw_201 : Cond.code yJx4a65c_clear_da8c8 cJx4a65c_clear_da8c8 4 none ∈ zbig := zw_of 201 (by decide +kernel) (by decide +kernel)
set_option maxRecDepth 20000 in
theorem zw_202 : Cond.methodLink RL 223 yX1_knock ∈ zbig := zw_of 202 (by decide +kernel) (by decide +kernel)
set_option maxRecDepth 20000 in
theorem zw_203 : Cond.instanceMethod yX1_knock ∈ zbig := zw_of 203 (by decide +kernel) (by decide +kernel)
set_option maxRecDepth 20000 in
theorem zw_204 : Cond.selects RX1 yX1_knock yX1_knock ∈ zbig := zw_of 204 (by decide +kernel) (by decide +kernel)
set_option maxRecDepth 20000 in
theorem zw_205 : Cond.code yX1_knock cX1_knock 1 (some .int) ∈ zbig := zw_of 205 (by decide +kernel) (by decide +kernel)
set_option maxRecDepth 20000 in
theorem zw_206 : Cond.methodLink RL 230 yX1_isSound ∈ zbig := zw_of 206 (by decide +kernel) (by decide +kernel)
set_option maxRecDepth 20000 in
theorem zw_207 : Cond.instanceMethod yX1_isSound ∈ zbig := zw_of 207 (by decide +kernel) (by decide +kernel)
set_option maxRecDepth 20000 in
theorem zw_208 : Cond.selects RX1 yX1_isSound yX1_isSound ∈ zbig := zw_of 208 (by decide +kernel) (by decide +kernel)
set_option maxRecDepth 20000 in
theorem zw_209 : Cond.code yX1_isSound cX1_isSound 4 (some .boolean) ∈ zbig := zw_of 209 (by decide +kernel) (by decide +kernel)
set_option maxRecDepth 20000 in
theorem zw_265 : Cond.static Lib.Math.max.name ∈ zbig := zw_of 265 (by decide +kernel) (by decide +kernel)
set_option maxRecDepth 20000 in
theorem zw_266 : Cond.code Lib.Math.max.name Lib.Math.max.code 2 (some .int) ∈ zbig := zw_of 266 (by decide +kernel) (by decide +kernel)
set_option maxRecDepth 20000 in
theorem zw_698 : Cond.methodLink RL 235 yX1_digest ∈ zbig := zw_of 698 (by decide +kernel) (by decide +kernel)
set_option maxRecDepth 20000 in
theorem zw_699 : Cond.instanceMethod yX1_digest ∈ zbig := zw_of 699 (by decide +kernel) (by decide +kernel)
set_option maxRecDepth 20000 in
theorem zw_700 : Cond.selects RX1 yX1_digest yX1_digest ∈ zbig := zw_of 700 (by decide +kernel) (by decide +kernel)
set_option maxRecDepth 20000 in
theorem zw_701 : Cond.code yX1_digest cX1_digest 5 (some .long) ∈ zbig := zw_of 701 (by decide +kernel) (by decide +kernel)
set_option maxRecDepth 20000 in
theorem zw_702 : Cond.constantLong RX1 243 (7779) ∈ zbig := zw_of 702 (by decide +kernel) (by decide +kernel)
set_option maxRecDepth 20000 in
theorem zw_703 : Cond.constantLong RX1 245 (31) ∈ zbig := zw_of 703 (by decide +kernel) (by decide +kernel)
set_option maxRecDepth 20000 in
theorem zw_704 : Cond.methodLink RX1 247 yX1_house ∈ zbig := zw_of 704 (by decide +kernel) (by decide +kernel)
set_option maxRecDepth 20000 in
theorem zw_705 : Cond.instanceMethod yX1_house ∈ zbig := zw_of 705 (by decide +kernel) (by decide +kernel)
set_option maxRecDepth 20000 in
theorem zw_706 : Cond.selects RX1 yX1_house yX1_house ∈ zbig := zw_of 706 (by decide +kernel) (by decide +kernel)
set_option maxRecDepth 20000 in
theorem zw_707 : Cond.code yX1_house cX1_house 2 (some .int) ∈ zbig := zw_of 707 (by decide +kernel) (by decide +kernel)
set_option maxRecDepth 20000 in
theorem zw_708 : Cond.methodLink RX1 225 yX1_pairsDeep ∈ zbig := zw_of 708 (by decide +kernel) (by decide +kernel)
set_option maxRecDepth 20000 in
theorem zw_710 : Cond.instanceMethod yX1_pairsDeep ∈ zbig := zw_of 710 (by decide +kernel) (by decide +kernel)
set_option maxRecDepth 20000 in
theorem zw_711 : Cond.code yX1_pairsDeep cX1_pairsDeep 4 (some .int) ∈ zbig := zw_of 711 (by decide +kernel) (by decide +kernel)
set_option maxRecDepth 20000 in
theorem zw_712 : Cond.methodLink RX1 228 yX1_greatestDepth ∈ zbig := zw_of 712 (by decide +kernel) (by decide +kernel)
set_option maxRecDepth 20000 in
theorem zw_714 : Cond.instanceMethod yX1_greatestDepth ∈ zbig := zw_of 714 (by decide +kernel) (by decide +kernel)
set_option maxRecDepth 20000 in
theorem zw_715 : Cond.code yX1_greatestDepth cX1_greatestDepth 3 (some .int) ∈ zbig := zw_of 715 (by decide +kernel) (by decide +kernel)
set_option maxRecDepth 20000 in
theorem zw_723 : Cond.classLink RX1 48 "java/lang/IllegalArgumentException" ∈ zbig := zw_of 723 (by decide +kernel) (by decide +kernel)
set_option maxRecDepth 20000 in
theorem zw_730 : Cond.methodLink RX1 89 yX1_rowOf ∈ zbig := zw_of 730 (by decide +kernel) (by decide +kernel)
set_option maxRecDepth 20000 in
theorem zw_732 : Cond.instanceMethod yX1_rowOf ∈ zbig := zw_of 732 (by decide +kernel) (by decide +kernel)
set_option maxRecDepth 20000 in
theorem zw_733 : Cond.code yX1_rowOf cX1_rowOf 2 (some (.object "Deeprows$Row")) ∈ zbig := zw_of 733 (by decide +kernel) (by decide +kernel)
set_option maxRecDepth 20000 in
theorem zw_734 : Cond.classLink RX1 261 "java/lang/IndexOutOfBoundsException" ∈ zbig := zw_of 734 (by decide +kernel) (by decide +kernel)
set_option maxRecDepth 20000 in
theorem zw_748 : Cond.instanceMethod yX1_what ∈ zbig := zw_of 748 (by decide +kernel) (by decide +kernel)
set_option maxRecDepth 20000 in
theorem zw_749 : Cond.selects RX1 yX1_what yX1_what ∈ zbig := zw_of 749 (by decide +kernel) (by decide +kernel)
set_option maxRecDepth 20000 in
theorem zw_750 : Cond.code yX1_what cX1_what 4 (some .int) ∈ zbig := zw_of 750 (by decide +kernel) (by decide +kernel)
set_option maxRecDepth 20000 in
theorem zw_756 : Cond.instanceMethod yX1_at ∈ zbig := zw_of 756 (by decide +kernel) (by decide +kernel)
set_option maxRecDepth 20000 in
theorem zw_757 : Cond.selects RX1 yX1_at yX1_at ∈ zbig := zw_of 757 (by decide +kernel) (by decide +kernel)
set_option maxRecDepth 20000 in
theorem zw_758 : Cond.code yX1_at cX1_at 5 (some .int) ∈ zbig := zw_of 758 (by decide +kernel) (by decide +kernel)
set_option maxRecDepth 20000 in
theorem zw_760 : Cond.instanceMethod yX1_isDeep ∈ zbig := zw_of 760 (by decide +kernel) (by decide +kernel)
set_option maxRecDepth 20000 in
theorem zw_761 : Cond.selects RX1 yX1_isDeep yX1_isDeep ∈ zbig := zw_of 761 (by decide +kernel) (by decide +kernel)
set_option maxRecDepth 20000 in
theorem zw_762 : Cond.code yX1_isDeep cX1_isDeep 3 (some .boolean) ∈ zbig := zw_of 762 (by decide +kernel) (by decide +kernel)
set_option maxRecDepth 20000 in
theorem zw_763 : Cond.methodLink RX1 258 yX1_isSound ∈ zbig := zw_of 763 (by decide +kernel) (by decide +kernel)
set_option maxRecDepth 20000 in
theorem zw_764 : Cond.classLink RL 14 RX2 ∈ zbig := zw_of 764 (by decide +kernel) (by decide +kernel)
set_option maxRecDepth 20000 in
theorem zw_765 : Cond.instantiable RX2 2 ∈ zbig := zw_of 765 (by decide +kernel) (by decide +kernel)
set_option maxRecDepth 20000 in
theorem zw_767 : Cond.instanceMethod yX2_init ∈ zbig := zw_of 767 (by decide +kernel) (by decide +kernel)
set_option maxRecDepth 20000 in
theorem zw_768 : Cond.code yX2_init cX2_init 1 none ∈ zbig := zw_of 768 (by decide +kernel) (by decide +kernel)
set_option maxRecDepth 20000 in
theorem zw_769 : Cond.methodLink RX2 1 objectInit ∈ zbig := zw_of 769 (by decide +kernel) (by decide +kernel)
set_option maxRecDepth 20000 in
theorem zw_777 : Cond.methodLink RL 122 yL_make ∈ zbig := zw_of 777 (by decide +kernel) (by decide +kernel)
set_option maxRecDepth 20000 in
theorem zw_778 : Cond.static yL_make ∈ zbig := zw_of 778 (by decide +kernel) (by decide +kernel)
set_option maxRecDepth 20000 in
theorem zw_779 : Cond.codeWith yL_make cL_make 5 (some .int) [(0, 11, 14, 19), (0, 11, 18, 21)] ∈ zbig := zw_of 779 (by decide +kernel) (by decide +kernel)
set_option maxRecDepth 20000 in
theorem zw_780 : Cond.classLink RL 19 "java/lang/IllegalArgumentException" ∈ zbig := zw_of 780 (by decide +kernel) (by decide +kernel)
set_option maxRecDepth 20000 in
theorem zw_781 : Cond.classLink RL 21 "java/lang/IllegalStateException" ∈ zbig := zw_of 781 (by decide +kernel) (by decide +kernel)
set_option maxRecDepth 20000 in
theorem zw_782 : Cond.methodLink RL 7 yX1_make ∈ zbig := zw_of 782 (by decide +kernel) (by decide +kernel)
set_option maxRecDepth 20000 in
theorem zw_783 : Cond.instanceMethod yX1_make ∈ zbig := zw_of 783 (by decide +kernel) (by decide +kernel)
set_option maxRecDepth 20000 in
theorem zw_784 : Cond.selects RX1 yX1_make yX1_make ∈ zbig := zw_of 784 (by decide +kernel) (by decide +kernel)
set_option maxRecDepth 20000 in
theorem zw_785 : Cond.code yX1_make cX1_make 3 (some .int) ∈ zbig := zw_of 785 (by decide +kernel) (by decide +kernel)
set_option maxRecDepth 20000 in
theorem zw_787 : Cond.methodLink RX1 55 yX1_requireLength ∈ zbig := zw_of 787 (by decide +kernel) (by decide +kernel)
set_option maxRecDepth 20000 in
theorem zw_788 : Cond.static yX1_requireLength ∈ zbig := zw_of 788 (by decide +kernel) (by decide +kernel)
set_option maxRecDepth 20000 in
theorem zw_789 : Cond.code yX1_requireLength cX1_requireLength 1 none ∈ zbig := zw_of 789 (by decide +kernel) (by decide +kernel)
set_option maxRecDepth 20000 in
theorem zw_791 : Cond.methodLink RX1 59 yX1_requireRoom ∈ zbig := zw_of 791 (by decide +kernel) (by decide +kernel)
set_option maxRecDepth 20000 in
theorem zw_793 : Cond.instanceMethod yX1_requireRoom ∈ zbig := zw_of 793 (by decide +kernel) (by decide +kernel)
set_option maxRecDepth 20000 in
theorem zw_794 : Cond.code yX1_requireRoom cX1_requireRoom 2 none ∈ zbig := zw_of 794 (by decide +kernel) (by decide +kernel)
set_option maxRecDepth 20000 in
theorem zw_795 : Cond.classLink RX1 73 "java/lang/IllegalStateException" ∈ zbig := zw_of 795 (by decide +kernel) (by decide +kernel)
set_option maxRecDepth 20000 in
theorem zw_811 : Cond.methodLink RX1 62 yX1_addRow ∈ zbig := zw_of 811 (by decide +kernel) (by decide +kernel)
set_option maxRecDepth 20000 in
theorem zw_813 : Cond.instanceMethod yX1_addRow ∈ zbig := zw_of 813 (by decide +kernel) (by decide +kernel)
set_option maxRecDepth 20000 in
theorem zw_814 : Cond.code yX1_addRow cX1_addRow 2 (some (.object "Deeprows$Row")) ∈ zbig := zw_of 814 (by decide +kernel) (by decide +kernel)
set_option maxRecDepth 20000 in
theorem zw_815 : Cond.methodLink RX1 286 yJx4a65c_add_9ea2d ∈ zbig := zw_of 815 (by decide +kernel) (by decide +kernel)
set_option maxRecDepth 20000 in
theorem zw_816 : Cond.instanceMethod yJx4a65c_add_9ea2d ∈ zbig := zw_of 816 (by decide +kernel) (by decide +kernel)
set_option maxRecDepth 20000 in
theorem zw_817 : Cond.selects RJx4a65c yJx4a65c_add_9ea2d yJx4a65c_add_9ea2d ∈ zbig := zw_of 817 (by decide +kernel) (by decide +kernel)
set_option maxRecDepth 20000 in
theorem zw_818 : Cond.code yJx4a65c_add_9ea2d cJx4a65c_add_9ea2d 2 (some .boolean) ∈ zbig := zw_of 818 (by decide +kernel) (by decide +kernel)
set_option maxRecDepth 20000 in
theorem zw_819 : Cond.methodLink RJx4a65c 131 yJx4a65c_add_72be8 ∈ zbig := zw_of 819 (by decide +kernel) (by decide +kernel)
set_option maxRecDepth 20000 in
theorem zw_821 : Cond.instanceMethod yJx4a65c_add_72be8 ∈ zbig := zw_of 821 (by decide +kernel) (by decide +kernel)
set_option maxRecDepth 20000 in
theorem zw_822 : Cond.code yJx4a65c_add_72be8 cJx4a65c_add_72be8 4 none ∈ zbig := zw_of 822 (by decide +kernel) (by decide +kernel)
set_option maxRecDepth 20000 in
theorem zw_823 : Cond.methodLink RJx4a65c 129 yJx4a65c_grow_d5877 ∈ zbig := zw_of 823 (by decide +kernel) (by decide +kernel)
set_option maxRecDepth 20000 in
theorem zw_825 : Cond.instanceMethod yJx4a65c_grow_d5877 ∈ zbig := zw_of 825 (by decide +kernel) (by decide +kernel)
set_option maxRecDepth 20000 in
theorem zw_826 : Cond.code yJx4a65c_grow_d5877 cJx4a65c_grow_d5877 1 (some (.array (.object "java/lang/Object"))) ∈ zbig := zw_of 826 (by decide +kernel) (by decide +kernel)
set_option maxRecDepth 20000 in
theorem zw_827 : Cond.methodLink RJx4a65c 69 yJx4a65c_grow_92f84 ∈ zbig := zw_of 827 (by decide +kernel) (by decide +kernel)
set_option maxRecDepth 20000 in
theorem zw_829 : Cond.instanceMethod yJx4a65c_grow_92f84 ∈ zbig := zw_of 829 (by decide +kernel) (by decide +kernel)
set_option maxRecDepth 20000 in
theorem zw_830 : Cond.code yJx4a65c_grow_92f84 cJx4a65c_grow_92f84 4 (some (.array (.object "java/lang/Object"))) ∈ zbig := zw_of 830 (by decide +kernel) (by decide +kernel)
set_option maxRecDepth 20000 in
theorem zw_858 : Cond.methodLink RJx4a65c 79 Lib.Math.max.name ∈ zbig := zw_of 858 (by decide +kernel) (by decide +kernel)
set_option maxRecDepth 20000 in
theorem zw_859 : Cond.classLink RJx4a65c 7 "java/lang/Object" ∈ zbig := zw_of 859 (by decide +kernel) (by decide +kernel)
set_option maxRecDepth 20000 in
theorem zw_860 : Cond.methodLink RL 131 yL_drop ∈ zbig := zw_of 860 (by decide +kernel) (by decide +kernel)
set_option maxRecDepth 20000 in
theorem zw_861 : Cond.static yL_drop ∈ zbig := zw_of 861 (by decide +kernel) (by decide +kernel)
set_option maxRecDepth 20000 in
theorem zw_862 : Cond.codeWith yL_drop cL_drop 3 (some .int) [(0, 9, 12, 21)] ∈ zbig := zw_of 862 (by decide +kernel) (by decide +kernel)
set_option maxRecDepth 20000 in
theorem zw_863 : Cond.methodLink RL 23 yX1_drop ∈ zbig := zw_of 863 (by decide +kernel) (by decide +kernel)
set_option maxRecDepth 20000 in
theorem zw_864 : Cond.instanceMethod yX1_drop ∈ zbig := zw_of 864 (by decide +kernel) (by decide +kernel)
set_option maxRecDepth 20000 in
theorem zw_865 : Cond.selects RX1 yX1_drop yX1_drop ∈ zbig := zw_of 865 (by decide +kernel) (by decide +kernel)
set_option maxRecDepth 20000 in
theorem zw_866 : Cond.code yX1_drop cX1_drop 1 (some .int) ∈ zbig := zw_of 866 (by decide +kernel) (by decide +kernel)
set_option maxRecDepth 20000 in
theorem zw_867 : Cond.methodLink RX1 69 yJx4a65c_isEmpty_aae02 ∈ zbig := zw_of 867 (by decide +kernel) (by decide +kernel)
set_option maxRecDepth 20000 in
theorem zw_868 : Cond.instanceMethod yJx4a65c_isEmpty_aae02 ∈ zbig := zw_of 868 (by decide +kernel) (by decide +kernel)
set_option maxRecDepth 20000 in
theorem zw_869 : Cond.selects RJx4a65c yJx4a65c_isEmpty_aae02 yJx4a65c_isEmpty_aae02 ∈ zbig := zw_of 869 (by decide +kernel) (by decide +kernel)
set_option maxRecDepth 20000 in
theorem zw_870 : Cond.code yJx4a65c_isEmpty_aae02 cJx4a65c_isEmpty_aae02 1 (some .boolean) ∈ zbig := zw_of 870 (by decide +kernel) (by decide +kernel)
set_option maxRecDepth 20000 in
theorem zw_881 : Cond.methodLink RL 139 yL_put ∈ zbig := zw_of 881 (by decide +kernel) (by decide +kernel)
set_option maxRecDepth 20000 in
theorem zw_882 : Cond.static yL_put ∈ zbig := zw_of 882 (by decide +kernel) (by decide +kernel)
set_option maxRecDepth 20000 in
theorem zw_883 : Cond.codeWith yL_put cL_put 6 (some .int) [(0, 13, 16, 31), (0, 13, 20, 19)] ∈ zbig := zw_of 883 (by decide +kernel) (by decide +kernel)
set_option maxRecDepth 20000 in
theorem zw_884 : Cond.classLink RL 31 "java/lang/IndexOutOfBoundsException" ∈ zbig := zw_of 884 (by decide +kernel) (by decide +kernel)
set_option maxRecDepth 20000 in
theorem zw_885 : Cond.methodLink RL 27 yX1_put ∈ zbig := zw_of 885 (by decide +kernel) (by decide +kernel)
set_option maxRecDepth 20000 in
theorem zw_886 : Cond.instanceMethod yX1_put ∈ zbig := zw_of 886 (by decide +kernel) (by decide +kernel)
set_option maxRecDepth 20000 in
theorem zw_887 : Cond.selects RX1 yX1_put yX1_put ∈ zbig := zw_of 887 (by decide +kernel) (by decide +kernel)
set_option maxRecDepth 20000 in
theorem zw_888 : Cond.code yX1_put cX1_put 5 (some .int) ∈ zbig := zw_of 888 (by decide +kernel) (by decide +kernel)
set_option maxRecDepth 20000 in
theorem zw_903 : Cond.methodLink RL 143 yL_say ∈ zbig := zw_of 903 (by decide +kernel) (by decide +kernel)
set_option maxRecDepth 20000 in
theorem zw_904 : Cond.static yL_say ∈ zbig := zw_of 904 (by decide +kernel) (by decide +kernel)
set_option maxRecDepth 20000 in
theorem zw_905 : Cond.codeWith yL_say cL_say 6 (some .int) [(0, 13, 16, 31), (0, 13, 20, 19)] ∈ zbig := zw_of 905 (by decide +kernel) (by decide +kernel)
set_option maxRecDepth 20000 in
theorem zw_906 : Cond.methodLink RL 33 yX1_say ∈ zbig := zw_of 906 (by decide +kernel) (by decide +kernel)
set_option maxRecDepth 20000 in
theorem zw_907 : Cond.instanceMethod yX1_say ∈ zbig := zw_of 907 (by decide +kernel) (by decide +kernel)
set_option maxRecDepth 20000 in
theorem zw_908 : Cond.selects RX1 yX1_say yX1_say ∈ zbig := zw_of 908 (by decide +kernel) (by decide +kernel)
set_option maxRecDepth 20000 in
theorem zw_909 : Cond.code yX1_say cX1_say 5 (some .int) ∈ zbig := zw_of 909 (by decide +kernel) (by decide +kernel)
set_option maxRecDepth 20000 in
theorem zw_919 : Cond.methodLink RL 146 yL_none ∈ zbig := zw_of 919 (by decide +kernel) (by decide +kernel)
set_option maxRecDepth 20000 in
theorem zw_920 : Cond.static yL_none ∈ zbig := zw_of 920 (by decide +kernel) (by decide +kernel)
set_option maxRecDepth 20000 in
theorem zw_921 : Cond.codeWith yL_none cL_none 5 (some .int) [(0, 11, 14, 31), (0, 11, 18, 19)] ∈ zbig := zw_of 921 (by decide +kernel) (by decide +kernel)
set_option maxRecDepth 20000 in
theorem zw_922 : Cond.methodLink RL 36 yX1_none ∈ zbig := zw_of 922 (by decide +kernel) (by decide +kernel)
set_option maxRecDepth 20000 in
theorem zw_923 : Cond.instanceMethod yX1_none ∈ zbig := zw_of 923 (by decide +kernel) (by decide +kernel)
set_option maxRecDepth 20000 in
theorem zw_924 : Cond.selects RX1 yX1_none yX1_none ∈ zbig := zw_of 924 (by decide +kernel) (by decide +kernel)
set_option maxRecDepth 20000 in
theorem zw_925 : Cond.code yX1_none cX1_none 4 (some .int) ∈ zbig := zw_of 925 (by decide +kernel) (by decide +kernel)
set_option maxRecDepth 20000 in
theorem zw_930 : Cond.methodLink RL 149 yL_hang ∈ zbig := zw_of 930 (by decide +kernel) (by decide +kernel)
set_option maxRecDepth 20000 in
theorem zw_931 : Cond.static yL_hang ∈ zbig := zw_of 931 (by decide +kernel) (by decide +kernel)
set_option maxRecDepth 20000 in
theorem zw_932 : Cond.codeWith yL_hang cL_hang 6 (some .int) [(0, 13, 16, 31), (0, 13, 20, 19), (0, 13, 24, 21)] ∈ zbig := zw_of 932 (by decide +kernel) (by decide +kernel)
set_option maxRecDepth 20000 in
theorem zw_933 : Cond.methodLink RL 39 yX1_hang ∈ zbig := zw_of 933 (by decide +kernel) (by decide +kernel)
set_option maxRecDepth 20000 in
theorem zw_934 : Cond.instanceMethod yX1_hang ∈ zbig := zw_of 934 (by decide +kernel) (by decide +kernel)
set_option maxRecDepth 20000 in
theorem zw_935 : Cond.selects RX1 yX1_hang yX1_hang ∈ zbig := zw_of 935 (by decide +kernel) (by decide +kernel)
set_option maxRecDepth 20000 in
theorem zw_936 : Cond.code yX1_hang cX1_hang 7 (some .int) ∈ zbig := zw_of 936 (by decide +kernel) (by decide +kernel)
set_option maxRecDepth 20000 in
theorem zw_949 : Cond.methodLink RL 152 yL_swap ∈ zbig := zw_of 949 (by decide +kernel) (by decide +kernel)
set_option maxRecDepth 20000 in
theorem zw_950 : Cond.static yL_swap ∈ zbig := zw_of 950 (by decide +kernel) (by decide +kernel)
set_option maxRecDepth 20000 in
theorem zw_951 : Cond.codeWith yL_swap cL_swap 6 (some .int) [(0, 13, 16, 31)] ∈ zbig := zw_of 951 (by decide +kernel) (by decide +kernel)
set_option maxRecDepth 20000 in
theorem zw_952 : Cond.methodLink RL 42 yX1_swap ∈ zbig := zw_of 952 (by decide +kernel) (by decide +kernel)
set_option maxRecDepth 20000 in
theorem zw_953 : Cond.instanceMethod yX1_swap ∈ zbig := zw_of 953 (by decide +kernel) (by decide +kernel)
set_option maxRecDepth 20000 in
theorem zw_954 : Cond.selects RX1 yX1_swap yX1_swap ∈ zbig := zw_of 954 (by decide +kernel) (by decide +kernel)
set_option maxRecDepth 20000 in
theorem zw_955 : Cond.code yX1_swap cX1_swap 8 (some .int) ∈ zbig := zw_of 955 (by decide +kernel) (by decide +kernel)
set_option maxRecDepth 20000 in
theorem zw_961 : Cond.methodLink RL 155 yL_fill ∈ zbig := zw_of 961 (by decide +kernel) (by decide +kernel)
set_option maxRecDepth 20000 in
theorem zw_962 : Cond.static yL_fill ∈ zbig := zw_of 962 (by decide +kernel) (by decide +kernel)
set_option maxRecDepth 20000 in
theorem zw_963 : Cond.codeWith yL_fill cL_fill 5 (some .int) [(0, 11, 14, 31), (0, 11, 18, 19)] ∈ zbig := zw_of 963 (by decide +kernel) (by decide +kernel)
set_option maxRecDepth 20000 in
theorem zw_964 : Cond.methodLink RL 45 yX1_fill ∈ zbig := zw_of 964 (by decide +kernel) (by decide +kernel)
set_option maxRecDepth 20000 in
theorem zw_965 : Cond.instanceMethod yX1_fill ∈ zbig := zw_of 965 (by decide +kernel) (by decide +kernel)
set_option maxRecDepth 20000 in
theorem zw_966 : Cond.selects RX1 yX1_fill yX1_fill ∈ zbig := zw_of 966 (by decide +kernel) (by decide +kernel)
set_option maxRecDepth 20000 in
theorem zw_967 : Cond.code yX1_fill cX1_fill 5 (some .int) ∈ zbig := zw_of 967 (by decide +kernel) (by decide +kernel)
set_option maxRecDepth 20000 in
theorem zw_968 : Cond.methodLink RL 158 yL_fillRow ∈ zbig := zw_of 968 (by decide +kernel) (by decide +kernel)
set_option maxRecDepth 20000 in
theorem zw_969 : Cond.static yL_fillRow ∈ zbig := zw_of 969 (by decide +kernel) (by decide +kernel)
set_option maxRecDepth 20000 in
theorem zw_970 : Cond.codeWith yL_fillRow cL_fillRow 5 (some .int) [(0, 11, 14, 31), (0, 11, 18, 19), (0, 11, 22, 21)] ∈ zbig := zw_of 970 (by decide +kernel) (by decide +kernel)
set_option maxRecDepth 20000 in
theorem zw_971 : Cond.methodLink RL 48 yX1_fillRow ∈ zbig := zw_of 971 (by decide +kernel) (by decide +kernel)
set_option maxRecDepth 20000 in
theorem zw_972 : Cond.instanceMethod yX1_fillRow ∈ zbig := zw_of 972 (by decide +kernel) (by decide +kernel)
set_option maxRecDepth 20000 in
theorem zw_973 : Cond.selects RX1 yX1_fillRow yX1_fillRow ∈ zbig := zw_of 973 (by decide +kernel) (by decide +kernel)
set_option maxRecDepth 20000 in
theorem zw_974 : Cond.code yX1_fillRow cX1_fillRow 7 (some .int) ∈ zbig := zw_of 974 (by decide +kernel) (by decide +kernel)
set_option maxRecDepth 20000 in
theorem zw_975 : Cond.methodLink RL 161 yL_setAll ∈ zbig := zw_of 975 (by decide +kernel) (by decide +kernel)
set_option maxRecDepth 20000 in
theorem zw_976 : Cond.static yL_setAll ∈ zbig := zw_of 976 (by decide +kernel) (by decide +kernel)
set_option maxRecDepth 20000 in
theorem zw_977 : Cond.codeWith yL_setAll cL_setAll 7 (some .int) [(0, 15, 18, 31), (0, 15, 22, 19)] ∈ zbig := zw_of 977 (by decide +kernel) (by decide +kernel)
set_option maxRecDepth 20000 in
theorem zw_978 : Cond.methodLink RL 51 yX1_setAll ∈ zbig := zw_of 978 (by decide +kernel) (by decide +kernel)
set_option maxRecDepth 20000 in
theorem zw_979 : Cond.instanceMethod yX1_setAll ∈ zbig := zw_of 979 (by decide +kernel) (by decide +kernel)
set_option maxRecDepth 20000 in
theorem zw_980 : Cond.selects RX1 yX1_setAll yX1_setAll ∈ zbig := zw_of 980 (by decide +kernel) (by decide +kernel)
set_option maxRecDepth 20000 in
theorem zw_981 : Cond.code yX1_setAll cX1_setAll 7 (some .int) ∈ zbig := zw_of 981 (by decide +kernel) (by decide +kernel)
set_option maxRecDepth 20000 in
theorem zw_987 : Cond.methodLink RL 165 yL_setRows ∈ zbig := zw_of 987 (by decide +kernel) (by decide +kernel)
set_option maxRecDepth 20000 in
theorem zw_988 : Cond.static yL_setRows ∈ zbig := zw_of 988 (by decide +kernel) (by decide +kernel)
set_option maxRecDepth 20000 in
theorem zw_989 : Cond.codeWith yL_setRows cL_setRows 5 (some .int) [(0, 11, 14, 31), (0, 11, 18, 19), (0, 11, 22, 21)] ∈ zbig := zw_of 989 (by decide +kernel) (by decide +kernel)
set_option maxRecDepth 20000 in
theorem zw_990 : Cond.methodLink RL 55 yX1_setRows ∈ zbig := zw_of 990 (by decide +kernel) (by decide +kernel)
set_option maxRecDepth 20000 in
theorem zw_991 : Cond.instanceMethod yX1_setRows ∈ zbig := zw_of 991 (by decide +kernel) (by decide +kernel)
set_option maxRecDepth 20000 in
theorem zw_992 : Cond.selects RX1 yX1_setRows yX1_setRows ∈ zbig := zw_of 992 (by decide +kernel) (by decide +kernel)
set_option maxRecDepth 20000 in
theorem zw_993 : Cond.code yX1_setRows cX1_setRows 6 (some .int) ∈ zbig := zw_of 993 (by decide +kernel) (by decide +kernel)
set_option maxRecDepth 20000 in
theorem zw_995 : Cond.methodLink RL 168 yL_twin ∈ zbig := zw_of 995 (by decide +kernel) (by decide +kernel)
set_option maxRecDepth 20000 in
theorem zw_996 : Cond.static yL_twin ∈ zbig := zw_of 996 (by decide +kernel) (by decide +kernel)
set_option maxRecDepth 20000 in
theorem zw_997 : Cond.codeWith yL_twin cL_twin 4 (some .int) [(0, 10, 13, 31), (0, 10, 16, 21)] ∈ zbig := zw_of 997 (by decide +kernel) (by decide +kernel)
set_option maxRecDepth 20000 in
theorem zw_998 : Cond.methodLink RL 58 yX1_twin ∈ zbig := zw_of 998 (by decide +kernel) (by decide +kernel)
set_option maxRecDepth 20000 in
theorem zw_999 : Cond.instanceMethod yX1_twin ∈ zbig := zw_of 999 (by decide +kernel) (by decide +kernel)
set_option maxRecDepth 20000 in
theorem zw_1000 : Cond.selects RX1 yX1_twin yX1_twin ∈ zbig := zw_of 1000 (by decide +kernel) (by decide +kernel)
set_option maxRecDepth 20000 in
theorem zw_1001 : Cond.code yX1_twin cX1_twin 3 (some .int) ∈ zbig := zw_of 1001 (by decide +kernel) (by decide +kernel)
set_option maxRecDepth 20000 in
theorem zw_1005 : Cond.methodLink RL 172 yL_deepTwin ∈ zbig := zw_of 1005 (by decide +kernel) (by decide +kernel)
set_option maxRecDepth 20000 in
theorem zw_1006 : Cond.static yL_deepTwin ∈ zbig := zw_of 1006 (by decide +kernel) (by decide +kernel)
set_option maxRecDepth 20000 in
theorem zw_1007 : Cond.codeWith yL_deepTwin cL_deepTwin 4 (some .int) [(0, 10, 13, 31), (0, 10, 16, 21)] ∈ zbig := zw_of 1007 (by decide +kernel) (by decide +kernel)
set_option maxRecDepth 20000 in
theorem zw_1008 : Cond.methodLink RL 62 yX1_deepTwin ∈ zbig := zw_of 1008 (by decide +kernel) (by decide +kernel)
set_option maxRecDepth 20000 in
theorem zw_1009 : Cond.instanceMethod yX1_deepTwin ∈ zbig := zw_of 1009 (by decide +kernel) (by decide +kernel)
set_option maxRecDepth 20000 in
theorem zw_1010 : Cond.selects RX1 yX1_deepTwin yX1_deepTwin ∈ zbig := zw_of 1010 (by decide +kernel) (by decide +kernel)
set_option maxRecDepth 20000 in
theorem zw_1011 : Cond.code yX1_deepTwin cX1_deepTwin 3 (some .int) ∈ zbig := zw_of 1011 (by decide +kernel) (by decide +kernel)
set_option maxRecDepth 20000 in
theorem zw_1018 : Cond.methodLink RL 175 yL_copy ∈ zbig := zw_of 1018 (by decide +kernel) (by decide +kernel)
set_option maxRecDepth 20000 in
theorem zw_1019 : Cond.static yL_copy ∈ zbig := zw_of 1019 (by decide +kernel) (by decide +kernel)
set_option maxRecDepth 20000 in
theorem zw_1020 : Cond.codeWith yL_copy cL_copy 5 (some .int) [(0, 11, 14, 31), (0, 11, 18, 19), (0, 11, 22, 21)] ∈ zbig := zw_of 1020 (by decide +kernel) (by decide +kernel)
set_option maxRecDepth 20000 in
theorem zw_1021 : Cond.methodLink RL 65 yX1_copy ∈ zbig := zw_of 1021 (by decide +kernel) (by decide +kernel)
set_option maxRecDepth 20000 in
theorem zw_1022 : Cond.instanceMethod yX1_copy ∈ zbig := zw_of 1022 (by decide +kernel) (by decide +kernel)
