set_option maxRecDepth 20000 in
theorem zw_5 : Cond.selects RX1 yX1_pairsDeep yX1_pairsDeep ∈ zbig := zw_of 5 (by decide +kernel) (by decide +kernel)
set_option maxRecDepth 20000 in
theorem zw_6 : Cond.selects RX1 yX1_greatestDepth yX1_greatestDepth ∈ zbig := zw_of 6 (by decide +kernel) (by decide +kernel)
set_option maxRecDepth 20000 in
theorem zw_8 : Cond.selects RX1 yX1_rowOf yX1_rowOf ∈ zbig := zw_of 8 (by decide +kernel) (by decide +kernel)
set_option maxRecDepth 20000 in
theorem zw_9 : Cond.selects RX1 yX1_requireRoom yX1_requireRoom ∈ zbig := zw_of 9 (by decide +kernel) (by decide +kernel)
set_option maxRecDepth 20000 in
theorem zw_10 : Cond.selects RX1 yX1_addRow yX1_addRow ∈ zbig := zw_of 10 (by decide +kernel) (by decide +kernel)
set_option maxRecDepth 20000 in
theorem zw_11 : Cond.selects RJx4a65c yJx4a65c_add_72be8 yJx4a65c_add_72be8 ∈ zbig := zw_of 11 (by decide +kernel) (by decide +kernel)
set_option maxRecDepth 20000 in
theorem zw_12 : Cond.selects RJx4a65c yJx4a65c_grow_d5877 yJx4a65c_grow_d5877 ∈ zbig := zw_of 12 (by decide +kernel) (by decide +kernel)
set_option maxRecDepth 20000 in
theorem zw_13 : Cond.selects RJx4a65c yJx4a65c_grow_92f84 yJx4a65c_grow_92f84 ∈ zbig := zw_of 13 (by decide +kernel) (by decide +kernel)
set_option maxRecDepth 20000 in
theorem zw_16 : Cond.selects RX4 yX4_start yX4_start ∈ zbig := zw_of 16 (by decide +kernel) (by decide +kernel)
set_option maxRecDepth 20000 in
theorem zw_17 : Cond.selects RX4 yX4_refuse yX4_refuse ∈ zbig := zw_of 17 (by decide +kernel) (by decide +kernel)
set_option maxRecDepth 20000 in
theorem zw_18 : Cond.selects RX4 yX4_isNoPlace yX4_isNoPlace ∈ zbig := zw_of 18 (by decide +kernel) (by decide +kernel)
set_option maxRecDepth 20000 in
theorem zw_19 : Cond.selects RX4 yX4_isNoRow yX4_isNoRow ∈ zbig := zw_of 19 (by decide +kernel) (by decide +kernel)
set_option maxRecDepth 20000 in
theorem zw_33 : Cond.selects RX4 yX4_houseTold yX4_houseTold ∈ zbig := zw_of 33 (by decide +kernel) (by decide +kernel)
set_option maxRecDepth 20000 in
theorem zw_35 : Cond.initialized "Deeprows" ∈ zbig := zw_of 35 (by decide +kernel) (by decide +kernel)
set_option maxRecDepth 20000 in
theorem zw_36 : Cond.initialized RJxa1e45 ∈ zbig := zw_of 36 (by decide +kernel) (by decide +kernel)
set_option maxRecDepth 20000 in
theorem zw_37 : Cond.initialized RJxc12de ∈ zbig := zw_of 37 (by decide +kernel) (by decide +kernel)
set_option maxRecDepth 20000 in
theorem zw_38 : Cond.initialized RJx4a65c ∈ zbig := zw_of 38 (by decide +kernel) (by decide +kernel)
set_option maxRecDepth 20000 in
theorem zw_39 : Cond.initialized RX0 ∈ zbig := zw_of 39 (by decide +kernel) (by decide +kernel)
set_option maxRecDepth 20000 in
theorem zw_40 : Cond.initialized RJ5 ∈ zbig := zw_of 40 (by decide +kernel) (by decide +kernel)
set_option maxRecDepth 20000 in
theorem zw_41 : Cond.initialized RJ4 ∈ zbig := zw_of 41 (by decide +kernel) (by decide +kernel)
set_option maxRecDepth 20000 in
theorem zw_44 : Cond.initialized RX4 ∈ zbig := zw_of 44 (by decide +kernel) (by decide +kernel)
set_option maxRecDepth 20000 in
theorem zw_49 : Cond.initialized "java/lang/IllegalArgumentException" ∈ zbig := zw_of 49 (by decide +kernel) (by decide +kernel)
set_option maxRecDepth 20000 in
theorem zw_50 : Cond.initialized "java/lang/IllegalStateException" ∈ zbig := zw_of 50 (by decide +kernel) (by decide +kernel)
set_option maxRecDepth 20000 in
theorem zw_52 : Cond.initialized "java/lang/Math" ∈ zbig := zw_of 52 (by decide +kernel) (by decide +kernel)
set_option maxRecDepth 20000 in
theorem zw_55 : Cond.initialized RX3 ∈ zbig := zw_of 55 (by decide +kernel) (by decide +kernel)
set_option maxRecDepth 20000 in
theorem zw_58 : Cond.initialized "java/lang/IndexOutOfBoundsException" ∈ zbig := zw_of 58 (by decide +kernel) (by decide +kernel)
set_option maxRecDepth 20000 in
theorem zw_70 : Cond.methodLink RX1 3 objectInit ∈ zbig := zw_of 70 (by decide +kernel) (by decide +kernel)
set_option maxRecDepth 20000 in
theorem zw_71 : Cond.instanceMethod objectInit ∈ zbig := zw_of 71 (by decide +kernel) (by decide +kernel)
set_option maxRecDepth 20000 in
theorem zw_72 : Cond.code objectInit ⟨#[0xb1]⟩ 1 none ∈ zbig := zw_of 72 (by decide +kernel) (by decide +kernel)
set_option maxRecDepth 20000 in
theorem zw_73 : Cond.classLink RX1 9 RJx4a65c ∈ zbig := zw_of 73 (by decide +kernel) (by decide +kernel)
set_option maxRecDepth 20000 in
theorem zw_74 : Cond.instantiable RJx4a65c 3 ∈ zbig := zw_of 74 (by decide +kernel) (by decide +kernel)
set_option maxRecDepth 20000 in
theorem zw_75 : Cond.methodLink RX1 11 yJx4a65c_init_da8c8 ∈ zbig := zw_of 75 (by decide +kernel) (by decide +kernel)
set_option maxRecDepth 20000 in
theorem zw_76 : Cond.instanceMethod yJx4a65c_init_da8c8 ∈ zbig := zw_of 76 (by decide +kernel) (by decide +kernel)
set_option maxRecDepth 20000 in
theorem zw_77 : Cond.code yJx4a65c_init_da8c8 cJx4a65c_init_da8c8 1 none ∈ zbig := zw_of 77 (by decide +kernel) (by decide +kernel)
set_option maxRecDepth 20000 in
theorem zw_78 : Cond.methodLink RJx4a65c 1 yJxc12de_init_da8c8 ∈ zbig := zw_of 78 (by decide +kernel) (by decide +kernel)
set_option maxRecDepth 20000 in
theorem zw_79 : Cond.instanceMethod yJxc12de_init_da8c8 ∈ zbig := zw_of 79 (by decide +kernel) (by decide +kernel)
set_option maxRecDepth 20000 in
theorem zw_80 : Cond.code yJxc12de_init_da8c8 cJxc12de_init_da8c8 1 none ∈ zbig := zw_of 80 (by decide +kernel) (by decide +kernel)
set_option maxRecDepth 20000 in
theorem zw_81 : Cond.methodLink RJxc12de 1 yJxa1e45_init_da8c8 ∈ zbig := zw_of 81 (by decide +kernel) (by decide +kernel)
set_option maxRecDepth 20000 in
theorem zw_82 : Cond.instanceMethod yJxa1e45_init_da8c8 ∈ zbig := zw_of 82 (by decide +kernel) (by decide +kernel)
set_option maxRecDepth 20000 in
theorem zw_83 : Cond.code yJxa1e45_init_da8c8 cJxa1e45_init_da8c8 1 none ∈ zbig := zw_of 83 (by decide +kernel) (by decide +kernel)
set_option maxRecDepth 20000 in
theorem zw_84 : Cond.methodLink RJxa1e45 1 objectInit ∈ zbig := zw_of 84 (by decide +kernel) (by decide +kernel)
set_option maxRecDepth 20000 in
theorem zw_85 : Cond.fieldLink RJx4a65c 39 "java/util/ArrayList" "DEFAULTCAPACITY_EMPTY_ELEMENTDATA" "[Ljava/lang/Object;" ∈ zbig := zw_of 85 (by decide +kernel) (by decide +kernel)
set_option maxRecDepth 20000 in
theorem zw_87 : Cond.fieldLink RJx4a65c 9 "java/util/ArrayList" "elementData" "[Ljava/lang/Object;" ∈ zbig := zw_of 87 (by decide +kernel) (by decide +kernel)
set_option maxRecDepth 20000 in
theorem zw_88 : Cond.fieldLink RJx4a65c 48 "java/util/ArrayList" "size" "I" ∈ zbig := zw_of 88 (by decide +kernel) (by decide +kernel)
set_option maxRecDepth 20000 in
theorem zw_89 : Cond.fieldLink RJxc12de 7 "java/util/AbstractList" "modCount" "I" ∈ zbig := zw_of 89 (by decide +kernel) (by decide +kernel)
set_option maxRecDepth 20000 in
theorem zw_90 : Cond.fieldLink RJx4a65c 63 "java/util/ArrayList" "modCount" "I" ∈ zbig := zw_of 90 (by decide +kernel) (by decide +kernel)
set_option maxRecDepth 20000 in
theorem zw_91 : Cond.sameField "java/util/ArrayList" "java/util/AbstractList" "modCount" "I" ∈ zbig := zw_of 91 (by decide +kernel) (by decide +kernel)
set_option maxRecDepth 20000 in
theorem zw_99 : Cond.classLink RX1 26 "Deeprows$Row" ∈ zbig := zw_of 99 (by decide +kernel) (by decide +kernel)
set_option maxRecDepth 20000 in
theorem zw_100 : Cond.instantiable RX0 6 ∈ zbig := zw_of 100 (by decide +kernel) (by decide +kernel)
set_option maxRecDepth 20000 in
theorem zw_101 : Cond.methodLink RX1 28 yX0_init ∈ zbig := zw_of 101 (by decide +kernel) (by decide +kernel)
set_option maxRecDepth 20000 in
theorem zw_102 : Cond.instanceMethod yX0_init ∈ zbig := zw_of 102 (by decide +kernel) (by decide +kernel)
set_option maxRecDepth 20000 in
theorem zw_103 : Cond.code yX0_init cX0_init 4 none ∈ zbig := zw_of 103 (by decide +kernel) (by decide +kernel)
set_option maxRecDepth 20000 in
theorem zw_104 : Cond.methodLink RX0 3 objectInit ∈ zbig := zw_of 104 (by decide +kernel) (by decide +kernel)
set_option maxRecDepth 20000 in
theorem zw_105 : Cond.classLink RX0 10 RX0 ∈ zbig := zw_of 105 (by decide +kernel) (by decide +kernel)
set_option maxRecDepth 20000 in
theorem zw_107 : Cond.fieldLink RX0 9 "Deeprows$Row" "kind" "I" ∈ zbig := zw_of 107 (by decide +kernel) (by decide +kernel)
set_option maxRecDepth 20000 in
theorem zw_109 : Cond.fieldLink RX0 15 "Deeprows$Row" "length" "I" ∈ zbig := zw_of 109 (by decide +kernel) (by decide +kernel)
set_option maxRecDepth 20000 in
theorem zw_111 : Cond.fieldLink RX0 18 "Deeprows$Row" "whats" "[I" ∈ zbig := zw_of 111 (by decide +kernel) (by decide +kernel)
set_option maxRecDepth 20000 in
theorem zw_113 : Cond.fieldLink RX0 22 "Deeprows$Row" "values" "[I" ∈ zbig := zw_of 113 (by decide +kernel) (by decide +kernel)
set_option maxRecDepth 20000 in
theorem zw_115 : Cond.fieldLink RX0 25 "Deeprows$Row" "hung" "[LDeeprows$Row;" ∈ zbig := zw_of 115 (by decide +kernel) (by decide +kernel)
set_option maxRecDepth 20000 in
theorem zw_131 : Cond.arrayClass .int ∈ zbig := zw_of 131 (by decide +kernel) (by decide +kernel)
set_option maxRecDepth 20000 in
theorem zw_132 : Cond.classLink RX1 38 RJ4 ∈ zbig := zw_of 132 (by decide +kernel) (by decide +kernel)
set_option maxRecDepth 20000 in
theorem zw_133 : Cond.instantiable RJ4 4 ∈ zbig := zw_of 133 (by decide +kernel) (by decide +kernel)
set_option maxRecDepth 20000 in
theorem zw_134 : Cond.methodLink RX1 40 yJ4_init_da8c8 ∈ zbig := zw_of 134 (by decide +kernel) (by decide +kernel)
set_option maxRecDepth 20000 in
theorem zw_135 : Cond.instanceMethod yJ4_init_da8c8 ∈ zbig := zw_of 135 (by decide +kernel) (by decide +kernel)
set_option maxRecDepth 20000 in
theorem zw_136 : Cond.code yJ4_init_da8c8 cJ4_init_da8c8 1 none ∈ zbig := zw_of 136 (by decide +kernel) (by decide +kernel)
set_option maxRecDepth 20000 in
theorem zw_137 : Cond.methodLink RJ4 1 yJ5_init_d00df ∈ zbig := zw_of 137 (by decide +kernel) (by decide +kernel)
set_option maxRecDepth 20000 in
theorem zw_138 : Cond.instanceMethod yJ5_init_d00df ∈ zbig := zw_of 138 (by decide +kernel) (by decide +kernel)
set_option maxRecDepth 20000 in
theorem zw_139 : Cond.code yJ5_init_d00df cJ5_init_d00df 2 none ∈ zbig := zw_of 139 (by decide +kernel) (by decide +kernel)
set_option maxRecDepth 20000 in
theorem zw_140 : Cond.methodLink RJ5 3 objectInit ∈ zbig := zw_of 140 (by decide +kernel) (by decide +kernel)
set_option maxRecDepth 20000 in
theorem zw_141 : Cond.fieldLink RJ5 18 "java/lang/String" "COMPACT_STRINGS" "Z" ∈ zbig := zw_of 141 (by decide +kernel) (by decide +kernel)
set_option maxRecDepth 20000 in
theorem zw_150 : Cond.fieldLink RJ5 15 "java/lang/AbstractStringBuilder" "value" "[B" ∈ zbig := zw_of 150 (by decide +kernel) (by decide +kernel)
set_option maxRecDepth 20000 in
theorem zw_151 : Cond.fieldLink RJ5 22 "java/lang/AbstractStringBuilder" "coder" "B" ∈ zbig := zw_of 151 (by decide +kernel) (by decide +kernel)
set_option maxRecDepth 20000 in
theorem zw_164 : Cond.arrayClass .byte ∈ zbig := zw_of 164 (by decide +kernel) (by decide +kernel)
set_option maxRecDepth 20000 in
theorem zw_165 : Cond.fieldLink RX1 12 "Deeprows" "rows" "Ljava/util/ArrayList;" ∈ zbig := zw_of 165 (by decide +kernel) (by decide +kernel)
set_option maxRecDepth 20000 in
theorem zw_166 : Cond.fieldLink RX1 16 "Deeprows" "makerMade" "I" ∈ zbig := zw_of 166 (by decide +kernel) (by decide +kernel)
set_option maxRecDepth 20000 in
theorem zw_167 : Cond.fieldLink RX1 20 "Deeprows" "makerRefused" "I" ∈ zbig := zw_of 167 (by decide +kernel) (by decide +kernel)
set_option maxRecDepth 20000 in
theorem zw_168 : Cond.fieldLink RX1 23 "Deeprows" "knocks" "I" ∈ zbig := zw_of 168 (by decide +kernel) (by decide +kernel)
set_option maxRecDepth 20000 in
theorem zw_169 : Cond.fieldLink RX1 31 "Deeprows" "shell" "LDeeprows$Row;" ∈ zbig := zw_of 169 (by decide +kernel) (by decide +kernel)
set_option maxRecDepth 20000 in
theorem zw_170 : Cond.fieldLink RX1 35 "Deeprows" "otherShell" "LDeeprows$Row;" ∈ zbig := zw_of 170 (by decide +kernel) (by decide +kernel)
set_option maxRecDepth 20000 in
theorem zw_171 : Cond.fieldLink RX1 41 "Deeprows" "words" "Ljava/lang/StringBuilder;" ∈ zbig := zw_of 171 (by decide +kernel) (by decide +kernel)
set_option maxRecDepth 20000 in
theorem zw_172 : Cond.fieldLink RX1 45 "Deeprows" "otherWords" "Ljava/lang/StringBuilder;" ∈ zbig := zw_of 172 (by decide +kernel) (by decide +kernel)
set_option maxRecDepth 20000 in
theorem zw_194 : Cond.methodLink RX1 78 yJx4a65c_size_8abf5 ∈ zbig := zw_of 194 (by decide +kernel) (by decide +kernel)
set_option maxRecDepth 20000 in
theorem zw_195 : Cond.instanceMethod yJx4a65c_size_8abf5 ∈ zbig := zw_of 195 (by decide +kernel) (by decide +kernel)
set_option maxRecDepth 20000 in
theorem zw_196 : Cond.selects RJx4a65c yJx4a65c_size_8abf5 yJx4a65c_size_8abf5 ∈ zbig := zw_of 196 (by decide +kernel) (by decide +kernel)
set_option maxRecDepth 20000 in
theorem zw_197 : Cond.code yJx4a65c_size_8abf5 cJx4a65c_size_8abf5 1 (some .int) ∈ zbig := zw_of 197 (by decide +kernel) (by decide +kernel)
set_option maxRecDepth 20000 in
theorem zw_198 : Cond.methodLink RX1 86 yJx4a65c_clear_da8c8 ∈ zbig := zw_of 198 (by decide +kernel) (by decide +kernel)
set_option maxRecDepth 20000 in
theorem zw_199 : Cond.instanceMethod yJx4a65c_clear_da8c8 ∈ zbig := zw_of 199 (by decide +kernel) (by decide +kernel)
set_option maxRecDepth 20000 in
theorem zw_200 : Cond.selects RJx4a65c yJx4a65c_clear_da8c8 yJx4a65c_clear_da8c8 ∈ zbig := zw_of 200 (by decide +kernel) (by decide +kernel)
set_option maxRecDepth 20000 in
theorem zw_201 : Cond.code yJx4a65c_clear_da8c8 cJx4a65c_clear_da8c8 4 none ∈ zbig := zw_of 201 (by decide +kernel) (by decide +kernel)
set_option maxRecDepth 20000 in
theorem zw_207 : Cond.instanceMethod yX1_isSound ∈ zbig := zw_of 207 (by decide +kernel) (by decide +kernel)
set_option maxRecDepth 20000 in
theorem zw_208 : Cond.selects RX1 yX1_isSound yX1_isSound ∈ zbig := zw_of 208 (by decide +kernel) (by decide +kernel)
set_option maxRecDepth 20000 in
theorem zw_209 : Cond.code yX1_isSound cX1_isSound 4 (some .boolean) ∈ zbig := zw_of 209 (by decide +kernel) (by decide +kernel)
set_option maxRecDepth 20000 in
theorem zw_265 : Cond.static Lib.Math.max.name ∈ zbig := zw_of 265 (by decide +kernel) (by decide +kernel)
set_option maxRecDepth 20000 in
theorem zw_266 : Cond.code Lib.Math.max.name Lib.Math.max.code 2 (some .int) ∈ zbig := zw_of 266 (by decide +kernel) (by decide +kernel)
set_option maxRecDepth 20000 in
theorem zw_702 : Cond.constantLong RX1 243 (7779) ∈ zbig := zw_of 702 (by decide +kernel) (by decide +kernel)
set_option maxRecDepth 20000 in
theorem zw_703 : Cond.constantLong RX1 245 (31) ∈ zbig := zw_of 703 (by decide +kernel) (by decide +kernel)
set_option maxRecDepth 20000 in
theorem zw_704 : Cond.methodLink RX1 247 yX1_house ∈ zbig := zw_of 704 (by decide +kernel) (by decide +kernel)
set_option maxRecDepth 20000 in
theorem zw_705 : Cond.instanceMethod yX1_house ∈ zbig := zw_of 705 (by decide +kernel) (by decide +kernel)
set_option maxRecDepth 20000 in
theorem zw_706 : Cond.selects RX1 yX1_house yX1_house ∈ zbig := zw_of 706 (by decide +kernel) (by decide +kernel)
set_option maxRecDepth 20000 in
theorem zw_707 : Cond.code yX1_house cX1_house 2 (some .int) ∈ zbig := zw_of 707 (by decide +kernel) (by decide +kernel)
set_option maxRecDepth 20000 in
theorem zw_708 : Cond.methodLink RX1 225 yX1_pairsDeep ∈ zbig := zw_of 708 (by decide +kernel) (by decide +kernel)
set_option maxRecDepth 20000 in
theorem zw_710 : Cond.instanceMethod yX1_pairsDeep ∈ zbig := zw_of 710 (by decide +kernel) (by decide +kernel)
set_option maxRecDepth 20000 in
theorem zw_711 : Cond.code yX1_pairsDeep cX1_pairsDeep 4 (some .int) ∈ zbig := zw_of 711 (by decide +kernel) (by decide +kernel)
set_option maxRecDepth 20000 in
theorem zw_712 : Cond.methodLink RX1 228 yX1_greatestDepth ∈ zbig := zw_of 712 (by decide +kernel) (by decide +kernel)
set_option maxRecDepth 20000 in
theorem zw_714 : Cond.instanceMethod yX1_greatestDepth ∈ zbig := zw_of 714 (by decide +kernel) (by decide +kernel)
set_option maxRecDepth 20000 in
theorem zw_715 : Cond.code yX1_greatestDepth cX1_greatestDepth 3 (some .int) ∈ zbig := zw_of 715 (by decide +kernel) (by decide +kernel)
set_option maxRecDepth 20000 in
theorem zw_723 : Cond.classLink RX1 48 "java/lang/IllegalArgumentException" ∈ zbig := zw_of 723 (by decide +kernel) (by decide +kernel)
set_option maxRecDepth 20000 in
theorem zw_730 : Cond.methodLink RX1 89 yX1_rowOf ∈ zbig := zw_of 730 (by decide +kernel) (by decide +kernel)
set_option maxRecDepth 20000 in
theorem zw_732 : Cond.instanceMethod yX1_rowOf ∈ zbig := zw_of 732 (by decide +kernel) (by decide +kernel)
set_option maxRecDepth 20000 in
theorem zw_733 : Cond.code yX1_rowOf cX1_rowOf 2 (some (.object "Deeprows$Row")) ∈ zbig := zw_of 733 (by decide +kernel) (by decide +kernel)
set_option maxRecDepth 20000 in
theorem zw_734 : Cond.classLink RX1 261 "java/lang/IndexOutOfBoundsException" ∈ zbig := zw_of 734 (by decide +kernel) (by decide +kernel)
set_option maxRecDepth 20000 in
theorem zw_748 : Cond.instanceMethod yX1_what ∈ zbig := zw_of 748 (by decide +kernel) (by decide +kernel)
set_option maxRecDepth 20000 in
theorem zw_749 : Cond.selects RX1 yX1_what yX1_what ∈ zbig := zw_of 749 (by decide +kernel) (by decide +kernel)
set_option maxRecDepth 20000 in
theorem zw_750 : Cond.code yX1_what cX1_what 4 (some .int) ∈ zbig := zw_of 750 (by decide +kernel) (by decide +kernel)
set_option maxRecDepth 20000 in
theorem zw_756 : Cond.instanceMethod yX1_at ∈ zbig := zw_of 756 (by decide +kernel) (by decide +kernel)
set_option maxRecDepth 20000 in
theorem zw_757 : Cond.selects RX1 yX1_at yX1_at ∈ zbig := zw_of 757 (by decide +kernel) (by decide +kernel)
set_option maxRecDepth 20000 in
theorem zw_758 : Cond.code yX1_at cX1_at 5 (some .int) ∈ zbig := zw_of 758 (by decide +kernel) (by decide +kernel)
set_option maxRecDepth 20000 in
theorem zw_760 : Cond.instanceMethod yX1_isDeep ∈ zbig := zw_of 760 (by decide +kernel) (by decide +kernel)
set_option maxRecDepth 20000 in
theorem zw_761 : Cond.selects RX1 yX1_isDeep yX1_isDeep ∈ zbig := zw_of 761 (by decide +kernel) (by decide +kernel)
set_option maxRecDepth 20000 in
theorem zw_762 : Cond.code yX1_isDeep cX1_isDeep 3 (some .boolean) ∈ zbig := zw_of 762 (by decide +kernel) (by decide +kernel)
set_option maxRecDepth 20000 in
theorem zw_763 : Cond.methodLink RX1 258 yX1_isSound ∈ zbig := zw_of 763 (by decide +kernel) (by decide +kernel)
set_option maxRecDepth 20000 in
theorem zw_780 : Cond.classLink RL 19 "java/lang/IllegalArgumentException" ∈ zbig := zw_of 780 (by decide +kernel) (by decide +kernel)
set_option maxRecDepth 20000 in
theorem zw_781 : Cond.classLink RL 21 "java/lang/IllegalStateException" ∈ zbig := zw_of 781 (by decide +kernel) (by decide +kernel)
set_option maxRecDepth 20000 in
theorem zw_782 : Cond.methodLink RL 7 yX1_make ∈ zbig := zw_of 782 (by decide +kernel) (by decide +kernel)
set_option maxRecDepth 20000 in
theorem zw_783 : Cond.instanceMethod yX1_make ∈ zbig := zw_of 783 (by decide +kernel) (by decide +kernel)
set_option maxRecDepth 20000 in
theorem zw_784 : Cond.selects RX1 yX1_make yX1_make ∈ zbig := zw_of 784 (by decide +kernel) (by decide +kernel)
set_option maxRecDepth 20000 in
theorem zw_785 : Cond.code yX1_make cX1_make 3 (some .int) ∈ zbig := zw_of 785 (by decide +kernel) (by decide +kernel)
set_option maxRecDepth 20000 in
theorem zw_787 : Cond.methodLink RX1 55 yX1_requireLength ∈ zbig := zw_of 787 (by decide +kernel) (by decide +kernel)
set_option maxRecDepth 20000 in
theorem zw_788 : Cond.static yX1_requireLength ∈ zbig := zw_of 788 (by decide +kernel) (by decide +kernel)
set_option maxRecDepth 20000 in
theorem zw_789 : Cond.code yX1_requireLength cX1_requireLength 1 none ∈ zbig := zw_of 789 (by decide +kernel) (by decide +kernel)
set_option maxRecDepth 20000 in
theorem zw_791 : Cond.methodLink RX1 59 yX1_requireRoom ∈ zbig := zw_of 791 (by decide +kernel) (by decide +kernel)
set_option maxRecDepth 20000 in
theorem zw_793 : Cond.instanceMethod yX1_requireRoom ∈ zbig := zw_of 793 (by decide +kernel) (by decide +kernel)
set_option maxRecDepth 20000 in
theorem zw_794 : Cond.code yX1_requireRoom cX1_requireRoom 2 none ∈ zbig := zw_of 794 (by decide +kernel) (by decide +kernel)
set_option maxRecDepth 20000 in
theorem zw_795 : Cond.classLink RX1 73 "java/lang/IllegalStateException" ∈ zbig := zw_of 795 (by decide +kernel) (by decide +kernel)
set_option maxRecDepth 20000 in
theorem zw_811 : Cond.methodLink RX1 62 yX1_addRow ∈ zbig := zw_of 811 (by decide +kernel) (by decide +kernel)
set_option maxRecDepth 20000 in
theorem zw_813 : Cond.instanceMethod yX1_addRow ∈ zbig := zw_of 813 (by decide +kernel) (by decide +kernel)
set_option maxRecDepth 20000 in
theorem zw_814 : Cond.code yX1_addRow cX1_addRow 2 (some (.object "Deeprows$Row")) ∈ zbig := zw_of 814 (by decide +kernel) (by decide +kernel)
set_option maxRecDepth 20000 in
theorem zw_815 : Cond.methodLink RX1 286 yJx4a65c_add_9ea2d ∈ zbig := zw_of 815 (by decide +kernel) (by decide +kernel)
set_option maxRecDepth 20000 in
theorem zw_816 : Cond.instanceMethod yJx4a65c_add_9ea2d ∈ zbig := zw_of 816 (by decide +kernel) (by decide +kernel)
set_option maxRecDepth 20000 in
theorem zw_817 : Cond.selects RJx4a65c yJx4a65c_add_9ea2d yJx4a65c_add_9ea2d ∈ zbig := zw_of 817 (by decide +kernel) (by decide +kernel)
set_option maxRecDepth 20000 in
theorem zw_818 : Cond.code yJx4a65c_add_9ea2d cJx4a65c_add_9ea2d 2 (some .boolean) ∈ zbig := zw_of 818 (by decide +kernel) (by decide +kernel)
set_option maxRecDepth 20000 in
theorem zw_819 : Cond.methodLink RJx4a65c 131 yJx4a65c_add_72be8 ∈ zbig := zw_of 819 (by decide +kernel) (by decide +kernel)
set_option maxRecDepth 20000 in
theorem zw_821 : Cond.instanceMethod yJx4a65c_add_72be8 ∈ zbig := zw_of 821 (by decide +kernel) (by decide +kernel)
set_option maxRecDepth 20000 in
theorem zw_822 : Cond.code yJx4a65c_add_72be8 cJx4a65c_add_72be8 4 none ∈ zbig := zw_of 822 (by decide +kernel) (by decide +kernel)
set_option maxRecDepth 20000 in
theorem zw_823 : Cond.methodLink RJx4a65c 129 yJx4a65c_grow_d5877 ∈ zbig := zw_of 823 (by decide +kernel) (by decide +kernel)
set_option maxRecDepth 20000 in
theorem zw_825 : Cond.instanceMethod yJx4a65c_grow_d5877 ∈ zbig := zw_of 825 (by decide +kernel) (by decide +kernel)
set_option maxRecDepth 20000 in
theorem zw_826 : Cond.code yJx4a65c_grow_d5877 cJx4a65c_grow_d5877 1 (some (.array (.object "java/lang/Object"))) ∈ zbig := zw_of 826 (by decide +kernel) (by decide +kernel)
set_option maxRecDepth 20000 in
theorem zw_827 : Cond.methodLink RJx4a65c 69 yJx4a65c_grow_92f84 ∈ zbig := zw_of 827 (by decide +kernel) (by decide +kernel)
set_option maxRecDepth 20000 in
theorem zw_829 : Cond.instanceMethod yJx4a65c_grow_92f84 ∈ zbig := zw_of 829 (by decide +kernel) (by decide +kernel)
set_option maxRecDepth 20000 in
theorem zw_830 : Cond.code yJx4a65c_grow_92f84 cJx4a65c_grow_92f84 4 (some (.array (.object "java/lang/Object"))) ∈ zbig := zw_of 830 (by decide +kernel) (by decide +kernel)
set_option maxRecDepth 20000 in
theorem zw_858 : Cond.methodLink RJx4a65c 79 Lib.Math.max.name ∈ zbig := zw_of 858 (by decide +kernel) (by decide +kernel)
