set_option maxRecDepth 20000 in
theorem zw_1023 : Cond.selects RX1 yX1_copy yX1_copy ∈ zbig := zw_of 1023 (by decide +kernel) (by decide +kernel)
set_option maxRecDepth 20000 in
theorem zw_1024 : Cond.code yX1_copy cX1_copy 4 (some .int) ∈ zbig := zw_of 1024 (by decide +kernel) (by decide +kernel)
set_option maxRecDepth 20000 in
theorem zw_1026 : Cond.methodLink RL 178 yL_kind ∈ zbig := zw_of 1026 (by decide +kernel) (by decide +kernel)
set_option maxRecDepth 20000 in
theorem zw_1027 : Cond.static yL_kind ∈ zbig := zw_of 1027 (by decide +kernel) (by decide +kernel)
set_option maxRecDepth 20000 in
theorem zw_1028 : Cond.codeWith yL_kind cL_kind 4 (some .int) [(0, 10, 13, 31)] ∈ zbig := zw_of 1028 (by decide +kernel) (by decide +kernel)
set_option maxRecDepth 20000 in
theorem zw_1029 : Cond.methodLink RL 68 yX1_kind ∈ zbig := zw_of 1029 (by decide +kernel) (by decide +kernel)
set_option maxRecDepth 20000 in
theorem zw_1030 : Cond.instanceMethod yX1_kind ∈ zbig := zw_of 1030 (by decide +kernel) (by decide +kernel)
set_option maxRecDepth 20000 in
theorem zw_1031 : Cond.selects RX1 yX1_kind yX1_kind ∈ zbig := zw_of 1031 (by decide +kernel) (by decide +kernel)
set_option maxRecDepth 20000 in
theorem zw_1032 : Cond.code yX1_kind cX1_kind 2 (some .int) ∈ zbig := zw_of 1032 (by decide +kernel) (by decide +kernel)
set_option maxRecDepth 20000 in
theorem zw_1033 : Cond.methodLink RL 181 yL_length ∈ zbig := zw_of 1033 (by decide +kernel) (by decide +kernel)
set_option maxRecDepth 20000 in
theorem zw_1034 : Cond.static yL_length ∈ zbig := zw_of 1034 (by decide +kernel) (by decide +kernel)
set_option maxRecDepth 20000 in
theorem zw_1035 : Cond.codeWith yL_length cL_length 4 (some .int) [(0, 10, 13, 31)] ∈ zbig := zw_of 1035 (by decide +kernel) (by decide +kernel)
set_option maxRecDepth 20000 in
theorem zw_1036 : Cond.methodLink RL 71 yX1_length ∈ zbig := zw_of 1036 (by decide +kernel) (by decide +kernel)
set_option maxRecDepth 20000 in
theorem zw_1037 : Cond.instanceMethod yX1_length ∈ zbig := zw_of 1037 (by decide +kernel) (by decide +kernel)
set_option maxRecDepth 20000 in
theorem zw_1038 : Cond.selects RX1 yX1_length yX1_length ∈ zbig := zw_of 1038 (by decide +kernel) (by decide +kernel)
set_option maxRecDepth 20000 in
theorem zw_1039 : Cond.code yX1_length cX1_length 2 (some .int) ∈ zbig := zw_of 1039 (by decide +kernel) (by decide +kernel)
set_option maxRecDepth 20000 in
theorem zw_1040 : Cond.methodLink RL 184 yL_depth ∈ zbig := zw_of 1040 (by decide +kernel) (by decide +kernel)
set_option maxRecDepth 20000 in
theorem zw_1041 : Cond.static yL_depth ∈ zbig := zw_of 1041 (by decide +kernel) (by decide +kernel)
set_option maxRecDepth 20000 in
theorem zw_1042 : Cond.codeWith yL_depth cL_depth 4 (some .int) [(0, 10, 13, 31)] ∈ zbig := zw_of 1042 (by decide +kernel) (by decide +kernel)
set_option maxRecDepth 20000 in
theorem zw_1043 : Cond.methodLink RL 74 yX1_depth ∈ zbig := zw_of 1043 (by decide +kernel) (by decide +kernel)
set_option maxRecDepth 20000 in
theorem zw_1044 : Cond.instanceMethod yX1_depth ∈ zbig := zw_of 1044 (by decide +kernel) (by decide +kernel)
set_option maxRecDepth 20000 in
theorem zw_1045 : Cond.selects RX1 yX1_depth yX1_depth ∈ zbig := zw_of 1045 (by decide +kernel) (by decide +kernel)
set_option maxRecDepth 20000 in
theorem zw_1046 : Cond.code yX1_depth cX1_depth 2 (some .int) ∈ zbig := zw_of 1046 (by decide +kernel) (by decide +kernel)
set_option maxRecDepth 20000 in
theorem zw_1047 : Cond.methodLink RL 187 yL_what ∈ zbig := zw_of 1047 (by decide +kernel) (by decide +kernel)
set_option maxRecDepth 20000 in
theorem zw_1048 : Cond.static yL_what ∈ zbig := zw_of 1048 (by decide +kernel) (by decide +kernel)
set_option maxRecDepth 20000 in
theorem zw_1049 : Cond.codeWith yL_what cL_what 5 (some .int) [(0, 11, 14, 31)] ∈ zbig := zw_of 1049 (by decide +kernel) (by decide +kernel)
set_option maxRecDepth 20000 in
theorem zw_1050 : Cond.methodLink RL 77 yX1_what ∈ zbig := zw_of 1050 (by decide +kernel) (by decide +kernel)
set_option maxRecDepth 20000 in
theorem zw_1051 : Cond.methodLink RL 190 yL_at ∈ zbig := zw_of 1051 (by decide +kernel) (by decide +kernel)
set_option maxRecDepth 20000 in
theorem zw_1052 : Cond.static yL_at ∈ zbig := zw_of 1052 (by decide +kernel) (by decide +kernel)
set_option maxRecDepth 20000 in
theorem zw_1053 : Cond.codeWith yL_at cL_at 5 (some .int) [(0, 11, 14, 31)] ∈ zbig := zw_of 1053 (by decide +kernel) (by decide +kernel)
set_option maxRecDepth 20000 in
theorem zw_1054 : Cond.methodLink RL 80 yX1_at ∈ zbig := zw_of 1054 (by decide +kernel) (by decide +kernel)
set_option maxRecDepth 20000 in
theorem zw_1055 : Cond.methodLink RL 193 yL_isDeep ∈ zbig := zw_of 1055 (by decide +kernel) (by decide +kernel)
set_option maxRecDepth 20000 in
theorem zw_1056 : Cond.static yL_isDeep ∈ zbig := zw_of 1056 (by decide +kernel) (by decide +kernel)
set_option maxRecDepth 20000 in
theorem zw_1057 : Cond.codeWith yL_isDeep cL_isDeep 5 (some .int) [(0, 18, 21, 31)] ∈ zbig := zw_of 1057 (by decide +kernel) (by decide +kernel)
set_option maxRecDepth 20000 in
theorem zw_1058 : Cond.methodLink RL 83 yX1_isDeep ∈ zbig := zw_of 1058 (by decide +kernel) (by decide +kernel)
set_option maxRecDepth 20000 in
theorem zw_1059 : Cond.methodLink RL 196 yL_isFlat ∈ zbig := zw_of 1059 (by decide +kernel) (by decide +kernel)
set_option maxRecDepth 20000 in
theorem zw_1060 : Cond.static yL_isFlat ∈ zbig := zw_of 1060 (by decide +kernel) (by decide +kernel)
set_option maxRecDepth 20000 in
theorem zw_1061 : Cond.codeWith yL_isFlat cL_isFlat 5 (some .int) [(0, 18, 21, 31), (0, 18, 25, 19)] ∈ zbig := zw_of 1061 (by decide +kernel) (by decide +kernel)
set_option maxRecDepth 20000 in
theorem zw_1062 : Cond.methodLink RL 87 yX1_isFlat ∈ zbig := zw_of 1062 (by decide +kernel) (by decide +kernel)
set_option maxRecDepth 20000 in
theorem zw_1063 : Cond.instanceMethod yX1_isFlat ∈ zbig := zw_of 1063 (by decide +kernel) (by decide +kernel)
set_option maxRecDepth 20000 in
theorem zw_1064 : Cond.selects RX1 yX1_isFlat yX1_isFlat ∈ zbig := zw_of 1064 (by decide +kernel) (by decide +kernel)
set_option maxRecDepth 20000 in
theorem zw_1065 : Cond.code yX1_isFlat cX1_isFlat 5 (some .boolean) ∈ zbig := zw_of 1065 (by decide +kernel) (by decide +kernel)
set_option maxRecDepth 20000 in
theorem zw_1070 : Cond.methodLink RL 199 yL_areDeep ∈ zbig := zw_of 1070 (by decide +kernel) (by decide +kernel)
set_option maxRecDepth 20000 in
theorem zw_1071 : Cond.static yL_areDeep ∈ zbig := zw_of 1071 (by decide +kernel) (by decide +kernel)
set_option maxRecDepth 20000 in
theorem zw_1072 : Cond.codeWith yL_areDeep cL_areDeep 7 (some .int) [(0, 22, 25, 31), (0, 22, 29, 19)] ∈ zbig := zw_of 1072 (by decide +kernel) (by decide +kernel)
set_option maxRecDepth 20000 in
theorem zw_1073 : Cond.methodLink RL 90 yX1_areDeep ∈ zbig := zw_of 1073 (by decide +kernel) (by decide +kernel)
set_option maxRecDepth 20000 in
theorem zw_1074 : Cond.instanceMethod yX1_areDeep ∈ zbig := zw_of 1074 (by decide +kernel) (by decide +kernel)
set_option maxRecDepth 20000 in
theorem zw_1075 : Cond.selects RX1 yX1_areDeep yX1_areDeep ∈ zbig := zw_of 1075 (by decide +kernel) (by decide +kernel)
set_option maxRecDepth 20000 in
theorem zw_1076 : Cond.code yX1_areDeep cX1_areDeep 7 (some .boolean) ∈ zbig := zw_of 1076 (by decide +kernel) (by decide +kernel)
set_option maxRecDepth 20000 in
theorem zw_1077 : Cond.methodLink RL 202 yL_hash ∈ zbig := zw_of 1077 (by decide +kernel) (by decide +kernel)
set_option maxRecDepth 20000 in
theorem zw_1078 : Cond.static yL_hash ∈ zbig := zw_of 1078 (by decide +kernel) (by decide +kernel)
set_option maxRecDepth 20000 in
theorem zw_1079 : Cond.codeWith yL_hash cL_hash 4 (some .int) [(0, 10, 13, 31)] ∈ zbig := zw_of 1079 (by decide +kernel) (by decide +kernel)
set_option maxRecDepth 20000 in
theorem zw_1080 : Cond.methodLink RL 94 yX1_hash ∈ zbig := zw_of 1080 (by decide +kernel) (by decide +kernel)
set_option maxRecDepth 20000 in
theorem zw_1081 : Cond.instanceMethod yX1_hash ∈ zbig := zw_of 1081 (by decide +kernel) (by decide +kernel)
set_option maxRecDepth 20000 in
theorem zw_1082 : Cond.selects RX1 yX1_hash yX1_hash ∈ zbig := zw_of 1082 (by decide +kernel) (by decide +kernel)
set_option maxRecDepth 20000 in
theorem zw_1083 : Cond.code yX1_hash cX1_hash 2 (some .int) ∈ zbig := zw_of 1083 (by decide +kernel) (by decide +kernel)
set_option maxRecDepth 20000 in
theorem zw_1084 : Cond.methodLink RL 205 yL_flatHash ∈ zbig := zw_of 1084 (by decide +kernel) (by decide +kernel)
set_option maxRecDepth 20000 in
theorem zw_1085 : Cond.static yL_flatHash ∈ zbig := zw_of 1085 (by decide +kernel) (by decide +kernel)
set_option maxRecDepth 20000 in
theorem zw_1086 : Cond.codeWith yL_flatHash cL_flatHash 4 (some .int) [(0, 10, 13, 31), (0, 10, 16, 21)] ∈ zbig := zw_of 1086 (by decide +kernel) (by decide +kernel)
set_option maxRecDepth 20000 in
theorem zw_1087 : Cond.methodLink RL 97 yX1_flatHash ∈ zbig := zw_of 1087 (by decide +kernel) (by decide +kernel)
set_option maxRecDepth 20000 in
theorem zw_1088 : Cond.instanceMethod yX1_flatHash ∈ zbig := zw_of 1088 (by decide +kernel) (by decide +kernel)
set_option maxRecDepth 20000 in
theorem zw_1089 : Cond.selects RX1 yX1_flatHash yX1_flatHash ∈ zbig := zw_of 1089 (by decide +kernel) (by decide +kernel)
set_option maxRecDepth 20000 in
theorem zw_1090 : Cond.code yX1_flatHash cX1_flatHash 4 (some .int) ∈ zbig := zw_of 1090 (by decide +kernel) (by decide +kernel)
set_option maxRecDepth 20000 in
theorem zw_1092 : Cond.methodLink RL 208 yL_text ∈ zbig := zw_of 1092 (by decide +kernel) (by decide +kernel)
set_option maxRecDepth 20000 in
theorem zw_1093 : Cond.static yL_text ∈ zbig := zw_of 1093 (by decide +kernel) (by decide +kernel)
set_option maxRecDepth 20000 in
theorem zw_1094 : Cond.codeWith yL_text cL_text 4 (some .int) [(0, 9, 12, 31)] ∈ zbig := zw_of 1094 (by decide +kernel) (by decide +kernel)
set_option maxRecDepth 20000 in
theorem zw_1095 : Cond.methodLink RL 100 yX1_text ∈ zbig := zw_of 1095 (by decide +kernel) (by decide +kernel)
set_option maxRecDepth 20000 in
theorem zw_1096 : Cond.instanceMethod yX1_text ∈ zbig := zw_of 1096 (by decide +kernel) (by decide +kernel)
set_option maxRecDepth 20000 in
theorem zw_1097 : Cond.selects RX1 yX1_text yX1_text ∈ zbig := zw_of 1097 (by decide +kernel) (by decide +kernel)
set_option maxRecDepth 20000 in
theorem zw_1098 : Cond.code yX1_text cX1_text 2 (some (.object "java/lang/String")) ∈ zbig := zw_of 1098 (by decide +kernel) (by decide +kernel)
set_option maxRecDepth 20000 in
theorem zw_1100 : Cond.methodLink RL 217 yL_differ ∈ zbig := zw_of 1100 (by decide +kernel) (by decide +kernel)
set_option maxRecDepth 20000 in
theorem zw_1101 : Cond.static yL_differ ∈ zbig := zw_of 1101 (by decide +kernel) (by decide +kernel)
set_option maxRecDepth 20000 in
theorem zw_1102 : Cond.codeWith yL_differ cL_differ 5 (some .int) [(0, 11, 14, 31), (0, 11, 18, 19)] ∈ zbig := zw_of 1102 (by decide +kernel) (by decide +kernel)
set_option maxRecDepth 20000 in
theorem zw_1103 : Cond.methodLink RL 108 yX1_differ ∈ zbig := zw_of 1103 (by decide +kernel) (by decide +kernel)
set_option maxRecDepth 20000 in
theorem zw_1104 : Cond.instanceMethod yX1_differ ∈ zbig := zw_of 1104 (by decide +kernel) (by decide +kernel)
set_option maxRecDepth 20000 in
theorem zw_1105 : Cond.selects RX1 yX1_differ yX1_differ ∈ zbig := zw_of 1105 (by decide +kernel) (by decide +kernel)
set_option maxRecDepth 20000 in
theorem zw_1106 : Cond.code yX1_differ cX1_differ 5 (some .int) ∈ zbig := zw_of 1106 (by decide +kernel) (by decide +kernel)
set_option maxRecDepth 20000 in
theorem zw_1107 : Cond.methodLink RL 220 yL_compare ∈ zbig := zw_of 1107 (by decide +kernel) (by decide +kernel)
set_option maxRecDepth 20000 in
theorem zw_1108 : Cond.static yL_compare ∈ zbig := zw_of 1108 (by decide +kernel) (by decide +kernel)
set_option maxRecDepth 20000 in
theorem zw_1109 : Cond.codeWith yL_compare cL_compare 5 (some .int) [(0, 11, 14, 31), (0, 11, 18, 19)] ∈ zbig := zw_of 1109 (by decide +kernel) (by decide +kernel)
set_option maxRecDepth 20000 in
theorem zw_1110 : Cond.methodLink RL 111 yX1_compare ∈ zbig := zw_of 1110 (by decide +kernel) (by decide +kernel)
set_option maxRecDepth 20000 in
theorem zw_1111 : Cond.instanceMethod yX1_compare ∈ zbig := zw_of 1111 (by decide +kernel) (by decide +kernel)
set_option maxRecDepth 20000 in
theorem zw_1112 : Cond.selects RX1 yX1_compare yX1_compare ∈ zbig := zw_of 1112 (by decide +kernel) (by decide +kernel)
set_option maxRecDepth 20000 in
theorem zw_1113 : Cond.code yX1_compare cX1_compare 7 (some .int) ∈ zbig := zw_of 1113 (by decide +kernel) (by decide +kernel)
set_option maxRecDepth 20000 in
theorem zw_1115 : Cond.methodLink RL 227 yL_house ∈ zbig := zw_of 1115 (by decide +kernel) (by decide +kernel)
set_option maxRecDepth 20000 in
theorem zw_1116 : Cond.static yL_house ∈ zbig := zw_of 1116 (by decide +kernel) (by decide +kernel)
set_option maxRecDepth 20000 in
theorem zw_1117 : Cond.codeWith yL_house cL_house 4 (some .int) [(0, 10, 13, 19)] ∈ zbig := zw_of 1117 (by decide +kernel) (by decide +kernel)
set_option maxRecDepth 20000 in
theorem zw_1118 : Cond.methodLink RL 114 yX1_house ∈ zbig := zw_of 1118 (by decide +kernel) (by decide +kernel)
set_option maxRecDepth 20000 in
theorem zw_1119 : Cond.classLink RL 118 RX4 ∈ zbig := zw_of 1119 (by decide +kernel) (by decide +kernel)
set_option maxRecDepth 20000 in
theorem zw_1120 : Cond.instantiable RX4 5 ∈ zbig := zw_of 1120 (by decide +kernel) (by decide +kernel)
set_option maxRecDepth 20000 in
theorem zw_1121 : Cond.methodLink RL 120 yX4_init ∈ zbig := zw_of 1121 (by decide +kernel) (by decide +kernel)
set_option maxRecDepth 20000 in
theorem zw_1122 : Cond.instanceMethod yX4_init ∈ zbig := zw_of 1122 (by decide +kernel) (by decide +kernel)
set_option maxRecDepth 20000 in
theorem zw_1123 : Cond.code yX4_init cX4_init 1 none ∈ zbig := zw_of 1123 (by decide +kernel) (by decide +kernel)
set_option maxRecDepth 20000 in
theorem zw_1124 : Cond.methodLink RX4 1 objectInit ∈ zbig := zw_of 1124 (by decide +kernel) (by decide +kernel)
set_option maxRecDepth 20000 in
theorem zw_1125 : Cond.classLink RX4 7 RJx4a65c ∈ zbig := zw_of 1125 (by decide +kernel) (by decide +kernel)
set_option maxRecDepth 20000 in
theorem zw_1126 : Cond.methodLink RX4 9 yJx4a65c_init_da8c8 ∈ zbig := zw_of 1126 (by decide +kernel) (by decide +kernel)
set_option maxRecDepth 20000 in
theorem zw_1127 : Cond.fieldLink RX4 16 "DeeprowsModel" "thrown" "I" ∈ zbig := zw_of 1127 (by decide +kernel) (by decide +kernel)
set_option maxRecDepth 20000 in
theorem zw_1128 : Cond.fieldLink RX4 10 "DeeprowsModel" "rows" "Ljava/util/ArrayList;" ∈ zbig := zw_of 1128 (by decide +kernel) (by decide +kernel)
set_option maxRecDepth 20000 in
theorem zw_1129 : Cond.fieldLink RX4 120 "DeeprowsModel" "made" "I" ∈ zbig := zw_of 1129 (by decide +kernel) (by decide +kernel)
set_option maxRecDepth 20000 in
theorem zw_1130 : Cond.fieldLink RX4 114 "DeeprowsModel" "refused" "I" ∈ zbig := zw_of 1130 (by decide +kernel) (by decide +kernel)
set_option maxRecDepth 20000 in
theorem zw_1131 : Cond.fieldLink RX4 207 "DeeprowsModel" "knocked" "I" ∈ zbig := zw_of 1131 (by decide +kernel) (by decide +kernel)
set_option maxRecDepth 20000 in
theorem zw_1143 : Cond.methodLink RL 128 yX4_thrown ∈ zbig := zw_of 1143 (by decide +kernel) (by decide +kernel)
set_option maxRecDepth 20000 in
theorem zw_1144 : Cond.instanceMethod yX4_thrown ∈ zbig := zw_of 1144 (by decide +kernel) (by decide +kernel)
set_option maxRecDepth 20000 in
theorem zw_1145 : Cond.selects RX4 yX4_thrown yX4_thrown ∈ zbig := zw_of 1145 (by decide +kernel) (by decide +kernel)
set_option maxRecDepth 20000 in
theorem zw_1146 : Cond.code yX4_thrown cX4_thrown 1 (some .int) ∈ zbig := zw_of 1146 (by decide +kernel) (by decide +kernel)
set_option maxRecDepth 20000 in
theorem zw_1147 : Cond.methodLink RL 127 yX4_make ∈ zbig := zw_of 1147 (by decide +kernel) (by decide +kernel)
set_option maxRecDepth 20000 in
theorem zw_1148 : Cond.instanceMethod yX4_make ∈ zbig := zw_of 1148 (by decide +kernel) (by decide +kernel)
set_option maxRecDepth 20000 in
theorem zw_1149 : Cond.selects RX4 yX4_make yX4_make ∈ zbig := zw_of 1149 (by decide +kernel) (by decide +kernel)
set_option maxRecDepth 20000 in
theorem zw_1150 : Cond.code yX4_make cX4_make 3 (some .int) ∈ zbig := zw_of 1150 (by decide +kernel) (by decide +kernel)
set_option maxRecDepth 20000 in
theorem zw_1151 : Cond.methodLink RX4 28 yX4_isIn ∈ zbig := zw_of 1151 (by decide +kernel) (by decide +kernel)
set_option maxRecDepth 20000 in
theorem zw_1152 : Cond.static yX4_isIn ∈ zbig := zw_of 1152 (by decide +kernel) (by decide +kernel)
set_option maxRecDepth 20000 in
theorem zw_1153 : Cond.code yX4_isIn cX4_isIn 3 (some .boolean) ∈ zbig := zw_of 1153 (by decide +kernel) (by decide +kernel)
set_option maxRecDepth 20000 in
theorem zw_1154 : Cond.methodLink RX4 73 yX4_start ∈ zbig := zw_of 1154 (by decide +kernel) (by decide +kernel)
set_option maxRecDepth 20000 in
theorem zw_1156 : Cond.instanceMethod yX4_start ∈ zbig := zw_of 1156 (by decide +kernel) (by decide +kernel)
set_option maxRecDepth 20000 in
theorem zw_1157 : Cond.code yX4_start cX4_start 3 (some .boolean) ∈ zbig := zw_of 1157 (by decide +kernel) (by decide +kernel)
set_option maxRecDepth 20000 in
theorem zw_1158 : Cond.methodLink RX4 20 yX4_refuse ∈ zbig := zw_of 1158 (by decide +kernel) (by decide +kernel)
set_option maxRecDepth 20000 in
theorem zw_1160 : Cond.instanceMethod yX4_refuse ∈ zbig := zw_of 1160 (by decide +kernel) (by decide +kernel)
set_option maxRecDepth 20000 in
theorem zw_1161 : Cond.code yX4_refuse cX4_refuse 3 (some .boolean) ∈ zbig := zw_of 1161 (by decide +kernel) (by decide +kernel)
set_option maxRecDepth 20000 in
theorem zw_1162 : Cond.methodLink RX4 24 yJx4a65c_size_8abf5 ∈ zbig := zw_of 1162 (by decide +kernel) (by decide +kernel)
set_option maxRecDepth 20000 in
theorem zw_1163 : Cond.classLink RX4 40 "DeeprowsModel$Row" ∈ zbig := zw_of 1163 (by decide +kernel) (by decide +kernel)
set_option maxRecDepth 20000 in
theorem zw_1164 : Cond.instantiable RX3 3 ∈ zbig := zw_of 1164 (by decide +kernel) (by decide +kernel)
set_option maxRecDepth 20000 in
theorem zw_1165 : Cond.methodLink RX4 76 yX3_init ∈ zbig := zw_of 1165 (by decide +kernel) (by decide +kernel)
set_option maxRecDepth 20000 in
theorem zw_1166 : Cond.instanceMethod yX3_init ∈ zbig := zw_of 1166 (by decide +kernel) (by decide +kernel)
set_option maxRecDepth 20000 in
theorem zw_1167 : Cond.code yX3_init cX3_init 4 none ∈ zbig := zw_of 1167 (by decide +kernel) (by decide +kernel)
set_option maxRecDepth 20000 in
theorem zw_1168 : Cond.methodLink RX3 3 objectInit ∈ zbig := zw_of 1168 (by decide +kernel) (by decide +kernel)
set_option maxRecDepth 20000 in
theorem zw_1169 : Cond.methodLink RX3 22 yX3_put ∈ zbig := zw_of 1169 (by decide +kernel) (by decide +kernel)
set_option maxRecDepth 20000 in
theorem zw_1170 : Cond.instanceMethod yX3_put ∈ zbig := zw_of 1170 (by decide +kernel) (by decide +kernel)
set_option maxRecDepth 20000 in
theorem zw_1171 : Cond.selects RX3 yX3_put yX3_put ∈ zbig := zw_of 1171 (by decide +kernel) (by decide +kernel)
set_option maxRecDepth 20000 in
theorem zw_1172 : Cond.code yX3_put cX3_put 4 none ∈ zbig := zw_of 1172 (by decide +kernel) (by decide +kernel)
set_option maxRecDepth 20000 in
theorem zw_1173 : Cond.fieldLink RX3 9 "DeeprowsModel$Row" "kind" "I" ∈ zbig := zw_of 1173 (by decide +kernel) (by decide +kernel)
set_option maxRecDepth 20000 in
theorem zw_1175 : Cond.fieldLink RX3 15 "DeeprowsModel$Row" "whats" "[I" ∈ zbig := zw_of 1175 (by decide +kernel) (by decide +kernel)
set_option maxRecDepth 20000 in
theorem zw_1177 : Cond.fieldLink RX3 19 "DeeprowsModel$Row" "numbers" "[I" ∈ zbig := zw_of 1177 (by decide +kernel) (by decide +kernel)
set_option maxRecDepth 20000 in
theorem zw_1186 : Cond.methodLink RX4 79 yJx4a65c_add_9ea2d ∈ zbig := zw_of 1186 (by decide +kernel) (by decide +kernel)
set_option maxRecDepth 20000 in
theorem zw_1187 : Cond.methodLink RL 134 yX4_drop ∈ zbig := zw_of 1187 (by decide +kernel) (by decide +kernel)
set_option maxRecDepth 20000 in
theorem zw_1188 : Cond.instanceMethod yX4_drop ∈ zbig := zw_of 1188 (by decide +kernel) (by decide +kernel)
set_option maxRecDepth 20000 in
theorem zw_1189 : Cond.selects RX4 yX4_drop yX4_drop ∈ zbig := zw_of 1189 (by decide +kernel) (by decide +kernel)
set_option maxRecDepth 20000 in
theorem zw_1190 : Cond.code yX4_drop cX4_drop 1 (some .int) ∈ zbig := zw_of 1190 (by decide +kernel) (by decide +kernel)
set_option maxRecDepth 20000 in
theorem zw_1191 : Cond.methodLink RX4 83 yJx4a65c_isEmpty_aae02 ∈ zbig := zw_of 1191 (by decide +kernel) (by decide +kernel)
set_option maxRecDepth 20000 in
theorem zw_1193 : Cond.methodLink RL 138 yX4_empty ∈ zbig := zw_of 1193 (by decide +kernel) (by decide +kernel)
set_option maxRecDepth 20000 in
theorem zw_1194 : Cond.instanceMethod yX4_empty ∈ zbig := zw_of 1194 (by decide +kernel) (by decide +kernel)
set_option maxRecDepth 20000 in
theorem zw_1195 : Cond.selects RX4 yX4_empty yX4_empty ∈ zbig := zw_of 1195 (by decide +kernel) (by decide +kernel)
set_option maxRecDepth 20000 in
theorem zw_1196 : Cond.code yX4_empty cX4_empty 2 (some .int) ∈ zbig := zw_of 1196 (by decide +kernel) (by decide +kernel)
set_option maxRecDepth 20000 in
theorem zw_1197 : Cond.methodLink RX4 90 yJx4a65c_clear_da8c8 ∈ zbig := zw_of 1197 (by decide +kernel) (by decide +kernel)
set_option maxRecDepth 20000 in
theorem zw_1198 : Cond.methodLink RL 142 yX4_put ∈ zbig := zw_of 1198 (by decide +kernel) (by decide +kernel)
set_option maxRecDepth 20000 in
theorem zw_1199 : Cond.instanceMethod yX4_put ∈ zbig := zw_of 1199 (by decide +kernel) (by decide +kernel)
set_option maxRecDepth 20000 in
theorem zw_1200 : Cond.selects RX4 yX4_put yX4_put ∈ zbig := zw_of 1200 (by decide +kernel) (by decide +kernel)
set_option maxRecDepth 20000 in
theorem zw_1201 : Cond.code yX4_put cX4_put 4 (some .int) ∈ zbig := zw_of 1201 (by decide +kernel) (by decide +kernel)
set_option maxRecDepth 20000 in
theorem zw_1202 : Cond.methodLink RX4 93 yX4_isNoPlace ∈ zbig := zw_of 1202 (by decide +kernel) (by decide +kernel)
set_option maxRecDepth 20000 in
theorem zw_1204 : Cond.instanceMethod yX4_isNoPlace ∈ zbig := zw_of 1204 (by decide +kernel) (by decide +kernel)
set_option maxRecDepth 20000 in
theorem zw_1205 : Cond.code yX4_isNoPlace cX4_isNoPlace 3 (some .boolean) ∈ zbig := zw_of 1205 (by decide +kernel) (by decide +kernel)
set_option maxRecDepth 20000 in
theorem zw_1206 : Cond.methodLink RX4 32 yX4_isNoRow ∈ zbig := zw_of 1206 (by decide +kernel) (by decide +kernel)
set_option maxRecDepth 20000 in
theorem zw_1208 : Cond.instanceMethod yX4_isNoRow ∈ zbig := zw_of 1208 (by decide +kernel) (by decide +kernel)
set_option maxRecDepth 20000 in
theorem zw_1209 : Cond.code yX4_isNoRow cX4_isNoRow 2 (some .boolean) ∈ zbig := zw_of 1209 (by decide +kernel) (by decide +kernel)
set_option maxRecDepth 20000 in
theorem zw_1226 : Cond.methodLink RL 145 yX4_say ∈ zbig := zw_of 1226 (by decide +kernel) (by decide +kernel)
set_option maxRecDepth 20000 in
theorem zw_1227 : Cond.instanceMethod yX4_say ∈ zbig := zw_of 1227 (by decide +kernel) (by decide +kernel)
set_option maxRecDepth 20000 in
theorem zw_1228 : Cond.selects RX4 yX4_say yX4_say ∈ zbig := zw_of 1228 (by decide +kernel) (by decide +kernel)
set_option maxRecDepth 20000 in
theorem zw_1229 : Cond.code yX4_say cX4_say 4 (some .int) ∈ zbig := zw_of 1229 (by decide +kernel) (by decide +kernel)
set_option maxRecDepth 20000 in
theorem zw_1231 : Cond.methodLink RL 148 yX4_none ∈ zbig := zw_of 1231 (by decide +kernel) (by decide +kernel)
set_option maxRecDepth 20000 in
theorem zw_1232 : Cond.instanceMethod yX4_none ∈ zbig := zw_of 1232 (by decide +kernel) (by decide +kernel)
set_option maxRecDepth 20000 in
theorem zw_1233 : Cond.selects RX4 yX4_none yX4_none ∈ zbig := zw_of 1233 (by decide +kernel) (by decide +kernel)
set_option maxRecDepth 20000 in
theorem zw_1234 : Cond.code yX4_none cX4_none 3 (some .int) ∈ zbig := zw_of 1234 (by decide +kernel) (by decide +kernel)
set_option maxRecDepth 20000 in
theorem zw_1235 : Cond.methodLink RL 151 yX4_hang ∈ zbig := zw_of 1235 (by decide +kernel) (by decide +kernel)
set_option maxRecDepth 20000 in
theorem zw_1236 : Cond.instanceMethod yX4_hang ∈ zbig := zw_of 1236 (by decide +kernel) (by decide +kernel)
set_option maxRecDepth 20000 in
theorem zw_1237 : Cond.selects RX4 yX4_hang yX4_hang ∈ zbig := zw_of 1237 (by decide +kernel) (by decide +kernel)
set_option maxRecDepth 20000 in
theorem zw_1238 : Cond.code yX4_hang cX4_hang 5 (some .int) ∈ zbig := zw_of 1238 (by decide +kernel) (by decide +kernel)
set_option maxRecDepth 20000 in
theorem zw_1263 : Cond.methodLink RL 154 yX4_swap ∈ zbig := zw_of 1263 (by decide +kernel) (by decide +kernel)
set_option maxRecDepth 20000 in
theorem zw_1264 : Cond.instanceMethod yX4_swap ∈ zbig := zw_of 1264 (by decide +kernel) (by decide +kernel)
set_option maxRecDepth 20000 in
theorem zw_1265 : Cond.selects RX4 yX4_swap yX4_swap ∈ zbig := zw_of 1265 (by decide +kernel) (by decide +kernel)
set_option maxRecDepth 20000 in
theorem zw_1266 : Cond.code yX4_swap cX4_swap 7 (some .int) ∈ zbig := zw_of 1266 (by decide +kernel) (by decide +kernel)
set_option maxRecDepth 20000 in
theorem zw_1267 : Cond.methodLink RL 157 yX4_fill ∈ zbig := zw_of 1267 (by decide +kernel) (by decide +kernel)
set_option maxRecDepth 20000 in
theorem zw_1268 : Cond.instanceMethod yX4_fill ∈ zbig := zw_of 1268 (by decide +kernel) (by decide +kernel)
set_option maxRecDepth 20000 in
theorem zw_1269 : Cond.selects RX4 yX4_fill yX4_fill ∈ zbig := zw_of 1269 (by decide +kernel) (by decide +kernel)
set_option maxRecDepth 20000 in
theorem zw_1270 : Cond.code yX4_fill cX4_fill 5 (some .int) ∈ zbig := zw_of 1270 (by decide +kernel) (by decide +kernel)
set_option maxRecDepth 20000 in
theorem zw_1271 : Cond.methodLink RL 160 yX4_fillRow ∈ zbig := zw_of 1271 (by decide +kernel) (by decide +kernel)
set_option maxRecDepth 20000 in
theorem zw_1272 : Cond.instanceMethod yX4_fillRow ∈ zbig := zw_of 1272 (by decide +kernel) (by decide +kernel)
set_option maxRecDepth 20000 in
theorem zw_1273 : Cond.selects RX4 yX4_fillRow yX4_fillRow ∈ zbig := zw_of 1273 (by decide +kernel) (by decide +kernel)
set_option maxRecDepth 20000 in
theorem zw_1274 : Cond.code yX4_fillRow cX4_fillRow 5 (some .int) ∈ zbig := zw_of 1274 (by decide +kernel) (by decide +kernel)
set_option maxRecDepth 20000 in
theorem zw_1275 : Cond.methodLink RL 164 yX4_setAll ∈ zbig := zw_of 1275 (by decide +kernel) (by decide +kernel)
set_option maxRecDepth 20000 in
theorem zw_1276 : Cond.instanceMethod yX4_setAll ∈ zbig := zw_of 1276 (by decide +kernel) (by decide +kernel)
set_option maxRecDepth 20000 in
theorem zw_1277 : Cond.selects RX4 yX4_setAll yX4_setAll ∈ zbig := zw_of 1277 (by decide +kernel) (by decide +kernel)
set_option maxRecDepth 20000 in
theorem zw_1278 : Cond.code yX4_setAll cX4_setAll 7 (some .int) ∈ zbig := zw_of 1278 (by decide +kernel) (by decide +kernel)
set_option maxRecDepth 20000 in
theorem zw_1280 : Cond.methodLink RL 167 yX4_setRows ∈ zbig := zw_of 1280 (by decide +kernel) (by decide +kernel)
set_option maxRecDepth 20000 in
theorem zw_1281 : Cond.instanceMethod yX4_setRows ∈ zbig := zw_of 1281 (by decide +kernel) (by decide +kernel)
set_option maxRecDepth 20000 in
theorem zw_1282 : Cond.selects RX4 yX4_setRows yX4_setRows ∈ zbig := zw_of 1282 (by decide +kernel) (by decide +kernel)
set_option maxRecDepth 20000 in
theorem zw_1283 : Cond.code yX4_setRows cX4_setRows 6 (some .int) ∈ zbig := zw_of 1283 (by decide +kernel) (by decide +kernel)
set_option maxRecDepth 20000 in
theorem zw_1284 : Cond.methodLink RL 171 yX4_twin ∈ zbig := zw_of 1284 (by decide +kernel) (by decide +kernel)
set_option maxRecDepth 20000 in
theorem zw_1285 : Cond.instanceMethod yX4_twin ∈ zbig := zw_of 1285 (by decide +kernel) (by decide +kernel)
set_option maxRecDepth 20000 in
theorem zw_1286 : Cond.selects RX4 yX4_twin yX4_twin ∈ zbig := zw_of 1286 (by decide +kernel) (by decide +kernel)
set_option maxRecDepth 20000 in
theorem zw_1287 : Cond.code yX4_twin cX4_twin 2 (some .int) ∈ zbig := zw_of 1287 (by decide +kernel) (by decide +kernel)
set_option maxRecDepth 20000 in
theorem zw_1288 : Cond.methodLink RL 174 yX4_deepTwin ∈ zbig := zw_of 1288 (by decide +kernel) (by decide +kernel)
set_option maxRecDepth 20000 in
theorem zw_1289 : Cond.instanceMethod yX4_deepTwin ∈ zbig := zw_of 1289 (by decide +kernel) (by decide +kernel)
set_option maxRecDepth 20000 in
theorem zw_1290 : Cond.selects RX4 yX4_deepTwin yX4_deepTwin ∈ zbig := zw_of 1290 (by decide +kernel) (by decide +kernel)
set_option maxRecDepth 20000 in
theorem zw_1291 : Cond.code yX4_deepTwin cX4_deepTwin 2 (some .int) ∈ zbig := zw_of 1291 (by decide +kernel) (by decide +kernel)
set_option maxRecDepth 20000 in
theorem zw_1300 : Cond.methodLink RL 177 yX4_copy ∈ zbig := zw_of 1300 (by decide +kernel) (by decide +kernel)
set_option maxRecDepth 20000 in
theorem zw_1301 : Cond.instanceMethod yX4_copy ∈ zbig := zw_of 1301 (by decide +kernel) (by decide +kernel)
set_option maxRecDepth 20000 in
theorem zw_1302 : Cond.selects RX4 yX4_copy yX4_copy ∈ zbig := zw_of 1302 (by decide +kernel) (by decide +kernel)
set_option maxRecDepth 20000 in
theorem zw_1303 : Cond.code yX4_copy cX4_copy 3 (some .int) ∈ zbig := zw_of 1303 (by decide +kernel) (by decide +kernel)
set_option maxRecDepth 20000 in
theorem zw_1304 : Cond.methodLink RL 180 yX4_kind ∈ zbig := zw_of 1304 (by decide +kernel) (by decide +kernel)
set_option maxRecDepth 20000 in
theorem zw_1305 : Cond.instanceMethod yX4_kind ∈ zbig := zw_of 1305 (by decide +kernel) (by decide +kernel)
set_option maxRecDepth 20000 in
theorem zw_1306 : Cond.selects RX4 yX4_kind yX4_kind ∈ zbig := zw_of 1306 (by decide +kernel) (by decide +kernel)
set_option maxRecDepth 20000 in
theorem zw_1307 : Cond.code yX4_kind cX4_kind 2 (some .int) ∈ zbig := zw_of 1307 (by decide +kernel) (by decide +kernel)
set_option maxRecDepth 20000 in
theorem zw_1308 : Cond.methodLink RL 183 yX4_length ∈ zbig := zw_of 1308 (by decide +kernel) (by decide +kernel)
set_option maxRecDepth 20000 in
theorem zw_1309 : Cond.instanceMethod yX4_length ∈ zbig := zw_of 1309 (by decide +kernel) (by decide +kernel)
set_option maxRecDepth 20000 in
theorem zw_1310 : Cond.selects RX4 yX4_length yX4_length ∈ zbig := zw_of 1310 (by decide +kernel) (by decide +kernel)
set_option maxRecDepth 20000 in
theorem zw_1311 : Cond.code yX4_length cX4_length 2 (some .int) ∈ zbig := zw_of 1311 (by decide +kernel) (by decide +kernel)
set_option maxRecDepth 20000 in
theorem zw_1312 : Cond.methodLink RL 186 yX4_depth ∈ zbig := zw_of 1312 (by decide +kernel) (by decide +kernel)
set_option maxRecDepth 20000 in
theorem zw_1313 : Cond.instanceMethod yX4_depth ∈ zbig := zw_of 1313 (by decide +kernel) (by decide +kernel)
set_option maxRecDepth 20000 in
theorem zw_1314 : Cond.selects RX4 yX4_depth yX4_depth ∈ zbig := zw_of 1314 (by decide +kernel) (by decide +kernel)
set_option maxRecDepth 20000 in
theorem zw_1315 : Cond.code yX4_depth cX4_depth 2 (some .int) ∈ zbig := zw_of 1315 (by decide +kernel) (by decide +kernel)
set_option maxRecDepth 20000 in
theorem zw_1316 : Cond.methodLink RL 189 yX4_what ∈ zbig := zw_of 1316 (by decide +kernel) (by decide +kernel)
set_option maxRecDepth 20000 in
theorem zw_1317 : Cond.instanceMethod yX4_what ∈ zbig := zw_of 1317 (by decide +kernel) (by decide +kernel)
set_option maxRecDepth 20000 in
theorem zw_1318 : Cond.selects RX4 yX4_what yX4_what ∈ zbig := zw_of 1318 (by decide +kernel) (by decide +kernel)
set_option maxRecDepth 20000 in
theorem zw_1319 : Cond.code yX4_what cX4_what 3 (some .int) ∈ zbig := zw_of 1319 (by decide +kernel) (by decide +kernel)
set_option maxRecDepth 20000 in
theorem zw_1320 : Cond.methodLink RL 192 yX4_at ∈ zbig := zw_of 1320 (by decide +kernel) (by decide +kernel)
set_option maxRecDepth 20000 in
theorem zw_1321 : Cond.instanceMethod yX4_at ∈ zbig := zw_of 1321 (by decide +kernel) (by decide +kernel)
set_option maxRecDepth 20000 in
theorem zw_1322 : Cond.selects RX4 yX4_at yX4_at ∈ zbig := zw_of 1322 (by decide +kernel) (by decide +kernel)
set_option maxRecDepth 20000 in
theorem zw_1323 : Cond.code yX4_at cX4_at 3 (some .int) ∈ zbig := zw_of 1323 (by decide +kernel) (by decide +kernel)
set_option maxRecDepth 20000 in
theorem zw_1324 : Cond.methodLink RL 195 yX4_isDeep ∈ zbig := zw_of 1324 (by decide +kernel) (by decide +kernel)
set_option maxRecDepth 20000 in
theorem zw_1325 : Cond.instanceMethod yX4_isDeep ∈ zbig := zw_of 1325 (by decide +kernel) (by decide +kernel)
set_option maxRecDepth 20000 in
theorem zw_1326 : Cond.selects RX4 yX4_isDeep yX4_isDeep ∈ zbig := zw_of 1326 (by decide +kernel) (by decide +kernel)
set_option maxRecDepth 20000 in
theorem zw_1327 : Cond.code yX4_isDeep cX4_isDeep 3 (some .boolean) ∈ zbig := zw_of 1327 (by decide +kernel) (by decide +kernel)
set_option maxRecDepth 20000 in
theorem zw_1336 : Cond.methodLink RL 198 yX4_isFlat ∈ zbig := zw_of 1336 (by decide +kernel) (by decide +kernel)
set_option maxRecDepth 20000 in
theorem zw_1337 : Cond.instanceMethod yX4_isFlat ∈ zbig := zw_of 1337 (by decide +kernel) (by decide +kernel)
set_option maxRecDepth 20000 in
theorem zw_1338 : Cond.selects RX4 yX4_isFlat yX4_isFlat ∈ zbig := zw_of 1338 (by decide +kernel) (by decide +kernel)
set_option maxRecDepth 20000 in
theorem zw_1339 : Cond.code yX4_isFlat cX4_isFlat 3 (some .boolean) ∈ zbig := zw_of 1339 (by decide +kernel) (by decide +kernel)
set_option maxRecDepth 20000 in
theorem zw_1348 : Cond.methodLink RL 201 yX4_areDeep ∈ zbig := zw_of 1348 (by decide +kernel) (by decide +kernel)
set_option maxRecDepth 20000 in
theorem zw_1349 : Cond.instanceMethod yX4_areDeep ∈ zbig := zw_of 1349 (by decide +kernel) (by decide +kernel)
set_option maxRecDepth 20000 in
theorem zw_1350 : Cond.selects RX4 yX4_areDeep yX4_areDeep ∈ zbig := zw_of 1350 (by decide +kernel) (by decide +kernel)
set_option maxRecDepth 20000 in
theorem zw_1351 : Cond.code yX4_areDeep cX4_areDeep 5 (some .boolean) ∈ zbig := zw_of 1351 (by decide +kernel) (by decide +kernel)
set_option maxRecDepth 20000 in
theorem zw_1352 : Cond.methodLink RL 204 yX4_hash ∈ zbig := zw_of 1352 (by decide +kernel) (by decide +kernel)
set_option maxRecDepth 20000 in
theorem zw_1353 : Cond.instanceMethod yX4_hash ∈ zbig := zw_of 1353 (by decide +kernel) (by decide +kernel)
set_option maxRecDepth 20000 in
theorem zw_1354 : Cond.selects RX4 yX4_hash yX4_hash ∈ zbig := zw_of 1354 (by decide +kernel) (by decide +kernel)
set_option maxRecDepth 20000 in
theorem zw_1355 : Cond.code yX4_hash cX4_hash 2 (some .int) ∈ zbig := zw_of 1355 (by decide +kernel) (by decide +kernel)
set_option maxRecDepth 20000 in
theorem zw_1372 : Cond.methodLink RL 207 yX4_flatHash ∈ zbig := zw_of 1372 (by decide +kernel) (by decide +kernel)
set_option maxRecDepth 20000 in
theorem zw_1373 : Cond.instanceMethod yX4_flatHash ∈ zbig := zw_of 1373 (by decide +kernel) (by decide +kernel)
set_option maxRecDepth 20000 in
theorem zw_1374 : Cond.selects RX4 yX4_flatHash yX4_flatHash ∈ zbig := zw_of 1374 (by decide +kernel) (by decide +kernel)
set_option maxRecDepth 20000 in
theorem zw_1375 : Cond.code yX4_flatHash cX4_flatHash 2 (some .int) ∈ zbig := zw_of 1375 (by decide +kernel) (by decide +kernel)
set_option maxRecDepth 20000 in
theorem zw_1376 : Cond.methodLink RL 210 yX4_text ∈ zbig := zw_of 1376 (by decide +kernel) (by decide +kernel)
set_option maxRecDepth 20000 in
theorem zw_1377 : Cond.instanceMethod yX4_text ∈ zbig := zw_of 1377 (by decide +kernel) (by decide +kernel)
set_option maxRecDepth 20000 in
theorem zw_1378 : Cond.selects RX4 yX4_text yX4_text ∈ zbig := zw_of 1378 (by decide +kernel) (by decide +kernel)
set_option maxRecDepth 20000 in
theorem zw_1379 : Cond.code yX4_text cX4_text 2 (some (.object "java/lang/String")) ∈ zbig := zw_of 1379 (by decide +kernel) (by decide +kernel)
set_option maxRecDepth 20000 in
theorem zw_1428 : Cond.methodLink RL 219 yX4_differ ∈ zbig := zw_of 1428 (by decide +kernel) (by decide +kernel)
set_option maxRecDepth 20000 in
theorem zw_1429 : Cond.instanceMethod yX4_differ ∈ zbig := zw_of 1429 (by decide +kernel) (by decide +kernel)
set_option maxRecDepth 20000 in
theorem zw_1430 : Cond.selects RX4 yX4_differ yX4_differ ∈ zbig := zw_of 1430 (by decide +kernel) (by decide +kernel)
set_option maxRecDepth 20000 in
theorem zw_1431 : Cond.code yX4_differ cX4_differ 3 (some .int) ∈ zbig := zw_of 1431 (by decide +kernel) (by decide +kernel)
set_option maxRecDepth 20000 in
theorem zw_1432 : Cond.methodLink RL 222 yX4_compare ∈ zbig := zw_of 1432 (by decide +kernel) (by decide +kernel)
set_option maxRecDepth 20000 in
theorem zw_1433 : Cond.instanceMethod yX4_compare ∈ zbig := zw_of 1433 (by decide +kernel) (by decide +kernel)
set_option maxRecDepth 20000 in
theorem zw_1434 : Cond.selects RX4 yX4_compare yX4_compare ∈ zbig := zw_of 1434 (by decide +kernel) (by decide +kernel)
set_option maxRecDepth 20000 in
theorem zw_1435 : Cond.code yX4_compare cX4_compare 6 (some .int) ∈ zbig := zw_of 1435 (by decide +kernel) (by decide +kernel)
set_option maxRecDepth 20000 in
theorem zw_1436 : Cond.methodLink RL 226 yX4_knock ∈ zbig := zw_of 1436 (by decide +kernel) (by decide +kernel)
set_option maxRecDepth 20000 in
theorem zw_1437 : Cond.instanceMethod yX4_knock ∈ zbig := zw_of 1437 (by decide +kernel) (by decide +kernel)
set_option maxRecDepth 20000 in
theorem zw_1438 : Cond.selects RX4 yX4_knock yX4_knock ∈ zbig := zw_of 1438 (by decide +kernel) (by decide +kernel)
set_option maxRecDepth 20000 in
theorem zw_1439 : Cond.code yX4_knock cX4_knock 1 (some .int) ∈ zbig := zw_of 1439 (by decide +kernel) (by decide +kernel)
set_option maxRecDepth 20000 in
theorem zw_1440 : Cond.methodLink RL 229 yX4_house ∈ zbig := zw_of 1440 (by decide +kernel) (by decide +kernel)
set_option maxRecDepth 20000 in
theorem zw_1441 : Cond.instanceMethod yX4_house ∈ zbig := zw_of 1441 (by decide +kernel) (by decide +kernel)
set_option maxRecDepth 20000 in
theorem zw_1442 : Cond.selects RX4 yX4_house yX4_house ∈ zbig := zw_of 1442 (by decide +kernel) (by decide +kernel)
set_option maxRecDepth 20000 in
theorem zw_1443 : Cond.code yX4_house cX4_house 2 (some .int) ∈ zbig := zw_of 1443 (by decide +kernel) (by decide +kernel)
set_option maxRecDepth 20000 in
theorem zw_1444 : Cond.methodLink RX4 214 yX4_houseTold ∈ zbig := zw_of 1444 (by decide +kernel) (by decide +kernel)
set_option maxRecDepth 20000 in
theorem zw_1446 : Cond.instanceMethod yX4_houseTold ∈ zbig := zw_of 1446 (by decide +kernel) (by decide +kernel)
set_option maxRecDepth 20000 in
theorem zw_1447 : Cond.code yX4_houseTold cX4_houseTold 6 (some .int) ∈ zbig := zw_of 1447 (by decide +kernel) (by decide +kernel)
set_option maxRecDepth 20000 in
theorem zw_1449 : Cond.methodLink RL 234 yX4_isSound ∈ zbig := zw_of 1449 (by decide +kernel) (by decide +kernel)
set_option maxRecDepth 20000 in
theorem zw_1450 : Cond.instanceMethod yX4_isSound ∈ zbig := zw_of 1450 (by decide +kernel) (by decide +kernel)
set_option maxRecDepth 20000 in
theorem zw_1451 : Cond.selects RX4 yX4_isSound yX4_isSound ∈ zbig := zw_of 1451 (by decide +kernel) (by decide +kernel)
set_option maxRecDepth 20000 in
theorem zw_1452 : Cond.code yX4_isSound cX4_isSound 1 (some .boolean) ∈ zbig := zw_of 1452 (by decide +kernel) (by decide +kernel)
set_option maxRecDepth 20000 in
theorem zw_1453 : Cond.methodLink RL 239 yX4_digest ∈ zbig := zw_of 1453 (by decide +kernel) (by decide +kernel)
set_option maxRecDepth 20000 in
theorem zw_1454 : Cond.instanceMethod yX4_digest ∈ zbig := zw_of 1454 (by decide +kernel) (by decide +kernel)
set_option maxRecDepth 20000 in
theorem zw_1455 : Cond.selects RX4 yX4_digest yX4_digest ∈ zbig := zw_of 1455 (by decide +kernel) (by decide +kernel)
set_option maxRecDepth 20000 in
theorem zw_1456 : Cond.code yX4_digest cX4_digest 6 (some .long) ∈ zbig := zw_of 1456 (by decide +kernel) (by decide +kernel)
set_option maxRecDepth 20000 in
theorem zw_1457 : Cond.constantLong RX4 219 (7779) ∈ zbig := zw_of 1457 (by decide +kernel) (by decide +kernel)
set_option maxRecDepth 20000 in
theorem zw_1458 : Cond.methodLink RX4 221 yX4_add ∈ zbig := zw_of 1458 (by decide +kernel) (by decide +kernel)
set_option maxRecDepth 20000 in
theorem zw_1459 : Cond.static yX4_add ∈ zbig := zw_of 1459 (by decide +kernel) (by decide +kernel)
set_option maxRecDepth 20000 in
theorem zw_1460 : Cond.code yX4_add cX4_add 4 (some .long) ∈ zbig := zw_of 1460 (by decide +kernel) (by decide +kernel)
set_option maxRecDepth 20000 in
theorem zw_1461 : Cond.constantLong RX4 217 (31) ∈ zbig := zw_of 1461 (by decide +kernel) (by decide +kernel)
