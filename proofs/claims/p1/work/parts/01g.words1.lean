set_option maxRecDepth 20000 in
theorem zw_859 : Cond.classLink RJx4a65c 7 "java/lang/Object" ∈ zbig := zw_of 859 (by decide +kernel) (by decide +kernel)
set_option maxRecDepth 20000 in
theorem zw_863 : Cond.methodLink RL 23 yX1_drop ∈ zbig := zw_of 863 (by decide +kernel) (by decide +kernel)
set_option maxRecDepth 20000 in
theorem zw_864 : Cond.instanceMethod yX1_drop ∈ zbig := zw_of 864 (by decide +kernel) (by decide +kernel)
set_option maxRecDepth 20000 in
theorem zw_865 : Cond.selects RX1 yX1_drop yX1_drop ∈ zbig := zw_of 865 (by decide +kernel) (by decide +kernel)
set_option maxRecDepth 20000 in
theorem zw_866 : Cond.code yX1_drop cX1_drop 1 (some .int) ∈ zbig := zw_of 866 (by decide +kernel) (by decide +kernel)
set_option maxRecDepth 20000 in
theorem zw_867 : Cond.methodLink RX1 69 yJx4a65c_isEmpty_aae02 ∈ zbig := zw_of 867 (by decide +kernel) (by decide +kernel)
set_option maxRecDepth 20000 in
theorem zw_868 : Cond.instanceMethod yJx4a65c_isEmpty_aae02 ∈ zbig := zw_of 868 (by decide +kernel) (by decide +kernel)
set_option maxRecDepth 20000 in
theorem zw_869 : Cond.selects RJx4a65c yJx4a65c_isEmpty_aae02 yJx4a65c_isEmpty_aae02 ∈ zbig := zw_of 869 (by decide +kernel) (by decide +kernel)
set_option maxRecDepth 20000 in
theorem zw_870 : Cond.code yJx4a65c_isEmpty_aae02 cJx4a65c_isEmpty_aae02 1 (some .boolean) ∈ zbig := zw_of 870 (by decide +kernel) (by decide +kernel)
set_option maxRecDepth 20000 in
theorem zw_884 : Cond.classLink RL 31 "java/lang/IndexOutOfBoundsException" ∈ zbig := zw_of 884 (by decide +kernel) (by decide +kernel)
set_option maxRecDepth 20000 in
theorem zw_885 : Cond.methodLink RL 27 yX1_put ∈ zbig := zw_of 885 (by decide +kernel) (by decide +kernel)
set_option maxRecDepth 20000 in
theorem zw_886 : Cond.instanceMethod yX1_put ∈ zbig := zw_of 886 (by decide +kernel) (by decide +kernel)
set_option maxRecDepth 20000 in
theorem zw_887 : Cond.selects RX1 yX1_put yX1_put ∈ zbig := zw_of 887 (by decide +kernel) (by decide +kernel)
set_option maxRecDepth 20000 in
theorem zw_888 : Cond.code yX1_put cX1_put 5 (some .int) ∈ zbig := zw_of 888 (by decide +kernel) (by decide +kernel)
set_option maxRecDepth 20000 in
theorem zw_906 : Cond.methodLink RL 33 yX1_say ∈ zbig := zw_of 906 (by decide +kernel) (by decide +kernel)
set_option maxRecDepth 20000 in
theorem zw_907 : Cond.instanceMethod yX1_say ∈ zbig := zw_of 907 (by decide +kernel) (by decide +kernel)
set_option maxRecDepth 20000 in
theorem zw_908 : Cond.selects RX1 yX1_say yX1_say ∈ zbig := zw_of 908 (by decide +kernel) (by decide +kernel)
set_option maxRecDepth 20000 in
theorem zw_909 : Cond.code yX1_say cX1_say 5 (some .int) ∈ zbig := zw_of 909 (by decide +kernel) (by decide +kernel)
set_option maxRecDepth 20000 in
theorem zw_922 : Cond.methodLink RL 36 yX1_none ∈ zbig := zw_of 922 (by decide +kernel) (by decide +kernel)
set_option maxRecDepth 20000 in
theorem zw_923 : Cond.instanceMethod yX1_none ∈ zbig := zw_of 923 (by decide +kernel) (by decide +kernel)
set_option maxRecDepth 20000 in
theorem zw_924 : Cond.selects RX1 yX1_none yX1_none ∈ zbig := zw_of 924 (by decide +kernel) (by decide +kernel)
set_option maxRecDepth 20000 in
theorem zw_925 : Cond.code yX1_none cX1_none 4 (some .int) ∈ zbig := zw_of 925 (by decide +kernel) (by decide +kernel)
set_option maxRecDepth 20000 in
theorem zw_933 : Cond.methodLink RL 39 yX1_hang ∈ zbig := zw_of 933 (by decide +kernel) (by decide +kernel)
set_option maxRecDepth 20000 in
theorem zw_934 : Cond.instanceMethod yX1_hang ∈ zbig := zw_of 934 (by decide +kernel) (by decide +kernel)
set_option maxRecDepth 20000 in
theorem zw_935 : Cond.selects RX1 yX1_hang yX1_hang ∈ zbig := zw_of 935 (by decide +kernel) (by decide +kernel)
set_option maxRecDepth 20000 in
theorem zw_936 : Cond.code yX1_hang cX1_hang 7 (some .int) ∈ zbig := zw_of 936 (by decide +kernel) (by decide +kernel)
set_option maxRecDepth 20000 in
theorem zw_952 : Cond.methodLink RL 42 yX1_swap ∈ zbig := zw_of 952 (by decide +kernel) (by decide +kernel)
set_option maxRecDepth 20000 in
theorem zw_953 : Cond.instanceMethod yX1_swap ∈ zbig := zw_of 953 (by decide +kernel) (by decide +kernel)
set_option maxRecDepth 20000 in
theorem zw_954 : Cond.selects RX1 yX1_swap yX1_swap ∈ zbig := zw_of 954 (by decide +kernel) (by decide +kernel)
set_option maxRecDepth 20000 in
theorem zw_955 : Cond.code yX1_swap cX1_swap 8 (some .int) ∈ zbig := zw_of 955 (by decide +kernel) (by decide +kernel)
set_option maxRecDepth 20000 in
theorem zw_964 : Cond.methodLink RL 45 yX1_fill ∈ zbig := zw_of 964 (by decide +kernel) (by decide +kernel)
set_option maxRecDepth 20000 in
theorem zw_965 : Cond.instanceMethod yX1_fill ∈ zbig := zw_of 965 (by decide +kernel) (by decide +kernel)
set_option maxRecDepth 20000 in
theorem zw_966 : Cond.selects RX1 yX1_fill yX1_fill ∈ zbig := zw_of 966 (by decide +kernel) (by decide +kernel)
set_option maxRecDepth 20000 in
theorem zw_967 : Cond.code yX1_fill cX1_fill 5 (some .int) ∈ zbig := zw_of 967 (by decide +kernel) (by decide +kernel)
set_option maxRecDepth 20000 in
theorem zw_971 : Cond.methodLink RL 48 yX1_fillRow ∈ zbig := zw_of 971 (by decide +kernel) (by decide +kernel)
set_option maxRecDepth 20000 in
theorem zw_972 : Cond.instanceMethod yX1_fillRow ∈ zbig := zw_of 972 (by decide +kernel) (by decide +kernel)
set_option maxRecDepth 20000 in
theorem zw_973 : Cond.selects RX1 yX1_fillRow yX1_fillRow ∈ zbig := zw_of 973 (by decide +kernel) (by decide +kernel)
set_option maxRecDepth 20000 in
theorem zw_974 : Cond.code yX1_fillRow cX1_fillRow 7 (some .int) ∈ zbig := zw_of 974 (by decide +kernel) (by decide +kernel)
set_option maxRecDepth 20000 in
theorem zw_978 : Cond.methodLink RL 51 yX1_setAll ∈ zbig := zw_of 978 (by decide +kernel) (by decide +kernel)
set_option maxRecDepth 20000 in
theorem zw_979 : Cond.instanceMethod yX1_setAll ∈ zbig := zw_of 979 (by decide +kernel) (by decide +kernel)
set_option maxRecDepth 20000 in
theorem zw_980 : Cond.selects RX1 yX1_setAll yX1_setAll ∈ zbig := zw_of 980 (by decide +kernel) (by decide +kernel)
set_option maxRecDepth 20000 in
theorem zw_981 : Cond.code yX1_setAll cX1_setAll 7 (some .int) ∈ zbig := zw_of 981 (by decide +kernel) (by decide +kernel)
set_option maxRecDepth 20000 in
theorem zw_990 : Cond.methodLink RL 55 yX1_setRows ∈ zbig := zw_of 990 (by decide +kernel) (by decide +kernel)
set_option maxRecDepth 20000 in
theorem zw_991 : Cond.instanceMethod yX1_setRows ∈ zbig := zw_of 991 (by decide +kernel) (by decide +kernel)
set_option maxRecDepth 20000 in
theorem zw_992 : Cond.selects RX1 yX1_setRows yX1_setRows ∈ zbig := zw_of 992 (by decide +kernel) (by decide +kernel)
set_option maxRecDepth 20000 in
theorem zw_993 : Cond.code yX1_setRows cX1_setRows 6 (some .int) ∈ zbig := zw_of 993 (by decide +kernel) (by decide +kernel)
set_option maxRecDepth 20000 in
theorem zw_998 : Cond.methodLink RL 58 yX1_twin ∈ zbig := zw_of 998 (by decide +kernel) (by decide +kernel)
set_option maxRecDepth 20000 in
theorem zw_999 : Cond.instanceMethod yX1_twin ∈ zbig := zw_of 999 (by decide +kernel) (by decide +kernel)
set_option maxRecDepth 20000 in
theorem zw_1000 : Cond.selects RX1 yX1_twin yX1_twin ∈ zbig := zw_of 1000 (by decide +kernel) (by decide +kernel)
set_option maxRecDepth 20000 in
theorem zw_1001 : Cond.code yX1_twin cX1_twin 3 (some .int) ∈ zbig := zw_of 1001 (by decide +kernel) (by decide +kernel)
set_option maxRecDepth 20000 in
theorem zw_1008 : Cond.methodLink RL 62 yX1_deepTwin ∈ zbig := zw_of 1008 (by decide +kernel) (by decide +kernel)
set_option maxRecDepth 20000 in
theorem zw_1009 : Cond.instanceMethod yX1_deepTwin ∈ zbig := zw_of 1009 (by decide +kernel) (by decide +kernel)
set_option maxRecDepth 20000 in
theorem zw_1010 : Cond.selects RX1 yX1_deepTwin yX1_deepTwin ∈ zbig := zw_of 1010 (by decide +kernel) (by decide +kernel)
set_option maxRecDepth 20000 in
theorem zw_1011 : Cond.code yX1_deepTwin cX1_deepTwin 3 (some .int) ∈ zbig := zw_of 1011 (by decide +kernel) (by decide +kernel)
set_option maxRecDepth 20000 in
theorem zw_1021 : Cond.methodLink RL 65 yX1_copy ∈ zbig := zw_of 1021 (by decide +kernel) (by decide +kernel)
set_option maxRecDepth 20000 in
theorem zw_1022 : Cond.instanceMethod yX1_copy ∈ zbig := zw_of 1022 (by decide +kernel) (by decide +kernel)
set_option maxRecDepth 20000 in
theorem zw_1023 : Cond.selects RX1 yX1_copy yX1_copy ∈ zbig := zw_of 1023 (by decide +kernel) (by decide +kernel)
set_option maxRecDepth 20000 in
theorem zw_1024 : Cond.code yX1_copy cX1_copy 4 (some .int) ∈ zbig := zw_of 1024 (by decide +kernel) (by decide +kernel)
set_option maxRecDepth 20000 in
theorem zw_1029 : Cond.methodLink RL 68 yX1_kind ∈ zbig := zw_of 1029 (by decide +kernel) (by decide +kernel)
set_option maxRecDepth 20000 in
theorem zw_1030 : Cond.instanceMethod yX1_kind ∈ zbig := zw_of 1030 (by decide +kernel) (by decide +kernel)
set_option maxRecDepth 20000 in
theorem zw_1031 : Cond.selects RX1 yX1_kind yX1_kind ∈ zbig := zw_of 1031 (by decide +kernel) (by decide +kernel)
set_option maxRecDepth 20000 in
theorem zw_1032 : Cond.code yX1_kind cX1_kind 2 (some .int) ∈ zbig := zw_of 1032 (by decide +kernel) (by decide +kernel)
set_option maxRecDepth 20000 in
theorem zw_1036 : Cond.methodLink RL 71 yX1_length ∈ zbig := zw_of 1036 (by decide +kernel) (by decide +kernel)
set_option maxRecDepth 20000 in
theorem zw_1037 : Cond.instanceMethod yX1_length ∈ zbig := zw_of 1037 (by decide +kernel) (by decide +kernel)
set_option maxRecDepth 20000 in
theorem zw_1038 : Cond.selects RX1 yX1_length yX1_length ∈ zbig := zw_of 1038 (by decide +kernel) (by decide +kernel)
set_option maxRecDepth 20000 in
theorem zw_1039 : Cond.code yX1_length cX1_length 2 (some .int) ∈ zbig := zw_of 1039 (by decide +kernel) (by decide +kernel)
set_option maxRecDepth 20000 in
theorem zw_1043 : Cond.methodLink RL 74 yX1_depth ∈ zbig := zw_of 1043 (by decide +kernel) (by decide +kernel)
set_option maxRecDepth 20000 in
theorem zw_1044 : Cond.instanceMethod yX1_depth ∈ zbig := zw_of 1044 (by decide +kernel) (by decide +kernel)
set_option maxRecDepth 20000 in
theorem zw_1045 : Cond.selects RX1 yX1_depth yX1_depth ∈ zbig := zw_of 1045 (by decide +kernel) (by decide +kernel)
set_option maxRecDepth 20000 in
theorem zw_1046 : Cond.code yX1_depth cX1_depth 2 (some .int) ∈ zbig := zw_of 1046 (by decide +kernel) (by decide +kernel)
set_option maxRecDepth 20000 in
theorem zw_1050 : Cond.methodLink RL 77 yX1_what ∈ zbig := zw_of 1050 (by decide +kernel) (by decide +kernel)
set_option maxRecDepth 20000 in
theorem zw_1054 : Cond.methodLink RL 80 yX1_at ∈ zbig := zw_of 1054 (by decide +kernel) (by decide +kernel)
set_option maxRecDepth 20000 in
theorem zw_1058 : Cond.methodLink RL 83 yX1_isDeep ∈ zbig := zw_of 1058 (by decide +kernel) (by decide +kernel)
set_option maxRecDepth 20000 in
theorem zw_1062 : Cond.methodLink RL 87 yX1_isFlat ∈ zbig := zw_of 1062 (by decide +kernel) (by decide +kernel)
set_option maxRecDepth 20000 in
theorem zw_1063 : Cond.instanceMethod yX1_isFlat ∈ zbig := zw_of 1063 (by decide +kernel) (by decide +kernel)
set_option maxRecDepth 20000 in
theorem zw_1064 : Cond.selects RX1 yX1_isFlat yX1_isFlat ∈ zbig := zw_of 1064 (by decide +kernel) (by decide +kernel)
set_option maxRecDepth 20000 in
theorem zw_1065 : Cond.code yX1_isFlat cX1_isFlat 5 (some .boolean) ∈ zbig := zw_of 1065 (by decide +kernel) (by decide +kernel)
set_option maxRecDepth 20000 in
theorem zw_1073 : Cond.methodLink RL 90 yX1_areDeep ∈ zbig := zw_of 1073 (by decide +kernel) (by decide +kernel)
set_option maxRecDepth 20000 in
theorem zw_1074 : Cond.instanceMethod yX1_areDeep ∈ zbig := zw_of 1074 (by decide +kernel) (by decide +kernel)
set_option maxRecDepth 20000 in
theorem zw_1075 : Cond.selects RX1 yX1_areDeep yX1_areDeep ∈ zbig := zw_of 1075 (by decide +kernel) (by decide +kernel)
set_option maxRecDepth 20000 in
theorem zw_1076 : Cond.code yX1_areDeep cX1_areDeep 7 (some .boolean) ∈ zbig := zw_of 1076 (by decide +kernel) (by decide +kernel)
set_option maxRecDepth 20000 in
theorem zw_1080 : Cond.methodLink RL 94 yX1_hash ∈ zbig := zw_of 1080 (by decide +kernel) (by decide +kernel)
set_option maxRecDepth 20000 in
theorem zw_1081 : Cond.instanceMethod yX1_hash ∈ zbig := zw_of 1081 (by decide +kernel) (by decide +kernel)
set_option maxRecDepth 20000 in
theorem zw_1082 : Cond.selects RX1 yX1_hash yX1_hash ∈ zbig := zw_of 1082 (by decide +kernel) (by decide +kernel)
set_option maxRecDepth 20000 in
theorem zw_1083 : Cond.code yX1_hash cX1_hash 2 (some .int) ∈ zbig := zw_of 1083 (by decide +kernel) (by decide +kernel)
set_option maxRecDepth 20000 in
theorem zw_1087 : Cond.methodLink RL 97 yX1_flatHash ∈ zbig := zw_of 1087 (by decide +kernel) (by decide +kernel)
set_option maxRecDepth 20000 in
theorem zw_1088 : Cond.instanceMethod yX1_flatHash ∈ zbig := zw_of 1088 (by decide +kernel) (by decide +kernel)
set_option maxRecDepth 20000 in
theorem zw_1089 : Cond.selects RX1 yX1_flatHash yX1_flatHash ∈ zbig := zw_of 1089 (by decide +kernel) (by decide +kernel)
set_option maxRecDepth 20000 in
theorem zw_1090 : Cond.code yX1_flatHash cX1_flatHash 4 (some .int) ∈ zbig := zw_of 1090 (by decide +kernel) (by decide +kernel)
set_option maxRecDepth 20000 in
theorem zw_1095 : Cond.methodLink RL 100 yX1_text ∈ zbig := zw_of 1095 (by decide +kernel) (by decide +kernel)
set_option maxRecDepth 20000 in
theorem zw_1096 : Cond.instanceMethod yX1_text ∈ zbig := zw_of 1096 (by decide +kernel) (by decide +kernel)
set_option maxRecDepth 20000 in
theorem zw_1097 : Cond.selects RX1 yX1_text yX1_text ∈ zbig := zw_of 1097 (by decide +kernel) (by decide +kernel)
set_option maxRecDepth 20000 in
theorem zw_1098 : Cond.code yX1_text cX1_text 2 (some (.object "java/lang/String")) ∈ zbig := zw_of 1098 (by decide +kernel) (by decide +kernel)
set_option maxRecDepth 20000 in
theorem zw_1103 : Cond.methodLink RL 108 yX1_differ ∈ zbig := zw_of 1103 (by decide +kernel) (by decide +kernel)
set_option maxRecDepth 20000 in
theorem zw_1104 : Cond.instanceMethod yX1_differ ∈ zbig := zw_of 1104 (by decide +kernel) (by decide +kernel)
set_option maxRecDepth 20000 in
theorem zw_1105 : Cond.selects RX1 yX1_differ yX1_differ ∈ zbig := zw_of 1105 (by decide +kernel) (by decide +kernel)
set_option maxRecDepth 20000 in
theorem zw_1106 : Cond.code yX1_differ cX1_differ 5 (some .int) ∈ zbig := zw_of 1106 (by decide +kernel) (by decide +kernel)
set_option maxRecDepth 20000 in
theorem zw_1110 : Cond.methodLink RL 111 yX1_compare ∈ zbig := zw_of 1110 (by decide +kernel) (by decide +kernel)
set_option maxRecDepth 20000 in
theorem zw_1111 : Cond.instanceMethod yX1_compare ∈ zbig := zw_of 1111 (by decide +kernel) (by decide +kernel)
set_option maxRecDepth 20000 in
theorem zw_1112 : Cond.selects RX1 yX1_compare yX1_compare ∈ zbig := zw_of 1112 (by decide +kernel) (by decide +kernel)
set_option maxRecDepth 20000 in
theorem zw_1113 : Cond.code yX1_compare cX1_compare 7 (some .int) ∈ zbig := zw_of 1113 (by decide +kernel) (by decide +kernel)
set_option maxRecDepth 20000 in
theorem zw_1118 : Cond.methodLink RL 114 yX1_house ∈ zbig := zw_of 1118 (by decide +kernel) (by decide +kernel)
set_option maxRecDepth 20000 in
theorem zw_1124 : Cond.methodLink RX4 1 objectInit ∈ zbig := zw_of 1124 (by decide +kernel) (by decide +kernel)
set_option maxRecDepth 20000 in
theorem zw_1125 : Cond.classLink RX4 7 RJx4a65c ∈ zbig := zw_of 1125 (by decide +kernel) (by decide +kernel)
set_option maxRecDepth 20000 in
theorem zw_1126 : Cond.methodLink RX4 9 yJx4a65c_init_da8c8 ∈ zbig := zw_of 1126 (by decide +kernel) (by decide +kernel)
set_option maxRecDepth 20000 in
theorem zw_1127 : Cond.fieldLink RX4 16 "DeeprowsModel" "thrown" "I" ∈ zbig := zw_of 1127 (by decide +kernel) (by decide +kernel)
set_option maxRecDepth 20000 in
theorem zw_1128 : Cond.fieldLink RX4 10 "DeeprowsModel" "rows" "Ljava/util/ArrayList;" ∈ zbig := zw_of 1128 (by decide +kernel) (by decide +kernel)
set_option maxRecDepth 20000 in
theorem zw_1129 : Cond.fieldLink RX4 120 "DeeprowsModel" "made" "I" ∈ zbig := zw_of 1129 (by decide +kernel) (by decide +kernel)
set_option maxRecDepth 20000 in
theorem zw_1130 : Cond.fieldLink RX4 114 "DeeprowsModel" "refused" "I" ∈ zbig := zw_of 1130 (by decide +kernel) (by decide +kernel)
set_option maxRecDepth 20000 in
theorem zw_1131 : Cond.fieldLink RX4 207 "DeeprowsModel" "knocked" "I" ∈ zbig := zw_of 1131 (by decide +kernel) (by decide +kernel)
set_option maxRecDepth 20000 in
theorem zw_1151 : Cond.methodLink RX4 28 yX4_isIn ∈ zbig := zw_of 1151 (by decide +kernel) (by decide +kernel)
set_option maxRecDepth 20000 in
theorem zw_1152 : Cond.static yX4_isIn ∈ zbig := zw_of 1152 (by decide +kernel) (by decide +kernel)
set_option maxRecDepth 20000 in
theorem zw_1153 : Cond.code yX4_isIn cX4_isIn 3 (some .boolean) ∈ zbig := zw_of 1153 (by decide +kernel) (by decide +kernel)
set_option maxRecDepth 20000 in
theorem zw_1154 : Cond.methodLink RX4 73 yX4_start ∈ zbig := zw_of 1154 (by decide +kernel) (by decide +kernel)
set_option maxRecDepth 20000 in
theorem zw_1156 : Cond.instanceMethod yX4_start ∈ zbig := zw_of 1156 (by decide +kernel) (by decide +kernel)
set_option maxRecDepth 20000 in
theorem zw_1157 : Cond.code yX4_start cX4_start 3 (some .boolean) ∈ zbig := zw_of 1157 (by decide +kernel) (by decide +kernel)
set_option maxRecDepth 20000 in
theorem zw_1158 : Cond.methodLink RX4 20 yX4_refuse ∈ zbig := zw_of 1158 (by decide +kernel) (by decide +kernel)
set_option maxRecDepth 20000 in
theorem zw_1160 : Cond.instanceMethod yX4_refuse ∈ zbig := zw_of 1160 (by decide +kernel) (by decide +kernel)
set_option maxRecDepth 20000 in
theorem zw_1161 : Cond.code yX4_refuse cX4_refuse 3 (some .boolean) ∈ zbig := zw_of 1161 (by decide +kernel) (by decide +kernel)
set_option maxRecDepth 20000 in
theorem zw_1162 : Cond.methodLink RX4 24 yJx4a65c_size_8abf5 ∈ zbig := zw_of 1162 (by decide +kernel) (by decide +kernel)
set_option maxRecDepth 20000 in
theorem zw_1163 : Cond.classLink RX4 40 "DeeprowsModel$Row" ∈ zbig := zw_of 1163 (by decide +kernel) (by decide +kernel)
set_option maxRecDepth 20000 in
theorem zw_1164 : Cond.instantiable RX3 3 ∈ zbig := zw_of 1164 (by decide +kernel) (by decide +kernel)
set_option maxRecDepth 20000 in
theorem zw_1165 : Cond.methodLink RX4 76 yX3_init ∈ zbig := zw_of 1165 (by decide +kernel) (by decide +kernel)
set_option maxRecDepth 20000 in
theorem zw_1166 : Cond.instanceMethod yX3_init ∈ zbig := zw_of 1166 (by decide +kernel) (by decide +kernel)
set_option maxRecDepth 20000 in
theorem zw_1167 : Cond.code yX3_init cX3_init 4 none ∈ zbig := zw_of 1167 (by decide +kernel) (by decide +kernel)
set_option maxRecDepth 20000 in
theorem zw_1168 : Cond.methodLink RX3 3 objectInit ∈ zbig := zw_of 1168 (by decide +kernel) (by decide +kernel)
set_option maxRecDepth 20000 in
theorem zw_1169 : Cond.methodLink RX3 22 yX3_put ∈ zbig := zw_of 1169 (by decide +kernel) (by decide +kernel)
set_option maxRecDepth 20000 in
theorem zw_1170 : Cond.instanceMethod yX3_put ∈ zbig := zw_of 1170 (by decide +kernel) (by decide +kernel)
set_option maxRecDepth 20000 in
theorem zw_1171 : Cond.selects RX3 yX3_put yX3_put ∈ zbig := zw_of 1171 (by decide +kernel) (by decide +kernel)
set_option maxRecDepth 20000 in
theorem zw_1172 : Cond.code yX3_put cX3_put 4 none ∈ zbig := zw_of 1172 (by decide +kernel) (by decide +kernel)
set_option maxRecDepth 20000 in
theorem zw_1173 : Cond.fieldLink RX3 9 "DeeprowsModel$Row" "kind" "I" ∈ zbig := zw_of 1173 (by decide +kernel) (by decide +kernel)
set_option maxRecDepth 20000 in
theorem zw_1175 : Cond.fieldLink RX3 15 "DeeprowsModel$Row" "whats" "[I" ∈ zbig := zw_of 1175 (by decide +kernel) (by decide +kernel)
set_option maxRecDepth 20000 in
theorem zw_1177 : Cond.fieldLink RX3 19 "DeeprowsModel$Row" "numbers" "[I" ∈ zbig := zw_of 1177 (by decide +kernel) (by decide +kernel)
set_option maxRecDepth 20000 in
theorem zw_1186 : Cond.methodLink RX4 79 yJx4a65c_add_9ea2d ∈ zbig := zw_of 1186 (by decide +kernel) (by decide +kernel)
set_option maxRecDepth 20000 in
theorem zw_1191 : Cond.methodLink RX4 83 yJx4a65c_isEmpty_aae02 ∈ zbig := zw_of 1191 (by decide +kernel) (by decide +kernel)
set_option maxRecDepth 20000 in
theorem zw_1197 : Cond.methodLink RX4 90 yJx4a65c_clear_da8c8 ∈ zbig := zw_of 1197 (by decide +kernel) (by decide +kernel)
set_option maxRecDepth 20000 in
theorem zw_1202 : Cond.methodLink RX4 93 yX4_isNoPlace ∈ zbig := zw_of 1202 (by decide +kernel) (by decide +kernel)
set_option maxRecDepth 20000 in
theorem zw_1204 : Cond.instanceMethod yX4_isNoPlace ∈ zbig := zw_of 1204 (by decide +kernel) (by decide +kernel)
set_option maxRecDepth 20000 in
theorem zw_1205 : Cond.code yX4_isNoPlace cX4_isNoPlace 3 (some .boolean) ∈ zbig := zw_of 1205 (by decide +kernel) (by decide +kernel)
set_option maxRecDepth 20000 in
theorem zw_1206 : Cond.methodLink RX4 32 yX4_isNoRow ∈ zbig := zw_of 1206 (by decide +kernel) (by decide +kernel)
set_option maxRecDepth 20000 in
theorem zw_1208 : Cond.instanceMethod yX4_isNoRow ∈ zbig := zw_of 1208 (by decide +kernel) (by decide +kernel)
set_option maxRecDepth 20000 in
theorem zw_1209 : Cond.code yX4_isNoRow cX4_isNoRow 2 (some .boolean) ∈ zbig := zw_of 1209 (by decide +kernel) (by decide +kernel)
set_option maxRecDepth 20000 in
theorem zw_1444 : Cond.methodLink RX4 214 yX4_houseTold ∈ zbig := zw_of 1444 (by decide +kernel) (by decide +kernel)
set_option maxRecDepth 20000 in
theorem zw_1446 : Cond.instanceMethod yX4_houseTold ∈ zbig := zw_of 1446 (by decide +kernel) (by decide +kernel)
set_option maxRecDepth 20000 in
theorem zw_1447 : Cond.code yX4_houseTold cX4_houseTold 6 (some .int) ∈ zbig := zw_of 1447 (by decide +kernel) (by decide +kernel)
set_option maxRecDepth 20000 in
theorem zw_1457 : Cond.constantLong RX4 219 (7779) ∈ zbig := zw_of 1457 (by decide +kernel) (by decide +kernel)
set_option maxRecDepth 20000 in
theorem zw_1458 : Cond.methodLink RX4 221 yX4_add ∈ zbig := zw_of 1458 (by decide +kernel) (by decide +kernel)
set_option maxRecDepth 20000 in
theorem zw_1459 : Cond.static yX4_add ∈ zbig := zw_of 1459 (by decide +kernel) (by decide +kernel)
set_option maxRecDepth 20000 in
theorem zw_1460 : Cond.code yX4_add cX4_add 4 (some .long) ∈ zbig := zw_of 1460 (by decide +kernel) (by decide +kernel)
set_option maxRecDepth 20000 in
theorem zw_1461 : Cond.constantLong RX4 217 (31) ∈ zbig := zw_of 1461 (by decide +kernel) (by decide +kernel)
