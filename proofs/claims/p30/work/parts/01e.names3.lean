set_option maxRecDepth 20000 in
theorem ggX4_fillRow_X4_depthOf : GoodIn wsX4_fillRow wsX4_depthOf := goodIn_ca (goodIn_r _ [84, 48, 1, 2, 60, 85, 86, 87, 88, 27, 28, 29, 12, 30, 14, 31, 32, 33, 34, 35, 36, 37, 38, 39, 40, 41, 42, 43, 49, 50, 51, 52, 53, 54, 89, 90, 91, 92, 93, 94, 95, 96, 97, 98, 99, 100, 101, 102, 103] (by decide +kernel) (by decide +kernel)) (goodIn_sub (fun _ h => List.mem_cons_of_mem _ (List.mem_append_right _ h)) (by decide +kernel))
set_option maxRecDepth 20000 in
theorem gX4_fillRow_X4_depthOf : GoodIn wsX4_fillRow (wsV RX4 66 RX4 yX4_depthOf wsX4_depthOf) := goodIn_app (goodIn_of _ (by decide +kernel)) ggX4_fillRow_X4_depthOf
theorem dX4_fillRow_0 : decode cX4_fillRow 0 = .ok (.aload_n 0, 1) := by decide +kernel
theorem dX4_fillRow_1 : decode cX4_fillRow 1 = .ok (.aload_n 0, 1) := by decide +kernel
theorem dX4_fillRow_2 : decode cX4_fillRow 2 = .ok (.iload_n 1, 1) := by decide +kernel
theorem dX4_fillRow_3 : decode cX4_fillRow 3 = .ok (.invokevirtual 32, 3) := by decide +kernel
theorem dX4_fillRow_6 : decode cX4_fillRow 6 = .ok (.ifCond .ne 11, 3) := by decide +kernel
theorem dX4_fillRow_9 : decode cX4_fillRow 9 = .ok (.aload_n 0, 1) := by decide +kernel
theorem dX4_fillRow_10 : decode cX4_fillRow 10 = .ok (.iload_n 2, 1) := by decide +kernel
theorem dX4_fillRow_11 : decode cX4_fillRow 11 = .ok (.invokevirtual 32, 3) := by decide +kernel
theorem dX4_fillRow_14 : decode cX4_fillRow 14 = .ok (.ifCond .eq 7, 3) := by decide +kernel
theorem dX4_fillRow_17 : decode cX4_fillRow 17 = .ok (.iconst 1, 1) := by decide +kernel
theorem dX4_fillRow_18 : decode cX4_fillRow 18 = .ok (.goto 4, 3) := by decide +kernel
theorem dX4_fillRow_21 : decode cX4_fillRow 21 = .ok (.iconst 0, 1) := by decide +kernel
theorem dX4_fillRow_22 : decode cX4_fillRow 22 = .ok (.iconst 1, 1) := by decide +kernel
theorem dX4_fillRow_23 : decode cX4_fillRow 23 = .ok (.invokevirtual 73, 3) := by decide +kernel
theorem dX4_fillRow_26 : decode cX4_fillRow 26 = .ok (.ifCond .ne 52, 3) := by decide +kernel
theorem dX4_fillRow_29 : decode cX4_fillRow 29 = .ok (.aload_n 0, 1) := by decide +kernel
theorem dX4_fillRow_30 : decode cX4_fillRow 30 = .ok (.aload_n 0, 1) := by decide +kernel
theorem dX4_fillRow_31 : decode cX4_fillRow 31 = .ok (.getfield 10, 3) := by decide +kernel
theorem dX4_fillRow_34 : decode cX4_fillRow 34 = .ok (.iload_n 1, 1) := by decide +kernel
theorem dX4_fillRow_35 : decode cX4_fillRow 35 = .ok (.invokevirtual 36, 3) := by decide +kernel
theorem dX4_fillRow_38 : decode cX4_fillRow 38 = .ok (.checkcast 40, 3) := by decide +kernel
theorem dX4_fillRow_41 : decode cX4_fillRow 41 = .ok (.getfield 103, 3) := by decide +kernel
theorem dX4_fillRow_44 : decode cX4_fillRow 44 = .ok (.iconst 4, 1) := by decide +kernel
theorem dX4_fillRow_45 : decode cX4_fillRow 45 = .ok (.if_icmp .eq 7, 3) := by decide +kernel
theorem dX4_fillRow_48 : decode cX4_fillRow 48 = .ok (.iconst 1, 1) := by decide +kernel
theorem dX4_fillRow_49 : decode cX4_fillRow 49 = .ok (.goto 4, 3) := by decide +kernel
theorem dX4_fillRow_52 : decode cX4_fillRow 52 = .ok (.iconst 0, 1) := by decide +kernel
theorem dX4_fillRow_53 : decode cX4_fillRow 53 = .ok (.iconst 2, 1) := by decide +kernel
theorem dX4_fillRow_54 : decode cX4_fillRow 54 = .ok (.invokevirtual 20, 3) := by decide +kernel
theorem dX4_fillRow_57 : decode cX4_fillRow 57 = .ok (.ifCond .ne 21, 3) := by decide +kernel
theorem dX4_fillRow_60 : decode cX4_fillRow 60 = .ok (.aload_n 0, 1) := by decide +kernel
theorem dX4_fillRow_61 : decode cX4_fillRow 61 = .ok (.iload_n 2, 1) := by decide +kernel
theorem dX4_fillRow_62 : decode cX4_fillRow 62 = .ok (.iload_n 1, 1) := by decide +kernel
theorem dX4_fillRow_63 : decode cX4_fillRow 63 = .ok (.if_icmp .lt 7, 3) := by decide +kernel
theorem dX4_fillRow_66 : decode cX4_fillRow 66 = .ok (.iconst 1, 1) := by decide +kernel
theorem dX4_fillRow_67 : decode cX4_fillRow 67 = .ok (.goto 4, 3) := by decide +kernel
theorem dX4_fillRow_70 : decode cX4_fillRow 70 = .ok (.iconst 0, 1) := by decide +kernel
theorem dX4_fillRow_71 : decode cX4_fillRow 71 = .ok (.iconst 3, 1) := by decide +kernel
theorem dX4_fillRow_72 : decode cX4_fillRow 72 = .ok (.invokevirtual 20, 3) := by decide +kernel
theorem dX4_fillRow_75 : decode cX4_fillRow 75 = .ok (.ifCond .eq 5, 3) := by decide +kernel
theorem dX4_fillRow_78 : decode cX4_fillRow 78 = .ok (.iconst 0, 1) := by decide +kernel
theorem dX4_fillRow_79 : decode cX4_fillRow 79 = .ok (.ireturn, 1) := by decide +kernel
theorem dX4_fillRow_80 : decode cX4_fillRow 80 = .ok (.aload_n 0, 1) := by decide +kernel
theorem dX4_fillRow_81 : decode cX4_fillRow 81 = .ok (.iload_n 1, 1) := by decide +kernel
theorem dX4_fillRow_82 : decode cX4_fillRow 82 = .ok (.invokevirtual 106, 3) := by decide +kernel
theorem dX4_fillRow_85 : decode cX4_fillRow 85 = .ok (.astore_n 3, 1) := by decide +kernel
theorem dX4_fillRow_86 : decode cX4_fillRow 86 = .ok (.iconst 0, 1) := by decide +kernel
theorem dX4_fillRow_87 : decode cX4_fillRow 87 = .ok (.istore 4, 2) := by decide +kernel
theorem dX4_fillRow_89 : decode cX4_fillRow 89 = .ok (.iload 4, 2) := by decide +kernel
theorem dX4_fillRow_91 : decode cX4_fillRow 91 = .ok (.aload_n 3, 1) := by decide +kernel
theorem dX4_fillRow_92 : decode cX4_fillRow 92 = .ok (.arraylength, 1) := by decide +kernel
theorem dX4_fillRow_93 : decode cX4_fillRow 93 = .ok (.if_icmp .ge 14, 3) := by decide +kernel
theorem dX4_fillRow_96 : decode cX4_fillRow 96 = .ok (.aload_n 3, 1) := by decide +kernel
theorem dX4_fillRow_97 : decode cX4_fillRow 97 = .ok (.iload 4, 2) := by decide +kernel
theorem dX4_fillRow_99 : decode cX4_fillRow 99 = .ok (.iload_n 2, 1) := by decide +kernel
theorem dX4_fillRow_100 : decode cX4_fillRow 100 = .ok (.iastore, 1) := by decide +kernel
theorem dX4_fillRow_101 : decode cX4_fillRow 101 = .ok (.iinc 4 1, 3) := by decide +kernel
theorem dX4_fillRow_104 : decode cX4_fillRow 104 = .ok (.goto (-15), 3) := by decide +kernel
theorem dX4_fillRow_107 : decode cX4_fillRow 107 = .ok (.aload_n 0, 1) := by decide +kernel
theorem dX4_fillRow_108 : decode cX4_fillRow 108 = .ok (.aload_n 0, 1) := by decide +kernel
theorem dX4_fillRow_109 : decode cX4_fillRow 109 = .ok (.iload_n 1, 1) := by decide +kernel
theorem dX4_fillRow_110 : decode cX4_fillRow 110 = .ok (.aload_n 3, 1) := by decide +kernel
theorem dX4_fillRow_111 : decode cX4_fillRow 111 = .ok (.invokevirtual 110, 3) := by decide +kernel
theorem dX4_fillRow_114 : decode cX4_fillRow 114 = .ok (.ifCond .ne 7, 3) := by decide +kernel
theorem dX4_fillRow_117 : decode cX4_fillRow 117 = .ok (.iconst 1, 1) := by decide +kernel
theorem dX4_fillRow_118 : decode cX4_fillRow 118 = .ok (.goto 4, 3) := by decide +kernel
theorem dX4_fillRow_121 : decode cX4_fillRow 121 = .ok (.iconst 0, 1) := by decide +kernel
theorem dX4_fillRow_122 : decode cX4_fillRow 122 = .ok (.iconst 3, 1) := by decide +kernel
theorem dX4_fillRow_123 : decode cX4_fillRow 123 = .ok (.invokevirtual 20, 3) := by decide +kernel
theorem dX4_fillRow_126 : decode cX4_fillRow 126 = .ok (.ifCond .eq 7, 3) := by decide +kernel
theorem dX4_fillRow_129 : decode cX4_fillRow 129 = .ok (.iconst 0, 1) := by decide +kernel
theorem dX4_fillRow_130 : decode cX4_fillRow 130 = .ok (.goto 8, 3) := by decide +kernel
theorem dX4_fillRow_133 : decode cX4_fillRow 133 = .ok (.aload_n 0, 1) := by decide +kernel
theorem dX4_fillRow_134 : decode cX4_fillRow 134 = .ok (.iload_n 1, 1) := by decide +kernel
theorem dX4_fillRow_135 : decode cX4_fillRow 135 = .ok (.invokevirtual 66, 3) := by decide +kernel
theorem dX4_fillRow_138 : decode cX4_fillRow 138 = .ok (.ireturn, 1) := by decide +kernel
set_option maxRecDepth 20000 in
theorem ggX4_textAt_J4_init_da8c8 : GoodIn wsX4_textAt wsJ4_init_da8c8 := goodIn_r _ [11, 12, 13, 14, 15, 16, 17, 18, 19, 20, 21, 22, 23, 24, 25, 26, 27, 28, 29, 30, 328, 329, 330, 331] (by decide +kernel) (by decide +kernel)
set_option maxRecDepth 20000 in
theorem gX4_textAt_J4_init_da8c8 : GoodIn wsX4_textAt (wsJ4_init_da8c8) := ggX4_textAt_J4_init_da8c8
set_option maxRecDepth 20000 in
theorem ggX4_textAt_J4_append_15ec4 : GoodIn wsX4_textAt wsJ4_append_15ec4 := goodIn_r _ [34, 35, 36, 37, 38, 14, 39, 40, 41, 42, 43, 44, 45, 21, 46, 47, 48, 49, 50, 22, 51, 52, 53, 54, 55, 56, 57, 58, 59, 60, 61, 62, 63, 64, 65, 66, 67, 68, 69, 70, 71, 72, 73, 74, 75, 76, 77, 78, 20, 79, 80, 81, 82, 83, 84, 85, 86, 87, 88, 89, 90, 19, 91, 92, 25, 93, 94, 95, 96, 97, 98, 99, 100, 101, 102, 103, 104, 105, 106, 107, 108, 109, 110, 111, 112, 113, 114, 115, 116, 117, 118, 119, 120, 121, 122, 123, 124, 125, 126, 127, 128, 129, 130, 131, 132, 133, 134, 135, 136, 137, 138, 139, 140, 141, 23, 24, 26, 27, 28, 29, 30, 142, 143, 144, 145, 146, 147, 148, 149, 150, 151, 152, 153, 154, 155, 156, 157, 158, 159, 160, 161, 162, 163, 328, 329, 330, 331, 332, 333, 334, 335] (by decide +kernel) (by decide +kernel)
set_option maxRecDepth 20000 in
theorem gX4_textAt_J4_append_15ec4 : GoodIn wsX4_textAt (wsV RX4 170 RJ4 yJ4_append_15ec4 wsJ4_append_15ec4) := goodIn_app (goodIn_of _ (by decide +kernel)) ggX4_textAt_J4_append_15ec4
set_option maxRecDepth 20000 in
theorem ggX4_textAt_J4_toString_0e30d : GoodIn wsX4_textAt wsJ4_toString_0e30d := goodIn_r _ [192, 193, 194, 103, 195, 196, 197, 198, 199, 200, 201, 17, 18, 125, 119, 124, 202, 203, 204, 205, 206, 14, 207, 21, 208, 209, 210, 211, 212, 5, 213, 214, 37, 215, 216, 40, 217, 87, 88, 89, 90, 19, 22, 218, 219, 71, 220, 73, 74, 75, 76, 77, 78, 221, 222, 223, 20, 79, 80, 63, 81, 82, 83, 84, 85, 224, 225, 226, 227, 4, 228, 229, 25, 230, 231, 232, 233, 149, 150, 151, 98, 99, 100, 152, 153, 154, 105, 155, 156, 108, 157, 234, 235, 236, 94, 113, 114, 27, 28, 29, 30, 237, 238, 239, 240, 332, 333, 334, 335, 328, 329, 330, 331] (by decide +kernel) (by decide +kernel)
set_option maxRecDepth 20000 in
theorem gX4_textAt_J4_toString_0e30d : GoodIn wsX4_textAt (wsV RX4 177 RJ4 yJ4_toString_0e30d wsJ4_toString_0e30d) := goodIn_app (goodIn_of _ (by decide +kernel)) ggX4_textAt_J4_toString_0e30d
set_option maxRecDepth 20000 in
theorem ggX4_textAt_J4_append_cf468 : GoodIn wsX4_textAt wsJ4_append_cf468 := goodIn_r _ [273, 274, 275, 37, 276, 14, 277, 40, 21, 46, 47, 48, 49, 50, 22, 51, 52, 53, 54, 55, 56, 57, 58, 59, 60, 61, 62, 63, 64, 65, 66, 67, 68, 69, 70, 71, 72, 73, 74, 75, 76, 77, 78, 20, 79, 80, 81, 82, 83, 84, 85, 86, 87, 88, 89, 90, 19, 278, 279, 144, 280, 137, 138, 139, 140, 141, 23, 24, 25, 26, 27, 28, 29, 30, 142, 143, 145, 146, 147, 148, 149, 150, 151, 98, 99, 100, 152, 153, 103, 154, 105, 155, 156, 108, 157, 110, 111, 112, 94, 113, 114, 281, 282, 283, 284, 285, 286, 287, 288, 289, 290, 291, 292, 328, 329, 330, 331] (by decide +kernel) (by decide +kernel)
set_option maxRecDepth 20000 in
theorem gX4_textAt_J4_append_cf468 : GoodIn wsX4_textAt (wsV RX4 188 RJ4 yJ4_append_cf468 wsJ4_append_cf468) := goodIn_app (goodIn_of _ (by decide +kernel)) ggX4_textAt_J4_append_cf468
set_option maxRecDepth 20000 in
theorem ggX4_textAt_X4_textOf : GoodIn wsX4_textAt wsX4_textOf := goodIn_ca (goodIn_r _ [297, 298, 299, 3, 4, 5, 300, 301, 302, 303, 304, 305, 306, 307, 308, 309, 310, 291, 108, 292, 311, 312, 313, 314, 315, 316, 317, 318, 319, 320, 321, 9, 10, 11, 12, 13, 14, 15, 16, 17, 18, 19, 20, 21, 22, 23, 24, 25, 26, 27, 28, 29, 30, 31, 32, 33, 34, 35, 36, 37, 38, 39, 40, 41, 42, 43, 44, 45, 46, 47, 48, 49, 50, 51, 52, 53, 54, 55, 56, 57, 58, 59, 60, 61, 62, 63, 64, 65, 66, 67, 68, 69, 70, 71, 72, 73, 74, 75, 76, 77, 78, 79, 80, 81, 82, 83, 84, 85, 86, 87, 88, 89, 90, 91, 92, 93, 94, 95, 96, 97, 98, 99, 100, 101, 102, 103, 104, 105, 106, 107, 109, 110, 111, 112, 113, 114, 115, 116, 117, 118, 119, 120, 121, 122, 123, 124, 125, 126, 127, 128, 129, 130, 131, 132, 133, 134, 135, 136, 137, 138, 139, 140, 141, 142, 143, 144, 145, 146, 147, 148, 149, 150, 151, 152, 153, 154, 155, 156, 157, 158, 159, 160, 161, 162, 163, 322, 323, 324, 296, 189, 190, 191, 192, 193, 194, 195, 196, 197, 198, 199, 200, 201, 202, 203, 204, 205, 206, 207, 208, 209, 210, 211, 212, 213, 214, 215, 216, 217, 218, 219, 220, 221, 222, 223, 224, 225, 226, 227, 228, 229, 230, 231, 232, 233, 234, 235, 236, 237, 238, 239, 240, 0, 1, 2, 6, 7, 8, 164, 165, 166, 167, 168, 169, 170, 171, 172, 173, 174, 175, 176, 177, 178, 179, 180, 181, 182, 183, 184, 185, 186, 187, 188, 241, 242, 243, 244, 245, 246, 247, 248, 249, 250, 251, 252, 253, 254, 255, 256, 257, 258, 259, 260, 261, 262, 263, 264, 265, 266, 267, 268, 269, 270, 271, 272, 273, 274, 275, 276, 277, 278, 279, 280, 281, 282, 283, 284, 285, 286, 287, 288, 289, 290, 293, 294, 295, 325, 326, 327, 328, 329, 330, 331, 332, 333, 334, 335, 336, 337, 338, 339, 340, 341, 342, 343] (by decide +kernel) (by decide +kernel)) (goodIn_sub (fun _ h => List.mem_cons_of_mem _ (List.mem_append_right _ h)) (by decide +kernel))
set_option maxRecDepth 20000 in
theorem gX4_textAt_X4_textOf : GoodIn wsX4_textAt (wsV RX4 193 RX4 yX4_textOf wsX4_textOf) := goodIn_app (goodIn_of _ (by decide +kernel)) ggX4_textAt_X4_textOf
theorem dX4_textAt_0 : decode cX4_textAt 0 = .ok (.aload_n 1, 1) := by decide +kernel
theorem dX4_textAt_1 : decode cX4_textAt 1 = .ok (.getfield 48, 3) := by decide +kernel
theorem dX4_textAt_4 : decode cX4_textAt 4 = .ok (.iload_n 2, 1) := by decide +kernel
theorem dX4_textAt_5 : decode cX4_textAt 5 = .ok (.iaload, 1) := by decide +kernel
theorem dX4_textAt_6 : decode cX4_textAt 6 = .ok (.istore_n 3, 1) := by decide +kernel
theorem dX4_textAt_7 : decode cX4_textAt 7 = .ok (.aload_n 1, 1) := by decide +kernel
theorem dX4_textAt_8 : decode cX4_textAt 8 = .ok (.getfield 103, 3) := by decide +kernel
theorem dX4_textAt_11 : decode cX4_textAt 11 = .ok (.tableswitch 111 0 3 #[29, 49, 74, 87], 29) := by decide +kernel
theorem dX4_textAt_40 : decode cX4_textAt 40 = .ok (.new 165, 3) := by decide +kernel
theorem dX4_textAt_43 : decode cX4_textAt 43 = .ok (.dup, 1) := by decide +kernel
theorem dX4_textAt_44 : decode cX4_textAt 44 = .ok (.invokespecial 167, 3) := by decide +kernel
theorem dX4_textAt_47 : decode cX4_textAt 47 = .ok (.ldc 168, 2) := by decide +kernel
theorem dX4_textAt_49 : decode cX4_textAt 49 = .ok (.invokevirtual 170, 3) := by decide +kernel
theorem dX4_textAt_52 : decode cX4_textAt 52 = .ok (.iload_n 3, 1) := by decide +kernel
theorem dX4_textAt_53 : decode cX4_textAt 53 = .ok (.invokevirtual 174, 3) := by decide +kernel
theorem dX4_textAt_56 : decode cX4_textAt 56 = .ok (.invokevirtual 177, 3) := by decide +kernel
theorem dX4_textAt_59 : decode cX4_textAt 59 = .ok (.areturn, 1) := by decide +kernel
theorem dX4_textAt_60 : decode cX4_textAt 60 = .ok (.new 165, 3) := by decide +kernel
theorem dX4_textAt_63 : decode cX4_textAt 63 = .ok (.dup, 1) := by decide +kernel
theorem dX4_textAt_64 : decode cX4_textAt 64 = .ok (.invokespecial 167, 3) := by decide +kernel
theorem dX4_textAt_67 : decode cX4_textAt 67 = .ok (.ldc 168, 2) := by decide +kernel
theorem dX4_textAt_69 : decode cX4_textAt 69 = .ok (.invokevirtual 170, 3) := by decide +kernel
theorem dX4_textAt_72 : decode cX4_textAt 72 = .ok (.iload_n 3, 1) := by decide +kernel
theorem dX4_textAt_73 : decode cX4_textAt 73 = .ok (.i2l, 1) := by decide +kernel
theorem dX4_textAt_74 : decode cX4_textAt 74 = .ok (.ldc2_w 149, 3) := by decide +kernel
theorem dX4_textAt_77 : decode cX4_textAt 77 = .ok (.lmul, 1) := by decide +kernel
theorem dX4_textAt_78 : decode cX4_textAt 78 = .ok (.invokevirtual 181, 3) := by decide +kernel
theorem dX4_textAt_81 : decode cX4_textAt 81 = .ok (.invokevirtual 177, 3) := by decide +kernel
theorem dX4_textAt_84 : decode cX4_textAt 84 = .ok (.areturn, 1) := by decide +kernel
theorem dX4_textAt_85 : decode cX4_textAt 85 = .ok (.iload_n 3, 1) := by decide +kernel
theorem dX4_textAt_86 : decode cX4_textAt 86 = .ok (.iconst 1, 1) := by decide +kernel
theorem dX4_textAt_87 : decode cX4_textAt 87 = .ok (.if_icmp .ne 8, 3) := by decide +kernel
theorem dX4_textAt_90 : decode cX4_textAt 90 = .ok (.ldc 184, 2) := by decide +kernel
theorem dX4_textAt_92 : decode cX4_textAt 92 = .ok (.goto 5, 3) := by decide +kernel
theorem dX4_textAt_95 : decode cX4_textAt 95 = .ok (.ldc 186, 2) := by decide +kernel
theorem dX4_textAt_97 : decode cX4_textAt 97 = .ok (.areturn, 1) := by decide +kernel
theorem dX4_textAt_98 : decode cX4_textAt 98 = .ok (.new 165, 3) := by decide +kernel
theorem dX4_textAt_101 : decode cX4_textAt 101 = .ok (.dup, 1) := by decide +kernel
theorem dX4_textAt_102 : decode cX4_textAt 102 = .ok (.invokespecial 167, 3) := by decide +kernel
theorem dX4_textAt_105 : decode cX4_textAt 105 = .ok (.ldc 168, 2) := by decide +kernel
theorem dX4_textAt_107 : decode cX4_textAt 107 = .ok (.invokevirtual 170, 3) := by decide +kernel
theorem dX4_textAt_110 : decode cX4_textAt 110 = .ok (.bipush 97, 2) := by decide +kernel
theorem dX4_textAt_112 : decode cX4_textAt 112 = .ok (.iload_n 3, 1) := by decide +kernel
theorem dX4_textAt_113 : decode cX4_textAt 113 = .ok (.iadd, 1) := by decide +kernel
theorem dX4_textAt_114 : decode cX4_textAt 114 = .ok (.i2c, 1) := by decide +kernel
theorem dX4_textAt_115 : decode cX4_textAt 115 = .ok (.invokevirtual 188, 3) := by decide +kernel
theorem dX4_textAt_118 : decode cX4_textAt 118 = .ok (.invokevirtual 177, 3) := by decide +kernel
theorem dX4_textAt_121 : decode cX4_textAt 121 = .ok (.areturn, 1) := by decide +kernel
theorem dX4_textAt_122 : decode cX4_textAt 122 = .ok (.aload_n 1, 1) := by decide +kernel
theorem dX4_textAt_123 : decode cX4_textAt 123 = .ok (.getfield 70, 3) := by decide +kernel
theorem dX4_textAt_126 : decode cX4_textAt 126 = .ok (.iload_n 2, 1) := by decide +kernel
theorem dX4_textAt_127 : decode cX4_textAt 127 = .ok (.iaload, 1) := by decide +kernel
theorem dX4_textAt_128 : decode cX4_textAt 128 = .ok (.ifCond .ne 8, 3) := by decide +kernel
theorem dX4_textAt_131 : decode cX4_textAt 131 = .ok (.ldc 191, 2) := by decide +kernel
theorem dX4_textAt_133 : decode cX4_textAt 133 = .ok (.goto 58, 3) := by decide +kernel
theorem dX4_textAt_136 : decode cX4_textAt 136 = .ok (.aload_n 1, 1) := by decide +kernel
theorem dX4_textAt_137 : decode cX4_textAt 137 = .ok (.getfield 70, 3) := by decide +kernel
theorem dX4_textAt_140 : decode cX4_textAt 140 = .ok (.iload_n 2, 1) := by decide +kernel
theorem dX4_textAt_141 : decode cX4_textAt 141 = .ok (.iaload, 1) := by decide +kernel
theorem dX4_textAt_142 : decode cX4_textAt 142 = .ok (.iconst 1, 1) := by decide +kernel
theorem dX4_textAt_143 : decode cX4_textAt 143 = .ok (.if_icmp .ne 25, 3) := by decide +kernel
theorem dX4_textAt_146 : decode cX4_textAt 146 = .ok (.new 165, 3) := by decide +kernel
theorem dX4_textAt_149 : decode cX4_textAt 149 = .ok (.dup, 1) := by decide +kernel
theorem dX4_textAt_150 : decode cX4_textAt 150 = .ok (.invokespecial 167, 3) := by decide +kernel
theorem dX4_textAt_153 : decode cX4_textAt 153 = .ok (.ldc 168, 2) := by decide +kernel
theorem dX4_textAt_155 : decode cX4_textAt 155 = .ok (.invokevirtual 170, 3) := by decide +kernel
theorem dX4_textAt_158 : decode cX4_textAt 158 = .ok (.iload_n 3, 1) := by decide +kernel
theorem dX4_textAt_159 : decode cX4_textAt 159 = .ok (.invokevirtual 174, 3) := by decide +kernel
theorem dX4_textAt_162 : decode cX4_textAt 162 = .ok (.invokevirtual 177, 3) := by decide +kernel
theorem dX4_textAt_165 : decode cX4_textAt 165 = .ok (.goto 26, 3) := by decide +kernel
theorem dX4_textAt_168 : decode cX4_textAt 168 = .ok (.aload_n 1, 1) := by decide +kernel
theorem dX4_textAt_169 : decode cX4_textAt 169 = .ok (.getfield 70, 3) := by decide +kernel
theorem dX4_textAt_172 : decode cX4_textAt 172 = .ok (.iload_n 2, 1) := by decide +kernel
theorem dX4_textAt_173 : decode cX4_textAt 173 = .ok (.iaload, 1) := by decide +kernel
theorem dX4_textAt_174 : decode cX4_textAt 174 = .ok (.iconst 2, 1) := by decide +kernel
theorem dX4_textAt_175 : decode cX4_textAt 175 = .ok (.if_icmp .ne 11, 3) := by decide +kernel
theorem dX4_textAt_178 : decode cX4_textAt 178 = .ok (.getstatic 151, 3) := by decide +kernel
theorem dX4_textAt_181 : decode cX4_textAt 181 = .ok (.iload_n 3, 1) := by decide +kernel
theorem dX4_textAt_182 : decode cX4_textAt 182 = .ok (.aaload, 1) := by decide +kernel
theorem dX4_textAt_183 : decode cX4_textAt 183 = .ok (.goto 8, 3) := by decide +kernel
theorem dX4_textAt_186 : decode cX4_textAt 186 = .ok (.aload_n 0, 1) := by decide +kernel
theorem dX4_textAt_187 : decode cX4_textAt 187 = .ok (.iload_n 3, 1) := by decide +kernel
theorem dX4_textAt_188 : decode cX4_textAt 188 = .ok (.invokevirtual 193, 3) := by decide +kernel
theorem dX4_textAt_191 : decode cX4_textAt 191 = .ok (.areturn, 1) := by decide +kernel
set_option maxRecDepth 20000 in
theorem ggX4_textOf_Jx4a65c_get_915e3 : GoodIn wsX4_textOf wsJx4a65c_get_915e3 := goodIn_r _ [10, 11, 12, 13, 14, 15, 16, 17, 18, 19, 20, 21, 22, 9, 23, 24, 341, 342, 343] (by decide +kernel) (by decide +kernel)
set_option maxRecDepth 20000 in
theorem gX4_textOf_Jx4a65c_get_915e3 : GoodIn wsX4_textOf (wsV RX4 36 RJx4a65c yJx4a65c_get_915e3 wsJx4a65c_get_915e3) := goodIn_app (goodIn_of _ (by decide +kernel)) ggX4_textOf_Jx4a65c_get_915e3
set_option maxRecDepth 20000 in
theorem ggX4_textOf_X3_length : GoodIn wsX4_textOf wsX3_length := goodIn_r _ [29, 30, 325, 326, 327] (by decide +kernel) (by decide +kernel)
set_option maxRecDepth 20000 in
theorem gX4_textOf_X3_length : GoodIn wsX4_textOf (wsV RX4 42 RX3 yX3_length wsX3_length) := goodIn_app (goodIn_of _ (by decide +kernel)) ggX4_textOf_X3_length
set_option maxRecDepth 20000 in
theorem ggX4_textOf_J4_init_da8c8 : GoodIn wsX4_textOf wsJ4_init_da8c8 := goodIn_r _ [33, 34, 35, 36, 37, 38, 39, 40, 41, 42, 43, 44, 45, 46, 47, 48, 49, 50, 51, 52, 328, 329, 330, 331] (by decide +kernel) (by decide +kernel)
set_option maxRecDepth 20000 in
theorem gX4_textOf_J4_init_da8c8 : GoodIn wsX4_textOf (wsJ4_init_da8c8) := ggX4_textOf_J4_init_da8c8
set_option maxRecDepth 20000 in
theorem ggX4_textOf_J4_append_15ec4 : GoodIn wsX4_textOf wsJ4_append_15ec4 := goodIn_r _ [56, 57, 58, 59, 60, 36, 61, 62, 63, 64, 65, 66, 67, 43, 68, 69, 70, 71, 72, 44, 73, 74, 75, 76, 77, 78, 79, 80, 81, 82, 83, 84, 85, 86, 87, 88, 89, 90, 91, 92, 93, 94, 95, 96, 97, 98, 99, 100, 42, 101, 102, 103, 104, 105, 106, 107, 108, 109, 110, 111, 112, 41, 113, 114, 47, 115, 116, 117, 118, 119, 120, 121, 122, 123, 124, 125, 126, 127, 128, 129, 18, 130, 131, 132, 133, 134, 135, 136, 137, 138, 139, 140, 141, 142, 143, 144, 145, 146, 147, 148, 149, 150, 151, 152, 153, 154, 155, 156, 157, 158, 159, 160, 161, 162, 45, 46, 48, 49, 50, 51, 52, 163, 164, 165, 166, 167, 168, 169, 170, 171, 172, 173, 174, 175, 176, 177, 178, 179, 180, 181, 182, 183, 184, 328, 329, 330, 331, 332, 333, 334, 335] (by decide +kernel) (by decide +kernel)
set_option maxRecDepth 20000 in
theorem gX4_textOf_J4_append_15ec4 : GoodIn wsX4_textOf (wsV RX4 170 RJ4 yJ4_append_15ec4 wsJ4_append_15ec4) := goodIn_app (goodIn_of _ (by decide +kernel)) ggX4_textOf_J4_append_15ec4
set_option maxRecDepth 20000 in
theorem ggX4_textOf_X4_textAt : GoodIn wsX4_textOf wsX4_textAt := goodIn_ca (goodIn_r _ [241, 242, 243, 3, 4, 5, 244, 245, 246, 31, 32, 33, 34, 35, 36, 37, 38, 39, 40, 41, 42, 43, 44, 45, 46, 47, 48, 49, 50, 51, 52, 53, 54, 55, 56, 57, 58, 59, 60, 61, 62, 63, 64, 65, 66, 67, 68, 69, 70, 71, 72, 73, 74, 75, 76, 77, 78, 79, 80, 81, 82, 83, 84, 85, 86, 87, 88, 89, 90, 91, 92, 93, 94, 95, 96, 97, 98, 99, 100, 101, 102, 103, 104, 105, 106, 107, 108, 109, 110, 111, 112, 113, 114, 115, 116, 117, 118, 119, 120, 121, 122, 123, 124, 125, 126, 127, 128, 129, 18, 130, 131, 132, 133, 134, 135, 136, 137, 138, 139, 140, 141, 142, 143, 144, 145, 146, 147, 148, 149, 150, 151, 152, 153, 154, 155, 156, 157, 158, 159, 160, 161, 162, 163, 164, 165, 166, 167, 168, 169, 170, 171, 172, 173, 174, 175, 176, 177, 178, 179, 180, 181, 182, 183, 184, 247, 248, 249, 250, 251, 252, 253, 254, 255, 256, 257, 258, 259, 260, 261, 262, 263, 264, 265, 266, 267, 268, 269, 270, 271, 189, 190, 191, 192, 193, 194, 195, 196, 197, 198, 199, 200, 201, 202, 203, 204, 205, 206, 207, 208, 209, 210, 211, 212, 213, 214, 215, 216, 217, 218, 219, 220, 221, 222, 223, 224, 225, 226, 227, 228, 229, 230, 231, 232, 233, 234, 235, 236, 237, 238, 239, 240, 272, 273, 274, 275, 276, 277, 278, 279, 280, 281, 282, 283, 284, 285, 286, 287, 288, 289, 290, 291, 292, 293, 294, 295, 296, 297, 298, 299, 300, 301, 302, 303, 304, 305, 306, 307, 308, 309, 310, 311, 312, 313, 314, 315, 316, 317, 318, 319, 320, 321, 17, 19, 322, 323, 324, 188, 0, 1, 2, 6, 7, 8, 9, 10, 11, 12, 13, 14, 15, 16, 20, 21, 22, 23, 24, 25, 26, 27, 28, 29, 30, 185, 186, 187, 325, 326, 327, 328, 329, 330, 331, 332, 333, 334, 335, 336, 337, 338, 339, 340, 341, 342, 343] (by decide +kernel) (by decide +kernel)) (goodIn_sub (fun _ h => List.mem_cons_of_mem _ (List.mem_append_right _ h)) (by decide +kernel))
set_option maxRecDepth 20000 in
theorem gX4_textOf_X4_textAt : GoodIn wsX4_textOf (wsV RX4 201 RX4 yX4_textAt wsX4_textAt) := goodIn_app (goodIn_of _ (by decide +kernel)) ggX4_textOf_X4_textAt
set_option maxRecDepth 20000 in
theorem ggX4_textOf_J4_toString_0e30d : GoodIn wsX4_textOf wsJ4_toString_0e30d := goodIn_r _ [192, 193, 194, 125, 195, 196, 197, 198, 199, 200, 201, 39, 40, 146, 140, 145, 202, 203, 204, 205, 206, 36, 207, 43, 208, 209, 210, 211, 212, 5, 213, 214, 59, 215, 216, 62, 217, 109, 110, 111, 112, 41, 44, 218, 219, 93, 220, 95, 96, 97, 98, 99, 100, 221, 222, 223, 42, 101, 102, 85, 103, 104, 105, 106, 107, 224, 225, 226, 227, 4, 228, 229, 47, 230, 231, 232, 233, 170, 171, 172, 120, 121, 122, 173, 174, 175, 127, 176, 177, 18, 178, 234, 235, 236, 116, 134, 135, 49, 50, 51, 52, 237, 238, 239, 240, 332, 333, 334, 335, 328, 329, 330, 331] (by decide +kernel) (by decide +kernel)
set_option maxRecDepth 20000 in
theorem gX4_textOf_J4_toString_0e30d : GoodIn wsX4_textOf (wsV RX4 177 RJ4 yJ4_toString_0e30d wsJ4_toString_0e30d) := goodIn_app (goodIn_of _ (by decide +kernel)) ggX4_textOf_J4_toString_0e30d
theorem dX4_textOf_0 : decode cX4_textOf 0 = .ok (.aload_n 0, 1) := by decide +kernel
theorem dX4_textOf_1 : decode cX4_textOf 1 = .ok (.getfield 10, 3) := by decide +kernel
theorem dX4_textOf_4 : decode cX4_textOf 4 = .ok (.iload_n 1, 1) := by decide +kernel
theorem dX4_textOf_5 : decode cX4_textOf 5 = .ok (.invokevirtual 36, 3) := by decide +kernel
theorem dX4_textOf_8 : decode cX4_textOf 8 = .ok (.checkcast 40, 3) := by decide +kernel
theorem dX4_textOf_11 : decode cX4_textOf 11 = .ok (.astore_n 2, 1) := by decide +kernel
theorem dX4_textOf_12 : decode cX4_textOf 12 = .ok (.ldc 197, 2) := by decide +kernel
theorem dX4_textOf_14 : decode cX4_textOf 14 = .ok (.astore_n 3, 1) := by decide +kernel
theorem dX4_textOf_15 : decode cX4_textOf 15 = .ok (.iconst 0, 1) := by decide +kernel
theorem dX4_textOf_16 : decode cX4_textOf 16 = .ok (.istore 4, 2) := by decide +kernel
theorem dX4_textOf_18 : decode cX4_textOf 18 = .ok (.iload 4, 2) := by decide +kernel
theorem dX4_textOf_20 : decode cX4_textOf 20 = .ok (.aload_n 2, 1) := by decide +kernel
theorem dX4_textOf_21 : decode cX4_textOf 21 = .ok (.invokevirtual 42, 3) := by decide +kernel
theorem dX4_textOf_24 : decode cX4_textOf 24 = .ok (.if_icmp .ge 49, 3) := by decide +kernel
theorem dX4_textOf_27 : decode cX4_textOf 27 = .ok (.new 165, 3) := by decide +kernel
theorem dX4_textOf_30 : decode cX4_textOf 30 = .ok (.dup, 1) := by decide +kernel
theorem dX4_textOf_31 : decode cX4_textOf 31 = .ok (.invokespecial 167, 3) := by decide +kernel
theorem dX4_textOf_34 : decode cX4_textOf 34 = .ok (.aload_n 3, 1) := by decide +kernel
theorem dX4_textOf_35 : decode cX4_textOf 35 = .ok (.invokevirtual 170, 3) := by decide +kernel
theorem dX4_textOf_38 : decode cX4_textOf 38 = .ok (.iload 4, 2) := by decide +kernel
theorem dX4_textOf_40 : decode cX4_textOf 40 = .ok (.ifCond .le 8, 3) := by decide +kernel
theorem dX4_textOf_43 : decode cX4_textOf 43 = .ok (.ldc 199, 2) := by decide +kernel
theorem dX4_textOf_45 : decode cX4_textOf 45 = .ok (.goto 5, 3) := by decide +kernel
theorem dX4_textOf_48 : decode cX4_textOf 48 = .ok (.ldc 168, 2) := by decide +kernel
theorem dX4_textOf_50 : decode cX4_textOf 50 = .ok (.invokevirtual 170, 3) := by decide +kernel
theorem dX4_textOf_53 : decode cX4_textOf 53 = .ok (.aload_n 0, 1) := by decide +kernel
theorem dX4_textOf_54 : decode cX4_textOf 54 = .ok (.aload_n 2, 1) := by decide +kernel
theorem dX4_textOf_55 : decode cX4_textOf 55 = .ok (.iload 4, 2) := by decide +kernel
theorem dX4_textOf_57 : decode cX4_textOf 57 = .ok (.invokevirtual 201, 3) := by decide +kernel
theorem dX4_textOf_60 : decode cX4_textOf 60 = .ok (.invokevirtual 170, 3) := by decide +kernel
theorem dX4_textOf_63 : decode cX4_textOf 63 = .ok (.invokevirtual 177, 3) := by decide +kernel
theorem dX4_textOf_66 : decode cX4_textOf 66 = .ok (.astore_n 3, 1) := by decide +kernel
theorem dX4_textOf_67 : decode cX4_textOf 67 = .ok (.iinc 4 1, 3) := by decide +kernel
theorem dX4_textOf_70 : decode cX4_textOf 70 = .ok (.goto (-52), 3) := by decide +kernel
theorem dX4_textOf_73 : decode cX4_textOf 73 = .ok (.new 165, 3) := by decide +kernel
theorem dX4_textOf_76 : decode cX4_textOf 76 = .ok (.dup, 1) := by decide +kernel
theorem dX4_textOf_77 : decode cX4_textOf 77 = .ok (.invokespecial 167, 3) := by decide +kernel
theorem dX4_textOf_80 : decode cX4_textOf 80 = .ok (.aload_n 3, 1) := by decide +kernel
theorem dX4_textOf_81 : decode cX4_textOf 81 = .ok (.invokevirtual 170, 3) := by decide +kernel
theorem dX4_textOf_84 : decode cX4_textOf 84 = .ok (.ldc 205, 2) := by decide +kernel
theorem dX4_textOf_86 : decode cX4_textOf 86 = .ok (.invokevirtual 170, 3) := by decide +kernel
theorem dX4_textOf_89 : decode cX4_textOf 89 = .ok (.invokevirtual 177, 3) := by decide +kernel
theorem dX4_textOf_92 : decode cX4_textOf 92 = .ok (.areturn, 1) := by decide +kernel
set_option maxRecDepth 20000 in
theorem ggX4_text_X4_isNoRow : GoodIn wsX4_text wsX4_isNoRow := goodIn_r _ [5, 6, 7, 8, 9, 10, 11, 12, 13, 14, 4, 15, 346, 347, 348, 349, 350, 351, 352, 353] (by decide +kernel) (by decide +kernel)
set_option maxRecDepth 20000 in
theorem gX4_text_X4_isNoRow : GoodIn wsX4_text (wsV RX4 32 RX4 yX4_isNoRow wsX4_isNoRow) := goodIn_app (goodIn_of _ (by decide +kernel)) ggX4_text_X4_isNoRow
set_option maxRecDepth 20000 in
theorem ggX4_text_X4_start : GoodIn wsX4_text wsX4_start := goodIn_r _ [19, 20, 21, 22, 23, 4, 24, 346, 347, 348, 349, 350] (by decide +kernel) (by decide +kernel)
set_option maxRecDepth 20000 in
theorem gX4_text_X4_start : GoodIn wsX4_text (wsV RX4 73 RX4 yX4_start wsX4_start) := goodIn_app (goodIn_of _ (by decide +kernel)) ggX4_text_X4_start
set_option maxRecDepth 20000 in
theorem ggX4_text_X4_textOf : GoodIn wsX4_text wsX4_textOf := goodIn_ca (goodIn_r _ [28, 6, 29, 30, 31, 32, 33, 34, 35, 10, 36, 12, 37, 38, 39, 40, 41, 42, 43, 44, 45, 46, 47, 48, 49, 50, 51, 52, 53, 54, 55, 56, 57, 58, 59, 60, 61, 62, 63, 64, 65, 66, 67, 68, 69, 70, 71, 72, 73, 74, 75, 76, 77, 78, 79, 80, 81, 82, 83, 84, 85, 86, 87, 88, 89, 90, 91, 92, 93, 94, 95, 96, 97, 98, 99, 100, 101, 102, 103, 104, 105, 106, 107, 108, 109, 110, 111, 112, 113, 114, 115, 116, 117, 118, 119, 120, 121, 122, 123, 124, 125, 126, 127, 128, 129, 130, 131, 132, 133, 134, 135, 136, 137, 138, 139, 140, 141, 142, 143, 144, 145, 146, 147, 148, 149, 150, 151, 152, 153, 154, 155, 156, 157, 158, 159, 160, 161, 162, 163, 164, 165, 166, 167, 168, 169, 170, 171, 172, 173, 174, 175, 176, 177, 178, 179, 180, 181, 182, 183, 184, 185, 186, 187, 188, 189, 190, 191, 192, 193, 194, 195, 196, 197, 198, 199, 200, 201, 202, 203, 204, 205, 206, 207, 208, 209, 210, 211, 212, 4, 213, 214, 215, 216, 217, 218, 219, 220, 221, 222, 223, 224, 225, 226, 227, 228, 229, 230, 231, 232, 233, 234, 235, 236, 237, 238, 239, 240, 241, 242, 243, 244, 245, 246, 247, 248, 249, 250, 251, 252, 253, 254, 255, 256, 257, 258, 259, 260, 261, 262, 263, 264, 265, 266, 267, 268, 269, 270, 271, 272, 273, 274, 275, 276, 277, 278, 279, 280, 281, 282, 283, 284, 285, 286, 287, 288, 289, 290, 291, 292, 293, 294, 295, 296, 297, 298, 299, 300, 301, 302, 303, 304, 305, 306, 307, 308, 309, 310, 311, 312, 313, 314, 315, 316, 317, 318, 319, 320, 321, 322, 323, 324, 325, 326, 327, 328, 329, 330, 331, 332, 333, 334, 335, 336, 337, 338, 339, 340, 341, 342, 343, 344, 345, 25, 26, 27, 354, 355, 356, 357, 358, 359, 360, 361, 362, 363, 364, 346, 347, 348, 349, 350, 351, 352, 353] (by decide +kernel) (by decide +kernel)) (goodIn_sub (fun _ h => List.mem_cons_of_mem _ (List.mem_append_right _ h)) (by decide +kernel))
set_option maxRecDepth 20000 in
theorem gX4_text_X4_textOf : GoodIn wsX4_text (wsV RX4 193 RX4 yX4_textOf wsX4_textOf) := goodIn_app (goodIn_of _ (by decide +kernel)) ggX4_text_X4_textOf
theorem dX4_text_0 : decode cX4_text 0 = .ok (.aload_n 0, 1) := by decide +kernel
theorem dX4_text_1 : decode cX4_text 1 = .ok (.aload_n 0, 1) := by decide +kernel
theorem dX4_text_2 : decode cX4_text 2 = .ok (.iload_n 1, 1) := by decide +kernel
theorem dX4_text_3 : decode cX4_text 3 = .ok (.invokevirtual 32, 3) := by decide +kernel
theorem dX4_text_6 : decode cX4_text 6 = .ok (.iconst 1, 1) := by decide +kernel
theorem dX4_text_7 : decode cX4_text 7 = .ok (.invokevirtual 73, 3) := by decide +kernel
theorem dX4_text_10 : decode cX4_text 10 = .ok (.ifCond .eq 8, 3) := by decide +kernel
theorem dX4_text_13 : decode cX4_text 13 = .ok (.ldc 168, 2) := by decide +kernel
theorem dX4_text_15 : decode cX4_text 15 = .ok (.goto 8, 3) := by decide +kernel
theorem dX4_text_18 : decode cX4_text 18 = .ok (.aload_n 0, 1) := by decide +kernel
theorem dX4_text_19 : decode cX4_text 19 = .ok (.iload_n 1, 1) := by decide +kernel
theorem dX4_text_20 : decode cX4_text 20 = .ok (.invokevirtual 193, 3) := by decide +kernel
theorem dX4_text_23 : decode cX4_text 23 = .ok (.areturn, 1) := by decide +kernel
theorem dJ5_init_d00df_0 : decode cJ5_init_d00df 0 = .ok (.aload_n 0, 1) := by decide +kernel
theorem dJ5_init_d00df_1 : decode cJ5_init_d00df 1 = .ok (.invokespecial 3, 3) := by decide +kernel
theorem dJ5_init_d00df_4 : decode cJ5_init_d00df 4 = .ok (.getstatic 18, 3) := by decide +kernel
theorem dJ5_init_d00df_7 : decode cJ5_init_d00df 7 = .ok (.ifCond .eq 18, 3) := by decide +kernel
theorem dJ5_init_d00df_10 : decode cJ5_init_d00df 10 = .ok (.aload_n 0, 1) := by decide +kernel
theorem dJ5_init_d00df_11 : decode cJ5_init_d00df 11 = .ok (.iload_n 1, 1) := by decide +kernel
theorem dJ5_init_d00df_12 : decode cJ5_init_d00df 12 = .ok (.newarray .byte, 2) := by decide +kernel
theorem dJ5_init_d00df_14 : decode cJ5_init_d00df 14 = .ok (.putfield 15, 3) := by decide +kernel
theorem dJ5_init_d00df_17 : decode cJ5_init_d00df 17 = .ok (.aload_n 0, 1) := by decide +kernel
theorem dJ5_init_d00df_18 : decode cJ5_init_d00df 18 = .ok (.iconst 0, 1) := by decide +kernel
theorem dJ5_init_d00df_19 : decode cJ5_init_d00df 19 = .ok (.putfield 22, 3) := by decide +kernel
theorem dJ5_init_d00df_22 : decode cJ5_init_d00df 22 = .ok (.goto 16, 3) := by decide +kernel
theorem dJ5_init_d00df_25 : decode cJ5_init_d00df 25 = .ok (.aload_n 0, 1) := by decide +kernel
theorem dJ5_init_d00df_26 : decode cJ5_init_d00df 26 = .ok (.iload_n 1, 1) := by decide +kernel
theorem dJ5_init_d00df_27 : decode cJ5_init_d00df 27 = .ok (.invokestatic 26, 3) := by decide +kernel
theorem dJ5_init_d00df_30 : decode cJ5_init_d00df 30 = .ok (.putfield 15, 3) := by decide +kernel
theorem dJ5_init_d00df_33 : decode cJ5_init_d00df 33 = .ok (.aload_n 0, 1) := by decide +kernel
theorem dJ5_init_d00df_34 : decode cJ5_init_d00df 34 = .ok (.iconst 1, 1) := by decide +kernel
theorem dJ5_init_d00df_35 : decode cJ5_init_d00df 35 = .ok (.putfield 22, 3) := by decide +kernel
theorem dJ5_init_d00df_38 : decode cJ5_init_d00df 38 = .ok (.return_, 1) := by decide +kernel
theorem dJ5_length_8abf5_0 : decode cJ5_length_8abf5 0 = .ok (.aload_n 0, 1) := by decide +kernel
theorem dJ5_length_8abf5_1 : decode cJ5_length_8abf5 1 = .ok (.getfield 79, 3) := by decide +kernel
theorem dJ5_length_8abf5_4 : decode cJ5_length_8abf5 4 = .ok (.ireturn, 1) := by decide +kernel
set_option maxRecDepth 20000 in
theorem ggJ5_ensureCapacityInternal_d00df_J5_newCapacity_0f7a4 : GoodIn wsJ5_ensureCapacityInternal_d00df wsJ5_newCapacity_0f7a4 := goodIn_r _ [8, 1, 2, 9, 10, 11, 12, 13, 14, 15, 16, 17, 18, 19, 20, 21, 40, 41, 42, 43] (by decide +kernel) (by decide +kernel)
set_option maxRecDepth 20000 in
theorem gJ5_ensureCapacityInternal_d00df_J5_newCapacity_0f7a4_u104J4 : GoodIn wsJ5_ensureCapacityInternal_d00df (va_wsU RJ5 104 RJ4 "java/lang/AbstractStringBuilder" ⟨"java/lang/AbstractStringBuilder", "newCapacity", "(I)I"⟩ yJ5_newCapacity_0f7a4 wsJ5_newCapacity_0f7a4) := goodIn_app (goodIn_of _ (by decide +kernel)) ggJ5_ensureCapacityInternal_d00df_J5_newCapacity_0f7a4
set_option maxRecDepth 20000 in
theorem ggJ5_ensureCapacityInternal_d00df_J7_copyOf_9075b : GoodIn wsJ5_ensureCapacityInternal_d00df wsJ7_copyOf_9075b := goodIn_r _ [25, 26, 27, 28, 29, 30, 31, 32, 33, 34, 16, 35, 36, 37, 38, 39] (by decide +kernel) (by decide +kernel)
set_option maxRecDepth 20000 in
theorem gJ5_ensureCapacityInternal_d00df_J7_copyOf_9075b : GoodIn wsJ5_ensureCapacityInternal_d00df (va_wsS RJ5 108 yJ7_copyOf_9075b wsJ7_copyOf_9075b) := goodIn_app (goodIn_of _ (by decide +kernel)) ggJ5_ensureCapacityInternal_d00df_J7_copyOf_9075b
theorem dJ5_ensureCapacityInternal_d00df_0 : decode cJ5_ensureCapacityInternal_d00df 0 = .ok (.aload_n 0, 1) := by decide +kernel
theorem dJ5_ensureCapacityInternal_d00df_1 : decode cJ5_ensureCapacityInternal_d00df 1 = .ok (.getfield 15, 3) := by decide +kernel
theorem dJ5_ensureCapacityInternal_d00df_4 : decode cJ5_ensureCapacityInternal_d00df 4 = .ok (.arraylength, 1) := by decide +kernel
theorem dJ5_ensureCapacityInternal_d00df_5 : decode cJ5_ensureCapacityInternal_d00df 5 = .ok (.aload_n 0, 1) := by decide +kernel
theorem dJ5_ensureCapacityInternal_d00df_6 : decode cJ5_ensureCapacityInternal_d00df 6 = .ok (.getfield 22, 3) := by decide +kernel
theorem dJ5_ensureCapacityInternal_d00df_9 : decode cJ5_ensureCapacityInternal_d00df 9 = .ok (.ishr, 1) := by decide +kernel
theorem dJ5_ensureCapacityInternal_d00df_10 : decode cJ5_ensureCapacityInternal_d00df 10 = .ok (.istore_n 2, 1) := by decide +kernel
theorem dJ5_ensureCapacityInternal_d00df_11 : decode cJ5_ensureCapacityInternal_d00df 11 = .ok (.iload_n 1, 1) := by decide +kernel
theorem dJ5_ensureCapacityInternal_d00df_12 : decode cJ5_ensureCapacityInternal_d00df 12 = .ok (.iload_n 2, 1) := by decide +kernel
theorem dJ5_ensureCapacityInternal_d00df_13 : decode cJ5_ensureCapacityInternal_d00df 13 = .ok (.isub, 1) := by decide +kernel
theorem dJ5_ensureCapacityInternal_d00df_14 : decode cJ5_ensureCapacityInternal_d00df 14 = .ok (.ifCond .le 24, 3) := by decide +kernel
theorem dJ5_ensureCapacityInternal_d00df_17 : decode cJ5_ensureCapacityInternal_d00df 17 = .ok (.aload_n 0, 1) := by decide +kernel
theorem dJ5_ensureCapacityInternal_d00df_18 : decode cJ5_ensureCapacityInternal_d00df 18 = .ok (.aload_n 0, 1) := by decide +kernel
theorem dJ5_ensureCapacityInternal_d00df_19 : decode cJ5_ensureCapacityInternal_d00df 19 = .ok (.getfield 15, 3) := by decide +kernel
theorem dJ5_ensureCapacityInternal_d00df_22 : decode cJ5_ensureCapacityInternal_d00df 22 = .ok (.aload_n 0, 1) := by decide +kernel
theorem dJ5_ensureCapacityInternal_d00df_23 : decode cJ5_ensureCapacityInternal_d00df 23 = .ok (.iload_n 1, 1) := by decide +kernel
theorem dJ5_ensureCapacityInternal_d00df_24 : decode cJ5_ensureCapacityInternal_d00df 24 = .ok (.invokevirtual 104, 3) := by decide +kernel
theorem dJ5_ensureCapacityInternal_d00df_27 : decode cJ5_ensureCapacityInternal_d00df 27 = .ok (.aload_n 0, 1) := by decide +kernel
theorem dJ5_ensureCapacityInternal_d00df_28 : decode cJ5_ensureCapacityInternal_d00df 28 = .ok (.getfield 22, 3) := by decide +kernel
theorem dJ5_ensureCapacityInternal_d00df_31 : decode cJ5_ensureCapacityInternal_d00df 31 = .ok (.ishl, 1) := by decide +kernel
theorem dJ5_ensureCapacityInternal_d00df_32 : decode cJ5_ensureCapacityInternal_d00df 32 = .ok (.invokestatic 108, 3) := by decide +kernel
theorem dJ5_ensureCapacityInternal_d00df_35 : decode cJ5_ensureCapacityInternal_d00df 35 = .ok (.putfield 15, 3) := by decide +kernel
theorem dJ5_ensureCapacityInternal_d00df_38 : decode cJ5_ensureCapacityInternal_d00df 38 = .ok (.return_, 1) := by decide +kernel
set_option maxRecDepth 20000 in
theorem ggJ5_newCapacity_0f7a4_J8_newLength_cabcc : GoodIn wsJ5_newCapacity_0f7a4 wsJ8_newLength_cabcc := goodIn_r _ [7, 8, 9, 10, 11, 12, 13, 14, 6, 15] (by decide +kernel) (by decide +kernel)
set_option maxRecDepth 20000 in
theorem gJ5_newCapacity_0f7a4_J8_newLength_cabcc : GoodIn wsJ5_newCapacity_0f7a4 (va_wsS RJ5 114 yJ8_newLength_cabcc wsJ8_newLength_cabcc) := goodIn_app (goodIn_of _ (by decide +kernel)) ggJ5_newCapacity_0f7a4_J8_newLength_cabcc
theorem dJ5_newCapacity_0f7a4_0 : decode cJ5_newCapacity_0f7a4 0 = .ok (.aload_n 0, 1) := by decide +kernel
theorem dJ5_newCapacity_0f7a4_1 : decode cJ5_newCapacity_0f7a4 1 = .ok (.getfield 15, 3) := by decide +kernel
theorem dJ5_newCapacity_0f7a4_4 : decode cJ5_newCapacity_0f7a4 4 = .ok (.arraylength, 1) := by decide +kernel
theorem dJ5_newCapacity_0f7a4_5 : decode cJ5_newCapacity_0f7a4 5 = .ok (.istore_n 2, 1) := by decide +kernel
theorem dJ5_newCapacity_0f7a4_6 : decode cJ5_newCapacity_0f7a4 6 = .ok (.iload_n 1, 1) := by decide +kernel
theorem dJ5_newCapacity_0f7a4_7 : decode cJ5_newCapacity_0f7a4 7 = .ok (.aload_n 0, 1) := by decide +kernel
theorem dJ5_newCapacity_0f7a4_8 : decode cJ5_newCapacity_0f7a4 8 = .ok (.getfield 22, 3) := by decide +kernel
theorem dJ5_newCapacity_0f7a4_11 : decode cJ5_newCapacity_0f7a4 11 = .ok (.ishl, 1) := by decide +kernel
theorem dJ5_newCapacity_0f7a4_12 : decode cJ5_newCapacity_0f7a4 12 = .ok (.istore_n 3, 1) := by decide +kernel
theorem dJ5_newCapacity_0f7a4_13 : decode cJ5_newCapacity_0f7a4 13 = .ok (.iload_n 3, 1) := by decide +kernel
theorem dJ5_newCapacity_0f7a4_14 : decode cJ5_newCapacity_0f7a4 14 = .ok (.iload_n 2, 1) := by decide +kernel
theorem dJ5_newCapacity_0f7a4_15 : decode cJ5_newCapacity_0f7a4 15 = .ok (.isub, 1) := by decide +kernel
theorem dJ5_newCapacity_0f7a4_16 : decode cJ5_newCapacity_0f7a4 16 = .ok (.istore 4, 2) := by decide +kernel
theorem dJ5_newCapacity_0f7a4_18 : decode cJ5_newCapacity_0f7a4 18 = .ok (.iload_n 2, 1) := by decide +kernel
theorem dJ5_newCapacity_0f7a4_19 : decode cJ5_newCapacity_0f7a4 19 = .ok (.iload 4, 2) := by decide +kernel
theorem dJ5_newCapacity_0f7a4_21 : decode cJ5_newCapacity_0f7a4 21 = .ok (.iload_n 2, 1) := by decide +kernel
theorem dJ5_newCapacity_0f7a4_22 : decode cJ5_newCapacity_0f7a4 22 = .ok (.iconst 2, 1) := by decide +kernel
theorem dJ5_newCapacity_0f7a4_23 : decode cJ5_newCapacity_0f7a4 23 = .ok (.aload_n 0, 1) := by decide +kernel
theorem dJ5_newCapacity_0f7a4_24 : decode cJ5_newCapacity_0f7a4 24 = .ok (.getfield 22, 3) := by decide +kernel
theorem dJ5_newCapacity_0f7a4_27 : decode cJ5_newCapacity_0f7a4 27 = .ok (.ishl, 1) := by decide +kernel
theorem dJ5_newCapacity_0f7a4_28 : decode cJ5_newCapacity_0f7a4 28 = .ok (.iadd, 1) := by decide +kernel
theorem dJ5_newCapacity_0f7a4_29 : decode cJ5_newCapacity_0f7a4 29 = .ok (.invokestatic 114, 3) := by decide +kernel
theorem dJ5_newCapacity_0f7a4_32 : decode cJ5_newCapacity_0f7a4 32 = .ok (.istore 5, 2) := by decide +kernel
theorem dJ5_newCapacity_0f7a4_34 : decode cJ5_newCapacity_0f7a4 34 = .ok (.iload 5, 2) := by decide +kernel
theorem dJ5_newCapacity_0f7a4_36 : decode cJ5_newCapacity_0f7a4 36 = .ok (.ldc 39, 2) := by decide +kernel
theorem dJ5_newCapacity_0f7a4_38 : decode cJ5_newCapacity_0f7a4 38 = .ok (.if_icmp .ne 13, 3) := by decide +kernel
theorem dJ5_newCapacity_0f7a4_41 : decode cJ5_newCapacity_0f7a4 41 = .ok (.new 120, 3) := by decide +kernel
theorem dJ5_newCapacity_0f7a4_44 : decode cJ5_newCapacity_0f7a4 44 = .ok (.dup, 1) := by decide +kernel
theorem dJ5_newCapacity_0f7a4_45 : decode cJ5_newCapacity_0f7a4 45 = .ok (.ldc 122, 2) := by decide +kernel
theorem dJ5_newCapacity_0f7a4_47 : decode cJ5_newCapacity_0f7a4 47 = .ok (.invokespecial 124, 3) := by decide +kernel
theorem dJ5_newCapacity_0f7a4_50 : decode cJ5_newCapacity_0f7a4 50 = .ok (.athrow, 1) := by decide +kernel
theorem dJ5_newCapacity_0f7a4_51 : decode cJ5_newCapacity_0f7a4 51 = .ok (.iload 5, 2) := by decide +kernel
theorem dJ5_newCapacity_0f7a4_53 : decode cJ5_newCapacity_0f7a4 53 = .ok (.aload_n 0, 1) := by decide +kernel
theorem dJ5_newCapacity_0f7a4_54 : decode cJ5_newCapacity_0f7a4 54 = .ok (.getfield 22, 3) := by decide +kernel
theorem dJ5_newCapacity_0f7a4_57 : decode cJ5_newCapacity_0f7a4 57 = .ok (.ishr, 1) := by decide +kernel
theorem dJ5_newCapacity_0f7a4_58 : decode cJ5_newCapacity_0f7a4 58 = .ok (.ireturn, 1) := by decide +kernel
set_option maxRecDepth 20000 in
theorem ggJ5_setLength_d00df_J5_ensureCapacityInternal_d00df : GoodIn wsJ5_setLength_d00df wsJ5_ensureCapacityInternal_d00df := goodIn_r _ [12, 5, 13, 14, 15, 16, 17, 11, 18, 19, 20, 21, 22, 23, 24, 25, 26, 27, 28, 29, 30, 31, 32, 33, 34, 35, 36, 37, 38, 39, 40, 41, 42, 43, 44, 45, 46, 47, 48, 49, 83, 84, 85, 86] (by decide +kernel) (by decide +kernel)
set_option maxRecDepth 20000 in
theorem gJ5_setLength_d00df_J5_ensureCapacityInternal_d00df_u100J4 : GoodIn wsJ5_setLength_d00df (va_wsU RJ5 100 RJ4 "java/lang/AbstractStringBuilder" ⟨"java/lang/AbstractStringBuilder", "ensureCapacityInternal", "(I)V"⟩ yJ5_ensureCapacityInternal_d00df wsJ5_ensureCapacityInternal_d00df) := goodIn_app (goodIn_of _ (by decide +kernel)) ggJ5_setLength_d00df_J5_ensureCapacityInternal_d00df
set_option maxRecDepth 20000 in
theorem ggJ5_setLength_d00df_J5_isLatin1_aae02 : GoodIn wsJ5_setLength_d00df wsJ5_isLatin1_aae02 := goodIn_r _ [54, 55, 13, 83, 84, 85, 86] (by decide +kernel) (by decide +kernel)
set_option maxRecDepth 20000 in
theorem gJ5_setLength_d00df_J5_isLatin1_aae02_u83J4 : GoodIn wsJ5_setLength_d00df (va_wsU RJ5 83 RJ4 "java/lang/AbstractStringBuilder" ⟨"java/lang/AbstractStringBuilder", "isLatin1", "()Z"⟩ yJ5_isLatin1_aae02 wsJ5_isLatin1_aae02) := goodIn_app (goodIn_of _ (by decide +kernel)) ggJ5_setLength_d00df_J5_isLatin1_aae02
theorem dJ5_setLength_d00df_0 : decode cJ5_setLength_d00df 0 = .ok (.iload_n 1, 1) := by decide +kernel
theorem dJ5_setLength_d00df_1 : decode cJ5_setLength_d00df 1 = .ok (.ifCond .ge 12, 3) := by decide +kernel
theorem dJ5_setLength_d00df_4 : decode cJ5_setLength_d00df 4 = .ok (.new 129, 3) := by decide +kernel
theorem dJ5_setLength_d00df_7 : decode cJ5_setLength_d00df 7 = .ok (.dup, 1) := by decide +kernel
theorem dJ5_setLength_d00df_8 : decode cJ5_setLength_d00df 8 = .ok (.iload_n 1, 1) := by decide +kernel
theorem dJ5_setLength_d00df_9 : decode cJ5_setLength_d00df 9 = .ok (.invokespecial 131, 3) := by decide +kernel
theorem dJ5_setLength_d00df_12 : decode cJ5_setLength_d00df 12 = .ok (.athrow, 1) := by decide +kernel
theorem dJ5_setLength_d00df_13 : decode cJ5_setLength_d00df 13 = .ok (.aload_n 0, 1) := by decide +kernel
theorem dJ5_setLength_d00df_14 : decode cJ5_setLength_d00df 14 = .ok (.iload_n 1, 1) := by decide +kernel
theorem dJ5_setLength_d00df_15 : decode cJ5_setLength_d00df 15 = .ok (.invokevirtual 100, 3) := by decide +kernel
theorem dJ5_setLength_d00df_18 : decode cJ5_setLength_d00df 18 = .ok (.aload_n 0, 1) := by decide +kernel
theorem dJ5_setLength_d00df_19 : decode cJ5_setLength_d00df 19 = .ok (.getfield 79, 3) := by decide +kernel
theorem dJ5_setLength_d00df_22 : decode cJ5_setLength_d00df 22 = .ok (.iload_n 1, 1) := by decide +kernel
theorem dJ5_setLength_d00df_23 : decode cJ5_setLength_d00df 23 = .ok (.if_icmp .ge 40, 3) := by decide +kernel
theorem dJ5_setLength_d00df_26 : decode cJ5_setLength_d00df 26 = .ok (.aload_n 0, 1) := by decide +kernel
theorem dJ5_setLength_d00df_27 : decode cJ5_setLength_d00df 27 = .ok (.invokevirtual 83, 3) := by decide +kernel
theorem dJ5_setLength_d00df_30 : decode cJ5_setLength_d00df 30 = .ok (.ifCond .eq 18, 3) := by decide +kernel
theorem dJ5_setLength_d00df_33 : decode cJ5_setLength_d00df 33 = .ok (.aload_n 0, 1) := by decide +kernel
theorem dJ5_setLength_d00df_34 : decode cJ5_setLength_d00df 34 = .ok (.getfield 15, 3) := by decide +kernel
theorem dJ5_setLength_d00df_37 : decode cJ5_setLength_d00df 37 = .ok (.aload_n 0, 1) := by decide +kernel
theorem dJ5_setLength_d00df_38 : decode cJ5_setLength_d00df 38 = .ok (.getfield 79, 3) := by decide +kernel
theorem dJ5_setLength_d00df_41 : decode cJ5_setLength_d00df 41 = .ok (.iload_n 1, 1) := by decide +kernel
theorem dJ5_setLength_d00df_42 : decode cJ5_setLength_d00df 42 = .ok (.invokestatic 133, 3) := by decide +kernel
theorem dJ5_setLength_d00df_45 : decode cJ5_setLength_d00df 45 = .ok (.goto 31, 3) := by decide +kernel
theorem dJ5_setLength_d00df_48 : decode cJ5_setLength_d00df 48 = .ok (.aload_n 0, 1) := by decide +kernel
theorem dJ5_setLength_d00df_49 : decode cJ5_setLength_d00df 49 = .ok (.getfield 15, 3) := by decide +kernel
theorem dJ5_setLength_d00df_52 : decode cJ5_setLength_d00df 52 = .ok (.aload_n 0, 1) := by decide +kernel
theorem dJ5_setLength_d00df_53 : decode cJ5_setLength_d00df 53 = .ok (.getfield 79, 3) := by decide +kernel
theorem dJ5_setLength_d00df_56 : decode cJ5_setLength_d00df 56 = .ok (.iload_n 1, 1) := by decide +kernel
theorem dJ5_setLength_d00df_57 : decode cJ5_setLength_d00df 57 = .ok (.invokestatic 137, 3) := by decide +kernel
theorem dJ5_setLength_d00df_60 : decode cJ5_setLength_d00df 60 = .ok (.goto 16, 3) := by decide +kernel
theorem dJ5_setLength_d00df_63 : decode cJ5_setLength_d00df 63 = .ok (.aload_n 0, 1) := by decide +kernel
theorem dJ5_setLength_d00df_64 : decode cJ5_setLength_d00df 64 = .ok (.getfield 79, 3) := by decide +kernel
theorem dJ5_setLength_d00df_67 : decode cJ5_setLength_d00df 67 = .ok (.iload_n 1, 1) := by decide +kernel
theorem dJ5_setLength_d00df_68 : decode cJ5_setLength_d00df 68 = .ok (.if_icmp .le 8, 3) := by decide +kernel
theorem dJ5_setLength_d00df_71 : decode cJ5_setLength_d00df 71 = .ok (.aload_n 0, 1) := by decide +kernel
theorem dJ5_setLength_d00df_72 : decode cJ5_setLength_d00df 72 = .ok (.iconst 1, 1) := by decide +kernel
theorem dJ5_setLength_d00df_73 : decode cJ5_setLength_d00df 73 = .ok (.putfield 73, 3) := by decide +kernel
theorem dJ5_setLength_d00df_76 : decode cJ5_setLength_d00df 76 = .ok (.aload_n 0, 1) := by decide +kernel
theorem dJ5_setLength_d00df_77 : decode cJ5_setLength_d00df 77 = .ok (.iload_n 1, 1) := by decide +kernel
theorem dJ5_setLength_d00df_78 : decode cJ5_setLength_d00df 78 = .ok (.putfield 79, 3) := by decide +kernel
theorem dJ5_setLength_d00df_81 : decode cJ5_setLength_d00df 81 = .ok (.return_, 1) := by decide +kernel
set_option maxRecDepth 20000 in
theorem ggJ5_append_cf1ce_J0_length_8abf5 : GoodIn wsJ5_append_cf1ce wsJ0_length_8abf5 := goodIn_r _ [85, 86, 87, 88, 89, 70, 90, 91, 92, 142, 143, 144, 145] (by decide +kernel) (by decide +kernel)
set_option maxRecDepth 20000 in
theorem gJ5_append_cf1ce_J0_length_8abf5 : GoodIn wsJ5_append_cf1ce (wsV RJ5 32 RJ0 yJ0_length_8abf5 wsJ0_length_8abf5) := goodIn_app (goodIn_of _ (by decide +kernel)) ggJ5_append_cf1ce_J0_length_8abf5
set_option maxRecDepth 20000 in
theorem ggJ5_append_cf1ce_J5_ensureCapacityInternal_d00df : GoodIn wsJ5_append_cf1ce wsJ5_ensureCapacityInternal_d00df := goodIn_r _ [13, 8, 14, 15, 16, 17, 18, 6, 19, 20, 21, 22, 23, 24, 25, 26, 27, 28, 29, 30, 31, 32, 33, 34, 35, 36, 37, 38, 39, 40, 41, 42, 43, 44, 45, 46, 47, 48, 49, 50, 138, 139, 140, 141] (by decide +kernel) (by decide +kernel)
set_option maxRecDepth 20000 in
theorem gJ5_append_cf1ce_J5_ensureCapacityInternal_d00df_u100J4 : GoodIn wsJ5_append_cf1ce (va_wsU RJ5 100 RJ4 "java/lang/AbstractStringBuilder" ⟨"java/lang/AbstractStringBuilder", "ensureCapacityInternal", "(I)V"⟩ yJ5_ensureCapacityInternal_d00df wsJ5_ensureCapacityInternal_d00df) := goodIn_app (goodIn_of _ (by decide +kernel)) ggJ5_append_cf1ce_J5_ensureCapacityInternal_d00df
set_option maxRecDepth 20000 in
theorem ggJ5_append_cf1ce_J5_putStringAt_47b60 : GoodIn wsJ5_append_cf1ce wsJ5_putStringAt_47b60 := goodIn_r _ [97, 8, 14, 98, 99, 100, 101, 6, 102, 56, 103, 88, 89, 70, 90, 91, 92, 104, 105, 106, 107, 108, 1, 51, 52, 53, 54, 55, 109, 110, 59, 111, 43, 112, 113, 114, 115, 116, 117, 118, 119, 120, 121, 122, 123, 124, 125, 65, 66, 67, 126, 127, 128, 72, 129, 130, 75, 131, 77, 78, 79, 61, 80, 81, 132, 133, 134, 135, 86, 136, 48, 49, 50, 87, 137, 138, 139, 140, 141, 142, 143, 144, 145] (by decide +kernel) (by decide +kernel)
set_option maxRecDepth 20000 in
theorem gJ5_append_cf1ce_J5_putStringAt_47b60_u208J4 : GoodIn wsJ5_append_cf1ce (va_wsU RJ5 208 RJ4 "java/lang/AbstractStringBuilder" ⟨"java/lang/AbstractStringBuilder", "putStringAt", "(ILjava/lang/String;)V"⟩ yJ5_putStringAt_47b60 wsJ5_putStringAt_47b60) := goodIn_app (goodIn_of _ (by decide +kernel)) ggJ5_append_cf1ce_J5_putStringAt_47b60
theorem dJ5_append_cf1ce_0 : decode cJ5_append_cf1ce 0 = .ok (.aload_n 1, 1) := by decide +kernel
theorem dJ5_append_cf1ce_1 : decode cJ5_append_cf1ce 1 = .ok (.ifnonnull 8, 3) := by decide +kernel
theorem dJ5_append_cf1ce_4 : decode cJ5_append_cf1ce 4 = .ok (.aload_n 0, 1) := by decide +kernel
theorem dJ5_append_cf1ce_5 : decode cJ5_append_cf1ce 5 = .ok (.invokevirtual 204, 3) := by decide +kernel
theorem dJ5_append_cf1ce_8 : decode cJ5_append_cf1ce 8 = .ok (.areturn, 1) := by decide +kernel
theorem dJ5_append_cf1ce_9 : decode cJ5_append_cf1ce 9 = .ok (.aload_n 1, 1) := by decide +kernel
theorem dJ5_append_cf1ce_10 : decode cJ5_append_cf1ce 10 = .ok (.invokevirtual 32, 3) := by decide +kernel
theorem dJ5_append_cf1ce_13 : decode cJ5_append_cf1ce 13 = .ok (.istore_n 2, 1) := by decide +kernel
theorem dJ5_append_cf1ce_14 : decode cJ5_append_cf1ce 14 = .ok (.aload_n 0, 1) := by decide +kernel
theorem dJ5_append_cf1ce_15 : decode cJ5_append_cf1ce 15 = .ok (.aload_n 0, 1) := by decide +kernel
theorem dJ5_append_cf1ce_16 : decode cJ5_append_cf1ce 16 = .ok (.getfield 79, 3) := by decide +kernel
theorem dJ5_append_cf1ce_19 : decode cJ5_append_cf1ce 19 = .ok (.iload_n 2, 1) := by decide +kernel
theorem dJ5_append_cf1ce_20 : decode cJ5_append_cf1ce 20 = .ok (.iadd, 1) := by decide +kernel
theorem dJ5_append_cf1ce_21 : decode cJ5_append_cf1ce 21 = .ok (.invokevirtual 100, 3) := by decide +kernel
theorem dJ5_append_cf1ce_24 : decode cJ5_append_cf1ce 24 = .ok (.aload_n 0, 1) := by decide +kernel
theorem dJ5_append_cf1ce_25 : decode cJ5_append_cf1ce 25 = .ok (.aload_n 0, 1) := by decide +kernel
theorem dJ5_append_cf1ce_26 : decode cJ5_append_cf1ce 26 = .ok (.getfield 79, 3) := by decide +kernel
theorem dJ5_append_cf1ce_29 : decode cJ5_append_cf1ce 29 = .ok (.aload_n 1, 1) := by decide +kernel
theorem dJ5_append_cf1ce_30 : decode cJ5_append_cf1ce 30 = .ok (.invokevirtual 208, 3) := by decide +kernel
theorem dJ5_append_cf1ce_33 : decode cJ5_append_cf1ce 33 = .ok (.aload_n 0, 1) := by decide +kernel
theorem dJ5_append_cf1ce_34 : decode cJ5_append_cf1ce 34 = .ok (.dup, 1) := by decide +kernel
theorem dJ5_append_cf1ce_35 : decode cJ5_append_cf1ce 35 = .ok (.getfield 79, 3) := by decide +kernel
theorem dJ5_append_cf1ce_38 : decode cJ5_append_cf1ce 38 = .ok (.iload_n 2, 1) := by decide +kernel
theorem dJ5_append_cf1ce_39 : decode cJ5_append_cf1ce 39 = .ok (.iadd, 1) := by decide +kernel
theorem dJ5_append_cf1ce_40 : decode cJ5_append_cf1ce 40 = .ok (.putfield 79, 3) := by decide +kernel
theorem dJ5_append_cf1ce_43 : decode cJ5_append_cf1ce 43 = .ok (.aload_n 0, 1) := by decide +kernel
theorem dJ5_append_cf1ce_44 : decode cJ5_append_cf1ce 44 = .ok (.areturn, 1) := by decide +kernel
set_option maxRecDepth 20000 in
theorem ggJ5_append_3fe6f_J5_ensureCapacityInternal_d00df : GoodIn wsJ5_append_3fe6f wsJ5_ensureCapacityInternal_d00df := goodIn_r _ [8, 2, 9, 10, 11, 12, 13, 7, 14, 15, 16, 17, 18, 19, 20, 21, 22, 23, 24, 25, 26, 27, 28, 29, 30, 31, 32, 33, 34, 35, 36, 37, 38, 39, 40, 41, 42, 43, 44, 45, 108, 109, 110, 111] (by decide +kernel) (by decide +kernel)
set_option maxRecDepth 20000 in
theorem gJ5_append_3fe6f_J5_ensureCapacityInternal_d00df_u100J4 : GoodIn wsJ5_append_3fe6f (va_wsU RJ5 100 RJ4 "java/lang/AbstractStringBuilder" ⟨"java/lang/AbstractStringBuilder", "ensureCapacityInternal", "(I)V"⟩ yJ5_ensureCapacityInternal_d00df wsJ5_ensureCapacityInternal_d00df) := goodIn_app (goodIn_of _ (by decide +kernel)) ggJ5_append_3fe6f_J5_ensureCapacityInternal_d00df
set_option maxRecDepth 20000 in
theorem ggJ5_append_3fe6f_J5_isLatin1_aae02 : GoodIn wsJ5_append_3fe6f wsJ5_isLatin1_aae02 := goodIn_r _ [50, 51, 9, 108, 109, 110, 111] (by decide +kernel) (by decide +kernel)
set_option maxRecDepth 20000 in
theorem gJ5_append_3fe6f_J5_isLatin1_aae02_u83J4 : GoodIn wsJ5_append_3fe6f (va_wsU RJ5 83 RJ4 "java/lang/AbstractStringBuilder" ⟨"java/lang/AbstractStringBuilder", "isLatin1", "()Z"⟩ yJ5_isLatin1_aae02 wsJ5_isLatin1_aae02) := goodIn_app (goodIn_of _ (by decide +kernel)) ggJ5_append_3fe6f_J5_isLatin1_aae02
set_option maxRecDepth 20000 in
theorem ggJ5_append_3fe6f_J1_canEncode_fc78d : GoodIn wsJ5_append_3fe6f wsJ1_canEncode_fc78d := goodIn_r _ [55] (by decide +kernel) (by decide +kernel)
set_option maxRecDepth 20000 in
theorem gJ5_append_3fe6f_J1_canEncode_fc78d : GoodIn wsJ5_append_3fe6f (va_wsS RJ5 191 yJ1_canEncode_fc78d wsJ1_canEncode_fc78d) := goodIn_app (goodIn_of _ (by decide +kernel)) ggJ5_append_3fe6f_J1_canEncode_fc78d
theorem dJ5_append_3fe6f_0 : decode cJ5_append_3fe6f 0 = .ok (.aload_n 0, 1) := by decide +kernel
theorem dJ5_append_3fe6f_1 : decode cJ5_append_3fe6f 1 = .ok (.aload_n 0, 1) := by decide +kernel
theorem dJ5_append_3fe6f_2 : decode cJ5_append_3fe6f 2 = .ok (.getfield 79, 3) := by decide +kernel
theorem dJ5_append_3fe6f_5 : decode cJ5_append_3fe6f 5 = .ok (.iconst 1, 1) := by decide +kernel
theorem dJ5_append_3fe6f_6 : decode cJ5_append_3fe6f 6 = .ok (.iadd, 1) := by decide +kernel
theorem dJ5_append_3fe6f_7 : decode cJ5_append_3fe6f 7 = .ok (.invokevirtual 100, 3) := by decide +kernel
theorem dJ5_append_3fe6f_10 : decode cJ5_append_3fe6f 10 = .ok (.aload_n 0, 1) := by decide +kernel
theorem dJ5_append_3fe6f_11 : decode cJ5_append_3fe6f 11 = .ok (.invokevirtual 83, 3) := by decide +kernel
theorem dJ5_append_3fe6f_14 : decode cJ5_append_3fe6f 14 = .ok (.ifCond .eq 31, 3) := by decide +kernel
theorem dJ5_append_3fe6f_17 : decode cJ5_append_3fe6f 17 = .ok (.iload_n 1, 1) := by decide +kernel
theorem dJ5_append_3fe6f_18 : decode cJ5_append_3fe6f 18 = .ok (.invokestatic 191, 3) := by decide +kernel
theorem dJ5_append_3fe6f_21 : decode cJ5_append_3fe6f 21 = .ok (.ifCond .eq 24, 3) := by decide +kernel
theorem dJ5_append_3fe6f_24 : decode cJ5_append_3fe6f 24 = .ok (.aload_n 0, 1) := by decide +kernel
theorem dJ5_append_3fe6f_25 : decode cJ5_append_3fe6f 25 = .ok (.getfield 15, 3) := by decide +kernel
theorem dJ5_append_3fe6f_28 : decode cJ5_append_3fe6f 28 = .ok (.aload_n 0, 1) := by decide +kernel
theorem dJ5_append_3fe6f_29 : decode cJ5_append_3fe6f 29 = .ok (.dup, 1) := by decide +kernel
theorem dJ5_append_3fe6f_30 : decode cJ5_append_3fe6f 30 = .ok (.getfield 79, 3) := by decide +kernel
theorem dJ5_append_3fe6f_33 : decode cJ5_append_3fe6f 33 = .ok (.dup_x1, 1) := by decide +kernel
theorem dJ5_append_3fe6f_34 : decode cJ5_append_3fe6f 34 = .ok (.iconst 1, 1) := by decide +kernel
theorem dJ5_append_3fe6f_35 : decode cJ5_append_3fe6f 35 = .ok (.iadd, 1) := by decide +kernel
theorem dJ5_append_3fe6f_36 : decode cJ5_append_3fe6f 36 = .ok (.putfield 79, 3) := by decide +kernel
theorem dJ5_append_3fe6f_39 : decode cJ5_append_3fe6f 39 = .ok (.iload_n 1, 1) := by decide +kernel
theorem dJ5_append_3fe6f_40 : decode cJ5_append_3fe6f 40 = .ok (.i2b, 1) := by decide +kernel
theorem dJ5_append_3fe6f_41 : decode cJ5_append_3fe6f 41 = .ok (.bastore, 1) := by decide +kernel
theorem dJ5_append_3fe6f_42 : decode cJ5_append_3fe6f 42 = .ok (.goto 33, 3) := by decide +kernel
theorem dJ5_append_3fe6f_45 : decode cJ5_append_3fe6f 45 = .ok (.aload_n 0, 1) := by decide +kernel
theorem dJ5_append_3fe6f_46 : decode cJ5_append_3fe6f 46 = .ok (.invokevirtual 83, 3) := by decide +kernel
theorem dJ5_append_3fe6f_49 : decode cJ5_append_3fe6f 49 = .ok (.ifCond .eq 7, 3) := by decide +kernel
theorem dJ5_append_3fe6f_52 : decode cJ5_append_3fe6f 52 = .ok (.aload_n 0, 1) := by decide +kernel
theorem dJ5_append_3fe6f_53 : decode cJ5_append_3fe6f 53 = .ok (.invokevirtual 195, 3) := by decide +kernel
theorem dJ5_append_3fe6f_56 : decode cJ5_append_3fe6f 56 = .ok (.aload_n 0, 1) := by decide +kernel
theorem dJ5_append_3fe6f_57 : decode cJ5_append_3fe6f 57 = .ok (.getfield 15, 3) := by decide +kernel
theorem dJ5_append_3fe6f_60 : decode cJ5_append_3fe6f 60 = .ok (.aload_n 0, 1) := by decide +kernel
theorem dJ5_append_3fe6f_61 : decode cJ5_append_3fe6f 61 = .ok (.dup, 1) := by decide +kernel
theorem dJ5_append_3fe6f_62 : decode cJ5_append_3fe6f 62 = .ok (.getfield 79, 3) := by decide +kernel
theorem dJ5_append_3fe6f_65 : decode cJ5_append_3fe6f 65 = .ok (.dup_x1, 1) := by decide +kernel
theorem dJ5_append_3fe6f_66 : decode cJ5_append_3fe6f 66 = .ok (.iconst 1, 1) := by decide +kernel
theorem dJ5_append_3fe6f_67 : decode cJ5_append_3fe6f 67 = .ok (.iadd, 1) := by decide +kernel
theorem dJ5_append_3fe6f_68 : decode cJ5_append_3fe6f 68 = .ok (.putfield 79, 3) := by decide +kernel
theorem dJ5_append_3fe6f_71 : decode cJ5_append_3fe6f 71 = .ok (.iload_n 1, 1) := by decide +kernel
theorem dJ5_append_3fe6f_72 : decode cJ5_append_3fe6f 72 = .ok (.invokestatic 197, 3) := by decide +kernel
theorem dJ5_append_3fe6f_75 : decode cJ5_append_3fe6f 75 = .ok (.aload_n 0, 1) := by decide +kernel
theorem dJ5_append_3fe6f_76 : decode cJ5_append_3fe6f 76 = .ok (.areturn, 1) := by decide +kernel
theorem dJ5_getValue_6d5f1_0 : decode cJ5_getValue_6d5f1 0 = .ok (.aload_n 0, 1) := by decide +kernel
theorem dJ5_getValue_6d5f1_1 : decode cJ5_getValue_6d5f1 1 = .ok (.getfield 15, 3) := by decide +kernel
theorem dJ5_getValue_6d5f1_4 : decode cJ5_getValue_6d5f1 4 = .ok (.areturn, 1) := by decide +kernel
theorem dJ5_isLatin1_aae02_0 : decode cJ5_isLatin1_aae02 0 = .ok (.getstatic 18, 3) := by decide +kernel
theorem dJ5_isLatin1_aae02_3 : decode cJ5_isLatin1_aae02 3 = .ok (.ifCond .eq 14, 3) := by decide +kernel
theorem dJ5_isLatin1_aae02_6 : decode cJ5_isLatin1_aae02 6 = .ok (.aload_n 0, 1) := by decide +kernel
