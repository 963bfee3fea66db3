theorem dX4_hash_10 : decode cX4_hash 10 = .ok (.ifCond .eq 7, 3) := by decide +kernel
theorem dX4_hash_13 : decode cX4_hash 13 = .ok (.iconst 0, 1) := by decide +kernel
theorem dX4_hash_14 : decode cX4_hash 14 = .ok (.goto 8, 3) := by decide +kernel
theorem dX4_hash_22 : decode cX4_hash 22 = .ok (.ireturn, 1) := by decide +kernel
theorem dX4_flatHash_0 : decode cX4_flatHash 0 = .ok (.aload_n 0, 1) := by decide +kernel
theorem dX4_flatHash_1 : decode cX4_flatHash 1 = .ok (.aload_n 0, 1) := by decide +kernel
theorem dX4_flatHash_2 : decode cX4_flatHash 2 = .ok (.iload_n 1, 1) := by decide +kernel
theorem dX4_flatHash_3 : decode cX4_flatHash 3 = .ok (.invokevirtual 32, 3) := by decide +kernel
theorem dX4_flatHash_6 : decode cX4_flatHash 6 = .ok (.iconst 1, 1) := by decide +kernel
theorem dX4_flatHash_7 : decode cX4_flatHash 7 = .ok (.invokevirtual 73, 3) := by decide +kernel
theorem dX4_flatHash_10 : decode cX4_flatHash 10 = .ok (.ifCond .ne 25, 3) := by decide +kernel
theorem dX4_flatHash_35 : decode cX4_flatHash 35 = .ok (.iconst 0, 1) := by decide +kernel
theorem dX4_flatHash_36 : decode cX4_flatHash 36 = .ok (.goto 8, 3) := by decide +kernel
theorem dX4_flatHash_44 : decode cX4_flatHash 44 = .ok (.ireturn, 1) := by decide +kernel
theorem dX4_text_0 : decode cX4_text 0 = .ok (.aload_n 0, 1) := by decide +kernel
theorem dX4_text_1 : decode cX4_text 1 = .ok (.aload_n 0, 1) := by decide +kernel
theorem dX4_text_2 : decode cX4_text 2 = .ok (.iload_n 1, 1) := by decide +kernel
theorem dX4_text_3 : decode cX4_text 3 = .ok (.invokevirtual 32, 3) := by decide +kernel
theorem dX4_text_6 : decode cX4_text 6 = .ok (.iconst 1, 1) := by decide +kernel
theorem dX4_text_7 : decode cX4_text 7 = .ok (.invokevirtual 73, 3) := by decide +kernel
theorem dX4_text_10 : decode cX4_text 10 = .ok (.ifCond .eq 8, 3) := by decide +kernel
theorem dX4_text_13 : decode cX4_text 13 = .ok (.ldc 168, 2) := by decide +kernel
theorem dX4_text_15 : decode cX4_text 15 = .ok (.goto 8, 3) := by decide +kernel
theorem dX4_text_23 : decode cX4_text 23 = .ok (.areturn, 1) := by decide +kernel
theorem dX4_differ_0 : decode cX4_differ 0 = .ok (.aload_n 0, 1) := by decide +kernel
theorem dX4_differ_1 : decode cX4_differ 1 = .ok (.aload_n 0, 1) := by decide +kernel
theorem dX4_differ_2 : decode cX4_differ 2 = .ok (.iload_n 1, 1) := by decide +kernel
theorem dX4_differ_3 : decode cX4_differ 3 = .ok (.invokevirtual 32, 3) := by decide +kernel
theorem dX4_differ_6 : decode cX4_differ 6 = .ok (.ifCond .ne 11, 3) := by decide +kernel
theorem dX4_differ_17 : decode cX4_differ 17 = .ok (.iconst 1, 1) := by decide +kernel
theorem dX4_differ_18 : decode cX4_differ 18 = .ok (.goto 4, 3) := by decide +kernel
theorem dX4_differ_22 : decode cX4_differ 22 = .ok (.iconst 1, 1) := by decide +kernel
theorem dX4_differ_23 : decode cX4_differ 23 = .ok (.invokevirtual 73, 3) := by decide +kernel
theorem dX4_differ_26 : decode cX4_differ 26 = .ok (.ifCond .ne 17, 3) := by decide +kernel
theorem dX4_differ_43 : decode cX4_differ 43 = .ok (.iconst 0, 1) := by decide +kernel
theorem dX4_differ_44 : decode cX4_differ 44 = .ok (.goto 9, 3) := by decide +kernel
theorem dX4_differ_53 : decode cX4_differ 53 = .ok (.ireturn, 1) := by decide +kernel
theorem dX4_compare_0 : decode cX4_compare 0 = .ok (.aload_n 0, 1) := by decide +kernel
theorem dX4_compare_1 : decode cX4_compare 1 = .ok (.aload_n 0, 1) := by decide +kernel
theorem dX4_compare_2 : decode cX4_compare 2 = .ok (.iload_n 1, 1) := by decide +kernel
theorem dX4_compare_3 : decode cX4_compare 3 = .ok (.invokevirtual 32, 3) := by decide +kernel
theorem dX4_compare_6 : decode cX4_compare 6 = .ok (.ifCond .ne 11, 3) := by decide +kernel
theorem dX4_compare_17 : decode cX4_compare 17 = .ok (.iconst 1, 1) := by decide +kernel
theorem dX4_compare_18 : decode cX4_compare 18 = .ok (.goto 4, 3) := by decide +kernel
theorem dX4_compare_22 : decode cX4_compare 22 = .ok (.iconst 1, 1) := by decide +kernel
theorem dX4_compare_23 : decode cX4_compare 23 = .ok (.invokevirtual 73, 3) := by decide +kernel
theorem dX4_compare_26 : decode cX4_compare 26 = .ok (.ifCond .ne 43, 3) := by decide +kernel
theorem dX4_compare_69 : decode cX4_compare 69 = .ok (.iconst 0, 1) := by decide +kernel
theorem dX4_compare_70 : decode cX4_compare 70 = .ok (.ireturn, 1) := by decide +kernel
theorem dX4_knock_0 : decode cX4_knock 0 = .ok (.aload_n 0, 1) := by decide +kernel
theorem dX4_knock_1 : decode cX4_knock 1 = .ok (.iconst 0, 1) := by decide +kernel
theorem dX4_knock_2 : decode cX4_knock 2 = .ok (.putfield 16, 3) := by decide +kernel
theorem dX4_knock_5 : decode cX4_knock 5 = .ok (.aload_n 0, 1) := by decide +kernel
theorem dX4_knock_6 : decode cX4_knock 6 = .ok (.dup, 1) := by decide +kernel
theorem dX4_knock_7 : decode cX4_knock 7 = .ok (.getfield 207, 3) := by decide +kernel
theorem dX4_knock_10 : decode cX4_knock 10 = .ok (.iconst 1, 1) := by decide +kernel
theorem dX4_knock_11 : decode cX4_knock 11 = .ok (.iadd, 1) := by decide +kernel
theorem dX4_knock_12 : decode cX4_knock 12 = .ok (.dup_x1, 1) := by decide +kernel
theorem dX4_knock_13 : decode cX4_knock 13 = .ok (.putfield 207, 3) := by decide +kernel
theorem dX4_knock_16 : decode cX4_knock 16 = .ok (.ireturn, 1) := by decide +kernel
theorem dX4_houseTold_0 : decode cX4_houseTold 0 = .ok (.iconst 0, 1) := by decide +kernel
theorem dX4_houseTold_1 : decode cX4_houseTold 1 = .ok (.istore_n 2, 1) := by decide +kernel
theorem dX4_houseTold_2 : decode cX4_houseTold 2 = .ok (.iconst 0, 1) := by decide +kernel
theorem dX4_houseTold_3 : decode cX4_houseTold 3 = .ok (.istore_n 3, 1) := by decide +kernel
theorem dX4_houseTold_4 : decode cX4_houseTold 4 = .ok (.iconst 0, 1) := by decide +kernel
theorem dX4_houseTold_5 : decode cX4_houseTold 5 = .ok (.istore 4, 2) := by decide +kernel
theorem dX4_houseTold_7 : decode cX4_houseTold 7 = .ok (.iload 4, 2) := by decide +kernel
theorem dX4_houseTold_9 : decode cX4_houseTold 9 = .ok (.aload_n 0, 1) := by decide +kernel
theorem dX4_houseTold_10 : decode cX4_houseTold 10 = .ok (.getfield 10, 3) := by decide +kernel
theorem dX4_houseTold_13 : decode cX4_houseTold 13 = .ok (.invokevirtual 24, 3) := by decide +kernel
theorem dX4_houseTold_16 : decode cX4_houseTold 16 = .ok (.if_icmp .ge 50, 3) := by decide +kernel
theorem dX4_houseTold_66 : decode cX4_houseTold 66 = .ok (.bipush 6, 2) := by decide +kernel
theorem dX4_houseTold_68 : decode cX4_houseTold 68 = .ok (.newarray .int, 2) := by decide +kernel
theorem dX4_houseTold_70 : decode cX4_houseTold 70 = .ok (.dup, 1) := by decide +kernel
theorem dX4_houseTold_71 : decode cX4_houseTold 71 = .ok (.iconst 0, 1) := by decide +kernel
theorem dX4_houseTold_72 : decode cX4_houseTold 72 = .ok (.aload_n 0, 1) := by decide +kernel
theorem dX4_houseTold_73 : decode cX4_houseTold 73 = .ok (.getfield 10, 3) := by decide +kernel
theorem dX4_houseTold_76 : decode cX4_houseTold 76 = .ok (.invokevirtual 24, 3) := by decide +kernel
theorem dX4_houseTold_79 : decode cX4_houseTold 79 = .ok (.iastore, 1) := by decide +kernel
theorem dX4_houseTold_80 : decode cX4_houseTold 80 = .ok (.dup, 1) := by decide +kernel
theorem dX4_houseTold_81 : decode cX4_houseTold 81 = .ok (.iconst 1, 1) := by decide +kernel
theorem dX4_houseTold_82 : decode cX4_houseTold 82 = .ok (.aload_n 0, 1) := by decide +kernel
theorem dX4_houseTold_83 : decode cX4_houseTold 83 = .ok (.getfield 120, 3) := by decide +kernel
theorem dX4_houseTold_86 : decode cX4_houseTold 86 = .ok (.iastore, 1) := by decide +kernel
theorem dX4_houseTold_87 : decode cX4_houseTold 87 = .ok (.dup, 1) := by decide +kernel
theorem dX4_houseTold_88 : decode cX4_houseTold 88 = .ok (.iconst 2, 1) := by decide +kernel
theorem dX4_houseTold_89 : decode cX4_houseTold 89 = .ok (.aload_n 0, 1) := by decide +kernel
theorem dX4_houseTold_90 : decode cX4_houseTold 90 = .ok (.getfield 114, 3) := by decide +kernel
theorem dX4_houseTold_93 : decode cX4_houseTold 93 = .ok (.iastore, 1) := by decide +kernel
theorem dX4_houseTold_94 : decode cX4_houseTold 94 = .ok (.dup, 1) := by decide +kernel
theorem dX4_houseTold_95 : decode cX4_houseTold 95 = .ok (.iconst 3, 1) := by decide +kernel
theorem dX4_houseTold_96 : decode cX4_houseTold 96 = .ok (.aload_n 0, 1) := by decide +kernel
theorem dX4_houseTold_97 : decode cX4_houseTold 97 = .ok (.getfield 207, 3) := by decide +kernel
theorem dX4_houseTold_100 : decode cX4_houseTold 100 = .ok (.iastore, 1) := by decide +kernel
theorem dX4_houseTold_101 : decode cX4_houseTold 101 = .ok (.dup, 1) := by decide +kernel
theorem dX4_houseTold_102 : decode cX4_houseTold 102 = .ok (.iconst 4, 1) := by decide +kernel
theorem dX4_houseTold_103 : decode cX4_houseTold 103 = .ok (.iload_n 2, 1) := by decide +kernel
theorem dX4_houseTold_104 : decode cX4_houseTold 104 = .ok (.iastore, 1) := by decide +kernel
theorem dX4_houseTold_105 : decode cX4_houseTold 105 = .ok (.dup, 1) := by decide +kernel
theorem dX4_houseTold_106 : decode cX4_houseTold 106 = .ok (.iconst 5, 1) := by decide +kernel
theorem dX4_houseTold_107 : decode cX4_houseTold 107 = .ok (.iload_n 3, 1) := by decide +kernel
theorem dX4_houseTold_108 : decode cX4_houseTold 108 = .ok (.iastore, 1) := by decide +kernel
theorem dX4_houseTold_109 : decode cX4_houseTold 109 = .ok (.astore 4, 2) := by decide +kernel
theorem dX4_houseTold_111 : decode cX4_houseTold 111 = .ok (.aload 4, 2) := by decide +kernel
theorem dX4_houseTold_113 : decode cX4_houseTold 113 = .ok (.iload_n 1, 1) := by decide +kernel
theorem dX4_houseTold_114 : decode cX4_houseTold 114 = .ok (.iaload, 1) := by decide +kernel
theorem dX4_houseTold_115 : decode cX4_houseTold 115 = .ok (.ireturn, 1) := by decide +kernel
theorem dX4_house_0 : decode cX4_house 0 = .ok (.aload_n 0, 1) := by decide +kernel
theorem dX4_house_1 : decode cX4_house 1 = .ok (.iload_n 1, 1) := by decide +kernel
theorem dX4_house_2 : decode cX4_house 2 = .ok (.iconst 0, 1) := by decide +kernel
theorem dX4_house_3 : decode cX4_house 3 = .ok (.iconst 5, 1) := by decide +kernel
theorem dX4_house_4 : decode cX4_house 4 = .ok (.invokestatic 28, 3) := by decide +kernel
theorem dX4_house_7 : decode cX4_house 7 = .ok (.ifCond .ne 7, 3) := by decide +kernel
theorem dX4_house_10 : decode cX4_house 10 = .ok (.iconst 1, 1) := by decide +kernel
theorem dX4_house_11 : decode cX4_house 11 = .ok (.goto 4, 3) := by decide +kernel
theorem dX4_house_14 : decode cX4_house 14 = .ok (.iconst 0, 1) := by decide +kernel
theorem dX4_house_15 : decode cX4_house 15 = .ok (.iconst 1, 1) := by decide +kernel
theorem dX4_house_16 : decode cX4_house 16 = .ok (.invokevirtual 73, 3) := by decide +kernel
theorem dX4_house_19 : decode cX4_house 19 = .ok (.ifCond .eq 7, 3) := by decide +kernel
theorem dX4_house_22 : decode cX4_house 22 = .ok (.iconst 0, 1) := by decide +kernel
theorem dX4_house_23 : decode cX4_house 23 = .ok (.goto 8, 3) := by decide +kernel
theorem dX4_house_26 : decode cX4_house 26 = .ok (.aload_n 0, 1) := by decide +kernel
theorem dX4_house_27 : decode cX4_house 27 = .ok (.iload_n 1, 1) := by decide +kernel
theorem dX4_house_28 : decode cX4_house 28 = .ok (.invokevirtual 214, 3) := by decide +kernel
theorem dX4_house_31 : decode cX4_house 31 = .ok (.ireturn, 1) := by decide +kernel
theorem dX4_isSound_0 : decode cX4_isSound 0 = .ok (.aload_n 0, 1) := by decide +kernel
theorem dX4_isSound_1 : decode cX4_isSound 1 = .ok (.iconst 0, 1) := by decide +kernel
theorem dX4_isSound_2 : decode cX4_isSound 2 = .ok (.putfield 16, 3) := by decide +kernel
theorem dX4_isSound_5 : decode cX4_isSound 5 = .ok (.iconst 1, 1) := by decide +kernel
theorem dX4_isSound_6 : decode cX4_isSound 6 = .ok (.ireturn, 1) := by decide +kernel
theorem dX4_add_0 : decode cX4_add 0 = .ok (.lload_n 0, 1) := by decide +kernel
theorem dX4_add_1 : decode cX4_add 1 = .ok (.ldc2_w 217, 3) := by decide +kernel
theorem dX4_add_4 : decode cX4_add 4 = .ok (.lmul, 1) := by decide +kernel
theorem dX4_add_5 : decode cX4_add 5 = .ok (.lload_n 2, 1) := by decide +kernel
theorem dX4_add_6 : decode cX4_add 6 = .ok (.ladd, 1) := by decide +kernel
theorem dX4_add_7 : decode cX4_add 7 = .ok (.lreturn, 1) := by decide +kernel
theorem dX4_digest_0 : decode cX4_digest 0 = .ok (.aload_n 0, 1) := by decide +kernel
theorem dX4_digest_1 : decode cX4_digest 1 = .ok (.iconst 0, 1) := by decide +kernel
theorem dX4_digest_2 : decode cX4_digest 2 = .ok (.putfield 16, 3) := by decide +kernel
theorem dX4_digest_5 : decode cX4_digest 5 = .ok (.ldc2_w 219, 3) := by decide +kernel
theorem dX4_digest_8 : decode cX4_digest 8 = .ok (.lstore_n 1, 1) := by decide +kernel
theorem dX4_digest_9 : decode cX4_digest 9 = .ok (.iconst 0, 1) := by decide +kernel
theorem dX4_digest_10 : decode cX4_digest 10 = .ok (.istore_n 3, 1) := by decide +kernel
theorem dX4_digest_11 : decode cX4_digest 11 = .ok (.iload_n 3, 1) := by decide +kernel
theorem dX4_digest_12 : decode cX4_digest 12 = .ok (.bipush 6, 2) := by decide +kernel
theorem dX4_digest_14 : decode cX4_digest 14 = .ok (.if_icmp .ge 20, 3) := by decide +kernel
theorem dX4_digest_17 : decode cX4_digest 17 = .ok (.lload_n 1, 1) := by decide +kernel
theorem dX4_digest_18 : decode cX4_digest 18 = .ok (.aload_n 0, 1) := by decide +kernel
theorem dX4_digest_19 : decode cX4_digest 19 = .ok (.iload_n 3, 1) := by decide +kernel
theorem dX4_digest_20 : decode cX4_digest 20 = .ok (.invokevirtual 214, 3) := by decide +kernel
theorem dX4_digest_23 : decode cX4_digest 23 = .ok (.i2l, 1) := by decide +kernel
theorem dX4_digest_24 : decode cX4_digest 24 = .ok (.invokestatic 221, 3) := by decide +kernel
theorem dX4_digest_27 : decode cX4_digest 27 = .ok (.lstore_n 1, 1) := by decide +kernel
theorem dX4_digest_28 : decode cX4_digest 28 = .ok (.iinc 3 1, 3) := by decide +kernel
theorem dX4_digest_31 : decode cX4_digest 31 = .ok (.goto (-20), 3) := by decide +kernel
theorem dX4_digest_34 : decode cX4_digest 34 = .ok (.iconst 0, 1) := by decide +kernel
theorem dX4_digest_35 : decode cX4_digest 35 = .ok (.istore_n 3, 1) := by decide +kernel
theorem dX4_digest_36 : decode cX4_digest 36 = .ok (.iload_n 3, 1) := by decide +kernel
theorem dX4_digest_37 : decode cX4_digest 37 = .ok (.aload_n 0, 1) := by decide +kernel
theorem dX4_digest_38 : decode cX4_digest 38 = .ok (.getfield 10, 3) := by decide +kernel
theorem dX4_digest_41 : decode cX4_digest 41 = .ok (.invokevirtual 24, 3) := by decide +kernel
theorem dX4_digest_44 : decode cX4_digest 44 = .ok (.if_icmp .ge 119, 3) := by decide +kernel
theorem dX4_digest_163 : decode cX4_digest 163 = .ok (.iconst 0, 1) := by decide +kernel
theorem dX4_digest_164 : decode cX4_digest 164 = .ok (.istore_n 3, 1) := by decide +kernel
theorem dX4_digest_165 : decode cX4_digest 165 = .ok (.iload_n 3, 1) := by decide +kernel
theorem dX4_digest_166 : decode cX4_digest 166 = .ok (.aload_n 0, 1) := by decide +kernel
theorem dX4_digest_167 : decode cX4_digest 167 = .ok (.getfield 10, 3) := by decide +kernel
theorem dX4_digest_170 : decode cX4_digest 170 = .ok (.invokevirtual 24, 3) := by decide +kernel
theorem dX4_digest_173 : decode cX4_digest 173 = .ok (.if_icmp .ge 48, 3) := by decide +kernel
theorem dX4_digest_221 : decode cX4_digest 221 = .ok (.lload_n 1, 1) := by decide +kernel
theorem dX4_digest_222 : decode cX4_digest 222 = .ok (.lconst 1, 1) := by decide +kernel
theorem dX4_digest_223 : decode cX4_digest 223 = .ok (.invokestatic 221, 3) := by decide +kernel
theorem dX4_digest_226 : decode cX4_digest 226 = .ok (.lreturn, 1) := by decide +kernel
theorem dJ5_init_d00df_0 : decode cJ5_init_d00df 0 = .ok (.aload_n 0, 1) := by decide +kernel
theorem dJ5_init_d00df_1 : decode cJ5_init_d00df 1 = .ok (.invokespecial 3, 3) := by decide +kernel
theorem dJ5_init_d00df_4 : decode cJ5_init_d00df 4 = .ok (.getstatic 18, 3) := by decide +kernel
theorem dJ5_init_d00df_7 : decode cJ5_init_d00df 7 = .ok (.ifCond .eq 18, 3) := by decide +kernel
theorem dJ5_init_d00df_10 : decode cJ5_init_d00df 10 = .ok (.aload_n 0, 1) := by decide +kernel
theorem dJ5_init_d00df_11 : decode cJ5_init_d00df 11 = .ok (.iload_n 1, 1) := by decide +kernel
theorem dJ5_init_d00df_12 : decode cJ5_init_d00df 12 = .ok (.newarray .byte, 2) := by decide +kernel
theorem dJ5_init_d00df_14 : decode cJ5_init_d00df 14 = .ok (.putfield 15, 3) := by decide +kernel
theorem dJ5_init_d00df_17 : decode cJ5_init_d00df 17 = .ok (.aload_n 0, 1) := by decide +kernel
theorem dJ5_init_d00df_18 : decode cJ5_init_d00df 18 = .ok (.iconst 0, 1) := by decide +kernel
theorem dJ5_init_d00df_19 : decode cJ5_init_d00df 19 = .ok (.putfield 22, 3) := by decide +kernel
theorem dJ5_init_d00df_22 : decode cJ5_init_d00df 22 = .ok (.goto 16, 3) := by decide +kernel
theorem dJ5_init_d00df_38 : decode cJ5_init_d00df 38 = .ok (.return_, 1) := by decide +kernel
theorem dJ4_init_da8c8_0 : decode cJ4_init_da8c8 0 = .ok (.aload_n 0, 1) := by decide +kernel
theorem dJ4_init_da8c8_1 : decode cJ4_init_da8c8 1 = .ok (.bipush 16, 2) := by decide +kernel
theorem dJ4_init_da8c8_3 : decode cJ4_init_da8c8 3 = .ok (.invokespecial 1, 3) := by decide +kernel
theorem dJ4_init_da8c8_6 : decode cJ4_init_da8c8 6 = .ok (.return_, 1) := by decide +kernel
theorem dJxa1e45_init_da8c8_0 : decode cJxa1e45_init_da8c8 0 = .ok (.aload_n 0, 1) := by decide +kernel
theorem dJxa1e45_init_da8c8_1 : decode cJxa1e45_init_da8c8 1 = .ok (.invokespecial 1, 3) := by decide +kernel
theorem dJxa1e45_init_da8c8_4 : decode cJxa1e45_init_da8c8 4 = .ok (.return_, 1) := by decide +kernel
theorem dJxc12de_init_da8c8_0 : decode cJxc12de_init_da8c8 0 = .ok (.aload_n 0, 1) := by decide +kernel
theorem dJxc12de_init_da8c8_1 : decode cJxc12de_init_da8c8 1 = .ok (.invokespecial 1, 3) := by decide +kernel
theorem dJxc12de_init_da8c8_4 : decode cJxc12de_init_da8c8 4 = .ok (.aload_n 0, 1) := by decide +kernel
theorem dJxc12de_init_da8c8_5 : decode cJxc12de_init_da8c8 5 = .ok (.iconst 0, 1) := by decide +kernel
theorem dJxc12de_init_da8c8_6 : decode cJxc12de_init_da8c8 6 = .ok (.putfield 7, 3) := by decide +kernel
theorem dJxc12de_init_da8c8_9 : decode cJxc12de_init_da8c8 9 = .ok (.return_, 1) := by decide +kernel
theorem dJx4a65c_init_da8c8_0 : decode cJx4a65c_init_da8c8 0 = .ok (.aload_n 0, 1) := by decide +kernel
theorem dJx4a65c_init_da8c8_1 : decode cJx4a65c_init_da8c8 1 = .ok (.invokespecial 1, 3) := by decide +kernel
theorem dJx4a65c_init_da8c8_4 : decode cJx4a65c_init_da8c8 4 = .ok (.aload_n 0, 1) := by decide +kernel
theorem dJx4a65c_init_da8c8_5 : decode cJx4a65c_init_da8c8 5 = .ok (.getstatic 39, 3) := by decide +kernel
theorem dJx4a65c_init_da8c8_8 : decode cJx4a65c_init_da8c8 8 = .ok (.putfield 9, 3) := by decide +kernel
theorem dJx4a65c_init_da8c8_11 : decode cJx4a65c_init_da8c8 11 = .ok (.return_, 1) := by decide +kernel
theorem dJx4a65c_grow_92f84_0 : decode cJx4a65c_grow_92f84 0 = .ok (.aload_n 0, 1) := by decide +kernel
theorem dJx4a65c_grow_92f84_1 : decode cJx4a65c_grow_92f84 1 = .ok (.getfield 9, 3) := by decide +kernel
theorem dJx4a65c_grow_92f84_4 : decode cJx4a65c_grow_92f84 4 = .ok (.arraylength, 1) := by decide +kernel
theorem dJx4a65c_grow_92f84_5 : decode cJx4a65c_grow_92f84 5 = .ok (.istore_n 2, 1) := by decide +kernel
theorem dJx4a65c_grow_92f84_6 : decode cJx4a65c_grow_92f84 6 = .ok (.iload_n 2, 1) := by decide +kernel
theorem dJx4a65c_grow_92f84_7 : decode cJx4a65c_grow_92f84 7 = .ok (.ifCond .gt 13, 3) := by decide +kernel
theorem dJx4a65c_grow_92f84_10 : decode cJx4a65c_grow_92f84 10 = .ok (.aload_n 0, 1) := by decide +kernel
theorem dJx4a65c_grow_92f84_11 : decode cJx4a65c_grow_92f84 11 = .ok (.getfield 9, 3) := by decide +kernel
theorem dJx4a65c_grow_92f84_14 : decode cJx4a65c_grow_92f84 14 = .ok (.getstatic 39, 3) := by decide +kernel
theorem dJx4a65c_grow_92f84_17 : decode cJx4a65c_grow_92f84 17 = .ok (.if_acmp .eq 28, 3) := by decide +kernel
theorem dJx4a65c_grow_92f84_45 : decode cJx4a65c_grow_92f84 45 = .ok (.aload_n 0, 1) := by decide +kernel
theorem dJx4a65c_grow_92f84_46 : decode cJx4a65c_grow_92f84 46 = .ok (.bipush 10, 2) := by decide +kernel
theorem dJx4a65c_grow_92f84_48 : decode cJx4a65c_grow_92f84 48 = .ok (.iload_n 1, 1) := by decide +kernel
theorem dJx4a65c_grow_92f84_49 : decode cJx4a65c_grow_92f84 49 = .ok (.invokestatic 79, 3) := by decide +kernel
theorem dJx4a65c_grow_92f84_52 : decode cJx4a65c_grow_92f84 52 = .ok (.anewarray 7, 3) := by decide +kernel
theorem dJx4a65c_grow_92f84_55 : decode cJx4a65c_grow_92f84 55 = .ok (.dup_x1, 1) := by decide +kernel
theorem dJx4a65c_grow_92f84_56 : decode cJx4a65c_grow_92f84 56 = .ok (.putfield 9, 3) := by decide +kernel
theorem dJx4a65c_grow_92f84_59 : decode cJx4a65c_grow_92f84 59 = .ok (.areturn, 1) := by decide +kernel
theorem dJx4a65c_grow_d5877_0 : decode cJx4a65c_grow_d5877 0 = .ok (.aload_n 0, 1) := by decide +kernel
theorem dJx4a65c_grow_d5877_1 : decode cJx4a65c_grow_d5877 1 = .ok (.aload_n 0, 1) := by decide +kernel
theorem dJx4a65c_grow_d5877_2 : decode cJx4a65c_grow_d5877 2 = .ok (.getfield 48, 3) := by decide +kernel
theorem dJx4a65c_grow_d5877_5 : decode cJx4a65c_grow_d5877 5 = .ok (.iconst 1, 1) := by decide +kernel
theorem dJx4a65c_grow_d5877_6 : decode cJx4a65c_grow_d5877 6 = .ok (.iadd, 1) := by decide +kernel
theorem dJx4a65c_grow_d5877_7 : decode cJx4a65c_grow_d5877 7 = .ok (.invokevirtual 69, 3) := by decide +kernel
theorem dJx4a65c_grow_d5877_10 : decode cJx4a65c_grow_d5877 10 = .ok (.areturn, 1) := by decide +kernel
theorem dJx4a65c_size_8abf5_0 : decode cJx4a65c_size_8abf5 0 = .ok (.aload_n 0, 1) := by decide +kernel
theorem dJx4a65c_size_8abf5_1 : decode cJx4a65c_size_8abf5 1 = .ok (.getfield 48, 3) := by decide +kernel
theorem dJx4a65c_size_8abf5_4 : decode cJx4a65c_size_8abf5 4 = .ok (.ireturn, 1) := by decide +kernel
theorem dJx4a65c_isEmpty_aae02_0 : decode cJx4a65c_isEmpty_aae02 0 = .ok (.aload_n 0, 1) := by decide +kernel
theorem dJx4a65c_isEmpty_aae02_1 : decode cJx4a65c_isEmpty_aae02 1 = .ok (.getfield 48, 3) := by decide +kernel
theorem dJx4a65c_isEmpty_aae02_4 : decode cJx4a65c_isEmpty_aae02 4 = .ok (.ifCond .ne 7, 3) := by decide +kernel
theorem dJx4a65c_isEmpty_aae02_7 : decode cJx4a65c_isEmpty_aae02 7 = .ok (.iconst 1, 1) := by decide +kernel
theorem dJx4a65c_isEmpty_aae02_8 : decode cJx4a65c_isEmpty_aae02 8 = .ok (.goto 4, 3) := by decide +kernel
theorem dJx4a65c_isEmpty_aae02_12 : decode cJx4a65c_isEmpty_aae02 12 = .ok (.ireturn, 1) := by decide +kernel
theorem dJx4a65c_add_72be8_0 : decode cJx4a65c_add_72be8 0 = .ok (.iload_n 3, 1) := by decide +kernel
theorem dJx4a65c_add_72be8_1 : decode cJx4a65c_add_72be8 1 = .ok (.aload_n 2, 1) := by decide +kernel
theorem dJx4a65c_add_72be8_2 : decode cJx4a65c_add_72be8 2 = .ok (.arraylength, 1) := by decide +kernel
theorem dJx4a65c_add_72be8_3 : decode cJx4a65c_add_72be8 3 = .ok (.if_icmp .ne 8, 3) := by decide +kernel
theorem dJx4a65c_add_72be8_6 : decode cJx4a65c_add_72be8 6 = .ok (.aload_n 0, 1) := by decide +kernel
theorem dJx4a65c_add_72be8_7 : decode cJx4a65c_add_72be8 7 = .ok (.invokevirtual 129, 3) := by decide +kernel
theorem dJx4a65c_add_72be8_10 : decode cJx4a65c_add_72be8 10 = .ok (.astore_n 2, 1) := by decide +kernel
theorem dJx4a65c_add_72be8_11 : decode cJx4a65c_add_72be8 11 = .ok (.aload_n 2, 1) := by decide +kernel
theorem dJx4a65c_add_72be8_12 : decode cJx4a65c_add_72be8 12 = .ok (.iload_n 3, 1) := by decide +kernel
theorem dJx4a65c_add_72be8_13 : decode cJx4a65c_add_72be8 13 = .ok (.aload_n 1, 1) := by decide +kernel
theorem dJx4a65c_add_72be8_14 : decode cJx4a65c_add_72be8 14 = .ok (.aastore, 1) := by decide +kernel
theorem dJx4a65c_add_72be8_15 : decode cJx4a65c_add_72be8 15 = .ok (.aload_n 0, 1) := by decide +kernel
theorem dJx4a65c_add_72be8_16 : decode cJx4a65c_add_72be8 16 = .ok (.iload_n 3, 1) := by decide +kernel
theorem dJx4a65c_add_72be8_17 : decode cJx4a65c_add_72be8 17 = .ok (.iconst 1, 1) := by decide +kernel
theorem dJx4a65c_add_72be8_18 : decode cJx4a65c_add_72be8 18 = .ok (.iadd, 1) := by decide +kernel
theorem dJx4a65c_add_72be8_19 : decode cJx4a65c_add_72be8 19 = .ok (.putfield 48, 3) := by decide +kernel
theorem dJx4a65c_add_72be8_22 : decode cJx4a65c_add_72be8 22 = .ok (.return_, 1) := by decide +kernel
theorem dJx4a65c_add_9ea2d_0 : decode cJx4a65c_add_9ea2d 0 = .ok (.aload_n 0, 1) := by decide +kernel
theorem dJx4a65c_add_9ea2d_1 : decode cJx4a65c_add_9ea2d 1 = .ok (.dup, 1) := by decide +kernel
theorem dJx4a65c_add_9ea2d_2 : decode cJx4a65c_add_9ea2d 2 = .ok (.getfield 63, 3) := by decide +kernel
theorem dJx4a65c_add_9ea2d_5 : decode cJx4a65c_add_9ea2d 5 = .ok (.iconst 1, 1) := by decide +kernel
theorem dJx4a65c_add_9ea2d_6 : decode cJx4a65c_add_9ea2d 6 = .ok (.iadd, 1) := by decide +kernel
theorem dJx4a65c_add_9ea2d_7 : decode cJx4a65c_add_9ea2d 7 = .ok (.putfield 63, 3) := by decide +kernel
theorem dJx4a65c_add_9ea2d_10 : decode cJx4a65c_add_9ea2d 10 = .ok (.aload_n 0, 1) := by decide +kernel
theorem dJx4a65c_add_9ea2d_11 : decode cJx4a65c_add_9ea2d 11 = .ok (.aload_n 1, 1) := by decide +kernel
theorem dJx4a65c_add_9ea2d_12 : decode cJx4a65c_add_9ea2d 12 = .ok (.aload_n 0, 1) := by decide +kernel
theorem dJx4a65c_add_9ea2d_13 : decode cJx4a65c_add_9ea2d 13 = .ok (.getfield 9, 3) := by decide +kernel
theorem dJx4a65c_add_9ea2d_16 : decode cJx4a65c_add_9ea2d 16 = .ok (.aload_n 0, 1) := by decide +kernel
theorem dJx4a65c_add_9ea2d_17 : decode cJx4a65c_add_9ea2d 17 = .ok (.getfield 48, 3) := by decide +kernel
theorem dJx4a65c_add_9ea2d_20 : decode cJx4a65c_add_9ea2d 20 = .ok (.invokevirtual 131, 3) := by decide +kernel
theorem dJx4a65c_add_9ea2d_23 : decode cJx4a65c_add_9ea2d 23 = .ok (.iconst 1, 1) := by decide +kernel
theorem dJx4a65c_add_9ea2d_24 : decode cJx4a65c_add_9ea2d 24 = .ok (.ireturn, 1) := by decide +kernel
theorem dJx4a65c_clear_da8c8_0 : decode cJx4a65c_clear_da8c8 0 = .ok (.aload_n 0, 1) := by decide +kernel
theorem dJx4a65c_clear_da8c8_1 : decode cJx4a65c_clear_da8c8 1 = .ok (.dup, 1) := by decide +kernel
theorem dJx4a65c_clear_da8c8_2 : decode cJx4a65c_clear_da8c8 2 = .ok (.getfield 63, 3) := by decide +kernel
theorem dJx4a65c_clear_da8c8_5 : decode cJx4a65c_clear_da8c8 5 = .ok (.iconst 1, 1) := by decide +kernel
theorem dJx4a65c_clear_da8c8_6 : decode cJx4a65c_clear_da8c8 6 = .ok (.iadd, 1) := by decide +kernel
theorem dJx4a65c_clear_da8c8_7 : decode cJx4a65c_clear_da8c8 7 = .ok (.putfield 63, 3) := by decide +kernel
theorem dJx4a65c_clear_da8c8_10 : decode cJx4a65c_clear_da8c8 10 = .ok (.aload_n 0, 1) := by decide +kernel
theorem dJx4a65c_clear_da8c8_11 : decode cJx4a65c_clear_da8c8 11 = .ok (.getfield 9, 3) := by decide +kernel
theorem dJx4a65c_clear_da8c8_14 : decode cJx4a65c_clear_da8c8 14 = .ok (.astore_n 1, 1) := by decide +kernel
theorem dJx4a65c_clear_da8c8_15 : decode cJx4a65c_clear_da8c8 15 = .ok (.aload_n 0, 1) := by decide +kernel
theorem dJx4a65c_clear_da8c8_16 : decode cJx4a65c_clear_da8c8 16 = .ok (.getfield 48, 3) := by decide +kernel
theorem dJx4a65c_clear_da8c8_19 : decode cJx4a65c_clear_da8c8 19 = .ok (.istore_n 2, 1) := by decide +kernel
theorem dJx4a65c_clear_da8c8_20 : decode cJx4a65c_clear_da8c8 20 = .ok (.aload_n 0, 1) := by decide +kernel
theorem dJx4a65c_clear_da8c8_21 : decode cJx4a65c_clear_da8c8 21 = .ok (.iconst 0, 1) := by decide +kernel
theorem dJx4a65c_clear_da8c8_22 : decode cJx4a65c_clear_da8c8 22 = .ok (.dup_x1, 1) := by decide +kernel
theorem dJx4a65c_clear_da8c8_23 : decode cJx4a65c_clear_da8c8 23 = .ok (.putfield 48, 3) := by decide +kernel
theorem dJx4a65c_clear_da8c8_26 : decode cJx4a65c_clear_da8c8 26 = .ok (.istore_n 3, 1) := by decide +kernel
theorem dJx4a65c_clear_da8c8_27 : decode cJx4a65c_clear_da8c8 27 = .ok (.iload_n 3, 1) := by decide +kernel
theorem dJx4a65c_clear_da8c8_28 : decode cJx4a65c_clear_da8c8 28 = .ok (.iload_n 2, 1) := by decide +kernel
theorem dJx4a65c_clear_da8c8_29 : decode cJx4a65c_clear_da8c8 29 = .ok (.if_icmp .ge 13, 3) := by decide +kernel
theorem dJx4a65c_clear_da8c8_42 : decode cJx4a65c_clear_da8c8 42 = .ok (.return_, 1) := by decide +kernel
theorem dL_make_0 : decode cL_make 0 = .ok (.aload_n 3, 1) := by decide +kernel
theorem dL_make_1 : decode cL_make 1 = .ok (.aload_n 0, 1) := by decide +kernel
theorem dL_make_2 : decode cL_make 2 = .ok (.iload_n 1, 1) := by decide +kernel
theorem dL_make_3 : decode cL_make 3 = .ok (.iload_n 2, 1) := by decide +kernel
theorem dL_make_4 : decode cL_make 4 = .ok (.invokevirtual 7, 3) := by decide +kernel
theorem dL_make_7 : decode cL_make 7 = .ok (.i2l, 1) := by decide +kernel
theorem dL_make_8 : decode cL_make 8 = .ok (.putfield 13, 3) := by decide +kernel
theorem dL_make_11 : decode cL_make 11 = .ok (.goto 11, 3) := by decide +kernel
theorem dL_make_14 : decode cL_make 14 = .ok (.astore 4, 2) := by decide +kernel
theorem dL_make_16 : decode cL_make 16 = .ok (.iconst 1, 1) := by decide +kernel
theorem dL_make_17 : decode cL_make 17 = .ok (.ireturn, 1) := by decide +kernel
theorem dL_make_22 : decode cL_make 22 = .ok (.iconst 0, 1) := by decide +kernel
theorem dL_make_23 : decode cL_make 23 = .ok (.ireturn, 1) := by decide +kernel
theorem dL_drop_0 : decode cL_drop 0 = .ok (.aload_n 1, 1) := by decide +kernel
theorem dL_drop_1 : decode cL_drop 1 = .ok (.aload_n 0, 1) := by decide +kernel
theorem dL_drop_2 : decode cL_drop 2 = .ok (.invokevirtual 23, 3) := by decide +kernel
theorem dL_drop_12 : decode cL_drop 12 = .ok (.astore_n 2, 1) := by decide +kernel
theorem dL_drop_13 : decode cL_drop 13 = .ok (.iconst 1, 1) := by decide +kernel
theorem dL_drop_14 : decode cL_drop 14 = .ok (.ireturn, 1) := by decide +kernel
theorem dL_put_0 : decode cL_put 0 = .ok (.aload 4, 2) := by decide +kernel
theorem dL_put_2 : decode cL_put 2 = .ok (.aload_n 0, 1) := by decide +kernel
theorem dL_put_3 : decode cL_put 3 = .ok (.iload_n 1, 1) := by decide +kernel
theorem dL_put_4 : decode cL_put 4 = .ok (.iload_n 2, 1) := by decide +kernel
theorem dL_put_5 : decode cL_put 5 = .ok (.iload_n 3, 1) := by decide +kernel
theorem dL_put_6 : decode cL_put 6 = .ok (.invokevirtual 27, 3) := by decide +kernel
theorem dL_put_16 : decode cL_put 16 = .ok (.astore 5, 2) := by decide +kernel
theorem dL_put_18 : decode cL_put 18 = .ok (.iconst 1, 1) := by decide +kernel
theorem dL_put_19 : decode cL_put 19 = .ok (.ireturn, 1) := by decide +kernel
theorem dL_say_0 : decode cL_say 0 = .ok (.aload 4, 2) := by decide +kernel
theorem dL_say_2 : decode cL_say 2 = .ok (.aload_n 0, 1) := by decide +kernel
theorem dL_say_3 : decode cL_say 3 = .ok (.iload_n 1, 1) := by decide +kernel
theorem dL_say_4 : decode cL_say 4 = .ok (.iload_n 2, 1) := by decide +kernel
theorem dL_say_5 : decode cL_say 5 = .ok (.iload_n 3, 1) := by decide +kernel
theorem dL_say_6 : decode cL_say 6 = .ok (.invokevirtual 33, 3) := by decide +kernel
theorem dL_say_16 : decode cL_say 16 = .ok (.astore 5, 2) := by decide +kernel
theorem dL_say_18 : decode cL_say 18 = .ok (.iconst 1, 1) := by decide +kernel
theorem dL_say_19 : decode cL_say 19 = .ok (.ireturn, 1) := by decide +kernel
theorem dL_none_0 : decode cL_none 0 = .ok (.aload_n 3, 1) := by decide +kernel
theorem dL_none_1 : decode cL_none 1 = .ok (.aload_n 0, 1) := by decide +kernel
theorem dL_none_2 : decode cL_none 2 = .ok (.iload_n 1, 1) := by decide +kernel
theorem dL_none_3 : decode cL_none 3 = .ok (.iload_n 2, 1) := by decide +kernel
theorem dL_none_4 : decode cL_none 4 = .ok (.invokevirtual 36, 3) := by decide +kernel
theorem dL_none_14 : decode cL_none 14 = .ok (.astore 4, 2) := by decide +kernel
theorem dL_none_16 : decode cL_none 16 = .ok (.iconst 1, 1) := by decide +kernel
theorem dL_none_17 : decode cL_none 17 = .ok (.ireturn, 1) := by decide +kernel
theorem dL_hang_0 : decode cL_hang 0 = .ok (.aload 4, 2) := by decide +kernel
theorem dL_hang_2 : decode cL_hang 2 = .ok (.aload_n 0, 1) := by decide +kernel
theorem dL_hang_3 : decode cL_hang 3 = .ok (.iload_n 1, 1) := by decide +kernel
theorem dL_hang_4 : decode cL_hang 4 = .ok (.iload_n 2, 1) := by decide +kernel
theorem dL_hang_5 : decode cL_hang 5 = .ok (.iload_n 3, 1) := by decide +kernel
theorem dL_hang_6 : decode cL_hang 6 = .ok (.invokevirtual 39, 3) := by decide +kernel
theorem dL_hang_16 : decode cL_hang 16 = .ok (.astore 5, 2) := by decide +kernel
theorem dL_hang_18 : decode cL_hang 18 = .ok (.iconst 1, 1) := by decide +kernel
theorem dL_hang_19 : decode cL_hang 19 = .ok (.ireturn, 1) := by decide +kernel
theorem dL_swap_0 : decode cL_swap 0 = .ok (.aload 4, 2) := by decide +kernel
theorem dL_swap_2 : decode cL_swap 2 = .ok (.aload_n 0, 1) := by decide +kernel
theorem dL_swap_3 : decode cL_swap 3 = .ok (.iload_n 1, 1) := by decide +kernel
theorem dL_swap_4 : decode cL_swap 4 = .ok (.iload_n 2, 1) := by decide +kernel
theorem dL_swap_5 : decode cL_swap 5 = .ok (.iload_n 3, 1) := by decide +kernel
theorem dL_swap_6 : decode cL_swap 6 = .ok (.invokevirtual 42, 3) := by decide +kernel
theorem dL_swap_16 : decode cL_swap 16 = .ok (.astore 5, 2) := by decide +kernel
theorem dL_swap_18 : decode cL_swap 18 = .ok (.iconst 1, 1) := by decide +kernel
theorem dL_swap_19 : decode cL_swap 19 = .ok (.ireturn, 1) := by decide +kernel
theorem dL_fill_0 : decode cL_fill 0 = .ok (.aload_n 3, 1) := by decide +kernel
theorem dL_fill_1 : decode cL_fill 1 = .ok (.aload_n 0, 1) := by decide +kernel
theorem dL_fill_2 : decode cL_fill 2 = .ok (.iload_n 1, 1) := by decide +kernel
theorem dL_fill_3 : decode cL_fill 3 = .ok (.iload_n 2, 1) := by decide +kernel
theorem dL_fill_4 : decode cL_fill 4 = .ok (.invokevirtual 45, 3) := by decide +kernel
theorem dL_fill_14 : decode cL_fill 14 = .ok (.astore 4, 2) := by decide +kernel
theorem dL_fill_16 : decode cL_fill 16 = .ok (.iconst 1, 1) := by decide +kernel
theorem dL_fill_17 : decode cL_fill 17 = .ok (.ireturn, 1) := by decide +kernel
theorem dL_fillRow_0 : decode cL_fillRow 0 = .ok (.aload_n 3, 1) := by decide +kernel
theorem dL_fillRow_1 : decode cL_fillRow 1 = .ok (.aload_n 0, 1) := by decide +kernel
theorem dL_fillRow_2 : decode cL_fillRow 2 = .ok (.iload_n 1, 1) := by decide +kernel
theorem dL_fillRow_3 : decode cL_fillRow 3 = .ok (.iload_n 2, 1) := by decide +kernel
theorem dL_fillRow_4 : decode cL_fillRow 4 = .ok (.invokevirtual 48, 3) := by decide +kernel
theorem dL_fillRow_14 : decode cL_fillRow 14 = .ok (.astore 4, 2) := by decide +kernel
theorem dL_fillRow_16 : decode cL_fillRow 16 = .ok (.iconst 1, 1) := by decide +kernel
theorem dL_fillRow_17 : decode cL_fillRow 17 = .ok (.ireturn, 1) := by decide +kernel
theorem dL_setAll_0 : decode cL_setAll 0 = .ok (.aload 5, 2) := by decide +kernel
theorem dL_setAll_2 : decode cL_setAll 2 = .ok (.aload_n 0, 1) := by decide +kernel
theorem dL_setAll_3 : decode cL_setAll 3 = .ok (.iload_n 1, 1) := by decide +kernel
theorem dL_setAll_4 : decode cL_setAll 4 = .ok (.iload_n 2, 1) := by decide +kernel
theorem dL_setAll_5 : decode cL_setAll 5 = .ok (.iload_n 3, 1) := by decide +kernel
theorem dL_setAll_6 : decode cL_setAll 6 = .ok (.iload 4, 2) := by decide +kernel
theorem dL_setAll_8 : decode cL_setAll 8 = .ok (.invokevirtual 51, 3) := by decide +kernel
theorem dL_setAll_18 : decode cL_setAll 18 = .ok (.astore 6, 2) := by decide +kernel
theorem dL_setAll_20 : decode cL_setAll 20 = .ok (.iconst 1, 1) := by decide +kernel
theorem dL_setAll_21 : decode cL_setAll 21 = .ok (.ireturn, 1) := by decide +kernel
theorem dL_setRows_0 : decode cL_setRows 0 = .ok (.aload_n 3, 1) := by decide +kernel
theorem dL_setRows_1 : decode cL_setRows 1 = .ok (.aload_n 0, 1) := by decide +kernel
theorem dL_setRows_2 : decode cL_setRows 2 = .ok (.iload_n 1, 1) := by decide +kernel
theorem dL_setRows_3 : decode cL_setRows 3 = .ok (.iload_n 2, 1) := by decide +kernel
theorem dL_setRows_4 : decode cL_setRows 4 = .ok (.invokevirtual 55, 3) := by decide +kernel
theorem dL_setRows_14 : decode cL_setRows 14 = .ok (.astore 4, 2) := by decide +kernel
theorem dL_setRows_16 : decode cL_setRows 16 = .ok (.iconst 1, 1) := by decide +kernel
theorem dL_setRows_17 : decode cL_setRows 17 = .ok (.ireturn, 1) := by decide +kernel
theorem dL_twin_0 : decode cL_twin 0 = .ok (.aload_n 2, 1) := by decide +kernel
theorem dL_twin_1 : decode cL_twin 1 = .ok (.aload_n 0, 1) := by decide +kernel
theorem dL_twin_2 : decode cL_twin 2 = .ok (.iload_n 1, 1) := by decide +kernel
theorem dL_twin_3 : decode cL_twin 3 = .ok (.invokevirtual 58, 3) := by decide +kernel
theorem dL_twin_13 : decode cL_twin 13 = .ok (.astore_n 3, 1) := by decide +kernel
theorem dL_twin_14 : decode cL_twin 14 = .ok (.iconst 1, 1) := by decide +kernel
theorem dL_twin_15 : decode cL_twin 15 = .ok (.ireturn, 1) := by decide +kernel
theorem dL_deepTwin_0 : decode cL_deepTwin 0 = .ok (.aload_n 2, 1) := by decide +kernel
theorem dL_deepTwin_1 : decode cL_deepTwin 1 = .ok (.aload_n 0, 1) := by decide +kernel
theorem dL_deepTwin_2 : decode cL_deepTwin 2 = .ok (.iload_n 1, 1) := by decide +kernel
theorem dL_deepTwin_3 : decode cL_deepTwin 3 = .ok (.invokevirtual 62, 3) := by decide +kernel
theorem dL_deepTwin_13 : decode cL_deepTwin 13 = .ok (.astore_n 3, 1) := by decide +kernel
theorem dL_deepTwin_14 : decode cL_deepTwin 14 = .ok (.iconst 1, 1) := by decide +kernel
theorem dL_deepTwin_15 : decode cL_deepTwin 15 = .ok (.ireturn, 1) := by decide +kernel
theorem dL_copy_0 : decode cL_copy 0 = .ok (.aload_n 3, 1) := by decide +kernel
theorem dL_copy_1 : decode cL_copy 1 = .ok (.aload_n 0, 1) := by decide +kernel
theorem dL_copy_2 : decode cL_copy 2 = .ok (.iload_n 1, 1) := by decide +kernel
theorem dL_copy_3 : decode cL_copy 3 = .ok (.iload_n 2, 1) := by decide +kernel
theorem dL_copy_4 : decode cL_copy 4 = .ok (.invokevirtual 65, 3) := by decide +kernel
theorem dL_copy_14 : decode cL_copy 14 = .ok (.astore 4, 2) := by decide +kernel
theorem dL_copy_16 : decode cL_copy 16 = .ok (.iconst 1, 1) := by decide +kernel
theorem dL_copy_17 : decode cL_copy 17 = .ok (.ireturn, 1) := by decide +kernel
theorem dL_kind_0 : decode cL_kind 0 = .ok (.aload_n 2, 1) := by decide +kernel
theorem dL_kind_1 : decode cL_kind 1 = .ok (.aload_n 0, 1) := by decide +kernel
theorem dL_kind_2 : decode cL_kind 2 = .ok (.iload_n 1, 1) := by decide +kernel
theorem dL_kind_3 : decode cL_kind 3 = .ok (.invokevirtual 68, 3) := by decide +kernel
theorem dL_kind_13 : decode cL_kind 13 = .ok (.astore_n 3, 1) := by decide +kernel
theorem dL_kind_14 : decode cL_kind 14 = .ok (.iconst 1, 1) := by decide +kernel
theorem dL_kind_15 : decode cL_kind 15 = .ok (.ireturn, 1) := by decide +kernel
theorem dL_length_0 : decode cL_length 0 = .ok (.aload_n 2, 1) := by decide +kernel
theorem dL_length_1 : decode cL_length 1 = .ok (.aload_n 0, 1) := by decide +kernel
theorem dL_length_2 : decode cL_length 2 = .ok (.iload_n 1, 1) := by decide +kernel
theorem dL_length_3 : decode cL_length 3 = .ok (.invokevirtual 71, 3) := by decide +kernel
theorem dL_length_13 : decode cL_length 13 = .ok (.astore_n 3, 1) := by decide +kernel
theorem dL_length_14 : decode cL_length 14 = .ok (.iconst 1, 1) := by decide +kernel
theorem dL_length_15 : decode cL_length 15 = .ok (.ireturn, 1) := by decide +kernel
theorem dL_depth_0 : decode cL_depth 0 = .ok (.aload_n 2, 1) := by decide +kernel
theorem dL_depth_1 : decode cL_depth 1 = .ok (.aload_n 0, 1) := by decide +kernel
theorem dL_depth_2 : decode cL_depth 2 = .ok (.iload_n 1, 1) := by decide +kernel
theorem dL_depth_3 : decode cL_depth 3 = .ok (.invokevirtual 74, 3) := by decide +kernel
theorem dL_depth_13 : decode cL_depth 13 = .ok (.astore_n 3, 1) := by decide +kernel
theorem dL_depth_14 : decode cL_depth 14 = .ok (.iconst 1, 1) := by decide +kernel
theorem dL_depth_15 : decode cL_depth 15 = .ok (.ireturn, 1) := by decide +kernel
theorem dL_what_0 : decode cL_what 0 = .ok (.aload_n 3, 1) := by decide +kernel
theorem dL_what_1 : decode cL_what 1 = .ok (.aload_n 0, 1) := by decide +kernel
theorem dL_what_2 : decode cL_what 2 = .ok (.iload_n 1, 1) := by decide +kernel
theorem dL_what_3 : decode cL_what 3 = .ok (.iload_n 2, 1) := by decide +kernel
theorem dL_what_4 : decode cL_what 4 = .ok (.invokevirtual 77, 3) := by decide +kernel
theorem dL_what_14 : decode cL_what 14 = .ok (.astore 4, 2) := by decide +kernel
theorem dL_what_16 : decode cL_what 16 = .ok (.iconst 1, 1) := by decide +kernel
theorem dL_what_17 : decode cL_what 17 = .ok (.ireturn, 1) := by decide +kernel
theorem dL_at_0 : decode cL_at 0 = .ok (.aload_n 3, 1) := by decide +kernel
theorem dL_at_1 : decode cL_at 1 = .ok (.aload_n 0, 1) := by decide +kernel
theorem dL_at_2 : decode cL_at 2 = .ok (.iload_n 1, 1) := by decide +kernel
theorem dL_at_3 : decode cL_at 3 = .ok (.iload_n 2, 1) := by decide +kernel
theorem dL_at_4 : decode cL_at 4 = .ok (.invokevirtual 80, 3) := by decide +kernel
theorem dL_at_14 : decode cL_at 14 = .ok (.astore 4, 2) := by decide +kernel
theorem dL_at_16 : decode cL_at 16 = .ok (.iconst 1, 1) := by decide +kernel
theorem dL_at_17 : decode cL_at 17 = .ok (.ireturn, 1) := by decide +kernel
theorem dL_isDeep_0 : decode cL_isDeep 0 = .ok (.aload_n 3, 1) := by decide +kernel
theorem dL_isDeep_1 : decode cL_isDeep 1 = .ok (.aload_n 0, 1) := by decide +kernel
theorem dL_isDeep_2 : decode cL_isDeep 2 = .ok (.iload_n 1, 1) := by decide +kernel
theorem dL_isDeep_3 : decode cL_isDeep 3 = .ok (.iload_n 2, 1) := by decide +kernel
theorem dL_isDeep_4 : decode cL_isDeep 4 = .ok (.invokevirtual 83, 3) := by decide +kernel
theorem dL_isDeep_21 : decode cL_isDeep 21 = .ok (.astore 4, 2) := by decide +kernel
theorem dL_isDeep_23 : decode cL_isDeep 23 = .ok (.iconst 1, 1) := by decide +kernel
theorem dL_isDeep_24 : decode cL_isDeep 24 = .ok (.ireturn, 1) := by decide +kernel
theorem dL_isFlat_0 : decode cL_isFlat 0 = .ok (.aload_n 3, 1) := by decide +kernel
theorem dL_isFlat_1 : decode cL_isFlat 1 = .ok (.aload_n 0, 1) := by decide +kernel
theorem dL_isFlat_2 : decode cL_isFlat 2 = .ok (.iload_n 1, 1) := by decide +kernel
theorem dL_isFlat_3 : decode cL_isFlat 3 = .ok (.iload_n 2, 1) := by decide +kernel
theorem dL_isFlat_4 : decode cL_isFlat 4 = .ok (.invokevirtual 87, 3) := by decide +kernel
theorem dL_isFlat_21 : decode cL_isFlat 21 = .ok (.astore 4, 2) := by decide +kernel
theorem dL_isFlat_23 : decode cL_isFlat 23 = .ok (.iconst 1, 1) := by decide +kernel
theorem dL_isFlat_24 : decode cL_isFlat 24 = .ok (.ireturn, 1) := by decide +kernel
theorem dL_areDeep_0 : decode cL_areDeep 0 = .ok (.aload 5, 2) := by decide +kernel
theorem dL_areDeep_2 : decode cL_areDeep 2 = .ok (.aload_n 0, 1) := by decide +kernel
theorem dL_areDeep_3 : decode cL_areDeep 3 = .ok (.iload_n 1, 1) := by decide +kernel
theorem dL_areDeep_4 : decode cL_areDeep 4 = .ok (.iload_n 2, 1) := by decide +kernel
theorem dL_areDeep_5 : decode cL_areDeep 5 = .ok (.iload_n 3, 1) := by decide +kernel
theorem dL_areDeep_6 : decode cL_areDeep 6 = .ok (.iload 4, 2) := by decide +kernel
theorem dL_areDeep_8 : decode cL_areDeep 8 = .ok (.invokevirtual 90, 3) := by decide +kernel
theorem dL_areDeep_25 : decode cL_areDeep 25 = .ok (.astore 6, 2) := by decide +kernel
theorem dL_areDeep_27 : decode cL_areDeep 27 = .ok (.iconst 1, 1) := by decide +kernel
theorem dL_areDeep_28 : decode cL_areDeep 28 = .ok (.ireturn, 1) := by decide +kernel
theorem dL_hash_0 : decode cL_hash 0 = .ok (.aload_n 2, 1) := by decide +kernel
theorem dL_hash_1 : decode cL_hash 1 = .ok (.aload_n 0, 1) := by decide +kernel
theorem dL_hash_2 : decode cL_hash 2 = .ok (.iload_n 1, 1) := by decide +kernel
theorem dL_hash_3 : decode cL_hash 3 = .ok (.invokevirtual 94, 3) := by decide +kernel
theorem dL_hash_13 : decode cL_hash 13 = .ok (.astore_n 3, 1) := by decide +kernel
theorem dL_hash_14 : decode cL_hash 14 = .ok (.iconst 1, 1) := by decide +kernel
theorem dL_hash_15 : decode cL_hash 15 = .ok (.ireturn, 1) := by decide +kernel
theorem dL_flatHash_0 : decode cL_flatHash 0 = .ok (.aload_n 2, 1) := by decide +kernel
theorem dL_flatHash_1 : decode cL_flatHash 1 = .ok (.aload_n 0, 1) := by decide +kernel
theorem dL_flatHash_2 : decode cL_flatHash 2 = .ok (.iload_n 1, 1) := by decide +kernel
theorem dL_flatHash_3 : decode cL_flatHash 3 = .ok (.invokevirtual 97, 3) := by decide +kernel
theorem dL_flatHash_13 : decode cL_flatHash 13 = .ok (.astore_n 3, 1) := by decide +kernel
theorem dL_flatHash_14 : decode cL_flatHash 14 = .ok (.iconst 1, 1) := by decide +kernel
theorem dL_flatHash_15 : decode cL_flatHash 15 = .ok (.ireturn, 1) := by decide +kernel
theorem dL_text_0 : decode cL_text 0 = .ok (.aload_n 2, 1) := by decide +kernel
theorem dL_text_1 : decode cL_text 1 = .ok (.aload_n 0, 1) := by decide +kernel
theorem dL_text_2 : decode cL_text 2 = .ok (.iload_n 1, 1) := by decide +kernel
theorem dL_text_3 : decode cL_text 3 = .ok (.invokevirtual 100, 3) := by decide +kernel
theorem dL_text_12 : decode cL_text 12 = .ok (.astore_n 3, 1) := by decide +kernel
theorem dL_text_13 : decode cL_text 13 = .ok (.iconst 1, 1) := by decide +kernel
theorem dL_text_14 : decode cL_text 14 = .ok (.ireturn, 1) := by decide +kernel
theorem dL_differ_0 : decode cL_differ 0 = .ok (.aload_n 3, 1) := by decide +kernel
theorem dL_differ_1 : decode cL_differ 1 = .ok (.aload_n 0, 1) := by decide +kernel
theorem dL_differ_2 : decode cL_differ 2 = .ok (.iload_n 1, 1) := by decide +kernel
theorem dL_differ_3 : decode cL_differ 3 = .ok (.iload_n 2, 1) := by decide +kernel
theorem dL_differ_4 : decode cL_differ 4 = .ok (.invokevirtual 108, 3) := by decide +kernel
theorem dL_differ_14 : decode cL_differ 14 = .ok (.astore 4, 2) := by decide +kernel
theorem dL_differ_16 : decode cL_differ 16 = .ok (.iconst 1, 1) := by decide +kernel
theorem dL_differ_17 : decode cL_differ 17 = .ok (.ireturn, 1) := by decide +kernel
theorem dL_compare_0 : decode cL_compare 0 = .ok (.aload_n 3, 1) := by decide +kernel
theorem dL_compare_1 : decode cL_compare 1 = .ok (.aload_n 0, 1) := by decide +kernel
theorem dL_compare_2 : decode cL_compare 2 = .ok (.iload_n 1, 1) := by decide +kernel
theorem dL_compare_3 : decode cL_compare 3 = .ok (.iload_n 2, 1) := by decide +kernel
theorem dL_compare_4 : decode cL_compare 4 = .ok (.invokevirtual 111, 3) := by decide +kernel
theorem dL_compare_14 : decode cL_compare 14 = .ok (.astore 4, 2) := by decide +kernel
theorem dL_compare_16 : decode cL_compare 16 = .ok (.iconst 1, 1) := by decide +kernel
theorem dL_compare_17 : decode cL_compare 17 = .ok (.ireturn, 1) := by decide +kernel
theorem dL_house_0 : decode cL_house 0 = .ok (.aload_n 2, 1) := by decide +kernel
theorem dL_house_1 : decode cL_house 1 = .ok (.aload_n 0, 1) := by decide +kernel
theorem dL_house_2 : decode cL_house 2 = .ok (.iload_n 1, 1) := by decide +kernel
theorem dL_house_3 : decode cL_house 3 = .ok (.invokevirtual 114, 3) := by decide +kernel
theorem dL_house_6 : decode cL_house 6 = .ok (.i2l, 1) := by decide +kernel
theorem dL_house_7 : decode cL_house 7 = .ok (.putfield 13, 3) := by decide +kernel
theorem dL_house_10 : decode cL_house 10 = .ok (.goto 6, 3) := by decide +kernel
theorem dL_house_13 : decode cL_house 13 = .ok (.astore_n 3, 1) := by decide +kernel
theorem dL_house_14 : decode cL_house 14 = .ok (.iconst 1, 1) := by decide +kernel
theorem dL_house_15 : decode cL_house 15 = .ok (.ireturn, 1) := by decide +kernel
theorem dL_house_16 : decode cL_house 16 = .ok (.iconst 0, 1) := by decide +kernel
theorem dL_house_17 : decode cL_house 17 = .ok (.ireturn, 1) := by decide +kernel
theorem dL_law_0 : decode cL_law 0 = .ok (.new 8, 3) := by decide +kernel
theorem dL_law_3 : decode cL_law 3 = .ok (.dup, 1) := by decide +kernel
theorem dL_law_4 : decode cL_law 4 = .ok (.invokespecial 117, 3) := by decide +kernel
theorem dL_law_7 : decode cL_law 7 = .ok (.astore_n 1, 1) := by decide +kernel
theorem dL_law_8 : decode cL_law 8 = .ok (.new 118, 3) := by decide +kernel
theorem dL_law_11 : decode cL_law 11 = .ok (.dup, 1) := by decide +kernel
theorem dL_law_12 : decode cL_law 12 = .ok (.invokespecial 120, 3) := by decide +kernel
theorem dL_law_15 : decode cL_law 15 = .ok (.astore_n 2, 1) := by decide +kernel
theorem dL_law_16 : decode cL_law 16 = .ok (.new 14, 3) := by decide +kernel
theorem dL_law_19 : decode cL_law 19 = .ok (.dup, 1) := by decide +kernel
theorem dL_law_20 : decode cL_law 20 = .ok (.invokespecial 121, 3) := by decide +kernel
theorem dL_law_23 : decode cL_law 23 = .ok (.astore_n 3, 1) := by decide +kernel
theorem dL_law_24 : decode cL_law 24 = .ok (.iconst 0, 1) := by decide +kernel
theorem dL_law_25 : decode cL_law 25 = .ok (.istore 4, 2) := by decide +kernel
theorem dL_law_27 : decode cL_law 27 = .ok (.iload 4, 2) := by decide +kernel
theorem dL_law_29 : decode cL_law 29 = .ok (.aload_n 0, 1) := by decide +kernel
theorem dL_law_30 : decode cL_law 30 = .ok (.arraylength, 1) := by decide +kernel
theorem dL_law_31 : decode cL_law 31 = .ok (.iconst 5, 1) := by decide +kernel
theorem dL_law_32 : decode cL_law 32 = .ok (.isub, 1) := by decide +kernel
theorem dL_law_33 : decode cL_law 33 = .ok (.if_icmp .gt 2128, 3) := by decide +kernel
theorem dL_law_36 : decode cL_law 36 = .ok (.aload_n 0, 1) := by decide +kernel
theorem dL_law_37 : decode cL_law 37 = .ok (.iload 4, 2) := by decide +kernel
theorem dL_law_39 : decode cL_law 39 = .ok (.iaload, 1) := by decide +kernel
theorem dL_law_40 : decode cL_law 40 = .ok (.bipush 31, 2) := by decide +kernel
theorem dL_law_42 : decode cL_law 42 = .ok (.iand, 1) := by decide +kernel
theorem dL_law_43 : decode cL_law 43 = .ok (.tableswitch 2112 0 31 #[141, 210, 255, 268, 349, 430, 499, 580, 661, 730, 799, 892, 961, 1018, 1075, 1144, 1201, 1258, 1315, 1384, 1453, 1529, 1605, 1705, 1762, 1819, 1877, 1946, 2015, 2028, 2085, 2098], 141) := by decide +kernel
theorem dL_law_184 : decode cL_law 184 = .ok (.aload_n 1, 1) := by decide +kernel
theorem dL_law_185 : decode cL_law 185 = .ok (.aload_n 0, 1) := by decide +kernel
theorem dL_law_186 : decode cL_law 186 = .ok (.iload 4, 2) := by decide +kernel
theorem dL_law_188 : decode cL_law 188 = .ok (.iconst 1, 1) := by decide +kernel
theorem dL_law_189 : decode cL_law 189 = .ok (.iadd, 1) := by decide +kernel
theorem dL_law_190 : decode cL_law 190 = .ok (.iaload, 1) := by decide +kernel
theorem dL_law_191 : decode cL_law 191 = .ok (.aload_n 0, 1) := by decide +kernel
theorem dL_law_192 : decode cL_law 192 = .ok (.iload 4, 2) := by decide +kernel
theorem dL_law_194 : decode cL_law 194 = .ok (.iconst 2, 1) := by decide +kernel
theorem dL_law_195 : decode cL_law 195 = .ok (.iadd, 1) := by decide +kernel
theorem dL_law_196 : decode cL_law 196 = .ok (.iaload, 1) := by decide +kernel
theorem dL_law_197 : decode cL_law 197 = .ok (.aload_n 3, 1) := by decide +kernel
theorem dL_law_198 : decode cL_law 198 = .ok (.invokestatic 122, 3) := by decide +kernel
theorem dL_law_201 : decode cL_law 201 = .ok (.istore 5, 2) := by decide +kernel
theorem dL_law_203 : decode cL_law 203 = .ok (.aload_n 2, 1) := by decide +kernel
theorem dL_law_204 : decode cL_law 204 = .ok (.aload_n 0, 1) := by decide +kernel
theorem dL_law_205 : decode cL_law 205 = .ok (.iload 4, 2) := by decide +kernel
theorem dL_law_207 : decode cL_law 207 = .ok (.iconst 1, 1) := by decide +kernel
theorem dL_law_208 : decode cL_law 208 = .ok (.iadd, 1) := by decide +kernel
theorem dL_law_209 : decode cL_law 209 = .ok (.iaload, 1) := by decide +kernel
theorem dL_law_210 : decode cL_law 210 = .ok (.aload_n 0, 1) := by decide +kernel
theorem dL_law_211 : decode cL_law 211 = .ok (.iload 4, 2) := by decide +kernel
theorem dL_law_213 : decode cL_law 213 = .ok (.iconst 2, 1) := by decide +kernel
theorem dL_law_214 : decode cL_law 214 = .ok (.iadd, 1) := by decide +kernel
theorem dL_law_215 : decode cL_law 215 = .ok (.iaload, 1) := by decide +kernel
theorem dL_law_216 : decode cL_law 216 = .ok (.invokevirtual 127, 3) := by decide +kernel
theorem dL_law_219 : decode cL_law 219 = .ok (.istore 6, 2) := by decide +kernel
theorem dL_law_221 : decode cL_law 221 = .ok (.aload_n 2, 1) := by decide +kernel
theorem dL_law_222 : decode cL_law 222 = .ok (.invokevirtual 128, 3) := by decide +kernel
theorem dL_law_225 : decode cL_law 225 = .ok (.iload 5, 2) := by decide +kernel
theorem dL_law_227 : decode cL_law 227 = .ok (.if_icmp .eq 5, 3) := by decide +kernel
theorem dL_law_232 : decode cL_law 232 = .ok (.iload 5, 2) := by decide +kernel
theorem dL_law_234 : decode cL_law 234 = .ok (.ifCond .ne 16, 3) := by decide +kernel
theorem dL_law_237 : decode cL_law 237 = .ok (.aload_n 3, 1) := by decide +kernel
theorem dL_law_238 : decode cL_law 238 = .ok (.getfield 13, 3) := by decide +kernel
theorem dL_law_241 : decode cL_law 241 = .ok (.iload 6, 2) := by decide +kernel
theorem dL_law_243 : decode cL_law 243 = .ok (.i2l, 1) := by decide +kernel
theorem dL_law_244 : decode cL_law 244 = .ok (.lcmp, 1) := by decide +kernel
theorem dL_law_245 : decode cL_law 245 = .ok (.ifCond .eq 5, 3) := by decide +kernel
theorem dL_law_250 : decode cL_law 250 = .ok (.goto 1905, 3) := by decide +kernel
theorem dL_law_253 : decode cL_law 253 = .ok (.aload_n 1, 1) := by decide +kernel
theorem dL_law_254 : decode cL_law 254 = .ok (.aload_n 3, 1) := by decide +kernel
theorem dL_law_255 : decode cL_law 255 = .ok (.invokestatic 131, 3) := by decide +kernel
theorem dL_law_258 : decode cL_law 258 = .ok (.istore 5, 2) := by decide +kernel
theorem dL_law_260 : decode cL_law 260 = .ok (.aload_n 2, 1) := by decide +kernel
theorem dL_law_261 : decode cL_law 261 = .ok (.invokevirtual 134, 3) := by decide +kernel
theorem dL_law_264 : decode cL_law 264 = .ok (.istore 6, 2) := by decide +kernel
theorem dL_law_266 : decode cL_law 266 = .ok (.aload_n 2, 1) := by decide +kernel
theorem dL_law_267 : decode cL_law 267 = .ok (.invokevirtual 128, 3) := by decide +kernel
theorem dL_law_270 : decode cL_law 270 = .ok (.iload 5, 2) := by decide +kernel
theorem dL_law_272 : decode cL_law 272 = .ok (.if_icmp .eq 5, 3) := by decide +kernel
theorem dL_law_277 : decode cL_law 277 = .ok (.iload 5, 2) := by decide +kernel
theorem dL_law_279 : decode cL_law 279 = .ok (.ifCond .ne 16, 3) := by decide +kernel
theorem dL_law_295 : decode cL_law 295 = .ok (.goto 1860, 3) := by decide +kernel
theorem dL_law_298 : decode cL_law 298 = .ok (.aload_n 1, 1) := by decide +kernel
theorem dL_law_299 : decode cL_law 299 = .ok (.invokevirtual 135, 3) := by decide +kernel
theorem dL_law_302 : decode cL_law 302 = .ok (.aload_n 2, 1) := by decide +kernel
theorem dL_law_303 : decode cL_law 303 = .ok (.invokevirtual 138, 3) := by decide +kernel
theorem dL_law_306 : decode cL_law 306 = .ok (.if_icmp .eq 1849, 3) := by decide +kernel
theorem dL_law_311 : decode cL_law 311 = .ok (.aload_n 1, 1) := by decide +kernel
theorem dL_law_312 : decode cL_law 312 = .ok (.aload_n 0, 1) := by decide +kernel
theorem dL_law_313 : decode cL_law 313 = .ok (.iload 4, 2) := by decide +kernel
theorem dL_law_315 : decode cL_law 315 = .ok (.iconst 1, 1) := by decide +kernel
theorem dL_law_316 : decode cL_law 316 = .ok (.iadd, 1) := by decide +kernel
theorem dL_law_317 : decode cL_law 317 = .ok (.iaload, 1) := by decide +kernel
theorem dL_law_318 : decode cL_law 318 = .ok (.aload_n 0, 1) := by decide +kernel
theorem dL_law_319 : decode cL_law 319 = .ok (.iload 4, 2) := by decide +kernel
theorem dL_law_321 : decode cL_law 321 = .ok (.iconst 2, 1) := by decide +kernel
theorem dL_law_322 : decode cL_law 322 = .ok (.iadd, 1) := by decide +kernel
theorem dL_law_323 : decode cL_law 323 = .ok (.iaload, 1) := by decide +kernel
theorem dL_law_324 : decode cL_law 324 = .ok (.aload_n 0, 1) := by decide +kernel
theorem dL_law_325 : decode cL_law 325 = .ok (.iload 4, 2) := by decide +kernel
theorem dL_law_327 : decode cL_law 327 = .ok (.iconst 3, 1) := by decide +kernel
theorem dL_law_328 : decode cL_law 328 = .ok (.iadd, 1) := by decide +kernel
theorem dL_law_329 : decode cL_law 329 = .ok (.iaload, 1) := by decide +kernel
theorem dL_law_330 : decode cL_law 330 = .ok (.aload_n 3, 1) := by decide +kernel
theorem dL_law_331 : decode cL_law 331 = .ok (.invokestatic 139, 3) := by decide +kernel
theorem dL_law_334 : decode cL_law 334 = .ok (.istore 5, 2) := by decide +kernel
theorem dL_law_336 : decode cL_law 336 = .ok (.aload_n 2, 1) := by decide +kernel
theorem dL_law_337 : decode cL_law 337 = .ok (.aload_n 0, 1) := by decide +kernel
theorem dL_law_338 : decode cL_law 338 = .ok (.iload 4, 2) := by decide +kernel
theorem dL_law_340 : decode cL_law 340 = .ok (.iconst 1, 1) := by decide +kernel
theorem dL_law_341 : decode cL_law 341 = .ok (.iadd, 1) := by decide +kernel
theorem dL_law_342 : decode cL_law 342 = .ok (.iaload, 1) := by decide +kernel
theorem dL_law_343 : decode cL_law 343 = .ok (.aload_n 0, 1) := by decide +kernel
theorem dL_law_344 : decode cL_law 344 = .ok (.iload 4, 2) := by decide +kernel
theorem dL_law_346 : decode cL_law 346 = .ok (.iconst 2, 1) := by decide +kernel
theorem dL_law_347 : decode cL_law 347 = .ok (.iadd, 1) := by decide +kernel
theorem dL_law_348 : decode cL_law 348 = .ok (.iaload, 1) := by decide +kernel
theorem dL_law_349 : decode cL_law 349 = .ok (.aload_n 0, 1) := by decide +kernel
theorem dL_law_350 : decode cL_law 350 = .ok (.iload 4, 2) := by decide +kernel
theorem dL_law_352 : decode cL_law 352 = .ok (.iconst 3, 1) := by decide +kernel
theorem dL_law_353 : decode cL_law 353 = .ok (.iadd, 1) := by decide +kernel
theorem dL_law_354 : decode cL_law 354 = .ok (.iaload, 1) := by decide +kernel
theorem dL_law_355 : decode cL_law 355 = .ok (.invokevirtual 142, 3) := by decide +kernel
theorem dL_law_358 : decode cL_law 358 = .ok (.istore 6, 2) := by decide +kernel
theorem dL_law_360 : decode cL_law 360 = .ok (.aload_n 2, 1) := by decide +kernel
theorem dL_law_361 : decode cL_law 361 = .ok (.invokevirtual 128, 3) := by decide +kernel
theorem dL_law_364 : decode cL_law 364 = .ok (.iload 5, 2) := by decide +kernel
theorem dL_law_366 : decode cL_law 366 = .ok (.if_icmp .eq 5, 3) := by decide +kernel
theorem dL_law_371 : decode cL_law 371 = .ok (.iload 5, 2) := by decide +kernel
theorem dL_law_373 : decode cL_law 373 = .ok (.ifCond .ne 16, 3) := by decide +kernel
theorem dL_law_389 : decode cL_law 389 = .ok (.goto 1766, 3) := by decide +kernel
theorem dL_law_392 : decode cL_law 392 = .ok (.aload_n 1, 1) := by decide +kernel
theorem dL_law_393 : decode cL_law 393 = .ok (.aload_n 0, 1) := by decide +kernel
theorem dL_law_394 : decode cL_law 394 = .ok (.iload 4, 2) := by decide +kernel
theorem dL_law_396 : decode cL_law 396 = .ok (.iconst 1, 1) := by decide +kernel
theorem dL_law_397 : decode cL_law 397 = .ok (.iadd, 1) := by decide +kernel
theorem dL_law_398 : decode cL_law 398 = .ok (.iaload, 1) := by decide +kernel
theorem dL_law_399 : decode cL_law 399 = .ok (.aload_n 0, 1) := by decide +kernel
theorem dL_law_400 : decode cL_law 400 = .ok (.iload 4, 2) := by decide +kernel
theorem dL_law_402 : decode cL_law 402 = .ok (.iconst 2, 1) := by decide +kernel
theorem dL_law_403 : decode cL_law 403 = .ok (.iadd, 1) := by decide +kernel
theorem dL_law_404 : decode cL_law 404 = .ok (.iaload, 1) := by decide +kernel
theorem dL_law_405 : decode cL_law 405 = .ok (.aload_n 0, 1) := by decide +kernel
theorem dL_law_406 : decode cL_law 406 = .ok (.iload 4, 2) := by decide +kernel
theorem dL_law_408 : decode cL_law 408 = .ok (.iconst 3, 1) := by decide +kernel
theorem dL_law_409 : decode cL_law 409 = .ok (.iadd, 1) := by decide +kernel
theorem dL_law_410 : decode cL_law 410 = .ok (.iaload, 1) := by decide +kernel
theorem dL_law_411 : decode cL_law 411 = .ok (.aload_n 3, 1) := by decide +kernel
theorem dL_law_412 : decode cL_law 412 = .ok (.invokestatic 143, 3) := by decide +kernel
theorem dL_law_415 : decode cL_law 415 = .ok (.istore 5, 2) := by decide +kernel
theorem dL_law_417 : decode cL_law 417 = .ok (.aload_n 2, 1) := by decide +kernel
theorem dL_law_418 : decode cL_law 418 = .ok (.aload_n 0, 1) := by decide +kernel
theorem dL_law_419 : decode cL_law 419 = .ok (.iload 4, 2) := by decide +kernel
theorem dL_law_421 : decode cL_law 421 = .ok (.iconst 1, 1) := by decide +kernel
theorem dL_law_422 : decode cL_law 422 = .ok (.iadd, 1) := by decide +kernel
theorem dL_law_423 : decode cL_law 423 = .ok (.iaload, 1) := by decide +kernel
theorem dL_law_424 : decode cL_law 424 = .ok (.aload_n 0, 1) := by decide +kernel
theorem dL_law_425 : decode cL_law 425 = .ok (.iload 4, 2) := by decide +kernel
theorem dL_law_427 : decode cL_law 427 = .ok (.iconst 2, 1) := by decide +kernel
theorem dL_law_428 : decode cL_law 428 = .ok (.iadd, 1) := by decide +kernel
theorem dL_law_429 : decode cL_law 429 = .ok (.iaload, 1) := by decide +kernel
theorem dL_law_430 : decode cL_law 430 = .ok (.aload_n 0, 1) := by decide +kernel
theorem dL_law_431 : decode cL_law 431 = .ok (.iload 4, 2) := by decide +kernel
theorem dL_law_433 : decode cL_law 433 = .ok (.iconst 3, 1) := by decide +kernel
theorem dL_law_434 : decode cL_law 434 = .ok (.iadd, 1) := by decide +kernel
theorem dL_law_435 : decode cL_law 435 = .ok (.iaload, 1) := by decide +kernel
theorem dL_law_436 : decode cL_law 436 = .ok (.invokevirtual 145, 3) := by decide +kernel
theorem dL_law_439 : decode cL_law 439 = .ok (.istore 6, 2) := by decide +kernel
theorem dL_law_441 : decode cL_law 441 = .ok (.aload_n 2, 1) := by decide +kernel
theorem dL_law_442 : decode cL_law 442 = .ok (.invokevirtual 128, 3) := by decide +kernel
theorem dL_law_445 : decode cL_law 445 = .ok (.iload 5, 2) := by decide +kernel
theorem dL_law_447 : decode cL_law 447 = .ok (.if_icmp .eq 5, 3) := by decide +kernel
theorem dL_law_452 : decode cL_law 452 = .ok (.iload 5, 2) := by decide +kernel
theorem dL_law_454 : decode cL_law 454 = .ok (.ifCond .ne 16, 3) := by decide +kernel
theorem dL_law_470 : decode cL_law 470 = .ok (.goto 1685, 3) := by decide +kernel
theorem dL_law_473 : decode cL_law 473 = .ok (.aload_n 1, 1) := by decide +kernel
theorem dL_law_474 : decode cL_law 474 = .ok (.aload_n 0, 1) := by decide +kernel
theorem dL_law_475 : decode cL_law 475 = .ok (.iload 4, 2) := by decide +kernel
theorem dL_law_477 : decode cL_law 477 = .ok (.iconst 1, 1) := by decide +kernel
theorem dL_law_478 : decode cL_law 478 = .ok (.iadd, 1) := by decide +kernel
theorem dL_law_479 : decode cL_law 479 = .ok (.iaload, 1) := by decide +kernel
theorem dL_law_480 : decode cL_law 480 = .ok (.aload_n 0, 1) := by decide +kernel
theorem dL_law_481 : decode cL_law 481 = .ok (.iload 4, 2) := by decide +kernel
theorem dL_law_483 : decode cL_law 483 = .ok (.iconst 2, 1) := by decide +kernel
theorem dL_law_484 : decode cL_law 484 = .ok (.iadd, 1) := by decide +kernel
theorem dL_law_485 : decode cL_law 485 = .ok (.iaload, 1) := by decide +kernel
theorem dL_law_486 : decode cL_law 486 = .ok (.aload_n 3, 1) := by decide +kernel
theorem dL_law_487 : decode cL_law 487 = .ok (.invokestatic 146, 3) := by decide +kernel
theorem dL_law_490 : decode cL_law 490 = .ok (.istore 5, 2) := by decide +kernel
theorem dL_law_492 : decode cL_law 492 = .ok (.aload_n 2, 1) := by decide +kernel
theorem dL_law_493 : decode cL_law 493 = .ok (.aload_n 0, 1) := by decide +kernel
theorem dL_law_494 : decode cL_law 494 = .ok (.iload 4, 2) := by decide +kernel
theorem dL_law_496 : decode cL_law 496 = .ok (.iconst 1, 1) := by decide +kernel
theorem dL_law_497 : decode cL_law 497 = .ok (.iadd, 1) := by decide +kernel
theorem dL_law_498 : decode cL_law 498 = .ok (.iaload, 1) := by decide +kernel
theorem dL_law_499 : decode cL_law 499 = .ok (.aload_n 0, 1) := by decide +kernel
theorem dL_law_500 : decode cL_law 500 = .ok (.iload 4, 2) := by decide +kernel
theorem dL_law_502 : decode cL_law 502 = .ok (.iconst 2, 1) := by decide +kernel
theorem dL_law_503 : decode cL_law 503 = .ok (.iadd, 1) := by decide +kernel
theorem dL_law_504 : decode cL_law 504 = .ok (.iaload, 1) := by decide +kernel
theorem dL_law_505 : decode cL_law 505 = .ok (.invokevirtual 148, 3) := by decide +kernel
theorem dL_law_508 : decode cL_law 508 = .ok (.istore 6, 2) := by decide +kernel
theorem dL_law_510 : decode cL_law 510 = .ok (.aload_n 2, 1) := by decide +kernel
theorem dL_law_511 : decode cL_law 511 = .ok (.invokevirtual 128, 3) := by decide +kernel
theorem dL_law_514 : decode cL_law 514 = .ok (.iload 5, 2) := by decide +kernel
theorem dL_law_516 : decode cL_law 516 = .ok (.if_icmp .eq 5, 3) := by decide +kernel
theorem dL_law_521 : decode cL_law 521 = .ok (.iload 5, 2) := by decide +kernel
theorem dL_law_523 : decode cL_law 523 = .ok (.ifCond .ne 16, 3) := by decide +kernel
theorem dL_law_539 : decode cL_law 539 = .ok (.goto 1616, 3) := by decide +kernel
theorem dL_law_542 : decode cL_law 542 = .ok (.aload_n 1, 1) := by decide +kernel
theorem dL_law_543 : decode cL_law 543 = .ok (.aload_n 0, 1) := by decide +kernel
theorem dL_law_544 : decode cL_law 544 = .ok (.iload 4, 2) := by decide +kernel
theorem dL_law_546 : decode cL_law 546 = .ok (.iconst 1, 1) := by decide +kernel
theorem dL_law_547 : decode cL_law 547 = .ok (.iadd, 1) := by decide +kernel
theorem dL_law_548 : decode cL_law 548 = .ok (.iaload, 1) := by decide +kernel
theorem dL_law_549 : decode cL_law 549 = .ok (.aload_n 0, 1) := by decide +kernel
theorem dL_law_550 : decode cL_law 550 = .ok (.iload 4, 2) := by decide +kernel
theorem dL_law_552 : decode cL_law 552 = .ok (.iconst 2, 1) := by decide +kernel
theorem dL_law_553 : decode cL_law 553 = .ok (.iadd, 1) := by decide +kernel
theorem dL_law_554 : decode cL_law 554 = .ok (.iaload, 1) := by decide +kernel
theorem dL_law_555 : decode cL_law 555 = .ok (.aload_n 0, 1) := by decide +kernel
theorem dL_law_556 : decode cL_law 556 = .ok (.iload 4, 2) := by decide +kernel
theorem dL_law_558 : decode cL_law 558 = .ok (.iconst 3, 1) := by decide +kernel
theorem dL_law_559 : decode cL_law 559 = .ok (.iadd, 1) := by decide +kernel
theorem dL_law_560 : decode cL_law 560 = .ok (.iaload, 1) := by decide +kernel
theorem dL_law_561 : decode cL_law 561 = .ok (.aload_n 3, 1) := by decide +kernel
theorem dL_law_562 : decode cL_law 562 = .ok (.invokestatic 149, 3) := by decide +kernel
theorem dL_law_565 : decode cL_law 565 = .ok (.istore 5, 2) := by decide +kernel
theorem dL_law_567 : decode cL_law 567 = .ok (.aload_n 2, 1) := by decide +kernel
theorem dL_law_568 : decode cL_law 568 = .ok (.aload_n 0, 1) := by decide +kernel
theorem dL_law_569 : decode cL_law 569 = .ok (.iload 4, 2) := by decide +kernel
theorem dL_law_571 : decode cL_law 571 = .ok (.iconst 1, 1) := by decide +kernel
theorem dL_law_572 : decode cL_law 572 = .ok (.iadd, 1) := by decide +kernel
theorem dL_law_573 : decode cL_law 573 = .ok (.iaload, 1) := by decide +kernel
