theorem dX4_refuse_0 : decode cX4_refuse 0 = .ok (.iload_n 1, 1) := by decide +kernel
theorem dX4_refuse_1 : decode cX4_refuse 1 = .ok (.ifCond .eq 15, 3) := by decide +kernel
theorem dX4_refuse_16 : decode cX4_refuse 16 = .ok (.aload_n 0, 1) := by decide +kernel
theorem dX4_refuse_17 : decode cX4_refuse 17 = .ok (.getfield 16, 3) := by decide +kernel
theorem dX4_refuse_20 : decode cX4_refuse 20 = .ok (.ifCond .le 7, 3) := by decide +kernel
theorem dX4_refuse_27 : decode cX4_refuse 27 = .ok (.iconst 0, 1) := by decide +kernel
theorem dX4_refuse_28 : decode cX4_refuse 28 = .ok (.ireturn, 1) := by decide +kernel
theorem dX4_start_0 : decode cX4_start 0 = .ok (.aload_n 0, 1) := by decide +kernel
theorem dX4_start_1 : decode cX4_start 1 = .ok (.iconst 0, 1) := by decide +kernel
theorem dX4_start_2 : decode cX4_start 2 = .ok (.putfield 16, 3) := by decide +kernel
theorem dX4_start_5 : decode cX4_start 5 = .ok (.aload_n 0, 1) := by decide +kernel
theorem dX4_start_6 : decode cX4_start 6 = .ok (.iload_n 1, 1) := by decide +kernel
theorem dX4_start_7 : decode cX4_start 7 = .ok (.iload_n 2, 1) := by decide +kernel
theorem dX4_start_8 : decode cX4_start 8 = .ok (.invokevirtual 20, 3) := by decide +kernel
theorem dX4_start_11 : decode cX4_start 11 = .ok (.ireturn, 1) := by decide +kernel
theorem dX4_isNoRow_0 : decode cX4_isNoRow 0 = .ok (.iload_n 1, 1) := by decide +kernel
theorem dX4_isNoRow_1 : decode cX4_isNoRow 1 = .ok (.iconst 0, 1) := by decide +kernel
theorem dX4_isNoRow_2 : decode cX4_isNoRow 2 = .ok (.aload_n 0, 1) := by decide +kernel
theorem dX4_isNoRow_3 : decode cX4_isNoRow 3 = .ok (.getfield 10, 3) := by decide +kernel
theorem dX4_isNoRow_6 : decode cX4_isNoRow 6 = .ok (.invokevirtual 24, 3) := by decide +kernel
theorem dX4_isNoRow_9 : decode cX4_isNoRow 9 = .ok (.iconst 1, 1) := by decide +kernel
theorem dX4_isNoRow_10 : decode cX4_isNoRow 10 = .ok (.isub, 1) := by decide +kernel
theorem dX4_isNoRow_11 : decode cX4_isNoRow 11 = .ok (.invokestatic 28, 3) := by decide +kernel
theorem dX4_isNoRow_14 : decode cX4_isNoRow 14 = .ok (.ifCond .ne 7, 3) := by decide +kernel
theorem dX4_isNoRow_21 : decode cX4_isNoRow 21 = .ok (.iconst 0, 1) := by decide +kernel
theorem dX4_isNoRow_22 : decode cX4_isNoRow 22 = .ok (.ireturn, 1) := by decide +kernel
theorem dX4_depthOf_0 : decode cX4_depthOf 0 = .ok (.iload_n 1, 1) := by decide +kernel
theorem dX4_depthOf_1 : decode cX4_depthOf 1 = .ok (.iconst 1, 1) := by decide +kernel
theorem dX4_depthOf_2 : decode cX4_depthOf 2 = .ok (.iadd, 1) := by decide +kernel
theorem dX4_depthOf_3 : decode cX4_depthOf 3 = .ok (.newarray .int, 2) := by decide +kernel
theorem dX4_depthOf_5 : decode cX4_depthOf 5 = .ok (.astore_n 2, 1) := by decide +kernel
theorem dX4_depthOf_6 : decode cX4_depthOf 6 = .ok (.iconst 0, 1) := by decide +kernel
theorem dX4_depthOf_7 : decode cX4_depthOf 7 = .ok (.istore_n 3, 1) := by decide +kernel
theorem dX4_depthOf_8 : decode cX4_depthOf 8 = .ok (.iload_n 3, 1) := by decide +kernel
theorem dX4_depthOf_9 : decode cX4_depthOf 9 = .ok (.iload_n 1, 1) := by decide +kernel
theorem dX4_depthOf_10 : decode cX4_depthOf 10 = .ok (.if_icmp .gt 76, 3) := by decide +kernel
theorem dX4_depthOf_13 : decode cX4_depthOf 13 = .ok (.aload_n 0, 1) := by decide +kernel
theorem dX4_depthOf_14 : decode cX4_depthOf 14 = .ok (.getfield 10, 3) := by decide +kernel
theorem dX4_depthOf_17 : decode cX4_depthOf 17 = .ok (.iload_n 3, 1) := by decide +kernel
theorem dX4_depthOf_18 : decode cX4_depthOf 18 = .ok (.invokevirtual 36, 3) := by decide +kernel
theorem dX4_depthOf_21 : decode cX4_depthOf 21 = .ok (.checkcast 40, 3) := by decide +kernel
theorem dX4_depthOf_24 : decode cX4_depthOf 24 = .ok (.astore 4, 2) := by decide +kernel
theorem dX4_depthOf_26 : decode cX4_depthOf 26 = .ok (.aload_n 2, 1) := by decide +kernel
theorem dX4_depthOf_27 : decode cX4_depthOf 27 = .ok (.iload_n 3, 1) := by decide +kernel
theorem dX4_depthOf_28 : decode cX4_depthOf 28 = .ok (.iconst 1, 1) := by decide +kernel
theorem dX4_depthOf_29 : decode cX4_depthOf 29 = .ok (.iastore, 1) := by decide +kernel
theorem dX4_depthOf_30 : decode cX4_depthOf 30 = .ok (.iconst 0, 1) := by decide +kernel
theorem dX4_depthOf_31 : decode cX4_depthOf 31 = .ok (.istore 5, 2) := by decide +kernel
theorem dX4_depthOf_33 : decode cX4_depthOf 33 = .ok (.iload 5, 2) := by decide +kernel
theorem dX4_depthOf_35 : decode cX4_depthOf 35 = .ok (.aload 4, 2) := by decide +kernel
theorem dX4_depthOf_37 : decode cX4_depthOf 37 = .ok (.invokevirtual 42, 3) := by decide +kernel
theorem dX4_depthOf_40 : decode cX4_depthOf 40 = .ok (.if_icmp .ge 40, 3) := by decide +kernel
theorem dX4_depthOf_43 : decode cX4_depthOf 43 = .ok (.aload 4, 2) := by decide +kernel
theorem dX4_depthOf_45 : decode cX4_depthOf 45 = .ok (.iload 5, 2) := by decide +kernel
theorem dX4_depthOf_47 : decode cX4_depthOf 47 = .ok (.invokevirtual 45, 3) := by decide +kernel
theorem dX4_depthOf_50 : decode cX4_depthOf 50 = .ok (.ifCond .eq 24, 3) := by decide +kernel
theorem dX4_depthOf_53 : decode cX4_depthOf 53 = .ok (.aload_n 2, 1) := by decide +kernel
theorem dX4_depthOf_54 : decode cX4_depthOf 54 = .ok (.iload_n 3, 1) := by decide +kernel
theorem dX4_depthOf_55 : decode cX4_depthOf 55 = .ok (.aload_n 2, 1) := by decide +kernel
theorem dX4_depthOf_56 : decode cX4_depthOf 56 = .ok (.iload_n 3, 1) := by decide +kernel
theorem dX4_depthOf_57 : decode cX4_depthOf 57 = .ok (.iaload, 1) := by decide +kernel
theorem dX4_depthOf_58 : decode cX4_depthOf 58 = .ok (.iconst 1, 1) := by decide +kernel
theorem dX4_depthOf_59 : decode cX4_depthOf 59 = .ok (.aload_n 2, 1) := by decide +kernel
theorem dX4_depthOf_60 : decode cX4_depthOf 60 = .ok (.aload 4, 2) := by decide +kernel
theorem dX4_depthOf_62 : decode cX4_depthOf 62 = .ok (.getfield 48, 3) := by decide +kernel
theorem dX4_depthOf_65 : decode cX4_depthOf 65 = .ok (.iload 5, 2) := by decide +kernel
theorem dX4_depthOf_67 : decode cX4_depthOf 67 = .ok (.iaload, 1) := by decide +kernel
theorem dX4_depthOf_68 : decode cX4_depthOf 68 = .ok (.iaload, 1) := by decide +kernel
theorem dX4_depthOf_69 : decode cX4_depthOf 69 = .ok (.iadd, 1) := by decide +kernel
theorem dX4_depthOf_70 : decode cX4_depthOf 70 = .ok (.invokestatic 52, 3) := by decide +kernel
theorem dX4_depthOf_73 : decode cX4_depthOf 73 = .ok (.iastore, 1) := by decide +kernel
theorem dX4_depthOf_74 : decode cX4_depthOf 74 = .ok (.iinc 5 1, 3) := by decide +kernel
theorem dX4_depthOf_77 : decode cX4_depthOf 77 = .ok (.goto (-44), 3) := by decide +kernel
theorem dX4_depthOf_80 : decode cX4_depthOf 80 = .ok (.iinc 3 1, 3) := by decide +kernel
theorem dX4_depthOf_83 : decode cX4_depthOf 83 = .ok (.goto (-75), 3) := by decide +kernel
theorem dX4_depthOf_86 : decode cX4_depthOf 86 = .ok (.aload_n 2, 1) := by decide +kernel
theorem dX4_depthOf_87 : decode cX4_depthOf 87 = .ok (.iload_n 1, 1) := by decide +kernel
theorem dX4_depthOf_88 : decode cX4_depthOf 88 = .ok (.iaload, 1) := by decide +kernel
theorem dX4_depthOf_89 : decode cX4_depthOf 89 = .ok (.ireturn, 1) := by decide +kernel
theorem dX4_areHung_0 : decode cX4_areHung 0 = .ok (.aload_n 0, 1) := by decide +kernel
theorem dX4_areHung_1 : decode cX4_areHung 1 = .ok (.getfield 10, 3) := by decide +kernel
theorem dX4_areHung_4 : decode cX4_areHung 4 = .ok (.iload_n 1, 1) := by decide +kernel
theorem dX4_areHung_5 : decode cX4_areHung 5 = .ok (.invokevirtual 36, 3) := by decide +kernel
theorem dX4_areHung_8 : decode cX4_areHung 8 = .ok (.checkcast 40, 3) := by decide +kernel
theorem dX4_areHung_11 : decode cX4_areHung 11 = .ok (.astore_n 3, 1) := by decide +kernel
theorem dX4_areHung_12 : decode cX4_areHung 12 = .ok (.aload_n 3, 1) := by decide +kernel
theorem dX4_areHung_13 : decode cX4_areHung 13 = .ok (.aload_n 3, 1) := by decide +kernel
theorem dX4_areHung_14 : decode cX4_areHung 14 = .ok (.invokevirtual 42, 3) := by decide +kernel
theorem dX4_areHung_17 : decode cX4_areHung 17 = .ok (.invokevirtual 58, 3) := by decide +kernel
theorem dX4_areHung_20 : decode cX4_areHung 20 = .ok (.astore 4, 2) := by decide +kernel
theorem dX4_areHung_22 : decode cX4_areHung 22 = .ok (.iconst 0, 1) := by decide +kernel
theorem dX4_areHung_23 : decode cX4_areHung 23 = .ok (.istore 5, 2) := by decide +kernel
theorem dX4_areHung_25 : decode cX4_areHung 25 = .ok (.iload 5, 2) := by decide +kernel
theorem dX4_areHung_27 : decode cX4_areHung 27 = .ok (.aload_n 2, 1) := by decide +kernel
theorem dX4_areHung_28 : decode cX4_areHung 28 = .ok (.arraylength, 1) := by decide +kernel
theorem dX4_areHung_29 : decode cX4_areHung 29 = .ok (.if_icmp .ge 28, 3) := by decide +kernel
theorem dX4_areHung_32 : decode cX4_areHung 32 = .ok (.aload_n 2, 1) := by decide +kernel
theorem dX4_areHung_33 : decode cX4_areHung 33 = .ok (.iload 5, 2) := by decide +kernel
theorem dX4_areHung_35 : decode cX4_areHung 35 = .ok (.iaload, 1) := by decide +kernel
theorem dX4_areHung_36 : decode cX4_areHung 36 = .ok (.iconst (-1), 1) := by decide +kernel
theorem dX4_areHung_37 : decode cX4_areHung 37 = .ok (.if_icmp .eq 14, 3) := by decide +kernel
theorem dX4_areHung_40 : decode cX4_areHung 40 = .ok (.aload_n 3, 1) := by decide +kernel
theorem dX4_areHung_41 : decode cX4_areHung 41 = .ok (.iload 5, 2) := by decide +kernel
theorem dX4_areHung_43 : decode cX4_areHung 43 = .ok (.iconst 3, 1) := by decide +kernel
theorem dX4_areHung_44 : decode cX4_areHung 44 = .ok (.aload_n 2, 1) := by decide +kernel
theorem dX4_areHung_45 : decode cX4_areHung 45 = .ok (.iload 5, 2) := by decide +kernel
theorem dX4_areHung_47 : decode cX4_areHung 47 = .ok (.iaload, 1) := by decide +kernel
theorem dX4_areHung_48 : decode cX4_areHung 48 = .ok (.invokevirtual 62, 3) := by decide +kernel
theorem dX4_areHung_51 : decode cX4_areHung 51 = .ok (.iinc 5 1, 3) := by decide +kernel
theorem dX4_areHung_54 : decode cX4_areHung 54 = .ok (.goto (-29), 3) := by decide +kernel
theorem dX4_areHung_57 : decode cX4_areHung 57 = .ok (.iconst 1, 1) := by decide +kernel
theorem dX4_areHung_58 : decode cX4_areHung 58 = .ok (.istore 5, 2) := by decide +kernel
theorem dX4_areHung_60 : decode cX4_areHung 60 = .ok (.iconst 0, 1) := by decide +kernel
theorem dX4_areHung_61 : decode cX4_areHung 61 = .ok (.istore 6, 2) := by decide +kernel
theorem dX4_areHung_63 : decode cX4_areHung 63 = .ok (.iload 6, 2) := by decide +kernel
theorem dX4_areHung_65 : decode cX4_areHung 65 = .ok (.aload_n 0, 1) := by decide +kernel
theorem dX4_areHung_66 : decode cX4_areHung 66 = .ok (.getfield 10, 3) := by decide +kernel
theorem dX4_areHung_69 : decode cX4_areHung 69 = .ok (.invokevirtual 24, 3) := by decide +kernel
theorem dX4_areHung_72 : decode cX4_areHung 72 = .ok (.if_icmp .ge 29, 3) := by decide +kernel
theorem dX4_areHung_75 : decode cX4_areHung 75 = .ok (.iload 5, 2) := by decide +kernel
theorem dX4_areHung_77 : decode cX4_areHung 77 = .ok (.aload_n 0, 1) := by decide +kernel
theorem dX4_areHung_78 : decode cX4_areHung 78 = .ok (.iload 6, 2) := by decide +kernel
theorem dX4_areHung_80 : decode cX4_areHung 80 = .ok (.invokevirtual 66, 3) := by decide +kernel
theorem dX4_areHung_83 : decode cX4_areHung 83 = .ok (.iconst 4, 1) := by decide +kernel
theorem dX4_areHung_84 : decode cX4_areHung 84 = .ok (.if_icmp .gt 7, 3) := by decide +kernel
theorem dX4_areHung_87 : decode cX4_areHung 87 = .ok (.iconst 1, 1) := by decide +kernel
theorem dX4_areHung_88 : decode cX4_areHung 88 = .ok (.goto 4, 3) := by decide +kernel
theorem dX4_areHung_92 : decode cX4_areHung 92 = .ok (.iand, 1) := by decide +kernel
theorem dX4_areHung_93 : decode cX4_areHung 93 = .ok (.istore 5, 2) := by decide +kernel
theorem dX4_areHung_95 : decode cX4_areHung 95 = .ok (.iinc 6 1, 3) := by decide +kernel
theorem dX4_areHung_98 : decode cX4_areHung 98 = .ok (.goto (-35), 3) := by decide +kernel
theorem dX4_areHung_101 : decode cX4_areHung 101 = .ok (.iconst 0, 1) := by decide +kernel
theorem dX4_areHung_102 : decode cX4_areHung 102 = .ok (.istore 6, 2) := by decide +kernel
theorem dX4_areHung_104 : decode cX4_areHung 104 = .ok (.iload 6, 2) := by decide +kernel
theorem dX4_areHung_106 : decode cX4_areHung 106 = .ok (.aload_n 3, 1) := by decide +kernel
theorem dX4_areHung_107 : decode cX4_areHung 107 = .ok (.invokevirtual 42, 3) := by decide +kernel
theorem dX4_areHung_110 : decode cX4_areHung 110 = .ok (.if_icmp .ge 36, 3) := by decide +kernel
theorem dX4_areHung_113 : decode cX4_areHung 113 = .ok (.iload 5, 2) := by decide +kernel
theorem dX4_areHung_115 : decode cX4_areHung 115 = .ok (.ifCond .ne 31, 3) := by decide +kernel
theorem dX4_areHung_146 : decode cX4_areHung 146 = .ok (.iload 5, 2) := by decide +kernel
theorem dX4_areHung_148 : decode cX4_areHung 148 = .ok (.ireturn, 1) := by decide +kernel
theorem dX4_make_0 : decode cX4_make 0 = .ok (.aload_n 0, 1) := by decide +kernel
theorem dX4_make_1 : decode cX4_make 1 = .ok (.iload_n 1, 1) := by decide +kernel
theorem dX4_make_2 : decode cX4_make 2 = .ok (.iconst 0, 1) := by decide +kernel
theorem dX4_make_3 : decode cX4_make 3 = .ok (.iconst 4, 1) := by decide +kernel
theorem dX4_make_4 : decode cX4_make 4 = .ok (.invokestatic 28, 3) := by decide +kernel
theorem dX4_make_7 : decode cX4_make 7 = .ok (.ifCond .eq 12, 3) := by decide +kernel
theorem dX4_make_10 : decode cX4_make 10 = .ok (.iload_n 2, 1) := by decide +kernel
theorem dX4_make_11 : decode cX4_make 11 = .ok (.iconst 0, 1) := by decide +kernel
theorem dX4_make_12 : decode cX4_make 12 = .ok (.iconst 4, 1) := by decide +kernel
theorem dX4_make_13 : decode cX4_make 13 = .ok (.invokestatic 28, 3) := by decide +kernel
theorem dX4_make_16 : decode cX4_make 16 = .ok (.ifCond .ne 7, 3) := by decide +kernel
theorem dX4_make_23 : decode cX4_make 23 = .ok (.iconst 0, 1) := by decide +kernel
theorem dX4_make_24 : decode cX4_make 24 = .ok (.iconst 1, 1) := by decide +kernel
theorem dX4_make_25 : decode cX4_make 25 = .ok (.invokevirtual 73, 3) := by decide +kernel
theorem dX4_make_28 : decode cX4_make 28 = .ok (.ifCond .ne 28, 3) := by decide +kernel
theorem dX4_make_31 : decode cX4_make 31 = .ok (.aload_n 0, 1) := by decide +kernel
theorem dX4_make_32 : decode cX4_make 32 = .ok (.aload_n 0, 1) := by decide +kernel
theorem dX4_make_33 : decode cX4_make 33 = .ok (.getfield 10, 3) := by decide +kernel
theorem dX4_make_36 : decode cX4_make 36 = .ok (.invokevirtual 24, 3) := by decide +kernel
theorem dX4_make_39 : decode cX4_make 39 = .ok (.bipush 12, 2) := by decide +kernel
theorem dX4_make_41 : decode cX4_make 41 = .ok (.if_icmp .ne 7, 3) := by decide +kernel
theorem dX4_make_48 : decode cX4_make 48 = .ok (.iconst 0, 1) := by decide +kernel
theorem dX4_make_49 : decode cX4_make 49 = .ok (.iconst 2, 1) := by decide +kernel
theorem dX4_make_50 : decode cX4_make 50 = .ok (.invokevirtual 20, 3) := by decide +kernel
theorem dX4_make_53 : decode cX4_make 53 = .ok (.ifCond .eq 5, 3) := by decide +kernel
theorem dX4_make_58 : decode cX4_make 58 = .ok (.aload_n 0, 1) := by decide +kernel
theorem dX4_make_59 : decode cX4_make 59 = .ok (.getfield 10, 3) := by decide +kernel
theorem dX4_make_62 : decode cX4_make 62 = .ok (.new 40, 3) := by decide +kernel
theorem dX4_make_65 : decode cX4_make 65 = .ok (.dup, 1) := by decide +kernel
theorem dX4_make_66 : decode cX4_make 66 = .ok (.iload_n 1, 1) := by decide +kernel
theorem dX4_make_67 : decode cX4_make 67 = .ok (.iload_n 2, 1) := by decide +kernel
theorem dX4_make_68 : decode cX4_make 68 = .ok (.invokespecial 76, 3) := by decide +kernel
theorem dX4_make_71 : decode cX4_make 71 = .ok (.invokevirtual 79, 3) := by decide +kernel
theorem dX4_make_74 : decode cX4_make 74 = .ok (.pop, 1) := by decide +kernel
theorem dX4_make_75 : decode cX4_make 75 = .ok (.aload_n 0, 1) := by decide +kernel
theorem dX4_make_76 : decode cX4_make 76 = .ok (.getfield 10, 3) := by decide +kernel
theorem dX4_make_79 : decode cX4_make 79 = .ok (.invokevirtual 24, 3) := by decide +kernel
theorem dX4_make_82 : decode cX4_make 82 = .ok (.iconst 1, 1) := by decide +kernel
theorem dX4_make_83 : decode cX4_make 83 = .ok (.isub, 1) := by decide +kernel
theorem dX4_make_84 : decode cX4_make 84 = .ok (.ireturn, 1) := by decide +kernel
theorem dX4_nowhere_0 : decode cX4_nowhere 0 = .ok (.aload_n 0, 1) := by decide +kernel
theorem dX4_nowhere_1 : decode cX4_nowhere 1 = .ok (.getfield 10, 3) := by decide +kernel
theorem dX4_nowhere_4 : decode cX4_nowhere 4 = .ok (.iload_n 1, 1) := by decide +kernel
theorem dX4_nowhere_5 : decode cX4_nowhere 5 = .ok (.invokevirtual 36, 3) := by decide +kernel
theorem dX4_nowhere_8 : decode cX4_nowhere 8 = .ok (.checkcast 40, 3) := by decide +kernel
theorem dX4_nowhere_11 : decode cX4_nowhere 11 = .ok (.invokevirtual 42, 3) := by decide +kernel
theorem dX4_nowhere_14 : decode cX4_nowhere 14 = .ok (.newarray .int, 2) := by decide +kernel
theorem dX4_nowhere_16 : decode cX4_nowhere 16 = .ok (.astore_n 2, 1) := by decide +kernel
theorem dX4_nowhere_17 : decode cX4_nowhere 17 = .ok (.iconst 0, 1) := by decide +kernel
theorem dX4_nowhere_18 : decode cX4_nowhere 18 = .ok (.istore_n 3, 1) := by decide +kernel
theorem dX4_nowhere_19 : decode cX4_nowhere 19 = .ok (.iload_n 3, 1) := by decide +kernel
theorem dX4_nowhere_20 : decode cX4_nowhere 20 = .ok (.aload_n 2, 1) := by decide +kernel
theorem dX4_nowhere_21 : decode cX4_nowhere 21 = .ok (.arraylength, 1) := by decide +kernel
theorem dX4_nowhere_22 : decode cX4_nowhere 22 = .ok (.if_icmp .ge 13, 3) := by decide +kernel
theorem dX4_nowhere_25 : decode cX4_nowhere 25 = .ok (.aload_n 2, 1) := by decide +kernel
theorem dX4_nowhere_26 : decode cX4_nowhere 26 = .ok (.iload_n 3, 1) := by decide +kernel
theorem dX4_nowhere_27 : decode cX4_nowhere 27 = .ok (.iconst (-1), 1) := by decide +kernel
theorem dX4_nowhere_28 : decode cX4_nowhere 28 = .ok (.iastore, 1) := by decide +kernel
theorem dX4_nowhere_29 : decode cX4_nowhere 29 = .ok (.iinc 3 1, 3) := by decide +kernel
theorem dX4_nowhere_32 : decode cX4_nowhere 32 = .ok (.goto (-13), 3) := by decide +kernel
theorem dX4_nowhere_35 : decode cX4_nowhere 35 = .ok (.aload_n 2, 1) := by decide +kernel
theorem dX4_nowhere_36 : decode cX4_nowhere 36 = .ok (.areturn, 1) := by decide +kernel
theorem dX4_fillRow_0 : decode cX4_fillRow 0 = .ok (.aload_n 0, 1) := by decide +kernel
theorem dX4_fillRow_1 : decode cX4_fillRow 1 = .ok (.aload_n 0, 1) := by decide +kernel
theorem dX4_fillRow_2 : decode cX4_fillRow 2 = .ok (.iload_n 1, 1) := by decide +kernel
theorem dX4_fillRow_3 : decode cX4_fillRow 3 = .ok (.invokevirtual 32, 3) := by decide +kernel
theorem dX4_fillRow_6 : decode cX4_fillRow 6 = .ok (.ifCond .ne 11, 3) := by decide +kernel
theorem dX4_fillRow_9 : decode cX4_fillRow 9 = .ok (.aload_n 0, 1) := by decide +kernel
theorem dX4_fillRow_10 : decode cX4_fillRow 10 = .ok (.iload_n 2, 1) := by decide +kernel
theorem dX4_fillRow_11 : decode cX4_fillRow 11 = .ok (.invokevirtual 32, 3) := by decide +kernel
theorem dX4_fillRow_14 : decode cX4_fillRow 14 = .ok (.ifCond .eq 7, 3) := by decide +kernel
theorem dX4_fillRow_21 : decode cX4_fillRow 21 = .ok (.iconst 0, 1) := by decide +kernel
theorem dX4_fillRow_22 : decode cX4_fillRow 22 = .ok (.iconst 1, 1) := by decide +kernel
theorem dX4_fillRow_23 : decode cX4_fillRow 23 = .ok (.invokevirtual 73, 3) := by decide +kernel
theorem dX4_fillRow_26 : decode cX4_fillRow 26 = .ok (.ifCond .ne 52, 3) := by decide +kernel
theorem dX4_fillRow_29 : decode cX4_fillRow 29 = .ok (.aload_n 0, 1) := by decide +kernel
theorem dX4_fillRow_30 : decode cX4_fillRow 30 = .ok (.aload_n 0, 1) := by decide +kernel
theorem dX4_fillRow_31 : decode cX4_fillRow 31 = .ok (.getfield 10, 3) := by decide +kernel
theorem dX4_fillRow_34 : decode cX4_fillRow 34 = .ok (.iload_n 1, 1) := by decide +kernel
theorem dX4_fillRow_35 : decode cX4_fillRow 35 = .ok (.invokevirtual 36, 3) := by decide +kernel
theorem dX4_fillRow_38 : decode cX4_fillRow 38 = .ok (.checkcast 40, 3) := by decide +kernel
theorem dX4_fillRow_41 : decode cX4_fillRow 41 = .ok (.getfield 103, 3) := by decide +kernel
theorem dX4_fillRow_44 : decode cX4_fillRow 44 = .ok (.iconst 4, 1) := by decide +kernel
theorem dX4_fillRow_45 : decode cX4_fillRow 45 = .ok (.if_icmp .eq 7, 3) := by decide +kernel
theorem dX4_fillRow_52 : decode cX4_fillRow 52 = .ok (.iconst 0, 1) := by decide +kernel
theorem dX4_fillRow_53 : decode cX4_fillRow 53 = .ok (.iconst 2, 1) := by decide +kernel
theorem dX4_fillRow_54 : decode cX4_fillRow 54 = .ok (.invokevirtual 20, 3) := by decide +kernel
theorem dX4_fillRow_57 : decode cX4_fillRow 57 = .ok (.ifCond .ne 21, 3) := by decide +kernel
theorem dX4_fillRow_60 : decode cX4_fillRow 60 = .ok (.aload_n 0, 1) := by decide +kernel
theorem dX4_fillRow_61 : decode cX4_fillRow 61 = .ok (.iload_n 2, 1) := by decide +kernel
theorem dX4_fillRow_62 : decode cX4_fillRow 62 = .ok (.iload_n 1, 1) := by decide +kernel
theorem dX4_fillRow_63 : decode cX4_fillRow 63 = .ok (.if_icmp .lt 7, 3) := by decide +kernel
theorem dX4_fillRow_70 : decode cX4_fillRow 70 = .ok (.iconst 0, 1) := by decide +kernel
theorem dX4_fillRow_71 : decode cX4_fillRow 71 = .ok (.iconst 3, 1) := by decide +kernel
theorem dX4_fillRow_72 : decode cX4_fillRow 72 = .ok (.invokevirtual 20, 3) := by decide +kernel
theorem dX4_fillRow_75 : decode cX4_fillRow 75 = .ok (.ifCond .eq 5, 3) := by decide +kernel
theorem dX4_fillRow_80 : decode cX4_fillRow 80 = .ok (.aload_n 0, 1) := by decide +kernel
theorem dX4_fillRow_81 : decode cX4_fillRow 81 = .ok (.iload_n 1, 1) := by decide +kernel
theorem dX4_fillRow_82 : decode cX4_fillRow 82 = .ok (.invokevirtual 106, 3) := by decide +kernel
theorem dX4_fillRow_85 : decode cX4_fillRow 85 = .ok (.astore_n 3, 1) := by decide +kernel
theorem dX4_fillRow_86 : decode cX4_fillRow 86 = .ok (.iconst 0, 1) := by decide +kernel
theorem dX4_fillRow_87 : decode cX4_fillRow 87 = .ok (.istore 4, 2) := by decide +kernel
theorem dX4_fillRow_89 : decode cX4_fillRow 89 = .ok (.iload 4, 2) := by decide +kernel
theorem dX4_fillRow_91 : decode cX4_fillRow 91 = .ok (.aload_n 3, 1) := by decide +kernel
theorem dX4_fillRow_92 : decode cX4_fillRow 92 = .ok (.arraylength, 1) := by decide +kernel
theorem dX4_fillRow_93 : decode cX4_fillRow 93 = .ok (.if_icmp .ge 14, 3) := by decide +kernel
theorem dX4_fillRow_96 : decode cX4_fillRow 96 = .ok (.aload_n 3, 1) := by decide +kernel
theorem dX4_fillRow_97 : decode cX4_fillRow 97 = .ok (.iload 4, 2) := by decide +kernel
theorem dX4_fillRow_99 : decode cX4_fillRow 99 = .ok (.iload_n 2, 1) := by decide +kernel
theorem dX4_fillRow_100 : decode cX4_fillRow 100 = .ok (.iastore, 1) := by decide +kernel
theorem dX4_fillRow_101 : decode cX4_fillRow 101 = .ok (.iinc 4 1, 3) := by decide +kernel
theorem dX4_fillRow_104 : decode cX4_fillRow 104 = .ok (.goto (-15), 3) := by decide +kernel
theorem dX4_fillRow_107 : decode cX4_fillRow 107 = .ok (.aload_n 0, 1) := by decide +kernel
theorem dX4_fillRow_108 : decode cX4_fillRow 108 = .ok (.aload_n 0, 1) := by decide +kernel
theorem dX4_fillRow_109 : decode cX4_fillRow 109 = .ok (.iload_n 1, 1) := by decide +kernel
theorem dX4_fillRow_110 : decode cX4_fillRow 110 = .ok (.aload_n 3, 1) := by decide +kernel
theorem dX4_fillRow_111 : decode cX4_fillRow 111 = .ok (.invokevirtual 110, 3) := by decide +kernel
theorem dX4_fillRow_114 : decode cX4_fillRow 114 = .ok (.ifCond .ne 7, 3) := by decide +kernel
theorem dX4_fillRow_121 : decode cX4_fillRow 121 = .ok (.iconst 0, 1) := by decide +kernel
theorem dX4_fillRow_122 : decode cX4_fillRow 122 = .ok (.iconst 3, 1) := by decide +kernel
theorem dX4_fillRow_123 : decode cX4_fillRow 123 = .ok (.invokevirtual 20, 3) := by decide +kernel
theorem dX4_fillRow_126 : decode cX4_fillRow 126 = .ok (.ifCond .eq 7, 3) := by decide +kernel
theorem dX4_fillRow_133 : decode cX4_fillRow 133 = .ok (.aload_n 0, 1) := by decide +kernel
theorem dX4_fillRow_134 : decode cX4_fillRow 134 = .ok (.iload_n 1, 1) := by decide +kernel
theorem dX4_fillRow_135 : decode cX4_fillRow 135 = .ok (.invokevirtual 66, 3) := by decide +kernel
theorem dX4_fillRow_138 : decode cX4_fillRow 138 = .ok (.ireturn, 1) := by decide +kernel
theorem dX4_textAt_0 : decode cX4_textAt 0 = .ok (.aload_n 1, 1) := by decide +kernel
theorem dX4_textAt_1 : decode cX4_textAt 1 = .ok (.getfield 48, 3) := by decide +kernel
theorem dX4_textAt_4 : decode cX4_textAt 4 = .ok (.iload_n 2, 1) := by decide +kernel
theorem dX4_textAt_5 : decode cX4_textAt 5 = .ok (.iaload, 1) := by decide +kernel
theorem dX4_textAt_6 : decode cX4_textAt 6 = .ok (.istore_n 3, 1) := by decide +kernel
theorem dX4_textAt_7 : decode cX4_textAt 7 = .ok (.aload_n 1, 1) := by decide +kernel
theorem dX4_textAt_8 : decode cX4_textAt 8 = .ok (.getfield 103, 3) := by decide +kernel
theorem dX4_textAt_11 : decode cX4_textAt 11 = .ok (.tableswitch 111 0 3 #[29, 49, 74, 87], 29) := by decide +kernel
theorem dX4_textAt_122 : decode cX4_textAt 122 = .ok (.aload_n 1, 1) := by decide +kernel
theorem dX4_textAt_123 : decode cX4_textAt 123 = .ok (.getfield 70, 3) := by decide +kernel
theorem dX4_textAt_126 : decode cX4_textAt 126 = .ok (.iload_n 2, 1) := by decide +kernel
theorem dX4_textAt_127 : decode cX4_textAt 127 = .ok (.iaload, 1) := by decide +kernel
theorem dX4_textAt_128 : decode cX4_textAt 128 = .ok (.ifCond .ne 8, 3) := by decide +kernel
theorem dX4_textAt_131 : decode cX4_textAt 131 = .ok (.ldc 191, 2) := by decide +kernel
theorem dX4_textAt_133 : decode cX4_textAt 133 = .ok (.goto 58, 3) := by decide +kernel
theorem dX4_textAt_136 : decode cX4_textAt 136 = .ok (.aload_n 1, 1) := by decide +kernel
theorem dX4_textAt_137 : decode cX4_textAt 137 = .ok (.getfield 70, 3) := by decide +kernel
theorem dX4_textAt_140 : decode cX4_textAt 140 = .ok (.iload_n 2, 1) := by decide +kernel
theorem dX4_textAt_141 : decode cX4_textAt 141 = .ok (.iaload, 1) := by decide +kernel
theorem dX4_textAt_142 : decode cX4_textAt 142 = .ok (.iconst 1, 1) := by decide +kernel
theorem dX4_textAt_143 : decode cX4_textAt 143 = .ok (.if_icmp .ne 25, 3) := by decide +kernel
theorem dX4_textAt_168 : decode cX4_textAt 168 = .ok (.aload_n 1, 1) := by decide +kernel
theorem dX4_textAt_169 : decode cX4_textAt 169 = .ok (.getfield 70, 3) := by decide +kernel
theorem dX4_textAt_172 : decode cX4_textAt 172 = .ok (.iload_n 2, 1) := by decide +kernel
theorem dX4_textAt_173 : decode cX4_textAt 173 = .ok (.iaload, 1) := by decide +kernel
theorem dX4_textAt_174 : decode cX4_textAt 174 = .ok (.iconst 2, 1) := by decide +kernel
theorem dX4_textAt_175 : decode cX4_textAt 175 = .ok (.if_icmp .ne 11, 3) := by decide +kernel
theorem dX4_textAt_186 : decode cX4_textAt 186 = .ok (.aload_n 0, 1) := by decide +kernel
theorem dX4_textAt_187 : decode cX4_textAt 187 = .ok (.iload_n 3, 1) := by decide +kernel
theorem dX4_textAt_188 : decode cX4_textAt 188 = .ok (.invokevirtual 193, 3) := by decide +kernel
theorem dX4_textAt_191 : decode cX4_textAt 191 = .ok (.areturn, 1) := by decide +kernel
theorem dX4_textOf_0 : decode cX4_textOf 0 = .ok (.aload_n 0, 1) := by decide +kernel
theorem dX4_textOf_1 : decode cX4_textOf 1 = .ok (.getfield 10, 3) := by decide +kernel
theorem dX4_textOf_4 : decode cX4_textOf 4 = .ok (.iload_n 1, 1) := by decide +kernel
theorem dX4_textOf_5 : decode cX4_textOf 5 = .ok (.invokevirtual 36, 3) := by decide +kernel
theorem dX4_textOf_8 : decode cX4_textOf 8 = .ok (.checkcast 40, 3) := by decide +kernel
theorem dX4_textOf_11 : decode cX4_textOf 11 = .ok (.astore_n 2, 1) := by decide +kernel
theorem dX4_textOf_12 : decode cX4_textOf 12 = .ok (.ldc 197, 2) := by decide +kernel
theorem dX4_textOf_14 : decode cX4_textOf 14 = .ok (.astore_n 3, 1) := by decide +kernel
theorem dX4_textOf_15 : decode cX4_textOf 15 = .ok (.iconst 0, 1) := by decide +kernel
theorem dX4_textOf_16 : decode cX4_textOf 16 = .ok (.istore 4, 2) := by decide +kernel
theorem dX4_textOf_18 : decode cX4_textOf 18 = .ok (.iload 4, 2) := by decide +kernel
theorem dX4_textOf_20 : decode cX4_textOf 20 = .ok (.aload_n 2, 1) := by decide +kernel
theorem dX4_textOf_21 : decode cX4_textOf 21 = .ok (.invokevirtual 42, 3) := by decide +kernel
theorem dX4_textOf_24 : decode cX4_textOf 24 = .ok (.if_icmp .ge 49, 3) := by decide +kernel
theorem dX4_textOf_27 : decode cX4_textOf 27 = .ok (.new 165, 3) := by decide +kernel
theorem dX4_textOf_30 : decode cX4_textOf 30 = .ok (.dup, 1) := by decide +kernel
theorem dX4_textOf_31 : decode cX4_textOf 31 = .ok (.invokespecial 167, 3) := by decide +kernel
theorem dX4_textOf_34 : decode cX4_textOf 34 = .ok (.aload_n 3, 1) := by decide +kernel
theorem dX4_textOf_35 : decode cX4_textOf 35 = .ok (.invokevirtual 170, 3) := by decide +kernel
theorem dX4_textOf_38 : decode cX4_textOf 38 = .ok (.iload 4, 2) := by decide +kernel
theorem dX4_textOf_40 : decode cX4_textOf 40 = .ok (.ifCond .le 8, 3) := by decide +kernel
theorem dX4_textOf_43 : decode cX4_textOf 43 = .ok (.ldc 199, 2) := by decide +kernel
theorem dX4_textOf_45 : decode cX4_textOf 45 = .ok (.goto 5, 3) := by decide +kernel
theorem dX4_textOf_48 : decode cX4_textOf 48 = .ok (.ldc 168, 2) := by decide +kernel
theorem dX4_textOf_50 : decode cX4_textOf 50 = .ok (.invokevirtual 170, 3) := by decide +kernel
theorem dX4_textOf_53 : decode cX4_textOf 53 = .ok (.aload_n 0, 1) := by decide +kernel
theorem dX4_textOf_54 : decode cX4_textOf 54 = .ok (.aload_n 2, 1) := by decide +kernel
theorem dX4_textOf_55 : decode cX4_textOf 55 = .ok (.iload 4, 2) := by decide +kernel
theorem dX4_textOf_57 : decode cX4_textOf 57 = .ok (.invokevirtual 201, 3) := by decide +kernel
theorem dX4_textOf_60 : decode cX4_textOf 60 = .ok (.invokevirtual 170, 3) := by decide +kernel
theorem dX4_textOf_63 : decode cX4_textOf 63 = .ok (.invokevirtual 177, 3) := by decide +kernel
theorem dX4_textOf_66 : decode cX4_textOf 66 = .ok (.astore_n 3, 1) := by decide +kernel
theorem dX4_textOf_67 : decode cX4_textOf 67 = .ok (.iinc 4 1, 3) := by decide +kernel
theorem dX4_textOf_70 : decode cX4_textOf 70 = .ok (.goto (-52), 3) := by decide +kernel
theorem dX4_textOf_73 : decode cX4_textOf 73 = .ok (.new 165, 3) := by decide +kernel
theorem dX4_textOf_76 : decode cX4_textOf 76 = .ok (.dup, 1) := by decide +kernel
theorem dX4_textOf_77 : decode cX4_textOf 77 = .ok (.invokespecial 167, 3) := by decide +kernel
theorem dX4_textOf_80 : decode cX4_textOf 80 = .ok (.aload_n 3, 1) := by decide +kernel
theorem dX4_textOf_81 : decode cX4_textOf 81 = .ok (.invokevirtual 170, 3) := by decide +kernel
theorem dX4_textOf_84 : decode cX4_textOf 84 = .ok (.ldc 205, 2) := by decide +kernel
theorem dX4_textOf_86 : decode cX4_textOf 86 = .ok (.invokevirtual 170, 3) := by decide +kernel
theorem dX4_textOf_89 : decode cX4_textOf 89 = .ok (.invokevirtual 177, 3) := by decide +kernel
theorem dX4_textOf_92 : decode cX4_textOf 92 = .ok (.areturn, 1) := by decide +kernel
theorem dX4_text_0 : decode cX4_text 0 = .ok (.aload_n 0, 1) := by decide +kernel
theorem dX4_text_1 : decode cX4_text 1 = .ok (.aload_n 0, 1) := by decide +kernel
theorem dX4_text_2 : decode cX4_text 2 = .ok (.iload_n 1, 1) := by decide +kernel
theorem dX4_text_3 : decode cX4_text 3 = .ok (.invokevirtual 32, 3) := by decide +kernel
theorem dX4_text_6 : decode cX4_text 6 = .ok (.iconst 1, 1) := by decide +kernel
theorem dX4_text_7 : decode cX4_text 7 = .ok (.invokevirtual 73, 3) := by decide +kernel
theorem dX4_text_10 : decode cX4_text 10 = .ok (.ifCond .eq 8, 3) := by decide +kernel
theorem dX4_text_18 : decode cX4_text 18 = .ok (.aload_n 0, 1) := by decide +kernel
theorem dX4_text_19 : decode cX4_text 19 = .ok (.iload_n 1, 1) := by decide +kernel
theorem dX4_text_20 : decode cX4_text 20 = .ok (.invokevirtual 193, 3) := by decide +kernel
theorem dX4_text_23 : decode cX4_text 23 = .ok (.areturn, 1) := by decide +kernel
theorem dJ5_init_d00df_0 : decode cJ5_init_d00df 0 = .ok (.aload_n 0, 1) := by decide +kernel
theorem dJ5_init_d00df_1 : decode cJ5_init_d00df 1 = .ok (.invokespecial 3, 3) := by decide +kernel
theorem dJ5_init_d00df_4 : decode cJ5_init_d00df 4 = .ok (.getstatic 18, 3) := by decide +kernel
theorem dJ5_init_d00df_7 : decode cJ5_init_d00df 7 = .ok (.ifCond .eq 18, 3) := by decide +kernel
theorem dJ5_init_d00df_10 : decode cJ5_init_d00df 10 = .ok (.aload_n 0, 1) := by decide +kernel
theorem dJ5_init_d00df_11 : decode cJ5_init_d00df 11 = .ok (.iload_n 1, 1) := by decide +kernel
theorem dJ5_init_d00df_12 : decode cJ5_init_d00df 12 = .ok (.newarray .byte, 2) := by decide +kernel
theorem dJ5_init_d00df_14 : decode cJ5_init_d00df 14 = .ok (.putfield 15, 3) := by decide +kernel
theorem dJ5_init_d00df_17 : decode cJ5_init_d00df 17 = .ok (.aload_n 0, 1) := by decide +kernel
theorem dJ5_init_d00df_18 : decode cJ5_init_d00df 18 = .ok (.iconst 0, 1) := by decide +kernel
theorem dJ5_init_d00df_19 : decode cJ5_init_d00df 19 = .ok (.putfield 22, 3) := by decide +kernel
theorem dJ5_init_d00df_22 : decode cJ5_init_d00df 22 = .ok (.goto 16, 3) := by decide +kernel
theorem dJ5_init_d00df_38 : decode cJ5_init_d00df 38 = .ok (.return_, 1) := by decide +kernel
theorem dJ5_length_8abf5_0 : decode cJ5_length_8abf5 0 = .ok (.aload_n 0, 1) := by decide +kernel
theorem dJ5_length_8abf5_1 : decode cJ5_length_8abf5 1 = .ok (.getfield 79, 3) := by decide +kernel
theorem dJ5_length_8abf5_4 : decode cJ5_length_8abf5 4 = .ok (.ireturn, 1) := by decide +kernel
theorem dJ5_ensureCapacityInternal_d00df_0 : decode cJ5_ensureCapacityInternal_d00df 0 = .ok (.aload_n 0, 1) := by decide +kernel
theorem dJ5_ensureCapacityInternal_d00df_1 : decode cJ5_ensureCapacityInternal_d00df 1 = .ok (.getfield 15, 3) := by decide +kernel
theorem dJ5_ensureCapacityInternal_d00df_4 : decode cJ5_ensureCapacityInternal_d00df 4 = .ok (.arraylength, 1) := by decide +kernel
theorem dJ5_ensureCapacityInternal_d00df_5 : decode cJ5_ensureCapacityInternal_d00df 5 = .ok (.aload_n 0, 1) := by decide +kernel
theorem dJ5_ensureCapacityInternal_d00df_6 : decode cJ5_ensureCapacityInternal_d00df 6 = .ok (.getfield 22, 3) := by decide +kernel
theorem dJ5_ensureCapacityInternal_d00df_9 : decode cJ5_ensureCapacityInternal_d00df 9 = .ok (.ishr, 1) := by decide +kernel
theorem dJ5_ensureCapacityInternal_d00df_10 : decode cJ5_ensureCapacityInternal_d00df 10 = .ok (.istore_n 2, 1) := by decide +kernel
theorem dJ5_ensureCapacityInternal_d00df_11 : decode cJ5_ensureCapacityInternal_d00df 11 = .ok (.iload_n 1, 1) := by decide +kernel
theorem dJ5_ensureCapacityInternal_d00df_12 : decode cJ5_ensureCapacityInternal_d00df 12 = .ok (.iload_n 2, 1) := by decide +kernel
theorem dJ5_ensureCapacityInternal_d00df_13 : decode cJ5_ensureCapacityInternal_d00df 13 = .ok (.isub, 1) := by decide +kernel
theorem dJ5_ensureCapacityInternal_d00df_14 : decode cJ5_ensureCapacityInternal_d00df 14 = .ok (.ifCond .le 24, 3) := by decide +kernel
theorem dJ5_ensureCapacityInternal_d00df_17 : decode cJ5_ensureCapacityInternal_d00df 17 = .ok (.aload_n 0, 1) := by decide +kernel
theorem dJ5_ensureCapacityInternal_d00df_18 : decode cJ5_ensureCapacityInternal_d00df 18 = .ok (.aload_n 0, 1) := by decide +kernel
theorem dJ5_ensureCapacityInternal_d00df_19 : decode cJ5_ensureCapacityInternal_d00df 19 = .ok (.getfield 15, 3) := by decide +kernel
theorem dJ5_ensureCapacityInternal_d00df_22 : decode cJ5_ensureCapacityInternal_d00df 22 = .ok (.aload_n 0, 1) := by decide +kernel
theorem dJ5_ensureCapacityInternal_d00df_23 : decode cJ5_ensureCapacityInternal_d00df 23 = .ok (.iload_n 1, 1) := by decide +kernel
theorem dJ5_ensureCapacityInternal_d00df_24 : decode cJ5_ensureCapacityInternal_d00df 24 = .ok (.invokevirtual 104, 3) := by decide +kernel
theorem dJ5_ensureCapacityInternal_d00df_27 : decode cJ5_ensureCapacityInternal_d00df 27 = .ok (.aload_n 0, 1) := by decide +kernel
theorem dJ5_ensureCapacityInternal_d00df_28 : decode cJ5_ensureCapacityInternal_d00df 28 = .ok (.getfield 22, 3) := by decide +kernel
theorem dJ5_ensureCapacityInternal_d00df_31 : decode cJ5_ensureCapacityInternal_d00df 31 = .ok (.ishl, 1) := by decide +kernel
theorem dJ5_ensureCapacityInternal_d00df_32 : decode cJ5_ensureCapacityInternal_d00df 32 = .ok (.invokestatic 108, 3) := by decide +kernel
theorem dJ5_ensureCapacityInternal_d00df_35 : decode cJ5_ensureCapacityInternal_d00df 35 = .ok (.putfield 15, 3) := by decide +kernel
theorem dJ5_ensureCapacityInternal_d00df_38 : decode cJ5_ensureCapacityInternal_d00df 38 = .ok (.return_, 1) := by decide +kernel
theorem dJ5_newCapacity_0f7a4_0 : decode cJ5_newCapacity_0f7a4 0 = .ok (.aload_n 0, 1) := by decide +kernel
theorem dJ5_newCapacity_0f7a4_1 : decode cJ5_newCapacity_0f7a4 1 = .ok (.getfield 15, 3) := by decide +kernel
theorem dJ5_newCapacity_0f7a4_4 : decode cJ5_newCapacity_0f7a4 4 = .ok (.arraylength, 1) := by decide +kernel
theorem dJ5_newCapacity_0f7a4_5 : decode cJ5_newCapacity_0f7a4 5 = .ok (.istore_n 2, 1) := by decide +kernel
theorem dJ5_newCapacity_0f7a4_6 : decode cJ5_newCapacity_0f7a4 6 = .ok (.iload_n 1, 1) := by decide +kernel
theorem dJ5_newCapacity_0f7a4_7 : decode cJ5_newCapacity_0f7a4 7 = .ok (.aload_n 0, 1) := by decide +kernel
theorem dJ5_newCapacity_0f7a4_8 : decode cJ5_newCapacity_0f7a4 8 = .ok (.getfield 22, 3) := by decide +kernel
theorem dJ5_newCapacity_0f7a4_11 : decode cJ5_newCapacity_0f7a4 11 = .ok (.ishl, 1) := by decide +kernel
theorem dJ5_newCapacity_0f7a4_12 : decode cJ5_newCapacity_0f7a4 12 = .ok (.istore_n 3, 1) := by decide +kernel
theorem dJ5_newCapacity_0f7a4_13 : decode cJ5_newCapacity_0f7a4 13 = .ok (.iload_n 3, 1) := by decide +kernel
theorem dJ5_newCapacity_0f7a4_14 : decode cJ5_newCapacity_0f7a4 14 = .ok (.iload_n 2, 1) := by decide +kernel
theorem dJ5_newCapacity_0f7a4_15 : decode cJ5_newCapacity_0f7a4 15 = .ok (.isub, 1) := by decide +kernel
theorem dJ5_newCapacity_0f7a4_16 : decode cJ5_newCapacity_0f7a4 16 = .ok (.istore 4, 2) := by decide +kernel
theorem dJ5_newCapacity_0f7a4_18 : decode cJ5_newCapacity_0f7a4 18 = .ok (.iload_n 2, 1) := by decide +kernel
theorem dJ5_newCapacity_0f7a4_19 : decode cJ5_newCapacity_0f7a4 19 = .ok (.iload 4, 2) := by decide +kernel
theorem dJ5_newCapacity_0f7a4_21 : decode cJ5_newCapacity_0f7a4 21 = .ok (.iload_n 2, 1) := by decide +kernel
theorem dJ5_newCapacity_0f7a4_22 : decode cJ5_newCapacity_0f7a4 22 = .ok (.iconst 2, 1) := by decide +kernel
theorem dJ5_newCapacity_0f7a4_23 : decode cJ5_newCapacity_0f7a4 23 = .ok (.aload_n 0, 1) := by decide +kernel
theorem dJ5_newCapacity_0f7a4_24 : decode cJ5_newCapacity_0f7a4 24 = .ok (.getfield 22, 3) := by decide +kernel
theorem dJ5_newCapacity_0f7a4_27 : decode cJ5_newCapacity_0f7a4 27 = .ok (.ishl, 1) := by decide +kernel
theorem dJ5_newCapacity_0f7a4_28 : decode cJ5_newCapacity_0f7a4 28 = .ok (.iadd, 1) := by decide +kernel
theorem dJ5_newCapacity_0f7a4_29 : decode cJ5_newCapacity_0f7a4 29 = .ok (.invokestatic 114, 3) := by decide +kernel
theorem dJ5_newCapacity_0f7a4_32 : decode cJ5_newCapacity_0f7a4 32 = .ok (.istore 5, 2) := by decide +kernel
theorem dJ5_newCapacity_0f7a4_34 : decode cJ5_newCapacity_0f7a4 34 = .ok (.iload 5, 2) := by decide +kernel
theorem dJ5_newCapacity_0f7a4_36 : decode cJ5_newCapacity_0f7a4 36 = .ok (.ldc 39, 2) := by decide +kernel
theorem dJ5_newCapacity_0f7a4_38 : decode cJ5_newCapacity_0f7a4 38 = .ok (.if_icmp .ne 13, 3) := by decide +kernel
theorem dJ5_newCapacity_0f7a4_51 : decode cJ5_newCapacity_0f7a4 51 = .ok (.iload 5, 2) := by decide +kernel
theorem dJ5_newCapacity_0f7a4_53 : decode cJ5_newCapacity_0f7a4 53 = .ok (.aload_n 0, 1) := by decide +kernel
theorem dJ5_newCapacity_0f7a4_54 : decode cJ5_newCapacity_0f7a4 54 = .ok (.getfield 22, 3) := by decide +kernel
theorem dJ5_newCapacity_0f7a4_57 : decode cJ5_newCapacity_0f7a4 57 = .ok (.ishr, 1) := by decide +kernel
theorem dJ5_newCapacity_0f7a4_58 : decode cJ5_newCapacity_0f7a4 58 = .ok (.ireturn, 1) := by decide +kernel
theorem dJ5_setLength_d00df_0 : decode cJ5_setLength_d00df 0 = .ok (.iload_n 1, 1) := by decide +kernel
theorem dJ5_setLength_d00df_1 : decode cJ5_setLength_d00df 1 = .ok (.ifCond .ge 12, 3) := by decide +kernel
theorem dJ5_setLength_d00df_13 : decode cJ5_setLength_d00df 13 = .ok (.aload_n 0, 1) := by decide +kernel
theorem dJ5_setLength_d00df_14 : decode cJ5_setLength_d00df 14 = .ok (.iload_n 1, 1) := by decide +kernel
theorem dJ5_setLength_d00df_15 : decode cJ5_setLength_d00df 15 = .ok (.invokevirtual 100, 3) := by decide +kernel
theorem dJ5_setLength_d00df_18 : decode cJ5_setLength_d00df 18 = .ok (.aload_n 0, 1) := by decide +kernel
theorem dJ5_setLength_d00df_19 : decode cJ5_setLength_d00df 19 = .ok (.getfield 79, 3) := by decide +kernel
theorem dJ5_setLength_d00df_22 : decode cJ5_setLength_d00df 22 = .ok (.iload_n 1, 1) := by decide +kernel
theorem dJ5_setLength_d00df_23 : decode cJ5_setLength_d00df 23 = .ok (.if_icmp .ge 40, 3) := by decide +kernel
theorem dJ5_setLength_d00df_63 : decode cJ5_setLength_d00df 63 = .ok (.aload_n 0, 1) := by decide +kernel
theorem dJ5_setLength_d00df_64 : decode cJ5_setLength_d00df 64 = .ok (.getfield 79, 3) := by decide +kernel
theorem dJ5_setLength_d00df_67 : decode cJ5_setLength_d00df 67 = .ok (.iload_n 1, 1) := by decide +kernel
theorem dJ5_setLength_d00df_68 : decode cJ5_setLength_d00df 68 = .ok (.if_icmp .le 8, 3) := by decide +kernel
theorem dJ5_setLength_d00df_71 : decode cJ5_setLength_d00df 71 = .ok (.aload_n 0, 1) := by decide +kernel
theorem dJ5_setLength_d00df_72 : decode cJ5_setLength_d00df 72 = .ok (.iconst 1, 1) := by decide +kernel
theorem dJ5_setLength_d00df_73 : decode cJ5_setLength_d00df 73 = .ok (.putfield 73, 3) := by decide +kernel
theorem dJ5_setLength_d00df_76 : decode cJ5_setLength_d00df 76 = .ok (.aload_n 0, 1) := by decide +kernel
theorem dJ5_setLength_d00df_77 : decode cJ5_setLength_d00df 77 = .ok (.iload_n 1, 1) := by decide +kernel
theorem dJ5_setLength_d00df_78 : decode cJ5_setLength_d00df 78 = .ok (.putfield 79, 3) := by decide +kernel
theorem dJ5_setLength_d00df_81 : decode cJ5_setLength_d00df 81 = .ok (.return_, 1) := by decide +kernel
theorem dJ5_append_cf1ce_0 : decode cJ5_append_cf1ce 0 = .ok (.aload_n 1, 1) := by decide +kernel
theorem dJ5_append_cf1ce_1 : decode cJ5_append_cf1ce 1 = .ok (.ifnonnull 8, 3) := by decide +kernel
theorem dJ5_append_cf1ce_9 : decode cJ5_append_cf1ce 9 = .ok (.aload_n 1, 1) := by decide +kernel
theorem dJ5_append_cf1ce_10 : decode cJ5_append_cf1ce 10 = .ok (.invokevirtual 32, 3) := by decide +kernel
theorem dJ5_append_cf1ce_13 : decode cJ5_append_cf1ce 13 = .ok (.istore_n 2, 1) := by decide +kernel
theorem dJ5_append_cf1ce_14 : decode cJ5_append_cf1ce 14 = .ok (.aload_n 0, 1) := by decide +kernel
theorem dJ5_append_cf1ce_15 : decode cJ5_append_cf1ce 15 = .ok (.aload_n 0, 1) := by decide +kernel
theorem dJ5_append_cf1ce_16 : decode cJ5_append_cf1ce 16 = .ok (.getfield 79, 3) := by decide +kernel
theorem dJ5_append_cf1ce_19 : decode cJ5_append_cf1ce 19 = .ok (.iload_n 2, 1) := by decide +kernel
theorem dJ5_append_cf1ce_20 : decode cJ5_append_cf1ce 20 = .ok (.iadd, 1) := by decide +kernel
theorem dJ5_append_cf1ce_21 : decode cJ5_append_cf1ce 21 = .ok (.invokevirtual 100, 3) := by decide +kernel
theorem dJ5_append_cf1ce_24 : decode cJ5_append_cf1ce 24 = .ok (.aload_n 0, 1) := by decide +kernel
theorem dJ5_append_cf1ce_25 : decode cJ5_append_cf1ce 25 = .ok (.aload_n 0, 1) := by decide +kernel
theorem dJ5_append_cf1ce_26 : decode cJ5_append_cf1ce 26 = .ok (.getfield 79, 3) := by decide +kernel
theorem dJ5_append_cf1ce_29 : decode cJ5_append_cf1ce 29 = .ok (.aload_n 1, 1) := by decide +kernel
theorem dJ5_append_cf1ce_30 : decode cJ5_append_cf1ce 30 = .ok (.invokevirtual 208, 3) := by decide +kernel
theorem dJ5_append_cf1ce_33 : decode cJ5_append_cf1ce 33 = .ok (.aload_n 0, 1) := by decide +kernel
theorem dJ5_append_cf1ce_34 : decode cJ5_append_cf1ce 34 = .ok (.dup, 1) := by decide +kernel
theorem dJ5_append_cf1ce_35 : decode cJ5_append_cf1ce 35 = .ok (.getfield 79, 3) := by decide +kernel
theorem dJ5_append_cf1ce_38 : decode cJ5_append_cf1ce 38 = .ok (.iload_n 2, 1) := by decide +kernel
theorem dJ5_append_cf1ce_39 : decode cJ5_append_cf1ce 39 = .ok (.iadd, 1) := by decide +kernel
theorem dJ5_append_cf1ce_40 : decode cJ5_append_cf1ce 40 = .ok (.putfield 79, 3) := by decide +kernel
theorem dJ5_append_cf1ce_43 : decode cJ5_append_cf1ce 43 = .ok (.aload_n 0, 1) := by decide +kernel
theorem dJ5_append_cf1ce_44 : decode cJ5_append_cf1ce 44 = .ok (.areturn, 1) := by decide +kernel
theorem dJ5_append_3fe6f_0 : decode cJ5_append_3fe6f 0 = .ok (.aload_n 0, 1) := by decide +kernel
theorem dJ5_append_3fe6f_1 : decode cJ5_append_3fe6f 1 = .ok (.aload_n 0, 1) := by decide +kernel
theorem dJ5_append_3fe6f_2 : decode cJ5_append_3fe6f 2 = .ok (.getfield 79, 3) := by decide +kernel
theorem dJ5_append_3fe6f_5 : decode cJ5_append_3fe6f 5 = .ok (.iconst 1, 1) := by decide +kernel
theorem dJ5_append_3fe6f_6 : decode cJ5_append_3fe6f 6 = .ok (.iadd, 1) := by decide +kernel
theorem dJ5_append_3fe6f_7 : decode cJ5_append_3fe6f 7 = .ok (.invokevirtual 100, 3) := by decide +kernel
theorem dJ5_append_3fe6f_10 : decode cJ5_append_3fe6f 10 = .ok (.aload_n 0, 1) := by decide +kernel
theorem dJ5_append_3fe6f_11 : decode cJ5_append_3fe6f 11 = .ok (.invokevirtual 83, 3) := by decide +kernel
theorem dJ5_append_3fe6f_14 : decode cJ5_append_3fe6f 14 = .ok (.ifCond .eq 31, 3) := by decide +kernel
theorem dJ5_append_3fe6f_17 : decode cJ5_append_3fe6f 17 = .ok (.iload_n 1, 1) := by decide +kernel
theorem dJ5_append_3fe6f_18 : decode cJ5_append_3fe6f 18 = .ok (.invokestatic 191, 3) := by decide +kernel
