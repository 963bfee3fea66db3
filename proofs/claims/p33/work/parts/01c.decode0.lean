theorem dX0_init_0 : decode cX0_init 0 = .ok (.aload_n 0, 1) := by decide +kernel
theorem dX0_init_1 : decode cX0_init 1 = .ok (.invokespecial 3, 3) := by decide +kernel
theorem dX0_init_4 : decode cX0_init 4 = .ok (.aload_n 0, 1) := by decide +kernel
theorem dX0_init_5 : decode cX0_init 5 = .ok (.iload_n 1, 1) := by decide +kernel
theorem dX0_init_6 : decode cX0_init 6 = .ok (.putfield 9, 3) := by decide +kernel
theorem dX0_init_9 : decode cX0_init 9 = .ok (.aload_n 0, 1) := by decide +kernel
theorem dX0_init_10 : decode cX0_init 10 = .ok (.iload_n 2, 1) := by decide +kernel
theorem dX0_init_11 : decode cX0_init 11 = .ok (.putfield 15, 3) := by decide +kernel
theorem dX0_init_14 : decode cX0_init 14 = .ok (.aload_n 0, 1) := by decide +kernel
theorem dX0_init_15 : decode cX0_init 15 = .ok (.iload_n 2, 1) := by decide +kernel
theorem dX0_init_16 : decode cX0_init 16 = .ok (.newarray .int, 2) := by decide +kernel
theorem dX0_init_18 : decode cX0_init 18 = .ok (.putfield 18, 3) := by decide +kernel
theorem dX0_init_21 : decode cX0_init 21 = .ok (.aload_n 0, 1) := by decide +kernel
theorem dX0_init_22 : decode cX0_init 22 = .ok (.iload_n 2, 1) := by decide +kernel
theorem dX0_init_23 : decode cX0_init 23 = .ok (.newarray .int, 2) := by decide +kernel
theorem dX0_init_25 : decode cX0_init 25 = .ok (.putfield 22, 3) := by decide +kernel
theorem dX0_init_28 : decode cX0_init 28 = .ok (.aload_n 0, 1) := by decide +kernel
theorem dX0_init_29 : decode cX0_init 29 = .ok (.iload_n 2, 1) := by decide +kernel
theorem dX0_init_30 : decode cX0_init 30 = .ok (.anewarray 10, 3) := by decide +kernel
theorem dX0_init_33 : decode cX0_init 33 = .ok (.putfield 25, 3) := by decide +kernel
theorem dX0_init_36 : decode cX0_init 36 = .ok (.iconst 0, 1) := by decide +kernel
theorem dX0_init_37 : decode cX0_init 37 = .ok (.istore_n 3, 1) := by decide +kernel
theorem dX0_init_38 : decode cX0_init 38 = .ok (.iload_n 3, 1) := by decide +kernel
theorem dX0_init_39 : decode cX0_init 39 = .ok (.iload_n 2, 1) := by decide +kernel
theorem dX0_init_40 : decode cX0_init 40 = .ok (.if_icmp .ge 41, 3) := by decide +kernel
theorem dX0_init_43 : decode cX0_init 43 = .ok (.aload_n 0, 1) := by decide +kernel
theorem dX0_init_44 : decode cX0_init 44 = .ok (.getfield 18, 3) := by decide +kernel
theorem dX0_init_47 : decode cX0_init 47 = .ok (.iload_n 3, 1) := by decide +kernel
theorem dX0_init_48 : decode cX0_init 48 = .ok (.iload_n 1, 1) := by decide +kernel
theorem dX0_init_49 : decode cX0_init 49 = .ok (.iconst 4, 1) := by decide +kernel
theorem dX0_init_50 : decode cX0_init 50 = .ok (.if_icmp .ne 7, 3) := by decide +kernel
theorem dX0_init_53 : decode cX0_init 53 = .ok (.iconst 0, 1) := by decide +kernel
theorem dX0_init_54 : decode cX0_init 54 = .ok (.goto 4, 3) := by decide +kernel
theorem dX0_init_58 : decode cX0_init 58 = .ok (.iastore, 1) := by decide +kernel
theorem dX0_init_59 : decode cX0_init 59 = .ok (.aload_n 0, 1) := by decide +kernel
theorem dX0_init_60 : decode cX0_init 60 = .ok (.getfield 22, 3) := by decide +kernel
theorem dX0_init_63 : decode cX0_init 63 = .ok (.iload_n 3, 1) := by decide +kernel
theorem dX0_init_64 : decode cX0_init 64 = .ok (.iload_n 1, 1) := by decide +kernel
theorem dX0_init_65 : decode cX0_init 65 = .ok (.iconst 4, 1) := by decide +kernel
theorem dX0_init_66 : decode cX0_init 66 = .ok (.if_icmp .ne 7, 3) := by decide +kernel
theorem dX0_init_69 : decode cX0_init 69 = .ok (.iconst (-1), 1) := by decide +kernel
theorem dX0_init_70 : decode cX0_init 70 = .ok (.goto 4, 3) := by decide +kernel
theorem dX0_init_74 : decode cX0_init 74 = .ok (.iastore, 1) := by decide +kernel
theorem dX0_init_75 : decode cX0_init 75 = .ok (.iinc 3 1, 3) := by decide +kernel
theorem dX0_init_78 : decode cX0_init 78 = .ok (.goto (-40), 3) := by decide +kernel
theorem dX0_init_81 : decode cX0_init 81 = .ok (.return_, 1) := by decide +kernel
theorem dX0_change_0 : decode cX0_change 0 = .ok (.aload_n 0, 1) := by decide +kernel
theorem dX0_change_1 : decode cX0_change 1 = .ok (.getfield 18, 3) := by decide +kernel
theorem dX0_change_4 : decode cX0_change 4 = .ok (.iload_n 1, 1) := by decide +kernel
theorem dX0_change_5 : decode cX0_change 5 = .ok (.iload_n 2, 1) := by decide +kernel
theorem dX0_change_6 : decode cX0_change 6 = .ok (.iastore, 1) := by decide +kernel
theorem dX0_change_7 : decode cX0_change 7 = .ok (.aload_n 0, 1) := by decide +kernel
theorem dX0_change_8 : decode cX0_change 8 = .ok (.getfield 22, 3) := by decide +kernel
theorem dX0_change_11 : decode cX0_change 11 = .ok (.iload_n 1, 1) := by decide +kernel
theorem dX0_change_12 : decode cX0_change 12 = .ok (.iload_n 3, 1) := by decide +kernel
theorem dX0_change_13 : decode cX0_change 13 = .ok (.iastore, 1) := by decide +kernel
theorem dX0_change_14 : decode cX0_change 14 = .ok (.aload_n 0, 1) := by decide +kernel
theorem dX0_change_15 : decode cX0_change 15 = .ok (.getfield 25, 3) := by decide +kernel
theorem dX0_change_18 : decode cX0_change 18 = .ok (.iload_n 1, 1) := by decide +kernel
theorem dX0_change_19 : decode cX0_change 19 = .ok (.aload 4, 2) := by decide +kernel
theorem dX0_change_21 : decode cX0_change 21 = .ok (.aastore, 1) := by decide +kernel
theorem dX0_change_22 : decode cX0_change 22 = .ok (.return_, 1) := by decide +kernel
theorem dX0_putRow_0 : decode cX0_putRow 0 = .ok (.aload_n 0, 1) := by decide +kernel
theorem dX0_putRow_1 : decode cX0_putRow 1 = .ok (.iload_n 1, 1) := by decide +kernel
theorem dX0_putRow_2 : decode cX0_putRow 2 = .ok (.iconst 3, 1) := by decide +kernel
theorem dX0_putRow_3 : decode cX0_putRow 3 = .ok (.iconst (-1), 1) := by decide +kernel
theorem dX0_putRow_4 : decode cX0_putRow 4 = .ok (.aload_n 2, 1) := by decide +kernel
theorem dX0_putRow_5 : decode cX0_putRow 5 = .ok (.invokevirtual 33, 3) := by decide +kernel
theorem dX0_putRow_8 : decode cX0_putRow 8 = .ok (.return_, 1) := by decide +kernel
theorem dX1_init_0 : decode cX1_init 0 = .ok (.aload_n 0, 1) := by decide +kernel
theorem dX1_init_1 : decode cX1_init 1 = .ok (.invokespecial 3, 3) := by decide +kernel
theorem dX1_init_4 : decode cX1_init 4 = .ok (.aload_n 0, 1) := by decide +kernel
theorem dX1_init_5 : decode cX1_init 5 = .ok (.new 9, 3) := by decide +kernel
theorem dX1_init_8 : decode cX1_init 8 = .ok (.dup, 1) := by decide +kernel
theorem dX1_init_9 : decode cX1_init 9 = .ok (.invokespecial 11, 3) := by decide +kernel
theorem dX1_init_12 : decode cX1_init 12 = .ok (.putfield 12, 3) := by decide +kernel
theorem dX1_init_15 : decode cX1_init 15 = .ok (.aload_n 0, 1) := by decide +kernel
theorem dX1_init_16 : decode cX1_init 16 = .ok (.iconst 0, 1) := by decide +kernel
theorem dX1_init_17 : decode cX1_init 17 = .ok (.putfield 16, 3) := by decide +kernel
theorem dX1_init_20 : decode cX1_init 20 = .ok (.aload_n 0, 1) := by decide +kernel
theorem dX1_init_21 : decode cX1_init 21 = .ok (.iconst 0, 1) := by decide +kernel
theorem dX1_init_22 : decode cX1_init 22 = .ok (.putfield 20, 3) := by decide +kernel
theorem dX1_init_25 : decode cX1_init 25 = .ok (.aload_n 0, 1) := by decide +kernel
theorem dX1_init_26 : decode cX1_init 26 = .ok (.iconst 0, 1) := by decide +kernel
theorem dX1_init_27 : decode cX1_init 27 = .ok (.putfield 23, 3) := by decide +kernel
theorem dX1_init_30 : decode cX1_init 30 = .ok (.aload_n 0, 1) := by decide +kernel
theorem dX1_init_31 : decode cX1_init 31 = .ok (.new 26, 3) := by decide +kernel
theorem dX1_init_34 : decode cX1_init 34 = .ok (.dup, 1) := by decide +kernel
theorem dX1_init_35 : decode cX1_init 35 = .ok (.iconst 4, 1) := by decide +kernel
theorem dX1_init_36 : decode cX1_init 36 = .ok (.iconst 1, 1) := by decide +kernel
theorem dX1_init_37 : decode cX1_init 37 = .ok (.invokespecial 28, 3) := by decide +kernel
theorem dX1_init_40 : decode cX1_init 40 = .ok (.putfield 31, 3) := by decide +kernel
theorem dX1_init_43 : decode cX1_init 43 = .ok (.aload_n 0, 1) := by decide +kernel
theorem dX1_init_44 : decode cX1_init 44 = .ok (.new 26, 3) := by decide +kernel
theorem dX1_init_47 : decode cX1_init 47 = .ok (.dup, 1) := by decide +kernel
theorem dX1_init_48 : decode cX1_init 48 = .ok (.iconst 4, 1) := by decide +kernel
theorem dX1_init_49 : decode cX1_init 49 = .ok (.iconst 1, 1) := by decide +kernel
theorem dX1_init_50 : decode cX1_init 50 = .ok (.invokespecial 28, 3) := by decide +kernel
theorem dX1_init_53 : decode cX1_init 53 = .ok (.putfield 35, 3) := by decide +kernel
theorem dX1_init_56 : decode cX1_init 56 = .ok (.aload_n 0, 1) := by decide +kernel
theorem dX1_init_57 : decode cX1_init 57 = .ok (.new 38, 3) := by decide +kernel
theorem dX1_init_60 : decode cX1_init 60 = .ok (.dup, 1) := by decide +kernel
theorem dX1_init_61 : decode cX1_init 61 = .ok (.invokespecial 40, 3) := by decide +kernel
theorem dX1_init_64 : decode cX1_init 64 = .ok (.putfield 41, 3) := by decide +kernel
theorem dX1_init_67 : decode cX1_init 67 = .ok (.aload_n 0, 1) := by decide +kernel
theorem dX1_init_68 : decode cX1_init 68 = .ok (.new 38, 3) := by decide +kernel
theorem dX1_init_71 : decode cX1_init 71 = .ok (.dup, 1) := by decide +kernel
theorem dX1_init_72 : decode cX1_init 72 = .ok (.invokespecial 40, 3) := by decide +kernel
theorem dX1_init_75 : decode cX1_init 75 = .ok (.putfield 45, 3) := by decide +kernel
theorem dX1_init_78 : decode cX1_init 78 = .ok (.return_, 1) := by decide +kernel
theorem dX1_make_0 : decode cX1_make 0 = .ok (.iload_n 1, 1) := by decide +kernel
theorem dX1_make_1 : decode cX1_make 1 = .ok (.ifCond .lt 8, 3) := by decide +kernel
theorem dX1_make_4 : decode cX1_make 4 = .ok (.iload_n 1, 1) := by decide +kernel
theorem dX1_make_5 : decode cX1_make 5 = .ok (.iconst 4, 1) := by decide +kernel
theorem dX1_make_6 : decode cX1_make 6 = .ok (.if_icmp .le 13, 3) := by decide +kernel
theorem dX1_make_19 : decode cX1_make 19 = .ok (.iload_n 2, 1) := by decide +kernel
theorem dX1_make_20 : decode cX1_make 20 = .ok (.invokestatic 55, 3) := by decide +kernel
theorem dX1_make_23 : decode cX1_make 23 = .ok (.aload_n 0, 1) := by decide +kernel
theorem dX1_make_24 : decode cX1_make 24 = .ok (.iconst 1, 1) := by decide +kernel
theorem dX1_make_25 : decode cX1_make 25 = .ok (.invokevirtual 59, 3) := by decide +kernel
theorem dX1_make_28 : decode cX1_make 28 = .ok (.aload_n 0, 1) := by decide +kernel
theorem dX1_make_29 : decode cX1_make 29 = .ok (.new 26, 3) := by decide +kernel
theorem dX1_make_32 : decode cX1_make 32 = .ok (.dup, 1) := by decide +kernel
theorem dX1_make_33 : decode cX1_make 33 = .ok (.iload_n 1, 1) := by decide +kernel
theorem dX1_make_34 : decode cX1_make 34 = .ok (.iload_n 2, 1) := by decide +kernel
theorem dX1_make_35 : decode cX1_make 35 = .ok (.invokespecial 28, 3) := by decide +kernel
theorem dX1_make_38 : decode cX1_make 38 = .ok (.invokevirtual 62, 3) := by decide +kernel
theorem dX1_make_41 : decode cX1_make 41 = .ok (.getfield 66, 3) := by decide +kernel
theorem dX1_make_44 : decode cX1_make 44 = .ok (.ireturn, 1) := by decide +kernel
theorem dX1_fillRow_0 : decode cX1_fillRow 0 = .ok (.aload_n 0, 1) := by decide +kernel
theorem dX1_fillRow_1 : decode cX1_fillRow 1 = .ok (.iload_n 1, 1) := by decide +kernel
theorem dX1_fillRow_2 : decode cX1_fillRow 2 = .ok (.invokevirtual 89, 3) := by decide +kernel
theorem dX1_fillRow_5 : decode cX1_fillRow 5 = .ok (.astore_n 3, 1) := by decide +kernel
theorem dX1_fillRow_6 : decode cX1_fillRow 6 = .ok (.aload_n 0, 1) := by decide +kernel
theorem dX1_fillRow_7 : decode cX1_fillRow 7 = .ok (.iload_n 2, 1) := by decide +kernel
theorem dX1_fillRow_8 : decode cX1_fillRow 8 = .ok (.invokevirtual 89, 3) := by decide +kernel
theorem dX1_fillRow_11 : decode cX1_fillRow 11 = .ok (.astore 4, 2) := by decide +kernel
theorem dX1_fillRow_13 : decode cX1_fillRow 13 = .ok (.aload_n 3, 1) := by decide +kernel
theorem dX1_fillRow_14 : decode cX1_fillRow 14 = .ok (.invokestatic 105, 3) := by decide +kernel
theorem dX1_fillRow_17 : decode cX1_fillRow 17 = .ok (.iload_n 2, 1) := by decide +kernel
theorem dX1_fillRow_18 : decode cX1_fillRow 18 = .ok (.iload_n 1, 1) := by decide +kernel
theorem dX1_fillRow_19 : decode cX1_fillRow 19 = .ok (.invokestatic 115, 3) := by decide +kernel
theorem dX1_fillRow_22 : decode cX1_fillRow 22 = .ok (.aload_n 3, 1) := by decide +kernel
theorem dX1_fillRow_23 : decode cX1_fillRow 23 = .ok (.getfield 158, 3) := by decide +kernel
theorem dX1_fillRow_26 : decode cX1_fillRow 26 = .ok (.ifCond .ne 7, 3) := by decide +kernel
theorem dX1_fillRow_33 : decode cX1_fillRow 33 = .ok (.iconst 1, 1) := by decide +kernel
theorem dX1_fillRow_34 : decode cX1_fillRow 34 = .ok (.aload 4, 2) := by decide +kernel
theorem dX1_fillRow_36 : decode cX1_fillRow 36 = .ok (.invokestatic 122, 3) := by decide +kernel
theorem dX1_fillRow_39 : decode cX1_fillRow 39 = .ok (.iadd, 1) := by decide +kernel
theorem dX1_fillRow_40 : decode cX1_fillRow 40 = .ok (.istore 5, 2) := by decide +kernel
theorem dX1_fillRow_42 : decode cX1_fillRow 42 = .ok (.aload_n 0, 1) := by decide +kernel
theorem dX1_fillRow_43 : decode cX1_fillRow 43 = .ok (.aload_n 3, 1) := by decide +kernel
theorem dX1_fillRow_44 : decode cX1_fillRow 44 = .ok (.iload 5, 2) := by decide +kernel
theorem dX1_fillRow_46 : decode cX1_fillRow 46 = .ok (.invokevirtual 132, 3) := by decide +kernel
theorem dX1_fillRow_49 : decode cX1_fillRow 49 = .ok (.iconst 0, 1) := by decide +kernel
theorem dX1_fillRow_50 : decode cX1_fillRow 50 = .ok (.istore 6, 2) := by decide +kernel
theorem dX1_fillRow_52 : decode cX1_fillRow 52 = .ok (.iload 6, 2) := by decide +kernel
theorem dX1_fillRow_54 : decode cX1_fillRow 54 = .ok (.aload_n 3, 1) := by decide +kernel
theorem dX1_fillRow_55 : decode cX1_fillRow 55 = .ok (.getfield 158, 3) := by decide +kernel
theorem dX1_fillRow_58 : decode cX1_fillRow 58 = .ok (.if_icmp .ge 17, 3) := by decide +kernel
theorem dX1_fillRow_61 : decode cX1_fillRow 61 = .ok (.aload_n 3, 1) := by decide +kernel
theorem dX1_fillRow_62 : decode cX1_fillRow 62 = .ok (.iload 6, 2) := by decide +kernel
theorem dX1_fillRow_64 : decode cX1_fillRow 64 = .ok (.aload 4, 2) := by decide +kernel
theorem dX1_fillRow_66 : decode cX1_fillRow 66 = .ok (.invokevirtual 135, 3) := by decide +kernel
theorem dX1_fillRow_69 : decode cX1_fillRow 69 = .ok (.iinc 6 1, 3) := by decide +kernel
theorem dX1_fillRow_72 : decode cX1_fillRow 72 = .ok (.goto (-20), 3) := by decide +kernel
theorem dX1_fillRow_75 : decode cX1_fillRow 75 = .ok (.iload 5, 2) := by decide +kernel
theorem dX1_fillRow_77 : decode cX1_fillRow 77 = .ok (.ireturn, 1) := by decide +kernel
theorem dX1_text_0 : decode cX1_text 0 = .ok (.aload_n 0, 1) := by decide +kernel
theorem dX1_text_1 : decode cX1_text 1 = .ok (.getfield 41, 3) := by decide +kernel
theorem dX1_text_4 : decode cX1_text 4 = .ok (.aload_n 0, 1) := by decide +kernel
theorem dX1_text_5 : decode cX1_text 5 = .ok (.iload_n 1, 1) := by decide +kernel
theorem dX1_text_6 : decode cX1_text 6 = .ok (.invokevirtual 89, 3) := by decide +kernel
theorem dX1_text_9 : decode cX1_text 9 = .ok (.invokestatic 208, 3) := by decide +kernel
theorem dX1_text_12 : decode cX1_text 12 = .ok (.aload_n 0, 1) := by decide +kernel
theorem dX1_text_13 : decode cX1_text 13 = .ok (.getfield 41, 3) := by decide +kernel
theorem dX1_text_16 : decode cX1_text 16 = .ok (.invokevirtual 212, 3) := by decide +kernel
theorem dX1_text_19 : decode cX1_text 19 = .ok (.areturn, 1) := by decide +kernel
theorem dX1_rowOf_0 : decode cX1_rowOf 0 = .ok (.iload_n 1, 1) := by decide +kernel
theorem dX1_rowOf_1 : decode cX1_rowOf 1 = .ok (.ifCond .lt 14, 3) := by decide +kernel
theorem dX1_rowOf_4 : decode cX1_rowOf 4 = .ok (.iload_n 1, 1) := by decide +kernel
theorem dX1_rowOf_5 : decode cX1_rowOf 5 = .ok (.aload_n 0, 1) := by decide +kernel
theorem dX1_rowOf_6 : decode cX1_rowOf 6 = .ok (.getfield 12, 3) := by decide +kernel
theorem dX1_rowOf_9 : decode cX1_rowOf 9 = .ok (.invokevirtual 78, 3) := by decide +kernel
theorem dX1_rowOf_12 : decode cX1_rowOf 12 = .ok (.if_icmp .lt 14, 3) := by decide +kernel
theorem dX1_rowOf_26 : decode cX1_rowOf 26 = .ok (.aload_n 0, 1) := by decide +kernel
theorem dX1_rowOf_27 : decode cX1_rowOf 27 = .ok (.getfield 12, 3) := by decide +kernel
theorem dX1_rowOf_30 : decode cX1_rowOf 30 = .ok (.iload_n 1, 1) := by decide +kernel
theorem dX1_rowOf_31 : decode cX1_rowOf 31 = .ok (.invokevirtual 233, 3) := by decide +kernel
theorem dX1_rowOf_34 : decode cX1_rowOf 34 = .ok (.checkcast 26, 3) := by decide +kernel
theorem dX1_rowOf_37 : decode cX1_rowOf 37 = .ok (.areturn, 1) := by decide +kernel
theorem dX1_requireLength_0 : decode cX1_requireLength 0 = .ok (.iload_n 0, 1) := by decide +kernel
theorem dX1_requireLength_1 : decode cX1_requireLength 1 = .ok (.ifCond .lt 8, 3) := by decide +kernel
theorem dX1_requireLength_4 : decode cX1_requireLength 4 = .ok (.iload_n 0, 1) := by decide +kernel
theorem dX1_requireLength_5 : decode cX1_requireLength 5 = .ok (.iconst 4, 1) := by decide +kernel
theorem dX1_requireLength_6 : decode cX1_requireLength 6 = .ok (.if_icmp .le 14, 3) := by decide +kernel
theorem dX1_requireLength_20 : decode cX1_requireLength 20 = .ok (.return_, 1) := by decide +kernel
theorem dX1_requireThings_0 : decode cX1_requireThings 0 = .ok (.aload_n 0, 1) := by decide +kernel
theorem dX1_requireThings_1 : decode cX1_requireThings 1 = .ok (.getfield 161, 3) := by decide +kernel
theorem dX1_requireThings_4 : decode cX1_requireThings 4 = .ok (.iconst 4, 1) := by decide +kernel
theorem dX1_requireThings_5 : decode cX1_requireThings 5 = .ok (.if_icmp .eq 14, 3) := by decide +kernel
theorem dX1_requireThings_19 : decode cX1_requireThings 19 = .ok (.return_, 1) := by decide +kernel
theorem dX1_requireLess_0 : decode cX1_requireLess 0 = .ok (.iload_n 0, 1) := by decide +kernel
theorem dX1_requireLess_1 : decode cX1_requireLess 1 = .ok (.iload_n 1, 1) := by decide +kernel
theorem dX1_requireLess_2 : decode cX1_requireLess 2 = .ok (.if_icmp .lt 14, 3) := by decide +kernel
theorem dX1_requireLess_16 : decode cX1_requireLess 16 = .ok (.return_, 1) := by decide +kernel
theorem dX1_requireRoom_0 : decode cX1_requireRoom 0 = .ok (.aload_n 0, 1) := by decide +kernel
theorem dX1_requireRoom_1 : decode cX1_requireRoom 1 = .ok (.getfield 12, 3) := by decide +kernel
theorem dX1_requireRoom_4 : decode cX1_requireRoom 4 = .ok (.invokevirtual 78, 3) := by decide +kernel
theorem dX1_requireRoom_7 : decode cX1_requireRoom 7 = .ok (.iload_n 1, 1) := by decide +kernel
theorem dX1_requireRoom_8 : decode cX1_requireRoom 8 = .ok (.iadd, 1) := by decide +kernel
theorem dX1_requireRoom_9 : decode cX1_requireRoom 9 = .ok (.bipush 12, 2) := by decide +kernel
theorem dX1_requireRoom_11 : decode cX1_requireRoom 11 = .ok (.if_icmp .le 14, 3) := by decide +kernel
theorem dX1_requireRoom_25 : decode cX1_requireRoom 25 = .ok (.return_, 1) := by decide +kernel
theorem dX1_requireDepths_0 : decode cX1_requireDepths 0 = .ok (.iconst 0, 1) := by decide +kernel
theorem dX1_requireDepths_1 : decode cX1_requireDepths 1 = .ok (.istore_n 3, 1) := by decide +kernel
theorem dX1_requireDepths_2 : decode cX1_requireDepths 2 = .ok (.iload_n 3, 1) := by decide +kernel
theorem dX1_requireDepths_3 : decode cX1_requireDepths 3 = .ok (.aload_n 0, 1) := by decide +kernel
theorem dX1_requireDepths_4 : decode cX1_requireDepths 4 = .ok (.getfield 12, 3) := by decide +kernel
theorem dX1_requireDepths_7 : decode cX1_requireDepths 7 = .ok (.invokevirtual 78, 3) := by decide +kernel
theorem dX1_requireDepths_10 : decode cX1_requireDepths 10 = .ok (.if_icmp .ge 41, 3) := by decide +kernel
theorem dX1_requireDepths_13 : decode cX1_requireDepths 13 = .ok (.aload_n 0, 1) := by decide +kernel
theorem dX1_requireDepths_14 : decode cX1_requireDepths 14 = .ok (.getfield 12, 3) := by decide +kernel
theorem dX1_requireDepths_17 : decode cX1_requireDepths 17 = .ok (.iload_n 3, 1) := by decide +kernel
theorem dX1_requireDepths_18 : decode cX1_requireDepths 18 = .ok (.invokevirtual 233, 3) := by decide +kernel
theorem dX1_requireDepths_21 : decode cX1_requireDepths 21 = .ok (.checkcast 26, 3) := by decide +kernel
theorem dX1_requireDepths_24 : decode cX1_requireDepths 24 = .ok (.aload_n 1, 1) := by decide +kernel
theorem dX1_requireDepths_25 : decode cX1_requireDepths 25 = .ok (.iload_n 2, 1) := by decide +kernel
theorem dX1_requireDepths_26 : decode cX1_requireDepths 26 = .ok (.iconst 4, 1) := by decide +kernel
theorem dX1_requireDepths_27 : decode cX1_requireDepths 27 = .ok (.invokestatic 280, 3) := by decide +kernel
theorem dX1_requireDepths_30 : decode cX1_requireDepths 30 = .ok (.iconst 4, 1) := by decide +kernel
theorem dX1_requireDepths_31 : decode cX1_requireDepths 31 = .ok (.if_icmp .le 14, 3) := by decide +kernel
theorem dX1_requireDepths_45 : decode cX1_requireDepths 45 = .ok (.iinc 3 1, 3) := by decide +kernel
theorem dX1_requireDepths_48 : decode cX1_requireDepths 48 = .ok (.goto (-46), 3) := by decide +kernel
theorem dX1_requireDepths_51 : decode cX1_requireDepths 51 = .ok (.return_, 1) := by decide +kernel
theorem dX1_addRow_0 : decode cX1_addRow 0 = .ok (.aload_n 1, 1) := by decide +kernel
theorem dX1_addRow_1 : decode cX1_addRow 1 = .ok (.aload_n 0, 1) := by decide +kernel
theorem dX1_addRow_2 : decode cX1_addRow 2 = .ok (.getfield 12, 3) := by decide +kernel
theorem dX1_addRow_5 : decode cX1_addRow 5 = .ok (.invokevirtual 78, 3) := by decide +kernel
theorem dX1_addRow_8 : decode cX1_addRow 8 = .ok (.putfield 66, 3) := by decide +kernel
theorem dX1_addRow_11 : decode cX1_addRow 11 = .ok (.aload_n 0, 1) := by decide +kernel
theorem dX1_addRow_12 : decode cX1_addRow 12 = .ok (.getfield 12, 3) := by decide +kernel
theorem dX1_addRow_15 : decode cX1_addRow 15 = .ok (.aload_n 1, 1) := by decide +kernel
theorem dX1_addRow_16 : decode cX1_addRow 16 = .ok (.invokevirtual 286, 3) := by decide +kernel
theorem dX1_addRow_19 : decode cX1_addRow 19 = .ok (.pop, 1) := by decide +kernel
theorem dX1_addRow_20 : decode cX1_addRow 20 = .ok (.aload_n 1, 1) := by decide +kernel
theorem dX1_addRow_21 : decode cX1_addRow 21 = .ok (.areturn, 1) := by decide +kernel
theorem dX1_depthOf_0 : decode cX1_depthOf 0 = .ok (.aload_n 0, 1) := by decide +kernel
theorem dX1_depthOf_1 : decode cX1_depthOf 1 = .ok (.aconst_null, 1) := by decide +kernel
theorem dX1_depthOf_2 : decode cX1_depthOf 2 = .ok (.iconst 0, 1) := by decide +kernel
theorem dX1_depthOf_3 : decode cX1_depthOf 3 = .ok (.iconst 4, 1) := by decide +kernel
theorem dX1_depthOf_4 : decode cX1_depthOf 4 = .ok (.invokestatic 280, 3) := by decide +kernel
theorem dX1_depthOf_7 : decode cX1_depthOf 7 = .ok (.ireturn, 1) := by decide +kernel
theorem dX1_depthIf_0 : decode cX1_depthIf 0 = .ok (.aload_n 0, 1) := by decide +kernel
theorem dX1_depthIf_1 : decode cX1_depthIf 1 = .ok (.aload_n 1, 1) := by decide +kernel
theorem dX1_depthIf_2 : decode cX1_depthIf 2 = .ok (.if_acmp .ne 5, 3) := by decide +kernel
theorem dX1_depthIf_5 : decode cX1_depthIf 5 = .ok (.iload_n 2, 1) := by decide +kernel
theorem dX1_depthIf_6 : decode cX1_depthIf 6 = .ok (.ireturn, 1) := by decide +kernel
theorem dX1_depthIf_7 : decode cX1_depthIf 7 = .ok (.iconst 1, 1) := by decide +kernel
theorem dX1_depthIf_8 : decode cX1_depthIf 8 = .ok (.istore 4, 2) := by decide +kernel
theorem dX1_depthIf_10 : decode cX1_depthIf 10 = .ok (.iconst 0, 1) := by decide +kernel
theorem dX1_depthIf_11 : decode cX1_depthIf 11 = .ok (.istore 5, 2) := by decide +kernel
theorem dX1_depthIf_13 : decode cX1_depthIf 13 = .ok (.iload_n 3, 1) := by decide +kernel
theorem dX1_depthIf_14 : decode cX1_depthIf 14 = .ok (.iconst 1, 1) := by decide +kernel
theorem dX1_depthIf_15 : decode cX1_depthIf 15 = .ok (.if_icmp .le 51, 3) := by decide +kernel
theorem dX1_depthIf_18 : decode cX1_depthIf 18 = .ok (.iload 5, 2) := by decide +kernel
theorem dX1_depthIf_20 : decode cX1_depthIf 20 = .ok (.aload_n 0, 1) := by decide +kernel
theorem dX1_depthIf_21 : decode cX1_depthIf 21 = .ok (.getfield 158, 3) := by decide +kernel
theorem dX1_depthIf_24 : decode cX1_depthIf 24 = .ok (.if_icmp .ge 42, 3) := by decide +kernel
theorem dX1_depthIf_27 : decode cX1_depthIf 27 = .ok (.aload_n 0, 1) := by decide +kernel
theorem dX1_depthIf_28 : decode cX1_depthIf 28 = .ok (.getfield 146, 3) := by decide +kernel
theorem dX1_depthIf_31 : decode cX1_depthIf 31 = .ok (.iload 5, 2) := by decide +kernel
theorem dX1_depthIf_33 : decode cX1_depthIf 33 = .ok (.aaload, 1) := by decide +kernel
theorem dX1_depthIf_34 : decode cX1_depthIf 34 = .ok (.astore 6, 2) := by decide +kernel
theorem dX1_depthIf_36 : decode cX1_depthIf 36 = .ok (.aload 6, 2) := by decide +kernel
theorem dX1_depthIf_38 : decode cX1_depthIf 38 = .ok (.ifnull 22, 3) := by decide +kernel
theorem dX1_depthIf_41 : decode cX1_depthIf 41 = .ok (.iload 4, 2) := by decide +kernel
theorem dX1_depthIf_43 : decode cX1_depthIf 43 = .ok (.iconst 1, 1) := by decide +kernel
theorem dX1_depthIf_44 : decode cX1_depthIf 44 = .ok (.aload 6, 2) := by decide +kernel
theorem dX1_depthIf_46 : decode cX1_depthIf 46 = .ok (.aload_n 1, 1) := by decide +kernel
theorem dX1_depthIf_47 : decode cX1_depthIf 47 = .ok (.iload_n 2, 1) := by decide +kernel
theorem dX1_depthIf_48 : decode cX1_depthIf 48 = .ok (.iload_n 3, 1) := by decide +kernel
theorem dX1_depthIf_49 : decode cX1_depthIf 49 = .ok (.iconst 1, 1) := by decide +kernel
theorem dX1_depthIf_50 : decode cX1_depthIf 50 = .ok (.isub, 1) := by decide +kernel
theorem dX1_depthIf_51 : decode cX1_depthIf 51 = .ok (.invokestatic 280, 3) := by decide +kernel
theorem dX1_depthIf_54 : decode cX1_depthIf 54 = .ok (.iadd, 1) := by decide +kernel
theorem dX1_depthIf_55 : decode cX1_depthIf 55 = .ok (.invokestatic 126, 3) := by decide +kernel
theorem dX1_depthIf_58 : decode cX1_depthIf 58 = .ok (.istore 4, 2) := by decide +kernel
theorem dX1_depthIf_60 : decode cX1_depthIf 60 = .ok (.iinc 5 1, 3) := by decide +kernel
theorem dX1_depthIf_63 : decode cX1_depthIf 63 = .ok (.goto (-50), 3) := by decide +kernel
theorem dX1_depthIf_66 : decode cX1_depthIf 66 = .ok (.iload 4, 2) := by decide +kernel
theorem dX1_depthIf_68 : decode cX1_depthIf 68 = .ok (.ireturn, 1) := by decide +kernel
theorem dX1_writeAnew_0 : decode cX1_writeAnew 0 = .ok (.aload_n 0, 1) := by decide +kernel
theorem dX1_writeAnew_1 : decode cX1_writeAnew 1 = .ok (.iconst 0, 1) := by decide +kernel
theorem dX1_writeAnew_2 : decode cX1_writeAnew 2 = .ok (.invokevirtual 342, 3) := by decide +kernel
theorem dX1_writeAnew_5 : decode cX1_writeAnew 5 = .ok (.aload_n 0, 1) := by decide +kernel
theorem dX1_writeAnew_6 : decode cX1_writeAnew 6 = .ok (.aload_n 1, 1) := by decide +kernel
theorem dX1_writeAnew_7 : decode cX1_writeAnew 7 = .ok (.iconst 5, 1) := by decide +kernel
theorem dX1_writeAnew_8 : decode cX1_writeAnew 8 = .ok (.invokestatic 345, 3) := by decide +kernel
theorem dX1_writeAnew_11 : decode cX1_writeAnew 11 = .ok (.return_, 1) := by decide +kernel
theorem dX1_writeRow_0 : decode cX1_writeRow 0 = .ok (.aload_n 0, 1) := by decide +kernel
theorem dX1_writeRow_1 : decode cX1_writeRow 1 = .ok (.bipush 91, 2) := by decide +kernel
theorem dX1_writeRow_3 : decode cX1_writeRow 3 = .ok (.invokevirtual 349, 3) := by decide +kernel
theorem dX1_writeRow_6 : decode cX1_writeRow 6 = .ok (.pop, 1) := by decide +kernel
theorem dX1_writeRow_7 : decode cX1_writeRow 7 = .ok (.iconst 0, 1) := by decide +kernel
theorem dX1_writeRow_8 : decode cX1_writeRow 8 = .ok (.istore_n 3, 1) := by decide +kernel
theorem dX1_writeRow_9 : decode cX1_writeRow 9 = .ok (.iload_n 2, 1) := by decide +kernel
theorem dX1_writeRow_10 : decode cX1_writeRow 10 = .ok (.ifCond .le 35, 3) := by decide +kernel
theorem dX1_writeRow_13 : decode cX1_writeRow 13 = .ok (.iload_n 3, 1) := by decide +kernel
theorem dX1_writeRow_14 : decode cX1_writeRow 14 = .ok (.aload_n 1, 1) := by decide +kernel
theorem dX1_writeRow_15 : decode cX1_writeRow 15 = .ok (.getfield 158, 3) := by decide +kernel
theorem dX1_writeRow_18 : decode cX1_writeRow 18 = .ok (.if_icmp .ge 27, 3) := by decide +kernel
theorem dX1_writeRow_21 : decode cX1_writeRow 21 = .ok (.iload_n 3, 1) := by decide +kernel
theorem dX1_writeRow_22 : decode cX1_writeRow 22 = .ok (.ifCond .le 10, 3) := by decide +kernel
theorem dX1_writeRow_25 : decode cX1_writeRow 25 = .ok (.aload_n 0, 1) := by decide +kernel
theorem dX1_writeRow_26 : decode cX1_writeRow 26 = .ok (.ldc_w 353, 3) := by decide +kernel
theorem dX1_writeRow_29 : decode cX1_writeRow 29 = .ok (.invokestatic 355, 3) := by decide +kernel
theorem dX1_writeRow_32 : decode cX1_writeRow 32 = .ok (.aload_n 0, 1) := by decide +kernel
theorem dX1_writeRow_33 : decode cX1_writeRow 33 = .ok (.aload_n 1, 1) := by decide +kernel
theorem dX1_writeRow_34 : decode cX1_writeRow 34 = .ok (.iload_n 3, 1) := by decide +kernel
theorem dX1_writeRow_35 : decode cX1_writeRow 35 = .ok (.iload_n 2, 1) := by decide +kernel
theorem dX1_writeRow_36 : decode cX1_writeRow 36 = .ok (.invokestatic 359, 3) := by decide +kernel
theorem dX1_writeRow_39 : decode cX1_writeRow 39 = .ok (.iinc 3 1, 3) := by decide +kernel
theorem dX1_writeRow_42 : decode cX1_writeRow 42 = .ok (.goto (-33), 3) := by decide +kernel
theorem dX1_writeRow_45 : decode cX1_writeRow 45 = .ok (.aload_n 0, 1) := by decide +kernel
theorem dX1_writeRow_46 : decode cX1_writeRow 46 = .ok (.bipush 93, 2) := by decide +kernel
theorem dX1_writeRow_48 : decode cX1_writeRow 48 = .ok (.invokevirtual 349, 3) := by decide +kernel
theorem dX1_writeRow_51 : decode cX1_writeRow 51 = .ok (.pop, 1) := by decide +kernel
theorem dX1_writeRow_52 : decode cX1_writeRow 52 = .ok (.return_, 1) := by decide +kernel
theorem dX1_writePlace_0 : decode cX1_writePlace 0 = .ok (.aload_n 1, 1) := by decide +kernel
theorem dX1_writePlace_1 : decode cX1_writePlace 1 = .ok (.getfield 146, 3) := by decide +kernel
theorem dX1_writePlace_4 : decode cX1_writePlace 4 = .ok (.iload_n 2, 1) := by decide +kernel
theorem dX1_writePlace_5 : decode cX1_writePlace 5 = .ok (.aaload, 1) := by decide +kernel
theorem dX1_writePlace_6 : decode cX1_writePlace 6 = .ok (.astore 4, 2) := by decide +kernel
theorem dX1_writePlace_8 : decode cX1_writePlace 8 = .ok (.aload 4, 2) := by decide +kernel
theorem dX1_writePlace_10 : decode cX1_writePlace 10 = .ok (.ifnull 13, 3) := by decide +kernel
theorem dX1_writePlace_13 : decode cX1_writePlace 13 = .ok (.aload_n 0, 1) := by decide +kernel
theorem dX1_writePlace_14 : decode cX1_writePlace 14 = .ok (.aload 4, 2) := by decide +kernel
theorem dX1_writePlace_16 : decode cX1_writePlace 16 = .ok (.iload_n 3, 1) := by decide +kernel
theorem dX1_writePlace_17 : decode cX1_writePlace 17 = .ok (.iconst 1, 1) := by decide +kernel
theorem dX1_writePlace_18 : decode cX1_writePlace 18 = .ok (.isub, 1) := by decide +kernel
theorem dX1_writePlace_19 : decode cX1_writePlace 19 = .ok (.invokestatic 345, 3) := by decide +kernel
theorem dX1_writePlace_22 : decode cX1_writePlace 22 = .ok (.return_, 1) := by decide +kernel
theorem dX1_writePlace_23 : decode cX1_writePlace 23 = .ok (.aload_n 1, 1) := by decide +kernel
theorem dX1_writePlace_24 : decode cX1_writePlace 24 = .ok (.getfield 139, 3) := by decide +kernel
theorem dX1_writePlace_27 : decode cX1_writePlace 27 = .ok (.iload_n 2, 1) := by decide +kernel
theorem dX1_writePlace_28 : decode cX1_writePlace 28 = .ok (.iaload, 1) := by decide +kernel
theorem dX1_writePlace_29 : decode cX1_writePlace 29 = .ok (.lookupswitch 60 #[(1, 27), (2, 44)], 27) := by decide +kernel
theorem dX1_writePlace_89 : decode cX1_writePlace 89 = .ok (.aload_n 0, 1) := by decide +kernel
theorem dX1_writePlace_90 : decode cX1_writePlace 90 = .ok (.ldc_w 322, 3) := by decide +kernel
theorem dX1_writePlace_93 : decode cX1_writePlace 93 = .ok (.invokestatic 355, 3) := by decide +kernel
theorem dX1_writePlace_96 : decode cX1_writePlace 96 = .ok (.return_, 1) := by decide +kernel
theorem dX1_writeSigns_0 : decode cX1_writeSigns 0 = .ok (.iconst 0, 1) := by decide +kernel
theorem dX1_writeSigns_1 : decode cX1_writeSigns 1 = .ok (.istore_n 2, 1) := by decide +kernel
theorem dX1_writeSigns_2 : decode cX1_writeSigns 2 = .ok (.iload_n 2, 1) := by decide +kernel
theorem dX1_writeSigns_3 : decode cX1_writeSigns 3 = .ok (.aload_n 1, 1) := by decide +kernel
theorem dX1_writeSigns_4 : decode cX1_writeSigns 4 = .ok (.invokevirtual 314, 3) := by decide +kernel
theorem dX1_writeSigns_7 : decode cX1_writeSigns 7 = .ok (.if_icmp .ge 19, 3) := by decide +kernel
theorem dX1_writeSigns_10 : decode cX1_writeSigns 10 = .ok (.aload_n 0, 1) := by decide +kernel
theorem dX1_writeSigns_11 : decode cX1_writeSigns 11 = .ok (.aload_n 1, 1) := by decide +kernel
theorem dX1_writeSigns_12 : decode cX1_writeSigns 12 = .ok (.iload_n 2, 1) := by decide +kernel
theorem dX1_writeSigns_13 : decode cX1_writeSigns 13 = .ok (.invokevirtual 318, 3) := by decide +kernel
theorem dX1_writeSigns_16 : decode cX1_writeSigns 16 = .ok (.invokevirtual 349, 3) := by decide +kernel
theorem dX1_writeSigns_19 : decode cX1_writeSigns 19 = .ok (.pop, 1) := by decide +kernel
theorem dX1_writeSigns_20 : decode cX1_writeSigns 20 = .ok (.iinc 2 1, 3) := by decide +kernel
theorem dX1_writeSigns_23 : decode cX1_writeSigns 23 = .ok (.goto (-21), 3) := by decide +kernel
theorem dX1_writeSigns_26 : decode cX1_writeSigns 26 = .ok (.return_, 1) := by decide +kernel
theorem dX2_init_0 : decode cX2_init 0 = .ok (.aload_n 0, 1) := by decide +kernel
theorem dX2_init_1 : decode cX2_init 1 = .ok (.invokespecial 1, 3) := by decide +kernel
theorem dX2_init_4 : decode cX2_init 4 = .ok (.return_, 1) := by decide +kernel
theorem dX3_init_0 : decode cX3_init 0 = .ok (.aload_n 0, 1) := by decide +kernel
theorem dX3_init_1 : decode cX3_init 1 = .ok (.invokespecial 3, 3) := by decide +kernel
theorem dX3_init_4 : decode cX3_init 4 = .ok (.aload_n 0, 1) := by decide +kernel
theorem dX3_init_5 : decode cX3_init 5 = .ok (.iload_n 1, 1) := by decide +kernel
theorem dX3_init_6 : decode cX3_init 6 = .ok (.putfield 9, 3) := by decide +kernel
theorem dX3_init_9 : decode cX3_init 9 = .ok (.aload_n 0, 1) := by decide +kernel
theorem dX3_init_10 : decode cX3_init 10 = .ok (.iload_n 2, 1) := by decide +kernel
theorem dX3_init_11 : decode cX3_init 11 = .ok (.newarray .int, 2) := by decide +kernel
theorem dX3_init_13 : decode cX3_init 13 = .ok (.putfield 15, 3) := by decide +kernel
theorem dX3_init_16 : decode cX3_init 16 = .ok (.aload_n 0, 1) := by decide +kernel
theorem dX3_init_17 : decode cX3_init 17 = .ok (.iload_n 2, 1) := by decide +kernel
theorem dX3_init_18 : decode cX3_init 18 = .ok (.newarray .int, 2) := by decide +kernel
theorem dX3_init_20 : decode cX3_init 20 = .ok (.putfield 19, 3) := by decide +kernel
theorem dX3_init_23 : decode cX3_init 23 = .ok (.iconst 0, 1) := by decide +kernel
theorem dX3_init_24 : decode cX3_init 24 = .ok (.istore_n 3, 1) := by decide +kernel
theorem dX3_init_25 : decode cX3_init 25 = .ok (.iload_n 3, 1) := by decide +kernel
theorem dX3_init_26 : decode cX3_init 26 = .ok (.iload_n 2, 1) := by decide +kernel
theorem dX3_init_27 : decode cX3_init 27 = .ok (.if_icmp .ge 34, 3) := by decide +kernel
theorem dX3_init_30 : decode cX3_init 30 = .ok (.aload_n 0, 1) := by decide +kernel
theorem dX3_init_31 : decode cX3_init 31 = .ok (.iload_n 3, 1) := by decide +kernel
theorem dX3_init_32 : decode cX3_init 32 = .ok (.iload_n 1, 1) := by decide +kernel
theorem dX3_init_33 : decode cX3_init 33 = .ok (.iconst 4, 1) := by decide +kernel
theorem dX3_init_34 : decode cX3_init 34 = .ok (.if_icmp .ne 7, 3) := by decide +kernel
theorem dX3_init_37 : decode cX3_init 37 = .ok (.iconst 0, 1) := by decide +kernel
theorem dX3_init_38 : decode cX3_init 38 = .ok (.goto 4, 3) := by decide +kernel
theorem dX3_init_42 : decode cX3_init 42 = .ok (.iload_n 1, 1) := by decide +kernel
theorem dX3_init_43 : decode cX3_init 43 = .ok (.iconst 4, 1) := by decide +kernel
theorem dX3_init_44 : decode cX3_init 44 = .ok (.if_icmp .ne 7, 3) := by decide +kernel
theorem dX3_init_47 : decode cX3_init 47 = .ok (.iconst (-1), 1) := by decide +kernel
theorem dX3_init_48 : decode cX3_init 48 = .ok (.goto 4, 3) := by decide +kernel
theorem dX3_init_52 : decode cX3_init 52 = .ok (.invokevirtual 22, 3) := by decide +kernel
theorem dX3_init_55 : decode cX3_init 55 = .ok (.iinc 3 1, 3) := by decide +kernel
theorem dX3_init_58 : decode cX3_init 58 = .ok (.goto (-33), 3) := by decide +kernel
theorem dX3_init_61 : decode cX3_init 61 = .ok (.return_, 1) := by decide +kernel
theorem dX3_length_0 : decode cX3_length 0 = .ok (.aload_n 0, 1) := by decide +kernel
theorem dX3_length_1 : decode cX3_length 1 = .ok (.getfield 15, 3) := by decide +kernel
theorem dX3_length_4 : decode cX3_length 4 = .ok (.arraylength, 1) := by decide +kernel
theorem dX3_length_5 : decode cX3_length 5 = .ok (.ireturn, 1) := by decide +kernel
theorem dX3_put_0 : decode cX3_put 0 = .ok (.aload_n 0, 1) := by decide +kernel
theorem dX3_put_1 : decode cX3_put 1 = .ok (.getfield 15, 3) := by decide +kernel
theorem dX3_put_4 : decode cX3_put 4 = .ok (.iload_n 1, 1) := by decide +kernel
theorem dX3_put_5 : decode cX3_put 5 = .ok (.iload_n 2, 1) := by decide +kernel
theorem dX3_put_6 : decode cX3_put 6 = .ok (.iastore, 1) := by decide +kernel
theorem dX3_put_7 : decode cX3_put 7 = .ok (.aload_n 0, 1) := by decide +kernel
theorem dX3_put_8 : decode cX3_put 8 = .ok (.getfield 19, 3) := by decide +kernel
theorem dX3_put_11 : decode cX3_put 11 = .ok (.iload_n 1, 1) := by decide +kernel
theorem dX3_put_12 : decode cX3_put 12 = .ok (.iload_n 3, 1) := by decide +kernel
theorem dX3_put_13 : decode cX3_put 13 = .ok (.iastore, 1) := by decide +kernel
theorem dX3_put_14 : decode cX3_put 14 = .ok (.return_, 1) := by decide +kernel
theorem dX3_hangs_0 : decode cX3_hangs 0 = .ok (.aload_n 0, 1) := by decide +kernel
theorem dX3_hangs_1 : decode cX3_hangs 1 = .ok (.getfield 15, 3) := by decide +kernel
theorem dX3_hangs_4 : decode cX3_hangs 4 = .ok (.iload_n 1, 1) := by decide +kernel
theorem dX3_hangs_5 : decode cX3_hangs 5 = .ok (.iaload, 1) := by decide +kernel
theorem dX3_hangs_6 : decode cX3_hangs 6 = .ok (.iconst 3, 1) := by decide +kernel
theorem dX3_hangs_7 : decode cX3_hangs 7 = .ok (.if_icmp .ne 7, 3) := by decide +kernel
theorem dX3_hangs_10 : decode cX3_hangs 10 = .ok (.iconst 1, 1) := by decide +kernel
theorem dX3_hangs_11 : decode cX3_hangs 11 = .ok (.goto 4, 3) := by decide +kernel
theorem dX3_hangs_14 : decode cX3_hangs 14 = .ok (.iconst 0, 1) := by decide +kernel
theorem dX3_hangs_15 : decode cX3_hangs 15 = .ok (.ireturn, 1) := by decide +kernel
theorem dX3_twin_0 : decode cX3_twin 0 = .ok (.new 10, 3) := by decide +kernel
theorem dX3_twin_3 : decode cX3_twin 3 = .ok (.dup, 1) := by decide +kernel
theorem dX3_twin_4 : decode cX3_twin 4 = .ok (.aload_n 0, 1) := by decide +kernel
theorem dX3_twin_5 : decode cX3_twin 5 = .ok (.getfield 9, 3) := by decide +kernel
theorem dX3_twin_8 : decode cX3_twin 8 = .ok (.iload_n 1, 1) := by decide +kernel
theorem dX3_twin_9 : decode cX3_twin 9 = .ok (.invokespecial 36, 3) := by decide +kernel
theorem dX3_twin_12 : decode cX3_twin 12 = .ok (.astore_n 2, 1) := by decide +kernel
theorem dX3_twin_13 : decode cX3_twin 13 = .ok (.iconst 0, 1) := by decide +kernel
theorem dX3_twin_14 : decode cX3_twin 14 = .ok (.istore_n 3, 1) := by decide +kernel
theorem dX3_twin_15 : decode cX3_twin 15 = .ok (.iload_n 3, 1) := by decide +kernel
theorem dX3_twin_16 : decode cX3_twin 16 = .ok (.iload_n 1, 1) := by decide +kernel
theorem dX3_twin_17 : decode cX3_twin 17 = .ok (.if_icmp .ge 34, 3) := by decide +kernel
theorem dX3_twin_20 : decode cX3_twin 20 = .ok (.iload_n 3, 1) := by decide +kernel
theorem dX3_twin_21 : decode cX3_twin 21 = .ok (.aload_n 0, 1) := by decide +kernel
theorem dX3_twin_22 : decode cX3_twin 22 = .ok (.invokevirtual 39, 3) := by decide +kernel
theorem dX3_twin_25 : decode cX3_twin 25 = .ok (.if_icmp .ge 26, 3) := by decide +kernel
theorem dX3_twin_28 : decode cX3_twin 28 = .ok (.aload_n 2, 1) := by decide +kernel
theorem dX3_twin_29 : decode cX3_twin 29 = .ok (.iload_n 3, 1) := by decide +kernel
theorem dX3_twin_30 : decode cX3_twin 30 = .ok (.aload_n 0, 1) := by decide +kernel
theorem dX3_twin_31 : decode cX3_twin 31 = .ok (.getfield 15, 3) := by decide +kernel
theorem dX3_twin_34 : decode cX3_twin 34 = .ok (.iload_n 3, 1) := by decide +kernel
theorem dX3_twin_35 : decode cX3_twin 35 = .ok (.iaload, 1) := by decide +kernel
theorem dX3_twin_36 : decode cX3_twin 36 = .ok (.aload_n 0, 1) := by decide +kernel
theorem dX3_twin_37 : decode cX3_twin 37 = .ok (.getfield 19, 3) := by decide +kernel
theorem dX3_twin_40 : decode cX3_twin 40 = .ok (.iload_n 3, 1) := by decide +kernel
theorem dX3_twin_41 : decode cX3_twin 41 = .ok (.iaload, 1) := by decide +kernel
theorem dX3_twin_42 : decode cX3_twin 42 = .ok (.invokevirtual 22, 3) := by decide +kernel
theorem dX3_twin_45 : decode cX3_twin 45 = .ok (.iinc 3 1, 3) := by decide +kernel
theorem dX3_twin_48 : decode cX3_twin 48 = .ok (.goto (-33), 3) := by decide +kernel
theorem dX3_twin_51 : decode cX3_twin 51 = .ok (.aload_n 2, 1) := by decide +kernel
theorem dX3_twin_52 : decode cX3_twin 52 = .ok (.areturn, 1) := by decide +kernel
theorem dX4_isIn_0 : decode cX4_isIn 0 = .ok (.iload_n 0, 1) := by decide +kernel
theorem dX4_isIn_1 : decode cX4_isIn 1 = .ok (.iload_n 1, 1) := by decide +kernel
theorem dX4_isIn_2 : decode cX4_isIn 2 = .ok (.if_icmp .lt 12, 3) := by decide +kernel
theorem dX4_isIn_5 : decode cX4_isIn 5 = .ok (.iload_n 0, 1) := by decide +kernel
theorem dX4_isIn_6 : decode cX4_isIn 6 = .ok (.iload_n 2, 1) := by decide +kernel
theorem dX4_isIn_7 : decode cX4_isIn 7 = .ok (.if_icmp .gt 7, 3) := by decide +kernel
theorem dX4_isIn_10 : decode cX4_isIn 10 = .ok (.iconst 1, 1) := by decide +kernel
theorem dX4_isIn_11 : decode cX4_isIn 11 = .ok (.goto 4, 3) := by decide +kernel
theorem dX4_isIn_15 : decode cX4_isIn 15 = .ok (.ireturn, 1) := by decide +kernel
theorem dX4_init_0 : decode cX4_init 0 = .ok (.aload_n 0, 1) := by decide +kernel
theorem dX4_init_1 : decode cX4_init 1 = .ok (.invokespecial 1, 3) := by decide +kernel
theorem dX4_init_4 : decode cX4_init 4 = .ok (.aload_n 0, 1) := by decide +kernel
theorem dX4_init_5 : decode cX4_init 5 = .ok (.new 7, 3) := by decide +kernel
theorem dX4_init_8 : decode cX4_init 8 = .ok (.dup, 1) := by decide +kernel
theorem dX4_init_9 : decode cX4_init 9 = .ok (.invokespecial 9, 3) := by decide +kernel
theorem dX4_init_12 : decode cX4_init 12 = .ok (.putfield 10, 3) := by decide +kernel
theorem dX4_init_15 : decode cX4_init 15 = .ok (.return_, 1) := by decide +kernel
