theorem dX4_thrown_0 : decode cX4_thrown 0 = .ok (.aload_n 0, 1) := by decide +kernel
theorem dX4_thrown_1 : decode cX4_thrown 1 = .ok (.getfield 16, 3) := by decide +kernel
theorem dX4_thrown_4 : decode cX4_thrown 4 = .ok (.ireturn, 1) := by decide +kernel
theorem dX4_refuse_0 : decode cX4_refuse 0 = .ok (.iload_n 1, 1) := by decide +kernel
theorem dX4_refuse_1 : decode cX4_refuse 1 = .ok (.ifCond .eq 15, 3) := by decide +kernel
theorem dX4_refuse_4 : decode cX4_refuse 4 = .ok (.aload_n 0, 1) := by decide +kernel
theorem dX4_refuse_5 : decode cX4_refuse 5 = .ok (.getfield 16, 3) := by decide +kernel
theorem dX4_refuse_8 : decode cX4_refuse 8 = .ok (.ifCond .ne 8, 3) := by decide +kernel
theorem dX4_refuse_11 : decode cX4_refuse 11 = .ok (.aload_n 0, 1) := by decide +kernel
theorem dX4_refuse_12 : decode cX4_refuse 12 = .ok (.iload_n 2, 1) := by decide +kernel
theorem dX4_refuse_13 : decode cX4_refuse 13 = .ok (.putfield 16, 3) := by decide +kernel
theorem dX4_refuse_16 : decode cX4_refuse 16 = .ok (.aload_n 0, 1) := by decide +kernel
theorem dX4_refuse_17 : decode cX4_refuse 17 = .ok (.getfield 16, 3) := by decide +kernel
theorem dX4_refuse_20 : decode cX4_refuse 20 = .ok (.ifCond .le 7, 3) := by decide +kernel
theorem dX4_refuse_23 : decode cX4_refuse 23 = .ok (.iconst 1, 1) := by decide +kernel
theorem dX4_refuse_24 : decode cX4_refuse 24 = .ok (.goto 4, 3) := by decide +kernel
theorem dX4_refuse_27 : decode cX4_refuse 27 = .ok (.iconst 0, 1) := by decide +kernel
theorem dX4_refuse_28 : decode cX4_refuse 28 = .ok (.ireturn, 1) := by decide +kernel
theorem dX4_start_0 : decode cX4_start 0 = .ok (.aload_n 0, 1) := by decide +kernel
theorem dX4_start_1 : decode cX4_start 1 = .ok (.iconst 0, 1) := by decide +kernel
theorem dX4_start_2 : decode cX4_start 2 = .ok (.putfield 16, 3) := by decide +kernel
theorem dX4_start_5 : decode cX4_start 5 = .ok (.aload_n 0, 1) := by decide +kernel
theorem dX4_start_6 : decode cX4_start 6 = .ok (.iload_n 1, 1) := by decide +kernel
theorem dX4_start_7 : decode cX4_start 7 = .ok (.iload_n 2, 1) := by decide +kernel
theorem dX4_start_8 : decode cX4_start 8 = .ok (.invokevirtual 20, 3) := by decide +kernel
theorem dX4_start_11 : decode cX4_start 11 = .ok (.ireturn, 1) := by decide +kernel
theorem dX4_isNoRow_0 : decode cX4_isNoRow 0 = .ok (.iload_n 1, 1) := by decide +kernel
theorem dX4_isNoRow_1 : decode cX4_isNoRow 1 = .ok (.iconst 0, 1) := by decide +kernel
theorem dX4_isNoRow_2 : decode cX4_isNoRow 2 = .ok (.aload_n 0, 1) := by decide +kernel
theorem dX4_isNoRow_3 : decode cX4_isNoRow 3 = .ok (.getfield 10, 3) := by decide +kernel
theorem dX4_isNoRow_6 : decode cX4_isNoRow 6 = .ok (.invokevirtual 24, 3) := by decide +kernel
theorem dX4_isNoRow_9 : decode cX4_isNoRow 9 = .ok (.iconst 1, 1) := by decide +kernel
theorem dX4_isNoRow_10 : decode cX4_isNoRow 10 = .ok (.isub, 1) := by decide +kernel
theorem dX4_isNoRow_11 : decode cX4_isNoRow 11 = .ok (.invokestatic 28, 3) := by decide +kernel
theorem dX4_isNoRow_14 : decode cX4_isNoRow 14 = .ok (.ifCond .ne 7, 3) := by decide +kernel
theorem dX4_isNoRow_17 : decode cX4_isNoRow 17 = .ok (.iconst 1, 1) := by decide +kernel
theorem dX4_isNoRow_18 : decode cX4_isNoRow 18 = .ok (.goto 4, 3) := by decide +kernel
theorem dX4_isNoRow_22 : decode cX4_isNoRow 22 = .ok (.ireturn, 1) := by decide +kernel
theorem dX4_isNoPlace_0 : decode cX4_isNoPlace 0 = .ok (.aload_n 0, 1) := by decide +kernel
theorem dX4_isNoPlace_1 : decode cX4_isNoPlace 1 = .ok (.iload_n 1, 1) := by decide +kernel
theorem dX4_isNoPlace_2 : decode cX4_isNoPlace 2 = .ok (.invokevirtual 32, 3) := by decide +kernel
theorem dX4_isNoPlace_5 : decode cX4_isNoPlace 5 = .ok (.ifCond .ne 27, 3) := by decide +kernel
theorem dX4_isNoPlace_32 : decode cX4_isNoPlace 32 = .ok (.iconst 1, 1) := by decide +kernel
theorem dX4_isNoPlace_33 : decode cX4_isNoPlace 33 = .ok (.goto 4, 3) := by decide +kernel
theorem dX4_isNoPlace_37 : decode cX4_isNoPlace 37 = .ok (.ireturn, 1) := by decide +kernel
theorem dX4_make_0 : decode cX4_make 0 = .ok (.aload_n 0, 1) := by decide +kernel
theorem dX4_make_1 : decode cX4_make 1 = .ok (.iload_n 1, 1) := by decide +kernel
theorem dX4_make_2 : decode cX4_make 2 = .ok (.iconst 0, 1) := by decide +kernel
theorem dX4_make_3 : decode cX4_make 3 = .ok (.iconst 4, 1) := by decide +kernel
theorem dX4_make_4 : decode cX4_make 4 = .ok (.invokestatic 28, 3) := by decide +kernel
theorem dX4_make_7 : decode cX4_make 7 = .ok (.ifCond .eq 12, 3) := by decide +kernel
theorem dX4_make_10 : decode cX4_make 10 = .ok (.iload_n 2, 1) := by decide +kernel
theorem dX4_make_11 : decode cX4_make 11 = .ok (.iconst 0, 1) := by decide +kernel
theorem dX4_make_12 : decode cX4_make 12 = .ok (.iconst 4, 1) := by decide +kernel
theorem dX4_make_13 : decode cX4_make 13 = .ok (.invokestatic 28, 3) := by decide +kernel
theorem dX4_make_16 : decode cX4_make 16 = .ok (.ifCond .ne 7, 3) := by decide +kernel
theorem dX4_make_19 : decode cX4_make 19 = .ok (.iconst 1, 1) := by decide +kernel
theorem dX4_make_20 : decode cX4_make 20 = .ok (.goto 4, 3) := by decide +kernel
theorem dX4_make_23 : decode cX4_make 23 = .ok (.iconst 0, 1) := by decide +kernel
theorem dX4_make_24 : decode cX4_make 24 = .ok (.iconst 1, 1) := by decide +kernel
theorem dX4_make_25 : decode cX4_make 25 = .ok (.invokevirtual 73, 3) := by decide +kernel
theorem dX4_make_28 : decode cX4_make 28 = .ok (.ifCond .ne 28, 3) := by decide +kernel
theorem dX4_make_31 : decode cX4_make 31 = .ok (.aload_n 0, 1) := by decide +kernel
theorem dX4_make_32 : decode cX4_make 32 = .ok (.aload_n 0, 1) := by decide +kernel
theorem dX4_make_33 : decode cX4_make 33 = .ok (.getfield 10, 3) := by decide +kernel
theorem dX4_make_36 : decode cX4_make 36 = .ok (.invokevirtual 24, 3) := by decide +kernel
theorem dX4_make_39 : decode cX4_make 39 = .ok (.bipush 12, 2) := by decide +kernel
theorem dX4_make_41 : decode cX4_make 41 = .ok (.if_icmp .ne 7, 3) := by decide +kernel
theorem dX4_make_48 : decode cX4_make 48 = .ok (.iconst 0, 1) := by decide +kernel
theorem dX4_make_49 : decode cX4_make 49 = .ok (.iconst 2, 1) := by decide +kernel
theorem dX4_make_50 : decode cX4_make 50 = .ok (.invokevirtual 20, 3) := by decide +kernel
theorem dX4_make_53 : decode cX4_make 53 = .ok (.ifCond .eq 5, 3) := by decide +kernel
theorem dX4_make_56 : decode cX4_make 56 = .ok (.iconst 0, 1) := by decide +kernel
theorem dX4_make_57 : decode cX4_make 57 = .ok (.ireturn, 1) := by decide +kernel
theorem dX4_make_58 : decode cX4_make 58 = .ok (.aload_n 0, 1) := by decide +kernel
theorem dX4_make_59 : decode cX4_make 59 = .ok (.getfield 10, 3) := by decide +kernel
theorem dX4_make_62 : decode cX4_make 62 = .ok (.new 40, 3) := by decide +kernel
theorem dX4_make_65 : decode cX4_make 65 = .ok (.dup, 1) := by decide +kernel
theorem dX4_make_66 : decode cX4_make 66 = .ok (.iload_n 1, 1) := by decide +kernel
theorem dX4_make_67 : decode cX4_make 67 = .ok (.iload_n 2, 1) := by decide +kernel
theorem dX4_make_68 : decode cX4_make 68 = .ok (.invokespecial 76, 3) := by decide +kernel
theorem dX4_make_71 : decode cX4_make 71 = .ok (.invokevirtual 79, 3) := by decide +kernel
theorem dX4_make_74 : decode cX4_make 74 = .ok (.pop, 1) := by decide +kernel
theorem dX4_make_75 : decode cX4_make 75 = .ok (.aload_n 0, 1) := by decide +kernel
theorem dX4_make_76 : decode cX4_make 76 = .ok (.getfield 10, 3) := by decide +kernel
theorem dX4_make_79 : decode cX4_make 79 = .ok (.invokevirtual 24, 3) := by decide +kernel
theorem dX4_make_82 : decode cX4_make 82 = .ok (.iconst 1, 1) := by decide +kernel
theorem dX4_make_83 : decode cX4_make 83 = .ok (.isub, 1) := by decide +kernel
theorem dX4_make_84 : decode cX4_make 84 = .ok (.ireturn, 1) := by decide +kernel
theorem dX4_drop_0 : decode cX4_drop 0 = .ok (.aload_n 0, 1) := by decide +kernel
theorem dX4_drop_1 : decode cX4_drop 1 = .ok (.aload_n 0, 1) := by decide +kernel
theorem dX4_drop_2 : decode cX4_drop 2 = .ok (.getfield 10, 3) := by decide +kernel
theorem dX4_drop_5 : decode cX4_drop 5 = .ok (.invokevirtual 83, 3) := by decide +kernel
theorem dX4_drop_8 : decode cX4_drop 8 = .ok (.iconst 1, 1) := by decide +kernel
theorem dX4_drop_9 : decode cX4_drop 9 = .ok (.invokevirtual 73, 3) := by decide +kernel
theorem dX4_drop_12 : decode cX4_drop 12 = .ok (.ifCond .eq 5, 3) := by decide +kernel
theorem dX4_drop_15 : decode cX4_drop 15 = .ok (.iconst 0, 1) := by decide +kernel
theorem dX4_drop_16 : decode cX4_drop 16 = .ok (.ireturn, 1) := by decide +kernel
theorem dX4_empty_0 : decode cX4_empty 0 = .ok (.aload_n 0, 1) := by decide +kernel
theorem dX4_empty_1 : decode cX4_empty 1 = .ok (.iconst 0, 1) := by decide +kernel
theorem dX4_empty_2 : decode cX4_empty 2 = .ok (.putfield 16, 3) := by decide +kernel
theorem dX4_empty_5 : decode cX4_empty 5 = .ok (.aload_n 0, 1) := by decide +kernel
theorem dX4_empty_6 : decode cX4_empty 6 = .ok (.getfield 10, 3) := by decide +kernel
theorem dX4_empty_9 : decode cX4_empty 9 = .ok (.invokevirtual 24, 3) := by decide +kernel
theorem dX4_empty_12 : decode cX4_empty 12 = .ok (.istore_n 1, 1) := by decide +kernel
theorem dX4_empty_13 : decode cX4_empty 13 = .ok (.aload_n 0, 1) := by decide +kernel
theorem dX4_empty_14 : decode cX4_empty 14 = .ok (.getfield 10, 3) := by decide +kernel
theorem dX4_empty_17 : decode cX4_empty 17 = .ok (.invokevirtual 90, 3) := by decide +kernel
theorem dX4_empty_20 : decode cX4_empty 20 = .ok (.iload_n 1, 1) := by decide +kernel
theorem dX4_empty_21 : decode cX4_empty 21 = .ok (.ireturn, 1) := by decide +kernel
theorem dX4_put_0 : decode cX4_put 0 = .ok (.aload_n 0, 1) := by decide +kernel
theorem dX4_put_1 : decode cX4_put 1 = .ok (.aload_n 0, 1) := by decide +kernel
theorem dX4_put_2 : decode cX4_put 2 = .ok (.iload_n 1, 1) := by decide +kernel
theorem dX4_put_3 : decode cX4_put 3 = .ok (.iload_n 2, 1) := by decide +kernel
theorem dX4_put_4 : decode cX4_put 4 = .ok (.invokevirtual 93, 3) := by decide +kernel
theorem dX4_put_7 : decode cX4_put 7 = .ok (.iconst 1, 1) := by decide +kernel
theorem dX4_put_8 : decode cX4_put 8 = .ok (.invokevirtual 73, 3) := by decide +kernel
theorem dX4_put_11 : decode cX4_put 11 = .ok (.ifCond .ne 15, 3) := by decide +kernel
theorem dX4_put_26 : decode cX4_put 26 = .ok (.iconst 0, 1) := by decide +kernel
theorem dX4_put_27 : decode cX4_put 27 = .ok (.ireturn, 1) := by decide +kernel
theorem dX4_say_0 : decode cX4_say 0 = .ok (.aload_n 0, 1) := by decide +kernel
theorem dX4_say_1 : decode cX4_say 1 = .ok (.aload_n 0, 1) := by decide +kernel
theorem dX4_say_2 : decode cX4_say 2 = .ok (.iload_n 1, 1) := by decide +kernel
theorem dX4_say_3 : decode cX4_say 3 = .ok (.iload_n 2, 1) := by decide +kernel
theorem dX4_say_4 : decode cX4_say 4 = .ok (.invokevirtual 93, 3) := by decide +kernel
theorem dX4_say_7 : decode cX4_say 7 = .ok (.iconst 1, 1) := by decide +kernel
theorem dX4_say_8 : decode cX4_say 8 = .ok (.invokevirtual 73, 3) := by decide +kernel
theorem dX4_say_11 : decode cX4_say 11 = .ok (.ifCond .ne 44, 3) := by decide +kernel
theorem dX4_say_55 : decode cX4_say 55 = .ok (.iconst 0, 1) := by decide +kernel
theorem dX4_say_56 : decode cX4_say 56 = .ok (.ireturn, 1) := by decide +kernel
theorem dX4_none_0 : decode cX4_none 0 = .ok (.aload_n 0, 1) := by decide +kernel
theorem dX4_none_1 : decode cX4_none 1 = .ok (.aload_n 0, 1) := by decide +kernel
theorem dX4_none_2 : decode cX4_none 2 = .ok (.iload_n 1, 1) := by decide +kernel
theorem dX4_none_3 : decode cX4_none 3 = .ok (.iload_n 2, 1) := by decide +kernel
theorem dX4_none_4 : decode cX4_none 4 = .ok (.invokevirtual 93, 3) := by decide +kernel
theorem dX4_none_7 : decode cX4_none 7 = .ok (.iconst 1, 1) := by decide +kernel
theorem dX4_none_8 : decode cX4_none 8 = .ok (.invokevirtual 73, 3) := by decide +kernel
theorem dX4_none_11 : decode cX4_none 11 = .ok (.ifCond .ne 34, 3) := by decide +kernel
theorem dX4_none_45 : decode cX4_none 45 = .ok (.iconst 0, 1) := by decide +kernel
theorem dX4_none_46 : decode cX4_none 46 = .ok (.ireturn, 1) := by decide +kernel
theorem dX4_hang_0 : decode cX4_hang 0 = .ok (.aload_n 0, 1) := by decide +kernel
theorem dX4_hang_1 : decode cX4_hang 1 = .ok (.aload_n 0, 1) := by decide +kernel
theorem dX4_hang_2 : decode cX4_hang 2 = .ok (.iload_n 1, 1) := by decide +kernel
theorem dX4_hang_3 : decode cX4_hang 3 = .ok (.iload_n 2, 1) := by decide +kernel
theorem dX4_hang_4 : decode cX4_hang 4 = .ok (.invokevirtual 93, 3) := by decide +kernel
theorem dX4_hang_7 : decode cX4_hang 7 = .ok (.ifCond .ne 11, 3) := by decide +kernel
theorem dX4_hang_18 : decode cX4_hang 18 = .ok (.iconst 1, 1) := by decide +kernel
theorem dX4_hang_19 : decode cX4_hang 19 = .ok (.goto 4, 3) := by decide +kernel
theorem dX4_hang_23 : decode cX4_hang 23 = .ok (.iconst 1, 1) := by decide +kernel
theorem dX4_hang_24 : decode cX4_hang 24 = .ok (.invokevirtual 73, 3) := by decide +kernel
theorem dX4_hang_27 : decode cX4_hang 27 = .ok (.ifCond .ne 52, 3) := by decide +kernel
theorem dX4_hang_79 : decode cX4_hang 79 = .ok (.iconst 0, 1) := by decide +kernel
theorem dX4_hang_80 : decode cX4_hang 80 = .ok (.ireturn, 1) := by decide +kernel
theorem dX4_swap_0 : decode cX4_swap 0 = .ok (.aload_n 0, 1) := by decide +kernel
theorem dX4_swap_1 : decode cX4_swap 1 = .ok (.aload_n 0, 1) := by decide +kernel
theorem dX4_swap_2 : decode cX4_swap 2 = .ok (.iload_n 1, 1) := by decide +kernel
theorem dX4_swap_3 : decode cX4_swap 3 = .ok (.iload_n 2, 1) := by decide +kernel
theorem dX4_swap_4 : decode cX4_swap 4 = .ok (.invokevirtual 93, 3) := by decide +kernel
theorem dX4_swap_7 : decode cX4_swap 7 = .ok (.ifCond .ne 12, 3) := by decide +kernel
theorem dX4_swap_19 : decode cX4_swap 19 = .ok (.iconst 1, 1) := by decide +kernel
theorem dX4_swap_20 : decode cX4_swap 20 = .ok (.goto 4, 3) := by decide +kernel
theorem dX4_swap_24 : decode cX4_swap 24 = .ok (.iconst 1, 1) := by decide +kernel
theorem dX4_swap_25 : decode cX4_swap 25 = .ok (.invokevirtual 73, 3) := by decide +kernel
theorem dX4_swap_28 : decode cX4_swap 28 = .ok (.ifCond .eq 5, 3) := by decide +kernel
theorem dX4_swap_31 : decode cX4_swap 31 = .ok (.iconst 0, 1) := by decide +kernel
theorem dX4_swap_32 : decode cX4_swap 32 = .ok (.ireturn, 1) := by decide +kernel
theorem dX4_fill_0 : decode cX4_fill 0 = .ok (.aload_n 0, 1) := by decide +kernel
theorem dX4_fill_1 : decode cX4_fill 1 = .ok (.aload_n 0, 1) := by decide +kernel
theorem dX4_fill_2 : decode cX4_fill 2 = .ok (.iload_n 1, 1) := by decide +kernel
theorem dX4_fill_3 : decode cX4_fill 3 = .ok (.invokevirtual 32, 3) := by decide +kernel
theorem dX4_fill_6 : decode cX4_fill 6 = .ok (.iconst 1, 1) := by decide +kernel
theorem dX4_fill_7 : decode cX4_fill 7 = .ok (.invokevirtual 73, 3) := by decide +kernel
theorem dX4_fill_10 : decode cX4_fill 10 = .ok (.ifCond .ne 15, 3) := by decide +kernel
theorem dX4_fill_25 : decode cX4_fill 25 = .ok (.iconst 0, 1) := by decide +kernel
theorem dX4_fill_26 : decode cX4_fill 26 = .ok (.ireturn, 1) := by decide +kernel
theorem dX4_fillRow_0 : decode cX4_fillRow 0 = .ok (.aload_n 0, 1) := by decide +kernel
theorem dX4_fillRow_1 : decode cX4_fillRow 1 = .ok (.aload_n 0, 1) := by decide +kernel
theorem dX4_fillRow_2 : decode cX4_fillRow 2 = .ok (.iload_n 1, 1) := by decide +kernel
theorem dX4_fillRow_3 : decode cX4_fillRow 3 = .ok (.invokevirtual 32, 3) := by decide +kernel
theorem dX4_fillRow_6 : decode cX4_fillRow 6 = .ok (.ifCond .ne 11, 3) := by decide +kernel
theorem dX4_fillRow_17 : decode cX4_fillRow 17 = .ok (.iconst 1, 1) := by decide +kernel
theorem dX4_fillRow_18 : decode cX4_fillRow 18 = .ok (.goto 4, 3) := by decide +kernel
theorem dX4_fillRow_22 : decode cX4_fillRow 22 = .ok (.iconst 1, 1) := by decide +kernel
theorem dX4_fillRow_23 : decode cX4_fillRow 23 = .ok (.invokevirtual 73, 3) := by decide +kernel
theorem dX4_fillRow_26 : decode cX4_fillRow 26 = .ok (.ifCond .ne 52, 3) := by decide +kernel
theorem dX4_fillRow_78 : decode cX4_fillRow 78 = .ok (.iconst 0, 1) := by decide +kernel
theorem dX4_fillRow_79 : decode cX4_fillRow 79 = .ok (.ireturn, 1) := by decide +kernel
theorem dX4_setAll_0 : decode cX4_setAll 0 = .ok (.aload_n 0, 1) := by decide +kernel
theorem dX4_setAll_1 : decode cX4_setAll 1 = .ok (.aload_n 0, 1) := by decide +kernel
theorem dX4_setAll_2 : decode cX4_setAll 2 = .ok (.iload_n 1, 1) := by decide +kernel
theorem dX4_setAll_3 : decode cX4_setAll 3 = .ok (.invokevirtual 32, 3) := by decide +kernel
theorem dX4_setAll_6 : decode cX4_setAll 6 = .ok (.iconst 1, 1) := by decide +kernel
theorem dX4_setAll_7 : decode cX4_setAll 7 = .ok (.invokevirtual 73, 3) := by decide +kernel
theorem dX4_setAll_10 : decode cX4_setAll 10 = .ok (.ifCond .eq 5, 3) := by decide +kernel
theorem dX4_setAll_13 : decode cX4_setAll 13 = .ok (.iconst 0, 1) := by decide +kernel
theorem dX4_setAll_14 : decode cX4_setAll 14 = .ok (.ireturn, 1) := by decide +kernel
theorem dX4_setRows_0 : decode cX4_setRows 0 = .ok (.aload_n 0, 1) := by decide +kernel
theorem dX4_setRows_1 : decode cX4_setRows 1 = .ok (.aload_n 0, 1) := by decide +kernel
theorem dX4_setRows_2 : decode cX4_setRows 2 = .ok (.iload_n 1, 1) := by decide +kernel
theorem dX4_setRows_3 : decode cX4_setRows 3 = .ok (.invokevirtual 32, 3) := by decide +kernel
theorem dX4_setRows_6 : decode cX4_setRows 6 = .ok (.iconst 1, 1) := by decide +kernel
theorem dX4_setRows_7 : decode cX4_setRows 7 = .ok (.invokevirtual 73, 3) := by decide +kernel
theorem dX4_setRows_10 : decode cX4_setRows 10 = .ok (.ifCond .ne 38, 3) := by decide +kernel
theorem dX4_setRows_48 : decode cX4_setRows 48 = .ok (.iconst 0, 1) := by decide +kernel
theorem dX4_setRows_49 : decode cX4_setRows 49 = .ok (.ireturn, 1) := by decide +kernel
theorem dX4_twin_0 : decode cX4_twin 0 = .ok (.aload_n 0, 1) := by decide +kernel
theorem dX4_twin_1 : decode cX4_twin 1 = .ok (.aload_n 0, 1) := by decide +kernel
theorem dX4_twin_2 : decode cX4_twin 2 = .ok (.iload_n 1, 1) := by decide +kernel
theorem dX4_twin_3 : decode cX4_twin 3 = .ok (.invokevirtual 32, 3) := by decide +kernel
theorem dX4_twin_6 : decode cX4_twin 6 = .ok (.iconst 1, 1) := by decide +kernel
theorem dX4_twin_7 : decode cX4_twin 7 = .ok (.invokevirtual 73, 3) := by decide +kernel
theorem dX4_twin_10 : decode cX4_twin 10 = .ok (.ifCond .ne 28, 3) := by decide +kernel
theorem dX4_twin_38 : decode cX4_twin 38 = .ok (.iconst 0, 1) := by decide +kernel
theorem dX4_twin_39 : decode cX4_twin 39 = .ok (.ireturn, 1) := by decide +kernel
theorem dX4_deepTwin_0 : decode cX4_deepTwin 0 = .ok (.aload_n 0, 1) := by decide +kernel
theorem dX4_deepTwin_1 : decode cX4_deepTwin 1 = .ok (.aload_n 0, 1) := by decide +kernel
theorem dX4_deepTwin_2 : decode cX4_deepTwin 2 = .ok (.iload_n 1, 1) := by decide +kernel
theorem dX4_deepTwin_3 : decode cX4_deepTwin 3 = .ok (.invokevirtual 32, 3) := by decide +kernel
theorem dX4_deepTwin_6 : decode cX4_deepTwin 6 = .ok (.iconst 1, 1) := by decide +kernel
theorem dX4_deepTwin_7 : decode cX4_deepTwin 7 = .ok (.invokevirtual 73, 3) := by decide +kernel
theorem dX4_deepTwin_10 : decode cX4_deepTwin 10 = .ok (.ifCond .ne 34, 3) := by decide +kernel
theorem dX4_deepTwin_44 : decode cX4_deepTwin 44 = .ok (.iconst 0, 1) := by decide +kernel
theorem dX4_deepTwin_45 : decode cX4_deepTwin 45 = .ok (.ireturn, 1) := by decide +kernel
theorem dX4_copy_0 : decode cX4_copy 0 = .ok (.aload_n 0, 1) := by decide +kernel
theorem dX4_copy_1 : decode cX4_copy 1 = .ok (.aload_n 0, 1) := by decide +kernel
theorem dX4_copy_2 : decode cX4_copy 2 = .ok (.iload_n 1, 1) := by decide +kernel
theorem dX4_copy_3 : decode cX4_copy 3 = .ok (.invokevirtual 32, 3) := by decide +kernel
theorem dX4_copy_6 : decode cX4_copy 6 = .ok (.iconst 1, 1) := by decide +kernel
theorem dX4_copy_7 : decode cX4_copy 7 = .ok (.invokevirtual 73, 3) := by decide +kernel
theorem dX4_copy_10 : decode cX4_copy 10 = .ok (.ifCond .ne 68, 3) := by decide +kernel
theorem dX4_copy_78 : decode cX4_copy 78 = .ok (.iconst 0, 1) := by decide +kernel
theorem dX4_copy_79 : decode cX4_copy 79 = .ok (.ireturn, 1) := by decide +kernel
theorem dX4_kind_0 : decode cX4_kind 0 = .ok (.aload_n 0, 1) := by decide +kernel
theorem dX4_kind_1 : decode cX4_kind 1 = .ok (.aload_n 0, 1) := by decide +kernel
theorem dX4_kind_2 : decode cX4_kind 2 = .ok (.iload_n 1, 1) := by decide +kernel
theorem dX4_kind_3 : decode cX4_kind 3 = .ok (.invokevirtual 32, 3) := by decide +kernel
theorem dX4_kind_6 : decode cX4_kind 6 = .ok (.iconst 1, 1) := by decide +kernel
theorem dX4_kind_7 : decode cX4_kind 7 = .ok (.invokevirtual 73, 3) := by decide +kernel
theorem dX4_kind_10 : decode cX4_kind 10 = .ok (.ifCond .eq 7, 3) := by decide +kernel
theorem dX4_kind_13 : decode cX4_kind 13 = .ok (.iconst 0, 1) := by decide +kernel
theorem dX4_kind_14 : decode cX4_kind 14 = .ok (.goto 17, 3) := by decide +kernel
theorem dX4_kind_31 : decode cX4_kind 31 = .ok (.ireturn, 1) := by decide +kernel
theorem dX4_length_0 : decode cX4_length 0 = .ok (.aload_n 0, 1) := by decide +kernel
theorem dX4_length_1 : decode cX4_length 1 = .ok (.aload_n 0, 1) := by decide +kernel
theorem dX4_length_2 : decode cX4_length 2 = .ok (.iload_n 1, 1) := by decide +kernel
theorem dX4_length_3 : decode cX4_length 3 = .ok (.invokevirtual 32, 3) := by decide +kernel
theorem dX4_length_6 : decode cX4_length 6 = .ok (.iconst 1, 1) := by decide +kernel
theorem dX4_length_7 : decode cX4_length 7 = .ok (.invokevirtual 73, 3) := by decide +kernel
theorem dX4_length_10 : decode cX4_length 10 = .ok (.ifCond .eq 7, 3) := by decide +kernel
theorem dX4_length_13 : decode cX4_length 13 = .ok (.iconst 0, 1) := by decide +kernel
theorem dX4_length_14 : decode cX4_length 14 = .ok (.goto 17, 3) := by decide +kernel
theorem dX4_length_31 : decode cX4_length 31 = .ok (.ireturn, 1) := by decide +kernel
theorem dX4_depth_0 : decode cX4_depth 0 = .ok (.aload_n 0, 1) := by decide +kernel
theorem dX4_depth_1 : decode cX4_depth 1 = .ok (.aload_n 0, 1) := by decide +kernel
theorem dX4_depth_2 : decode cX4_depth 2 = .ok (.iload_n 1, 1) := by decide +kernel
theorem dX4_depth_3 : decode cX4_depth 3 = .ok (.invokevirtual 32, 3) := by decide +kernel
theorem dX4_depth_6 : decode cX4_depth 6 = .ok (.iconst 1, 1) := by decide +kernel
theorem dX4_depth_7 : decode cX4_depth 7 = .ok (.invokevirtual 73, 3) := by decide +kernel
theorem dX4_depth_10 : decode cX4_depth 10 = .ok (.ifCond .eq 7, 3) := by decide +kernel
theorem dX4_depth_13 : decode cX4_depth 13 = .ok (.iconst 0, 1) := by decide +kernel
theorem dX4_depth_14 : decode cX4_depth 14 = .ok (.goto 8, 3) := by decide +kernel
theorem dX4_depth_22 : decode cX4_depth 22 = .ok (.ireturn, 1) := by decide +kernel
theorem dX4_what_0 : decode cX4_what 0 = .ok (.aload_n 0, 1) := by decide +kernel
theorem dX4_what_1 : decode cX4_what 1 = .ok (.aload_n 0, 1) := by decide +kernel
theorem dX4_what_2 : decode cX4_what 2 = .ok (.iload_n 1, 1) := by decide +kernel
theorem dX4_what_3 : decode cX4_what 3 = .ok (.iload_n 2, 1) := by decide +kernel
theorem dX4_what_4 : decode cX4_what 4 = .ok (.invokevirtual 93, 3) := by decide +kernel
theorem dX4_what_7 : decode cX4_what 7 = .ok (.iconst 1, 1) := by decide +kernel
theorem dX4_what_8 : decode cX4_what 8 = .ok (.invokevirtual 73, 3) := by decide +kernel
theorem dX4_what_11 : decode cX4_what 11 = .ok (.ifCond .eq 7, 3) := by decide +kernel
theorem dX4_what_14 : decode cX4_what 14 = .ok (.iconst 0, 1) := by decide +kernel
theorem dX4_what_15 : decode cX4_what 15 = .ok (.goto 19, 3) := by decide +kernel
theorem dX4_what_34 : decode cX4_what 34 = .ok (.ireturn, 1) := by decide +kernel
theorem dX4_at_0 : decode cX4_at 0 = .ok (.aload_n 0, 1) := by decide +kernel
theorem dX4_at_1 : decode cX4_at 1 = .ok (.aload_n 0, 1) := by decide +kernel
theorem dX4_at_2 : decode cX4_at 2 = .ok (.iload_n 1, 1) := by decide +kernel
theorem dX4_at_3 : decode cX4_at 3 = .ok (.iload_n 2, 1) := by decide +kernel
theorem dX4_at_4 : decode cX4_at 4 = .ok (.invokevirtual 93, 3) := by decide +kernel
theorem dX4_at_7 : decode cX4_at 7 = .ok (.iconst 1, 1) := by decide +kernel
theorem dX4_at_8 : decode cX4_at 8 = .ok (.invokevirtual 73, 3) := by decide +kernel
theorem dX4_at_11 : decode cX4_at 11 = .ok (.ifCond .eq 7, 3) := by decide +kernel
theorem dX4_at_14 : decode cX4_at 14 = .ok (.iconst 0, 1) := by decide +kernel
theorem dX4_at_15 : decode cX4_at 15 = .ok (.goto 19, 3) := by decide +kernel
theorem dX4_at_34 : decode cX4_at 34 = .ok (.ireturn, 1) := by decide +kernel
theorem dX4_isDeep_0 : decode cX4_isDeep 0 = .ok (.aload_n 0, 1) := by decide +kernel
theorem dX4_isDeep_1 : decode cX4_isDeep 1 = .ok (.aload_n 0, 1) := by decide +kernel
theorem dX4_isDeep_2 : decode cX4_isDeep 2 = .ok (.iload_n 1, 1) := by decide +kernel
theorem dX4_isDeep_3 : decode cX4_isDeep 3 = .ok (.invokevirtual 32, 3) := by decide +kernel
theorem dX4_isDeep_6 : decode cX4_isDeep 6 = .ok (.ifCond .ne 11, 3) := by decide +kernel
theorem dX4_isDeep_17 : decode cX4_isDeep 17 = .ok (.iconst 1, 1) := by decide +kernel
theorem dX4_isDeep_18 : decode cX4_isDeep 18 = .ok (.goto 4, 3) := by decide +kernel
theorem dX4_isDeep_22 : decode cX4_isDeep 22 = .ok (.iconst 1, 1) := by decide +kernel
theorem dX4_isDeep_23 : decode cX4_isDeep 23 = .ok (.invokevirtual 73, 3) := by decide +kernel
theorem dX4_isDeep_26 : decode cX4_isDeep 26 = .ok (.ifCond .ne 16, 3) := by decide +kernel
theorem dX4_isDeep_42 : decode cX4_isDeep 42 = .ok (.iconst 0, 1) := by decide +kernel
theorem dX4_isDeep_43 : decode cX4_isDeep 43 = .ok (.ireturn, 1) := by decide +kernel
theorem dX4_isFlat_0 : decode cX4_isFlat 0 = .ok (.aload_n 0, 1) := by decide +kernel
theorem dX4_isFlat_1 : decode cX4_isFlat 1 = .ok (.aload_n 0, 1) := by decide +kernel
theorem dX4_isFlat_2 : decode cX4_isFlat 2 = .ok (.iload_n 1, 1) := by decide +kernel
theorem dX4_isFlat_3 : decode cX4_isFlat 3 = .ok (.invokevirtual 32, 3) := by decide +kernel
theorem dX4_isFlat_6 : decode cX4_isFlat 6 = .ok (.ifCond .ne 11, 3) := by decide +kernel
theorem dX4_isFlat_17 : decode cX4_isFlat 17 = .ok (.iconst 1, 1) := by decide +kernel
theorem dX4_isFlat_18 : decode cX4_isFlat 18 = .ok (.goto 4, 3) := by decide +kernel
theorem dX4_isFlat_22 : decode cX4_isFlat 22 = .ok (.iconst 1, 1) := by decide +kernel
theorem dX4_isFlat_23 : decode cX4_isFlat 23 = .ok (.invokevirtual 73, 3) := by decide +kernel
theorem dX4_isFlat_26 : decode cX4_isFlat 26 = .ok (.ifCond .ne 31, 3) := by decide +kernel
theorem dX4_isFlat_57 : decode cX4_isFlat 57 = .ok (.iconst 0, 1) := by decide +kernel
theorem dX4_isFlat_58 : decode cX4_isFlat 58 = .ok (.ireturn, 1) := by decide +kernel
theorem dX4_areDeep_0 : decode cX4_areDeep 0 = .ok (.aload_n 0, 1) := by decide +kernel
theorem dX4_areDeep_1 : decode cX4_areDeep 1 = .ok (.aload_n 0, 1) := by decide +kernel
theorem dX4_areDeep_2 : decode cX4_areDeep 2 = .ok (.iload_n 1, 1) := by decide +kernel
theorem dX4_areDeep_3 : decode cX4_areDeep 3 = .ok (.iload_n 2, 1) := by decide +kernel
theorem dX4_areDeep_4 : decode cX4_areDeep 4 = .ok (.invokevirtual 93, 3) := by decide +kernel
theorem dX4_areDeep_7 : decode cX4_areDeep 7 = .ok (.ifCond .ne 13, 3) := by decide +kernel
theorem dX4_areDeep_20 : decode cX4_areDeep 20 = .ok (.iconst 1, 1) := by decide +kernel
theorem dX4_areDeep_21 : decode cX4_areDeep 21 = .ok (.goto 4, 3) := by decide +kernel
theorem dX4_areDeep_25 : decode cX4_areDeep 25 = .ok (.iconst 1, 1) := by decide +kernel
theorem dX4_areDeep_26 : decode cX4_areDeep 26 = .ok (.invokevirtual 73, 3) := by decide +kernel
theorem dX4_areDeep_29 : decode cX4_areDeep 29 = .ok (.ifCond .ne 52, 3) := by decide +kernel
theorem dX4_areDeep_81 : decode cX4_areDeep 81 = .ok (.iconst 0, 1) := by decide +kernel
theorem dX4_areDeep_82 : decode cX4_areDeep 82 = .ok (.ireturn, 1) := by decide +kernel
theorem dX4_hash_0 : decode cX4_hash 0 = .ok (.aload_n 0, 1) := by decide +kernel
theorem dX4_hash_1 : decode cX4_hash 1 = .ok (.aload_n 0, 1) := by decide +kernel
theorem dX4_hash_2 : decode cX4_hash 2 = .ok (.iload_n 1, 1) := by decide +kernel
theorem dX4_hash_3 : decode cX4_hash 3 = .ok (.invokevirtual 32, 3) := by decide +kernel
theorem dX4_hash_6 : decode cX4_hash 6 = .ok (.iconst 1, 1) := by decide +kernel
theorem dX4_hash_7 : decode cX4_hash 7 = .ok (.invokevirtual 73, 3) := by decide +kernel
theorem dX4_hash_10 : decode cX4_hash 10 = .ok (.ifCond .eq 7, 3) := by decide +kernel
theorem dX4_hash_13 : decode cX4_hash 13 = .ok (.iconst 0, 1) := by decide +kernel
theorem dX4_hash_14 : decode cX4_hash 14 = .ok (.goto 8, 3) := by decide +kernel
theorem dX4_hash_22 : decode cX4_hash 22 = .ok (.ireturn, 1) := by decide +kernel
theorem dX4_flatHash_0 : decode cX4_flatHash 0 = .ok (.aload_n 0, 1) := by decide +kernel
theorem dX4_flatHash_1 : decode cX4_flatHash 1 = .ok (.aload_n 0, 1) := by decide +kernel
theorem dX4_flatHash_2 : decode cX4_flatHash 2 = .ok (.iload_n 1, 1) := by decide +kernel
theorem dX4_flatHash_3 : decode cX4_flatHash 3 = .ok (.invokevirtual 32, 3) := by decide +kernel
theorem dX4_flatHash_6 : decode cX4_flatHash 6 = .ok (.iconst 1, 1) := by decide +kernel
theorem dX4_flatHash_7 : decode cX4_flatHash 7 = .ok (.invokevirtual 73, 3) := by decide +kernel
theorem dX4_flatHash_10 : decode cX4_flatHash 10 = .ok (.ifCond .ne 25, 3) := by decide +kernel
theorem dX4_flatHash_35 : decode cX4_flatHash 35 = .ok (.iconst 0, 1) := by decide +kernel
theorem dX4_flatHash_36 : decode cX4_flatHash 36 = .ok (.goto 8, 3) := by decide +kernel
theorem dX4_flatHash_44 : decode cX4_flatHash 44 = .ok (.ireturn, 1) := by decide +kernel
theorem dX4_text_0 : decode cX4_text 0 = .ok (.aload_n 0, 1) := by decide +kernel
theorem dX4_text_1 : decode cX4_text 1 = .ok (.aload_n 0, 1) := by decide +kernel
theorem dX4_text_2 : decode cX4_text 2 = .ok (.iload_n 1, 1) := by decide +kernel
theorem dX4_text_3 : decode cX4_text 3 = .ok (.invokevirtual 32, 3) := by decide +kernel
theorem dX4_text_6 : decode cX4_text 6 = .ok (.iconst 1, 1) := by decide +kernel
theorem dX4_text_7 : decode cX4_text 7 = .ok (.invokevirtual 73, 3) := by decide +kernel
theorem dX4_text_10 : decode cX4_text 10 = .ok (.ifCond .eq 8, 3) := by decide +kernel
theorem dX4_text_13 : decode cX4_text 13 = .ok (.ldc 168, 2) := by decide +kernel
theorem dX4_text_15 : decode cX4_text 15 = .ok (.goto 8, 3) := by decide +kernel
theorem dX4_text_23 : decode cX4_text 23 = .ok (.areturn, 1) := by decide +kernel
theorem dX4_differ_0 : decode cX4_differ 0 = .ok (.aload_n 0, 1) := by decide +kernel
theorem dX4_differ_1 : decode cX4_differ 1 = .ok (.aload_n 0, 1) := by decide +kernel
theorem dX4_differ_2 : decode cX4_differ 2 = .ok (.iload_n 1, 1) := by decide +kernel
theorem dX4_differ_3 : decode cX4_differ 3 = .ok (.invokevirtual 32, 3) := by decide +kernel
theorem dX4_differ_6 : decode cX4_differ 6 = .ok (.ifCond .ne 11, 3) := by decide +kernel
theorem dX4_differ_17 : decode cX4_differ 17 = .ok (.iconst 1, 1) := by decide +kernel
theorem dX4_differ_18 : decode cX4_differ 18 = .ok (.goto 4, 3) := by decide +kernel
theorem dX4_differ_22 : decode cX4_differ 22 = .ok (.iconst 1, 1) := by decide +kernel
theorem dX4_differ_23 : decode cX4_differ 23 = .ok (.invokevirtual 73, 3) := by decide +kernel
theorem dX4_differ_26 : decode cX4_differ 26 = .ok (.ifCond .ne 17, 3) := by decide +kernel
theorem dX4_differ_43 : decode cX4_differ 43 = .ok (.iconst 0, 1) := by decide +kernel
theorem dX4_differ_44 : decode cX4_differ 44 = .ok (.goto 9, 3) := by decide +kernel
theorem dX4_differ_53 : decode cX4_differ 53 = .ok (.ireturn, 1) := by decide +kernel
theorem dX4_compare_0 : decode cX4_compare 0 = .ok (.aload_n 0, 1) := by decide +kernel
theorem dX4_compare_1 : decode cX4_compare 1 = .ok (.aload_n 0, 1) := by decide +kernel
theorem dX4_compare_2 : decode cX4_compare 2 = .ok (.iload_n 1, 1) := by decide +kernel
theorem dX4_compare_3 : decode cX4_compare 3 = .ok (.invokevirtual 32, 3) := by decide +kernel
theorem dX4_compare_6 : decode cX4_compare 6 = .ok (.ifCond .ne 11, 3) := by decide +kernel
theorem dX4_compare_17 : decode cX4_compare 17 = .ok (.iconst 1, 1) := by decide +kernel
theorem dX4_compare_18 : decode cX4_compare 18 = .ok (.goto 4, 3) := by decide +kernel
theorem dX4_compare_22 : decode cX4_compare 22 = .ok (.iconst 1, 1) := by decide +kernel
theorem dX4_compare_23 : decode cX4_compare 23 = .ok (.invokevirtual 73, 3) := by decide +kernel
theorem dX4_compare_26 : decode cX4_compare 26 = .ok (.ifCond .ne 43, 3) := by decide +kernel
theorem dX4_compare_69 : decode cX4_compare 69 = .ok (.iconst 0, 1) := by decide +kernel
theorem dX4_compare_70 : decode cX4_compare 70 = .ok (.ireturn, 1) := by decide +kernel
theorem dX4_knock_0 : decode cX4_knock 0 = .ok (.aload_n 0, 1) := by decide +kernel
theorem dX4_knock_1 : decode cX4_knock 1 = .ok (.iconst 0, 1) := by decide +kernel
theorem dX4_knock_2 : decode cX4_knock 2 = .ok (.putfield 16, 3) := by decide +kernel
theorem dX4_knock_5 : decode cX4_knock 5 = .ok (.aload_n 0, 1) := by decide +kernel
theorem dX4_knock_6 : decode cX4_knock 6 = .ok (.dup, 1) := by decide +kernel
theorem dX4_knock_7 : decode cX4_knock 7 = .ok (.getfield 207, 3) := by decide +kernel
theorem dX4_knock_10 : decode cX4_knock 10 = .ok (.iconst 1, 1) := by decide +kernel
theorem dX4_knock_11 : decode cX4_knock 11 = .ok (.iadd, 1) := by decide +kernel
theorem dX4_knock_12 : decode cX4_knock 12 = .ok (.dup_x1, 1) := by decide +kernel
theorem dX4_knock_13 : decode cX4_knock 13 = .ok (.putfield 207, 3) := by decide +kernel
theorem dX4_knock_16 : decode cX4_knock 16 = .ok (.ireturn, 1) := by decide +kernel
theorem dX4_houseTold_0 : decode cX4_houseTold 0 = .ok (.iconst 0, 1) := by decide +kernel
theorem dX4_houseTold_1 : decode cX4_houseTold 1 = .ok (.istore_n 2, 1) := by decide +kernel
theorem dX4_houseTold_2 : decode cX4_houseTold 2 = .ok (.iconst 0, 1) := by decide +kernel
theorem dX4_houseTold_3 : decode cX4_houseTold 3 = .ok (.istore_n 3, 1) := by decide +kernel
theorem dX4_houseTold_4 : decode cX4_houseTold 4 = .ok (.iconst 0, 1) := by decide +kernel
theorem dX4_houseTold_5 : decode cX4_houseTold 5 = .ok (.istore 4, 2) := by decide +kernel
theorem dX4_houseTold_7 : decode cX4_houseTold 7 = .ok (.iload 4, 2) := by decide +kernel
theorem dX4_houseTold_9 : decode cX4_houseTold 9 = .ok (.aload_n 0, 1) := by decide +kernel
theorem dX4_houseTold_10 : decode cX4_houseTold 10 = .ok (.getfield 10, 3) := by decide +kernel
theorem dX4_houseTold_13 : decode cX4_houseTold 13 = .ok (.invokevirtual 24, 3) := by decide +kernel
theorem dX4_houseTold_16 : decode cX4_houseTold 16 = .ok (.if_icmp .ge 50, 3) := by decide +kernel
theorem dX4_houseTold_66 : decode cX4_houseTold 66 = .ok (.bipush 6, 2) := by decide +kernel
theorem dX4_houseTold_68 : decode cX4_houseTold 68 = .ok (.newarray .int, 2) := by decide +kernel
theorem dX4_houseTold_70 : decode cX4_houseTold 70 = .ok (.dup, 1) := by decide +kernel
theorem dX4_houseTold_71 : decode cX4_houseTold 71 = .ok (.iconst 0, 1) := by decide +kernel
theorem dX4_houseTold_72 : decode cX4_houseTold 72 = .ok (.aload_n 0, 1) := by decide +kernel
theorem dX4_houseTold_73 : decode cX4_houseTold 73 = .ok (.getfield 10, 3) := by decide +kernel
theorem dX4_houseTold_76 : decode cX4_houseTold 76 = .ok (.invokevirtual 24, 3) := by decide +kernel
theorem dX4_houseTold_79 : decode cX4_houseTold 79 = .ok (.iastore, 1) := by decide +kernel
theorem dX4_houseTold_80 : decode cX4_houseTold 80 = .ok (.dup, 1) := by decide +kernel
theorem dX4_houseTold_81 : decode cX4_houseTold 81 = .ok (.iconst 1, 1) := by decide +kernel
theorem dX4_houseTold_82 : decode cX4_houseTold 82 = .ok (.aload_n 0, 1) := by decide +kernel
theorem dX4_houseTold_83 : decode cX4_houseTold 83 = .ok (.getfield 120, 3) := by decide +kernel
theorem dX4_houseTold_86 : decode cX4_houseTold 86 = .ok (.iastore, 1) := by decide +kernel
theorem dX4_houseTold_87 : decode cX4_houseTold 87 = .ok (.dup, 1) := by decide +kernel
theorem dX4_houseTold_88 : decode cX4_houseTold 88 = .ok (.iconst 2, 1) := by decide +kernel
theorem dX4_houseTold_89 : decode cX4_houseTold 89 = .ok (.aload_n 0, 1) := by decide +kernel
theorem dX4_houseTold_90 : decode cX4_houseTold 90 = .ok (.getfield 114, 3) := by decide +kernel
theorem dX4_houseTold_93 : decode cX4_houseTold 93 = .ok (.iastore, 1) := by decide +kernel
theorem dX4_houseTold_94 : decode cX4_houseTold 94 = .ok (.dup, 1) := by decide +kernel
theorem dX4_houseTold_95 : decode cX4_houseTold 95 = .ok (.iconst 3, 1) := by decide +kernel
theorem dX4_houseTold_96 : decode cX4_houseTold 96 = .ok (.aload_n 0, 1) := by decide +kernel
theorem dX4_houseTold_97 : decode cX4_houseTold 97 = .ok (.getfield 207, 3) := by decide +kernel
theorem dX4_houseTold_100 : decode cX4_houseTold 100 = .ok (.iastore, 1) := by decide +kernel
theorem dX4_houseTold_101 : decode cX4_houseTold 101 = .ok (.dup, 1) := by decide +kernel
theorem dX4_houseTold_102 : decode cX4_houseTold 102 = .ok (.iconst 4, 1) := by decide +kernel
theorem dX4_houseTold_103 : decode cX4_houseTold 103 = .ok (.iload_n 2, 1) := by decide +kernel
theorem dX4_houseTold_104 : decode cX4_houseTold 104 = .ok (.iastore, 1) := by decide +kernel
