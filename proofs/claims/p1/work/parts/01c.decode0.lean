theorem dX0_init_0 : decode cX0_init 0 = .ok (.aload_n 0, 1) := by decide +kernel
theorem dX0_init_1 : decode cX0_init 1 = .ok (.invokespecial 3, 3) := by decide +kernel
theorem dX0_init_4 : decode cX0_init 4 = .ok (.aload_n 0, 1) := by decide +kernel
theorem dX0_init_5 : decode cX0_init 5 = .ok (.iload_n 1, 1) := by decide +kernel
theorem dX0_init_6 : decode cX0_init 6 = .ok (.putfield 9, 3) := by decide +kernel
theorem dX0_init_9 : decode cX0_init 9 = .ok (.aload_n 0, 1) := by decide +kernel
theorem dX0_init_10 : decode cX0_init 10 = .ok (.iload_n 2, 1) := by decide +kernel
theorem dX0_init_11 : decode cX0_init 11 = .ok (.putfield 15, 3) := by decide +kernel
theorem dX0_init_14 : decode cX0_init 14 = .ok (.aload_n 0, 1) := by decide +kernel
theorem dX0_init_15 : decode cX0_init 15 = .ok (.iload_n 2, 1) := by decide +kernel
theorem dX0_init_16 : decode cX0_init 16 = .ok (.newarray .int, 2) := by decide +kernel
theorem dX0_init_18 : decode cX0_init 18 = .ok (.putfield 18, 3) := by decide +kernel
theorem dX0_init_21 : decode cX0_init 21 = .ok (.aload_n 0, 1) := by decide +kernel
theorem dX0_init_22 : decode cX0_init 22 = .ok (.iload_n 2, 1) := by decide +kernel
theorem dX0_init_23 : decode cX0_init 23 = .ok (.newarray .int, 2) := by decide +kernel
theorem dX0_init_25 : decode cX0_init 25 = .ok (.putfield 22, 3) := by decide +kernel
theorem dX0_init_28 : decode cX0_init 28 = .ok (.aload_n 0, 1) := by decide +kernel
theorem dX0_init_29 : decode cX0_init 29 = .ok (.iload_n 2, 1) := by decide +kernel
theorem dX0_init_30 : decode cX0_init 30 = .ok (.anewarray 10, 3) := by decide +kernel
theorem dX0_init_33 : decode cX0_init 33 = .ok (.putfield 25, 3) := by decide +kernel
theorem dX0_init_36 : decode cX0_init 36 = .ok (.iconst 0, 1) := by decide +kernel
theorem dX0_init_37 : decode cX0_init 37 = .ok (.istore_n 3, 1) := by decide +kernel
theorem dX0_init_38 : decode cX0_init 38 = .ok (.iload_n 3, 1) := by decide +kernel
theorem dX0_init_39 : decode cX0_init 39 = .ok (.iload_n 2, 1) := by decide +kernel
theorem dX0_init_40 : decode cX0_init 40 = .ok (.if_icmp .ge 41, 3) := by decide +kernel
theorem dX0_init_43 : decode cX0_init 43 = .ok (.aload_n 0, 1) := by decide +kernel
theorem dX0_init_44 : decode cX0_init 44 = .ok (.getfield 18, 3) := by decide +kernel
theorem dX0_init_47 : decode cX0_init 47 = .ok (.iload_n 3, 1) := by decide +kernel
theorem dX0_init_48 : decode cX0_init 48 = .ok (.iload_n 1, 1) := by decide +kernel
theorem dX0_init_49 : decode cX0_init 49 = .ok (.iconst 4, 1) := by decide +kernel
theorem dX0_init_50 : decode cX0_init 50 = .ok (.if_icmp .ne 7, 3) := by decide +kernel
theorem dX0_init_53 : decode cX0_init 53 = .ok (.iconst 0, 1) := by decide +kernel
theorem dX0_init_54 : decode cX0_init 54 = .ok (.goto 4, 3) := by decide +kernel
theorem dX0_init_57 : decode cX0_init 57 = .ok (.iconst 1, 1) := by decide +kernel
theorem dX0_init_58 : decode cX0_init 58 = .ok (.iastore, 1) := by decide +kernel
theorem dX0_init_59 : decode cX0_init 59 = .ok (.aload_n 0, 1) := by decide +kernel
theorem dX0_init_60 : decode cX0_init 60 = .ok (.getfield 22, 3) := by decide +kernel
theorem dX0_init_63 : decode cX0_init 63 = .ok (.iload_n 3, 1) := by decide +kernel
theorem dX0_init_64 : decode cX0_init 64 = .ok (.iload_n 1, 1) := by decide +kernel
theorem dX0_init_65 : decode cX0_init 65 = .ok (.iconst 4, 1) := by decide +kernel
theorem dX0_init_66 : decode cX0_init 66 = .ok (.if_icmp .ne 7, 3) := by decide +kernel
theorem dX0_init_69 : decode cX0_init 69 = .ok (.iconst (-1), 1) := by decide +kernel
theorem dX0_init_70 : decode cX0_init 70 = .ok (.goto 4, 3) := by decide +kernel
theorem dX0_init_73 : decode cX0_init 73 = .ok (.iconst 0, 1) := by decide +kernel
theorem dX0_init_74 : decode cX0_init 74 = .ok (.iastore, 1) := by decide +kernel
theorem dX0_init_75 : decode cX0_init 75 = .ok (.iinc 3 1, 3) := by decide +kernel
theorem dX0_init_78 : decode cX0_init 78 = .ok (.goto (-40), 3) := by decide +kernel
theorem dX0_init_81 : decode cX0_init 81 = .ok (.return_, 1) := by decide +kernel
theorem dX1_init_0 : decode cX1_init 0 = .ok (.aload_n 0, 1) := by decide +kernel
theorem dX1_init_1 : decode cX1_init 1 = .ok (.invokespecial 3, 3) := by decide +kernel
theorem dX1_init_4 : decode cX1_init 4 = .ok (.aload_n 0, 1) := by decide +kernel
theorem dX1_init_5 : decode cX1_init 5 = .ok (.new 9, 3) := by decide +kernel
theorem dX1_init_8 : decode cX1_init 8 = .ok (.dup, 1) := by decide +kernel
theorem dX1_init_9 : decode cX1_init 9 = .ok (.invokespecial 11, 3) := by decide +kernel
theorem dX1_init_12 : decode cX1_init 12 = .ok (.putfield 12, 3) := by decide +kernel
theorem dX1_init_15 : decode cX1_init 15 = .ok (.aload_n 0, 1) := by decide +kernel
theorem dX1_init_16 : decode cX1_init 16 = .ok (.iconst 0, 1) := by decide +kernel
theorem dX1_init_17 : decode cX1_init 17 = .ok (.putfield 16, 3) := by decide +kernel
theorem dX1_init_20 : decode cX1_init 20 = .ok (.aload_n 0, 1) := by decide +kernel
theorem dX1_init_21 : decode cX1_init 21 = .ok (.iconst 0, 1) := by decide +kernel
theorem dX1_init_22 : decode cX1_init 22 = .ok (.putfield 20, 3) := by decide +kernel
theorem dX1_init_25 : decode cX1_init 25 = .ok (.aload_n 0, 1) := by decide +kernel
theorem dX1_init_26 : decode cX1_init 26 = .ok (.iconst 0, 1) := by decide +kernel
theorem dX1_init_27 : decode cX1_init 27 = .ok (.putfield 23, 3) := by decide +kernel
theorem dX1_init_30 : decode cX1_init 30 = .ok (.aload_n 0, 1) := by decide +kernel
theorem dX1_init_31 : decode cX1_init 31 = .ok (.new 26, 3) := by decide +kernel
theorem dX1_init_34 : decode cX1_init 34 = .ok (.dup, 1) := by decide +kernel
theorem dX1_init_35 : decode cX1_init 35 = .ok (.iconst 4, 1) := by decide +kernel
theorem dX1_init_36 : decode cX1_init 36 = .ok (.iconst 1, 1) := by decide +kernel
theorem dX1_init_37 : decode cX1_init 37 = .ok (.invokespecial 28, 3) := by decide +kernel
theorem dX1_init_40 : decode cX1_init 40 = .ok (.putfield 31, 3) := by decide +kernel
theorem dX1_init_43 : decode cX1_init 43 = .ok (.aload_n 0, 1) := by decide +kernel
theorem dX1_init_44 : decode cX1_init 44 = .ok (.new 26, 3) := by decide +kernel
theorem dX1_init_47 : decode cX1_init 47 = .ok (.dup, 1) := by decide +kernel
theorem dX1_init_48 : decode cX1_init 48 = .ok (.iconst 4, 1) := by decide +kernel
theorem dX1_init_49 : decode cX1_init 49 = .ok (.iconst 1, 1) := by decide +kernel
theorem dX1_init_50 : decode cX1_init 50 = .ok (.invokespecial 28, 3) := by decide +kernel
theorem dX1_init_53 : decode cX1_init 53 = .ok (.putfield 35, 3) := by decide +kernel
theorem dX1_init_56 : decode cX1_init 56 = .ok (.aload_n 0, 1) := by decide +kernel
theorem dX1_init_57 : decode cX1_init 57 = .ok (.new 38, 3) := by decide +kernel
theorem dX1_init_60 : decode cX1_init 60 = .ok (.dup, 1) := by decide +kernel
theorem dX1_init_61 : decode cX1_init 61 = .ok (.invokespecial 40, 3) := by decide +kernel
theorem dX1_init_64 : decode cX1_init 64 = .ok (.putfield 41, 3) := by decide +kernel
theorem dX1_init_67 : decode cX1_init 67 = .ok (.aload_n 0, 1) := by decide +kernel
theorem dX1_init_68 : decode cX1_init 68 = .ok (.new 38, 3) := by decide +kernel
theorem dX1_init_71 : decode cX1_init 71 = .ok (.dup, 1) := by decide +kernel
theorem dX1_init_72 : decode cX1_init 72 = .ok (.invokespecial 40, 3) := by decide +kernel
theorem dX1_init_75 : decode cX1_init 75 = .ok (.putfield 45, 3) := by decide +kernel
theorem dX1_init_78 : decode cX1_init 78 = .ok (.return_, 1) := by decide +kernel
theorem dX1_make_0 : decode cX1_make 0 = .ok (.iload_n 1, 1) := by decide +kernel
theorem dX1_make_1 : decode cX1_make 1 = .ok (.ifCond .lt 8, 3) := by decide +kernel
theorem dX1_make_4 : decode cX1_make 4 = .ok (.iload_n 1, 1) := by decide +kernel
theorem dX1_make_5 : decode cX1_make 5 = .ok (.iconst 4, 1) := by decide +kernel
theorem dX1_make_6 : decode cX1_make 6 = .ok (.if_icmp .le 13, 3) := by decide +kernel
theorem dX1_make_9 : decode cX1_make 9 = .ok (.new 48, 3) := by decide +kernel
theorem dX1_make_12 : decode cX1_make 12 = .ok (.dup, 1) := by decide +kernel
theorem dX1_make_13 : decode cX1_make 13 = .ok (.ldc 50, 2) := by decide +kernel
theorem dX1_make_15 : decode cX1_make 15 = .ok (.invokespecial 52, 3) := by decide +kernel
theorem dX1_make_18 : decode cX1_make 18 = .ok (.athrow, 1) := by decide +kernel
theorem dX1_make_19 : decode cX1_make 19 = .ok (.iload_n 2, 1) := by decide +kernel
theorem dX1_make_20 : decode cX1_make 20 = .ok (.invokestatic 55, 3) := by decide +kernel
theorem dX1_make_23 : decode cX1_make 23 = .ok (.aload_n 0, 1) := by decide +kernel
theorem dX1_make_24 : decode cX1_make 24 = .ok (.iconst 1, 1) := by decide +kernel
theorem dX1_make_25 : decode cX1_make 25 = .ok (.invokevirtual 59, 3) := by decide +kernel
theorem dX1_make_28 : decode cX1_make 28 = .ok (.aload_n 0, 1) := by decide +kernel
theorem dX1_make_29 : decode cX1_make 29 = .ok (.new 26, 3) := by decide +kernel
theorem dX1_make_32 : decode cX1_make 32 = .ok (.dup, 1) := by decide +kernel
theorem dX1_make_33 : decode cX1_make 33 = .ok (.iload_n 1, 1) := by decide +kernel
theorem dX1_make_34 : decode cX1_make 34 = .ok (.iload_n 2, 1) := by decide +kernel
theorem dX1_make_35 : decode cX1_make 35 = .ok (.invokespecial 28, 3) := by decide +kernel
theorem dX1_make_38 : decode cX1_make 38 = .ok (.invokevirtual 62, 3) := by decide +kernel
theorem dX1_make_41 : decode cX1_make 41 = .ok (.getfield 66, 3) := by decide +kernel
theorem dX1_make_44 : decode cX1_make 44 = .ok (.ireturn, 1) := by decide +kernel
theorem dX1_drop_0 : decode cX1_drop 0 = .ok (.aload_n 0, 1) := by decide +kernel
theorem dX1_drop_1 : decode cX1_drop 1 = .ok (.getfield 12, 3) := by decide +kernel
theorem dX1_drop_4 : decode cX1_drop 4 = .ok (.invokevirtual 69, 3) := by decide +kernel
theorem dX1_drop_7 : decode cX1_drop 7 = .ok (.ifCond .eq 13, 3) := by decide +kernel
theorem dX1_drop_10 : decode cX1_drop 10 = .ok (.new 73, 3) := by decide +kernel
theorem dX1_drop_13 : decode cX1_drop 13 = .ok (.dup, 1) := by decide +kernel
theorem dX1_drop_14 : decode cX1_drop 14 = .ok (.ldc 75, 2) := by decide +kernel
theorem dX1_drop_16 : decode cX1_drop 16 = .ok (.invokespecial 77, 3) := by decide +kernel
theorem dX1_drop_19 : decode cX1_drop 19 = .ok (.athrow, 1) := by decide +kernel
theorem dX1_empty_0 : decode cX1_empty 0 = .ok (.aload_n 0, 1) := by decide +kernel
theorem dX1_empty_1 : decode cX1_empty 1 = .ok (.getfield 12, 3) := by decide +kernel
theorem dX1_empty_4 : decode cX1_empty 4 = .ok (.invokevirtual 78, 3) := by decide +kernel
theorem dX1_empty_7 : decode cX1_empty 7 = .ok (.istore_n 1, 1) := by decide +kernel
theorem dX1_empty_8 : decode cX1_empty 8 = .ok (.aload_n 0, 1) := by decide +kernel
theorem dX1_empty_9 : decode cX1_empty 9 = .ok (.getfield 12, 3) := by decide +kernel
theorem dX1_empty_12 : decode cX1_empty 12 = .ok (.invokevirtual 86, 3) := by decide +kernel
theorem dX1_empty_15 : decode cX1_empty 15 = .ok (.iload_n 1, 1) := by decide +kernel
theorem dX1_empty_16 : decode cX1_empty 16 = .ok (.ireturn, 1) := by decide +kernel
theorem dX1_put_0 : decode cX1_put 0 = .ok (.aload_n 0, 1) := by decide +kernel
theorem dX1_put_1 : decode cX1_put 1 = .ok (.iload_n 1, 1) := by decide +kernel
theorem dX1_put_2 : decode cX1_put 2 = .ok (.invokevirtual 89, 3) := by decide +kernel
theorem dX1_say_0 : decode cX1_say 0 = .ok (.aload_n 0, 1) := by decide +kernel
theorem dX1_say_1 : decode cX1_say 1 = .ok (.iload_n 1, 1) := by decide +kernel
theorem dX1_say_2 : decode cX1_say 2 = .ok (.invokevirtual 89, 3) := by decide +kernel
theorem dX1_none_0 : decode cX1_none 0 = .ok (.aload_n 0, 1) := by decide +kernel
theorem dX1_none_1 : decode cX1_none 1 = .ok (.iload_n 1, 1) := by decide +kernel
theorem dX1_none_2 : decode cX1_none 2 = .ok (.invokevirtual 89, 3) := by decide +kernel
theorem dX1_hang_0 : decode cX1_hang 0 = .ok (.aload_n 0, 1) := by decide +kernel
theorem dX1_hang_1 : decode cX1_hang 1 = .ok (.iload_n 1, 1) := by decide +kernel
theorem dX1_hang_2 : decode cX1_hang 2 = .ok (.invokevirtual 89, 3) := by decide +kernel
theorem dX1_swap_0 : decode cX1_swap 0 = .ok (.aload_n 0, 1) := by decide +kernel
theorem dX1_swap_1 : decode cX1_swap 1 = .ok (.iload_n 1, 1) := by decide +kernel
theorem dX1_swap_2 : decode cX1_swap 2 = .ok (.invokevirtual 89, 3) := by decide +kernel
theorem dX1_fill_0 : decode cX1_fill 0 = .ok (.aload_n 0, 1) := by decide +kernel
theorem dX1_fill_1 : decode cX1_fill 1 = .ok (.iload_n 1, 1) := by decide +kernel
theorem dX1_fill_2 : decode cX1_fill 2 = .ok (.invokevirtual 89, 3) := by decide +kernel
theorem dX1_fillRow_0 : decode cX1_fillRow 0 = .ok (.aload_n 0, 1) := by decide +kernel
theorem dX1_fillRow_1 : decode cX1_fillRow 1 = .ok (.iload_n 1, 1) := by decide +kernel
theorem dX1_fillRow_2 : decode cX1_fillRow 2 = .ok (.invokevirtual 89, 3) := by decide +kernel
theorem dX1_setAll_0 : decode cX1_setAll 0 = .ok (.aload_n 0, 1) := by decide +kernel
theorem dX1_setAll_1 : decode cX1_setAll 1 = .ok (.iload_n 1, 1) := by decide +kernel
theorem dX1_setAll_2 : decode cX1_setAll 2 = .ok (.invokevirtual 89, 3) := by decide +kernel
theorem dX1_setRows_0 : decode cX1_setRows 0 = .ok (.aload_n 0, 1) := by decide +kernel
theorem dX1_setRows_1 : decode cX1_setRows 1 = .ok (.iload_n 1, 1) := by decide +kernel
theorem dX1_setRows_2 : decode cX1_setRows 2 = .ok (.invokevirtual 89, 3) := by decide +kernel
theorem dX1_twin_0 : decode cX1_twin 0 = .ok (.aload_n 0, 1) := by decide +kernel
theorem dX1_twin_1 : decode cX1_twin 1 = .ok (.iload_n 1, 1) := by decide +kernel
theorem dX1_twin_2 : decode cX1_twin 2 = .ok (.invokevirtual 89, 3) := by decide +kernel
theorem dX1_deepTwin_0 : decode cX1_deepTwin 0 = .ok (.aload_n 0, 1) := by decide +kernel
theorem dX1_deepTwin_1 : decode cX1_deepTwin 1 = .ok (.iload_n 1, 1) := by decide +kernel
theorem dX1_deepTwin_2 : decode cX1_deepTwin 2 = .ok (.invokevirtual 89, 3) := by decide +kernel
theorem dX1_copy_0 : decode cX1_copy 0 = .ok (.aload_n 0, 1) := by decide +kernel
theorem dX1_copy_1 : decode cX1_copy 1 = .ok (.iload_n 1, 1) := by decide +kernel
theorem dX1_copy_2 : decode cX1_copy 2 = .ok (.invokevirtual 89, 3) := by decide +kernel
theorem dX1_kind_0 : decode cX1_kind 0 = .ok (.aload_n 0, 1) := by decide +kernel
theorem dX1_kind_1 : decode cX1_kind 1 = .ok (.iload_n 1, 1) := by decide +kernel
theorem dX1_kind_2 : decode cX1_kind 2 = .ok (.invokevirtual 89, 3) := by decide +kernel
theorem dX1_length_0 : decode cX1_length 0 = .ok (.aload_n 0, 1) := by decide +kernel
theorem dX1_length_1 : decode cX1_length 1 = .ok (.iload_n 1, 1) := by decide +kernel
theorem dX1_length_2 : decode cX1_length 2 = .ok (.invokevirtual 89, 3) := by decide +kernel
theorem dX1_depth_0 : decode cX1_depth 0 = .ok (.aload_n 0, 1) := by decide +kernel
theorem dX1_depth_1 : decode cX1_depth 1 = .ok (.iload_n 1, 1) := by decide +kernel
theorem dX1_depth_2 : decode cX1_depth 2 = .ok (.invokevirtual 89, 3) := by decide +kernel
theorem dX1_what_0 : decode cX1_what 0 = .ok (.aload_n 0, 1) := by decide +kernel
theorem dX1_what_1 : decode cX1_what 1 = .ok (.iload_n 1, 1) := by decide +kernel
theorem dX1_what_2 : decode cX1_what 2 = .ok (.invokevirtual 89, 3) := by decide +kernel
theorem dX1_at_0 : decode cX1_at 0 = .ok (.aload_n 0, 1) := by decide +kernel
theorem dX1_at_1 : decode cX1_at 1 = .ok (.iload_n 1, 1) := by decide +kernel
theorem dX1_at_2 : decode cX1_at 2 = .ok (.invokevirtual 89, 3) := by decide +kernel
theorem dX1_isDeep_0 : decode cX1_isDeep 0 = .ok (.aload_n 0, 1) := by decide +kernel
theorem dX1_isDeep_1 : decode cX1_isDeep 1 = .ok (.iload_n 1, 1) := by decide +kernel
theorem dX1_isDeep_2 : decode cX1_isDeep 2 = .ok (.invokevirtual 89, 3) := by decide +kernel
theorem dX1_isFlat_0 : decode cX1_isFlat 0 = .ok (.aload_n 0, 1) := by decide +kernel
theorem dX1_isFlat_1 : decode cX1_isFlat 1 = .ok (.iload_n 1, 1) := by decide +kernel
theorem dX1_isFlat_2 : decode cX1_isFlat 2 = .ok (.invokevirtual 89, 3) := by decide +kernel
theorem dX1_areDeep_0 : decode cX1_areDeep 0 = .ok (.aload_n 0, 1) := by decide +kernel
theorem dX1_areDeep_1 : decode cX1_areDeep 1 = .ok (.iload_n 1, 1) := by decide +kernel
theorem dX1_areDeep_2 : decode cX1_areDeep 2 = .ok (.invokevirtual 89, 3) := by decide +kernel
theorem dX1_hash_0 : decode cX1_hash 0 = .ok (.aload_n 0, 1) := by decide +kernel
theorem dX1_hash_1 : decode cX1_hash 1 = .ok (.iload_n 1, 1) := by decide +kernel
theorem dX1_hash_2 : decode cX1_hash 2 = .ok (.invokevirtual 89, 3) := by decide +kernel
theorem dX1_flatHash_0 : decode cX1_flatHash 0 = .ok (.aload_n 0, 1) := by decide +kernel
theorem dX1_flatHash_1 : decode cX1_flatHash 1 = .ok (.iload_n 1, 1) := by decide +kernel
theorem dX1_flatHash_2 : decode cX1_flatHash 2 = .ok (.invokevirtual 89, 3) := by decide +kernel
theorem dX1_text_0 : decode cX1_text 0 = .ok (.aload_n 0, 1) := by decide +kernel
theorem dX1_text_1 : decode cX1_text 1 = .ok (.getfield 41, 3) := by decide +kernel
theorem dX1_text_4 : decode cX1_text 4 = .ok (.aload_n 0, 1) := by decide +kernel
theorem dX1_text_5 : decode cX1_text 5 = .ok (.iload_n 1, 1) := by decide +kernel
theorem dX1_text_6 : decode cX1_text 6 = .ok (.invokevirtual 89, 3) := by decide +kernel
theorem dX1_differ_0 : decode cX1_differ 0 = .ok (.aload_n 0, 1) := by decide +kernel
theorem dX1_differ_1 : decode cX1_differ 1 = .ok (.iload_n 1, 1) := by decide +kernel
theorem dX1_differ_2 : decode cX1_differ 2 = .ok (.invokevirtual 89, 3) := by decide +kernel
theorem dX1_compare_0 : decode cX1_compare 0 = .ok (.aload_n 0, 1) := by decide +kernel
theorem dX1_compare_1 : decode cX1_compare 1 = .ok (.iload_n 1, 1) := by decide +kernel
theorem dX1_compare_2 : decode cX1_compare 2 = .ok (.invokevirtual 89, 3) := by decide +kernel
theorem dX1_knock_0 : decode cX1_knock 0 = .ok (.aload_n 0, 1) := by decide +kernel
theorem dX1_knock_1 : decode cX1_knock 1 = .ok (.dup, 1) := by decide +kernel
theorem dX1_knock_2 : decode cX1_knock 2 = .ok (.getfield 23, 3) := by decide +kernel
theorem dX1_knock_5 : decode cX1_knock 5 = .ok (.iconst 1, 1) := by decide +kernel
theorem dX1_knock_6 : decode cX1_knock 6 = .ok (.iadd, 1) := by decide +kernel
theorem dX1_knock_7 : decode cX1_knock 7 = .ok (.putfield 23, 3) := by decide +kernel
theorem dX1_knock_10 : decode cX1_knock 10 = .ok (.aload_n 0, 1) := by decide +kernel
theorem dX1_knock_11 : decode cX1_knock 11 = .ok (.getfield 23, 3) := by decide +kernel
theorem dX1_knock_14 : decode cX1_knock 14 = .ok (.ireturn, 1) := by decide +kernel
theorem dX1_house_0 : decode cX1_house 0 = .ok (.iload_n 1, 1) := by decide +kernel
theorem dX1_house_1 : decode cX1_house 1 = .ok (.tableswitch 72 0 5 #[39, 47, 52, 57, 62, 67], 39) := by decide +kernel
theorem dX1_house_40 : decode cX1_house 40 = .ok (.aload_n 0, 1) := by decide +kernel
theorem dX1_house_41 : decode cX1_house 41 = .ok (.getfield 12, 3) := by decide +kernel
theorem dX1_house_44 : decode cX1_house 44 = .ok (.invokevirtual 78, 3) := by decide +kernel
theorem dX1_house_47 : decode cX1_house 47 = .ok (.ireturn, 1) := by decide +kernel
theorem dX1_house_48 : decode cX1_house 48 = .ok (.aload_n 0, 1) := by decide +kernel
theorem dX1_house_49 : decode cX1_house 49 = .ok (.getfield 16, 3) := by decide +kernel
theorem dX1_house_52 : decode cX1_house 52 = .ok (.ireturn, 1) := by decide +kernel
theorem dX1_house_53 : decode cX1_house 53 = .ok (.aload_n 0, 1) := by decide +kernel
theorem dX1_house_54 : decode cX1_house 54 = .ok (.getfield 20, 3) := by decide +kernel
theorem dX1_house_57 : decode cX1_house 57 = .ok (.ireturn, 1) := by decide +kernel
theorem dX1_house_58 : decode cX1_house 58 = .ok (.aload_n 0, 1) := by decide +kernel
theorem dX1_house_59 : decode cX1_house 59 = .ok (.getfield 23, 3) := by decide +kernel
theorem dX1_house_62 : decode cX1_house 62 = .ok (.ireturn, 1) := by decide +kernel
theorem dX1_house_63 : decode cX1_house 63 = .ok (.aload_n 0, 1) := by decide +kernel
theorem dX1_house_64 : decode cX1_house 64 = .ok (.invokevirtual 225, 3) := by decide +kernel
theorem dX1_house_67 : decode cX1_house 67 = .ok (.ireturn, 1) := by decide +kernel
theorem dX1_house_68 : decode cX1_house 68 = .ok (.aload_n 0, 1) := by decide +kernel
theorem dX1_house_69 : decode cX1_house 69 = .ok (.invokevirtual 228, 3) := by decide +kernel
theorem dX1_house_72 : decode cX1_house 72 = .ok (.ireturn, 1) := by decide +kernel
theorem dX1_house_73 : decode cX1_house 73 = .ok (.new 48, 3) := by decide +kernel
theorem dX1_house_76 : decode cX1_house 76 = .ok (.dup, 1) := by decide +kernel
theorem dX1_house_77 : decode cX1_house 77 = .ok (.ldc 231, 2) := by decide +kernel
theorem dX1_house_79 : decode cX1_house 79 = .ok (.invokespecial 52, 3) := by decide +kernel
theorem dX1_house_82 : decode cX1_house 82 = .ok (.athrow, 1) := by decide +kernel
theorem dX1_isSound_0 : decode cX1_isSound 0 = .ok (.iconst 0, 1) := by decide +kernel
theorem dX1_isSound_1 : decode cX1_isSound 1 = .ok (.istore_n 1, 1) := by decide +kernel
theorem dX1_isSound_2 : decode cX1_isSound 2 = .ok (.iload_n 1, 1) := by decide +kernel
theorem dX1_isSound_3 : decode cX1_isSound 3 = .ok (.aload_n 0, 1) := by decide +kernel
theorem dX1_isSound_4 : decode cX1_isSound 4 = .ok (.getfield 12, 3) := by decide +kernel
theorem dX1_isSound_7 : decode cX1_isSound 7 = .ok (.invokevirtual 78, 3) := by decide +kernel
theorem dX1_isSound_10 : decode cX1_isSound 10 = .ok (.if_icmp .ge 79, 3) := by decide +kernel
theorem dX1_isSound_89 : decode cX1_isSound 89 = .ok (.iconst 1, 1) := by decide +kernel
theorem dX1_isSound_90 : decode cX1_isSound 90 = .ok (.ireturn, 1) := by decide +kernel
theorem dX1_digest_0 : decode cX1_digest 0 = .ok (.ldc2_w 243, 3) := by decide +kernel
theorem dX1_digest_3 : decode cX1_digest 3 = .ok (.lstore_n 1, 1) := by decide +kernel
theorem dX1_digest_4 : decode cX1_digest 4 = .ok (.iconst 0, 1) := by decide +kernel
theorem dX1_digest_5 : decode cX1_digest 5 = .ok (.istore_n 3, 1) := by decide +kernel
theorem dX1_digest_6 : decode cX1_digest 6 = .ok (.iload_n 3, 1) := by decide +kernel
theorem dX1_digest_7 : decode cX1_digest 7 = .ok (.iconst 5, 1) := by decide +kernel
theorem dX1_digest_8 : decode cX1_digest 8 = .ok (.if_icmp .gt 22, 3) := by decide +kernel
theorem dX1_digest_11 : decode cX1_digest 11 = .ok (.lload_n 1, 1) := by decide +kernel
theorem dX1_digest_12 : decode cX1_digest 12 = .ok (.ldc2_w 245, 3) := by decide +kernel
theorem dX1_digest_15 : decode cX1_digest 15 = .ok (.lmul, 1) := by decide +kernel
theorem dX1_digest_16 : decode cX1_digest 16 = .ok (.aload_n 0, 1) := by decide +kernel
theorem dX1_digest_17 : decode cX1_digest 17 = .ok (.iload_n 3, 1) := by decide +kernel
theorem dX1_digest_18 : decode cX1_digest 18 = .ok (.invokevirtual 247, 3) := by decide +kernel
theorem dX1_digest_21 : decode cX1_digest 21 = .ok (.i2l, 1) := by decide +kernel
theorem dX1_digest_22 : decode cX1_digest 22 = .ok (.ladd, 1) := by decide +kernel
theorem dX1_digest_23 : decode cX1_digest 23 = .ok (.lstore_n 1, 1) := by decide +kernel
theorem dX1_digest_24 : decode cX1_digest 24 = .ok (.iinc 3 1, 3) := by decide +kernel
theorem dX1_digest_27 : decode cX1_digest 27 = .ok (.goto (-21), 3) := by decide +kernel
theorem dX1_digest_30 : decode cX1_digest 30 = .ok (.iconst 0, 1) := by decide +kernel
theorem dX1_digest_31 : decode cX1_digest 31 = .ok (.istore_n 3, 1) := by decide +kernel
theorem dX1_digest_32 : decode cX1_digest 32 = .ok (.iload_n 3, 1) := by decide +kernel
theorem dX1_digest_33 : decode cX1_digest 33 = .ok (.aload_n 0, 1) := by decide +kernel
theorem dX1_digest_34 : decode cX1_digest 34 = .ok (.getfield 12, 3) := by decide +kernel
theorem dX1_digest_37 : decode cX1_digest 37 = .ok (.invokevirtual 78, 3) := by decide +kernel
theorem dX1_digest_40 : decode cX1_digest 40 = .ok (.if_icmp .ge 16, 3) := by decide +kernel
theorem dX1_digest_56 : decode cX1_digest 56 = .ok (.iconst 0, 1) := by decide +kernel
theorem dX1_digest_57 : decode cX1_digest 57 = .ok (.istore_n 3, 1) := by decide +kernel
theorem dX1_digest_58 : decode cX1_digest 58 = .ok (.iload_n 3, 1) := by decide +kernel
theorem dX1_digest_59 : decode cX1_digest 59 = .ok (.aload_n 0, 1) := by decide +kernel
theorem dX1_digest_60 : decode cX1_digest 60 = .ok (.getfield 12, 3) := by decide +kernel
theorem dX1_digest_63 : decode cX1_digest 63 = .ok (.invokevirtual 78, 3) := by decide +kernel
theorem dX1_digest_66 : decode cX1_digest 66 = .ok (.if_icmp .ge 55, 3) := by decide +kernel
theorem dX1_digest_121 : decode cX1_digest 121 = .ok (.lload_n 1, 1) := by decide +kernel
theorem dX1_digest_122 : decode cX1_digest 122 = .ok (.ldc2_w 245, 3) := by decide +kernel
theorem dX1_digest_125 : decode cX1_digest 125 = .ok (.lmul, 1) := by decide +kernel
theorem dX1_digest_126 : decode cX1_digest 126 = .ok (.aload_n 0, 1) := by decide +kernel
theorem dX1_digest_127 : decode cX1_digest 127 = .ok (.invokevirtual 258, 3) := by decide +kernel
theorem dX1_digest_130 : decode cX1_digest 130 = .ok (.ifCond .eq 7, 3) := by decide +kernel
theorem dX1_digest_133 : decode cX1_digest 133 = .ok (.iconst 1, 1) := by decide +kernel
theorem dX1_digest_134 : decode cX1_digest 134 = .ok (.goto 4, 3) := by decide +kernel
theorem dX1_digest_138 : decode cX1_digest 138 = .ok (.i2l, 1) := by decide +kernel
theorem dX1_digest_139 : decode cX1_digest 139 = .ok (.ladd, 1) := by decide +kernel
theorem dX1_digest_140 : decode cX1_digest 140 = .ok (.lreturn, 1) := by decide +kernel
theorem dX1_rowOf_0 : decode cX1_rowOf 0 = .ok (.iload_n 1, 1) := by decide +kernel
theorem dX1_rowOf_1 : decode cX1_rowOf 1 = .ok (.ifCond .lt 14, 3) := by decide +kernel
theorem dX1_rowOf_4 : decode cX1_rowOf 4 = .ok (.iload_n 1, 1) := by decide +kernel
theorem dX1_rowOf_5 : decode cX1_rowOf 5 = .ok (.aload_n 0, 1) := by decide +kernel
theorem dX1_rowOf_6 : decode cX1_rowOf 6 = .ok (.getfield 12, 3) := by decide +kernel
theorem dX1_rowOf_9 : decode cX1_rowOf 9 = .ok (.invokevirtual 78, 3) := by decide +kernel
theorem dX1_rowOf_12 : decode cX1_rowOf 12 = .ok (.if_icmp .lt 14, 3) := by decide +kernel
theorem dX1_rowOf_15 : decode cX1_rowOf 15 = .ok (.new 261, 3) := by decide +kernel
theorem dX1_rowOf_18 : decode cX1_rowOf 18 = .ok (.dup, 1) := by decide +kernel
theorem dX1_rowOf_19 : decode cX1_rowOf 19 = .ok (.ldc_w 263, 3) := by decide +kernel
theorem dX1_rowOf_22 : decode cX1_rowOf 22 = .ok (.invokespecial 265, 3) := by decide +kernel
theorem dX1_rowOf_25 : decode cX1_rowOf 25 = .ok (.athrow, 1) := by decide +kernel
theorem dX1_requireLength_0 : decode cX1_requireLength 0 = .ok (.iload_n 0, 1) := by decide +kernel
theorem dX1_requireLength_1 : decode cX1_requireLength 1 = .ok (.ifCond .lt 8, 3) := by decide +kernel
theorem dX1_requireLength_4 : decode cX1_requireLength 4 = .ok (.iload_n 0, 1) := by decide +kernel
theorem dX1_requireLength_5 : decode cX1_requireLength 5 = .ok (.iconst 4, 1) := by decide +kernel
theorem dX1_requireLength_6 : decode cX1_requireLength 6 = .ok (.if_icmp .le 14, 3) := by decide +kernel
theorem dX1_requireLength_9 : decode cX1_requireLength 9 = .ok (.new 48, 3) := by decide +kernel
theorem dX1_requireLength_12 : decode cX1_requireLength 12 = .ok (.dup, 1) := by decide +kernel
theorem dX1_requireLength_13 : decode cX1_requireLength 13 = .ok (.ldc_w 270, 3) := by decide +kernel
theorem dX1_requireLength_16 : decode cX1_requireLength 16 = .ok (.invokespecial 52, 3) := by decide +kernel
theorem dX1_requireLength_19 : decode cX1_requireLength 19 = .ok (.athrow, 1) := by decide +kernel
theorem dX1_requireLength_20 : decode cX1_requireLength 20 = .ok (.return_, 1) := by decide +kernel
theorem dX1_requireRoom_0 : decode cX1_requireRoom 0 = .ok (.aload_n 0, 1) := by decide +kernel
theorem dX1_requireRoom_1 : decode cX1_requireRoom 1 = .ok (.getfield 12, 3) := by decide +kernel
theorem dX1_requireRoom_4 : decode cX1_requireRoom 4 = .ok (.invokevirtual 78, 3) := by decide +kernel
theorem dX1_requireRoom_7 : decode cX1_requireRoom 7 = .ok (.iload_n 1, 1) := by decide +kernel
theorem dX1_requireRoom_8 : decode cX1_requireRoom 8 = .ok (.iadd, 1) := by decide +kernel
theorem dX1_requireRoom_9 : decode cX1_requireRoom 9 = .ok (.bipush 12, 2) := by decide +kernel
theorem dX1_requireRoom_11 : decode cX1_requireRoom 11 = .ok (.if_icmp .le 14, 3) := by decide +kernel
theorem dX1_requireRoom_25 : decode cX1_requireRoom 25 = .ok (.return_, 1) := by decide +kernel
theorem dX1_addRow_0 : decode cX1_addRow 0 = .ok (.aload_n 1, 1) := by decide +kernel
theorem dX1_addRow_1 : decode cX1_addRow 1 = .ok (.aload_n 0, 1) := by decide +kernel
theorem dX1_addRow_2 : decode cX1_addRow 2 = .ok (.getfield 12, 3) := by decide +kernel
theorem dX1_addRow_5 : decode cX1_addRow 5 = .ok (.invokevirtual 78, 3) := by decide +kernel
theorem dX1_addRow_8 : decode cX1_addRow 8 = .ok (.putfield 66, 3) := by decide +kernel
theorem dX1_addRow_11 : decode cX1_addRow 11 = .ok (.aload_n 0, 1) := by decide +kernel
theorem dX1_addRow_12 : decode cX1_addRow 12 = .ok (.getfield 12, 3) := by decide +kernel
theorem dX1_addRow_15 : decode cX1_addRow 15 = .ok (.aload_n 1, 1) := by decide +kernel
theorem dX1_addRow_16 : decode cX1_addRow 16 = .ok (.invokevirtual 286, 3) := by decide +kernel
theorem dX1_addRow_19 : decode cX1_addRow 19 = .ok (.pop, 1) := by decide +kernel
theorem dX1_addRow_20 : decode cX1_addRow 20 = .ok (.aload_n 1, 1) := by decide +kernel
theorem dX1_addRow_21 : decode cX1_addRow 21 = .ok (.areturn, 1) := by decide +kernel
theorem dX1_greatestDepth_0 : decode cX1_greatestDepth 0 = .ok (.iconst 0, 1) := by decide +kernel
theorem dX1_greatestDepth_1 : decode cX1_greatestDepth 1 = .ok (.istore_n 1, 1) := by decide +kernel
theorem dX1_greatestDepth_2 : decode cX1_greatestDepth 2 = .ok (.iconst 0, 1) := by decide +kernel
theorem dX1_greatestDepth_3 : decode cX1_greatestDepth 3 = .ok (.istore_n 2, 1) := by decide +kernel
theorem dX1_greatestDepth_4 : decode cX1_greatestDepth 4 = .ok (.iload_n 2, 1) := by decide +kernel
theorem dX1_greatestDepth_5 : decode cX1_greatestDepth 5 = .ok (.aload_n 0, 1) := by decide +kernel
theorem dX1_greatestDepth_6 : decode cX1_greatestDepth 6 = .ok (.getfield 12, 3) := by decide +kernel
theorem dX1_greatestDepth_9 : decode cX1_greatestDepth 9 = .ok (.invokevirtual 78, 3) := by decide +kernel
theorem dX1_greatestDepth_12 : decode cX1_greatestDepth 12 = .ok (.if_icmp .ge 28, 3) := by decide +kernel
theorem dX1_greatestDepth_40 : decode cX1_greatestDepth 40 = .ok (.iload_n 1, 1) := by decide +kernel
theorem dX1_greatestDepth_41 : decode cX1_greatestDepth 41 = .ok (.ireturn, 1) := by decide +kernel
theorem dX1_pairsDeep_0 : decode cX1_pairsDeep 0 = .ok (.iconst 0, 1) := by decide +kernel
theorem dX1_pairsDeep_1 : decode cX1_pairsDeep 1 = .ok (.istore_n 1, 1) := by decide +kernel
theorem dX1_pairsDeep_2 : decode cX1_pairsDeep 2 = .ok (.iconst 0, 1) := by decide +kernel
theorem dX1_pairsDeep_3 : decode cX1_pairsDeep 3 = .ok (.istore_n 2, 1) := by decide +kernel
theorem dX1_pairsDeep_4 : decode cX1_pairsDeep 4 = .ok (.iload_n 2, 1) := by decide +kernel
theorem dX1_pairsDeep_5 : decode cX1_pairsDeep 5 = .ok (.aload_n 0, 1) := by decide +kernel
theorem dX1_pairsDeep_6 : decode cX1_pairsDeep 6 = .ok (.getfield 12, 3) := by decide +kernel
theorem dX1_pairsDeep_9 : decode cX1_pairsDeep 9 = .ok (.invokevirtual 78, 3) := by decide +kernel
theorem dX1_pairsDeep_12 : decode cX1_pairsDeep 12 = .ok (.if_icmp .ge 62, 3) := by decide +kernel
theorem dX1_pairsDeep_74 : decode cX1_pairsDeep 74 = .ok (.iload_n 1, 1) := by decide +kernel
theorem dX1_pairsDeep_75 : decode cX1_pairsDeep 75 = .ok (.ireturn, 1) := by decide +kernel
theorem dX3_init_0 : decode cX3_init 0 = .ok (.aload_n 0, 1) := by decide +kernel
theorem dX3_init_1 : decode cX3_init 1 = .ok (.invokespecial 3, 3) := by decide +kernel
theorem dX3_init_4 : decode cX3_init 4 = .ok (.aload_n 0, 1) := by decide +kernel
theorem dX3_init_5 : decode cX3_init 5 = .ok (.iload_n 1, 1) := by decide +kernel
theorem dX3_init_6 : decode cX3_init 6 = .ok (.putfield 9, 3) := by decide +kernel
theorem dX3_init_9 : decode cX3_init 9 = .ok (.aload_n 0, 1) := by decide +kernel
theorem dX3_init_10 : decode cX3_init 10 = .ok (.iload_n 2, 1) := by decide +kernel
theorem dX3_init_11 : decode cX3_init 11 = .ok (.newarray .int, 2) := by decide +kernel
theorem dX3_init_13 : decode cX3_init 13 = .ok (.putfield 15, 3) := by decide +kernel
theorem dX3_init_16 : decode cX3_init 16 = .ok (.aload_n 0, 1) := by decide +kernel
theorem dX3_init_17 : decode cX3_init 17 = .ok (.iload_n 2, 1) := by decide +kernel
theorem dX3_init_18 : decode cX3_init 18 = .ok (.newarray .int, 2) := by decide +kernel
theorem dX3_init_20 : decode cX3_init 20 = .ok (.putfield 19, 3) := by decide +kernel
theorem dX3_init_23 : decode cX3_init 23 = .ok (.iconst 0, 1) := by decide +kernel
theorem dX3_init_24 : decode cX3_init 24 = .ok (.istore_n 3, 1) := by decide +kernel
theorem dX3_init_25 : decode cX3_init 25 = .ok (.iload_n 3, 1) := by decide +kernel
theorem dX3_init_26 : decode cX3_init 26 = .ok (.iload_n 2, 1) := by decide +kernel
theorem dX3_init_27 : decode cX3_init 27 = .ok (.if_icmp .ge 34, 3) := by decide +kernel
theorem dX3_init_30 : decode cX3_init 30 = .ok (.aload_n 0, 1) := by decide +kernel
theorem dX3_init_31 : decode cX3_init 31 = .ok (.iload_n 3, 1) := by decide +kernel
theorem dX3_init_32 : decode cX3_init 32 = .ok (.iload_n 1, 1) := by decide +kernel
theorem dX3_init_33 : decode cX3_init 33 = .ok (.iconst 4, 1) := by decide +kernel
theorem dX3_init_34 : decode cX3_init 34 = .ok (.if_icmp .ne 7, 3) := by decide +kernel
theorem dX3_init_37 : decode cX3_init 37 = .ok (.iconst 0, 1) := by decide +kernel
theorem dX3_init_38 : decode cX3_init 38 = .ok (.goto 4, 3) := by decide +kernel
theorem dX3_init_41 : decode cX3_init 41 = .ok (.iconst 1, 1) := by decide +kernel
theorem dX3_init_42 : decode cX3_init 42 = .ok (.iload_n 1, 1) := by decide +kernel
theorem dX3_init_43 : decode cX3_init 43 = .ok (.iconst 4, 1) := by decide +kernel
theorem dX3_init_44 : decode cX3_init 44 = .ok (.if_icmp .ne 7, 3) := by decide +kernel
theorem dX3_init_47 : decode cX3_init 47 = .ok (.iconst (-1), 1) := by decide +kernel
theorem dX3_init_48 : decode cX3_init 48 = .ok (.goto 4, 3) := by decide +kernel
theorem dX3_init_51 : decode cX3_init 51 = .ok (.iconst 0, 1) := by decide +kernel
theorem dX3_init_52 : decode cX3_init 52 = .ok (.invokevirtual 22, 3) := by decide +kernel
theorem dX3_init_55 : decode cX3_init 55 = .ok (.iinc 3 1, 3) := by decide +kernel
theorem dX3_init_58 : decode cX3_init 58 = .ok (.goto (-33), 3) := by decide +kernel
theorem dX3_init_61 : decode cX3_init 61 = .ok (.return_, 1) := by decide +kernel
theorem dX3_put_0 : decode cX3_put 0 = .ok (.aload_n 0, 1) := by decide +kernel
theorem dX3_put_1 : decode cX3_put 1 = .ok (.getfield 15, 3) := by decide +kernel
theorem dX3_put_4 : decode cX3_put 4 = .ok (.iload_n 1, 1) := by decide +kernel
theorem dX3_put_5 : decode cX3_put 5 = .ok (.iload_n 2, 1) := by decide +kernel
theorem dX3_put_6 : decode cX3_put 6 = .ok (.iastore, 1) := by decide +kernel
theorem dX3_put_7 : decode cX3_put 7 = .ok (.aload_n 0, 1) := by decide +kernel
theorem dX3_put_8 : decode cX3_put 8 = .ok (.getfield 19, 3) := by decide +kernel
theorem dX3_put_11 : decode cX3_put 11 = .ok (.iload_n 1, 1) := by decide +kernel
theorem dX3_put_12 : decode cX3_put 12 = .ok (.iload_n 3, 1) := by decide +kernel
theorem dX3_put_13 : decode cX3_put 13 = .ok (.iastore, 1) := by decide +kernel
theorem dX3_put_14 : decode cX3_put 14 = .ok (.return_, 1) := by decide +kernel
theorem dX4_isIn_0 : decode cX4_isIn 0 = .ok (.iload_n 0, 1) := by decide +kernel
theorem dX4_isIn_1 : decode cX4_isIn 1 = .ok (.iload_n 1, 1) := by decide +kernel
theorem dX4_isIn_2 : decode cX4_isIn 2 = .ok (.if_icmp .lt 12, 3) := by decide +kernel
theorem dX4_isIn_5 : decode cX4_isIn 5 = .ok (.iload_n 0, 1) := by decide +kernel
theorem dX4_isIn_6 : decode cX4_isIn 6 = .ok (.iload_n 2, 1) := by decide +kernel
theorem dX4_isIn_7 : decode cX4_isIn 7 = .ok (.if_icmp .gt 7, 3) := by decide +kernel
theorem dX4_isIn_10 : decode cX4_isIn 10 = .ok (.iconst 1, 1) := by decide +kernel
theorem dX4_isIn_11 : decode cX4_isIn 11 = .ok (.goto 4, 3) := by decide +kernel
theorem dX4_isIn_14 : decode cX4_isIn 14 = .ok (.iconst 0, 1) := by decide +kernel
theorem dX4_isIn_15 : decode cX4_isIn 15 = .ok (.ireturn, 1) := by decide +kernel
theorem dX4_init_0 : decode cX4_init 0 = .ok (.aload_n 0, 1) := by decide +kernel
theorem dX4_init_1 : decode cX4_init 1 = .ok (.invokespecial 1, 3) := by decide +kernel
theorem dX4_init_4 : decode cX4_init 4 = .ok (.aload_n 0, 1) := by decide +kernel
theorem dX4_init_5 : decode cX4_init 5 = .ok (.new 7, 3) := by decide +kernel
theorem dX4_init_8 : decode cX4_init 8 = .ok (.dup, 1) := by decide +kernel
theorem dX4_init_9 : decode cX4_init 9 = .ok (.invokespecial 9, 3) := by decide +kernel
theorem dX4_init_12 : decode cX4_init 12 = .ok (.putfield 10, 3) := by decide +kernel
theorem dX4_init_15 : decode cX4_init 15 = .ok (.return_, 1) := by decide +kernel
