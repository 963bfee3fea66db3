theorem dX0_init_0 : decode cX0_init 0 = .ok (.aload_n 0, 1) := by decide +kernel
theorem dX0_init_1 : decode cX0_init 1 = .ok (.invokespecial 3, 3) := by decide +kernel
theorem dX0_init_4 : decode cX0_init 4 = .ok (.aload_n 0, 1) := by decide +kernel
theorem dX0_init_5 : decode cX0_init 5 = .ok (.iload_n 1, 1) := by decide +kernel
theorem dX0_init_6 : decode cX0_init 6 = .ok (.putfield 9, 3) := by decide +kernel
theorem dX0_init_9 : decode cX0_init 9 = .ok (.aload_n 0, 1) := by decide +kernel
theorem dX0_init_10 : decode cX0_init 10 = .ok (.iload_n 2, 1) := by decide +kernel
theorem dX0_init_11 : decode cX0_init 11 = .ok (.putfield 15, 3) := by decide +kernel
theorem dX0_init_14 : decode cX0_init 14 = .ok (.aload_n 0, 1) := by decide +kernel
theorem dX0_init_15 : decode cX0_init 15 = .ok (.iload_n 2, 1) := by decide +kernel
theorem dX0_init_16 : decode cX0_init 16 = .ok (.newarray .int, 2) := by decide +kernel
theorem dX0_init_18 : decode cX0_init 18 = .ok (.putfield 18, 3) := by decide +kernel
theorem dX0_init_21 : decode cX0_init 21 = .ok (.aload_n 0, 1) := by decide +kernel
theorem dX0_init_22 : decode cX0_init 22 = .ok (.iload_n 2, 1) := by decide +kernel
theorem dX0_init_23 : decode cX0_init 23 = .ok (.newarray .int, 2) := by decide +kernel
theorem dX0_init_25 : decode cX0_init 25 = .ok (.putfield 22, 3) := by decide +kernel
theorem dX0_init_28 : decode cX0_init 28 = .ok (.aload_n 0, 1) := by decide +kernel
theorem dX0_init_29 : decode cX0_init 29 = .ok (.iload_n 2, 1) := by decide +kernel
theorem dX0_init_30 : decode cX0_init 30 = .ok (.anewarray 10, 3) := by decide +kernel
theorem dX0_init_33 : decode cX0_init 33 = .ok (.putfield 25, 3) := by decide +kernel
theorem dX0_init_36 : decode cX0_init 36 = .ok (.iconst 0, 1) := by decide +kernel
theorem dX0_init_37 : decode cX0_init 37 = .ok (.istore_n 3, 1) := by decide +kernel
theorem dX0_init_38 : decode cX0_init 38 = .ok (.iload_n 3, 1) := by decide +kernel
theorem dX0_init_39 : decode cX0_init 39 = .ok (.iload_n 2, 1) := by decide +kernel
theorem dX0_init_40 : decode cX0_init 40 = .ok (.if_icmp .ge 41, 3) := by decide +kernel
theorem dX0_init_43 : decode cX0_init 43 = .ok (.aload_n 0, 1) := by decide +kernel
theorem dX0_init_44 : decode cX0_init 44 = .ok (.getfield 18, 3) := by decide +kernel
theorem dX0_init_47 : decode cX0_init 47 = .ok (.iload_n 3, 1) := by decide +kernel
theorem dX0_init_48 : decode cX0_init 48 = .ok (.iload_n 1, 1) := by decide +kernel
theorem dX0_init_49 : decode cX0_init 49 = .ok (.iconst 4, 1) := by decide +kernel
theorem dX0_init_50 : decode cX0_init 50 = .ok (.if_icmp .ne 7, 3) := by decide +kernel
theorem dX0_init_53 : decode cX0_init 53 = .ok (.iconst 0, 1) := by decide +kernel
theorem dX0_init_54 : decode cX0_init 54 = .ok (.goto 4, 3) := by decide +kernel
theorem dX0_init_57 : decode cX0_init 57 = .ok (.iconst 1, 1) := by decide +kernel
theorem dX0_init_58 : decode cX0_init 58 = .ok (.iastore, 1) := by decide +kernel
theorem dX0_init_59 : decode cX0_init 59 = .ok (.aload_n 0, 1) := by decide +kernel
theorem dX0_init_60 : decode cX0_init 60 = .ok (.getfield 22, 3) := by decide +kernel
theorem dX0_init_63 : decode cX0_init 63 = .ok (.iload_n 3, 1) := by decide +kernel
theorem dX0_init_64 : decode cX0_init 64 = .ok (.iload_n 1, 1) := by decide +kernel
theorem dX0_init_65 : decode cX0_init 65 = .ok (.iconst 4, 1) := by decide +kernel
theorem dX0_init_66 : decode cX0_init 66 = .ok (.if_icmp .ne 7, 3) := by decide +kernel
theorem dX0_init_69 : decode cX0_init 69 = .ok (.iconst (-1), 1) := by decide +kernel
theorem dX0_init_70 : decode cX0_init 70 = .ok (.goto 4, 3) := by decide +kernel
theorem dX0_init_73 : decode cX0_init 73 = .ok (.iconst 0, 1) := by decide +kernel
theorem dX0_init_74 : decode cX0_init 74 = .ok (.iastore, 1) := by decide +kernel
theorem dX0_init_75 : decode cX0_init 75 = .ok (.iinc 3 1, 3) := by decide +kernel
theorem dX0_init_78 : decode cX0_init 78 = .ok (.goto (-40), 3) := by decide +kernel
theorem dX0_init_81 : decode cX0_init 81 = .ok (.return_, 1) := by decide +kernel
theorem dX1_init_0 : decode cX1_init 0 = .ok (.aload_n 0, 1) := by decide +kernel
theorem dX1_init_1 : decode cX1_init 1 = .ok (.invokespecial 3, 3) := by decide +kernel
theorem dX1_init_4 : decode cX1_init 4 = .ok (.aload_n 0, 1) := by decide +kernel
theorem dX1_init_5 : decode cX1_init 5 = .ok (.new 9, 3) := by decide +kernel
theorem dX1_init_8 : decode cX1_init 8 = .ok (.dup, 1) := by decide +kernel
theorem dX1_init_9 : decode cX1_init 9 = .ok (.invokespecial 11, 3) := by decide +kernel
theorem dX1_init_12 : decode cX1_init 12 = .ok (.putfield 12, 3) := by decide +kernel
theorem dX1_init_15 : decode cX1_init 15 = .ok (.aload_n 0, 1) := by decide +kernel
theorem dX1_init_16 : decode cX1_init 16 = .ok (.iconst 0, 1) := by decide +kernel
theorem dX1_init_17 : decode cX1_init 17 = .ok (.putfield 16, 3) := by decide +kernel
theorem dX1_init_20 : decode cX1_init 20 = .ok (.aload_n 0, 1) := by decide +kernel
theorem dX1_init_21 : decode cX1_init 21 = .ok (.iconst 0, 1) := by decide +kernel
theorem dX1_init_22 : decode cX1_init 22 = .ok (.putfield 20, 3) := by decide +kernel
theorem dX1_init_25 : decode cX1_init 25 = .ok (.aload_n 0, 1) := by decide +kernel
theorem dX1_init_26 : decode cX1_init 26 = .ok (.iconst 0, 1) := by decide +kernel
theorem dX1_init_27 : decode cX1_init 27 = .ok (.putfield 23, 3) := by decide +kernel
theorem dX1_init_30 : decode cX1_init 30 = .ok (.aload_n 0, 1) := by decide +kernel
theorem dX1_init_31 : decode cX1_init 31 = .ok (.new 26, 3) := by decide +kernel
theorem dX1_init_34 : decode cX1_init 34 = .ok (.dup, 1) := by decide +kernel
theorem dX1_init_35 : decode cX1_init 35 = .ok (.iconst 4, 1) := by decide +kernel
theorem dX1_init_36 : decode cX1_init 36 = .ok (.iconst 1, 1) := by decide +kernel
theorem dX1_init_37 : decode cX1_init 37 = .ok (.invokespecial 28, 3) := by decide +kernel
theorem dX1_init_40 : decode cX1_init 40 = .ok (.putfield 31, 3) := by decide +kernel
theorem dX1_init_43 : decode cX1_init 43 = .ok (.aload_n 0, 1) := by decide +kernel
theorem dX1_init_44 : decode cX1_init 44 = .ok (.new 26, 3) := by decide +kernel
theorem dX1_init_47 : decode cX1_init 47 = .ok (.dup, 1) := by decide +kernel
theorem dX1_init_48 : decode cX1_init 48 = .ok (.iconst 4, 1) := by decide +kernel
theorem dX1_init_49 : decode cX1_init 49 = .ok (.iconst 1, 1) := by decide +kernel
theorem dX1_init_50 : decode cX1_init 50 = .ok (.invokespecial 28, 3) := by decide +kernel
theorem dX1_init_53 : decode cX1_init 53 = .ok (.putfield 35, 3) := by decide +kernel
theorem dX1_init_56 : decode cX1_init 56 = .ok (.aload_n 0, 1) := by decide +kernel
theorem dX1_init_57 : decode cX1_init 57 = .ok (.new 38, 3) := by decide +kernel
theorem dX1_init_60 : decode cX1_init 60 = .ok (.dup, 1) := by decide +kernel
theorem dX1_init_61 : decode cX1_init 61 = .ok (.invokespecial 40, 3) := by decide +kernel
theorem dX1_init_64 : decode cX1_init 64 = .ok (.putfield 41, 3) := by decide +kernel
theorem dX1_init_67 : decode cX1_init 67 = .ok (.aload_n 0, 1) := by decide +kernel
theorem dX1_init_68 : decode cX1_init 68 = .ok (.new 38, 3) := by decide +kernel
theorem dX1_init_71 : decode cX1_init 71 = .ok (.dup, 1) := by decide +kernel
theorem dX1_init_72 : decode cX1_init 72 = .ok (.invokespecial 40, 3) := by decide +kernel
theorem dX1_init_75 : decode cX1_init 75 = .ok (.putfield 45, 3) := by decide +kernel
theorem dX1_init_78 : decode cX1_init 78 = .ok (.return_, 1) := by decide +kernel
theorem dX1_make_0 : decode cX1_make 0 = .ok (.iload_n 1, 1) := by decide +kernel
theorem dX1_make_1 : decode cX1_make 1 = .ok (.ifCond .lt 8, 3) := by decide +kernel
theorem dX1_make_4 : decode cX1_make 4 = .ok (.iload_n 1, 1) := by decide +kernel
theorem dX1_make_5 : decode cX1_make 5 = .ok (.iconst 4, 1) := by decide +kernel
theorem dX1_make_6 : decode cX1_make 6 = .ok (.if_icmp .le 13, 3) := by decide +kernel
theorem dX1_make_9 : decode cX1_make 9 = .ok (.new 48, 3) := by decide +kernel
theorem dX1_make_12 : decode cX1_make 12 = .ok (.dup, 1) := by decide +kernel
theorem dX1_make_13 : decode cX1_make 13 = .ok (.ldc 50, 2) := by decide +kernel
theorem dX1_make_15 : decode cX1_make 15 = .ok (.invokespecial 52, 3) := by decide +kernel
theorem dX1_make_18 : decode cX1_make 18 = .ok (.athrow, 1) := by decide +kernel
theorem dX1_make_19 : decode cX1_make 19 = .ok (.iload_n 2, 1) := by decide +kernel
theorem dX1_make_20 : decode cX1_make 20 = .ok (.invokestatic 55, 3) := by decide +kernel
theorem dX1_make_23 : decode cX1_make 23 = .ok (.aload_n 0, 1) := by decide +kernel
theorem dX1_make_24 : decode cX1_make 24 = .ok (.iconst 1, 1) := by decide +kernel
theorem dX1_make_25 : decode cX1_make 25 = .ok (.invokevirtual 59, 3) := by decide +kernel
theorem dX1_make_28 : decode cX1_make 28 = .ok (.aload_n 0, 1) := by decide +kernel
theorem dX1_make_29 : decode cX1_make 29 = .ok (.new 26, 3) := by decide +kernel
theorem dX1_make_32 : decode cX1_make 32 = .ok (.dup, 1) := by decide +kernel
theorem dX1_make_33 : decode cX1_make 33 = .ok (.iload_n 1, 1) := by decide +kernel
theorem dX1_make_34 : decode cX1_make 34 = .ok (.iload_n 2, 1) := by decide +kernel
theorem dX1_make_35 : decode cX1_make 35 = .ok (.invokespecial 28, 3) := by decide +kernel
theorem dX1_make_38 : decode cX1_make 38 = .ok (.invokevirtual 62, 3) := by decide +kernel
theorem dX1_make_41 : decode cX1_make 41 = .ok (.getfield 66, 3) := by decide +kernel
theorem dX1_make_44 : decode cX1_make 44 = .ok (.ireturn, 1) := by decide +kernel
theorem dX1_drop_0 : decode cX1_drop 0 = .ok (.aload_n 0, 1) := by decide +kernel
theorem dX1_drop_1 : decode cX1_drop 1 = .ok (.getfield 12, 3) := by decide +kernel
theorem dX1_drop_4 : decode cX1_drop 4 = .ok (.invokevirtual 69, 3) := by decide +kernel
theorem dX1_drop_7 : decode cX1_drop 7 = .ok (.ifCond .eq 13, 3) := by decide +kernel
theorem dX1_drop_10 : decode cX1_drop 10 = .ok (.new 73, 3) := by decide +kernel
theorem dX1_drop_13 : decode cX1_drop 13 = .ok (.dup, 1) := by decide +kernel
theorem dX1_drop_14 : decode cX1_drop 14 = .ok (.ldc 75, 2) := by decide +kernel
theorem dX1_drop_16 : decode cX1_drop 16 = .ok (.invokespecial 77, 3) := by decide +kernel
theorem dX1_drop_19 : decode cX1_drop 19 = .ok (.athrow, 1) := by decide +kernel
theorem dX1_empty_0 : decode cX1_empty 0 = .ok (.aload_n 0, 1) := by decide +kernel
theorem dX1_empty_1 : decode cX1_empty 1 = .ok (.getfield 12, 3) := by decide +kernel
theorem dX1_empty_4 : decode cX1_empty 4 = .ok (.invokevirtual 78, 3) := by decide +kernel
theorem dX1_empty_7 : decode cX1_empty 7 = .ok (.istore_n 1, 1) := by decide +kernel
theorem dX1_empty_8 : decode cX1_empty 8 = .ok (.aload_n 0, 1) := by decide +kernel
theorem dX1_empty_9 : decode cX1_empty 9 = .ok (.getfield 12, 3) := by decide +kernel
theorem dX1_empty_12 : decode cX1_empty 12 = .ok (.invokevirtual 86, 3) := by decide +kernel
theorem dX1_empty_15 : decode cX1_empty 15 = .ok (.iload_n 1, 1) := by decide +kernel
theorem dX1_empty_16 : decode cX1_empty 16 = .ok (.ireturn, 1) := by decide +kernel
theorem dX1_put_0 : decode cX1_put 0 = .ok (.aload_n 0, 1) := by decide +kernel
theorem dX1_put_1 : decode cX1_put 1 = .ok (.iload_n 1, 1) := by decide +kernel
theorem dX1_put_2 : decode cX1_put 2 = .ok (.invokevirtual 89, 3) := by decide +kernel
theorem dX1_say_0 : decode cX1_say 0 = .ok (.aload_n 0, 1) := by decide +kernel
theorem dX1_say_1 : decode cX1_say 1 = .ok (.iload_n 1, 1) := by decide +kernel
theorem dX1_say_2 : decode cX1_say 2 = .ok (.invokevirtual 89, 3) := by decide +kernel
theorem dX1_none_0 : decode cX1_none 0 = .ok (.aload_n 0, 1) := by decide +kernel
theorem dX1_none_1 : decode cX1_none 1 = .ok (.iload_n 1, 1) := by decide +kernel
theorem dX1_none_2 : decode cX1_none 2 = .ok (.invokevirtual 89, 3) := by decide +kernel
theorem dX1_hang_0 : decode cX1_hang 0 = .ok (.aload_n 0, 1) := by decide +kernel
theorem dX1_hang_1 : decode cX1_hang 1 = .ok (.iload_n 1, 1) := by decide +kernel
theorem dX1_hang_2 : decode cX1_hang 2 = .ok (.invokevirtual 89, 3) := by decide +kernel
theorem dX1_swap_0 : decode cX1_swap 0 = .ok (.aload_n 0, 1) := by decide +kernel
theorem dX1_swap_1 : decode cX1_swap 1 = .ok (.iload_n 1, 1) := by decide +kernel
theorem dX1_swap_2 : decode cX1_swap 2 = .ok (.invokevirtual 89, 3) := by decide +kernel
theorem dX1_fill_0 : decode cX1_fill 0 = .ok (.aload_n 0, 1) := by decide +kernel
theorem dX1_fill_1 : decode cX1_fill 1 = .ok (.iload_n 1, 1) := by decide +kernel
theorem dX1_fill_2 : decode cX1_fill 2 = .ok (.invokevirtual 89, 3) := by decide +kernel
theorem dX1_fillRow_0 : decode cX1_fillRow 0 = .ok (.aload_n 0, 1) := by decide +kernel
theorem dX1_fillRow_1 : decode cX1_fillRow 1 = .ok (.iload_n 1, 1) := by decide +kernel
theorem dX1_fillRow_2 : decode cX1_fillRow 2 = .ok (.invokevirtual 89, 3) := by decide +kernel
theorem dX1_setAll_0 : decode cX1_setAll 0 = .ok (.aload_n 0, 1) := by decide +kernel
theorem dX1_setAll_1 : decode cX1_setAll 1 = .ok (.iload_n 1, 1) := by decide +kernel
theorem dX1_setAll_2 : decode cX1_setAll 2 = .ok (.invokevirtual 89, 3) := by decide +kernel
theorem dX1_setRows_0 : decode cX1_setRows 0 = .ok (.aload_n 0, 1) := by decide +kernel
theorem dX1_setRows_1 : decode cX1_setRows 1 = .ok (.iload_n 1, 1) := by decide +kernel
theorem dX1_setRows_2 : decode cX1_setRows 2 = .ok (.invokevirtual 89, 3) := by decide +kernel
theorem dX1_twin_0 : decode cX1_twin 0 = .ok (.aload_n 0, 1) := by decide +kernel
theorem dX1_twin_1 : decode cX1_twin 1 = .ok (.iload_n 1, 1) := by decide +kernel
theorem dX1_twin_2 : decode cX1_twin 2 = .ok (.invokevirtual 89, 3) := by decide +kernel
theorem dX1_deepTwin_0 : decode cX1_deepTwin 0 = .ok (.aload_n 0, 1) := by decide +kernel
theorem dX1_deepTwin_1 : decode cX1_deepTwin 1 = .ok (.iload_n 1, 1) := by decide +kernel
theorem dX1_deepTwin_2 : decode cX1_deepTwin 2 = .ok (.invokevirtual 89, 3) := by decide +kernel
theorem dX1_copy_0 : decode cX1_copy 0 = .ok (.aload_n 0, 1) := by decide +kernel
theorem dX1_copy_1 : decode cX1_copy 1 = .ok (.iload_n 1, 1) := by decide +kernel
theorem dX1_copy_2 : decode cX1_copy 2 = .ok (.invokevirtual 89, 3) := by decide +kernel
theorem dX1_kind_0 : decode cX1_kind 0 = .ok (.aload_n 0, 1) := by decide +kernel
theorem dX1_kind_1 : decode cX1_kind 1 = .ok (.iload_n 1, 1) := by decide +kernel
theorem dX1_kind_2 : decode cX1_kind 2 = .ok (.invokevirtual 89, 3) := by decide +kernel
theorem dX1_length_0 : decode cX1_length 0 = .ok (.aload_n 0, 1) := by decide +kernel
theorem dX1_length_1 : decode cX1_length 1 = .ok (.iload_n 1, 1) := by decide +kernel
theorem dX1_length_2 : decode cX1_length 2 = .ok (.invokevirtual 89, 3) := by decide +kernel
theorem dX1_depth_0 : decode cX1_depth 0 = .ok (.aload_n 0, 1) := by decide +kernel
theorem dX1_depth_1 : decode cX1_depth 1 = .ok (.iload_n 1, 1) := by decide +kernel
theorem dX1_depth_2 : decode cX1_depth 2 = .ok (.invokevirtual 89, 3) := by decide +kernel
theorem dX1_what_0 : decode cX1_what 0 = .ok (.aload_n 0, 1) := by decide +kernel
theorem dX1_what_1 : decode cX1_what 1 = .ok (.iload_n 1, 1) := by decide +kernel
theorem dX1_what_2 : decode cX1_what 2 = .ok (.invokevirtual 89, 3) := by decide +kernel
theorem dX1_at_0 : decode cX1_at 0 = .ok (.aload_n 0, 1) := by decide +kernel
theorem dX1_at_1 : decode cX1_at 1 = .ok (.iload_n 1, 1) := by decide +kernel
theorem dX1_at_2 : decode cX1_at 2 = .ok (.invokevirtual 89, 3) := by decide +kernel
theorem dX1_isDeep_0 : decode cX1_isDeep 0 = .ok (.aload_n 0, 1) := by decide +kernel
theorem dX1_isDeep_1 : decode cX1_isDeep 1 = .ok (.iload_n 1, 1) := by decide +kernel
theorem dX1_isDeep_2 : decode cX1_isDeep 2 = .ok (.invokevirtual 89, 3) := by decide +kernel
theorem dX1_isFlat_0 : decode cX1_isFlat 0 = .ok (.aload_n 0, 1) := by decide +kernel
theorem dX1_isFlat_1 : decode cX1_isFlat 1 = .ok (.iload_n 1, 1) := by decide +kernel
theorem dX1_isFlat_2 : decode cX1_isFlat 2 = .ok (.invokevirtual 89, 3) := by decide +kernel
theorem dX1_areDeep_0 : decode cX1_areDeep 0 = .ok (.aload_n 0, 1) := by decide +kernel
theorem dX1_areDeep_1 : decode cX1_areDeep 1 = .ok (.iload_n 1, 1) := by decide +kernel
theorem dX1_areDeep_2 : decode cX1_areDeep 2 = .ok (.invokevirtual 89, 3) := by decide +kernel
theorem dX1_hash_0 : decode cX1_hash 0 = .ok (.aload_n 0, 1) := by decide +kernel
theorem dX1_hash_1 : decode cX1_hash 1 = .ok (.iload_n 1, 1) := by decide +kernel
theorem dX1_hash_2 : decode cX1_hash 2 = .ok (.invokevirtual 89, 3) := by decide +kernel
theorem dX1_flatHash_0 : decode cX1_flatHash 0 = .ok (.aload_n 0, 1) := by decide +kernel
theorem dX1_flatHash_1 : decode cX1_flatHash 1 = .ok (.iload_n 1, 1) := by decide +kernel
theorem dX1_flatHash_2 : decode cX1_flatHash 2 = .ok (.invokevirtual 89, 3) := by decide +kernel
theorem dX1_text_0 : decode cX1_text 0 = .ok (.aload_n 0, 1) := by decide +kernel
theorem dX1_text_1 : decode cX1_text 1 = .ok (.getfield 41, 3) := by decide +kernel
theorem dX1_text_4 : decode cX1_text 4 = .ok (.aload_n 0, 1) := by decide +kernel
theorem dX1_text_5 : decode cX1_text 5 = .ok (.iload_n 1, 1) := by decide +kernel
theorem dX1_text_6 : decode cX1_text 6 = .ok (.invokevirtual 89, 3) := by decide +kernel
theorem dX1_differ_0 : decode cX1_differ 0 = .ok (.aload_n 0, 1) := by decide +kernel
theorem dX1_differ_1 : decode cX1_differ 1 = .ok (.iload_n 1, 1) := by decide +kernel
theorem dX1_differ_2 : decode cX1_differ 2 = .ok (.invokevirtual 89, 3) := by decide +kernel
theorem dX1_compare_0 : decode cX1_compare 0 = .ok (.aload_n 0, 1) := by decide +kernel
theorem dX1_compare_1 : decode cX1_compare 1 = .ok (.iload_n 1, 1) := by decide +kernel
theorem dX1_compare_2 : decode cX1_compare 2 = .ok (.invokevirtual 89, 3) := by decide +kernel
theorem dX1_knock_0 : decode cX1_knock 0 = .ok (.aload_n 0, 1) := by decide +kernel
theorem dX1_knock_1 : decode cX1_knock 1 = .ok (.dup, 1) := by decide +kernel
theorem dX1_knock_2 : decode cX1_knock 2 = .ok (.getfield 23, 3) := by decide +kernel
theorem dX1_knock_5 : decode cX1_knock 5 = .ok (.iconst 1, 1) := by decide +kernel
theorem dX1_knock_6 : decode cX1_knock 6 = .ok (.iadd, 1) := by decide +kernel
theorem dX1_knock_7 : decode cX1_knock 7 = .ok (.putfield 23, 3) := by decide +kernel
theorem dX1_knock_10 : decode cX1_knock 10 = .ok (.aload_n 0, 1) := by decide +kernel
theorem dX1_knock_11 : decode cX1_knock 11 = .ok (.getfield 23, 3) := by decide +kernel
theorem dX1_knock_14 : decode cX1_knock 14 = .ok (.ireturn, 1) := by decide +kernel
theorem dX1_house_0 : decode cX1_house 0 = .ok (.iload_n 1, 1) := by decide +kernel
theorem dX1_house_1 : decode cX1_house 1 = .ok (.tableswitch 72 0 5 #[39, 47, 52, 57, 62, 67], 39) := by decide +kernel
theorem dX1_house_40 : decode cX1_house 40 = .ok (.aload_n 0, 1) := by decide +kernel
theorem dX1_house_41 : decode cX1_house 41 = .ok (.getfield 12, 3) := by decide +kernel
theorem dX1_house_44 : decode cX1_house 44 = .ok (.invokevirtual 78, 3) := by decide +kernel
theorem dX1_house_47 : decode cX1_house 47 = .ok (.ireturn, 1) := by decide +kernel
theorem dX1_house_48 : decode cX1_house 48 = .ok (.aload_n 0, 1) := by decide +kernel
theorem dX1_house_49 : decode cX1_house 49 = .ok (.getfield 16, 3) := by decide +kernel
theorem dX1_house_52 : decode cX1_house 52 = .ok (.ireturn, 1) := by decide +kernel
theorem dX1_house_53 : decode cX1_house 53 = .ok (.aload_n 0, 1) := by decide +kernel
theorem dX1_house_54 : decode cX1_house 54 = .ok (.getfield 20, 3) := by decide +kernel
theorem dX1_house_57 : decode cX1_house 57 = .ok (.ireturn, 1) := by decide +kernel
theorem dX1_house_58 : decode cX1_house 58 = .ok (.aload_n 0, 1) := by decide +kernel
theorem dX1_house_59 : decode cX1_house 59 = .ok (.getfield 23, 3) := by decide +kernel
theorem dX1_house_62 : decode cX1_house 62 = .ok (.ireturn, 1) := by decide +kernel
theorem dX1_house_63 : decode cX1_house 63 = .ok (.aload_n 0, 1) := by decide +kernel
theorem dX1_house_64 : decode cX1_house 64 = .ok (.invokevirtual 225, 3) := by decide +kernel
theorem dX1_house_67 : decode cX1_house 67 = .ok (.ireturn, 1) := by decide +kernel
theorem dX1_house_68 : decode cX1_house 68 = .ok (.aload_n 0, 1) := by decide +kernel
theorem dX1_house_69 : decode cX1_house 69 = .ok (.invokevirtual 228, 3) := by decide +kernel
theorem dX1_house_72 : decode cX1_house 72 = .ok (.ireturn, 1) := by decide +kernel
theorem dX1_house_73 : decode cX1_house 73 = .ok (.new 48, 3) := by decide +kernel
theorem dX1_house_76 : decode cX1_house 76 = .ok (.dup, 1) := by decide +kernel
theorem dX1_house_77 : decode cX1_house 77 = .ok (.ldc 231, 2) := by decide +kernel
theorem dX1_house_79 : decode cX1_house 79 = .ok (.invokespecial 52, 3) := by decide +kernel
theorem dX1_house_82 : decode cX1_house 82 = .ok (.athrow, 1) := by decide +kernel
theorem dX1_isSound_0 : decode cX1_isSound 0 = .ok (.iconst 0, 1) := by decide +kernel
theorem dX1_isSound_1 : decode cX1_isSound 1 = .ok (.istore_n 1, 1) := by decide +kernel
theorem dX1_isSound_2 : decode cX1_isSound 2 = .ok (.iload_n 1, 1) := by decide +kernel
theorem dX1_isSound_3 : decode cX1_isSound 3 = .ok (.aload_n 0, 1) := by decide +kernel
theorem dX1_isSound_4 : decode cX1_isSound 4 = .ok (.getfield 12, 3) := by decide +kernel
theorem dX1_isSound_7 : decode cX1_isSound 7 = .ok (.invokevirtual 78, 3) := by decide +kernel
theorem dX1_isSound_10 : decode cX1_isSound 10 = .ok (.if_icmp .ge 79, 3) := by decide +kernel
theorem dX1_isSound_89 : decode cX1_isSound 89 = .ok (.iconst 1, 1) := by decide +kernel
theorem dX1_isSound_90 : decode cX1_isSound 90 = .ok (.ireturn, 1) := by decide +kernel
theorem dX1_digest_0 : decode cX1_digest 0 = .ok (.ldc2_w 243, 3) := by decide +kernel
theorem dX1_digest_3 : decode cX1_digest 3 = .ok (.lstore_n 1, 1) := by decide +kernel
theorem dX1_digest_4 : decode cX1_digest 4 = .ok (.iconst 0, 1) := by decide +kernel
theorem dX1_digest_5 : decode cX1_digest 5 = .ok (.istore_n 3, 1) := by decide +kernel
theorem dX1_digest_6 : decode cX1_digest 6 = .ok (.iload_n 3, 1) := by decide +kernel
theorem dX1_digest_7 : decode cX1_digest 7 = .ok (.iconst 5, 1) := by decide +kernel
theorem dX1_digest_8 : decode cX1_digest 8 = .ok (.if_icmp .gt 22, 3) := by decide +kernel
theorem dX1_digest_11 : decode cX1_digest 11 = .ok (.lload_n 1, 1) := by decide +kernel
theorem dX1_digest_12 : decode cX1_digest 12 = .ok (.ldc2_w 245, 3) := by decide +kernel
theorem dX1_digest_15 : decode cX1_digest 15 = .ok (.lmul, 1) := by decide +kernel
theorem dX1_digest_16 : decode cX1_digest 16 = .ok (.aload_n 0, 1) := by decide +kernel
theorem dX1_digest_17 : decode cX1_digest 17 = .ok (.iload_n 3, 1) := by decide +kernel
theorem dX1_digest_18 : decode cX1_digest 18 = .ok (.invokevirtual 247, 3) := by decide +kernel
theorem dX1_digest_21 : decode cX1_digest 21 = .ok (.i2l, 1) := by decide +kernel
theorem dX1_digest_22 : decode cX1_digest 22 = .ok (.ladd, 1) := by decide +kernel
theorem dX1_digest_23 : decode cX1_digest 23 = .ok (.lstore_n 1, 1) := by decide +kernel
theorem dX1_digest_24 : decode cX1_digest 24 = .ok (.iinc 3 1, 3) := by decide +kernel
theorem dX1_digest_27 : decode cX1_digest 27 = .ok (.goto (-21), 3) := by decide +kernel
theorem dX1_digest_30 : decode cX1_digest 30 = .ok (.iconst 0, 1) := by decide +kernel
theorem dX1_digest_31 : decode cX1_digest 31 = .ok (.istore_n 3, 1) := by decide +kernel
theorem dX1_digest_32 : decode cX1_digest 32 = .ok (.iload_n 3, 1) := by decide +kernel
theorem dX1_digest_33 : decode cX1_digest 33 = .ok (.aload_n 0, 1) := by decide +kernel
theorem dX1_digest_34 : decode cX1_digest 34 = .ok (.getfield 12, 3) := by decide +kernel
theorem dX1_digest_37 : decode cX1_digest 37 = .ok (.invokevirtual 78, 3) := by decide +kernel
theorem dX1_digest_40 : decode cX1_digest 40 = .ok (.if_icmp .ge 16, 3) := by decide +kernel
theorem dX1_digest_56 : decode cX1_digest 56 = .ok (.iconst 0, 1) := by decide +kernel
theorem dX1_digest_57 : decode cX1_digest 57 = .ok (.istore_n 3, 1) := by decide +kernel
theorem dX1_digest_58 : decode cX1_digest 58 = .ok (.iload_n 3, 1) := by decide +kernel
theorem dX1_digest_59 : decode cX1_digest 59 = .ok (.aload_n 0, 1) := by decide +kernel
theorem dX1_digest_60 : decode cX1_digest 60 = .ok (.getfield 12, 3) := by decide +kernel
theorem dX1_digest_63 : decode cX1_digest 63 = .ok (.invokevirtual 78, 3) := by decide +kernel
theorem dX1_digest_66 : decode cX1_digest 66 = .ok (.if_icmp .ge 55, 3) := by decide +kernel
theorem dX1_digest_121 : decode cX1_digest 121 = .ok (.lload_n 1, 1) := by decide +kernel
theorem dX1_digest_122 : decode cX1_digest 122 = .ok (.ldc2_w 245, 3) := by decide +kernel
theorem dX1_digest_125 : decode cX1_digest 125 = .ok (.lmul, 1) := by decide +kernel
theorem dX1_digest_126 : decode cX1_digest 126 = .ok (.aload_n 0, 1) := by decide +kernel
theorem dX1_digest_127 : decode cX1_digest 127 = .ok (.invokevirtual 258, 3) := by decide +kernel
theorem dX1_digest_130 : decode cX1_digest 130 = .ok (.ifCond .eq 7, 3) := by decide +kernel
theorem dX1_digest_133 : decode cX1_digest 133 = .ok (.iconst 1, 1) := by decide +kernel
theorem dX1_digest_134 : decode cX1_digest 134 = .ok (.goto 4, 3) := by decide +kernel
theorem dX1_digest_138 : decode cX1_digest 138 = .ok (.i2l, 1) := by decide +kernel
theorem dX1_digest_139 : decode cX1_digest 139 = .ok (.ladd, 1) := by decide +kernel
theorem dX1_digest_140 : decode cX1_digest 140 = .ok (.lreturn, 1) := by decide +kernel
theorem dX1_rowOf_0 : decode cX1_rowOf 0 = .ok (.iload_n 1, 1) := by decide +kernel
theorem dX1_rowOf_1 : decode cX1_rowOf 1 = .ok (.ifCond .lt 14, 3) := by decide +kernel
theorem dX1_rowOf_4 : decode cX1_rowOf 4 = .ok (.iload_n 1, 1) := by decide +kernel
theorem dX1_rowOf_5 : decode cX1_rowOf 5 = .ok (.aload_n 0, 1) := by decide +kernel
theorem dX1_rowOf_6 : decode cX1_rowOf 6 = .ok (.getfield 12, 3) := by decide +kernel
theorem dX1_rowOf_9 : decode cX1_rowOf 9 = .ok (.invokevirtual 78, 3) := by decide +kernel
theorem dX1_rowOf_12 : decode cX1_rowOf 12 = .ok (.if_icmp .lt 14, 3) := by decide +kernel
theorem dX1_rowOf_15 : decode cX1_rowOf 15 = .ok (.new 261, 3) := by decide +kernel
theorem dX1_rowOf_18 : decode cX1_rowOf 18 = .ok (.dup, 1) := by decide +kernel
theorem dX1_rowOf_19 : decode cX1_rowOf 19 = .ok (.ldc_w 263, 3) := by decide +kernel
theorem dX1_rowOf_22 : decode cX1_rowOf 22 = .ok (.invokespecial 265, 3) := by decide +kernel
theorem dX1_rowOf_25 : decode cX1_rowOf 25 = .ok (.athrow, 1) := by decide +kernel
theorem dX1_requireLength_0 : decode cX1_requireLength 0 = .ok (.iload_n 0, 1) := by decide +kernel
theorem dX1_requireLength_1 : decode cX1_requireLength 1 = .ok (.ifCond .lt 8, 3) := by decide +kernel
theorem dX1_requireLength_4 : decode cX1_requireLength 4 = .ok (.iload_n 0, 1) := by decide +kernel
theorem dX1_requireLength_5 : decode cX1_requireLength 5 = .ok (.iconst 4, 1) := by decide +kernel
theorem dX1_requireLength_6 : decode cX1_requireLength 6 = .ok (.if_icmp .le 14, 3) := by decide +kernel
theorem dX1_requireLength_9 : decode cX1_requireLength 9 = .ok (.new 48, 3) := by decide +kernel
theorem dX1_requireLength_12 : decode cX1_requireLength 12 = .ok (.dup, 1) := by decide +kernel
theorem dX1_requireLength_13 : decode cX1_requireLength 13 = .ok (.ldc_w 270, 3) := by decide +kernel
theorem dX1_requireLength_16 : decode cX1_requireLength 16 = .ok (.invokespecial 52, 3) := by decide +kernel
theorem dX1_requireLength_19 : decode cX1_requireLength 19 = .ok (.athrow, 1) := by decide +kernel
theorem dX1_requireLength_20 : decode cX1_requireLength 20 = .ok (.return_, 1) := by decide +kernel
theorem dX1_requireRoom_0 : decode cX1_requireRoom 0 = .ok (.aload_n 0, 1) := by decide +kernel
theorem dX1_requireRoom_1 : decode cX1_requireRoom 1 = .ok (.getfield 12, 3) := by decide +kernel
theorem dX1_requireRoom_4 : decode cX1_requireRoom 4 = .ok (.invokevirtual 78, 3) := by decide +kernel
theorem dX1_requireRoom_7 : decode cX1_requireRoom 7 = .ok (.iload_n 1, 1) := by decide +kernel
theorem dX1_requireRoom_8 : decode cX1_requireRoom 8 = .ok (.iadd, 1) := by decide +kernel
theorem dX1_requireRoom_9 : decode cX1_requireRoom 9 = .ok (.bipush 12, 2) := by decide +kernel
theorem dX1_requireRoom_11 : decode cX1_requireRoom 11 = .ok (.if_icmp .le 14, 3) := by decide +kernel
theorem dX1_requireRoom_25 : decode cX1_requireRoom 25 = .ok (.return_, 1) := by decide +kernel
theorem dX1_addRow_0 : decode cX1_addRow 0 = .ok (.aload_n 1, 1) := by decide +kernel
theorem dX1_addRow_1 : decode cX1_addRow 1 = .ok (.aload_n 0, 1) := by decide +kernel
theorem dX1_addRow_2 : decode cX1_addRow 2 = .ok (.getfield 12, 3) := by decide +kernel
theorem dX1_addRow_5 : decode cX1_addRow 5 = .ok (.invokevirtual 78, 3) := by decide +kernel
theorem dX1_addRow_8 : decode cX1_addRow 8 = .ok (.putfield 66, 3) := by decide +kernel
theorem dX1_addRow_11 : decode cX1_addRow 11 = .ok (.aload_n 0, 1) := by decide +kernel
theorem dX1_addRow_12 : decode cX1_addRow 12 = .ok (.getfield 12, 3) := by decide +kernel
theorem dX1_addRow_15 : decode cX1_addRow 15 = .ok (.aload_n 1, 1) := by decide +kernel
theorem dX1_addRow_16 : decode cX1_addRow 16 = .ok (.invokevirtual 286, 3) := by decide +kernel
theorem dX1_addRow_19 : decode cX1_addRow 19 = .ok (.pop, 1) := by decide +kernel
theorem dX1_addRow_20 : decode cX1_addRow 20 = .ok (.aload_n 1, 1) := by decide +kernel
theorem dX1_addRow_21 : decode cX1_addRow 21 = .ok (.areturn, 1) := by decide +kernel
theorem dX1_greatestDepth_0 : decode cX1_greatestDepth 0 = .ok (.iconst 0, 1) := by decide +kernel
theorem dX1_greatestDepth_1 : decode cX1_greatestDepth 1 = .ok (.istore_n 1, 1) := by decide +kernel
theorem dX1_greatestDepth_2 : decode cX1_greatestDepth 2 = .ok (.iconst 0, 1) := by decide +kernel
theorem dX1_greatestDepth_3 : decode cX1_greatestDepth 3 = .ok (.istore_n 2, 1) := by decide +kernel
theorem dX1_greatestDepth_4 : decode cX1_greatestDepth 4 = .ok (.iload_n 2, 1) := by decide +kernel
theorem dX1_greatestDepth_5 : decode cX1_greatestDepth 5 = .ok (.aload_n 0, 1) := by decide +kernel
theorem dX1_greatestDepth_6 : decode cX1_greatestDepth 6 = .ok (.getfield 12, 3) := by decide +kernel
theorem dX1_greatestDepth_9 : decode cX1_greatestDepth 9 = .ok (.invokevirtual 78, 3) := by decide +kernel
theorem dX1_greatestDepth_12 : decode cX1_greatestDepth 12 = .ok (.if_icmp .ge 28, 3) := by decide +kernel
theorem dX1_greatestDepth_40 : decode cX1_greatestDepth 40 = .ok (.iload_n 1, 1) := by decide +kernel
theorem dX1_greatestDepth_41 : decode cX1_greatestDepth 41 = .ok (.ireturn, 1) := by decide +kernel
theorem dX1_pairsDeep_0 : decode cX1_pairsDeep 0 = .ok (.iconst 0, 1) := by decide +kernel
theorem dX1_pairsDeep_1 : decode cX1_pairsDeep 1 = .ok (.istore_n 1, 1) := by decide +kernel
theorem dX1_pairsDeep_2 : decode cX1_pairsDeep 2 = .ok (.iconst 0, 1) := by decide +kernel
theorem dX1_pairsDeep_3 : decode cX1_pairsDeep 3 = .ok (.istore_n 2, 1) := by decide +kernel
theorem dX1_pairsDeep_4 : decode cX1_pairsDeep 4 = .ok (.iload_n 2, 1) := by decide +kernel
theorem dX1_pairsDeep_5 : decode cX1_pairsDeep 5 = .ok (.aload_n 0, 1) := by decide +kernel
theorem dX1_pairsDeep_6 : decode cX1_pairsDeep 6 = .ok (.getfield 12, 3) := by decide +kernel
theorem dX1_pairsDeep_9 : decode cX1_pairsDeep 9 = .ok (.invokevirtual 78, 3) := by decide +kernel
theorem dX1_pairsDeep_12 : decode cX1_pairsDeep 12 = .ok (.if_icmp .ge 62, 3) := by decide +kernel
theorem dX1_pairsDeep_74 : decode cX1_pairsDeep 74 = .ok (.iload_n 1, 1) := by decide +kernel
theorem dX1_pairsDeep_75 : decode cX1_pairsDeep 75 = .ok (.ireturn, 1) := by decide +kernel
theorem dX2_init_0 : decode cX2_init 0 = .ok (.aload_n 0, 1) := by decide +kernel
theorem dX2_init_1 : decode cX2_init 1 = .ok (.invokespecial 1, 3) := by decide +kernel
theorem dX2_init_4 : decode cX2_init 4 = .ok (.return_, 1) := by decide +kernel
theorem dX3_init_0 : decode cX3_init 0 = .ok (.aload_n 0, 1) := by decide +kernel
theorem dX3_init_1 : decode cX3_init 1 = .ok (.invokespecial 3, 3) := by decide +kernel
theorem dX3_init_4 : decode cX3_init 4 = .ok (.aload_n 0, 1) := by decide +kernel
theorem dX3_init_5 : decode cX3_init 5 = .ok (.iload_n 1, 1) := by decide +kernel
theorem dX3_init_6 : decode cX3_init 6 = .ok (.putfield 9, 3) := by decide +kernel
theorem dX3_init_9 : decode cX3_init 9 = .ok (.aload_n 0, 1) := by decide +kernel
theorem dX3_init_10 : decode cX3_init 10 = .ok (.iload_n 2, 1) := by decide +kernel
theorem dX3_init_11 : decode cX3_init 11 = .ok (.newarray .int, 2) := by decide +kernel
theorem dX3_init_13 : decode cX3_init 13 = .ok (.putfield 15, 3) := by decide +kernel
theorem dX3_init_16 : decode cX3_init 16 = .ok (.aload_n 0, 1) := by decide +kernel
theorem dX3_init_17 : decode cX3_init 17 = .ok (.iload_n 2, 1) := by decide +kernel
theorem dX3_init_18 : decode cX3_init 18 = .ok (.newarray .int, 2) := by decide +kernel
theorem dX3_init_20 : decode cX3_init 20 = .ok (.putfield 19, 3) := by decide +kernel
theorem dX3_init_23 : decode cX3_init 23 = .ok (.iconst 0, 1) := by decide +kernel
theorem dX3_init_24 : decode cX3_init 24 = .ok (.istore_n 3, 1) := by decide +kernel
theorem dX3_init_25 : decode cX3_init 25 = .ok (.iload_n 3, 1) := by decide +kernel
theorem dX3_init_26 : decode cX3_init 26 = .ok (.iload_n 2, 1) := by decide +kernel
theorem dX3_init_27 : decode cX3_init 27 = .ok (.if_icmp .ge 34, 3) := by decide +kernel
theorem dX3_init_30 : decode cX3_init 30 = .ok (.aload_n 0, 1) := by decide +kernel
theorem dX3_init_31 : decode cX3_init 31 = .ok (.iload_n 3, 1) := by decide +kernel
theorem dX3_init_32 : decode cX3_init 32 = .ok (.iload_n 1, 1) := by decide +kernel
theorem dX3_init_33 : decode cX3_init 33 = .ok (.iconst 4, 1) := by decide +kernel
theorem dX3_init_34 : decode cX3_init 34 = .ok (.if_icmp .ne 7, 3) := by decide +kernel
theorem dX3_init_37 : decode cX3_init 37 = .ok (.iconst 0, 1) := by decide +kernel
theorem dX3_init_38 : decode cX3_init 38 = .ok (.goto 4, 3) := by decide +kernel
theorem dX3_init_41 : decode cX3_init 41 = .ok (.iconst 1, 1) := by decide +kernel
theorem dX3_init_42 : decode cX3_init 42 = .ok (.iload_n 1, 1) := by decide +kernel
theorem dX3_init_43 : decode cX3_init 43 = .ok (.iconst 4, 1) := by decide +kernel
theorem dX3_init_44 : decode cX3_init 44 = .ok (.if_icmp .ne 7, 3) := by decide +kernel
theorem dX3_init_47 : decode cX3_init 47 = .ok (.iconst (-1), 1) := by decide +kernel
theorem dX3_init_48 : decode cX3_init 48 = .ok (.goto 4, 3) := by decide +kernel
theorem dX3_init_51 : decode cX3_init 51 = .ok (.iconst 0, 1) := by decide +kernel
theorem dX3_init_52 : decode cX3_init 52 = .ok (.invokevirtual 22, 3) := by decide +kernel
theorem dX3_init_55 : decode cX3_init 55 = .ok (.iinc 3 1, 3) := by decide +kernel
theorem dX3_init_58 : decode cX3_init 58 = .ok (.goto (-33), 3) := by decide +kernel
theorem dX3_init_61 : decode cX3_init 61 = .ok (.return_, 1) := by decide +kernel
theorem dX3_put_0 : decode cX3_put 0 = .ok (.aload_n 0, 1) := by decide +kernel
theorem dX3_put_1 : decode cX3_put 1 = .ok (.getfield 15, 3) := by decide +kernel
theorem dX3_put_4 : decode cX3_put 4 = .ok (.iload_n 1, 1) := by decide +kernel
theorem dX3_put_5 : decode cX3_put 5 = .ok (.iload_n 2, 1) := by decide +kernel
theorem dX3_put_6 : decode cX3_put 6 = .ok (.iastore, 1) := by decide +kernel
theorem dX3_put_7 : decode cX3_put 7 = .ok (.aload_n 0, 1) := by decide +kernel
theorem dX3_put_8 : decode cX3_put 8 = .ok (.getfield 19, 3) := by decide +kernel
theorem dX3_put_11 : decode cX3_put 11 = .ok (.iload_n 1, 1) := by decide +kernel
theorem dX3_put_12 : decode cX3_put 12 = .ok (.iload_n 3, 1) := by decide +kernel
theorem dX3_put_13 : decode cX3_put 13 = .ok (.iastore, 1) := by decide +kernel
theorem dX3_put_14 : decode cX3_put 14 = .ok (.return_, 1) := by decide +kernel
theorem dX4_isIn_0 : decode cX4_isIn 0 = .ok (.iload_n 0, 1) := by decide +kernel
theorem dX4_isIn_1 : decode cX4_isIn 1 = .ok (.iload_n 1, 1) := by decide +kernel
theorem dX4_isIn_2 : decode cX4_isIn 2 = .ok (.if_icmp .lt 12, 3) := by decide +kernel
theorem dX4_isIn_5 : decode cX4_isIn 5 = .ok (.iload_n 0, 1) := by decide +kernel
theorem dX4_isIn_6 : decode cX4_isIn 6 = .ok (.iload_n 2, 1) := by decide +kernel
theorem dX4_isIn_7 : decode cX4_isIn 7 = .ok (.if_icmp .gt 7, 3) := by decide +kernel
theorem dX4_isIn_10 : decode cX4_isIn 10 = .ok (.iconst 1, 1) := by decide +kernel
theorem dX4_isIn_11 : decode cX4_isIn 11 = .ok (.goto 4, 3) := by decide +kernel
theorem dX4_isIn_14 : decode cX4_isIn 14 = .ok (.iconst 0, 1) := by decide +kernel
theorem dX4_isIn_15 : decode cX4_isIn 15 = .ok (.ireturn, 1) := by decide +kernel
theorem dX4_init_0 : decode cX4_init 0 = .ok (.aload_n 0, 1) := by decide +kernel
theorem dX4_init_1 : decode cX4_init 1 = .ok (.invokespecial 1, 3) := by decide +kernel
theorem dX4_init_4 : decode cX4_init 4 = .ok (.aload_n 0, 1) := by decide +kernel
theorem dX4_init_5 : decode cX4_init 5 = .ok (.new 7, 3) := by decide +kernel
theorem dX4_init_8 : decode cX4_init 8 = .ok (.dup, 1) := by decide +kernel
theorem dX4_init_9 : decode cX4_init 9 = .ok (.invokespecial 9, 3) := by decide +kernel
theorem dX4_init_12 : decode cX4_init 12 = .ok (.putfield 10, 3) := by decide +kernel
theorem dX4_init_15 : decode cX4_init 15 = .ok (.return_, 1) := by decide +kernel
theorem dX4_thrown_0 : decode cX4_thrown 0 = .ok (.aload_n 0, 1) := by decide +kernel
theorem dX4_thrown_1 : decode cX4_thrown 1 = .ok (.getfield 16, 3) := by decide +kernel
theorem dX4_thrown_4 : decode cX4_thrown 4 = .ok (.ireturn, 1) := by decide +kernel
theorem dX4_refuse_0 : decode cX4_refuse 0 = .ok (.iload_n 1, 1) := by decide +kernel
theorem dX4_refuse_1 : decode cX4_refuse 1 = .ok (.ifCond .eq 15, 3) := by decide +kernel
theorem dX4_refuse_4 : decode cX4_refuse 4 = .ok (.aload_n 0, 1) := by decide +kernel
theorem dX4_refuse_5 : decode cX4_refuse 5 = .ok (.getfield 16, 3) := by decide +kernel
theorem dX4_refuse_8 : decode cX4_refuse 8 = .ok (.ifCond .ne 8, 3) := by decide +kernel
theorem dX4_refuse_11 : decode cX4_refuse 11 = .ok (.aload_n 0, 1) := by decide +kernel
theorem dX4_refuse_12 : decode cX4_refuse 12 = .ok (.iload_n 2, 1) := by decide +kernel
theorem dX4_refuse_13 : decode cX4_refuse 13 = .ok (.putfield 16, 3) := by decide +kernel
theorem dX4_refuse_16 : decode cX4_refuse 16 = .ok (.aload_n 0, 1) := by decide +kernel
theorem dX4_refuse_17 : decode cX4_refuse 17 = .ok (.getfield 16, 3) := by decide +kernel
theorem dX4_refuse_20 : decode cX4_refuse 20 = .ok (.ifCond .le 7, 3) := by decide +kernel
theorem dX4_refuse_23 : decode cX4_refuse 23 = .ok (.iconst 1, 1) := by decide +kernel
theorem dX4_refuse_24 : decode cX4_refuse 24 = .ok (.goto 4, 3) := by decide +kernel
theorem dX4_refuse_27 : decode cX4_refuse 27 = .ok (.iconst 0, 1) := by decide +kernel
theorem dX4_refuse_28 : decode cX4_refuse 28 = .ok (.ireturn, 1) := by decide +kernel
theorem dX4_start_0 : decode cX4_start 0 = .ok (.aload_n 0, 1) := by decide +kernel
theorem dX4_start_1 : decode cX4_start 1 = .ok (.iconst 0, 1) := by decide +kernel
theorem dX4_start_2 : decode cX4_start 2 = .ok (.putfield 16, 3) := by decide +kernel
theorem dX4_start_5 : decode cX4_start 5 = .ok (.aload_n 0, 1) := by decide +kernel
theorem dX4_start_6 : decode cX4_start 6 = .ok (.iload_n 1, 1) := by decide +kernel
theorem dX4_start_7 : decode cX4_start 7 = .ok (.iload_n 2, 1) := by decide +kernel
theorem dX4_start_8 : decode cX4_start 8 = .ok (.invokevirtual 20, 3) := by decide +kernel
theorem dX4_start_11 : decode cX4_start 11 = .ok (.ireturn, 1) := by decide +kernel
theorem dX4_isNoRow_0 : decode cX4_isNoRow 0 = .ok (.iload_n 1, 1) := by decide +kernel
theorem dX4_isNoRow_1 : decode cX4_isNoRow 1 = .ok (.iconst 0, 1) := by decide +kernel
theorem dX4_isNoRow_2 : decode cX4_isNoRow 2 = .ok (.aload_n 0, 1) := by decide +kernel
theorem dX4_isNoRow_3 : decode cX4_isNoRow 3 = .ok (.getfield 10, 3) := by decide +kernel
theorem dX4_isNoRow_6 : decode cX4_isNoRow 6 = .ok (.invokevirtual 24, 3) := by decide +kernel
theorem dX4_isNoRow_9 : decode cX4_isNoRow 9 = .ok (.iconst 1, 1) := by decide +kernel
theorem dX4_isNoRow_10 : decode cX4_isNoRow 10 = .ok (.isub, 1) := by decide +kernel
theorem dX4_isNoRow_11 : decode cX4_isNoRow 11 = .ok (.invokestatic 28, 3) := by decide +kernel
theorem dX4_isNoRow_14 : decode cX4_isNoRow 14 = .ok (.ifCond .ne 7, 3) := by decide +kernel
theorem dX4_isNoRow_17 : decode cX4_isNoRow 17 = .ok (.iconst 1, 1) := by decide +kernel
theorem dX4_isNoRow_18 : decode cX4_isNoRow 18 = .ok (.goto 4, 3) := by decide +kernel
theorem dX4_isNoRow_22 : decode cX4_isNoRow 22 = .ok (.ireturn, 1) := by decide +kernel
theorem dX4_isNoPlace_0 : decode cX4_isNoPlace 0 = .ok (.aload_n 0, 1) := by decide +kernel
theorem dX4_isNoPlace_1 : decode cX4_isNoPlace 1 = .ok (.iload_n 1, 1) := by decide +kernel
theorem dX4_isNoPlace_2 : decode cX4_isNoPlace 2 = .ok (.invokevirtual 32, 3) := by decide +kernel
theorem dX4_isNoPlace_5 : decode cX4_isNoPlace 5 = .ok (.ifCond .ne 27, 3) := by decide +kernel
theorem dX4_isNoPlace_32 : decode cX4_isNoPlace 32 = .ok (.iconst 1, 1) := by decide +kernel
theorem dX4_isNoPlace_33 : decode cX4_isNoPlace 33 = .ok (.goto 4, 3) := by decide +kernel
theorem dX4_isNoPlace_37 : decode cX4_isNoPlace 37 = .ok (.ireturn, 1) := by decide +kernel
theorem dX4_make_0 : decode cX4_make 0 = .ok (.aload_n 0, 1) := by decide +kernel
theorem dX4_make_1 : decode cX4_make 1 = .ok (.iload_n 1, 1) := by decide +kernel
theorem dX4_make_2 : decode cX4_make 2 = .ok (.iconst 0, 1) := by decide +kernel
theorem dX4_make_3 : decode cX4_make 3 = .ok (.iconst 4, 1) := by decide +kernel
theorem dX4_make_4 : decode cX4_make 4 = .ok (.invokestatic 28, 3) := by decide +kernel
theorem dX4_make_7 : decode cX4_make 7 = .ok (.ifCond .eq 12, 3) := by decide +kernel
theorem dX4_make_10 : decode cX4_make 10 = .ok (.iload_n 2, 1) := by decide +kernel
theorem dX4_make_11 : decode cX4_make 11 = .ok (.iconst 0, 1) := by decide +kernel
theorem dX4_make_12 : decode cX4_make 12 = .ok (.iconst 4, 1) := by decide +kernel
theorem dX4_make_13 : decode cX4_make 13 = .ok (.invokestatic 28, 3) := by decide +kernel
theorem dX4_make_16 : decode cX4_make 16 = .ok (.ifCond .ne 7, 3) := by decide +kernel
theorem dX4_make_19 : decode cX4_make 19 = .ok (.iconst 1, 1) := by decide +kernel
theorem dX4_make_20 : decode cX4_make 20 = .ok (.goto 4, 3) := by decide +kernel
theorem dX4_make_23 : decode cX4_make 23 = .ok (.iconst 0, 1) := by decide +kernel
theorem dX4_make_24 : decode cX4_make 24 = .ok (.iconst 1, 1) := by decide +kernel
theorem dX4_make_25 : decode cX4_make 25 = .ok (.invokevirtual 73, 3) := by decide +kernel
theorem dX4_make_28 : decode cX4_make 28 = .ok (.ifCond .ne 28, 3) := by decide +kernel
theorem dX4_make_31 : decode cX4_make 31 = .ok (.aload_n 0, 1) := by decide +kernel
theorem dX4_make_32 : decode cX4_make 32 = .ok (.aload_n 0, 1) := by decide +kernel
theorem dX4_make_33 : decode cX4_make 33 = .ok (.getfield 10, 3) := by decide +kernel
theorem dX4_make_36 : decode cX4_make 36 = .ok (.invokevirtual 24, 3) := by decide +kernel
theorem dX4_make_39 : decode cX4_make 39 = .ok (.bipush 12, 2) := by decide +kernel
theorem dX4_make_41 : decode cX4_make 41 = .ok (.if_icmp .ne 7, 3) := by decide +kernel
theorem dX4_make_48 : decode cX4_make 48 = .ok (.iconst 0, 1) := by decide +kernel
theorem dX4_make_49 : decode cX4_make 49 = .ok (.iconst 2, 1) := by decide +kernel
theorem dX4_make_50 : decode cX4_make 50 = .ok (.invokevirtual 20, 3) := by decide +kernel
theorem dX4_make_53 : decode cX4_make 53 = .ok (.ifCond .eq 5, 3) := by decide +kernel
theorem dX4_make_56 : decode cX4_make 56 = .ok (.iconst 0, 1) := by decide +kernel
theorem dX4_make_57 : decode cX4_make 57 = .ok (.ireturn, 1) := by decide +kernel
theorem dX4_make_58 : decode cX4_make 58 = .ok (.aload_n 0, 1) := by decide +kernel
theorem dX4_make_59 : decode cX4_make 59 = .ok (.getfield 10, 3) := by decide +kernel
theorem dX4_make_62 : decode cX4_make 62 = .ok (.new 40, 3) := by decide +kernel
theorem dX4_make_65 : decode cX4_make 65 = .ok (.dup, 1) := by decide +kernel
theorem dX4_make_66 : decode cX4_make 66 = .ok (.iload_n 1, 1) := by decide +kernel
theorem dX4_make_67 : decode cX4_make 67 = .ok (.iload_n 2, 1) := by decide +kernel
theorem dX4_make_68 : decode cX4_make 68 = .ok (.invokespecial 76, 3) := by decide +kernel
theorem dX4_make_71 : decode cX4_make 71 = .ok (.invokevirtual 79, 3) := by decide +kernel
theorem dX4_make_74 : decode cX4_make 74 = .ok (.pop, 1) := by decide +kernel
theorem dX4_make_75 : decode cX4_make 75 = .ok (.aload_n 0, 1) := by decide +kernel
theorem dX4_make_76 : decode cX4_make 76 = .ok (.getfield 10, 3) := by decide +kernel
theorem dX4_make_79 : decode cX4_make 79 = .ok (.invokevirtual 24, 3) := by decide +kernel
theorem dX4_make_82 : decode cX4_make 82 = .ok (.iconst 1, 1) := by decide +kernel
theorem dX4_make_83 : decode cX4_make 83 = .ok (.isub, 1) := by decide +kernel
theorem dX4_make_84 : decode cX4_make 84 = .ok (.ireturn, 1) := by decide +kernel
theorem dX4_drop_0 : decode cX4_drop 0 = .ok (.aload_n 0, 1) := by decide +kernel
theorem dX4_drop_1 : decode cX4_drop 1 = .ok (.aload_n 0, 1) := by decide +kernel
theorem dX4_drop_2 : decode cX4_drop 2 = .ok (.getfield 10, 3) := by decide +kernel
theorem dX4_drop_5 : decode cX4_drop 5 = .ok (.invokevirtual 83, 3) := by decide +kernel
theorem dX4_drop_8 : decode cX4_drop 8 = .ok (.iconst 1, 1) := by decide +kernel
theorem dX4_drop_9 : decode cX4_drop 9 = .ok (.invokevirtual 73, 3) := by decide +kernel
theorem dX4_drop_12 : decode cX4_drop 12 = .ok (.ifCond .eq 5, 3) := by decide +kernel
theorem dX4_drop_15 : decode cX4_drop 15 = .ok (.iconst 0, 1) := by decide +kernel
theorem dX4_drop_16 : decode cX4_drop 16 = .ok (.ireturn, 1) := by decide +kernel
theorem dX4_empty_0 : decode cX4_empty 0 = .ok (.aload_n 0, 1) := by decide +kernel
theorem dX4_empty_1 : decode cX4_empty 1 = .ok (.iconst 0, 1) := by decide +kernel
theorem dX4_empty_2 : decode cX4_empty 2 = .ok (.putfield 16, 3) := by decide +kernel
theorem dX4_empty_5 : decode cX4_empty 5 = .ok (.aload_n 0, 1) := by decide +kernel
theorem dX4_empty_6 : decode cX4_empty 6 = .ok (.getfield 10, 3) := by decide +kernel
theorem dX4_empty_9 : decode cX4_empty 9 = .ok (.invokevirtual 24, 3) := by decide +kernel
theorem dX4_empty_12 : decode cX4_empty 12 = .ok (.istore_n 1, 1) := by decide +kernel
theorem dX4_empty_13 : decode cX4_empty 13 = .ok (.aload_n 0, 1) := by decide +kernel
theorem dX4_empty_14 : decode cX4_empty 14 = .ok (.getfield 10, 3) := by decide +kernel
theorem dX4_empty_17 : decode cX4_empty 17 = .ok (.invokevirtual 90, 3) := by decide +kernel
theorem dX4_empty_20 : decode cX4_empty 20 = .ok (.iload_n 1, 1) := by decide +kernel
theorem dX4_empty_21 : decode cX4_empty 21 = .ok (.ireturn, 1) := by decide +kernel
theorem dX4_put_0 : decode cX4_put 0 = .ok (.aload_n 0, 1) := by decide +kernel
theorem dX4_put_1 : decode cX4_put 1 = .ok (.aload_n 0, 1) := by decide +kernel
theorem dX4_put_2 : decode cX4_put 2 = .ok (.iload_n 1, 1) := by decide +kernel
theorem dX4_put_3 : decode cX4_put 3 = .ok (.iload_n 2, 1) := by decide +kernel
theorem dX4_put_4 : decode cX4_put 4 = .ok (.invokevirtual 93, 3) := by decide +kernel
theorem dX4_put_7 : decode cX4_put 7 = .ok (.iconst 1, 1) := by decide +kernel
theorem dX4_put_8 : decode cX4_put 8 = .ok (.invokevirtual 73, 3) := by decide +kernel
theorem dX4_put_11 : decode cX4_put 11 = .ok (.ifCond .ne 15, 3) := by decide +kernel
theorem dX4_put_26 : decode cX4_put 26 = .ok (.iconst 0, 1) := by decide +kernel
theorem dX4_put_27 : decode cX4_put 27 = .ok (.ireturn, 1) := by decide +kernel
theorem dX4_say_0 : decode cX4_say 0 = .ok (.aload_n 0, 1) := by decide +kernel
theorem dX4_say_1 : decode cX4_say 1 = .ok (.aload_n 0, 1) := by decide +kernel
theorem dX4_say_2 : decode cX4_say 2 = .ok (.iload_n 1, 1) := by decide +kernel
theorem dX4_say_3 : decode cX4_say 3 = .ok (.iload_n 2, 1) := by decide +kernel
theorem dX4_say_4 : decode cX4_say 4 = .ok (.invokevirtual 93, 3) := by decide +kernel
theorem dX4_say_7 : decode cX4_say 7 = .ok (.iconst 1, 1) := by decide +kernel
theorem dX4_say_8 : decode cX4_say 8 = .ok (.invokevirtual 73, 3) := by decide +kernel
theorem dX4_say_11 : decode cX4_say 11 = .ok (.ifCond .ne 44, 3) := by decide +kernel
theorem dX4_say_55 : decode cX4_say 55 = .ok (.iconst 0, 1) := by decide +kernel
theorem dX4_say_56 : decode cX4_say 56 = .ok (.ireturn, 1) := by decide +kernel
theorem dX4_none_0 : decode cX4_none 0 = .ok (.aload_n 0, 1) := by decide +kernel
theorem dX4_none_1 : decode cX4_none 1 = .ok (.aload_n 0, 1) := by decide +kernel
theorem dX4_none_2 : decode cX4_none 2 = .ok (.iload_n 1, 1) := by decide +kernel
theorem dX4_none_3 : decode cX4_none 3 = .ok (.iload_n 2, 1) := by decide +kernel
theorem dX4_none_4 : decode cX4_none 4 = .ok (.invokevirtual 93, 3) := by decide +kernel
theorem dX4_none_7 : decode cX4_none 7 = .ok (.iconst 1, 1) := by decide +kernel
theorem dX4_none_8 : decode cX4_none 8 = .ok (.invokevirtual 73, 3) := by decide +kernel
theorem dX4_none_11 : decode cX4_none 11 = .ok (.ifCond .ne 34, 3) := by decide +kernel
theorem dX4_none_45 : decode cX4_none 45 = .ok (.iconst 0, 1) := by decide +kernel
theorem dX4_none_46 : decode cX4_none 46 = .ok (.ireturn, 1) := by decide +kernel
theorem dX4_hang_0 : decode cX4_hang 0 = .ok (.aload_n 0, 1) := by decide +kernel
theorem dX4_hang_1 : decode cX4_hang 1 = .ok (.aload_n 0, 1) := by decide +kernel
theorem dX4_hang_2 : decode cX4_hang 2 = .ok (.iload_n 1, 1) := by decide +kernel
theorem dX4_hang_3 : decode cX4_hang 3 = .ok (.iload_n 2, 1) := by decide +kernel
theorem dX4_hang_4 : decode cX4_hang 4 = .ok (.invokevirtual 93, 3) := by decide +kernel
theorem dX4_hang_7 : decode cX4_hang 7 = .ok (.ifCond .ne 11, 3) := by decide +kernel
theorem dX4_hang_18 : decode cX4_hang 18 = .ok (.iconst 1, 1) := by decide +kernel
theorem dX4_hang_19 : decode cX4_hang 19 = .ok (.goto 4, 3) := by decide +kernel
theorem dX4_hang_23 : decode cX4_hang 23 = .ok (.iconst 1, 1) := by decide +kernel
theorem dX4_hang_24 : decode cX4_hang 24 = .ok (.invokevirtual 73, 3) := by decide +kernel
theorem dX4_hang_27 : decode cX4_hang 27 = .ok (.ifCond .ne 52, 3) := by decide +kernel
theorem dX4_hang_79 : decode cX4_hang 79 = .ok (.iconst 0, 1) := by decide +kernel
theorem dX4_hang_80 : decode cX4_hang 80 = .ok (.ireturn, 1) := by decide +kernel
theorem dX4_swap_0 : decode cX4_swap 0 = .ok (.aload_n 0, 1) := by decide +kernel
theorem dX4_swap_1 : decode cX4_swap 1 = .ok (.aload_n 0, 1) := by decide +kernel
theorem dX4_swap_2 : decode cX4_swap 2 = .ok (.iload_n 1, 1) := by decide +kernel
theorem dX4_swap_3 : decode cX4_swap 3 = .ok (.iload_n 2, 1) := by decide +kernel
theorem dX4_swap_4 : decode cX4_swap 4 = .ok (.invokevirtual 93, 3) := by decide +kernel
theorem dX4_swap_7 : decode cX4_swap 7 = .ok (.ifCond .ne 12, 3) := by decide +kernel
theorem dX4_swap_19 : decode cX4_swap 19 = .ok (.iconst 1, 1) := by decide +kernel
theorem dX4_swap_20 : decode cX4_swap 20 = .ok (.goto 4, 3) := by decide +kernel
theorem dX4_swap_24 : decode cX4_swap 24 = .ok (.iconst 1, 1) := by decide +kernel
theorem dX4_swap_25 : decode cX4_swap 25 = .ok (.invokevirtual 73, 3) := by decide +kernel
theorem dX4_swap_28 : decode cX4_swap 28 = .ok (.ifCond .eq 5, 3) := by decide +kernel
theorem dX4_swap_31 : decode cX4_swap 31 = .ok (.iconst 0, 1) := by decide +kernel
theorem dX4_swap_32 : decode cX4_swap 32 = .ok (.ireturn, 1) := by decide +kernel
theorem dX4_fill_0 : decode cX4_fill 0 = .ok (.aload_n 0, 1) := by decide +kernel
theorem dX4_fill_1 : decode cX4_fill 1 = .ok (.aload_n 0, 1) := by decide +kernel
theorem dX4_fill_2 : decode cX4_fill 2 = .ok (.iload_n 1, 1) := by decide +kernel
theorem dX4_fill_3 : decode cX4_fill 3 = .ok (.invokevirtual 32, 3) := by decide +kernel
theorem dX4_fill_6 : decode cX4_fill 6 = .ok (.iconst 1, 1) := by decide +kernel
theorem dX4_fill_7 : decode cX4_fill 7 = .ok (.invokevirtual 73, 3) := by decide +kernel
theorem dX4_fill_10 : decode cX4_fill 10 = .ok (.ifCond .ne 15, 3) := by decide +kernel
theorem dX4_fill_25 : decode cX4_fill 25 = .ok (.iconst 0, 1) := by decide +kernel
theorem dX4_fill_26 : decode cX4_fill 26 = .ok (.ireturn, 1) := by decide +kernel
theorem dX4_fillRow_0 : decode cX4_fillRow 0 = .ok (.aload_n 0, 1) := by decide +kernel
theorem dX4_fillRow_1 : decode cX4_fillRow 1 = .ok (.aload_n 0, 1) := by decide +kernel
theorem dX4_fillRow_2 : decode cX4_fillRow 2 = .ok (.iload_n 1, 1) := by decide +kernel
theorem dX4_fillRow_3 : decode cX4_fillRow 3 = .ok (.invokevirtual 32, 3) := by decide +kernel
theorem dX4_fillRow_6 : decode cX4_fillRow 6 = .ok (.ifCond .ne 11, 3) := by decide +kernel
theorem dX4_fillRow_17 : decode cX4_fillRow 17 = .ok (.iconst 1, 1) := by decide +kernel
theorem dX4_fillRow_18 : decode cX4_fillRow 18 = .ok (.goto 4, 3) := by decide +kernel
theorem dX4_fillRow_22 : decode cX4_fillRow 22 = .ok (.iconst 1, 1) := by decide +kernel
theorem dX4_fillRow_23 : decode cX4_fillRow 23 = .ok (.invokevirtual 73, 3) := by decide +kernel
theorem dX4_fillRow_26 : decode cX4_fillRow 26 = .ok (.ifCond .ne 52, 3) := by decide +kernel
theorem dX4_fillRow_78 : decode cX4_fillRow 78 = .ok (.iconst 0, 1) := by decide +kernel
theorem dX4_fillRow_79 : decode cX4_fillRow 79 = .ok (.ireturn, 1) := by decide +kernel
theorem dX4_setAll_0 : decode cX4_setAll 0 = .ok (.aload_n 0, 1) := by decide +kernel
theorem dX4_setAll_1 : decode cX4_setAll 1 = .ok (.aload_n 0, 1) := by decide +kernel
theorem dX4_setAll_2 : decode cX4_setAll 2 = .ok (.iload_n 1, 1) := by decide +kernel
theorem dX4_setAll_3 : decode cX4_setAll 3 = .ok (.invokevirtual 32, 3) := by decide +kernel
theorem dX4_setAll_6 : decode cX4_setAll 6 = .ok (.iconst 1, 1) := by decide +kernel
theorem dX4_setAll_7 : decode cX4_setAll 7 = .ok (.invokevirtual 73, 3) := by decide +kernel
theorem dX4_setAll_10 : decode cX4_setAll 10 = .ok (.ifCond .eq 5, 3) := by decide +kernel
theorem dX4_setAll_13 : decode cX4_setAll 13 = .ok (.iconst 0, 1) := by decide +kernel
theorem dX4_setAll_14 : decode cX4_setAll 14 = .ok (.ireturn, 1) := by decide +kernel
theorem dX4_setRows_0 : decode cX4_setRows 0 = .ok (.aload_n 0, 1) := by decide +kernel
theorem dX4_setRows_1 : decode cX4_setRows 1 = .ok (.aload_n 0, 1) := by decide +kernel
theorem dX4_setRows_2 : decode cX4_setRows 2 = .ok (.iload_n 1, 1) := by decide +kernel
theorem dX4_setRows_3 : decode cX4_setRows 3 = .ok (.invokevirtual 32, 3) := by decide +kernel
theorem dX4_setRows_6 : decode cX4_setRows 6 = .ok (.iconst 1, 1) := by decide +kernel
theorem dX4_setRows_7 : decode cX4_setRows 7 = .ok (.invokevirtual 73, 3) := by decide +kernel
theorem dX4_setRows_10 : decode cX4_setRows 10 = .ok (.ifCond .ne 38, 3) := by decide +kernel
theorem dX4_setRows_48 : decode cX4_setRows 48 = .ok (.iconst 0, 1) := by decide +kernel
theorem dX4_setRows_49 : decode cX4_setRows 49 = .ok (.ireturn, 1) := by decide +kernel
theorem dX4_twin_0 : decode cX4_twin 0 = .ok (.aload_n 0, 1) := by decide +kernel
theorem dX4_twin_1 : decode cX4_twin 1 = .ok (.aload_n 0, 1) := by decide +kernel
theorem dX4_twin_2 : decode cX4_twin 2 = .ok (.iload_n 1, 1) := by decide +kernel
theorem dX4_twin_3 : decode cX4_twin 3 = .ok (.invokevirtual 32, 3) := by decide +kernel
theorem dX4_twin_6 : decode cX4_twin 6 = .ok (.iconst 1, 1) := by decide +kernel
theorem dX4_twin_7 : decode cX4_twin 7 = .ok (.invokevirtual 73, 3) := by decide +kernel
theorem dX4_twin_10 : decode cX4_twin 10 = .ok (.ifCond .ne 28, 3) := by decide +kernel
theorem dX4_twin_38 : decode cX4_twin 38 = .ok (.iconst 0, 1) := by decide +kernel
theorem dX4_twin_39 : decode cX4_twin 39 = .ok (.ireturn, 1) := by decide +kernel
theorem dX4_deepTwin_0 : decode cX4_deepTwin 0 = .ok (.aload_n 0, 1) := by decide +kernel
theorem dX4_deepTwin_1 : decode cX4_deepTwin 1 = .ok (.aload_n 0, 1) := by decide +kernel
theorem dX4_deepTwin_2 : decode cX4_deepTwin 2 = .ok (.iload_n 1, 1) := by decide +kernel
theorem dX4_deepTwin_3 : decode cX4_deepTwin 3 = .ok (.invokevirtual 32, 3) := by decide +kernel
theorem dX4_deepTwin_6 : decode cX4_deepTwin 6 = .ok (.iconst 1, 1) := by decide +kernel
theorem dX4_deepTwin_7 : decode cX4_deepTwin 7 = .ok (.invokevirtual 73, 3) := by decide +kernel
theorem dX4_deepTwin_10 : decode cX4_deepTwin 10 = .ok (.ifCond .ne 34, 3) := by decide +kernel
theorem dX4_deepTwin_44 : decode cX4_deepTwin 44 = .ok (.iconst 0, 1) := by decide +kernel
theorem dX4_deepTwin_45 : decode cX4_deepTwin 45 = .ok (.ireturn, 1) := by decide +kernel
theorem dX4_copy_0 : decode cX4_copy 0 = .ok (.aload_n 0, 1) := by decide +kernel
theorem dX4_copy_1 : decode cX4_copy 1 = .ok (.aload_n 0, 1) := by decide +kernel
theorem dX4_copy_2 : decode cX4_copy 2 = .ok (.iload_n 1, 1) := by decide +kernel
theorem dX4_copy_3 : decode cX4_copy 3 = .ok (.invokevirtual 32, 3) := by decide +kernel
theorem dX4_copy_6 : decode cX4_copy 6 = .ok (.iconst 1, 1) := by decide +kernel
theorem dX4_copy_7 : decode cX4_copy 7 = .ok (.invokevirtual 73, 3) := by decide +kernel
theorem dX4_copy_10 : decode cX4_copy 10 = .ok (.ifCond .ne 68, 3) := by decide +kernel
theorem dX4_copy_78 : decode cX4_copy 78 = .ok (.iconst 0, 1) := by decide +kernel
theorem dX4_copy_79 : decode cX4_copy 79 = .ok (.ireturn, 1) := by decide +kernel
theorem dX4_kind_0 : decode cX4_kind 0 = .ok (.aload_n 0, 1) := by decide +kernel
theorem dX4_kind_1 : decode cX4_kind 1 = .ok (.aload_n 0, 1) := by decide +kernel
theorem dX4_kind_2 : decode cX4_kind 2 = .ok (.iload_n 1, 1) := by decide +kernel
theorem dX4_kind_3 : decode cX4_kind 3 = .ok (.invokevirtual 32, 3) := by decide +kernel
theorem dX4_kind_6 : decode cX4_kind 6 = .ok (.iconst 1, 1) := by decide +kernel
theorem dX4_kind_7 : decode cX4_kind 7 = .ok (.invokevirtual 73, 3) := by decide +kernel
theorem dX4_kind_10 : decode cX4_kind 10 = .ok (.ifCond .eq 7, 3) := by decide +kernel
theorem dX4_kind_13 : decode cX4_kind 13 = .ok (.iconst 0, 1) := by decide +kernel
theorem dX4_kind_14 : decode cX4_kind 14 = .ok (.goto 17, 3) := by decide +kernel
theorem dX4_kind_31 : decode cX4_kind 31 = .ok (.ireturn, 1) := by decide +kernel
theorem dX4_length_0 : decode cX4_length 0 = .ok (.aload_n 0, 1) := by decide +kernel
theorem dX4_length_1 : decode cX4_length 1 = .ok (.aload_n 0, 1) := by decide +kernel
theorem dX4_length_2 : decode cX4_length 2 = .ok (.iload_n 1, 1) := by decide +kernel
theorem dX4_length_3 : decode cX4_length 3 = .ok (.invokevirtual 32, 3) := by decide +kernel
theorem dX4_length_6 : decode cX4_length 6 = .ok (.iconst 1, 1) := by decide +kernel
theorem dX4_length_7 : decode cX4_length 7 = .ok (.invokevirtual 73, 3) := by decide +kernel
theorem dX4_length_10 : decode cX4_length 10 = .ok (.ifCond .eq 7, 3) := by decide +kernel
theorem dX4_length_13 : decode cX4_length 13 = .ok (.iconst 0, 1) := by decide +kernel
theorem dX4_length_14 : decode cX4_length 14 = .ok (.goto 17, 3) := by decide +kernel
theorem dX4_length_31 : decode cX4_length 31 = .ok (.ireturn, 1) := by decide +kernel
theorem dX4_depth_0 : decode cX4_depth 0 = .ok (.aload_n 0, 1) := by decide +kernel
theorem dX4_depth_1 : decode cX4_depth 1 = .ok (.aload_n 0, 1) := by decide +kernel
theorem dX4_depth_2 : decode cX4_depth 2 = .ok (.iload_n 1, 1) := by decide +kernel
theorem dX4_depth_3 : decode cX4_depth 3 = .ok (.invokevirtual 32, 3) := by decide +kernel
theorem dX4_depth_6 : decode cX4_depth 6 = .ok (.iconst 1, 1) := by decide +kernel
theorem dX4_depth_7 : decode cX4_depth 7 = .ok (.invokevirtual 73, 3) := by decide +kernel
theorem dX4_depth_10 : decode cX4_depth 10 = .ok (.ifCond .eq 7, 3) := by decide +kernel
theorem dX4_depth_13 : decode cX4_depth 13 = .ok (.iconst 0, 1) := by decide +kernel
theorem dX4_depth_14 : decode cX4_depth 14 = .ok (.goto 8, 3) := by decide +kernel
theorem dX4_depth_22 : decode cX4_depth 22 = .ok (.ireturn, 1) := by decide +kernel
theorem dX4_what_0 : decode cX4_what 0 = .ok (.aload_n 0, 1) := by decide +kernel
theorem dX4_what_1 : decode cX4_what 1 = .ok (.aload_n 0, 1) := by decide +kernel
theorem dX4_what_2 : decode cX4_what 2 = .ok (.iload_n 1, 1) := by decide +kernel
theorem dX4_what_3 : decode cX4_what 3 = .ok (.iload_n 2, 1) := by decide +kernel
theorem dX4_what_4 : decode cX4_what 4 = .ok (.invokevirtual 93, 3) := by decide +kernel
theorem dX4_what_7 : decode cX4_what 7 = .ok (.iconst 1, 1) := by decide +kernel
theorem dX4_what_8 : decode cX4_what 8 = .ok (.invokevirtual 73, 3) := by decide +kernel
theorem dX4_what_11 : decode cX4_what 11 = .ok (.ifCond .eq 7, 3) := by decide +kernel
theorem dX4_what_14 : decode cX4_what 14 = .ok (.iconst 0, 1) := by decide +kernel
theorem dX4_what_15 : decode cX4_what 15 = .ok (.goto 19, 3) := by decide +kernel
theorem dX4_what_34 : decode cX4_what 34 = .ok (.ireturn, 1) := by decide +kernel
theorem dX4_at_0 : decode cX4_at 0 = .ok (.aload_n 0, 1) := by decide +kernel
theorem dX4_at_1 : decode cX4_at 1 = .ok (.aload_n 0, 1) := by decide +kernel
theorem dX4_at_2 : decode cX4_at 2 = .ok (.iload_n 1, 1) := by decide +kernel
theorem dX4_at_3 : decode cX4_at 3 = .ok (.iload_n 2, 1) := by decide +kernel
theorem dX4_at_4 : decode cX4_at 4 = .ok (.invokevirtual 93, 3) := by decide +kernel
theorem dX4_at_7 : decode cX4_at 7 = .ok (.iconst 1, 1) := by decide +kernel
theorem dX4_at_8 : decode cX4_at 8 = .ok (.invokevirtual 73, 3) := by decide +kernel
theorem dX4_at_11 : decode cX4_at 11 = .ok (.ifCond .eq 7, 3) := by decide +kernel
theorem dX4_at_14 : decode cX4_at 14 = .ok (.iconst 0, 1) := by decide +kernel
theorem dX4_at_15 : decode cX4_at 15 = .ok (.goto 19, 3) := by decide +kernel
theorem dX4_at_34 : decode cX4_at 34 = .ok (.ireturn, 1) := by decide +kernel
theorem dX4_isDeep_0 : decode cX4_isDeep 0 = .ok (.aload_n 0, 1) := by decide +kernel
theorem dX4_isDeep_1 : decode cX4_isDeep 1 = .ok (.aload_n 0, 1) := by decide +kernel
theorem dX4_isDeep_2 : decode cX4_isDeep 2 = .ok (.iload_n 1, 1) := by decide +kernel
theorem dX4_isDeep_3 : decode cX4_isDeep 3 = .ok (.invokevirtual 32, 3) := by decide +kernel
theorem dX4_isDeep_6 : decode cX4_isDeep 6 = .ok (.ifCond .ne 11, 3) := by decide +kernel
theorem dX4_isDeep_17 : decode cX4_isDeep 17 = .ok (.iconst 1, 1) := by decide +kernel
theorem dX4_isDeep_18 : decode cX4_isDeep 18 = .ok (.goto 4, 3) := by decide +kernel
theorem dX4_isDeep_22 : decode cX4_isDeep 22 = .ok (.iconst 1, 1) := by decide +kernel
theorem dX4_isDeep_23 : decode cX4_isDeep 23 = .ok (.invokevirtual 73, 3) := by decide +kernel
theorem dX4_isDeep_26 : decode cX4_isDeep 26 = .ok (.ifCond .ne 16, 3) := by decide +kernel
theorem dX4_isDeep_42 : decode cX4_isDeep 42 = .ok (.iconst 0, 1) := by decide +kernel
theorem dX4_isDeep_43 : decode cX4_isDeep 43 = .ok (.ireturn, 1) := by decide +kernel
theorem dX4_isFlat_0 : decode cX4_isFlat 0 = .ok (.aload_n 0, 1) := by decide +kernel
theorem dX4_isFlat_1 : decode cX4_isFlat 1 = .ok (.aload_n 0, 1) := by decide +kernel
theorem dX4_isFlat_2 : decode cX4_isFlat 2 = .ok (.iload_n 1, 1) := by decide +kernel
theorem dX4_isFlat_3 : decode cX4_isFlat 3 = .ok (.invokevirtual 32, 3) := by decide +kernel
theorem dX4_isFlat_6 : decode cX4_isFlat 6 = .ok (.ifCond .ne 11, 3) := by decide +kernel
theorem dX4_isFlat_17 : decode cX4_isFlat 17 = .ok (.iconst 1, 1) := by decide +kernel
theorem dX4_isFlat_18 : decode cX4_isFlat 18 = .ok (.goto 4, 3) := by decide +kernel
theorem dX4_isFlat_22 : decode cX4_isFlat 22 = .ok (.iconst 1, 1) := by decide +kernel
theorem dX4_isFlat_23 : decode cX4_isFlat 23 = .ok (.invokevirtual 73, 3) := by decide +kernel
theorem dX4_isFlat_26 : decode cX4_isFlat 26 = .ok (.ifCond .ne 31, 3) := by decide +kernel
theorem dX4_isFlat_57 : decode cX4_isFlat 57 = .ok (.iconst 0, 1) := by decide +kernel
theorem dX4_isFlat_58 : decode cX4_isFlat 58 = .ok (.ireturn, 1) := by decide +kernel
theorem dX4_areDeep_0 : decode cX4_areDeep 0 = .ok (.aload_n 0, 1) := by decide +kernel
theorem dX4_areDeep_1 : decode cX4_areDeep 1 = .ok (.aload_n 0, 1) := by decide +kernel
theorem dX4_areDeep_2 : decode cX4_areDeep 2 = .ok (.iload_n 1, 1) := by decide +kernel
theorem dX4_areDeep_3 : decode cX4_areDeep 3 = .ok (.iload_n 2, 1) := by decide +kernel
theorem dX4_areDeep_4 : decode cX4_areDeep 4 = .ok (.invokevirtual 93, 3) := by decide +kernel
theorem dX4_areDeep_7 : decode cX4_areDeep 7 = .ok (.ifCond .ne 13, 3) := by decide +kernel
theorem dX4_areDeep_20 : decode cX4_areDeep 20 = .ok (.iconst 1, 1) := by decide +kernel
theorem dX4_areDeep_21 : decode cX4_areDeep 21 = .ok (.goto 4, 3) := by decide +kernel
theorem dX4_areDeep_25 : decode cX4_areDeep 25 = .ok (.iconst 1, 1) := by decide +kernel
theorem dX4_areDeep_26 : decode cX4_areDeep 26 = .ok (.invokevirtual 73, 3) := by decide +kernel
theorem dX4_areDeep_29 : decode cX4_areDeep 29 = .ok (.ifCond .ne 52, 3) := by decide +kernel
theorem dX4_areDeep_81 : decode cX4_areDeep 81 = .ok (.iconst 0, 1) := by decide +kernel
theorem dX4_areDeep_82 : decode cX4_areDeep 82 = .ok (.ireturn, 1) := by decide +kernel
theorem dX4_hash_0 : decode cX4_hash 0 = .ok (.aload_n 0, 1) := by decide +kernel
theorem dX4_hash_1 : decode cX4_hash 1 = .ok (.aload_n 0, 1) := by decide +kernel
theorem dX4_hash_2 : decode cX4_hash 2 = .ok (.iload_n 1, 1) := by decide +kernel
theorem dX4_hash_3 : decode cX4_hash 3 = .ok (.invokevirtual 32, 3) := by decide +kernel
theorem dX4_hash_6 : decode cX4_hash 6 = .ok (.iconst 1, 1) := by decide +kernel
theorem dX4_hash_7 : decode cX4_hash 7 = .ok (.invokevirtual 73, 3) := by decide +kernel
