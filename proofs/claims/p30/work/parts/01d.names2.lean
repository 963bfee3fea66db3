theorem dX1_writePlace_27 : decode cX1_writePlace 27 = .ok (.iload_n 2, 1) := by decide +kernel
theorem dX1_writePlace_28 : decode cX1_writePlace 28 = .ok (.iaload, 1) := by decide +kernel
theorem dX1_writePlace_29 : decode cX1_writePlace 29 = .ok (.lookupswitch 60 #[(1, 27), (2, 44)], 27) := by decide +kernel
theorem dX1_writePlace_56 : decode cX1_writePlace 56 = .ok (.aload_n 0, 1) := by decide +kernel
theorem dX1_writePlace_57 : decode cX1_writePlace 57 = .ok (.aload_n 1, 1) := by decide +kernel
theorem dX1_writePlace_58 : decode cX1_writePlace 58 = .ok (.getfield 161, 3) := by decide +kernel
theorem dX1_writePlace_61 : decode cX1_writePlace 61 = .ok (.aload_n 1, 1) := by decide +kernel
theorem dX1_writePlace_62 : decode cX1_writePlace 62 = .ok (.getfield 143, 3) := by decide +kernel
theorem dX1_writePlace_65 : decode cX1_writePlace 65 = .ok (.iload_n 2, 1) := by decide +kernel
theorem dX1_writePlace_66 : decode cX1_writePlace 66 = .ok (.iaload, 1) := by decide +kernel
theorem dX1_writePlace_67 : decode cX1_writePlace 67 = .ok (.invokestatic 363, 3) := by decide +kernel
theorem dX1_writePlace_70 : decode cX1_writePlace 70 = .ok (.goto 26, 3) := by decide +kernel
theorem dX1_writePlace_73 : decode cX1_writePlace 73 = .ok (.aload_n 0, 1) := by decide +kernel
theorem dX1_writePlace_74 : decode cX1_writePlace 74 = .ok (.aload_n 1, 1) := by decide +kernel
theorem dX1_writePlace_75 : decode cX1_writePlace 75 = .ok (.getfield 143, 3) := by decide +kernel
theorem dX1_writePlace_78 : decode cX1_writePlace 78 = .ok (.iload_n 2, 1) := by decide +kernel
theorem dX1_writePlace_79 : decode cX1_writePlace 79 = .ok (.iaload, 1) := by decide +kernel
theorem dX1_writePlace_80 : decode cX1_writePlace 80 = .ok (.invokestatic 304, 3) := by decide +kernel
theorem dX1_writePlace_83 : decode cX1_writePlace 83 = .ok (.invokestatic 355, 3) := by decide +kernel
theorem dX1_writePlace_86 : decode cX1_writePlace 86 = .ok (.goto 10, 3) := by decide +kernel
theorem dX1_writePlace_89 : decode cX1_writePlace 89 = .ok (.aload_n 0, 1) := by decide +kernel
theorem dX1_writePlace_90 : decode cX1_writePlace 90 = .ok (.ldc_w 322, 3) := by decide +kernel
theorem dX1_writePlace_93 : decode cX1_writePlace 93 = .ok (.invokestatic 355, 3) := by decide +kernel
theorem dX1_writePlace_96 : decode cX1_writePlace 96 = .ok (.return_, 1) := by decide +kernel
set_option maxRecDepth 20000 in
theorem ggX1_writeSigns_J0_length_8abf5 : GoodIn wsX1_writeSigns wsJ0_length_8abf5 := goodIn_r _ [5, 6, 7, 8, 9, 4, 10, 11, 12, 147, 148, 149, 150] (by decide +kernel) (by decide +kernel)
set_option maxRecDepth 20000 in
theorem gX1_writeSigns_J0_length_8abf5 : GoodIn wsX1_writeSigns (wsV RX1 314 RJ0 yJ0_length_8abf5 wsJ0_length_8abf5) := goodIn_app (goodIn_of _ (by decide +kernel)) ggX1_writeSigns_J0_length_8abf5
set_option maxRecDepth 20000 in
theorem ggX1_writeSigns_J0_charAt_5068e : GoodIn wsX1_writeSigns wsJ0_charAt_5068e := goodIn_r _ [16, 6, 17, 18, 19, 4, 20, 11, 12, 21, 22, 23, 24, 25, 26, 27, 28, 29, 30, 31, 32, 33, 34, 35, 36, 37, 38, 39, 40, 41, 42, 43, 44, 45, 46, 47, 48, 49, 147, 148, 149, 150] (by decide +kernel) (by decide +kernel)
set_option maxRecDepth 20000 in
theorem gX1_writeSigns_J0_charAt_5068e : GoodIn wsX1_writeSigns (wsV RX1 318 RJ0 yJ0_charAt_5068e wsJ0_charAt_5068e) := goodIn_app (goodIn_of _ (by decide +kernel)) ggX1_writeSigns_J0_charAt_5068e
set_option maxRecDepth 20000 in
theorem ggX1_writeSigns_J4_append_cf468 : GoodIn wsX1_writeSigns wsJ4_append_cf468 := goodIn_r _ [54, 55, 56, 57, 58, 59, 60, 61, 62, 63, 64, 65, 66, 67, 68, 69, 70, 71, 72, 73, 74, 75, 76, 77, 78, 79, 80, 81, 82, 83, 84, 85, 86, 87, 88, 89, 90, 91, 92, 93, 94, 95, 96, 97, 98, 99, 100, 101, 102, 103, 104, 105, 106, 107, 108, 109, 110, 111, 112, 23, 113, 114, 115, 116, 117, 118, 119, 120, 35, 121, 122, 123, 124, 125, 126, 127, 128, 129, 130, 131, 132, 133, 134, 40, 41, 42, 135, 136, 4, 137, 28, 138, 139, 31, 140, 141, 142, 143, 47, 48, 49, 144, 145, 146, 37, 38, 39, 43, 26, 27, 29, 30, 32, 151, 152, 153, 154] (by decide +kernel) (by decide +kernel)
set_option maxRecDepth 20000 in
theorem gX1_writeSigns_J4_append_cf468 : GoodIn wsX1_writeSigns (wsV RX1 349 RJ4 yJ4_append_cf468 wsJ4_append_cf468) := goodIn_app (goodIn_of _ (by decide +kernel)) ggX1_writeSigns_J4_append_cf468
theorem dX1_writeSigns_0 : decode cX1_writeSigns 0 = .ok (.iconst 0, 1) := by decide +kernel
theorem dX1_writeSigns_1 : decode cX1_writeSigns 1 = .ok (.istore_n 2, 1) := by decide +kernel
theorem dX1_writeSigns_2 : decode cX1_writeSigns 2 = .ok (.iload_n 2, 1) := by decide +kernel
theorem dX1_writeSigns_3 : decode cX1_writeSigns 3 = .ok (.aload_n 1, 1) := by decide +kernel
theorem dX1_writeSigns_4 : decode cX1_writeSigns 4 = .ok (.invokevirtual 314, 3) := by decide +kernel
theorem dX1_writeSigns_7 : decode cX1_writeSigns 7 = .ok (.if_icmp .ge 19, 3) := by decide +kernel
theorem dX1_writeSigns_10 : decode cX1_writeSigns 10 = .ok (.aload_n 0, 1) := by decide +kernel
theorem dX1_writeSigns_11 : decode cX1_writeSigns 11 = .ok (.aload_n 1, 1) := by decide +kernel
theorem dX1_writeSigns_12 : decode cX1_writeSigns 12 = .ok (.iload_n 2, 1) := by decide +kernel
theorem dX1_writeSigns_13 : decode cX1_writeSigns 13 = .ok (.invokevirtual 318, 3) := by decide +kernel
theorem dX1_writeSigns_16 : decode cX1_writeSigns 16 = .ok (.invokevirtual 349, 3) := by decide +kernel
theorem dX1_writeSigns_19 : decode cX1_writeSigns 19 = .ok (.pop, 1) := by decide +kernel
theorem dX1_writeSigns_20 : decode cX1_writeSigns 20 = .ok (.iinc 2 1, 3) := by decide +kernel
theorem dX1_writeSigns_23 : decode cX1_writeSigns 23 = .ok (.goto (-21), 3) := by decide +kernel
theorem dX1_writeSigns_26 : decode cX1_writeSigns 26 = .ok (.return_, 1) := by decide +kernel
theorem dX2_init_0 : decode cX2_init 0 = .ok (.aload_n 0, 1) := by decide +kernel
theorem dX2_init_1 : decode cX2_init 1 = .ok (.invokespecial 1, 3) := by decide +kernel
theorem dX2_init_4 : decode cX2_init 4 = .ok (.return_, 1) := by decide +kernel
set_option maxRecDepth 20000 in
theorem ggX3_init_X3_put : GoodIn wsX3_init wsX3_put := goodIn_ca (goodIn_r _ [12, 6, 7, 13, 14, 15] (by decide +kernel) (by decide +kernel)) (goodIn_sub (fun _ h => List.mem_cons_of_mem _ (List.mem_append_right _ h)) (by decide +kernel))
set_option maxRecDepth 20000 in
theorem gX3_init_X3_put : GoodIn wsX3_init (wsV RX3 22 RX3 yX3_put wsX3_put) := goodIn_app (goodIn_of _ (by decide +kernel)) ggX3_init_X3_put
theorem dX3_init_0 : decode cX3_init 0 = .ok (.aload_n 0, 1) := by decide +kernel
theorem dX3_init_1 : decode cX3_init 1 = .ok (.invokespecial 3, 3) := by decide +kernel
theorem dX3_init_4 : decode cX3_init 4 = .ok (.aload_n 0, 1) := by decide +kernel
theorem dX3_init_5 : decode cX3_init 5 = .ok (.iload_n 1, 1) := by decide +kernel
theorem dX3_init_6 : decode cX3_init 6 = .ok (.putfield 9, 3) := by decide +kernel
theorem dX3_init_9 : decode cX3_init 9 = .ok (.aload_n 0, 1) := by decide +kernel
theorem dX3_init_10 : decode cX3_init 10 = .ok (.iload_n 2, 1) := by decide +kernel
theorem dX3_init_11 : decode cX3_init 11 = .ok (.newarray .int, 2) := by decide +kernel
theorem dX3_init_13 : decode cX3_init 13 = .ok (.putfield 15, 3) := by decide +kernel
theorem dX3_init_16 : decode cX3_init 16 = .ok (.aload_n 0, 1) := by decide +kernel
theorem dX3_init_17 : decode cX3_init 17 = .ok (.iload_n 2, 1) := by decide +kernel
theorem dX3_init_18 : decode cX3_init 18 = .ok (.newarray .int, 2) := by decide +kernel
theorem dX3_init_20 : decode cX3_init 20 = .ok (.putfield 19, 3) := by decide +kernel
theorem dX3_init_23 : decode cX3_init 23 = .ok (.iconst 0, 1) := by decide +kernel
theorem dX3_init_24 : decode cX3_init 24 = .ok (.istore_n 3, 1) := by decide +kernel
theorem dX3_init_25 : decode cX3_init 25 = .ok (.iload_n 3, 1) := by decide +kernel
theorem dX3_init_26 : decode cX3_init 26 = .ok (.iload_n 2, 1) := by decide +kernel
theorem dX3_init_27 : decode cX3_init 27 = .ok (.if_icmp .ge 34, 3) := by decide +kernel
theorem dX3_init_30 : decode cX3_init 30 = .ok (.aload_n 0, 1) := by decide +kernel
theorem dX3_init_31 : decode cX3_init 31 = .ok (.iload_n 3, 1) := by decide +kernel
theorem dX3_init_32 : decode cX3_init 32 = .ok (.iload_n 1, 1) := by decide +kernel
theorem dX3_init_33 : decode cX3_init 33 = .ok (.iconst 4, 1) := by decide +kernel
theorem dX3_init_34 : decode cX3_init 34 = .ok (.if_icmp .ne 7, 3) := by decide +kernel
theorem dX3_init_37 : decode cX3_init 37 = .ok (.iconst 0, 1) := by decide +kernel
theorem dX3_init_38 : decode cX3_init 38 = .ok (.goto 4, 3) := by decide +kernel
theorem dX3_init_41 : decode cX3_init 41 = .ok (.iconst 1, 1) := by decide +kernel
theorem dX3_init_42 : decode cX3_init 42 = .ok (.iload_n 1, 1) := by decide +kernel
theorem dX3_init_43 : decode cX3_init 43 = .ok (.iconst 4, 1) := by decide +kernel
theorem dX3_init_44 : decode cX3_init 44 = .ok (.if_icmp .ne 7, 3) := by decide +kernel
theorem dX3_init_47 : decode cX3_init 47 = .ok (.iconst (-1), 1) := by decide +kernel
theorem dX3_init_48 : decode cX3_init 48 = .ok (.goto 4, 3) := by decide +kernel
theorem dX3_init_51 : decode cX3_init 51 = .ok (.iconst 0, 1) := by decide +kernel
theorem dX3_init_52 : decode cX3_init 52 = .ok (.invokevirtual 22, 3) := by decide +kernel
theorem dX3_init_55 : decode cX3_init 55 = .ok (.iinc 3 1, 3) := by decide +kernel
theorem dX3_init_58 : decode cX3_init 58 = .ok (.goto (-33), 3) := by decide +kernel
theorem dX3_init_61 : decode cX3_init 61 = .ok (.return_, 1) := by decide +kernel
theorem dX3_length_0 : decode cX3_length 0 = .ok (.aload_n 0, 1) := by decide +kernel
theorem dX3_length_1 : decode cX3_length 1 = .ok (.getfield 15, 3) := by decide +kernel
theorem dX3_length_4 : decode cX3_length 4 = .ok (.arraylength, 1) := by decide +kernel
theorem dX3_length_5 : decode cX3_length 5 = .ok (.ireturn, 1) := by decide +kernel
theorem dX3_put_0 : decode cX3_put 0 = .ok (.aload_n 0, 1) := by decide +kernel
theorem dX3_put_1 : decode cX3_put 1 = .ok (.getfield 15, 3) := by decide +kernel
theorem dX3_put_4 : decode cX3_put 4 = .ok (.iload_n 1, 1) := by decide +kernel
theorem dX3_put_5 : decode cX3_put 5 = .ok (.iload_n 2, 1) := by decide +kernel
theorem dX3_put_6 : decode cX3_put 6 = .ok (.iastore, 1) := by decide +kernel
theorem dX3_put_7 : decode cX3_put 7 = .ok (.aload_n 0, 1) := by decide +kernel
theorem dX3_put_8 : decode cX3_put 8 = .ok (.getfield 19, 3) := by decide +kernel
theorem dX3_put_11 : decode cX3_put 11 = .ok (.iload_n 1, 1) := by decide +kernel
theorem dX3_put_12 : decode cX3_put 12 = .ok (.iload_n 3, 1) := by decide +kernel
theorem dX3_put_13 : decode cX3_put 13 = .ok (.iastore, 1) := by decide +kernel
theorem dX3_put_14 : decode cX3_put 14 = .ok (.return_, 1) := by decide +kernel
theorem dX3_hangs_0 : decode cX3_hangs 0 = .ok (.aload_n 0, 1) := by decide +kernel
theorem dX3_hangs_1 : decode cX3_hangs 1 = .ok (.getfield 15, 3) := by decide +kernel
theorem dX3_hangs_4 : decode cX3_hangs 4 = .ok (.iload_n 1, 1) := by decide +kernel
theorem dX3_hangs_5 : decode cX3_hangs 5 = .ok (.iaload, 1) := by decide +kernel
theorem dX3_hangs_6 : decode cX3_hangs 6 = .ok (.iconst 3, 1) := by decide +kernel
theorem dX3_hangs_7 : decode cX3_hangs 7 = .ok (.if_icmp .ne 7, 3) := by decide +kernel
theorem dX3_hangs_10 : decode cX3_hangs 10 = .ok (.iconst 1, 1) := by decide +kernel
theorem dX3_hangs_11 : decode cX3_hangs 11 = .ok (.goto 4, 3) := by decide +kernel
theorem dX3_hangs_14 : decode cX3_hangs 14 = .ok (.iconst 0, 1) := by decide +kernel
theorem dX3_hangs_15 : decode cX3_hangs 15 = .ok (.ireturn, 1) := by decide +kernel
set_option maxRecDepth 20000 in
theorem ggX3_twin_X3_init : GoodIn wsX3_twin wsX3_init := goodIn_ca (goodIn_r _ [9, 10, 11, 12, 4, 13, 5, 6, 14, 15, 16, 3, 17, 22, 23, 24] (by decide +kernel) (by decide +kernel)) (goodIn_sub (fun _ h => List.mem_cons_of_mem _ (List.mem_append_right _ h)) (by decide +kernel))
set_option maxRecDepth 20000 in
theorem gX3_twin_X3_init : GoodIn wsX3_twin (wsX3_init) := ggX3_twin_X3_init
set_option maxRecDepth 20000 in
theorem ggX3_twin_X3_length : GoodIn wsX3_twin wsX3_length := goodIn_r _ [21, 5, 22, 23, 24] (by decide +kernel) (by decide +kernel)
set_option maxRecDepth 20000 in
theorem gX3_twin_X3_length : GoodIn wsX3_twin (wsV RX3 39 RX3 yX3_length wsX3_length) := goodIn_app (goodIn_of _ (by decide +kernel)) ggX3_twin_X3_length
set_option maxRecDepth 20000 in
theorem ggX3_twin_X3_put : GoodIn wsX3_twin wsX3_put := goodIn_ca (goodIn_r _ [17, 5, 6, 22, 23, 24] (by decide +kernel) (by decide +kernel)) (goodIn_sub (fun _ h => List.mem_cons_of_mem _ (List.mem_append_right _ h)) (by decide +kernel))
set_option maxRecDepth 20000 in
theorem gX3_twin_X3_put : GoodIn wsX3_twin (wsV RX3 22 RX3 yX3_put wsX3_put) := goodIn_app (goodIn_of _ (by decide +kernel)) ggX3_twin_X3_put
theorem dX3_twin_0 : decode cX3_twin 0 = .ok (.new 10, 3) := by decide +kernel
theorem dX3_twin_3 : decode cX3_twin 3 = .ok (.dup, 1) := by decide +kernel
theorem dX3_twin_4 : decode cX3_twin 4 = .ok (.aload_n 0, 1) := by decide +kernel
theorem dX3_twin_5 : decode cX3_twin 5 = .ok (.getfield 9, 3) := by decide +kernel
theorem dX3_twin_8 : decode cX3_twin 8 = .ok (.iload_n 1, 1) := by decide +kernel
theorem dX3_twin_9 : decode cX3_twin 9 = .ok (.invokespecial 36, 3) := by decide +kernel
theorem dX3_twin_12 : decode cX3_twin 12 = .ok (.astore_n 2, 1) := by decide +kernel
theorem dX3_twin_13 : decode cX3_twin 13 = .ok (.iconst 0, 1) := by decide +kernel
theorem dX3_twin_14 : decode cX3_twin 14 = .ok (.istore_n 3, 1) := by decide +kernel
theorem dX3_twin_15 : decode cX3_twin 15 = .ok (.iload_n 3, 1) := by decide +kernel
theorem dX3_twin_16 : decode cX3_twin 16 = .ok (.iload_n 1, 1) := by decide +kernel
theorem dX3_twin_17 : decode cX3_twin 17 = .ok (.if_icmp .ge 34, 3) := by decide +kernel
theorem dX3_twin_20 : decode cX3_twin 20 = .ok (.iload_n 3, 1) := by decide +kernel
theorem dX3_twin_21 : decode cX3_twin 21 = .ok (.aload_n 0, 1) := by decide +kernel
theorem dX3_twin_22 : decode cX3_twin 22 = .ok (.invokevirtual 39, 3) := by decide +kernel
theorem dX3_twin_25 : decode cX3_twin 25 = .ok (.if_icmp .ge 26, 3) := by decide +kernel
theorem dX3_twin_28 : decode cX3_twin 28 = .ok (.aload_n 2, 1) := by decide +kernel
theorem dX3_twin_29 : decode cX3_twin 29 = .ok (.iload_n 3, 1) := by decide +kernel
theorem dX3_twin_30 : decode cX3_twin 30 = .ok (.aload_n 0, 1) := by decide +kernel
theorem dX3_twin_31 : decode cX3_twin 31 = .ok (.getfield 15, 3) := by decide +kernel
theorem dX3_twin_34 : decode cX3_twin 34 = .ok (.iload_n 3, 1) := by decide +kernel
theorem dX3_twin_35 : decode cX3_twin 35 = .ok (.iaload, 1) := by decide +kernel
theorem dX3_twin_36 : decode cX3_twin 36 = .ok (.aload_n 0, 1) := by decide +kernel
theorem dX3_twin_37 : decode cX3_twin 37 = .ok (.getfield 19, 3) := by decide +kernel
theorem dX3_twin_40 : decode cX3_twin 40 = .ok (.iload_n 3, 1) := by decide +kernel
theorem dX3_twin_41 : decode cX3_twin 41 = .ok (.iaload, 1) := by decide +kernel
theorem dX3_twin_42 : decode cX3_twin 42 = .ok (.invokevirtual 22, 3) := by decide +kernel
theorem dX3_twin_45 : decode cX3_twin 45 = .ok (.iinc 3 1, 3) := by decide +kernel
theorem dX3_twin_48 : decode cX3_twin 48 = .ok (.goto (-33), 3) := by decide +kernel
theorem dX3_twin_51 : decode cX3_twin 51 = .ok (.aload_n 2, 1) := by decide +kernel
theorem dX3_twin_52 : decode cX3_twin 52 = .ok (.areturn, 1) := by decide +kernel
theorem dX4_isIn_0 : decode cX4_isIn 0 = .ok (.iload_n 0, 1) := by decide +kernel
theorem dX4_isIn_1 : decode cX4_isIn 1 = .ok (.iload_n 1, 1) := by decide +kernel
theorem dX4_isIn_2 : decode cX4_isIn 2 = .ok (.if_icmp .lt 12, 3) := by decide +kernel
theorem dX4_isIn_5 : decode cX4_isIn 5 = .ok (.iload_n 0, 1) := by decide +kernel
theorem dX4_isIn_6 : decode cX4_isIn 6 = .ok (.iload_n 2, 1) := by decide +kernel
theorem dX4_isIn_7 : decode cX4_isIn 7 = .ok (.if_icmp .gt 7, 3) := by decide +kernel
theorem dX4_isIn_10 : decode cX4_isIn 10 = .ok (.iconst 1, 1) := by decide +kernel
theorem dX4_isIn_11 : decode cX4_isIn 11 = .ok (.goto 4, 3) := by decide +kernel
theorem dX4_isIn_14 : decode cX4_isIn 14 = .ok (.iconst 0, 1) := by decide +kernel
theorem dX4_isIn_15 : decode cX4_isIn 15 = .ok (.ireturn, 1) := by decide +kernel
set_option maxRecDepth 20000 in
theorem ggX4_init_Jx4a65c_init_da8c8 : GoodIn wsX4_init wsJx4a65c_init_da8c8 := goodIn_r _ [10, 11, 12, 13, 14, 15, 16, 17, 18, 19, 20, 21, 22, 2, 3, 23, 24, 25] (by decide +kernel) (by decide +kernel)
set_option maxRecDepth 20000 in
theorem gX4_init_Jx4a65c_init_da8c8 : GoodIn wsX4_init (wsJx4a65c_init_da8c8) := ggX4_init_Jx4a65c_init_da8c8
theorem dX4_init_0 : decode cX4_init 0 = .ok (.aload_n 0, 1) := by decide +kernel
theorem dX4_init_1 : decode cX4_init 1 = .ok (.invokespecial 1, 3) := by decide +kernel
theorem dX4_init_4 : decode cX4_init 4 = .ok (.aload_n 0, 1) := by decide +kernel
theorem dX4_init_5 : decode cX4_init 5 = .ok (.new 7, 3) := by decide +kernel
theorem dX4_init_8 : decode cX4_init 8 = .ok (.dup, 1) := by decide +kernel
theorem dX4_init_9 : decode cX4_init 9 = .ok (.invokespecial 9, 3) := by decide +kernel
theorem dX4_init_12 : decode cX4_init 12 = .ok (.putfield 10, 3) := by decide +kernel
theorem dX4_init_15 : decode cX4_init 15 = .ok (.return_, 1) := by decide +kernel
theorem dX4_refuse_0 : decode cX4_refuse 0 = .ok (.iload_n 1, 1) := by decide +kernel
theorem dX4_refuse_1 : decode cX4_refuse 1 = .ok (.ifCond .eq 15, 3) := by decide +kernel
theorem dX4_refuse_4 : decode cX4_refuse 4 = .ok (.aload_n 0, 1) := by decide +kernel
theorem dX4_refuse_5 : decode cX4_refuse 5 = .ok (.getfield 16, 3) := by decide +kernel
theorem dX4_refuse_8 : decode cX4_refuse 8 = .ok (.ifCond .ne 8, 3) := by decide +kernel
theorem dX4_refuse_11 : decode cX4_refuse 11 = .ok (.aload_n 0, 1) := by decide +kernel
theorem dX4_refuse_12 : decode cX4_refuse 12 = .ok (.iload_n 2, 1) := by decide +kernel
theorem dX4_refuse_13 : decode cX4_refuse 13 = .ok (.putfield 16, 3) := by decide +kernel
theorem dX4_refuse_16 : decode cX4_refuse 16 = .ok (.aload_n 0, 1) := by decide +kernel
theorem dX4_refuse_17 : decode cX4_refuse 17 = .ok (.getfield 16, 3) := by decide +kernel
theorem dX4_refuse_20 : decode cX4_refuse 20 = .ok (.ifCond .le 7, 3) := by decide +kernel
theorem dX4_refuse_23 : decode cX4_refuse 23 = .ok (.iconst 1, 1) := by decide +kernel
theorem dX4_refuse_24 : decode cX4_refuse 24 = .ok (.goto 4, 3) := by decide +kernel
theorem dX4_refuse_27 : decode cX4_refuse 27 = .ok (.iconst 0, 1) := by decide +kernel
theorem dX4_refuse_28 : decode cX4_refuse 28 = .ok (.ireturn, 1) := by decide +kernel
set_option maxRecDepth 20000 in
theorem ggX4_start_X4_refuse : GoodIn wsX4_start wsX4_refuse := goodIn_r _ [6, 1, 7, 8, 9, 10, 11] (by decide +kernel) (by decide +kernel)
set_option maxRecDepth 20000 in
theorem gX4_start_X4_refuse : GoodIn wsX4_start (wsV RX4 20 RX4 yX4_refuse wsX4_refuse) := goodIn_app (goodIn_of _ (by decide +kernel)) ggX4_start_X4_refuse
theorem dX4_start_0 : decode cX4_start 0 = .ok (.aload_n 0, 1) := by decide +kernel
theorem dX4_start_1 : decode cX4_start 1 = .ok (.iconst 0, 1) := by decide +kernel
theorem dX4_start_2 : decode cX4_start 2 = .ok (.putfield 16, 3) := by decide +kernel
theorem dX4_start_5 : decode cX4_start 5 = .ok (.aload_n 0, 1) := by decide +kernel
theorem dX4_start_6 : decode cX4_start 6 = .ok (.iload_n 1, 1) := by decide +kernel
theorem dX4_start_7 : decode cX4_start 7 = .ok (.iload_n 2, 1) := by decide +kernel
theorem dX4_start_8 : decode cX4_start 8 = .ok (.invokevirtual 20, 3) := by decide +kernel
theorem dX4_start_11 : decode cX4_start 11 = .ok (.ireturn, 1) := by decide +kernel
set_option maxRecDepth 20000 in
theorem ggX4_isNoRow_Jx4a65c_size_8abf5 : GoodIn wsX4_isNoRow wsJx4a65c_size_8abf5 := goodIn_r _ [6, 7, 17, 18, 19] (by decide +kernel) (by decide +kernel)
set_option maxRecDepth 20000 in
theorem gX4_isNoRow_Jx4a65c_size_8abf5 : GoodIn wsX4_isNoRow (wsV RX4 24 RJx4a65c yJx4a65c_size_8abf5 wsJx4a65c_size_8abf5) := goodIn_app (goodIn_of _ (by decide +kernel)) ggX4_isNoRow_Jx4a65c_size_8abf5
set_option maxRecDepth 20000 in
theorem ggX4_isNoRow_X4_isIn : GoodIn wsX4_isNoRow wsX4_isIn := goodIn_r _ [11] (by decide +kernel) (by decide +kernel)
set_option maxRecDepth 20000 in
theorem gX4_isNoRow_X4_isIn : GoodIn wsX4_isNoRow (va_wsS RX4 28 yX4_isIn wsX4_isIn) := goodIn_app (goodIn_of _ (by decide +kernel)) ggX4_isNoRow_X4_isIn
theorem dX4_isNoRow_0 : decode cX4_isNoRow 0 = .ok (.iload_n 1, 1) := by decide +kernel
theorem dX4_isNoRow_1 : decode cX4_isNoRow 1 = .ok (.iconst 0, 1) := by decide +kernel
theorem dX4_isNoRow_2 : decode cX4_isNoRow 2 = .ok (.aload_n 0, 1) := by decide +kernel
theorem dX4_isNoRow_3 : decode cX4_isNoRow 3 = .ok (.getfield 10, 3) := by decide +kernel
theorem dX4_isNoRow_6 : decode cX4_isNoRow 6 = .ok (.invokevirtual 24, 3) := by decide +kernel
theorem dX4_isNoRow_9 : decode cX4_isNoRow 9 = .ok (.iconst 1, 1) := by decide +kernel
theorem dX4_isNoRow_10 : decode cX4_isNoRow 10 = .ok (.isub, 1) := by decide +kernel
theorem dX4_isNoRow_11 : decode cX4_isNoRow 11 = .ok (.invokestatic 28, 3) := by decide +kernel
theorem dX4_isNoRow_14 : decode cX4_isNoRow 14 = .ok (.ifCond .ne 7, 3) := by decide +kernel
theorem dX4_isNoRow_17 : decode cX4_isNoRow 17 = .ok (.iconst 1, 1) := by decide +kernel
theorem dX4_isNoRow_18 : decode cX4_isNoRow 18 = .ok (.goto 4, 3) := by decide +kernel
theorem dX4_isNoRow_21 : decode cX4_isNoRow 21 = .ok (.iconst 0, 1) := by decide +kernel
theorem dX4_isNoRow_22 : decode cX4_isNoRow 22 = .ok (.ireturn, 1) := by decide +kernel
set_option maxRecDepth 20000 in
theorem ggX4_depthOf_Jx4a65c_get_915e3 : GoodIn wsX4_depthOf wsJx4a65c_get_915e3 := goodIn_r _ [13, 14, 15, 16, 17, 18, 19, 20, 21, 22, 23, 24, 25, 12, 26, 27, 46, 47, 48] (by decide +kernel) (by decide +kernel)
set_option maxRecDepth 20000 in
theorem gX4_depthOf_Jx4a65c_get_915e3 : GoodIn wsX4_depthOf (wsV RX4 36 RJx4a65c yJx4a65c_get_915e3 wsJx4a65c_get_915e3) := goodIn_app (goodIn_of _ (by decide +kernel)) ggX4_depthOf_Jx4a65c_get_915e3
set_option maxRecDepth 20000 in
theorem ggX4_depthOf_X3_length : GoodIn wsX4_depthOf wsX3_length := goodIn_r _ [32, 33, 43, 44, 45] (by decide +kernel) (by decide +kernel)
set_option maxRecDepth 20000 in
theorem gX4_depthOf_X3_length : GoodIn wsX4_depthOf (wsV RX4 42 RX3 yX3_length wsX3_length) := goodIn_app (goodIn_of _ (by decide +kernel)) ggX4_depthOf_X3_length
set_option maxRecDepth 20000 in
theorem ggX4_depthOf_X3_hangs : GoodIn wsX4_depthOf wsX3_hangs := goodIn_ca (goodIn_r _ [37, 33, 43, 44, 45] (by decide +kernel) (by decide +kernel)) (goodIn_sub (fun _ h => List.mem_cons_of_mem _ (List.mem_append_right _ h)) (by decide +kernel))
set_option maxRecDepth 20000 in
theorem gX4_depthOf_X3_hangs : GoodIn wsX4_depthOf (wsV RX4 45 RX3 yX3_hangs wsX3_hangs) := goodIn_app (goodIn_of _ (by decide +kernel)) ggX4_depthOf_X3_hangs
theorem dX4_depthOf_0 : decode cX4_depthOf 0 = .ok (.iload_n 1, 1) := by decide +kernel
theorem dX4_depthOf_1 : decode cX4_depthOf 1 = .ok (.iconst 1, 1) := by decide +kernel
theorem dX4_depthOf_2 : decode cX4_depthOf 2 = .ok (.iadd, 1) := by decide +kernel
theorem dX4_depthOf_3 : decode cX4_depthOf 3 = .ok (.newarray .int, 2) := by decide +kernel
theorem dX4_depthOf_5 : decode cX4_depthOf 5 = .ok (.astore_n 2, 1) := by decide +kernel
theorem dX4_depthOf_6 : decode cX4_depthOf 6 = .ok (.iconst 0, 1) := by decide +kernel
theorem dX4_depthOf_7 : decode cX4_depthOf 7 = .ok (.istore_n 3, 1) := by decide +kernel
theorem dX4_depthOf_8 : decode cX4_depthOf 8 = .ok (.iload_n 3, 1) := by decide +kernel
theorem dX4_depthOf_9 : decode cX4_depthOf 9 = .ok (.iload_n 1, 1) := by decide +kernel
theorem dX4_depthOf_10 : decode cX4_depthOf 10 = .ok (.if_icmp .gt 76, 3) := by decide +kernel
theorem dX4_depthOf_13 : decode cX4_depthOf 13 = .ok (.aload_n 0, 1) := by decide +kernel
theorem dX4_depthOf_14 : decode cX4_depthOf 14 = .ok (.getfield 10, 3) := by decide +kernel
theorem dX4_depthOf_17 : decode cX4_depthOf 17 = .ok (.iload_n 3, 1) := by decide +kernel
theorem dX4_depthOf_18 : decode cX4_depthOf 18 = .ok (.invokevirtual 36, 3) := by decide +kernel
theorem dX4_depthOf_21 : decode cX4_depthOf 21 = .ok (.checkcast 40, 3) := by decide +kernel
theorem dX4_depthOf_24 : decode cX4_depthOf 24 = .ok (.astore 4, 2) := by decide +kernel
theorem dX4_depthOf_26 : decode cX4_depthOf 26 = .ok (.aload_n 2, 1) := by decide +kernel
theorem dX4_depthOf_27 : decode cX4_depthOf 27 = .ok (.iload_n 3, 1) := by decide +kernel
theorem dX4_depthOf_28 : decode cX4_depthOf 28 = .ok (.iconst 1, 1) := by decide +kernel
theorem dX4_depthOf_29 : decode cX4_depthOf 29 = .ok (.iastore, 1) := by decide +kernel
theorem dX4_depthOf_30 : decode cX4_depthOf 30 = .ok (.iconst 0, 1) := by decide +kernel
theorem dX4_depthOf_31 : decode cX4_depthOf 31 = .ok (.istore 5, 2) := by decide +kernel
theorem dX4_depthOf_33 : decode cX4_depthOf 33 = .ok (.iload 5, 2) := by decide +kernel
theorem dX4_depthOf_35 : decode cX4_depthOf 35 = .ok (.aload 4, 2) := by decide +kernel
theorem dX4_depthOf_37 : decode cX4_depthOf 37 = .ok (.invokevirtual 42, 3) := by decide +kernel
theorem dX4_depthOf_40 : decode cX4_depthOf 40 = .ok (.if_icmp .ge 40, 3) := by decide +kernel
theorem dX4_depthOf_43 : decode cX4_depthOf 43 = .ok (.aload 4, 2) := by decide +kernel
theorem dX4_depthOf_45 : decode cX4_depthOf 45 = .ok (.iload 5, 2) := by decide +kernel
theorem dX4_depthOf_47 : decode cX4_depthOf 47 = .ok (.invokevirtual 45, 3) := by decide +kernel
theorem dX4_depthOf_50 : decode cX4_depthOf 50 = .ok (.ifCond .eq 24, 3) := by decide +kernel
theorem dX4_depthOf_53 : decode cX4_depthOf 53 = .ok (.aload_n 2, 1) := by decide +kernel
theorem dX4_depthOf_54 : decode cX4_depthOf 54 = .ok (.iload_n 3, 1) := by decide +kernel
theorem dX4_depthOf_55 : decode cX4_depthOf 55 = .ok (.aload_n 2, 1) := by decide +kernel
theorem dX4_depthOf_56 : decode cX4_depthOf 56 = .ok (.iload_n 3, 1) := by decide +kernel
theorem dX4_depthOf_57 : decode cX4_depthOf 57 = .ok (.iaload, 1) := by decide +kernel
theorem dX4_depthOf_58 : decode cX4_depthOf 58 = .ok (.iconst 1, 1) := by decide +kernel
theorem dX4_depthOf_59 : decode cX4_depthOf 59 = .ok (.aload_n 2, 1) := by decide +kernel
theorem dX4_depthOf_60 : decode cX4_depthOf 60 = .ok (.aload 4, 2) := by decide +kernel
theorem dX4_depthOf_62 : decode cX4_depthOf 62 = .ok (.getfield 48, 3) := by decide +kernel
theorem dX4_depthOf_65 : decode cX4_depthOf 65 = .ok (.iload 5, 2) := by decide +kernel
theorem dX4_depthOf_67 : decode cX4_depthOf 67 = .ok (.iaload, 1) := by decide +kernel
theorem dX4_depthOf_68 : decode cX4_depthOf 68 = .ok (.iaload, 1) := by decide +kernel
theorem dX4_depthOf_69 : decode cX4_depthOf 69 = .ok (.iadd, 1) := by decide +kernel
theorem dX4_depthOf_70 : decode cX4_depthOf 70 = .ok (.invokestatic 52, 3) := by decide +kernel
theorem dX4_depthOf_73 : decode cX4_depthOf 73 = .ok (.iastore, 1) := by decide +kernel
theorem dX4_depthOf_74 : decode cX4_depthOf 74 = .ok (.iinc 5 1, 3) := by decide +kernel
theorem dX4_depthOf_77 : decode cX4_depthOf 77 = .ok (.goto (-44), 3) := by decide +kernel
theorem dX4_depthOf_80 : decode cX4_depthOf 80 = .ok (.iinc 3 1, 3) := by decide +kernel
theorem dX4_depthOf_83 : decode cX4_depthOf 83 = .ok (.goto (-75), 3) := by decide +kernel
theorem dX4_depthOf_86 : decode cX4_depthOf 86 = .ok (.aload_n 2, 1) := by decide +kernel
theorem dX4_depthOf_87 : decode cX4_depthOf 87 = .ok (.iload_n 1, 1) := by decide +kernel
theorem dX4_depthOf_88 : decode cX4_depthOf 88 = .ok (.iaload, 1) := by decide +kernel
theorem dX4_depthOf_89 : decode cX4_depthOf 89 = .ok (.ireturn, 1) := by decide +kernel
set_option maxRecDepth 20000 in
theorem ggX4_areHung_Jx4a65c_get_915e3 : GoodIn wsX4_areHung wsJx4a65c_get_915e3 := goodIn_r _ [9, 10, 11, 12, 13, 14, 15, 16, 17, 18, 19, 20, 21, 8, 22, 23, 76, 77, 78] (by decide +kernel) (by decide +kernel)
set_option maxRecDepth 20000 in
theorem gX4_areHung_Jx4a65c_get_915e3 : GoodIn wsX4_areHung (wsV RX4 36 RJx4a65c yJx4a65c_get_915e3 wsJx4a65c_get_915e3) := goodIn_app (goodIn_of _ (by decide +kernel)) ggX4_areHung_Jx4a65c_get_915e3
set_option maxRecDepth 20000 in
theorem ggX4_areHung_X3_length : GoodIn wsX4_areHung wsX3_length := goodIn_r _ [28, 29, 73, 74, 75] (by decide +kernel) (by decide +kernel)
set_option maxRecDepth 20000 in
theorem gX4_areHung_X3_length : GoodIn wsX4_areHung (wsV RX4 42 RX3 yX3_length wsX3_length) := goodIn_app (goodIn_of _ (by decide +kernel)) ggX4_areHung_X3_length
set_option maxRecDepth 20000 in
theorem ggX4_areHung_X3_twin : GoodIn wsX4_areHung wsX3_twin := goodIn_ca (goodIn_r _ [33, 34, 35, 27, 36, 29, 37, 38, 39, 40, 41, 42, 43, 44, 45, 46, 47, 48, 49, 25, 26, 28, 73, 74, 75] (by decide +kernel) (by decide +kernel)) (goodIn_sub (fun _ h => List.mem_cons_of_mem _ (List.mem_append_right _ h)) (by decide +kernel))
set_option maxRecDepth 20000 in
theorem gX4_areHung_X3_twin : GoodIn wsX4_areHung (wsV RX4 58 RX3 yX3_twin wsX3_twin) := goodIn_app (goodIn_of _ (by decide +kernel)) ggX4_areHung_X3_twin
set_option maxRecDepth 20000 in
theorem ggX4_areHung_X3_put : GoodIn wsX4_areHung wsX3_put := goodIn_ca (goodIn_r _ [48, 29, 37, 73, 74, 75] (by decide +kernel) (by decide +kernel)) (goodIn_sub (fun _ h => List.mem_cons_of_mem _ (List.mem_append_right _ h)) (by decide +kernel))
set_option maxRecDepth 20000 in
theorem gX4_areHung_X3_put : GoodIn wsX4_areHung (wsV RX4 62 RX3 yX3_put wsX3_put) := goodIn_app (goodIn_of _ (by decide +kernel)) ggX4_areHung_X3_put
set_option maxRecDepth 20000 in
theorem ggX4_areHung_Jx4a65c_size_8abf5 : GoodIn wsX4_areHung wsJx4a65c_size_8abf5 := goodIn_r _ [54, 10, 76, 77, 78] (by decide +kernel) (by decide +kernel)
set_option maxRecDepth 20000 in
theorem gX4_areHung_Jx4a65c_size_8abf5 : GoodIn wsX4_areHung (wsV RX4 24 RJx4a65c yJx4a65c_size_8abf5 wsJx4a65c_size_8abf5) := goodIn_app (goodIn_of _ (by decide +kernel)) ggX4_areHung_Jx4a65c_size_8abf5
set_option maxRecDepth 20000 in
theorem ggX4_areHung_X4_depthOf : GoodIn wsX4_areHung wsX4_depthOf := goodIn_ca (goodIn_r _ [59, 44, 1, 2, 4, 60, 61, 62, 63, 5, 6, 7, 8, 9, 10, 11, 12, 13, 14, 15, 16, 17, 18, 19, 20, 21, 22, 23, 24, 25, 26, 27, 28, 29, 64, 65, 66, 67, 68, 69, 70, 71, 72, 73, 74, 75, 76, 77, 78] (by decide +kernel) (by decide +kernel)) (goodIn_sub (fun _ h => List.mem_cons_of_mem _ (List.mem_append_right _ h)) (by decide +kernel))
set_option maxRecDepth 20000 in
theorem gX4_areHung_X4_depthOf : GoodIn wsX4_areHung (wsV RX4 66 RX4 yX4_depthOf wsX4_depthOf) := goodIn_app (goodIn_of _ (by decide +kernel)) ggX4_areHung_X4_depthOf
theorem dX4_areHung_0 : decode cX4_areHung 0 = .ok (.aload_n 0, 1) := by decide +kernel
theorem dX4_areHung_1 : decode cX4_areHung 1 = .ok (.getfield 10, 3) := by decide +kernel
theorem dX4_areHung_4 : decode cX4_areHung 4 = .ok (.iload_n 1, 1) := by decide +kernel
theorem dX4_areHung_5 : decode cX4_areHung 5 = .ok (.invokevirtual 36, 3) := by decide +kernel
theorem dX4_areHung_8 : decode cX4_areHung 8 = .ok (.checkcast 40, 3) := by decide +kernel
theorem dX4_areHung_11 : decode cX4_areHung 11 = .ok (.astore_n 3, 1) := by decide +kernel
theorem dX4_areHung_12 : decode cX4_areHung 12 = .ok (.aload_n 3, 1) := by decide +kernel
theorem dX4_areHung_13 : decode cX4_areHung 13 = .ok (.aload_n 3, 1) := by decide +kernel
theorem dX4_areHung_14 : decode cX4_areHung 14 = .ok (.invokevirtual 42, 3) := by decide +kernel
theorem dX4_areHung_17 : decode cX4_areHung 17 = .ok (.invokevirtual 58, 3) := by decide +kernel
theorem dX4_areHung_20 : decode cX4_areHung 20 = .ok (.astore 4, 2) := by decide +kernel
theorem dX4_areHung_22 : decode cX4_areHung 22 = .ok (.iconst 0, 1) := by decide +kernel
theorem dX4_areHung_23 : decode cX4_areHung 23 = .ok (.istore 5, 2) := by decide +kernel
theorem dX4_areHung_25 : decode cX4_areHung 25 = .ok (.iload 5, 2) := by decide +kernel
theorem dX4_areHung_27 : decode cX4_areHung 27 = .ok (.aload_n 2, 1) := by decide +kernel
theorem dX4_areHung_28 : decode cX4_areHung 28 = .ok (.arraylength, 1) := by decide +kernel
theorem dX4_areHung_29 : decode cX4_areHung 29 = .ok (.if_icmp .ge 28, 3) := by decide +kernel
theorem dX4_areHung_32 : decode cX4_areHung 32 = .ok (.aload_n 2, 1) := by decide +kernel
theorem dX4_areHung_33 : decode cX4_areHung 33 = .ok (.iload 5, 2) := by decide +kernel
theorem dX4_areHung_35 : decode cX4_areHung 35 = .ok (.iaload, 1) := by decide +kernel
theorem dX4_areHung_36 : decode cX4_areHung 36 = .ok (.iconst (-1), 1) := by decide +kernel
theorem dX4_areHung_37 : decode cX4_areHung 37 = .ok (.if_icmp .eq 14, 3) := by decide +kernel
theorem dX4_areHung_40 : decode cX4_areHung 40 = .ok (.aload_n 3, 1) := by decide +kernel
theorem dX4_areHung_41 : decode cX4_areHung 41 = .ok (.iload 5, 2) := by decide +kernel
theorem dX4_areHung_43 : decode cX4_areHung 43 = .ok (.iconst 3, 1) := by decide +kernel
theorem dX4_areHung_44 : decode cX4_areHung 44 = .ok (.aload_n 2, 1) := by decide +kernel
theorem dX4_areHung_45 : decode cX4_areHung 45 = .ok (.iload 5, 2) := by decide +kernel
theorem dX4_areHung_47 : decode cX4_areHung 47 = .ok (.iaload, 1) := by decide +kernel
theorem dX4_areHung_48 : decode cX4_areHung 48 = .ok (.invokevirtual 62, 3) := by decide +kernel
theorem dX4_areHung_51 : decode cX4_areHung 51 = .ok (.iinc 5 1, 3) := by decide +kernel
theorem dX4_areHung_54 : decode cX4_areHung 54 = .ok (.goto (-29), 3) := by decide +kernel
theorem dX4_areHung_57 : decode cX4_areHung 57 = .ok (.iconst 1, 1) := by decide +kernel
theorem dX4_areHung_58 : decode cX4_areHung 58 = .ok (.istore 5, 2) := by decide +kernel
theorem dX4_areHung_60 : decode cX4_areHung 60 = .ok (.iconst 0, 1) := by decide +kernel
theorem dX4_areHung_61 : decode cX4_areHung 61 = .ok (.istore 6, 2) := by decide +kernel
theorem dX4_areHung_63 : decode cX4_areHung 63 = .ok (.iload 6, 2) := by decide +kernel
theorem dX4_areHung_65 : decode cX4_areHung 65 = .ok (.aload_n 0, 1) := by decide +kernel
theorem dX4_areHung_66 : decode cX4_areHung 66 = .ok (.getfield 10, 3) := by decide +kernel
theorem dX4_areHung_69 : decode cX4_areHung 69 = .ok (.invokevirtual 24, 3) := by decide +kernel
theorem dX4_areHung_72 : decode cX4_areHung 72 = .ok (.if_icmp .ge 29, 3) := by decide +kernel
theorem dX4_areHung_75 : decode cX4_areHung 75 = .ok (.iload 5, 2) := by decide +kernel
theorem dX4_areHung_77 : decode cX4_areHung 77 = .ok (.aload_n 0, 1) := by decide +kernel
theorem dX4_areHung_78 : decode cX4_areHung 78 = .ok (.iload 6, 2) := by decide +kernel
theorem dX4_areHung_80 : decode cX4_areHung 80 = .ok (.invokevirtual 66, 3) := by decide +kernel
theorem dX4_areHung_83 : decode cX4_areHung 83 = .ok (.iconst 4, 1) := by decide +kernel
theorem dX4_areHung_84 : decode cX4_areHung 84 = .ok (.if_icmp .gt 7, 3) := by decide +kernel
theorem dX4_areHung_87 : decode cX4_areHung 87 = .ok (.iconst 1, 1) := by decide +kernel
theorem dX4_areHung_88 : decode cX4_areHung 88 = .ok (.goto 4, 3) := by decide +kernel
theorem dX4_areHung_91 : decode cX4_areHung 91 = .ok (.iconst 0, 1) := by decide +kernel
theorem dX4_areHung_92 : decode cX4_areHung 92 = .ok (.iand, 1) := by decide +kernel
theorem dX4_areHung_93 : decode cX4_areHung 93 = .ok (.istore 5, 2) := by decide +kernel
theorem dX4_areHung_95 : decode cX4_areHung 95 = .ok (.iinc 6 1, 3) := by decide +kernel
theorem dX4_areHung_98 : decode cX4_areHung 98 = .ok (.goto (-35), 3) := by decide +kernel
theorem dX4_areHung_101 : decode cX4_areHung 101 = .ok (.iconst 0, 1) := by decide +kernel
theorem dX4_areHung_102 : decode cX4_areHung 102 = .ok (.istore 6, 2) := by decide +kernel
theorem dX4_areHung_104 : decode cX4_areHung 104 = .ok (.iload 6, 2) := by decide +kernel
theorem dX4_areHung_106 : decode cX4_areHung 106 = .ok (.aload_n 3, 1) := by decide +kernel
theorem dX4_areHung_107 : decode cX4_areHung 107 = .ok (.invokevirtual 42, 3) := by decide +kernel
theorem dX4_areHung_110 : decode cX4_areHung 110 = .ok (.if_icmp .ge 36, 3) := by decide +kernel
theorem dX4_areHung_113 : decode cX4_areHung 113 = .ok (.iload 5, 2) := by decide +kernel
theorem dX4_areHung_115 : decode cX4_areHung 115 = .ok (.ifCond .ne 31, 3) := by decide +kernel
theorem dX4_areHung_118 : decode cX4_areHung 118 = .ok (.aload_n 3, 1) := by decide +kernel
theorem dX4_areHung_119 : decode cX4_areHung 119 = .ok (.iload 6, 2) := by decide +kernel
theorem dX4_areHung_121 : decode cX4_areHung 121 = .ok (.aload 4, 2) := by decide +kernel
theorem dX4_areHung_123 : decode cX4_areHung 123 = .ok (.getfield 70, 3) := by decide +kernel
theorem dX4_areHung_126 : decode cX4_areHung 126 = .ok (.iload 6, 2) := by decide +kernel
theorem dX4_areHung_128 : decode cX4_areHung 128 = .ok (.iaload, 1) := by decide +kernel
theorem dX4_areHung_129 : decode cX4_areHung 129 = .ok (.aload 4, 2) := by decide +kernel
theorem dX4_areHung_131 : decode cX4_areHung 131 = .ok (.getfield 48, 3) := by decide +kernel
theorem dX4_areHung_134 : decode cX4_areHung 134 = .ok (.iload 6, 2) := by decide +kernel
theorem dX4_areHung_136 : decode cX4_areHung 136 = .ok (.iaload, 1) := by decide +kernel
theorem dX4_areHung_137 : decode cX4_areHung 137 = .ok (.invokevirtual 62, 3) := by decide +kernel
theorem dX4_areHung_140 : decode cX4_areHung 140 = .ok (.iinc 6 1, 3) := by decide +kernel
theorem dX4_areHung_143 : decode cX4_areHung 143 = .ok (.goto (-39), 3) := by decide +kernel
theorem dX4_areHung_146 : decode cX4_areHung 146 = .ok (.iload 5, 2) := by decide +kernel
theorem dX4_areHung_148 : decode cX4_areHung 148 = .ok (.ireturn, 1) := by decide +kernel
set_option maxRecDepth 20000 in
theorem ggX4_make_X4_isIn : GoodIn wsX4_make wsX4_isIn := goodIn_r _ [8] (by decide +kernel) (by decide +kernel)
set_option maxRecDepth 20000 in
theorem gX4_make_X4_isIn : GoodIn wsX4_make (va_wsS RX4 28 yX4_isIn wsX4_isIn) := goodIn_app (goodIn_of _ (by decide +kernel)) ggX4_make_X4_isIn
set_option maxRecDepth 20000 in
theorem ggX4_make_X4_start : GoodIn wsX4_make wsX4_start := goodIn_r _ [12, 13, 14, 15, 16, 7, 17, 92, 93, 94, 95, 96] (by decide +kernel) (by decide +kernel)
set_option maxRecDepth 20000 in
theorem gX4_make_X4_start : GoodIn wsX4_make (wsV RX4 73 RX4 yX4_start wsX4_start) := goodIn_app (goodIn_of _ (by decide +kernel)) ggX4_make_X4_start
set_option maxRecDepth 20000 in
theorem ggX4_make_Jx4a65c_size_8abf5 : GoodIn wsX4_make wsJx4a65c_size_8abf5 := goodIn_r _ [22, 23, 100, 101, 102] (by decide +kernel) (by decide +kernel)
set_option maxRecDepth 20000 in
theorem gX4_make_Jx4a65c_size_8abf5 : GoodIn wsX4_make (wsV RX4 24 RJx4a65c yJx4a65c_size_8abf5 wsJx4a65c_size_8abf5) := goodIn_app (goodIn_of _ (by decide +kernel)) ggX4_make_Jx4a65c_size_8abf5
set_option maxRecDepth 20000 in
theorem ggX4_make_X4_refuse : GoodIn wsX4_make wsX4_refuse := goodIn_r _ [17, 13, 92, 93, 94, 95, 96] (by decide +kernel) (by decide +kernel)
set_option maxRecDepth 20000 in
theorem gX4_make_X4_refuse : GoodIn wsX4_make (wsV RX4 20 RX4 yX4_refuse wsX4_refuse) := goodIn_app (goodIn_of _ (by decide +kernel)) ggX4_make_X4_refuse
set_option maxRecDepth 20000 in
theorem ggX4_make_X3_init : GoodIn wsX4_make wsX3_init := goodIn_ca (goodIn_r _ [26, 27, 28, 29, 30, 31, 32, 33, 34, 35, 36, 4, 37, 97, 98, 99] (by decide +kernel) (by decide +kernel)) (goodIn_sub (fun _ h => List.mem_cons_of_mem _ (List.mem_append_right _ h)) (by decide +kernel))
set_option maxRecDepth 20000 in
theorem gX4_make_X3_init : GoodIn wsX4_make (wsX3_init) := ggX4_make_X3_init
set_option maxRecDepth 20000 in
theorem ggX4_make_Jx4a65c_add_9ea2d : GoodIn wsX4_make wsJx4a65c_add_9ea2d := goodIn_r _ [41, 42, 43, 44, 23, 45, 46, 47, 21, 48, 49, 50, 51, 52, 53, 54, 55, 56, 57, 58, 59, 60, 61, 62, 63, 64, 65, 66, 67, 68, 69, 70, 71, 72, 73, 74, 75, 76, 77, 78, 79, 80, 81, 82, 83, 84, 85, 86, 87, 88, 89, 90, 91, 100, 101, 102] (by decide +kernel) (by decide +kernel)
set_option maxRecDepth 20000 in
theorem gX4_make_Jx4a65c_add_9ea2d : GoodIn wsX4_make (wsV RX4 79 RJx4a65c yJx4a65c_add_9ea2d wsJx4a65c_add_9ea2d) := goodIn_app (goodIn_of _ (by decide +kernel)) ggX4_make_Jx4a65c_add_9ea2d
theorem dX4_make_0 : decode cX4_make 0 = .ok (.aload_n 0, 1) := by decide +kernel
theorem dX4_make_1 : decode cX4_make 1 = .ok (.iload_n 1, 1) := by decide +kernel
theorem dX4_make_2 : decode cX4_make 2 = .ok (.iconst 0, 1) := by decide +kernel
theorem dX4_make_3 : decode cX4_make 3 = .ok (.iconst 4, 1) := by decide +kernel
theorem dX4_make_4 : decode cX4_make 4 = .ok (.invokestatic 28, 3) := by decide +kernel
theorem dX4_make_7 : decode cX4_make 7 = .ok (.ifCond .eq 12, 3) := by decide +kernel
theorem dX4_make_10 : decode cX4_make 10 = .ok (.iload_n 2, 1) := by decide +kernel
theorem dX4_make_11 : decode cX4_make 11 = .ok (.iconst 0, 1) := by decide +kernel
theorem dX4_make_12 : decode cX4_make 12 = .ok (.iconst 4, 1) := by decide +kernel
theorem dX4_make_13 : decode cX4_make 13 = .ok (.invokestatic 28, 3) := by decide +kernel
theorem dX4_make_16 : decode cX4_make 16 = .ok (.ifCond .ne 7, 3) := by decide +kernel
theorem dX4_make_19 : decode cX4_make 19 = .ok (.iconst 1, 1) := by decide +kernel
theorem dX4_make_20 : decode cX4_make 20 = .ok (.goto 4, 3) := by decide +kernel
theorem dX4_make_23 : decode cX4_make 23 = .ok (.iconst 0, 1) := by decide +kernel
theorem dX4_make_24 : decode cX4_make 24 = .ok (.iconst 1, 1) := by decide +kernel
theorem dX4_make_25 : decode cX4_make 25 = .ok (.invokevirtual 73, 3) := by decide +kernel
theorem dX4_make_28 : decode cX4_make 28 = .ok (.ifCond .ne 28, 3) := by decide +kernel
theorem dX4_make_31 : decode cX4_make 31 = .ok (.aload_n 0, 1) := by decide +kernel
theorem dX4_make_32 : decode cX4_make 32 = .ok (.aload_n 0, 1) := by decide +kernel
theorem dX4_make_33 : decode cX4_make 33 = .ok (.getfield 10, 3) := by decide +kernel
theorem dX4_make_36 : decode cX4_make 36 = .ok (.invokevirtual 24, 3) := by decide +kernel
theorem dX4_make_39 : decode cX4_make 39 = .ok (.bipush 12, 2) := by decide +kernel
theorem dX4_make_41 : decode cX4_make 41 = .ok (.if_icmp .ne 7, 3) := by decide +kernel
theorem dX4_make_44 : decode cX4_make 44 = .ok (.iconst 1, 1) := by decide +kernel
theorem dX4_make_45 : decode cX4_make 45 = .ok (.goto 4, 3) := by decide +kernel
theorem dX4_make_48 : decode cX4_make 48 = .ok (.iconst 0, 1) := by decide +kernel
theorem dX4_make_49 : decode cX4_make 49 = .ok (.iconst 2, 1) := by decide +kernel
theorem dX4_make_50 : decode cX4_make 50 = .ok (.invokevirtual 20, 3) := by decide +kernel
theorem dX4_make_53 : decode cX4_make 53 = .ok (.ifCond .eq 5, 3) := by decide +kernel
theorem dX4_make_56 : decode cX4_make 56 = .ok (.iconst 0, 1) := by decide +kernel
theorem dX4_make_57 : decode cX4_make 57 = .ok (.ireturn, 1) := by decide +kernel
theorem dX4_make_58 : decode cX4_make 58 = .ok (.aload_n 0, 1) := by decide +kernel
theorem dX4_make_59 : decode cX4_make 59 = .ok (.getfield 10, 3) := by decide +kernel
theorem dX4_make_62 : decode cX4_make 62 = .ok (.new 40, 3) := by decide +kernel
theorem dX4_make_65 : decode cX4_make 65 = .ok (.dup, 1) := by decide +kernel
theorem dX4_make_66 : decode cX4_make 66 = .ok (.iload_n 1, 1) := by decide +kernel
theorem dX4_make_67 : decode cX4_make 67 = .ok (.iload_n 2, 1) := by decide +kernel
theorem dX4_make_68 : decode cX4_make 68 = .ok (.invokespecial 76, 3) := by decide +kernel
theorem dX4_make_71 : decode cX4_make 71 = .ok (.invokevirtual 79, 3) := by decide +kernel
theorem dX4_make_74 : decode cX4_make 74 = .ok (.pop, 1) := by decide +kernel
theorem dX4_make_75 : decode cX4_make 75 = .ok (.aload_n 0, 1) := by decide +kernel
theorem dX4_make_76 : decode cX4_make 76 = .ok (.getfield 10, 3) := by decide +kernel
theorem dX4_make_79 : decode cX4_make 79 = .ok (.invokevirtual 24, 3) := by decide +kernel
theorem dX4_make_82 : decode cX4_make 82 = .ok (.iconst 1, 1) := by decide +kernel
theorem dX4_make_83 : decode cX4_make 83 = .ok (.isub, 1) := by decide +kernel
theorem dX4_make_84 : decode cX4_make 84 = .ok (.ireturn, 1) := by decide +kernel
set_option maxRecDepth 20000 in
theorem ggX4_nowhere_Jx4a65c_get_915e3 : GoodIn wsX4_nowhere wsJx4a65c_get_915e3 := goodIn_r _ [8, 9, 10, 11, 12, 13, 14, 15, 16, 17, 18, 19, 20, 7, 21, 22, 34, 35, 36] (by decide +kernel) (by decide +kernel)
set_option maxRecDepth 20000 in
theorem gX4_nowhere_Jx4a65c_get_915e3 : GoodIn wsX4_nowhere (wsV RX4 36 RJx4a65c yJx4a65c_get_915e3 wsJx4a65c_get_915e3) := goodIn_app (goodIn_of _ (by decide +kernel)) ggX4_nowhere_Jx4a65c_get_915e3
set_option maxRecDepth 20000 in
theorem ggX4_nowhere_X3_length : GoodIn wsX4_nowhere wsX3_length := goodIn_r _ [27, 28, 37, 38, 39] (by decide +kernel) (by decide +kernel)
set_option maxRecDepth 20000 in
theorem gX4_nowhere_X3_length : GoodIn wsX4_nowhere (wsV RX4 42 RX3 yX3_length wsX3_length) := goodIn_app (goodIn_of _ (by decide +kernel)) ggX4_nowhere_X3_length
theorem dX4_nowhere_0 : decode cX4_nowhere 0 = .ok (.aload_n 0, 1) := by decide +kernel
theorem dX4_nowhere_1 : decode cX4_nowhere 1 = .ok (.getfield 10, 3) := by decide +kernel
theorem dX4_nowhere_4 : decode cX4_nowhere 4 = .ok (.iload_n 1, 1) := by decide +kernel
theorem dX4_nowhere_5 : decode cX4_nowhere 5 = .ok (.invokevirtual 36, 3) := by decide +kernel
theorem dX4_nowhere_8 : decode cX4_nowhere 8 = .ok (.checkcast 40, 3) := by decide +kernel
theorem dX4_nowhere_11 : decode cX4_nowhere 11 = .ok (.invokevirtual 42, 3) := by decide +kernel
theorem dX4_nowhere_14 : decode cX4_nowhere 14 = .ok (.newarray .int, 2) := by decide +kernel
theorem dX4_nowhere_16 : decode cX4_nowhere 16 = .ok (.astore_n 2, 1) := by decide +kernel
theorem dX4_nowhere_17 : decode cX4_nowhere 17 = .ok (.iconst 0, 1) := by decide +kernel
theorem dX4_nowhere_18 : decode cX4_nowhere 18 = .ok (.istore_n 3, 1) := by decide +kernel
theorem dX4_nowhere_19 : decode cX4_nowhere 19 = .ok (.iload_n 3, 1) := by decide +kernel
theorem dX4_nowhere_20 : decode cX4_nowhere 20 = .ok (.aload_n 2, 1) := by decide +kernel
theorem dX4_nowhere_21 : decode cX4_nowhere 21 = .ok (.arraylength, 1) := by decide +kernel
theorem dX4_nowhere_22 : decode cX4_nowhere 22 = .ok (.if_icmp .ge 13, 3) := by decide +kernel
theorem dX4_nowhere_25 : decode cX4_nowhere 25 = .ok (.aload_n 2, 1) := by decide +kernel
theorem dX4_nowhere_26 : decode cX4_nowhere 26 = .ok (.iload_n 3, 1) := by decide +kernel
theorem dX4_nowhere_27 : decode cX4_nowhere 27 = .ok (.iconst (-1), 1) := by decide +kernel
theorem dX4_nowhere_28 : decode cX4_nowhere 28 = .ok (.iastore, 1) := by decide +kernel
theorem dX4_nowhere_29 : decode cX4_nowhere 29 = .ok (.iinc 3 1, 3) := by decide +kernel
theorem dX4_nowhere_32 : decode cX4_nowhere 32 = .ok (.goto (-13), 3) := by decide +kernel
theorem dX4_nowhere_35 : decode cX4_nowhere 35 = .ok (.aload_n 2, 1) := by decide +kernel
theorem dX4_nowhere_36 : decode cX4_nowhere 36 = .ok (.areturn, 1) := by decide +kernel
set_option maxRecDepth 20000 in
theorem ggX4_fillRow_X4_isNoRow : GoodIn wsX4_fillRow wsX4_isNoRow := goodIn_r _ [8, 1, 9, 10, 11, 12, 13, 14, 15, 16, 7, 17, 93, 94, 95, 96, 97, 101, 102, 103] (by decide +kernel) (by decide +kernel)
set_option maxRecDepth 20000 in
theorem gX4_fillRow_X4_isNoRow : GoodIn wsX4_fillRow (wsV RX4 32 RX4 yX4_isNoRow wsX4_isNoRow) := goodIn_app (goodIn_of _ (by decide +kernel)) ggX4_fillRow_X4_isNoRow
set_option maxRecDepth 20000 in
theorem ggX4_fillRow_X4_start : GoodIn wsX4_fillRow wsX4_start := goodIn_r _ [21, 22, 23, 24, 25, 7, 26, 93, 94, 95, 96, 97] (by decide +kernel) (by decide +kernel)
set_option maxRecDepth 20000 in
theorem gX4_fillRow_X4_start : GoodIn wsX4_fillRow (wsV RX4 73 RX4 yX4_start wsX4_start) := goodIn_app (goodIn_of _ (by decide +kernel)) ggX4_fillRow_X4_start
set_option maxRecDepth 20000 in
theorem ggX4_fillRow_Jx4a65c_get_915e3 : GoodIn wsX4_fillRow wsJx4a65c_get_915e3 := goodIn_r _ [30, 14, 31, 32, 33, 34, 35, 36, 37, 38, 39, 40, 41, 12, 42, 43, 101, 102, 103] (by decide +kernel) (by decide +kernel)
set_option maxRecDepth 20000 in
theorem gX4_fillRow_Jx4a65c_get_915e3 : GoodIn wsX4_fillRow (wsV RX4 36 RJx4a65c yJx4a65c_get_915e3 wsJx4a65c_get_915e3) := goodIn_app (goodIn_of _ (by decide +kernel)) ggX4_fillRow_Jx4a65c_get_915e3
set_option maxRecDepth 20000 in
theorem ggX4_fillRow_X4_refuse : GoodIn wsX4_fillRow wsX4_refuse := goodIn_r _ [26, 22, 93, 94, 95, 96, 97] (by decide +kernel) (by decide +kernel)
set_option maxRecDepth 20000 in
theorem gX4_fillRow_X4_refuse : GoodIn wsX4_fillRow (wsV RX4 20 RX4 yX4_refuse wsX4_refuse) := goodIn_app (goodIn_of _ (by decide +kernel)) ggX4_fillRow_X4_refuse
set_option maxRecDepth 20000 in
theorem ggX4_fillRow_X4_nowhere : GoodIn wsX4_fillRow wsX4_nowhere := goodIn_ca (goodIn_r _ [47, 1, 2, 48, 27, 28, 29, 12, 30, 14, 31, 32, 33, 34, 35, 36, 37, 38, 39, 40, 41, 42, 43, 49, 50, 51, 52, 53, 54, 93, 94, 95, 96, 97, 101, 102, 103, 98, 99, 100] (by decide +kernel) (by decide +kernel)) (goodIn_sub (fun _ h => List.mem_cons_of_mem _ (List.mem_append_right _ h)) (by decide +kernel))
set_option maxRecDepth 20000 in
theorem gX4_fillRow_X4_nowhere : GoodIn wsX4_fillRow (wsV RX4 106 RX4 yX4_nowhere wsX4_nowhere) := goodIn_app (goodIn_of _ (by decide +kernel)) ggX4_fillRow_X4_nowhere
set_option maxRecDepth 20000 in
theorem ggX4_fillRow_X4_areHung : GoodIn wsX4_fillRow wsX4_areHung := goodIn_ca (goodIn_r _ [58, 1, 2, 59, 60, 27, 28, 29, 12, 30, 14, 31, 32, 33, 34, 35, 36, 37, 38, 39, 40, 41, 42, 43, 49, 50, 51, 52, 53, 54, 61, 62, 63, 64, 65, 66, 67, 68, 69, 70, 71, 72, 73, 74, 48, 75, 76, 77, 78, 79, 80, 9, 10, 11, 13, 81, 82, 83, 7, 84, 85, 86, 87, 88, 89, 90, 91, 92, 93, 94, 95, 96, 97, 98, 99, 100, 101, 102, 103] (by decide +kernel) (by decide +kernel)) (goodIn_sub (fun _ h => List.mem_cons_of_mem _ (List.mem_append_right _ h)) (by decide +kernel))
set_option maxRecDepth 20000 in
theorem gX4_fillRow_X4_areHung : GoodIn wsX4_fillRow (wsV RX4 110 RX4 yX4_areHung wsX4_areHung) := goodIn_app (goodIn_of _ (by decide +kernel)) ggX4_fillRow_X4_areHung
