theorem dX0_init_0 : decode cX0_init 0 = .ok (.aload_n 0, 1) := by decide +kernel
theorem dX0_init_1 : decode cX0_init 1 = .ok (.invokespecial 3, 3) := by decide +kernel
theorem dX0_init_4 : decode cX0_init 4 = .ok (.aload_n 0, 1) := by decide +kernel
theorem dX0_init_5 : decode cX0_init 5 = .ok (.iload_n 1, 1) := by decide +kernel
theorem dX0_init_6 : decode cX0_init 6 = .ok (.putfield 9, 3) := by decide +kernel
theorem dX0_init_9 : decode cX0_init 9 = .ok (.aload_n 0, 1) := by decide +kernel
theorem dX0_init_10 : decode cX0_init 10 = .ok (.iload_n 2, 1) := by decide +kernel
theorem dX0_init_11 : decode cX0_init 11 = .ok (.putfield 15, 3) := by decide +kernel
theorem dX0_init_14 : decode cX0_init 14 = .ok (.aload_n 0, 1) := by decide +kernel
theorem dX0_init_15 : decode cX0_init 15 = .ok (.iload_n 2, 1) := by decide +kernel
theorem dX0_init_16 : decode cX0_init 16 = .ok (.newarray .int, 2) := by decide +kernel
theorem dX0_init_18 : decode cX0_init 18 = .ok (.putfield 18, 3) := by decide +kernel
theorem dX0_init_21 : decode cX0_init 21 = .ok (.aload_n 0, 1) := by decide +kernel
theorem dX0_init_22 : decode cX0_init 22 = .ok (.iload_n 2, 1) := by decide +kernel
theorem dX0_init_23 : decode cX0_init 23 = .ok (.newarray .int, 2) := by decide +kernel
theorem dX0_init_25 : decode cX0_init 25 = .ok (.putfield 22, 3) := by decide +kernel
theorem dX0_init_28 : decode cX0_init 28 = .ok (.aload_n 0, 1) := by decide +kernel
theorem dX0_init_29 : decode cX0_init 29 = .ok (.iload_n 2, 1) := by decide +kernel
theorem dX0_init_30 : decode cX0_init 30 = .ok (.anewarray 10, 3) := by decide +kernel
theorem dX0_init_33 : decode cX0_init 33 = .ok (.putfield 25, 3) := by decide +kernel
theorem dX0_init_36 : decode cX0_init 36 = .ok (.iconst 0, 1) := by decide +kernel
theorem dX0_init_37 : decode cX0_init 37 = .ok (.istore_n 3, 1) := by decide +kernel
theorem dX0_init_38 : decode cX0_init 38 = .ok (.iload_n 3, 1) := by decide +kernel
theorem dX0_init_39 : decode cX0_init 39 = .ok (.iload_n 2, 1) := by decide +kernel
theorem dX0_init_40 : decode cX0_init 40 = .ok (.if_icmp .ge 41, 3) := by decide +kernel
theorem dX0_init_43 : decode cX0_init 43 = .ok (.aload_n 0, 1) := by decide +kernel
theorem dX0_init_44 : decode cX0_init 44 = .ok (.getfield 18, 3) := by decide +kernel
theorem dX0_init_47 : decode cX0_init 47 = .ok (.iload_n 3, 1) := by decide +kernel
theorem dX0_init_48 : decode cX0_init 48 = .ok (.iload_n 1, 1) := by decide +kernel
theorem dX0_init_49 : decode cX0_init 49 = .ok (.iconst 4, 1) := by decide +kernel
theorem dX0_init_50 : decode cX0_init 50 = .ok (.if_icmp .ne 7, 3) := by decide +kernel
theorem dX0_init_53 : decode cX0_init 53 = .ok (.iconst 0, 1) := by decide +kernel
theorem dX0_init_54 : decode cX0_init 54 = .ok (.goto 4, 3) := by decide +kernel
theorem dX0_init_57 : decode cX0_init 57 = .ok (.iconst 1, 1) := by decide +kernel
theorem dX0_init_58 : decode cX0_init 58 = .ok (.iastore, 1) := by decide +kernel
theorem dX0_init_59 : decode cX0_init 59 = .ok (.aload_n 0, 1) := by decide +kernel
theorem dX0_init_60 : decode cX0_init 60 = .ok (.getfield 22, 3) := by decide +kernel
theorem dX0_init_63 : decode cX0_init 63 = .ok (.iload_n 3, 1) := by decide +kernel
theorem dX0_init_64 : decode cX0_init 64 = .ok (.iload_n 1, 1) := by decide +kernel
theorem dX0_init_65 : decode cX0_init 65 = .ok (.iconst 4, 1) := by decide +kernel
theorem dX0_init_66 : decode cX0_init 66 = .ok (.if_icmp .ne 7, 3) := by decide +kernel
theorem dX0_init_69 : decode cX0_init 69 = .ok (.iconst (-1), 1) := by decide +kernel
theorem dX0_init_70 : decode cX0_init 70 = .ok (.goto 4, 3) := by decide +kernel
theorem dX0_init_73 : decode cX0_init 73 = .ok (.iconst 0, 1) := by decide +kernel
theorem dX0_init_74 : decode cX0_init 74 = .ok (.iastore, 1) := by decide +kernel
theorem dX0_init_75 : decode cX0_init 75 = .ok (.iinc 3 1, 3) := by decide +kernel
theorem dX0_init_78 : decode cX0_init 78 = .ok (.goto (-40), 3) := by decide +kernel
theorem dX0_init_81 : decode cX0_init 81 = .ok (.return_, 1) := by decide +kernel
theorem dX0_change_0 : decode cX0_change 0 = .ok (.aload_n 0, 1) := by decide +kernel
theorem dX0_change_1 : decode cX0_change 1 = .ok (.getfield 18, 3) := by decide +kernel
theorem dX0_change_4 : decode cX0_change 4 = .ok (.iload_n 1, 1) := by decide +kernel
theorem dX0_change_5 : decode cX0_change 5 = .ok (.iload_n 2, 1) := by decide +kernel
theorem dX0_change_6 : decode cX0_change 6 = .ok (.iastore, 1) := by decide +kernel
theorem dX0_change_7 : decode cX0_change 7 = .ok (.aload_n 0, 1) := by decide +kernel
theorem dX0_change_8 : decode cX0_change 8 = .ok (.getfield 22, 3) := by decide +kernel
theorem dX0_change_11 : decode cX0_change 11 = .ok (.iload_n 1, 1) := by decide +kernel
theorem dX0_change_12 : decode cX0_change 12 = .ok (.iload_n 3, 1) := by decide +kernel
theorem dX0_change_13 : decode cX0_change 13 = .ok (.iastore, 1) := by decide +kernel
theorem dX0_change_14 : decode cX0_change 14 = .ok (.aload_n 0, 1) := by decide +kernel
theorem dX0_change_15 : decode cX0_change 15 = .ok (.getfield 25, 3) := by decide +kernel
theorem dX0_change_18 : decode cX0_change 18 = .ok (.iload_n 1, 1) := by decide +kernel
theorem dX0_change_19 : decode cX0_change 19 = .ok (.aload 4, 2) := by decide +kernel
theorem dX0_change_21 : decode cX0_change 21 = .ok (.aastore, 1) := by decide +kernel
theorem dX0_change_22 : decode cX0_change 22 = .ok (.return_, 1) := by decide +kernel
set_option maxRecDepth 20000 in
theorem ggX0_putRow_X0_change : GoodIn wsX0_putRow wsX0_change := goodIn_ca (goodIn_r _ [5, 6, 7, 8, 9, 10, 11, 12, 13, 14] (by decide +kernel) (by decide +kernel)) (goodIn_sub (fun _ h => List.mem_cons_of_mem _ (List.mem_append_right _ h)) (by decide +kernel))
set_option maxRecDepth 20000 in
theorem gX0_putRow_X0_change : GoodIn wsX0_putRow (wsV RX0 33 RX0 yX0_change wsX0_change) := goodIn_app (goodIn_of _ (by decide +kernel)) ggX0_putRow_X0_change
theorem dX0_putRow_0 : decode cX0_putRow 0 = .ok (.aload_n 0, 1) := by decide +kernel
theorem dX0_putRow_1 : decode cX0_putRow 1 = .ok (.iload_n 1, 1) := by decide +kernel
theorem dX0_putRow_2 : decode cX0_putRow 2 = .ok (.iconst 3, 1) := by decide +kernel
theorem dX0_putRow_3 : decode cX0_putRow 3 = .ok (.iconst (-1), 1) := by decide +kernel
theorem dX0_putRow_4 : decode cX0_putRow 4 = .ok (.aload_n 2, 1) := by decide +kernel
theorem dX0_putRow_5 : decode cX0_putRow 5 = .ok (.invokevirtual 33, 3) := by decide +kernel
theorem dX0_putRow_8 : decode cX0_putRow 8 = .ok (.return_, 1) := by decide +kernel
set_option maxRecDepth 20000 in
theorem ggX1_init_Jx4a65c_init_da8c8 : GoodIn wsX1_init wsJx4a65c_init_da8c8 := goodIn_r _ [23, 24, 25, 26, 27, 28, 29, 30, 31, 32, 33, 34, 35, 2, 3, 67, 68, 69] (by decide +kernel) (by decide +kernel)
set_option maxRecDepth 20000 in
theorem gX1_init_Jx4a65c_init_da8c8 : GoodIn wsX1_init (wsJx4a65c_init_da8c8) := ggX1_init_Jx4a65c_init_da8c8
set_option maxRecDepth 20000 in
theorem ggX1_init_X0_init : GoodIn wsX1_init wsX0_init := goodIn_ca (goodIn_r _ [38, 39, 2, 3, 40, 41, 42, 43, 44, 45, 46, 78, 79, 80, 81, 82, 83] (by decide +kernel) (by decide +kernel)) (goodIn_sub (fun _ h => List.mem_cons_of_mem _ (List.mem_append_right _ h)) (by decide +kernel))
set_option maxRecDepth 20000 in
theorem gX1_init_X0_init : GoodIn wsX1_init (wsX0_init) := ggX1_init_X0_init
set_option maxRecDepth 20000 in
theorem ggX1_init_J4_init_da8c8 : GoodIn wsX1_init wsJ4_init_da8c8 := goodIn_r _ [49, 50, 51, 52, 53, 54, 2, 3, 55, 56, 57, 58, 59, 60, 61, 62, 63, 64, 65, 66, 84, 85, 86, 87] (by decide +kernel) (by decide +kernel)
set_option maxRecDepth 20000 in
theorem gX1_init_J4_init_da8c8 : GoodIn wsX1_init (wsJ4_init_da8c8) := ggX1_init_J4_init_da8c8
theorem dX1_init_0 : decode cX1_init 0 = .ok (.aload_n 0, 1) := by decide +kernel
theorem dX1_init_1 : decode cX1_init 1 = .ok (.invokespecial 3, 3) := by decide +kernel
theorem dX1_init_4 : decode cX1_init 4 = .ok (.aload_n 0, 1) := by decide +kernel
theorem dX1_init_5 : decode cX1_init 5 = .ok (.new 9, 3) := by decide +kernel
theorem dX1_init_8 : decode cX1_init 8 = .ok (.dup, 1) := by decide +kernel
theorem dX1_init_9 : decode cX1_init 9 = .ok (.invokespecial 11, 3) := by decide +kernel
theorem dX1_init_12 : decode cX1_init 12 = .ok (.putfield 12, 3) := by decide +kernel
theorem dX1_init_15 : decode cX1_init 15 = .ok (.aload_n 0, 1) := by decide +kernel
theorem dX1_init_16 : decode cX1_init 16 = .ok (.iconst 0, 1) := by decide +kernel
theorem dX1_init_17 : decode cX1_init 17 = .ok (.putfield 16, 3) := by decide +kernel
theorem dX1_init_20 : decode cX1_init 20 = .ok (.aload_n 0, 1) := by decide +kernel
theorem dX1_init_21 : decode cX1_init 21 = .ok (.iconst 0, 1) := by decide +kernel
theorem dX1_init_22 : decode cX1_init 22 = .ok (.putfield 20, 3) := by decide +kernel
theorem dX1_init_25 : decode cX1_init 25 = .ok (.aload_n 0, 1) := by decide +kernel
theorem dX1_init_26 : decode cX1_init 26 = .ok (.iconst 0, 1) := by decide +kernel
theorem dX1_init_27 : decode cX1_init 27 = .ok (.putfield 23, 3) := by decide +kernel
theorem dX1_init_30 : decode cX1_init 30 = .ok (.aload_n 0, 1) := by decide +kernel
theorem dX1_init_31 : decode cX1_init 31 = .ok (.new 26, 3) := by decide +kernel
theorem dX1_init_34 : decode cX1_init 34 = .ok (.dup, 1) := by decide +kernel
theorem dX1_init_35 : decode cX1_init 35 = .ok (.iconst 4, 1) := by decide +kernel
theorem dX1_init_36 : decode cX1_init 36 = .ok (.iconst 1, 1) := by decide +kernel
theorem dX1_init_37 : decode cX1_init 37 = .ok (.invokespecial 28, 3) := by decide +kernel
theorem dX1_init_40 : decode cX1_init 40 = .ok (.putfield 31, 3) := by decide +kernel
theorem dX1_init_43 : decode cX1_init 43 = .ok (.aload_n 0, 1) := by decide +kernel
theorem dX1_init_44 : decode cX1_init 44 = .ok (.new 26, 3) := by decide +kernel
theorem dX1_init_47 : decode cX1_init 47 = .ok (.dup, 1) := by decide +kernel
theorem dX1_init_48 : decode cX1_init 48 = .ok (.iconst 4, 1) := by decide +kernel
theorem dX1_init_49 : decode cX1_init 49 = .ok (.iconst 1, 1) := by decide +kernel
theorem dX1_init_50 : decode cX1_init 50 = .ok (.invokespecial 28, 3) := by decide +kernel
theorem dX1_init_53 : decode cX1_init 53 = .ok (.putfield 35, 3) := by decide +kernel
theorem dX1_init_56 : decode cX1_init 56 = .ok (.aload_n 0, 1) := by decide +kernel
theorem dX1_init_57 : decode cX1_init 57 = .ok (.new 38, 3) := by decide +kernel
theorem dX1_init_60 : decode cX1_init 60 = .ok (.dup, 1) := by decide +kernel
theorem dX1_init_61 : decode cX1_init 61 = .ok (.invokespecial 40, 3) := by decide +kernel
theorem dX1_init_64 : decode cX1_init 64 = .ok (.putfield 41, 3) := by decide +kernel
theorem dX1_init_67 : decode cX1_init 67 = .ok (.aload_n 0, 1) := by decide +kernel
theorem dX1_init_68 : decode cX1_init 68 = .ok (.new 38, 3) := by decide +kernel
theorem dX1_init_71 : decode cX1_init 71 = .ok (.dup, 1) := by decide +kernel
theorem dX1_init_72 : decode cX1_init 72 = .ok (.invokespecial 40, 3) := by decide +kernel
theorem dX1_init_75 : decode cX1_init 75 = .ok (.putfield 45, 3) := by decide +kernel
theorem dX1_init_78 : decode cX1_init 78 = .ok (.return_, 1) := by decide +kernel
set_option maxRecDepth 20000 in
theorem ggX1_make_X1_requireLength : GoodIn wsX1_make wsX1_requireLength := goodIn_ca (goodIn_r _ [9, 1, 2] (by decide +kernel) (by decide +kernel)) (goodIn_sub (fun _ h => List.mem_cons_of_mem _ (List.mem_append_left _ (List.mem_append_left _ (List.mem_append_right _ h)))) (by decide +kernel))
set_option maxRecDepth 20000 in
theorem gX1_make_X1_requireLength : GoodIn wsX1_make (va_wsS RX1 55 yX1_requireLength wsX1_requireLength) := goodIn_app (goodIn_of _ (by decide +kernel)) ggX1_make_X1_requireLength
set_option maxRecDepth 20000 in
theorem ggX1_make_X1_requireRoom : GoodIn wsX1_make wsX1_requireRoom := goodIn_ca (goodIn_r _ [13, 14, 15, 16, 17, 18, 19, 20, 21, 22, 100, 101, 102, 103, 104, 105, 106, 107, 108, 109, 110] (by decide +kernel) (by decide +kernel)) (goodIn_sub (fun _ h => List.mem_cons_of_mem _ (List.mem_append_left _ (List.mem_append_right _ h))) (by decide +kernel))
set_option maxRecDepth 20000 in
theorem gX1_make_X1_requireRoom : GoodIn wsX1_make (wsV RX1 59 RX1 yX1_requireRoom wsX1_requireRoom) := goodIn_app (goodIn_of _ (by decide +kernel)) ggX1_make_X1_requireRoom
set_option maxRecDepth 20000 in
theorem ggX1_make_X0_init : GoodIn wsX1_make wsX0_init := goodIn_ca (goodIn_r _ [25, 26, 27, 28, 29, 30, 31, 32, 33, 34, 35, 94, 95, 96, 97, 98, 99] (by decide +kernel) (by decide +kernel)) (goodIn_sub (fun _ h => List.mem_cons_of_mem _ (List.mem_append_right _ h)) (by decide +kernel))
set_option maxRecDepth 20000 in
theorem gX1_make_X0_init : GoodIn wsX1_make (wsX0_init) := ggX1_make_X0_init
set_option maxRecDepth 20000 in
theorem ggX1_make_X1_addRow : GoodIn wsX1_make wsX1_addRow := goodIn_r _ [39, 16, 17, 18, 19, 20, 21, 22, 40, 41, 42, 43, 44, 45, 46, 47, 48, 49, 50, 51, 52, 53, 54, 55, 56, 57, 58, 59, 60, 61, 62, 63, 64, 65, 66, 67, 68, 69, 70, 71, 72, 73, 74, 75, 76, 77, 78, 79, 80, 81, 82, 83, 84, 85, 86, 87, 88, 89, 90, 91, 92, 93, 100, 101, 102, 103, 104, 105, 106, 107, 94, 95, 96, 97, 98, 99, 108, 109, 110] (by decide +kernel) (by decide +kernel)
set_option maxRecDepth 20000 in
theorem gX1_make_X1_addRow : GoodIn wsX1_make (wsV RX1 62 RX1 yX1_addRow wsX1_addRow) := goodIn_app (goodIn_of _ (by decide +kernel)) ggX1_make_X1_addRow
theorem dX1_make_0 : decode cX1_make 0 = .ok (.iload_n 1, 1) := by decide +kernel
theorem dX1_make_1 : decode cX1_make 1 = .ok (.ifCond .lt 8, 3) := by decide +kernel
theorem dX1_make_4 : decode cX1_make 4 = .ok (.iload_n 1, 1) := by decide +kernel
theorem dX1_make_5 : decode cX1_make 5 = .ok (.iconst 4, 1) := by decide +kernel
theorem dX1_make_6 : decode cX1_make 6 = .ok (.if_icmp .le 13, 3) := by decide +kernel
theorem dX1_make_9 : decode cX1_make 9 = .ok (.new 48, 3) := by decide +kernel
theorem dX1_make_12 : decode cX1_make 12 = .ok (.dup, 1) := by decide +kernel
theorem dX1_make_13 : decode cX1_make 13 = .ok (.ldc 50, 2) := by decide +kernel
theorem dX1_make_15 : decode cX1_make 15 = .ok (.invokespecial 52, 3) := by decide +kernel
theorem dX1_make_18 : decode cX1_make 18 = .ok (.athrow, 1) := by decide +kernel
theorem dX1_make_19 : decode cX1_make 19 = .ok (.iload_n 2, 1) := by decide +kernel
theorem dX1_make_20 : decode cX1_make 20 = .ok (.invokestatic 55, 3) := by decide +kernel
theorem dX1_make_23 : decode cX1_make 23 = .ok (.aload_n 0, 1) := by decide +kernel
theorem dX1_make_24 : decode cX1_make 24 = .ok (.iconst 1, 1) := by decide +kernel
theorem dX1_make_25 : decode cX1_make 25 = .ok (.invokevirtual 59, 3) := by decide +kernel
theorem dX1_make_28 : decode cX1_make 28 = .ok (.aload_n 0, 1) := by decide +kernel
theorem dX1_make_29 : decode cX1_make 29 = .ok (.new 26, 3) := by decide +kernel
theorem dX1_make_32 : decode cX1_make 32 = .ok (.dup, 1) := by decide +kernel
theorem dX1_make_33 : decode cX1_make 33 = .ok (.iload_n 1, 1) := by decide +kernel
theorem dX1_make_34 : decode cX1_make 34 = .ok (.iload_n 2, 1) := by decide +kernel
theorem dX1_make_35 : decode cX1_make 35 = .ok (.invokespecial 28, 3) := by decide +kernel
theorem dX1_make_38 : decode cX1_make 38 = .ok (.invokevirtual 62, 3) := by decide +kernel
theorem dX1_make_41 : decode cX1_make 41 = .ok (.getfield 66, 3) := by decide +kernel
theorem dX1_make_44 : decode cX1_make 44 = .ok (.ireturn, 1) := by decide +kernel
set_option maxRecDepth 20000 in
theorem ggX1_fillRow_X1_rowOf : GoodIn wsX1_fillRow wsX1_rowOf := goodIn_ca (goodIn_r _ [5, 6, 7, 8, 9, 10, 11, 12, 13, 14, 15, 16, 17, 18, 19, 20, 21, 22, 23, 24, 25, 26, 27, 28, 29, 30, 31, 32, 75, 76, 77, 78, 79, 80, 81, 82, 83, 84, 85] (by decide +kernel) (by decide +kernel)) (goodIn_sub (fun _ h => List.mem_cons_of_mem _ (List.mem_append_left _ (List.mem_append_left _ (List.mem_append_left _ (List.mem_append_right _ h))))) (by decide +kernel))
set_option maxRecDepth 20000 in
theorem gX1_fillRow_X1_rowOf : GoodIn wsX1_fillRow (wsV RX1 89 RX1 yX1_rowOf wsX1_rowOf) := goodIn_app (goodIn_of _ (by decide +kernel)) ggX1_fillRow_X1_rowOf
set_option maxRecDepth 20000 in
theorem ggX1_fillRow_X1_requireThings : GoodIn wsX1_fillRow wsX1_requireThings := goodIn_ca (goodIn_r _ [35, 36, 37, 69, 70, 71, 72, 73, 74] (by decide +kernel) (by decide +kernel)) (goodIn_sub (fun _ h => List.mem_cons_of_mem _ (List.mem_append_left _ (List.mem_append_left _ (List.mem_append_right _ h)))) (by decide +kernel))
set_option maxRecDepth 20000 in
theorem gX1_fillRow_X1_requireThings : GoodIn wsX1_fillRow (va_wsS RX1 105 yX1_requireThings wsX1_requireThings) := goodIn_app (goodIn_of _ (by decide +kernel)) ggX1_fillRow_X1_requireThings
set_option maxRecDepth 20000 in
theorem ggX1_fillRow_X1_requireLess : GoodIn wsX1_fillRow wsX1_requireLess := goodIn_ca (goodIn_r _ [40, 41, 42] (by decide +kernel) (by decide +kernel)) (goodIn_sub (fun _ h => List.mem_cons_of_mem _ (List.mem_append_left _ (List.mem_append_right _ h))) (by decide +kernel))
set_option maxRecDepth 20000 in
theorem gX1_fillRow_X1_requireLess : GoodIn wsX1_fillRow (va_wsS RX1 115 yX1_requireLess wsX1_requireLess) := goodIn_app (goodIn_of _ (by decide +kernel)) ggX1_fillRow_X1_requireLess
set_option maxRecDepth 20000 in
theorem ggX1_fillRow_X1_depthOf : GoodIn wsX1_fillRow wsX1_depthOf := goodIn_r _ [45, 46, 47, 4, 48, 49, 50, 51, 52, 69, 70, 71, 72, 73, 74] (by decide +kernel) (by decide +kernel)
set_option maxRecDepth 20000 in
theorem gX1_fillRow_X1_depthOf : GoodIn wsX1_fillRow (va_wsS RX1 122 yX1_depthOf wsX1_depthOf) := goodIn_app (goodIn_of _ (by decide +kernel)) ggX1_fillRow_X1_depthOf
set_option maxRecDepth 20000 in
theorem ggX1_fillRow_X1_requireDepths : GoodIn wsX1_fillRow wsX1_requireDepths := goodIn_ca (goodIn_r _ [56, 41, 42, 8, 9, 10, 11, 12, 13, 14, 15, 16, 17, 18, 19, 20, 21, 22, 23, 24, 25, 26, 27, 28, 29, 30, 31, 32, 46, 47, 4, 48, 49, 50, 51, 52, 75, 76, 77, 78, 79, 80, 81, 82, 83, 84, 85, 69, 70, 71, 72, 73, 74] (by decide +kernel) (by decide +kernel)) (goodIn_sub (fun _ h => List.mem_cons_of_mem _ (List.mem_append_left _ (List.mem_append_right _ h))) (by decide +kernel))
set_option maxRecDepth 20000 in
theorem gX1_fillRow_X1_requireDepths : GoodIn wsX1_fillRow (wsV RX1 132 RX1 yX1_requireDepths wsX1_requireDepths) := goodIn_app (goodIn_of _ (by decide +kernel)) ggX1_fillRow_X1_requireDepths
set_option maxRecDepth 20000 in
theorem ggX1_fillRow_X0_putRow : GoodIn wsX1_fillRow wsX0_putRow := goodIn_ca (goodIn_r _ [61, 62, 63, 64, 60, 65, 66, 67, 68, 69, 70, 71, 72, 73, 74] (by decide +kernel) (by decide +kernel)) (goodIn_sub (fun _ h => List.mem_cons_of_mem _ (List.mem_append_right _ h)) (by decide +kernel))
set_option maxRecDepth 20000 in
theorem gX1_fillRow_X0_putRow : GoodIn wsX1_fillRow (wsV RX1 135 RX0 yX0_putRow wsX0_putRow) := goodIn_app (goodIn_of _ (by decide +kernel)) ggX1_fillRow_X0_putRow
theorem dX1_fillRow_0 : decode cX1_fillRow 0 = .ok (.aload_n 0, 1) := by decide +kernel
theorem dX1_fillRow_1 : decode cX1_fillRow 1 = .ok (.iload_n 1, 1) := by decide +kernel
theorem dX1_fillRow_2 : decode cX1_fillRow 2 = .ok (.invokevirtual 89, 3) := by decide +kernel
theorem dX1_fillRow_5 : decode cX1_fillRow 5 = .ok (.astore_n 3, 1) := by decide +kernel
theorem dX1_fillRow_6 : decode cX1_fillRow 6 = .ok (.aload_n 0, 1) := by decide +kernel
theorem dX1_fillRow_7 : decode cX1_fillRow 7 = .ok (.iload_n 2, 1) := by decide +kernel
theorem dX1_fillRow_8 : decode cX1_fillRow 8 = .ok (.invokevirtual 89, 3) := by decide +kernel
theorem dX1_fillRow_11 : decode cX1_fillRow 11 = .ok (.astore 4, 2) := by decide +kernel
theorem dX1_fillRow_13 : decode cX1_fillRow 13 = .ok (.aload_n 3, 1) := by decide +kernel
theorem dX1_fillRow_14 : decode cX1_fillRow 14 = .ok (.invokestatic 105, 3) := by decide +kernel
theorem dX1_fillRow_17 : decode cX1_fillRow 17 = .ok (.iload_n 2, 1) := by decide +kernel
theorem dX1_fillRow_18 : decode cX1_fillRow 18 = .ok (.iload_n 1, 1) := by decide +kernel
theorem dX1_fillRow_19 : decode cX1_fillRow 19 = .ok (.invokestatic 115, 3) := by decide +kernel
theorem dX1_fillRow_22 : decode cX1_fillRow 22 = .ok (.aload_n 3, 1) := by decide +kernel
theorem dX1_fillRow_23 : decode cX1_fillRow 23 = .ok (.getfield 158, 3) := by decide +kernel
theorem dX1_fillRow_26 : decode cX1_fillRow 26 = .ok (.ifCond .ne 7, 3) := by decide +kernel
theorem dX1_fillRow_29 : decode cX1_fillRow 29 = .ok (.iconst 1, 1) := by decide +kernel
theorem dX1_fillRow_30 : decode cX1_fillRow 30 = .ok (.goto 10, 3) := by decide +kernel
theorem dX1_fillRow_33 : decode cX1_fillRow 33 = .ok (.iconst 1, 1) := by decide +kernel
theorem dX1_fillRow_34 : decode cX1_fillRow 34 = .ok (.aload 4, 2) := by decide +kernel
theorem dX1_fillRow_36 : decode cX1_fillRow 36 = .ok (.invokestatic 122, 3) := by decide +kernel
theorem dX1_fillRow_39 : decode cX1_fillRow 39 = .ok (.iadd, 1) := by decide +kernel
theorem dX1_fillRow_40 : decode cX1_fillRow 40 = .ok (.istore 5, 2) := by decide +kernel
theorem dX1_fillRow_42 : decode cX1_fillRow 42 = .ok (.aload_n 0, 1) := by decide +kernel
theorem dX1_fillRow_43 : decode cX1_fillRow 43 = .ok (.aload_n 3, 1) := by decide +kernel
theorem dX1_fillRow_44 : decode cX1_fillRow 44 = .ok (.iload 5, 2) := by decide +kernel
theorem dX1_fillRow_46 : decode cX1_fillRow 46 = .ok (.invokevirtual 132, 3) := by decide +kernel
theorem dX1_fillRow_49 : decode cX1_fillRow 49 = .ok (.iconst 0, 1) := by decide +kernel
theorem dX1_fillRow_50 : decode cX1_fillRow 50 = .ok (.istore 6, 2) := by decide +kernel
theorem dX1_fillRow_52 : decode cX1_fillRow 52 = .ok (.iload 6, 2) := by decide +kernel
theorem dX1_fillRow_54 : decode cX1_fillRow 54 = .ok (.aload_n 3, 1) := by decide +kernel
theorem dX1_fillRow_55 : decode cX1_fillRow 55 = .ok (.getfield 158, 3) := by decide +kernel
theorem dX1_fillRow_58 : decode cX1_fillRow 58 = .ok (.if_icmp .ge 17, 3) := by decide +kernel
theorem dX1_fillRow_61 : decode cX1_fillRow 61 = .ok (.aload_n 3, 1) := by decide +kernel
theorem dX1_fillRow_62 : decode cX1_fillRow 62 = .ok (.iload 6, 2) := by decide +kernel
theorem dX1_fillRow_64 : decode cX1_fillRow 64 = .ok (.aload 4, 2) := by decide +kernel
theorem dX1_fillRow_66 : decode cX1_fillRow 66 = .ok (.invokevirtual 135, 3) := by decide +kernel
theorem dX1_fillRow_69 : decode cX1_fillRow 69 = .ok (.iinc 6 1, 3) := by decide +kernel
theorem dX1_fillRow_72 : decode cX1_fillRow 72 = .ok (.goto (-20), 3) := by decide +kernel
theorem dX1_fillRow_75 : decode cX1_fillRow 75 = .ok (.iload 5, 2) := by decide +kernel
theorem dX1_fillRow_77 : decode cX1_fillRow 77 = .ok (.ireturn, 1) := by decide +kernel
set_option maxRecDepth 20000 in
theorem ggX1_text_X1_rowOf : GoodIn wsX1_text wsX1_rowOf := goodIn_ca (goodIn_r _ [6, 7, 8, 9, 10, 11, 12, 13, 14, 15, 16, 17, 18, 19, 20, 21, 22, 23, 24, 25, 26, 27, 28, 29, 30, 31, 32, 33, 278, 279, 280, 281, 282, 283, 284, 285, 286, 287, 288] (by decide +kernel) (by decide +kernel)) (goodIn_sub (fun _ h => List.mem_cons_of_mem _ (List.mem_append_left _ (List.mem_append_right _ h))) (by decide +kernel))
set_option maxRecDepth 20000 in
theorem gX1_text_X1_rowOf : GoodIn wsX1_text (wsV RX1 89 RX1 yX1_rowOf wsX1_rowOf) := goodIn_app (goodIn_of _ (by decide +kernel)) ggX1_text_X1_rowOf
set_option maxRecDepth 20000 in
theorem ggX1_text_X1_writeAnew : GoodIn wsX1_text wsX1_writeAnew := goodIn_ca (goodIn_r _ [36, 37, 38, 39, 40, 41, 42, 43, 44, 45, 46, 47, 48, 49, 50, 51, 52, 53, 54, 55, 56, 57, 58, 59, 60, 61, 62, 63, 64, 65, 66, 67, 68, 69, 70, 71, 72, 73, 74, 75, 76, 77, 78, 79, 80, 81, 82, 83, 84, 85, 86, 87, 88, 89, 90, 91, 92, 93, 94, 95, 96, 97, 98, 99, 100, 101, 102, 103, 104, 105, 106, 107, 108, 109, 110, 111, 112, 113, 114, 115, 116, 117, 118, 119, 120, 121, 122, 123, 5, 124, 125, 126, 127, 128, 129, 130, 131, 132, 133, 134, 135, 136, 137, 138, 139, 140, 141, 142, 143, 144, 145, 146, 147, 148, 149, 150, 151, 152, 153, 154, 155, 156, 157, 158, 159, 160, 161, 162, 163, 164, 165, 166, 27, 167, 168, 169, 170, 171, 172, 173, 174, 175, 176, 177, 178, 179, 180, 181, 182, 183, 26, 28, 184, 185, 186, 187, 188, 189, 190, 191, 192, 193, 194, 195, 196, 197, 198, 199, 200, 201, 202, 203, 204, 205, 206, 207, 208, 209, 210, 211, 212, 213, 214, 215, 216, 217, 218, 219, 220, 221, 222, 223, 224, 225, 226, 227, 289, 290, 291, 292, 293, 294, 295, 296, 297, 298, 299, 300, 301, 302, 303, 304, 305, 306, 307, 308, 309, 310, 311, 312, 313, 314] (by decide +kernel) (by decide +kernel)) (goodIn_sub (fun _ h => List.mem_cons_of_mem _ (List.mem_append_right _ h)) (by decide +kernel))
set_option maxRecDepth 20000 in
theorem gX1_text_X1_writeAnew : GoodIn wsX1_text (va_wsS RX1 208 yX1_writeAnew wsX1_writeAnew) := goodIn_app (goodIn_of _ (by decide +kernel)) ggX1_text_X1_writeAnew
set_option maxRecDepth 20000 in
theorem ggX1_text_J4_toString_0e30d : GoodIn wsX1_text wsJ4_toString_0e30d := goodIn_r _ [231, 232, 233, 162, 234, 235, 236, 237, 238, 239, 240, 241, 242, 197, 191, 196, 243, 244, 245, 246, 247, 46, 248, 52, 249, 250, 251, 252, 253, 40, 254, 255, 44, 256, 257, 51, 258, 97, 98, 99, 100, 101, 59, 259, 260, 80, 261, 82, 83, 84, 85, 86, 87, 262, 263, 264, 88, 89, 90, 72, 91, 92, 93, 94, 95, 265, 266, 267, 112, 113, 268, 269, 119, 270, 271, 272, 273, 154, 155, 156, 157, 158, 159, 160, 161, 163, 164, 165, 166, 27, 167, 213, 214, 215, 171, 172, 173, 144, 145, 146, 147, 274, 275, 276, 277, 311, 312, 313, 314, 295, 296, 297, 298] (by decide +kernel) (by decide +kernel)
set_option maxRecDepth 20000 in
theorem gX1_text_J4_toString_0e30d : GoodIn wsX1_text (wsV RX1 212 RJ4 yJ4_toString_0e30d wsJ4_toString_0e30d) := goodIn_app (goodIn_of _ (by decide +kernel)) ggX1_text_J4_toString_0e30d
theorem dX1_text_0 : decode cX1_text 0 = .ok (.aload_n 0, 1) := by decide +kernel
theorem dX1_text_1 : decode cX1_text 1 = .ok (.getfield 41, 3) := by decide +kernel
theorem dX1_text_4 : decode cX1_text 4 = .ok (.aload_n 0, 1) := by decide +kernel
theorem dX1_text_5 : decode cX1_text 5 = .ok (.iload_n 1, 1) := by decide +kernel
theorem dX1_text_6 : decode cX1_text 6 = .ok (.invokevirtual 89, 3) := by decide +kernel
theorem dX1_text_9 : decode cX1_text 9 = .ok (.invokestatic 208, 3) := by decide +kernel
theorem dX1_text_12 : decode cX1_text 12 = .ok (.aload_n 0, 1) := by decide +kernel
theorem dX1_text_13 : decode cX1_text 13 = .ok (.getfield 41, 3) := by decide +kernel
theorem dX1_text_16 : decode cX1_text 16 = .ok (.invokevirtual 212, 3) := by decide +kernel
theorem dX1_text_19 : decode cX1_text 19 = .ok (.areturn, 1) := by decide +kernel
set_option maxRecDepth 20000 in
theorem ggX1_rowOf_Jx4a65c_size_8abf5 : GoodIn wsX1_rowOf wsJx4a65c_size_8abf5 := goodIn_r _ [9, 10, 36, 37, 38] (by decide +kernel) (by decide +kernel)
set_option maxRecDepth 20000 in
theorem gX1_rowOf_Jx4a65c_size_8abf5 : GoodIn wsX1_rowOf (wsV RX1 78 RJx4a65c yJx4a65c_size_8abf5 wsJx4a65c_size_8abf5) := goodIn_app (goodIn_of _ (by decide +kernel)) ggX1_rowOf_Jx4a65c_size_8abf5
set_option maxRecDepth 20000 in
theorem ggX1_rowOf_Jx4a65c_get_915e3 : GoodIn wsX1_rowOf wsJx4a65c_get_915e3 := goodIn_r _ [14, 10, 15, 16, 17, 18, 19, 20, 21, 22, 23, 24, 25, 8, 26, 27, 36, 37, 38] (by decide +kernel) (by decide +kernel)
set_option maxRecDepth 20000 in
theorem gX1_rowOf_Jx4a65c_get_915e3 : GoodIn wsX1_rowOf (wsV RX1 233 RJx4a65c yJx4a65c_get_915e3 wsJx4a65c_get_915e3) := goodIn_app (goodIn_of _ (by decide +kernel)) ggX1_rowOf_Jx4a65c_get_915e3
theorem dX1_rowOf_0 : decode cX1_rowOf 0 = .ok (.iload_n 1, 1) := by decide +kernel
theorem dX1_rowOf_1 : decode cX1_rowOf 1 = .ok (.ifCond .lt 14, 3) := by decide +kernel
theorem dX1_rowOf_4 : decode cX1_rowOf 4 = .ok (.iload_n 1, 1) := by decide +kernel
theorem dX1_rowOf_5 : decode cX1_rowOf 5 = .ok (.aload_n 0, 1) := by decide +kernel
theorem dX1_rowOf_6 : decode cX1_rowOf 6 = .ok (.getfield 12, 3) := by decide +kernel
theorem dX1_rowOf_9 : decode cX1_rowOf 9 = .ok (.invokevirtual 78, 3) := by decide +kernel
theorem dX1_rowOf_12 : decode cX1_rowOf 12 = .ok (.if_icmp .lt 14, 3) := by decide +kernel
theorem dX1_rowOf_15 : decode cX1_rowOf 15 = .ok (.new 261, 3) := by decide +kernel
theorem dX1_rowOf_18 : decode cX1_rowOf 18 = .ok (.dup, 1) := by decide +kernel
theorem dX1_rowOf_19 : decode cX1_rowOf 19 = .ok (.ldc_w 263, 3) := by decide +kernel
theorem dX1_rowOf_22 : decode cX1_rowOf 22 = .ok (.invokespecial 265, 3) := by decide +kernel
theorem dX1_rowOf_25 : decode cX1_rowOf 25 = .ok (.athrow, 1) := by decide +kernel
theorem dX1_rowOf_26 : decode cX1_rowOf 26 = .ok (.aload_n 0, 1) := by decide +kernel
theorem dX1_rowOf_27 : decode cX1_rowOf 27 = .ok (.getfield 12, 3) := by decide +kernel
theorem dX1_rowOf_30 : decode cX1_rowOf 30 = .ok (.iload_n 1, 1) := by decide +kernel
theorem dX1_rowOf_31 : decode cX1_rowOf 31 = .ok (.invokevirtual 233, 3) := by decide +kernel
theorem dX1_rowOf_34 : decode cX1_rowOf 34 = .ok (.checkcast 26, 3) := by decide +kernel
theorem dX1_rowOf_37 : decode cX1_rowOf 37 = .ok (.areturn, 1) := by decide +kernel
theorem dX1_requireLength_0 : decode cX1_requireLength 0 = .ok (.iload_n 0, 1) := by decide +kernel
theorem dX1_requireLength_1 : decode cX1_requireLength 1 = .ok (.ifCond .lt 8, 3) := by decide +kernel
theorem dX1_requireLength_4 : decode cX1_requireLength 4 = .ok (.iload_n 0, 1) := by decide +kernel
theorem dX1_requireLength_5 : decode cX1_requireLength 5 = .ok (.iconst 4, 1) := by decide +kernel
theorem dX1_requireLength_6 : decode cX1_requireLength 6 = .ok (.if_icmp .le 14, 3) := by decide +kernel
theorem dX1_requireLength_9 : decode cX1_requireLength 9 = .ok (.new 48, 3) := by decide +kernel
theorem dX1_requireLength_12 : decode cX1_requireLength 12 = .ok (.dup, 1) := by decide +kernel
theorem dX1_requireLength_13 : decode cX1_requireLength 13 = .ok (.ldc_w 270, 3) := by decide +kernel
theorem dX1_requireLength_16 : decode cX1_requireLength 16 = .ok (.invokespecial 52, 3) := by decide +kernel
theorem dX1_requireLength_19 : decode cX1_requireLength 19 = .ok (.athrow, 1) := by decide +kernel
theorem dX1_requireLength_20 : decode cX1_requireLength 20 = .ok (.return_, 1) := by decide +kernel
theorem dX1_requireThings_0 : decode cX1_requireThings 0 = .ok (.aload_n 0, 1) := by decide +kernel
theorem dX1_requireThings_1 : decode cX1_requireThings 1 = .ok (.getfield 161, 3) := by decide +kernel
theorem dX1_requireThings_4 : decode cX1_requireThings 4 = .ok (.iconst 4, 1) := by decide +kernel
theorem dX1_requireThings_5 : decode cX1_requireThings 5 = .ok (.if_icmp .eq 14, 3) := by decide +kernel
theorem dX1_requireThings_8 : decode cX1_requireThings 8 = .ok (.new 48, 3) := by decide +kernel
theorem dX1_requireThings_11 : decode cX1_requireThings 11 = .ok (.dup, 1) := by decide +kernel
theorem dX1_requireThings_12 : decode cX1_requireThings 12 = .ok (.ldc_w 272, 3) := by decide +kernel
theorem dX1_requireThings_15 : decode cX1_requireThings 15 = .ok (.invokespecial 52, 3) := by decide +kernel
theorem dX1_requireThings_18 : decode cX1_requireThings 18 = .ok (.athrow, 1) := by decide +kernel
theorem dX1_requireThings_19 : decode cX1_requireThings 19 = .ok (.return_, 1) := by decide +kernel
theorem dX1_requireLess_0 : decode cX1_requireLess 0 = .ok (.iload_n 0, 1) := by decide +kernel
theorem dX1_requireLess_1 : decode cX1_requireLess 1 = .ok (.iload_n 1, 1) := by decide +kernel
theorem dX1_requireLess_2 : decode cX1_requireLess 2 = .ok (.if_icmp .lt 14, 3) := by decide +kernel
theorem dX1_requireLess_5 : decode cX1_requireLess 5 = .ok (.new 73, 3) := by decide +kernel
theorem dX1_requireLess_8 : decode cX1_requireLess 8 = .ok (.dup, 1) := by decide +kernel
theorem dX1_requireLess_9 : decode cX1_requireLess 9 = .ok (.ldc_w 276, 3) := by decide +kernel
theorem dX1_requireLess_12 : decode cX1_requireLess 12 = .ok (.invokespecial 77, 3) := by decide +kernel
theorem dX1_requireLess_15 : decode cX1_requireLess 15 = .ok (.athrow, 1) := by decide +kernel
theorem dX1_requireLess_16 : decode cX1_requireLess 16 = .ok (.return_, 1) := by decide +kernel
set_option maxRecDepth 20000 in
theorem ggX1_requireRoom_Jx4a65c_size_8abf5 : GoodIn wsX1_requireRoom wsJx4a65c_size_8abf5 := goodIn_r _ [8, 9, 18, 19, 20] (by decide +kernel) (by decide +kernel)
set_option maxRecDepth 20000 in
theorem gX1_requireRoom_Jx4a65c_size_8abf5 : GoodIn wsX1_requireRoom (wsV RX1 78 RJx4a65c yJx4a65c_size_8abf5 wsJx4a65c_size_8abf5) := goodIn_app (goodIn_of _ (by decide +kernel)) ggX1_requireRoom_Jx4a65c_size_8abf5
theorem dX1_requireRoom_0 : decode cX1_requireRoom 0 = .ok (.aload_n 0, 1) := by decide +kernel
theorem dX1_requireRoom_1 : decode cX1_requireRoom 1 = .ok (.getfield 12, 3) := by decide +kernel
theorem dX1_requireRoom_4 : decode cX1_requireRoom 4 = .ok (.invokevirtual 78, 3) := by decide +kernel
theorem dX1_requireRoom_7 : decode cX1_requireRoom 7 = .ok (.iload_n 1, 1) := by decide +kernel
theorem dX1_requireRoom_8 : decode cX1_requireRoom 8 = .ok (.iadd, 1) := by decide +kernel
theorem dX1_requireRoom_9 : decode cX1_requireRoom 9 = .ok (.bipush 12, 2) := by decide +kernel
theorem dX1_requireRoom_11 : decode cX1_requireRoom 11 = .ok (.if_icmp .le 14, 3) := by decide +kernel
theorem dX1_requireRoom_14 : decode cX1_requireRoom 14 = .ok (.new 73, 3) := by decide +kernel
theorem dX1_requireRoom_17 : decode cX1_requireRoom 17 = .ok (.dup, 1) := by decide +kernel
theorem dX1_requireRoom_18 : decode cX1_requireRoom 18 = .ok (.ldc_w 278, 3) := by decide +kernel
theorem dX1_requireRoom_21 : decode cX1_requireRoom 21 = .ok (.invokespecial 77, 3) := by decide +kernel
theorem dX1_requireRoom_24 : decode cX1_requireRoom 24 = .ok (.athrow, 1) := by decide +kernel
theorem dX1_requireRoom_25 : decode cX1_requireRoom 25 = .ok (.return_, 1) := by decide +kernel
set_option maxRecDepth 20000 in
theorem ggX1_requireDepths_Jx4a65c_size_8abf5 : GoodIn wsX1_requireDepths wsJx4a65c_size_8abf5 := goodIn_r _ [9, 10, 44, 45, 46] (by decide +kernel) (by decide +kernel)
set_option maxRecDepth 20000 in
theorem gX1_requireDepths_Jx4a65c_size_8abf5 : GoodIn wsX1_requireDepths (wsV RX1 78 RJx4a65c yJx4a65c_size_8abf5 wsJx4a65c_size_8abf5) := goodIn_app (goodIn_of _ (by decide +kernel)) ggX1_requireDepths_Jx4a65c_size_8abf5
set_option maxRecDepth 20000 in
theorem ggX1_requireDepths_Jx4a65c_get_915e3 : GoodIn wsX1_requireDepths wsJx4a65c_get_915e3 := goodIn_r _ [14, 10, 15, 16, 17, 18, 19, 20, 21, 22, 23, 24, 25, 8, 26, 27, 44, 45, 46] (by decide +kernel) (by decide +kernel)
set_option maxRecDepth 20000 in
theorem gX1_requireDepths_Jx4a65c_get_915e3 : GoodIn wsX1_requireDepths (wsV RX1 233 RJx4a65c yJx4a65c_get_915e3 wsJx4a65c_get_915e3) := goodIn_app (goodIn_of _ (by decide +kernel)) ggX1_requireDepths_Jx4a65c_get_915e3
set_option maxRecDepth 20000 in
theorem ggX1_requireDepths_X1_depthIf : GoodIn wsX1_requireDepths wsX1_depthIf := goodIn_r _ [31, 32, 33, 34, 35, 28, 29, 30, 47, 48, 49, 50, 51, 52] (by decide +kernel) (by decide +kernel)
set_option maxRecDepth 20000 in
theorem gX1_requireDepths_X1_depthIf : GoodIn wsX1_requireDepths (va_wsS RX1 280 yX1_depthIf wsX1_depthIf) := goodIn_app (goodIn_of _ (by decide +kernel)) ggX1_requireDepths_X1_depthIf
theorem dX1_requireDepths_0 : decode cX1_requireDepths 0 = .ok (.iconst 0, 1) := by decide +kernel
theorem dX1_requireDepths_1 : decode cX1_requireDepths 1 = .ok (.istore_n 3, 1) := by decide +kernel
theorem dX1_requireDepths_2 : decode cX1_requireDepths 2 = .ok (.iload_n 3, 1) := by decide +kernel
theorem dX1_requireDepths_3 : decode cX1_requireDepths 3 = .ok (.aload_n 0, 1) := by decide +kernel
theorem dX1_requireDepths_4 : decode cX1_requireDepths 4 = .ok (.getfield 12, 3) := by decide +kernel
theorem dX1_requireDepths_7 : decode cX1_requireDepths 7 = .ok (.invokevirtual 78, 3) := by decide +kernel
theorem dX1_requireDepths_10 : decode cX1_requireDepths 10 = .ok (.if_icmp .ge 41, 3) := by decide +kernel
theorem dX1_requireDepths_13 : decode cX1_requireDepths 13 = .ok (.aload_n 0, 1) := by decide +kernel
theorem dX1_requireDepths_14 : decode cX1_requireDepths 14 = .ok (.getfield 12, 3) := by decide +kernel
theorem dX1_requireDepths_17 : decode cX1_requireDepths 17 = .ok (.iload_n 3, 1) := by decide +kernel
theorem dX1_requireDepths_18 : decode cX1_requireDepths 18 = .ok (.invokevirtual 233, 3) := by decide +kernel
theorem dX1_requireDepths_21 : decode cX1_requireDepths 21 = .ok (.checkcast 26, 3) := by decide +kernel
theorem dX1_requireDepths_24 : decode cX1_requireDepths 24 = .ok (.aload_n 1, 1) := by decide +kernel
theorem dX1_requireDepths_25 : decode cX1_requireDepths 25 = .ok (.iload_n 2, 1) := by decide +kernel
theorem dX1_requireDepths_26 : decode cX1_requireDepths 26 = .ok (.iconst 4, 1) := by decide +kernel
theorem dX1_requireDepths_27 : decode cX1_requireDepths 27 = .ok (.invokestatic 280, 3) := by decide +kernel
theorem dX1_requireDepths_30 : decode cX1_requireDepths 30 = .ok (.iconst 4, 1) := by decide +kernel
theorem dX1_requireDepths_31 : decode cX1_requireDepths 31 = .ok (.if_icmp .le 14, 3) := by decide +kernel
theorem dX1_requireDepths_34 : decode cX1_requireDepths 34 = .ok (.new 73, 3) := by decide +kernel
theorem dX1_requireDepths_37 : decode cX1_requireDepths 37 = .ok (.dup, 1) := by decide +kernel
theorem dX1_requireDepths_38 : decode cX1_requireDepths 38 = .ok (.ldc_w 284, 3) := by decide +kernel
theorem dX1_requireDepths_41 : decode cX1_requireDepths 41 = .ok (.invokespecial 77, 3) := by decide +kernel
theorem dX1_requireDepths_44 : decode cX1_requireDepths 44 = .ok (.athrow, 1) := by decide +kernel
theorem dX1_requireDepths_45 : decode cX1_requireDepths 45 = .ok (.iinc 3 1, 3) := by decide +kernel
theorem dX1_requireDepths_48 : decode cX1_requireDepths 48 = .ok (.goto (-46), 3) := by decide +kernel
theorem dX1_requireDepths_51 : decode cX1_requireDepths 51 = .ok (.return_, 1) := by decide +kernel
set_option maxRecDepth 20000 in
theorem ggX1_addRow_Jx4a65c_size_8abf5 : GoodIn wsX1_addRow wsJx4a65c_size_8abf5 := goodIn_r _ [6, 7, 76, 77, 78] (by decide +kernel) (by decide +kernel)
set_option maxRecDepth 20000 in
theorem gX1_addRow_Jx4a65c_size_8abf5 : GoodIn wsX1_addRow (wsV RX1 78 RJx4a65c yJx4a65c_size_8abf5 wsJx4a65c_size_8abf5) := goodIn_app (goodIn_of _ (by decide +kernel)) ggX1_addRow_Jx4a65c_size_8abf5
set_option maxRecDepth 20000 in
theorem ggX1_addRow_Jx4a65c_add_9ea2d : GoodIn wsX1_addRow wsJx4a65c_add_9ea2d := goodIn_r _ [11, 12, 13, 14, 7, 15, 16, 17, 5, 18, 19, 20, 21, 22, 23, 24, 25, 26, 27, 28, 29, 30, 31, 32, 33, 34, 35, 36, 37, 38, 39, 40, 41, 42, 43, 44, 45, 46, 47, 48, 49, 50, 51, 52, 53, 54, 55, 56, 57, 58, 59, 60, 61, 76, 77, 78] (by decide +kernel) (by decide +kernel)
set_option maxRecDepth 20000 in
theorem gX1_addRow_Jx4a65c_add_9ea2d : GoodIn wsX1_addRow (wsV RX1 286 RJx4a65c yJx4a65c_add_9ea2d wsJx4a65c_add_9ea2d) := goodIn_app (goodIn_of _ (by decide +kernel)) ggX1_addRow_Jx4a65c_add_9ea2d
theorem dX1_addRow_0 : decode cX1_addRow 0 = .ok (.aload_n 1, 1) := by decide +kernel
theorem dX1_addRow_1 : decode cX1_addRow 1 = .ok (.aload_n 0, 1) := by decide +kernel
theorem dX1_addRow_2 : decode cX1_addRow 2 = .ok (.getfield 12, 3) := by decide +kernel
theorem dX1_addRow_5 : decode cX1_addRow 5 = .ok (.invokevirtual 78, 3) := by decide +kernel
theorem dX1_addRow_8 : decode cX1_addRow 8 = .ok (.putfield 66, 3) := by decide +kernel
theorem dX1_addRow_11 : decode cX1_addRow 11 = .ok (.aload_n 0, 1) := by decide +kernel
theorem dX1_addRow_12 : decode cX1_addRow 12 = .ok (.getfield 12, 3) := by decide +kernel
theorem dX1_addRow_15 : decode cX1_addRow 15 = .ok (.aload_n 1, 1) := by decide +kernel
theorem dX1_addRow_16 : decode cX1_addRow 16 = .ok (.invokevirtual 286, 3) := by decide +kernel
theorem dX1_addRow_19 : decode cX1_addRow 19 = .ok (.pop, 1) := by decide +kernel
theorem dX1_addRow_20 : decode cX1_addRow 20 = .ok (.aload_n 1, 1) := by decide +kernel
theorem dX1_addRow_21 : decode cX1_addRow 21 = .ok (.areturn, 1) := by decide +kernel
set_option maxRecDepth 20000 in
theorem ggX1_depthOf_X1_depthIf : GoodIn wsX1_depthOf wsX1_depthIf := goodIn_r _ [4, 5, 6, 7, 8, 1, 2, 3, 9, 10, 11, 12, 13, 14] (by decide +kernel) (by decide +kernel)
set_option maxRecDepth 20000 in
theorem gX1_depthOf_X1_depthIf : GoodIn wsX1_depthOf (va_wsS RX1 280 yX1_depthIf wsX1_depthIf) := goodIn_app (goodIn_of _ (by decide +kernel)) ggX1_depthOf_X1_depthIf
theorem dX1_depthOf_0 : decode cX1_depthOf 0 = .ok (.aload_n 0, 1) := by decide +kernel
theorem dX1_depthOf_1 : decode cX1_depthOf 1 = .ok (.aconst_null, 1) := by decide +kernel
theorem dX1_depthOf_2 : decode cX1_depthOf 2 = .ok (.iconst 0, 1) := by decide +kernel
theorem dX1_depthOf_3 : decode cX1_depthOf 3 = .ok (.iconst 4, 1) := by decide +kernel
theorem dX1_depthOf_4 : decode cX1_depthOf 4 = .ok (.invokestatic 280, 3) := by decide +kernel
theorem dX1_depthOf_7 : decode cX1_depthOf 7 = .ok (.ireturn, 1) := by decide +kernel
set_option maxRecDepth 20000 in
theorem ggX1_depthIf_X1_depthIf : GoodIn wsX1_depthIf wsX1_depthIf := goodIn_r _ [0, 1, 2, 3, 4, 5, 6, 7, 8, 9, 10, 11, 12, 13] (by decide +kernel) (by decide +kernel)
set_option maxRecDepth 20000 in
theorem gX1_depthIf_X1_depthIf : GoodIn wsX1_depthIf (va_wsS RX1 280 yX1_depthIf wsX1_depthIf) := goodIn_app (goodIn_of _ (by decide +kernel)) ggX1_depthIf_X1_depthIf
theorem dX1_depthIf_0 : decode cX1_depthIf 0 = .ok (.aload_n 0, 1) := by decide +kernel
theorem dX1_depthIf_1 : decode cX1_depthIf 1 = .ok (.aload_n 1, 1) := by decide +kernel
theorem dX1_depthIf_2 : decode cX1_depthIf 2 = .ok (.if_acmp .ne 5, 3) := by decide +kernel
theorem dX1_depthIf_5 : decode cX1_depthIf 5 = .ok (.iload_n 2, 1) := by decide +kernel
theorem dX1_depthIf_6 : decode cX1_depthIf 6 = .ok (.ireturn, 1) := by decide +kernel
theorem dX1_depthIf_7 : decode cX1_depthIf 7 = .ok (.iconst 1, 1) := by decide +kernel
theorem dX1_depthIf_8 : decode cX1_depthIf 8 = .ok (.istore 4, 2) := by decide +kernel
theorem dX1_depthIf_10 : decode cX1_depthIf 10 = .ok (.iconst 0, 1) := by decide +kernel
theorem dX1_depthIf_11 : decode cX1_depthIf 11 = .ok (.istore 5, 2) := by decide +kernel
theorem dX1_depthIf_13 : decode cX1_depthIf 13 = .ok (.iload_n 3, 1) := by decide +kernel
theorem dX1_depthIf_14 : decode cX1_depthIf 14 = .ok (.iconst 1, 1) := by decide +kernel
theorem dX1_depthIf_15 : decode cX1_depthIf 15 = .ok (.if_icmp .le 51, 3) := by decide +kernel
theorem dX1_depthIf_18 : decode cX1_depthIf 18 = .ok (.iload 5, 2) := by decide +kernel
theorem dX1_depthIf_20 : decode cX1_depthIf 20 = .ok (.aload_n 0, 1) := by decide +kernel
theorem dX1_depthIf_21 : decode cX1_depthIf 21 = .ok (.getfield 158, 3) := by decide +kernel
theorem dX1_depthIf_24 : decode cX1_depthIf 24 = .ok (.if_icmp .ge 42, 3) := by decide +kernel
theorem dX1_depthIf_27 : decode cX1_depthIf 27 = .ok (.aload_n 0, 1) := by decide +kernel
theorem dX1_depthIf_28 : decode cX1_depthIf 28 = .ok (.getfield 146, 3) := by decide +kernel
theorem dX1_depthIf_31 : decode cX1_depthIf 31 = .ok (.iload 5, 2) := by decide +kernel
theorem dX1_depthIf_33 : decode cX1_depthIf 33 = .ok (.aaload, 1) := by decide +kernel
theorem dX1_depthIf_34 : decode cX1_depthIf 34 = .ok (.astore 6, 2) := by decide +kernel
theorem dX1_depthIf_36 : decode cX1_depthIf 36 = .ok (.aload 6, 2) := by decide +kernel
theorem dX1_depthIf_38 : decode cX1_depthIf 38 = .ok (.ifnull 22, 3) := by decide +kernel
theorem dX1_depthIf_41 : decode cX1_depthIf 41 = .ok (.iload 4, 2) := by decide +kernel
theorem dX1_depthIf_43 : decode cX1_depthIf 43 = .ok (.iconst 1, 1) := by decide +kernel
theorem dX1_depthIf_44 : decode cX1_depthIf 44 = .ok (.aload 6, 2) := by decide +kernel
theorem dX1_depthIf_46 : decode cX1_depthIf 46 = .ok (.aload_n 1, 1) := by decide +kernel
theorem dX1_depthIf_47 : decode cX1_depthIf 47 = .ok (.iload_n 2, 1) := by decide +kernel
theorem dX1_depthIf_48 : decode cX1_depthIf 48 = .ok (.iload_n 3, 1) := by decide +kernel
theorem dX1_depthIf_49 : decode cX1_depthIf 49 = .ok (.iconst 1, 1) := by decide +kernel
theorem dX1_depthIf_50 : decode cX1_depthIf 50 = .ok (.isub, 1) := by decide +kernel
theorem dX1_depthIf_51 : decode cX1_depthIf 51 = .ok (.invokestatic 280, 3) := by decide +kernel
theorem dX1_depthIf_54 : decode cX1_depthIf 54 = .ok (.iadd, 1) := by decide +kernel
theorem dX1_depthIf_55 : decode cX1_depthIf 55 = .ok (.invokestatic 126, 3) := by decide +kernel
theorem dX1_depthIf_58 : decode cX1_depthIf 58 = .ok (.istore 4, 2) := by decide +kernel
theorem dX1_depthIf_60 : decode cX1_depthIf 60 = .ok (.iinc 5 1, 3) := by decide +kernel
theorem dX1_depthIf_63 : decode cX1_depthIf 63 = .ok (.goto (-50), 3) := by decide +kernel
theorem dX1_depthIf_66 : decode cX1_depthIf 66 = .ok (.iload 4, 2) := by decide +kernel
theorem dX1_depthIf_68 : decode cX1_depthIf 68 = .ok (.ireturn, 1) := by decide +kernel
set_option maxRecDepth 20000 in
theorem ggX1_writeAnew_J4_setLength_d00df : GoodIn wsX1_writeAnew wsJ4_setLength_d00df := goodIn_r _ [5, 6, 7, 8, 9, 10, 11, 12, 13, 14, 15, 16, 17, 18, 19, 20, 21, 22, 23, 24, 25, 26, 27, 28, 29, 30, 31, 32, 33, 34, 35, 36, 37, 38, 39, 40, 41, 42, 43, 44, 45, 46, 47, 48, 49, 50, 51, 52, 53, 54, 55, 56, 57, 58, 59, 60, 61, 62, 63, 64, 65, 66, 67, 68, 69, 70, 71, 72, 73, 74, 75, 76, 77, 4, 78, 79, 80, 81, 82, 83, 84, 85, 196, 197, 198, 199, 200, 201, 202, 203, 204, 205, 206, 207, 208, 209, 210, 211] (by decide +kernel) (by decide +kernel)
set_option maxRecDepth 20000 in
theorem gX1_writeAnew_J4_setLength_d00df : GoodIn wsX1_writeAnew (wsV RX1 342 RJ4 yJ4_setLength_d00df wsJ4_setLength_d00df) := goodIn_app (goodIn_of _ (by decide +kernel)) ggX1_writeAnew_J4_setLength_d00df
set_option maxRecDepth 20000 in
theorem ggX1_writeAnew_X1_writeRow : GoodIn wsX1_writeAnew wsX1_writeRow := goodIn_ca (goodIn_r _ [89, 90, 91, 92, 4, 93, 94, 95, 8, 96, 10, 97, 15, 16, 18, 19, 20, 21, 22, 23, 24, 25, 26, 27, 28, 29, 30, 31, 32, 33, 34, 35, 36, 37, 38, 39, 40, 41, 42, 43, 44, 45, 46, 47, 48, 49, 50, 51, 52, 53, 54, 55, 56, 57, 58, 59, 60, 61, 62, 63, 64, 65, 98, 99, 68, 100, 101, 102, 103, 104, 105, 106, 107, 83, 108, 109, 110, 111, 112, 113, 114, 115, 116, 117, 118, 119, 120, 121, 122, 123, 124, 125, 126, 127, 128, 129, 130, 131, 132, 133, 134, 135, 136, 137, 138, 139, 140, 141, 142, 143, 144, 145, 146, 147, 148, 149, 150, 151, 152, 153, 88, 154, 155, 156, 157, 158, 159, 160, 161, 162, 163, 164, 165, 166, 167, 168, 169, 170, 171, 172, 173, 174, 175, 176, 177, 178, 179, 180, 181, 182, 183, 184, 185, 186, 86, 87, 187, 188, 189, 190, 191, 192, 193, 194, 195, 212, 213, 214, 215, 216, 217, 202, 203, 204, 205, 218, 219, 220, 221] (by decide +kernel) (by decide +kernel)) (goodIn_sub (fun _ h => List.mem_cons_of_mem _ (List.mem_append_right _ h)) (by decide +kernel))
set_option maxRecDepth 20000 in
theorem gX1_writeAnew_X1_writeRow : GoodIn wsX1_writeAnew (va_wsS RX1 345 yX1_writeRow wsX1_writeRow) := goodIn_app (goodIn_of _ (by decide +kernel)) ggX1_writeAnew_X1_writeRow
theorem dX1_writeAnew_0 : decode cX1_writeAnew 0 = .ok (.aload_n 0, 1) := by decide +kernel
theorem dX1_writeAnew_1 : decode cX1_writeAnew 1 = .ok (.iconst 0, 1) := by decide +kernel
theorem dX1_writeAnew_2 : decode cX1_writeAnew 2 = .ok (.invokevirtual 342, 3) := by decide +kernel
theorem dX1_writeAnew_5 : decode cX1_writeAnew 5 = .ok (.aload_n 0, 1) := by decide +kernel
theorem dX1_writeAnew_6 : decode cX1_writeAnew 6 = .ok (.aload_n 1, 1) := by decide +kernel
theorem dX1_writeAnew_7 : decode cX1_writeAnew 7 = .ok (.iconst 5, 1) := by decide +kernel
theorem dX1_writeAnew_8 : decode cX1_writeAnew 8 = .ok (.invokestatic 345, 3) := by decide +kernel
theorem dX1_writeAnew_11 : decode cX1_writeAnew 11 = .ok (.return_, 1) := by decide +kernel
set_option maxRecDepth 20000 in
theorem ggX1_writeRow_J4_append_cf468 : GoodIn wsX1_writeRow wsJ4_append_cf468 := goodIn_r _ [5, 6, 7, 8, 9, 10, 11, 12, 13, 14, 15, 16, 17, 18, 19, 20, 21, 22, 23, 24, 25, 26, 27, 28, 29, 30, 31, 32, 33, 34, 35, 36, 37, 38, 39, 40, 41, 42, 43, 44, 45, 46, 47, 48, 49, 50, 51, 52, 53, 54, 55, 56, 57, 58, 59, 60, 61, 62, 63, 64, 65, 66, 67, 68, 69, 70, 71, 72, 73, 74, 75, 76, 77, 78, 79, 80, 81, 82, 83, 84, 85, 86, 87, 88, 89, 90, 91, 92, 93, 94, 95, 96, 97, 98, 99, 100, 101, 102, 103, 104, 105, 106, 107, 108, 109, 110, 111, 112, 113, 114, 115, 116, 117, 171, 172, 173, 174] (by decide +kernel) (by decide +kernel)
set_option maxRecDepth 20000 in
theorem gX1_writeRow_J4_append_cf468 : GoodIn wsX1_writeRow (wsV RX1 349 RJ4 yJ4_append_cf468 wsJ4_append_cf468) := goodIn_app (goodIn_of _ (by decide +kernel)) ggX1_writeRow_J4_append_cf468
set_option maxRecDepth 20000 in
theorem ggX1_writeRow_X1_writeSigns : GoodIn wsX1_writeRow wsX1_writeSigns := goodIn_r _ [121, 122, 123, 124, 93, 125, 126, 127, 128, 129, 130, 131, 132, 133, 134, 135, 136, 137, 138, 139, 140, 141, 142, 64, 143, 144, 113, 114, 95, 115, 116, 98, 117, 145, 146, 73, 147, 109, 110, 111, 88, 89, 90, 112, 148, 149, 150, 103, 104, 105, 1, 2, 3, 4, 5, 6, 7, 8, 9, 10, 11, 12, 13, 14, 15, 16, 17, 18, 19, 20, 21, 22, 23, 24, 25, 26, 27, 28, 29, 30, 31, 32, 33, 34, 35, 36, 37, 38, 39, 40, 41, 42, 43, 44, 45, 46, 47, 48, 49, 50, 51, 52, 53, 54, 55, 56, 57, 58, 59, 60, 61, 62, 63, 65, 66, 67, 68, 69, 70, 71, 72, 74, 75, 76, 77, 78, 79, 80, 81, 82, 83, 84, 85, 86, 87, 91, 92, 94, 96, 97, 99, 100, 101, 102, 106, 107, 108, 175, 176, 177, 178, 171, 172, 173, 174] (by decide +kernel) (by decide +kernel)
set_option maxRecDepth 20000 in
theorem gX1_writeRow_X1_writeSigns : GoodIn wsX1_writeRow (va_wsS RX1 355 yX1_writeSigns wsX1_writeSigns) := goodIn_app (goodIn_of _ (by decide +kernel)) ggX1_writeRow_X1_writeSigns
set_option maxRecDepth 20000 in
theorem ggX1_writeRow_X1_writePlace : GoodIn wsX1_writeRow wsX1_writePlace := goodIn_ca (goodIn_r _ [153, 154, 155, 120, 156, 157, 158, 159, 160, 161, 1, 2, 3, 4, 5, 6, 7, 8, 9, 10, 11, 12, 13, 14, 15, 16, 17, 18, 19, 20, 21, 22, 23, 24, 25, 26, 27, 28, 29, 30, 31, 32, 33, 34, 35, 36, 37, 38, 39, 40, 41, 42, 43, 44, 45, 46, 47, 48, 49, 50, 51, 52, 53, 54, 55, 56, 57, 58, 59, 60, 61, 62, 63, 64, 65, 66, 67, 68, 69, 70, 71, 72, 73, 74, 75, 76, 77, 78, 79, 80, 81, 82, 83, 84, 85, 86, 87, 88, 89, 90, 91, 92, 93, 94, 95, 96, 97, 98, 99, 100, 101, 102, 103, 104, 105, 106, 107, 108, 109, 110, 111, 112, 113, 114, 115, 116, 117, 118, 119, 121, 122, 123, 124, 125, 126, 127, 128, 129, 130, 131, 132, 133, 134, 135, 136, 137, 138, 139, 140, 141, 142, 143, 144, 145, 146, 147, 148, 149, 150, 162, 163, 164, 0, 151, 152, 165, 166, 167, 168, 169, 170, 171, 172, 173, 174, 175, 176, 177, 178] (by decide +kernel) (by decide +kernel)) (goodIn_sub (fun _ h => List.mem_cons_of_mem _ (List.mem_append_right _ h)) (by decide +kernel))
set_option maxRecDepth 20000 in
theorem gX1_writeRow_X1_writePlace : GoodIn wsX1_writeRow (va_wsS RX1 359 yX1_writePlace wsX1_writePlace) := goodIn_app (goodIn_of _ (by decide +kernel)) ggX1_writeRow_X1_writePlace
theorem dX1_writeRow_0 : decode cX1_writeRow 0 = .ok (.aload_n 0, 1) := by decide +kernel
theorem dX1_writeRow_1 : decode cX1_writeRow 1 = .ok (.bipush 91, 2) := by decide +kernel
theorem dX1_writeRow_3 : decode cX1_writeRow 3 = .ok (.invokevirtual 349, 3) := by decide +kernel
theorem dX1_writeRow_6 : decode cX1_writeRow 6 = .ok (.pop, 1) := by decide +kernel
theorem dX1_writeRow_7 : decode cX1_writeRow 7 = .ok (.iconst 0, 1) := by decide +kernel
theorem dX1_writeRow_8 : decode cX1_writeRow 8 = .ok (.istore_n 3, 1) := by decide +kernel
theorem dX1_writeRow_9 : decode cX1_writeRow 9 = .ok (.iload_n 2, 1) := by decide +kernel
theorem dX1_writeRow_10 : decode cX1_writeRow 10 = .ok (.ifCond .le 35, 3) := by decide +kernel
theorem dX1_writeRow_13 : decode cX1_writeRow 13 = .ok (.iload_n 3, 1) := by decide +kernel
theorem dX1_writeRow_14 : decode cX1_writeRow 14 = .ok (.aload_n 1, 1) := by decide +kernel
theorem dX1_writeRow_15 : decode cX1_writeRow 15 = .ok (.getfield 158, 3) := by decide +kernel
theorem dX1_writeRow_18 : decode cX1_writeRow 18 = .ok (.if_icmp .ge 27, 3) := by decide +kernel
theorem dX1_writeRow_21 : decode cX1_writeRow 21 = .ok (.iload_n 3, 1) := by decide +kernel
theorem dX1_writeRow_22 : decode cX1_writeRow 22 = .ok (.ifCond .le 10, 3) := by decide +kernel
theorem dX1_writeRow_25 : decode cX1_writeRow 25 = .ok (.aload_n 0, 1) := by decide +kernel
theorem dX1_writeRow_26 : decode cX1_writeRow 26 = .ok (.ldc_w 353, 3) := by decide +kernel
theorem dX1_writeRow_29 : decode cX1_writeRow 29 = .ok (.invokestatic 355, 3) := by decide +kernel
theorem dX1_writeRow_32 : decode cX1_writeRow 32 = .ok (.aload_n 0, 1) := by decide +kernel
theorem dX1_writeRow_33 : decode cX1_writeRow 33 = .ok (.aload_n 1, 1) := by decide +kernel
theorem dX1_writeRow_34 : decode cX1_writeRow 34 = .ok (.iload_n 3, 1) := by decide +kernel
theorem dX1_writeRow_35 : decode cX1_writeRow 35 = .ok (.iload_n 2, 1) := by decide +kernel
theorem dX1_writeRow_36 : decode cX1_writeRow 36 = .ok (.invokestatic 359, 3) := by decide +kernel
theorem dX1_writeRow_39 : decode cX1_writeRow 39 = .ok (.iinc 3 1, 3) := by decide +kernel
theorem dX1_writeRow_42 : decode cX1_writeRow 42 = .ok (.goto (-33), 3) := by decide +kernel
theorem dX1_writeRow_45 : decode cX1_writeRow 45 = .ok (.aload_n 0, 1) := by decide +kernel
theorem dX1_writeRow_46 : decode cX1_writeRow 46 = .ok (.bipush 93, 2) := by decide +kernel
theorem dX1_writeRow_48 : decode cX1_writeRow 48 = .ok (.invokevirtual 349, 3) := by decide +kernel
theorem dX1_writeRow_51 : decode cX1_writeRow 51 = .ok (.pop, 1) := by decide +kernel
theorem dX1_writeRow_52 : decode cX1_writeRow 52 = .ok (.return_, 1) := by decide +kernel
set_option maxRecDepth 20000 in
theorem ggX1_writePlace_X1_writeRow : GoodIn wsX1_writePlace wsX1_writeRow := goodIn_ca (goodIn_r _ [162, 10, 11, 12, 13, 14, 15, 16, 17, 18, 19, 20, 21, 22, 23, 24, 25, 26, 27, 28, 29, 30, 31, 32, 33, 34, 35, 36, 37, 38, 39, 40, 41, 42, 43, 44, 45, 46, 47, 48, 49, 50, 51, 52, 53, 54, 55, 56, 57, 58, 59, 60, 61, 62, 63, 64, 65, 66, 67, 68, 69, 70, 71, 72, 73, 74, 75, 76, 77, 78, 79, 80, 81, 82, 83, 84, 85, 86, 87, 88, 89, 90, 91, 92, 93, 94, 95, 96, 97, 98, 99, 100, 101, 102, 103, 104, 105, 106, 107, 108, 109, 110, 111, 112, 113, 114, 115, 116, 117, 118, 119, 120, 121, 122, 123, 124, 125, 126, 127, 128, 3, 129, 130, 131, 132, 133, 134, 135, 136, 137, 138, 139, 140, 141, 142, 143, 144, 145, 146, 147, 148, 149, 150, 151, 152, 153, 154, 155, 156, 157, 158, 163, 164, 0, 1, 2, 4, 5, 6, 7, 8, 9, 159, 160, 161, 165, 166, 167, 168, 169, 170, 171, 172, 173, 174, 175, 176, 177, 178] (by decide +kernel) (by decide +kernel)) (goodIn_sub (fun _ h => List.mem_cons_of_mem _ (List.mem_append_right _ h)) (by decide +kernel))
set_option maxRecDepth 20000 in
theorem gX1_writePlace_X1_writeRow : GoodIn wsX1_writePlace (va_wsS RX1 345 yX1_writeRow wsX1_writeRow) := goodIn_app (goodIn_of _ (by decide +kernel)) ggX1_writePlace_X1_writeRow
set_option maxRecDepth 20000 in
theorem ggX1_writePlace_X1_writeSigns : GoodIn wsX1_writePlace wsX1_writeSigns := goodIn_r _ [129, 130, 131, 132, 102, 133, 134, 135, 136, 137, 138, 139, 140, 141, 142, 143, 144, 145, 146, 147, 148, 149, 150, 73, 151, 152, 122, 123, 104, 124, 125, 107, 126, 153, 154, 82, 155, 118, 119, 120, 97, 98, 99, 121, 156, 157, 158, 112, 113, 114, 10, 11, 12, 13, 14, 15, 16, 17, 18, 19, 20, 21, 22, 23, 24, 25, 26, 27, 28, 29, 30, 31, 32, 33, 34, 35, 36, 37, 38, 39, 40, 41, 42, 43, 44, 45, 46, 47, 48, 49, 50, 51, 52, 53, 54, 55, 56, 57, 58, 59, 60, 61, 62, 63, 64, 65, 66, 67, 68, 69, 70, 71, 72, 74, 75, 76, 77, 78, 79, 80, 81, 83, 84, 85, 86, 87, 88, 89, 90, 91, 92, 93, 94, 95, 96, 100, 101, 103, 105, 106, 108, 109, 110, 111, 115, 116, 117, 175, 176, 177, 178, 171, 172, 173, 174] (by decide +kernel) (by decide +kernel)
set_option maxRecDepth 20000 in
theorem gX1_writePlace_X1_writeSigns : GoodIn wsX1_writePlace (va_wsS RX1 355 yX1_writeSigns wsX1_writeSigns) := goodIn_app (goodIn_of _ (by decide +kernel)) ggX1_writePlace_X1_writeSigns
theorem dX1_writePlace_0 : decode cX1_writePlace 0 = .ok (.aload_n 1, 1) := by decide +kernel
theorem dX1_writePlace_1 : decode cX1_writePlace 1 = .ok (.getfield 146, 3) := by decide +kernel
theorem dX1_writePlace_4 : decode cX1_writePlace 4 = .ok (.iload_n 2, 1) := by decide +kernel
theorem dX1_writePlace_5 : decode cX1_writePlace 5 = .ok (.aaload, 1) := by decide +kernel
theorem dX1_writePlace_6 : decode cX1_writePlace 6 = .ok (.astore 4, 2) := by decide +kernel
theorem dX1_writePlace_8 : decode cX1_writePlace 8 = .ok (.aload 4, 2) := by decide +kernel
theorem dX1_writePlace_10 : decode cX1_writePlace 10 = .ok (.ifnull 13, 3) := by decide +kernel
theorem dX1_writePlace_13 : decode cX1_writePlace 13 = .ok (.aload_n 0, 1) := by decide +kernel
theorem dX1_writePlace_14 : decode cX1_writePlace 14 = .ok (.aload 4, 2) := by decide +kernel
theorem dX1_writePlace_16 : decode cX1_writePlace 16 = .ok (.iload_n 3, 1) := by decide +kernel
theorem dX1_writePlace_17 : decode cX1_writePlace 17 = .ok (.iconst 1, 1) := by decide +kernel
theorem dX1_writePlace_18 : decode cX1_writePlace 18 = .ok (.isub, 1) := by decide +kernel
theorem dX1_writePlace_19 : decode cX1_writePlace 19 = .ok (.invokestatic 345, 3) := by decide +kernel
theorem dX1_writePlace_22 : decode cX1_writePlace 22 = .ok (.return_, 1) := by decide +kernel
theorem dX1_writePlace_23 : decode cX1_writePlace 23 = .ok (.aload_n 1, 1) := by decide +kernel
theorem dX1_writePlace_24 : decode cX1_writePlace 24 = .ok (.getfield 139, 3) := by decide +kernel
