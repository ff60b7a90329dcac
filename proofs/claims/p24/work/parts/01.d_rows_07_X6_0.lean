set_option maxRecDepth 20000 in
theorem ggX6_init_X3_init : GoodIn wsX6_init wsX3_init := goodIn_r _ [33, 34, 2, 3, 35, 36, 37, 92, 93] (by decide +kernel) (by decide +kernel)
set_option maxRecDepth 20000 in
theorem gX6_init_X3_init : GoodIn wsX6_init (wsX3_init) := ggX6_init_X3_init
set_option maxRecDepth 20000 in
theorem ggX6_init_X5_init : GoodIn wsX6_init wsX5_init := goodIn_r _ [40, 41, 2, 3, 42, 43, 44, 45, 46, 47, 48, 35, 49, 50, 51, 52, 103, 104, 105, 106, 107, 108, 109, 110, 111] (by decide +kernel) (by decide +kernel)
set_option maxRecDepth 20000 in
theorem gX6_init_X5_init : GoodIn wsX6_init (wsX5_init) := ggX6_init_X5_init
set_option maxRecDepth 20000 in
theorem ggX6_init_X1_init : GoodIn wsX6_init wsX1_init := goodIn_r _ [55, 56, 2, 3, 57, 50, 58, 43, 59, 60, 61, 62, 63, 64, 65, 66, 35, 67, 68, 69, 70, 71, 112, 113, 114, 115, 116, 117, 118, 119, 120, 121, 122, 123, 124, 125, 126] (by decide +kernel) (by decide +kernel)
set_option maxRecDepth 20000 in
theorem gX6_init_X1_init : GoodIn wsX6_init (wsX1_init) := ggX6_init_X1_init
set_option maxRecDepth 20000 in
theorem ggX6_init_X0_init : GoodIn wsX6_init wsX0_init := goodIn_r _ [74, 75, 2, 3, 76, 43, 77, 35, 78, 127, 128, 129] (by decide +kernel) (by decide +kernel)
set_option maxRecDepth 20000 in
theorem gX6_init_X0_init : GoodIn wsX6_init (wsX0_init) := ggX6_init_X0_init
set_option maxRecDepth 20000 in
theorem ggX6_init_X2_init : GoodIn wsX6_init wsX2_init := goodIn_r _ [81, 82, 2, 3, 83, 43, 84, 85, 86, 130, 131, 132, 133] (by decide +kernel) (by decide +kernel)
set_option maxRecDepth 20000 in
theorem gX6_init_X2_init : GoodIn wsX6_init (wsX2_init) := ggX6_init_X2_init
set_option maxRecDepth 20000 in
theorem ggX6_init_X4_init : GoodIn wsX6_init wsX4_init := goodIn_r _ [89, 90, 2, 3, 43, 91, 134] (by decide +kernel) (by decide +kernel)
set_option maxRecDepth 20000 in
theorem gX6_init_X4_init : GoodIn wsX6_init (wsX4_init) := ggX6_init_X4_init
theorem dX6_init_0 : decode cX6_init 0 = .ok (.aload_n 0, 1) := by decide +kernel
theorem dX6_init_1 : decode cX6_init 1 = .ok (.invokespecial 3, 3) := by decide +kernel
theorem dX6_init_4 : decode cX6_init 4 = .ok (.aload_n 0, 1) := by decide +kernel
theorem dX6_init_5 : decode cX6_init 5 = .ok (.new 9, 3) := by decide +kernel
theorem dX6_init_8 : decode cX6_init 8 = .ok (.dup, 1) := by decide +kernel
theorem dX6_init_9 : decode cX6_init 9 = .ok (.invokespecial 11, 3) := by decide +kernel
theorem dX6_init_12 : decode cX6_init 12 = .ok (.putfield 12, 3) := by decide +kernel
theorem dX6_init_15 : decode cX6_init 15 = .ok (.aload_n 0, 1) := by decide +kernel
theorem dX6_init_16 : decode cX6_init 16 = .ok (.new 9, 3) := by decide +kernel
theorem dX6_init_19 : decode cX6_init 19 = .ok (.dup, 1) := by decide +kernel
theorem dX6_init_20 : decode cX6_init 20 = .ok (.invokespecial 11, 3) := by decide +kernel
theorem dX6_init_23 : decode cX6_init 23 = .ok (.putfield 16, 3) := by decide +kernel
theorem dX6_init_26 : decode cX6_init 26 = .ok (.aload_n 0, 1) := by decide +kernel
theorem dX6_init_27 : decode cX6_init 27 = .ok (.new 19, 3) := by decide +kernel
theorem dX6_init_30 : decode cX6_init 30 = .ok (.dup, 1) := by decide +kernel
theorem dX6_init_31 : decode cX6_init 31 = .ok (.invokespecial 21, 3) := by decide +kernel
theorem dX6_init_34 : decode cX6_init 34 = .ok (.putfield 22, 3) := by decide +kernel
theorem dX6_init_37 : decode cX6_init 37 = .ok (.aload_n 0, 1) := by decide +kernel
theorem dX6_init_38 : decode cX6_init 38 = .ok (.new 26, 3) := by decide +kernel
theorem dX6_init_41 : decode cX6_init 41 = .ok (.dup, 1) := by decide +kernel
theorem dX6_init_42 : decode cX6_init 42 = .ok (.invokespecial 28, 3) := by decide +kernel
theorem dX6_init_45 : decode cX6_init 45 = .ok (.putfield 29, 3) := by decide +kernel
theorem dX6_init_48 : decode cX6_init 48 = .ok (.aload_n 0, 1) := by decide +kernel
theorem dX6_init_49 : decode cX6_init 49 = .ok (.new 33, 3) := by decide +kernel
theorem dX6_init_52 : decode cX6_init 52 = .ok (.dup, 1) := by decide +kernel
theorem dX6_init_53 : decode cX6_init 53 = .ok (.invokespecial 35, 3) := by decide +kernel
theorem dX6_init_56 : decode cX6_init 56 = .ok (.putfield 36, 3) := by decide +kernel
theorem dX6_init_59 : decode cX6_init 59 = .ok (.aload_n 0, 1) := by decide +kernel
theorem dX6_init_60 : decode cX6_init 60 = .ok (.new 40, 3) := by decide +kernel
theorem dX6_init_63 : decode cX6_init 63 = .ok (.dup, 1) := by decide +kernel
theorem dX6_init_64 : decode cX6_init 64 = .ok (.invokespecial 42, 3) := by decide +kernel
theorem dX6_init_67 : decode cX6_init 67 = .ok (.putfield 43, 3) := by decide +kernel
theorem dX6_init_70 : decode cX6_init 70 = .ok (.aload_n 0, 1) := by decide +kernel
theorem dX6_init_71 : decode cX6_init 71 = .ok (.new 47, 3) := by decide +kernel
theorem dX6_init_74 : decode cX6_init 74 = .ok (.dup, 1) := by decide +kernel
theorem dX6_init_75 : decode cX6_init 75 = .ok (.invokespecial 49, 3) := by decide +kernel
theorem dX6_init_78 : decode cX6_init 78 = .ok (.putfield 50, 3) := by decide +kernel
theorem dX6_init_81 : decode cX6_init 81 = .ok (.aload_n 0, 1) := by decide +kernel
theorem dX6_init_82 : decode cX6_init 82 = .ok (.iconst 0, 1) := by decide +kernel
theorem dX6_init_83 : decode cX6_init 83 = .ok (.putfield 54, 3) := by decide +kernel
theorem dX6_init_86 : decode cX6_init 86 = .ok (.aload_n 0, 1) := by decide +kernel
theorem dX6_init_87 : decode cX6_init 87 = .ok (.lconst 0, 1) := by decide +kernel
theorem dX6_init_88 : decode cX6_init 88 = .ok (.putfield 58, 3) := by decide +kernel
theorem dX6_init_91 : decode cX6_init 91 = .ok (.return_, 1) := by decide +kernel
set_option maxRecDepth 20000 in
theorem ggX6_source_X6_isOutside : GoodIn wsX6_source wsX6_isOutside := goodIn_r _ [7] (by decide +kernel) (by decide +kernel)
set_option maxRecDepth 20000 in
theorem gX6_source_X6_isOutside : GoodIn wsX6_source (va_wsS RX6 62 yX6_isOutside wsX6_isOutside) := goodIn_app (goodIn_of _ (by decide +kernel)) ggX6_source_X6_isOutside
set_option maxRecDepth 20000 in
theorem ggX6_source_X6_needRoomForUnit : GoodIn wsX6_source wsX6_needRoomForUnit := goodIn_ca (goodIn_r _ [11, 12, 13, 3, 14, 15, 16, 17, 18, 19, 20, 21, 22, 6, 23, 24, 38, 39, 40, 41, 42, 43, 44, 45, 46, 47, 48, 49, 50, 51, 52, 53, 54, 55] (by decide +kernel) (by decide +kernel)) (goodIn_sub (fun _ h => List.mem_cons_of_mem _ (List.mem_append_right _ h)) (by decide +kernel))
set_option maxRecDepth 20000 in
theorem gX6_source_X6_needRoomForUnit : GoodIn wsX6_source (wsV RX6 73 RX6 yX6_needRoomForUnit wsX6_needRoomForUnit) := goodIn_app (goodIn_of _ (by decide +kernel)) ggX6_source_X6_needRoomForUnit
set_option maxRecDepth 20000 in
theorem ggX6_source_X5_addSource : GoodIn wsX6_source wsX5_addSource := goodIn_r _ [28, 29, 30, 31, 17, 32, 19, 33, 34, 35, 36, 37, 47, 48, 49, 50, 51, 52, 53, 54, 55] (by decide +kernel) (by decide +kernel)
set_option maxRecDepth 20000 in
theorem gX6_source_X5_addSource : GoodIn wsX6_source (wsV RX6 76 RX5 yX5_addSource wsX5_addSource) := goodIn_app (goodIn_of _ (by decide +kernel)) ggX6_source_X5_addSource
theorem dX6_source_0 : decode cX6_source 0 = .ok (.iload_n 1, 1) := by decide +kernel
theorem dX6_source_1 : decode cX6_source 1 = .ok (.iconst 0, 1) := by decide +kernel
theorem dX6_source_2 : decode cX6_source 2 = .ok (.sipush 999, 3) := by decide +kernel
theorem dX6_source_5 : decode cX6_source 5 = .ok (.invokestatic 62, 3) := by decide +kernel
theorem dX6_source_8 : decode cX6_source 8 = .ok (.ifCond .ne 14, 3) := by decide +kernel
theorem dX6_source_11 : decode cX6_source 11 = .ok (.iload_n 2, 1) := by decide +kernel
theorem dX6_source_12 : decode cX6_source 12 = .ok (.iconst 0, 1) := by decide +kernel
theorem dX6_source_13 : decode cX6_source 13 = .ok (.sipush 300, 3) := by decide +kernel
theorem dX6_source_16 : decode cX6_source 16 = .ok (.invokestatic 62, 3) := by decide +kernel
theorem dX6_source_19 : decode cX6_source 19 = .ok (.ifCond .eq 13, 3) := by decide +kernel
theorem dX6_source_22 : decode cX6_source 22 = .ok (.new 66, 3) := by decide +kernel
theorem dX6_source_25 : decode cX6_source 25 = .ok (.dup, 1) := by decide +kernel
theorem dX6_source_26 : decode cX6_source 26 = .ok (.ldc 68, 2) := by decide +kernel
theorem dX6_source_28 : decode cX6_source 28 = .ok (.invokespecial 70, 3) := by decide +kernel
theorem dX6_source_31 : decode cX6_source 31 = .ok (.athrow, 1) := by decide +kernel
theorem dX6_source_32 : decode cX6_source 32 = .ok (.aload_n 0, 1) := by decide +kernel
theorem dX6_source_33 : decode cX6_source 33 = .ok (.invokevirtual 73, 3) := by decide +kernel
theorem dX6_source_36 : decode cX6_source 36 = .ok (.aload_n 0, 1) := by decide +kernel
theorem dX6_source_37 : decode cX6_source 37 = .ok (.getfield 22, 3) := by decide +kernel
theorem dX6_source_40 : decode cX6_source 40 = .ok (.iload_n 1, 1) := by decide +kernel
theorem dX6_source_41 : decode cX6_source 41 = .ok (.iload_n 2, 1) := by decide +kernel
theorem dX6_source_42 : decode cX6_source 42 = .ok (.invokevirtual 76, 3) := by decide +kernel
theorem dX6_source_45 : decode cX6_source 45 = .ok (.ireturn, 1) := by decide +kernel
set_option maxRecDepth 20000 in
theorem ggX6_unit_X6_isOutside : GoodIn wsX6_unit wsX6_isOutside := goodIn_r _ [9] (by decide +kernel) (by decide +kernel)
set_option maxRecDepth 20000 in
theorem gX6_unit_X6_isOutside : GoodIn wsX6_unit (va_wsS RX6 62 yX6_isOutside wsX6_isOutside) := goodIn_app (goodIn_of _ (by decide +kernel)) ggX6_unit_X6_isOutside
set_option maxRecDepth 20000 in
theorem ggX6_unit_X6_needStreamForNewUnit : GoodIn wsX6_unit wsX6_needStreamForNewUnit := goodIn_ca (goodIn_r _ [13, 14, 15, 5, 16, 17, 18, 19, 20, 21, 6, 7, 8, 9, 68, 69, 70, 71, 72, 73, 74, 75, 76, 77, 78, 79, 80, 81, 82, 83, 84, 85] (by decide +kernel) (by decide +kernel)) (goodIn_sub (fun _ h => List.mem_cons_of_mem _ (List.mem_append_right _ h)) (by decide +kernel))
set_option maxRecDepth 20000 in
theorem gX6_unit_X6_needStreamForNewUnit : GoodIn wsX6_unit (wsV RX6 82 RX6 yX6_needStreamForNewUnit wsX6_needStreamForNewUnit) := goodIn_app (goodIn_of _ (by decide +kernel)) ggX6_unit_X6_needStreamForNewUnit
set_option maxRecDepth 20000 in
theorem ggX6_unit_X6_isNumberOf : GoodIn wsX6_unit wsX6_isNumberOf := goodIn_r _ [24, 25, 26, 8, 27, 28, 6, 7, 9] (by decide +kernel) (by decide +kernel)
set_option maxRecDepth 20000 in
theorem gX6_unit_X6_isNumberOf : GoodIn wsX6_unit (va_wsS RX6 86 yX6_isNumberOf wsX6_isNumberOf) := goodIn_app (goodIn_of _ (by decide +kernel)) ggX6_unit_X6_isNumberOf
set_option maxRecDepth 20000 in
theorem ggX6_unit_X6_needFreeStream : GoodIn wsX6_unit wsX6_needFreeStream := goodIn_ca (goodIn_r _ [32, 3, 4, 5, 33, 34, 35, 19, 36, 37, 38, 39, 40, 41, 68, 69, 70, 71, 72, 73, 74, 75, 76, 77, 78, 79, 80, 81, 82, 83, 84, 85] (by decide +kernel) (by decide +kernel)) (goodIn_sub (fun _ h => List.mem_cons_of_mem _ (List.mem_append_left _ (List.mem_append_right _ h))) (by decide +kernel))
set_option maxRecDepth 20000 in
theorem gX6_unit_X6_needFreeStream : GoodIn wsX6_unit (wsV RX6 95 RX6 yX6_needFreeStream wsX6_needFreeStream) := goodIn_app (goodIn_of _ (by decide +kernel)) ggX6_unit_X6_needFreeStream
set_option maxRecDepth 20000 in
theorem ggX6_unit_X6_needRoomForUnit : GoodIn wsX6_unit wsX6_needRoomForUnit := goodIn_ca (goodIn_r _ [45, 3, 4, 5, 16, 17, 18, 19, 20, 21, 46, 47, 48, 8, 49, 50, 68, 69, 70, 71, 72, 73, 74, 75, 76, 77, 78, 79, 80, 81, 82, 83, 84, 85] (by decide +kernel) (by decide +kernel)) (goodIn_sub (fun _ h => List.mem_cons_of_mem _ (List.mem_append_left _ (List.mem_append_right _ h))) (by decide +kernel))
set_option maxRecDepth 20000 in
theorem gX6_unit_X6_needRoomForUnit : GoodIn wsX6_unit (wsV RX6 73 RX6 yX6_needRoomForUnit wsX6_needRoomForUnit) := goodIn_app (goodIn_of _ (by decide +kernel)) ggX6_unit_X6_needRoomForUnit
set_option maxRecDepth 20000 in
theorem ggX6_unit_X5_addTaker : GoodIn wsX6_unit wsX5_addTaker := goodIn_r _ [54, 55, 56, 57, 19, 58, 21, 59, 60, 61, 62, 63, 64, 65, 66, 67, 37, 38, 39, 40, 41, 77, 78, 79, 80, 81, 82, 83, 84, 85] (by decide +kernel) (by decide +kernel)
set_option maxRecDepth 20000 in
theorem gX6_unit_X5_addTaker : GoodIn wsX6_unit (wsV RX6 100 RX5 yX5_addTaker wsX5_addTaker) := goodIn_app (goodIn_of _ (by decide +kernel)) ggX6_unit_X5_addTaker
theorem dX6_unit_0 : decode cX6_unit 0 = .ok (.iload_n 1, 1) := by decide +kernel
theorem dX6_unit_1 : decode cX6_unit 1 = .ok (.iconst 1, 1) := by decide +kernel
theorem dX6_unit_2 : decode cX6_unit 2 = .ok (.iconst 4, 1) := by decide +kernel
theorem dX6_unit_3 : decode cX6_unit 3 = .ok (.invokestatic 62, 3) := by decide +kernel
theorem dX6_unit_6 : decode cX6_unit 6 = .ok (.ifCond .eq 13, 3) := by decide +kernel
theorem dX6_unit_9 : decode cX6_unit 9 = .ok (.new 66, 3) := by decide +kernel
theorem dX6_unit_12 : decode cX6_unit 12 = .ok (.dup, 1) := by decide +kernel
theorem dX6_unit_13 : decode cX6_unit 13 = .ok (.ldc 80, 2) := by decide +kernel
theorem dX6_unit_15 : decode cX6_unit 15 = .ok (.invokespecial 70, 3) := by decide +kernel
theorem dX6_unit_18 : decode cX6_unit 18 = .ok (.athrow, 1) := by decide +kernel
theorem dX6_unit_19 : decode cX6_unit 19 = .ok (.iload_n 1, 1) := by decide +kernel
theorem dX6_unit_20 : decode cX6_unit 20 = .ok (.iconst 2, 1) := by decide +kernel
theorem dX6_unit_21 : decode cX6_unit 21 = .ok (.if_icmp .eq 8, 3) := by decide +kernel
theorem dX6_unit_24 : decode cX6_unit 24 = .ok (.iload_n 1, 1) := by decide +kernel
theorem dX6_unit_25 : decode cX6_unit 25 = .ok (.iconst 3, 1) := by decide +kernel
theorem dX6_unit_26 : decode cX6_unit 26 = .ok (.if_icmp .ne 7, 3) := by decide +kernel
theorem dX6_unit_29 : decode cX6_unit 29 = .ok (.iconst 1, 1) := by decide +kernel
theorem dX6_unit_30 : decode cX6_unit 30 = .ok (.goto 4, 3) := by decide +kernel
theorem dX6_unit_33 : decode cX6_unit 33 = .ok (.iconst 0, 1) := by decide +kernel
theorem dX6_unit_34 : decode cX6_unit 34 = .ok (.istore 5, 2) := by decide +kernel
theorem dX6_unit_36 : decode cX6_unit 36 = .ok (.aload_n 0, 1) := by decide +kernel
theorem dX6_unit_37 : decode cX6_unit 37 = .ok (.iload_n 2, 1) := by decide +kernel
theorem dX6_unit_38 : decode cX6_unit 38 = .ok (.invokevirtual 82, 3) := by decide +kernel
theorem dX6_unit_41 : decode cX6_unit 41 = .ok (.iload 5, 2) := by decide +kernel
theorem dX6_unit_43 : decode cX6_unit 43 = .ok (.ifCond .eq 8, 3) := by decide +kernel
theorem dX6_unit_46 : decode cX6_unit 46 = .ok (.aload_n 0, 1) := by decide +kernel
theorem dX6_unit_47 : decode cX6_unit 47 = .ok (.iload_n 3, 1) := by decide +kernel
theorem dX6_unit_48 : decode cX6_unit 48 = .ok (.invokevirtual 82, 3) := by decide +kernel
theorem dX6_unit_51 : decode cX6_unit 51 = .ok (.iload_n 1, 1) := by decide +kernel
theorem dX6_unit_52 : decode cX6_unit 52 = .ok (.iconst 2, 1) := by decide +kernel
theorem dX6_unit_53 : decode cX6_unit 53 = .ok (.if_icmp .eq 22, 3) := by decide +kernel
theorem dX6_unit_56 : decode cX6_unit 56 = .ok (.iload_n 1, 1) := by decide +kernel
theorem dX6_unit_57 : decode cX6_unit 57 = .ok (.iload 4, 2) := by decide +kernel
theorem dX6_unit_59 : decode cX6_unit 59 = .ok (.invokestatic 86, 3) := by decide +kernel
theorem dX6_unit_62 : decode cX6_unit 62 = .ok (.ifCond .ne 13, 3) := by decide +kernel
theorem dX6_unit_65 : decode cX6_unit 65 = .ok (.new 90, 3) := by decide +kernel
theorem dX6_unit_68 : decode cX6_unit 68 = .ok (.dup, 1) := by decide +kernel
theorem dX6_unit_69 : decode cX6_unit 69 = .ok (.ldc 92, 2) := by decide +kernel
theorem dX6_unit_71 : decode cX6_unit 71 = .ok (.invokespecial 94, 3) := by decide +kernel
theorem dX6_unit_74 : decode cX6_unit 74 = .ok (.athrow, 1) := by decide +kernel
theorem dX6_unit_75 : decode cX6_unit 75 = .ok (.aload_n 0, 1) := by decide +kernel
theorem dX6_unit_76 : decode cX6_unit 76 = .ok (.iload_n 2, 1) := by decide +kernel
theorem dX6_unit_77 : decode cX6_unit 77 = .ok (.invokevirtual 95, 3) := by decide +kernel
theorem dX6_unit_80 : decode cX6_unit 80 = .ok (.iload 5, 2) := by decide +kernel
theorem dX6_unit_82 : decode cX6_unit 82 = .ok (.ifCond .eq 23, 3) := by decide +kernel
theorem dX6_unit_85 : decode cX6_unit 85 = .ok (.aload_n 0, 1) := by decide +kernel
theorem dX6_unit_86 : decode cX6_unit 86 = .ok (.iload_n 3, 1) := by decide +kernel
theorem dX6_unit_87 : decode cX6_unit 87 = .ok (.invokevirtual 95, 3) := by decide +kernel
theorem dX6_unit_90 : decode cX6_unit 90 = .ok (.iload_n 2, 1) := by decide +kernel
theorem dX6_unit_91 : decode cX6_unit 91 = .ok (.iload_n 3, 1) := by decide +kernel
theorem dX6_unit_92 : decode cX6_unit 92 = .ok (.if_icmp .ne 13, 3) := by decide +kernel
theorem dX6_unit_95 : decode cX6_unit 95 = .ok (.new 90, 3) := by decide +kernel
theorem dX6_unit_98 : decode cX6_unit 98 = .ok (.dup, 1) := by decide +kernel
theorem dX6_unit_99 : decode cX6_unit 99 = .ok (.ldc 98, 2) := by decide +kernel
theorem dX6_unit_101 : decode cX6_unit 101 = .ok (.invokespecial 94, 3) := by decide +kernel
theorem dX6_unit_104 : decode cX6_unit 104 = .ok (.athrow, 1) := by decide +kernel
theorem dX6_unit_105 : decode cX6_unit 105 = .ok (.aload_n 0, 1) := by decide +kernel
theorem dX6_unit_106 : decode cX6_unit 106 = .ok (.invokevirtual 73, 3) := by decide +kernel
theorem dX6_unit_109 : decode cX6_unit 109 = .ok (.aload_n 0, 1) := by decide +kernel
theorem dX6_unit_110 : decode cX6_unit 110 = .ok (.getfield 22, 3) := by decide +kernel
theorem dX6_unit_113 : decode cX6_unit 113 = .ok (.iload_n 1, 1) := by decide +kernel
theorem dX6_unit_114 : decode cX6_unit 114 = .ok (.iload_n 2, 1) := by decide +kernel
theorem dX6_unit_115 : decode cX6_unit 115 = .ok (.iload 5, 2) := by decide +kernel
theorem dX6_unit_117 : decode cX6_unit 117 = .ok (.ifCond .eq 7, 3) := by decide +kernel
theorem dX6_unit_120 : decode cX6_unit 120 = .ok (.iload_n 3, 1) := by decide +kernel
theorem dX6_unit_121 : decode cX6_unit 121 = .ok (.goto 4, 3) := by decide +kernel
theorem dX6_unit_124 : decode cX6_unit 124 = .ok (.iconst (-1), 1) := by decide +kernel
theorem dX6_unit_125 : decode cX6_unit 125 = .ok (.iload 4, 2) := by decide +kernel
theorem dX6_unit_127 : decode cX6_unit 127 = .ok (.invokevirtual 100, 3) := by decide +kernel
theorem dX6_unit_130 : decode cX6_unit 130 = .ok (.ireturn, 1) := by decide +kernel
set_option maxRecDepth 20000 in
theorem ggX6_back_X6_needUnit : GoodIn wsX6_back wsX6_needUnit := goodIn_ca (goodIn_r _ [8, 9, 10, 3, 11, 12, 13, 14, 15, 16, 17, 18, 7, 19, 60, 61, 62, 63, 64, 65, 66, 67, 68, 69, 70, 71, 72, 73, 74, 75, 76, 77] (by decide +kernel) (by decide +kernel)) (goodIn_sub (fun _ h => List.mem_cons_of_mem _ (List.mem_append_right _ h)) (by decide +kernel))
set_option maxRecDepth 20000 in
theorem gX6_back_X6_needUnit : GoodIn wsX6_back (wsV RX6 104 RX6 yX6_needUnit wsX6_needUnit) := goodIn_app (goodIn_of _ (by decide +kernel)) ggX6_back_X6_needUnit
set_option maxRecDepth 20000 in
theorem ggX6_back_X6_needStream : GoodIn wsX6_back wsX6_needStream := goodIn_ca (goodIn_r _ [23, 9, 10, 3, 11, 12, 13, 14, 15, 16, 17, 18, 7, 19, 60, 61, 62, 63, 64, 65, 66, 67, 68, 69, 70, 71, 72, 73, 74, 75, 76, 77] (by decide +kernel) (by decide +kernel)) (goodIn_sub (fun _ h => List.mem_cons_of_mem _ (List.mem_append_right _ h)) (by decide +kernel))
set_option maxRecDepth 20000 in
theorem gX6_back_X6_needStream : GoodIn wsX6_back (wsV RX6 107 RX6 yX6_needStream wsX6_needStream) := goodIn_app (goodIn_of _ (by decide +kernel)) ggX6_back_X6_needStream
set_option maxRecDepth 20000 in
theorem ggX6_back_X5_kindOf : GoodIn wsX6_back wsX5_kindOf := goodIn_r _ [27, 28, 29, 30, 31, 14, 32, 16, 69, 70, 71, 72, 73, 74, 75, 76, 77] (by decide +kernel) (by decide +kernel)
set_option maxRecDepth 20000 in
theorem gX6_back_X5_kindOf : GoodIn wsX6_back (wsV RX6 110 RX5 yX5_kindOf wsX5_kindOf) := goodIn_app (goodIn_of _ (by decide +kernel)) ggX6_back_X5_kindOf
set_option maxRecDepth 20000 in
theorem ggX6_back_X6_needFreeStream : GoodIn wsX6_back wsX6_needFreeStream := goodIn_ca (goodIn_r _ [36, 1, 2, 3, 37, 38, 39, 14, 40, 41, 42, 43, 44, 45, 60, 61, 62, 63, 64, 65, 66, 67, 68, 69, 70, 71, 72, 73, 74, 75, 76, 77] (by decide +kernel) (by decide +kernel)) (goodIn_sub (fun _ h => List.mem_cons_of_mem _ (List.mem_append_left _ (List.mem_append_right _ h))) (by decide +kernel))
set_option maxRecDepth 20000 in
theorem gX6_back_X6_needFreeStream : GoodIn wsX6_back (wsV RX6 95 RX6 yX6_needFreeStream wsX6_needFreeStream) := goodIn_app (goodIn_of _ (by decide +kernel)) ggX6_back_X6_needFreeStream
set_option maxRecDepth 20000 in
theorem ggX6_back_X6_needNoTickGone : GoodIn wsX6_back wsX6_needNoTickGone := goodIn_ca (goodIn_r _ [49, 1, 2, 50, 60, 61, 62, 63, 64, 65, 66, 67, 68] (by decide +kernel) (by decide +kernel)) (goodIn_sub (fun _ h => List.mem_cons_of_mem _ (List.mem_append_left _ (List.mem_append_right _ h))) (by decide +kernel))
set_option maxRecDepth 20000 in
theorem gX6_back_X6_needNoTickGone : GoodIn wsX6_back (wsV RX6 116 RX6 yX6_needNoTickGone wsX6_needNoTickGone) := goodIn_app (goodIn_of _ (by decide +kernel)) ggX6_back_X6_needNoTickGone
set_option maxRecDepth 20000 in
theorem ggX6_back_X5_takeInstead : GoodIn wsX6_back wsX5_takeInstead := goodIn_r _ [54, 55, 29, 30, 31, 14, 32, 16, 56, 57, 58, 59, 41, 42, 43, 44, 45, 69, 70, 71, 72, 73, 74, 75, 76, 77] (by decide +kernel) (by decide +kernel)
set_option maxRecDepth 20000 in
theorem gX6_back_X5_takeInstead : GoodIn wsX6_back (wsV RX6 119 RX5 yX5_takeInstead wsX5_takeInstead) := goodIn_app (goodIn_of _ (by decide +kernel)) ggX6_back_X5_takeInstead
theorem dX6_back_0 : decode cX6_back 0 = .ok (.aload_n 0, 1) := by decide +kernel
theorem dX6_back_1 : decode cX6_back 1 = .ok (.iload_n 1, 1) := by decide +kernel
theorem dX6_back_2 : decode cX6_back 2 = .ok (.invokevirtual 104, 3) := by decide +kernel
theorem dX6_back_5 : decode cX6_back 5 = .ok (.aload_n 0, 1) := by decide +kernel
theorem dX6_back_6 : decode cX6_back 6 = .ok (.iload_n 2, 1) := by decide +kernel
theorem dX6_back_7 : decode cX6_back 7 = .ok (.invokevirtual 107, 3) := by decide +kernel
theorem dX6_back_10 : decode cX6_back 10 = .ok (.aload_n 0, 1) := by decide +kernel
theorem dX6_back_11 : decode cX6_back 11 = .ok (.getfield 22, 3) := by decide +kernel
theorem dX6_back_14 : decode cX6_back 14 = .ok (.iload_n 1, 1) := by decide +kernel
theorem dX6_back_15 : decode cX6_back 15 = .ok (.invokevirtual 110, 3) := by decide +kernel
theorem dX6_back_18 : decode cX6_back 18 = .ok (.ifCond .ne 13, 3) := by decide +kernel
theorem dX6_back_21 : decode cX6_back 21 = .ok (.new 90, 3) := by decide +kernel
theorem dX6_back_24 : decode cX6_back 24 = .ok (.dup, 1) := by decide +kernel
theorem dX6_back_25 : decode cX6_back 25 = .ok (.ldc 114, 2) := by decide +kernel
theorem dX6_back_27 : decode cX6_back 27 = .ok (.invokespecial 94, 3) := by decide +kernel
theorem dX6_back_30 : decode cX6_back 30 = .ok (.athrow, 1) := by decide +kernel
theorem dX6_back_31 : decode cX6_back 31 = .ok (.aload_n 0, 1) := by decide +kernel
theorem dX6_back_32 : decode cX6_back 32 = .ok (.iload_n 2, 1) := by decide +kernel
theorem dX6_back_33 : decode cX6_back 33 = .ok (.invokevirtual 95, 3) := by decide +kernel
theorem dX6_back_36 : decode cX6_back 36 = .ok (.aload_n 0, 1) := by decide +kernel
theorem dX6_back_37 : decode cX6_back 37 = .ok (.invokevirtual 116, 3) := by decide +kernel
theorem dX6_back_40 : decode cX6_back 40 = .ok (.aload_n 0, 1) := by decide +kernel
theorem dX6_back_41 : decode cX6_back 41 = .ok (.getfield 22, 3) := by decide +kernel
theorem dX6_back_44 : decode cX6_back 44 = .ok (.iload_n 1, 1) := by decide +kernel
theorem dX6_back_45 : decode cX6_back 45 = .ok (.iload_n 2, 1) := by decide +kernel
theorem dX6_back_46 : decode cX6_back 46 = .ok (.invokevirtual 119, 3) := by decide +kernel
theorem dX6_back_49 : decode cX6_back 49 = .ok (.ireturn, 1) := by decide +kernel
set_option maxRecDepth 20000 in
theorem ggX6_set_X6_needUnit : GoodIn wsX6_set wsX6_needUnit := goodIn_ca (goodIn_r _ [6, 7, 8, 1, 9, 10, 11, 12, 13, 14, 15, 16, 5, 17, 49, 50, 51, 52, 53, 54, 55, 56, 57, 58, 59, 60, 61, 62, 63, 64, 65, 66] (by decide +kernel) (by decide +kernel)) (goodIn_sub (fun _ h => List.mem_cons_of_mem _ (List.mem_append_left _ (List.mem_append_right _ h))) (by decide +kernel))
set_option maxRecDepth 20000 in
theorem gX6_set_X6_needUnit : GoodIn wsX6_set (wsV RX6 104 RX6 yX6_needUnit wsX6_needUnit) := goodIn_app (goodIn_of _ (by decide +kernel)) ggX6_set_X6_needUnit
set_option maxRecDepth 20000 in
theorem ggX6_set_X6_needNumberOf : GoodIn wsX6_set wsX6_needNumberOf := goodIn_ca (goodIn_r _ [21, 22, 23, 1, 24, 25, 26, 12, 27, 28, 29, 30, 31, 32, 14, 33, 34, 5, 35, 36, 37, 38, 39, 15, 16, 17, 49, 50, 51, 52, 53, 54, 55, 56, 57, 58, 59, 60, 61, 62, 63, 64, 65, 66] (by decide +kernel) (by decide +kernel)) (goodIn_sub (fun _ h => List.mem_cons_of_mem _ (List.mem_append_right _ h)) (by decide +kernel))
set_option maxRecDepth 20000 in
theorem gX6_set_X6_needNumberOf : GoodIn wsX6_set (wsV RX6 122 RX6 yX6_needNumberOf wsX6_needNumberOf) := goodIn_app (goodIn_of _ (by decide +kernel)) ggX6_set_X6_needNumberOf
set_option maxRecDepth 20000 in
theorem ggX6_set_X5_numberOf : GoodIn wsX6_set wsX5_numberOf := goodIn_r _ [43, 44, 29, 30, 31, 12, 32, 14, 58, 59, 60, 61, 62, 63, 64, 65, 66] (by decide +kernel) (by decide +kernel)
set_option maxRecDepth 20000 in
theorem gX6_set_X5_numberOf : GoodIn wsX6_set (wsV RX6 126 RX5 yX5_numberOf wsX5_numberOf) := goodIn_app (goodIn_of _ (by decide +kernel)) ggX6_set_X5_numberOf
set_option maxRecDepth 20000 in
theorem ggX6_set_X5_putNumber : GoodIn wsX6_set wsX5_putNumber := goodIn_r _ [48, 44, 29, 30, 31, 12, 32, 14, 58, 59, 60, 61, 62, 63, 64, 65, 66] (by decide +kernel) (by decide +kernel)
set_option maxRecDepth 20000 in
theorem gX6_set_X5_putNumber : GoodIn wsX6_set (wsV RX6 129 RX5 yX5_putNumber wsX5_putNumber) := goodIn_app (goodIn_of _ (by decide +kernel)) ggX6_set_X5_putNumber
theorem dX6_set_0 : decode cX6_set 0 = .ok (.aload_n 0, 1) := by decide +kernel
theorem dX6_set_1 : decode cX6_set 1 = .ok (.iload_n 1, 1) := by decide +kernel
theorem dX6_set_2 : decode cX6_set 2 = .ok (.invokevirtual 104, 3) := by decide +kernel
theorem dX6_set_5 : decode cX6_set 5 = .ok (.aload_n 0, 1) := by decide +kernel
theorem dX6_set_6 : decode cX6_set 6 = .ok (.iload_n 1, 1) := by decide +kernel
theorem dX6_set_7 : decode cX6_set 7 = .ok (.iload_n 2, 1) := by decide +kernel
theorem dX6_set_8 : decode cX6_set 8 = .ok (.invokevirtual 122, 3) := by decide +kernel
theorem dX6_set_11 : decode cX6_set 11 = .ok (.aload_n 0, 1) := by decide +kernel
theorem dX6_set_12 : decode cX6_set 12 = .ok (.getfield 22, 3) := by decide +kernel
theorem dX6_set_15 : decode cX6_set 15 = .ok (.iload_n 1, 1) := by decide +kernel
theorem dX6_set_16 : decode cX6_set 16 = .ok (.invokevirtual 126, 3) := by decide +kernel
theorem dX6_set_19 : decode cX6_set 19 = .ok (.istore_n 3, 1) := by decide +kernel
theorem dX6_set_20 : decode cX6_set 20 = .ok (.aload_n 0, 1) := by decide +kernel
theorem dX6_set_21 : decode cX6_set 21 = .ok (.getfield 22, 3) := by decide +kernel
theorem dX6_set_24 : decode cX6_set 24 = .ok (.iload_n 1, 1) := by decide +kernel
theorem dX6_set_25 : decode cX6_set 25 = .ok (.iload_n 2, 1) := by decide +kernel
theorem dX6_set_26 : decode cX6_set 26 = .ok (.invokevirtual 129, 3) := by decide +kernel
theorem dX6_set_29 : decode cX6_set 29 = .ok (.iload_n 3, 1) := by decide +kernel
theorem dX6_set_30 : decode cX6_set 30 = .ok (.ireturn, 1) := by decide +kernel
set_option maxRecDepth 20000 in
theorem ggX6_disturb_X6_needUnit : GoodIn wsX6_disturb wsX6_needUnit := goodIn_ca (goodIn_r _ [11, 12, 13, 14, 15, 16, 17, 18, 19, 20, 21, 22, 10, 23, 61, 62, 63, 64, 65, 66, 67, 68, 69, 70, 71, 72, 73, 74, 75, 76, 77, 78] (by decide +kernel) (by decide +kernel)) (goodIn_sub (fun _ h => List.mem_cons_of_mem _ (List.mem_append_right _ h)) (by decide +kernel))
set_option maxRecDepth 20000 in
theorem gX6_disturb_X6_needUnit : GoodIn wsX6_disturb (wsV RX6 104 RX6 yX6_needUnit wsX6_needUnit) := goodIn_app (goodIn_of _ (by decide +kernel)) ggX6_disturb_X6_needUnit
set_option maxRecDepth 20000 in
theorem ggX6_disturb_X6_isOutside : GoodIn wsX6_disturb wsX6_isOutside := goodIn_r _ [23] (by decide +kernel) (by decide +kernel)
set_option maxRecDepth 20000 in
theorem gX6_disturb_X6_isOutside : GoodIn wsX6_disturb (va_wsS RX6 62 yX6_isOutside wsX6_isOutside) := goodIn_app (goodIn_of _ (by decide +kernel)) ggX6_disturb_X6_isOutside
set_option maxRecDepth 20000 in
theorem ggX6_disturb_X6_needNumberOf : GoodIn wsX6_disturb wsX6_needNumberOf := goodIn_ca (goodIn_r _ [27, 1, 2, 14, 28, 29, 30, 18, 31, 32, 33, 34, 35, 36, 20, 37, 38, 10, 39, 40, 41, 42, 43, 21, 22, 23, 61, 62, 63, 64, 65, 66, 67, 68, 69, 70, 71, 72, 73, 74, 75, 76, 77, 78] (by decide +kernel) (by decide +kernel)) (goodIn_sub (fun _ h => List.mem_cons_of_mem _ (List.mem_append_left _ (List.mem_append_left _ (List.mem_append_right _ h)))) (by decide +kernel))
set_option maxRecDepth 20000 in
theorem gX6_disturb_X6_needNumberOf : GoodIn wsX6_disturb (wsV RX6 122 RX6 yX6_needNumberOf wsX6_needNumberOf) := goodIn_app (goodIn_of _ (by decide +kernel)) ggX6_disturb_X6_needNumberOf
set_option maxRecDepth 20000 in
theorem ggX6_disturb_X2_toCome : GoodIn wsX6_disturb wsX2_toCome := goodIn_r _ [48, 49, 79, 80, 81, 82] (by decide +kernel) (by decide +kernel)
set_option maxRecDepth 20000 in
theorem gX6_disturb_X2_toCome : GoodIn wsX6_disturb (wsV RX6 134 RX2 yX2_toCome wsX2_toCome) := goodIn_app (goodIn_of _ (by decide +kernel)) ggX6_disturb_X2_toCome
set_option maxRecDepth 20000 in
theorem ggX6_disturb_X2_add : GoodIn wsX6_disturb wsX2_add := goodIn_r _ [53, 49, 54, 55, 56, 47, 57, 58, 59, 60, 79, 80, 81, 82] (by decide +kernel) (by decide +kernel)
set_option maxRecDepth 20000 in
theorem gX6_disturb_X2_add : GoodIn wsX6_disturb (wsV RX6 140 RX2 yX2_add wsX2_add) := goodIn_app (goodIn_of _ (by decide +kernel)) ggX6_disturb_X2_add
theorem dX6_disturb_0 : decode cX6_disturb 0 = .ok (.aload_n 0, 1) := by decide +kernel
theorem dX6_disturb_1 : decode cX6_disturb 1 = .ok (.iload_n 2, 1) := by decide +kernel
theorem dX6_disturb_2 : decode cX6_disturb 2 = .ok (.invokevirtual 104, 3) := by decide +kernel
theorem dX6_disturb_5 : decode cX6_disturb 5 = .ok (.iload_n 1, 1) := by decide +kernel
theorem dX6_disturb_6 : decode cX6_disturb 6 = .ok (.aload_n 0, 1) := by decide +kernel
theorem dX6_disturb_7 : decode cX6_disturb 7 = .ok (.getfield 54, 3) := by decide +kernel
theorem dX6_disturb_10 : decode cX6_disturb 10 = .ok (.iconst 1, 1) := by decide +kernel
theorem dX6_disturb_11 : decode cX6_disturb 11 = .ok (.iadd, 1) := by decide +kernel
theorem dX6_disturb_12 : decode cX6_disturb 12 = .ok (.sipush 300, 3) := by decide +kernel
theorem dX6_disturb_15 : decode cX6_disturb 15 = .ok (.invokestatic 62, 3) := by decide +kernel
theorem dX6_disturb_18 : decode cX6_disturb 18 = .ok (.ifCond .eq 13, 3) := by decide +kernel
theorem dX6_disturb_21 : decode cX6_disturb 21 = .ok (.new 66, 3) := by decide +kernel
theorem dX6_disturb_24 : decode cX6_disturb 24 = .ok (.dup, 1) := by decide +kernel
theorem dX6_disturb_25 : decode cX6_disturb 25 = .ok (.ldc 132, 2) := by decide +kernel
theorem dX6_disturb_27 : decode cX6_disturb 27 = .ok (.invokespecial 70, 3) := by decide +kernel
theorem dX6_disturb_30 : decode cX6_disturb 30 = .ok (.athrow, 1) := by decide +kernel
theorem dX6_disturb_31 : decode cX6_disturb 31 = .ok (.aload_n 0, 1) := by decide +kernel
theorem dX6_disturb_32 : decode cX6_disturb 32 = .ok (.iload_n 2, 1) := by decide +kernel
theorem dX6_disturb_33 : decode cX6_disturb 33 = .ok (.iload_n 3, 1) := by decide +kernel
theorem dX6_disturb_34 : decode cX6_disturb 34 = .ok (.invokevirtual 122, 3) := by decide +kernel
theorem dX6_disturb_37 : decode cX6_disturb 37 = .ok (.aload_n 0, 1) := by decide +kernel
theorem dX6_disturb_38 : decode cX6_disturb 38 = .ok (.getfield 43, 3) := by decide +kernel
theorem dX6_disturb_41 : decode cX6_disturb 41 = .ok (.invokevirtual 134, 3) := by decide +kernel
theorem dX6_disturb_44 : decode cX6_disturb 44 = .ok (.bipush 40, 2) := by decide +kernel
theorem dX6_disturb_46 : decode cX6_disturb 46 = .ok (.if_icmp .lt 13, 3) := by decide +kernel
theorem dX6_disturb_49 : decode cX6_disturb 49 = .ok (.new 90, 3) := by decide +kernel
theorem dX6_disturb_52 : decode cX6_disturb 52 = .ok (.dup, 1) := by decide +kernel
theorem dX6_disturb_53 : decode cX6_disturb 53 = .ok (.ldc 138, 2) := by decide +kernel
theorem dX6_disturb_55 : decode cX6_disturb 55 = .ok (.invokespecial 94, 3) := by decide +kernel
theorem dX6_disturb_58 : decode cX6_disturb 58 = .ok (.athrow, 1) := by decide +kernel
theorem dX6_disturb_59 : decode cX6_disturb 59 = .ok (.aload_n 0, 1) := by decide +kernel
theorem dX6_disturb_60 : decode cX6_disturb 60 = .ok (.getfield 43, 3) := by decide +kernel
theorem dX6_disturb_63 : decode cX6_disturb 63 = .ok (.iload_n 1, 1) := by decide +kernel
theorem dX6_disturb_64 : decode cX6_disturb 64 = .ok (.iload_n 2, 1) := by decide +kernel
theorem dX6_disturb_65 : decode cX6_disturb 65 = .ok (.iload_n 3, 1) := by decide +kernel
theorem dX6_disturb_66 : decode cX6_disturb 66 = .ok (.invokevirtual 140, 3) := by decide +kernel
theorem dX6_disturb_69 : decode cX6_disturb 69 = .ok (.aload_n 0, 1) := by decide +kernel
theorem dX6_disturb_70 : decode cX6_disturb 70 = .ok (.getfield 43, 3) := by decide +kernel
theorem dX6_disturb_73 : decode cX6_disturb 73 = .ok (.invokevirtual 134, 3) := by decide +kernel
theorem dX6_disturb_76 : decode cX6_disturb 76 = .ok (.ireturn, 1) := by decide +kernel
set_option maxRecDepth 20000 in
theorem ggX6_control_X6_needStream : GoodIn wsX6_control wsX6_needStream := goodIn_ca (goodIn_r _ [9, 10, 11, 12, 13, 14, 15, 16, 17, 18, 19, 20, 8, 21, 75, 76, 77, 78, 79, 80, 81, 82, 83, 84, 85, 86, 87, 88, 89, 90, 91, 92] (by decide +kernel) (by decide +kernel)) (goodIn_sub (fun _ h => List.mem_cons_of_mem _ (List.mem_append_left _ (List.mem_append_right _ h))) (by decide +kernel))
set_option maxRecDepth 20000 in
theorem gX6_control_X6_needStream : GoodIn wsX6_control (wsV RX6 107 RX6 yX6_needStream wsX6_needStream) := goodIn_app (goodIn_of _ (by decide +kernel)) ggX6_control_X6_needStream
set_option maxRecDepth 20000 in
theorem ggX6_control_X6_needUnit : GoodIn wsX6_control wsX6_needUnit := goodIn_ca (goodIn_r _ [25, 10, 11, 12, 13, 14, 15, 16, 17, 18, 19, 20, 8, 21, 75, 76, 77, 78, 79, 80, 81, 82, 83, 84, 85, 86, 87, 88, 89, 90, 91, 92] (by decide +kernel) (by decide +kernel)) (goodIn_sub (fun _ h => List.mem_cons_of_mem _ (List.mem_append_left _ (List.mem_append_right _ h))) (by decide +kernel))
set_option maxRecDepth 20000 in
theorem gX6_control_X6_needUnit : GoodIn wsX6_control (wsV RX6 104 RX6 yX6_needUnit wsX6_needUnit) := goodIn_app (goodIn_of _ (by decide +kernel)) ggX6_control_X6_needUnit
set_option maxRecDepth 20000 in
theorem ggX6_control_X6_needHigherController : GoodIn wsX6_control wsX6_needHigherController := goodIn_ca (goodIn_r _ [29, 10, 11, 4, 30, 31, 32, 33, 34, 35, 19, 20, 8, 21, 75, 76, 77, 78, 79, 80, 81, 82, 83, 93, 94, 95, 96, 97, 98, 99, 100, 101, 102, 103, 104, 105, 106, 107] (by decide +kernel) (by decide +kernel)) (goodIn_sub (fun _ h => List.mem_cons_of_mem _ (List.mem_append_left _ (List.mem_append_right _ h))) (by decide +kernel))
set_option maxRecDepth 20000 in
theorem gX6_control_X6_needHigherController : GoodIn wsX6_control (wsV RX6 144 RX6 yX6_needHigherController wsX6_needHigherController) := goodIn_app (goodIn_of _ (by decide +kernel)) ggX6_control_X6_needHigherController
set_option maxRecDepth 20000 in
theorem ggX6_control_X6_isOutside : GoodIn wsX6_control wsX6_isOutside := goodIn_r _ [21] (by decide +kernel) (by decide +kernel)
set_option maxRecDepth 20000 in
theorem gX6_control_X6_isOutside : GoodIn wsX6_control (va_wsS RX6 62 yX6_isOutside wsX6_isOutside) := goodIn_app (goodIn_of _ (by decide +kernel)) ggX6_control_X6_isOutside
set_option maxRecDepth 20000 in
theorem ggX6_control_X6_needNoMix : GoodIn wsX6_control wsX6_needNoMix := goodIn_ca (goodIn_r _ [39, 1, 2, 12, 40, 41, 42, 16, 43, 44, 45, 46, 47, 48, 18, 75, 76, 77, 78, 79, 80, 81, 82, 83, 84, 85, 86, 87, 88, 89, 90, 91, 92] (by decide +kernel) (by decide +kernel)) (goodIn_sub (fun _ h => List.mem_cons_of_mem _ (List.mem_append_left _ (List.mem_append_left _ (List.mem_append_right _ h)))) (by decide +kernel))
set_option maxRecDepth 20000 in
theorem gX6_control_X6_needNoMix : GoodIn wsX6_control (wsV RX6 150 RX6 yX6_needNoMix wsX6_needNoMix) := goodIn_app (goodIn_of _ (by decide +kernel)) ggX6_control_X6_needNoMix
set_option maxRecDepth 20000 in
theorem ggX6_control_X6_needRoomForController : GoodIn wsX6_control wsX6_needRoomForController := goodIn_ca (goodIn_r _ [52, 53, 54, 4, 30, 31, 32, 33, 34, 35, 75, 76, 77, 78, 79, 80, 81, 82, 83, 93, 94, 95, 96, 97, 98, 99, 100, 101, 102, 103, 104, 105, 106, 107] (by decide +kernel) (by decide +kernel)) (goodIn_sub (fun _ h => List.mem_cons_of_mem _ (List.mem_append_right _ h)) (by decide +kernel))
set_option maxRecDepth 20000 in
theorem gX6_control_X6_needRoomForController : GoodIn wsX6_control (wsV RX6 153 RX6 yX6_needRoomForController wsX6_needRoomForController) := goodIn_app (goodIn_of _ (by decide +kernel)) ggX6_control_X6_needRoomForController
set_option maxRecDepth 20000 in
theorem ggX6_control_X1_addMeasuring : GoodIn wsX6_control wsX1_addMeasuring := goodIn_r _ [58, 59, 60, 61, 62, 63, 64, 65, 33, 66, 35, 67, 68, 69, 70, 71, 72, 73, 74, 93, 94, 95, 96, 97, 98, 99, 100, 101, 102, 103, 104, 105, 106, 107] (by decide +kernel) (by decide +kernel)
set_option maxRecDepth 20000 in
theorem gX6_control_X1_addMeasuring : GoodIn wsX6_control (wsV RX6 156 RX1 yX1_addMeasuring wsX1_addMeasuring) := goodIn_app (goodIn_of _ (by decide +kernel)) ggX6_control_X1_addMeasuring
theorem dX6_control_0 : decode cX6_control 0 = .ok (.aload_n 0, 1) := by decide +kernel
theorem dX6_control_1 : decode cX6_control 1 = .ok (.iload_n 1, 1) := by decide +kernel
theorem dX6_control_2 : decode cX6_control 2 = .ok (.invokevirtual 107, 3) := by decide +kernel
theorem dX6_control_5 : decode cX6_control 5 = .ok (.iload 5, 2) := by decide +kernel
theorem dX6_control_7 : decode cX6_control 7 = .ok (.bipush 100, 2) := by decide +kernel
theorem dX6_control_9 : decode cX6_control 9 = .ok (.if_icmp .ge 12, 3) := by decide +kernel
theorem dX6_control_12 : decode cX6_control 12 = .ok (.aload_n 0, 1) := by decide +kernel
theorem dX6_control_13 : decode cX6_control 13 = .ok (.iload 5, 2) := by decide +kernel
theorem dX6_control_15 : decode cX6_control 15 = .ok (.invokevirtual 104, 3) := by decide +kernel
theorem dX6_control_18 : decode cX6_control 18 = .ok (.goto 12, 3) := by decide +kernel
theorem dX6_control_21 : decode cX6_control 21 = .ok (.aload_n 0, 1) := by decide +kernel
theorem dX6_control_22 : decode cX6_control 22 = .ok (.iload 5, 2) := by decide +kernel
theorem dX6_control_24 : decode cX6_control 24 = .ok (.bipush 100, 2) := by decide +kernel
theorem dX6_control_26 : decode cX6_control 26 = .ok (.isub, 1) := by decide +kernel
theorem dX6_control_27 : decode cX6_control 27 = .ok (.invokevirtual 144, 3) := by decide +kernel
theorem dX6_control_30 : decode cX6_control 30 = .ok (.iload_n 2, 1) := by decide +kernel
theorem dX6_control_31 : decode cX6_control 31 = .ok (.iconst 0, 1) := by decide +kernel
theorem dX6_control_32 : decode cX6_control 32 = .ok (.sipush 3000, 3) := by decide +kernel
theorem dX6_control_35 : decode cX6_control 35 = .ok (.invokestatic 62, 3) := by decide +kernel
theorem dX6_control_38 : decode cX6_control 38 = .ok (.ifCond .ne 25, 3) := by decide +kernel
theorem dX6_control_41 : decode cX6_control 41 = .ok (.iload_n 3, 1) := by decide +kernel
theorem dX6_control_42 : decode cX6_control 42 = .ok (.bipush (-99), 2) := by decide +kernel
theorem dX6_control_44 : decode cX6_control 44 = .ok (.bipush 99, 2) := by decide +kernel
theorem dX6_control_46 : decode cX6_control 46 = .ok (.invokestatic 62, 3) := by decide +kernel
theorem dX6_control_49 : decode cX6_control 49 = .ok (.ifCond .ne 14, 3) := by decide +kernel
theorem dX6_control_52 : decode cX6_control 52 = .ok (.iload 4, 2) := by decide +kernel
theorem dX6_control_54 : decode cX6_control 54 = .ok (.iconst 0, 1) := by decide +kernel
theorem dX6_control_55 : decode cX6_control 55 = .ok (.ldc 147, 2) := by decide +kernel
theorem dX6_control_57 : decode cX6_control 57 = .ok (.invokestatic 62, 3) := by decide +kernel
theorem dX6_control_60 : decode cX6_control 60 = .ok (.ifCond .eq 13, 3) := by decide +kernel
theorem dX6_control_63 : decode cX6_control 63 = .ok (.new 66, 3) := by decide +kernel
theorem dX6_control_66 : decode cX6_control 66 = .ok (.dup, 1) := by decide +kernel
theorem dX6_control_67 : decode cX6_control 67 = .ok (.ldc 148, 2) := by decide +kernel
theorem dX6_control_69 : decode cX6_control 69 = .ok (.invokespecial 70, 3) := by decide +kernel
theorem dX6_control_72 : decode cX6_control 72 = .ok (.athrow, 1) := by decide +kernel
theorem dX6_control_73 : decode cX6_control 73 = .ok (.aload_n 0, 1) := by decide +kernel
theorem dX6_control_74 : decode cX6_control 74 = .ok (.iload 5, 2) := by decide +kernel
theorem dX6_control_76 : decode cX6_control 76 = .ok (.invokevirtual 150, 3) := by decide +kernel
theorem dX6_control_79 : decode cX6_control 79 = .ok (.aload_n 0, 1) := by decide +kernel
theorem dX6_control_80 : decode cX6_control 80 = .ok (.invokevirtual 153, 3) := by decide +kernel
theorem dX6_control_83 : decode cX6_control 83 = .ok (.aload_n 0, 1) := by decide +kernel
theorem dX6_control_84 : decode cX6_control 84 = .ok (.getfield 29, 3) := by decide +kernel
theorem dX6_control_87 : decode cX6_control 87 = .ok (.iload_n 1, 1) := by decide +kernel
theorem dX6_control_88 : decode cX6_control 88 = .ok (.iload_n 2, 1) := by decide +kernel
theorem dX6_control_89 : decode cX6_control 89 = .ok (.iload_n 3, 1) := by decide +kernel
theorem dX6_control_90 : decode cX6_control 90 = .ok (.iload 4, 2) := by decide +kernel
theorem dX6_control_92 : decode cX6_control 92 = .ok (.iload 5, 2) := by decide +kernel
theorem dX6_control_94 : decode cX6_control 94 = .ok (.invokevirtual 156, 3) := by decide +kernel
theorem dX6_control_97 : decode cX6_control 97 = .ok (.ireturn, 1) := by decide +kernel
set_option maxRecDepth 20000 in
theorem ggX6_ratio_X6_needStream : GoodIn wsX6_ratio wsX6_needStream := goodIn_ca (goodIn_r _ [8, 9, 10, 11, 12, 13, 14, 15, 16, 17, 18, 19, 7, 20, 62, 63, 64, 65, 66, 67, 68, 69, 70, 71, 72, 73, 74, 75, 76, 77, 78, 79] (by decide +kernel) (by decide +kernel)) (goodIn_sub (fun _ h => List.mem_cons_of_mem _ (List.mem_append_left _ (List.mem_append_right _ h))) (by decide +kernel))
set_option maxRecDepth 20000 in
theorem gX6_ratio_X6_needStream : GoodIn wsX6_ratio (wsV RX6 107 RX6 yX6_needStream wsX6_needStream) := goodIn_app (goodIn_of _ (by decide +kernel)) ggX6_ratio_X6_needStream
set_option maxRecDepth 20000 in
theorem ggX6_ratio_X6_needUnit : GoodIn wsX6_ratio wsX6_needUnit := goodIn_ca (goodIn_r _ [24, 9, 10, 11, 12, 13, 14, 15, 16, 17, 18, 19, 7, 20, 62, 63, 64, 65, 66, 67, 68, 69, 70, 71, 72, 73, 74, 75, 76, 77, 78, 79] (by decide +kernel) (by decide +kernel)) (goodIn_sub (fun _ h => List.mem_cons_of_mem _ (List.mem_append_left _ (List.mem_append_right _ h))) (by decide +kernel))
set_option maxRecDepth 20000 in
theorem gX6_ratio_X6_needUnit : GoodIn wsX6_ratio (wsV RX6 104 RX6 yX6_needUnit wsX6_needUnit) := goodIn_app (goodIn_of _ (by decide +kernel)) ggX6_ratio_X6_needUnit
set_option maxRecDepth 20000 in
theorem ggX6_ratio_X6_isOutside : GoodIn wsX6_ratio wsX6_isOutside := goodIn_r _ [20] (by decide +kernel) (by decide +kernel)
set_option maxRecDepth 20000 in
theorem gX6_ratio_X6_isOutside : GoodIn wsX6_ratio (va_wsS RX6 62 yX6_isOutside wsX6_isOutside) := goodIn_app (goodIn_of _ (by decide +kernel)) ggX6_ratio_X6_isOutside
set_option maxRecDepth 20000 in
theorem ggX6_ratio_X6_needNoMix : GoodIn wsX6_ratio wsX6_needNoMix := goodIn_ca (goodIn_r _ [28, 1, 2, 11, 29, 30, 31, 15, 32, 33, 34, 35, 36, 37, 17, 62, 63, 64, 65, 66, 67, 68, 69, 70, 71, 72, 73, 74, 75, 76, 77, 78, 79] (by decide +kernel) (by decide +kernel)) (goodIn_sub (fun _ h => List.mem_cons_of_mem _ (List.mem_append_left _ (List.mem_append_left _ (List.mem_append_right _ h)))) (by decide +kernel))
set_option maxRecDepth 20000 in
theorem gX6_ratio_X6_needNoMix : GoodIn wsX6_ratio (wsV RX6 150 RX6 yX6_needNoMix wsX6_needNoMix) := goodIn_app (goodIn_of _ (by decide +kernel)) ggX6_ratio_X6_needNoMix
set_option maxRecDepth 20000 in
theorem ggX6_ratio_X6_needRoomForController : GoodIn wsX6_ratio wsX6_needRoomForController := goodIn_ca (goodIn_r _ [41, 42, 43, 3, 44, 45, 46, 47, 48, 49, 62, 63, 64, 65, 66, 67, 68, 69, 70, 80, 81, 82, 83, 84, 85, 86, 87, 88, 89, 90, 91, 92, 93, 94] (by decide +kernel) (by decide +kernel)) (goodIn_sub (fun _ h => List.mem_cons_of_mem _ (List.mem_append_right _ h)) (by decide +kernel))
set_option maxRecDepth 20000 in
theorem gX6_ratio_X6_needRoomForController : GoodIn wsX6_ratio (wsV RX6 153 RX6 yX6_needRoomForController wsX6_needRoomForController) := goodIn_app (goodIn_of _ (by decide +kernel)) ggX6_ratio_X6_needRoomForController
set_option maxRecDepth 20000 in
theorem ggX6_ratio_X1_addRatio : GoodIn wsX6_ratio wsX1_addRatio := goodIn_r _ [53, 54, 55, 56, 47, 57, 49, 58, 59, 60, 61, 80, 81, 82, 83, 84, 85, 86, 87, 88, 89, 90, 91, 92, 93, 94] (by decide +kernel) (by decide +kernel)
set_option maxRecDepth 20000 in
theorem gX6_ratio_X1_addRatio : GoodIn wsX6_ratio (wsV RX6 162 RX1 yX1_addRatio wsX1_addRatio) := goodIn_app (goodIn_of _ (by decide +kernel)) ggX6_ratio_X1_addRatio
theorem dX6_ratio_0 : decode cX6_ratio 0 = .ok (.aload_n 0, 1) := by decide +kernel
theorem dX6_ratio_1 : decode cX6_ratio 1 = .ok (.iload_n 1, 1) := by decide +kernel
theorem dX6_ratio_2 : decode cX6_ratio 2 = .ok (.invokevirtual 107, 3) := by decide +kernel
theorem dX6_ratio_5 : decode cX6_ratio 5 = .ok (.aload_n 0, 1) := by decide +kernel
theorem dX6_ratio_6 : decode cX6_ratio 6 = .ok (.iload_n 3, 1) := by decide +kernel
theorem dX6_ratio_7 : decode cX6_ratio 7 = .ok (.invokevirtual 104, 3) := by decide +kernel
theorem dX6_ratio_10 : decode cX6_ratio 10 = .ok (.iload_n 2, 1) := by decide +kernel
theorem dX6_ratio_11 : decode cX6_ratio 11 = .ok (.iconst 0, 1) := by decide +kernel
theorem dX6_ratio_12 : decode cX6_ratio 12 = .ok (.sipush 999, 3) := by decide +kernel
theorem dX6_ratio_15 : decode cX6_ratio 15 = .ok (.invokestatic 62, 3) := by decide +kernel
theorem dX6_ratio_18 : decode cX6_ratio 18 = .ok (.ifCond .eq 13, 3) := by decide +kernel
theorem dX6_ratio_21 : decode cX6_ratio 21 = .ok (.new 66, 3) := by decide +kernel
theorem dX6_ratio_24 : decode cX6_ratio 24 = .ok (.dup, 1) := by decide +kernel
theorem dX6_ratio_25 : decode cX6_ratio 25 = .ok (.ldc 160, 2) := by decide +kernel
theorem dX6_ratio_27 : decode cX6_ratio 27 = .ok (.invokespecial 70, 3) := by decide +kernel
theorem dX6_ratio_30 : decode cX6_ratio 30 = .ok (.athrow, 1) := by decide +kernel
theorem dX6_ratio_31 : decode cX6_ratio 31 = .ok (.aload_n 0, 1) := by decide +kernel
theorem dX6_ratio_32 : decode cX6_ratio 32 = .ok (.iload_n 3, 1) := by decide +kernel
theorem dX6_ratio_33 : decode cX6_ratio 33 = .ok (.invokevirtual 150, 3) := by decide +kernel
theorem dX6_ratio_36 : decode cX6_ratio 36 = .ok (.aload_n 0, 1) := by decide +kernel
theorem dX6_ratio_37 : decode cX6_ratio 37 = .ok (.invokevirtual 153, 3) := by decide +kernel
theorem dX6_ratio_40 : decode cX6_ratio 40 = .ok (.aload_n 0, 1) := by decide +kernel
theorem dX6_ratio_41 : decode cX6_ratio 41 = .ok (.getfield 29, 3) := by decide +kernel
theorem dX6_ratio_44 : decode cX6_ratio 44 = .ok (.iload_n 1, 1) := by decide +kernel
theorem dX6_ratio_45 : decode cX6_ratio 45 = .ok (.iload_n 2, 1) := by decide +kernel
theorem dX6_ratio_46 : decode cX6_ratio 46 = .ok (.iload_n 3, 1) := by decide +kernel
theorem dX6_ratio_47 : decode cX6_ratio 47 = .ok (.invokevirtual 162, 3) := by decide +kernel
theorem dX6_ratio_50 : decode cX6_ratio 50 = .ok (.ireturn, 1) := by decide +kernel
set_option maxRecDepth 20000 in
theorem ggX6_feed_X6_needController : GoodIn wsX6_feed wsX6_needController := goodIn_ca (goodIn_r _ [8, 9, 10, 3, 11, 12, 13, 14, 15, 16, 17, 18, 7, 19, 52, 53, 54, 55, 56, 57, 58, 59, 60, 61, 62, 63, 64, 65, 66, 67, 68, 69, 70, 71, 72, 73, 74, 75] (by decide +kernel) (by decide +kernel)) (goodIn_sub (fun _ h => List.mem_cons_of_mem _ (List.mem_append_left _ (List.mem_append_right _ h))) (by decide +kernel))
set_option maxRecDepth 20000 in
theorem gX6_feed_X6_needController : GoodIn wsX6_feed (wsV RX6 166 RX6 yX6_needController wsX6_needController) := goodIn_app (goodIn_of _ (by decide +kernel)) ggX6_feed_X6_needController
set_option maxRecDepth 20000 in
theorem ggX6_feed_X6_needStream : GoodIn wsX6_feed wsX6_needStream := goodIn_ca (goodIn_r _ [23, 9, 10, 24, 25, 26, 27, 28, 29, 30, 17, 18, 7, 19, 52, 53, 54, 55, 56, 57, 58, 59, 60, 76, 77, 78, 79, 80, 81, 82, 83, 84] (by decide +kernel) (by decide +kernel)) (goodIn_sub (fun _ h => List.mem_cons_of_mem _ (List.mem_append_left _ (List.mem_append_right _ h))) (by decide +kernel))
set_option maxRecDepth 20000 in
theorem gX6_feed_X6_needStream : GoodIn wsX6_feed (wsV RX6 107 RX6 yX6_needStream wsX6_needStream) := goodIn_app (goodIn_of _ (by decide +kernel)) ggX6_feed_X6_needStream
set_option maxRecDepth 20000 in
theorem ggX6_feed_X6_isOutside : GoodIn wsX6_feed wsX6_isOutside := goodIn_r _ [19] (by decide +kernel) (by decide +kernel)
set_option maxRecDepth 20000 in
theorem gX6_feed_X6_isOutside : GoodIn wsX6_feed (va_wsS RX6 62 yX6_isOutside wsX6_isOutside) := goodIn_app (goodIn_of _ (by decide +kernel)) ggX6_feed_X6_isOutside
set_option maxRecDepth 20000 in
theorem ggX6_feed_X6_needMeasuring : GoodIn wsX6_feed wsX6_needMeasuring := goodIn_ca (goodIn_r _ [34, 35, 36, 3, 37, 38, 39, 14, 40, 41, 42, 43, 44, 45, 16, 52, 53, 54, 55, 56, 57, 58, 59, 60, 61, 62, 63, 64, 65, 66, 67, 68, 69, 70, 71, 72, 73, 74, 75] (by decide +kernel) (by decide +kernel)) (goodIn_sub (fun _ h => List.mem_cons_of_mem _ (List.mem_append_right _ h)) (by decide +kernel))
set_option maxRecDepth 20000 in
theorem gX6_feed_X6_needMeasuring : GoodIn wsX6_feed (wsV RX6 169 RX6 yX6_needMeasuring wsX6_needMeasuring) := goodIn_app (goodIn_of _ (by decide +kernel)) ggX6_feed_X6_needMeasuring
set_option maxRecDepth 20000 in
theorem ggX6_feed_X1_putFeed : GoodIn wsX6_feed wsX1_putFeed := goodIn_r _ [49, 50, 51, 42, 43, 44, 14, 45, 16, 61, 62, 63, 64, 65, 66, 67, 68, 69, 70, 71, 72, 73, 74, 75] (by decide +kernel) (by decide +kernel)
set_option maxRecDepth 20000 in
theorem gX6_feed_X1_putFeed : GoodIn wsX6_feed (wsV RX6 172 RX1 yX1_putFeed wsX1_putFeed) := goodIn_app (goodIn_of _ (by decide +kernel)) ggX6_feed_X1_putFeed
theorem dX6_feed_0 : decode cX6_feed 0 = .ok (.aload_n 0, 1) := by decide +kernel
theorem dX6_feed_1 : decode cX6_feed 1 = .ok (.iload_n 1, 1) := by decide +kernel
theorem dX6_feed_2 : decode cX6_feed 2 = .ok (.invokevirtual 166, 3) := by decide +kernel
theorem dX6_feed_5 : decode cX6_feed 5 = .ok (.aload_n 0, 1) := by decide +kernel
theorem dX6_feed_6 : decode cX6_feed 6 = .ok (.iload_n 2, 1) := by decide +kernel
theorem dX6_feed_7 : decode cX6_feed 7 = .ok (.invokevirtual 107, 3) := by decide +kernel
theorem dX6_feed_10 : decode cX6_feed 10 = .ok (.iload_n 3, 1) := by decide +kernel
theorem dX6_feed_11 : decode cX6_feed 11 = .ok (.sipush (-500), 3) := by decide +kernel
theorem dX6_feed_14 : decode cX6_feed 14 = .ok (.sipush 500, 3) := by decide +kernel
theorem dX6_feed_17 : decode cX6_feed 17 = .ok (.invokestatic 62, 3) := by decide +kernel
theorem dX6_feed_20 : decode cX6_feed 20 = .ok (.ifCond .eq 13, 3) := by decide +kernel
theorem dX6_feed_23 : decode cX6_feed 23 = .ok (.new 66, 3) := by decide +kernel
theorem dX6_feed_26 : decode cX6_feed 26 = .ok (.dup, 1) := by decide +kernel
theorem dX6_feed_27 : decode cX6_feed 27 = .ok (.ldc 160, 2) := by decide +kernel
theorem dX6_feed_29 : decode cX6_feed 29 = .ok (.invokespecial 70, 3) := by decide +kernel
theorem dX6_feed_32 : decode cX6_feed 32 = .ok (.athrow, 1) := by decide +kernel
theorem dX6_feed_33 : decode cX6_feed 33 = .ok (.aload_n 0, 1) := by decide +kernel
theorem dX6_feed_34 : decode cX6_feed 34 = .ok (.iload_n 1, 1) := by decide +kernel
theorem dX6_feed_35 : decode cX6_feed 35 = .ok (.invokevirtual 169, 3) := by decide +kernel
theorem dX6_feed_38 : decode cX6_feed 38 = .ok (.aload_n 0, 1) := by decide +kernel
theorem dX6_feed_39 : decode cX6_feed 39 = .ok (.getfield 29, 3) := by decide +kernel
theorem dX6_feed_42 : decode cX6_feed 42 = .ok (.iload_n 1, 1) := by decide +kernel
theorem dX6_feed_43 : decode cX6_feed 43 = .ok (.iload_n 2, 1) := by decide +kernel
theorem dX6_feed_44 : decode cX6_feed 44 = .ok (.iload_n 3, 1) := by decide +kernel
theorem dX6_feed_45 : decode cX6_feed 45 = .ok (.invokevirtual 172, 3) := by decide +kernel
theorem dX6_feed_48 : decode cX6_feed 48 = .ok (.return_, 1) := by decide +kernel
set_option maxRecDepth 20000 in
theorem ggX6_aim_X6_needController : GoodIn wsX6_aim wsX6_needController := goodIn_ca (goodIn_r _ [8, 9, 10, 3, 11, 12, 13, 14, 15, 16, 17, 18, 7, 19, 45, 46, 47, 48, 49, 50, 51, 52, 53, 54, 55, 56, 57, 58, 59, 60, 61, 62, 63, 64, 65, 66, 67, 68] (by decide +kernel) (by decide +kernel)) (goodIn_sub (fun _ h => List.mem_cons_of_mem _ (List.mem_append_left _ (List.mem_append_right _ h))) (by decide +kernel))
set_option maxRecDepth 20000 in
theorem gX6_aim_X6_needController : GoodIn wsX6_aim (wsV RX6 166 RX6 yX6_needController wsX6_needController) := goodIn_app (goodIn_of _ (by decide +kernel)) ggX6_aim_X6_needController
set_option maxRecDepth 20000 in
theorem ggX6_aim_X6_isOutside : GoodIn wsX6_aim wsX6_isOutside := goodIn_r _ [19] (by decide +kernel) (by decide +kernel)
set_option maxRecDepth 20000 in
theorem gX6_aim_X6_isOutside : GoodIn wsX6_aim (va_wsS RX6 62 yX6_isOutside wsX6_isOutside) := goodIn_app (goodIn_of _ (by decide +kernel)) ggX6_aim_X6_isOutside
set_option maxRecDepth 20000 in
theorem ggX6_aim_X6_needMeasuring : GoodIn wsX6_aim wsX6_needMeasuring := goodIn_ca (goodIn_r _ [23, 24, 25, 3, 26, 27, 28, 14, 29, 30, 31, 32, 33, 34, 16, 45, 46, 47, 48, 49, 50, 51, 52, 53, 54, 55, 56, 57, 58, 59, 60, 61, 62, 63, 64, 65, 66, 67, 68] (by decide +kernel) (by decide +kernel)) (goodIn_sub (fun _ h => List.mem_cons_of_mem _ (List.mem_append_right _ h)) (by decide +kernel))
set_option maxRecDepth 20000 in
theorem gX6_aim_X6_needMeasuring : GoodIn wsX6_aim (wsV RX6 169 RX6 yX6_needMeasuring wsX6_needMeasuring) := goodIn_app (goodIn_of _ (by decide +kernel)) ggX6_aim_X6_needMeasuring
set_option maxRecDepth 20000 in
theorem ggX6_aim_X1_aimAt : GoodIn wsX6_aim wsX1_aimAt := goodIn_r _ [38, 39, 40, 41, 42, 43, 14, 44, 31, 32, 33, 34, 16, 54, 55, 56, 57, 58, 59, 60, 61, 62, 63, 64, 65, 66, 67, 68] (by decide +kernel) (by decide +kernel)
set_option maxRecDepth 20000 in
theorem gX6_aim_X1_aimAt : GoodIn wsX6_aim (wsV RX6 177 RX1 yX1_aimAt wsX1_aimAt) := goodIn_app (goodIn_of _ (by decide +kernel)) ggX6_aim_X1_aimAt
theorem dX6_aim_0 : decode cX6_aim 0 = .ok (.aload_n 0, 1) := by decide +kernel
theorem dX6_aim_1 : decode cX6_aim 1 = .ok (.iload_n 1, 1) := by decide +kernel
theorem dX6_aim_2 : decode cX6_aim 2 = .ok (.invokevirtual 166, 3) := by decide +kernel
theorem dX6_aim_5 : decode cX6_aim 5 = .ok (.iload_n 2, 1) := by decide +kernel
theorem dX6_aim_6 : decode cX6_aim 6 = .ok (.iconst 0, 1) := by decide +kernel
theorem dX6_aim_7 : decode cX6_aim 7 = .ok (.sipush 3000, 3) := by decide +kernel
theorem dX6_aim_10 : decode cX6_aim 10 = .ok (.invokestatic 62, 3) := by decide +kernel
theorem dX6_aim_13 : decode cX6_aim 13 = .ok (.ifCond .ne 14, 3) := by decide +kernel
theorem dX6_aim_16 : decode cX6_aim 16 = .ok (.iload_n 3, 1) := by decide +kernel
theorem dX6_aim_17 : decode cX6_aim 17 = .ok (.iconst 0, 1) := by decide +kernel
theorem dX6_aim_18 : decode cX6_aim 18 = .ok (.sipush 3000, 3) := by decide +kernel
theorem dX6_aim_21 : decode cX6_aim 21 = .ok (.invokestatic 62, 3) := by decide +kernel
theorem dX6_aim_24 : decode cX6_aim 24 = .ok (.ifCond .eq 13, 3) := by decide +kernel
theorem dX6_aim_27 : decode cX6_aim 27 = .ok (.new 66, 3) := by decide +kernel
theorem dX6_aim_30 : decode cX6_aim 30 = .ok (.dup, 1) := by decide +kernel
theorem dX6_aim_31 : decode cX6_aim 31 = .ok (.ldc 175, 2) := by decide +kernel
theorem dX6_aim_33 : decode cX6_aim 33 = .ok (.invokespecial 70, 3) := by decide +kernel
theorem dX6_aim_36 : decode cX6_aim 36 = .ok (.athrow, 1) := by decide +kernel
theorem dX6_aim_37 : decode cX6_aim 37 = .ok (.aload_n 0, 1) := by decide +kernel
theorem dX6_aim_38 : decode cX6_aim 38 = .ok (.iload_n 1, 1) := by decide +kernel
theorem dX6_aim_39 : decode cX6_aim 39 = .ok (.invokevirtual 169, 3) := by decide +kernel
theorem dX6_aim_42 : decode cX6_aim 42 = .ok (.aload_n 0, 1) := by decide +kernel
theorem dX6_aim_43 : decode cX6_aim 43 = .ok (.getfield 29, 3) := by decide +kernel
theorem dX6_aim_46 : decode cX6_aim 46 = .ok (.iload_n 1, 1) := by decide +kernel
theorem dX6_aim_47 : decode cX6_aim 47 = .ok (.iload_n 2, 1) := by decide +kernel
theorem dX6_aim_48 : decode cX6_aim 48 = .ok (.iload_n 3, 1) := by decide +kernel
theorem dX6_aim_49 : decode cX6_aim 49 = .ok (.invokevirtual 177, 3) := by decide +kernel
theorem dX6_aim_52 : decode cX6_aim 52 = .ok (.ireturn, 1) := by decide +kernel
set_option maxRecDepth 20000 in
theorem ggX6_select_X6_needUnit : GoodIn wsX6_select wsX6_needUnit := goodIn_ca (goodIn_r _ [6, 7, 8, 1, 9, 10, 11, 12, 13, 14, 15, 16, 5, 17, 31, 32, 33, 34, 35, 36, 37, 38, 39, 40, 41, 42, 43, 44, 45, 46, 47, 48] (by decide +kernel) (by decide +kernel)) (goodIn_sub (fun _ h => List.mem_cons_of_mem _ (List.mem_append_right _ h)) (by decide +kernel))
set_option maxRecDepth 20000 in
theorem gX6_select_X6_needUnit : GoodIn wsX6_select (wsV RX6 104 RX6 yX6_needUnit wsX6_needUnit) := goodIn_app (goodIn_of _ (by decide +kernel)) ggX6_select_X6_needUnit
set_option maxRecDepth 20000 in
theorem ggX6_select_X5_turnChoice : GoodIn wsX6_select wsX5_turnChoice := goodIn_r _ [21, 22, 23, 24, 25, 12, 26, 14, 27, 28, 29, 30, 40, 41, 42, 43, 44, 45, 46, 47, 48] (by decide +kernel) (by decide +kernel)
set_option maxRecDepth 20000 in
theorem gX6_select_X5_turnChoice : GoodIn wsX6_select (wsV RX6 180 RX5 yX5_turnChoice wsX5_turnChoice) := goodIn_app (goodIn_of _ (by decide +kernel)) ggX6_select_X5_turnChoice
theorem dX6_select_0 : decode cX6_select 0 = .ok (.aload_n 0, 1) := by decide +kernel
theorem dX6_select_1 : decode cX6_select 1 = .ok (.iload_n 1, 1) := by decide +kernel
theorem dX6_select_2 : decode cX6_select 2 = .ok (.invokevirtual 104, 3) := by decide +kernel
theorem dX6_select_5 : decode cX6_select 5 = .ok (.aload_n 0, 1) := by decide +kernel
theorem dX6_select_6 : decode cX6_select 6 = .ok (.getfield 22, 3) := by decide +kernel
theorem dX6_select_9 : decode cX6_select 9 = .ok (.iload_n 1, 1) := by decide +kernel
theorem dX6_select_10 : decode cX6_select 10 = .ok (.invokevirtual 180, 3) := by decide +kernel
theorem dX6_select_13 : decode cX6_select 13 = .ok (.ireturn, 1) := by decide +kernel
set_option maxRecDepth 20000 in
theorem ggX6_tick_X6_isOutside : GoodIn wsX6_tick wsX6_isOutside := goodIn_r _ [9] (by decide +kernel) (by decide +kernel)
set_option maxRecDepth 20000 in
theorem gX6_tick_X6_isOutside : GoodIn wsX6_tick (va_wsS RX6 62 yX6_isOutside wsX6_isOutside) := goodIn_app (goodIn_of _ (by decide +kernel)) ggX6_tick_X6_isOutside
set_option maxRecDepth 20000 in
theorem ggX6_tick_X6_letOneTickGoBy : GoodIn wsX6_tick wsX6_letOneTickGoBy := goodIn_r _ [13, 5, 14, 15, 16, 17, 18, 19, 20, 21, 22, 23, 24, 25, 26, 27, 28, 29, 30, 31, 32, 33, 34, 35, 36, 37, 38, 39, 40, 41, 42, 43, 44, 45, 46, 47, 48, 49, 50, 51, 52, 53, 54, 55, 56, 57, 58, 59, 60, 61, 62, 63, 64, 65, 66, 67, 68, 69, 70, 71, 72, 73, 74, 75, 76, 77, 78, 79, 80, 81, 82, 83, 84, 85, 86, 87, 88, 89, 90, 91, 92, 93, 94, 8, 95, 96, 97, 98, 99, 100, 101, 102, 103, 104, 105, 106, 107, 108, 109, 110, 111, 112, 113, 114, 115, 116, 117, 118, 119, 120, 121, 122, 123, 124, 125, 126, 127, 128, 129, 130, 131, 132, 133, 134, 135, 136, 137, 138, 139, 140, 141, 142, 143, 144, 145, 146, 147, 148, 149, 150, 151, 152, 153, 154, 155, 156, 157, 158, 159, 160, 161, 162, 163, 164, 165, 166, 167, 168, 169, 170, 171, 172, 173, 174, 175, 176, 177, 178, 179, 180, 181, 182, 183, 184, 185, 186, 187, 188, 189, 190, 191, 192, 193, 194, 195, 196, 197, 198, 199, 200, 201, 202, 203, 204, 205, 206, 207, 208, 209, 210, 211, 212, 213, 214, 215, 216, 217, 218, 219, 220, 221, 222, 223, 224, 225, 226, 227, 228, 229, 230, 231, 232, 233, 234, 235, 236, 237, 238, 239, 240, 241, 242, 243, 244, 245, 246, 247, 248, 249, 250, 251, 252, 253, 254, 255, 256, 257, 258, 259, 260, 261, 262, 263, 264, 265, 266, 267, 268, 269, 270] (by decide +kernel) (by decide +kernel)
set_option maxRecDepth 20000 in
theorem gX6_tick_X6_letOneTickGoBy : GoodIn wsX6_tick (wsV RX6 188 RX6 yX6_letOneTickGoBy wsX6_letOneTickGoBy) := goodIn_app (goodIn_of _ (by decide +kernel)) ggX6_tick_X6_letOneTickGoBy
theorem dX6_tick_0 : decode cX6_tick 0 = .ok (.iload_n 1, 1) := by decide +kernel
theorem dX6_tick_1 : decode cX6_tick 1 = .ok (.iconst 1, 1) := by decide +kernel
theorem dX6_tick_2 : decode cX6_tick 2 = .ok (.bipush 50, 2) := by decide +kernel
theorem dX6_tick_4 : decode cX6_tick 4 = .ok (.invokestatic 62, 3) := by decide +kernel
theorem dX6_tick_7 : decode cX6_tick 7 = .ok (.ifCond .eq 13, 3) := by decide +kernel
theorem dX6_tick_10 : decode cX6_tick 10 = .ok (.new 66, 3) := by decide +kernel
theorem dX6_tick_13 : decode cX6_tick 13 = .ok (.dup, 1) := by decide +kernel
theorem dX6_tick_14 : decode cX6_tick 14 = .ok (.ldc 184, 2) := by decide +kernel
theorem dX6_tick_16 : decode cX6_tick 16 = .ok (.invokespecial 70, 3) := by decide +kernel
theorem dX6_tick_19 : decode cX6_tick 19 = .ok (.athrow, 1) := by decide +kernel
theorem dX6_tick_20 : decode cX6_tick 20 = .ok (.aload_n 0, 1) := by decide +kernel
theorem dX6_tick_21 : decode cX6_tick 21 = .ok (.getfield 54, 3) := by decide +kernel
theorem dX6_tick_24 : decode cX6_tick 24 = .ok (.iload_n 1, 1) := by decide +kernel
theorem dX6_tick_25 : decode cX6_tick 25 = .ok (.iadd, 1) := by decide +kernel
theorem dX6_tick_26 : decode cX6_tick 26 = .ok (.sipush 300, 3) := by decide +kernel
theorem dX6_tick_29 : decode cX6_tick 29 = .ok (.if_icmp .le 13, 3) := by decide +kernel
theorem dX6_tick_32 : decode cX6_tick 32 = .ok (.new 90, 3) := by decide +kernel
theorem dX6_tick_35 : decode cX6_tick 35 = .ok (.dup, 1) := by decide +kernel
theorem dX6_tick_36 : decode cX6_tick 36 = .ok (.ldc 186, 2) := by decide +kernel
theorem dX6_tick_38 : decode cX6_tick 38 = .ok (.invokespecial 94, 3) := by decide +kernel
theorem dX6_tick_41 : decode cX6_tick 41 = .ok (.athrow, 1) := by decide +kernel
theorem dX6_tick_42 : decode cX6_tick 42 = .ok (.iconst 0, 1) := by decide +kernel
theorem dX6_tick_43 : decode cX6_tick 43 = .ok (.istore_n 2, 1) := by decide +kernel
theorem dX6_tick_44 : decode cX6_tick 44 = .ok (.iload_n 2, 1) := by decide +kernel
theorem dX6_tick_45 : decode cX6_tick 45 = .ok (.iload_n 1, 1) := by decide +kernel
theorem dX6_tick_46 : decode cX6_tick 46 = .ok (.if_icmp .ge 13, 3) := by decide +kernel
theorem dX6_tick_49 : decode cX6_tick 49 = .ok (.aload_n 0, 1) := by decide +kernel
theorem dX6_tick_50 : decode cX6_tick 50 = .ok (.invokevirtual 188, 3) := by decide +kernel
theorem dX6_tick_53 : decode cX6_tick 53 = .ok (.iinc 2 1, 3) := by decide +kernel
theorem dX6_tick_56 : decode cX6_tick 56 = .ok (.goto (-12), 3) := by decide +kernel
theorem dX6_tick_59 : decode cX6_tick 59 = .ok (.aload_n 0, 1) := by decide +kernel
theorem dX6_tick_60 : decode cX6_tick 60 = .ok (.getfield 54, 3) := by decide +kernel
theorem dX6_tick_63 : decode cX6_tick 63 = .ok (.ireturn, 1) := by decide +kernel
set_option maxRecDepth 20000 in
theorem ggX6_quit_X0_takeFirst : GoodIn wsX6_quit wsX0_takeFirst := goodIn_r _ [6, 7, 8, 9, 10, 11, 12, 5, 13, 23, 24, 25] (by decide +kernel) (by decide +kernel)
set_option maxRecDepth 20000 in
theorem gX6_quit_X0_takeFirst : GoodIn wsX6_quit (wsV RX6 191 RX0 yX0_takeFirst wsX0_takeFirst) := goodIn_app (goodIn_of _ (by decide +kernel)) ggX6_quit_X0_takeFirst
theorem dX6_quit_0 : decode cX6_quit 0 = .ok (.aload_n 0, 1) := by decide +kernel
theorem dX6_quit_1 : decode cX6_quit 1 = .ok (.getfield 36, 3) := by decide +kernel
theorem dX6_quit_4 : decode cX6_quit 4 = .ok (.invokevirtual 191, 3) := by decide +kernel
theorem dX6_quit_7 : decode cX6_quit 7 = .ok (.ireturn, 1) := by decide +kernel
set_option maxRecDepth 20000 in
theorem ggX6_of_X6_needStream : GoodIn wsX6_of wsX6_needStream := goodIn_ca (goodIn_r _ [8, 9, 10, 11, 12, 13, 14, 15, 16, 17, 18, 19, 7, 20, 40, 41, 42, 43, 44, 45, 46, 47, 48, 49, 50, 51, 52, 53, 54, 55, 56, 57] (by decide +kernel) (by decide +kernel)) (goodIn_sub (fun _ h => List.mem_cons_of_mem _ (List.mem_append_right _ h)) (by decide +kernel))
set_option maxRecDepth 20000 in
theorem gX6_of_X6_needStream : GoodIn wsX6_of (wsV RX6 107 RX6 yX6_needStream wsX6_needStream) := goodIn_app (goodIn_of _ (by decide +kernel)) ggX6_of_X6_needStream
set_option maxRecDepth 20000 in
theorem ggX6_of_X3_flowOf : GoodIn wsX6_of wsX3_flowOf := goodIn_r _ [25, 26, 27, 28, 24, 29, 58, 59] (by decide +kernel) (by decide +kernel)
set_option maxRecDepth 20000 in
theorem gX6_of_X3_flowOf : GoodIn wsX6_of (wsV RX6 194 RX3 yX3_flowOf wsX3_flowOf) := goodIn_app (goodIn_of _ (by decide +kernel)) ggX6_of_X3_flowOf
set_option maxRecDepth 20000 in
theorem ggX6_of_X3_heatOf : GoodIn wsX6_of wsX3_heatOf := goodIn_r _ [33, 34, 27, 28, 24, 29, 58, 59] (by decide +kernel) (by decide +kernel)
set_option maxRecDepth 20000 in
theorem gX6_of_X3_heatOf : GoodIn wsX6_of (wsV RX6 198 RX3 yX3_heatOf wsX3_heatOf) := goodIn_app (goodIn_of _ (by decide +kernel)) ggX6_of_X3_heatOf
set_option maxRecDepth 20000 in
theorem ggX6_of_X3_warmthOf : GoodIn wsX6_of wsX3_warmthOf := goodIn_r _ [38, 26, 39, 34, 27, 28, 24, 29, 58, 59] (by decide +kernel) (by decide +kernel)
set_option maxRecDepth 20000 in
theorem gX6_of_X3_warmthOf : GoodIn wsX6_of (wsV RX6 201 RX3 yX3_warmthOf wsX3_warmthOf) := goodIn_app (goodIn_of _ (by decide +kernel)) ggX6_of_X3_warmthOf
theorem dX6_of_0 : decode cX6_of 0 = .ok (.aload_n 0, 1) := by decide +kernel
theorem dX6_of_1 : decode cX6_of 1 = .ok (.iload_n 1, 1) := by decide +kernel
theorem dX6_of_2 : decode cX6_of 2 = .ok (.invokevirtual 107, 3) := by decide +kernel
theorem dX6_of_5 : decode cX6_of 5 = .ok (.iload_n 2, 1) := by decide +kernel
theorem dX6_of_6 : decode cX6_of 6 = .ok (.tableswitch 56 0 2 #[26, 36, 46], 26) := by decide +kernel
theorem dX6_of_32 : decode cX6_of 32 = .ok (.aload_n 0, 1) := by decide +kernel
theorem dX6_of_33 : decode cX6_of 33 = .ok (.getfield 12, 3) := by decide +kernel
theorem dX6_of_36 : decode cX6_of 36 = .ok (.iload_n 1, 1) := by decide +kernel
theorem dX6_of_37 : decode cX6_of 37 = .ok (.invokevirtual 194, 3) := by decide +kernel
theorem dX6_of_40 : decode cX6_of 40 = .ok (.l2i, 1) := by decide +kernel
theorem dX6_of_41 : decode cX6_of 41 = .ok (.ireturn, 1) := by decide +kernel
theorem dX6_of_42 : decode cX6_of 42 = .ok (.aload_n 0, 1) := by decide +kernel
theorem dX6_of_43 : decode cX6_of 43 = .ok (.getfield 12, 3) := by decide +kernel
theorem dX6_of_46 : decode cX6_of 46 = .ok (.iload_n 1, 1) := by decide +kernel
theorem dX6_of_47 : decode cX6_of 47 = .ok (.invokevirtual 198, 3) := by decide +kernel
theorem dX6_of_50 : decode cX6_of 50 = .ok (.l2i, 1) := by decide +kernel
theorem dX6_of_51 : decode cX6_of 51 = .ok (.ireturn, 1) := by decide +kernel
theorem dX6_of_52 : decode cX6_of 52 = .ok (.aload_n 0, 1) := by decide +kernel
theorem dX6_of_53 : decode cX6_of 53 = .ok (.getfield 12, 3) := by decide +kernel
theorem dX6_of_56 : decode cX6_of 56 = .ok (.iload_n 1, 1) := by decide +kernel
theorem dX6_of_57 : decode cX6_of 57 = .ok (.invokevirtual 201, 3) := by decide +kernel
theorem dX6_of_60 : decode cX6_of 60 = .ok (.l2i, 1) := by decide +kernel
theorem dX6_of_61 : decode cX6_of 61 = .ok (.ireturn, 1) := by decide +kernel
theorem dX6_of_62 : decode cX6_of 62 = .ok (.new 66, 3) := by decide +kernel
theorem dX6_of_65 : decode cX6_of 65 = .ok (.dup, 1) := by decide +kernel
theorem dX6_of_66 : decode cX6_of 66 = .ok (.ldc 204, 2) := by decide +kernel
theorem dX6_of_68 : decode cX6_of 68 = .ok (.invokespecial 70, 3) := by decide +kernel
theorem dX6_of_71 : decode cX6_of 71 = .ok (.athrow, 1) := by decide +kernel
set_option maxRecDepth 20000 in
theorem ggX6_ofUnit_X6_needUnit : GoodIn wsX6_ofUnit wsX6_needUnit := goodIn_ca (goodIn_r _ [8, 9, 10, 3, 11, 12, 13, 14, 15, 16, 17, 18, 7, 19, 34, 35, 36, 37, 38, 39, 40, 41, 42, 43, 44, 45, 46, 47, 48, 49, 50, 51] (by decide +kernel) (by decide +kernel)) (goodIn_sub (fun _ h => List.mem_cons_of_mem _ (List.mem_append_right _ h)) (by decide +kernel))
set_option maxRecDepth 20000 in
theorem gX6_ofUnit_X6_needUnit : GoodIn wsX6_ofUnit (wsV RX6 104 RX6 yX6_needUnit wsX6_needUnit) := goodIn_app (goodIn_of _ (by decide +kernel)) ggX6_ofUnit_X6_needUnit
set_option maxRecDepth 20000 in
theorem ggX6_ofUnit_X5_numberOf : GoodIn wsX6_ofUnit wsX5_numberOf := goodIn_r _ [23, 24, 25, 26, 27, 14, 28, 16, 43, 44, 45, 46, 47, 48, 49, 50, 51] (by decide +kernel) (by decide +kernel)
set_option maxRecDepth 20000 in
theorem gX6_ofUnit_X5_numberOf : GoodIn wsX6_ofUnit (wsV RX6 126 RX5 yX5_numberOf wsX5_numberOf) := goodIn_app (goodIn_of _ (by decide +kernel)) ggX6_ofUnit_X5_numberOf
set_option maxRecDepth 20000 in
theorem ggX6_ofUnit_X5_movedBy : GoodIn wsX6_ofUnit wsX5_movedBy := goodIn_r _ [32, 33, 25, 26, 27, 14, 28, 16, 43, 44, 45, 46, 47, 48, 49, 50, 51] (by decide +kernel) (by decide +kernel)
set_option maxRecDepth 20000 in
theorem gX6_ofUnit_X5_movedBy : GoodIn wsX6_ofUnit (wsV RX6 206 RX5 yX5_movedBy wsX5_movedBy) := goodIn_app (goodIn_of _ (by decide +kernel)) ggX6_ofUnit_X5_movedBy
theorem dX6_ofUnit_0 : decode cX6_ofUnit 0 = .ok (.aload_n 0, 1) := by decide +kernel
theorem dX6_ofUnit_1 : decode cX6_ofUnit 1 = .ok (.iload_n 1, 1) := by decide +kernel
theorem dX6_ofUnit_2 : decode cX6_ofUnit 2 = .ok (.invokevirtual 104, 3) := by decide +kernel
theorem dX6_ofUnit_5 : decode cX6_ofUnit 5 = .ok (.iload_n 2, 1) := by decide +kernel
theorem dX6_ofUnit_6 : decode cX6_ofUnit 6 = .ok (.lookupswitch 45 #[(0, 26), (1, 35)], 26) := by decide +kernel
theorem dX6_ofUnit_32 : decode cX6_ofUnit 32 = .ok (.aload_n 0, 1) := by decide +kernel
theorem dX6_ofUnit_33 : decode cX6_ofUnit 33 = .ok (.getfield 22, 3) := by decide +kernel
theorem dX6_ofUnit_36 : decode cX6_ofUnit 36 = .ok (.iload_n 1, 1) := by decide +kernel
theorem dX6_ofUnit_37 : decode cX6_ofUnit 37 = .ok (.invokevirtual 126, 3) := by decide +kernel
theorem dX6_ofUnit_40 : decode cX6_ofUnit 40 = .ok (.ireturn, 1) := by decide +kernel
theorem dX6_ofUnit_41 : decode cX6_ofUnit 41 = .ok (.aload_n 0, 1) := by decide +kernel
theorem dX6_ofUnit_42 : decode cX6_ofUnit 42 = .ok (.getfield 22, 3) := by decide +kernel
theorem dX6_ofUnit_45 : decode cX6_ofUnit 45 = .ok (.iload_n 1, 1) := by decide +kernel
theorem dX6_ofUnit_46 : decode cX6_ofUnit 46 = .ok (.invokevirtual 206, 3) := by decide +kernel
theorem dX6_ofUnit_49 : decode cX6_ofUnit 49 = .ok (.l2i, 1) := by decide +kernel
theorem dX6_ofUnit_50 : decode cX6_ofUnit 50 = .ok (.ireturn, 1) := by decide +kernel
theorem dX6_ofUnit_51 : decode cX6_ofUnit 51 = .ok (.new 66, 3) := by decide +kernel
theorem dX6_ofUnit_54 : decode cX6_ofUnit 54 = .ok (.dup, 1) := by decide +kernel
theorem dX6_ofUnit_55 : decode cX6_ofUnit 55 = .ok (.ldc 204, 2) := by decide +kernel
theorem dX6_ofUnit_57 : decode cX6_ofUnit 57 = .ok (.invokespecial 70, 3) := by decide +kernel
theorem dX6_ofUnit_60 : decode cX6_ofUnit 60 = .ok (.athrow, 1) := by decide +kernel
set_option maxRecDepth 20000 in
theorem ggX6_ofController_X6_needController : GoodIn wsX6_ofController wsX6_needController := goodIn_ca (goodIn_r _ [8, 9, 10, 3, 11, 12, 13, 14, 15, 16, 17, 18, 7, 19, 44, 45, 46, 47, 48, 49, 50, 51, 52, 53, 54, 55, 56, 57, 58, 59, 60, 61, 62, 63, 64, 65, 66, 67] (by decide +kernel) (by decide +kernel)) (goodIn_sub (fun _ h => List.mem_cons_of_mem _ (List.mem_append_right _ h)) (by decide +kernel))
set_option maxRecDepth 20000 in
theorem gX6_ofController_X6_needController : GoodIn wsX6_ofController (wsV RX6 166 RX6 yX6_needController wsX6_needController) := goodIn_app (goodIn_of _ (by decide +kernel)) ggX6_ofController_X6_needController
set_option maxRecDepth 20000 in
theorem ggX6_ofController_X1_goalOf : GoodIn wsX6_ofController wsX1_goalOf := goodIn_r _ [23, 24, 25, 26, 27, 14, 28, 16, 53, 54, 55, 56, 57, 58, 59, 60, 61, 62, 63, 64, 65, 66, 67] (by decide +kernel) (by decide +kernel)
set_option maxRecDepth 20000 in
theorem gX6_ofController_X1_goalOf : GoodIn wsX6_ofController (wsV RX6 209 RX1 yX1_goalOf wsX1_goalOf) := goodIn_app (goodIn_of _ (by decide +kernel)) ggX6_ofController_X1_goalOf
set_option maxRecDepth 20000 in
theorem ggX6_ofController_X1_sumOf : GoodIn wsX6_ofController wsX1_sumOf := goodIn_r _ [32, 33, 25, 26, 27, 14, 28, 16, 53, 54, 55, 56, 57, 58, 59, 60, 61, 62, 63, 64, 65, 66, 67] (by decide +kernel) (by decide +kernel)
set_option maxRecDepth 20000 in
theorem gX6_ofController_X1_sumOf : GoodIn wsX6_ofController (wsV RX6 212 RX1 yX1_sumOf wsX1_sumOf) := goodIn_app (goodIn_of _ (by decide +kernel)) ggX6_ofController_X1_sumOf
set_option maxRecDepth 20000 in
theorem ggX6_ofController_X1_outputOf : GoodIn wsX6_ofController wsX1_outputOf := goodIn_r _ [37, 38, 25, 26, 27, 14, 28, 16, 53, 54, 55, 56, 57, 58, 59, 60, 61, 62, 63, 64, 65, 66, 67] (by decide +kernel) (by decide +kernel)
set_option maxRecDepth 20000 in
theorem gX6_ofController_X1_outputOf : GoodIn wsX6_ofController (wsV RX6 215 RX1 yX1_outputOf wsX1_outputOf) := goodIn_app (goodIn_of _ (by decide +kernel)) ggX6_ofController_X1_outputOf
set_option maxRecDepth 20000 in
theorem ggX6_ofController_X1_errorOf : GoodIn wsX6_ofController wsX1_errorOf := goodIn_r _ [42, 43, 25, 26, 27, 14, 28, 16, 53, 54, 55, 56, 57, 58, 59, 60, 61, 62, 63, 64, 65, 66, 67] (by decide +kernel) (by decide +kernel)
set_option maxRecDepth 20000 in
theorem gX6_ofController_X1_errorOf : GoodIn wsX6_ofController (wsV RX6 218 RX1 yX1_errorOf wsX1_errorOf) := goodIn_app (goodIn_of _ (by decide +kernel)) ggX6_ofController_X1_errorOf
theorem dX6_ofController_0 : decode cX6_ofController 0 = .ok (.aload_n 0, 1) := by decide +kernel
theorem dX6_ofController_1 : decode cX6_ofController 1 = .ok (.iload_n 1, 1) := by decide +kernel
theorem dX6_ofController_2 : decode cX6_ofController 2 = .ok (.invokevirtual 166, 3) := by decide +kernel
theorem dX6_ofController_5 : decode cX6_ofController 5 = .ok (.iload_n 2, 1) := by decide +kernel
theorem dX6_ofController_6 : decode cX6_ofController 6 = .ok (.tableswitch 70 0 3 #[30, 40, 50, 60], 30) := by decide +kernel
theorem dX6_ofController_36 : decode cX6_ofController 36 = .ok (.aload_n 0, 1) := by decide +kernel
theorem dX6_ofController_37 : decode cX6_ofController 37 = .ok (.getfield 29, 3) := by decide +kernel
theorem dX6_ofController_40 : decode cX6_ofController 40 = .ok (.iload_n 1, 1) := by decide +kernel
theorem dX6_ofController_41 : decode cX6_ofController 41 = .ok (.invokevirtual 209, 3) := by decide +kernel
theorem dX6_ofController_44 : decode cX6_ofController 44 = .ok (.l2i, 1) := by decide +kernel
theorem dX6_ofController_45 : decode cX6_ofController 45 = .ok (.ireturn, 1) := by decide +kernel
theorem dX6_ofController_46 : decode cX6_ofController 46 = .ok (.aload_n 0, 1) := by decide +kernel
theorem dX6_ofController_47 : decode cX6_ofController 47 = .ok (.getfield 29, 3) := by decide +kernel
theorem dX6_ofController_50 : decode cX6_ofController 50 = .ok (.iload_n 1, 1) := by decide +kernel
theorem dX6_ofController_51 : decode cX6_ofController 51 = .ok (.invokevirtual 212, 3) := by decide +kernel
theorem dX6_ofController_54 : decode cX6_ofController 54 = .ok (.l2i, 1) := by decide +kernel
theorem dX6_ofController_55 : decode cX6_ofController 55 = .ok (.ireturn, 1) := by decide +kernel
theorem dX6_ofController_56 : decode cX6_ofController 56 = .ok (.aload_n 0, 1) := by decide +kernel
theorem dX6_ofController_57 : decode cX6_ofController 57 = .ok (.getfield 29, 3) := by decide +kernel
theorem dX6_ofController_60 : decode cX6_ofController 60 = .ok (.iload_n 1, 1) := by decide +kernel
theorem dX6_ofController_61 : decode cX6_ofController 61 = .ok (.invokevirtual 215, 3) := by decide +kernel
theorem dX6_ofController_64 : decode cX6_ofController 64 = .ok (.l2i, 1) := by decide +kernel
theorem dX6_ofController_65 : decode cX6_ofController 65 = .ok (.ireturn, 1) := by decide +kernel
theorem dX6_ofController_66 : decode cX6_ofController 66 = .ok (.aload_n 0, 1) := by decide +kernel
theorem dX6_ofController_67 : decode cX6_ofController 67 = .ok (.getfield 29, 3) := by decide +kernel
theorem dX6_ofController_70 : decode cX6_ofController 70 = .ok (.iload_n 1, 1) := by decide +kernel
theorem dX6_ofController_71 : decode cX6_ofController 71 = .ok (.invokevirtual 218, 3) := by decide +kernel
theorem dX6_ofController_74 : decode cX6_ofController 74 = .ok (.l2i, 1) := by decide +kernel
theorem dX6_ofController_75 : decode cX6_ofController 75 = .ok (.ireturn, 1) := by decide +kernel
theorem dX6_ofController_76 : decode cX6_ofController 76 = .ok (.new 66, 3) := by decide +kernel
theorem dX6_ofController_79 : decode cX6_ofController 79 = .ok (.dup, 1) := by decide +kernel
theorem dX6_ofController_80 : decode cX6_ofController 80 = .ok (.ldc 204, 2) := by decide +kernel
theorem dX6_ofController_82 : decode cX6_ofController 82 = .ok (.invokespecial 70, 3) := by decide +kernel
theorem dX6_ofController_85 : decode cX6_ofController 85 = .ok (.athrow, 1) := by decide +kernel
set_option maxRecDepth 20000 in
theorem ggX6_trend_X6_needStream : GoodIn wsX6_trend wsX6_needStream := goodIn_ca (goodIn_r _ [9, 1, 2, 10, 11, 12, 13, 14, 15, 16, 17, 18, 8, 19, 33, 34, 35, 36, 37, 38, 39, 40, 41, 42, 43, 44, 45, 46, 47, 48, 49, 50] (by decide +kernel) (by decide +kernel)) (goodIn_sub (fun _ h => List.mem_cons_of_mem _ (List.mem_append_right _ h)) (by decide +kernel))
set_option maxRecDepth 20000 in
theorem gX6_trend_X6_needStream : GoodIn wsX6_trend (wsV RX6 107 RX6 yX6_needStream wsX6_needStream) := goodIn_app (goodIn_of _ (by decide +kernel)) ggX6_trend_X6_needStream
set_option maxRecDepth 20000 in
theorem ggX6_trend_X6_isOutside : GoodIn wsX6_trend wsX6_isOutside := goodIn_r _ [19] (by decide +kernel) (by decide +kernel)
set_option maxRecDepth 20000 in
theorem gX6_trend_X6_isOutside : GoodIn wsX6_trend (va_wsS RX6 62 yX6_isOutside wsX6_isOutside) := goodIn_app (goodIn_of _ (by decide +kernel)) ggX6_trend_X6_isOutside
set_option maxRecDepth 20000 in
theorem ggX6_trend_X4_warmthAt : GoodIn wsX6_trend wsX4_warmthAt := goodIn_r _ [24, 25, 26, 27, 23, 28, 29, 30, 31, 32, 51] (by decide +kernel) (by decide +kernel)
set_option maxRecDepth 20000 in
theorem gX6_trend_X4_warmthAt : GoodIn wsX6_trend (wsV RX6 226 RX4 yX4_warmthAt wsX4_warmthAt) := goodIn_app (goodIn_of _ (by decide +kernel)) ggX6_trend_X4_warmthAt
theorem dX6_trend_0 : decode cX6_trend 0 = .ok (.aload_n 0, 1) := by decide +kernel
theorem dX6_trend_1 : decode cX6_trend 1 = .ok (.iload_n 1, 1) := by decide +kernel
theorem dX6_trend_2 : decode cX6_trend 2 = .ok (.invokevirtual 107, 3) := by decide +kernel
theorem dX6_trend_5 : decode cX6_trend 5 = .ok (.iload_n 2, 1) := by decide +kernel
theorem dX6_trend_6 : decode cX6_trend 6 = .ok (.iconst 1, 1) := by decide +kernel
theorem dX6_trend_7 : decode cX6_trend 7 = .ok (.aload_n 0, 1) := by decide +kernel
theorem dX6_trend_8 : decode cX6_trend 8 = .ok (.getfield 54, 3) := by decide +kernel
theorem dX6_trend_11 : decode cX6_trend 11 = .ok (.invokestatic 62, 3) := by decide +kernel
theorem dX6_trend_14 : decode cX6_trend 14 = .ok (.ifCond .eq 13, 3) := by decide +kernel
theorem dX6_trend_17 : decode cX6_trend 17 = .ok (.new 221, 3) := by decide +kernel
theorem dX6_trend_20 : decode cX6_trend 20 = .ok (.dup, 1) := by decide +kernel
theorem dX6_trend_21 : decode cX6_trend 21 = .ok (.ldc 223, 2) := by decide +kernel
theorem dX6_trend_23 : decode cX6_trend 23 = .ok (.invokespecial 225, 3) := by decide +kernel
theorem dX6_trend_26 : decode cX6_trend 26 = .ok (.athrow, 1) := by decide +kernel
theorem dX6_trend_27 : decode cX6_trend 27 = .ok (.aload_n 0, 1) := by decide +kernel
theorem dX6_trend_28 : decode cX6_trend 28 = .ok (.getfield 50, 3) := by decide +kernel
theorem dX6_trend_31 : decode cX6_trend 31 = .ok (.iload_n 1, 1) := by decide +kernel
theorem dX6_trend_32 : decode cX6_trend 32 = .ok (.iload_n 2, 1) := by decide +kernel
theorem dX6_trend_33 : decode cX6_trend 33 = .ok (.invokevirtual 226, 3) := by decide +kernel
theorem dX6_trend_36 : decode cX6_trend 36 = .ok (.ireturn, 1) := by decide +kernel
set_option maxRecDepth 20000 in
theorem ggX6_balance_X5_heatHeldOver : GoodIn wsX6_balance wsX5_heatHeldOver := goodIn_r _ [8, 9, 10, 11, 12, 13, 14, 15, 16, 17, 18, 43, 44, 45, 46, 47, 48, 49, 50, 51, 52, 53] (by decide +kernel) (by decide +kernel)
set_option maxRecDepth 20000 in
theorem gX6_balance_X5_heatHeldOver : GoodIn wsX6_balance (wsV RX6 229 RX5 yX5_heatHeldOver wsX5_heatHeldOver) := goodIn_app (goodIn_of _ (by decide +kernel)) ggX6_balance_X5_heatHeldOver
set_option maxRecDepth 20000 in
theorem ggX6_balance_X5_heatMade : GoodIn wsX6_balance wsX5_heatMade := goodIn_r _ [22, 23, 24, 10, 11, 12, 13, 14, 15, 16, 17, 18, 43, 44, 45, 46, 47, 48, 49, 50, 51, 52, 53] (by decide +kernel) (by decide +kernel)
set_option maxRecDepth 20000 in
theorem gX6_balance_X5_heatMade : GoodIn wsX6_balance (wsV RX6 233 RX5 yX5_heatMade wsX5_heatMade) := goodIn_app (goodIn_of _ (by decide +kernel)) ggX6_balance_X5_heatMade
set_option maxRecDepth 20000 in
theorem ggX6_balance_X5_heatUntaken : GoodIn wsX6_balance wsX5_heatUntaken := goodIn_r _ [28, 9, 10, 11, 12, 13, 14, 15, 16, 17, 18, 43, 44, 45, 46, 47, 48, 49, 50, 51, 52, 53] (by decide +kernel) (by decide +kernel)
set_option maxRecDepth 20000 in
theorem gX6_balance_X5_heatUntaken : GoodIn wsX6_balance (wsV RX6 236 RX5 yX5_heatUntaken wsX5_heatUntaken) := goodIn_app (goodIn_of _ (by decide +kernel)) ggX6_balance_X5_heatUntaken
set_option maxRecDepth 20000 in
theorem ggX6_balance_X5_heatCooledAway : GoodIn wsX6_balance wsX5_heatCooledAway := goodIn_r _ [32, 23, 24, 33, 43, 44, 45, 46, 47, 48, 49, 50, 51] (by decide +kernel) (by decide +kernel)
set_option maxRecDepth 20000 in
theorem gX6_balance_X5_heatCooledAway : GoodIn wsX6_balance (wsV RX6 239 RX5 yX5_heatCooledAway wsX5_heatCooledAway) := goodIn_app (goodIn_of _ (by decide +kernel)) ggX6_balance_X5_heatCooledAway
theorem dX6_balance_0 : decode cX6_balance 0 = .ok (.aload_n 0, 1) := by decide +kernel
theorem dX6_balance_1 : decode cX6_balance 1 = .ok (.getfield 22, 3) := by decide +kernel
theorem dX6_balance_4 : decode cX6_balance 4 = .ok (.aload_n 0, 1) := by decide +kernel
theorem dX6_balance_5 : decode cX6_balance 5 = .ok (.getfield 12, 3) := by decide +kernel
theorem dX6_balance_8 : decode cX6_balance 8 = .ok (.invokevirtual 229, 3) := by decide +kernel
theorem dX6_balance_11 : decode cX6_balance 11 = .ok (.aload_n 0, 1) := by decide +kernel
theorem dX6_balance_12 : decode cX6_balance 12 = .ok (.getfield 58, 3) := by decide +kernel
theorem dX6_balance_15 : decode cX6_balance 15 = .ok (.lsub, 1) := by decide +kernel
theorem dX6_balance_16 : decode cX6_balance 16 = .ok (.lstore_n 1, 1) := by decide +kernel
theorem dX6_balance_17 : decode cX6_balance 17 = .ok (.aload_n 0, 1) := by decide +kernel
theorem dX6_balance_18 : decode cX6_balance 18 = .ok (.getfield 22, 3) := by decide +kernel
theorem dX6_balance_21 : decode cX6_balance 21 = .ok (.aload_n 0, 1) := by decide +kernel
theorem dX6_balance_22 : decode cX6_balance 22 = .ok (.getfield 12, 3) := by decide +kernel
theorem dX6_balance_25 : decode cX6_balance 25 = .ok (.invokevirtual 233, 3) := by decide +kernel
theorem dX6_balance_28 : decode cX6_balance 28 = .ok (.aload_n 0, 1) := by decide +kernel
theorem dX6_balance_29 : decode cX6_balance 29 = .ok (.getfield 22, 3) := by decide +kernel
theorem dX6_balance_32 : decode cX6_balance 32 = .ok (.aload_n 0, 1) := by decide +kernel
theorem dX6_balance_33 : decode cX6_balance 33 = .ok (.getfield 12, 3) := by decide +kernel
theorem dX6_balance_36 : decode cX6_balance 36 = .ok (.invokevirtual 236, 3) := by decide +kernel
theorem dX6_balance_39 : decode cX6_balance 39 = .ok (.lsub, 1) := by decide +kernel
theorem dX6_balance_40 : decode cX6_balance 40 = .ok (.aload_n 0, 1) := by decide +kernel
theorem dX6_balance_41 : decode cX6_balance 41 = .ok (.getfield 22, 3) := by decide +kernel
theorem dX6_balance_44 : decode cX6_balance 44 = .ok (.invokevirtual 239, 3) := by decide +kernel
theorem dX6_balance_47 : decode cX6_balance 47 = .ok (.lsub, 1) := by decide +kernel
theorem dX6_balance_48 : decode cX6_balance 48 = .ok (.lload_n 1, 1) := by decide +kernel
theorem dX6_balance_49 : decode cX6_balance 49 = .ok (.lsub, 1) := by decide +kernel
theorem dX6_balance_50 : decode cX6_balance 50 = .ok (.l2i, 1) := by decide +kernel
theorem dX6_balance_51 : decode cX6_balance 51 = .ok (.ireturn, 1) := by decide +kernel
set_option maxRecDepth 20000 in
theorem ggX6_alarms_X0_count : GoodIn wsX6_alarms wsX0_count := goodIn_r _ [6, 7, 17, 18, 19] (by decide +kernel) (by decide +kernel)
set_option maxRecDepth 20000 in
theorem gX6_alarms_X0_count : GoodIn wsX6_alarms (wsV RX6 243 RX0 yX0_count wsX0_count) := goodIn_app (goodIn_of _ (by decide +kernel)) ggX6_alarms_X0_count
theorem dX6_alarms_0 : decode cX6_alarms 0 = .ok (.aload_n 0, 1) := by decide +kernel
theorem dX6_alarms_1 : decode cX6_alarms 1 = .ok (.getfield 36, 3) := by decide +kernel
theorem dX6_alarms_4 : decode cX6_alarms 4 = .ok (.invokevirtual 243, 3) := by decide +kernel
theorem dX6_alarms_7 : decode cX6_alarms 7 = .ok (.ireturn, 1) := by decide +kernel
set_option maxRecDepth 20000 in
theorem ggX6_gain_X6_needUnit : GoodIn wsX6_gain wsX6_needUnit := goodIn_ca (goodIn_r _ [5, 6, 7, 8, 9, 10, 11, 12, 13, 14, 15, 16, 4, 17, 112, 113, 114, 115, 116, 117, 118, 119, 120, 121, 122, 123, 124, 125, 126, 127, 128, 129] (by decide +kernel) (by decide +kernel)) (goodIn_sub (fun _ h => List.mem_cons_of_mem _ (List.mem_append_right _ h)) (by decide +kernel))
set_option maxRecDepth 20000 in
theorem gX6_gain_X6_needUnit : GoodIn wsX6_gain (wsV RX6 104 RX6 yX6_needUnit wsX6_needUnit) := goodIn_app (goodIn_of _ (by decide +kernel)) ggX6_gain_X6_needUnit
set_option maxRecDepth 20000 in
theorem ggX6_gain_X6_needStream : GoodIn wsX6_gain wsX6_needStream := goodIn_ca (goodIn_r _ [21, 6, 7, 8, 9, 10, 11, 12, 13, 14, 15, 16, 4, 17, 112, 113, 114, 115, 116, 117, 118, 119, 120, 121, 122, 123, 124, 125, 126, 127, 128, 129] (by decide +kernel) (by decide +kernel)) (goodIn_sub (fun _ h => List.mem_cons_of_mem _ (List.mem_append_right _ h)) (by decide +kernel))
set_option maxRecDepth 20000 in
theorem gX6_gain_X6_needStream : GoodIn wsX6_gain (wsV RX6 107 RX6 yX6_needStream wsX6_needStream) := goodIn_app (goodIn_of _ (by decide +kernel)) ggX6_gain_X6_needStream
set_option maxRecDepth 20000 in
theorem ggX6_gain_X6_gainOf : GoodIn wsX6_gain wsX6_gainOf := goodIn_r _ [25, 8, 26, 27, 28, 12, 29, 30, 31, 32, 33, 34, 14, 35, 36, 37, 38, 39, 40, 41, 4, 42, 43, 44, 45, 46, 47, 48, 49, 50, 51, 52, 53, 54, 55, 56, 9, 10, 11, 13, 57, 58, 59, 60, 61, 62, 63, 64, 65, 66, 67, 68, 69, 70, 71, 72, 73, 74, 75, 76, 77, 78, 79, 80, 81, 82, 83, 84, 85, 86, 87, 88, 89, 90, 91, 92, 93, 94, 95, 96, 97, 98, 99, 100, 101, 102, 103, 104, 105, 106, 107, 108, 109, 110, 111, 112, 113, 114, 115, 116, 117, 118, 119, 120, 121, 122, 123, 124, 125, 126, 127, 128, 129, 130, 131] (by decide +kernel) (by decide +kernel)
set_option maxRecDepth 20000 in
theorem gX6_gain_X6_gainOf : GoodIn wsX6_gain (wsV RX6 246 RX6 yX6_gainOf wsX6_gainOf) := goodIn_app (goodIn_of _ (by decide +kernel)) ggX6_gain_X6_gainOf
theorem dX6_gain_0 : decode cX6_gain 0 = .ok (.aload_n 0, 1) := by decide +kernel
theorem dX6_gain_1 : decode cX6_gain 1 = .ok (.iload_n 1, 1) := by decide +kernel
theorem dX6_gain_2 : decode cX6_gain 2 = .ok (.invokevirtual 104, 3) := by decide +kernel
theorem dX6_gain_5 : decode cX6_gain 5 = .ok (.aload_n 0, 1) := by decide +kernel
theorem dX6_gain_6 : decode cX6_gain 6 = .ok (.iload_n 2, 1) := by decide +kernel
theorem dX6_gain_7 : decode cX6_gain 7 = .ok (.invokevirtual 107, 3) := by decide +kernel
theorem dX6_gain_10 : decode cX6_gain 10 = .ok (.aload_n 0, 1) := by decide +kernel
theorem dX6_gain_11 : decode cX6_gain 11 = .ok (.iload_n 1, 1) := by decide +kernel
theorem dX6_gain_12 : decode cX6_gain 12 = .ok (.iload_n 2, 1) := by decide +kernel
theorem dX6_gain_13 : decode cX6_gain 13 = .ok (.invokevirtual 246, 3) := by decide +kernel
theorem dX6_gain_16 : decode cX6_gain 16 = .ok (.l2i, 1) := by decide +kernel
theorem dX6_gain_17 : decode cX6_gain 17 = .ok (.ireturn, 1) := by decide +kernel
set_option maxRecDepth 20000 in
theorem ggX6_relative_X6_needUnit : GoodIn wsX6_relative wsX6_needUnit := goodIn_ca (goodIn_r _ [7, 8, 9, 10, 11, 12, 13, 14, 15, 16, 17, 18, 6, 19, 114, 115, 116, 117, 118, 119, 120, 121, 122, 123, 124, 125, 126, 127, 128, 129, 130, 131] (by decide +kernel) (by decide +kernel)) (goodIn_sub (fun _ h => List.mem_cons_of_mem _ (List.mem_append_right _ h)) (by decide +kernel))
set_option maxRecDepth 20000 in
theorem gX6_relative_X6_needUnit : GoodIn wsX6_relative (wsV RX6 104 RX6 yX6_needUnit wsX6_needUnit) := goodIn_app (goodIn_of _ (by decide +kernel)) ggX6_relative_X6_needUnit
set_option maxRecDepth 20000 in
theorem ggX6_relative_X6_needStream : GoodIn wsX6_relative wsX6_needStream := goodIn_ca (goodIn_r _ [23, 8, 9, 10, 11, 12, 13, 14, 15, 16, 17, 18, 6, 19, 114, 115, 116, 117, 118, 119, 120, 121, 122, 123, 124, 125, 126, 127, 128, 129, 130, 131] (by decide +kernel) (by decide +kernel)) (goodIn_sub (fun _ h => List.mem_cons_of_mem _ (List.mem_append_right _ h)) (by decide +kernel))
set_option maxRecDepth 20000 in
theorem gX6_relative_X6_needStream : GoodIn wsX6_relative (wsV RX6 107 RX6 yX6_needStream wsX6_needStream) := goodIn_app (goodIn_of _ (by decide +kernel)) ggX6_relative_X6_needStream
set_option maxRecDepth 20000 in
theorem ggX6_relative_X6_gainOf : GoodIn wsX6_relative wsX6_gainOf := goodIn_r _ [27, 10, 28, 29, 30, 14, 31, 32, 33, 34, 35, 36, 16, 37, 38, 39, 40, 41, 42, 43, 6, 44, 45, 46, 47, 48, 49, 50, 51, 52, 53, 54, 55, 56, 57, 58, 11, 12, 13, 15, 59, 60, 61, 62, 63, 64, 65, 66, 67, 68, 69, 70, 71, 72, 73, 74, 75, 76, 77, 78, 79, 80, 81, 82, 83, 84, 85, 86, 87, 88, 89, 90, 91, 92, 93, 94, 95, 96, 97, 98, 99, 100, 101, 102, 103, 104, 105, 106, 107, 108, 109, 110, 111, 112, 113, 114, 115, 116, 117, 118, 119, 120, 121, 122, 123, 124, 125, 126, 127, 128, 129, 130, 131, 132, 133] (by decide +kernel) (by decide +kernel)
set_option maxRecDepth 20000 in
theorem gX6_relative_X6_gainOf : GoodIn wsX6_relative (wsV RX6 246 RX6 yX6_gainOf wsX6_gainOf) := goodIn_app (goodIn_of _ (by decide +kernel)) ggX6_relative_X6_gainOf
theorem dX6_relative_0 : decode cX6_relative 0 = .ok (.aload_n 0, 1) := by decide +kernel
theorem dX6_relative_1 : decode cX6_relative 1 = .ok (.iload_n 1, 1) := by decide +kernel
theorem dX6_relative_2 : decode cX6_relative 2 = .ok (.invokevirtual 104, 3) := by decide +kernel
theorem dX6_relative_5 : decode cX6_relative 5 = .ok (.aload_n 0, 1) := by decide +kernel
theorem dX6_relative_6 : decode cX6_relative 6 = .ok (.iload_n 2, 1) := by decide +kernel
theorem dX6_relative_7 : decode cX6_relative 7 = .ok (.invokevirtual 104, 3) := by decide +kernel
theorem dX6_relative_10 : decode cX6_relative 10 = .ok (.aload_n 0, 1) := by decide +kernel
theorem dX6_relative_11 : decode cX6_relative 11 = .ok (.iload_n 3, 1) := by decide +kernel
theorem dX6_relative_12 : decode cX6_relative 12 = .ok (.invokevirtual 107, 3) := by decide +kernel
theorem dX6_relative_15 : decode cX6_relative 15 = .ok (.aload_n 0, 1) := by decide +kernel
theorem dX6_relative_16 : decode cX6_relative 16 = .ok (.iload 4, 2) := by decide +kernel
theorem dX6_relative_18 : decode cX6_relative 18 = .ok (.invokevirtual 107, 3) := by decide +kernel
theorem dX6_relative_21 : decode cX6_relative 21 = .ok (.aload_n 0, 1) := by decide +kernel
theorem dX6_relative_22 : decode cX6_relative 22 = .ok (.iload_n 1, 1) := by decide +kernel
theorem dX6_relative_23 : decode cX6_relative 23 = .ok (.iload_n 3, 1) := by decide +kernel
theorem dX6_relative_24 : decode cX6_relative 24 = .ok (.invokevirtual 246, 3) := by decide +kernel
theorem dX6_relative_27 : decode cX6_relative 27 = .ok (.aload_n 0, 1) := by decide +kernel
theorem dX6_relative_28 : decode cX6_relative 28 = .ok (.iload_n 2, 1) := by decide +kernel
theorem dX6_relative_29 : decode cX6_relative 29 = .ok (.iload 4, 2) := by decide +kernel
theorem dX6_relative_31 : decode cX6_relative 31 = .ok (.invokevirtual 246, 3) := by decide +kernel
theorem dX6_relative_34 : decode cX6_relative 34 = .ok (.lmul, 1) := by decide +kernel
theorem dX6_relative_35 : decode cX6_relative 35 = .ok (.lstore 5, 2) := by decide +kernel
theorem dX6_relative_37 : decode cX6_relative 37 = .ok (.aload_n 0, 1) := by decide +kernel
theorem dX6_relative_38 : decode cX6_relative 38 = .ok (.iload_n 1, 1) := by decide +kernel
theorem dX6_relative_39 : decode cX6_relative 39 = .ok (.iload 4, 2) := by decide +kernel
theorem dX6_relative_41 : decode cX6_relative 41 = .ok (.invokevirtual 246, 3) := by decide +kernel
theorem dX6_relative_44 : decode cX6_relative 44 = .ok (.aload_n 0, 1) := by decide +kernel
theorem dX6_relative_45 : decode cX6_relative 45 = .ok (.iload_n 2, 1) := by decide +kernel
theorem dX6_relative_46 : decode cX6_relative 46 = .ok (.iload_n 3, 1) := by decide +kernel
theorem dX6_relative_47 : decode cX6_relative 47 = .ok (.invokevirtual 246, 3) := by decide +kernel
theorem dX6_relative_50 : decode cX6_relative 50 = .ok (.lmul, 1) := by decide +kernel
theorem dX6_relative_51 : decode cX6_relative 51 = .ok (.lstore 7, 2) := by decide +kernel
theorem dX6_relative_53 : decode cX6_relative 53 = .ok (.lload 5, 2) := by decide +kernel
theorem dX6_relative_55 : decode cX6_relative 55 = .ok (.lload 7, 2) := by decide +kernel
theorem dX6_relative_57 : decode cX6_relative 57 = .ok (.lsub, 1) := by decide +kernel
theorem dX6_relative_58 : decode cX6_relative 58 = .ok (.lstore 9, 2) := by decide +kernel
theorem dX6_relative_60 : decode cX6_relative 60 = .ok (.lload 9, 2) := by decide +kernel
theorem dX6_relative_62 : decode cX6_relative 62 = .ok (.lconst 0, 1) := by decide +kernel
theorem dX6_relative_63 : decode cX6_relative 63 = .ok (.lcmp, 1) := by decide +kernel
theorem dX6_relative_64 : decode cX6_relative 64 = .ok (.ifCond .ne 8, 3) := by decide +kernel
theorem dX6_relative_67 : decode cX6_relative 67 = .ok (.ldc 250, 2) := by decide +kernel
theorem dX6_relative_69 : decode cX6_relative 69 = .ok (.goto 13, 3) := by decide +kernel
theorem dX6_relative_72 : decode cX6_relative 72 = .ok (.ldc2_w 251, 3) := by decide +kernel
theorem dX6_relative_75 : decode cX6_relative 75 = .ok (.lload 5, 2) := by decide +kernel
theorem dX6_relative_77 : decode cX6_relative 77 = .ok (.lmul, 1) := by decide +kernel
theorem dX6_relative_78 : decode cX6_relative 78 = .ok (.lload 9, 2) := by decide +kernel
theorem dX6_relative_80 : decode cX6_relative 80 = .ok (.ldiv, 1) := by decide +kernel
theorem dX6_relative_81 : decode cX6_relative 81 = .ok (.l2i, 1) := by decide +kernel
theorem dX6_relative_82 : decode cX6_relative 82 = .ok (.ireturn, 1) := by decide +kernel
theorem dX6_now_0 : decode cX6_now 0 = .ok (.aload_n 0, 1) := by decide +kernel
theorem dX6_now_1 : decode cX6_now 1 = .ok (.getfield 54, 3) := by decide +kernel
theorem dX6_now_4 : decode cX6_now 4 = .ok (.ireturn, 1) := by decide +kernel
set_option maxRecDepth 20000 in
theorem ggX6_needUnit_X5_count : GoodIn wsX6_needUnit wsX5_count := goodIn_r _ [8, 9, 23, 24, 25, 26, 27, 28, 29, 30, 31] (by decide +kernel) (by decide +kernel)
set_option maxRecDepth 20000 in
theorem gX6_needUnit_X5_count : GoodIn wsX6_needUnit (wsV RX6 253 RX5 yX5_count wsX5_count) := goodIn_app (goodIn_of _ (by decide +kernel)) ggX6_needUnit_X5_count
set_option maxRecDepth 20000 in
theorem ggX6_needUnit_X6_isOutside : GoodIn wsX6_needUnit wsX6_isOutside := goodIn_r _ [13] (by decide +kernel) (by decide +kernel)
set_option maxRecDepth 20000 in
theorem gX6_needUnit_X6_isOutside : GoodIn wsX6_needUnit (va_wsS RX6 62 yX6_isOutside wsX6_isOutside) := goodIn_app (goodIn_of _ (by decide +kernel)) ggX6_needUnit_X6_isOutside
theorem dX6_needUnit_0 : decode cX6_needUnit 0 = .ok (.iload_n 1, 1) := by decide +kernel
theorem dX6_needUnit_1 : decode cX6_needUnit 1 = .ok (.iconst 0, 1) := by decide +kernel
theorem dX6_needUnit_2 : decode cX6_needUnit 2 = .ok (.aload_n 0, 1) := by decide +kernel
theorem dX6_needUnit_3 : decode cX6_needUnit 3 = .ok (.getfield 22, 3) := by decide +kernel
theorem dX6_needUnit_6 : decode cX6_needUnit 6 = .ok (.invokevirtual 253, 3) := by decide +kernel
theorem dX6_needUnit_9 : decode cX6_needUnit 9 = .ok (.iconst 1, 1) := by decide +kernel
theorem dX6_needUnit_10 : decode cX6_needUnit 10 = .ok (.isub, 1) := by decide +kernel
theorem dX6_needUnit_11 : decode cX6_needUnit 11 = .ok (.invokestatic 62, 3) := by decide +kernel
theorem dX6_needUnit_14 : decode cX6_needUnit 14 = .ok (.ifCond .eq 13, 3) := by decide +kernel
theorem dX6_needUnit_17 : decode cX6_needUnit 17 = .ok (.new 221, 3) := by decide +kernel
theorem dX6_needUnit_20 : decode cX6_needUnit 20 = .ok (.dup, 1) := by decide +kernel
theorem dX6_needUnit_21 : decode cX6_needUnit 21 = .ok (.ldc 254, 2) := by decide +kernel
theorem dX6_needUnit_23 : decode cX6_needUnit 23 = .ok (.invokespecial 225, 3) := by decide +kernel
theorem dX6_needUnit_26 : decode cX6_needUnit 26 = .ok (.athrow, 1) := by decide +kernel
theorem dX6_needUnit_27 : decode cX6_needUnit 27 = .ok (.return_, 1) := by decide +kernel
set_option maxRecDepth 20000 in
theorem ggX6_needStream_X5_count : GoodIn wsX6_needStream wsX5_count := goodIn_r _ [8, 9, 23, 24, 25, 26, 27, 28, 29, 30, 31] (by decide +kernel) (by decide +kernel)
set_option maxRecDepth 20000 in
theorem gX6_needStream_X5_count : GoodIn wsX6_needStream (wsV RX6 253 RX5 yX5_count wsX5_count) := goodIn_app (goodIn_of _ (by decide +kernel)) ggX6_needStream_X5_count
set_option maxRecDepth 20000 in
theorem ggX6_needStream_X6_isOutside : GoodIn wsX6_needStream wsX6_isOutside := goodIn_r _ [13] (by decide +kernel) (by decide +kernel)
set_option maxRecDepth 20000 in
theorem gX6_needStream_X6_isOutside : GoodIn wsX6_needStream (va_wsS RX6 62 yX6_isOutside wsX6_isOutside) := goodIn_app (goodIn_of _ (by decide +kernel)) ggX6_needStream_X6_isOutside
theorem dX6_needStream_0 : decode cX6_needStream 0 = .ok (.iload_n 1, 1) := by decide +kernel
theorem dX6_needStream_1 : decode cX6_needStream 1 = .ok (.iconst 0, 1) := by decide +kernel
theorem dX6_needStream_2 : decode cX6_needStream 2 = .ok (.iconst 2, 1) := by decide +kernel
theorem dX6_needStream_3 : decode cX6_needStream 3 = .ok (.aload_n 0, 1) := by decide +kernel
theorem dX6_needStream_4 : decode cX6_needStream 4 = .ok (.getfield 22, 3) := by decide +kernel
theorem dX6_needStream_7 : decode cX6_needStream 7 = .ok (.invokevirtual 253, 3) := by decide +kernel
theorem dX6_needStream_10 : decode cX6_needStream 10 = .ok (.imul, 1) := by decide +kernel
theorem dX6_needStream_11 : decode cX6_needStream 11 = .ok (.iconst 1, 1) := by decide +kernel
theorem dX6_needStream_12 : decode cX6_needStream 12 = .ok (.isub, 1) := by decide +kernel
theorem dX6_needStream_13 : decode cX6_needStream 13 = .ok (.invokestatic 62, 3) := by decide +kernel
theorem dX6_needStream_16 : decode cX6_needStream 16 = .ok (.ifCond .eq 14, 3) := by decide +kernel
theorem dX6_needStream_19 : decode cX6_needStream 19 = .ok (.new 221, 3) := by decide +kernel
theorem dX6_needStream_22 : decode cX6_needStream 22 = .ok (.dup, 1) := by decide +kernel
theorem dX6_needStream_23 : decode cX6_needStream 23 = .ok (.ldc_w 256, 3) := by decide +kernel
theorem dX6_needStream_26 : decode cX6_needStream 26 = .ok (.invokespecial 225, 3) := by decide +kernel
theorem dX6_needStream_29 : decode cX6_needStream 29 = .ok (.athrow, 1) := by decide +kernel
theorem dX6_needStream_30 : decode cX6_needStream 30 = .ok (.return_, 1) := by decide +kernel
set_option maxRecDepth 20000 in
theorem ggX6_needStreamForNewUnit_X5_count : GoodIn wsX6_needStreamForNewUnit wsX5_count := goodIn_r _ [8, 9, 23, 24, 25, 26, 27, 28, 29, 30, 31] (by decide +kernel) (by decide +kernel)
set_option maxRecDepth 20000 in
theorem gX6_needStreamForNewUnit_X5_count : GoodIn wsX6_needStreamForNewUnit (wsV RX6 253 RX5 yX5_count wsX5_count) := goodIn_app (goodIn_of _ (by decide +kernel)) ggX6_needStreamForNewUnit_X5_count
set_option maxRecDepth 20000 in
theorem ggX6_needStreamForNewUnit_X6_isOutside : GoodIn wsX6_needStreamForNewUnit wsX6_isOutside := goodIn_r _ [13] (by decide +kernel) (by decide +kernel)
set_option maxRecDepth 20000 in
theorem gX6_needStreamForNewUnit_X6_isOutside : GoodIn wsX6_needStreamForNewUnit (va_wsS RX6 62 yX6_isOutside wsX6_isOutside) := goodIn_app (goodIn_of _ (by decide +kernel)) ggX6_needStreamForNewUnit_X6_isOutside
theorem dX6_needStreamForNewUnit_0 : decode cX6_needStreamForNewUnit 0 = .ok (.iload_n 1, 1) := by decide +kernel
theorem dX6_needStreamForNewUnit_1 : decode cX6_needStreamForNewUnit 1 = .ok (.iconst 0, 1) := by decide +kernel
theorem dX6_needStreamForNewUnit_2 : decode cX6_needStreamForNewUnit 2 = .ok (.iconst 2, 1) := by decide +kernel
theorem dX6_needStreamForNewUnit_3 : decode cX6_needStreamForNewUnit 3 = .ok (.aload_n 0, 1) := by decide +kernel
theorem dX6_needStreamForNewUnit_4 : decode cX6_needStreamForNewUnit 4 = .ok (.getfield 22, 3) := by decide +kernel
theorem dX6_needStreamForNewUnit_7 : decode cX6_needStreamForNewUnit 7 = .ok (.invokevirtual 253, 3) := by decide +kernel
theorem dX6_needStreamForNewUnit_10 : decode cX6_needStreamForNewUnit 10 = .ok (.imul, 1) := by decide +kernel
theorem dX6_needStreamForNewUnit_11 : decode cX6_needStreamForNewUnit 11 = .ok (.iconst 1, 1) := by decide +kernel
theorem dX6_needStreamForNewUnit_12 : decode cX6_needStreamForNewUnit 12 = .ok (.iadd, 1) := by decide +kernel
theorem dX6_needStreamForNewUnit_13 : decode cX6_needStreamForNewUnit 13 = .ok (.invokestatic 62, 3) := by decide +kernel
theorem dX6_needStreamForNewUnit_16 : decode cX6_needStreamForNewUnit 16 = .ok (.ifCond .eq 14, 3) := by decide +kernel
theorem dX6_needStreamForNewUnit_19 : decode cX6_needStreamForNewUnit 19 = .ok (.new 221, 3) := by decide +kernel
theorem dX6_needStreamForNewUnit_22 : decode cX6_needStreamForNewUnit 22 = .ok (.dup, 1) := by decide +kernel
theorem dX6_needStreamForNewUnit_23 : decode cX6_needStreamForNewUnit 23 = .ok (.ldc_w 258, 3) := by decide +kernel
theorem dX6_needStreamForNewUnit_26 : decode cX6_needStreamForNewUnit 26 = .ok (.invokespecial 225, 3) := by decide +kernel
theorem dX6_needStreamForNewUnit_29 : decode cX6_needStreamForNewUnit 29 = .ok (.athrow, 1) := by decide +kernel
theorem dX6_needStreamForNewUnit_30 : decode cX6_needStreamForNewUnit 30 = .ok (.return_, 1) := by decide +kernel
set_option maxRecDepth 20000 in
theorem ggX6_needFreeStream_X5_isTaken : GoodIn wsX6_needFreeStream wsX5_isTaken := goodIn_r _ [8, 9, 10, 11, 12, 13, 23, 24, 25, 26, 27, 28, 29, 30, 31] (by decide +kernel) (by decide +kernel)
set_option maxRecDepth 20000 in
theorem gX6_needFreeStream_X5_isTaken : GoodIn wsX6_needFreeStream (wsV RX6 260 RX5 yX5_isTaken wsX5_isTaken) := goodIn_app (goodIn_of _ (by decide +kernel)) ggX6_needFreeStream_X5_isTaken
theorem dX6_needFreeStream_0 : decode cX6_needFreeStream 0 = .ok (.aload_n 0, 1) := by decide +kernel
theorem dX6_needFreeStream_1 : decode cX6_needFreeStream 1 = .ok (.getfield 22, 3) := by decide +kernel
theorem dX6_needFreeStream_4 : decode cX6_needFreeStream 4 = .ok (.iload_n 1, 1) := by decide +kernel
theorem dX6_needFreeStream_5 : decode cX6_needFreeStream 5 = .ok (.invokevirtual 260, 3) := by decide +kernel
theorem dX6_needFreeStream_8 : decode cX6_needFreeStream 8 = .ok (.ifCond .eq 14, 3) := by decide +kernel
theorem dX6_needFreeStream_11 : decode cX6_needFreeStream 11 = .ok (.new 90, 3) := by decide +kernel
theorem dX6_needFreeStream_14 : decode cX6_needFreeStream 14 = .ok (.dup, 1) := by decide +kernel
theorem dX6_needFreeStream_15 : decode cX6_needFreeStream 15 = .ok (.ldc_w 263, 3) := by decide +kernel
theorem dX6_needFreeStream_18 : decode cX6_needFreeStream 18 = .ok (.invokespecial 94, 3) := by decide +kernel
theorem dX6_needFreeStream_21 : decode cX6_needFreeStream 21 = .ok (.athrow, 1) := by decide +kernel
theorem dX6_needFreeStream_22 : decode cX6_needFreeStream 22 = .ok (.return_, 1) := by decide +kernel
set_option maxRecDepth 20000 in
theorem ggX6_needRoomForUnit_X5_count : GoodIn wsX6_needRoomForUnit wsX5_count := goodIn_r _ [8, 9, 25, 26, 27, 28, 29, 30, 31, 32, 33] (by decide +kernel) (by decide +kernel)
set_option maxRecDepth 20000 in
theorem gX6_needRoomForUnit_X5_count : GoodIn wsX6_needRoomForUnit (wsV RX6 253 RX5 yX5_count wsX5_count) := goodIn_app (goodIn_of _ (by decide +kernel)) ggX6_needRoomForUnit_X5_count
set_option maxRecDepth 20000 in
theorem ggX6_needRoomForUnit_X6_needNoTickGone : GoodIn wsX6_needRoomForUnit wsX6_needNoTickGone := goodIn_ca (goodIn_r _ [14, 1, 2, 15, 16, 17, 18, 19, 20, 21, 22, 23, 24] (by decide +kernel) (by decide +kernel)) (goodIn_sub (fun _ h => List.mem_cons_of_mem _ (List.mem_append_right _ h)) (by decide +kernel))
set_option maxRecDepth 20000 in
theorem gX6_needRoomForUnit_X6_needNoTickGone : GoodIn wsX6_needRoomForUnit (wsV RX6 116 RX6 yX6_needNoTickGone wsX6_needNoTickGone) := goodIn_app (goodIn_of _ (by decide +kernel)) ggX6_needRoomForUnit_X6_needNoTickGone
theorem dX6_needRoomForUnit_0 : decode cX6_needRoomForUnit 0 = .ok (.aload_n 0, 1) := by decide +kernel
theorem dX6_needRoomForUnit_1 : decode cX6_needRoomForUnit 1 = .ok (.getfield 22, 3) := by decide +kernel
theorem dX6_needRoomForUnit_4 : decode cX6_needRoomForUnit 4 = .ok (.invokevirtual 253, 3) := by decide +kernel
theorem dX6_needRoomForUnit_7 : decode cX6_needRoomForUnit 7 = .ok (.bipush 12, 2) := by decide +kernel
theorem dX6_needRoomForUnit_9 : decode cX6_needRoomForUnit 9 = .ok (.if_icmp .lt 14, 3) := by decide +kernel
theorem dX6_needRoomForUnit_12 : decode cX6_needRoomForUnit 12 = .ok (.new 90, 3) := by decide +kernel
theorem dX6_needRoomForUnit_15 : decode cX6_needRoomForUnit 15 = .ok (.dup, 1) := by decide +kernel
theorem dX6_needRoomForUnit_16 : decode cX6_needRoomForUnit 16 = .ok (.ldc_w 265, 3) := by decide +kernel
theorem dX6_needRoomForUnit_19 : decode cX6_needRoomForUnit 19 = .ok (.invokespecial 94, 3) := by decide +kernel
theorem dX6_needRoomForUnit_22 : decode cX6_needRoomForUnit 22 = .ok (.athrow, 1) := by decide +kernel
theorem dX6_needRoomForUnit_23 : decode cX6_needRoomForUnit 23 = .ok (.aload_n 0, 1) := by decide +kernel
theorem dX6_needRoomForUnit_24 : decode cX6_needRoomForUnit 24 = .ok (.invokevirtual 116, 3) := by decide +kernel
theorem dX6_needRoomForUnit_27 : decode cX6_needRoomForUnit 27 = .ok (.return_, 1) := by decide +kernel
theorem dX6_needNoTickGone_0 : decode cX6_needNoTickGone 0 = .ok (.aload_n 0, 1) := by decide +kernel
theorem dX6_needNoTickGone_1 : decode cX6_needNoTickGone 1 = .ok (.getfield 54, 3) := by decide +kernel
theorem dX6_needNoTickGone_4 : decode cX6_needNoTickGone 4 = .ok (.ifCond .le 14, 3) := by decide +kernel
theorem dX6_needNoTickGone_7 : decode cX6_needNoTickGone 7 = .ok (.new 90, 3) := by decide +kernel
theorem dX6_needNoTickGone_10 : decode cX6_needNoTickGone 10 = .ok (.dup, 1) := by decide +kernel
theorem dX6_needNoTickGone_11 : decode cX6_needNoTickGone 11 = .ok (.ldc_w 267, 3) := by decide +kernel
theorem dX6_needNoTickGone_14 : decode cX6_needNoTickGone 14 = .ok (.invokespecial 94, 3) := by decide +kernel
theorem dX6_needNoTickGone_17 : decode cX6_needNoTickGone 17 = .ok (.athrow, 1) := by decide +kernel
theorem dX6_needNoTickGone_18 : decode cX6_needNoTickGone 18 = .ok (.return_, 1) := by decide +kernel
set_option maxRecDepth 20000 in
theorem ggX6_needNumberOf_X5_kindOf : GoodIn wsX6_needNumberOf wsX5_kindOf := goodIn_r _ [8, 9, 10, 11, 12, 7, 13, 14, 35, 36, 37, 38, 39, 40, 41, 42, 43] (by decide +kernel) (by decide +kernel)
set_option maxRecDepth 20000 in
theorem gX6_needNumberOf_X5_kindOf : GoodIn wsX6_needNumberOf (wsV RX6 110 RX5 yX5_kindOf wsX5_kindOf) := goodIn_app (goodIn_of _ (by decide +kernel)) ggX6_needNumberOf_X5_kindOf
set_option maxRecDepth 20000 in
theorem ggX6_needNumberOf_X6_isNumberOf : GoodIn wsX6_needNumberOf wsX6_isNumberOf := goodIn_r _ [18, 19, 20, 17, 21, 22, 23, 24, 25] (by decide +kernel) (by decide +kernel)
set_option maxRecDepth 20000 in
theorem gX6_needNumberOf_X6_isNumberOf : GoodIn wsX6_needNumberOf (va_wsS RX6 86 yX6_isNumberOf wsX6_isNumberOf) := goodIn_app (goodIn_of _ (by decide +kernel)) ggX6_needNumberOf_X6_isNumberOf
theorem dX6_needNumberOf_0 : decode cX6_needNumberOf 0 = .ok (.aload_n 0, 1) := by decide +kernel
theorem dX6_needNumberOf_1 : decode cX6_needNumberOf 1 = .ok (.getfield 22, 3) := by decide +kernel
theorem dX6_needNumberOf_4 : decode cX6_needNumberOf 4 = .ok (.iload_n 1, 1) := by decide +kernel
theorem dX6_needNumberOf_5 : decode cX6_needNumberOf 5 = .ok (.invokevirtual 110, 3) := by decide +kernel
theorem dX6_needNumberOf_8 : decode cX6_needNumberOf 8 = .ok (.iload_n 2, 1) := by decide +kernel
theorem dX6_needNumberOf_9 : decode cX6_needNumberOf 9 = .ok (.invokestatic 86, 3) := by decide +kernel
theorem dX6_needNumberOf_12 : decode cX6_needNumberOf 12 = .ok (.ifCond .ne 13, 3) := by decide +kernel
theorem dX6_needNumberOf_15 : decode cX6_needNumberOf 15 = .ok (.new 66, 3) := by decide +kernel
theorem dX6_needNumberOf_18 : decode cX6_needNumberOf 18 = .ok (.dup, 1) := by decide +kernel
theorem dX6_needNumberOf_19 : decode cX6_needNumberOf 19 = .ok (.ldc 92, 2) := by decide +kernel
theorem dX6_needNumberOf_21 : decode cX6_needNumberOf 21 = .ok (.invokespecial 70, 3) := by decide +kernel
theorem dX6_needNumberOf_24 : decode cX6_needNumberOf 24 = .ok (.athrow, 1) := by decide +kernel
theorem dX6_needNumberOf_25 : decode cX6_needNumberOf 25 = .ok (.return_, 1) := by decide +kernel
set_option maxRecDepth 20000 in
theorem ggX6_needController_X1_count : GoodIn wsX6_needController wsX1_count := goodIn_r _ [8, 9, 23, 24, 25, 26, 27, 28, 29, 30, 31, 32, 33, 34, 35, 36, 37] (by decide +kernel) (by decide +kernel)
set_option maxRecDepth 20000 in
theorem gX6_needController_X1_count : GoodIn wsX6_needController (wsV RX6 269 RX1 yX1_count wsX1_count) := goodIn_app (goodIn_of _ (by decide +kernel)) ggX6_needController_X1_count
set_option maxRecDepth 20000 in
theorem ggX6_needController_X6_isOutside : GoodIn wsX6_needController wsX6_isOutside := goodIn_r _ [13] (by decide +kernel) (by decide +kernel)
set_option maxRecDepth 20000 in
theorem gX6_needController_X6_isOutside : GoodIn wsX6_needController (va_wsS RX6 62 yX6_isOutside wsX6_isOutside) := goodIn_app (goodIn_of _ (by decide +kernel)) ggX6_needController_X6_isOutside
theorem dX6_needController_0 : decode cX6_needController 0 = .ok (.iload_n 1, 1) := by decide +kernel
theorem dX6_needController_1 : decode cX6_needController 1 = .ok (.iconst 0, 1) := by decide +kernel
theorem dX6_needController_2 : decode cX6_needController 2 = .ok (.aload_n 0, 1) := by decide +kernel
theorem dX6_needController_3 : decode cX6_needController 3 = .ok (.getfield 29, 3) := by decide +kernel
theorem dX6_needController_6 : decode cX6_needController 6 = .ok (.invokevirtual 269, 3) := by decide +kernel
theorem dX6_needController_9 : decode cX6_needController 9 = .ok (.iconst 1, 1) := by decide +kernel
theorem dX6_needController_10 : decode cX6_needController 10 = .ok (.isub, 1) := by decide +kernel
theorem dX6_needController_11 : decode cX6_needController 11 = .ok (.invokestatic 62, 3) := by decide +kernel
theorem dX6_needController_14 : decode cX6_needController 14 = .ok (.ifCond .eq 14, 3) := by decide +kernel
theorem dX6_needController_17 : decode cX6_needController 17 = .ok (.new 221, 3) := by decide +kernel
theorem dX6_needController_20 : decode cX6_needController 20 = .ok (.dup, 1) := by decide +kernel
theorem dX6_needController_21 : decode cX6_needController 21 = .ok (.ldc_w 270, 3) := by decide +kernel
theorem dX6_needController_24 : decode cX6_needController 24 = .ok (.invokespecial 225, 3) := by decide +kernel
theorem dX6_needController_27 : decode cX6_needController 27 = .ok (.athrow, 1) := by decide +kernel
theorem dX6_needController_28 : decode cX6_needController 28 = .ok (.return_, 1) := by decide +kernel
set_option maxRecDepth 20000 in
theorem ggX6_needHigherController_X1_count : GoodIn wsX6_needHigherController wsX1_count := goodIn_r _ [8, 9, 23, 24, 25, 26, 27, 28, 29, 30, 31, 32, 33, 34, 35, 36, 37] (by decide +kernel) (by decide +kernel)
set_option maxRecDepth 20000 in
theorem gX6_needHigherController_X1_count : GoodIn wsX6_needHigherController (wsV RX6 269 RX1 yX1_count wsX1_count) := goodIn_app (goodIn_of _ (by decide +kernel)) ggX6_needHigherController_X1_count
set_option maxRecDepth 20000 in
theorem ggX6_needHigherController_X6_isOutside : GoodIn wsX6_needHigherController wsX6_isOutside := goodIn_r _ [13] (by decide +kernel) (by decide +kernel)
set_option maxRecDepth 20000 in
theorem gX6_needHigherController_X6_isOutside : GoodIn wsX6_needHigherController (va_wsS RX6 62 yX6_isOutside wsX6_isOutside) := goodIn_app (goodIn_of _ (by decide +kernel)) ggX6_needHigherController_X6_isOutside
theorem dX6_needHigherController_0 : decode cX6_needHigherController 0 = .ok (.iload_n 1, 1) := by decide +kernel
theorem dX6_needHigherController_1 : decode cX6_needHigherController 1 = .ok (.aload_n 0, 1) := by decide +kernel
theorem dX6_needHigherController_2 : decode cX6_needHigherController 2 = .ok (.getfield 29, 3) := by decide +kernel
theorem dX6_needHigherController_5 : decode cX6_needHigherController 5 = .ok (.invokevirtual 269, 3) := by decide +kernel
theorem dX6_needHigherController_8 : decode cX6_needHigherController 8 = .ok (.iconst 1, 1) := by decide +kernel
theorem dX6_needHigherController_9 : decode cX6_needHigherController 9 = .ok (.iadd, 1) := by decide +kernel
theorem dX6_needHigherController_10 : decode cX6_needHigherController 10 = .ok (.iconst 5, 1) := by decide +kernel
theorem dX6_needHigherController_11 : decode cX6_needHigherController 11 = .ok (.invokestatic 62, 3) := by decide +kernel
theorem dX6_needHigherController_14 : decode cX6_needHigherController 14 = .ok (.ifCond .eq 14, 3) := by decide +kernel
theorem dX6_needHigherController_17 : decode cX6_needHigherController 17 = .ok (.new 221, 3) := by decide +kernel
theorem dX6_needHigherController_20 : decode cX6_needHigherController 20 = .ok (.dup, 1) := by decide +kernel
theorem dX6_needHigherController_21 : decode cX6_needHigherController 21 = .ok (.ldc_w 272, 3) := by decide +kernel
theorem dX6_needHigherController_24 : decode cX6_needHigherController 24 = .ok (.invokespecial 225, 3) := by decide +kernel
theorem dX6_needHigherController_27 : decode cX6_needHigherController 27 = .ok (.athrow, 1) := by decide +kernel
theorem dX6_needHigherController_28 : decode cX6_needHigherController 28 = .ok (.return_, 1) := by decide +kernel
set_option maxRecDepth 20000 in
theorem ggX6_needMeasuring_X1_isMeasuring : GoodIn wsX6_needMeasuring wsX1_isMeasuring := goodIn_r _ [8, 9, 10, 11, 12, 7, 13, 14, 24, 25, 26, 27, 28, 29, 30, 31, 32, 33, 34, 35, 36, 37, 38] (by decide +kernel) (by decide +kernel)
set_option maxRecDepth 20000 in
theorem gX6_needMeasuring_X1_isMeasuring : GoodIn wsX6_needMeasuring (wsV RX6 274 RX1 yX1_isMeasuring wsX1_isMeasuring) := goodIn_app (goodIn_of _ (by decide +kernel)) ggX6_needMeasuring_X1_isMeasuring
theorem dX6_needMeasuring_0 : decode cX6_needMeasuring 0 = .ok (.aload_n 0, 1) := by decide +kernel
theorem dX6_needMeasuring_1 : decode cX6_needMeasuring 1 = .ok (.getfield 29, 3) := by decide +kernel
theorem dX6_needMeasuring_4 : decode cX6_needMeasuring 4 = .ok (.iload_n 1, 1) := by decide +kernel
theorem dX6_needMeasuring_5 : decode cX6_needMeasuring 5 = .ok (.invokevirtual 274, 3) := by decide +kernel
theorem dX6_needMeasuring_8 : decode cX6_needMeasuring 8 = .ok (.ifCond .ne 14, 3) := by decide +kernel
theorem dX6_needMeasuring_11 : decode cX6_needMeasuring 11 = .ok (.new 90, 3) := by decide +kernel
theorem dX6_needMeasuring_14 : decode cX6_needMeasuring 14 = .ok (.dup, 1) := by decide +kernel
theorem dX6_needMeasuring_15 : decode cX6_needMeasuring 15 = .ok (.ldc_w 277, 3) := by decide +kernel
theorem dX6_needMeasuring_18 : decode cX6_needMeasuring 18 = .ok (.invokespecial 94, 3) := by decide +kernel
theorem dX6_needMeasuring_21 : decode cX6_needMeasuring 21 = .ok (.athrow, 1) := by decide +kernel
theorem dX6_needMeasuring_22 : decode cX6_needMeasuring 22 = .ok (.return_, 1) := by decide +kernel
set_option maxRecDepth 20000 in
theorem ggX6_needNoMix_X5_kindOf : GoodIn wsX6_needNoMix wsX5_kindOf := goodIn_r _ [8, 9, 10, 11, 12, 7, 13, 14, 24, 25, 26, 27, 28, 29, 30, 31, 32] (by decide +kernel) (by decide +kernel)
set_option maxRecDepth 20000 in
theorem gX6_needNoMix_X5_kindOf : GoodIn wsX6_needNoMix (wsV RX6 110 RX5 yX5_kindOf wsX5_kindOf) := goodIn_app (goodIn_of _ (by decide +kernel)) ggX6_needNoMix_X5_kindOf
theorem dX6_needNoMix_0 : decode cX6_needNoMix 0 = .ok (.aload_n 0, 1) := by decide +kernel
theorem dX6_needNoMix_1 : decode cX6_needNoMix 1 = .ok (.getfield 22, 3) := by decide +kernel
theorem dX6_needNoMix_4 : decode cX6_needNoMix 4 = .ok (.iload_n 1, 1) := by decide +kernel
theorem dX6_needNoMix_5 : decode cX6_needNoMix 5 = .ok (.invokevirtual 110, 3) := by decide +kernel
theorem dX6_needNoMix_8 : decode cX6_needNoMix 8 = .ok (.iconst 2, 1) := by decide +kernel
theorem dX6_needNoMix_9 : decode cX6_needNoMix 9 = .ok (.if_icmp .ne 14, 3) := by decide +kernel
theorem dX6_needNoMix_12 : decode cX6_needNoMix 12 = .ok (.new 66, 3) := by decide +kernel
theorem dX6_needNoMix_15 : decode cX6_needNoMix 15 = .ok (.dup, 1) := by decide +kernel
theorem dX6_needNoMix_16 : decode cX6_needNoMix 16 = .ok (.ldc_w 279, 3) := by decide +kernel
theorem dX6_needNoMix_19 : decode cX6_needNoMix 19 = .ok (.invokespecial 70, 3) := by decide +kernel
theorem dX6_needNoMix_22 : decode cX6_needNoMix 22 = .ok (.athrow, 1) := by decide +kernel
theorem dX6_needNoMix_23 : decode cX6_needNoMix 23 = .ok (.return_, 1) := by decide +kernel
set_option maxRecDepth 20000 in
theorem ggX6_needRoomForController_X1_count : GoodIn wsX6_needRoomForController wsX1_count := goodIn_r _ [8, 9, 19, 20, 21, 22, 23, 24, 25, 26, 27, 28, 29, 30, 31, 32, 33] (by decide +kernel) (by decide +kernel)
set_option maxRecDepth 20000 in
theorem gX6_needRoomForController_X1_count : GoodIn wsX6_needRoomForController (wsV RX6 269 RX1 yX1_count wsX1_count) := goodIn_app (goodIn_of _ (by decide +kernel)) ggX6_needRoomForController_X1_count
theorem dX6_needRoomForController_0 : decode cX6_needRoomForController 0 = .ok (.aload_n 0, 1) := by decide +kernel
theorem dX6_needRoomForController_1 : decode cX6_needRoomForController 1 = .ok (.getfield 29, 3) := by decide +kernel
theorem dX6_needRoomForController_4 : decode cX6_needRoomForController 4 = .ok (.invokevirtual 269, 3) := by decide +kernel
theorem dX6_needRoomForController_7 : decode cX6_needRoomForController 7 = .ok (.bipush 6, 2) := by decide +kernel
theorem dX6_needRoomForController_9 : decode cX6_needRoomForController 9 = .ok (.if_icmp .lt 14, 3) := by decide +kernel
theorem dX6_needRoomForController_12 : decode cX6_needRoomForController 12 = .ok (.new 90, 3) := by decide +kernel
theorem dX6_needRoomForController_15 : decode cX6_needRoomForController 15 = .ok (.dup, 1) := by decide +kernel
theorem dX6_needRoomForController_16 : decode cX6_needRoomForController 16 = .ok (.ldc_w 281, 3) := by decide +kernel
theorem dX6_needRoomForController_19 : decode cX6_needRoomForController 19 = .ok (.invokespecial 94, 3) := by decide +kernel
theorem dX6_needRoomForController_22 : decode cX6_needRoomForController 22 = .ok (.athrow, 1) := by decide +kernel
theorem dX6_needRoomForController_23 : decode cX6_needRoomForController 23 = .ok (.return_, 1) := by decide +kernel
set_option maxRecDepth 20000 in
theorem ggX6_letOneTickGoBy_X5_heatHeldOver : GoodIn wsX6_letOneTickGoBy wsX5_heatHeldOver := goodIn_r _ [13, 14, 15, 16, 17, 18, 19, 20, 21, 22, 23, 226, 227, 228, 229, 230, 231, 232, 233, 234, 235, 236] (by decide +kernel) (by decide +kernel)
set_option maxRecDepth 20000 in
theorem gX6_letOneTickGoBy_X5_heatHeldOver : GoodIn wsX6_letOneTickGoBy (wsV RX6 229 RX5 yX5_heatHeldOver wsX5_heatHeldOver) := goodIn_app (goodIn_of _ (by decide +kernel)) ggX6_letOneTickGoBy_X5_heatHeldOver
set_option maxRecDepth 20000 in
theorem ggX6_letOneTickGoBy_X2_playInto : GoodIn wsX6_letOneTickGoBy wsX2_playInto := goodIn_r _ [28, 29, 30, 31, 32, 33, 34, 35, 12, 36, 37, 38, 39, 40, 41, 42, 43, 44, 45, 27, 46, 237, 238, 239, 240, 226, 227, 228, 229, 230, 231, 232, 233, 234] (by decide +kernel) (by decide +kernel)
set_option maxRecDepth 20000 in
theorem gX6_letOneTickGoBy_X2_playInto : GoodIn wsX6_letOneTickGoBy (wsV RX6 283 RX2 yX2_playInto wsX2_playInto) := goodIn_app (goodIn_of _ (by decide +kernel)) ggX6_letOneTickGoBy_X2_playInto
set_option maxRecDepth 20000 in
theorem ggX6_letOneTickGoBy_X1_work : GoodIn wsX6_letOneTickGoBy wsX1_work := goodIn_r _ [51, 52, 53, 54, 55, 56, 57, 58, 59, 60, 50, 61, 62, 63, 64, 65, 66, 67, 68, 69, 70, 71, 72, 73, 18, 74, 75, 76, 20, 21, 22, 23, 77, 78, 79, 80, 81, 82, 83, 84, 85, 86, 87, 88, 89, 90, 91, 92, 93, 94, 95, 96, 97, 98, 99, 100, 101, 102, 103, 104, 105, 106, 107, 108, 109, 110, 111, 112, 113, 114, 115, 116, 117, 118, 119, 120, 241, 242, 243, 244, 245, 246, 247, 248, 249, 250, 251, 252, 253, 254, 255, 235, 236, 256, 257, 258] (by decide +kernel) (by decide +kernel)
set_option maxRecDepth 20000 in
theorem gX6_letOneTickGoBy_X1_work : GoodIn wsX6_letOneTickGoBy (wsV RX6 287 RX1 yX1_work wsX1_work) := goodIn_app (goodIn_of _ (by decide +kernel)) ggX6_letOneTickGoBy_X1_work
set_option maxRecDepth 20000 in
theorem ggX6_letOneTickGoBy_X6_setDrivenUnits : GoodIn wsX6_letOneTickGoBy wsX6_setDrivenUnits := goodIn_r _ [124, 2, 6, 125, 126, 127, 12, 128, 42, 129, 130, 131, 132, 133, 38, 39, 40, 41, 134, 135, 136, 50, 137, 52, 107, 54, 113, 114, 115, 116, 138, 139, 140, 141, 142, 143, 144, 145, 146, 147, 148, 53, 64, 69, 65, 70, 77, 78, 79, 80, 81, 82, 83, 84, 149, 150, 151, 152, 153, 154, 155, 156, 157, 158, 159, 34, 35, 36, 37, 217, 218, 219, 220, 221, 222, 223, 224, 225, 226, 227, 228, 229, 230, 231, 232, 233, 234, 241, 242, 243, 244, 245, 246, 247, 248, 249, 250, 251, 252, 253, 254, 255] (by decide +kernel) (by decide +kernel)
set_option maxRecDepth 20000 in
theorem gX6_letOneTickGoBy_X6_setDrivenUnits : GoodIn wsX6_letOneTickGoBy (wsV RX6 291 RX6 yX6_setDrivenUnits wsX6_setDrivenUnits) := goodIn_app (goodIn_of _ (by decide +kernel)) ggX6_letOneTickGoBy_X6_setDrivenUnits
set_option maxRecDepth 20000 in
theorem ggX6_letOneTickGoBy_X5_giveAll : GoodIn wsX6_letOneTickGoBy wsX5_giveAll := goodIn_r _ [163, 42, 164, 37, 165, 166, 167, 12, 168, 153, 169, 38, 39, 40, 41, 170, 171, 172, 18, 173, 75, 20, 21, 22, 23, 174, 175, 176, 177, 178, 179, 180, 118, 119, 120, 15, 16, 17, 19, 181, 182, 183, 184, 185, 186, 187, 188, 189, 190, 191, 91, 192, 193, 72, 73, 74, 76, 194, 195, 196, 197, 82, 83, 84, 198, 199, 200, 201, 226, 227, 228, 229, 230, 231, 232, 233, 234, 235, 236] (by decide +kernel) (by decide +kernel)
set_option maxRecDepth 20000 in
theorem gX6_letOneTickGoBy_X5_giveAll : GoodIn wsX6_letOneTickGoBy (wsV RX6 294 RX5 yX5_giveAll wsX5_giveAll) := goodIn_app (goodIn_of _ (by decide +kernel)) ggX6_letOneTickGoBy_X5_giveAll
set_option maxRecDepth 20000 in
theorem ggX6_letOneTickGoBy_X4_keep : GoodIn wsX6_letOneTickGoBy wsX4_keep := goodIn_r _ [206, 207, 208, 209, 210, 205, 211, 212, 213, 214, 215, 216, 72, 73, 18, 74, 75, 76, 20, 21, 22, 23, 259, 235, 236] (by decide +kernel) (by decide +kernel)
set_option maxRecDepth 20000 in
theorem gX6_letOneTickGoBy_X4_keep : GoodIn wsX6_letOneTickGoBy (wsV RX6 298 RX4 yX4_keep wsX4_keep) := goodIn_app (goodIn_of _ (by decide +kernel)) ggX6_letOneTickGoBy_X4_keep
theorem dX6_letOneTickGoBy_0 : decode cX6_letOneTickGoBy 0 = .ok (.aload_n 0, 1) := by decide +kernel
theorem dX6_letOneTickGoBy_1 : decode cX6_letOneTickGoBy 1 = .ok (.dup, 1) := by decide +kernel
theorem dX6_letOneTickGoBy_2 : decode cX6_letOneTickGoBy 2 = .ok (.getfield 54, 3) := by decide +kernel
theorem dX6_letOneTickGoBy_5 : decode cX6_letOneTickGoBy 5 = .ok (.iconst 1, 1) := by decide +kernel
theorem dX6_letOneTickGoBy_6 : decode cX6_letOneTickGoBy 6 = .ok (.iadd, 1) := by decide +kernel
theorem dX6_letOneTickGoBy_7 : decode cX6_letOneTickGoBy 7 = .ok (.putfield 54, 3) := by decide +kernel
theorem dX6_letOneTickGoBy_10 : decode cX6_letOneTickGoBy 10 = .ok (.aload_n 0, 1) := by decide +kernel
theorem dX6_letOneTickGoBy_11 : decode cX6_letOneTickGoBy 11 = .ok (.aload_n 0, 1) := by decide +kernel
theorem dX6_letOneTickGoBy_12 : decode cX6_letOneTickGoBy 12 = .ok (.getfield 22, 3) := by decide +kernel
theorem dX6_letOneTickGoBy_15 : decode cX6_letOneTickGoBy 15 = .ok (.aload_n 0, 1) := by decide +kernel
theorem dX6_letOneTickGoBy_16 : decode cX6_letOneTickGoBy 16 = .ok (.getfield 12, 3) := by decide +kernel
theorem dX6_letOneTickGoBy_19 : decode cX6_letOneTickGoBy 19 = .ok (.invokevirtual 229, 3) := by decide +kernel
theorem dX6_letOneTickGoBy_22 : decode cX6_letOneTickGoBy 22 = .ok (.putfield 58, 3) := by decide +kernel
theorem dX6_letOneTickGoBy_25 : decode cX6_letOneTickGoBy 25 = .ok (.aload_n 0, 1) := by decide +kernel
theorem dX6_letOneTickGoBy_26 : decode cX6_letOneTickGoBy 26 = .ok (.getfield 43, 3) := by decide +kernel
theorem dX6_letOneTickGoBy_29 : decode cX6_letOneTickGoBy 29 = .ok (.aload_n 0, 1) := by decide +kernel
theorem dX6_letOneTickGoBy_30 : decode cX6_letOneTickGoBy 30 = .ok (.getfield 22, 3) := by decide +kernel
theorem dX6_letOneTickGoBy_33 : decode cX6_letOneTickGoBy 33 = .ok (.aload_n 0, 1) := by decide +kernel
theorem dX6_letOneTickGoBy_34 : decode cX6_letOneTickGoBy 34 = .ok (.getfield 54, 3) := by decide +kernel
theorem dX6_letOneTickGoBy_37 : decode cX6_letOneTickGoBy 37 = .ok (.invokevirtual 283, 3) := by decide +kernel
theorem dX6_letOneTickGoBy_40 : decode cX6_letOneTickGoBy 40 = .ok (.aload_n 0, 1) := by decide +kernel
theorem dX6_letOneTickGoBy_41 : decode cX6_letOneTickGoBy 41 = .ok (.getfield 29, 3) := by decide +kernel
theorem dX6_letOneTickGoBy_44 : decode cX6_letOneTickGoBy 44 = .ok (.aload_n 0, 1) := by decide +kernel
theorem dX6_letOneTickGoBy_45 : decode cX6_letOneTickGoBy 45 = .ok (.getfield 12, 3) := by decide +kernel
theorem dX6_letOneTickGoBy_48 : decode cX6_letOneTickGoBy 48 = .ok (.aload_n 0, 1) := by decide +kernel
theorem dX6_letOneTickGoBy_49 : decode cX6_letOneTickGoBy 49 = .ok (.getfield 36, 3) := by decide +kernel
theorem dX6_letOneTickGoBy_52 : decode cX6_letOneTickGoBy 52 = .ok (.invokevirtual 287, 3) := by decide +kernel
theorem dX6_letOneTickGoBy_55 : decode cX6_letOneTickGoBy 55 = .ok (.aload_n 0, 1) := by decide +kernel
theorem dX6_letOneTickGoBy_56 : decode cX6_letOneTickGoBy 56 = .ok (.invokevirtual 291, 3) := by decide +kernel
theorem dX6_letOneTickGoBy_59 : decode cX6_letOneTickGoBy 59 = .ok (.aload_n 0, 1) := by decide +kernel
theorem dX6_letOneTickGoBy_60 : decode cX6_letOneTickGoBy 60 = .ok (.getfield 22, 3) := by decide +kernel
theorem dX6_letOneTickGoBy_63 : decode cX6_letOneTickGoBy 63 = .ok (.aload_n 0, 1) := by decide +kernel
theorem dX6_letOneTickGoBy_64 : decode cX6_letOneTickGoBy 64 = .ok (.getfield 12, 3) := by decide +kernel
theorem dX6_letOneTickGoBy_67 : decode cX6_letOneTickGoBy 67 = .ok (.invokevirtual 294, 3) := by decide +kernel
theorem dX6_letOneTickGoBy_70 : decode cX6_letOneTickGoBy 70 = .ok (.aload_n 0, 1) := by decide +kernel
theorem dX6_letOneTickGoBy_71 : decode cX6_letOneTickGoBy 71 = .ok (.getfield 50, 3) := by decide +kernel
theorem dX6_letOneTickGoBy_74 : decode cX6_letOneTickGoBy 74 = .ok (.aload_n 0, 1) := by decide +kernel
theorem dX6_letOneTickGoBy_75 : decode cX6_letOneTickGoBy 75 = .ok (.getfield 12, 3) := by decide +kernel
theorem dX6_letOneTickGoBy_78 : decode cX6_letOneTickGoBy 78 = .ok (.aload_n 0, 1) := by decide +kernel
theorem dX6_letOneTickGoBy_79 : decode cX6_letOneTickGoBy 79 = .ok (.getfield 54, 3) := by decide +kernel
theorem dX6_letOneTickGoBy_82 : decode cX6_letOneTickGoBy 82 = .ok (.invokevirtual 298, 3) := by decide +kernel
theorem dX6_letOneTickGoBy_85 : decode cX6_letOneTickGoBy 85 = .ok (.return_, 1) := by decide +kernel
set_option maxRecDepth 20000 in
theorem ggX6_setDrivenUnits_X5_count : GoodIn wsX6_setDrivenUnits wsX5_count := goodIn_r _ [7, 8, 78, 79, 80, 81, 82, 83, 84, 85, 86] (by decide +kernel) (by decide +kernel)
set_option maxRecDepth 20000 in
theorem gX6_setDrivenUnits_X5_count : GoodIn wsX6_setDrivenUnits (wsV RX6 253 RX5 yX5_count wsX5_count) := goodIn_app (goodIn_of _ (by decide +kernel)) ggX6_setDrivenUnits_X5_count
set_option maxRecDepth 20000 in
theorem ggX6_setDrivenUnits_X5_takesGreatest : GoodIn wsX6_setDrivenUnits wsX5_takesGreatest := goodIn_r _ [12, 13, 14, 15, 16, 6, 17, 8, 78, 79, 80, 81, 82, 83, 84, 85, 86] (by decide +kernel) (by decide +kernel)
set_option maxRecDepth 20000 in
theorem gX6_setDrivenUnits_X5_takesGreatest : GoodIn wsX6_setDrivenUnits (wsV RX6 302 RX5 yX5_takesGreatest wsX5_takesGreatest) := goodIn_app (goodIn_of _ (by decide +kernel)) ggX6_setDrivenUnits_X5_takesGreatest
set_option maxRecDepth 20000 in
theorem ggX6_setDrivenUnits_X1_chosenFor : GoodIn wsX6_setDrivenUnits wsX1_chosenFor := goodIn_r _ [22, 23, 24, 25, 26, 27, 28, 21, 29, 30, 31, 32, 87, 88, 89, 90, 91, 92, 93, 94, 95, 96, 97, 98, 99, 100, 101] (by decide +kernel) (by decide +kernel)
set_option maxRecDepth 20000 in
theorem gX6_setDrivenUnits_X1_chosenFor : GoodIn wsX6_setDrivenUnits (wsV RX6 305 RX1 yX1_chosenFor wsX1_chosenFor) := goodIn_app (goodIn_of _ (by decide +kernel)) ggX6_setDrivenUnits_X1_chosenFor
set_option maxRecDepth 20000 in
theorem ggX6_setDrivenUnits_X1_outputOf : GoodIn wsX6_setDrivenUnits wsX1_outputOf := goodIn_r _ [36, 25, 26, 27, 28, 21, 29, 23, 87, 88, 89, 90, 91, 92, 93, 94, 95, 96, 97, 98, 99, 100, 101] (by decide +kernel) (by decide +kernel)
set_option maxRecDepth 20000 in
theorem gX6_setDrivenUnits_X1_outputOf : GoodIn wsX6_setDrivenUnits (wsV RX6 215 RX1 yX1_outputOf wsX1_outputOf) := goodIn_app (goodIn_of _ (by decide +kernel)) ggX6_setDrivenUnits_X1_outputOf
set_option maxRecDepth 20000 in
theorem ggX6_setDrivenUnits_X1_letFollow : GoodIn wsX6_setDrivenUnits wsX1_letFollow := goodIn_r _ [40, 23, 24, 41, 25, 42, 43, 44, 45, 46, 47, 21, 48, 49, 50, 51, 52, 53, 87, 88, 89, 90, 91, 92, 93, 94, 95, 96, 97, 98, 99, 100, 101] (by decide +kernel) (by decide +kernel)
set_option maxRecDepth 20000 in
theorem gX6_setDrivenUnits_X1_letFollow : GoodIn wsX6_setDrivenUnits (wsV RX6 309 RX1 yX1_letFollow wsX1_letFollow) := goodIn_app (goodIn_of _ (by decide +kernel)) ggX6_setDrivenUnits_X1_letFollow
set_option maxRecDepth 20000 in
theorem ggX6_setDrivenUnits_X5_kindOf : GoodIn wsX6_setDrivenUnits wsX5_kindOf := goodIn_r _ [57, 58, 14, 15, 16, 6, 17, 8, 78, 79, 80, 81, 82, 83, 84, 85, 86] (by decide +kernel) (by decide +kernel)
set_option maxRecDepth 20000 in
theorem gX6_setDrivenUnits_X5_kindOf : GoodIn wsX6_setDrivenUnits (wsV RX6 110 RX5 yX5_kindOf wsX5_kindOf) := goodIn_app (goodIn_of _ (by decide +kernel)) ggX6_setDrivenUnits_X5_kindOf
set_option maxRecDepth 20000 in
theorem ggX6_setDrivenUnits_X6_mostOf : GoodIn wsX6_setDrivenUnits wsX6_mostOf := goodIn_r _ [61, 62] (by decide +kernel) (by decide +kernel)
set_option maxRecDepth 20000 in
theorem gX6_setDrivenUnits_X6_mostOf : GoodIn wsX6_setDrivenUnits (va_wsS RX6 313 yX6_mostOf wsX6_mostOf) := goodIn_app (goodIn_of _ (by decide +kernel)) ggX6_setDrivenUnits_X6_mostOf
set_option maxRecDepth 20000 in
theorem ggX6_setDrivenUnits_X6_held : GoodIn wsX6_setDrivenUnits wsX6_held := goodIn_r _ [53] (by decide +kernel) (by decide +kernel)
set_option maxRecDepth 20000 in
theorem gX6_setDrivenUnits_X6_held : GoodIn wsX6_setDrivenUnits (va_wsS RX6 316 yX6_held wsX6_held) := goodIn_app (goodIn_of _ (by decide +kernel)) ggX6_setDrivenUnits_X6_held
set_option maxRecDepth 20000 in
theorem ggX6_setDrivenUnits_X5_putNumber : GoodIn wsX6_setDrivenUnits wsX5_putNumber := goodIn_r _ [67, 68, 14, 15, 16, 6, 17, 8, 78, 79, 80, 81, 82, 83, 84, 85, 86] (by decide +kernel) (by decide +kernel)
set_option maxRecDepth 20000 in
theorem gX6_setDrivenUnits_X5_putNumber : GoodIn wsX6_setDrivenUnits (wsV RX6 129 RX5 yX5_putNumber wsX5_putNumber) := goodIn_app (goodIn_of _ (by decide +kernel)) ggX6_setDrivenUnits_X5_putNumber
theorem dX6_setDrivenUnits_0 : decode cX6_setDrivenUnits 0 = .ok (.iconst 0, 1) := by decide +kernel
theorem dX6_setDrivenUnits_1 : decode cX6_setDrivenUnits 1 = .ok (.istore_n 1, 1) := by decide +kernel
theorem dX6_setDrivenUnits_2 : decode cX6_setDrivenUnits 2 = .ok (.iload_n 1, 1) := by decide +kernel
theorem dX6_setDrivenUnits_3 : decode cX6_setDrivenUnits 3 = .ok (.aload_n 0, 1) := by decide +kernel
theorem dX6_setDrivenUnits_4 : decode cX6_setDrivenUnits 4 = .ok (.getfield 22, 3) := by decide +kernel
theorem dX6_setDrivenUnits_7 : decode cX6_setDrivenUnits 7 = .ok (.invokevirtual 253, 3) := by decide +kernel
theorem dX6_setDrivenUnits_10 : decode cX6_setDrivenUnits 10 = .ok (.if_icmp .ge 75, 3) := by decide +kernel
theorem dX6_setDrivenUnits_13 : decode cX6_setDrivenUnits 13 = .ok (.aload_n 0, 1) := by decide +kernel
theorem dX6_setDrivenUnits_14 : decode cX6_setDrivenUnits 14 = .ok (.getfield 29, 3) := by decide +kernel
theorem dX6_setDrivenUnits_17 : decode cX6_setDrivenUnits 17 = .ok (.iload_n 1, 1) := by decide +kernel
theorem dX6_setDrivenUnits_18 : decode cX6_setDrivenUnits 18 = .ok (.aload_n 0, 1) := by decide +kernel
theorem dX6_setDrivenUnits_19 : decode cX6_setDrivenUnits 19 = .ok (.getfield 22, 3) := by decide +kernel
theorem dX6_setDrivenUnits_22 : decode cX6_setDrivenUnits 22 = .ok (.iload_n 1, 1) := by decide +kernel
theorem dX6_setDrivenUnits_23 : decode cX6_setDrivenUnits 23 = .ok (.invokevirtual 302, 3) := by decide +kernel
theorem dX6_setDrivenUnits_26 : decode cX6_setDrivenUnits 26 = .ok (.invokevirtual 305, 3) := by decide +kernel
theorem dX6_setDrivenUnits_29 : decode cX6_setDrivenUnits 29 = .ok (.istore_n 2, 1) := by decide +kernel
theorem dX6_setDrivenUnits_30 : decode cX6_setDrivenUnits 30 = .ok (.iload_n 2, 1) := by decide +kernel
theorem dX6_setDrivenUnits_31 : decode cX6_setDrivenUnits 31 = .ok (.iconst (-1), 1) := by decide +kernel
theorem dX6_setDrivenUnits_32 : decode cX6_setDrivenUnits 32 = .ok (.if_icmp .eq 47, 3) := by decide +kernel
theorem dX6_setDrivenUnits_35 : decode cX6_setDrivenUnits 35 = .ok (.aload_n 0, 1) := by decide +kernel
theorem dX6_setDrivenUnits_36 : decode cX6_setDrivenUnits 36 = .ok (.getfield 29, 3) := by decide +kernel
theorem dX6_setDrivenUnits_39 : decode cX6_setDrivenUnits 39 = .ok (.iload_n 2, 1) := by decide +kernel
theorem dX6_setDrivenUnits_40 : decode cX6_setDrivenUnits 40 = .ok (.invokevirtual 215, 3) := by decide +kernel
theorem dX6_setDrivenUnits_43 : decode cX6_setDrivenUnits 43 = .ok (.lstore_n 3, 1) := by decide +kernel
theorem dX6_setDrivenUnits_44 : decode cX6_setDrivenUnits 44 = .ok (.aload_n 0, 1) := by decide +kernel
theorem dX6_setDrivenUnits_45 : decode cX6_setDrivenUnits 45 = .ok (.getfield 29, 3) := by decide +kernel
theorem dX6_setDrivenUnits_48 : decode cX6_setDrivenUnits 48 = .ok (.iload_n 1, 1) := by decide +kernel
theorem dX6_setDrivenUnits_49 : decode cX6_setDrivenUnits 49 = .ok (.lload_n 3, 1) := by decide +kernel
theorem dX6_setDrivenUnits_50 : decode cX6_setDrivenUnits 50 = .ok (.invokevirtual 309, 3) := by decide +kernel
theorem dX6_setDrivenUnits_53 : decode cX6_setDrivenUnits 53 = .ok (.aload_n 0, 1) := by decide +kernel
theorem dX6_setDrivenUnits_54 : decode cX6_setDrivenUnits 54 = .ok (.getfield 22, 3) := by decide +kernel
theorem dX6_setDrivenUnits_57 : decode cX6_setDrivenUnits 57 = .ok (.iload_n 1, 1) := by decide +kernel
theorem dX6_setDrivenUnits_58 : decode cX6_setDrivenUnits 58 = .ok (.lload_n 3, 1) := by decide +kernel
theorem dX6_setDrivenUnits_59 : decode cX6_setDrivenUnits 59 = .ok (.lconst 0, 1) := by decide +kernel
theorem dX6_setDrivenUnits_60 : decode cX6_setDrivenUnits 60 = .ok (.aload_n 0, 1) := by decide +kernel
theorem dX6_setDrivenUnits_61 : decode cX6_setDrivenUnits 61 = .ok (.getfield 22, 3) := by decide +kernel
theorem dX6_setDrivenUnits_64 : decode cX6_setDrivenUnits 64 = .ok (.iload_n 1, 1) := by decide +kernel
theorem dX6_setDrivenUnits_65 : decode cX6_setDrivenUnits 65 = .ok (.invokevirtual 110, 3) := by decide +kernel
theorem dX6_setDrivenUnits_68 : decode cX6_setDrivenUnits 68 = .ok (.invokestatic 313, 3) := by decide +kernel
theorem dX6_setDrivenUnits_71 : decode cX6_setDrivenUnits 71 = .ok (.i2l, 1) := by decide +kernel
theorem dX6_setDrivenUnits_72 : decode cX6_setDrivenUnits 72 = .ok (.invokestatic 316, 3) := by decide +kernel
theorem dX6_setDrivenUnits_75 : decode cX6_setDrivenUnits 75 = .ok (.l2i, 1) := by decide +kernel
theorem dX6_setDrivenUnits_76 : decode cX6_setDrivenUnits 76 = .ok (.invokevirtual 129, 3) := by decide +kernel
theorem dX6_setDrivenUnits_79 : decode cX6_setDrivenUnits 79 = .ok (.iinc 1 1, 3) := by decide +kernel
theorem dX6_setDrivenUnits_82 : decode cX6_setDrivenUnits 82 = .ok (.goto (-80), 3) := by decide +kernel
theorem dX6_setDrivenUnits_85 : decode cX6_setDrivenUnits 85 = .ok (.return_, 1) := by decide +kernel
set_option maxRecDepth 20000 in
theorem ggX6_gainOf_X5_numberOf : GoodIn wsX6_gainOf wsX5_numberOf := goodIn_r _ [6, 7, 8, 9, 10, 5, 11, 12, 104, 105, 106, 107, 108, 109, 110, 111, 112] (by decide +kernel) (by decide +kernel)
set_option maxRecDepth 20000 in
theorem gX6_gainOf_X5_numberOf : GoodIn wsX6_gainOf (wsV RX6 126 RX5 yX5_numberOf wsX5_numberOf) := goodIn_app (goodIn_of _ (by decide +kernel)) ggX6_gainOf_X5_numberOf
set_option maxRecDepth 20000 in
theorem ggX6_gainOf_X5_kindOf : GoodIn wsX6_gainOf wsX5_kindOf := goodIn_r _ [16, 17, 8, 9, 10, 5, 11, 12, 104, 105, 106, 107, 108, 109, 110, 111, 112] (by decide +kernel) (by decide +kernel)
set_option maxRecDepth 20000 in
theorem gX6_gainOf_X5_kindOf : GoodIn wsX6_gainOf (wsV RX6 110 RX5 yX5_kindOf wsX5_kindOf) := goodIn_app (goodIn_of _ (by decide +kernel)) ggX6_gainOf_X5_kindOf
set_option maxRecDepth 20000 in
theorem ggX6_gainOf_X6_mostOf : GoodIn wsX6_gainOf wsX6_mostOf := goodIn_r _ [21, 22] (by decide +kernel) (by decide +kernel)
set_option maxRecDepth 20000 in
theorem gX6_gainOf_X6_mostOf : GoodIn wsX6_gainOf (va_wsS RX6 313 yX6_mostOf wsX6_mostOf) := goodIn_app (goodIn_of _ (by decide +kernel)) ggX6_gainOf_X6_mostOf
set_option maxRecDepth 20000 in
theorem ggX6_gainOf_X6_warmthLater : GoodIn wsX6_gainOf wsX6_warmthLater := goodIn_r _ [26, 27, 28, 1, 29, 30, 31, 32, 33, 34, 35, 36, 37, 38, 5, 39, 12, 2, 3, 4, 6, 7, 8, 9, 10, 11, 40, 41, 42, 43, 17, 44, 45, 46, 47, 48, 49, 50, 51, 52, 53, 54, 55, 56, 57, 58, 59, 60, 61, 62, 63, 64, 65, 66, 67, 68, 69, 70, 71, 72, 73, 74, 75, 76, 77, 78, 79, 80, 81, 82, 83, 84, 85, 86, 87, 88, 20, 89, 90, 91, 92, 93, 94, 95, 96, 97, 98, 99, 100, 101, 102, 103, 113, 114, 104, 105, 106, 107, 108, 109, 110, 111, 112] (by decide +kernel) (by decide +kernel)
set_option maxRecDepth 20000 in
theorem gX6_gainOf_X6_warmthLater : GoodIn wsX6_gainOf (wsV RX6 320 RX6 yX6_warmthLater wsX6_warmthLater) := goodIn_app (goodIn_of _ (by decide +kernel)) ggX6_gainOf_X6_warmthLater
theorem dX6_gainOf_0 : decode cX6_gainOf 0 = .ok (.aload_n 0, 1) := by decide +kernel
theorem dX6_gainOf_1 : decode cX6_gainOf 1 = .ok (.getfield 22, 3) := by decide +kernel
theorem dX6_gainOf_4 : decode cX6_gainOf 4 = .ok (.iload_n 1, 1) := by decide +kernel
theorem dX6_gainOf_5 : decode cX6_gainOf 5 = .ok (.invokevirtual 126, 3) := by decide +kernel
theorem dX6_gainOf_8 : decode cX6_gainOf 8 = .ok (.istore_n 3, 1) := by decide +kernel
theorem dX6_gainOf_9 : decode cX6_gainOf 9 = .ok (.iload_n 3, 1) := by decide +kernel
theorem dX6_gainOf_10 : decode cX6_gainOf 10 = .ok (.aload_n 0, 1) := by decide +kernel
theorem dX6_gainOf_11 : decode cX6_gainOf 11 = .ok (.getfield 22, 3) := by decide +kernel
theorem dX6_gainOf_14 : decode cX6_gainOf 14 = .ok (.iload_n 1, 1) := by decide +kernel
theorem dX6_gainOf_15 : decode cX6_gainOf 15 = .ok (.invokevirtual 110, 3) := by decide +kernel
theorem dX6_gainOf_18 : decode cX6_gainOf 18 = .ok (.invokestatic 313, 3) := by decide +kernel
theorem dX6_gainOf_21 : decode cX6_gainOf 21 = .ok (.if_icmp .ge 9, 3) := by decide +kernel
theorem dX6_gainOf_24 : decode cX6_gainOf 24 = .ok (.iload_n 3, 1) := by decide +kernel
theorem dX6_gainOf_25 : decode cX6_gainOf 25 = .ok (.iconst 1, 1) := by decide +kernel
theorem dX6_gainOf_26 : decode cX6_gainOf 26 = .ok (.iadd, 1) := by decide +kernel
theorem dX6_gainOf_27 : decode cX6_gainOf 27 = .ok (.goto 4, 3) := by decide +kernel
theorem dX6_gainOf_30 : decode cX6_gainOf 30 = .ok (.iload_n 3, 1) := by decide +kernel
theorem dX6_gainOf_31 : decode cX6_gainOf 31 = .ok (.istore 4, 2) := by decide +kernel
theorem dX6_gainOf_33 : decode cX6_gainOf 33 = .ok (.aload_n 0, 1) := by decide +kernel
theorem dX6_gainOf_34 : decode cX6_gainOf 34 = .ok (.iload_n 2, 1) := by decide +kernel
theorem dX6_gainOf_35 : decode cX6_gainOf 35 = .ok (.iload_n 1, 1) := by decide +kernel
theorem dX6_gainOf_36 : decode cX6_gainOf 36 = .ok (.iload 4, 2) := by decide +kernel
theorem dX6_gainOf_38 : decode cX6_gainOf 38 = .ok (.invokevirtual 320, 3) := by decide +kernel
theorem dX6_gainOf_41 : decode cX6_gainOf 41 = .ok (.aload_n 0, 1) := by decide +kernel
theorem dX6_gainOf_42 : decode cX6_gainOf 42 = .ok (.iload_n 2, 1) := by decide +kernel
theorem dX6_gainOf_43 : decode cX6_gainOf 43 = .ok (.iload_n 1, 1) := by decide +kernel
theorem dX6_gainOf_44 : decode cX6_gainOf 44 = .ok (.iload_n 3, 1) := by decide +kernel
theorem dX6_gainOf_45 : decode cX6_gainOf 45 = .ok (.invokevirtual 320, 3) := by decide +kernel
theorem dX6_gainOf_48 : decode cX6_gainOf 48 = .ok (.lsub, 1) := by decide +kernel
theorem dX6_gainOf_49 : decode cX6_gainOf 49 = .ok (.lreturn, 1) := by decide +kernel
set_option maxRecDepth 20000 in
theorem ggX6_warmthLater_X3_copyFrom : GoodIn wsX6_warmthLater wsX3_copyFrom := goodIn_r _ [8, 9, 10, 92, 93] (by decide +kernel) (by decide +kernel)
set_option maxRecDepth 20000 in
theorem gX6_warmthLater_X3_copyFrom : GoodIn wsX6_warmthLater (wsV RX6 324 RX3 yX3_copyFrom wsX3_copyFrom) := goodIn_app (goodIn_of _ (by decide +kernel)) ggX6_warmthLater_X3_copyFrom
set_option maxRecDepth 20000 in
theorem ggX6_warmthLater_X5_count : GoodIn wsX6_warmthLater wsX5_count := goodIn_r _ [15, 16, 94, 95, 96, 97, 98, 99, 100, 101, 102] (by decide +kernel) (by decide +kernel)
set_option maxRecDepth 20000 in
theorem gX6_warmthLater_X5_count : GoodIn wsX6_warmthLater (wsV RX6 253 RX5 yX5_count wsX5_count) := goodIn_app (goodIn_of _ (by decide +kernel)) ggX6_warmthLater_X5_count
set_option maxRecDepth 20000 in
theorem ggX6_warmthLater_X5_numberOf : GoodIn wsX6_warmthLater wsX5_numberOf := goodIn_r _ [20, 21, 22, 23, 24, 14, 25, 16, 94, 95, 96, 97, 98, 99, 100, 101, 102] (by decide +kernel) (by decide +kernel)
set_option maxRecDepth 20000 in
theorem gX6_warmthLater_X5_numberOf : GoodIn wsX6_warmthLater (wsV RX6 126 RX5 yX5_numberOf wsX5_numberOf) := goodIn_app (goodIn_of _ (by decide +kernel)) ggX6_warmthLater_X5_numberOf
set_option maxRecDepth 20000 in
theorem ggX6_warmthLater_X5_give : GoodIn wsX6_warmthLater wsX5_give := goodIn_r _ [29, 30, 31, 22, 23, 24, 14, 25, 16, 32, 33, 34, 7, 35, 9, 10, 36, 37, 38, 39, 40, 41, 42, 43, 44, 45, 46, 47, 48, 49, 50, 51, 52, 53, 54, 55, 56, 57, 58, 59, 60, 61, 62, 63, 64, 65, 66, 67, 68, 69, 70, 71, 72, 73, 74, 75, 76, 77, 78, 79, 80, 81, 94, 95, 96, 97, 98, 99, 100, 101, 102, 92, 93] (by decide +kernel) (by decide +kernel)
set_option maxRecDepth 20000 in
theorem gX6_warmthLater_X5_give : GoodIn wsX6_warmthLater (wsV RX6 327 RX5 yX5_give wsX5_give) := goodIn_app (goodIn_of _ (by decide +kernel)) ggX6_warmthLater_X5_give
set_option maxRecDepth 20000 in
theorem ggX6_warmthLater_X3_warmthOf : GoodIn wsX6_warmthLater wsX3_warmthOf := goodIn_r _ [69, 9, 70, 10, 36, 37, 7, 38, 92, 93] (by decide +kernel) (by decide +kernel)
set_option maxRecDepth 20000 in
theorem gX6_warmthLater_X3_warmthOf : GoodIn wsX6_warmthLater (wsV RX6 201 RX3 yX3_warmthOf wsX3_warmthOf) := goodIn_app (goodIn_of _ (by decide +kernel)) ggX6_warmthLater_X3_warmthOf
theorem dX6_warmthLater_0 : decode cX6_warmthLater 0 = .ok (.aload_n 0, 1) := by decide +kernel
theorem dX6_warmthLater_1 : decode cX6_warmthLater 1 = .ok (.getfield 16, 3) := by decide +kernel
theorem dX6_warmthLater_4 : decode cX6_warmthLater 4 = .ok (.aload_n 0, 1) := by decide +kernel
theorem dX6_warmthLater_5 : decode cX6_warmthLater 5 = .ok (.getfield 12, 3) := by decide +kernel
theorem dX6_warmthLater_8 : decode cX6_warmthLater 8 = .ok (.invokevirtual 324, 3) := by decide +kernel
theorem dX6_warmthLater_11 : decode cX6_warmthLater 11 = .ok (.iconst 0, 1) := by decide +kernel
theorem dX6_warmthLater_12 : decode cX6_warmthLater 12 = .ok (.istore 4, 2) := by decide +kernel
theorem dX6_warmthLater_14 : decode cX6_warmthLater 14 = .ok (.iload 4, 2) := by decide +kernel
theorem dX6_warmthLater_16 : decode cX6_warmthLater 16 = .ok (.bipush 12, 2) := by decide +kernel
theorem dX6_warmthLater_18 : decode cX6_warmthLater 18 = .ok (.if_icmp .ge 63, 3) := by decide +kernel
theorem dX6_warmthLater_21 : decode cX6_warmthLater 21 = .ok (.iconst 0, 1) := by decide +kernel
theorem dX6_warmthLater_22 : decode cX6_warmthLater 22 = .ok (.istore 5, 2) := by decide +kernel
theorem dX6_warmthLater_24 : decode cX6_warmthLater 24 = .ok (.iload 5, 2) := by decide +kernel
theorem dX6_warmthLater_26 : decode cX6_warmthLater 26 = .ok (.aload_n 0, 1) := by decide +kernel
theorem dX6_warmthLater_27 : decode cX6_warmthLater 27 = .ok (.getfield 22, 3) := by decide +kernel
theorem dX6_warmthLater_30 : decode cX6_warmthLater 30 = .ok (.invokevirtual 253, 3) := by decide +kernel
theorem dX6_warmthLater_33 : decode cX6_warmthLater 33 = .ok (.if_icmp .ge 42, 3) := by decide +kernel
theorem dX6_warmthLater_36 : decode cX6_warmthLater 36 = .ok (.aload_n 0, 1) := by decide +kernel
theorem dX6_warmthLater_37 : decode cX6_warmthLater 37 = .ok (.getfield 22, 3) := by decide +kernel
theorem dX6_warmthLater_40 : decode cX6_warmthLater 40 = .ok (.aload_n 0, 1) := by decide +kernel
theorem dX6_warmthLater_41 : decode cX6_warmthLater 41 = .ok (.getfield 16, 3) := by decide +kernel
theorem dX6_warmthLater_44 : decode cX6_warmthLater 44 = .ok (.iload 5, 2) := by decide +kernel
theorem dX6_warmthLater_46 : decode cX6_warmthLater 46 = .ok (.iload 5, 2) := by decide +kernel
theorem dX6_warmthLater_48 : decode cX6_warmthLater 48 = .ok (.iload_n 2, 1) := by decide +kernel
theorem dX6_warmthLater_49 : decode cX6_warmthLater 49 = .ok (.if_icmp .ne 7, 3) := by decide +kernel
theorem dX6_warmthLater_52 : decode cX6_warmthLater 52 = .ok (.iload_n 3, 1) := by decide +kernel
theorem dX6_warmthLater_53 : decode cX6_warmthLater 53 = .ok (.goto 12, 3) := by decide +kernel
theorem dX6_warmthLater_56 : decode cX6_warmthLater 56 = .ok (.aload_n 0, 1) := by decide +kernel
theorem dX6_warmthLater_57 : decode cX6_warmthLater 57 = .ok (.getfield 22, 3) := by decide +kernel
theorem dX6_warmthLater_60 : decode cX6_warmthLater 60 = .ok (.iload 5, 2) := by decide +kernel
theorem dX6_warmthLater_62 : decode cX6_warmthLater 62 = .ok (.invokevirtual 126, 3) := by decide +kernel
theorem dX6_warmthLater_65 : decode cX6_warmthLater 65 = .ok (.invokevirtual 327, 3) := by decide +kernel
theorem dX6_warmthLater_68 : decode cX6_warmthLater 68 = .ok (.pop2, 1) := by decide +kernel
theorem dX6_warmthLater_69 : decode cX6_warmthLater 69 = .ok (.iinc 5 1, 3) := by decide +kernel
theorem dX6_warmthLater_72 : decode cX6_warmthLater 72 = .ok (.goto (-48), 3) := by decide +kernel
theorem dX6_warmthLater_75 : decode cX6_warmthLater 75 = .ok (.iinc 4 1, 3) := by decide +kernel
theorem dX6_warmthLater_78 : decode cX6_warmthLater 78 = .ok (.goto (-64), 3) := by decide +kernel
theorem dX6_warmthLater_81 : decode cX6_warmthLater 81 = .ok (.aload_n 0, 1) := by decide +kernel
theorem dX6_warmthLater_82 : decode cX6_warmthLater 82 = .ok (.getfield 16, 3) := by decide +kernel
theorem dX6_warmthLater_85 : decode cX6_warmthLater 85 = .ok (.iload_n 1, 1) := by decide +kernel
theorem dX6_warmthLater_86 : decode cX6_warmthLater 86 = .ok (.invokevirtual 201, 3) := by decide +kernel
theorem dX6_warmthLater_89 : decode cX6_warmthLater 89 = .ok (.lreturn, 1) := by decide +kernel
theorem dX6_isOutside_0 : decode cX6_isOutside 0 = .ok (.iload_n 0, 1) := by decide +kernel
theorem dX6_isOutside_1 : decode cX6_isOutside 1 = .ok (.iload_n 1, 1) := by decide +kernel
theorem dX6_isOutside_2 : decode cX6_isOutside 2 = .ok (.if_icmp .lt 8, 3) := by decide +kernel
theorem dX6_isOutside_5 : decode cX6_isOutside 5 = .ok (.iload_n 0, 1) := by decide +kernel
theorem dX6_isOutside_6 : decode cX6_isOutside 6 = .ok (.iload_n 2, 1) := by decide +kernel
theorem dX6_isOutside_7 : decode cX6_isOutside 7 = .ok (.if_icmp .le 7, 3) := by decide +kernel
theorem dX6_isOutside_10 : decode cX6_isOutside 10 = .ok (.iconst 1, 1) := by decide +kernel
theorem dX6_isOutside_11 : decode cX6_isOutside 11 = .ok (.goto 4, 3) := by decide +kernel
theorem dX6_isOutside_14 : decode cX6_isOutside 14 = .ok (.iconst 0, 1) := by decide +kernel
theorem dX6_isOutside_15 : decode cX6_isOutside 15 = .ok (.ireturn, 1) := by decide +kernel
theorem dX6_held_0 : decode cX6_held 0 = .ok (.lload_n 0, 1) := by decide +kernel
theorem dX6_held_1 : decode cX6_held 1 = .ok (.lload_n 2, 1) := by decide +kernel
theorem dX6_held_2 : decode cX6_held 2 = .ok (.lcmp, 1) := by decide +kernel
theorem dX6_held_3 : decode cX6_held 3 = .ok (.ifCond .ge 5, 3) := by decide +kernel
theorem dX6_held_6 : decode cX6_held 6 = .ok (.lload_n 2, 1) := by decide +kernel
theorem dX6_held_7 : decode cX6_held 7 = .ok (.lreturn, 1) := by decide +kernel
theorem dX6_held_8 : decode cX6_held 8 = .ok (.lload_n 0, 1) := by decide +kernel
theorem dX6_held_9 : decode cX6_held 9 = .ok (.lload 4, 2) := by decide +kernel
theorem dX6_held_11 : decode cX6_held 11 = .ok (.lcmp, 1) := by decide +kernel
theorem dX6_held_12 : decode cX6_held 12 = .ok (.ifCond .le 8, 3) := by decide +kernel
theorem dX6_held_15 : decode cX6_held 15 = .ok (.lload 4, 2) := by decide +kernel
theorem dX6_held_17 : decode cX6_held 17 = .ok (.goto 4, 3) := by decide +kernel
theorem dX6_held_20 : decode cX6_held 20 = .ok (.lload_n 0, 1) := by decide +kernel
theorem dX6_held_21 : decode cX6_held 21 = .ok (.lreturn, 1) := by decide +kernel
theorem dX6_mostOf_0 : decode cX6_mostOf 0 = .ok (.iload_n 0, 1) := by decide +kernel
theorem dX6_mostOf_1 : decode cX6_mostOf 1 = .ok (.tableswitch 49 0 4 #[35, 39, 49, 42, 46], 35) := by decide +kernel
theorem dX6_mostOf_36 : decode cX6_mostOf 36 = .ok (.sipush 999, 3) := by decide +kernel
theorem dX6_mostOf_39 : decode cX6_mostOf 39 = .ok (.ireturn, 1) := by decide +kernel
theorem dX6_mostOf_40 : decode cX6_mostOf 40 = .ok (.bipush 100, 2) := by decide +kernel
theorem dX6_mostOf_42 : decode cX6_mostOf 42 = .ok (.ireturn, 1) := by decide +kernel
theorem dX6_mostOf_43 : decode cX6_mostOf 43 = .ok (.sipush 9999, 3) := by decide +kernel
theorem dX6_mostOf_46 : decode cX6_mostOf 46 = .ok (.ireturn, 1) := by decide +kernel
theorem dX6_mostOf_47 : decode cX6_mostOf 47 = .ok (.ldc 147, 2) := by decide +kernel
theorem dX6_mostOf_49 : decode cX6_mostOf 49 = .ok (.ireturn, 1) := by decide +kernel
theorem dX6_mostOf_50 : decode cX6_mostOf 50 = .ok (.iconst (-1), 1) := by decide +kernel
theorem dX6_mostOf_51 : decode cX6_mostOf 51 = .ok (.ireturn, 1) := by decide +kernel
set_option maxRecDepth 20000 in
theorem ggX6_isNumberOf_X6_mostOf : GoodIn wsX6_isNumberOf wsX6_mostOf := goodIn_r _ [4, 5] (by decide +kernel) (by decide +kernel)
set_option maxRecDepth 20000 in
theorem gX6_isNumberOf_X6_mostOf : GoodIn wsX6_isNumberOf (va_wsS RX6 313 yX6_mostOf wsX6_mostOf) := goodIn_app (goodIn_of _ (by decide +kernel)) ggX6_isNumberOf_X6_mostOf
set_option maxRecDepth 20000 in
theorem ggX6_isNumberOf_X6_isOutside : GoodIn wsX6_isNumberOf wsX6_isOutside := goodIn_r _ [8] (by decide +kernel) (by decide +kernel)
set_option maxRecDepth 20000 in
theorem gX6_isNumberOf_X6_isOutside : GoodIn wsX6_isNumberOf (va_wsS RX6 62 yX6_isOutside wsX6_isOutside) := goodIn_app (goodIn_of _ (by decide +kernel)) ggX6_isNumberOf_X6_isOutside
theorem dX6_isNumberOf_0 : decode cX6_isNumberOf 0 = .ok (.iload_n 1, 1) := by decide +kernel
theorem dX6_isNumberOf_1 : decode cX6_isNumberOf 1 = .ok (.iconst 0, 1) := by decide +kernel
theorem dX6_isNumberOf_2 : decode cX6_isNumberOf 2 = .ok (.iload_n 0, 1) := by decide +kernel
theorem dX6_isNumberOf_3 : decode cX6_isNumberOf 3 = .ok (.invokestatic 313, 3) := by decide +kernel
theorem dX6_isNumberOf_6 : decode cX6_isNumberOf 6 = .ok (.invokestatic 62, 3) := by decide +kernel
theorem dX6_isNumberOf_9 : decode cX6_isNumberOf 9 = .ok (.ifCond .ne 7, 3) := by decide +kernel
theorem dX6_isNumberOf_12 : decode cX6_isNumberOf 12 = .ok (.iconst 1, 1) := by decide +kernel
theorem dX6_isNumberOf_13 : decode cX6_isNumberOf 13 = .ok (.goto 4, 3) := by decide +kernel
theorem dX6_isNumberOf_16 : decode cX6_isNumberOf 16 = .ok (.iconst 0, 1) := by decide +kernel
theorem dX6_isNumberOf_17 : decode cX6_isNumberOf 17 = .ok (.ireturn, 1) := by decide +kernel
