theorem dX4_init_0 : decode cX4_init 0 = .ok (.aload_n 0, 1) := by decide +kernel
theorem dX4_init_1 : decode cX4_init 1 = .ok (.invokespecial 3, 3) := by decide +kernel
theorem dX4_init_4 : decode cX4_init 4 = .ok (.aload_n 0, 1) := by decide +kernel
theorem dX4_init_5 : decode cX4_init 5 = .ok (.iconst 0, 1) := by decide +kernel
theorem dX4_init_6 : decode cX4_init 6 = .ok (.newarray .int, 2) := by decide +kernel
theorem dX4_init_8 : decode cX4_init 8 = .ok (.putfield 9, 3) := by decide +kernel
theorem dX4_init_11 : decode cX4_init 11 = .ok (.return_, 1) := by decide +kernel
set_option maxRecDepth 20000 in
theorem ggX4_keep_X4_placeOf : GoodIn wsX4_keep wsX4_placeOf := goodIn_r _ [6] (by decide +kernel) (by decide +kernel)
set_option maxRecDepth 20000 in
theorem gX4_keep_X4_placeOf : GoodIn wsX4_keep (va_wsS RX4 15 yX4_placeOf wsX4_placeOf) := goodIn_app (goodIn_of _ (by decide +kernel)) ggX4_keep_X4_placeOf
set_option maxRecDepth 20000 in
theorem ggX4_keep_X4_isKept : GoodIn wsX4_keep wsX4_isKept := goodIn_r _ [10, 1, 22] (by decide +kernel) (by decide +kernel)
set_option maxRecDepth 20000 in
theorem gX4_keep_X4_isKept : GoodIn wsX4_keep (wsV RX4 19 RX4 yX4_isKept wsX4_isKept) := goodIn_app (goodIn_of _ (by decide +kernel)) ggX4_keep_X4_isKept
set_option maxRecDepth 20000 in
theorem ggX4_keep_X3_warmthOf : GoodIn wsX4_keep wsX3_warmthOf := goodIn_r _ [15, 16, 17, 18, 19, 20, 14, 21, 23, 24] (by decide +kernel) (by decide +kernel)
set_option maxRecDepth 20000 in
theorem gX4_keep_X3_warmthOf : GoodIn wsX4_keep (wsV RX4 23 RX3 yX3_warmthOf wsX3_warmthOf) := goodIn_app (goodIn_of _ (by decide +kernel)) ggX4_keep_X3_warmthOf
theorem dX4_keep_0 : decode cX4_keep 0 = .ok (.aload_n 0, 1) := by decide +kernel
theorem dX4_keep_1 : decode cX4_keep 1 = .ok (.getfield 9, 3) := by decide +kernel
theorem dX4_keep_4 : decode cX4_keep 4 = .ok (.arraylength, 1) := by decide +kernel
theorem dX4_keep_5 : decode cX4_keep 5 = .ok (.ifCond .ne 12, 3) := by decide +kernel
theorem dX4_keep_8 : decode cX4_keep 8 = .ok (.aload_n 0, 1) := by decide +kernel
theorem dX4_keep_9 : decode cX4_keep 9 = .ok (.sipush 7200, 3) := by decide +kernel
theorem dX4_keep_12 : decode cX4_keep 12 = .ok (.newarray .int, 2) := by decide +kernel
theorem dX4_keep_14 : decode cX4_keep 14 = .ok (.putfield 9, 3) := by decide +kernel
theorem dX4_keep_17 : decode cX4_keep 17 = .ok (.iconst 0, 1) := by decide +kernel
theorem dX4_keep_18 : decode cX4_keep 18 = .ok (.istore_n 3, 1) := by decide +kernel
theorem dX4_keep_19 : decode cX4_keep 19 = .ok (.iload_n 3, 1) := by decide +kernel
theorem dX4_keep_20 : decode cX4_keep 20 = .ok (.bipush 24, 2) := by decide +kernel
theorem dX4_keep_22 : decode cX4_keep 22 = .ok (.if_icmp .ge 38, 3) := by decide +kernel
theorem dX4_keep_25 : decode cX4_keep 25 = .ok (.iload_n 3, 1) := by decide +kernel
theorem dX4_keep_26 : decode cX4_keep 26 = .ok (.iload_n 2, 1) := by decide +kernel
theorem dX4_keep_27 : decode cX4_keep 27 = .ok (.invokestatic 15, 3) := by decide +kernel
theorem dX4_keep_30 : decode cX4_keep 30 = .ok (.istore 4, 2) := by decide +kernel
theorem dX4_keep_32 : decode cX4_keep 32 = .ok (.aload_n 0, 1) := by decide +kernel
theorem dX4_keep_33 : decode cX4_keep 33 = .ok (.iload 4, 2) := by decide +kernel
theorem dX4_keep_35 : decode cX4_keep 35 = .ok (.invokevirtual 19, 3) := by decide +kernel
theorem dX4_keep_38 : decode cX4_keep 38 = .ok (.ifCond .eq 16, 3) := by decide +kernel
theorem dX4_keep_41 : decode cX4_keep 41 = .ok (.aload_n 0, 1) := by decide +kernel
theorem dX4_keep_42 : decode cX4_keep 42 = .ok (.getfield 9, 3) := by decide +kernel
theorem dX4_keep_45 : decode cX4_keep 45 = .ok (.iload 4, 2) := by decide +kernel
theorem dX4_keep_47 : decode cX4_keep 47 = .ok (.aload_n 1, 1) := by decide +kernel
theorem dX4_keep_48 : decode cX4_keep 48 = .ok (.iload_n 3, 1) := by decide +kernel
theorem dX4_keep_49 : decode cX4_keep 49 = .ok (.invokevirtual 23, 3) := by decide +kernel
theorem dX4_keep_52 : decode cX4_keep 52 = .ok (.l2i, 1) := by decide +kernel
theorem dX4_keep_53 : decode cX4_keep 53 = .ok (.iastore, 1) := by decide +kernel
theorem dX4_keep_54 : decode cX4_keep 54 = .ok (.iinc 3 1, 3) := by decide +kernel
theorem dX4_keep_57 : decode cX4_keep 57 = .ok (.goto (-38), 3) := by decide +kernel
theorem dX4_keep_60 : decode cX4_keep 60 = .ok (.return_, 1) := by decide +kernel
set_option maxRecDepth 20000 in
theorem ggX4_warmthAt_X4_placeOf : GoodIn wsX4_warmthAt wsX4_placeOf := goodIn_r _ [5] (by decide +kernel) (by decide +kernel)
set_option maxRecDepth 20000 in
theorem gX4_warmthAt_X4_placeOf : GoodIn wsX4_warmthAt (va_wsS RX4 15 yX4_placeOf wsX4_placeOf) := goodIn_app (goodIn_of _ (by decide +kernel)) ggX4_warmthAt_X4_placeOf
set_option maxRecDepth 20000 in
theorem ggX4_warmthAt_X4_isKept : GoodIn wsX4_warmthAt wsX4_isKept := goodIn_r _ [9, 1, 10] (by decide +kernel) (by decide +kernel)
set_option maxRecDepth 20000 in
theorem gX4_warmthAt_X4_isKept : GoodIn wsX4_warmthAt (wsV RX4 19 RX4 yX4_isKept wsX4_isKept) := goodIn_app (goodIn_of _ (by decide +kernel)) ggX4_warmthAt_X4_isKept
theorem dX4_warmthAt_0 : decode cX4_warmthAt 0 = .ok (.iload_n 1, 1) := by decide +kernel
theorem dX4_warmthAt_1 : decode cX4_warmthAt 1 = .ok (.iload_n 2, 1) := by decide +kernel
theorem dX4_warmthAt_2 : decode cX4_warmthAt 2 = .ok (.invokestatic 15, 3) := by decide +kernel
theorem dX4_warmthAt_5 : decode cX4_warmthAt 5 = .ok (.istore_n 3, 1) := by decide +kernel
theorem dX4_warmthAt_6 : decode cX4_warmthAt 6 = .ok (.aload_n 0, 1) := by decide +kernel
theorem dX4_warmthAt_7 : decode cX4_warmthAt 7 = .ok (.iload_n 3, 1) := by decide +kernel
theorem dX4_warmthAt_8 : decode cX4_warmthAt 8 = .ok (.invokevirtual 19, 3) := by decide +kernel
theorem dX4_warmthAt_11 : decode cX4_warmthAt 11 = .ok (.ifCond .eq 12, 3) := by decide +kernel
theorem dX4_warmthAt_14 : decode cX4_warmthAt 14 = .ok (.aload_n 0, 1) := by decide +kernel
theorem dX4_warmthAt_15 : decode cX4_warmthAt 15 = .ok (.getfield 9, 3) := by decide +kernel
theorem dX4_warmthAt_18 : decode cX4_warmthAt 18 = .ok (.iload_n 3, 1) := by decide +kernel
theorem dX4_warmthAt_19 : decode cX4_warmthAt 19 = .ok (.iaload, 1) := by decide +kernel
theorem dX4_warmthAt_20 : decode cX4_warmthAt 20 = .ok (.goto 4, 3) := by decide +kernel
theorem dX4_warmthAt_23 : decode cX4_warmthAt 23 = .ok (.iconst 0, 1) := by decide +kernel
theorem dX4_warmthAt_24 : decode cX4_warmthAt 24 = .ok (.ireturn, 1) := by decide +kernel
theorem dX4_placeOf_0 : decode cX4_placeOf 0 = .ok (.iload_n 1, 1) := by decide +kernel
theorem dX4_placeOf_1 : decode cX4_placeOf 1 = .ok (.iconst 1, 1) := by decide +kernel
theorem dX4_placeOf_2 : decode cX4_placeOf 2 = .ok (.isub, 1) := by decide +kernel
theorem dX4_placeOf_3 : decode cX4_placeOf 3 = .ok (.bipush 24, 2) := by decide +kernel
theorem dX4_placeOf_5 : decode cX4_placeOf 5 = .ok (.imul, 1) := by decide +kernel
theorem dX4_placeOf_6 : decode cX4_placeOf 6 = .ok (.iload_n 0, 1) := by decide +kernel
theorem dX4_placeOf_7 : decode cX4_placeOf 7 = .ok (.iadd, 1) := by decide +kernel
theorem dX4_placeOf_8 : decode cX4_placeOf 8 = .ok (.ireturn, 1) := by decide +kernel
theorem dX4_isKept_0 : decode cX4_isKept 0 = .ok (.iload_n 1, 1) := by decide +kernel
theorem dX4_isKept_1 : decode cX4_isKept 1 = .ok (.ifCond .lt 16, 3) := by decide +kernel
theorem dX4_isKept_4 : decode cX4_isKept 4 = .ok (.iload_n 1, 1) := by decide +kernel
theorem dX4_isKept_5 : decode cX4_isKept 5 = .ok (.aload_n 0, 1) := by decide +kernel
theorem dX4_isKept_6 : decode cX4_isKept 6 = .ok (.getfield 9, 3) := by decide +kernel
theorem dX4_isKept_9 : decode cX4_isKept 9 = .ok (.arraylength, 1) := by decide +kernel
theorem dX4_isKept_10 : decode cX4_isKept 10 = .ok (.if_icmp .ge 7, 3) := by decide +kernel
theorem dX4_isKept_13 : decode cX4_isKept 13 = .ok (.iconst 1, 1) := by decide +kernel
theorem dX4_isKept_14 : decode cX4_isKept 14 = .ok (.goto 4, 3) := by decide +kernel
theorem dX4_isKept_17 : decode cX4_isKept 17 = .ok (.iconst 0, 1) := by decide +kernel
theorem dX4_isKept_18 : decode cX4_isKept 18 = .ok (.ireturn, 1) := by decide +kernel
