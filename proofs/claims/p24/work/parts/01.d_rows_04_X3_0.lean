theorem dX3_init_0 : decode cX3_init 0 = .ok (.aload_n 0, 1) := by decide +kernel
theorem dX3_init_1 : decode cX3_init 1 = .ok (.invokespecial 3, 3) := by decide +kernel
theorem dX3_init_4 : decode cX3_init 4 = .ok (.aload_n 0, 1) := by decide +kernel
theorem dX3_init_5 : decode cX3_init 5 = .ok (.bipush 24, 2) := by decide +kernel
theorem dX3_init_7 : decode cX3_init 7 = .ok (.newarray .long, 2) := by decide +kernel
theorem dX3_init_9 : decode cX3_init 9 = .ok (.putfield 9, 3) := by decide +kernel
theorem dX3_init_12 : decode cX3_init 12 = .ok (.aload_n 0, 1) := by decide +kernel
theorem dX3_init_13 : decode cX3_init 13 = .ok (.bipush 24, 2) := by decide +kernel
theorem dX3_init_15 : decode cX3_init 15 = .ok (.newarray .long, 2) := by decide +kernel
theorem dX3_init_17 : decode cX3_init 17 = .ok (.putfield 15, 3) := by decide +kernel
theorem dX3_init_20 : decode cX3_init 20 = .ok (.return_, 1) := by decide +kernel
theorem dX3_isThere_0 : decode cX3_isThere 0 = .ok (.iload_n 0, 1) := by decide +kernel
theorem dX3_isThere_1 : decode cX3_isThere 1 = .ok (.ifCond .lt 13, 3) := by decide +kernel
theorem dX3_isThere_4 : decode cX3_isThere 4 = .ok (.iload_n 0, 1) := by decide +kernel
theorem dX3_isThere_5 : decode cX3_isThere 5 = .ok (.bipush 24, 2) := by decide +kernel
theorem dX3_isThere_7 : decode cX3_isThere 7 = .ok (.if_icmp .ge 7, 3) := by decide +kernel
theorem dX3_isThere_10 : decode cX3_isThere 10 = .ok (.iconst 1, 1) := by decide +kernel
theorem dX3_isThere_11 : decode cX3_isThere 11 = .ok (.goto 4, 3) := by decide +kernel
theorem dX3_isThere_14 : decode cX3_isThere 14 = .ok (.iconst 0, 1) := by decide +kernel
theorem dX3_isThere_15 : decode cX3_isThere 15 = .ok (.ireturn, 1) := by decide +kernel
set_option maxRecDepth 20000 in
theorem ggX3_flowOf_X3_isThere : GoodIn wsX3_flowOf wsX3_isThere := goodIn_r _ [5] (by decide +kernel) (by decide +kernel)
set_option maxRecDepth 20000 in
theorem gX3_flowOf_X3_isThere : GoodIn wsX3_flowOf (va_wsS RX3 18 yX3_isThere wsX3_isThere) := goodIn_app (goodIn_of _ (by decide +kernel)) ggX3_flowOf_X3_isThere
theorem dX3_flowOf_0 : decode cX3_flowOf 0 = .ok (.iload_n 1, 1) := by decide +kernel
theorem dX3_flowOf_1 : decode cX3_flowOf 1 = .ok (.invokestatic 18, 3) := by decide +kernel
theorem dX3_flowOf_4 : decode cX3_flowOf 4 = .ok (.ifCond .eq 12, 3) := by decide +kernel
theorem dX3_flowOf_7 : decode cX3_flowOf 7 = .ok (.aload_n 0, 1) := by decide +kernel
theorem dX3_flowOf_8 : decode cX3_flowOf 8 = .ok (.getfield 9, 3) := by decide +kernel
theorem dX3_flowOf_11 : decode cX3_flowOf 11 = .ok (.iload_n 1, 1) := by decide +kernel
theorem dX3_flowOf_12 : decode cX3_flowOf 12 = .ok (.laload, 1) := by decide +kernel
theorem dX3_flowOf_13 : decode cX3_flowOf 13 = .ok (.goto 4, 3) := by decide +kernel
theorem dX3_flowOf_16 : decode cX3_flowOf 16 = .ok (.lconst 0, 1) := by decide +kernel
theorem dX3_flowOf_17 : decode cX3_flowOf 17 = .ok (.lreturn, 1) := by decide +kernel
set_option maxRecDepth 20000 in
theorem ggX3_heatOf_X3_isThere : GoodIn wsX3_heatOf wsX3_isThere := goodIn_r _ [5] (by decide +kernel) (by decide +kernel)
set_option maxRecDepth 20000 in
theorem gX3_heatOf_X3_isThere : GoodIn wsX3_heatOf (va_wsS RX3 18 yX3_isThere wsX3_isThere) := goodIn_app (goodIn_of _ (by decide +kernel)) ggX3_heatOf_X3_isThere
theorem dX3_heatOf_0 : decode cX3_heatOf 0 = .ok (.iload_n 1, 1) := by decide +kernel
theorem dX3_heatOf_1 : decode cX3_heatOf 1 = .ok (.invokestatic 18, 3) := by decide +kernel
theorem dX3_heatOf_4 : decode cX3_heatOf 4 = .ok (.ifCond .eq 12, 3) := by decide +kernel
theorem dX3_heatOf_7 : decode cX3_heatOf 7 = .ok (.aload_n 0, 1) := by decide +kernel
theorem dX3_heatOf_8 : decode cX3_heatOf 8 = .ok (.getfield 15, 3) := by decide +kernel
theorem dX3_heatOf_11 : decode cX3_heatOf 11 = .ok (.iload_n 1, 1) := by decide +kernel
theorem dX3_heatOf_12 : decode cX3_heatOf 12 = .ok (.laload, 1) := by decide +kernel
theorem dX3_heatOf_13 : decode cX3_heatOf 13 = .ok (.goto 4, 3) := by decide +kernel
theorem dX3_heatOf_16 : decode cX3_heatOf 16 = .ok (.lconst 0, 1) := by decide +kernel
theorem dX3_heatOf_17 : decode cX3_heatOf 17 = .ok (.lreturn, 1) := by decide +kernel
set_option maxRecDepth 20000 in
theorem ggX3_warmthOf_X3_isThere : GoodIn wsX3_warmthOf wsX3_isThere := goodIn_r _ [7] (by decide +kernel) (by decide +kernel)
set_option maxRecDepth 20000 in
theorem gX3_warmthOf_X3_isThere : GoodIn wsX3_warmthOf (va_wsS RX3 18 yX3_isThere wsX3_isThere) := goodIn_app (goodIn_of _ (by decide +kernel)) ggX3_warmthOf_X3_isThere
theorem dX3_warmthOf_0 : decode cX3_warmthOf 0 = .ok (.iload_n 1, 1) := by decide +kernel
theorem dX3_warmthOf_1 : decode cX3_warmthOf 1 = .ok (.invokestatic 18, 3) := by decide +kernel
theorem dX3_warmthOf_4 : decode cX3_warmthOf 4 = .ok (.ifCond .eq 14, 3) := by decide +kernel
theorem dX3_warmthOf_7 : decode cX3_warmthOf 7 = .ok (.aload_n 0, 1) := by decide +kernel
theorem dX3_warmthOf_8 : decode cX3_warmthOf 8 = .ok (.getfield 9, 3) := by decide +kernel
theorem dX3_warmthOf_11 : decode cX3_warmthOf 11 = .ok (.iload_n 1, 1) := by decide +kernel
theorem dX3_warmthOf_12 : decode cX3_warmthOf 12 = .ok (.laload, 1) := by decide +kernel
theorem dX3_warmthOf_13 : decode cX3_warmthOf 13 = .ok (.lconst 0, 1) := by decide +kernel
theorem dX3_warmthOf_14 : decode cX3_warmthOf 14 = .ok (.lcmp, 1) := by decide +kernel
theorem dX3_warmthOf_15 : decode cX3_warmthOf 15 = .ok (.ifCond .ne 5, 3) := by decide +kernel
theorem dX3_warmthOf_18 : decode cX3_warmthOf 18 = .ok (.lconst 0, 1) := by decide +kernel
theorem dX3_warmthOf_19 : decode cX3_warmthOf 19 = .ok (.lreturn, 1) := by decide +kernel
theorem dX3_warmthOf_20 : decode cX3_warmthOf 20 = .ok (.ldc2_w 22, 3) := by decide +kernel
theorem dX3_warmthOf_23 : decode cX3_warmthOf 23 = .ok (.aload_n 0, 1) := by decide +kernel
theorem dX3_warmthOf_24 : decode cX3_warmthOf 24 = .ok (.getfield 15, 3) := by decide +kernel
theorem dX3_warmthOf_27 : decode cX3_warmthOf 27 = .ok (.iload_n 1, 1) := by decide +kernel
theorem dX3_warmthOf_28 : decode cX3_warmthOf 28 = .ok (.laload, 1) := by decide +kernel
theorem dX3_warmthOf_29 : decode cX3_warmthOf 29 = .ok (.lmul, 1) := by decide +kernel
theorem dX3_warmthOf_30 : decode cX3_warmthOf 30 = .ok (.aload_n 0, 1) := by decide +kernel
theorem dX3_warmthOf_31 : decode cX3_warmthOf 31 = .ok (.getfield 9, 3) := by decide +kernel
theorem dX3_warmthOf_34 : decode cX3_warmthOf 34 = .ok (.iload_n 1, 1) := by decide +kernel
theorem dX3_warmthOf_35 : decode cX3_warmthOf 35 = .ok (.laload, 1) := by decide +kernel
theorem dX3_warmthOf_36 : decode cX3_warmthOf 36 = .ok (.ldiv, 1) := by decide +kernel
theorem dX3_warmthOf_37 : decode cX3_warmthOf 37 = .ok (.lreturn, 1) := by decide +kernel
set_option maxRecDepth 20000 in
theorem ggX3_fill_X3_isThere : GoodIn wsX3_fill wsX3_isThere := goodIn_r _ [6] (by decide +kernel) (by decide +kernel)
set_option maxRecDepth 20000 in
theorem gX3_fill_X3_isThere : GoodIn wsX3_fill (va_wsS RX3 18 yX3_isThere wsX3_isThere) := goodIn_app (goodIn_of _ (by decide +kernel)) ggX3_fill_X3_isThere
theorem dX3_fill_0 : decode cX3_fill 0 = .ok (.iload_n 1, 1) := by decide +kernel
theorem dX3_fill_1 : decode cX3_fill 1 = .ok (.invokestatic 18, 3) := by decide +kernel
theorem dX3_fill_4 : decode cX3_fill 4 = .ok (.ifCond .eq 18, 3) := by decide +kernel
theorem dX3_fill_7 : decode cX3_fill 7 = .ok (.aload_n 0, 1) := by decide +kernel
theorem dX3_fill_8 : decode cX3_fill 8 = .ok (.getfield 9, 3) := by decide +kernel
theorem dX3_fill_11 : decode cX3_fill 11 = .ok (.iload_n 1, 1) := by decide +kernel
theorem dX3_fill_12 : decode cX3_fill 12 = .ok (.lload_n 2, 1) := by decide +kernel
theorem dX3_fill_13 : decode cX3_fill 13 = .ok (.lastore, 1) := by decide +kernel
theorem dX3_fill_14 : decode cX3_fill 14 = .ok (.aload_n 0, 1) := by decide +kernel
theorem dX3_fill_15 : decode cX3_fill 15 = .ok (.getfield 15, 3) := by decide +kernel
theorem dX3_fill_18 : decode cX3_fill 18 = .ok (.iload_n 1, 1) := by decide +kernel
theorem dX3_fill_19 : decode cX3_fill 19 = .ok (.lload 4, 2) := by decide +kernel
theorem dX3_fill_21 : decode cX3_fill 21 = .ok (.lastore, 1) := by decide +kernel
theorem dX3_fill_22 : decode cX3_fill 22 = .ok (.return_, 1) := by decide +kernel
theorem dX3_copyFrom_0 : decode cX3_copyFrom 0 = .ok (.iconst 0, 1) := by decide +kernel
theorem dX3_copyFrom_1 : decode cX3_copyFrom 1 = .ok (.istore_n 2, 1) := by decide +kernel
theorem dX3_copyFrom_2 : decode cX3_copyFrom 2 = .ok (.iload_n 2, 1) := by decide +kernel
theorem dX3_copyFrom_3 : decode cX3_copyFrom 3 = .ok (.bipush 24, 2) := by decide +kernel
theorem dX3_copyFrom_5 : decode cX3_copyFrom 5 = .ok (.if_icmp .ge 33, 3) := by decide +kernel
theorem dX3_copyFrom_8 : decode cX3_copyFrom 8 = .ok (.aload_n 0, 1) := by decide +kernel
theorem dX3_copyFrom_9 : decode cX3_copyFrom 9 = .ok (.getfield 9, 3) := by decide +kernel
theorem dX3_copyFrom_12 : decode cX3_copyFrom 12 = .ok (.iload_n 2, 1) := by decide +kernel
theorem dX3_copyFrom_13 : decode cX3_copyFrom 13 = .ok (.aload_n 1, 1) := by decide +kernel
theorem dX3_copyFrom_14 : decode cX3_copyFrom 14 = .ok (.getfield 9, 3) := by decide +kernel
theorem dX3_copyFrom_17 : decode cX3_copyFrom 17 = .ok (.iload_n 2, 1) := by decide +kernel
theorem dX3_copyFrom_18 : decode cX3_copyFrom 18 = .ok (.laload, 1) := by decide +kernel
theorem dX3_copyFrom_19 : decode cX3_copyFrom 19 = .ok (.lastore, 1) := by decide +kernel
theorem dX3_copyFrom_20 : decode cX3_copyFrom 20 = .ok (.aload_n 0, 1) := by decide +kernel
theorem dX3_copyFrom_21 : decode cX3_copyFrom 21 = .ok (.getfield 15, 3) := by decide +kernel
theorem dX3_copyFrom_24 : decode cX3_copyFrom 24 = .ok (.iload_n 2, 1) := by decide +kernel
theorem dX3_copyFrom_25 : decode cX3_copyFrom 25 = .ok (.aload_n 1, 1) := by decide +kernel
theorem dX3_copyFrom_26 : decode cX3_copyFrom 26 = .ok (.getfield 15, 3) := by decide +kernel
theorem dX3_copyFrom_29 : decode cX3_copyFrom 29 = .ok (.iload_n 2, 1) := by decide +kernel
theorem dX3_copyFrom_30 : decode cX3_copyFrom 30 = .ok (.laload, 1) := by decide +kernel
theorem dX3_copyFrom_31 : decode cX3_copyFrom 31 = .ok (.lastore, 1) := by decide +kernel
theorem dX3_copyFrom_32 : decode cX3_copyFrom 32 = .ok (.iinc 2 1, 3) := by decide +kernel
theorem dX3_copyFrom_35 : decode cX3_copyFrom 35 = .ok (.goto (-33), 3) := by decide +kernel
theorem dX3_copyFrom_38 : decode cX3_copyFrom 38 = .ok (.return_, 1) := by decide +kernel
