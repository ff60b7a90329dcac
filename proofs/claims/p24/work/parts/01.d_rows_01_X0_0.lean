theorem dX0_init_0 : decode cX0_init 0 = .ok (.aload_n 0, 1) := by decide +kernel
theorem dX0_init_1 : decode cX0_init 1 = .ok (.invokespecial 3, 3) := by decide +kernel
theorem dX0_init_4 : decode cX0_init 4 = .ok (.aload_n 0, 1) := by decide +kernel
theorem dX0_init_5 : decode cX0_init 5 = .ok (.iconst 0, 1) := by decide +kernel
theorem dX0_init_6 : decode cX0_init 6 = .ok (.putfield 9, 3) := by decide +kernel
theorem dX0_init_9 : decode cX0_init 9 = .ok (.aload_n 0, 1) := by decide +kernel
theorem dX0_init_10 : decode cX0_init 10 = .ok (.sipush 900, 3) := by decide +kernel
theorem dX0_init_13 : decode cX0_init 13 = .ok (.newarray .int, 2) := by decide +kernel
theorem dX0_init_15 : decode cX0_init 15 = .ok (.putfield 15, 3) := by decide +kernel
theorem dX0_init_18 : decode cX0_init 18 = .ok (.aload_n 0, 1) := by decide +kernel
theorem dX0_init_19 : decode cX0_init 19 = .ok (.sipush 900, 3) := by decide +kernel
theorem dX0_init_22 : decode cX0_init 22 = .ok (.newarray .long, 2) := by decide +kernel
theorem dX0_init_24 : decode cX0_init 24 = .ok (.putfield 19, 3) := by decide +kernel
theorem dX0_init_27 : decode cX0_init 27 = .ok (.return_, 1) := by decide +kernel
theorem dX0_count_0 : decode cX0_count 0 = .ok (.aload_n 0, 1) := by decide +kernel
theorem dX0_count_1 : decode cX0_count 1 = .ok (.getfield 9, 3) := by decide +kernel
theorem dX0_count_4 : decode cX0_count 4 = .ok (.ireturn, 1) := by decide +kernel
theorem dX0_put_0 : decode cX0_put 0 = .ok (.aload_n 0, 1) := by decide +kernel
theorem dX0_put_1 : decode cX0_put 1 = .ok (.getfield 9, 3) := by decide +kernel
theorem dX0_put_4 : decode cX0_put 4 = .ok (.sipush 900, 3) := by decide +kernel
theorem dX0_put_7 : decode cX0_put 7 = .ok (.if_icmp .ge 33, 3) := by decide +kernel
theorem dX0_put_10 : decode cX0_put 10 = .ok (.aload_n 0, 1) := by decide +kernel
theorem dX0_put_11 : decode cX0_put 11 = .ok (.getfield 15, 3) := by decide +kernel
theorem dX0_put_14 : decode cX0_put 14 = .ok (.aload_n 0, 1) := by decide +kernel
theorem dX0_put_15 : decode cX0_put 15 = .ok (.getfield 9, 3) := by decide +kernel
theorem dX0_put_18 : decode cX0_put 18 = .ok (.iload_n 1, 1) := by decide +kernel
theorem dX0_put_19 : decode cX0_put 19 = .ok (.iastore, 1) := by decide +kernel
theorem dX0_put_20 : decode cX0_put 20 = .ok (.aload_n 0, 1) := by decide +kernel
theorem dX0_put_21 : decode cX0_put 21 = .ok (.getfield 19, 3) := by decide +kernel
theorem dX0_put_24 : decode cX0_put 24 = .ok (.aload_n 0, 1) := by decide +kernel
theorem dX0_put_25 : decode cX0_put 25 = .ok (.getfield 9, 3) := by decide +kernel
theorem dX0_put_28 : decode cX0_put 28 = .ok (.lload_n 2, 1) := by decide +kernel
theorem dX0_put_29 : decode cX0_put 29 = .ok (.lastore, 1) := by decide +kernel
theorem dX0_put_30 : decode cX0_put 30 = .ok (.aload_n 0, 1) := by decide +kernel
theorem dX0_put_31 : decode cX0_put 31 = .ok (.dup, 1) := by decide +kernel
theorem dX0_put_32 : decode cX0_put 32 = .ok (.getfield 9, 3) := by decide +kernel
theorem dX0_put_35 : decode cX0_put 35 = .ok (.iconst 1, 1) := by decide +kernel
theorem dX0_put_36 : decode cX0_put 36 = .ok (.iadd, 1) := by decide +kernel
theorem dX0_put_37 : decode cX0_put 37 = .ok (.putfield 9, 3) := by decide +kernel
theorem dX0_put_40 : decode cX0_put 40 = .ok (.return_, 1) := by decide +kernel
set_option maxRecDepth 20000 in
theorem ggX0_takeFirst_X0_toldFirst : GoodIn wsX0_takeFirst wsX0_toldFirst := goodIn_r _ [8, 1, 3, 9, 10, 11] (by decide +kernel) (by decide +kernel)
set_option maxRecDepth 20000 in
theorem gX0_takeFirst_X0_toldFirst : GoodIn wsX0_takeFirst (wsV RX0 23 RX0 yX0_toldFirst wsX0_toldFirst) := goodIn_app (goodIn_of _ (by decide +kernel)) ggX0_takeFirst_X0_toldFirst
theorem dX0_takeFirst_0 : decode cX0_takeFirst 0 = .ok (.aload_n 0, 1) := by decide +kernel
theorem dX0_takeFirst_1 : decode cX0_takeFirst 1 = .ok (.invokevirtual 23, 3) := by decide +kernel
theorem dX0_takeFirst_4 : decode cX0_takeFirst 4 = .ok (.istore_n 1, 1) := by decide +kernel
theorem dX0_takeFirst_5 : decode cX0_takeFirst 5 = .ok (.iload_n 1, 1) := by decide +kernel
theorem dX0_takeFirst_6 : decode cX0_takeFirst 6 = .ok (.ifCond .lt 18, 3) := by decide +kernel
theorem dX0_takeFirst_9 : decode cX0_takeFirst 9 = .ok (.iload_n 1, 1) := by decide +kernel
theorem dX0_takeFirst_10 : decode cX0_takeFirst 10 = .ok (.aload_n 0, 1) := by decide +kernel
theorem dX0_takeFirst_11 : decode cX0_takeFirst 11 = .ok (.getfield 9, 3) := by decide +kernel
theorem dX0_takeFirst_14 : decode cX0_takeFirst 14 = .ok (.if_icmp .ge 10, 3) := by decide +kernel
theorem dX0_takeFirst_17 : decode cX0_takeFirst 17 = .ok (.iload_n 1, 1) := by decide +kernel
theorem dX0_takeFirst_18 : decode cX0_takeFirst 18 = .ok (.sipush 900, 3) := by decide +kernel
theorem dX0_takeFirst_21 : decode cX0_takeFirst 21 = .ok (.if_icmp .lt 5, 3) := by decide +kernel
theorem dX0_takeFirst_24 : decode cX0_takeFirst 24 = .ok (.iconst (-1), 1) := by decide +kernel
theorem dX0_takeFirst_25 : decode cX0_takeFirst 25 = .ok (.ireturn, 1) := by decide +kernel
theorem dX0_takeFirst_26 : decode cX0_takeFirst 26 = .ok (.aload_n 0, 1) := by decide +kernel
theorem dX0_takeFirst_27 : decode cX0_takeFirst 27 = .ok (.getfield 15, 3) := by decide +kernel
theorem dX0_takeFirst_30 : decode cX0_takeFirst 30 = .ok (.iload_n 1, 1) := by decide +kernel
theorem dX0_takeFirst_31 : decode cX0_takeFirst 31 = .ok (.iaload, 1) := by decide +kernel
theorem dX0_takeFirst_32 : decode cX0_takeFirst 32 = .ok (.istore_n 2, 1) := by decide +kernel
theorem dX0_takeFirst_33 : decode cX0_takeFirst 33 = .ok (.iload_n 1, 1) := by decide +kernel
theorem dX0_takeFirst_34 : decode cX0_takeFirst 34 = .ok (.istore_n 3, 1) := by decide +kernel
theorem dX0_takeFirst_35 : decode cX0_takeFirst 35 = .ok (.iload_n 3, 1) := by decide +kernel
theorem dX0_takeFirst_36 : decode cX0_takeFirst 36 = .ok (.iconst 1, 1) := by decide +kernel
theorem dX0_takeFirst_37 : decode cX0_takeFirst 37 = .ok (.iadd, 1) := by decide +kernel
theorem dX0_takeFirst_38 : decode cX0_takeFirst 38 = .ok (.aload_n 0, 1) := by decide +kernel
theorem dX0_takeFirst_39 : decode cX0_takeFirst 39 = .ok (.getfield 9, 3) := by decide +kernel
theorem dX0_takeFirst_42 : decode cX0_takeFirst 42 = .ok (.if_icmp .ge 46, 3) := by decide +kernel
theorem dX0_takeFirst_45 : decode cX0_takeFirst 45 = .ok (.iload_n 3, 1) := by decide +kernel
theorem dX0_takeFirst_46 : decode cX0_takeFirst 46 = .ok (.iconst 1, 1) := by decide +kernel
theorem dX0_takeFirst_47 : decode cX0_takeFirst 47 = .ok (.iadd, 1) := by decide +kernel
theorem dX0_takeFirst_48 : decode cX0_takeFirst 48 = .ok (.sipush 900, 3) := by decide +kernel
theorem dX0_takeFirst_51 : decode cX0_takeFirst 51 = .ok (.if_icmp .ge 37, 3) := by decide +kernel
theorem dX0_takeFirst_54 : decode cX0_takeFirst 54 = .ok (.aload_n 0, 1) := by decide +kernel
theorem dX0_takeFirst_55 : decode cX0_takeFirst 55 = .ok (.getfield 15, 3) := by decide +kernel
theorem dX0_takeFirst_58 : decode cX0_takeFirst 58 = .ok (.iload_n 3, 1) := by decide +kernel
theorem dX0_takeFirst_59 : decode cX0_takeFirst 59 = .ok (.aload_n 0, 1) := by decide +kernel
theorem dX0_takeFirst_60 : decode cX0_takeFirst 60 = .ok (.getfield 15, 3) := by decide +kernel
theorem dX0_takeFirst_63 : decode cX0_takeFirst 63 = .ok (.iload_n 3, 1) := by decide +kernel
theorem dX0_takeFirst_64 : decode cX0_takeFirst 64 = .ok (.iconst 1, 1) := by decide +kernel
theorem dX0_takeFirst_65 : decode cX0_takeFirst 65 = .ok (.iadd, 1) := by decide +kernel
theorem dX0_takeFirst_66 : decode cX0_takeFirst 66 = .ok (.iaload, 1) := by decide +kernel
theorem dX0_takeFirst_67 : decode cX0_takeFirst 67 = .ok (.iastore, 1) := by decide +kernel
theorem dX0_takeFirst_68 : decode cX0_takeFirst 68 = .ok (.aload_n 0, 1) := by decide +kernel
theorem dX0_takeFirst_69 : decode cX0_takeFirst 69 = .ok (.getfield 19, 3) := by decide +kernel
theorem dX0_takeFirst_72 : decode cX0_takeFirst 72 = .ok (.iload_n 3, 1) := by decide +kernel
theorem dX0_takeFirst_73 : decode cX0_takeFirst 73 = .ok (.aload_n 0, 1) := by decide +kernel
theorem dX0_takeFirst_74 : decode cX0_takeFirst 74 = .ok (.getfield 19, 3) := by decide +kernel
theorem dX0_takeFirst_77 : decode cX0_takeFirst 77 = .ok (.iload_n 3, 1) := by decide +kernel
theorem dX0_takeFirst_78 : decode cX0_takeFirst 78 = .ok (.iconst 1, 1) := by decide +kernel
theorem dX0_takeFirst_79 : decode cX0_takeFirst 79 = .ok (.iadd, 1) := by decide +kernel
theorem dX0_takeFirst_80 : decode cX0_takeFirst 80 = .ok (.laload, 1) := by decide +kernel
theorem dX0_takeFirst_81 : decode cX0_takeFirst 81 = .ok (.lastore, 1) := by decide +kernel
theorem dX0_takeFirst_82 : decode cX0_takeFirst 82 = .ok (.iinc 3 1, 3) := by decide +kernel
theorem dX0_takeFirst_85 : decode cX0_takeFirst 85 = .ok (.goto (-50), 3) := by decide +kernel
theorem dX0_takeFirst_88 : decode cX0_takeFirst 88 = .ok (.aload_n 0, 1) := by decide +kernel
theorem dX0_takeFirst_89 : decode cX0_takeFirst 89 = .ok (.dup, 1) := by decide +kernel
theorem dX0_takeFirst_90 : decode cX0_takeFirst 90 = .ok (.getfield 9, 3) := by decide +kernel
theorem dX0_takeFirst_93 : decode cX0_takeFirst 93 = .ok (.iconst 1, 1) := by decide +kernel
theorem dX0_takeFirst_94 : decode cX0_takeFirst 94 = .ok (.isub, 1) := by decide +kernel
theorem dX0_takeFirst_95 : decode cX0_takeFirst 95 = .ok (.putfield 9, 3) := by decide +kernel
theorem dX0_takeFirst_98 : decode cX0_takeFirst 98 = .ok (.iload_n 2, 1) := by decide +kernel
theorem dX0_takeFirst_99 : decode cX0_takeFirst 99 = .ok (.ireturn, 1) := by decide +kernel
theorem dX0_toldFirst_0 : decode cX0_toldFirst 0 = .ok (.iconst (-1), 1) := by decide +kernel
theorem dX0_toldFirst_1 : decode cX0_toldFirst 1 = .ok (.istore_n 1, 1) := by decide +kernel
theorem dX0_toldFirst_2 : decode cX0_toldFirst 2 = .ok (.lconst 0, 1) := by decide +kernel
theorem dX0_toldFirst_3 : decode cX0_toldFirst 3 = .ok (.lstore_n 2, 1) := by decide +kernel
theorem dX0_toldFirst_4 : decode cX0_toldFirst 4 = .ok (.iconst 0, 1) := by decide +kernel
theorem dX0_toldFirst_5 : decode cX0_toldFirst 5 = .ok (.istore 4, 2) := by decide +kernel
theorem dX0_toldFirst_7 : decode cX0_toldFirst 7 = .ok (.iload 4, 2) := by decide +kernel
theorem dX0_toldFirst_9 : decode cX0_toldFirst 9 = .ok (.aload_n 0, 1) := by decide +kernel
theorem dX0_toldFirst_10 : decode cX0_toldFirst 10 = .ok (.getfield 9, 3) := by decide +kernel
theorem dX0_toldFirst_13 : decode cX0_toldFirst 13 = .ok (.if_icmp .ge 40, 3) := by decide +kernel
theorem dX0_toldFirst_16 : decode cX0_toldFirst 16 = .ok (.iload 4, 2) := by decide +kernel
theorem dX0_toldFirst_18 : decode cX0_toldFirst 18 = .ok (.sipush 900, 3) := by decide +kernel
theorem dX0_toldFirst_21 : decode cX0_toldFirst 21 = .ok (.if_icmp .ge 32, 3) := by decide +kernel
theorem dX0_toldFirst_24 : decode cX0_toldFirst 24 = .ok (.aload_n 0, 1) := by decide +kernel
theorem dX0_toldFirst_25 : decode cX0_toldFirst 25 = .ok (.getfield 19, 3) := by decide +kernel
theorem dX0_toldFirst_28 : decode cX0_toldFirst 28 = .ok (.iload 4, 2) := by decide +kernel
theorem dX0_toldFirst_30 : decode cX0_toldFirst 30 = .ok (.laload, 1) := by decide +kernel
theorem dX0_toldFirst_31 : decode cX0_toldFirst 31 = .ok (.lload_n 2, 1) := by decide +kernel
theorem dX0_toldFirst_32 : decode cX0_toldFirst 32 = .ok (.lcmp, 1) := by decide +kernel
theorem dX0_toldFirst_33 : decode cX0_toldFirst 33 = .ok (.ifCond .le 14, 3) := by decide +kernel
theorem dX0_toldFirst_36 : decode cX0_toldFirst 36 = .ok (.iload 4, 2) := by decide +kernel
theorem dX0_toldFirst_38 : decode cX0_toldFirst 38 = .ok (.istore_n 1, 1) := by decide +kernel
theorem dX0_toldFirst_39 : decode cX0_toldFirst 39 = .ok (.aload_n 0, 1) := by decide +kernel
theorem dX0_toldFirst_40 : decode cX0_toldFirst 40 = .ok (.getfield 19, 3) := by decide +kernel
theorem dX0_toldFirst_43 : decode cX0_toldFirst 43 = .ok (.iload 4, 2) := by decide +kernel
theorem dX0_toldFirst_45 : decode cX0_toldFirst 45 = .ok (.laload, 1) := by decide +kernel
theorem dX0_toldFirst_46 : decode cX0_toldFirst 46 = .ok (.lstore_n 2, 1) := by decide +kernel
theorem dX0_toldFirst_47 : decode cX0_toldFirst 47 = .ok (.iinc 4 1, 3) := by decide +kernel
theorem dX0_toldFirst_50 : decode cX0_toldFirst 50 = .ok (.goto (-43), 3) := by decide +kernel
theorem dX0_toldFirst_53 : decode cX0_toldFirst 53 = .ok (.iload_n 1, 1) := by decide +kernel
theorem dX0_toldFirst_54 : decode cX0_toldFirst 54 = .ok (.ireturn, 1) := by decide +kernel
