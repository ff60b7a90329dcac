theorem dX1_init_0 : decode cX1_init 0 = .ok (.aload_n 0, 1) := by decide +kernel
theorem dX1_init_1 : decode cX1_init 1 = .ok (.invokespecial 3, 3) := by decide +kernel
theorem dX1_init_4 : decode cX1_init 4 = .ok (.aload_n 0, 1) := by decide +kernel
theorem dX1_init_5 : decode cX1_init 5 = .ok (.iconst 0, 1) := by decide +kernel
theorem dX1_init_6 : decode cX1_init 6 = .ok (.putfield 9, 3) := by decide +kernel
theorem dX1_init_9 : decode cX1_init 9 = .ok (.aload_n 0, 1) := by decide +kernel
theorem dX1_init_10 : decode cX1_init 10 = .ok (.bipush 6, 2) := by decide +kernel
theorem dX1_init_12 : decode cX1_init 12 = .ok (.newarray .boolean, 2) := by decide +kernel
theorem dX1_init_14 : decode cX1_init 14 = .ok (.putfield 15, 3) := by decide +kernel
theorem dX1_init_17 : decode cX1_init 17 = .ok (.aload_n 0, 1) := by decide +kernel
theorem dX1_init_18 : decode cX1_init 18 = .ok (.bipush 6, 2) := by decide +kernel
theorem dX1_init_20 : decode cX1_init 20 = .ok (.newarray .int, 2) := by decide +kernel
theorem dX1_init_22 : decode cX1_init 22 = .ok (.putfield 19, 3) := by decide +kernel
theorem dX1_init_25 : decode cX1_init 25 = .ok (.aload_n 0, 1) := by decide +kernel
theorem dX1_init_26 : decode cX1_init 26 = .ok (.bipush 6, 2) := by decide +kernel
theorem dX1_init_28 : decode cX1_init 28 = .ok (.newarray .int, 2) := by decide +kernel
theorem dX1_init_30 : decode cX1_init 30 = .ok (.putfield 23, 3) := by decide +kernel
theorem dX1_init_33 : decode cX1_init 33 = .ok (.aload_n 0, 1) := by decide +kernel
theorem dX1_init_34 : decode cX1_init 34 = .ok (.bipush 6, 2) := by decide +kernel
theorem dX1_init_36 : decode cX1_init 36 = .ok (.newarray .int, 2) := by decide +kernel
theorem dX1_init_38 : decode cX1_init 38 = .ok (.putfield 26, 3) := by decide +kernel
theorem dX1_init_41 : decode cX1_init 41 = .ok (.aload_n 0, 1) := by decide +kernel
theorem dX1_init_42 : decode cX1_init 42 = .ok (.bipush 6, 2) := by decide +kernel
theorem dX1_init_44 : decode cX1_init 44 = .ok (.newarray .int, 2) := by decide +kernel
theorem dX1_init_46 : decode cX1_init 46 = .ok (.putfield 29, 3) := by decide +kernel
theorem dX1_init_49 : decode cX1_init 49 = .ok (.aload_n 0, 1) := by decide +kernel
theorem dX1_init_50 : decode cX1_init 50 = .ok (.bipush 6, 2) := by decide +kernel
theorem dX1_init_52 : decode cX1_init 52 = .ok (.newarray .int, 2) := by decide +kernel
theorem dX1_init_54 : decode cX1_init 54 = .ok (.putfield 32, 3) := by decide +kernel
theorem dX1_init_57 : decode cX1_init 57 = .ok (.aload_n 0, 1) := by decide +kernel
theorem dX1_init_58 : decode cX1_init 58 = .ok (.bipush 6, 2) := by decide +kernel
theorem dX1_init_60 : decode cX1_init 60 = .ok (.newarray .int, 2) := by decide +kernel
theorem dX1_init_62 : decode cX1_init 62 = .ok (.putfield 35, 3) := by decide +kernel
theorem dX1_init_65 : decode cX1_init 65 = .ok (.aload_n 0, 1) := by decide +kernel
theorem dX1_init_66 : decode cX1_init 66 = .ok (.bipush 6, 2) := by decide +kernel
theorem dX1_init_68 : decode cX1_init 68 = .ok (.newarray .int, 2) := by decide +kernel
theorem dX1_init_70 : decode cX1_init 70 = .ok (.putfield 38, 3) := by decide +kernel
theorem dX1_init_73 : decode cX1_init 73 = .ok (.aload_n 0, 1) := by decide +kernel
theorem dX1_init_74 : decode cX1_init 74 = .ok (.bipush 6, 2) := by decide +kernel
theorem dX1_init_76 : decode cX1_init 76 = .ok (.newarray .boolean, 2) := by decide +kernel
theorem dX1_init_78 : decode cX1_init 78 = .ok (.putfield 41, 3) := by decide +kernel
theorem dX1_init_81 : decode cX1_init 81 = .ok (.aload_n 0, 1) := by decide +kernel
theorem dX1_init_82 : decode cX1_init 82 = .ok (.bipush 6, 2) := by decide +kernel
theorem dX1_init_84 : decode cX1_init 84 = .ok (.newarray .long, 2) := by decide +kernel
theorem dX1_init_86 : decode cX1_init 86 = .ok (.putfield 44, 3) := by decide +kernel
theorem dX1_init_89 : decode cX1_init 89 = .ok (.aload_n 0, 1) := by decide +kernel
theorem dX1_init_90 : decode cX1_init 90 = .ok (.bipush 6, 2) := by decide +kernel
theorem dX1_init_92 : decode cX1_init 92 = .ok (.newarray .long, 2) := by decide +kernel
theorem dX1_init_94 : decode cX1_init 94 = .ok (.putfield 48, 3) := by decide +kernel
theorem dX1_init_97 : decode cX1_init 97 = .ok (.aload_n 0, 1) := by decide +kernel
theorem dX1_init_98 : decode cX1_init 98 = .ok (.bipush 6, 2) := by decide +kernel
theorem dX1_init_100 : decode cX1_init 100 = .ok (.newarray .long, 2) := by decide +kernel
theorem dX1_init_102 : decode cX1_init 102 = .ok (.putfield 51, 3) := by decide +kernel
theorem dX1_init_105 : decode cX1_init 105 = .ok (.aload_n 0, 1) := by decide +kernel
theorem dX1_init_106 : decode cX1_init 106 = .ok (.bipush 6, 2) := by decide +kernel
theorem dX1_init_108 : decode cX1_init 108 = .ok (.newarray .long, 2) := by decide +kernel
theorem dX1_init_110 : decode cX1_init 110 = .ok (.putfield 54, 3) := by decide +kernel
theorem dX1_init_113 : decode cX1_init 113 = .ok (.aload_n 0, 1) := by decide +kernel
theorem dX1_init_114 : decode cX1_init 114 = .ok (.bipush 6, 2) := by decide +kernel
theorem dX1_init_116 : decode cX1_init 116 = .ok (.newarray .long, 2) := by decide +kernel
theorem dX1_init_118 : decode cX1_init 118 = .ok (.putfield 57, 3) := by decide +kernel
theorem dX1_init_121 : decode cX1_init 121 = .ok (.return_, 1) := by decide +kernel
theorem dX1_count_0 : decode cX1_count 0 = .ok (.aload_n 0, 1) := by decide +kernel
theorem dX1_count_1 : decode cX1_count 1 = .ok (.getfield 9, 3) := by decide +kernel
theorem dX1_count_4 : decode cX1_count 4 = .ok (.ireturn, 1) := by decide +kernel
theorem dX1_isMade_0 : decode cX1_isMade 0 = .ok (.iload_n 1, 1) := by decide +kernel
theorem dX1_isMade_1 : decode cX1_isMade 1 = .ok (.ifCond .lt 21, 3) := by decide +kernel
theorem dX1_isMade_4 : decode cX1_isMade 4 = .ok (.iload_n 1, 1) := by decide +kernel
theorem dX1_isMade_5 : decode cX1_isMade 5 = .ok (.aload_n 0, 1) := by decide +kernel
theorem dX1_isMade_6 : decode cX1_isMade 6 = .ok (.getfield 9, 3) := by decide +kernel
theorem dX1_isMade_9 : decode cX1_isMade 9 = .ok (.if_icmp .ge 13, 3) := by decide +kernel
theorem dX1_isMade_12 : decode cX1_isMade 12 = .ok (.iload_n 1, 1) := by decide +kernel
theorem dX1_isMade_13 : decode cX1_isMade 13 = .ok (.bipush 6, 2) := by decide +kernel
theorem dX1_isMade_15 : decode cX1_isMade 15 = .ok (.if_icmp .ge 7, 3) := by decide +kernel
theorem dX1_isMade_18 : decode cX1_isMade 18 = .ok (.iconst 1, 1) := by decide +kernel
theorem dX1_isMade_19 : decode cX1_isMade 19 = .ok (.goto 4, 3) := by decide +kernel
theorem dX1_isMade_22 : decode cX1_isMade 22 = .ok (.iconst 0, 1) := by decide +kernel
theorem dX1_isMade_23 : decode cX1_isMade 23 = .ok (.ireturn, 1) := by decide +kernel
set_option maxRecDepth 20000 in
theorem ggX1_addMeasuring_X1_add : GoodIn wsX1_addMeasuring wsX1_add := goodIn_r _ [9, 10, 11, 12, 13, 14, 19, 20, 21, 22, 23, 24, 25, 26, 27, 28, 29, 30, 31, 32, 33] (by decide +kernel) (by decide +kernel)
set_option maxRecDepth 20000 in
theorem gX1_addMeasuring_X1_add : GoodIn wsX1_addMeasuring (wsV RX1 60 RX1 yX1_add wsX1_add) := goodIn_app (goodIn_of _ (by decide +kernel)) ggX1_addMeasuring_X1_add
set_option maxRecDepth 20000 in
theorem ggX1_addMeasuring_X1_isMade : GoodIn wsX1_addMeasuring wsX1_isMade := goodIn_r _ [18, 10, 19, 20, 21, 22, 23, 24, 25, 26, 27, 28, 29, 30, 31, 32, 33] (by decide +kernel) (by decide +kernel)
set_option maxRecDepth 20000 in
theorem gX1_addMeasuring_X1_isMade : GoodIn wsX1_addMeasuring (wsV RX1 64 RX1 yX1_isMade wsX1_isMade) := goodIn_app (goodIn_of _ (by decide +kernel)) ggX1_addMeasuring_X1_isMade
theorem dX1_addMeasuring_0 : decode cX1_addMeasuring 0 = .ok (.aload_n 0, 1) := by decide +kernel
theorem dX1_addMeasuring_1 : decode cX1_addMeasuring 1 = .ok (.iload_n 1, 1) := by decide +kernel
theorem dX1_addMeasuring_2 : decode cX1_addMeasuring 2 = .ok (.iload_n 3, 1) := by decide +kernel
theorem dX1_addMeasuring_3 : decode cX1_addMeasuring 3 = .ok (.iload 5, 2) := by decide +kernel
theorem dX1_addMeasuring_5 : decode cX1_addMeasuring 5 = .ok (.invokevirtual 60, 3) := by decide +kernel
theorem dX1_addMeasuring_8 : decode cX1_addMeasuring 8 = .ok (.istore 6, 2) := by decide +kernel
theorem dX1_addMeasuring_10 : decode cX1_addMeasuring 10 = .ok (.aload_n 0, 1) := by decide +kernel
theorem dX1_addMeasuring_11 : decode cX1_addMeasuring 11 = .ok (.iload 6, 2) := by decide +kernel
theorem dX1_addMeasuring_13 : decode cX1_addMeasuring 13 = .ok (.invokevirtual 64, 3) := by decide +kernel
theorem dX1_addMeasuring_16 : decode cX1_addMeasuring 16 = .ok (.ifCond .eq 39, 3) := by decide +kernel
theorem dX1_addMeasuring_19 : decode cX1_addMeasuring 19 = .ok (.aload_n 0, 1) := by decide +kernel
theorem dX1_addMeasuring_20 : decode cX1_addMeasuring 20 = .ok (.getfield 15, 3) := by decide +kernel
theorem dX1_addMeasuring_23 : decode cX1_addMeasuring 23 = .ok (.iload 6, 2) := by decide +kernel
theorem dX1_addMeasuring_25 : decode cX1_addMeasuring 25 = .ok (.iconst 1, 1) := by decide +kernel
theorem dX1_addMeasuring_26 : decode cX1_addMeasuring 26 = .ok (.bastore, 1) := by decide +kernel
theorem dX1_addMeasuring_27 : decode cX1_addMeasuring 27 = .ok (.aload_n 0, 1) := by decide +kernel
theorem dX1_addMeasuring_28 : decode cX1_addMeasuring 28 = .ok (.getfield 44, 3) := by decide +kernel
theorem dX1_addMeasuring_31 : decode cX1_addMeasuring 31 = .ok (.iload 6, 2) := by decide +kernel
theorem dX1_addMeasuring_33 : decode cX1_addMeasuring 33 = .ok (.iload_n 2, 1) := by decide +kernel
theorem dX1_addMeasuring_34 : decode cX1_addMeasuring 34 = .ok (.i2l, 1) := by decide +kernel
theorem dX1_addMeasuring_35 : decode cX1_addMeasuring 35 = .ok (.lastore, 1) := by decide +kernel
theorem dX1_addMeasuring_36 : decode cX1_addMeasuring 36 = .ok (.aload_n 0, 1) := by decide +kernel
theorem dX1_addMeasuring_37 : decode cX1_addMeasuring 37 = .ok (.getfield 26, 3) := by decide +kernel
theorem dX1_addMeasuring_40 : decode cX1_addMeasuring 40 = .ok (.iload 6, 2) := by decide +kernel
theorem dX1_addMeasuring_42 : decode cX1_addMeasuring 42 = .ok (.iload 4, 2) := by decide +kernel
theorem dX1_addMeasuring_44 : decode cX1_addMeasuring 44 = .ok (.iastore, 1) := by decide +kernel
theorem dX1_addMeasuring_45 : decode cX1_addMeasuring 45 = .ok (.aload_n 0, 1) := by decide +kernel
theorem dX1_addMeasuring_46 : decode cX1_addMeasuring 46 = .ok (.getfield 38, 3) := by decide +kernel
theorem dX1_addMeasuring_49 : decode cX1_addMeasuring 49 = .ok (.iload 6, 2) := by decide +kernel
theorem dX1_addMeasuring_51 : decode cX1_addMeasuring 51 = .ok (.sipush 500, 3) := by decide +kernel
theorem dX1_addMeasuring_54 : decode cX1_addMeasuring 54 = .ok (.iastore, 1) := by decide +kernel
theorem dX1_addMeasuring_55 : decode cX1_addMeasuring 55 = .ok (.iload 6, 2) := by decide +kernel
theorem dX1_addMeasuring_57 : decode cX1_addMeasuring 57 = .ok (.ireturn, 1) := by decide +kernel
set_option maxRecDepth 20000 in
theorem ggX1_addRatio_X1_add : GoodIn wsX1_addRatio wsX1_add := goodIn_r _ [5, 6, 7, 8, 9, 10, 11, 12, 13, 14, 15, 16, 17, 18, 19, 20, 21, 22, 23, 24, 25] (by decide +kernel) (by decide +kernel)
set_option maxRecDepth 20000 in
theorem gX1_addRatio_X1_add : GoodIn wsX1_addRatio (wsV RX1 60 RX1 yX1_add wsX1_add) := goodIn_app (goodIn_of _ (by decide +kernel)) ggX1_addRatio_X1_add
theorem dX1_addRatio_0 : decode cX1_addRatio 0 = .ok (.aload_n 0, 1) := by decide +kernel
theorem dX1_addRatio_1 : decode cX1_addRatio 1 = .ok (.iload_n 1, 1) := by decide +kernel
theorem dX1_addRatio_2 : decode cX1_addRatio 2 = .ok (.iload_n 2, 1) := by decide +kernel
theorem dX1_addRatio_3 : decode cX1_addRatio 3 = .ok (.iload_n 3, 1) := by decide +kernel
theorem dX1_addRatio_4 : decode cX1_addRatio 4 = .ok (.invokevirtual 60, 3) := by decide +kernel
theorem dX1_addRatio_7 : decode cX1_addRatio 7 = .ok (.ireturn, 1) := by decide +kernel
theorem dX1_add_0 : decode cX1_add 0 = .ok (.aload_n 0, 1) := by decide +kernel
theorem dX1_add_1 : decode cX1_add 1 = .ok (.getfield 9, 3) := by decide +kernel
theorem dX1_add_4 : decode cX1_add 4 = .ok (.bipush 6, 2) := by decide +kernel
theorem dX1_add_6 : decode cX1_add 6 = .ok (.if_icmp .lt 5, 3) := by decide +kernel
theorem dX1_add_9 : decode cX1_add 9 = .ok (.iconst (-1), 1) := by decide +kernel
theorem dX1_add_10 : decode cX1_add 10 = .ok (.ireturn, 1) := by decide +kernel
theorem dX1_add_11 : decode cX1_add 11 = .ok (.aload_n 0, 1) := by decide +kernel
theorem dX1_add_12 : decode cX1_add 12 = .ok (.getfield 9, 3) := by decide +kernel
theorem dX1_add_15 : decode cX1_add 15 = .ok (.istore 4, 2) := by decide +kernel
theorem dX1_add_17 : decode cX1_add 17 = .ok (.aload_n 0, 1) := by decide +kernel
theorem dX1_add_18 : decode cX1_add 18 = .ok (.dup, 1) := by decide +kernel
theorem dX1_add_19 : decode cX1_add 19 = .ok (.getfield 9, 3) := by decide +kernel
theorem dX1_add_22 : decode cX1_add 22 = .ok (.iconst 1, 1) := by decide +kernel
theorem dX1_add_23 : decode cX1_add 23 = .ok (.iadd, 1) := by decide +kernel
theorem dX1_add_24 : decode cX1_add 24 = .ok (.putfield 9, 3) := by decide +kernel
theorem dX1_add_27 : decode cX1_add 27 = .ok (.aload_n 0, 1) := by decide +kernel
theorem dX1_add_28 : decode cX1_add 28 = .ok (.getfield 19, 3) := by decide +kernel
theorem dX1_add_31 : decode cX1_add 31 = .ok (.iload 4, 2) := by decide +kernel
theorem dX1_add_33 : decode cX1_add 33 = .ok (.iload_n 1, 1) := by decide +kernel
theorem dX1_add_34 : decode cX1_add 34 = .ok (.iastore, 1) := by decide +kernel
theorem dX1_add_35 : decode cX1_add 35 = .ok (.aload_n 0, 1) := by decide +kernel
theorem dX1_add_36 : decode cX1_add 36 = .ok (.getfield 23, 3) := by decide +kernel
theorem dX1_add_39 : decode cX1_add 39 = .ok (.iload 4, 2) := by decide +kernel
theorem dX1_add_41 : decode cX1_add 41 = .ok (.iload_n 2, 1) := by decide +kernel
theorem dX1_add_42 : decode cX1_add 42 = .ok (.iastore, 1) := by decide +kernel
theorem dX1_add_43 : decode cX1_add 43 = .ok (.aload_n 0, 1) := by decide +kernel
theorem dX1_add_44 : decode cX1_add 44 = .ok (.getfield 29, 3) := by decide +kernel
theorem dX1_add_47 : decode cX1_add 47 = .ok (.iload 4, 2) := by decide +kernel
theorem dX1_add_49 : decode cX1_add 49 = .ok (.iload_n 3, 1) := by decide +kernel
theorem dX1_add_50 : decode cX1_add 50 = .ok (.iastore, 1) := by decide +kernel
theorem dX1_add_51 : decode cX1_add 51 = .ok (.aload_n 0, 1) := by decide +kernel
theorem dX1_add_52 : decode cX1_add 52 = .ok (.getfield 32, 3) := by decide +kernel
theorem dX1_add_55 : decode cX1_add 55 = .ok (.iload 4, 2) := by decide +kernel
theorem dX1_add_57 : decode cX1_add 57 = .ok (.iconst (-1), 1) := by decide +kernel
theorem dX1_add_58 : decode cX1_add 58 = .ok (.iastore, 1) := by decide +kernel
theorem dX1_add_59 : decode cX1_add 59 = .ok (.iload 4, 2) := by decide +kernel
theorem dX1_add_61 : decode cX1_add 61 = .ok (.ireturn, 1) := by decide +kernel
set_option maxRecDepth 20000 in
theorem ggX1_isMeasuring_X1_isMade : GoodIn wsX1_isMeasuring wsX1_isMade := goodIn_r _ [6, 7, 8, 9, 10, 11, 12, 13, 14, 15, 16, 17, 18, 19, 20, 21, 22] (by decide +kernel) (by decide +kernel)
set_option maxRecDepth 20000 in
theorem gX1_isMeasuring_X1_isMade : GoodIn wsX1_isMeasuring (wsV RX1 64 RX1 yX1_isMade wsX1_isMade) := goodIn_app (goodIn_of _ (by decide +kernel)) ggX1_isMeasuring_X1_isMade
theorem dX1_isMeasuring_0 : decode cX1_isMeasuring 0 = .ok (.aload_n 0, 1) := by decide +kernel
theorem dX1_isMeasuring_1 : decode cX1_isMeasuring 1 = .ok (.iload_n 1, 1) := by decide +kernel
theorem dX1_isMeasuring_2 : decode cX1_isMeasuring 2 = .ok (.invokevirtual 64, 3) := by decide +kernel
theorem dX1_isMeasuring_5 : decode cX1_isMeasuring 5 = .ok (.ifCond .eq 16, 3) := by decide +kernel
theorem dX1_isMeasuring_8 : decode cX1_isMeasuring 8 = .ok (.aload_n 0, 1) := by decide +kernel
theorem dX1_isMeasuring_9 : decode cX1_isMeasuring 9 = .ok (.getfield 15, 3) := by decide +kernel
theorem dX1_isMeasuring_12 : decode cX1_isMeasuring 12 = .ok (.iload_n 1, 1) := by decide +kernel
theorem dX1_isMeasuring_13 : decode cX1_isMeasuring 13 = .ok (.baload, 1) := by decide +kernel
theorem dX1_isMeasuring_14 : decode cX1_isMeasuring 14 = .ok (.ifCond .eq 7, 3) := by decide +kernel
theorem dX1_isMeasuring_17 : decode cX1_isMeasuring 17 = .ok (.iconst 1, 1) := by decide +kernel
theorem dX1_isMeasuring_18 : decode cX1_isMeasuring 18 = .ok (.goto 4, 3) := by decide +kernel
theorem dX1_isMeasuring_21 : decode cX1_isMeasuring 21 = .ok (.iconst 0, 1) := by decide +kernel
theorem dX1_isMeasuring_22 : decode cX1_isMeasuring 22 = .ok (.ireturn, 1) := by decide +kernel
set_option maxRecDepth 20000 in
theorem ggX1_putFeed_X1_isMade : GoodIn wsX1_putFeed wsX1_isMade := goodIn_r _ [7, 8, 9, 10, 11, 12, 13, 14, 15, 16, 17, 18, 19, 20, 21, 22, 23] (by decide +kernel) (by decide +kernel)
set_option maxRecDepth 20000 in
theorem gX1_putFeed_X1_isMade : GoodIn wsX1_putFeed (wsV RX1 64 RX1 yX1_isMade wsX1_isMade) := goodIn_app (goodIn_of _ (by decide +kernel)) ggX1_putFeed_X1_isMade
theorem dX1_putFeed_0 : decode cX1_putFeed 0 = .ok (.aload_n 0, 1) := by decide +kernel
theorem dX1_putFeed_1 : decode cX1_putFeed 1 = .ok (.iload_n 1, 1) := by decide +kernel
theorem dX1_putFeed_2 : decode cX1_putFeed 2 = .ok (.invokevirtual 64, 3) := by decide +kernel
theorem dX1_putFeed_5 : decode cX1_putFeed 5 = .ok (.ifCond .eq 17, 3) := by decide +kernel
theorem dX1_putFeed_8 : decode cX1_putFeed 8 = .ok (.aload_n 0, 1) := by decide +kernel
theorem dX1_putFeed_9 : decode cX1_putFeed 9 = .ok (.getfield 32, 3) := by decide +kernel
theorem dX1_putFeed_12 : decode cX1_putFeed 12 = .ok (.iload_n 1, 1) := by decide +kernel
theorem dX1_putFeed_13 : decode cX1_putFeed 13 = .ok (.iload_n 2, 1) := by decide +kernel
theorem dX1_putFeed_14 : decode cX1_putFeed 14 = .ok (.iastore, 1) := by decide +kernel
theorem dX1_putFeed_15 : decode cX1_putFeed 15 = .ok (.aload_n 0, 1) := by decide +kernel
theorem dX1_putFeed_16 : decode cX1_putFeed 16 = .ok (.getfield 35, 3) := by decide +kernel
theorem dX1_putFeed_19 : decode cX1_putFeed 19 = .ok (.iload_n 1, 1) := by decide +kernel
theorem dX1_putFeed_20 : decode cX1_putFeed 20 = .ok (.iload_n 3, 1) := by decide +kernel
theorem dX1_putFeed_21 : decode cX1_putFeed 21 = .ok (.iastore, 1) := by decide +kernel
theorem dX1_putFeed_22 : decode cX1_putFeed 22 = .ok (.return_, 1) := by decide +kernel
set_option maxRecDepth 20000 in
theorem ggX1_aimAt_X1_goalOf : GoodIn wsX1_aimAt wsX1_goalOf := goodIn_r _ [7, 1, 8, 9, 10, 6, 11, 12, 13, 14, 15, 16, 17, 18, 19, 20, 21, 22, 23, 24, 25, 26, 27] (by decide +kernel) (by decide +kernel)
set_option maxRecDepth 20000 in
theorem gX1_aimAt_X1_goalOf : GoodIn wsX1_aimAt (wsV RX1 68 RX1 yX1_goalOf wsX1_goalOf) := goodIn_app (goodIn_of _ (by decide +kernel)) ggX1_aimAt_X1_goalOf
set_option maxRecDepth 20000 in
theorem ggX1_aimAt_X1_isMade : GoodIn wsX1_aimAt wsX1_isMade := goodIn_r _ [11, 12, 13, 14, 15, 16, 17, 18, 19, 20, 21, 22, 23, 24, 25, 26, 27] (by decide +kernel) (by decide +kernel)
set_option maxRecDepth 20000 in
theorem gX1_aimAt_X1_isMade : GoodIn wsX1_aimAt (wsV RX1 64 RX1 yX1_isMade wsX1_isMade) := goodIn_app (goodIn_of _ (by decide +kernel)) ggX1_aimAt_X1_isMade
theorem dX1_aimAt_0 : decode cX1_aimAt 0 = .ok (.aload_n 0, 1) := by decide +kernel
theorem dX1_aimAt_1 : decode cX1_aimAt 1 = .ok (.iload_n 1, 1) := by decide +kernel
theorem dX1_aimAt_2 : decode cX1_aimAt 2 = .ok (.invokevirtual 68, 3) := by decide +kernel
theorem dX1_aimAt_5 : decode cX1_aimAt 5 = .ok (.l2i, 1) := by decide +kernel
theorem dX1_aimAt_6 : decode cX1_aimAt 6 = .ok (.istore 4, 2) := by decide +kernel
theorem dX1_aimAt_8 : decode cX1_aimAt 8 = .ok (.aload_n 0, 1) := by decide +kernel
theorem dX1_aimAt_9 : decode cX1_aimAt 9 = .ok (.iload_n 1, 1) := by decide +kernel
theorem dX1_aimAt_10 : decode cX1_aimAt 10 = .ok (.invokevirtual 64, 3) := by decide +kernel
theorem dX1_aimAt_13 : decode cX1_aimAt 13 = .ok (.ifCond .eq 18, 3) := by decide +kernel
theorem dX1_aimAt_16 : decode cX1_aimAt 16 = .ok (.aload_n 0, 1) := by decide +kernel
theorem dX1_aimAt_17 : decode cX1_aimAt 17 = .ok (.getfield 44, 3) := by decide +kernel
theorem dX1_aimAt_20 : decode cX1_aimAt 20 = .ok (.iload_n 1, 1) := by decide +kernel
theorem dX1_aimAt_21 : decode cX1_aimAt 21 = .ok (.iload_n 2, 1) := by decide +kernel
theorem dX1_aimAt_22 : decode cX1_aimAt 22 = .ok (.i2l, 1) := by decide +kernel
theorem dX1_aimAt_23 : decode cX1_aimAt 23 = .ok (.lastore, 1) := by decide +kernel
theorem dX1_aimAt_24 : decode cX1_aimAt 24 = .ok (.aload_n 0, 1) := by decide +kernel
theorem dX1_aimAt_25 : decode cX1_aimAt 25 = .ok (.getfield 38, 3) := by decide +kernel
theorem dX1_aimAt_28 : decode cX1_aimAt 28 = .ok (.iload_n 1, 1) := by decide +kernel
theorem dX1_aimAt_29 : decode cX1_aimAt 29 = .ok (.iload_n 3, 1) := by decide +kernel
theorem dX1_aimAt_30 : decode cX1_aimAt 30 = .ok (.iastore, 1) := by decide +kernel
theorem dX1_aimAt_31 : decode cX1_aimAt 31 = .ok (.iload 4, 2) := by decide +kernel
theorem dX1_aimAt_33 : decode cX1_aimAt 33 = .ok (.ireturn, 1) := by decide +kernel
set_option maxRecDepth 20000 in
theorem ggX1_goalOf_X1_isMade : GoodIn wsX1_goalOf wsX1_isMade := goodIn_r _ [6, 7, 8, 9, 10, 11, 12, 13, 14, 15, 16, 17, 18, 19, 20, 21, 22] (by decide +kernel) (by decide +kernel)
set_option maxRecDepth 20000 in
theorem gX1_goalOf_X1_isMade : GoodIn wsX1_goalOf (wsV RX1 64 RX1 yX1_isMade wsX1_isMade) := goodIn_app (goodIn_of _ (by decide +kernel)) ggX1_goalOf_X1_isMade
theorem dX1_goalOf_0 : decode cX1_goalOf 0 = .ok (.aload_n 0, 1) := by decide +kernel
theorem dX1_goalOf_1 : decode cX1_goalOf 1 = .ok (.iload_n 1, 1) := by decide +kernel
theorem dX1_goalOf_2 : decode cX1_goalOf 2 = .ok (.invokevirtual 64, 3) := by decide +kernel
theorem dX1_goalOf_5 : decode cX1_goalOf 5 = .ok (.ifCond .eq 12, 3) := by decide +kernel
theorem dX1_goalOf_8 : decode cX1_goalOf 8 = .ok (.aload_n 0, 1) := by decide +kernel
theorem dX1_goalOf_9 : decode cX1_goalOf 9 = .ok (.getfield 44, 3) := by decide +kernel
theorem dX1_goalOf_12 : decode cX1_goalOf 12 = .ok (.iload_n 1, 1) := by decide +kernel
theorem dX1_goalOf_13 : decode cX1_goalOf 13 = .ok (.laload, 1) := by decide +kernel
theorem dX1_goalOf_14 : decode cX1_goalOf 14 = .ok (.goto 4, 3) := by decide +kernel
theorem dX1_goalOf_17 : decode cX1_goalOf 17 = .ok (.lconst 0, 1) := by decide +kernel
theorem dX1_goalOf_18 : decode cX1_goalOf 18 = .ok (.lreturn, 1) := by decide +kernel
set_option maxRecDepth 20000 in
theorem ggX1_sumOf_X1_isMade : GoodIn wsX1_sumOf wsX1_isMade := goodIn_r _ [6, 7, 8, 9, 10, 11, 12, 13, 14, 15, 16, 17, 18, 19, 20, 21, 22] (by decide +kernel) (by decide +kernel)
set_option maxRecDepth 20000 in
theorem gX1_sumOf_X1_isMade : GoodIn wsX1_sumOf (wsV RX1 64 RX1 yX1_isMade wsX1_isMade) := goodIn_app (goodIn_of _ (by decide +kernel)) ggX1_sumOf_X1_isMade
theorem dX1_sumOf_0 : decode cX1_sumOf 0 = .ok (.aload_n 0, 1) := by decide +kernel
theorem dX1_sumOf_1 : decode cX1_sumOf 1 = .ok (.iload_n 1, 1) := by decide +kernel
theorem dX1_sumOf_2 : decode cX1_sumOf 2 = .ok (.invokevirtual 64, 3) := by decide +kernel
theorem dX1_sumOf_5 : decode cX1_sumOf 5 = .ok (.ifCond .eq 12, 3) := by decide +kernel
theorem dX1_sumOf_8 : decode cX1_sumOf 8 = .ok (.aload_n 0, 1) := by decide +kernel
theorem dX1_sumOf_9 : decode cX1_sumOf 9 = .ok (.getfield 48, 3) := by decide +kernel
theorem dX1_sumOf_12 : decode cX1_sumOf 12 = .ok (.iload_n 1, 1) := by decide +kernel
theorem dX1_sumOf_13 : decode cX1_sumOf 13 = .ok (.laload, 1) := by decide +kernel
theorem dX1_sumOf_14 : decode cX1_sumOf 14 = .ok (.goto 4, 3) := by decide +kernel
theorem dX1_sumOf_17 : decode cX1_sumOf 17 = .ok (.lconst 0, 1) := by decide +kernel
theorem dX1_sumOf_18 : decode cX1_sumOf 18 = .ok (.lreturn, 1) := by decide +kernel
set_option maxRecDepth 20000 in
theorem ggX1_outputOf_X1_isMade : GoodIn wsX1_outputOf wsX1_isMade := goodIn_r _ [6, 7, 8, 9, 10, 11, 12, 13, 14, 15, 16, 17, 18, 19, 20, 21, 22] (by decide +kernel) (by decide +kernel)
set_option maxRecDepth 20000 in
theorem gX1_outputOf_X1_isMade : GoodIn wsX1_outputOf (wsV RX1 64 RX1 yX1_isMade wsX1_isMade) := goodIn_app (goodIn_of _ (by decide +kernel)) ggX1_outputOf_X1_isMade
theorem dX1_outputOf_0 : decode cX1_outputOf 0 = .ok (.aload_n 0, 1) := by decide +kernel
theorem dX1_outputOf_1 : decode cX1_outputOf 1 = .ok (.iload_n 1, 1) := by decide +kernel
theorem dX1_outputOf_2 : decode cX1_outputOf 2 = .ok (.invokevirtual 64, 3) := by decide +kernel
theorem dX1_outputOf_5 : decode cX1_outputOf 5 = .ok (.ifCond .eq 12, 3) := by decide +kernel
theorem dX1_outputOf_8 : decode cX1_outputOf 8 = .ok (.aload_n 0, 1) := by decide +kernel
theorem dX1_outputOf_9 : decode cX1_outputOf 9 = .ok (.getfield 54, 3) := by decide +kernel
theorem dX1_outputOf_12 : decode cX1_outputOf 12 = .ok (.iload_n 1, 1) := by decide +kernel
theorem dX1_outputOf_13 : decode cX1_outputOf 13 = .ok (.laload, 1) := by decide +kernel
theorem dX1_outputOf_14 : decode cX1_outputOf 14 = .ok (.goto 4, 3) := by decide +kernel
theorem dX1_outputOf_17 : decode cX1_outputOf 17 = .ok (.lconst 0, 1) := by decide +kernel
theorem dX1_outputOf_18 : decode cX1_outputOf 18 = .ok (.lreturn, 1) := by decide +kernel
set_option maxRecDepth 20000 in
theorem ggX1_errorOf_X1_isMade : GoodIn wsX1_errorOf wsX1_isMade := goodIn_r _ [6, 7, 8, 9, 10, 11, 12, 13, 14, 15, 16, 17, 18, 19, 20, 21, 22] (by decide +kernel) (by decide +kernel)
set_option maxRecDepth 20000 in
theorem gX1_errorOf_X1_isMade : GoodIn wsX1_errorOf (wsV RX1 64 RX1 yX1_isMade wsX1_isMade) := goodIn_app (goodIn_of _ (by decide +kernel)) ggX1_errorOf_X1_isMade
theorem dX1_errorOf_0 : decode cX1_errorOf 0 = .ok (.aload_n 0, 1) := by decide +kernel
theorem dX1_errorOf_1 : decode cX1_errorOf 1 = .ok (.iload_n 1, 1) := by decide +kernel
theorem dX1_errorOf_2 : decode cX1_errorOf 2 = .ok (.invokevirtual 64, 3) := by decide +kernel
theorem dX1_errorOf_5 : decode cX1_errorOf 5 = .ok (.ifCond .eq 12, 3) := by decide +kernel
theorem dX1_errorOf_8 : decode cX1_errorOf 8 = .ok (.aload_n 0, 1) := by decide +kernel
theorem dX1_errorOf_9 : decode cX1_errorOf 9 = .ok (.getfield 57, 3) := by decide +kernel
theorem dX1_errorOf_12 : decode cX1_errorOf 12 = .ok (.iload_n 1, 1) := by decide +kernel
theorem dX1_errorOf_13 : decode cX1_errorOf 13 = .ok (.laload, 1) := by decide +kernel
theorem dX1_errorOf_14 : decode cX1_errorOf 14 = .ok (.goto 4, 3) := by decide +kernel
theorem dX1_errorOf_17 : decode cX1_errorOf 17 = .ok (.lconst 0, 1) := by decide +kernel
theorem dX1_errorOf_18 : decode cX1_errorOf 18 = .ok (.lreturn, 1) := by decide +kernel
set_option maxRecDepth 20000 in
theorem ggX1_work_X1_measure : GoodIn wsX1_work wsX1_measure := goodIn_r _ [11, 12, 13, 4, 14, 5, 15, 16, 17, 18, 6, 3, 19, 20, 21, 22, 23, 24, 25, 26, 27, 28, 29, 30, 31, 32, 33, 10, 34, 35, 36, 37, 38, 39, 76, 77, 78, 79, 80, 81, 82, 83, 84, 85, 86, 87, 88, 89, 90, 91, 92] (by decide +kernel) (by decide +kernel)
set_option maxRecDepth 20000 in
theorem gX1_work_X1_measure : GoodIn wsX1_work (wsV RX1 72 RX1 yX1_measure wsX1_measure) := goodIn_app (goodIn_of _ (by decide +kernel)) ggX1_work_X1_measure
set_option maxRecDepth 20000 in
theorem ggX1_work_X1_watch : GoodIn wsX1_work wsX1_watch := goodIn_r _ [43, 12, 44, 45, 46, 47, 48, 49, 50, 51, 52, 53, 54, 55, 56, 57, 76, 77, 78, 79, 80, 81, 82, 83, 84, 85, 86, 87, 88, 89, 90, 93, 94, 95] (by decide +kernel) (by decide +kernel)
set_option maxRecDepth 20000 in
theorem gX1_work_X1_watch : GoodIn wsX1_work (wsV RX1 76 RX1 yX1_watch wsX1_watch) := goodIn_app (goodIn_of _ (by decide +kernel)) ggX1_work_X1_watch
set_option maxRecDepth 20000 in
theorem ggX1_work_X1_passOn : GoodIn wsX1_work wsX1_passOn := goodIn_r _ [61, 62, 13, 3, 63, 64, 65, 66, 10, 67, 2, 68, 69, 70, 71, 1, 37, 38, 39, 76, 77, 78, 79, 80, 81, 82, 83, 84, 85, 86, 87, 88, 89, 90] (by decide +kernel) (by decide +kernel)
set_option maxRecDepth 20000 in
theorem gX1_work_X1_passOn : GoodIn wsX1_work (wsV RX1 80 RX1 yX1_passOn wsX1_passOn) := goodIn_app (goodIn_of _ (by decide +kernel)) ggX1_work_X1_passOn
set_option maxRecDepth 20000 in
theorem ggX1_work_X3_flowOf : GoodIn wsX1_work wsX3_flowOf := goodIn_r _ [75, 26, 29, 30, 24, 31, 91, 92] (by decide +kernel) (by decide +kernel)
set_option maxRecDepth 20000 in
theorem gX1_work_X3_flowOf : GoodIn wsX1_work (wsV RX1 84 RX3 yX3_flowOf wsX3_flowOf) := goodIn_app (goodIn_of _ (by decide +kernel)) ggX1_work_X3_flowOf
theorem dX1_work_0 : decode cX1_work 0 = .ok (.iconst 0, 1) := by decide +kernel
theorem dX1_work_1 : decode cX1_work 1 = .ok (.istore_n 3, 1) := by decide +kernel
theorem dX1_work_2 : decode cX1_work 2 = .ok (.iload_n 3, 1) := by decide +kernel
theorem dX1_work_3 : decode cX1_work 3 = .ok (.aload_n 0, 1) := by decide +kernel
theorem dX1_work_4 : decode cX1_work 4 = .ok (.getfield 9, 3) := by decide +kernel
theorem dX1_work_7 : decode cX1_work 7 = .ok (.if_icmp .ge 72, 3) := by decide +kernel
theorem dX1_work_10 : decode cX1_work 10 = .ok (.iload_n 3, 1) := by decide +kernel
theorem dX1_work_11 : decode cX1_work 11 = .ok (.bipush 6, 2) := by decide +kernel
theorem dX1_work_13 : decode cX1_work 13 = .ok (.if_icmp .ge 66, 3) := by decide +kernel
theorem dX1_work_16 : decode cX1_work 16 = .ok (.aload_n 0, 1) := by decide +kernel
theorem dX1_work_17 : decode cX1_work 17 = .ok (.getfield 15, 3) := by decide +kernel
theorem dX1_work_20 : decode cX1_work 20 = .ok (.iload_n 3, 1) := by decide +kernel
theorem dX1_work_21 : decode cX1_work 21 = .ok (.baload, 1) := by decide +kernel
theorem dX1_work_22 : decode cX1_work 22 = .ok (.ifCond .eq 23, 3) := by decide +kernel
theorem dX1_work_25 : decode cX1_work 25 = .ok (.aload_n 0, 1) := by decide +kernel
theorem dX1_work_26 : decode cX1_work 26 = .ok (.iload_n 3, 1) := by decide +kernel
theorem dX1_work_27 : decode cX1_work 27 = .ok (.aload_n 1, 1) := by decide +kernel
theorem dX1_work_28 : decode cX1_work 28 = .ok (.invokevirtual 72, 3) := by decide +kernel
theorem dX1_work_31 : decode cX1_work 31 = .ok (.aload_n 0, 1) := by decide +kernel
theorem dX1_work_32 : decode cX1_work 32 = .ok (.iload_n 3, 1) := by decide +kernel
theorem dX1_work_33 : decode cX1_work 33 = .ok (.aload_n 2, 1) := by decide +kernel
theorem dX1_work_34 : decode cX1_work 34 = .ok (.invokevirtual 76, 3) := by decide +kernel
theorem dX1_work_37 : decode cX1_work 37 = .ok (.aload_n 0, 1) := by decide +kernel
theorem dX1_work_38 : decode cX1_work 38 = .ok (.iload_n 3, 1) := by decide +kernel
theorem dX1_work_39 : decode cX1_work 39 = .ok (.invokevirtual 80, 3) := by decide +kernel
theorem dX1_work_42 : decode cX1_work 42 = .ok (.goto 31, 3) := by decide +kernel
theorem dX1_work_45 : decode cX1_work 45 = .ok (.aload_n 0, 1) := by decide +kernel
theorem dX1_work_46 : decode cX1_work 46 = .ok (.getfield 54, 3) := by decide +kernel
theorem dX1_work_49 : decode cX1_work 49 = .ok (.iload_n 3, 1) := by decide +kernel
theorem dX1_work_50 : decode cX1_work 50 = .ok (.aload_n 1, 1) := by decide +kernel
theorem dX1_work_51 : decode cX1_work 51 = .ok (.aload_n 0, 1) := by decide +kernel
theorem dX1_work_52 : decode cX1_work 52 = .ok (.getfield 19, 3) := by decide +kernel
theorem dX1_work_55 : decode cX1_work 55 = .ok (.iload_n 3, 1) := by decide +kernel
theorem dX1_work_56 : decode cX1_work 56 = .ok (.iaload, 1) := by decide +kernel
theorem dX1_work_57 : decode cX1_work 57 = .ok (.invokevirtual 84, 3) := by decide +kernel
theorem dX1_work_60 : decode cX1_work 60 = .ok (.aload_n 0, 1) := by decide +kernel
theorem dX1_work_61 : decode cX1_work 61 = .ok (.getfield 23, 3) := by decide +kernel
theorem dX1_work_64 : decode cX1_work 64 = .ok (.iload_n 3, 1) := by decide +kernel
theorem dX1_work_65 : decode cX1_work 65 = .ok (.iaload, 1) := by decide +kernel
theorem dX1_work_66 : decode cX1_work 66 = .ok (.i2l, 1) := by decide +kernel
theorem dX1_work_67 : decode cX1_work 67 = .ok (.lmul, 1) := by decide +kernel
theorem dX1_work_68 : decode cX1_work 68 = .ok (.ldc2_w 89, 3) := by decide +kernel
theorem dX1_work_71 : decode cX1_work 71 = .ok (.ldiv, 1) := by decide +kernel
theorem dX1_work_72 : decode cX1_work 72 = .ok (.lastore, 1) := by decide +kernel
theorem dX1_work_73 : decode cX1_work 73 = .ok (.iinc 3 1, 3) := by decide +kernel
theorem dX1_work_76 : decode cX1_work 76 = .ok (.goto (-74), 3) := by decide +kernel
theorem dX1_work_79 : decode cX1_work 79 = .ok (.return_, 1) := by decide +kernel
set_option maxRecDepth 20000 in
theorem ggX1_measure_X3_warmthOf : GoodIn wsX1_measure wsX3_warmthOf := goodIn_r _ [18, 19, 20, 21, 22, 23, 17, 24, 49, 50] (by decide +kernel) (by decide +kernel)
set_option maxRecDepth 20000 in
theorem gX1_measure_X3_warmthOf : GoodIn wsX1_measure (wsV RX1 91 RX3 yX3_warmthOf wsX3_warmthOf) := goodIn_app (goodIn_of _ (by decide +kernel)) ggX1_measure_X3_warmthOf
set_option maxRecDepth 20000 in
theorem ggX1_measure_X1_heldSum : GoodIn wsX1_measure wsX1_heldSum := goodIn_r _ [28, 29, 30, 31, 32, 33] (by decide +kernel) (by decide +kernel)
set_option maxRecDepth 20000 in
theorem gX1_measure_X1_heldSum : GoodIn wsX1_measure (va_wsS RX1 94 yX1_heldSum wsX1_heldSum) := goodIn_app (goodIn_of _ (by decide +kernel)) ggX1_measure_X1_heldSum
theorem dX1_measure_0 : decode cX1_measure 0 = .ok (.aload_n 0, 1) := by decide +kernel
theorem dX1_measure_1 : decode cX1_measure 1 = .ok (.getfield 57, 3) := by decide +kernel
theorem dX1_measure_4 : decode cX1_measure 4 = .ok (.iload_n 1, 1) := by decide +kernel
theorem dX1_measure_5 : decode cX1_measure 5 = .ok (.aload_n 0, 1) := by decide +kernel
theorem dX1_measure_6 : decode cX1_measure 6 = .ok (.getfield 44, 3) := by decide +kernel
theorem dX1_measure_9 : decode cX1_measure 9 = .ok (.iload_n 1, 1) := by decide +kernel
theorem dX1_measure_10 : decode cX1_measure 10 = .ok (.laload, 1) := by decide +kernel
theorem dX1_measure_11 : decode cX1_measure 11 = .ok (.aload_n 2, 1) := by decide +kernel
theorem dX1_measure_12 : decode cX1_measure 12 = .ok (.aload_n 0, 1) := by decide +kernel
theorem dX1_measure_13 : decode cX1_measure 13 = .ok (.getfield 19, 3) := by decide +kernel
theorem dX1_measure_16 : decode cX1_measure 16 = .ok (.iload_n 1, 1) := by decide +kernel
theorem dX1_measure_17 : decode cX1_measure 17 = .ok (.iaload, 1) := by decide +kernel
theorem dX1_measure_18 : decode cX1_measure 18 = .ok (.invokevirtual 91, 3) := by decide +kernel
theorem dX1_measure_21 : decode cX1_measure 21 = .ok (.lsub, 1) := by decide +kernel
theorem dX1_measure_22 : decode cX1_measure 22 = .ok (.lastore, 1) := by decide +kernel
theorem dX1_measure_23 : decode cX1_measure 23 = .ok (.aload_n 0, 1) := by decide +kernel
theorem dX1_measure_24 : decode cX1_measure 24 = .ok (.getfield 48, 3) := by decide +kernel
theorem dX1_measure_27 : decode cX1_measure 27 = .ok (.iload_n 1, 1) := by decide +kernel
theorem dX1_measure_28 : decode cX1_measure 28 = .ok (.aload_n 0, 1) := by decide +kernel
theorem dX1_measure_29 : decode cX1_measure 29 = .ok (.getfield 48, 3) := by decide +kernel
theorem dX1_measure_32 : decode cX1_measure 32 = .ok (.iload_n 1, 1) := by decide +kernel
theorem dX1_measure_33 : decode cX1_measure 33 = .ok (.laload, 1) := by decide +kernel
theorem dX1_measure_34 : decode cX1_measure 34 = .ok (.aload_n 0, 1) := by decide +kernel
theorem dX1_measure_35 : decode cX1_measure 35 = .ok (.getfield 23, 3) := by decide +kernel
theorem dX1_measure_38 : decode cX1_measure 38 = .ok (.iload_n 1, 1) := by decide +kernel
theorem dX1_measure_39 : decode cX1_measure 39 = .ok (.iaload, 1) := by decide +kernel
theorem dX1_measure_40 : decode cX1_measure 40 = .ok (.i2l, 1) := by decide +kernel
theorem dX1_measure_41 : decode cX1_measure 41 = .ok (.aload_n 0, 1) := by decide +kernel
theorem dX1_measure_42 : decode cX1_measure 42 = .ok (.getfield 57, 3) := by decide +kernel
theorem dX1_measure_45 : decode cX1_measure 45 = .ok (.iload_n 1, 1) := by decide +kernel
theorem dX1_measure_46 : decode cX1_measure 46 = .ok (.laload, 1) := by decide +kernel
theorem dX1_measure_47 : decode cX1_measure 47 = .ok (.lmul, 1) := by decide +kernel
theorem dX1_measure_48 : decode cX1_measure 48 = .ok (.ladd, 1) := by decide +kernel
theorem dX1_measure_49 : decode cX1_measure 49 = .ok (.invokestatic 94, 3) := by decide +kernel
theorem dX1_measure_52 : decode cX1_measure 52 = .ok (.lastore, 1) := by decide +kernel
theorem dX1_measure_53 : decode cX1_measure 53 = .ok (.aload_n 0, 1) := by decide +kernel
theorem dX1_measure_54 : decode cX1_measure 54 = .ok (.getfield 51, 3) := by decide +kernel
theorem dX1_measure_57 : decode cX1_measure 57 = .ok (.iload_n 1, 1) := by decide +kernel
theorem dX1_measure_58 : decode cX1_measure 58 = .ok (.aload_n 0, 1) := by decide +kernel
theorem dX1_measure_59 : decode cX1_measure 59 = .ok (.getfield 35, 3) := by decide +kernel
theorem dX1_measure_62 : decode cX1_measure 62 = .ok (.iload_n 1, 1) := by decide +kernel
theorem dX1_measure_63 : decode cX1_measure 63 = .ok (.iaload, 1) := by decide +kernel
theorem dX1_measure_64 : decode cX1_measure 64 = .ok (.i2l, 1) := by decide +kernel
theorem dX1_measure_65 : decode cX1_measure 65 = .ok (.aload_n 2, 1) := by decide +kernel
theorem dX1_measure_66 : decode cX1_measure 66 = .ok (.aload_n 0, 1) := by decide +kernel
theorem dX1_measure_67 : decode cX1_measure 67 = .ok (.getfield 32, 3) := by decide +kernel
theorem dX1_measure_70 : decode cX1_measure 70 = .ok (.iload_n 1, 1) := by decide +kernel
theorem dX1_measure_71 : decode cX1_measure 71 = .ok (.iaload, 1) := by decide +kernel
theorem dX1_measure_72 : decode cX1_measure 72 = .ok (.invokevirtual 91, 3) := by decide +kernel
theorem dX1_measure_75 : decode cX1_measure 75 = .ok (.ldc2_w 98, 3) := by decide +kernel
theorem dX1_measure_78 : decode cX1_measure 78 = .ok (.lsub, 1) := by decide +kernel
theorem dX1_measure_79 : decode cX1_measure 79 = .ok (.lmul, 1) := by decide +kernel
theorem dX1_measure_80 : decode cX1_measure 80 = .ok (.ldc2_w 89, 3) := by decide +kernel
theorem dX1_measure_83 : decode cX1_measure 83 = .ok (.ldiv, 1) := by decide +kernel
theorem dX1_measure_84 : decode cX1_measure 84 = .ok (.lastore, 1) := by decide +kernel
theorem dX1_measure_85 : decode cX1_measure 85 = .ok (.aload_n 0, 1) := by decide +kernel
theorem dX1_measure_86 : decode cX1_measure 86 = .ok (.getfield 54, 3) := by decide +kernel
theorem dX1_measure_89 : decode cX1_measure 89 = .ok (.iload_n 1, 1) := by decide +kernel
theorem dX1_measure_90 : decode cX1_measure 90 = .ok (.aload_n 0, 1) := by decide +kernel
theorem dX1_measure_91 : decode cX1_measure 91 = .ok (.getfield 26, 3) := by decide +kernel
theorem dX1_measure_94 : decode cX1_measure 94 = .ok (.iload_n 1, 1) := by decide +kernel
theorem dX1_measure_95 : decode cX1_measure 95 = .ok (.iaload, 1) := by decide +kernel
theorem dX1_measure_96 : decode cX1_measure 96 = .ok (.i2l, 1) := by decide +kernel
theorem dX1_measure_97 : decode cX1_measure 97 = .ok (.aload_n 0, 1) := by decide +kernel
theorem dX1_measure_98 : decode cX1_measure 98 = .ok (.getfield 48, 3) := by decide +kernel
theorem dX1_measure_101 : decode cX1_measure 101 = .ok (.iload_n 1, 1) := by decide +kernel
theorem dX1_measure_102 : decode cX1_measure 102 = .ok (.laload, 1) := by decide +kernel
theorem dX1_measure_103 : decode cX1_measure 103 = .ok (.ldc2_w 100, 3) := by decide +kernel
theorem dX1_measure_106 : decode cX1_measure 106 = .ok (.ldiv, 1) := by decide +kernel
theorem dX1_measure_107 : decode cX1_measure 107 = .ok (.ladd, 1) := by decide +kernel
theorem dX1_measure_108 : decode cX1_measure 108 = .ok (.aload_n 0, 1) := by decide +kernel
theorem dX1_measure_109 : decode cX1_measure 109 = .ok (.getfield 51, 3) := by decide +kernel
theorem dX1_measure_112 : decode cX1_measure 112 = .ok (.iload_n 1, 1) := by decide +kernel
theorem dX1_measure_113 : decode cX1_measure 113 = .ok (.laload, 1) := by decide +kernel
theorem dX1_measure_114 : decode cX1_measure 114 = .ok (.ladd, 1) := by decide +kernel
theorem dX1_measure_115 : decode cX1_measure 115 = .ok (.lastore, 1) := by decide +kernel
theorem dX1_measure_116 : decode cX1_measure 116 = .ok (.return_, 1) := by decide +kernel
set_option maxRecDepth 20000 in
theorem ggX1_watch_X0_put : GoodIn wsX1_watch wsX0_put := goodIn_r _ [12, 13, 14, 15, 31, 32, 33] (by decide +kernel) (by decide +kernel)
set_option maxRecDepth 20000 in
theorem gX1_watch_X0_put : GoodIn wsX1_watch (wsV RX1 107 RX0 yX0_put wsX0_put) := goodIn_app (goodIn_of _ (by decide +kernel)) ggX1_watch_X0_put
theorem dX1_watch_0 : decode cX1_watch 0 = .ok (.aload_n 0, 1) := by decide +kernel
theorem dX1_watch_1 : decode cX1_watch 1 = .ok (.getfield 57, 3) := by decide +kernel
theorem dX1_watch_4 : decode cX1_watch 4 = .ok (.iload_n 1, 1) := by decide +kernel
theorem dX1_watch_5 : decode cX1_watch 5 = .ok (.laload, 1) := by decide +kernel
theorem dX1_watch_6 : decode cX1_watch 6 = .ok (.invokestatic 102, 3) := by decide +kernel
theorem dX1_watch_9 : decode cX1_watch 9 = .ok (.aload_n 0, 1) := by decide +kernel
theorem dX1_watch_10 : decode cX1_watch 10 = .ok (.getfield 38, 3) := by decide +kernel
theorem dX1_watch_13 : decode cX1_watch 13 = .ok (.iload_n 1, 1) := by decide +kernel
theorem dX1_watch_14 : decode cX1_watch 14 = .ok (.iaload, 1) := by decide +kernel
theorem dX1_watch_15 : decode cX1_watch 15 = .ok (.i2l, 1) := by decide +kernel
theorem dX1_watch_16 : decode cX1_watch 16 = .ok (.lsub, 1) := by decide +kernel
theorem dX1_watch_17 : decode cX1_watch 17 = .ok (.lstore_n 3, 1) := by decide +kernel
theorem dX1_watch_18 : decode cX1_watch 18 = .ok (.aload_n 0, 1) := by decide +kernel
theorem dX1_watch_19 : decode cX1_watch 19 = .ok (.getfield 41, 3) := by decide +kernel
theorem dX1_watch_22 : decode cX1_watch 22 = .ok (.iload_n 1, 1) := by decide +kernel
theorem dX1_watch_23 : decode cX1_watch 23 = .ok (.baload, 1) := by decide +kernel
theorem dX1_watch_24 : decode cX1_watch 24 = .ok (.istore 5, 2) := by decide +kernel
theorem dX1_watch_26 : decode cX1_watch 26 = .ok (.aload_n 0, 1) := by decide +kernel
theorem dX1_watch_27 : decode cX1_watch 27 = .ok (.getfield 41, 3) := by decide +kernel
theorem dX1_watch_30 : decode cX1_watch 30 = .ok (.iload_n 1, 1) := by decide +kernel
theorem dX1_watch_31 : decode cX1_watch 31 = .ok (.lload_n 3, 1) := by decide +kernel
theorem dX1_watch_32 : decode cX1_watch 32 = .ok (.lconst 0, 1) := by decide +kernel
theorem dX1_watch_33 : decode cX1_watch 33 = .ok (.lcmp, 1) := by decide +kernel
theorem dX1_watch_34 : decode cX1_watch 34 = .ok (.ifCond .le 7, 3) := by decide +kernel
theorem dX1_watch_37 : decode cX1_watch 37 = .ok (.iconst 1, 1) := by decide +kernel
theorem dX1_watch_38 : decode cX1_watch 38 = .ok (.goto 4, 3) := by decide +kernel
theorem dX1_watch_41 : decode cX1_watch 41 = .ok (.iconst 0, 1) := by decide +kernel
theorem dX1_watch_42 : decode cX1_watch 42 = .ok (.bastore, 1) := by decide +kernel
theorem dX1_watch_43 : decode cX1_watch 43 = .ok (.aload_n 0, 1) := by decide +kernel
theorem dX1_watch_44 : decode cX1_watch 44 = .ok (.getfield 41, 3) := by decide +kernel
theorem dX1_watch_47 : decode cX1_watch 47 = .ok (.iload_n 1, 1) := by decide +kernel
theorem dX1_watch_48 : decode cX1_watch 48 = .ok (.baload, 1) := by decide +kernel
theorem dX1_watch_49 : decode cX1_watch 49 = .ok (.ifCond .eq 14, 3) := by decide +kernel
theorem dX1_watch_52 : decode cX1_watch 52 = .ok (.iload 5, 2) := by decide +kernel
theorem dX1_watch_54 : decode cX1_watch 54 = .ok (.ifCond .ne 9, 3) := by decide +kernel
theorem dX1_watch_57 : decode cX1_watch 57 = .ok (.aload_n 2, 1) := by decide +kernel
theorem dX1_watch_58 : decode cX1_watch 58 = .ok (.iload_n 1, 1) := by decide +kernel
theorem dX1_watch_59 : decode cX1_watch 59 = .ok (.lload_n 3, 1) := by decide +kernel
theorem dX1_watch_60 : decode cX1_watch 60 = .ok (.invokevirtual 107, 3) := by decide +kernel
theorem dX1_watch_63 : decode cX1_watch 63 = .ok (.return_, 1) := by decide +kernel
set_option maxRecDepth 20000 in
theorem ggX1_passOn_X1_isMeasuring : GoodIn wsX1_passOn wsX1_isMeasuring := goodIn_r _ [9, 10, 11, 12, 13, 8, 14, 15, 19, 20, 21, 22, 23, 24, 25, 26, 27, 28, 29, 30, 31, 32, 33] (by decide +kernel) (by decide +kernel)
set_option maxRecDepth 20000 in
theorem gX1_passOn_X1_isMeasuring : GoodIn wsX1_passOn (wsV RX1 113 RX1 yX1_isMeasuring wsX1_isMeasuring) := goodIn_app (goodIn_of _ (by decide +kernel)) ggX1_passOn_X1_isMeasuring
set_option maxRecDepth 20000 in
theorem ggX1_passOn_X6_held : GoodIn wsX1_passOn wsX6_held := goodIn_r _ [18] (by decide +kernel) (by decide +kernel)
set_option maxRecDepth 20000 in
theorem gX1_passOn_X6_held_n118 : GoodIn wsX1_passOn (wsX6_held) := ggX1_passOn_X6_held
theorem dX1_passOn_0 : decode cX1_passOn 0 = .ok (.aload_n 0, 1) := by decide +kernel
theorem dX1_passOn_1 : decode cX1_passOn 1 = .ok (.getfield 29, 3) := by decide +kernel
theorem dX1_passOn_4 : decode cX1_passOn 4 = .ok (.iload_n 1, 1) := by decide +kernel
theorem dX1_passOn_5 : decode cX1_passOn 5 = .ok (.iaload, 1) := by decide +kernel
theorem dX1_passOn_6 : decode cX1_passOn 6 = .ok (.bipush 100, 2) := by decide +kernel
theorem dX1_passOn_8 : decode cX1_passOn 8 = .ok (.isub, 1) := by decide +kernel
theorem dX1_passOn_9 : decode cX1_passOn 9 = .ok (.istore_n 2, 1) := by decide +kernel
theorem dX1_passOn_10 : decode cX1_passOn 10 = .ok (.aload_n 0, 1) := by decide +kernel
theorem dX1_passOn_11 : decode cX1_passOn 11 = .ok (.iload_n 2, 1) := by decide +kernel
theorem dX1_passOn_12 : decode cX1_passOn 12 = .ok (.invokevirtual 113, 3) := by decide +kernel
theorem dX1_passOn_15 : decode cX1_passOn 15 = .ok (.ifCond .eq 22, 3) := by decide +kernel
theorem dX1_passOn_18 : decode cX1_passOn 18 = .ok (.aload_n 0, 1) := by decide +kernel
theorem dX1_passOn_19 : decode cX1_passOn 19 = .ok (.getfield 44, 3) := by decide +kernel
theorem dX1_passOn_22 : decode cX1_passOn 22 = .ok (.iload_n 2, 1) := by decide +kernel
theorem dX1_passOn_23 : decode cX1_passOn 23 = .ok (.aload_n 0, 1) := by decide +kernel
theorem dX1_passOn_24 : decode cX1_passOn 24 = .ok (.getfield 54, 3) := by decide +kernel
theorem dX1_passOn_27 : decode cX1_passOn 27 = .ok (.iload_n 1, 1) := by decide +kernel
theorem dX1_passOn_28 : decode cX1_passOn 28 = .ok (.laload, 1) := by decide +kernel
theorem dX1_passOn_29 : decode cX1_passOn 29 = .ok (.lconst 0, 1) := by decide +kernel
theorem dX1_passOn_30 : decode cX1_passOn 30 = .ok (.ldc2_w 116, 3) := by decide +kernel
theorem dX1_passOn_33 : decode cX1_passOn 33 = .ok (.invokestatic 118, 3) := by decide +kernel
theorem dX1_passOn_36 : decode cX1_passOn 36 = .ok (.lastore, 1) := by decide +kernel
theorem dX1_passOn_37 : decode cX1_passOn 37 = .ok (.return_, 1) := by decide +kernel
set_option maxRecDepth 20000 in
theorem ggX1_chosenFor_X1_isMade : GoodIn wsX1_chosenFor wsX1_isMade := goodIn_r _ [8, 1, 12, 13, 14, 15, 16, 17, 18, 19, 20, 21, 22, 23, 24, 25, 26] (by decide +kernel) (by decide +kernel)
set_option maxRecDepth 20000 in
theorem gX1_chosenFor_X1_isMade : GoodIn wsX1_chosenFor (wsV RX1 64 RX1 yX1_isMade wsX1_isMade) := goodIn_app (goodIn_of _ (by decide +kernel)) ggX1_chosenFor_X1_isMade
set_option maxRecDepth 20000 in
theorem ggX1_chosenFor_X1_goesAhead : GoodIn wsX1_chosenFor wsX1_goesAhead := goodIn_r _ [11] (by decide +kernel) (by decide +kernel)
set_option maxRecDepth 20000 in
theorem gX1_chosenFor_X1_goesAhead : GoodIn wsX1_chosenFor (va_wsS RX1 122 yX1_goesAhead wsX1_goesAhead) := goodIn_app (goodIn_of _ (by decide +kernel)) ggX1_chosenFor_X1_goesAhead
theorem dX1_chosenFor_0 : decode cX1_chosenFor 0 = .ok (.iconst (-1), 1) := by decide +kernel
theorem dX1_chosenFor_1 : decode cX1_chosenFor 1 = .ok (.istore_n 3, 1) := by decide +kernel
theorem dX1_chosenFor_2 : decode cX1_chosenFor 2 = .ok (.iconst 0, 1) := by decide +kernel
theorem dX1_chosenFor_3 : decode cX1_chosenFor 3 = .ok (.istore 4, 2) := by decide +kernel
theorem dX1_chosenFor_5 : decode cX1_chosenFor 5 = .ok (.iload 4, 2) := by decide +kernel
theorem dX1_chosenFor_7 : decode cX1_chosenFor 7 = .ok (.aload_n 0, 1) := by decide +kernel
theorem dX1_chosenFor_8 : decode cX1_chosenFor 8 = .ok (.getfield 9, 3) := by decide +kernel
theorem dX1_chosenFor_11 : decode cX1_chosenFor 11 = .ok (.if_icmp .ge 58, 3) := by decide +kernel
theorem dX1_chosenFor_14 : decode cX1_chosenFor 14 = .ok (.iload 4, 2) := by decide +kernel
theorem dX1_chosenFor_16 : decode cX1_chosenFor 16 = .ok (.bipush 6, 2) := by decide +kernel
theorem dX1_chosenFor_18 : decode cX1_chosenFor 18 = .ok (.if_icmp .ge 51, 3) := by decide +kernel
theorem dX1_chosenFor_21 : decode cX1_chosenFor 21 = .ok (.aload_n 0, 1) := by decide +kernel
theorem dX1_chosenFor_22 : decode cX1_chosenFor 22 = .ok (.getfield 29, 3) := by decide +kernel
theorem dX1_chosenFor_25 : decode cX1_chosenFor 25 = .ok (.iload 4, 2) := by decide +kernel
theorem dX1_chosenFor_27 : decode cX1_chosenFor 27 = .ok (.iaload, 1) := by decide +kernel
theorem dX1_chosenFor_28 : decode cX1_chosenFor 28 = .ok (.iload_n 1, 1) := by decide +kernel
theorem dX1_chosenFor_29 : decode cX1_chosenFor 29 = .ok (.if_icmp .ne 34, 3) := by decide +kernel
theorem dX1_chosenFor_32 : decode cX1_chosenFor 32 = .ok (.aload_n 0, 1) := by decide +kernel
theorem dX1_chosenFor_33 : decode cX1_chosenFor 33 = .ok (.iload_n 3, 1) := by decide +kernel
theorem dX1_chosenFor_34 : decode cX1_chosenFor 34 = .ok (.invokevirtual 64, 3) := by decide +kernel
theorem dX1_chosenFor_37 : decode cX1_chosenFor 37 = .ok (.ifCond .eq 23, 3) := by decide +kernel
theorem dX1_chosenFor_40 : decode cX1_chosenFor 40 = .ok (.aload_n 0, 1) := by decide +kernel
theorem dX1_chosenFor_41 : decode cX1_chosenFor 41 = .ok (.getfield 54, 3) := by decide +kernel
theorem dX1_chosenFor_44 : decode cX1_chosenFor 44 = .ok (.iload 4, 2) := by decide +kernel
theorem dX1_chosenFor_46 : decode cX1_chosenFor 46 = .ok (.laload, 1) := by decide +kernel
theorem dX1_chosenFor_47 : decode cX1_chosenFor 47 = .ok (.aload_n 0, 1) := by decide +kernel
theorem dX1_chosenFor_48 : decode cX1_chosenFor 48 = .ok (.getfield 54, 3) := by decide +kernel
theorem dX1_chosenFor_51 : decode cX1_chosenFor 51 = .ok (.iload_n 3, 1) := by decide +kernel
theorem dX1_chosenFor_52 : decode cX1_chosenFor 52 = .ok (.laload, 1) := by decide +kernel
theorem dX1_chosenFor_53 : decode cX1_chosenFor 53 = .ok (.iload_n 2, 1) := by decide +kernel
theorem dX1_chosenFor_54 : decode cX1_chosenFor 54 = .ok (.invokestatic 122, 3) := by decide +kernel
theorem dX1_chosenFor_57 : decode cX1_chosenFor 57 = .ok (.ifCond .eq 6, 3) := by decide +kernel
theorem dX1_chosenFor_60 : decode cX1_chosenFor 60 = .ok (.iload 4, 2) := by decide +kernel
theorem dX1_chosenFor_62 : decode cX1_chosenFor 62 = .ok (.istore_n 3, 1) := by decide +kernel
theorem dX1_chosenFor_63 : decode cX1_chosenFor 63 = .ok (.iinc 4 1, 3) := by decide +kernel
theorem dX1_chosenFor_66 : decode cX1_chosenFor 66 = .ok (.goto (-61), 3) := by decide +kernel
theorem dX1_chosenFor_69 : decode cX1_chosenFor 69 = .ok (.iload_n 3, 1) := by decide +kernel
theorem dX1_chosenFor_70 : decode cX1_chosenFor 70 = .ok (.ireturn, 1) := by decide +kernel
theorem dX1_goesAhead_0 : decode cX1_goesAhead 0 = .ok (.iload 4, 2) := by decide +kernel
theorem dX1_goesAhead_2 : decode cX1_goesAhead 2 = .ok (.ifCond .eq 17, 3) := by decide +kernel
theorem dX1_goesAhead_5 : decode cX1_goesAhead 5 = .ok (.lload_n 0, 1) := by decide +kernel
theorem dX1_goesAhead_6 : decode cX1_goesAhead 6 = .ok (.lload_n 2, 1) := by decide +kernel
theorem dX1_goesAhead_7 : decode cX1_goesAhead 7 = .ok (.lcmp, 1) := by decide +kernel
theorem dX1_goesAhead_8 : decode cX1_goesAhead 8 = .ok (.ifCond .le 7, 3) := by decide +kernel
theorem dX1_goesAhead_11 : decode cX1_goesAhead 11 = .ok (.iconst 1, 1) := by decide +kernel
theorem dX1_goesAhead_12 : decode cX1_goesAhead 12 = .ok (.goto 18, 3) := by decide +kernel
theorem dX1_goesAhead_15 : decode cX1_goesAhead 15 = .ok (.iconst 0, 1) := by decide +kernel
theorem dX1_goesAhead_16 : decode cX1_goesAhead 16 = .ok (.goto 14, 3) := by decide +kernel
theorem dX1_goesAhead_19 : decode cX1_goesAhead 19 = .ok (.lload_n 0, 1) := by decide +kernel
theorem dX1_goesAhead_20 : decode cX1_goesAhead 20 = .ok (.lload_n 2, 1) := by decide +kernel
theorem dX1_goesAhead_21 : decode cX1_goesAhead 21 = .ok (.lcmp, 1) := by decide +kernel
theorem dX1_goesAhead_22 : decode cX1_goesAhead 22 = .ok (.ifCond .ge 7, 3) := by decide +kernel
theorem dX1_goesAhead_25 : decode cX1_goesAhead 25 = .ok (.iconst 1, 1) := by decide +kernel
theorem dX1_goesAhead_26 : decode cX1_goesAhead 26 = .ok (.goto 4, 3) := by decide +kernel
theorem dX1_goesAhead_29 : decode cX1_goesAhead 29 = .ok (.iconst 0, 1) := by decide +kernel
theorem dX1_goesAhead_30 : decode cX1_goesAhead 30 = .ok (.ireturn, 1) := by decide +kernel
set_option maxRecDepth 20000 in
theorem ggX1_letFollow_X1_heldSum : GoodIn wsX1_letFollow wsX1_heldSum := goodIn_r _ [12, 13, 14, 15, 16, 17] (by decide +kernel) (by decide +kernel)
set_option maxRecDepth 20000 in
theorem gX1_letFollow_X1_heldSum : GoodIn wsX1_letFollow (va_wsS RX1 94 yX1_heldSum wsX1_heldSum) := goodIn_app (goodIn_of _ (by decide +kernel)) ggX1_letFollow_X1_heldSum
theorem dX1_letFollow_0 : decode cX1_letFollow 0 = .ok (.iconst 0, 1) := by decide +kernel
theorem dX1_letFollow_1 : decode cX1_letFollow 1 = .ok (.istore 4, 2) := by decide +kernel
theorem dX1_letFollow_3 : decode cX1_letFollow 3 = .ok (.iload 4, 2) := by decide +kernel
theorem dX1_letFollow_5 : decode cX1_letFollow 5 = .ok (.aload_n 0, 1) := by decide +kernel
theorem dX1_letFollow_6 : decode cX1_letFollow 6 = .ok (.getfield 9, 3) := by decide +kernel
theorem dX1_letFollow_9 : decode cX1_letFollow 9 = .ok (.if_icmp .ge 81, 3) := by decide +kernel
theorem dX1_letFollow_12 : decode cX1_letFollow 12 = .ok (.iload 4, 2) := by decide +kernel
theorem dX1_letFollow_14 : decode cX1_letFollow 14 = .ok (.bipush 6, 2) := by decide +kernel
theorem dX1_letFollow_16 : decode cX1_letFollow 16 = .ok (.if_icmp .ge 74, 3) := by decide +kernel
theorem dX1_letFollow_19 : decode cX1_letFollow 19 = .ok (.aload_n 0, 1) := by decide +kernel
theorem dX1_letFollow_20 : decode cX1_letFollow 20 = .ok (.getfield 29, 3) := by decide +kernel
theorem dX1_letFollow_23 : decode cX1_letFollow 23 = .ok (.iload 4, 2) := by decide +kernel
theorem dX1_letFollow_25 : decode cX1_letFollow 25 = .ok (.iaload, 1) := by decide +kernel
theorem dX1_letFollow_26 : decode cX1_letFollow 26 = .ok (.iload_n 1, 1) := by decide +kernel
theorem dX1_letFollow_27 : decode cX1_letFollow 27 = .ok (.if_icmp .ne 57, 3) := by decide +kernel
theorem dX1_letFollow_30 : decode cX1_letFollow 30 = .ok (.aload_n 0, 1) := by decide +kernel
theorem dX1_letFollow_31 : decode cX1_letFollow 31 = .ok (.getfield 15, 3) := by decide +kernel
theorem dX1_letFollow_34 : decode cX1_letFollow 34 = .ok (.iload 4, 2) := by decide +kernel
theorem dX1_letFollow_36 : decode cX1_letFollow 36 = .ok (.baload, 1) := by decide +kernel
theorem dX1_letFollow_37 : decode cX1_letFollow 37 = .ok (.ifCond .eq 47, 3) := by decide +kernel
theorem dX1_letFollow_40 : decode cX1_letFollow 40 = .ok (.aload_n 0, 1) := by decide +kernel
theorem dX1_letFollow_41 : decode cX1_letFollow 41 = .ok (.getfield 54, 3) := by decide +kernel
theorem dX1_letFollow_44 : decode cX1_letFollow 44 = .ok (.iload 4, 2) := by decide +kernel
theorem dX1_letFollow_46 : decode cX1_letFollow 46 = .ok (.laload, 1) := by decide +kernel
theorem dX1_letFollow_47 : decode cX1_letFollow 47 = .ok (.lload_n 2, 1) := by decide +kernel
theorem dX1_letFollow_48 : decode cX1_letFollow 48 = .ok (.lcmp, 1) := by decide +kernel
theorem dX1_letFollow_49 : decode cX1_letFollow 49 = .ok (.ifCond .eq 35, 3) := by decide +kernel
theorem dX1_letFollow_52 : decode cX1_letFollow 52 = .ok (.aload_n 0, 1) := by decide +kernel
theorem dX1_letFollow_53 : decode cX1_letFollow 53 = .ok (.getfield 48, 3) := by decide +kernel
theorem dX1_letFollow_56 : decode cX1_letFollow 56 = .ok (.iload 4, 2) := by decide +kernel
theorem dX1_letFollow_58 : decode cX1_letFollow 58 = .ok (.lload_n 2, 1) := by decide +kernel
theorem dX1_letFollow_59 : decode cX1_letFollow 59 = .ok (.aload_n 0, 1) := by decide +kernel
theorem dX1_letFollow_60 : decode cX1_letFollow 60 = .ok (.getfield 26, 3) := by decide +kernel
theorem dX1_letFollow_63 : decode cX1_letFollow 63 = .ok (.iload 4, 2) := by decide +kernel
theorem dX1_letFollow_65 : decode cX1_letFollow 65 = .ok (.iaload, 1) := by decide +kernel
theorem dX1_letFollow_66 : decode cX1_letFollow 66 = .ok (.i2l, 1) := by decide +kernel
theorem dX1_letFollow_67 : decode cX1_letFollow 67 = .ok (.lsub, 1) := by decide +kernel
theorem dX1_letFollow_68 : decode cX1_letFollow 68 = .ok (.aload_n 0, 1) := by decide +kernel
theorem dX1_letFollow_69 : decode cX1_letFollow 69 = .ok (.getfield 51, 3) := by decide +kernel
theorem dX1_letFollow_72 : decode cX1_letFollow 72 = .ok (.iload 4, 2) := by decide +kernel
theorem dX1_letFollow_74 : decode cX1_letFollow 74 = .ok (.laload, 1) := by decide +kernel
theorem dX1_letFollow_75 : decode cX1_letFollow 75 = .ok (.lsub, 1) := by decide +kernel
theorem dX1_letFollow_76 : decode cX1_letFollow 76 = .ok (.ldc2_w 100, 3) := by decide +kernel
theorem dX1_letFollow_79 : decode cX1_letFollow 79 = .ok (.lmul, 1) := by decide +kernel
theorem dX1_letFollow_80 : decode cX1_letFollow 80 = .ok (.invokestatic 94, 3) := by decide +kernel
theorem dX1_letFollow_83 : decode cX1_letFollow 83 = .ok (.lastore, 1) := by decide +kernel
theorem dX1_letFollow_84 : decode cX1_letFollow 84 = .ok (.iinc 4 1, 3) := by decide +kernel
theorem dX1_letFollow_87 : decode cX1_letFollow 87 = .ok (.goto (-84), 3) := by decide +kernel
theorem dX1_letFollow_90 : decode cX1_letFollow 90 = .ok (.return_, 1) := by decide +kernel
set_option maxRecDepth 20000 in
theorem ggX1_heldSum_X6_held : GoodIn wsX1_heldSum wsX6_held := goodIn_r _ [5] (by decide +kernel) (by decide +kernel)
set_option maxRecDepth 20000 in
theorem gX1_heldSum_X6_held_n118 : GoodIn wsX1_heldSum (wsX6_held) := ggX1_heldSum_X6_held
theorem dX1_heldSum_0 : decode cX1_heldSum 0 = .ok (.lload_n 0, 1) := by decide +kernel
theorem dX1_heldSum_1 : decode cX1_heldSum 1 = .ok (.ldc2_w 126, 3) := by decide +kernel
theorem dX1_heldSum_4 : decode cX1_heldSum 4 = .ok (.ldc2_w 128, 3) := by decide +kernel
theorem dX1_heldSum_7 : decode cX1_heldSum 7 = .ok (.invokestatic 118, 3) := by decide +kernel
theorem dX1_heldSum_10 : decode cX1_heldSum 10 = .ok (.lreturn, 1) := by decide +kernel
