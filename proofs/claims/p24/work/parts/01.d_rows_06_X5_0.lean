theorem dX5_init_0 : decode cX5_init 0 = .ok (.aload_n 0, 1) := by decide +kernel
theorem dX5_init_1 : decode cX5_init 1 = .ok (.invokespecial 3, 3) := by decide +kernel
theorem dX5_init_4 : decode cX5_init 4 = .ok (.aload_n 0, 1) := by decide +kernel
theorem dX5_init_5 : decode cX5_init 5 = .ok (.iconst 0, 1) := by decide +kernel
theorem dX5_init_6 : decode cX5_init 6 = .ok (.putfield 9, 3) := by decide +kernel
theorem dX5_init_9 : decode cX5_init 9 = .ok (.aload_n 0, 1) := by decide +kernel
theorem dX5_init_10 : decode cX5_init 10 = .ok (.bipush 12, 2) := by decide +kernel
theorem dX5_init_12 : decode cX5_init 12 = .ok (.newarray .int, 2) := by decide +kernel
theorem dX5_init_14 : decode cX5_init 14 = .ok (.putfield 15, 3) := by decide +kernel
theorem dX5_init_17 : decode cX5_init 17 = .ok (.aload_n 0, 1) := by decide +kernel
theorem dX5_init_18 : decode cX5_init 18 = .ok (.bipush 12, 2) := by decide +kernel
theorem dX5_init_20 : decode cX5_init 20 = .ok (.newarray .int, 2) := by decide +kernel
theorem dX5_init_22 : decode cX5_init 22 = .ok (.putfield 19, 3) := by decide +kernel
theorem dX5_init_25 : decode cX5_init 25 = .ok (.aload_n 0, 1) := by decide +kernel
theorem dX5_init_26 : decode cX5_init 26 = .ok (.bipush 12, 2) := by decide +kernel
theorem dX5_init_28 : decode cX5_init 28 = .ok (.newarray .int, 2) := by decide +kernel
theorem dX5_init_30 : decode cX5_init 30 = .ok (.putfield 22, 3) := by decide +kernel
theorem dX5_init_33 : decode cX5_init 33 = .ok (.aload_n 0, 1) := by decide +kernel
theorem dX5_init_34 : decode cX5_init 34 = .ok (.bipush 12, 2) := by decide +kernel
theorem dX5_init_36 : decode cX5_init 36 = .ok (.newarray .int, 2) := by decide +kernel
theorem dX5_init_38 : decode cX5_init 38 = .ok (.putfield 25, 3) := by decide +kernel
theorem dX5_init_41 : decode cX5_init 41 = .ok (.aload_n 0, 1) := by decide +kernel
theorem dX5_init_42 : decode cX5_init 42 = .ok (.bipush 12, 2) := by decide +kernel
theorem dX5_init_44 : decode cX5_init 44 = .ok (.newarray .int, 2) := by decide +kernel
theorem dX5_init_46 : decode cX5_init 46 = .ok (.putfield 28, 3) := by decide +kernel
theorem dX5_init_49 : decode cX5_init 49 = .ok (.aload_n 0, 1) := by decide +kernel
theorem dX5_init_50 : decode cX5_init 50 = .ok (.bipush 12, 2) := by decide +kernel
theorem dX5_init_52 : decode cX5_init 52 = .ok (.newarray .long, 2) := by decide +kernel
theorem dX5_init_54 : decode cX5_init 54 = .ok (.putfield 31, 3) := by decide +kernel
theorem dX5_init_57 : decode cX5_init 57 = .ok (.aload_n 0, 1) := by decide +kernel
theorem dX5_init_58 : decode cX5_init 58 = .ok (.bipush 12, 2) := by decide +kernel
theorem dX5_init_60 : decode cX5_init 60 = .ok (.newarray .boolean, 2) := by decide +kernel
theorem dX5_init_62 : decode cX5_init 62 = .ok (.putfield 35, 3) := by decide +kernel
theorem dX5_init_65 : decode cX5_init 65 = .ok (.aload_n 0, 1) := by decide +kernel
theorem dX5_init_66 : decode cX5_init 66 = .ok (.bipush 24, 2) := by decide +kernel
theorem dX5_init_68 : decode cX5_init 68 = .ok (.newarray .int, 2) := by decide +kernel
theorem dX5_init_70 : decode cX5_init 70 = .ok (.putfield 39, 3) := by decide +kernel
theorem dX5_init_73 : decode cX5_init 73 = .ok (.iconst 0, 1) := by decide +kernel
theorem dX5_init_74 : decode cX5_init 74 = .ok (.istore_n 1, 1) := by decide +kernel
theorem dX5_init_75 : decode cX5_init 75 = .ok (.iload_n 1, 1) := by decide +kernel
theorem dX5_init_76 : decode cX5_init 76 = .ok (.bipush 24, 2) := by decide +kernel
theorem dX5_init_78 : decode cX5_init 78 = .ok (.if_icmp .ge 16, 3) := by decide +kernel
theorem dX5_init_81 : decode cX5_init 81 = .ok (.aload_n 0, 1) := by decide +kernel
theorem dX5_init_82 : decode cX5_init 82 = .ok (.getfield 39, 3) := by decide +kernel
theorem dX5_init_85 : decode cX5_init 85 = .ok (.iload_n 1, 1) := by decide +kernel
theorem dX5_init_86 : decode cX5_init 86 = .ok (.iconst (-1), 1) := by decide +kernel
theorem dX5_init_87 : decode cX5_init 87 = .ok (.iastore, 1) := by decide +kernel
theorem dX5_init_88 : decode cX5_init 88 = .ok (.iinc 1 1, 3) := by decide +kernel
theorem dX5_init_91 : decode cX5_init 91 = .ok (.goto (-16), 3) := by decide +kernel
theorem dX5_init_94 : decode cX5_init 94 = .ok (.return_, 1) := by decide +kernel
theorem dX5_count_0 : decode cX5_count 0 = .ok (.aload_n 0, 1) := by decide +kernel
theorem dX5_count_1 : decode cX5_count 1 = .ok (.getfield 9, 3) := by decide +kernel
theorem dX5_count_4 : decode cX5_count 4 = .ok (.ireturn, 1) := by decide +kernel
theorem dX5_isMade_0 : decode cX5_isMade 0 = .ok (.iload_n 1, 1) := by decide +kernel
theorem dX5_isMade_1 : decode cX5_isMade 1 = .ok (.ifCond .lt 21, 3) := by decide +kernel
theorem dX5_isMade_4 : decode cX5_isMade 4 = .ok (.iload_n 1, 1) := by decide +kernel
theorem dX5_isMade_5 : decode cX5_isMade 5 = .ok (.aload_n 0, 1) := by decide +kernel
theorem dX5_isMade_6 : decode cX5_isMade 6 = .ok (.getfield 9, 3) := by decide +kernel
theorem dX5_isMade_9 : decode cX5_isMade 9 = .ok (.if_icmp .ge 13, 3) := by decide +kernel
theorem dX5_isMade_12 : decode cX5_isMade 12 = .ok (.iload_n 1, 1) := by decide +kernel
theorem dX5_isMade_13 : decode cX5_isMade 13 = .ok (.bipush 12, 2) := by decide +kernel
theorem dX5_isMade_15 : decode cX5_isMade 15 = .ok (.if_icmp .ge 7, 3) := by decide +kernel
theorem dX5_isMade_18 : decode cX5_isMade 18 = .ok (.iconst 1, 1) := by decide +kernel
theorem dX5_isMade_19 : decode cX5_isMade 19 = .ok (.goto 4, 3) := by decide +kernel
theorem dX5_isMade_22 : decode cX5_isMade 22 = .ok (.iconst 0, 1) := by decide +kernel
theorem dX5_isMade_23 : decode cX5_isMade 23 = .ok (.ireturn, 1) := by decide +kernel
set_option maxRecDepth 20000 in
theorem ggX5_addSource_X5_add : GoodIn wsX5_addSource wsX5_add := goodIn_r _ [5, 6, 7, 8, 9, 10, 11, 12, 13, 14, 15, 16, 17, 18, 19, 20] (by decide +kernel) (by decide +kernel)
set_option maxRecDepth 20000 in
theorem gX5_addSource_X5_add : GoodIn wsX5_addSource (wsV RX5 42 RX5 yX5_add wsX5_add) := goodIn_app (goodIn_of _ (by decide +kernel)) ggX5_addSource_X5_add
theorem dX5_addSource_0 : decode cX5_addSource 0 = .ok (.aload_n 0, 1) := by decide +kernel
theorem dX5_addSource_1 : decode cX5_addSource 1 = .ok (.iconst 0, 1) := by decide +kernel
theorem dX5_addSource_2 : decode cX5_addSource 2 = .ok (.iload_n 1, 1) := by decide +kernel
theorem dX5_addSource_3 : decode cX5_addSource 3 = .ok (.iload_n 2, 1) := by decide +kernel
theorem dX5_addSource_4 : decode cX5_addSource 4 = .ok (.iconst (-1), 1) := by decide +kernel
theorem dX5_addSource_5 : decode cX5_addSource 5 = .ok (.iconst (-1), 1) := by decide +kernel
theorem dX5_addSource_6 : decode cX5_addSource 6 = .ok (.invokevirtual 42, 3) := by decide +kernel
theorem dX5_addSource_9 : decode cX5_addSource 9 = .ok (.ireturn, 1) := by decide +kernel
set_option maxRecDepth 20000 in
theorem ggX5_addTaker_X5_add : GoodIn wsX5_addTaker wsX5_add := goodIn_r _ [5, 6, 7, 8, 9, 10, 11, 21, 22, 23, 24, 25, 26, 27, 28, 29] (by decide +kernel) (by decide +kernel)
set_option maxRecDepth 20000 in
theorem gX5_addTaker_X5_add : GoodIn wsX5_addTaker (wsV RX5 42 RX5 yX5_add wsX5_add) := goodIn_app (goodIn_of _ (by decide +kernel)) ggX5_addTaker_X5_add
set_option maxRecDepth 20000 in
theorem ggX5_addTaker_X5_putTaker : GoodIn wsX5_addTaker wsX5_putTaker := goodIn_r _ [15, 16, 17, 18, 19, 20, 21, 22, 23, 24, 25, 26, 27, 28, 29] (by decide +kernel) (by decide +kernel)
set_option maxRecDepth 20000 in
theorem gX5_addTaker_X5_putTaker : GoodIn wsX5_addTaker (wsV RX5 46 RX5 yX5_putTaker wsX5_putTaker) := goodIn_app (goodIn_of _ (by decide +kernel)) ggX5_addTaker_X5_putTaker
theorem dX5_addTaker_0 : decode cX5_addTaker 0 = .ok (.aload_n 0, 1) := by decide +kernel
theorem dX5_addTaker_1 : decode cX5_addTaker 1 = .ok (.iload_n 1, 1) := by decide +kernel
theorem dX5_addTaker_2 : decode cX5_addTaker 2 = .ok (.iload 4, 2) := by decide +kernel
theorem dX5_addTaker_4 : decode cX5_addTaker 4 = .ok (.iconst 0, 1) := by decide +kernel
theorem dX5_addTaker_5 : decode cX5_addTaker 5 = .ok (.iload_n 2, 1) := by decide +kernel
theorem dX5_addTaker_6 : decode cX5_addTaker 6 = .ok (.iload_n 3, 1) := by decide +kernel
theorem dX5_addTaker_7 : decode cX5_addTaker 7 = .ok (.invokevirtual 42, 3) := by decide +kernel
theorem dX5_addTaker_10 : decode cX5_addTaker 10 = .ok (.istore 5, 2) := by decide +kernel
theorem dX5_addTaker_12 : decode cX5_addTaker 12 = .ok (.aload_n 0, 1) := by decide +kernel
theorem dX5_addTaker_13 : decode cX5_addTaker 13 = .ok (.iload_n 2, 1) := by decide +kernel
theorem dX5_addTaker_14 : decode cX5_addTaker 14 = .ok (.iload 5, 2) := by decide +kernel
theorem dX5_addTaker_16 : decode cX5_addTaker 16 = .ok (.invokevirtual 46, 3) := by decide +kernel
theorem dX5_addTaker_19 : decode cX5_addTaker 19 = .ok (.aload_n 0, 1) := by decide +kernel
theorem dX5_addTaker_20 : decode cX5_addTaker 20 = .ok (.iload_n 3, 1) := by decide +kernel
theorem dX5_addTaker_21 : decode cX5_addTaker 21 = .ok (.iload 5, 2) := by decide +kernel
theorem dX5_addTaker_23 : decode cX5_addTaker 23 = .ok (.invokevirtual 46, 3) := by decide +kernel
theorem dX5_addTaker_26 : decode cX5_addTaker 26 = .ok (.iload 5, 2) := by decide +kernel
theorem dX5_addTaker_28 : decode cX5_addTaker 28 = .ok (.ireturn, 1) := by decide +kernel
theorem dX5_add_0 : decode cX5_add 0 = .ok (.aload_n 0, 1) := by decide +kernel
theorem dX5_add_1 : decode cX5_add 1 = .ok (.getfield 9, 3) := by decide +kernel
theorem dX5_add_4 : decode cX5_add 4 = .ok (.bipush 12, 2) := by decide +kernel
theorem dX5_add_6 : decode cX5_add 6 = .ok (.if_icmp .lt 5, 3) := by decide +kernel
theorem dX5_add_9 : decode cX5_add 9 = .ok (.iconst (-1), 1) := by decide +kernel
theorem dX5_add_10 : decode cX5_add 10 = .ok (.ireturn, 1) := by decide +kernel
theorem dX5_add_11 : decode cX5_add 11 = .ok (.aload_n 0, 1) := by decide +kernel
theorem dX5_add_12 : decode cX5_add 12 = .ok (.getfield 9, 3) := by decide +kernel
theorem dX5_add_15 : decode cX5_add 15 = .ok (.istore 6, 2) := by decide +kernel
theorem dX5_add_17 : decode cX5_add 17 = .ok (.aload_n 0, 1) := by decide +kernel
theorem dX5_add_18 : decode cX5_add 18 = .ok (.dup, 1) := by decide +kernel
theorem dX5_add_19 : decode cX5_add 19 = .ok (.getfield 9, 3) := by decide +kernel
theorem dX5_add_22 : decode cX5_add 22 = .ok (.iconst 1, 1) := by decide +kernel
theorem dX5_add_23 : decode cX5_add 23 = .ok (.iadd, 1) := by decide +kernel
theorem dX5_add_24 : decode cX5_add 24 = .ok (.putfield 9, 3) := by decide +kernel
theorem dX5_add_27 : decode cX5_add 27 = .ok (.aload_n 0, 1) := by decide +kernel
theorem dX5_add_28 : decode cX5_add 28 = .ok (.getfield 15, 3) := by decide +kernel
theorem dX5_add_31 : decode cX5_add 31 = .ok (.iload 6, 2) := by decide +kernel
theorem dX5_add_33 : decode cX5_add 33 = .ok (.iload_n 1, 1) := by decide +kernel
theorem dX5_add_34 : decode cX5_add 34 = .ok (.iastore, 1) := by decide +kernel
theorem dX5_add_35 : decode cX5_add 35 = .ok (.aload_n 0, 1) := by decide +kernel
theorem dX5_add_36 : decode cX5_add 36 = .ok (.getfield 22, 3) := by decide +kernel
theorem dX5_add_39 : decode cX5_add 39 = .ok (.iload 6, 2) := by decide +kernel
theorem dX5_add_41 : decode cX5_add 41 = .ok (.iload_n 2, 1) := by decide +kernel
theorem dX5_add_42 : decode cX5_add 42 = .ok (.iastore, 1) := by decide +kernel
theorem dX5_add_43 : decode cX5_add 43 = .ok (.aload_n 0, 1) := by decide +kernel
theorem dX5_add_44 : decode cX5_add 44 = .ok (.getfield 19, 3) := by decide +kernel
theorem dX5_add_47 : decode cX5_add 47 = .ok (.iload 6, 2) := by decide +kernel
theorem dX5_add_49 : decode cX5_add 49 = .ok (.iload_n 3, 1) := by decide +kernel
theorem dX5_add_50 : decode cX5_add 50 = .ok (.iastore, 1) := by decide +kernel
theorem dX5_add_51 : decode cX5_add 51 = .ok (.aload_n 0, 1) := by decide +kernel
theorem dX5_add_52 : decode cX5_add 52 = .ok (.getfield 25, 3) := by decide +kernel
theorem dX5_add_55 : decode cX5_add 55 = .ok (.iload 6, 2) := by decide +kernel
theorem dX5_add_57 : decode cX5_add 57 = .ok (.iload 4, 2) := by decide +kernel
theorem dX5_add_59 : decode cX5_add 59 = .ok (.iastore, 1) := by decide +kernel
theorem dX5_add_60 : decode cX5_add 60 = .ok (.aload_n 0, 1) := by decide +kernel
theorem dX5_add_61 : decode cX5_add 61 = .ok (.getfield 28, 3) := by decide +kernel
theorem dX5_add_64 : decode cX5_add 64 = .ok (.iload 6, 2) := by decide +kernel
theorem dX5_add_66 : decode cX5_add 66 = .ok (.iload 5, 2) := by decide +kernel
theorem dX5_add_68 : decode cX5_add 68 = .ok (.iastore, 1) := by decide +kernel
theorem dX5_add_69 : decode cX5_add 69 = .ok (.iload 6, 2) := by decide +kernel
theorem dX5_add_71 : decode cX5_add 71 = .ok (.ireturn, 1) := by decide +kernel
set_option maxRecDepth 20000 in
theorem ggX5_takeInstead_X5_isMade : GoodIn wsX5_takeInstead wsX5_isMade := goodIn_r _ [6, 7, 17, 18, 19, 20, 21, 22, 23, 24, 25] (by decide +kernel) (by decide +kernel)
set_option maxRecDepth 20000 in
theorem gX5_takeInstead_X5_isMade : GoodIn wsX5_takeInstead (wsV RX5 50 RX5 yX5_isMade wsX5_isMade) := goodIn_app (goodIn_of _ (by decide +kernel)) ggX5_takeInstead_X5_isMade
set_option maxRecDepth 20000 in
theorem ggX5_takeInstead_X5_putTaker : GoodIn wsX5_takeInstead wsX5_putTaker := goodIn_r _ [11, 12, 13, 14, 15, 16, 17, 18, 19, 20, 21, 22, 23, 24, 25] (by decide +kernel) (by decide +kernel)
set_option maxRecDepth 20000 in
theorem gX5_takeInstead_X5_putTaker : GoodIn wsX5_takeInstead (wsV RX5 46 RX5 yX5_putTaker wsX5_putTaker) := goodIn_app (goodIn_of _ (by decide +kernel)) ggX5_takeInstead_X5_putTaker
theorem dX5_takeInstead_0 : decode cX5_takeInstead 0 = .ok (.aload_n 0, 1) := by decide +kernel
theorem dX5_takeInstead_1 : decode cX5_takeInstead 1 = .ok (.iload_n 1, 1) := by decide +kernel
theorem dX5_takeInstead_2 : decode cX5_takeInstead 2 = .ok (.invokevirtual 50, 3) := by decide +kernel
theorem dX5_takeInstead_5 : decode cX5_takeInstead 5 = .ok (.ifCond .ne 5, 3) := by decide +kernel
theorem dX5_takeInstead_8 : decode cX5_takeInstead 8 = .ok (.iconst (-1), 1) := by decide +kernel
theorem dX5_takeInstead_9 : decode cX5_takeInstead 9 = .ok (.ireturn, 1) := by decide +kernel
theorem dX5_takeInstead_10 : decode cX5_takeInstead 10 = .ok (.aload_n 0, 1) := by decide +kernel
theorem dX5_takeInstead_11 : decode cX5_takeInstead 11 = .ok (.getfield 25, 3) := by decide +kernel
theorem dX5_takeInstead_14 : decode cX5_takeInstead 14 = .ok (.iload_n 1, 1) := by decide +kernel
theorem dX5_takeInstead_15 : decode cX5_takeInstead 15 = .ok (.iaload, 1) := by decide +kernel
theorem dX5_takeInstead_16 : decode cX5_takeInstead 16 = .ok (.istore_n 3, 1) := by decide +kernel
theorem dX5_takeInstead_17 : decode cX5_takeInstead 17 = .ok (.aload_n 0, 1) := by decide +kernel
theorem dX5_takeInstead_18 : decode cX5_takeInstead 18 = .ok (.iload_n 3, 1) := by decide +kernel
theorem dX5_takeInstead_19 : decode cX5_takeInstead 19 = .ok (.iconst (-1), 1) := by decide +kernel
theorem dX5_takeInstead_20 : decode cX5_takeInstead 20 = .ok (.invokevirtual 46, 3) := by decide +kernel
theorem dX5_takeInstead_23 : decode cX5_takeInstead 23 = .ok (.aload_n 0, 1) := by decide +kernel
theorem dX5_takeInstead_24 : decode cX5_takeInstead 24 = .ok (.iload_n 2, 1) := by decide +kernel
theorem dX5_takeInstead_25 : decode cX5_takeInstead 25 = .ok (.iload_n 1, 1) := by decide +kernel
theorem dX5_takeInstead_26 : decode cX5_takeInstead 26 = .ok (.invokevirtual 46, 3) := by decide +kernel
theorem dX5_takeInstead_29 : decode cX5_takeInstead 29 = .ok (.aload_n 0, 1) := by decide +kernel
theorem dX5_takeInstead_30 : decode cX5_takeInstead 30 = .ok (.getfield 25, 3) := by decide +kernel
theorem dX5_takeInstead_33 : decode cX5_takeInstead 33 = .ok (.iload_n 1, 1) := by decide +kernel
theorem dX5_takeInstead_34 : decode cX5_takeInstead 34 = .ok (.iload_n 2, 1) := by decide +kernel
theorem dX5_takeInstead_35 : decode cX5_takeInstead 35 = .ok (.iastore, 1) := by decide +kernel
theorem dX5_takeInstead_36 : decode cX5_takeInstead 36 = .ok (.iload_n 3, 1) := by decide +kernel
theorem dX5_takeInstead_37 : decode cX5_takeInstead 37 = .ok (.ireturn, 1) := by decide +kernel
set_option maxRecDepth 20000 in
theorem ggX5_putTaker_X3_isThere : GoodIn wsX5_putTaker wsX3_isThere := goodIn_r _ [5] (by decide +kernel) (by decide +kernel)
set_option maxRecDepth 20000 in
theorem gX5_putTaker_X3_isThere : GoodIn wsX5_putTaker (va_wsS RX5 54 yX3_isThere wsX3_isThere) := goodIn_app (goodIn_of _ (by decide +kernel)) ggX5_putTaker_X3_isThere
theorem dX5_putTaker_0 : decode cX5_putTaker 0 = .ok (.iload_n 1, 1) := by decide +kernel
theorem dX5_putTaker_1 : decode cX5_putTaker 1 = .ok (.invokestatic 54, 3) := by decide +kernel
theorem dX5_putTaker_4 : decode cX5_putTaker 4 = .ok (.ifCond .eq 10, 3) := by decide +kernel
theorem dX5_putTaker_7 : decode cX5_putTaker 7 = .ok (.aload_n 0, 1) := by decide +kernel
theorem dX5_putTaker_8 : decode cX5_putTaker 8 = .ok (.getfield 39, 3) := by decide +kernel
theorem dX5_putTaker_11 : decode cX5_putTaker 11 = .ok (.iload_n 1, 1) := by decide +kernel
theorem dX5_putTaker_12 : decode cX5_putTaker 12 = .ok (.iload_n 2, 1) := by decide +kernel
theorem dX5_putTaker_13 : decode cX5_putTaker 13 = .ok (.iastore, 1) := by decide +kernel
theorem dX5_putTaker_14 : decode cX5_putTaker 14 = .ok (.return_, 1) := by decide +kernel
set_option maxRecDepth 20000 in
theorem ggX5_isTaken_X3_isThere : GoodIn wsX5_isTaken wsX3_isThere := goodIn_r _ [5] (by decide +kernel) (by decide +kernel)
set_option maxRecDepth 20000 in
theorem gX5_isTaken_X3_isThere : GoodIn wsX5_isTaken (va_wsS RX5 54 yX3_isThere wsX3_isThere) := goodIn_app (goodIn_of _ (by decide +kernel)) ggX5_isTaken_X3_isThere
theorem dX5_isTaken_0 : decode cX5_isTaken 0 = .ok (.iload_n 1, 1) := by decide +kernel
theorem dX5_isTaken_1 : decode cX5_isTaken 1 = .ok (.invokestatic 54, 3) := by decide +kernel
theorem dX5_isTaken_4 : decode cX5_isTaken 4 = .ok (.ifCond .eq 17, 3) := by decide +kernel
theorem dX5_isTaken_7 : decode cX5_isTaken 7 = .ok (.aload_n 0, 1) := by decide +kernel
theorem dX5_isTaken_8 : decode cX5_isTaken 8 = .ok (.getfield 39, 3) := by decide +kernel
theorem dX5_isTaken_11 : decode cX5_isTaken 11 = .ok (.iload_n 1, 1) := by decide +kernel
theorem dX5_isTaken_12 : decode cX5_isTaken 12 = .ok (.iaload, 1) := by decide +kernel
theorem dX5_isTaken_13 : decode cX5_isTaken 13 = .ok (.iconst (-1), 1) := by decide +kernel
theorem dX5_isTaken_14 : decode cX5_isTaken 14 = .ok (.if_icmp .eq 7, 3) := by decide +kernel
theorem dX5_isTaken_17 : decode cX5_isTaken 17 = .ok (.iconst 1, 1) := by decide +kernel
theorem dX5_isTaken_18 : decode cX5_isTaken 18 = .ok (.goto 4, 3) := by decide +kernel
theorem dX5_isTaken_21 : decode cX5_isTaken 21 = .ok (.iconst 0, 1) := by decide +kernel
theorem dX5_isTaken_22 : decode cX5_isTaken 22 = .ok (.ireturn, 1) := by decide +kernel
set_option maxRecDepth 20000 in
theorem ggX5_kindOf_X5_isMade : GoodIn wsX5_kindOf wsX5_isMade := goodIn_r _ [6, 7, 8, 9, 10, 11, 12, 13, 14, 15, 16] (by decide +kernel) (by decide +kernel)
set_option maxRecDepth 20000 in
theorem gX5_kindOf_X5_isMade : GoodIn wsX5_kindOf (wsV RX5 50 RX5 yX5_isMade wsX5_isMade) := goodIn_app (goodIn_of _ (by decide +kernel)) ggX5_kindOf_X5_isMade
theorem dX5_kindOf_0 : decode cX5_kindOf 0 = .ok (.aload_n 0, 1) := by decide +kernel
theorem dX5_kindOf_1 : decode cX5_kindOf 1 = .ok (.iload_n 1, 1) := by decide +kernel
theorem dX5_kindOf_2 : decode cX5_kindOf 2 = .ok (.invokevirtual 50, 3) := by decide +kernel
theorem dX5_kindOf_5 : decode cX5_kindOf 5 = .ok (.ifCond .eq 12, 3) := by decide +kernel
theorem dX5_kindOf_8 : decode cX5_kindOf 8 = .ok (.aload_n 0, 1) := by decide +kernel
theorem dX5_kindOf_9 : decode cX5_kindOf 9 = .ok (.getfield 15, 3) := by decide +kernel
theorem dX5_kindOf_12 : decode cX5_kindOf 12 = .ok (.iload_n 1, 1) := by decide +kernel
theorem dX5_kindOf_13 : decode cX5_kindOf 13 = .ok (.iaload, 1) := by decide +kernel
theorem dX5_kindOf_14 : decode cX5_kindOf 14 = .ok (.goto 4, 3) := by decide +kernel
theorem dX5_kindOf_17 : decode cX5_kindOf 17 = .ok (.iconst (-1), 1) := by decide +kernel
theorem dX5_kindOf_18 : decode cX5_kindOf 18 = .ok (.ireturn, 1) := by decide +kernel
set_option maxRecDepth 20000 in
theorem ggX5_numberOf_X5_isMade : GoodIn wsX5_numberOf wsX5_isMade := goodIn_r _ [6, 7, 8, 9, 10, 11, 12, 13, 14, 15, 16] (by decide +kernel) (by decide +kernel)
set_option maxRecDepth 20000 in
theorem gX5_numberOf_X5_isMade : GoodIn wsX5_numberOf (wsV RX5 50 RX5 yX5_isMade wsX5_isMade) := goodIn_app (goodIn_of _ (by decide +kernel)) ggX5_numberOf_X5_isMade
theorem dX5_numberOf_0 : decode cX5_numberOf 0 = .ok (.aload_n 0, 1) := by decide +kernel
theorem dX5_numberOf_1 : decode cX5_numberOf 1 = .ok (.iload_n 1, 1) := by decide +kernel
theorem dX5_numberOf_2 : decode cX5_numberOf 2 = .ok (.invokevirtual 50, 3) := by decide +kernel
theorem dX5_numberOf_5 : decode cX5_numberOf 5 = .ok (.ifCond .eq 12, 3) := by decide +kernel
theorem dX5_numberOf_8 : decode cX5_numberOf 8 = .ok (.aload_n 0, 1) := by decide +kernel
theorem dX5_numberOf_9 : decode cX5_numberOf 9 = .ok (.getfield 22, 3) := by decide +kernel
theorem dX5_numberOf_12 : decode cX5_numberOf 12 = .ok (.iload_n 1, 1) := by decide +kernel
theorem dX5_numberOf_13 : decode cX5_numberOf 13 = .ok (.iaload, 1) := by decide +kernel
theorem dX5_numberOf_14 : decode cX5_numberOf 14 = .ok (.goto 4, 3) := by decide +kernel
theorem dX5_numberOf_17 : decode cX5_numberOf 17 = .ok (.iconst 0, 1) := by decide +kernel
theorem dX5_numberOf_18 : decode cX5_numberOf 18 = .ok (.ireturn, 1) := by decide +kernel
set_option maxRecDepth 20000 in
theorem ggX5_putNumber_X5_isMade : GoodIn wsX5_putNumber wsX5_isMade := goodIn_r _ [6, 7, 8, 9, 10, 11, 12, 13, 14, 15, 16] (by decide +kernel) (by decide +kernel)
set_option maxRecDepth 20000 in
theorem gX5_putNumber_X5_isMade : GoodIn wsX5_putNumber (wsV RX5 50 RX5 yX5_isMade wsX5_isMade) := goodIn_app (goodIn_of _ (by decide +kernel)) ggX5_putNumber_X5_isMade
theorem dX5_putNumber_0 : decode cX5_putNumber 0 = .ok (.aload_n 0, 1) := by decide +kernel
theorem dX5_putNumber_1 : decode cX5_putNumber 1 = .ok (.iload_n 1, 1) := by decide +kernel
theorem dX5_putNumber_2 : decode cX5_putNumber 2 = .ok (.invokevirtual 50, 3) := by decide +kernel
theorem dX5_putNumber_5 : decode cX5_putNumber 5 = .ok (.ifCond .eq 10, 3) := by decide +kernel
theorem dX5_putNumber_8 : decode cX5_putNumber 8 = .ok (.aload_n 0, 1) := by decide +kernel
theorem dX5_putNumber_9 : decode cX5_putNumber 9 = .ok (.getfield 22, 3) := by decide +kernel
theorem dX5_putNumber_12 : decode cX5_putNumber 12 = .ok (.iload_n 1, 1) := by decide +kernel
theorem dX5_putNumber_13 : decode cX5_putNumber 13 = .ok (.iload_n 2, 1) := by decide +kernel
theorem dX5_putNumber_14 : decode cX5_putNumber 14 = .ok (.iastore, 1) := by decide +kernel
theorem dX5_putNumber_15 : decode cX5_putNumber 15 = .ok (.return_, 1) := by decide +kernel
set_option maxRecDepth 20000 in
theorem ggX5_movedBy_X5_isMade : GoodIn wsX5_movedBy wsX5_isMade := goodIn_r _ [6, 7, 8, 9, 10, 11, 12, 13, 14, 15, 16] (by decide +kernel) (by decide +kernel)
set_option maxRecDepth 20000 in
theorem gX5_movedBy_X5_isMade : GoodIn wsX5_movedBy (wsV RX5 50 RX5 yX5_isMade wsX5_isMade) := goodIn_app (goodIn_of _ (by decide +kernel)) ggX5_movedBy_X5_isMade
theorem dX5_movedBy_0 : decode cX5_movedBy 0 = .ok (.aload_n 0, 1) := by decide +kernel
theorem dX5_movedBy_1 : decode cX5_movedBy 1 = .ok (.iload_n 1, 1) := by decide +kernel
theorem dX5_movedBy_2 : decode cX5_movedBy 2 = .ok (.invokevirtual 50, 3) := by decide +kernel
theorem dX5_movedBy_5 : decode cX5_movedBy 5 = .ok (.ifCond .eq 12, 3) := by decide +kernel
theorem dX5_movedBy_8 : decode cX5_movedBy 8 = .ok (.aload_n 0, 1) := by decide +kernel
theorem dX5_movedBy_9 : decode cX5_movedBy 9 = .ok (.getfield 31, 3) := by decide +kernel
theorem dX5_movedBy_12 : decode cX5_movedBy 12 = .ok (.iload_n 1, 1) := by decide +kernel
theorem dX5_movedBy_13 : decode cX5_movedBy 13 = .ok (.laload, 1) := by decide +kernel
theorem dX5_movedBy_14 : decode cX5_movedBy 14 = .ok (.goto 4, 3) := by decide +kernel
theorem dX5_movedBy_17 : decode cX5_movedBy 17 = .ok (.lconst 0, 1) := by decide +kernel
theorem dX5_movedBy_18 : decode cX5_movedBy 18 = .ok (.lreturn, 1) := by decide +kernel
set_option maxRecDepth 20000 in
theorem ggX5_takesGreatest_X5_isMade : GoodIn wsX5_takesGreatest wsX5_isMade := goodIn_r _ [6, 7, 8, 9, 10, 11, 12, 13, 14, 15, 16] (by decide +kernel) (by decide +kernel)
set_option maxRecDepth 20000 in
theorem gX5_takesGreatest_X5_isMade : GoodIn wsX5_takesGreatest (wsV RX5 50 RX5 yX5_isMade wsX5_isMade) := goodIn_app (goodIn_of _ (by decide +kernel)) ggX5_takesGreatest_X5_isMade
theorem dX5_takesGreatest_0 : decode cX5_takesGreatest 0 = .ok (.aload_n 0, 1) := by decide +kernel
theorem dX5_takesGreatest_1 : decode cX5_takesGreatest 1 = .ok (.iload_n 1, 1) := by decide +kernel
theorem dX5_takesGreatest_2 : decode cX5_takesGreatest 2 = .ok (.invokevirtual 50, 3) := by decide +kernel
theorem dX5_takesGreatest_5 : decode cX5_takesGreatest 5 = .ok (.ifCond .eq 16, 3) := by decide +kernel
theorem dX5_takesGreatest_8 : decode cX5_takesGreatest 8 = .ok (.aload_n 0, 1) := by decide +kernel
theorem dX5_takesGreatest_9 : decode cX5_takesGreatest 9 = .ok (.getfield 35, 3) := by decide +kernel
theorem dX5_takesGreatest_12 : decode cX5_takesGreatest 12 = .ok (.iload_n 1, 1) := by decide +kernel
theorem dX5_takesGreatest_13 : decode cX5_takesGreatest 13 = .ok (.baload, 1) := by decide +kernel
theorem dX5_takesGreatest_14 : decode cX5_takesGreatest 14 = .ok (.ifCond .eq 7, 3) := by decide +kernel
theorem dX5_takesGreatest_17 : decode cX5_takesGreatest 17 = .ok (.iconst 1, 1) := by decide +kernel
theorem dX5_takesGreatest_18 : decode cX5_takesGreatest 18 = .ok (.goto 4, 3) := by decide +kernel
theorem dX5_takesGreatest_21 : decode cX5_takesGreatest 21 = .ok (.iconst 0, 1) := by decide +kernel
theorem dX5_takesGreatest_22 : decode cX5_takesGreatest 22 = .ok (.ireturn, 1) := by decide +kernel
set_option maxRecDepth 20000 in
theorem ggX5_turnChoice_X5_isMade : GoodIn wsX5_turnChoice wsX5_isMade := goodIn_r _ [6, 7, 12, 13, 14, 15, 16, 17, 18, 19, 20] (by decide +kernel) (by decide +kernel)
set_option maxRecDepth 20000 in
theorem gX5_turnChoice_X5_isMade : GoodIn wsX5_turnChoice (wsV RX5 50 RX5 yX5_isMade wsX5_isMade) := goodIn_app (goodIn_of _ (by decide +kernel)) ggX5_turnChoice_X5_isMade
set_option maxRecDepth 20000 in
theorem ggX5_turnChoice_X5_takesGreatest : GoodIn wsX5_turnChoice wsX5_takesGreatest := goodIn_r _ [11, 1, 2, 3, 4, 5, 6, 7, 12, 13, 14, 15, 16, 17, 18, 19, 20] (by decide +kernel) (by decide +kernel)
set_option maxRecDepth 20000 in
theorem gX5_turnChoice_X5_takesGreatest : GoodIn wsX5_turnChoice (wsV RX5 59 RX5 yX5_takesGreatest wsX5_takesGreatest) := goodIn_app (goodIn_of _ (by decide +kernel)) ggX5_turnChoice_X5_takesGreatest
theorem dX5_turnChoice_0 : decode cX5_turnChoice 0 = .ok (.aload_n 0, 1) := by decide +kernel
theorem dX5_turnChoice_1 : decode cX5_turnChoice 1 = .ok (.iload_n 1, 1) := by decide +kernel
theorem dX5_turnChoice_2 : decode cX5_turnChoice 2 = .ok (.invokevirtual 50, 3) := by decide +kernel
theorem dX5_turnChoice_5 : decode cX5_turnChoice 5 = .ok (.ifCond .eq 23, 3) := by decide +kernel
theorem dX5_turnChoice_8 : decode cX5_turnChoice 8 = .ok (.aload_n 0, 1) := by decide +kernel
theorem dX5_turnChoice_9 : decode cX5_turnChoice 9 = .ok (.getfield 35, 3) := by decide +kernel
theorem dX5_turnChoice_12 : decode cX5_turnChoice 12 = .ok (.iload_n 1, 1) := by decide +kernel
theorem dX5_turnChoice_13 : decode cX5_turnChoice 13 = .ok (.aload_n 0, 1) := by decide +kernel
theorem dX5_turnChoice_14 : decode cX5_turnChoice 14 = .ok (.getfield 35, 3) := by decide +kernel
theorem dX5_turnChoice_17 : decode cX5_turnChoice 17 = .ok (.iload_n 1, 1) := by decide +kernel
theorem dX5_turnChoice_18 : decode cX5_turnChoice 18 = .ok (.baload, 1) := by decide +kernel
theorem dX5_turnChoice_19 : decode cX5_turnChoice 19 = .ok (.ifCond .ne 7, 3) := by decide +kernel
theorem dX5_turnChoice_22 : decode cX5_turnChoice 22 = .ok (.iconst 1, 1) := by decide +kernel
theorem dX5_turnChoice_23 : decode cX5_turnChoice 23 = .ok (.goto 4, 3) := by decide +kernel
theorem dX5_turnChoice_26 : decode cX5_turnChoice 26 = .ok (.iconst 0, 1) := by decide +kernel
theorem dX5_turnChoice_27 : decode cX5_turnChoice 27 = .ok (.bastore, 1) := by decide +kernel
theorem dX5_turnChoice_28 : decode cX5_turnChoice 28 = .ok (.aload_n 0, 1) := by decide +kernel
theorem dX5_turnChoice_29 : decode cX5_turnChoice 29 = .ok (.iload_n 1, 1) := by decide +kernel
theorem dX5_turnChoice_30 : decode cX5_turnChoice 30 = .ok (.invokevirtual 59, 3) := by decide +kernel
theorem dX5_turnChoice_33 : decode cX5_turnChoice 33 = .ok (.ireturn, 1) := by decide +kernel
set_option maxRecDepth 20000 in
theorem ggX5_giveAll_X5_give : GoodIn wsX5_giveAll wsX5_give := goodIn_r _ [8, 9, 10, 11, 12, 13, 7, 14, 1, 15, 16, 17, 18, 19, 20, 21, 22, 23, 24, 25, 26, 27, 28, 29, 30, 31, 32, 33, 34, 35, 36, 37, 38, 39, 40, 41, 42, 43, 44, 45, 46, 47, 48, 49, 50, 51, 52, 53, 54, 55, 56, 57, 58, 59, 60, 61, 62, 63, 64, 65, 66, 67, 68, 69, 70, 71, 72, 73, 74, 75, 76, 77, 78] (by decide +kernel) (by decide +kernel)
set_option maxRecDepth 20000 in
theorem gX5_giveAll_X5_give : GoodIn wsX5_giveAll (wsV RX5 62 RX5 yX5_give wsX5_give) := goodIn_app (goodIn_of _ (by decide +kernel)) ggX5_giveAll_X5_give
theorem dX5_giveAll_0 : decode cX5_giveAll 0 = .ok (.iconst 0, 1) := by decide +kernel
theorem dX5_giveAll_1 : decode cX5_giveAll 1 = .ok (.istore_n 2, 1) := by decide +kernel
theorem dX5_giveAll_2 : decode cX5_giveAll 2 = .ok (.iload_n 2, 1) := by decide +kernel
theorem dX5_giveAll_3 : decode cX5_giveAll 3 = .ok (.aload_n 0, 1) := by decide +kernel
theorem dX5_giveAll_4 : decode cX5_giveAll 4 = .ok (.getfield 9, 3) := by decide +kernel
theorem dX5_giveAll_7 : decode cX5_giveAll 7 = .ok (.if_icmp .ge 33, 3) := by decide +kernel
theorem dX5_giveAll_10 : decode cX5_giveAll 10 = .ok (.iload_n 2, 1) := by decide +kernel
theorem dX5_giveAll_11 : decode cX5_giveAll 11 = .ok (.bipush 12, 2) := by decide +kernel
theorem dX5_giveAll_13 : decode cX5_giveAll 13 = .ok (.if_icmp .ge 27, 3) := by decide +kernel
theorem dX5_giveAll_16 : decode cX5_giveAll 16 = .ok (.aload_n 0, 1) := by decide +kernel
theorem dX5_giveAll_17 : decode cX5_giveAll 17 = .ok (.getfield 31, 3) := by decide +kernel
theorem dX5_giveAll_20 : decode cX5_giveAll 20 = .ok (.iload_n 2, 1) := by decide +kernel
theorem dX5_giveAll_21 : decode cX5_giveAll 21 = .ok (.aload_n 0, 1) := by decide +kernel
theorem dX5_giveAll_22 : decode cX5_giveAll 22 = .ok (.aload_n 1, 1) := by decide +kernel
theorem dX5_giveAll_23 : decode cX5_giveAll 23 = .ok (.iload_n 2, 1) := by decide +kernel
theorem dX5_giveAll_24 : decode cX5_giveAll 24 = .ok (.aload_n 0, 1) := by decide +kernel
theorem dX5_giveAll_25 : decode cX5_giveAll 25 = .ok (.getfield 22, 3) := by decide +kernel
theorem dX5_giveAll_28 : decode cX5_giveAll 28 = .ok (.iload_n 2, 1) := by decide +kernel
theorem dX5_giveAll_29 : decode cX5_giveAll 29 = .ok (.iaload, 1) := by decide +kernel
theorem dX5_giveAll_30 : decode cX5_giveAll 30 = .ok (.invokevirtual 62, 3) := by decide +kernel
theorem dX5_giveAll_33 : decode cX5_giveAll 33 = .ok (.lastore, 1) := by decide +kernel
theorem dX5_giveAll_34 : decode cX5_giveAll 34 = .ok (.iinc 2 1, 3) := by decide +kernel
theorem dX5_giveAll_37 : decode cX5_giveAll 37 = .ok (.goto (-35), 3) := by decide +kernel
theorem dX5_giveAll_40 : decode cX5_giveAll 40 = .ok (.return_, 1) := by decide +kernel
set_option maxRecDepth 20000 in
theorem ggX5_give_X5_isMade : GoodIn wsX5_give wsX5_isMade := goodIn_r _ [7, 8, 62, 63, 64, 65, 66, 67, 68, 69, 70] (by decide +kernel) (by decide +kernel)
set_option maxRecDepth 20000 in
theorem gX5_give_X5_isMade : GoodIn wsX5_give (wsV RX5 50 RX5 yX5_isMade wsX5_isMade) := goodIn_app (goodIn_of _ (by decide +kernel)) ggX5_give_X5_isMade
set_option maxRecDepth 20000 in
theorem ggX5_give_X3_fill : GoodIn wsX5_give wsX3_fill := goodIn_r _ [13, 14, 15, 16, 17, 12, 18, 71, 72] (by decide +kernel) (by decide +kernel)
set_option maxRecDepth 20000 in
theorem gX5_give_X3_fill : GoodIn wsX5_give (wsV RX5 66 RX3 yX3_fill wsX3_fill) := goodIn_app (goodIn_of _ (by decide +kernel)) ggX5_give_X3_fill
set_option maxRecDepth 20000 in
theorem ggX5_give_X5_split : GoodIn wsX5_give wsX5_split := goodIn_r _ [22, 23, 24, 25, 26, 27, 12, 28, 14, 16, 17, 18, 29, 30, 31, 32, 15, 9, 10, 11, 13, 62, 63, 64, 65, 66, 67, 68, 69, 70, 71, 72] (by decide +kernel) (by decide +kernel)
set_option maxRecDepth 20000 in
theorem gX5_give_X5_split : GoodIn wsX5_give (wsV RX5 70 RX5 yX5_split wsX5_split) := goodIn_app (goodIn_of _ (by decide +kernel)) ggX5_give_X5_split
set_option maxRecDepth 20000 in
theorem ggX5_give_X5_mix : GoodIn wsX5_give wsX5_mix := goodIn_r _ [36, 23, 37, 25, 26, 27, 12, 28, 14, 16, 17, 18, 29, 30, 31, 32, 15, 9, 10, 11, 13, 62, 63, 64, 65, 66, 67, 68, 69, 70, 71, 72] (by decide +kernel) (by decide +kernel)
set_option maxRecDepth 20000 in
theorem gX5_give_X5_mix : GoodIn wsX5_give (wsV RX5 74 RX5 yX5_mix wsX5_mix) := goodIn_app (goodIn_of _ (by decide +kernel)) ggX5_give_X5_mix
set_option maxRecDepth 20000 in
theorem ggX5_give_X5_exchange : GoodIn wsX5_give wsX5_exchange := goodIn_r _ [41, 23, 37, 42, 43, 44, 45, 25, 26, 27, 12, 28, 14, 16, 17, 18, 29, 30, 31, 32, 15, 46, 47, 48, 49, 50, 51, 52, 6, 53, 54, 55, 56, 57, 9, 10, 11, 13, 62, 63, 64, 65, 66, 67, 68, 69, 70, 71, 72] (by decide +kernel) (by decide +kernel)
set_option maxRecDepth 20000 in
theorem gX5_give_X5_exchange : GoodIn wsX5_give (wsV RX5 78 RX5 yX5_exchange wsX5_exchange) := goodIn_app (goodIn_of _ (by decide +kernel)) ggX5_give_X5_exchange
set_option maxRecDepth 20000 in
theorem ggX5_give_X5_cool : GoodIn wsX5_give wsX5_cool := goodIn_r _ [61, 23, 42, 43, 44, 45, 25, 26, 27, 12, 28, 14, 16, 17, 18, 29, 30, 31, 32, 15, 9, 10, 11, 13, 62, 63, 64, 65, 66, 67, 68, 69, 70, 71, 72] (by decide +kernel) (by decide +kernel)
set_option maxRecDepth 20000 in
theorem gX5_give_X5_cool : GoodIn wsX5_give (wsV RX5 81 RX5 yX5_cool wsX5_cool) := goodIn_app (goodIn_of _ (by decide +kernel)) ggX5_give_X5_cool
theorem dX5_give_0 : decode cX5_give 0 = .ok (.aload_n 0, 1) := by decide +kernel
theorem dX5_give_1 : decode cX5_give 1 = .ok (.iload_n 2, 1) := by decide +kernel
theorem dX5_give_2 : decode cX5_give 2 = .ok (.invokevirtual 50, 3) := by decide +kernel
theorem dX5_give_5 : decode cX5_give 5 = .ok (.ifCond .ne 5, 3) := by decide +kernel
theorem dX5_give_8 : decode cX5_give 8 = .ok (.lconst 0, 1) := by decide +kernel
theorem dX5_give_9 : decode cX5_give 9 = .ok (.lreturn, 1) := by decide +kernel
theorem dX5_give_10 : decode cX5_give 10 = .ok (.aload_n 0, 1) := by decide +kernel
theorem dX5_give_11 : decode cX5_give 11 = .ok (.getfield 15, 3) := by decide +kernel
theorem dX5_give_14 : decode cX5_give 14 = .ok (.iload_n 2, 1) := by decide +kernel
theorem dX5_give_15 : decode cX5_give 15 = .ok (.iaload, 1) := by decide +kernel
theorem dX5_give_16 : decode cX5_give 16 = .ok (.tableswitch 90 0 4 #[36, 57, 66, 74, 82], 36) := by decide +kernel
theorem dX5_give_52 : decode cX5_give 52 = .ok (.aload_n 1, 1) := by decide +kernel
theorem dX5_give_53 : decode cX5_give 53 = .ok (.iconst 2, 1) := by decide +kernel
theorem dX5_give_54 : decode cX5_give 54 = .ok (.iload_n 2, 1) := by decide +kernel
theorem dX5_give_55 : decode cX5_give 55 = .ok (.imul, 1) := by decide +kernel
theorem dX5_give_56 : decode cX5_give 56 = .ok (.iload_n 3, 1) := by decide +kernel
theorem dX5_give_57 : decode cX5_give 57 = .ok (.i2l, 1) := by decide +kernel
theorem dX5_give_58 : decode cX5_give 58 = .ok (.iload_n 3, 1) := by decide +kernel
theorem dX5_give_59 : decode cX5_give 59 = .ok (.i2l, 1) := by decide +kernel
theorem dX5_give_60 : decode cX5_give 60 = .ok (.aload_n 0, 1) := by decide +kernel
theorem dX5_give_61 : decode cX5_give 61 = .ok (.getfield 19, 3) := by decide +kernel
theorem dX5_give_64 : decode cX5_give 64 = .ok (.iload_n 2, 1) := by decide +kernel
theorem dX5_give_65 : decode cX5_give 65 = .ok (.iaload, 1) := by decide +kernel
theorem dX5_give_66 : decode cX5_give 66 = .ok (.i2l, 1) := by decide +kernel
theorem dX5_give_67 : decode cX5_give 67 = .ok (.lmul, 1) := by decide +kernel
theorem dX5_give_68 : decode cX5_give 68 = .ok (.invokevirtual 66, 3) := by decide +kernel
theorem dX5_give_71 : decode cX5_give 71 = .ok (.lconst 0, 1) := by decide +kernel
theorem dX5_give_72 : decode cX5_give 72 = .ok (.lreturn, 1) := by decide +kernel
theorem dX5_give_73 : decode cX5_give 73 = .ok (.aload_n 0, 1) := by decide +kernel
theorem dX5_give_74 : decode cX5_give 74 = .ok (.aload_n 1, 1) := by decide +kernel
theorem dX5_give_75 : decode cX5_give 75 = .ok (.iload_n 2, 1) := by decide +kernel
theorem dX5_give_76 : decode cX5_give 76 = .ok (.iload_n 3, 1) := by decide +kernel
theorem dX5_give_77 : decode cX5_give 77 = .ok (.invokevirtual 70, 3) := by decide +kernel
theorem dX5_give_80 : decode cX5_give 80 = .ok (.lconst 0, 1) := by decide +kernel
theorem dX5_give_81 : decode cX5_give 81 = .ok (.lreturn, 1) := by decide +kernel
theorem dX5_give_82 : decode cX5_give 82 = .ok (.aload_n 0, 1) := by decide +kernel
theorem dX5_give_83 : decode cX5_give 83 = .ok (.aload_n 1, 1) := by decide +kernel
theorem dX5_give_84 : decode cX5_give 84 = .ok (.iload_n 2, 1) := by decide +kernel
theorem dX5_give_85 : decode cX5_give 85 = .ok (.invokevirtual 74, 3) := by decide +kernel
theorem dX5_give_88 : decode cX5_give 88 = .ok (.lconst 0, 1) := by decide +kernel
theorem dX5_give_89 : decode cX5_give 89 = .ok (.lreturn, 1) := by decide +kernel
theorem dX5_give_90 : decode cX5_give 90 = .ok (.aload_n 0, 1) := by decide +kernel
theorem dX5_give_91 : decode cX5_give 91 = .ok (.aload_n 1, 1) := by decide +kernel
theorem dX5_give_92 : decode cX5_give 92 = .ok (.iload_n 2, 1) := by decide +kernel
theorem dX5_give_93 : decode cX5_give 93 = .ok (.iload_n 3, 1) := by decide +kernel
theorem dX5_give_94 : decode cX5_give 94 = .ok (.invokevirtual 78, 3) := by decide +kernel
theorem dX5_give_97 : decode cX5_give 97 = .ok (.lreturn, 1) := by decide +kernel
theorem dX5_give_98 : decode cX5_give 98 = .ok (.aload_n 0, 1) := by decide +kernel
theorem dX5_give_99 : decode cX5_give 99 = .ok (.aload_n 1, 1) := by decide +kernel
theorem dX5_give_100 : decode cX5_give 100 = .ok (.iload_n 2, 1) := by decide +kernel
theorem dX5_give_101 : decode cX5_give 101 = .ok (.iload_n 3, 1) := by decide +kernel
theorem dX5_give_102 : decode cX5_give 102 = .ok (.invokevirtual 81, 3) := by decide +kernel
theorem dX5_give_105 : decode cX5_give 105 = .ok (.lreturn, 1) := by decide +kernel
theorem dX5_give_106 : decode cX5_give 106 = .ok (.lconst 0, 1) := by decide +kernel
theorem dX5_give_107 : decode cX5_give 107 = .ok (.lreturn, 1) := by decide +kernel
set_option maxRecDepth 20000 in
theorem ggX5_split_X3_flowOf : GoodIn wsX5_split wsX3_flowOf := goodIn_r _ [7, 8, 9, 10, 6, 11, 30, 31] (by decide +kernel) (by decide +kernel)
set_option maxRecDepth 20000 in
theorem gX5_split_X3_flowOf : GoodIn wsX5_split (wsV RX5 84 RX3 yX3_flowOf wsX3_flowOf) := goodIn_app (goodIn_of _ (by decide +kernel)) ggX5_split_X3_flowOf
set_option maxRecDepth 20000 in
theorem ggX5_split_X3_heatOf : GoodIn wsX5_split wsX3_heatOf := goodIn_r _ [15, 16, 9, 10, 6, 11, 30, 31] (by decide +kernel) (by decide +kernel)
set_option maxRecDepth 20000 in
theorem gX5_split_X3_heatOf : GoodIn wsX5_split (wsV RX5 88 RX3 yX3_heatOf wsX3_heatOf) := goodIn_app (goodIn_of _ (by decide +kernel)) ggX5_split_X3_heatOf
set_option maxRecDepth 20000 in
theorem ggX5_split_X3_fill : GoodIn wsX5_split wsX3_fill := goodIn_r _ [20, 8, 16, 9, 10, 6, 11, 30, 31] (by decide +kernel) (by decide +kernel)
set_option maxRecDepth 20000 in
theorem gX5_split_X3_fill : GoodIn wsX5_split (wsV RX5 66 RX3 yX3_fill wsX3_fill) := goodIn_app (goodIn_of _ (by decide +kernel)) ggX5_split_X3_fill
theorem dX5_split_0 : decode cX5_split 0 = .ok (.aload_n 1, 1) := by decide +kernel
theorem dX5_split_1 : decode cX5_split 1 = .ok (.aload_n 0, 1) := by decide +kernel
theorem dX5_split_2 : decode cX5_split 2 = .ok (.getfield 25, 3) := by decide +kernel
theorem dX5_split_5 : decode cX5_split 5 = .ok (.iload_n 2, 1) := by decide +kernel
theorem dX5_split_6 : decode cX5_split 6 = .ok (.iaload, 1) := by decide +kernel
theorem dX5_split_7 : decode cX5_split 7 = .ok (.invokevirtual 84, 3) := by decide +kernel
theorem dX5_split_10 : decode cX5_split 10 = .ok (.lstore 4, 2) := by decide +kernel
theorem dX5_split_12 : decode cX5_split 12 = .ok (.aload_n 1, 1) := by decide +kernel
theorem dX5_split_13 : decode cX5_split 13 = .ok (.aload_n 0, 1) := by decide +kernel
theorem dX5_split_14 : decode cX5_split 14 = .ok (.getfield 25, 3) := by decide +kernel
theorem dX5_split_17 : decode cX5_split 17 = .ok (.iload_n 2, 1) := by decide +kernel
theorem dX5_split_18 : decode cX5_split 18 = .ok (.iaload, 1) := by decide +kernel
theorem dX5_split_19 : decode cX5_split 19 = .ok (.invokevirtual 88, 3) := by decide +kernel
theorem dX5_split_22 : decode cX5_split 22 = .ok (.lstore 6, 2) := by decide +kernel
theorem dX5_split_24 : decode cX5_split 24 = .ok (.lload 4, 2) := by decide +kernel
theorem dX5_split_26 : decode cX5_split 26 = .ok (.iload_n 3, 1) := by decide +kernel
theorem dX5_split_27 : decode cX5_split 27 = .ok (.i2l, 1) := by decide +kernel
theorem dX5_split_28 : decode cX5_split 28 = .ok (.lmul, 1) := by decide +kernel
theorem dX5_split_29 : decode cX5_split 29 = .ok (.ldc2_w 91, 3) := by decide +kernel
theorem dX5_split_32 : decode cX5_split 32 = .ok (.ldiv, 1) := by decide +kernel
theorem dX5_split_33 : decode cX5_split 33 = .ok (.lstore 8, 2) := by decide +kernel
theorem dX5_split_35 : decode cX5_split 35 = .ok (.lload 4, 2) := by decide +kernel
theorem dX5_split_37 : decode cX5_split 37 = .ok (.lconst 0, 1) := by decide +kernel
theorem dX5_split_38 : decode cX5_split 38 = .ok (.lcmp, 1) := by decide +kernel
theorem dX5_split_39 : decode cX5_split 39 = .ok (.ifCond .ne 7, 3) := by decide +kernel
theorem dX5_split_42 : decode cX5_split 42 = .ok (.lconst 0, 1) := by decide +kernel
theorem dX5_split_43 : decode cX5_split 43 = .ok (.goto 11, 3) := by decide +kernel
theorem dX5_split_46 : decode cX5_split 46 = .ok (.lload 6, 2) := by decide +kernel
theorem dX5_split_48 : decode cX5_split 48 = .ok (.lload 8, 2) := by decide +kernel
theorem dX5_split_50 : decode cX5_split 50 = .ok (.lmul, 1) := by decide +kernel
theorem dX5_split_51 : decode cX5_split 51 = .ok (.lload 4, 2) := by decide +kernel
theorem dX5_split_53 : decode cX5_split 53 = .ok (.ldiv, 1) := by decide +kernel
theorem dX5_split_54 : decode cX5_split 54 = .ok (.lstore 10, 2) := by decide +kernel
theorem dX5_split_56 : decode cX5_split 56 = .ok (.aload_n 1, 1) := by decide +kernel
theorem dX5_split_57 : decode cX5_split 57 = .ok (.iconst 2, 1) := by decide +kernel
theorem dX5_split_58 : decode cX5_split 58 = .ok (.iload_n 2, 1) := by decide +kernel
theorem dX5_split_59 : decode cX5_split 59 = .ok (.imul, 1) := by decide +kernel
theorem dX5_split_60 : decode cX5_split 60 = .ok (.lload 8, 2) := by decide +kernel
theorem dX5_split_62 : decode cX5_split 62 = .ok (.lload 10, 2) := by decide +kernel
theorem dX5_split_64 : decode cX5_split 64 = .ok (.invokevirtual 66, 3) := by decide +kernel
theorem dX5_split_67 : decode cX5_split 67 = .ok (.aload_n 1, 1) := by decide +kernel
theorem dX5_split_68 : decode cX5_split 68 = .ok (.iconst 2, 1) := by decide +kernel
theorem dX5_split_69 : decode cX5_split 69 = .ok (.iload_n 2, 1) := by decide +kernel
theorem dX5_split_70 : decode cX5_split 70 = .ok (.imul, 1) := by decide +kernel
theorem dX5_split_71 : decode cX5_split 71 = .ok (.iconst 1, 1) := by decide +kernel
theorem dX5_split_72 : decode cX5_split 72 = .ok (.iadd, 1) := by decide +kernel
theorem dX5_split_73 : decode cX5_split 73 = .ok (.lload 4, 2) := by decide +kernel
theorem dX5_split_75 : decode cX5_split 75 = .ok (.lload 8, 2) := by decide +kernel
theorem dX5_split_77 : decode cX5_split 77 = .ok (.lsub, 1) := by decide +kernel
theorem dX5_split_78 : decode cX5_split 78 = .ok (.lload 6, 2) := by decide +kernel
theorem dX5_split_80 : decode cX5_split 80 = .ok (.lload 10, 2) := by decide +kernel
theorem dX5_split_82 : decode cX5_split 82 = .ok (.lsub, 1) := by decide +kernel
theorem dX5_split_83 : decode cX5_split 83 = .ok (.invokevirtual 66, 3) := by decide +kernel
theorem dX5_split_86 : decode cX5_split 86 = .ok (.return_, 1) := by decide +kernel
set_option maxRecDepth 20000 in
theorem ggX5_mix_X3_flowOf : GoodIn wsX5_mix wsX3_flowOf := goodIn_r _ [7, 8, 9, 10, 6, 11, 30, 31] (by decide +kernel) (by decide +kernel)
set_option maxRecDepth 20000 in
theorem gX5_mix_X3_flowOf : GoodIn wsX5_mix (wsV RX5 84 RX3 yX3_flowOf wsX3_flowOf) := goodIn_app (goodIn_of _ (by decide +kernel)) ggX5_mix_X3_flowOf
set_option maxRecDepth 20000 in
theorem ggX5_mix_X3_heatOf : GoodIn wsX5_mix wsX3_heatOf := goodIn_r _ [15, 16, 9, 10, 6, 11, 30, 31] (by decide +kernel) (by decide +kernel)
set_option maxRecDepth 20000 in
theorem gX5_mix_X3_heatOf : GoodIn wsX5_mix (wsV RX5 88 RX3 yX3_heatOf wsX3_heatOf) := goodIn_app (goodIn_of _ (by decide +kernel)) ggX5_mix_X3_heatOf
set_option maxRecDepth 20000 in
theorem ggX5_mix_X3_fill : GoodIn wsX5_mix wsX3_fill := goodIn_r _ [20, 8, 16, 9, 10, 6, 11, 30, 31] (by decide +kernel) (by decide +kernel)
set_option maxRecDepth 20000 in
theorem gX5_mix_X3_fill : GoodIn wsX5_mix (wsV RX5 66 RX3 yX3_fill wsX3_fill) := goodIn_app (goodIn_of _ (by decide +kernel)) ggX5_mix_X3_fill
theorem dX5_mix_0 : decode cX5_mix 0 = .ok (.aload_n 1, 1) := by decide +kernel
theorem dX5_mix_1 : decode cX5_mix 1 = .ok (.aload_n 0, 1) := by decide +kernel
theorem dX5_mix_2 : decode cX5_mix 2 = .ok (.getfield 25, 3) := by decide +kernel
theorem dX5_mix_5 : decode cX5_mix 5 = .ok (.iload_n 2, 1) := by decide +kernel
theorem dX5_mix_6 : decode cX5_mix 6 = .ok (.iaload, 1) := by decide +kernel
theorem dX5_mix_7 : decode cX5_mix 7 = .ok (.invokevirtual 84, 3) := by decide +kernel
theorem dX5_mix_10 : decode cX5_mix 10 = .ok (.aload_n 1, 1) := by decide +kernel
theorem dX5_mix_11 : decode cX5_mix 11 = .ok (.aload_n 0, 1) := by decide +kernel
theorem dX5_mix_12 : decode cX5_mix 12 = .ok (.getfield 28, 3) := by decide +kernel
theorem dX5_mix_15 : decode cX5_mix 15 = .ok (.iload_n 2, 1) := by decide +kernel
theorem dX5_mix_16 : decode cX5_mix 16 = .ok (.iaload, 1) := by decide +kernel
theorem dX5_mix_17 : decode cX5_mix 17 = .ok (.invokevirtual 84, 3) := by decide +kernel
theorem dX5_mix_20 : decode cX5_mix 20 = .ok (.ladd, 1) := by decide +kernel
theorem dX5_mix_21 : decode cX5_mix 21 = .ok (.lstore_n 3, 1) := by decide +kernel
theorem dX5_mix_22 : decode cX5_mix 22 = .ok (.aload_n 1, 1) := by decide +kernel
theorem dX5_mix_23 : decode cX5_mix 23 = .ok (.aload_n 0, 1) := by decide +kernel
theorem dX5_mix_24 : decode cX5_mix 24 = .ok (.getfield 25, 3) := by decide +kernel
theorem dX5_mix_27 : decode cX5_mix 27 = .ok (.iload_n 2, 1) := by decide +kernel
theorem dX5_mix_28 : decode cX5_mix 28 = .ok (.iaload, 1) := by decide +kernel
theorem dX5_mix_29 : decode cX5_mix 29 = .ok (.invokevirtual 88, 3) := by decide +kernel
theorem dX5_mix_32 : decode cX5_mix 32 = .ok (.aload_n 1, 1) := by decide +kernel
theorem dX5_mix_33 : decode cX5_mix 33 = .ok (.aload_n 0, 1) := by decide +kernel
theorem dX5_mix_34 : decode cX5_mix 34 = .ok (.getfield 28, 3) := by decide +kernel
theorem dX5_mix_37 : decode cX5_mix 37 = .ok (.iload_n 2, 1) := by decide +kernel
theorem dX5_mix_38 : decode cX5_mix 38 = .ok (.iaload, 1) := by decide +kernel
theorem dX5_mix_39 : decode cX5_mix 39 = .ok (.invokevirtual 88, 3) := by decide +kernel
theorem dX5_mix_42 : decode cX5_mix 42 = .ok (.ladd, 1) := by decide +kernel
theorem dX5_mix_43 : decode cX5_mix 43 = .ok (.lstore 5, 2) := by decide +kernel
theorem dX5_mix_45 : decode cX5_mix 45 = .ok (.aload_n 1, 1) := by decide +kernel
theorem dX5_mix_46 : decode cX5_mix 46 = .ok (.iconst 2, 1) := by decide +kernel
theorem dX5_mix_47 : decode cX5_mix 47 = .ok (.iload_n 2, 1) := by decide +kernel
theorem dX5_mix_48 : decode cX5_mix 48 = .ok (.imul, 1) := by decide +kernel
theorem dX5_mix_49 : decode cX5_mix 49 = .ok (.lload_n 3, 1) := by decide +kernel
theorem dX5_mix_50 : decode cX5_mix 50 = .ok (.lload 5, 2) := by decide +kernel
theorem dX5_mix_52 : decode cX5_mix 52 = .ok (.invokevirtual 66, 3) := by decide +kernel
theorem dX5_mix_55 : decode cX5_mix 55 = .ok (.return_, 1) := by decide +kernel
set_option maxRecDepth 20000 in
theorem ggX5_exchange_X3_flowOf : GoodIn wsX5_exchange wsX3_flowOf := goodIn_r _ [11, 12, 13, 14, 10, 15, 47, 48] (by decide +kernel) (by decide +kernel)
set_option maxRecDepth 20000 in
theorem gX5_exchange_X3_flowOf : GoodIn wsX5_exchange (wsV RX5 84 RX3 yX3_flowOf wsX3_flowOf) := goodIn_app (goodIn_of _ (by decide +kernel)) ggX5_exchange_X3_flowOf
set_option maxRecDepth 20000 in
theorem ggX5_exchange_X3_heatOf : GoodIn wsX5_exchange wsX3_heatOf := goodIn_r _ [19, 20, 13, 14, 10, 15, 47, 48] (by decide +kernel) (by decide +kernel)
set_option maxRecDepth 20000 in
theorem gX5_exchange_X3_heatOf : GoodIn wsX5_exchange (wsV RX5 88 RX3 yX3_heatOf wsX3_heatOf) := goodIn_app (goodIn_of _ (by decide +kernel)) ggX5_exchange_X3_heatOf
set_option maxRecDepth 20000 in
theorem ggX5_exchange_X3_warmthOf : GoodIn wsX5_exchange wsX3_warmthOf := goodIn_r _ [24, 12, 25, 20, 13, 14, 10, 15, 47, 48] (by decide +kernel) (by decide +kernel)
set_option maxRecDepth 20000 in
theorem gX5_exchange_X3_warmthOf : GoodIn wsX5_exchange (wsV RX5 93 RX3 yX3_warmthOf wsX3_warmthOf) := goodIn_app (goodIn_of _ (by decide +kernel)) ggX5_exchange_X3_warmthOf
set_option maxRecDepth 20000 in
theorem ggX5_exchange_X5_transferred : GoodIn wsX5_exchange wsX5_transferred := goodIn_r _ [29, 30] (by decide +kernel) (by decide +kernel)
set_option maxRecDepth 20000 in
theorem gX5_exchange_X5_transferred : GoodIn wsX5_exchange (va_wsS RX5 102 yX5_transferred wsX5_transferred) := goodIn_app (goodIn_of _ (by decide +kernel)) ggX5_exchange_X5_transferred
set_option maxRecDepth 20000 in
theorem ggX5_exchange_X6_held : GoodIn wsX5_exchange wsX6_held := goodIn_r _ [33] (by decide +kernel) (by decide +kernel)
set_option maxRecDepth 20000 in
theorem gX5_exchange_X6_held_n106 : GoodIn wsX5_exchange (wsX6_held) := ggX5_exchange_X6_held
set_option maxRecDepth 20000 in
theorem ggX5_exchange_X3_fill : GoodIn wsX5_exchange wsX3_fill := goodIn_r _ [37, 12, 20, 13, 14, 10, 15, 47, 48] (by decide +kernel) (by decide +kernel)
set_option maxRecDepth 20000 in
theorem gX5_exchange_X3_fill : GoodIn wsX5_exchange (wsV RX5 66 RX3 yX3_fill wsX3_fill) := goodIn_app (goodIn_of _ (by decide +kernel)) ggX5_exchange_X3_fill
theorem dX5_exchange_0 : decode cX5_exchange 0 = .ok (.aload_n 0, 1) := by decide +kernel
theorem dX5_exchange_1 : decode cX5_exchange 1 = .ok (.getfield 25, 3) := by decide +kernel
theorem dX5_exchange_4 : decode cX5_exchange 4 = .ok (.iload_n 2, 1) := by decide +kernel
theorem dX5_exchange_5 : decode cX5_exchange 5 = .ok (.iaload, 1) := by decide +kernel
theorem dX5_exchange_6 : decode cX5_exchange 6 = .ok (.istore 4, 2) := by decide +kernel
theorem dX5_exchange_8 : decode cX5_exchange 8 = .ok (.aload_n 0, 1) := by decide +kernel
theorem dX5_exchange_9 : decode cX5_exchange 9 = .ok (.getfield 28, 3) := by decide +kernel
theorem dX5_exchange_12 : decode cX5_exchange 12 = .ok (.iload_n 2, 1) := by decide +kernel
theorem dX5_exchange_13 : decode cX5_exchange 13 = .ok (.iaload, 1) := by decide +kernel
theorem dX5_exchange_14 : decode cX5_exchange 14 = .ok (.istore 5, 2) := by decide +kernel
theorem dX5_exchange_16 : decode cX5_exchange 16 = .ok (.aload_n 1, 1) := by decide +kernel
theorem dX5_exchange_17 : decode cX5_exchange 17 = .ok (.iload 4, 2) := by decide +kernel
theorem dX5_exchange_19 : decode cX5_exchange 19 = .ok (.invokevirtual 84, 3) := by decide +kernel
theorem dX5_exchange_22 : decode cX5_exchange 22 = .ok (.lstore 6, 2) := by decide +kernel
theorem dX5_exchange_24 : decode cX5_exchange 24 = .ok (.aload_n 1, 1) := by decide +kernel
theorem dX5_exchange_25 : decode cX5_exchange 25 = .ok (.iload 4, 2) := by decide +kernel
theorem dX5_exchange_27 : decode cX5_exchange 27 = .ok (.invokevirtual 88, 3) := by decide +kernel
theorem dX5_exchange_30 : decode cX5_exchange 30 = .ok (.lstore 8, 2) := by decide +kernel
theorem dX5_exchange_32 : decode cX5_exchange 32 = .ok (.aload_n 1, 1) := by decide +kernel
theorem dX5_exchange_33 : decode cX5_exchange 33 = .ok (.iload 5, 2) := by decide +kernel
theorem dX5_exchange_35 : decode cX5_exchange 35 = .ok (.invokevirtual 84, 3) := by decide +kernel
theorem dX5_exchange_38 : decode cX5_exchange 38 = .ok (.lstore 10, 2) := by decide +kernel
theorem dX5_exchange_40 : decode cX5_exchange 40 = .ok (.aload_n 1, 1) := by decide +kernel
theorem dX5_exchange_41 : decode cX5_exchange 41 = .ok (.iload 5, 2) := by decide +kernel
theorem dX5_exchange_43 : decode cX5_exchange 43 = .ok (.invokevirtual 88, 3) := by decide +kernel
theorem dX5_exchange_46 : decode cX5_exchange 46 = .ok (.lstore 12, 2) := by decide +kernel
theorem dX5_exchange_48 : decode cX5_exchange 48 = .ok (.aload_n 1, 1) := by decide +kernel
theorem dX5_exchange_49 : decode cX5_exchange 49 = .ok (.iload 4, 2) := by decide +kernel
theorem dX5_exchange_51 : decode cX5_exchange 51 = .ok (.invokevirtual 93, 3) := by decide +kernel
theorem dX5_exchange_54 : decode cX5_exchange 54 = .ok (.aload_n 1, 1) := by decide +kernel
theorem dX5_exchange_55 : decode cX5_exchange 55 = .ok (.iload 5, 2) := by decide +kernel
theorem dX5_exchange_57 : decode cX5_exchange 57 = .ok (.invokevirtual 93, 3) := by decide +kernel
theorem dX5_exchange_60 : decode cX5_exchange 60 = .ok (.lsub, 1) := by decide +kernel
theorem dX5_exchange_61 : decode cX5_exchange 61 = .ok (.lstore 14, 2) := by decide +kernel
theorem dX5_exchange_63 : decode cX5_exchange 63 = .ok (.iload_n 3, 1) := by decide +kernel
theorem dX5_exchange_64 : decode cX5_exchange 64 = .ok (.i2l, 1) := by decide +kernel
theorem dX5_exchange_65 : decode cX5_exchange 65 = .ok (.lload 6, 2) := by decide +kernel
theorem dX5_exchange_67 : decode cX5_exchange 67 = .ok (.lload 10, 2) := by decide +kernel
theorem dX5_exchange_69 : decode cX5_exchange 69 = .ok (.invokestatic 96, 3) := by decide +kernel
theorem dX5_exchange_72 : decode cX5_exchange 72 = .ok (.lload 14, 2) := by decide +kernel
theorem dX5_exchange_74 : decode cX5_exchange 74 = .ok (.invokestatic 102, 3) := by decide +kernel
theorem dX5_exchange_77 : decode cX5_exchange 77 = .ok (.lstore 16, 2) := by decide +kernel
theorem dX5_exchange_79 : decode cX5_exchange 79 = .ok (.lload 16, 2) := by decide +kernel
theorem dX5_exchange_81 : decode cX5_exchange 81 = .ok (.lload 12, 2) := by decide +kernel
theorem dX5_exchange_83 : decode cX5_exchange 83 = .ok (.lneg, 1) := by decide +kernel
theorem dX5_exchange_84 : decode cX5_exchange 84 = .ok (.lload 8, 2) := by decide +kernel
theorem dX5_exchange_86 : decode cX5_exchange 86 = .ok (.invokestatic 106, 3) := by decide +kernel
theorem dX5_exchange_89 : decode cX5_exchange 89 = .ok (.lstore 18, 2) := by decide +kernel
theorem dX5_exchange_91 : decode cX5_exchange 91 = .ok (.aload_n 1, 1) := by decide +kernel
theorem dX5_exchange_92 : decode cX5_exchange 92 = .ok (.iconst 2, 1) := by decide +kernel
theorem dX5_exchange_93 : decode cX5_exchange 93 = .ok (.iload_n 2, 1) := by decide +kernel
theorem dX5_exchange_94 : decode cX5_exchange 94 = .ok (.imul, 1) := by decide +kernel
theorem dX5_exchange_95 : decode cX5_exchange 95 = .ok (.lload 6, 2) := by decide +kernel
theorem dX5_exchange_97 : decode cX5_exchange 97 = .ok (.lload 8, 2) := by decide +kernel
theorem dX5_exchange_99 : decode cX5_exchange 99 = .ok (.lload 18, 2) := by decide +kernel
theorem dX5_exchange_101 : decode cX5_exchange 101 = .ok (.lsub, 1) := by decide +kernel
theorem dX5_exchange_102 : decode cX5_exchange 102 = .ok (.invokevirtual 66, 3) := by decide +kernel
theorem dX5_exchange_105 : decode cX5_exchange 105 = .ok (.aload_n 1, 1) := by decide +kernel
theorem dX5_exchange_106 : decode cX5_exchange 106 = .ok (.iconst 2, 1) := by decide +kernel
theorem dX5_exchange_107 : decode cX5_exchange 107 = .ok (.iload_n 2, 1) := by decide +kernel
theorem dX5_exchange_108 : decode cX5_exchange 108 = .ok (.imul, 1) := by decide +kernel
theorem dX5_exchange_109 : decode cX5_exchange 109 = .ok (.iconst 1, 1) := by decide +kernel
theorem dX5_exchange_110 : decode cX5_exchange 110 = .ok (.iadd, 1) := by decide +kernel
theorem dX5_exchange_111 : decode cX5_exchange 111 = .ok (.lload 10, 2) := by decide +kernel
theorem dX5_exchange_113 : decode cX5_exchange 113 = .ok (.lload 12, 2) := by decide +kernel
theorem dX5_exchange_115 : decode cX5_exchange 115 = .ok (.lload 18, 2) := by decide +kernel
theorem dX5_exchange_117 : decode cX5_exchange 117 = .ok (.ladd, 1) := by decide +kernel
theorem dX5_exchange_118 : decode cX5_exchange 118 = .ok (.invokevirtual 66, 3) := by decide +kernel
theorem dX5_exchange_121 : decode cX5_exchange 121 = .ok (.lload 18, 2) := by decide +kernel
theorem dX5_exchange_123 : decode cX5_exchange 123 = .ok (.lreturn, 1) := by decide +kernel
theorem dX5_transferred_0 : decode cX5_transferred 0 = .ok (.lload_n 0, 1) := by decide +kernel
theorem dX5_transferred_1 : decode cX5_transferred 1 = .ok (.lload_n 2, 1) := by decide +kernel
theorem dX5_transferred_2 : decode cX5_transferred 2 = .ok (.ladd, 1) := by decide +kernel
theorem dX5_transferred_3 : decode cX5_transferred 3 = .ok (.lstore 6, 2) := by decide +kernel
theorem dX5_transferred_5 : decode cX5_transferred 5 = .ok (.lload 6, 2) := by decide +kernel
theorem dX5_transferred_7 : decode cX5_transferred 7 = .ok (.lconst 0, 1) := by decide +kernel
theorem dX5_transferred_8 : decode cX5_transferred 8 = .ok (.lcmp, 1) := by decide +kernel
theorem dX5_transferred_9 : decode cX5_transferred 9 = .ok (.ifCond .ne 7, 3) := by decide +kernel
theorem dX5_transferred_12 : decode cX5_transferred 12 = .ok (.lconst 0, 1) := by decide +kernel
theorem dX5_transferred_13 : decode cX5_transferred 13 = .ok (.goto 16, 3) := by decide +kernel
theorem dX5_transferred_16 : decode cX5_transferred 16 = .ok (.lload_n 0, 1) := by decide +kernel
theorem dX5_transferred_17 : decode cX5_transferred 17 = .ok (.lload_n 2, 1) := by decide +kernel
theorem dX5_transferred_18 : decode cX5_transferred 18 = .ok (.lmul, 1) := by decide +kernel
theorem dX5_transferred_19 : decode cX5_transferred 19 = .ok (.lload 4, 2) := by decide +kernel
theorem dX5_transferred_21 : decode cX5_transferred 21 = .ok (.lmul, 1) := by decide +kernel
theorem dX5_transferred_22 : decode cX5_transferred 22 = .ok (.ldc2_w 109, 3) := by decide +kernel
theorem dX5_transferred_25 : decode cX5_transferred 25 = .ok (.lload 6, 2) := by decide +kernel
theorem dX5_transferred_27 : decode cX5_transferred 27 = .ok (.lmul, 1) := by decide +kernel
theorem dX5_transferred_28 : decode cX5_transferred 28 = .ok (.ldiv, 1) := by decide +kernel
theorem dX5_transferred_29 : decode cX5_transferred 29 = .ok (.lreturn, 1) := by decide +kernel
set_option maxRecDepth 20000 in
theorem ggX5_cool_X3_flowOf : GoodIn wsX5_cool wsX3_flowOf := goodIn_r _ [10, 11, 12, 13, 9, 14, 33, 34] (by decide +kernel) (by decide +kernel)
set_option maxRecDepth 20000 in
theorem gX5_cool_X3_flowOf : GoodIn wsX5_cool (wsV RX5 84 RX3 yX3_flowOf wsX3_flowOf) := goodIn_app (goodIn_of _ (by decide +kernel)) ggX5_cool_X3_flowOf
set_option maxRecDepth 20000 in
theorem ggX5_cool_X3_heatOf : GoodIn wsX5_cool wsX3_heatOf := goodIn_r _ [18, 19, 12, 13, 9, 14, 33, 34] (by decide +kernel) (by decide +kernel)
set_option maxRecDepth 20000 in
theorem gX5_cool_X3_heatOf : GoodIn wsX5_cool (wsV RX5 88 RX3 yX3_heatOf wsX3_heatOf) := goodIn_app (goodIn_of _ (by decide +kernel)) ggX5_cool_X3_heatOf
set_option maxRecDepth 20000 in
theorem ggX5_cool_X3_fill : GoodIn wsX5_cool wsX3_fill := goodIn_r _ [23, 11, 19, 12, 13, 9, 14, 33, 34] (by decide +kernel) (by decide +kernel)
set_option maxRecDepth 20000 in
theorem gX5_cool_X3_fill : GoodIn wsX5_cool (wsV RX5 66 RX3 yX3_fill wsX3_fill) := goodIn_app (goodIn_of _ (by decide +kernel)) ggX5_cool_X3_fill
theorem dX5_cool_0 : decode cX5_cool 0 = .ok (.aload_n 1, 1) := by decide +kernel
theorem dX5_cool_1 : decode cX5_cool 1 = .ok (.aload_n 0, 1) := by decide +kernel
theorem dX5_cool_2 : decode cX5_cool 2 = .ok (.getfield 25, 3) := by decide +kernel
theorem dX5_cool_5 : decode cX5_cool 5 = .ok (.iload_n 2, 1) := by decide +kernel
theorem dX5_cool_6 : decode cX5_cool 6 = .ok (.iaload, 1) := by decide +kernel
theorem dX5_cool_7 : decode cX5_cool 7 = .ok (.invokevirtual 84, 3) := by decide +kernel
theorem dX5_cool_10 : decode cX5_cool 10 = .ok (.lstore 4, 2) := by decide +kernel
theorem dX5_cool_12 : decode cX5_cool 12 = .ok (.aload_n 1, 1) := by decide +kernel
theorem dX5_cool_13 : decode cX5_cool 13 = .ok (.aload_n 0, 1) := by decide +kernel
theorem dX5_cool_14 : decode cX5_cool 14 = .ok (.getfield 25, 3) := by decide +kernel
theorem dX5_cool_17 : decode cX5_cool 17 = .ok (.iload_n 2, 1) := by decide +kernel
theorem dX5_cool_18 : decode cX5_cool 18 = .ok (.iaload, 1) := by decide +kernel
theorem dX5_cool_19 : decode cX5_cool 19 = .ok (.invokevirtual 88, 3) := by decide +kernel
theorem dX5_cool_22 : decode cX5_cool 22 = .ok (.lstore 6, 2) := by decide +kernel
theorem dX5_cool_24 : decode cX5_cool 24 = .ok (.lload 6, 2) := by decide +kernel
theorem dX5_cool_26 : decode cX5_cool 26 = .ok (.iload_n 3, 1) := by decide +kernel
theorem dX5_cool_27 : decode cX5_cool 27 = .ok (.i2l, 1) := by decide +kernel
theorem dX5_cool_28 : decode cX5_cool 28 = .ok (.invokestatic 96, 3) := by decide +kernel
theorem dX5_cool_31 : decode cX5_cool 31 = .ok (.lstore 8, 2) := by decide +kernel
theorem dX5_cool_33 : decode cX5_cool 33 = .ok (.aload_n 1, 1) := by decide +kernel
theorem dX5_cool_34 : decode cX5_cool 34 = .ok (.iconst 2, 1) := by decide +kernel
theorem dX5_cool_35 : decode cX5_cool 35 = .ok (.iload_n 2, 1) := by decide +kernel
theorem dX5_cool_36 : decode cX5_cool 36 = .ok (.imul, 1) := by decide +kernel
theorem dX5_cool_37 : decode cX5_cool 37 = .ok (.lload 4, 2) := by decide +kernel
theorem dX5_cool_39 : decode cX5_cool 39 = .ok (.lload 6, 2) := by decide +kernel
theorem dX5_cool_41 : decode cX5_cool 41 = .ok (.lload 8, 2) := by decide +kernel
theorem dX5_cool_43 : decode cX5_cool 43 = .ok (.lsub, 1) := by decide +kernel
theorem dX5_cool_44 : decode cX5_cool 44 = .ok (.invokevirtual 66, 3) := by decide +kernel
theorem dX5_cool_47 : decode cX5_cool 47 = .ok (.lload 8, 2) := by decide +kernel
theorem dX5_cool_49 : decode cX5_cool 49 = .ok (.lreturn, 1) := by decide +kernel
set_option maxRecDepth 20000 in
theorem ggX5_heatMade_X3_heatOf : GoodIn wsX5_heatMade wsX3_heatOf := goodIn_r _ [7, 8, 9, 10, 6, 11, 21, 22] (by decide +kernel) (by decide +kernel)
set_option maxRecDepth 20000 in
theorem gX5_heatMade_X3_heatOf : GoodIn wsX5_heatMade (wsV RX5 88 RX3 yX3_heatOf wsX3_heatOf) := goodIn_app (goodIn_of _ (by decide +kernel)) ggX5_heatMade_X3_heatOf
theorem dX5_heatMade_0 : decode cX5_heatMade 0 = .ok (.lconst 0, 1) := by decide +kernel
theorem dX5_heatMade_1 : decode cX5_heatMade 1 = .ok (.lstore_n 2, 1) := by decide +kernel
theorem dX5_heatMade_2 : decode cX5_heatMade 2 = .ok (.iconst 0, 1) := by decide +kernel
theorem dX5_heatMade_3 : decode cX5_heatMade 3 = .ok (.istore 4, 2) := by decide +kernel
theorem dX5_heatMade_5 : decode cX5_heatMade 5 = .ok (.iload 4, 2) := by decide +kernel
theorem dX5_heatMade_7 : decode cX5_heatMade 7 = .ok (.aload_n 0, 1) := by decide +kernel
theorem dX5_heatMade_8 : decode cX5_heatMade 8 = .ok (.getfield 9, 3) := by decide +kernel
theorem dX5_heatMade_11 : decode cX5_heatMade 11 = .ok (.if_icmp .ge 41, 3) := by decide +kernel
theorem dX5_heatMade_14 : decode cX5_heatMade 14 = .ok (.iload 4, 2) := by decide +kernel
theorem dX5_heatMade_16 : decode cX5_heatMade 16 = .ok (.bipush 12, 2) := by decide +kernel
theorem dX5_heatMade_18 : decode cX5_heatMade 18 = .ok (.if_icmp .ge 34, 3) := by decide +kernel
theorem dX5_heatMade_21 : decode cX5_heatMade 21 = .ok (.lload_n 2, 1) := by decide +kernel
theorem dX5_heatMade_22 : decode cX5_heatMade 22 = .ok (.aload_n 0, 1) := by decide +kernel
theorem dX5_heatMade_23 : decode cX5_heatMade 23 = .ok (.getfield 15, 3) := by decide +kernel
theorem dX5_heatMade_26 : decode cX5_heatMade 26 = .ok (.iload 4, 2) := by decide +kernel
theorem dX5_heatMade_28 : decode cX5_heatMade 28 = .ok (.iaload, 1) := by decide +kernel
theorem dX5_heatMade_29 : decode cX5_heatMade 29 = .ok (.ifCond .ne 14, 3) := by decide +kernel
theorem dX5_heatMade_32 : decode cX5_heatMade 32 = .ok (.aload_n 1, 1) := by decide +kernel
theorem dX5_heatMade_33 : decode cX5_heatMade 33 = .ok (.iconst 2, 1) := by decide +kernel
theorem dX5_heatMade_34 : decode cX5_heatMade 34 = .ok (.iload 4, 2) := by decide +kernel
theorem dX5_heatMade_36 : decode cX5_heatMade 36 = .ok (.imul, 1) := by decide +kernel
theorem dX5_heatMade_37 : decode cX5_heatMade 37 = .ok (.invokevirtual 88, 3) := by decide +kernel
theorem dX5_heatMade_40 : decode cX5_heatMade 40 = .ok (.goto 4, 3) := by decide +kernel
theorem dX5_heatMade_43 : decode cX5_heatMade 43 = .ok (.lconst 0, 1) := by decide +kernel
theorem dX5_heatMade_44 : decode cX5_heatMade 44 = .ok (.ladd, 1) := by decide +kernel
theorem dX5_heatMade_45 : decode cX5_heatMade 45 = .ok (.lstore_n 2, 1) := by decide +kernel
theorem dX5_heatMade_46 : decode cX5_heatMade 46 = .ok (.iinc 4 1, 3) := by decide +kernel
theorem dX5_heatMade_49 : decode cX5_heatMade 49 = .ok (.goto (-44), 3) := by decide +kernel
theorem dX5_heatMade_52 : decode cX5_heatMade 52 = .ok (.lload_n 2, 1) := by decide +kernel
theorem dX5_heatMade_53 : decode cX5_heatMade 53 = .ok (.lreturn, 1) := by decide +kernel
theorem dX5_heatCooledAway_0 : decode cX5_heatCooledAway 0 = .ok (.lconst 0, 1) := by decide +kernel
theorem dX5_heatCooledAway_1 : decode cX5_heatCooledAway 1 = .ok (.lstore_n 1, 1) := by decide +kernel
theorem dX5_heatCooledAway_2 : decode cX5_heatCooledAway 2 = .ok (.iconst 0, 1) := by decide +kernel
theorem dX5_heatCooledAway_3 : decode cX5_heatCooledAway 3 = .ok (.istore_n 3, 1) := by decide +kernel
theorem dX5_heatCooledAway_4 : decode cX5_heatCooledAway 4 = .ok (.iload_n 3, 1) := by decide +kernel
theorem dX5_heatCooledAway_5 : decode cX5_heatCooledAway 5 = .ok (.aload_n 0, 1) := by decide +kernel
theorem dX5_heatCooledAway_6 : decode cX5_heatCooledAway 6 = .ok (.getfield 9, 3) := by decide +kernel
theorem dX5_heatCooledAway_9 : decode cX5_heatCooledAway 9 = .ok (.if_icmp .ge 38, 3) := by decide +kernel
theorem dX5_heatCooledAway_12 : decode cX5_heatCooledAway 12 = .ok (.iload_n 3, 1) := by decide +kernel
theorem dX5_heatCooledAway_13 : decode cX5_heatCooledAway 13 = .ok (.bipush 12, 2) := by decide +kernel
theorem dX5_heatCooledAway_15 : decode cX5_heatCooledAway 15 = .ok (.if_icmp .ge 32, 3) := by decide +kernel
theorem dX5_heatCooledAway_18 : decode cX5_heatCooledAway 18 = .ok (.lload_n 1, 1) := by decide +kernel
theorem dX5_heatCooledAway_19 : decode cX5_heatCooledAway 19 = .ok (.aload_n 0, 1) := by decide +kernel
theorem dX5_heatCooledAway_20 : decode cX5_heatCooledAway 20 = .ok (.getfield 15, 3) := by decide +kernel
theorem dX5_heatCooledAway_23 : decode cX5_heatCooledAway 23 = .ok (.iload_n 3, 1) := by decide +kernel
theorem dX5_heatCooledAway_24 : decode cX5_heatCooledAway 24 = .ok (.iaload, 1) := by decide +kernel
theorem dX5_heatCooledAway_25 : decode cX5_heatCooledAway 25 = .ok (.iconst 4, 1) := by decide +kernel
theorem dX5_heatCooledAway_26 : decode cX5_heatCooledAway 26 = .ok (.if_icmp .ne 12, 3) := by decide +kernel
theorem dX5_heatCooledAway_29 : decode cX5_heatCooledAway 29 = .ok (.aload_n 0, 1) := by decide +kernel
theorem dX5_heatCooledAway_30 : decode cX5_heatCooledAway 30 = .ok (.getfield 31, 3) := by decide +kernel
theorem dX5_heatCooledAway_33 : decode cX5_heatCooledAway 33 = .ok (.iload_n 3, 1) := by decide +kernel
theorem dX5_heatCooledAway_34 : decode cX5_heatCooledAway 34 = .ok (.laload, 1) := by decide +kernel
theorem dX5_heatCooledAway_35 : decode cX5_heatCooledAway 35 = .ok (.goto 4, 3) := by decide +kernel
theorem dX5_heatCooledAway_38 : decode cX5_heatCooledAway 38 = .ok (.lconst 0, 1) := by decide +kernel
theorem dX5_heatCooledAway_39 : decode cX5_heatCooledAway 39 = .ok (.ladd, 1) := by decide +kernel
theorem dX5_heatCooledAway_40 : decode cX5_heatCooledAway 40 = .ok (.lstore_n 1, 1) := by decide +kernel
theorem dX5_heatCooledAway_41 : decode cX5_heatCooledAway 41 = .ok (.iinc 3 1, 3) := by decide +kernel
theorem dX5_heatCooledAway_44 : decode cX5_heatCooledAway 44 = .ok (.goto (-40), 3) := by decide +kernel
theorem dX5_heatCooledAway_47 : decode cX5_heatCooledAway 47 = .ok (.lload_n 1, 1) := by decide +kernel
theorem dX5_heatCooledAway_48 : decode cX5_heatCooledAway 48 = .ok (.lreturn, 1) := by decide +kernel
set_option maxRecDepth 20000 in
theorem ggX5_heatUntaken_X3_heatOf : GoodIn wsX5_heatUntaken wsX3_heatOf := goodIn_r _ [6, 7, 8, 9, 5, 10, 20, 21] (by decide +kernel) (by decide +kernel)
set_option maxRecDepth 20000 in
theorem gX5_heatUntaken_X3_heatOf : GoodIn wsX5_heatUntaken (wsV RX5 88 RX3 yX3_heatOf wsX3_heatOf) := goodIn_app (goodIn_of _ (by decide +kernel)) ggX5_heatUntaken_X3_heatOf
theorem dX5_heatUntaken_0 : decode cX5_heatUntaken 0 = .ok (.lconst 0, 1) := by decide +kernel
theorem dX5_heatUntaken_1 : decode cX5_heatUntaken 1 = .ok (.lstore_n 2, 1) := by decide +kernel
theorem dX5_heatUntaken_2 : decode cX5_heatUntaken 2 = .ok (.iconst 0, 1) := by decide +kernel
theorem dX5_heatUntaken_3 : decode cX5_heatUntaken 3 = .ok (.istore 4, 2) := by decide +kernel
theorem dX5_heatUntaken_5 : decode cX5_heatUntaken 5 = .ok (.iload 4, 2) := by decide +kernel
theorem dX5_heatUntaken_7 : decode cX5_heatUntaken 7 = .ok (.bipush 24, 2) := by decide +kernel
theorem dX5_heatUntaken_9 : decode cX5_heatUntaken 9 = .ok (.if_icmp .ge 33, 3) := by decide +kernel
theorem dX5_heatUntaken_12 : decode cX5_heatUntaken 12 = .ok (.lload_n 2, 1) := by decide +kernel
theorem dX5_heatUntaken_13 : decode cX5_heatUntaken 13 = .ok (.aload_n 0, 1) := by decide +kernel
theorem dX5_heatUntaken_14 : decode cX5_heatUntaken 14 = .ok (.getfield 39, 3) := by decide +kernel
theorem dX5_heatUntaken_17 : decode cX5_heatUntaken 17 = .ok (.iload 4, 2) := by decide +kernel
theorem dX5_heatUntaken_19 : decode cX5_heatUntaken 19 = .ok (.iaload, 1) := by decide +kernel
theorem dX5_heatUntaken_20 : decode cX5_heatUntaken 20 = .ok (.iconst (-1), 1) := by decide +kernel
theorem dX5_heatUntaken_21 : decode cX5_heatUntaken 21 = .ok (.if_icmp .ne 12, 3) := by decide +kernel
theorem dX5_heatUntaken_24 : decode cX5_heatUntaken 24 = .ok (.aload_n 1, 1) := by decide +kernel
theorem dX5_heatUntaken_25 : decode cX5_heatUntaken 25 = .ok (.iload 4, 2) := by decide +kernel
theorem dX5_heatUntaken_27 : decode cX5_heatUntaken 27 = .ok (.invokevirtual 88, 3) := by decide +kernel
theorem dX5_heatUntaken_30 : decode cX5_heatUntaken 30 = .ok (.goto 4, 3) := by decide +kernel
theorem dX5_heatUntaken_33 : decode cX5_heatUntaken 33 = .ok (.lconst 0, 1) := by decide +kernel
theorem dX5_heatUntaken_34 : decode cX5_heatUntaken 34 = .ok (.ladd, 1) := by decide +kernel
theorem dX5_heatUntaken_35 : decode cX5_heatUntaken 35 = .ok (.lstore_n 2, 1) := by decide +kernel
theorem dX5_heatUntaken_36 : decode cX5_heatUntaken 36 = .ok (.iinc 4 1, 3) := by decide +kernel
theorem dX5_heatUntaken_39 : decode cX5_heatUntaken 39 = .ok (.goto (-34), 3) := by decide +kernel
theorem dX5_heatUntaken_42 : decode cX5_heatUntaken 42 = .ok (.lload_n 2, 1) := by decide +kernel
theorem dX5_heatUntaken_43 : decode cX5_heatUntaken 43 = .ok (.lreturn, 1) := by decide +kernel
set_option maxRecDepth 20000 in
theorem ggX5_heatHeldOver_X3_heatOf : GoodIn wsX5_heatHeldOver wsX3_heatOf := goodIn_r _ [6, 7, 8, 9, 5, 10, 20, 21] (by decide +kernel) (by decide +kernel)
set_option maxRecDepth 20000 in
theorem gX5_heatHeldOver_X3_heatOf : GoodIn wsX5_heatHeldOver (wsV RX5 88 RX3 yX3_heatOf wsX3_heatOf) := goodIn_app (goodIn_of _ (by decide +kernel)) ggX5_heatHeldOver_X3_heatOf
theorem dX5_heatHeldOver_0 : decode cX5_heatHeldOver 0 = .ok (.lconst 0, 1) := by decide +kernel
theorem dX5_heatHeldOver_1 : decode cX5_heatHeldOver 1 = .ok (.lstore_n 2, 1) := by decide +kernel
theorem dX5_heatHeldOver_2 : decode cX5_heatHeldOver 2 = .ok (.iconst 0, 1) := by decide +kernel
theorem dX5_heatHeldOver_3 : decode cX5_heatHeldOver 3 = .ok (.istore 4, 2) := by decide +kernel
theorem dX5_heatHeldOver_5 : decode cX5_heatHeldOver 5 = .ok (.iload 4, 2) := by decide +kernel
theorem dX5_heatHeldOver_7 : decode cX5_heatHeldOver 7 = .ok (.bipush 24, 2) := by decide +kernel
theorem dX5_heatHeldOver_9 : decode cX5_heatHeldOver 9 = .ok (.if_icmp .ge 47, 3) := by decide +kernel
theorem dX5_heatHeldOver_12 : decode cX5_heatHeldOver 12 = .ok (.lload_n 2, 1) := by decide +kernel
theorem dX5_heatHeldOver_13 : decode cX5_heatHeldOver 13 = .ok (.aload_n 0, 1) := by decide +kernel
theorem dX5_heatHeldOver_14 : decode cX5_heatHeldOver 14 = .ok (.getfield 39, 3) := by decide +kernel
theorem dX5_heatHeldOver_17 : decode cX5_heatHeldOver 17 = .ok (.iload 4, 2) := by decide +kernel
theorem dX5_heatHeldOver_19 : decode cX5_heatHeldOver 19 = .ok (.iaload, 1) := by decide +kernel
theorem dX5_heatHeldOver_20 : decode cX5_heatHeldOver 20 = .ok (.iconst (-1), 1) := by decide +kernel
theorem dX5_heatHeldOver_21 : decode cX5_heatHeldOver 21 = .ok (.if_icmp .eq 26, 3) := by decide +kernel
theorem dX5_heatHeldOver_24 : decode cX5_heatHeldOver 24 = .ok (.aload_n 0, 1) := by decide +kernel
theorem dX5_heatHeldOver_25 : decode cX5_heatHeldOver 25 = .ok (.getfield 39, 3) := by decide +kernel
theorem dX5_heatHeldOver_28 : decode cX5_heatHeldOver 28 = .ok (.iload 4, 2) := by decide +kernel
theorem dX5_heatHeldOver_30 : decode cX5_heatHeldOver 30 = .ok (.iaload, 1) := by decide +kernel
theorem dX5_heatHeldOver_31 : decode cX5_heatHeldOver 31 = .ok (.iload 4, 2) := by decide +kernel
theorem dX5_heatHeldOver_33 : decode cX5_heatHeldOver 33 = .ok (.iconst 2, 1) := by decide +kernel
theorem dX5_heatHeldOver_34 : decode cX5_heatHeldOver 34 = .ok (.idiv, 1) := by decide +kernel
theorem dX5_heatHeldOver_35 : decode cX5_heatHeldOver 35 = .ok (.if_icmp .gt 12, 3) := by decide +kernel
theorem dX5_heatHeldOver_38 : decode cX5_heatHeldOver 38 = .ok (.aload_n 1, 1) := by decide +kernel
theorem dX5_heatHeldOver_39 : decode cX5_heatHeldOver 39 = .ok (.iload 4, 2) := by decide +kernel
theorem dX5_heatHeldOver_41 : decode cX5_heatHeldOver 41 = .ok (.invokevirtual 88, 3) := by decide +kernel
theorem dX5_heatHeldOver_44 : decode cX5_heatHeldOver 44 = .ok (.goto 4, 3) := by decide +kernel
theorem dX5_heatHeldOver_47 : decode cX5_heatHeldOver 47 = .ok (.lconst 0, 1) := by decide +kernel
theorem dX5_heatHeldOver_48 : decode cX5_heatHeldOver 48 = .ok (.ladd, 1) := by decide +kernel
theorem dX5_heatHeldOver_49 : decode cX5_heatHeldOver 49 = .ok (.lstore_n 2, 1) := by decide +kernel
theorem dX5_heatHeldOver_50 : decode cX5_heatHeldOver 50 = .ok (.iinc 4 1, 3) := by decide +kernel
theorem dX5_heatHeldOver_53 : decode cX5_heatHeldOver 53 = .ok (.goto (-48), 3) := by decide +kernel
theorem dX5_heatHeldOver_56 : decode cX5_heatHeldOver 56 = .ok (.lload_n 2, 1) := by decide +kernel
theorem dX5_heatHeldOver_57 : decode cX5_heatHeldOver 57 = .ok (.lreturn, 1) := by decide +kernel
