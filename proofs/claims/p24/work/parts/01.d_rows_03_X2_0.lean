theorem dX2_init_0 : decode cX2_init 0 = .ok (.aload_n 0, 1) := by decide +kernel
theorem dX2_init_1 : decode cX2_init 1 = .ok (.invokespecial 3, 3) := by decide +kernel
theorem dX2_init_4 : decode cX2_init 4 = .ok (.aload_n 0, 1) := by decide +kernel
theorem dX2_init_5 : decode cX2_init 5 = .ok (.iconst 0, 1) := by decide +kernel
theorem dX2_init_6 : decode cX2_init 6 = .ok (.putfield 9, 3) := by decide +kernel
theorem dX2_init_9 : decode cX2_init 9 = .ok (.aload_n 0, 1) := by decide +kernel
theorem dX2_init_10 : decode cX2_init 10 = .ok (.bipush 40, 2) := by decide +kernel
theorem dX2_init_12 : decode cX2_init 12 = .ok (.newarray .int, 2) := by decide +kernel
theorem dX2_init_14 : decode cX2_init 14 = .ok (.putfield 15, 3) := by decide +kernel
theorem dX2_init_17 : decode cX2_init 17 = .ok (.aload_n 0, 1) := by decide +kernel
theorem dX2_init_18 : decode cX2_init 18 = .ok (.bipush 40, 2) := by decide +kernel
theorem dX2_init_20 : decode cX2_init 20 = .ok (.newarray .int, 2) := by decide +kernel
theorem dX2_init_22 : decode cX2_init 22 = .ok (.putfield 19, 3) := by decide +kernel
theorem dX2_init_25 : decode cX2_init 25 = .ok (.aload_n 0, 1) := by decide +kernel
theorem dX2_init_26 : decode cX2_init 26 = .ok (.bipush 40, 2) := by decide +kernel
theorem dX2_init_28 : decode cX2_init 28 = .ok (.newarray .int, 2) := by decide +kernel
theorem dX2_init_30 : decode cX2_init 30 = .ok (.putfield 22, 3) := by decide +kernel
theorem dX2_init_33 : decode cX2_init 33 = .ok (.return_, 1) := by decide +kernel
theorem dX2_toCome_0 : decode cX2_toCome 0 = .ok (.aload_n 0, 1) := by decide +kernel
theorem dX2_toCome_1 : decode cX2_toCome 1 = .ok (.getfield 9, 3) := by decide +kernel
theorem dX2_toCome_4 : decode cX2_toCome 4 = .ok (.ireturn, 1) := by decide +kernel
set_option maxRecDepth 20000 in
theorem ggX2_add_X2_write : GoodIn wsX2_add wsX2_write := goodIn_r _ [6, 7, 8, 9, 10, 11, 12, 13] (by decide +kernel) (by decide +kernel)
set_option maxRecDepth 20000 in
theorem gX2_add_X2_write : GoodIn wsX2_add (wsV RX2 25 RX2 yX2_write wsX2_write) := goodIn_app (goodIn_of _ (by decide +kernel)) ggX2_add_X2_write
theorem dX2_add_0 : decode cX2_add 0 = .ok (.aload_n 0, 1) := by decide +kernel
theorem dX2_add_1 : decode cX2_add 1 = .ok (.getfield 9, 3) := by decide +kernel
theorem dX2_add_4 : decode cX2_add 4 = .ok (.bipush 40, 2) := by decide +kernel
theorem dX2_add_6 : decode cX2_add 6 = .ok (.if_icmp .ge 24, 3) := by decide +kernel
theorem dX2_add_9 : decode cX2_add 9 = .ok (.aload_n 0, 1) := by decide +kernel
theorem dX2_add_10 : decode cX2_add 10 = .ok (.aload_n 0, 1) := by decide +kernel
theorem dX2_add_11 : decode cX2_add 11 = .ok (.getfield 9, 3) := by decide +kernel
theorem dX2_add_14 : decode cX2_add 14 = .ok (.iload_n 1, 1) := by decide +kernel
theorem dX2_add_15 : decode cX2_add 15 = .ok (.iload_n 2, 1) := by decide +kernel
theorem dX2_add_16 : decode cX2_add 16 = .ok (.iload_n 3, 1) := by decide +kernel
theorem dX2_add_17 : decode cX2_add 17 = .ok (.invokevirtual 25, 3) := by decide +kernel
theorem dX2_add_20 : decode cX2_add 20 = .ok (.aload_n 0, 1) := by decide +kernel
theorem dX2_add_21 : decode cX2_add 21 = .ok (.dup, 1) := by decide +kernel
theorem dX2_add_22 : decode cX2_add 22 = .ok (.getfield 9, 3) := by decide +kernel
theorem dX2_add_25 : decode cX2_add 25 = .ok (.iconst 1, 1) := by decide +kernel
theorem dX2_add_26 : decode cX2_add 26 = .ok (.iadd, 1) := by decide +kernel
theorem dX2_add_27 : decode cX2_add 27 = .ok (.putfield 9, 3) := by decide +kernel
theorem dX2_add_30 : decode cX2_add 30 = .ok (.return_, 1) := by decide +kernel
theorem dX2_write_0 : decode cX2_write 0 = .ok (.iload_n 1, 1) := by decide +kernel
theorem dX2_write_1 : decode cX2_write 1 = .ok (.ifCond .lt 31, 3) := by decide +kernel
theorem dX2_write_4 : decode cX2_write 4 = .ok (.iload_n 1, 1) := by decide +kernel
theorem dX2_write_5 : decode cX2_write 5 = .ok (.bipush 40, 2) := by decide +kernel
theorem dX2_write_7 : decode cX2_write 7 = .ok (.if_icmp .ge 25, 3) := by decide +kernel
theorem dX2_write_10 : decode cX2_write 10 = .ok (.aload_n 0, 1) := by decide +kernel
theorem dX2_write_11 : decode cX2_write 11 = .ok (.getfield 15, 3) := by decide +kernel
theorem dX2_write_14 : decode cX2_write 14 = .ok (.iload_n 1, 1) := by decide +kernel
theorem dX2_write_15 : decode cX2_write 15 = .ok (.iload_n 2, 1) := by decide +kernel
theorem dX2_write_16 : decode cX2_write 16 = .ok (.iastore, 1) := by decide +kernel
theorem dX2_write_17 : decode cX2_write 17 = .ok (.aload_n 0, 1) := by decide +kernel
theorem dX2_write_18 : decode cX2_write 18 = .ok (.getfield 19, 3) := by decide +kernel
theorem dX2_write_21 : decode cX2_write 21 = .ok (.iload_n 1, 1) := by decide +kernel
theorem dX2_write_22 : decode cX2_write 22 = .ok (.iload_n 3, 1) := by decide +kernel
theorem dX2_write_23 : decode cX2_write 23 = .ok (.iastore, 1) := by decide +kernel
theorem dX2_write_24 : decode cX2_write 24 = .ok (.aload_n 0, 1) := by decide +kernel
theorem dX2_write_25 : decode cX2_write 25 = .ok (.getfield 22, 3) := by decide +kernel
theorem dX2_write_28 : decode cX2_write 28 = .ok (.iload_n 1, 1) := by decide +kernel
theorem dX2_write_29 : decode cX2_write 29 = .ok (.iload 4, 2) := by decide +kernel
theorem dX2_write_31 : decode cX2_write 31 = .ok (.iastore, 1) := by decide +kernel
theorem dX2_write_32 : decode cX2_write 32 = .ok (.return_, 1) := by decide +kernel
set_option maxRecDepth 20000 in
theorem ggX2_playInto_X5_putNumber : GoodIn wsX2_playInto wsX5_putNumber := goodIn_r _ [9, 10, 11, 12, 13, 8, 14, 15, 25, 26, 27, 28, 29, 30, 31, 32, 33] (by decide +kernel) (by decide +kernel)
set_option maxRecDepth 20000 in
theorem gX2_playInto_X5_putNumber : GoodIn wsX2_playInto (wsV RX2 29 RX5 yX5_putNumber wsX5_putNumber) := goodIn_app (goodIn_of _ (by decide +kernel)) ggX2_playInto_X5_putNumber
set_option maxRecDepth 20000 in
theorem ggX2_playInto_X2_write : GoodIn wsX2_playInto wsX2_write := goodIn_r _ [20, 2, 3, 4, 21, 22, 23, 24] (by decide +kernel) (by decide +kernel)
set_option maxRecDepth 20000 in
theorem gX2_playInto_X2_write : GoodIn wsX2_playInto (wsV RX2 25 RX2 yX2_write wsX2_write) := goodIn_app (goodIn_of _ (by decide +kernel)) ggX2_playInto_X2_write
theorem dX2_playInto_0 : decode cX2_playInto 0 = .ok (.iconst 0, 1) := by decide +kernel
theorem dX2_playInto_1 : decode cX2_playInto 1 = .ok (.istore_n 3, 1) := by decide +kernel
theorem dX2_playInto_2 : decode cX2_playInto 2 = .ok (.iconst 0, 1) := by decide +kernel
theorem dX2_playInto_3 : decode cX2_playInto 3 = .ok (.istore 4, 2) := by decide +kernel
theorem dX2_playInto_5 : decode cX2_playInto 5 = .ok (.iload 4, 2) := by decide +kernel
theorem dX2_playInto_7 : decode cX2_playInto 7 = .ok (.aload_n 0, 1) := by decide +kernel
theorem dX2_playInto_8 : decode cX2_playInto 8 = .ok (.getfield 9, 3) := by decide +kernel
theorem dX2_playInto_11 : decode cX2_playInto 11 = .ok (.if_icmp .ge 77, 3) := by decide +kernel
theorem dX2_playInto_14 : decode cX2_playInto 14 = .ok (.iload 4, 2) := by decide +kernel
theorem dX2_playInto_16 : decode cX2_playInto 16 = .ok (.bipush 40, 2) := by decide +kernel
theorem dX2_playInto_18 : decode cX2_playInto 18 = .ok (.if_icmp .ge 70, 3) := by decide +kernel
theorem dX2_playInto_21 : decode cX2_playInto 21 = .ok (.aload_n 0, 1) := by decide +kernel
theorem dX2_playInto_22 : decode cX2_playInto 22 = .ok (.getfield 15, 3) := by decide +kernel
theorem dX2_playInto_25 : decode cX2_playInto 25 = .ok (.iload 4, 2) := by decide +kernel
theorem dX2_playInto_27 : decode cX2_playInto 27 = .ok (.iaload, 1) := by decide +kernel
theorem dX2_playInto_28 : decode cX2_playInto 28 = .ok (.iload_n 2, 1) := by decide +kernel
theorem dX2_playInto_29 : decode cX2_playInto 29 = .ok (.if_icmp .ne 24, 3) := by decide +kernel
theorem dX2_playInto_32 : decode cX2_playInto 32 = .ok (.aload_n 1, 1) := by decide +kernel
theorem dX2_playInto_33 : decode cX2_playInto 33 = .ok (.aload_n 0, 1) := by decide +kernel
theorem dX2_playInto_34 : decode cX2_playInto 34 = .ok (.getfield 19, 3) := by decide +kernel
theorem dX2_playInto_37 : decode cX2_playInto 37 = .ok (.iload 4, 2) := by decide +kernel
theorem dX2_playInto_39 : decode cX2_playInto 39 = .ok (.iaload, 1) := by decide +kernel
theorem dX2_playInto_40 : decode cX2_playInto 40 = .ok (.aload_n 0, 1) := by decide +kernel
theorem dX2_playInto_41 : decode cX2_playInto 41 = .ok (.getfield 22, 3) := by decide +kernel
theorem dX2_playInto_44 : decode cX2_playInto 44 = .ok (.iload 4, 2) := by decide +kernel
theorem dX2_playInto_46 : decode cX2_playInto 46 = .ok (.iaload, 1) := by decide +kernel
theorem dX2_playInto_47 : decode cX2_playInto 47 = .ok (.invokevirtual 29, 3) := by decide +kernel
theorem dX2_playInto_50 : decode cX2_playInto 50 = .ok (.goto 32, 3) := by decide +kernel
theorem dX2_playInto_53 : decode cX2_playInto 53 = .ok (.aload_n 0, 1) := by decide +kernel
theorem dX2_playInto_54 : decode cX2_playInto 54 = .ok (.iload_n 3, 1) := by decide +kernel
theorem dX2_playInto_55 : decode cX2_playInto 55 = .ok (.aload_n 0, 1) := by decide +kernel
theorem dX2_playInto_56 : decode cX2_playInto 56 = .ok (.getfield 15, 3) := by decide +kernel
theorem dX2_playInto_59 : decode cX2_playInto 59 = .ok (.iload 4, 2) := by decide +kernel
theorem dX2_playInto_61 : decode cX2_playInto 61 = .ok (.iaload, 1) := by decide +kernel
theorem dX2_playInto_62 : decode cX2_playInto 62 = .ok (.aload_n 0, 1) := by decide +kernel
theorem dX2_playInto_63 : decode cX2_playInto 63 = .ok (.getfield 19, 3) := by decide +kernel
theorem dX2_playInto_66 : decode cX2_playInto 66 = .ok (.iload 4, 2) := by decide +kernel
theorem dX2_playInto_68 : decode cX2_playInto 68 = .ok (.iaload, 1) := by decide +kernel
theorem dX2_playInto_69 : decode cX2_playInto 69 = .ok (.aload_n 0, 1) := by decide +kernel
theorem dX2_playInto_70 : decode cX2_playInto 70 = .ok (.getfield 22, 3) := by decide +kernel
theorem dX2_playInto_73 : decode cX2_playInto 73 = .ok (.iload 4, 2) := by decide +kernel
theorem dX2_playInto_75 : decode cX2_playInto 75 = .ok (.iaload, 1) := by decide +kernel
theorem dX2_playInto_76 : decode cX2_playInto 76 = .ok (.invokevirtual 25, 3) := by decide +kernel
theorem dX2_playInto_79 : decode cX2_playInto 79 = .ok (.iinc 3 1, 3) := by decide +kernel
theorem dX2_playInto_82 : decode cX2_playInto 82 = .ok (.iinc 4 1, 3) := by decide +kernel
theorem dX2_playInto_85 : decode cX2_playInto 85 = .ok (.goto (-80), 3) := by decide +kernel
theorem dX2_playInto_88 : decode cX2_playInto 88 = .ok (.aload_n 0, 1) := by decide +kernel
theorem dX2_playInto_89 : decode cX2_playInto 89 = .ok (.iload_n 3, 1) := by decide +kernel
theorem dX2_playInto_90 : decode cX2_playInto 90 = .ok (.putfield 9, 3) := by decide +kernel
theorem dX2_playInto_93 : decode cX2_playInto 93 = .ok (.return_, 1) := by decide +kernel
