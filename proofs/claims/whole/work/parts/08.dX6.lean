set_option maxRecDepth 20000 in
theorem ggX6_init_X6_clearReader : GoodIn wsX6_init wsX6_clearReader := goodIn_r _ [17, 5, 18, 19, 20, 21, 22, 23, 24, 25, 26, 27, 28] (by decide +kernel) (by decide +kernel)
set_option maxRecDepth 20000 in
theorem gX6_init_X6_clearReader : GoodIn wsX6_init (wsV RX6 34 RX6 yX6_clearReader wsX6_clearReader) := goodIn_app (goodIn_of _ (by decide +kernel)) ggX6_init_X6_clearReader
theorem dX6_init_0 : decode cX6_init 0 = .ok (.aload_n 0, 1) := by decide +kernel
theorem dX6_init_1 : decode cX6_init 1 = .ok (.invokespecial 1, 3) := by decide +kernel
theorem dX6_init_4 : decode cX6_init 4 = .ok (.aload_n 0, 1) := by decide +kernel
theorem dX6_init_5 : decode cX6_init 5 = .ok (.sipush 780, 3) := by decide +kernel
theorem dX6_init_8 : decode cX6_init 8 = .ok (.newarray .int, 2) := by decide +kernel
theorem dX6_init_10 : decode cX6_init 10 = .ok (.putfield 7, 3) := by decide +kernel
theorem dX6_init_13 : decode cX6_init 13 = .ok (.aload_n 0, 1) := by decide +kernel
theorem dX6_init_14 : decode cX6_init 14 = .ok (.sipush 3120, 3) := by decide +kernel
theorem dX6_init_17 : decode cX6_init 17 = .ok (.newarray .int, 2) := by decide +kernel
theorem dX6_init_19 : decode cX6_init 19 = .ok (.putfield 13, 3) := by decide +kernel
theorem dX6_init_22 : decode cX6_init 22 = .ok (.aload_n 0, 1) := by decide +kernel
theorem dX6_init_23 : decode cX6_init 23 = .ok (.sipush 780, 3) := by decide +kernel
theorem dX6_init_26 : decode cX6_init 26 = .ok (.newarray .int, 2) := by decide +kernel
theorem dX6_init_28 : decode cX6_init 28 = .ok (.putfield 16, 3) := by decide +kernel
theorem dX6_init_31 : decode cX6_init 31 = .ok (.aload_n 0, 1) := by decide +kernel
theorem dX6_init_32 : decode cX6_init 32 = .ok (.bipush 60, 2) := by decide +kernel
theorem dX6_init_34 : decode cX6_init 34 = .ok (.newarray .int, 2) := by decide +kernel
theorem dX6_init_36 : decode cX6_init 36 = .ok (.putfield 19, 3) := by decide +kernel
theorem dX6_init_39 : decode cX6_init 39 = .ok (.aload_n 0, 1) := by decide +kernel
theorem dX6_init_40 : decode cX6_init 40 = .ok (.iconst 3, 1) := by decide +kernel
theorem dX6_init_41 : decode cX6_init 41 = .ok (.newarray .int, 2) := by decide +kernel
theorem dX6_init_43 : decode cX6_init 43 = .ok (.putfield 22, 3) := by decide +kernel
theorem dX6_init_46 : decode cX6_init 46 = .ok (.aload_n 0, 1) := by decide +kernel
theorem dX6_init_47 : decode cX6_init 47 = .ok (.bipush 32, 2) := by decide +kernel
theorem dX6_init_49 : decode cX6_init 49 = .ok (.newarray .int, 2) := by decide +kernel
theorem dX6_init_51 : decode cX6_init 51 = .ok (.putfield 25, 3) := by decide +kernel
theorem dX6_init_54 : decode cX6_init 54 = .ok (.aload_n 0, 1) := by decide +kernel
theorem dX6_init_55 : decode cX6_init 55 = .ok (.bipush 96, 2) := by decide +kernel
theorem dX6_init_57 : decode cX6_init 57 = .ok (.newarray .int, 2) := by decide +kernel
theorem dX6_init_59 : decode cX6_init 59 = .ok (.putfield 28, 3) := by decide +kernel
theorem dX6_init_62 : decode cX6_init 62 = .ok (.aload_n 0, 1) := by decide +kernel
theorem dX6_init_63 : decode cX6_init 63 = .ok (.bipush 32, 2) := by decide +kernel
theorem dX6_init_65 : decode cX6_init 65 = .ok (.newarray .int, 2) := by decide +kernel
theorem dX6_init_67 : decode cX6_init 67 = .ok (.putfield 31, 3) := by decide +kernel
theorem dX6_init_70 : decode cX6_init 70 = .ok (.aload_n 0, 1) := by decide +kernel
theorem dX6_init_71 : decode cX6_init 71 = .ok (.getfield 7, 3) := by decide +kernel
theorem dX6_init_74 : decode cX6_init 74 = .ok (.iconst 0, 1) := by decide +kernel
theorem dX6_init_75 : decode cX6_init 75 = .ok (.iconst 2, 1) := by decide +kernel
theorem dX6_init_76 : decode cX6_init 76 = .ok (.iastore, 1) := by decide +kernel
theorem dX6_init_77 : decode cX6_init 77 = .ok (.aload_n 0, 1) := by decide +kernel
theorem dX6_init_78 : decode cX6_init 78 = .ok (.getfield 7, 3) := by decide +kernel
theorem dX6_init_81 : decode cX6_init 81 = .ok (.iconst 1, 1) := by decide +kernel
theorem dX6_init_82 : decode cX6_init 82 = .ok (.iconst 2, 1) := by decide +kernel
theorem dX6_init_83 : decode cX6_init 83 = .ok (.iastore, 1) := by decide +kernel
theorem dX6_init_84 : decode cX6_init 84 = .ok (.aload_n 0, 1) := by decide +kernel
theorem dX6_init_85 : decode cX6_init 85 = .ok (.getfield 7, 3) := by decide +kernel
theorem dX6_init_88 : decode cX6_init 88 = .ok (.iconst 2, 1) := by decide +kernel
theorem dX6_init_89 : decode cX6_init 89 = .ok (.bipush 7, 2) := by decide +kernel
theorem dX6_init_91 : decode cX6_init 91 = .ok (.iastore, 1) := by decide +kernel
theorem dX6_init_92 : decode cX6_init 92 = .ok (.aload_n 0, 1) := by decide +kernel
theorem dX6_init_93 : decode cX6_init 93 = .ok (.getfield 7, 3) := by decide +kernel
theorem dX6_init_96 : decode cX6_init 96 = .ok (.iconst 3, 1) := by decide +kernel
theorem dX6_init_97 : decode cX6_init 97 = .ok (.iconst 5, 1) := by decide +kernel
theorem dX6_init_98 : decode cX6_init 98 = .ok (.iastore, 1) := by decide +kernel
theorem dX6_init_99 : decode cX6_init 99 = .ok (.aload_n 0, 1) := by decide +kernel
theorem dX6_init_100 : decode cX6_init 100 = .ok (.getfield 7, 3) := by decide +kernel
theorem dX6_init_103 : decode cX6_init 103 = .ok (.iconst 5, 1) := by decide +kernel
theorem dX6_init_104 : decode cX6_init 104 = .ok (.bipush 10, 2) := by decide +kernel
theorem dX6_init_106 : decode cX6_init 106 = .ok (.iastore, 1) := by decide +kernel
theorem dX6_init_107 : decode cX6_init 107 = .ok (.aload_n 0, 1) := by decide +kernel
theorem dX6_init_108 : decode cX6_init 108 = .ok (.invokevirtual 34, 3) := by decide +kernel
theorem dX6_init_111 : decode cX6_init 111 = .ok (.return_, 1) := by decide +kernel
theorem dX6_in_0 : decode cX6_in 0 = .ok (.iload_n 0, 1) := by decide +kernel
theorem dX6_in_1 : decode cX6_in 1 = .ok (.iload_n 1, 1) := by decide +kernel
theorem dX6_in_2 : decode cX6_in 2 = .ok (.if_icmp .lt 12, 3) := by decide +kernel
theorem dX6_in_5 : decode cX6_in 5 = .ok (.iload_n 0, 1) := by decide +kernel
theorem dX6_in_6 : decode cX6_in 6 = .ok (.iload_n 2, 1) := by decide +kernel
theorem dX6_in_7 : decode cX6_in 7 = .ok (.if_icmp .gt 7, 3) := by decide +kernel
theorem dX6_in_10 : decode cX6_in 10 = .ok (.iconst 1, 1) := by decide +kernel
theorem dX6_in_11 : decode cX6_in 11 = .ok (.goto 4, 3) := by decide +kernel
theorem dX6_in_14 : decode cX6_in 14 = .ok (.iconst 0, 1) := by decide +kernel
theorem dX6_in_15 : decode cX6_in 15 = .ok (.ireturn, 1) := by decide +kernel
theorem dX6_record_0 : decode cX6_record 0 = .ok (.aload_n 0, 1) := by decide +kernel
theorem dX6_record_1 : decode cX6_record 1 = .ok (.getfield 37, 3) := by decide +kernel
theorem dX6_record_4 : decode cX6_record 4 = .ok (.iconst 4, 1) := by decide +kernel
theorem dX6_record_5 : decode cX6_record 5 = .ok (.if_icmp .ne 44, 3) := by decide +kernel
theorem dX6_record_8 : decode cX6_record 8 = .ok (.iconst 0, 1) := by decide +kernel
theorem dX6_record_9 : decode cX6_record 9 = .ok (.istore_n 1, 1) := by decide +kernel
theorem dX6_record_10 : decode cX6_record 10 = .ok (.iload_n 1, 1) := by decide +kernel
theorem dX6_record_11 : decode cX6_record 11 = .ok (.sipush 2340, 3) := by decide +kernel
theorem dX6_record_14 : decode cX6_record 14 = .ok (.if_icmp .ge 25, 3) := by decide +kernel
theorem dX6_record_17 : decode cX6_record 17 = .ok (.aload_n 0, 1) := by decide +kernel
theorem dX6_record_18 : decode cX6_record 18 = .ok (.getfield 13, 3) := by decide +kernel
theorem dX6_record_21 : decode cX6_record 21 = .ok (.iload_n 1, 1) := by decide +kernel
theorem dX6_record_22 : decode cX6_record 22 = .ok (.aload_n 0, 1) := by decide +kernel
theorem dX6_record_23 : decode cX6_record 23 = .ok (.getfield 13, 3) := by decide +kernel
theorem dX6_record_26 : decode cX6_record 26 = .ok (.iload_n 1, 1) := by decide +kernel
theorem dX6_record_27 : decode cX6_record 27 = .ok (.sipush 780, 3) := by decide +kernel
theorem dX6_record_30 : decode cX6_record 30 = .ok (.iadd, 1) := by decide +kernel
theorem dX6_record_31 : decode cX6_record 31 = .ok (.iaload, 1) := by decide +kernel
theorem dX6_record_32 : decode cX6_record 32 = .ok (.iastore, 1) := by decide +kernel
theorem dX6_record_33 : decode cX6_record 33 = .ok (.iinc 1 1, 3) := by decide +kernel
theorem dX6_record_36 : decode cX6_record 36 = .ok (.goto (-26), 3) := by decide +kernel
theorem dX6_record_39 : decode cX6_record 39 = .ok (.aload_n 0, 1) := by decide +kernel
theorem dX6_record_40 : decode cX6_record 40 = .ok (.dup, 1) := by decide +kernel
theorem dX6_record_41 : decode cX6_record 41 = .ok (.getfield 37, 3) := by decide +kernel
theorem dX6_record_44 : decode cX6_record 44 = .ok (.iconst 1, 1) := by decide +kernel
theorem dX6_record_45 : decode cX6_record 45 = .ok (.isub, 1) := by decide +kernel
theorem dX6_record_46 : decode cX6_record 46 = .ok (.putfield 37, 3) := by decide +kernel
theorem dX6_record_49 : decode cX6_record 49 = .ok (.iconst 0, 1) := by decide +kernel
theorem dX6_record_50 : decode cX6_record 50 = .ok (.istore_n 1, 1) := by decide +kernel
theorem dX6_record_51 : decode cX6_record 51 = .ok (.iload_n 1, 1) := by decide +kernel
theorem dX6_record_52 : decode cX6_record 52 = .ok (.sipush 780, 3) := by decide +kernel
theorem dX6_record_55 : decode cX6_record 55 = .ok (.if_icmp .ge 30, 3) := by decide +kernel
theorem dX6_record_58 : decode cX6_record 58 = .ok (.aload_n 0, 1) := by decide +kernel
theorem dX6_record_59 : decode cX6_record 59 = .ok (.getfield 13, 3) := by decide +kernel
theorem dX6_record_62 : decode cX6_record 62 = .ok (.sipush 780, 3) := by decide +kernel
theorem dX6_record_65 : decode cX6_record 65 = .ok (.aload_n 0, 1) := by decide +kernel
theorem dX6_record_66 : decode cX6_record 66 = .ok (.getfield 37, 3) := by decide +kernel
theorem dX6_record_69 : decode cX6_record 69 = .ok (.imul, 1) := by decide +kernel
theorem dX6_record_70 : decode cX6_record 70 = .ok (.iload_n 1, 1) := by decide +kernel
theorem dX6_record_71 : decode cX6_record 71 = .ok (.iadd, 1) := by decide +kernel
theorem dX6_record_72 : decode cX6_record 72 = .ok (.aload_n 0, 1) := by decide +kernel
theorem dX6_record_73 : decode cX6_record 73 = .ok (.getfield 7, 3) := by decide +kernel
theorem dX6_record_76 : decode cX6_record 76 = .ok (.iload_n 1, 1) := by decide +kernel
theorem dX6_record_77 : decode cX6_record 77 = .ok (.iaload, 1) := by decide +kernel
theorem dX6_record_78 : decode cX6_record 78 = .ok (.iastore, 1) := by decide +kernel
theorem dX6_record_79 : decode cX6_record 79 = .ok (.iinc 1 1, 3) := by decide +kernel
theorem dX6_record_82 : decode cX6_record 82 = .ok (.goto (-31), 3) := by decide +kernel
theorem dX6_record_85 : decode cX6_record 85 = .ok (.aload_n 0, 1) := by decide +kernel
theorem dX6_record_86 : decode cX6_record 86 = .ok (.dup, 1) := by decide +kernel
theorem dX6_record_87 : decode cX6_record 87 = .ok (.getfield 37, 3) := by decide +kernel
theorem dX6_record_90 : decode cX6_record 90 = .ok (.iconst 1, 1) := by decide +kernel
theorem dX6_record_91 : decode cX6_record 91 = .ok (.iadd, 1) := by decide +kernel
theorem dX6_record_92 : decode cX6_record 92 = .ok (.putfield 37, 3) := by decide +kernel
theorem dX6_record_95 : decode cX6_record 95 = .ok (.return_, 1) := by decide +kernel
theorem dX6_registers_0 : decode cX6_registers 0 = .ok (.iconst 1, 1) := by decide +kernel
theorem dX6_registers_1 : decode cX6_registers 1 = .ok (.aload_n 0, 1) := by decide +kernel
theorem dX6_registers_2 : decode cX6_registers 2 = .ok (.getfield 7, 3) := by decide +kernel
theorem dX6_registers_5 : decode cX6_registers 5 = .ok (.iconst 0, 1) := by decide +kernel
theorem dX6_registers_6 : decode cX6_registers 6 = .ok (.iaload, 1) := by decide +kernel
theorem dX6_registers_7 : decode cX6_registers 7 = .ok (.ishl, 1) := by decide +kernel
theorem dX6_registers_8 : decode cX6_registers 8 = .ok (.ireturn, 1) := by decide +kernel
set_option maxRecDepth 20000 in
theorem ggX6_window_X6_registers : GoodIn wsX6_window wsX6_registers := goodIn_r _ [5, 6, 7, 8, 9, 10, 11, 12, 13, 14, 15, 16, 17] (by decide +kernel) (by decide +kernel)
set_option maxRecDepth 20000 in
theorem gX6_window_X6_registers : GoodIn wsX6_window (wsV RX6 41 RX6 yX6_registers wsX6_registers) := goodIn_app (goodIn_of _ (by decide +kernel)) ggX6_window_X6_registers
theorem dX6_window_0 : decode cX6_window 0 = .ok (.iload_n 2, 1) := by decide +kernel
theorem dX6_window_1 : decode cX6_window 1 = .ok (.aload_n 0, 1) := by decide +kernel
theorem dX6_window_2 : decode cX6_window 2 = .ok (.invokevirtual 41, 3) := by decide +kernel
theorem dX6_window_5 : decode cX6_window 5 = .ok (.imul, 1) := by decide +kernel
theorem dX6_window_6 : decode cX6_window 6 = .ok (.iload_n 1, 1) := by decide +kernel
theorem dX6_window_7 : decode cX6_window 7 = .ok (.iadd, 1) := by decide +kernel
theorem dX6_window_8 : decode cX6_window 8 = .ok (.ireturn, 1) := by decide +kernel
theorem dX6_symbol_0 : decode cX6_symbol 0 = .ok (.aload_n 0, 1) := by decide +kernel
theorem dX6_symbol_1 : decode cX6_symbol 1 = .ok (.getfield 7, 3) := by decide +kernel
theorem dX6_symbol_4 : decode cX6_symbol 4 = .ok (.iconst 2, 1) := by decide +kernel
theorem dX6_symbol_5 : decode cX6_symbol 5 = .ok (.iload_n 1, 1) := by decide +kernel
theorem dX6_symbol_6 : decode cX6_symbol 6 = .ok (.iadd, 1) := by decide +kernel
theorem dX6_symbol_7 : decode cX6_symbol 7 = .ok (.iaload, 1) := by decide +kernel
theorem dX6_symbol_8 : decode cX6_symbol 8 = .ok (.iload_n 2, 1) := by decide +kernel
theorem dX6_symbol_9 : decode cX6_symbol 9 = .ok (.iand, 1) := by decide +kernel
theorem dX6_symbol_10 : decode cX6_symbol 10 = .ok (.istore_n 3, 1) := by decide +kernel
theorem dX6_symbol_11 : decode cX6_symbol 11 = .ok (.iconst 0, 1) := by decide +kernel
theorem dX6_symbol_12 : decode cX6_symbol 12 = .ok (.istore 4, 2) := by decide +kernel
theorem dX6_symbol_14 : decode cX6_symbol 14 = .ok (.iload_n 3, 1) := by decide +kernel
theorem dX6_symbol_15 : decode cX6_symbol 15 = .ok (.ifCond .le 18, 3) := by decide +kernel
theorem dX6_symbol_18 : decode cX6_symbol 18 = .ok (.iload 4, 2) := by decide +kernel
theorem dX6_symbol_20 : decode cX6_symbol 20 = .ok (.iload_n 3, 1) := by decide +kernel
theorem dX6_symbol_21 : decode cX6_symbol 21 = .ok (.iconst 1, 1) := by decide +kernel
theorem dX6_symbol_22 : decode cX6_symbol 22 = .ok (.iand, 1) := by decide +kernel
theorem dX6_symbol_23 : decode cX6_symbol 23 = .ok (.ixor, 1) := by decide +kernel
theorem dX6_symbol_24 : decode cX6_symbol 24 = .ok (.istore 4, 2) := by decide +kernel
theorem dX6_symbol_26 : decode cX6_symbol 26 = .ok (.iload_n 3, 1) := by decide +kernel
theorem dX6_symbol_27 : decode cX6_symbol 27 = .ok (.iconst 2, 1) := by decide +kernel
theorem dX6_symbol_28 : decode cX6_symbol 28 = .ok (.idiv, 1) := by decide +kernel
theorem dX6_symbol_29 : decode cX6_symbol 29 = .ok (.istore_n 3, 1) := by decide +kernel
theorem dX6_symbol_30 : decode cX6_symbol 30 = .ok (.goto (-16), 3) := by decide +kernel
theorem dX6_symbol_33 : decode cX6_symbol 33 = .ok (.iload 4, 2) := by decide +kernel
theorem dX6_symbol_35 : decode cX6_symbol 35 = .ok (.ireturn, 1) := by decide +kernel
set_option maxRecDepth 20000 in
theorem ggX6_ones_X6_symbol : GoodIn wsX6_ones wsX6_symbol := goodIn_r _ [6, 1, 7, 8, 9, 10, 11, 12, 13, 14, 15, 16, 17] (by decide +kernel) (by decide +kernel)
set_option maxRecDepth 20000 in
theorem gX6_ones_X6_symbol : GoodIn wsX6_ones (wsV RX6 45 RX6 yX6_symbol wsX6_symbol) := goodIn_app (goodIn_of _ (by decide +kernel)) ggX6_ones_X6_symbol
theorem dX6_ones_0 : decode cX6_ones 0 = .ok (.iconst 0, 1) := by decide +kernel
theorem dX6_ones_1 : decode cX6_ones 1 = .ok (.istore_n 2, 1) := by decide +kernel
theorem dX6_ones_2 : decode cX6_ones 2 = .ok (.iconst 0, 1) := by decide +kernel
theorem dX6_ones_3 : decode cX6_ones 3 = .ok (.istore_n 3, 1) := by decide +kernel
theorem dX6_ones_4 : decode cX6_ones 4 = .ok (.iload_n 3, 1) := by decide +kernel
theorem dX6_ones_5 : decode cX6_ones 5 = .ok (.aload_n 0, 1) := by decide +kernel
theorem dX6_ones_6 : decode cX6_ones 6 = .ok (.getfield 7, 3) := by decide +kernel
theorem dX6_ones_9 : decode cX6_ones 9 = .ok (.iconst 1, 1) := by decide +kernel
theorem dX6_ones_10 : decode cX6_ones 10 = .ok (.iaload, 1) := by decide +kernel
theorem dX6_ones_11 : decode cX6_ones 11 = .ok (.if_icmp .ge 18, 3) := by decide +kernel
theorem dX6_ones_14 : decode cX6_ones 14 = .ok (.iload_n 2, 1) := by decide +kernel
theorem dX6_ones_15 : decode cX6_ones 15 = .ok (.aload_n 0, 1) := by decide +kernel
theorem dX6_ones_16 : decode cX6_ones 16 = .ok (.iload_n 3, 1) := by decide +kernel
theorem dX6_ones_17 : decode cX6_ones 17 = .ok (.iload_n 1, 1) := by decide +kernel
theorem dX6_ones_18 : decode cX6_ones 18 = .ok (.invokevirtual 45, 3) := by decide +kernel
theorem dX6_ones_21 : decode cX6_ones 21 = .ok (.iadd, 1) := by decide +kernel
theorem dX6_ones_22 : decode cX6_ones 22 = .ok (.istore_n 2, 1) := by decide +kernel
theorem dX6_ones_23 : decode cX6_ones 23 = .ok (.iinc 3 1, 3) := by decide +kernel
theorem dX6_ones_26 : decode cX6_ones 26 = .ok (.goto (-22), 3) := by decide +kernel
theorem dX6_ones_29 : decode cX6_ones 29 = .ok (.iload_n 2, 1) := by decide +kernel
theorem dX6_ones_30 : decode cX6_ones 30 = .ok (.ireturn, 1) := by decide +kernel
theorem dX6_clearReader_0 : decode cX6_clearReader 0 = .ok (.aload_n 0, 1) := by decide +kernel
theorem dX6_clearReader_1 : decode cX6_clearReader 1 = .ok (.getfield 7, 3) := by decide +kernel
theorem dX6_clearReader_4 : decode cX6_clearReader 4 = .ok (.bipush 8, 2) := by decide +kernel
theorem dX6_clearReader_6 : decode cX6_clearReader 6 = .ok (.iconst 0, 1) := by decide +kernel
theorem dX6_clearReader_7 : decode cX6_clearReader 7 = .ok (.iastore, 1) := by decide +kernel
theorem dX6_clearReader_8 : decode cX6_clearReader 8 = .ok (.aload_n 0, 1) := by decide +kernel
theorem dX6_clearReader_9 : decode cX6_clearReader 9 = .ok (.getfield 7, 3) := by decide +kernel
theorem dX6_clearReader_12 : decode cX6_clearReader 12 = .ok (.bipush 9, 2) := by decide +kernel
theorem dX6_clearReader_14 : decode cX6_clearReader 14 = .ok (.iconst 0, 1) := by decide +kernel
theorem dX6_clearReader_15 : decode cX6_clearReader 15 = .ok (.iastore, 1) := by decide +kernel
theorem dX6_clearReader_16 : decode cX6_clearReader 16 = .ok (.aload_n 0, 1) := by decide +kernel
theorem dX6_clearReader_17 : decode cX6_clearReader 17 = .ok (.getfield 7, 3) := by decide +kernel
theorem dX6_clearReader_20 : decode cX6_clearReader 20 = .ok (.bipush 10, 2) := by decide +kernel
theorem dX6_clearReader_22 : decode cX6_clearReader 22 = .ok (.iconst 0, 1) := by decide +kernel
theorem dX6_clearReader_23 : decode cX6_clearReader 23 = .ok (.iastore, 1) := by decide +kernel
theorem dX6_clearReader_24 : decode cX6_clearReader 24 = .ok (.aload_n 0, 1) := by decide +kernel
theorem dX6_clearReader_25 : decode cX6_clearReader 25 = .ok (.getfield 7, 3) := by decide +kernel
theorem dX6_clearReader_28 : decode cX6_clearReader 28 = .ok (.bipush 11, 2) := by decide +kernel
theorem dX6_clearReader_30 : decode cX6_clearReader 30 = .ok (.iconst 0, 1) := by decide +kernel
theorem dX6_clearReader_31 : decode cX6_clearReader 31 = .ok (.iastore, 1) := by decide +kernel
theorem dX6_clearReader_32 : decode cX6_clearReader 32 = .ok (.iconst 0, 1) := by decide +kernel
theorem dX6_clearReader_33 : decode cX6_clearReader 33 = .ok (.istore_n 1, 1) := by decide +kernel
theorem dX6_clearReader_34 : decode cX6_clearReader 34 = .ok (.iload_n 1, 1) := by decide +kernel
theorem dX6_clearReader_35 : decode cX6_clearReader 35 = .ok (.bipush 32, 2) := by decide +kernel
theorem dX6_clearReader_37 : decode cX6_clearReader 37 = .ok (.if_icmp .ge 28, 3) := by decide +kernel
theorem dX6_clearReader_40 : decode cX6_clearReader 40 = .ok (.aload_n 0, 1) := by decide +kernel
theorem dX6_clearReader_41 : decode cX6_clearReader 41 = .ok (.getfield 7, 3) := by decide +kernel
theorem dX6_clearReader_44 : decode cX6_clearReader 44 = .ok (.sipush 572, 3) := by decide +kernel
theorem dX6_clearReader_47 : decode cX6_clearReader 47 = .ok (.iload_n 1, 1) := by decide +kernel
theorem dX6_clearReader_48 : decode cX6_clearReader 48 = .ok (.iadd, 1) := by decide +kernel
theorem dX6_clearReader_49 : decode cX6_clearReader 49 = .ok (.iload_n 1, 1) := by decide +kernel
theorem dX6_clearReader_50 : decode cX6_clearReader 50 = .ok (.ifCond .ne 7, 3) := by decide +kernel
theorem dX6_clearReader_53 : decode cX6_clearReader 53 = .ok (.iconst 0, 1) := by decide +kernel
theorem dX6_clearReader_54 : decode cX6_clearReader 54 = .ok (.goto 4, 3) := by decide +kernel
theorem dX6_clearReader_57 : decode cX6_clearReader 57 = .ok (.iconst (-1), 1) := by decide +kernel
theorem dX6_clearReader_58 : decode cX6_clearReader 58 = .ok (.iastore, 1) := by decide +kernel
theorem dX6_clearReader_59 : decode cX6_clearReader 59 = .ok (.iinc 1 1, 3) := by decide +kernel
theorem dX6_clearReader_62 : decode cX6_clearReader 62 = .ok (.goto (-28), 3) := by decide +kernel
theorem dX6_clearReader_65 : decode cX6_clearReader 65 = .ok (.iconst 0, 1) := by decide +kernel
theorem dX6_clearReader_66 : decode cX6_clearReader 66 = .ok (.istore_n 1, 1) := by decide +kernel
theorem dX6_clearReader_67 : decode cX6_clearReader 67 = .ok (.iload_n 1, 1) := by decide +kernel
theorem dX6_clearReader_68 : decode cX6_clearReader 68 = .ok (.bipush 96, 2) := by decide +kernel
theorem dX6_clearReader_70 : decode cX6_clearReader 70 = .ok (.if_icmp .ge 20, 3) := by decide +kernel
theorem dX6_clearReader_73 : decode cX6_clearReader 73 = .ok (.aload_n 0, 1) := by decide +kernel
theorem dX6_clearReader_74 : decode cX6_clearReader 74 = .ok (.getfield 7, 3) := by decide +kernel
theorem dX6_clearReader_77 : decode cX6_clearReader 77 = .ok (.sipush 684, 3) := by decide +kernel
theorem dX6_clearReader_80 : decode cX6_clearReader 80 = .ok (.iload_n 1, 1) := by decide +kernel
theorem dX6_clearReader_81 : decode cX6_clearReader 81 = .ok (.iadd, 1) := by decide +kernel
theorem dX6_clearReader_82 : decode cX6_clearReader 82 = .ok (.iconst 0, 1) := by decide +kernel
theorem dX6_clearReader_83 : decode cX6_clearReader 83 = .ok (.iastore, 1) := by decide +kernel
theorem dX6_clearReader_84 : decode cX6_clearReader 84 = .ok (.iinc 1 1, 3) := by decide +kernel
theorem dX6_clearReader_87 : decode cX6_clearReader 87 = .ok (.goto (-20), 3) := by decide +kernel
theorem dX6_clearReader_90 : decode cX6_clearReader 90 = .ok (.return_, 1) := by decide +kernel
set_option maxRecDepth 20000 in
theorem ggX6_setCode_X6_in : GoodIn wsX6_setCode wsX6_in := goodIn_r _ [5] (by decide +kernel) (by decide +kernel)
set_option maxRecDepth 20000 in
theorem gX6_setCode_X6_in : GoodIn wsX6_setCode (va_wsS RX6 49 yX6_in wsX6_in) := goodIn_app (goodIn_of _ (by decide +kernel)) ggX6_setCode_X6_in
set_option maxRecDepth 20000 in
theorem ggX6_setCode_X6_record : GoodIn wsX6_setCode wsX6_record := goodIn_r _ [9, 10, 11, 1, 16, 17, 18, 19, 20, 21, 22, 23, 24, 25, 26] (by decide +kernel) (by decide +kernel)
set_option maxRecDepth 20000 in
theorem gX6_setCode_X6_record : GoodIn wsX6_setCode (wsV RX6 53 RX6 yX6_record wsX6_record) := goodIn_app (goodIn_of _ (by decide +kernel)) ggX6_setCode_X6_record
set_option maxRecDepth 20000 in
theorem ggX6_setCode_X6_clearReader : GoodIn wsX6_setCode wsX6_clearReader := goodIn_r _ [15, 1, 16, 17, 18, 19, 20, 21, 22, 23, 24, 25, 26] (by decide +kernel) (by decide +kernel)
set_option maxRecDepth 20000 in
theorem gX6_setCode_X6_clearReader : GoodIn wsX6_setCode (wsV RX6 34 RX6 yX6_clearReader wsX6_clearReader) := goodIn_app (goodIn_of _ (by decide +kernel)) ggX6_setCode_X6_clearReader
theorem dX6_setCode_0 : decode cX6_setCode 0 = .ok (.iload_n 1, 1) := by decide +kernel
theorem dX6_setCode_1 : decode cX6_setCode 1 = .ok (.iconst 1, 1) := by decide +kernel
theorem dX6_setCode_2 : decode cX6_setCode 2 = .ok (.iconst 5, 1) := by decide +kernel
theorem dX6_setCode_3 : decode cX6_setCode 3 = .ok (.invokestatic 49, 3) := by decide +kernel
theorem dX6_setCode_6 : decode cX6_setCode 6 = .ok (.ifCond .ne 6, 3) := by decide +kernel
theorem dX6_setCode_9 : decode cX6_setCode 9 = .ok (.bipush (-2), 2) := by decide +kernel
theorem dX6_setCode_11 : decode cX6_setCode 11 = .ok (.ireturn, 1) := by decide +kernel
theorem dX6_setCode_12 : decode cX6_setCode 12 = .ok (.iconst 2, 1) := by decide +kernel
theorem dX6_setCode_13 : decode cX6_setCode 13 = .ok (.iload_n 1, 1) := by decide +kernel
theorem dX6_setCode_14 : decode cX6_setCode 14 = .ok (.ishl, 1) := by decide +kernel
theorem dX6_setCode_15 : decode cX6_setCode 15 = .ok (.iconst 1, 1) := by decide +kernel
theorem dX6_setCode_16 : decode cX6_setCode 16 = .ok (.isub, 1) := by decide +kernel
theorem dX6_setCode_17 : decode cX6_setCode 17 = .ok (.istore 5, 2) := by decide +kernel
theorem dX6_setCode_19 : decode cX6_setCode 19 = .ok (.iload_n 2, 1) := by decide +kernel
theorem dX6_setCode_20 : decode cX6_setCode 20 = .ok (.iconst 1, 1) := by decide +kernel
theorem dX6_setCode_21 : decode cX6_setCode 21 = .ok (.iload 5, 2) := by decide +kernel
theorem dX6_setCode_23 : decode cX6_setCode 23 = .ok (.invokestatic 49, 3) := by decide +kernel
theorem dX6_setCode_26 : decode cX6_setCode 26 = .ok (.ifCond .eq 24, 3) := by decide +kernel
theorem dX6_setCode_29 : decode cX6_setCode 29 = .ok (.iload_n 3, 1) := by decide +kernel
theorem dX6_setCode_30 : decode cX6_setCode 30 = .ok (.iconst 1, 1) := by decide +kernel
theorem dX6_setCode_31 : decode cX6_setCode 31 = .ok (.iload 5, 2) := by decide +kernel
theorem dX6_setCode_33 : decode cX6_setCode 33 = .ok (.invokestatic 49, 3) := by decide +kernel
theorem dX6_setCode_36 : decode cX6_setCode 36 = .ok (.ifCond .eq 14, 3) := by decide +kernel
theorem dX6_setCode_39 : decode cX6_setCode 39 = .ok (.iload 4, 2) := by decide +kernel
theorem dX6_setCode_41 : decode cX6_setCode 41 = .ok (.iconst 0, 1) := by decide +kernel
theorem dX6_setCode_42 : decode cX6_setCode 42 = .ok (.iload 5, 2) := by decide +kernel
theorem dX6_setCode_44 : decode cX6_setCode 44 = .ok (.invokestatic 49, 3) := by decide +kernel
theorem dX6_setCode_47 : decode cX6_setCode 47 = .ok (.ifCond .ne 6, 3) := by decide +kernel
theorem dX6_setCode_50 : decode cX6_setCode 50 = .ok (.bipush (-2), 2) := by decide +kernel
theorem dX6_setCode_52 : decode cX6_setCode 52 = .ok (.ireturn, 1) := by decide +kernel
theorem dX6_setCode_53 : decode cX6_setCode 53 = .ok (.aload_n 0, 1) := by decide +kernel
theorem dX6_setCode_54 : decode cX6_setCode 54 = .ok (.invokevirtual 53, 3) := by decide +kernel
theorem dX6_setCode_57 : decode cX6_setCode 57 = .ok (.aload_n 0, 1) := by decide +kernel
theorem dX6_setCode_58 : decode cX6_setCode 58 = .ok (.getfield 7, 3) := by decide +kernel
theorem dX6_setCode_61 : decode cX6_setCode 61 = .ok (.iconst 0, 1) := by decide +kernel
theorem dX6_setCode_62 : decode cX6_setCode 62 = .ok (.iload_n 1, 1) := by decide +kernel
theorem dX6_setCode_63 : decode cX6_setCode 63 = .ok (.iastore, 1) := by decide +kernel
theorem dX6_setCode_64 : decode cX6_setCode 64 = .ok (.aload_n 0, 1) := by decide +kernel
theorem dX6_setCode_65 : decode cX6_setCode 65 = .ok (.getfield 7, 3) := by decide +kernel
theorem dX6_setCode_68 : decode cX6_setCode 68 = .ok (.iconst 1, 1) := by decide +kernel
theorem dX6_setCode_69 : decode cX6_setCode 69 = .ok (.iload 4, 2) := by decide +kernel
theorem dX6_setCode_71 : decode cX6_setCode 71 = .ok (.ifCond .le 7, 3) := by decide +kernel
theorem dX6_setCode_74 : decode cX6_setCode 74 = .ok (.iconst 3, 1) := by decide +kernel
theorem dX6_setCode_75 : decode cX6_setCode 75 = .ok (.goto 4, 3) := by decide +kernel
theorem dX6_setCode_78 : decode cX6_setCode 78 = .ok (.iconst 2, 1) := by decide +kernel
theorem dX6_setCode_79 : decode cX6_setCode 79 = .ok (.iastore, 1) := by decide +kernel
theorem dX6_setCode_80 : decode cX6_setCode 80 = .ok (.aload_n 0, 1) := by decide +kernel
theorem dX6_setCode_81 : decode cX6_setCode 81 = .ok (.getfield 7, 3) := by decide +kernel
theorem dX6_setCode_84 : decode cX6_setCode 84 = .ok (.iconst 2, 1) := by decide +kernel
theorem dX6_setCode_85 : decode cX6_setCode 85 = .ok (.iload_n 2, 1) := by decide +kernel
theorem dX6_setCode_86 : decode cX6_setCode 86 = .ok (.iastore, 1) := by decide +kernel
theorem dX6_setCode_87 : decode cX6_setCode 87 = .ok (.aload_n 0, 1) := by decide +kernel
theorem dX6_setCode_88 : decode cX6_setCode 88 = .ok (.getfield 7, 3) := by decide +kernel
theorem dX6_setCode_91 : decode cX6_setCode 91 = .ok (.iconst 3, 1) := by decide +kernel
theorem dX6_setCode_92 : decode cX6_setCode 92 = .ok (.iload_n 3, 1) := by decide +kernel
theorem dX6_setCode_93 : decode cX6_setCode 93 = .ok (.iastore, 1) := by decide +kernel
theorem dX6_setCode_94 : decode cX6_setCode 94 = .ok (.aload_n 0, 1) := by decide +kernel
theorem dX6_setCode_95 : decode cX6_setCode 95 = .ok (.getfield 7, 3) := by decide +kernel
theorem dX6_setCode_98 : decode cX6_setCode 98 = .ok (.iconst 4, 1) := by decide +kernel
theorem dX6_setCode_99 : decode cX6_setCode 99 = .ok (.iload 4, 2) := by decide +kernel
theorem dX6_setCode_101 : decode cX6_setCode 101 = .ok (.iastore, 1) := by decide +kernel
theorem dX6_setCode_102 : decode cX6_setCode 102 = .ok (.aload_n 0, 1) := by decide +kernel
theorem dX6_setCode_103 : decode cX6_setCode 103 = .ok (.getfield 7, 3) := by decide +kernel
theorem dX6_setCode_106 : decode cX6_setCode 106 = .ok (.bipush 6, 2) := by decide +kernel
theorem dX6_setCode_108 : decode cX6_setCode 108 = .ok (.iconst 0, 1) := by decide +kernel
theorem dX6_setCode_109 : decode cX6_setCode 109 = .ok (.iastore, 1) := by decide +kernel
theorem dX6_setCode_110 : decode cX6_setCode 110 = .ok (.aload_n 0, 1) := by decide +kernel
theorem dX6_setCode_111 : decode cX6_setCode 111 = .ok (.getfield 7, 3) := by decide +kernel
theorem dX6_setCode_114 : decode cX6_setCode 114 = .ok (.bipush 7, 2) := by decide +kernel
theorem dX6_setCode_116 : decode cX6_setCode 116 = .ok (.iconst 0, 1) := by decide +kernel
theorem dX6_setCode_117 : decode cX6_setCode 117 = .ok (.iastore, 1) := by decide +kernel
theorem dX6_setCode_118 : decode cX6_setCode 118 = .ok (.aload_n 0, 1) := by decide +kernel
theorem dX6_setCode_119 : decode cX6_setCode 119 = .ok (.invokevirtual 34, 3) := by decide +kernel
theorem dX6_setCode_122 : decode cX6_setCode 122 = .ok (.aload_n 0, 1) := by decide +kernel
theorem dX6_setCode_123 : decode cX6_setCode 123 = .ok (.getfield 7, 3) := by decide +kernel
theorem dX6_setCode_126 : decode cX6_setCode 126 = .ok (.iconst 1, 1) := by decide +kernel
theorem dX6_setCode_127 : decode cX6_setCode 127 = .ok (.iaload, 1) := by decide +kernel
theorem dX6_setCode_128 : decode cX6_setCode 128 = .ok (.ireturn, 1) := by decide +kernel
set_option maxRecDepth 20000 in
theorem ggX6_setDepth_X6_in : GoodIn wsX6_setDepth wsX6_in := goodIn_r _ [5] (by decide +kernel) (by decide +kernel)
set_option maxRecDepth 20000 in
theorem gX6_setDepth_X6_in : GoodIn wsX6_setDepth (va_wsS RX6 49 yX6_in wsX6_in) := goodIn_app (goodIn_of _ (by decide +kernel)) ggX6_setDepth_X6_in
set_option maxRecDepth 20000 in
theorem ggX6_setDepth_X6_record : GoodIn wsX6_setDepth wsX6_record := goodIn_r _ [9, 10, 11, 1, 12, 13, 14, 15, 16, 17, 18, 19, 20, 21, 22] (by decide +kernel) (by decide +kernel)
set_option maxRecDepth 20000 in
theorem gX6_setDepth_X6_record : GoodIn wsX6_setDepth (wsV RX6 53 RX6 yX6_record wsX6_record) := goodIn_app (goodIn_of _ (by decide +kernel)) ggX6_setDepth_X6_record
theorem dX6_setDepth_0 : decode cX6_setDepth 0 = .ok (.iload_n 1, 1) := by decide +kernel
theorem dX6_setDepth_1 : decode cX6_setDepth 1 = .ok (.iconst 2, 1) := by decide +kernel
theorem dX6_setDepth_2 : decode cX6_setDepth 2 = .ok (.bipush 40, 2) := by decide +kernel
theorem dX6_setDepth_4 : decode cX6_setDepth 4 = .ok (.invokestatic 49, 3) := by decide +kernel
theorem dX6_setDepth_7 : decode cX6_setDepth 7 = .ok (.ifCond .ne 6, 3) := by decide +kernel
theorem dX6_setDepth_10 : decode cX6_setDepth 10 = .ok (.bipush (-2), 2) := by decide +kernel
theorem dX6_setDepth_12 : decode cX6_setDepth 12 = .ok (.ireturn, 1) := by decide +kernel
theorem dX6_setDepth_13 : decode cX6_setDepth 13 = .ok (.aload_n 0, 1) := by decide +kernel
theorem dX6_setDepth_14 : decode cX6_setDepth 14 = .ok (.getfield 7, 3) := by decide +kernel
theorem dX6_setDepth_17 : decode cX6_setDepth 17 = .ok (.iconst 5, 1) := by decide +kernel
theorem dX6_setDepth_18 : decode cX6_setDepth 18 = .ok (.iaload, 1) := by decide +kernel
theorem dX6_setDepth_19 : decode cX6_setDepth 19 = .ok (.istore_n 2, 1) := by decide +kernel
theorem dX6_setDepth_20 : decode cX6_setDepth 20 = .ok (.aload_n 0, 1) := by decide +kernel
theorem dX6_setDepth_21 : decode cX6_setDepth 21 = .ok (.getfield 7, 3) := by decide +kernel
theorem dX6_setDepth_24 : decode cX6_setDepth 24 = .ok (.bipush 9, 2) := by decide +kernel
theorem dX6_setDepth_26 : decode cX6_setDepth 26 = .ok (.iaload, 1) := by decide +kernel
theorem dX6_setDepth_27 : decode cX6_setDepth 27 = .ok (.ifCond .le 6, 3) := by decide +kernel
theorem dX6_setDepth_30 : decode cX6_setDepth 30 = .ok (.bipush (-4), 2) := by decide +kernel
theorem dX6_setDepth_32 : decode cX6_setDepth 32 = .ok (.ireturn, 1) := by decide +kernel
theorem dX6_setDepth_33 : decode cX6_setDepth 33 = .ok (.iload_n 2, 1) := by decide +kernel
theorem dX6_setDepth_34 : decode cX6_setDepth 34 = .ok (.iload_n 1, 1) := by decide +kernel
theorem dX6_setDepth_35 : decode cX6_setDepth 35 = .ok (.if_icmp .ne 6, 3) := by decide +kernel
theorem dX6_setDepth_38 : decode cX6_setDepth 38 = .ok (.bipush (-5), 2) := by decide +kernel
theorem dX6_setDepth_40 : decode cX6_setDepth 40 = .ok (.ireturn, 1) := by decide +kernel
theorem dX6_setDepth_41 : decode cX6_setDepth 41 = .ok (.aload_n 0, 1) := by decide +kernel
theorem dX6_setDepth_42 : decode cX6_setDepth 42 = .ok (.invokevirtual 53, 3) := by decide +kernel
theorem dX6_setDepth_45 : decode cX6_setDepth 45 = .ok (.aload_n 0, 1) := by decide +kernel
theorem dX6_setDepth_46 : decode cX6_setDepth 46 = .ok (.getfield 7, 3) := by decide +kernel
theorem dX6_setDepth_49 : decode cX6_setDepth 49 = .ok (.iconst 5, 1) := by decide +kernel
theorem dX6_setDepth_50 : decode cX6_setDepth 50 = .ok (.iload_n 1, 1) := by decide +kernel
theorem dX6_setDepth_51 : decode cX6_setDepth 51 = .ok (.iastore, 1) := by decide +kernel
theorem dX6_setDepth_52 : decode cX6_setDepth 52 = .ok (.iload_n 2, 1) := by decide +kernel
theorem dX6_setDepth_53 : decode cX6_setDepth 53 = .ok (.ireturn, 1) := by decide +kernel
theorem dX6_type_0 : decode cX6_type 0 = .ok (.aload_n 0, 1) := by decide +kernel
theorem dX6_type_1 : decode cX6_type 1 = .ok (.getfield 56, 3) := by decide +kernel
theorem dX6_type_4 : decode cX6_type 4 = .ok (.bipush 60, 2) := by decide +kernel
theorem dX6_type_6 : decode cX6_type 6 = .ok (.if_icmp .ne 6, 3) := by decide +kernel
theorem dX6_type_9 : decode cX6_type 9 = .ok (.bipush (-3), 2) := by decide +kernel
theorem dX6_type_11 : decode cX6_type 11 = .ok (.ireturn, 1) := by decide +kernel
theorem dX6_type_12 : decode cX6_type 12 = .ok (.aload_n 0, 1) := by decide +kernel
theorem dX6_type_13 : decode cX6_type 13 = .ok (.getfield 19, 3) := by decide +kernel
theorem dX6_type_16 : decode cX6_type 16 = .ok (.aload_n 0, 1) := by decide +kernel
theorem dX6_type_17 : decode cX6_type 17 = .ok (.getfield 56, 3) := by decide +kernel
theorem dX6_type_20 : decode cX6_type 20 = .ok (.iload_n 1, 1) := by decide +kernel
theorem dX6_type_21 : decode cX6_type 21 = .ok (.iastore, 1) := by decide +kernel
theorem dX6_type_22 : decode cX6_type 22 = .ok (.aload_n 0, 1) := by decide +kernel
theorem dX6_type_23 : decode cX6_type 23 = .ok (.dup, 1) := by decide +kernel
theorem dX6_type_24 : decode cX6_type 24 = .ok (.getfield 56, 3) := by decide +kernel
theorem dX6_type_27 : decode cX6_type 27 = .ok (.iconst 1, 1) := by decide +kernel
theorem dX6_type_28 : decode cX6_type 28 = .ok (.iadd, 1) := by decide +kernel
theorem dX6_type_29 : decode cX6_type 29 = .ok (.putfield 56, 3) := by decide +kernel
theorem dX6_type_32 : decode cX6_type 32 = .ok (.aload_n 0, 1) := by decide +kernel
theorem dX6_type_33 : decode cX6_type 33 = .ok (.getfield 56, 3) := by decide +kernel
theorem dX6_type_36 : decode cX6_type 36 = .ok (.ireturn, 1) := by decide +kernel
theorem dX6_clearText_0 : decode cX6_clearText 0 = .ok (.aload_n 0, 1) := by decide +kernel
theorem dX6_clearText_1 : decode cX6_clearText 1 = .ok (.getfield 56, 3) := by decide +kernel
theorem dX6_clearText_4 : decode cX6_clearText 4 = .ok (.istore_n 1, 1) := by decide +kernel
theorem dX6_clearText_5 : decode cX6_clearText 5 = .ok (.aload_n 0, 1) := by decide +kernel
theorem dX6_clearText_6 : decode cX6_clearText 6 = .ok (.iconst 0, 1) := by decide +kernel
theorem dX6_clearText_7 : decode cX6_clearText 7 = .ok (.putfield 56, 3) := by decide +kernel
theorem dX6_clearText_10 : decode cX6_clearText 10 = .ok (.iload_n 1, 1) := by decide +kernel
theorem dX6_clearText_11 : decode cX6_clearText 11 = .ok (.ireturn, 1) := by decide +kernel
theorem dX6_fault_0 : decode cX6_fault 0 = .ok (.iconst 0, 1) := by decide +kernel
theorem dX6_fault_1 : decode cX6_fault 1 = .ok (.istore_n 2, 1) := by decide +kernel
theorem dX6_fault_2 : decode cX6_fault 2 = .ok (.iload_n 2, 1) := by decide +kernel
theorem dX6_fault_3 : decode cX6_fault 3 = .ok (.aload_n 0, 1) := by decide +kernel
theorem dX6_fault_4 : decode cX6_fault 4 = .ok (.getfield 56, 3) := by decide +kernel
theorem dX6_fault_7 : decode cX6_fault 7 = .ok (.if_icmp .ge 48, 3) := by decide +kernel
theorem dX6_fault_10 : decode cX6_fault 10 = .ok (.aload_n 0, 1) := by decide +kernel
theorem dX6_fault_11 : decode cX6_fault 11 = .ok (.getfield 19, 3) := by decide +kernel
theorem dX6_fault_14 : decode cX6_fault 14 = .ok (.iload_n 2, 1) := by decide +kernel
theorem dX6_fault_15 : decode cX6_fault 15 = .ok (.iaload, 1) := by decide +kernel
theorem dX6_fault_16 : decode cX6_fault 16 = .ok (.bipush 48, 2) := by decide +kernel
theorem dX6_fault_18 : decode cX6_fault 18 = .ok (.if_icmp .eq 31, 3) := by decide +kernel
theorem dX6_fault_21 : decode cX6_fault 21 = .ok (.aload_n 0, 1) := by decide +kernel
theorem dX6_fault_22 : decode cX6_fault 22 = .ok (.getfield 19, 3) := by decide +kernel
theorem dX6_fault_25 : decode cX6_fault 25 = .ok (.iload_n 2, 1) := by decide +kernel
theorem dX6_fault_26 : decode cX6_fault 26 = .ok (.iaload, 1) := by decide +kernel
theorem dX6_fault_27 : decode cX6_fault 27 = .ok (.bipush 49, 2) := by decide +kernel
theorem dX6_fault_29 : decode cX6_fault 29 = .ok (.if_icmp .eq 20, 3) := by decide +kernel
theorem dX6_fault_32 : decode cX6_fault 32 = .ok (.iload_n 1, 1) := by decide +kernel
theorem dX6_fault_33 : decode cX6_fault 33 = .ok (.ifCond .eq 14, 3) := by decide +kernel
theorem dX6_fault_36 : decode cX6_fault 36 = .ok (.aload_n 0, 1) := by decide +kernel
theorem dX6_fault_37 : decode cX6_fault 37 = .ok (.getfield 19, 3) := by decide +kernel
theorem dX6_fault_40 : decode cX6_fault 40 = .ok (.iload_n 2, 1) := by decide +kernel
theorem dX6_fault_41 : decode cX6_fault 41 = .ok (.iaload, 1) := by decide +kernel
theorem dX6_fault_42 : decode cX6_fault 42 = .ok (.bipush 63, 2) := by decide +kernel
theorem dX6_fault_44 : decode cX6_fault 44 = .ok (.if_icmp .eq 5, 3) := by decide +kernel
theorem dX6_fault_47 : decode cX6_fault 47 = .ok (.iload_n 2, 1) := by decide +kernel
theorem dX6_fault_48 : decode cX6_fault 48 = .ok (.ireturn, 1) := by decide +kernel
theorem dX6_fault_49 : decode cX6_fault 49 = .ok (.iinc 2 1, 3) := by decide +kernel
theorem dX6_fault_52 : decode cX6_fault 52 = .ok (.goto (-50), 3) := by decide +kernel
theorem dX6_fault_55 : decode cX6_fault 55 = .ok (.aload_n 0, 1) := by decide +kernel
theorem dX6_fault_56 : decode cX6_fault 56 = .ok (.getfield 56, 3) := by decide +kernel
theorem dX6_fault_59 : decode cX6_fault 59 = .ok (.ifCond .ne 7, 3) := by decide +kernel
theorem dX6_fault_62 : decode cX6_fault 62 = .ok (.iconst 0, 1) := by decide +kernel
theorem dX6_fault_63 : decode cX6_fault 63 = .ok (.goto 4, 3) := by decide +kernel
theorem dX6_fault_66 : decode cX6_fault 66 = .ok (.iconst (-1), 1) := by decide +kernel
theorem dX6_fault_67 : decode cX6_fault 67 = .ok (.ireturn, 1) := by decide +kernel
theorem dX6_symbols_0 : decode cX6_symbols 0 = .ok (.aload_n 0, 1) := by decide +kernel
theorem dX6_symbols_1 : decode cX6_symbols 1 = .ok (.getfield 7, 3) := by decide +kernel
theorem dX6_symbols_4 : decode cX6_symbols 4 = .ok (.bipush 7, 2) := by decide +kernel
theorem dX6_symbols_6 : decode cX6_symbols 6 = .ok (.iaload, 1) := by decide +kernel
theorem dX6_symbols_7 : decode cX6_symbols 7 = .ok (.aload_n 0, 1) := by decide +kernel
theorem dX6_symbols_8 : decode cX6_symbols 8 = .ok (.getfield 7, 3) := by decide +kernel
theorem dX6_symbols_11 : decode cX6_symbols 11 = .ok (.iconst 1, 1) := by decide +kernel
theorem dX6_symbols_12 : decode cX6_symbols 12 = .ok (.iaload, 1) := by decide +kernel
theorem dX6_symbols_13 : decode cX6_symbols 13 = .ok (.imul, 1) := by decide +kernel
theorem dX6_symbols_14 : decode cX6_symbols 14 = .ok (.ireturn, 1) := by decide +kernel
set_option maxRecDepth 20000 in
theorem ggX6_sendBit_X6_window : GoodIn wsX6_sendBit wsX6_window := goodIn_r _ [6, 7, 8, 9, 5, 10, 1, 19, 20, 21, 22, 23, 24, 25, 26, 27, 28, 29] (by decide +kernel) (by decide +kernel)
set_option maxRecDepth 20000 in
theorem gX6_sendBit_X6_window : GoodIn wsX6_sendBit (wsV RX6 59 RX6 yX6_window wsX6_window) := goodIn_app (goodIn_of _ (by decide +kernel)) ggX6_sendBit_X6_window
set_option maxRecDepth 20000 in
theorem ggX6_sendBit_X6_symbols : GoodIn wsX6_sendBit wsX6_symbols := goodIn_r _ [14, 1, 19, 20, 21, 22, 23, 24, 25, 26, 27, 28, 29] (by decide +kernel) (by decide +kernel)
set_option maxRecDepth 20000 in
theorem gX6_sendBit_X6_symbols : GoodIn wsX6_sendBit (wsV RX6 62 RX6 yX6_symbols wsX6_symbols) := goodIn_app (goodIn_of _ (by decide +kernel)) ggX6_sendBit_X6_symbols
set_option maxRecDepth 20000 in
theorem ggX6_sendBit_X6_symbol : GoodIn wsX6_sendBit wsX6_symbol := goodIn_r _ [18, 1, 19, 20, 21, 22, 23, 24, 25, 26, 27, 28, 29] (by decide +kernel) (by decide +kernel)
set_option maxRecDepth 20000 in
theorem gX6_sendBit_X6_symbol : GoodIn wsX6_sendBit (wsV RX6 45 RX6 yX6_symbol wsX6_symbol) := goodIn_app (goodIn_of _ (by decide +kernel)) ggX6_sendBit_X6_symbol
theorem dX6_sendBit_0 : decode cX6_sendBit 0 = .ok (.aload_n 0, 1) := by decide +kernel
theorem dX6_sendBit_1 : decode cX6_sendBit 1 = .ok (.aload_n 0, 1) := by decide +kernel
theorem dX6_sendBit_2 : decode cX6_sendBit 2 = .ok (.getfield 7, 3) := by decide +kernel
theorem dX6_sendBit_5 : decode cX6_sendBit 5 = .ok (.bipush 6, 2) := by decide +kernel
theorem dX6_sendBit_7 : decode cX6_sendBit 7 = .ok (.iaload, 1) := by decide +kernel
theorem dX6_sendBit_8 : decode cX6_sendBit 8 = .ok (.iload_n 1, 1) := by decide +kernel
theorem dX6_sendBit_9 : decode cX6_sendBit 9 = .ok (.invokevirtual 59, 3) := by decide +kernel
theorem dX6_sendBit_12 : decode cX6_sendBit 12 = .ok (.istore_n 2, 1) := by decide +kernel
theorem dX6_sendBit_13 : decode cX6_sendBit 13 = .ok (.iconst 0, 1) := by decide +kernel
theorem dX6_sendBit_14 : decode cX6_sendBit 14 = .ok (.istore_n 3, 1) := by decide +kernel
theorem dX6_sendBit_15 : decode cX6_sendBit 15 = .ok (.iload_n 3, 1) := by decide +kernel
theorem dX6_sendBit_16 : decode cX6_sendBit 16 = .ok (.aload_n 0, 1) := by decide +kernel
theorem dX6_sendBit_17 : decode cX6_sendBit 17 = .ok (.getfield 7, 3) := by decide +kernel
theorem dX6_sendBit_20 : decode cX6_sendBit 20 = .ok (.iconst 1, 1) := by decide +kernel
theorem dX6_sendBit_21 : decode cX6_sendBit 21 = .ok (.iaload, 1) := by decide +kernel
theorem dX6_sendBit_22 : decode cX6_sendBit 22 = .ok (.if_icmp .ge 50, 3) := by decide +kernel
theorem dX6_sendBit_25 : decode cX6_sendBit 25 = .ok (.aload_n 0, 1) := by decide +kernel
theorem dX6_sendBit_26 : decode cX6_sendBit 26 = .ok (.invokevirtual 62, 3) := by decide +kernel
theorem dX6_sendBit_29 : decode cX6_sendBit 29 = .ok (.iload_n 3, 1) := by decide +kernel
theorem dX6_sendBit_30 : decode cX6_sendBit 30 = .ok (.iadd, 1) := by decide +kernel
theorem dX6_sendBit_31 : decode cX6_sendBit 31 = .ok (.istore 4, 2) := by decide +kernel
theorem dX6_sendBit_33 : decode cX6_sendBit 33 = .ok (.aload_n 0, 1) := by decide +kernel
theorem dX6_sendBit_34 : decode cX6_sendBit 34 = .ok (.getfield 7, 3) := by decide +kernel
theorem dX6_sendBit_37 : decode cX6_sendBit 37 = .ok (.bipush 92, 2) := by decide +kernel
theorem dX6_sendBit_39 : decode cX6_sendBit 39 = .ok (.iload 4, 2) := by decide +kernel
theorem dX6_sendBit_41 : decode cX6_sendBit 41 = .ok (.iadd, 1) := by decide +kernel
theorem dX6_sendBit_42 : decode cX6_sendBit 42 = .ok (.aload_n 0, 1) := by decide +kernel
theorem dX6_sendBit_43 : decode cX6_sendBit 43 = .ok (.iload_n 3, 1) := by decide +kernel
theorem dX6_sendBit_44 : decode cX6_sendBit 44 = .ok (.iload_n 2, 1) := by decide +kernel
theorem dX6_sendBit_45 : decode cX6_sendBit 45 = .ok (.invokevirtual 45, 3) := by decide +kernel
theorem dX6_sendBit_48 : decode cX6_sendBit 48 = .ok (.iastore, 1) := by decide +kernel
theorem dX6_sendBit_49 : decode cX6_sendBit 49 = .ok (.aload_n 0, 1) := by decide +kernel
theorem dX6_sendBit_50 : decode cX6_sendBit 50 = .ok (.getfield 7, 3) := by decide +kernel
theorem dX6_sendBit_53 : decode cX6_sendBit 53 = .ok (.sipush 332, 3) := by decide +kernel
theorem dX6_sendBit_56 : decode cX6_sendBit 56 = .ok (.iload 4, 2) := by decide +kernel
theorem dX6_sendBit_58 : decode cX6_sendBit 58 = .ok (.iadd, 1) := by decide +kernel
theorem dX6_sendBit_59 : decode cX6_sendBit 59 = .ok (.aload_n 0, 1) := by decide +kernel
theorem dX6_sendBit_60 : decode cX6_sendBit 60 = .ok (.iload_n 3, 1) := by decide +kernel
theorem dX6_sendBit_61 : decode cX6_sendBit 61 = .ok (.iload_n 2, 1) := by decide +kernel
theorem dX6_sendBit_62 : decode cX6_sendBit 62 = .ok (.invokevirtual 45, 3) := by decide +kernel
theorem dX6_sendBit_65 : decode cX6_sendBit 65 = .ok (.iastore, 1) := by decide +kernel
theorem dX6_sendBit_66 : decode cX6_sendBit 66 = .ok (.iinc 3 1, 3) := by decide +kernel
theorem dX6_sendBit_69 : decode cX6_sendBit 69 = .ok (.goto (-54), 3) := by decide +kernel
theorem dX6_sendBit_72 : decode cX6_sendBit 72 = .ok (.aload_n 0, 1) := by decide +kernel
theorem dX6_sendBit_73 : decode cX6_sendBit 73 = .ok (.getfield 7, 3) := by decide +kernel
theorem dX6_sendBit_76 : decode cX6_sendBit 76 = .ok (.bipush 12, 2) := by decide +kernel
theorem dX6_sendBit_78 : decode cX6_sendBit 78 = .ok (.aload_n 0, 1) := by decide +kernel
theorem dX6_sendBit_79 : decode cX6_sendBit 79 = .ok (.getfield 7, 3) := by decide +kernel
theorem dX6_sendBit_82 : decode cX6_sendBit 82 = .ok (.bipush 7, 2) := by decide +kernel
theorem dX6_sendBit_84 : decode cX6_sendBit 84 = .ok (.iaload, 1) := by decide +kernel
theorem dX6_sendBit_85 : decode cX6_sendBit 85 = .ok (.iadd, 1) := by decide +kernel
theorem dX6_sendBit_86 : decode cX6_sendBit 86 = .ok (.iload_n 1, 1) := by decide +kernel
theorem dX6_sendBit_87 : decode cX6_sendBit 87 = .ok (.iastore, 1) := by decide +kernel
theorem dX6_sendBit_88 : decode cX6_sendBit 88 = .ok (.aload_n 0, 1) := by decide +kernel
theorem dX6_sendBit_89 : decode cX6_sendBit 89 = .ok (.getfield 7, 3) := by decide +kernel
theorem dX6_sendBit_92 : decode cX6_sendBit 92 = .ok (.bipush 7, 2) := by decide +kernel
theorem dX6_sendBit_94 : decode cX6_sendBit 94 = .ok (.dup2, 1) := by decide +kernel
theorem dX6_sendBit_95 : decode cX6_sendBit 95 = .ok (.iaload, 1) := by decide +kernel
theorem dX6_sendBit_96 : decode cX6_sendBit 96 = .ok (.iconst 1, 1) := by decide +kernel
theorem dX6_sendBit_97 : decode cX6_sendBit 97 = .ok (.iadd, 1) := by decide +kernel
theorem dX6_sendBit_98 : decode cX6_sendBit 98 = .ok (.iastore, 1) := by decide +kernel
theorem dX6_sendBit_99 : decode cX6_sendBit 99 = .ok (.aload_n 0, 1) := by decide +kernel
theorem dX6_sendBit_100 : decode cX6_sendBit 100 = .ok (.getfield 7, 3) := by decide +kernel
theorem dX6_sendBit_103 : decode cX6_sendBit 103 = .ok (.bipush 6, 2) := by decide +kernel
theorem dX6_sendBit_105 : decode cX6_sendBit 105 = .ok (.iload_n 2, 1) := by decide +kernel
theorem dX6_sendBit_106 : decode cX6_sendBit 106 = .ok (.iconst 2, 1) := by decide +kernel
theorem dX6_sendBit_107 : decode cX6_sendBit 107 = .ok (.idiv, 1) := by decide +kernel
theorem dX6_sendBit_108 : decode cX6_sendBit 108 = .ok (.iastore, 1) := by decide +kernel
theorem dX6_sendBit_109 : decode cX6_sendBit 109 = .ok (.return_, 1) := by decide +kernel
set_option maxRecDepth 20000 in
theorem ggX6_send_X6_fault : GoodIn wsX6_send wsX6_fault := goodIn_r _ [8, 2, 3, 35, 36, 37, 38, 39, 40, 41, 42, 43, 44, 45] (by decide +kernel) (by decide +kernel)
set_option maxRecDepth 20000 in
theorem gX6_send_X6_fault : GoodIn wsX6_send (wsV RX6 65 RX6 yX6_fault wsX6_fault) := goodIn_app (goodIn_of _ (by decide +kernel)) ggX6_send_X6_fault
set_option maxRecDepth 20000 in
theorem ggX6_send_X6_record : GoodIn wsX6_send wsX6_record := goodIn_r _ [12, 13, 14, 1, 35, 36, 37, 38, 39, 40, 41, 42, 43, 44, 45] (by decide +kernel) (by decide +kernel)
set_option maxRecDepth 20000 in
theorem gX6_send_X6_record : GoodIn wsX6_send (wsV RX6 53 RX6 yX6_record wsX6_record) := goodIn_app (goodIn_of _ (by decide +kernel)) ggX6_send_X6_record
set_option maxRecDepth 20000 in
theorem ggX6_send_X6_sendBit : GoodIn wsX6_send wsX6_sendBit := goodIn_r _ [18, 1, 19, 20, 21, 7, 22, 23, 24, 25, 26, 27, 28, 29, 30, 31, 32, 33, 34, 35, 36, 37, 38, 39, 40, 41, 42, 43, 44, 45] (by decide +kernel) (by decide +kernel)
set_option maxRecDepth 20000 in
theorem gX6_send_X6_sendBit : GoodIn wsX6_send (wsV RX6 69 RX6 yX6_sendBit wsX6_sendBit) := goodIn_app (goodIn_of _ (by decide +kernel)) ggX6_send_X6_sendBit
theorem dX6_send_0 : decode cX6_send 0 = .ok (.aload_n 0, 1) := by decide +kernel
theorem dX6_send_1 : decode cX6_send 1 = .ok (.iconst 0, 1) := by decide +kernel
theorem dX6_send_2 : decode cX6_send 2 = .ok (.invokevirtual 65, 3) := by decide +kernel
theorem dX6_send_5 : decode cX6_send 5 = .ok (.istore_n 1, 1) := by decide +kernel
theorem dX6_send_6 : decode cX6_send 6 = .ok (.iload_n 1, 1) := by decide +kernel
theorem dX6_send_7 : decode cX6_send 7 = .ok (.ifCond .lt 8, 3) := by decide +kernel
theorem dX6_send_10 : decode cX6_send 10 = .ok (.bipush (-100), 2) := by decide +kernel
theorem dX6_send_12 : decode cX6_send 12 = .ok (.iload_n 1, 1) := by decide +kernel
theorem dX6_send_13 : decode cX6_send 13 = .ok (.isub, 1) := by decide +kernel
theorem dX6_send_14 : decode cX6_send 14 = .ok (.ireturn, 1) := by decide +kernel
theorem dX6_send_15 : decode cX6_send 15 = .ok (.aload_n 0, 1) := by decide +kernel
theorem dX6_send_16 : decode cX6_send 16 = .ok (.getfield 7, 3) := by decide +kernel
theorem dX6_send_19 : decode cX6_send 19 = .ok (.bipush 7, 2) := by decide +kernel
theorem dX6_send_21 : decode cX6_send 21 = .ok (.iaload, 1) := by decide +kernel
theorem dX6_send_22 : decode cX6_send 22 = .ok (.aload_n 0, 1) := by decide +kernel
theorem dX6_send_23 : decode cX6_send 23 = .ok (.getfield 56, 3) := by decide +kernel
theorem dX6_send_26 : decode cX6_send 26 = .ok (.iadd, 1) := by decide +kernel
theorem dX6_send_27 : decode cX6_send 27 = .ok (.bipush 80, 2) := by decide +kernel
theorem dX6_send_29 : decode cX6_send 29 = .ok (.if_icmp .le 6, 3) := by decide +kernel
theorem dX6_send_32 : decode cX6_send 32 = .ok (.bipush (-3), 2) := by decide +kernel
theorem dX6_send_34 : decode cX6_send 34 = .ok (.ireturn, 1) := by decide +kernel
theorem dX6_send_35 : decode cX6_send 35 = .ok (.aload_n 0, 1) := by decide +kernel
theorem dX6_send_36 : decode cX6_send 36 = .ok (.invokevirtual 53, 3) := by decide +kernel
theorem dX6_send_39 : decode cX6_send 39 = .ok (.iconst 0, 1) := by decide +kernel
theorem dX6_send_40 : decode cX6_send 40 = .ok (.istore_n 2, 1) := by decide +kernel
theorem dX6_send_41 : decode cX6_send 41 = .ok (.iload_n 2, 1) := by decide +kernel
theorem dX6_send_42 : decode cX6_send 42 = .ok (.aload_n 0, 1) := by decide +kernel
theorem dX6_send_43 : decode cX6_send 43 = .ok (.getfield 56, 3) := by decide +kernel
theorem dX6_send_46 : decode cX6_send 46 = .ok (.if_icmp .ge 22, 3) := by decide +kernel
theorem dX6_send_49 : decode cX6_send 49 = .ok (.aload_n 0, 1) := by decide +kernel
theorem dX6_send_50 : decode cX6_send 50 = .ok (.aload_n 0, 1) := by decide +kernel
theorem dX6_send_51 : decode cX6_send 51 = .ok (.getfield 19, 3) := by decide +kernel
theorem dX6_send_54 : decode cX6_send 54 = .ok (.iload_n 2, 1) := by decide +kernel
theorem dX6_send_55 : decode cX6_send 55 = .ok (.iaload, 1) := by decide +kernel
theorem dX6_send_56 : decode cX6_send 56 = .ok (.bipush 48, 2) := by decide +kernel
theorem dX6_send_58 : decode cX6_send 58 = .ok (.isub, 1) := by decide +kernel
theorem dX6_send_59 : decode cX6_send 59 = .ok (.invokevirtual 69, 3) := by decide +kernel
theorem dX6_send_62 : decode cX6_send 62 = .ok (.iinc 2 1, 3) := by decide +kernel
theorem dX6_send_65 : decode cX6_send 65 = .ok (.goto (-24), 3) := by decide +kernel
theorem dX6_send_68 : decode cX6_send 68 = .ok (.aload_n 0, 1) := by decide +kernel
theorem dX6_send_69 : decode cX6_send 69 = .ok (.getfield 7, 3) := by decide +kernel
theorem dX6_send_72 : decode cX6_send 72 = .ok (.bipush 7, 2) := by decide +kernel
theorem dX6_send_74 : decode cX6_send 74 = .ok (.iaload, 1) := by decide +kernel
theorem dX6_send_75 : decode cX6_send 75 = .ok (.ireturn, 1) := by decide +kernel
set_option maxRecDepth 20000 in
theorem ggX6_sendTail_X6_record : GoodIn wsX6_sendTail wsX6_record := goodIn_r _ [6, 7, 8, 1, 29, 30, 31, 32, 33, 34, 35, 36, 37, 38, 39] (by decide +kernel) (by decide +kernel)
set_option maxRecDepth 20000 in
theorem gX6_sendTail_X6_record : GoodIn wsX6_sendTail (wsV RX6 53 RX6 yX6_record wsX6_record) := goodIn_app (goodIn_of _ (by decide +kernel)) ggX6_sendTail_X6_record
set_option maxRecDepth 20000 in
theorem ggX6_sendTail_X6_sendBit : GoodIn wsX6_sendTail wsX6_sendBit := goodIn_r _ [12, 1, 13, 14, 15, 5, 16, 17, 18, 19, 20, 21, 22, 23, 24, 25, 26, 27, 28, 29, 30, 31, 32, 33, 34, 35, 36, 37, 38, 39] (by decide +kernel) (by decide +kernel)
set_option maxRecDepth 20000 in
theorem gX6_sendTail_X6_sendBit : GoodIn wsX6_sendTail (wsV RX6 69 RX6 yX6_sendBit wsX6_sendBit) := goodIn_app (goodIn_of _ (by decide +kernel)) ggX6_sendTail_X6_sendBit
theorem dX6_sendTail_0 : decode cX6_sendTail 0 = .ok (.aload_n 0, 1) := by decide +kernel
theorem dX6_sendTail_1 : decode cX6_sendTail 1 = .ok (.getfield 7, 3) := by decide +kernel
theorem dX6_sendTail_4 : decode cX6_sendTail 4 = .ok (.bipush 7, 2) := by decide +kernel
theorem dX6_sendTail_6 : decode cX6_sendTail 6 = .ok (.iaload, 1) := by decide +kernel
theorem dX6_sendTail_7 : decode cX6_sendTail 7 = .ok (.aload_n 0, 1) := by decide +kernel
theorem dX6_sendTail_8 : decode cX6_sendTail 8 = .ok (.getfield 7, 3) := by decide +kernel
theorem dX6_sendTail_11 : decode cX6_sendTail 11 = .ok (.iconst 0, 1) := by decide +kernel
theorem dX6_sendTail_12 : decode cX6_sendTail 12 = .ok (.iaload, 1) := by decide +kernel
theorem dX6_sendTail_13 : decode cX6_sendTail 13 = .ok (.iadd, 1) := by decide +kernel
theorem dX6_sendTail_14 : decode cX6_sendTail 14 = .ok (.bipush 80, 2) := by decide +kernel
theorem dX6_sendTail_16 : decode cX6_sendTail 16 = .ok (.if_icmp .le 6, 3) := by decide +kernel
theorem dX6_sendTail_19 : decode cX6_sendTail 19 = .ok (.bipush (-3), 2) := by decide +kernel
theorem dX6_sendTail_21 : decode cX6_sendTail 21 = .ok (.ireturn, 1) := by decide +kernel
theorem dX6_sendTail_22 : decode cX6_sendTail 22 = .ok (.aload_n 0, 1) := by decide +kernel
theorem dX6_sendTail_23 : decode cX6_sendTail 23 = .ok (.invokevirtual 53, 3) := by decide +kernel
theorem dX6_sendTail_26 : decode cX6_sendTail 26 = .ok (.iconst 0, 1) := by decide +kernel
theorem dX6_sendTail_27 : decode cX6_sendTail 27 = .ok (.istore_n 1, 1) := by decide +kernel
theorem dX6_sendTail_28 : decode cX6_sendTail 28 = .ok (.iload_n 1, 1) := by decide +kernel
theorem dX6_sendTail_29 : decode cX6_sendTail 29 = .ok (.aload_n 0, 1) := by decide +kernel
theorem dX6_sendTail_30 : decode cX6_sendTail 30 = .ok (.getfield 7, 3) := by decide +kernel
theorem dX6_sendTail_33 : decode cX6_sendTail 33 = .ok (.iconst 0, 1) := by decide +kernel
theorem dX6_sendTail_34 : decode cX6_sendTail 34 = .ok (.iaload, 1) := by decide +kernel
theorem dX6_sendTail_35 : decode cX6_sendTail 35 = .ok (.if_icmp .ge 14, 3) := by decide +kernel
theorem dX6_sendTail_38 : decode cX6_sendTail 38 = .ok (.aload_n 0, 1) := by decide +kernel
theorem dX6_sendTail_39 : decode cX6_sendTail 39 = .ok (.iconst 0, 1) := by decide +kernel
theorem dX6_sendTail_40 : decode cX6_sendTail 40 = .ok (.invokevirtual 69, 3) := by decide +kernel
theorem dX6_sendTail_43 : decode cX6_sendTail 43 = .ok (.iinc 1 1, 3) := by decide +kernel
theorem dX6_sendTail_46 : decode cX6_sendTail 46 = .ok (.goto (-18), 3) := by decide +kernel
theorem dX6_sendTail_49 : decode cX6_sendTail 49 = .ok (.aload_n 0, 1) := by decide +kernel
theorem dX6_sendTail_50 : decode cX6_sendTail 50 = .ok (.getfield 7, 3) := by decide +kernel
theorem dX6_sendTail_53 : decode cX6_sendTail 53 = .ok (.bipush 7, 2) := by decide +kernel
theorem dX6_sendTail_55 : decode cX6_sendTail 55 = .ok (.iaload, 1) := by decide +kernel
theorem dX6_sendTail_56 : decode cX6_sendTail 56 = .ok (.ireturn, 1) := by decide +kernel
set_option maxRecDepth 20000 in
theorem ggX6_flip_X6_symbols : GoodIn wsX6_flip wsX6_symbols := goodIn_r _ [6, 1, 16, 17, 18, 19, 20, 21, 22, 23, 24, 25, 26] (by decide +kernel) (by decide +kernel)
set_option maxRecDepth 20000 in
theorem gX6_flip_X6_symbols : GoodIn wsX6_flip (wsV RX6 62 RX6 yX6_symbols wsX6_symbols) := goodIn_app (goodIn_of _ (by decide +kernel)) ggX6_flip_X6_symbols
set_option maxRecDepth 20000 in
theorem ggX6_flip_X6_in : GoodIn wsX6_flip wsX6_in := goodIn_r _ [9] (by decide +kernel) (by decide +kernel)
set_option maxRecDepth 20000 in
theorem gX6_flip_X6_in : GoodIn wsX6_flip (va_wsS RX6 49 yX6_in wsX6_in) := goodIn_app (goodIn_of _ (by decide +kernel)) ggX6_flip_X6_in
set_option maxRecDepth 20000 in
theorem ggX6_flip_X6_record : GoodIn wsX6_flip wsX6_record := goodIn_r _ [13, 14, 15, 1, 16, 17, 18, 19, 20, 21, 22, 23, 24, 25, 26] (by decide +kernel) (by decide +kernel)
set_option maxRecDepth 20000 in
theorem gX6_flip_X6_record : GoodIn wsX6_flip (wsV RX6 53 RX6 yX6_record wsX6_record) := goodIn_app (goodIn_of _ (by decide +kernel)) ggX6_flip_X6_record
theorem dX6_flip_0 : decode cX6_flip 0 = .ok (.iload_n 1, 1) := by decide +kernel
theorem dX6_flip_1 : decode cX6_flip 1 = .ok (.iconst 0, 1) := by decide +kernel
theorem dX6_flip_2 : decode cX6_flip 2 = .ok (.aload_n 0, 1) := by decide +kernel
theorem dX6_flip_3 : decode cX6_flip 3 = .ok (.invokevirtual 62, 3) := by decide +kernel
theorem dX6_flip_6 : decode cX6_flip 6 = .ok (.iconst 1, 1) := by decide +kernel
theorem dX6_flip_7 : decode cX6_flip 7 = .ok (.isub, 1) := by decide +kernel
theorem dX6_flip_8 : decode cX6_flip 8 = .ok (.invokestatic 49, 3) := by decide +kernel
theorem dX6_flip_11 : decode cX6_flip 11 = .ok (.ifCond .ne 5, 3) := by decide +kernel
theorem dX6_flip_14 : decode cX6_flip 14 = .ok (.iconst (-1), 1) := by decide +kernel
theorem dX6_flip_15 : decode cX6_flip 15 = .ok (.ireturn, 1) := by decide +kernel
theorem dX6_flip_16 : decode cX6_flip 16 = .ok (.aload_n 0, 1) := by decide +kernel
theorem dX6_flip_17 : decode cX6_flip 17 = .ok (.getfield 7, 3) := by decide +kernel
theorem dX6_flip_20 : decode cX6_flip 20 = .ok (.bipush 92, 2) := by decide +kernel
theorem dX6_flip_22 : decode cX6_flip 22 = .ok (.iload_n 1, 1) := by decide +kernel
theorem dX6_flip_23 : decode cX6_flip 23 = .ok (.iadd, 1) := by decide +kernel
theorem dX6_flip_24 : decode cX6_flip 24 = .ok (.iaload, 1) := by decide +kernel
theorem dX6_flip_25 : decode cX6_flip 25 = .ok (.iconst 2, 1) := by decide +kernel
theorem dX6_flip_26 : decode cX6_flip 26 = .ok (.if_icmp .eq 14, 3) := by decide +kernel
theorem dX6_flip_29 : decode cX6_flip 29 = .ok (.iload_n 1, 1) := by decide +kernel
theorem dX6_flip_30 : decode cX6_flip 30 = .ok (.aload_n 0, 1) := by decide +kernel
theorem dX6_flip_31 : decode cX6_flip 31 = .ok (.getfield 7, 3) := by decide +kernel
theorem dX6_flip_34 : decode cX6_flip 34 = .ok (.bipush 8, 2) := by decide +kernel
theorem dX6_flip_36 : decode cX6_flip 36 = .ok (.iaload, 1) := by decide +kernel
theorem dX6_flip_37 : decode cX6_flip 37 = .ok (.if_icmp .ge 6, 3) := by decide +kernel
theorem dX6_flip_40 : decode cX6_flip 40 = .ok (.bipush (-4), 2) := by decide +kernel
theorem dX6_flip_42 : decode cX6_flip 42 = .ok (.ireturn, 1) := by decide +kernel
theorem dX6_flip_43 : decode cX6_flip 43 = .ok (.aload_n 0, 1) := by decide +kernel
theorem dX6_flip_44 : decode cX6_flip 44 = .ok (.invokevirtual 53, 3) := by decide +kernel
theorem dX6_flip_47 : decode cX6_flip 47 = .ok (.aload_n 0, 1) := by decide +kernel
theorem dX6_flip_48 : decode cX6_flip 48 = .ok (.getfield 7, 3) := by decide +kernel
theorem dX6_flip_51 : decode cX6_flip 51 = .ok (.bipush 92, 2) := by decide +kernel
theorem dX6_flip_53 : decode cX6_flip 53 = .ok (.iload_n 1, 1) := by decide +kernel
theorem dX6_flip_54 : decode cX6_flip 54 = .ok (.iadd, 1) := by decide +kernel
theorem dX6_flip_55 : decode cX6_flip 55 = .ok (.iconst 1, 1) := by decide +kernel
theorem dX6_flip_56 : decode cX6_flip 56 = .ok (.aload_n 0, 1) := by decide +kernel
theorem dX6_flip_57 : decode cX6_flip 57 = .ok (.getfield 7, 3) := by decide +kernel
theorem dX6_flip_60 : decode cX6_flip 60 = .ok (.bipush 92, 2) := by decide +kernel
theorem dX6_flip_62 : decode cX6_flip 62 = .ok (.iload_n 1, 1) := by decide +kernel
theorem dX6_flip_63 : decode cX6_flip 63 = .ok (.iadd, 1) := by decide +kernel
theorem dX6_flip_64 : decode cX6_flip 64 = .ok (.iaload, 1) := by decide +kernel
theorem dX6_flip_65 : decode cX6_flip 65 = .ok (.isub, 1) := by decide +kernel
theorem dX6_flip_66 : decode cX6_flip 66 = .ok (.iastore, 1) := by decide +kernel
theorem dX6_flip_67 : decode cX6_flip 67 = .ok (.aload_n 0, 1) := by decide +kernel
theorem dX6_flip_68 : decode cX6_flip 68 = .ok (.getfield 7, 3) := by decide +kernel
theorem dX6_flip_71 : decode cX6_flip 71 = .ok (.bipush 92, 2) := by decide +kernel
theorem dX6_flip_73 : decode cX6_flip 73 = .ok (.iload_n 1, 1) := by decide +kernel
theorem dX6_flip_74 : decode cX6_flip 74 = .ok (.iadd, 1) := by decide +kernel
theorem dX6_flip_75 : decode cX6_flip 75 = .ok (.iaload, 1) := by decide +kernel
theorem dX6_flip_76 : decode cX6_flip 76 = .ok (.ireturn, 1) := by decide +kernel
set_option maxRecDepth 20000 in
theorem ggX6_erase_X6_symbols : GoodIn wsX6_erase wsX6_symbols := goodIn_r _ [6, 1, 16, 17, 18, 19, 20, 21, 22, 23, 24, 25, 26] (by decide +kernel) (by decide +kernel)
set_option maxRecDepth 20000 in
theorem gX6_erase_X6_symbols : GoodIn wsX6_erase (wsV RX6 62 RX6 yX6_symbols wsX6_symbols) := goodIn_app (goodIn_of _ (by decide +kernel)) ggX6_erase_X6_symbols
set_option maxRecDepth 20000 in
theorem ggX6_erase_X6_in : GoodIn wsX6_erase wsX6_in := goodIn_r _ [9] (by decide +kernel) (by decide +kernel)
set_option maxRecDepth 20000 in
theorem gX6_erase_X6_in : GoodIn wsX6_erase (va_wsS RX6 49 yX6_in wsX6_in) := goodIn_app (goodIn_of _ (by decide +kernel)) ggX6_erase_X6_in
set_option maxRecDepth 20000 in
theorem ggX6_erase_X6_record : GoodIn wsX6_erase wsX6_record := goodIn_r _ [13, 14, 15, 1, 16, 17, 18, 19, 20, 21, 22, 23, 24, 25, 26] (by decide +kernel) (by decide +kernel)
set_option maxRecDepth 20000 in
theorem gX6_erase_X6_record : GoodIn wsX6_erase (wsV RX6 53 RX6 yX6_record wsX6_record) := goodIn_app (goodIn_of _ (by decide +kernel)) ggX6_erase_X6_record
theorem dX6_erase_0 : decode cX6_erase 0 = .ok (.iload_n 1, 1) := by decide +kernel
theorem dX6_erase_1 : decode cX6_erase 1 = .ok (.iconst 0, 1) := by decide +kernel
theorem dX6_erase_2 : decode cX6_erase 2 = .ok (.aload_n 0, 1) := by decide +kernel
theorem dX6_erase_3 : decode cX6_erase 3 = .ok (.invokevirtual 62, 3) := by decide +kernel
theorem dX6_erase_6 : decode cX6_erase 6 = .ok (.iconst 1, 1) := by decide +kernel
theorem dX6_erase_7 : decode cX6_erase 7 = .ok (.isub, 1) := by decide +kernel
theorem dX6_erase_8 : decode cX6_erase 8 = .ok (.invokestatic 49, 3) := by decide +kernel
theorem dX6_erase_11 : decode cX6_erase 11 = .ok (.ifCond .ne 5, 3) := by decide +kernel
theorem dX6_erase_14 : decode cX6_erase 14 = .ok (.iconst (-1), 1) := by decide +kernel
theorem dX6_erase_15 : decode cX6_erase 15 = .ok (.ireturn, 1) := by decide +kernel
theorem dX6_erase_16 : decode cX6_erase 16 = .ok (.iload_n 1, 1) := by decide +kernel
theorem dX6_erase_17 : decode cX6_erase 17 = .ok (.aload_n 0, 1) := by decide +kernel
theorem dX6_erase_18 : decode cX6_erase 18 = .ok (.getfield 7, 3) := by decide +kernel
theorem dX6_erase_21 : decode cX6_erase 21 = .ok (.bipush 8, 2) := by decide +kernel
theorem dX6_erase_23 : decode cX6_erase 23 = .ok (.iaload, 1) := by decide +kernel
theorem dX6_erase_24 : decode cX6_erase 24 = .ok (.if_icmp .ge 6, 3) := by decide +kernel
theorem dX6_erase_27 : decode cX6_erase 27 = .ok (.bipush (-4), 2) := by decide +kernel
theorem dX6_erase_29 : decode cX6_erase 29 = .ok (.ireturn, 1) := by decide +kernel
theorem dX6_erase_30 : decode cX6_erase 30 = .ok (.aload_n 0, 1) := by decide +kernel
theorem dX6_erase_31 : decode cX6_erase 31 = .ok (.getfield 7, 3) := by decide +kernel
theorem dX6_erase_34 : decode cX6_erase 34 = .ok (.bipush 92, 2) := by decide +kernel
theorem dX6_erase_36 : decode cX6_erase 36 = .ok (.iload_n 1, 1) := by decide +kernel
theorem dX6_erase_37 : decode cX6_erase 37 = .ok (.iadd, 1) := by decide +kernel
theorem dX6_erase_38 : decode cX6_erase 38 = .ok (.iaload, 1) := by decide +kernel
theorem dX6_erase_39 : decode cX6_erase 39 = .ok (.istore_n 2, 1) := by decide +kernel
theorem dX6_erase_40 : decode cX6_erase 40 = .ok (.iload_n 2, 1) := by decide +kernel
theorem dX6_erase_41 : decode cX6_erase 41 = .ok (.iconst 2, 1) := by decide +kernel
theorem dX6_erase_42 : decode cX6_erase 42 = .ok (.if_icmp .ne 6, 3) := by decide +kernel
theorem dX6_erase_45 : decode cX6_erase 45 = .ok (.bipush (-5), 2) := by decide +kernel
theorem dX6_erase_47 : decode cX6_erase 47 = .ok (.ireturn, 1) := by decide +kernel
theorem dX6_erase_48 : decode cX6_erase 48 = .ok (.aload_n 0, 1) := by decide +kernel
theorem dX6_erase_49 : decode cX6_erase 49 = .ok (.invokevirtual 53, 3) := by decide +kernel
theorem dX6_erase_52 : decode cX6_erase 52 = .ok (.aload_n 0, 1) := by decide +kernel
theorem dX6_erase_53 : decode cX6_erase 53 = .ok (.getfield 7, 3) := by decide +kernel
theorem dX6_erase_56 : decode cX6_erase 56 = .ok (.bipush 92, 2) := by decide +kernel
theorem dX6_erase_58 : decode cX6_erase 58 = .ok (.iload_n 1, 1) := by decide +kernel
theorem dX6_erase_59 : decode cX6_erase 59 = .ok (.iadd, 1) := by decide +kernel
theorem dX6_erase_60 : decode cX6_erase 60 = .ok (.iconst 2, 1) := by decide +kernel
theorem dX6_erase_61 : decode cX6_erase 61 = .ok (.iastore, 1) := by decide +kernel
theorem dX6_erase_62 : decode cX6_erase 62 = .ok (.iload_n 2, 1) := by decide +kernel
theorem dX6_erase_63 : decode cX6_erase 63 = .ok (.ireturn, 1) := by decide +kernel
theorem dX6_walkBit_0 : decode cX6_walkBit 0 = .ok (.aload_n 0, 1) := by decide +kernel
theorem dX6_walkBit_1 : decode cX6_walkBit 1 = .ok (.getfield 7, 3) := by decide +kernel
theorem dX6_walkBit_4 : decode cX6_walkBit 4 = .ok (.sipush 684, 3) := by decide +kernel
theorem dX6_walkBit_7 : decode cX6_walkBit 7 = .ok (.iconst 3, 1) := by decide +kernel
theorem dX6_walkBit_8 : decode cX6_walkBit 8 = .ok (.iload_n 1, 1) := by decide +kernel
theorem dX6_walkBit_9 : decode cX6_walkBit 9 = .ok (.imul, 1) := by decide +kernel
theorem dX6_walkBit_10 : decode cX6_walkBit 10 = .ok (.iadd, 1) := by decide +kernel
theorem dX6_walkBit_11 : decode cX6_walkBit 11 = .ok (.iload_n 2, 1) := by decide +kernel
theorem dX6_walkBit_12 : decode cX6_walkBit 12 = .ok (.bipush 30, 2) := by decide +kernel
theorem dX6_walkBit_14 : decode cX6_walkBit 14 = .ok (.idiv, 1) := by decide +kernel
theorem dX6_walkBit_15 : decode cX6_walkBit 15 = .ok (.iadd, 1) := by decide +kernel
theorem dX6_walkBit_16 : decode cX6_walkBit 16 = .ok (.iaload, 1) := by decide +kernel
theorem dX6_walkBit_17 : decode cX6_walkBit 17 = .ok (.iload_n 2, 1) := by decide +kernel
theorem dX6_walkBit_18 : decode cX6_walkBit 18 = .ok (.bipush 30, 2) := by decide +kernel
theorem dX6_walkBit_20 : decode cX6_walkBit 20 = .ok (.irem, 1) := by decide +kernel
theorem dX6_walkBit_21 : decode cX6_walkBit 21 = .ok (.ishr, 1) := by decide +kernel
theorem dX6_walkBit_22 : decode cX6_walkBit 22 = .ok (.iconst 1, 1) := by decide +kernel
theorem dX6_walkBit_23 : decode cX6_walkBit 23 = .ok (.iand, 1) := by decide +kernel
theorem dX6_walkBit_24 : decode cX6_walkBit 24 = .ok (.ireturn, 1) := by decide +kernel
set_option maxRecDepth 20000 in
theorem ggX6_bestState_X6_registers : GoodIn wsX6_bestState wsX6_registers := goodIn_r _ [6, 1, 7, 8, 9, 10, 11, 12, 13, 14, 15, 16, 17] (by decide +kernel) (by decide +kernel)
set_option maxRecDepth 20000 in
theorem gX6_bestState_X6_registers : GoodIn wsX6_bestState (wsV RX6 41 RX6 yX6_registers wsX6_registers) := goodIn_app (goodIn_of _ (by decide +kernel)) ggX6_bestState_X6_registers
theorem dX6_bestState_0 : decode cX6_bestState 0 = .ok (.iconst (-1), 1) := by decide +kernel
theorem dX6_bestState_1 : decode cX6_bestState 1 = .ok (.istore_n 1, 1) := by decide +kernel
theorem dX6_bestState_2 : decode cX6_bestState 2 = .ok (.iconst 0, 1) := by decide +kernel
theorem dX6_bestState_3 : decode cX6_bestState 3 = .ok (.istore_n 2, 1) := by decide +kernel
theorem dX6_bestState_4 : decode cX6_bestState 4 = .ok (.iload_n 2, 1) := by decide +kernel
theorem dX6_bestState_5 : decode cX6_bestState 5 = .ok (.aload_n 0, 1) := by decide +kernel
theorem dX6_bestState_6 : decode cX6_bestState 6 = .ok (.invokevirtual 41, 3) := by decide +kernel
theorem dX6_bestState_9 : decode cX6_bestState 9 = .ok (.if_icmp .ge 65, 3) := by decide +kernel
theorem dX6_bestState_12 : decode cX6_bestState 12 = .ok (.aload_n 0, 1) := by decide +kernel
theorem dX6_bestState_13 : decode cX6_bestState 13 = .ok (.getfield 7, 3) := by decide +kernel
theorem dX6_bestState_16 : decode cX6_bestState 16 = .ok (.sipush 572, 3) := by decide +kernel
theorem dX6_bestState_19 : decode cX6_bestState 19 = .ok (.iload_n 2, 1) := by decide +kernel
theorem dX6_bestState_20 : decode cX6_bestState 20 = .ok (.iadd, 1) := by decide +kernel
theorem dX6_bestState_21 : decode cX6_bestState 21 = .ok (.iaload, 1) := by decide +kernel
theorem dX6_bestState_22 : decode cX6_bestState 22 = .ok (.ifCond .lt 34, 3) := by decide +kernel
theorem dX6_bestState_25 : decode cX6_bestState 25 = .ok (.iload_n 1, 1) := by decide +kernel
theorem dX6_bestState_26 : decode cX6_bestState 26 = .ok (.ifCond .lt 26, 3) := by decide +kernel
theorem dX6_bestState_29 : decode cX6_bestState 29 = .ok (.aload_n 0, 1) := by decide +kernel
theorem dX6_bestState_30 : decode cX6_bestState 30 = .ok (.getfield 7, 3) := by decide +kernel
theorem dX6_bestState_33 : decode cX6_bestState 33 = .ok (.sipush 572, 3) := by decide +kernel
theorem dX6_bestState_36 : decode cX6_bestState 36 = .ok (.iload_n 2, 1) := by decide +kernel
theorem dX6_bestState_37 : decode cX6_bestState 37 = .ok (.iadd, 1) := by decide +kernel
theorem dX6_bestState_38 : decode cX6_bestState 38 = .ok (.iaload, 1) := by decide +kernel
theorem dX6_bestState_39 : decode cX6_bestState 39 = .ok (.aload_n 0, 1) := by decide +kernel
theorem dX6_bestState_40 : decode cX6_bestState 40 = .ok (.getfield 7, 3) := by decide +kernel
theorem dX6_bestState_43 : decode cX6_bestState 43 = .ok (.sipush 572, 3) := by decide +kernel
theorem dX6_bestState_46 : decode cX6_bestState 46 = .ok (.iload_n 1, 1) := by decide +kernel
theorem dX6_bestState_47 : decode cX6_bestState 47 = .ok (.iadd, 1) := by decide +kernel
theorem dX6_bestState_48 : decode cX6_bestState 48 = .ok (.iaload, 1) := by decide +kernel
theorem dX6_bestState_49 : decode cX6_bestState 49 = .ok (.if_icmp .ge 7, 3) := by decide +kernel
theorem dX6_bestState_52 : decode cX6_bestState 52 = .ok (.iconst 1, 1) := by decide +kernel
theorem dX6_bestState_53 : decode cX6_bestState 53 = .ok (.goto 4, 3) := by decide +kernel
theorem dX6_bestState_56 : decode cX6_bestState 56 = .ok (.iconst 0, 1) := by decide +kernel
theorem dX6_bestState_57 : decode cX6_bestState 57 = .ok (.istore_n 3, 1) := by decide +kernel
theorem dX6_bestState_58 : decode cX6_bestState 58 = .ok (.iload_n 3, 1) := by decide +kernel
theorem dX6_bestState_59 : decode cX6_bestState 59 = .ok (.ifCond .eq 7, 3) := by decide +kernel
theorem dX6_bestState_62 : decode cX6_bestState 62 = .ok (.iload_n 2, 1) := by decide +kernel
theorem dX6_bestState_63 : decode cX6_bestState 63 = .ok (.goto 4, 3) := by decide +kernel
theorem dX6_bestState_66 : decode cX6_bestState 66 = .ok (.iload_n 1, 1) := by decide +kernel
theorem dX6_bestState_67 : decode cX6_bestState 67 = .ok (.istore_n 1, 1) := by decide +kernel
theorem dX6_bestState_68 : decode cX6_bestState 68 = .ok (.iinc 2 1, 3) := by decide +kernel
theorem dX6_bestState_71 : decode cX6_bestState 71 = .ok (.goto (-67), 3) := by decide +kernel
theorem dX6_bestState_74 : decode cX6_bestState 74 = .ok (.iload_n 1, 1) := by decide +kernel
theorem dX6_bestState_75 : decode cX6_bestState 75 = .ok (.ireturn, 1) := by decide +kernel
set_option maxRecDepth 20000 in
theorem ggX6_release_X6_walkBit : GoodIn wsX6_release wsX6_walkBit := goodIn_r _ [6, 1, 7, 8, 9, 10, 11, 12, 13, 14, 15, 16, 17] (by decide +kernel) (by decide +kernel)
set_option maxRecDepth 20000 in
theorem gX6_release_X6_walkBit : GoodIn wsX6_release (wsV RX6 73 RX6 yX6_walkBit wsX6_walkBit) := goodIn_app (goodIn_of _ (by decide +kernel)) ggX6_release_X6_walkBit
theorem dX6_release_0 : decode cX6_release 0 = .ok (.aload_n 0, 1) := by decide +kernel
theorem dX6_release_1 : decode cX6_release 1 = .ok (.getfield 7, 3) := by decide +kernel
theorem dX6_release_4 : decode cX6_release 4 = .ok (.sipush 604, 3) := by decide +kernel
theorem dX6_release_7 : decode cX6_release 7 = .ok (.aload_n 0, 1) := by decide +kernel
theorem dX6_release_8 : decode cX6_release 8 = .ok (.getfield 7, 3) := by decide +kernel
theorem dX6_release_11 : decode cX6_release 11 = .ok (.bipush 10, 2) := by decide +kernel
theorem dX6_release_13 : decode cX6_release 13 = .ok (.iaload, 1) := by decide +kernel
theorem dX6_release_14 : decode cX6_release 14 = .ok (.iadd, 1) := by decide +kernel
theorem dX6_release_15 : decode cX6_release 15 = .ok (.aload_n 0, 1) := by decide +kernel
theorem dX6_release_16 : decode cX6_release 16 = .ok (.iload_n 1, 1) := by decide +kernel
theorem dX6_release_17 : decode cX6_release 17 = .ok (.aload_n 0, 1) := by decide +kernel
theorem dX6_release_18 : decode cX6_release 18 = .ok (.getfield 7, 3) := by decide +kernel
theorem dX6_release_21 : decode cX6_release 21 = .ok (.bipush 10, 2) := by decide +kernel
theorem dX6_release_23 : decode cX6_release 23 = .ok (.iaload, 1) := by decide +kernel
theorem dX6_release_24 : decode cX6_release 24 = .ok (.invokevirtual 73, 3) := by decide +kernel
theorem dX6_release_27 : decode cX6_release 27 = .ok (.iastore, 1) := by decide +kernel
theorem dX6_release_28 : decode cX6_release 28 = .ok (.aload_n 0, 1) := by decide +kernel
theorem dX6_release_29 : decode cX6_release 29 = .ok (.getfield 7, 3) := by decide +kernel
theorem dX6_release_32 : decode cX6_release 32 = .ok (.bipush 10, 2) := by decide +kernel
theorem dX6_release_34 : decode cX6_release 34 = .ok (.dup2, 1) := by decide +kernel
theorem dX6_release_35 : decode cX6_release 35 = .ok (.iaload, 1) := by decide +kernel
theorem dX6_release_36 : decode cX6_release 36 = .ok (.iconst 1, 1) := by decide +kernel
theorem dX6_release_37 : decode cX6_release 37 = .ok (.iadd, 1) := by decide +kernel
theorem dX6_release_38 : decode cX6_release 38 = .ok (.iastore, 1) := by decide +kernel
theorem dX6_release_39 : decode cX6_release 39 = .ok (.return_, 1) := by decide +kernel
set_option maxRecDepth 20000 in
theorem ggX6_price_X6_symbol : GoodIn wsX6_price wsX6_symbol := goodIn_r _ [7, 1, 8, 9, 10, 11, 12, 13, 14, 15, 16, 17, 18] (by decide +kernel) (by decide +kernel)
set_option maxRecDepth 20000 in
theorem gX6_price_X6_symbol : GoodIn wsX6_price (wsV RX6 45 RX6 yX6_symbol wsX6_symbol) := goodIn_app (goodIn_of _ (by decide +kernel)) ggX6_price_X6_symbol
theorem dX6_price_0 : decode cX6_price 0 = .ok (.iconst 0, 1) := by decide +kernel
theorem dX6_price_1 : decode cX6_price 1 = .ok (.istore_n 2, 1) := by decide +kernel
theorem dX6_price_2 : decode cX6_price 2 = .ok (.iconst 0, 1) := by decide +kernel
theorem dX6_price_3 : decode cX6_price 3 = .ok (.istore_n 3, 1) := by decide +kernel
theorem dX6_price_4 : decode cX6_price 4 = .ok (.iload_n 3, 1) := by decide +kernel
theorem dX6_price_5 : decode cX6_price 5 = .ok (.aload_n 0, 1) := by decide +kernel
theorem dX6_price_6 : decode cX6_price 6 = .ok (.getfield 7, 3) := by decide +kernel
theorem dX6_price_9 : decode cX6_price 9 = .ok (.iconst 1, 1) := by decide +kernel
theorem dX6_price_10 : decode cX6_price 10 = .ok (.iaload, 1) := by decide +kernel
theorem dX6_price_11 : decode cX6_price 11 = .ok (.if_icmp .ge 42, 3) := by decide +kernel
theorem dX6_price_14 : decode cX6_price 14 = .ok (.iload_n 2, 1) := by decide +kernel
theorem dX6_price_15 : decode cX6_price 15 = .ok (.aload_n 0, 1) := by decide +kernel
theorem dX6_price_16 : decode cX6_price 16 = .ok (.getfield 22, 3) := by decide +kernel
theorem dX6_price_19 : decode cX6_price 19 = .ok (.iload_n 3, 1) := by decide +kernel
theorem dX6_price_20 : decode cX6_price 20 = .ok (.iaload, 1) := by decide +kernel
theorem dX6_price_21 : decode cX6_price 21 = .ok (.iconst 2, 1) := by decide +kernel
theorem dX6_price_22 : decode cX6_price 22 = .ok (.if_icmp .eq 22, 3) := by decide +kernel
theorem dX6_price_25 : decode cX6_price 25 = .ok (.aload_n 0, 1) := by decide +kernel
theorem dX6_price_26 : decode cX6_price 26 = .ok (.getfield 22, 3) := by decide +kernel
theorem dX6_price_29 : decode cX6_price 29 = .ok (.iload_n 3, 1) := by decide +kernel
theorem dX6_price_30 : decode cX6_price 30 = .ok (.iaload, 1) := by decide +kernel
theorem dX6_price_31 : decode cX6_price 31 = .ok (.aload_n 0, 1) := by decide +kernel
theorem dX6_price_32 : decode cX6_price 32 = .ok (.iload_n 3, 1) := by decide +kernel
theorem dX6_price_33 : decode cX6_price 33 = .ok (.iload_n 1, 1) := by decide +kernel
theorem dX6_price_34 : decode cX6_price 34 = .ok (.invokevirtual 45, 3) := by decide +kernel
theorem dX6_price_37 : decode cX6_price 37 = .ok (.if_icmp .eq 7, 3) := by decide +kernel
theorem dX6_price_40 : decode cX6_price 40 = .ok (.iconst 1, 1) := by decide +kernel
theorem dX6_price_41 : decode cX6_price 41 = .ok (.goto 4, 3) := by decide +kernel
theorem dX6_price_44 : decode cX6_price 44 = .ok (.iconst 0, 1) := by decide +kernel
theorem dX6_price_45 : decode cX6_price 45 = .ok (.iadd, 1) := by decide +kernel
theorem dX6_price_46 : decode cX6_price 46 = .ok (.istore_n 2, 1) := by decide +kernel
theorem dX6_price_47 : decode cX6_price 47 = .ok (.iinc 3 1, 3) := by decide +kernel
theorem dX6_price_50 : decode cX6_price 50 = .ok (.goto (-46), 3) := by decide +kernel
theorem dX6_price_53 : decode cX6_price 53 = .ok (.iload_n 2, 1) := by decide +kernel
theorem dX6_price_54 : decode cX6_price 54 = .ok (.ireturn, 1) := by decide +kernel
set_option maxRecDepth 20000 in
theorem ggX6_lay_X6_registers : GoodIn wsX6_lay wsX6_registers := goodIn_r _ [8, 1, 22, 23, 24, 25, 26, 27, 28, 29, 30, 31, 32] (by decide +kernel) (by decide +kernel)
set_option maxRecDepth 20000 in
theorem gX6_lay_X6_registers : GoodIn wsX6_lay (wsV RX6 41 RX6 yX6_registers wsX6_registers) := goodIn_app (goodIn_of _ (by decide +kernel)) ggX6_lay_X6_registers
set_option maxRecDepth 20000 in
theorem ggX6_lay_X6_window : GoodIn wsX6_lay wsX6_window := goodIn_r _ [12, 4, 5, 6, 7, 8, 1, 22, 23, 24, 25, 26, 27, 28, 29, 30, 31, 32] (by decide +kernel) (by decide +kernel)
set_option maxRecDepth 20000 in
theorem gX6_lay_X6_window : GoodIn wsX6_lay (wsV RX6 59 RX6 yX6_window wsX6_window) := goodIn_app (goodIn_of _ (by decide +kernel)) ggX6_lay_X6_window
set_option maxRecDepth 20000 in
theorem ggX6_lay_X6_price : GoodIn wsX6_lay wsX6_price := goodIn_r _ [16, 1, 17, 18, 19, 20, 7, 21, 22, 23, 24, 25, 26, 27, 28, 29, 30, 31, 32] (by decide +kernel) (by decide +kernel)
set_option maxRecDepth 20000 in
theorem gX6_lay_X6_price : GoodIn wsX6_lay (wsV RX6 76 RX6 yX6_price wsX6_price) := goodIn_app (goodIn_of _ (by decide +kernel)) ggX6_lay_X6_price
theorem dX6_lay_0 : decode cX6_lay 0 = .ok (.aload_n 0, 1) := by decide +kernel
theorem dX6_lay_1 : decode cX6_lay 1 = .ok (.invokevirtual 41, 3) := by decide +kernel
theorem dX6_lay_4 : decode cX6_lay 4 = .ok (.iconst 2, 1) := by decide +kernel
theorem dX6_lay_5 : decode cX6_lay 5 = .ok (.idiv, 1) := by decide +kernel
theorem dX6_lay_6 : decode cX6_lay 6 = .ok (.istore_n 2, 1) := by decide +kernel
theorem dX6_lay_7 : decode cX6_lay 7 = .ok (.iload_n 1, 1) := by decide +kernel
theorem dX6_lay_8 : decode cX6_lay 8 = .ok (.iload_n 2, 1) := by decide +kernel
theorem dX6_lay_9 : decode cX6_lay 9 = .ok (.idiv, 1) := by decide +kernel
theorem dX6_lay_10 : decode cX6_lay 10 = .ok (.istore_n 3, 1) := by decide +kernel
theorem dX6_lay_11 : decode cX6_lay 11 = .ok (.iconst 2, 1) := by decide +kernel
theorem dX6_lay_12 : decode cX6_lay 12 = .ok (.iload_n 1, 1) := by decide +kernel
theorem dX6_lay_13 : decode cX6_lay 13 = .ok (.iload_n 2, 1) := by decide +kernel
theorem dX6_lay_14 : decode cX6_lay 14 = .ok (.irem, 1) := by decide +kernel
theorem dX6_lay_15 : decode cX6_lay 15 = .ok (.imul, 1) := by decide +kernel
theorem dX6_lay_16 : decode cX6_lay 16 = .ok (.istore 4, 2) := by decide +kernel
theorem dX6_lay_18 : decode cX6_lay 18 = .ok (.iconst (-1), 1) := by decide +kernel
theorem dX6_lay_19 : decode cX6_lay 19 = .ok (.istore 5, 2) := by decide +kernel
theorem dX6_lay_21 : decode cX6_lay 21 = .ok (.iconst (-1), 1) := by decide +kernel
theorem dX6_lay_22 : decode cX6_lay 22 = .ok (.istore 6, 2) := by decide +kernel
theorem dX6_lay_24 : decode cX6_lay 24 = .ok (.iload 4, 2) := by decide +kernel
theorem dX6_lay_26 : decode cX6_lay 26 = .ok (.istore 7, 2) := by decide +kernel
theorem dX6_lay_28 : decode cX6_lay 28 = .ok (.iload 7, 2) := by decide +kernel
theorem dX6_lay_30 : decode cX6_lay 30 = .ok (.iload 4, 2) := by decide +kernel
theorem dX6_lay_32 : decode cX6_lay 32 = .ok (.iconst 2, 1) := by decide +kernel
theorem dX6_lay_33 : decode cX6_lay 33 = .ok (.iadd, 1) := by decide +kernel
theorem dX6_lay_34 : decode cX6_lay 34 = .ok (.if_icmp .ge 77, 3) := by decide +kernel
theorem dX6_lay_37 : decode cX6_lay 37 = .ok (.aload_n 0, 1) := by decide +kernel
theorem dX6_lay_38 : decode cX6_lay 38 = .ok (.getfield 7, 3) := by decide +kernel
theorem dX6_lay_41 : decode cX6_lay 41 = .ok (.sipush 572, 3) := by decide +kernel
theorem dX6_lay_44 : decode cX6_lay 44 = .ok (.iload 7, 2) := by decide +kernel
theorem dX6_lay_46 : decode cX6_lay 46 = .ok (.iadd, 1) := by decide +kernel
theorem dX6_lay_47 : decode cX6_lay 47 = .ok (.iaload, 1) := by decide +kernel
theorem dX6_lay_48 : decode cX6_lay 48 = .ok (.ifCond .ge 7, 3) := by decide +kernel
theorem dX6_lay_51 : decode cX6_lay 51 = .ok (.iconst (-1), 1) := by decide +kernel
theorem dX6_lay_52 : decode cX6_lay 52 = .ok (.goto 26, 3) := by decide +kernel
theorem dX6_lay_55 : decode cX6_lay 55 = .ok (.aload_n 0, 1) := by decide +kernel
theorem dX6_lay_56 : decode cX6_lay 56 = .ok (.getfield 7, 3) := by decide +kernel
theorem dX6_lay_59 : decode cX6_lay 59 = .ok (.sipush 572, 3) := by decide +kernel
theorem dX6_lay_62 : decode cX6_lay 62 = .ok (.iload 7, 2) := by decide +kernel
theorem dX6_lay_64 : decode cX6_lay 64 = .ok (.iadd, 1) := by decide +kernel
theorem dX6_lay_65 : decode cX6_lay 65 = .ok (.iaload, 1) := by decide +kernel
theorem dX6_lay_66 : decode cX6_lay 66 = .ok (.aload_n 0, 1) := by decide +kernel
theorem dX6_lay_67 : decode cX6_lay 67 = .ok (.aload_n 0, 1) := by decide +kernel
theorem dX6_lay_68 : decode cX6_lay 68 = .ok (.iload 7, 2) := by decide +kernel
theorem dX6_lay_70 : decode cX6_lay 70 = .ok (.iload_n 3, 1) := by decide +kernel
theorem dX6_lay_71 : decode cX6_lay 71 = .ok (.invokevirtual 59, 3) := by decide +kernel
theorem dX6_lay_74 : decode cX6_lay 74 = .ok (.invokevirtual 76, 3) := by decide +kernel
theorem dX6_lay_77 : decode cX6_lay 77 = .ok (.iadd, 1) := by decide +kernel
theorem dX6_lay_78 : decode cX6_lay 78 = .ok (.istore 8, 2) := by decide +kernel
theorem dX6_lay_80 : decode cX6_lay 80 = .ok (.iload 8, 2) := by decide +kernel
theorem dX6_lay_82 : decode cX6_lay 82 = .ok (.ifCond .lt 23, 3) := by decide +kernel
theorem dX6_lay_85 : decode cX6_lay 85 = .ok (.iload 5, 2) := by decide +kernel
theorem dX6_lay_87 : decode cX6_lay 87 = .ok (.ifCond .lt 10, 3) := by decide +kernel
theorem dX6_lay_90 : decode cX6_lay 90 = .ok (.iload 8, 2) := by decide +kernel
theorem dX6_lay_92 : decode cX6_lay 92 = .ok (.iload 6, 2) := by decide +kernel
theorem dX6_lay_94 : decode cX6_lay 94 = .ok (.if_icmp .ge 11, 3) := by decide +kernel
theorem dX6_lay_97 : decode cX6_lay 97 = .ok (.iload 7, 2) := by decide +kernel
theorem dX6_lay_99 : decode cX6_lay 99 = .ok (.istore 5, 2) := by decide +kernel
theorem dX6_lay_101 : decode cX6_lay 101 = .ok (.iload 8, 2) := by decide +kernel
theorem dX6_lay_103 : decode cX6_lay 103 = .ok (.istore 6, 2) := by decide +kernel
theorem dX6_lay_105 : decode cX6_lay 105 = .ok (.iinc 7 1, 3) := by decide +kernel
theorem dX6_lay_108 : decode cX6_lay 108 = .ok (.goto (-80), 3) := by decide +kernel
theorem dX6_lay_111 : decode cX6_lay 111 = .ok (.aload_n 0, 1) := by decide +kernel
theorem dX6_lay_112 : decode cX6_lay 112 = .ok (.getfield 25, 3) := by decide +kernel
theorem dX6_lay_115 : decode cX6_lay 115 = .ok (.iload_n 1, 1) := by decide +kernel
theorem dX6_lay_116 : decode cX6_lay 116 = .ok (.iload 6, 2) := by decide +kernel
theorem dX6_lay_118 : decode cX6_lay 118 = .ok (.iastore, 1) := by decide +kernel
theorem dX6_lay_119 : decode cX6_lay 119 = .ok (.iconst 0, 1) := by decide +kernel
theorem dX6_lay_120 : decode cX6_lay 120 = .ok (.istore 7, 2) := by decide +kernel
theorem dX6_lay_122 : decode cX6_lay 122 = .ok (.iload 7, 2) := by decide +kernel
theorem dX6_lay_124 : decode cX6_lay 124 = .ok (.iconst 3, 1) := by decide +kernel
theorem dX6_lay_125 : decode cX6_lay 125 = .ok (.if_icmp .ge 45, 3) := by decide +kernel
theorem dX6_lay_128 : decode cX6_lay 128 = .ok (.aload_n 0, 1) := by decide +kernel
theorem dX6_lay_129 : decode cX6_lay 129 = .ok (.getfield 28, 3) := by decide +kernel
theorem dX6_lay_132 : decode cX6_lay 132 = .ok (.iconst 3, 1) := by decide +kernel
theorem dX6_lay_133 : decode cX6_lay 133 = .ok (.iload_n 1, 1) := by decide +kernel
theorem dX6_lay_134 : decode cX6_lay 134 = .ok (.imul, 1) := by decide +kernel
theorem dX6_lay_135 : decode cX6_lay 135 = .ok (.iload 7, 2) := by decide +kernel
theorem dX6_lay_137 : decode cX6_lay 137 = .ok (.iadd, 1) := by decide +kernel
theorem dX6_lay_138 : decode cX6_lay 138 = .ok (.iload 5, 2) := by decide +kernel
theorem dX6_lay_140 : decode cX6_lay 140 = .ok (.ifCond .ge 7, 3) := by decide +kernel
theorem dX6_lay_143 : decode cX6_lay 143 = .ok (.iconst 0, 1) := by decide +kernel
theorem dX6_lay_144 : decode cX6_lay 144 = .ok (.goto 19, 3) := by decide +kernel
theorem dX6_lay_147 : decode cX6_lay 147 = .ok (.aload_n 0, 1) := by decide +kernel
theorem dX6_lay_148 : decode cX6_lay 148 = .ok (.getfield 7, 3) := by decide +kernel
theorem dX6_lay_151 : decode cX6_lay 151 = .ok (.sipush 684, 3) := by decide +kernel
theorem dX6_lay_154 : decode cX6_lay 154 = .ok (.iconst 3, 1) := by decide +kernel
theorem dX6_lay_155 : decode cX6_lay 155 = .ok (.iload 5, 2) := by decide +kernel
theorem dX6_lay_157 : decode cX6_lay 157 = .ok (.imul, 1) := by decide +kernel
theorem dX6_lay_158 : decode cX6_lay 158 = .ok (.iadd, 1) := by decide +kernel
theorem dX6_lay_159 : decode cX6_lay 159 = .ok (.iload 7, 2) := by decide +kernel
theorem dX6_lay_161 : decode cX6_lay 161 = .ok (.iadd, 1) := by decide +kernel
theorem dX6_lay_162 : decode cX6_lay 162 = .ok (.iaload, 1) := by decide +kernel
theorem dX6_lay_163 : decode cX6_lay 163 = .ok (.iastore, 1) := by decide +kernel
theorem dX6_lay_164 : decode cX6_lay 164 = .ok (.iinc 7 1, 3) := by decide +kernel
theorem dX6_lay_167 : decode cX6_lay 167 = .ok (.goto (-45), 3) := by decide +kernel
theorem dX6_lay_170 : decode cX6_lay 170 = .ok (.aload_n 0, 1) := by decide +kernel
theorem dX6_lay_171 : decode cX6_lay 171 = .ok (.getfield 28, 3) := by decide +kernel
theorem dX6_lay_174 : decode cX6_lay 174 = .ok (.iconst 3, 1) := by decide +kernel
theorem dX6_lay_175 : decode cX6_lay 175 = .ok (.iload_n 1, 1) := by decide +kernel
theorem dX6_lay_176 : decode cX6_lay 176 = .ok (.imul, 1) := by decide +kernel
theorem dX6_lay_177 : decode cX6_lay 177 = .ok (.aload_n 0, 1) := by decide +kernel
theorem dX6_lay_178 : decode cX6_lay 178 = .ok (.getfield 7, 3) := by decide +kernel
theorem dX6_lay_181 : decode cX6_lay 181 = .ok (.bipush 9, 2) := by decide +kernel
theorem dX6_lay_183 : decode cX6_lay 183 = .ok (.iaload, 1) := by decide +kernel
theorem dX6_lay_184 : decode cX6_lay 184 = .ok (.bipush 30, 2) := by decide +kernel
theorem dX6_lay_186 : decode cX6_lay 186 = .ok (.idiv, 1) := by decide +kernel
theorem dX6_lay_187 : decode cX6_lay 187 = .ok (.iadd, 1) := by decide +kernel
theorem dX6_lay_188 : decode cX6_lay 188 = .ok (.dup2, 1) := by decide +kernel
theorem dX6_lay_189 : decode cX6_lay 189 = .ok (.iaload, 1) := by decide +kernel
theorem dX6_lay_190 : decode cX6_lay 190 = .ok (.iload 5, 2) := by decide +kernel
theorem dX6_lay_192 : decode cX6_lay 192 = .ok (.ifCond .ge 7, 3) := by decide +kernel
theorem dX6_lay_195 : decode cX6_lay 195 = .ok (.iconst 0, 1) := by decide +kernel
theorem dX6_lay_196 : decode cX6_lay 196 = .ok (.goto 15, 3) := by decide +kernel
theorem dX6_lay_199 : decode cX6_lay 199 = .ok (.iload_n 3, 1) := by decide +kernel
theorem dX6_lay_200 : decode cX6_lay 200 = .ok (.aload_n 0, 1) := by decide +kernel
theorem dX6_lay_201 : decode cX6_lay 201 = .ok (.getfield 7, 3) := by decide +kernel
theorem dX6_lay_204 : decode cX6_lay 204 = .ok (.bipush 9, 2) := by decide +kernel
theorem dX6_lay_206 : decode cX6_lay 206 = .ok (.iaload, 1) := by decide +kernel
theorem dX6_lay_207 : decode cX6_lay 207 = .ok (.bipush 30, 2) := by decide +kernel
theorem dX6_lay_209 : decode cX6_lay 209 = .ok (.irem, 1) := by decide +kernel
theorem dX6_lay_210 : decode cX6_lay 210 = .ok (.ishl, 1) := by decide +kernel
theorem dX6_lay_211 : decode cX6_lay 211 = .ok (.ior, 1) := by decide +kernel
theorem dX6_lay_212 : decode cX6_lay 212 = .ok (.iastore, 1) := by decide +kernel
theorem dX6_lay_213 : decode cX6_lay 213 = .ok (.return_, 1) := by decide +kernel
set_option maxRecDepth 20000 in
theorem ggX6_go_X6_registers : GoodIn wsX6_go wsX6_registers := goodIn_r _ [8, 1, 38, 39, 40, 41, 42, 43, 44, 45, 46, 47, 48] (by decide +kernel) (by decide +kernel)
set_option maxRecDepth 20000 in
theorem gX6_go_X6_registers : GoodIn wsX6_go (wsV RX6 41 RX6 yX6_registers wsX6_registers) := goodIn_app (goodIn_of _ (by decide +kernel)) ggX6_go_X6_registers
set_option maxRecDepth 20000 in
theorem ggX6_go_X6_lay : GoodIn wsX6_go wsX6_lay := goodIn_r _ [12, 1, 2, 3, 4, 5, 6, 7, 8, 13, 14, 15, 16, 17, 18, 19, 20, 21, 22, 23, 24, 25, 38, 39, 40, 41, 42, 43, 44, 45, 46, 47, 48] (by decide +kernel) (by decide +kernel)
set_option maxRecDepth 20000 in
theorem gX6_go_X6_lay : GoodIn wsX6_go (wsV RX6 80 RX6 yX6_lay wsX6_lay) := goodIn_app (goodIn_of _ (by decide +kernel)) ggX6_go_X6_lay
set_option maxRecDepth 20000 in
theorem ggX6_go_X6_bestState : GoodIn wsX6_go wsX6_bestState := goodIn_r _ [29, 1, 4, 5, 6, 7, 8, 38, 39, 40, 41, 42, 43, 44, 45, 46, 47, 48] (by decide +kernel) (by decide +kernel)
set_option maxRecDepth 20000 in
theorem gX6_go_X6_bestState : GoodIn wsX6_go (wsV RX6 83 RX6 yX6_bestState wsX6_bestState) := goodIn_app (goodIn_of _ (by decide +kernel)) ggX6_go_X6_bestState
set_option maxRecDepth 20000 in
theorem ggX6_go_X6_release : GoodIn wsX6_go wsX6_release := goodIn_r _ [33, 1, 34, 35, 36, 7, 37, 38, 39, 40, 41, 42, 43, 44, 45, 46, 47, 48] (by decide +kernel) (by decide +kernel)
set_option maxRecDepth 20000 in
theorem gX6_go_X6_release : GoodIn wsX6_go (wsV RX6 86 RX6 yX6_release wsX6_release) := goodIn_app (goodIn_of _ (by decide +kernel)) ggX6_go_X6_release
theorem dX6_go_0 : decode cX6_go 0 = .ok (.iconst 0, 1) := by decide +kernel
theorem dX6_go_1 : decode cX6_go 1 = .ok (.istore_n 1, 1) := by decide +kernel
theorem dX6_go_2 : decode cX6_go 2 = .ok (.iload_n 1, 1) := by decide +kernel
theorem dX6_go_3 : decode cX6_go 3 = .ok (.aload_n 0, 1) := by decide +kernel
theorem dX6_go_4 : decode cX6_go 4 = .ok (.invokevirtual 41, 3) := by decide +kernel
theorem dX6_go_7 : decode cX6_go 7 = .ok (.if_icmp .ge 14, 3) := by decide +kernel
theorem dX6_go_10 : decode cX6_go 10 = .ok (.aload_n 0, 1) := by decide +kernel
theorem dX6_go_11 : decode cX6_go 11 = .ok (.iload_n 1, 1) := by decide +kernel
theorem dX6_go_12 : decode cX6_go 12 = .ok (.invokevirtual 80, 3) := by decide +kernel
theorem dX6_go_15 : decode cX6_go 15 = .ok (.iinc 1 1, 3) := by decide +kernel
theorem dX6_go_18 : decode cX6_go 18 = .ok (.goto (-16), 3) := by decide +kernel
theorem dX6_go_21 : decode cX6_go 21 = .ok (.iconst 0, 1) := by decide +kernel
theorem dX6_go_22 : decode cX6_go 22 = .ok (.istore_n 1, 1) := by decide +kernel
theorem dX6_go_23 : decode cX6_go 23 = .ok (.iload_n 1, 1) := by decide +kernel
theorem dX6_go_24 : decode cX6_go 24 = .ok (.aload_n 0, 1) := by decide +kernel
theorem dX6_go_25 : decode cX6_go 25 = .ok (.invokevirtual 41, 3) := by decide +kernel
theorem dX6_go_28 : decode cX6_go 28 = .ok (.if_icmp .ge 25, 3) := by decide +kernel
theorem dX6_go_31 : decode cX6_go 31 = .ok (.aload_n 0, 1) := by decide +kernel
theorem dX6_go_32 : decode cX6_go 32 = .ok (.getfield 7, 3) := by decide +kernel
theorem dX6_go_35 : decode cX6_go 35 = .ok (.sipush 572, 3) := by decide +kernel
theorem dX6_go_38 : decode cX6_go 38 = .ok (.iload_n 1, 1) := by decide +kernel
theorem dX6_go_39 : decode cX6_go 39 = .ok (.iadd, 1) := by decide +kernel
theorem dX6_go_40 : decode cX6_go 40 = .ok (.aload_n 0, 1) := by decide +kernel
theorem dX6_go_41 : decode cX6_go 41 = .ok (.getfield 25, 3) := by decide +kernel
theorem dX6_go_44 : decode cX6_go 44 = .ok (.iload_n 1, 1) := by decide +kernel
theorem dX6_go_45 : decode cX6_go 45 = .ok (.iaload, 1) := by decide +kernel
theorem dX6_go_46 : decode cX6_go 46 = .ok (.iastore, 1) := by decide +kernel
theorem dX6_go_47 : decode cX6_go 47 = .ok (.iinc 1 1, 3) := by decide +kernel
theorem dX6_go_50 : decode cX6_go 50 = .ok (.goto (-27), 3) := by decide +kernel
theorem dX6_go_53 : decode cX6_go 53 = .ok (.iconst 0, 1) := by decide +kernel
theorem dX6_go_54 : decode cX6_go 54 = .ok (.istore_n 1, 1) := by decide +kernel
theorem dX6_go_55 : decode cX6_go 55 = .ok (.iload_n 1, 1) := by decide +kernel
theorem dX6_go_56 : decode cX6_go 56 = .ok (.iconst 3, 1) := by decide +kernel
theorem dX6_go_57 : decode cX6_go 57 = .ok (.aload_n 0, 1) := by decide +kernel
theorem dX6_go_58 : decode cX6_go 58 = .ok (.invokevirtual 41, 3) := by decide +kernel
theorem dX6_go_61 : decode cX6_go 61 = .ok (.imul, 1) := by decide +kernel
theorem dX6_go_62 : decode cX6_go 62 = .ok (.if_icmp .ge 25, 3) := by decide +kernel
theorem dX6_go_65 : decode cX6_go 65 = .ok (.aload_n 0, 1) := by decide +kernel
theorem dX6_go_66 : decode cX6_go 66 = .ok (.getfield 7, 3) := by decide +kernel
theorem dX6_go_69 : decode cX6_go 69 = .ok (.sipush 684, 3) := by decide +kernel
theorem dX6_go_72 : decode cX6_go 72 = .ok (.iload_n 1, 1) := by decide +kernel
theorem dX6_go_73 : decode cX6_go 73 = .ok (.iadd, 1) := by decide +kernel
theorem dX6_go_74 : decode cX6_go 74 = .ok (.aload_n 0, 1) := by decide +kernel
theorem dX6_go_75 : decode cX6_go 75 = .ok (.getfield 28, 3) := by decide +kernel
theorem dX6_go_78 : decode cX6_go 78 = .ok (.iload_n 1, 1) := by decide +kernel
theorem dX6_go_79 : decode cX6_go 79 = .ok (.iaload, 1) := by decide +kernel
theorem dX6_go_80 : decode cX6_go 80 = .ok (.iastore, 1) := by decide +kernel
theorem dX6_go_81 : decode cX6_go 81 = .ok (.iinc 1 1, 3) := by decide +kernel
theorem dX6_go_84 : decode cX6_go 84 = .ok (.goto (-29), 3) := by decide +kernel
theorem dX6_go_87 : decode cX6_go 87 = .ok (.aload_n 0, 1) := by decide +kernel
theorem dX6_go_88 : decode cX6_go 88 = .ok (.getfield 7, 3) := by decide +kernel
theorem dX6_go_91 : decode cX6_go 91 = .ok (.bipush 9, 2) := by decide +kernel
theorem dX6_go_93 : decode cX6_go 93 = .ok (.dup2, 1) := by decide +kernel
theorem dX6_go_94 : decode cX6_go 94 = .ok (.iaload, 1) := by decide +kernel
theorem dX6_go_95 : decode cX6_go 95 = .ok (.iconst 1, 1) := by decide +kernel
theorem dX6_go_96 : decode cX6_go 96 = .ok (.iadd, 1) := by decide +kernel
theorem dX6_go_97 : decode cX6_go 97 = .ok (.iastore, 1) := by decide +kernel
theorem dX6_go_98 : decode cX6_go 98 = .ok (.aload_n 0, 1) := by decide +kernel
theorem dX6_go_99 : decode cX6_go 99 = .ok (.getfield 7, 3) := by decide +kernel
theorem dX6_go_102 : decode cX6_go 102 = .ok (.bipush 9, 2) := by decide +kernel
theorem dX6_go_104 : decode cX6_go 104 = .ok (.iaload, 1) := by decide +kernel
theorem dX6_go_105 : decode cX6_go 105 = .ok (.aload_n 0, 1) := by decide +kernel
theorem dX6_go_106 : decode cX6_go 106 = .ok (.getfield 7, 3) := by decide +kernel
theorem dX6_go_109 : decode cX6_go 109 = .ok (.bipush 10, 2) := by decide +kernel
theorem dX6_go_111 : decode cX6_go 111 = .ok (.iaload, 1) := by decide +kernel
theorem dX6_go_112 : decode cX6_go 112 = .ok (.isub, 1) := by decide +kernel
theorem dX6_go_113 : decode cX6_go 113 = .ok (.aload_n 0, 1) := by decide +kernel
theorem dX6_go_114 : decode cX6_go 114 = .ok (.getfield 7, 3) := by decide +kernel
theorem dX6_go_117 : decode cX6_go 117 = .ok (.iconst 5, 1) := by decide +kernel
theorem dX6_go_118 : decode cX6_go 118 = .ok (.iaload, 1) := by decide +kernel
theorem dX6_go_119 : decode cX6_go 119 = .ok (.if_icmp .lt 14, 3) := by decide +kernel
theorem dX6_go_122 : decode cX6_go 122 = .ok (.aload_n 0, 1) := by decide +kernel
theorem dX6_go_123 : decode cX6_go 123 = .ok (.aload_n 0, 1) := by decide +kernel
theorem dX6_go_124 : decode cX6_go 124 = .ok (.invokevirtual 83, 3) := by decide +kernel
theorem dX6_go_127 : decode cX6_go 127 = .ok (.invokevirtual 86, 3) := by decide +kernel
theorem dX6_go_130 : decode cX6_go 130 = .ok (.goto (-32), 3) := by decide +kernel
theorem dX6_go_133 : decode cX6_go 133 = .ok (.return_, 1) := by decide +kernel
set_option maxRecDepth 20000 in
theorem ggX6_take_X6_in : GoodIn wsX6_take wsX6_in := goodIn_r _ [6] (by decide +kernel) (by decide +kernel)
set_option maxRecDepth 20000 in
theorem gX6_take_X6_in : GoodIn wsX6_take (va_wsS RX6 49 yX6_in wsX6_in) := goodIn_app (goodIn_of _ (by decide +kernel)) ggX6_take_X6_in
set_option maxRecDepth 20000 in
theorem ggX6_take_X6_symbols : GoodIn wsX6_take wsX6_symbols := goodIn_r _ [10, 1, 55, 56, 57, 58, 59, 60, 61, 62, 63, 64, 65] (by decide +kernel) (by decide +kernel)
set_option maxRecDepth 20000 in
theorem gX6_take_X6_symbols : GoodIn wsX6_take (wsV RX6 62 RX6 yX6_symbols wsX6_symbols) := goodIn_app (goodIn_of _ (by decide +kernel)) ggX6_take_X6_symbols
set_option maxRecDepth 20000 in
theorem ggX6_take_X6_record : GoodIn wsX6_take wsX6_record := goodIn_r _ [14, 15, 16, 1, 55, 56, 57, 58, 59, 60, 61, 62, 63, 64, 65] (by decide +kernel) (by decide +kernel)
set_option maxRecDepth 20000 in
theorem gX6_take_X6_record : GoodIn wsX6_take (wsV RX6 53 RX6 yX6_record wsX6_record) := goodIn_app (goodIn_of _ (by decide +kernel)) ggX6_take_X6_record
set_option maxRecDepth 20000 in
theorem ggX6_take_X6_go : GoodIn wsX6_take wsX6_go := goodIn_r _ [20, 1, 21, 22, 23, 24, 25, 5, 26, 27, 28, 29, 30, 31, 32, 33, 34, 35, 36, 37, 38, 2, 39, 40, 41, 42, 43, 44, 45, 46, 47, 48, 49, 50, 51, 52, 53, 54, 55, 56, 57, 58, 59, 60, 61, 62, 63, 64, 65] (by decide +kernel) (by decide +kernel)
set_option maxRecDepth 20000 in
theorem gX6_take_X6_go : GoodIn wsX6_take (wsV RX6 89 RX6 yX6_go wsX6_go) := goodIn_app (goodIn_of _ (by decide +kernel)) ggX6_take_X6_go
theorem dX6_take_0 : decode cX6_take 0 = .ok (.iload_n 1, 1) := by decide +kernel
theorem dX6_take_1 : decode cX6_take 1 = .ok (.iconst 1, 1) := by decide +kernel
theorem dX6_take_2 : decode cX6_take 2 = .ok (.bipush 80, 2) := by decide +kernel
theorem dX6_take_4 : decode cX6_take 4 = .ok (.invokestatic 49, 3) := by decide +kernel
theorem dX6_take_7 : decode cX6_take 7 = .ok (.ifCond .ne 6, 3) := by decide +kernel
theorem dX6_take_10 : decode cX6_take 10 = .ok (.bipush (-2), 2) := by decide +kernel
theorem dX6_take_12 : decode cX6_take 12 = .ok (.ireturn, 1) := by decide +kernel
theorem dX6_take_13 : decode cX6_take 13 = .ok (.aload_n 0, 1) := by decide +kernel
theorem dX6_take_14 : decode cX6_take 14 = .ok (.getfield 7, 3) := by decide +kernel
theorem dX6_take_17 : decode cX6_take 17 = .ok (.bipush 11, 2) := by decide +kernel
theorem dX6_take_19 : decode cX6_take 19 = .ok (.iaload, 1) := by decide +kernel
theorem dX6_take_20 : decode cX6_take 20 = .ok (.iconst 1, 1) := by decide +kernel
theorem dX6_take_21 : decode cX6_take 21 = .ok (.if_icmp .eq 26, 3) := by decide +kernel
theorem dX6_take_24 : decode cX6_take 24 = .ok (.aload_n 0, 1) := by decide +kernel
theorem dX6_take_25 : decode cX6_take 25 = .ok (.invokevirtual 62, 3) := by decide +kernel
theorem dX6_take_28 : decode cX6_take 28 = .ok (.aload_n 0, 1) := by decide +kernel
theorem dX6_take_29 : decode cX6_take 29 = .ok (.getfield 7, 3) := by decide +kernel
theorem dX6_take_32 : decode cX6_take 32 = .ok (.bipush 8, 2) := by decide +kernel
theorem dX6_take_34 : decode cX6_take 34 = .ok (.iaload, 1) := by decide +kernel
theorem dX6_take_35 : decode cX6_take 35 = .ok (.isub, 1) := by decide +kernel
theorem dX6_take_36 : decode cX6_take 36 = .ok (.iload_n 1, 1) := by decide +kernel
theorem dX6_take_37 : decode cX6_take 37 = .ok (.aload_n 0, 1) := by decide +kernel
theorem dX6_take_38 : decode cX6_take 38 = .ok (.getfield 7, 3) := by decide +kernel
theorem dX6_take_41 : decode cX6_take 41 = .ok (.iconst 1, 1) := by decide +kernel
theorem dX6_take_42 : decode cX6_take 42 = .ok (.iaload, 1) := by decide +kernel
theorem dX6_take_43 : decode cX6_take 43 = .ok (.imul, 1) := by decide +kernel
theorem dX6_take_44 : decode cX6_take 44 = .ok (.if_icmp .ge 6, 3) := by decide +kernel
theorem dX6_take_47 : decode cX6_take 47 = .ok (.bipush (-4), 2) := by decide +kernel
theorem dX6_take_49 : decode cX6_take 49 = .ok (.ireturn, 1) := by decide +kernel
theorem dX6_take_50 : decode cX6_take 50 = .ok (.aload_n 0, 1) := by decide +kernel
theorem dX6_take_51 : decode cX6_take 51 = .ok (.getfield 7, 3) := by decide +kernel
theorem dX6_take_54 : decode cX6_take 54 = .ok (.bipush 9, 2) := by decide +kernel
theorem dX6_take_56 : decode cX6_take 56 = .ok (.iaload, 1) := by decide +kernel
theorem dX6_take_57 : decode cX6_take 57 = .ok (.iload_n 1, 1) := by decide +kernel
theorem dX6_take_58 : decode cX6_take 58 = .ok (.iadd, 1) := by decide +kernel
theorem dX6_take_59 : decode cX6_take 59 = .ok (.bipush 80, 2) := by decide +kernel
theorem dX6_take_61 : decode cX6_take 61 = .ok (.if_icmp .le 6, 3) := by decide +kernel
theorem dX6_take_64 : decode cX6_take 64 = .ok (.bipush (-3), 2) := by decide +kernel
theorem dX6_take_66 : decode cX6_take 66 = .ok (.ireturn, 1) := by decide +kernel
theorem dX6_take_67 : decode cX6_take 67 = .ok (.aload_n 0, 1) := by decide +kernel
theorem dX6_take_68 : decode cX6_take 68 = .ok (.invokevirtual 53, 3) := by decide +kernel
theorem dX6_take_71 : decode cX6_take 71 = .ok (.iconst 0, 1) := by decide +kernel
theorem dX6_take_72 : decode cX6_take 72 = .ok (.istore_n 2, 1) := by decide +kernel
theorem dX6_take_73 : decode cX6_take 73 = .ok (.iload_n 2, 1) := by decide +kernel
theorem dX6_take_74 : decode cX6_take 74 = .ok (.iload_n 1, 1) := by decide +kernel
theorem dX6_take_75 : decode cX6_take 75 = .ok (.if_icmp .ge 70, 3) := by decide +kernel
theorem dX6_take_78 : decode cX6_take 78 = .ok (.iconst 0, 1) := by decide +kernel
theorem dX6_take_79 : decode cX6_take 79 = .ok (.istore_n 3, 1) := by decide +kernel
theorem dX6_take_80 : decode cX6_take 80 = .ok (.iload_n 3, 1) := by decide +kernel
theorem dX6_take_81 : decode cX6_take 81 = .ok (.aload_n 0, 1) := by decide +kernel
theorem dX6_take_82 : decode cX6_take 82 = .ok (.getfield 7, 3) := by decide +kernel
theorem dX6_take_85 : decode cX6_take 85 = .ok (.iconst 1, 1) := by decide +kernel
theorem dX6_take_86 : decode cX6_take 86 = .ok (.iaload, 1) := by decide +kernel
theorem dX6_take_87 : decode cX6_take 87 = .ok (.if_icmp .ge 32, 3) := by decide +kernel
theorem dX6_take_90 : decode cX6_take 90 = .ok (.aload_n 0, 1) := by decide +kernel
theorem dX6_take_91 : decode cX6_take 91 = .ok (.getfield 22, 3) := by decide +kernel
theorem dX6_take_94 : decode cX6_take 94 = .ok (.iload_n 3, 1) := by decide +kernel
theorem dX6_take_95 : decode cX6_take 95 = .ok (.aload_n 0, 1) := by decide +kernel
theorem dX6_take_96 : decode cX6_take 96 = .ok (.getfield 7, 3) := by decide +kernel
theorem dX6_take_99 : decode cX6_take 99 = .ok (.bipush 92, 2) := by decide +kernel
theorem dX6_take_101 : decode cX6_take 101 = .ok (.aload_n 0, 1) := by decide +kernel
theorem dX6_take_102 : decode cX6_take 102 = .ok (.getfield 7, 3) := by decide +kernel
theorem dX6_take_105 : decode cX6_take 105 = .ok (.bipush 8, 2) := by decide +kernel
theorem dX6_take_107 : decode cX6_take 107 = .ok (.iaload, 1) := by decide +kernel
theorem dX6_take_108 : decode cX6_take 108 = .ok (.iadd, 1) := by decide +kernel
theorem dX6_take_109 : decode cX6_take 109 = .ok (.iload_n 3, 1) := by decide +kernel
theorem dX6_take_110 : decode cX6_take 110 = .ok (.iadd, 1) := by decide +kernel
theorem dX6_take_111 : decode cX6_take 111 = .ok (.iaload, 1) := by decide +kernel
theorem dX6_take_112 : decode cX6_take 112 = .ok (.iastore, 1) := by decide +kernel
theorem dX6_take_113 : decode cX6_take 113 = .ok (.iinc 3 1, 3) := by decide +kernel
theorem dX6_take_116 : decode cX6_take 116 = .ok (.goto (-36), 3) := by decide +kernel
theorem dX6_take_119 : decode cX6_take 119 = .ok (.aload_n 0, 1) := by decide +kernel
theorem dX6_take_120 : decode cX6_take 120 = .ok (.getfield 7, 3) := by decide +kernel
theorem dX6_take_123 : decode cX6_take 123 = .ok (.bipush 8, 2) := by decide +kernel
theorem dX6_take_125 : decode cX6_take 125 = .ok (.dup2, 1) := by decide +kernel
theorem dX6_take_126 : decode cX6_take 126 = .ok (.iaload, 1) := by decide +kernel
theorem dX6_take_127 : decode cX6_take 127 = .ok (.aload_n 0, 1) := by decide +kernel
theorem dX6_take_128 : decode cX6_take 128 = .ok (.getfield 7, 3) := by decide +kernel
theorem dX6_take_131 : decode cX6_take 131 = .ok (.iconst 1, 1) := by decide +kernel
theorem dX6_take_132 : decode cX6_take 132 = .ok (.iaload, 1) := by decide +kernel
theorem dX6_take_133 : decode cX6_take 133 = .ok (.iadd, 1) := by decide +kernel
theorem dX6_take_134 : decode cX6_take 134 = .ok (.iastore, 1) := by decide +kernel
theorem dX6_take_135 : decode cX6_take 135 = .ok (.aload_n 0, 1) := by decide +kernel
theorem dX6_take_136 : decode cX6_take 136 = .ok (.invokevirtual 89, 3) := by decide +kernel
theorem dX6_take_139 : decode cX6_take 139 = .ok (.iinc 2 1, 3) := by decide +kernel
theorem dX6_take_142 : decode cX6_take 142 = .ok (.goto (-69), 3) := by decide +kernel
theorem dX6_take_145 : decode cX6_take 145 = .ok (.aload_n 0, 1) := by decide +kernel
theorem dX6_take_146 : decode cX6_take 146 = .ok (.getfield 7, 3) := by decide +kernel
theorem dX6_take_149 : decode cX6_take 149 = .ok (.bipush 10, 2) := by decide +kernel
