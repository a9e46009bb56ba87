set_option maxRecDepth 20000 in
theorem ggX1_init_X1_clear : GoodIn wsX1_init wsX1_clear := goodIn_r _ [13, 14, 15, 16, 17, 6, 18, 19, 20, 21, 22, 23, 24, 25, 26, 27, 28, 29] (by decide +kernel) (by decide +kernel)
set_option maxRecDepth 20000 in
theorem gX1_init_X1_clear : GoodIn wsX1_init (wsV RX1 24 RX1 yX1_clear wsX1_clear) := goodIn_app (goodIn_of _ (by decide +kernel)) ggX1_init_X1_clear
theorem dX1_init_0 : decode cX1_init 0 = .ok (.aload_n 0, 1) := by decide +kernel
theorem dX1_init_1 : decode cX1_init 1 = .ok (.invokespecial 3, 3) := by decide +kernel
theorem dX1_init_4 : decode cX1_init 4 = .ok (.aload_n 0, 1) := by decide +kernel
theorem dX1_init_5 : decode cX1_init 5 = .ok (.bipush 80, 2) := by decide +kernel
theorem dX1_init_7 : decode cX1_init 7 = .ok (.newarray .int, 2) := by decide +kernel
theorem dX1_init_9 : decode cX1_init 9 = .ok (.putfield 9, 3) := by decide +kernel
theorem dX1_init_12 : decode cX1_init 12 = .ok (.aload_n 0, 1) := by decide +kernel
theorem dX1_init_13 : decode cX1_init 13 = .ok (.bipush 32, 2) := by decide +kernel
theorem dX1_init_15 : decode cX1_init 15 = .ok (.newarray .int, 2) := by decide +kernel
theorem dX1_init_17 : decode cX1_init 17 = .ok (.putfield 15, 3) := by decide +kernel
theorem dX1_init_20 : decode cX1_init 20 = .ok (.aload_n 0, 1) := by decide +kernel
theorem dX1_init_21 : decode cX1_init 21 = .ok (.bipush 32, 2) := by decide +kernel
theorem dX1_init_23 : decode cX1_init 23 = .ok (.newarray .int, 2) := by decide +kernel
theorem dX1_init_25 : decode cX1_init 25 = .ok (.putfield 18, 3) := by decide +kernel
theorem dX1_init_28 : decode cX1_init 28 = .ok (.aload_n 0, 1) := by decide +kernel
theorem dX1_init_29 : decode cX1_init 29 = .ok (.bipush 80, 2) := by decide +kernel
theorem dX1_init_31 : decode cX1_init 31 = .ok (.newarray .int, 2) := by decide +kernel
theorem dX1_init_33 : decode cX1_init 33 = .ok (.putfield 21, 3) := by decide +kernel
theorem dX1_init_36 : decode cX1_init 36 = .ok (.aload_n 0, 1) := by decide +kernel
theorem dX1_init_37 : decode cX1_init 37 = .ok (.invokevirtual 24, 3) := by decide +kernel
theorem dX1_init_40 : decode cX1_init 40 = .ok (.return_, 1) := by decide +kernel
set_option maxRecDepth 20000 in
theorem ggX1_clear_J7_fill_53178 : GoodIn wsX1_clear wsJ7_fill_53178 := goodIn_r _ [9] (by decide +kernel) (by decide +kernel)
set_option maxRecDepth 20000 in
theorem gX1_clear_J7_fill_53178 : GoodIn wsX1_clear (va_wsS RX1 41 yJ7_fill_53178 wsJ7_fill_53178) := goodIn_app (goodIn_of _ (by decide +kernel)) ggX1_clear_J7_fill_53178
theorem dX1_clear_0 : decode cX1_clear 0 = .ok (.aload_n 0, 1) := by decide +kernel
theorem dX1_clear_1 : decode cX1_clear 1 = .ok (.iconst 0, 1) := by decide +kernel
theorem dX1_clear_2 : decode cX1_clear 2 = .ok (.putfield 27, 3) := by decide +kernel
theorem dX1_clear_5 : decode cX1_clear 5 = .ok (.aload_n 0, 1) := by decide +kernel
theorem dX1_clear_6 : decode cX1_clear 6 = .ok (.iconst 0, 1) := by decide +kernel
theorem dX1_clear_7 : decode cX1_clear 7 = .ok (.putfield 31, 3) := by decide +kernel
theorem dX1_clear_10 : decode cX1_clear 10 = .ok (.aload_n 0, 1) := by decide +kernel
theorem dX1_clear_11 : decode cX1_clear 11 = .ok (.iconst 0, 1) := by decide +kernel
theorem dX1_clear_12 : decode cX1_clear 12 = .ok (.putfield 34, 3) := by decide +kernel
theorem dX1_clear_15 : decode cX1_clear 15 = .ok (.aload_n 0, 1) := by decide +kernel
theorem dX1_clear_16 : decode cX1_clear 16 = .ok (.iconst 0, 1) := by decide +kernel
theorem dX1_clear_17 : decode cX1_clear 17 = .ok (.putfield 37, 3) := by decide +kernel
theorem dX1_clear_20 : decode cX1_clear 20 = .ok (.aload_n 0, 1) := by decide +kernel
theorem dX1_clear_21 : decode cX1_clear 21 = .ok (.getfield 15, 3) := by decide +kernel
theorem dX1_clear_24 : decode cX1_clear 24 = .ok (.iconst (-1), 1) := by decide +kernel
theorem dX1_clear_25 : decode cX1_clear 25 = .ok (.invokestatic 41, 3) := by decide +kernel
theorem dX1_clear_28 : decode cX1_clear 28 = .ok (.aload_n 0, 1) := by decide +kernel
theorem dX1_clear_29 : decode cX1_clear 29 = .ok (.getfield 15, 3) := by decide +kernel
theorem dX1_clear_32 : decode cX1_clear 32 = .ok (.iconst 0, 1) := by decide +kernel
theorem dX1_clear_33 : decode cX1_clear 33 = .ok (.iconst 0, 1) := by decide +kernel
theorem dX1_clear_34 : decode cX1_clear 34 = .ok (.iastore, 1) := by decide +kernel
theorem dX1_clear_35 : decode cX1_clear 35 = .ok (.return_, 1) := by decide +kernel
theorem dX1_copyFrom_0 : decode cX1_copyFrom 0 = .ok (.aload_n 0, 1) := by decide +kernel
theorem dX1_copyFrom_1 : decode cX1_copyFrom 1 = .ok (.aload_n 1, 1) := by decide +kernel
theorem dX1_copyFrom_2 : decode cX1_copyFrom 2 = .ok (.getfield 27, 3) := by decide +kernel
theorem dX1_copyFrom_5 : decode cX1_copyFrom 5 = .ok (.putfield 27, 3) := by decide +kernel
theorem dX1_copyFrom_8 : decode cX1_copyFrom 8 = .ok (.aload_n 0, 1) := by decide +kernel
theorem dX1_copyFrom_9 : decode cX1_copyFrom 9 = .ok (.aload_n 1, 1) := by decide +kernel
theorem dX1_copyFrom_10 : decode cX1_copyFrom 10 = .ok (.getfield 31, 3) := by decide +kernel
theorem dX1_copyFrom_13 : decode cX1_copyFrom 13 = .ok (.putfield 31, 3) := by decide +kernel
theorem dX1_copyFrom_16 : decode cX1_copyFrom 16 = .ok (.aload_n 0, 1) := by decide +kernel
theorem dX1_copyFrom_17 : decode cX1_copyFrom 17 = .ok (.aload_n 1, 1) := by decide +kernel
theorem dX1_copyFrom_18 : decode cX1_copyFrom 18 = .ok (.getfield 34, 3) := by decide +kernel
theorem dX1_copyFrom_21 : decode cX1_copyFrom 21 = .ok (.putfield 34, 3) := by decide +kernel
theorem dX1_copyFrom_24 : decode cX1_copyFrom 24 = .ok (.aload_n 0, 1) := by decide +kernel
theorem dX1_copyFrom_25 : decode cX1_copyFrom 25 = .ok (.aload_n 1, 1) := by decide +kernel
theorem dX1_copyFrom_26 : decode cX1_copyFrom 26 = .ok (.getfield 37, 3) := by decide +kernel
theorem dX1_copyFrom_29 : decode cX1_copyFrom 29 = .ok (.putfield 37, 3) := by decide +kernel
theorem dX1_copyFrom_32 : decode cX1_copyFrom 32 = .ok (.aload_n 1, 1) := by decide +kernel
theorem dX1_copyFrom_33 : decode cX1_copyFrom 33 = .ok (.getfield 9, 3) := by decide +kernel
theorem dX1_copyFrom_36 : decode cX1_copyFrom 36 = .ok (.iconst 0, 1) := by decide +kernel
theorem dX1_copyFrom_37 : decode cX1_copyFrom 37 = .ok (.aload_n 0, 1) := by decide +kernel
theorem dX1_copyFrom_38 : decode cX1_copyFrom 38 = .ok (.getfield 9, 3) := by decide +kernel
theorem dX1_copyFrom_41 : decode cX1_copyFrom 41 = .ok (.iconst 0, 1) := by decide +kernel
theorem dX1_copyFrom_42 : decode cX1_copyFrom 42 = .ok (.bipush 80, 2) := by decide +kernel
theorem dX1_copyFrom_44 : decode cX1_copyFrom 44 = .ok (.invokestatic 47, 3) := by decide +kernel
theorem dX1_copyFrom_47 : decode cX1_copyFrom 47 = .ok (.aload_n 1, 1) := by decide +kernel
theorem dX1_copyFrom_48 : decode cX1_copyFrom 48 = .ok (.getfield 15, 3) := by decide +kernel
theorem dX1_copyFrom_51 : decode cX1_copyFrom 51 = .ok (.iconst 0, 1) := by decide +kernel
theorem dX1_copyFrom_52 : decode cX1_copyFrom 52 = .ok (.aload_n 0, 1) := by decide +kernel
theorem dX1_copyFrom_53 : decode cX1_copyFrom 53 = .ok (.getfield 15, 3) := by decide +kernel
theorem dX1_copyFrom_56 : decode cX1_copyFrom 56 = .ok (.iconst 0, 1) := by decide +kernel
theorem dX1_copyFrom_57 : decode cX1_copyFrom 57 = .ok (.bipush 32, 2) := by decide +kernel
theorem dX1_copyFrom_59 : decode cX1_copyFrom 59 = .ok (.invokestatic 47, 3) := by decide +kernel
theorem dX1_copyFrom_62 : decode cX1_copyFrom 62 = .ok (.aload_n 1, 1) := by decide +kernel
theorem dX1_copyFrom_63 : decode cX1_copyFrom 63 = .ok (.getfield 21, 3) := by decide +kernel
theorem dX1_copyFrom_66 : decode cX1_copyFrom 66 = .ok (.iconst 0, 1) := by decide +kernel
theorem dX1_copyFrom_67 : decode cX1_copyFrom 67 = .ok (.aload_n 0, 1) := by decide +kernel
theorem dX1_copyFrom_68 : decode cX1_copyFrom 68 = .ok (.getfield 21, 3) := by decide +kernel
theorem dX1_copyFrom_71 : decode cX1_copyFrom 71 = .ok (.iconst 0, 1) := by decide +kernel
theorem dX1_copyFrom_72 : decode cX1_copyFrom 72 = .ok (.bipush 80, 2) := by decide +kernel
theorem dX1_copyFrom_74 : decode cX1_copyFrom 74 = .ok (.invokestatic 47, 3) := by decide +kernel
theorem dX1_copyFrom_77 : decode cX1_copyFrom 77 = .ok (.return_, 1) := by decide +kernel
set_option maxRecDepth 20000 in
theorem ggX1_advance_X0_states : GoodIn wsX1_advance wsX0_states := goodIn_r _ [14, 15, 72, 73, 74] (by decide +kernel) (by decide +kernel)
set_option maxRecDepth 20000 in
theorem gX1_advance_X0_states : GoodIn wsX1_advance (wsV RX1 53 RX0 yX0_states wsX0_states) := goodIn_app (goodIn_of _ (by decide +kernel)) ggX1_advance_X0_states
set_option maxRecDepth 20000 in
theorem ggX1_advance_X0_lowerBefore : GoodIn wsX1_advance wsX0_lowerBefore := goodIn_r _ [19, 20, 11, 12, 13, 14, 15, 72, 73, 74] (by decide +kernel) (by decide +kernel)
set_option maxRecDepth 20000 in
theorem gX1_advance_X0_lowerBefore : GoodIn wsX1_advance (wsV RX1 59 RX0 yX0_lowerBefore wsX0_lowerBefore) := goodIn_app (goodIn_of _ (by decide +kernel)) ggX1_advance_X0_lowerBefore
set_option maxRecDepth 20000 in
theorem ggX1_advance_X0_bitInto : GoodIn wsX1_advance wsX0_bitInto := goodIn_r _ [24, 15, 72, 73, 74] (by decide +kernel) (by decide +kernel)
set_option maxRecDepth 20000 in
theorem gX1_advance_X0_bitInto : GoodIn wsX1_advance (wsV RX1 63 RX0 yX0_bitInto wsX0_bitInto) := goodIn_app (goodIn_of _ (by decide +kernel)) ggX1_advance_X0_bitInto
set_option maxRecDepth 20000 in
theorem ggX1_advance_X1_metricOver : GoodIn wsX1_advance wsX1_metricOver := goodIn_r _ [29, 3, 30, 31, 32, 13, 33, 34, 35, 36, 37, 38, 15, 39, 40, 41, 42, 43, 44, 45, 46, 47, 48, 49, 50, 64, 65, 66, 67, 68, 69, 70, 71, 72, 73, 74] (by decide +kernel) (by decide +kernel)
set_option maxRecDepth 20000 in
theorem gX1_advance_X1_metricOver : GoodIn wsX1_advance (wsV RX1 66 RX1 yX1_metricOver wsX1_metricOver) := goodIn_app (goodIn_of _ (by decide +kernel)) ggX1_advance_X1_metricOver
set_option maxRecDepth 20000 in
theorem ggX1_advance_X1_bestState : GoodIn wsX1_advance wsX1_bestState := goodIn_r _ [54, 3, 10, 11, 12, 13, 14, 15, 64, 65, 66, 67, 68, 69, 70, 71, 72, 73, 74] (by decide +kernel) (by decide +kernel)
set_option maxRecDepth 20000 in
theorem gX1_advance_X1_bestState : GoodIn wsX1_advance (wsV RX1 70 RX1 yX1_bestState wsX1_bestState) := goodIn_app (goodIn_of _ (by decide +kernel)) ggX1_advance_X1_bestState
set_option maxRecDepth 20000 in
theorem ggX1_advance_X1_releaseUpTo : GoodIn wsX1_advance wsX1_releaseUpTo := goodIn_r _ [58, 1, 9, 59, 21, 22, 23, 13, 24, 15, 60, 61, 62, 28, 63, 8, 16, 17, 18, 19, 20, 11, 12, 14, 64, 65, 66, 67, 68, 69, 70, 71, 72, 73, 74] (by decide +kernel) (by decide +kernel)
set_option maxRecDepth 20000 in
theorem gX1_advance_X1_releaseUpTo : GoodIn wsX1_advance (wsV RX1 74 RX1 yX1_releaseUpTo wsX1_releaseUpTo) := goodIn_app (goodIn_of _ (by decide +kernel)) ggX1_advance_X1_releaseUpTo
theorem dX1_advance_0 : decode cX1_advance 0 = .ok (.aload_n 0, 1) := by decide +kernel
theorem dX1_advance_1 : decode cX1_advance 1 = .ok (.getfield 27, 3) := by decide +kernel
theorem dX1_advance_4 : decode cX1_advance 4 = .ok (.bipush 80, 2) := by decide +kernel
theorem dX1_advance_6 : decode cX1_advance 6 = .ok (.if_icmp .lt 4, 3) := by decide +kernel
theorem dX1_advance_9 : decode cX1_advance 9 = .ok (.return_, 1) := by decide +kernel
theorem dX1_advance_10 : decode cX1_advance 10 = .ok (.aload_n 1, 1) := by decide +kernel
theorem dX1_advance_11 : decode cX1_advance 11 = .ok (.invokevirtual 53, 3) := by decide +kernel
theorem dX1_advance_14 : decode cX1_advance 14 = .ok (.istore 5, 2) := by decide +kernel
theorem dX1_advance_16 : decode cX1_advance 16 = .ok (.iconst 0, 1) := by decide +kernel
theorem dX1_advance_17 : decode cX1_advance 17 = .ok (.istore 6, 2) := by decide +kernel
theorem dX1_advance_19 : decode cX1_advance 19 = .ok (.iconst 0, 1) := by decide +kernel
theorem dX1_advance_20 : decode cX1_advance 20 = .ok (.istore 7, 2) := by decide +kernel
theorem dX1_advance_22 : decode cX1_advance 22 = .ok (.iload 7, 2) := by decide +kernel
theorem dX1_advance_24 : decode cX1_advance 24 = .ok (.iload 5, 2) := by decide +kernel
theorem dX1_advance_26 : decode cX1_advance 26 = .ok (.if_icmp .ge 114, 3) := by decide +kernel
theorem dX1_advance_29 : decode cX1_advance 29 = .ok (.aload_n 1, 1) := by decide +kernel
theorem dX1_advance_30 : decode cX1_advance 30 = .ok (.iload 7, 2) := by decide +kernel
theorem dX1_advance_32 : decode cX1_advance 32 = .ok (.invokevirtual 59, 3) := by decide +kernel
theorem dX1_advance_35 : decode cX1_advance 35 = .ok (.istore 8, 2) := by decide +kernel
theorem dX1_advance_37 : decode cX1_advance 37 = .ok (.aload_n 1, 1) := by decide +kernel
theorem dX1_advance_38 : decode cX1_advance 38 = .ok (.iload 7, 2) := by decide +kernel
theorem dX1_advance_40 : decode cX1_advance 40 = .ok (.invokevirtual 63, 3) := by decide +kernel
theorem dX1_advance_43 : decode cX1_advance 43 = .ok (.istore 9, 2) := by decide +kernel
theorem dX1_advance_45 : decode cX1_advance 45 = .ok (.aload_n 0, 1) := by decide +kernel
theorem dX1_advance_46 : decode cX1_advance 46 = .ok (.aload_n 1, 1) := by decide +kernel
theorem dX1_advance_47 : decode cX1_advance 47 = .ok (.iload 8, 2) := by decide +kernel
theorem dX1_advance_49 : decode cX1_advance 49 = .ok (.iload 9, 2) := by decide +kernel
theorem dX1_advance_51 : decode cX1_advance 51 = .ok (.aload_n 3, 1) := by decide +kernel
theorem dX1_advance_52 : decode cX1_advance 52 = .ok (.iload 4, 2) := by decide +kernel
theorem dX1_advance_54 : decode cX1_advance 54 = .ok (.invokevirtual 66, 3) := by decide +kernel
theorem dX1_advance_57 : decode cX1_advance 57 = .ok (.istore 10, 2) := by decide +kernel
theorem dX1_advance_59 : decode cX1_advance 59 = .ok (.aload_n 0, 1) := by decide +kernel
theorem dX1_advance_60 : decode cX1_advance 60 = .ok (.aload_n 1, 1) := by decide +kernel
theorem dX1_advance_61 : decode cX1_advance 61 = .ok (.iload 8, 2) := by decide +kernel
theorem dX1_advance_63 : decode cX1_advance 63 = .ok (.iconst 1, 1) := by decide +kernel
theorem dX1_advance_64 : decode cX1_advance 64 = .ok (.iadd, 1) := by decide +kernel
theorem dX1_advance_65 : decode cX1_advance 65 = .ok (.iload 9, 2) := by decide +kernel
theorem dX1_advance_67 : decode cX1_advance 67 = .ok (.aload_n 3, 1) := by decide +kernel
theorem dX1_advance_68 : decode cX1_advance 68 = .ok (.iload 4, 2) := by decide +kernel
theorem dX1_advance_70 : decode cX1_advance 70 = .ok (.invokevirtual 66, 3) := by decide +kernel
theorem dX1_advance_73 : decode cX1_advance 73 = .ok (.istore 11, 2) := by decide +kernel
theorem dX1_advance_75 : decode cX1_advance 75 = .ok (.iload 11, 2) := by decide +kernel
theorem dX1_advance_77 : decode cX1_advance 77 = .ok (.iconst (-1), 1) := by decide +kernel
theorem dX1_advance_78 : decode cX1_advance 78 = .ok (.if_icmp .eq 20, 3) := by decide +kernel
theorem dX1_advance_81 : decode cX1_advance 81 = .ok (.iload 10, 2) := by decide +kernel
theorem dX1_advance_83 : decode cX1_advance 83 = .ok (.iconst (-1), 1) := by decide +kernel
theorem dX1_advance_84 : decode cX1_advance 84 = .ok (.if_icmp .eq 10, 3) := by decide +kernel
theorem dX1_advance_87 : decode cX1_advance 87 = .ok (.iload 11, 2) := by decide +kernel
theorem dX1_advance_89 : decode cX1_advance 89 = .ok (.iload 10, 2) := by decide +kernel
theorem dX1_advance_91 : decode cX1_advance 91 = .ok (.if_icmp .ge 7, 3) := by decide +kernel
theorem dX1_advance_94 : decode cX1_advance 94 = .ok (.iconst 1, 1) := by decide +kernel
theorem dX1_advance_95 : decode cX1_advance 95 = .ok (.goto 4, 3) := by decide +kernel
theorem dX1_advance_98 : decode cX1_advance 98 = .ok (.iconst 0, 1) := by decide +kernel
theorem dX1_advance_99 : decode cX1_advance 99 = .ok (.istore 12, 2) := by decide +kernel
theorem dX1_advance_101 : decode cX1_advance 101 = .ok (.aload_n 0, 1) := by decide +kernel
theorem dX1_advance_102 : decode cX1_advance 102 = .ok (.getfield 18, 3) := by decide +kernel
theorem dX1_advance_105 : decode cX1_advance 105 = .ok (.iload 7, 2) := by decide +kernel
theorem dX1_advance_107 : decode cX1_advance 107 = .ok (.iload 12, 2) := by decide +kernel
theorem dX1_advance_109 : decode cX1_advance 109 = .ok (.ifCond .eq 8, 3) := by decide +kernel
theorem dX1_advance_112 : decode cX1_advance 112 = .ok (.iload 11, 2) := by decide +kernel
theorem dX1_advance_114 : decode cX1_advance 114 = .ok (.goto 5, 3) := by decide +kernel
theorem dX1_advance_117 : decode cX1_advance 117 = .ok (.iload 10, 2) := by decide +kernel
theorem dX1_advance_119 : decode cX1_advance 119 = .ok (.iastore, 1) := by decide +kernel
theorem dX1_advance_120 : decode cX1_advance 120 = .ok (.iload 12, 2) := by decide +kernel
theorem dX1_advance_122 : decode cX1_advance 122 = .ok (.ifCond .eq 12, 3) := by decide +kernel
theorem dX1_advance_125 : decode cX1_advance 125 = .ok (.iload 6, 2) := by decide +kernel
theorem dX1_advance_127 : decode cX1_advance 127 = .ok (.iconst 1, 1) := by decide +kernel
theorem dX1_advance_128 : decode cX1_advance 128 = .ok (.iload 7, 2) := by decide +kernel
theorem dX1_advance_130 : decode cX1_advance 130 = .ok (.ishl, 1) := by decide +kernel
theorem dX1_advance_131 : decode cX1_advance 131 = .ok (.ior, 1) := by decide +kernel
theorem dX1_advance_132 : decode cX1_advance 132 = .ok (.istore 6, 2) := by decide +kernel
theorem dX1_advance_134 : decode cX1_advance 134 = .ok (.iinc 7 1, 3) := by decide +kernel
theorem dX1_advance_137 : decode cX1_advance 137 = .ok (.goto (-115), 3) := by decide +kernel
theorem dX1_advance_140 : decode cX1_advance 140 = .ok (.aload_n 0, 1) := by decide +kernel
theorem dX1_advance_141 : decode cX1_advance 141 = .ok (.getfield 18, 3) := by decide +kernel
theorem dX1_advance_144 : decode cX1_advance 144 = .ok (.iconst 0, 1) := by decide +kernel
theorem dX1_advance_145 : decode cX1_advance 145 = .ok (.aload_n 0, 1) := by decide +kernel
theorem dX1_advance_146 : decode cX1_advance 146 = .ok (.getfield 15, 3) := by decide +kernel
theorem dX1_advance_149 : decode cX1_advance 149 = .ok (.iconst 0, 1) := by decide +kernel
theorem dX1_advance_150 : decode cX1_advance 150 = .ok (.iload 5, 2) := by decide +kernel
theorem dX1_advance_152 : decode cX1_advance 152 = .ok (.invokestatic 47, 3) := by decide +kernel
theorem dX1_advance_155 : decode cX1_advance 155 = .ok (.aload_n 0, 1) := by decide +kernel
theorem dX1_advance_156 : decode cX1_advance 156 = .ok (.getfield 21, 3) := by decide +kernel
theorem dX1_advance_159 : decode cX1_advance 159 = .ok (.aload_n 0, 1) := by decide +kernel
theorem dX1_advance_160 : decode cX1_advance 160 = .ok (.getfield 27, 3) := by decide +kernel
theorem dX1_advance_163 : decode cX1_advance 163 = .ok (.iload 6, 2) := by decide +kernel
theorem dX1_advance_165 : decode cX1_advance 165 = .ok (.iastore, 1) := by decide +kernel
theorem dX1_advance_166 : decode cX1_advance 166 = .ok (.aload_n 0, 1) := by decide +kernel
theorem dX1_advance_167 : decode cX1_advance 167 = .ok (.dup, 1) := by decide +kernel
theorem dX1_advance_168 : decode cX1_advance 168 = .ok (.getfield 27, 3) := by decide +kernel
theorem dX1_advance_171 : decode cX1_advance 171 = .ok (.iconst 1, 1) := by decide +kernel
theorem dX1_advance_172 : decode cX1_advance 172 = .ok (.iadd, 1) := by decide +kernel
theorem dX1_advance_173 : decode cX1_advance 173 = .ok (.putfield 27, 3) := by decide +kernel
theorem dX1_advance_176 : decode cX1_advance 176 = .ok (.aload_n 0, 1) := by decide +kernel
theorem dX1_advance_177 : decode cX1_advance 177 = .ok (.getfield 27, 3) := by decide +kernel
theorem dX1_advance_180 : decode cX1_advance 180 = .ok (.aload_n 0, 1) := by decide +kernel
theorem dX1_advance_181 : decode cX1_advance 181 = .ok (.getfield 34, 3) := by decide +kernel
theorem dX1_advance_184 : decode cX1_advance 184 = .ok (.isub, 1) := by decide +kernel
theorem dX1_advance_185 : decode cX1_advance 185 = .ok (.iload_n 2, 1) := by decide +kernel
theorem dX1_advance_186 : decode cX1_advance 186 = .ok (.if_icmp .lt 21, 3) := by decide +kernel
theorem dX1_advance_189 : decode cX1_advance 189 = .ok (.aload_n 0, 1) := by decide +kernel
theorem dX1_advance_190 : decode cX1_advance 190 = .ok (.aload_n 1, 1) := by decide +kernel
theorem dX1_advance_191 : decode cX1_advance 191 = .ok (.aload_n 0, 1) := by decide +kernel
theorem dX1_advance_192 : decode cX1_advance 192 = .ok (.aload_n 1, 1) := by decide +kernel
theorem dX1_advance_193 : decode cX1_advance 193 = .ok (.invokevirtual 70, 3) := by decide +kernel
theorem dX1_advance_196 : decode cX1_advance 196 = .ok (.aload_n 0, 1) := by decide +kernel
theorem dX1_advance_197 : decode cX1_advance 197 = .ok (.getfield 27, 3) := by decide +kernel
theorem dX1_advance_200 : decode cX1_advance 200 = .ok (.iload_n 2, 1) := by decide +kernel
theorem dX1_advance_201 : decode cX1_advance 201 = .ok (.isub, 1) := by decide +kernel
theorem dX1_advance_202 : decode cX1_advance 202 = .ok (.iconst 1, 1) := by decide +kernel
theorem dX1_advance_203 : decode cX1_advance 203 = .ok (.iadd, 1) := by decide +kernel
theorem dX1_advance_204 : decode cX1_advance 204 = .ok (.invokevirtual 74, 3) := by decide +kernel
theorem dX1_advance_207 : decode cX1_advance 207 = .ok (.return_, 1) := by decide +kernel
set_option maxRecDepth 20000 in
theorem ggX1_metricOver_X0_priceOf : GoodIn wsX1_metricOver wsX0_priceOf := goodIn_r _ [6, 7, 8, 9, 10, 5, 11, 12, 13, 14, 15, 16, 17, 18, 19, 20, 21, 22, 23, 24, 33, 34, 35] (by decide +kernel) (by decide +kernel)
set_option maxRecDepth 20000 in
theorem gX1_metricOver_X0_priceOf : GoodIn wsX1_metricOver (wsV RX1 78 RX0 yX0_priceOf wsX0_priceOf) := goodIn_app (goodIn_of _ (by decide +kernel)) ggX1_metricOver_X0_priceOf
theorem dX1_metricOver_0 : decode cX1_metricOver 0 = .ok (.aload_n 0, 1) := by decide +kernel
theorem dX1_metricOver_1 : decode cX1_metricOver 1 = .ok (.getfield 15, 3) := by decide +kernel
theorem dX1_metricOver_4 : decode cX1_metricOver 4 = .ok (.iload_n 2, 1) := by decide +kernel
theorem dX1_metricOver_5 : decode cX1_metricOver 5 = .ok (.iaload, 1) := by decide +kernel
theorem dX1_metricOver_6 : decode cX1_metricOver 6 = .ok (.iconst (-1), 1) := by decide +kernel
theorem dX1_metricOver_7 : decode cX1_metricOver 7 = .ok (.if_icmp .ne 5, 3) := by decide +kernel
theorem dX1_metricOver_10 : decode cX1_metricOver 10 = .ok (.iconst (-1), 1) := by decide +kernel
theorem dX1_metricOver_11 : decode cX1_metricOver 11 = .ok (.ireturn, 1) := by decide +kernel
theorem dX1_metricOver_12 : decode cX1_metricOver 12 = .ok (.aload_n 0, 1) := by decide +kernel
theorem dX1_metricOver_13 : decode cX1_metricOver 13 = .ok (.getfield 15, 3) := by decide +kernel
theorem dX1_metricOver_16 : decode cX1_metricOver 16 = .ok (.iload_n 2, 1) := by decide +kernel
theorem dX1_metricOver_17 : decode cX1_metricOver 17 = .ok (.iaload, 1) := by decide +kernel
theorem dX1_metricOver_18 : decode cX1_metricOver 18 = .ok (.aload_n 1, 1) := by decide +kernel
theorem dX1_metricOver_19 : decode cX1_metricOver 19 = .ok (.iload_n 2, 1) := by decide +kernel
theorem dX1_metricOver_20 : decode cX1_metricOver 20 = .ok (.iload_n 3, 1) := by decide +kernel
theorem dX1_metricOver_21 : decode cX1_metricOver 21 = .ok (.aload 4, 2) := by decide +kernel
theorem dX1_metricOver_23 : decode cX1_metricOver 23 = .ok (.iload 5, 2) := by decide +kernel
theorem dX1_metricOver_25 : decode cX1_metricOver 25 = .ok (.invokevirtual 78, 3) := by decide +kernel
theorem dX1_metricOver_28 : decode cX1_metricOver 28 = .ok (.iadd, 1) := by decide +kernel
theorem dX1_metricOver_29 : decode cX1_metricOver 29 = .ok (.ireturn, 1) := by decide +kernel
set_option maxRecDepth 20000 in
theorem ggX1_releaseUpTo_X0_bitInto : GoodIn wsX1_releaseUpTo wsX0_bitInto := goodIn_r _ [8, 9, 32, 33, 34] (by decide +kernel) (by decide +kernel)
set_option maxRecDepth 20000 in
theorem gX1_releaseUpTo_X0_bitInto : GoodIn wsX1_releaseUpTo (wsV RX1 63 RX0 yX0_bitInto wsX0_bitInto) := goodIn_app (goodIn_of _ (by decide +kernel)) ggX1_releaseUpTo_X0_bitInto
set_option maxRecDepth 20000 in
theorem ggX1_releaseUpTo_X1_stateBefore : GoodIn wsX1_releaseUpTo wsX1_stateBefore := goodIn_r _ [14, 15, 16, 17, 18, 7, 19, 20, 21, 22, 23, 9, 24, 25, 26, 27, 28, 29, 30, 31, 32, 33, 34] (by decide +kernel) (by decide +kernel)
set_option maxRecDepth 20000 in
theorem gX1_releaseUpTo_X1_stateBefore : GoodIn wsX1_releaseUpTo (wsV RX1 82 RX1 yX1_stateBefore wsX1_stateBefore) := goodIn_app (goodIn_of _ (by decide +kernel)) ggX1_releaseUpTo_X1_stateBefore
theorem dX1_releaseUpTo_0 : decode cX1_releaseUpTo 0 = .ok (.iload_n 2, 1) := by decide +kernel
theorem dX1_releaseUpTo_1 : decode cX1_releaseUpTo 1 = .ok (.istore 4, 2) := by decide +kernel
theorem dX1_releaseUpTo_3 : decode cX1_releaseUpTo 3 = .ok (.aload_n 0, 1) := by decide +kernel
theorem dX1_releaseUpTo_4 : decode cX1_releaseUpTo 4 = .ok (.getfield 27, 3) := by decide +kernel
theorem dX1_releaseUpTo_7 : decode cX1_releaseUpTo 7 = .ok (.iconst 1, 1) := by decide +kernel
theorem dX1_releaseUpTo_8 : decode cX1_releaseUpTo 8 = .ok (.isub, 1) := by decide +kernel
theorem dX1_releaseUpTo_9 : decode cX1_releaseUpTo 9 = .ok (.istore 5, 2) := by decide +kernel
theorem dX1_releaseUpTo_11 : decode cX1_releaseUpTo 11 = .ok (.iload 5, 2) := by decide +kernel
theorem dX1_releaseUpTo_13 : decode cX1_releaseUpTo 13 = .ok (.aload_n 0, 1) := by decide +kernel
theorem dX1_releaseUpTo_14 : decode cX1_releaseUpTo 14 = .ok (.getfield 34, 3) := by decide +kernel
theorem dX1_releaseUpTo_17 : decode cX1_releaseUpTo 17 = .ok (.if_icmp .lt 39, 3) := by decide +kernel
theorem dX1_releaseUpTo_20 : decode cX1_releaseUpTo 20 = .ok (.iload 5, 2) := by decide +kernel
theorem dX1_releaseUpTo_22 : decode cX1_releaseUpTo 22 = .ok (.iload_n 3, 1) := by decide +kernel
theorem dX1_releaseUpTo_23 : decode cX1_releaseUpTo 23 = .ok (.if_icmp .ge 16, 3) := by decide +kernel
theorem dX1_releaseUpTo_26 : decode cX1_releaseUpTo 26 = .ok (.aload_n 0, 1) := by decide +kernel
theorem dX1_releaseUpTo_27 : decode cX1_releaseUpTo 27 = .ok (.getfield 9, 3) := by decide +kernel
theorem dX1_releaseUpTo_30 : decode cX1_releaseUpTo 30 = .ok (.iload 5, 2) := by decide +kernel
theorem dX1_releaseUpTo_32 : decode cX1_releaseUpTo 32 = .ok (.aload_n 1, 1) := by decide +kernel
theorem dX1_releaseUpTo_33 : decode cX1_releaseUpTo 33 = .ok (.iload 4, 2) := by decide +kernel
theorem dX1_releaseUpTo_35 : decode cX1_releaseUpTo 35 = .ok (.invokevirtual 63, 3) := by decide +kernel
theorem dX1_releaseUpTo_38 : decode cX1_releaseUpTo 38 = .ok (.iastore, 1) := by decide +kernel
theorem dX1_releaseUpTo_39 : decode cX1_releaseUpTo 39 = .ok (.aload_n 0, 1) := by decide +kernel
theorem dX1_releaseUpTo_40 : decode cX1_releaseUpTo 40 = .ok (.aload_n 1, 1) := by decide +kernel
theorem dX1_releaseUpTo_41 : decode cX1_releaseUpTo 41 = .ok (.iload 4, 2) := by decide +kernel
theorem dX1_releaseUpTo_43 : decode cX1_releaseUpTo 43 = .ok (.iload 5, 2) := by decide +kernel
theorem dX1_releaseUpTo_45 : decode cX1_releaseUpTo 45 = .ok (.invokevirtual 82, 3) := by decide +kernel
theorem dX1_releaseUpTo_48 : decode cX1_releaseUpTo 48 = .ok (.istore 4, 2) := by decide +kernel
theorem dX1_releaseUpTo_50 : decode cX1_releaseUpTo 50 = .ok (.iinc 5 (-1), 3) := by decide +kernel
theorem dX1_releaseUpTo_53 : decode cX1_releaseUpTo 53 = .ok (.goto (-42), 3) := by decide +kernel
theorem dX1_releaseUpTo_56 : decode cX1_releaseUpTo 56 = .ok (.aload_n 0, 1) := by decide +kernel
theorem dX1_releaseUpTo_57 : decode cX1_releaseUpTo 57 = .ok (.iload_n 3, 1) := by decide +kernel
theorem dX1_releaseUpTo_58 : decode cX1_releaseUpTo 58 = .ok (.putfield 34, 3) := by decide +kernel
theorem dX1_releaseUpTo_61 : decode cX1_releaseUpTo 61 = .ok (.return_, 1) := by decide +kernel
set_option maxRecDepth 20000 in
theorem ggX1_stateBefore_X0_lowerBefore : GoodIn wsX1_stateBefore wsX0_lowerBefore := goodIn_r _ [6, 7, 8, 9, 5, 10, 11, 20, 21, 22] (by decide +kernel) (by decide +kernel)
set_option maxRecDepth 20000 in
theorem gX1_stateBefore_X0_lowerBefore : GoodIn wsX1_stateBefore (wsV RX1 59 RX0 yX0_lowerBefore wsX0_lowerBefore) := goodIn_app (goodIn_of _ (by decide +kernel)) ggX1_stateBefore_X0_lowerBefore
theorem dX1_stateBefore_0 : decode cX1_stateBefore 0 = .ok (.aload_n 1, 1) := by decide +kernel
theorem dX1_stateBefore_1 : decode cX1_stateBefore 1 = .ok (.iload_n 2, 1) := by decide +kernel
theorem dX1_stateBefore_2 : decode cX1_stateBefore 2 = .ok (.invokevirtual 59, 3) := by decide +kernel
theorem dX1_stateBefore_5 : decode cX1_stateBefore 5 = .ok (.aload_n 0, 1) := by decide +kernel
theorem dX1_stateBefore_6 : decode cX1_stateBefore 6 = .ok (.getfield 21, 3) := by decide +kernel
theorem dX1_stateBefore_9 : decode cX1_stateBefore 9 = .ok (.iload_n 3, 1) := by decide +kernel
theorem dX1_stateBefore_10 : decode cX1_stateBefore 10 = .ok (.iaload, 1) := by decide +kernel
theorem dX1_stateBefore_11 : decode cX1_stateBefore 11 = .ok (.iload_n 2, 1) := by decide +kernel
theorem dX1_stateBefore_12 : decode cX1_stateBefore 12 = .ok (.ishr, 1) := by decide +kernel
theorem dX1_stateBefore_13 : decode cX1_stateBefore 13 = .ok (.iconst 1, 1) := by decide +kernel
theorem dX1_stateBefore_14 : decode cX1_stateBefore 14 = .ok (.iand, 1) := by decide +kernel
theorem dX1_stateBefore_15 : decode cX1_stateBefore 15 = .ok (.iadd, 1) := by decide +kernel
theorem dX1_stateBefore_16 : decode cX1_stateBefore 16 = .ok (.ireturn, 1) := by decide +kernel
set_option maxRecDepth 20000 in
theorem ggX1_survivorBit_X1_stateBefore : GoodIn wsX1_survivorBit wsX1_stateBefore := goodIn_r _ [6, 7, 8, 9, 10, 11, 12, 13, 14, 15, 16, 17, 22, 23, 24, 25, 26, 27, 28, 29, 30, 31, 32] (by decide +kernel) (by decide +kernel)
set_option maxRecDepth 20000 in
theorem gX1_survivorBit_X1_stateBefore : GoodIn wsX1_survivorBit (wsV RX1 82 RX1 yX1_stateBefore wsX1_stateBefore) := goodIn_app (goodIn_of _ (by decide +kernel)) ggX1_survivorBit_X1_stateBefore
set_option maxRecDepth 20000 in
theorem ggX1_survivorBit_X0_bitInto : GoodIn wsX1_survivorBit wsX0_bitInto := goodIn_r _ [21, 17, 30, 31, 32] (by decide +kernel) (by decide +kernel)
set_option maxRecDepth 20000 in
theorem gX1_survivorBit_X0_bitInto : GoodIn wsX1_survivorBit (wsV RX1 63 RX0 yX0_bitInto wsX0_bitInto) := goodIn_app (goodIn_of _ (by decide +kernel)) ggX1_survivorBit_X0_bitInto
theorem dX1_survivorBit_0 : decode cX1_survivorBit 0 = .ok (.iload_n 2, 1) := by decide +kernel
theorem dX1_survivorBit_1 : decode cX1_survivorBit 1 = .ok (.istore 4, 2) := by decide +kernel
theorem dX1_survivorBit_3 : decode cX1_survivorBit 3 = .ok (.iconst 0, 1) := by decide +kernel
theorem dX1_survivorBit_4 : decode cX1_survivorBit 4 = .ok (.istore 5, 2) := by decide +kernel
theorem dX1_survivorBit_6 : decode cX1_survivorBit 6 = .ok (.iload 5, 2) := by decide +kernel
theorem dX1_survivorBit_8 : decode cX1_survivorBit 8 = .ok (.iload_n 3, 1) := by decide +kernel
theorem dX1_survivorBit_9 : decode cX1_survivorBit 9 = .ok (.if_icmp .ge 27, 3) := by decide +kernel
theorem dX1_survivorBit_12 : decode cX1_survivorBit 12 = .ok (.aload_n 0, 1) := by decide +kernel
theorem dX1_survivorBit_13 : decode cX1_survivorBit 13 = .ok (.aload_n 1, 1) := by decide +kernel
theorem dX1_survivorBit_14 : decode cX1_survivorBit 14 = .ok (.iload 4, 2) := by decide +kernel
theorem dX1_survivorBit_16 : decode cX1_survivorBit 16 = .ok (.aload_n 0, 1) := by decide +kernel
theorem dX1_survivorBit_17 : decode cX1_survivorBit 17 = .ok (.getfield 27, 3) := by decide +kernel
theorem dX1_survivorBit_20 : decode cX1_survivorBit 20 = .ok (.iconst 1, 1) := by decide +kernel
theorem dX1_survivorBit_21 : decode cX1_survivorBit 21 = .ok (.isub, 1) := by decide +kernel
theorem dX1_survivorBit_22 : decode cX1_survivorBit 22 = .ok (.iload 5, 2) := by decide +kernel
theorem dX1_survivorBit_24 : decode cX1_survivorBit 24 = .ok (.isub, 1) := by decide +kernel
theorem dX1_survivorBit_25 : decode cX1_survivorBit 25 = .ok (.invokevirtual 82, 3) := by decide +kernel
theorem dX1_survivorBit_28 : decode cX1_survivorBit 28 = .ok (.istore 4, 2) := by decide +kernel
theorem dX1_survivorBit_30 : decode cX1_survivorBit 30 = .ok (.iinc 5 1, 3) := by decide +kernel
theorem dX1_survivorBit_33 : decode cX1_survivorBit 33 = .ok (.goto (-27), 3) := by decide +kernel
theorem dX1_survivorBit_36 : decode cX1_survivorBit 36 = .ok (.aload_n 1, 1) := by decide +kernel
theorem dX1_survivorBit_37 : decode cX1_survivorBit 37 = .ok (.iload 4, 2) := by decide +kernel
theorem dX1_survivorBit_39 : decode cX1_survivorBit 39 = .ok (.invokevirtual 63, 3) := by decide +kernel
theorem dX1_survivorBit_42 : decode cX1_survivorBit 42 = .ok (.ireturn, 1) := by decide +kernel
set_option maxRecDepth 20000 in
theorem ggX1_commonBits_X0_states : GoodIn wsX1_commonBits wsX0_states := goodIn_r _ [6, 7, 36, 37, 38] (by decide +kernel) (by decide +kernel)
set_option maxRecDepth 20000 in
theorem gX1_commonBits_X0_states : GoodIn wsX1_commonBits (wsV RX1 53 RX0 yX0_states wsX0_states) := goodIn_app (goodIn_of _ (by decide +kernel)) ggX1_commonBits_X0_states
set_option maxRecDepth 20000 in
theorem ggX1_commonBits_X1_reached : GoodIn wsX1_commonBits wsX1_reached := goodIn_r _ [12, 13, 2, 3, 4, 5, 6, 7, 28, 29, 30, 31, 32, 33, 34, 35, 36, 37, 38] (by decide +kernel) (by decide +kernel)
set_option maxRecDepth 20000 in
theorem gX1_commonBits_X1_reached : GoodIn wsX1_commonBits (wsV RX1 86 RX1 yX1_reached wsX1_reached) := goodIn_app (goodIn_of _ (by decide +kernel)) ggX1_commonBits_X1_reached
set_option maxRecDepth 20000 in
theorem ggX1_commonBits_X0_bitInto : GoodIn wsX1_commonBits wsX0_bitInto := goodIn_r _ [17, 7, 36, 37, 38] (by decide +kernel) (by decide +kernel)
set_option maxRecDepth 20000 in
theorem gX1_commonBits_X0_bitInto : GoodIn wsX1_commonBits (wsV RX1 63 RX0 yX0_bitInto wsX0_bitInto) := goodIn_app (goodIn_of _ (by decide +kernel)) ggX1_commonBits_X0_bitInto
set_option maxRecDepth 20000 in
theorem ggX1_commonBits_X1_stateBefore : GoodIn wsX1_commonBits wsX1_stateBefore := goodIn_r _ [21, 22, 23, 24, 25, 5, 26, 27, 3, 4, 6, 7, 28, 29, 30, 31, 32, 33, 34, 35, 36, 37, 38] (by decide +kernel) (by decide +kernel)
set_option maxRecDepth 20000 in
theorem gX1_commonBits_X1_stateBefore : GoodIn wsX1_commonBits (wsV RX1 82 RX1 yX1_stateBefore wsX1_stateBefore) := goodIn_app (goodIn_of _ (by decide +kernel)) ggX1_commonBits_X1_stateBefore
theorem dX1_commonBits_0 : decode cX1_commonBits 0 = .ok (.aload_n 1, 1) := by decide +kernel
theorem dX1_commonBits_1 : decode cX1_commonBits 1 = .ok (.invokevirtual 53, 3) := by decide +kernel
theorem dX1_commonBits_4 : decode cX1_commonBits 4 = .ok (.istore_n 2, 1) := by decide +kernel
theorem dX1_commonBits_5 : decode cX1_commonBits 5 = .ok (.aload_n 0, 1) := by decide +kernel
theorem dX1_commonBits_6 : decode cX1_commonBits 6 = .ok (.getfield 27, 3) := by decide +kernel
theorem dX1_commonBits_9 : decode cX1_commonBits 9 = .ok (.istore_n 3, 1) := by decide +kernel
theorem dX1_commonBits_10 : decode cX1_commonBits 10 = .ok (.aload_n 0, 1) := by decide +kernel
theorem dX1_commonBits_11 : decode cX1_commonBits 11 = .ok (.aload_n 1, 1) := by decide +kernel
theorem dX1_commonBits_12 : decode cX1_commonBits 12 = .ok (.invokevirtual 86, 3) := by decide +kernel
theorem dX1_commonBits_15 : decode cX1_commonBits 15 = .ok (.lstore 4, 2) := by decide +kernel
theorem dX1_commonBits_17 : decode cX1_commonBits 17 = .ok (.aload_n 0, 1) := by decide +kernel
theorem dX1_commonBits_18 : decode cX1_commonBits 18 = .ok (.getfield 27, 3) := by decide +kernel
theorem dX1_commonBits_21 : decode cX1_commonBits 21 = .ok (.iconst 1, 1) := by decide +kernel
theorem dX1_commonBits_22 : decode cX1_commonBits 22 = .ok (.isub, 1) := by decide +kernel
theorem dX1_commonBits_23 : decode cX1_commonBits 23 = .ok (.istore 6, 2) := by decide +kernel
theorem dX1_commonBits_25 : decode cX1_commonBits 25 = .ok (.iload 6, 2) := by decide +kernel
theorem dX1_commonBits_27 : decode cX1_commonBits 27 = .ok (.ifCond .lt 84, 3) := by decide +kernel
theorem dX1_commonBits_30 : decode cX1_commonBits 30 = .ok (.lconst 0, 1) := by decide +kernel
theorem dX1_commonBits_31 : decode cX1_commonBits 31 = .ok (.lstore 7, 2) := by decide +kernel
theorem dX1_commonBits_33 : decode cX1_commonBits 33 = .ok (.iconst 0, 1) := by decide +kernel
theorem dX1_commonBits_34 : decode cX1_commonBits 34 = .ok (.istore 9, 2) := by decide +kernel
theorem dX1_commonBits_36 : decode cX1_commonBits 36 = .ok (.iconst 0, 1) := by decide +kernel
theorem dX1_commonBits_37 : decode cX1_commonBits 37 = .ok (.istore 10, 2) := by decide +kernel
theorem dX1_commonBits_39 : decode cX1_commonBits 39 = .ok (.iload 10, 2) := by decide +kernel
theorem dX1_commonBits_41 : decode cX1_commonBits 41 = .ok (.iload_n 2, 1) := by decide +kernel
theorem dX1_commonBits_42 : decode cX1_commonBits 42 = .ok (.if_icmp .ge 50, 3) := by decide +kernel
theorem dX1_commonBits_45 : decode cX1_commonBits 45 = .ok (.lload 4, 2) := by decide +kernel
theorem dX1_commonBits_47 : decode cX1_commonBits 47 = .ok (.iload 10, 2) := by decide +kernel
theorem dX1_commonBits_49 : decode cX1_commonBits 49 = .ok (.lshr, 1) := by decide +kernel
theorem dX1_commonBits_50 : decode cX1_commonBits 50 = .ok (.lconst 1, 1) := by decide +kernel
theorem dX1_commonBits_51 : decode cX1_commonBits 51 = .ok (.land, 1) := by decide +kernel
theorem dX1_commonBits_52 : decode cX1_commonBits 52 = .ok (.lconst 1, 1) := by decide +kernel
theorem dX1_commonBits_53 : decode cX1_commonBits 53 = .ok (.lcmp, 1) := by decide +kernel
theorem dX1_commonBits_54 : decode cX1_commonBits 54 = .ok (.ifCond .ne 32, 3) := by decide +kernel
theorem dX1_commonBits_57 : decode cX1_commonBits 57 = .ok (.iload 9, 2) := by decide +kernel
theorem dX1_commonBits_59 : decode cX1_commonBits 59 = .ok (.iconst 1, 1) := by decide +kernel
theorem dX1_commonBits_60 : decode cX1_commonBits 60 = .ok (.aload_n 1, 1) := by decide +kernel
theorem dX1_commonBits_61 : decode cX1_commonBits 61 = .ok (.iload 10, 2) := by decide +kernel
theorem dX1_commonBits_63 : decode cX1_commonBits 63 = .ok (.invokevirtual 63, 3) := by decide +kernel
theorem dX1_commonBits_66 : decode cX1_commonBits 66 = .ok (.ishl, 1) := by decide +kernel
theorem dX1_commonBits_67 : decode cX1_commonBits 67 = .ok (.ior, 1) := by decide +kernel
theorem dX1_commonBits_68 : decode cX1_commonBits 68 = .ok (.istore 9, 2) := by decide +kernel
theorem dX1_commonBits_70 : decode cX1_commonBits 70 = .ok (.lload 7, 2) := by decide +kernel
theorem dX1_commonBits_72 : decode cX1_commonBits 72 = .ok (.lconst 1, 1) := by decide +kernel
theorem dX1_commonBits_73 : decode cX1_commonBits 73 = .ok (.aload_n 0, 1) := by decide +kernel
theorem dX1_commonBits_74 : decode cX1_commonBits 74 = .ok (.aload_n 1, 1) := by decide +kernel
theorem dX1_commonBits_75 : decode cX1_commonBits 75 = .ok (.iload 10, 2) := by decide +kernel
theorem dX1_commonBits_77 : decode cX1_commonBits 77 = .ok (.iload 6, 2) := by decide +kernel
theorem dX1_commonBits_79 : decode cX1_commonBits 79 = .ok (.invokevirtual 82, 3) := by decide +kernel
theorem dX1_commonBits_82 : decode cX1_commonBits 82 = .ok (.lshl, 1) := by decide +kernel
theorem dX1_commonBits_83 : decode cX1_commonBits 83 = .ok (.lor, 1) := by decide +kernel
theorem dX1_commonBits_84 : decode cX1_commonBits 84 = .ok (.lstore 7, 2) := by decide +kernel
theorem dX1_commonBits_86 : decode cX1_commonBits 86 = .ok (.iinc 10 1, 3) := by decide +kernel
theorem dX1_commonBits_89 : decode cX1_commonBits 89 = .ok (.goto (-50), 3) := by decide +kernel
theorem dX1_commonBits_92 : decode cX1_commonBits 92 = .ok (.iload 9, 2) := by decide +kernel
theorem dX1_commonBits_94 : decode cX1_commonBits 94 = .ok (.iconst 3, 1) := by decide +kernel
theorem dX1_commonBits_95 : decode cX1_commonBits 95 = .ok (.if_icmp .ne 6, 3) := by decide +kernel
theorem dX1_commonBits_98 : decode cX1_commonBits 98 = .ok (.iload 6, 2) := by decide +kernel
theorem dX1_commonBits_100 : decode cX1_commonBits 100 = .ok (.istore_n 3, 1) := by decide +kernel
theorem dX1_commonBits_101 : decode cX1_commonBits 101 = .ok (.lload 7, 2) := by decide +kernel
theorem dX1_commonBits_103 : decode cX1_commonBits 103 = .ok (.lstore 4, 2) := by decide +kernel
theorem dX1_commonBits_105 : decode cX1_commonBits 105 = .ok (.iinc 6 (-1), 3) := by decide +kernel
theorem dX1_commonBits_108 : decode cX1_commonBits 108 = .ok (.goto (-83), 3) := by decide +kernel
theorem dX1_commonBits_111 : decode cX1_commonBits 111 = .ok (.iload_n 3, 1) := by decide +kernel
theorem dX1_commonBits_112 : decode cX1_commonBits 112 = .ok (.ireturn, 1) := by decide +kernel
set_option maxRecDepth 20000 in
theorem ggX1_reached_X0_states : GoodIn wsX1_reached wsX0_states := goodIn_r _ [6, 7, 16, 17, 18] (by decide +kernel) (by decide +kernel)
set_option maxRecDepth 20000 in
theorem gX1_reached_X0_states : GoodIn wsX1_reached (wsV RX1 53 RX0 yX0_states wsX0_states) := goodIn_app (goodIn_of _ (by decide +kernel)) ggX1_reached_X0_states
theorem dX1_reached_0 : decode cX1_reached 0 = .ok (.aload_n 1, 1) := by decide +kernel
theorem dX1_reached_1 : decode cX1_reached 1 = .ok (.invokevirtual 53, 3) := by decide +kernel
theorem dX1_reached_4 : decode cX1_reached 4 = .ok (.istore_n 2, 1) := by decide +kernel
theorem dX1_reached_5 : decode cX1_reached 5 = .ok (.lconst 0, 1) := by decide +kernel
theorem dX1_reached_6 : decode cX1_reached 6 = .ok (.lstore_n 3, 1) := by decide +kernel
theorem dX1_reached_7 : decode cX1_reached 7 = .ok (.iconst 0, 1) := by decide +kernel
theorem dX1_reached_8 : decode cX1_reached 8 = .ok (.istore 5, 2) := by decide +kernel
theorem dX1_reached_10 : decode cX1_reached 10 = .ok (.iload 5, 2) := by decide +kernel
theorem dX1_reached_12 : decode cX1_reached 12 = .ok (.iload_n 2, 1) := by decide +kernel
theorem dX1_reached_13 : decode cX1_reached 13 = .ok (.if_icmp .ge 27, 3) := by decide +kernel
theorem dX1_reached_16 : decode cX1_reached 16 = .ok (.aload_n 0, 1) := by decide +kernel
theorem dX1_reached_17 : decode cX1_reached 17 = .ok (.getfield 15, 3) := by decide +kernel
theorem dX1_reached_20 : decode cX1_reached 20 = .ok (.iload 5, 2) := by decide +kernel
theorem dX1_reached_22 : decode cX1_reached 22 = .ok (.iaload, 1) := by decide +kernel
theorem dX1_reached_23 : decode cX1_reached 23 = .ok (.iconst (-1), 1) := by decide +kernel
theorem dX1_reached_24 : decode cX1_reached 24 = .ok (.if_icmp .eq 10, 3) := by decide +kernel
theorem dX1_reached_27 : decode cX1_reached 27 = .ok (.lload_n 3, 1) := by decide +kernel
theorem dX1_reached_28 : decode cX1_reached 28 = .ok (.lconst 1, 1) := by decide +kernel
theorem dX1_reached_29 : decode cX1_reached 29 = .ok (.iload 5, 2) := by decide +kernel
theorem dX1_reached_31 : decode cX1_reached 31 = .ok (.lshl, 1) := by decide +kernel
theorem dX1_reached_32 : decode cX1_reached 32 = .ok (.lor, 1) := by decide +kernel
theorem dX1_reached_33 : decode cX1_reached 33 = .ok (.lstore_n 3, 1) := by decide +kernel
theorem dX1_reached_34 : decode cX1_reached 34 = .ok (.iinc 5 1, 3) := by decide +kernel
theorem dX1_reached_37 : decode cX1_reached 37 = .ok (.goto (-27), 3) := by decide +kernel
theorem dX1_reached_40 : decode cX1_reached 40 = .ok (.lload_n 3, 1) := by decide +kernel
theorem dX1_reached_41 : decode cX1_reached 41 = .ok (.lreturn, 1) := by decide +kernel
set_option maxRecDepth 20000 in
theorem ggX1_reachedStates_X1_reached : GoodIn wsX1_reachedStates wsX1_reached := goodIn_r _ [5, 6, 7, 8, 9, 10, 11, 12, 20, 21, 22, 23, 24, 25, 26, 27, 28, 29, 30] (by decide +kernel) (by decide +kernel)
set_option maxRecDepth 20000 in
theorem gX1_reachedStates_X1_reached : GoodIn wsX1_reachedStates (wsV RX1 86 RX1 yX1_reached wsX1_reached) := goodIn_app (goodIn_of _ (by decide +kernel)) ggX1_reachedStates_X1_reached
set_option maxRecDepth 20000 in
theorem ggX1_reachedStates_J13_bitCount_95d88 : GoodIn wsX1_reachedStates wsJ13_bitCount_95d88 := goodIn_r _ [16, 17, 18, 19] (by decide +kernel) (by decide +kernel)
set_option maxRecDepth 20000 in
theorem gX1_reachedStates_J13_bitCount_95d88 : GoodIn wsX1_reachedStates (va_wsS RX1 90 yJ13_bitCount_95d88 wsJ13_bitCount_95d88) := goodIn_app (goodIn_of _ (by decide +kernel)) ggX1_reachedStates_J13_bitCount_95d88
theorem dX1_reachedStates_0 : decode cX1_reachedStates 0 = .ok (.aload_n 0, 1) := by decide +kernel
theorem dX1_reachedStates_1 : decode cX1_reachedStates 1 = .ok (.aload_n 1, 1) := by decide +kernel
theorem dX1_reachedStates_2 : decode cX1_reachedStates 2 = .ok (.invokevirtual 86, 3) := by decide +kernel
theorem dX1_reachedStates_5 : decode cX1_reachedStates 5 = .ok (.invokestatic 90, 3) := by decide +kernel
theorem dX1_reachedStates_8 : decode cX1_reachedStates 8 = .ok (.ireturn, 1) := by decide +kernel
set_option maxRecDepth 20000 in
theorem ggX1_bestState_X0_states : GoodIn wsX1_bestState wsX0_states := goodIn_r _ [6, 7, 16, 17, 18] (by decide +kernel) (by decide +kernel)
set_option maxRecDepth 20000 in
theorem gX1_bestState_X0_states : GoodIn wsX1_bestState (wsV RX1 53 RX0 yX0_states wsX0_states) := goodIn_app (goodIn_of _ (by decide +kernel)) ggX1_bestState_X0_states
theorem dX1_bestState_0 : decode cX1_bestState 0 = .ok (.aload_n 1, 1) := by decide +kernel
theorem dX1_bestState_1 : decode cX1_bestState 1 = .ok (.invokevirtual 53, 3) := by decide +kernel
theorem dX1_bestState_4 : decode cX1_bestState 4 = .ok (.istore_n 2, 1) := by decide +kernel
theorem dX1_bestState_5 : decode cX1_bestState 5 = .ok (.iconst 0, 1) := by decide +kernel
theorem dX1_bestState_6 : decode cX1_bestState 6 = .ok (.istore_n 3, 1) := by decide +kernel
theorem dX1_bestState_7 : decode cX1_bestState 7 = .ok (.iconst 1, 1) := by decide +kernel
theorem dX1_bestState_8 : decode cX1_bestState 8 = .ok (.istore 4, 2) := by decide +kernel
theorem dX1_bestState_10 : decode cX1_bestState 10 = .ok (.iload 4, 2) := by decide +kernel
theorem dX1_bestState_12 : decode cX1_bestState 12 = .ok (.iload_n 2, 1) := by decide +kernel
theorem dX1_bestState_13 : decode cX1_bestState 13 = .ok (.if_icmp .ge 61, 3) := by decide +kernel
theorem dX1_bestState_16 : decode cX1_bestState 16 = .ok (.aload_n 0, 1) := by decide +kernel
theorem dX1_bestState_17 : decode cX1_bestState 17 = .ok (.getfield 15, 3) := by decide +kernel
theorem dX1_bestState_20 : decode cX1_bestState 20 = .ok (.iload_n 3, 1) := by decide +kernel
theorem dX1_bestState_21 : decode cX1_bestState 21 = .ok (.iaload, 1) := by decide +kernel
theorem dX1_bestState_22 : decode cX1_bestState 22 = .ok (.iconst (-1), 1) := by decide +kernel
theorem dX1_bestState_23 : decode cX1_bestState 23 = .ok (.if_icmp .eq 19, 3) := by decide +kernel
theorem dX1_bestState_26 : decode cX1_bestState 26 = .ok (.aload_n 0, 1) := by decide +kernel
theorem dX1_bestState_27 : decode cX1_bestState 27 = .ok (.getfield 15, 3) := by decide +kernel
theorem dX1_bestState_30 : decode cX1_bestState 30 = .ok (.iload 4, 2) := by decide +kernel
theorem dX1_bestState_32 : decode cX1_bestState 32 = .ok (.iaload, 1) := by decide +kernel
theorem dX1_bestState_33 : decode cX1_bestState 33 = .ok (.aload_n 0, 1) := by decide +kernel
theorem dX1_bestState_34 : decode cX1_bestState 34 = .ok (.getfield 15, 3) := by decide +kernel
theorem dX1_bestState_37 : decode cX1_bestState 37 = .ok (.iload_n 3, 1) := by decide +kernel
theorem dX1_bestState_38 : decode cX1_bestState 38 = .ok (.iaload, 1) := by decide +kernel
theorem dX1_bestState_39 : decode cX1_bestState 39 = .ok (.if_icmp .ge 7, 3) := by decide +kernel
theorem dX1_bestState_42 : decode cX1_bestState 42 = .ok (.iconst 1, 1) := by decide +kernel
theorem dX1_bestState_43 : decode cX1_bestState 43 = .ok (.goto 4, 3) := by decide +kernel
theorem dX1_bestState_46 : decode cX1_bestState 46 = .ok (.iconst 0, 1) := by decide +kernel
theorem dX1_bestState_47 : decode cX1_bestState 47 = .ok (.istore 5, 2) := by decide +kernel
theorem dX1_bestState_49 : decode cX1_bestState 49 = .ok (.aload_n 0, 1) := by decide +kernel
theorem dX1_bestState_50 : decode cX1_bestState 50 = .ok (.getfield 15, 3) := by decide +kernel
theorem dX1_bestState_53 : decode cX1_bestState 53 = .ok (.iload 4, 2) := by decide +kernel
theorem dX1_bestState_55 : decode cX1_bestState 55 = .ok (.iaload, 1) := by decide +kernel
theorem dX1_bestState_56 : decode cX1_bestState 56 = .ok (.iconst (-1), 1) := by decide +kernel
theorem dX1_bestState_57 : decode cX1_bestState 57 = .ok (.if_icmp .eq 11, 3) := by decide +kernel
theorem dX1_bestState_60 : decode cX1_bestState 60 = .ok (.iload 5, 2) := by decide +kernel
theorem dX1_bestState_62 : decode cX1_bestState 62 = .ok (.ifCond .eq 6, 3) := by decide +kernel
theorem dX1_bestState_65 : decode cX1_bestState 65 = .ok (.iload 4, 2) := by decide +kernel
theorem dX1_bestState_67 : decode cX1_bestState 67 = .ok (.istore_n 3, 1) := by decide +kernel
theorem dX1_bestState_68 : decode cX1_bestState 68 = .ok (.iinc 4 1, 3) := by decide +kernel
theorem dX1_bestState_71 : decode cX1_bestState 71 = .ok (.goto (-61), 3) := by decide +kernel
theorem dX1_bestState_74 : decode cX1_bestState 74 = .ok (.iload_n 3, 1) := by decide +kernel
theorem dX1_bestState_75 : decode cX1_bestState 75 = .ok (.ireturn, 1) := by decide +kernel
set_option maxRecDepth 20000 in
theorem ggX2_init_X2_clear : GoodIn wsX2_init wsX2_clear := goodIn_r _ [12, 13, 14, 15, 16, 17, 18, 19] (by decide +kernel) (by decide +kernel)
set_option maxRecDepth 20000 in
theorem gX2_init_X2_clear : GoodIn wsX2_init (wsV RX2 21 RX2 yX2_clear wsX2_clear) := goodIn_app (goodIn_of _ (by decide +kernel)) ggX2_init_X2_clear
theorem dX2_init_0 : decode cX2_init 0 = .ok (.aload_n 0, 1) := by decide +kernel
theorem dX2_init_1 : decode cX2_init 1 = .ok (.invokespecial 3, 3) := by decide +kernel
theorem dX2_init_4 : decode cX2_init 4 = .ok (.aload_n 0, 1) := by decide +kernel
theorem dX2_init_5 : decode cX2_init 5 = .ok (.bipush 80, 2) := by decide +kernel
theorem dX2_init_7 : decode cX2_init 7 = .ok (.newarray .int, 2) := by decide +kernel
theorem dX2_init_9 : decode cX2_init 9 = .ok (.putfield 9, 3) := by decide +kernel
theorem dX2_init_12 : decode cX2_init 12 = .ok (.aload_n 0, 1) := by decide +kernel
theorem dX2_init_13 : decode cX2_init 13 = .ok (.sipush 240, 3) := by decide +kernel
theorem dX2_init_16 : decode cX2_init 16 = .ok (.newarray .int, 2) := by decide +kernel
theorem dX2_init_18 : decode cX2_init 18 = .ok (.putfield 15, 3) := by decide +kernel
theorem dX2_init_21 : decode cX2_init 21 = .ok (.aload_n 0, 1) := by decide +kernel
theorem dX2_init_22 : decode cX2_init 22 = .ok (.sipush 240, 3) := by decide +kernel
theorem dX2_init_25 : decode cX2_init 25 = .ok (.newarray .int, 2) := by decide +kernel
theorem dX2_init_27 : decode cX2_init 27 = .ok (.putfield 18, 3) := by decide +kernel
theorem dX2_init_30 : decode cX2_init 30 = .ok (.aload_n 0, 1) := by decide +kernel
theorem dX2_init_31 : decode cX2_init 31 = .ok (.invokevirtual 21, 3) := by decide +kernel
theorem dX2_init_34 : decode cX2_init 34 = .ok (.return_, 1) := by decide +kernel
theorem dX2_clear_0 : decode cX2_clear 0 = .ok (.aload_n 0, 1) := by decide +kernel
theorem dX2_clear_1 : decode cX2_clear 1 = .ok (.iconst 0, 1) := by decide +kernel
theorem dX2_clear_2 : decode cX2_clear 2 = .ok (.putfield 24, 3) := by decide +kernel
theorem dX2_clear_5 : decode cX2_clear 5 = .ok (.aload_n 0, 1) := by decide +kernel
theorem dX2_clear_6 : decode cX2_clear 6 = .ok (.iconst 0, 1) := by decide +kernel
theorem dX2_clear_7 : decode cX2_clear 7 = .ok (.putfield 28, 3) := by decide +kernel
theorem dX2_clear_10 : decode cX2_clear 10 = .ok (.return_, 1) := by decide +kernel
theorem dX2_copyFrom_0 : decode cX2_copyFrom 0 = .ok (.aload_n 0, 1) := by decide +kernel
theorem dX2_copyFrom_1 : decode cX2_copyFrom 1 = .ok (.aload_n 1, 1) := by decide +kernel
theorem dX2_copyFrom_2 : decode cX2_copyFrom 2 = .ok (.getfield 24, 3) := by decide +kernel
theorem dX2_copyFrom_5 : decode cX2_copyFrom 5 = .ok (.putfield 24, 3) := by decide +kernel
theorem dX2_copyFrom_8 : decode cX2_copyFrom 8 = .ok (.aload_n 0, 1) := by decide +kernel
theorem dX2_copyFrom_9 : decode cX2_copyFrom 9 = .ok (.aload_n 1, 1) := by decide +kernel
theorem dX2_copyFrom_10 : decode cX2_copyFrom 10 = .ok (.getfield 28, 3) := by decide +kernel
theorem dX2_copyFrom_13 : decode cX2_copyFrom 13 = .ok (.putfield 28, 3) := by decide +kernel
theorem dX2_copyFrom_16 : decode cX2_copyFrom 16 = .ok (.aload_n 1, 1) := by decide +kernel
theorem dX2_copyFrom_17 : decode cX2_copyFrom 17 = .ok (.getfield 9, 3) := by decide +kernel
theorem dX2_copyFrom_20 : decode cX2_copyFrom 20 = .ok (.iconst 0, 1) := by decide +kernel
theorem dX2_copyFrom_21 : decode cX2_copyFrom 21 = .ok (.aload_n 0, 1) := by decide +kernel
theorem dX2_copyFrom_22 : decode cX2_copyFrom 22 = .ok (.getfield 9, 3) := by decide +kernel
theorem dX2_copyFrom_25 : decode cX2_copyFrom 25 = .ok (.iconst 0, 1) := by decide +kernel
theorem dX2_copyFrom_26 : decode cX2_copyFrom 26 = .ok (.bipush 80, 2) := by decide +kernel
theorem dX2_copyFrom_28 : decode cX2_copyFrom 28 = .ok (.invokestatic 31, 3) := by decide +kernel
theorem dX2_copyFrom_31 : decode cX2_copyFrom 31 = .ok (.aload_n 1, 1) := by decide +kernel
theorem dX2_copyFrom_32 : decode cX2_copyFrom 32 = .ok (.getfield 15, 3) := by decide +kernel
theorem dX2_copyFrom_35 : decode cX2_copyFrom 35 = .ok (.iconst 0, 1) := by decide +kernel
theorem dX2_copyFrom_36 : decode cX2_copyFrom 36 = .ok (.aload_n 0, 1) := by decide +kernel
theorem dX2_copyFrom_37 : decode cX2_copyFrom 37 = .ok (.getfield 15, 3) := by decide +kernel
theorem dX2_copyFrom_40 : decode cX2_copyFrom 40 = .ok (.iconst 0, 1) := by decide +kernel
theorem dX2_copyFrom_41 : decode cX2_copyFrom 41 = .ok (.sipush 240, 3) := by decide +kernel
theorem dX2_copyFrom_44 : decode cX2_copyFrom 44 = .ok (.invokestatic 31, 3) := by decide +kernel
theorem dX2_copyFrom_47 : decode cX2_copyFrom 47 = .ok (.aload_n 1, 1) := by decide +kernel
theorem dX2_copyFrom_48 : decode cX2_copyFrom 48 = .ok (.getfield 18, 3) := by decide +kernel
theorem dX2_copyFrom_51 : decode cX2_copyFrom 51 = .ok (.iconst 0, 1) := by decide +kernel
theorem dX2_copyFrom_52 : decode cX2_copyFrom 52 = .ok (.aload_n 0, 1) := by decide +kernel
theorem dX2_copyFrom_53 : decode cX2_copyFrom 53 = .ok (.getfield 18, 3) := by decide +kernel
theorem dX2_copyFrom_56 : decode cX2_copyFrom 56 = .ok (.iconst 0, 1) := by decide +kernel
theorem dX2_copyFrom_57 : decode cX2_copyFrom 57 = .ok (.sipush 240, 3) := by decide +kernel
theorem dX2_copyFrom_60 : decode cX2_copyFrom 60 = .ok (.invokestatic 31, 3) := by decide +kernel
theorem dX2_copyFrom_63 : decode cX2_copyFrom 63 = .ok (.return_, 1) := by decide +kernel
set_option maxRecDepth 20000 in
theorem ggX2_push_X0_windowOf : GoodIn wsX2_push wsX0_windowOf := goodIn_r _ [11, 12, 35, 36, 37] (by decide +kernel) (by decide +kernel)
set_option maxRecDepth 20000 in
theorem gX2_push_X0_windowOf : GoodIn wsX2_push (wsV RX2 37 RX0 yX0_windowOf wsX0_windowOf) := goodIn_app (goodIn_of _ (by decide +kernel)) ggX2_push_X0_windowOf
set_option maxRecDepth 20000 in
theorem ggX2_push_X0_symbolOf : GoodIn wsX2_push wsX0_symbolOf := goodIn_r _ [16, 17, 18, 19, 20, 21, 22, 23, 24, 35, 36, 37] (by decide +kernel) (by decide +kernel)
set_option maxRecDepth 20000 in
theorem gX2_push_X0_symbolOf : GoodIn wsX2_push (wsV RX2 46 RX0 yX0_symbolOf wsX0_symbolOf) := goodIn_app (goodIn_of _ (by decide +kernel)) ggX2_push_X0_symbolOf
set_option maxRecDepth 20000 in
theorem ggX2_push_X0_stateAfter : GoodIn wsX2_push wsX0_stateAfter := goodIn_r _ [28, 29, 8, 9, 10, 11, 12, 35, 36, 37] (by decide +kernel) (by decide +kernel)
set_option maxRecDepth 20000 in
theorem gX2_push_X0_stateAfter : GoodIn wsX2_push (wsV RX2 49 RX0 yX0_stateAfter wsX0_stateAfter) := goodIn_app (goodIn_of _ (by decide +kernel)) ggX2_push_X0_stateAfter
theorem dX2_push_0 : decode cX2_push 0 = .ok (.aload_n 0, 1) := by decide +kernel
theorem dX2_push_1 : decode cX2_push 1 = .ok (.getfield 28, 3) := by decide +kernel
theorem dX2_push_4 : decode cX2_push 4 = .ok (.bipush 80, 2) := by decide +kernel
theorem dX2_push_6 : decode cX2_push 6 = .ok (.if_icmp .lt 4, 3) := by decide +kernel
theorem dX2_push_9 : decode cX2_push 9 = .ok (.return_, 1) := by decide +kernel
theorem dX2_push_10 : decode cX2_push 10 = .ok (.aload_n 1, 1) := by decide +kernel
theorem dX2_push_11 : decode cX2_push 11 = .ok (.aload_n 0, 1) := by decide +kernel
theorem dX2_push_12 : decode cX2_push 12 = .ok (.getfield 24, 3) := by decide +kernel
theorem dX2_push_15 : decode cX2_push 15 = .ok (.iload_n 2, 1) := by decide +kernel
theorem dX2_push_16 : decode cX2_push 16 = .ok (.invokevirtual 37, 3) := by decide +kernel
theorem dX2_push_19 : decode cX2_push 19 = .ok (.istore_n 3, 1) := by decide +kernel
theorem dX2_push_20 : decode cX2_push 20 = .ok (.aload_n 0, 1) := by decide +kernel
theorem dX2_push_21 : decode cX2_push 21 = .ok (.getfield 28, 3) := by decide +kernel
theorem dX2_push_24 : decode cX2_push 24 = .ok (.aload_n 1, 1) := by decide +kernel
theorem dX2_push_25 : decode cX2_push 25 = .ok (.getfield 43, 3) := by decide +kernel
theorem dX2_push_28 : decode cX2_push 28 = .ok (.imul, 1) := by decide +kernel
theorem dX2_push_29 : decode cX2_push 29 = .ok (.istore 4, 2) := by decide +kernel
theorem dX2_push_31 : decode cX2_push 31 = .ok (.iconst 0, 1) := by decide +kernel
theorem dX2_push_32 : decode cX2_push 32 = .ok (.istore 5, 2) := by decide +kernel
theorem dX2_push_34 : decode cX2_push 34 = .ok (.iload 5, 2) := by decide +kernel
theorem dX2_push_36 : decode cX2_push 36 = .ok (.aload_n 1, 1) := by decide +kernel
theorem dX2_push_37 : decode cX2_push 37 = .ok (.getfield 43, 3) := by decide +kernel
theorem dX2_push_40 : decode cX2_push 40 = .ok (.if_icmp .ge 42, 3) := by decide +kernel
theorem dX2_push_43 : decode cX2_push 43 = .ok (.aload_n 1, 1) := by decide +kernel
theorem dX2_push_44 : decode cX2_push 44 = .ok (.iload 5, 2) := by decide +kernel
theorem dX2_push_46 : decode cX2_push 46 = .ok (.iload_n 3, 1) := by decide +kernel
theorem dX2_push_47 : decode cX2_push 47 = .ok (.invokevirtual 46, 3) := by decide +kernel
theorem dX2_push_50 : decode cX2_push 50 = .ok (.istore 6, 2) := by decide +kernel
theorem dX2_push_52 : decode cX2_push 52 = .ok (.aload_n 0, 1) := by decide +kernel
theorem dX2_push_53 : decode cX2_push 53 = .ok (.getfield 15, 3) := by decide +kernel
theorem dX2_push_56 : decode cX2_push 56 = .ok (.iload 4, 2) := by decide +kernel
theorem dX2_push_58 : decode cX2_push 58 = .ok (.iload 5, 2) := by decide +kernel
theorem dX2_push_60 : decode cX2_push 60 = .ok (.iadd, 1) := by decide +kernel
theorem dX2_push_61 : decode cX2_push 61 = .ok (.iload 6, 2) := by decide +kernel
theorem dX2_push_63 : decode cX2_push 63 = .ok (.iastore, 1) := by decide +kernel
theorem dX2_push_64 : decode cX2_push 64 = .ok (.aload_n 0, 1) := by decide +kernel
theorem dX2_push_65 : decode cX2_push 65 = .ok (.getfield 18, 3) := by decide +kernel
theorem dX2_push_68 : decode cX2_push 68 = .ok (.iload 4, 2) := by decide +kernel
theorem dX2_push_70 : decode cX2_push 70 = .ok (.iload 5, 2) := by decide +kernel
theorem dX2_push_72 : decode cX2_push 72 = .ok (.iadd, 1) := by decide +kernel
theorem dX2_push_73 : decode cX2_push 73 = .ok (.iload 6, 2) := by decide +kernel
theorem dX2_push_75 : decode cX2_push 75 = .ok (.iastore, 1) := by decide +kernel
theorem dX2_push_76 : decode cX2_push 76 = .ok (.iinc 5 1, 3) := by decide +kernel
theorem dX2_push_79 : decode cX2_push 79 = .ok (.goto (-45), 3) := by decide +kernel
theorem dX2_push_82 : decode cX2_push 82 = .ok (.aload_n 0, 1) := by decide +kernel
theorem dX2_push_83 : decode cX2_push 83 = .ok (.getfield 9, 3) := by decide +kernel
theorem dX2_push_86 : decode cX2_push 86 = .ok (.aload_n 0, 1) := by decide +kernel
theorem dX2_push_87 : decode cX2_push 87 = .ok (.getfield 28, 3) := by decide +kernel
theorem dX2_push_90 : decode cX2_push 90 = .ok (.iload_n 2, 1) := by decide +kernel
theorem dX2_push_91 : decode cX2_push 91 = .ok (.iastore, 1) := by decide +kernel
theorem dX2_push_92 : decode cX2_push 92 = .ok (.aload_n 0, 1) := by decide +kernel
theorem dX2_push_93 : decode cX2_push 93 = .ok (.dup, 1) := by decide +kernel
theorem dX2_push_94 : decode cX2_push 94 = .ok (.getfield 28, 3) := by decide +kernel
theorem dX2_push_97 : decode cX2_push 97 = .ok (.iconst 1, 1) := by decide +kernel
theorem dX2_push_98 : decode cX2_push 98 = .ok (.iadd, 1) := by decide +kernel
theorem dX2_push_99 : decode cX2_push 99 = .ok (.putfield 28, 3) := by decide +kernel
theorem dX2_push_102 : decode cX2_push 102 = .ok (.aload_n 0, 1) := by decide +kernel
theorem dX2_push_103 : decode cX2_push 103 = .ok (.aload_n 1, 1) := by decide +kernel
theorem dX2_push_104 : decode cX2_push 104 = .ok (.aload_n 0, 1) := by decide +kernel
theorem dX2_push_105 : decode cX2_push 105 = .ok (.getfield 24, 3) := by decide +kernel
theorem dX2_push_108 : decode cX2_push 108 = .ok (.iload_n 2, 1) := by decide +kernel
theorem dX2_push_109 : decode cX2_push 109 = .ok (.invokevirtual 49, 3) := by decide +kernel
theorem dX2_push_112 : decode cX2_push 112 = .ok (.putfield 24, 3) := by decide +kernel
theorem dX2_push_115 : decode cX2_push 115 = .ok (.return_, 1) := by decide +kernel
set_option maxRecDepth 20000 in
theorem ggX3_init_X0_init : GoodIn wsX3_init wsX0_init := goodIn_r _ [19, 20, 2, 3, 21, 22, 23, 24, 25, 7, 26, 27, 28, 66, 67, 68] (by decide +kernel) (by decide +kernel)
set_option maxRecDepth 20000 in
theorem gX3_init_X0_init : GoodIn wsX3_init (wsX0_init) := ggX3_init_X0_init
set_option maxRecDepth 20000 in
theorem ggX3_init_X2_init : GoodIn wsX3_init wsX2_init := goodIn_r _ [31, 32, 2, 3, 21, 33, 34, 35, 36, 37, 38, 11, 39, 40, 41, 69, 70, 71, 72, 73] (by decide +kernel) (by decide +kernel)
set_option maxRecDepth 20000 in
theorem gX3_init_X2_init : GoodIn wsX3_init (wsX2_init) := ggX3_init_X2_init
set_option maxRecDepth 20000 in
theorem ggX3_init_X1_init : GoodIn wsX3_init wsX1_init := goodIn_r _ [44, 45, 2, 3, 21, 46, 47, 48, 49, 50, 51, 52, 15, 53, 54, 55, 56, 57, 58, 59, 60, 61, 74, 75, 76, 77, 78, 79, 80, 81] (by decide +kernel) (by decide +kernel)
set_option maxRecDepth 20000 in
theorem gX3_init_X1_init : GoodIn wsX3_init (wsX1_init) := ggX3_init_X1_init
theorem dX3_init_0 : decode cX3_init 0 = .ok (.aload_n 0, 1) := by decide +kernel
theorem dX3_init_1 : decode cX3_init 1 = .ok (.invokespecial 1, 3) := by decide +kernel
theorem dX3_init_4 : decode cX3_init 4 = .ok (.aload_n 0, 1) := by decide +kernel
theorem dX3_init_5 : decode cX3_init 5 = .ok (.bipush 10, 2) := by decide +kernel
theorem dX3_init_7 : decode cX3_init 7 = .ok (.putfield 7, 3) := by decide +kernel
theorem dX3_init_10 : decode cX3_init 10 = .ok (.aload_n 0, 1) := by decide +kernel
theorem dX3_init_11 : decode cX3_init 11 = .ok (.new 13, 3) := by decide +kernel
theorem dX3_init_14 : decode cX3_init 14 = .ok (.dup, 1) := by decide +kernel
theorem dX3_init_15 : decode cX3_init 15 = .ok (.invokespecial 15, 3) := by decide +kernel
theorem dX3_init_18 : decode cX3_init 18 = .ok (.putfield 16, 3) := by decide +kernel
theorem dX3_init_21 : decode cX3_init 21 = .ok (.aload_n 0, 1) := by decide +kernel
theorem dX3_init_22 : decode cX3_init 22 = .ok (.new 20, 3) := by decide +kernel
theorem dX3_init_25 : decode cX3_init 25 = .ok (.dup, 1) := by decide +kernel
theorem dX3_init_26 : decode cX3_init 26 = .ok (.invokespecial 22, 3) := by decide +kernel
theorem dX3_init_29 : decode cX3_init 29 = .ok (.putfield 23, 3) := by decide +kernel
theorem dX3_init_32 : decode cX3_init 32 = .ok (.aload_n 0, 1) := by decide +kernel
theorem dX3_init_33 : decode cX3_init 33 = .ok (.new 27, 3) := by decide +kernel
theorem dX3_init_36 : decode cX3_init 36 = .ok (.dup, 1) := by decide +kernel
theorem dX3_init_37 : decode cX3_init 37 = .ok (.invokespecial 29, 3) := by decide +kernel
theorem dX3_init_40 : decode cX3_init 40 = .ok (.putfield 30, 3) := by decide +kernel
theorem dX3_init_43 : decode cX3_init 43 = .ok (.return_, 1) := by decide +kernel
set_option maxRecDepth 20000 in
theorem ggX3_copyFrom_X0_copyFrom : GoodIn wsX3_copyFrom wsX0_copyFrom := goodIn_r _ [9, 10, 11, 12, 13, 14, 8, 15, 16, 48, 49, 50] (by decide +kernel) (by decide +kernel)
set_option maxRecDepth 20000 in
theorem gX3_copyFrom_X0_copyFrom : GoodIn wsX3_copyFrom (wsV RX3 34 RX0 yX0_copyFrom wsX0_copyFrom) := goodIn_app (goodIn_of _ (by decide +kernel)) ggX3_copyFrom_X0_copyFrom
set_option maxRecDepth 20000 in
theorem ggX3_copyFrom_X2_copyFrom : GoodIn wsX3_copyFrom wsX2_copyFrom := goodIn_r _ [21, 22, 23, 24, 25, 26, 27, 28, 29, 30, 51, 52, 53, 54, 55] (by decide +kernel) (by decide +kernel)
set_option maxRecDepth 20000 in
theorem gX3_copyFrom_X2_copyFrom : GoodIn wsX3_copyFrom (wsV RX3 38 RX2 yX2_copyFrom wsX2_copyFrom) := goodIn_app (goodIn_of _ (by decide +kernel)) ggX3_copyFrom_X2_copyFrom
set_option maxRecDepth 20000 in
theorem ggX3_copyFrom_X1_copyFrom : GoodIn wsX3_copyFrom wsX1_copyFrom := goodIn_r _ [35, 36, 37, 38, 39, 40, 41, 26, 27, 28, 42, 43, 56, 57, 58, 59, 60, 61, 62, 63] (by decide +kernel) (by decide +kernel)
set_option maxRecDepth 20000 in
theorem gX3_copyFrom_X1_copyFrom : GoodIn wsX3_copyFrom (wsV RX3 41 RX1 yX1_copyFrom wsX1_copyFrom) := goodIn_app (goodIn_of _ (by decide +kernel)) ggX3_copyFrom_X1_copyFrom
theorem dX3_copyFrom_0 : decode cX3_copyFrom 0 = .ok (.aload_n 0, 1) := by decide +kernel
theorem dX3_copyFrom_1 : decode cX3_copyFrom 1 = .ok (.aload_n 1, 1) := by decide +kernel
theorem dX3_copyFrom_2 : decode cX3_copyFrom 2 = .ok (.getfield 7, 3) := by decide +kernel
theorem dX3_copyFrom_5 : decode cX3_copyFrom 5 = .ok (.putfield 7, 3) := by decide +kernel
theorem dX3_copyFrom_8 : decode cX3_copyFrom 8 = .ok (.aload_n 0, 1) := by decide +kernel
theorem dX3_copyFrom_9 : decode cX3_copyFrom 9 = .ok (.getfield 16, 3) := by decide +kernel
theorem dX3_copyFrom_12 : decode cX3_copyFrom 12 = .ok (.aload_n 1, 1) := by decide +kernel
theorem dX3_copyFrom_13 : decode cX3_copyFrom 13 = .ok (.getfield 16, 3) := by decide +kernel
theorem dX3_copyFrom_16 : decode cX3_copyFrom 16 = .ok (.invokevirtual 34, 3) := by decide +kernel
theorem dX3_copyFrom_19 : decode cX3_copyFrom 19 = .ok (.aload_n 0, 1) := by decide +kernel
theorem dX3_copyFrom_20 : decode cX3_copyFrom 20 = .ok (.getfield 23, 3) := by decide +kernel
theorem dX3_copyFrom_23 : decode cX3_copyFrom 23 = .ok (.aload_n 1, 1) := by decide +kernel
theorem dX3_copyFrom_24 : decode cX3_copyFrom 24 = .ok (.getfield 23, 3) := by decide +kernel
theorem dX3_copyFrom_27 : decode cX3_copyFrom 27 = .ok (.invokevirtual 38, 3) := by decide +kernel
theorem dX3_copyFrom_30 : decode cX3_copyFrom 30 = .ok (.aload_n 0, 1) := by decide +kernel
theorem dX3_copyFrom_31 : decode cX3_copyFrom 31 = .ok (.getfield 30, 3) := by decide +kernel
theorem dX3_copyFrom_34 : decode cX3_copyFrom 34 = .ok (.aload_n 1, 1) := by decide +kernel
theorem dX3_copyFrom_35 : decode cX3_copyFrom 35 = .ok (.getfield 30, 3) := by decide +kernel
theorem dX3_copyFrom_38 : decode cX3_copyFrom 38 = .ok (.invokevirtual 41, 3) := by decide +kernel
theorem dX3_copyFrom_41 : decode cX3_copyFrom 41 = .ok (.return_, 1) := by decide +kernel
theorem dX4_init_0 : decode cX4_init 0 = .ok (.aload_n 0, 1) := by decide +kernel
theorem dX4_init_1 : decode cX4_init 1 = .ok (.invokespecial 3, 3) := by decide +kernel
theorem dX4_init_4 : decode cX4_init 4 = .ok (.aload_n 0, 1) := by decide +kernel
theorem dX4_init_5 : decode cX4_init 5 = .ok (.iconst 0, 1) := by decide +kernel
theorem dX4_init_6 : decode cX4_init 6 = .ok (.putfield 9, 3) := by decide +kernel
theorem dX4_init_9 : decode cX4_init 9 = .ok (.aload_n 0, 1) := by decide +kernel
theorem dX4_init_10 : decode cX4_init 10 = .ok (.bipush 60, 2) := by decide +kernel
theorem dX4_init_12 : decode cX4_init 12 = .ok (.newarray .int, 2) := by decide +kernel
theorem dX4_init_14 : decode cX4_init 14 = .ok (.putfield 15, 3) := by decide +kernel
theorem dX4_init_17 : decode cX4_init 17 = .ok (.return_, 1) := by decide +kernel
set_option maxRecDepth 20000 in
theorem ggX4_append_X4_valueOf : GoodIn wsX4_append wsX4_valueOf := goodIn_r _ [6] (by decide +kernel) (by decide +kernel)
set_option maxRecDepth 20000 in
theorem gX4_append_X4_valueOf : GoodIn wsX4_append (va_wsS RX4 19 yX4_valueOf wsX4_valueOf) := goodIn_app (goodIn_of _ (by decide +kernel)) ggX4_append_X4_valueOf
theorem dX4_append_0 : decode cX4_append 0 = .ok (.aload_n 0, 1) := by decide +kernel
theorem dX4_append_1 : decode cX4_append 1 = .ok (.getfield 9, 3) := by decide +kernel
theorem dX4_append_4 : decode cX4_append 4 = .ok (.bipush 60, 2) := by decide +kernel
theorem dX4_append_6 : decode cX4_append 6 = .ok (.if_icmp .lt 4, 3) := by decide +kernel
theorem dX4_append_9 : decode cX4_append 9 = .ok (.return_, 1) := by decide +kernel
theorem dX4_append_10 : decode cX4_append 10 = .ok (.aload_n 0, 1) := by decide +kernel
theorem dX4_append_11 : decode cX4_append 11 = .ok (.getfield 15, 3) := by decide +kernel
theorem dX4_append_14 : decode cX4_append 14 = .ok (.aload_n 0, 1) := by decide +kernel
theorem dX4_append_15 : decode cX4_append 15 = .ok (.getfield 9, 3) := by decide +kernel
theorem dX4_append_18 : decode cX4_append 18 = .ok (.iload_n 1, 1) := by decide +kernel
theorem dX4_append_19 : decode cX4_append 19 = .ok (.invokestatic 19, 3) := by decide +kernel
theorem dX4_append_22 : decode cX4_append 22 = .ok (.iastore, 1) := by decide +kernel
theorem dX4_append_23 : decode cX4_append 23 = .ok (.aload_n 0, 1) := by decide +kernel
theorem dX4_append_24 : decode cX4_append 24 = .ok (.dup, 1) := by decide +kernel
theorem dX4_append_25 : decode cX4_append 25 = .ok (.getfield 9, 3) := by decide +kernel
theorem dX4_append_28 : decode cX4_append 28 = .ok (.iconst 1, 1) := by decide +kernel
theorem dX4_append_29 : decode cX4_append 29 = .ok (.iadd, 1) := by decide +kernel
theorem dX4_append_30 : decode cX4_append 30 = .ok (.putfield 9, 3) := by decide +kernel
theorem dX4_append_33 : decode cX4_append 33 = .ok (.return_, 1) := by decide +kernel
theorem dX4_valueOf_0 : decode cX4_valueOf 0 = .ok (.iload_n 0, 1) := by decide +kernel
theorem dX4_valueOf_1 : decode cX4_valueOf 1 = .ok (.bipush 48, 2) := by decide +kernel
theorem dX4_valueOf_3 : decode cX4_valueOf 3 = .ok (.if_icmp .ne 5, 3) := by decide +kernel
theorem dX4_valueOf_6 : decode cX4_valueOf 6 = .ok (.iconst 0, 1) := by decide +kernel
theorem dX4_valueOf_7 : decode cX4_valueOf 7 = .ok (.ireturn, 1) := by decide +kernel
theorem dX4_valueOf_8 : decode cX4_valueOf 8 = .ok (.iload_n 0, 1) := by decide +kernel
theorem dX4_valueOf_9 : decode cX4_valueOf 9 = .ok (.bipush 49, 2) := by decide +kernel
theorem dX4_valueOf_11 : decode cX4_valueOf 11 = .ok (.if_icmp .ne 5, 3) := by decide +kernel
theorem dX4_valueOf_14 : decode cX4_valueOf 14 = .ok (.iconst 1, 1) := by decide +kernel
theorem dX4_valueOf_15 : decode cX4_valueOf 15 = .ok (.ireturn, 1) := by decide +kernel
theorem dX4_valueOf_16 : decode cX4_valueOf 16 = .ok (.iload_n 0, 1) := by decide +kernel
theorem dX4_valueOf_17 : decode cX4_valueOf 17 = .ok (.bipush 63, 2) := by decide +kernel
theorem dX4_valueOf_19 : decode cX4_valueOf 19 = .ok (.if_icmp .ne 7, 3) := by decide +kernel
theorem dX4_valueOf_22 : decode cX4_valueOf 22 = .ok (.iconst 2, 1) := by decide +kernel
theorem dX4_valueOf_23 : decode cX4_valueOf 23 = .ok (.goto 4, 3) := by decide +kernel
theorem dX4_valueOf_26 : decode cX4_valueOf 26 = .ok (.iconst 3, 1) := by decide +kernel
theorem dX4_valueOf_27 : decode cX4_valueOf 27 = .ok (.ireturn, 1) := by decide +kernel
theorem dX4_firstFault_0 : decode cX4_firstFault 0 = .ok (.aload_n 0, 1) := by decide +kernel
theorem dX4_firstFault_1 : decode cX4_firstFault 1 = .ok (.getfield 9, 3) := by decide +kernel
theorem dX4_firstFault_4 : decode cX4_firstFault 4 = .ok (.ifCond .ne 5, 3) := by decide +kernel
theorem dX4_firstFault_7 : decode cX4_firstFault 7 = .ok (.iconst 0, 1) := by decide +kernel
theorem dX4_firstFault_8 : decode cX4_firstFault 8 = .ok (.ireturn, 1) := by decide +kernel
theorem dX4_firstFault_9 : decode cX4_firstFault 9 = .ok (.iconst 0, 1) := by decide +kernel
theorem dX4_firstFault_10 : decode cX4_firstFault 10 = .ok (.istore_n 2, 1) := by decide +kernel
theorem dX4_firstFault_11 : decode cX4_firstFault 11 = .ok (.iload_n 2, 1) := by decide +kernel
theorem dX4_firstFault_12 : decode cX4_firstFault 12 = .ok (.aload_n 0, 1) := by decide +kernel
theorem dX4_firstFault_13 : decode cX4_firstFault 13 = .ok (.getfield 9, 3) := by decide +kernel
theorem dX4_firstFault_16 : decode cX4_firstFault 16 = .ok (.if_icmp .ge 21, 3) := by decide +kernel
theorem dX4_firstFault_19 : decode cX4_firstFault 19 = .ok (.aload_n 0, 1) := by decide +kernel
theorem dX4_firstFault_20 : decode cX4_firstFault 20 = .ok (.getfield 15, 3) := by decide +kernel
theorem dX4_firstFault_23 : decode cX4_firstFault 23 = .ok (.iload_n 2, 1) := by decide +kernel
theorem dX4_firstFault_24 : decode cX4_firstFault 24 = .ok (.iaload, 1) := by decide +kernel
theorem dX4_firstFault_25 : decode cX4_firstFault 25 = .ok (.iload_n 1, 1) := by decide +kernel
theorem dX4_firstFault_26 : decode cX4_firstFault 26 = .ok (.if_icmp .le 5, 3) := by decide +kernel
theorem dX4_firstFault_29 : decode cX4_firstFault 29 = .ok (.iload_n 2, 1) := by decide +kernel
theorem dX4_firstFault_30 : decode cX4_firstFault 30 = .ok (.ireturn, 1) := by decide +kernel
theorem dX4_firstFault_31 : decode cX4_firstFault 31 = .ok (.iinc 2 1, 3) := by decide +kernel
theorem dX4_firstFault_34 : decode cX4_firstFault 34 = .ok (.goto (-23), 3) := by decide +kernel
theorem dX4_firstFault_37 : decode cX4_firstFault 37 = .ok (.iconst (-1), 1) := by decide +kernel
theorem dX4_firstFault_38 : decode cX4_firstFault 38 = .ok (.ireturn, 1) := by decide +kernel
