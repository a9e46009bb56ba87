theorem dX6_take_151 : decode cX6_take 151 = .ok (.iaload, 1) := by decide +kernel
theorem dX6_take_152 : decode cX6_take 152 = .ok (.ireturn, 1) := by decide +kernel
set_option maxRecDepth 20000 in
theorem ggX6_hear_X6_fault : GoodIn wsX6_hear wsX6_fault := goodIn_r _ [9, 1, 4, 54, 55, 56, 57, 58, 59, 60, 61, 62, 63, 64] (by decide +kernel) (by decide +kernel)
set_option maxRecDepth 20000 in
theorem gX6_hear_X6_fault : GoodIn wsX6_hear (wsV RX6 65 RX6 yX6_fault wsX6_fault) := goodIn_app (goodIn_of _ (by decide +kernel)) ggX6_hear_X6_fault
set_option maxRecDepth 20000 in
theorem ggX6_hear_X6_record : GoodIn wsX6_hear wsX6_record := goodIn_r _ [13, 14, 15, 2, 54, 55, 56, 57, 58, 59, 60, 61, 62, 63, 64] (by decide +kernel) (by decide +kernel)
set_option maxRecDepth 20000 in
theorem gX6_hear_X6_record : GoodIn wsX6_hear (wsV RX6 53 RX6 yX6_record wsX6_record) := goodIn_app (goodIn_of _ (by decide +kernel)) ggX6_hear_X6_record
set_option maxRecDepth 20000 in
theorem ggX6_hear_X6_go : GoodIn wsX6_hear wsX6_go := goodIn_r _ [19, 2, 20, 21, 22, 23, 24, 8, 25, 26, 27, 28, 29, 30, 31, 32, 33, 34, 35, 36, 37, 3, 38, 39, 40, 41, 42, 43, 44, 45, 46, 47, 48, 49, 50, 51, 52, 53, 54, 55, 56, 57, 58, 59, 60, 61, 62, 63, 64] (by decide +kernel) (by decide +kernel)
set_option maxRecDepth 20000 in
theorem gX6_hear_X6_go : GoodIn wsX6_hear (wsV RX6 89 RX6 yX6_go wsX6_go) := goodIn_app (goodIn_of _ (by decide +kernel)) ggX6_hear_X6_go
theorem dX6_hear_0 : decode cX6_hear 0 = .ok (.aload_n 0, 1) := by decide +kernel
theorem dX6_hear_1 : decode cX6_hear 1 = .ok (.iconst 1, 1) := by decide +kernel
theorem dX6_hear_2 : decode cX6_hear 2 = .ok (.invokevirtual 65, 3) := by decide +kernel
theorem dX6_hear_5 : decode cX6_hear 5 = .ok (.istore_n 1, 1) := by decide +kernel
theorem dX6_hear_6 : decode cX6_hear 6 = .ok (.iload_n 1, 1) := by decide +kernel
theorem dX6_hear_7 : decode cX6_hear 7 = .ok (.ifCond .lt 8, 3) := by decide +kernel
theorem dX6_hear_10 : decode cX6_hear 10 = .ok (.bipush (-100), 2) := by decide +kernel
theorem dX6_hear_12 : decode cX6_hear 12 = .ok (.iload_n 1, 1) := by decide +kernel
theorem dX6_hear_13 : decode cX6_hear 13 = .ok (.isub, 1) := by decide +kernel
theorem dX6_hear_14 : decode cX6_hear 14 = .ok (.ireturn, 1) := by decide +kernel
theorem dX6_hear_15 : decode cX6_hear 15 = .ok (.aload_n 0, 1) := by decide +kernel
theorem dX6_hear_16 : decode cX6_hear 16 = .ok (.getfield 56, 3) := by decide +kernel
theorem dX6_hear_19 : decode cX6_hear 19 = .ok (.aload_n 0, 1) := by decide +kernel
theorem dX6_hear_20 : decode cX6_hear 20 = .ok (.getfield 7, 3) := by decide +kernel
theorem dX6_hear_23 : decode cX6_hear 23 = .ok (.iconst 1, 1) := by decide +kernel
theorem dX6_hear_24 : decode cX6_hear 24 = .ok (.iaload, 1) := by decide +kernel
theorem dX6_hear_25 : decode cX6_hear 25 = .ok (.irem, 1) := by decide +kernel
theorem dX6_hear_26 : decode cX6_hear 26 = .ok (.ifCond .le 6, 3) := by decide +kernel
theorem dX6_hear_29 : decode cX6_hear 29 = .ok (.bipush (-2), 2) := by decide +kernel
theorem dX6_hear_31 : decode cX6_hear 31 = .ok (.ireturn, 1) := by decide +kernel
theorem dX6_hear_32 : decode cX6_hear 32 = .ok (.aload_n 0, 1) := by decide +kernel
theorem dX6_hear_33 : decode cX6_hear 33 = .ok (.getfield 7, 3) := by decide +kernel
theorem dX6_hear_36 : decode cX6_hear 36 = .ok (.bipush 11, 2) := by decide +kernel
theorem dX6_hear_38 : decode cX6_hear 38 = .ok (.iaload, 1) := by decide +kernel
theorem dX6_hear_39 : decode cX6_hear 39 = .ok (.iconst 1, 1) := by decide +kernel
theorem dX6_hear_40 : decode cX6_hear 40 = .ok (.if_icmp .ne 6, 3) := by decide +kernel
theorem dX6_hear_43 : decode cX6_hear 43 = .ok (.bipush (-4), 2) := by decide +kernel
theorem dX6_hear_45 : decode cX6_hear 45 = .ok (.ireturn, 1) := by decide +kernel
theorem dX6_hear_46 : decode cX6_hear 46 = .ok (.aload_n 0, 1) := by decide +kernel
theorem dX6_hear_47 : decode cX6_hear 47 = .ok (.getfield 7, 3) := by decide +kernel
theorem dX6_hear_50 : decode cX6_hear 50 = .ok (.bipush 9, 2) := by decide +kernel
theorem dX6_hear_52 : decode cX6_hear 52 = .ok (.iaload, 1) := by decide +kernel
theorem dX6_hear_53 : decode cX6_hear 53 = .ok (.aload_n 0, 1) := by decide +kernel
theorem dX6_hear_54 : decode cX6_hear 54 = .ok (.getfield 56, 3) := by decide +kernel
theorem dX6_hear_57 : decode cX6_hear 57 = .ok (.aload_n 0, 1) := by decide +kernel
theorem dX6_hear_58 : decode cX6_hear 58 = .ok (.getfield 7, 3) := by decide +kernel
theorem dX6_hear_61 : decode cX6_hear 61 = .ok (.iconst 1, 1) := by decide +kernel
theorem dX6_hear_62 : decode cX6_hear 62 = .ok (.iaload, 1) := by decide +kernel
theorem dX6_hear_63 : decode cX6_hear 63 = .ok (.idiv, 1) := by decide +kernel
theorem dX6_hear_64 : decode cX6_hear 64 = .ok (.iadd, 1) := by decide +kernel
theorem dX6_hear_65 : decode cX6_hear 65 = .ok (.bipush 80, 2) := by decide +kernel
theorem dX6_hear_67 : decode cX6_hear 67 = .ok (.if_icmp .le 6, 3) := by decide +kernel
theorem dX6_hear_70 : decode cX6_hear 70 = .ok (.bipush (-3), 2) := by decide +kernel
theorem dX6_hear_72 : decode cX6_hear 72 = .ok (.ireturn, 1) := by decide +kernel
theorem dX6_hear_73 : decode cX6_hear 73 = .ok (.aload_n 0, 1) := by decide +kernel
theorem dX6_hear_74 : decode cX6_hear 74 = .ok (.invokevirtual 53, 3) := by decide +kernel
theorem dX6_hear_77 : decode cX6_hear 77 = .ok (.iconst 0, 1) := by decide +kernel
theorem dX6_hear_78 : decode cX6_hear 78 = .ok (.istore_n 2, 1) := by decide +kernel
theorem dX6_hear_79 : decode cX6_hear 79 = .ok (.iload_n 2, 1) := by decide +kernel
theorem dX6_hear_80 : decode cX6_hear 80 = .ok (.aload_n 0, 1) := by decide +kernel
theorem dX6_hear_81 : decode cX6_hear 81 = .ok (.getfield 56, 3) := by decide +kernel
theorem dX6_hear_84 : decode cX6_hear 84 = .ok (.if_icmp .ge 71, 3) := by decide +kernel
theorem dX6_hear_87 : decode cX6_hear 87 = .ok (.iconst 0, 1) := by decide +kernel
theorem dX6_hear_88 : decode cX6_hear 88 = .ok (.istore_n 3, 1) := by decide +kernel
theorem dX6_hear_89 : decode cX6_hear 89 = .ok (.iload_n 3, 1) := by decide +kernel
theorem dX6_hear_90 : decode cX6_hear 90 = .ok (.aload_n 0, 1) := by decide +kernel
theorem dX6_hear_91 : decode cX6_hear 91 = .ok (.getfield 7, 3) := by decide +kernel
theorem dX6_hear_94 : decode cX6_hear 94 = .ok (.iconst 1, 1) := by decide +kernel
theorem dX6_hear_95 : decode cX6_hear 95 = .ok (.iaload, 1) := by decide +kernel
theorem dX6_hear_96 : decode cX6_hear 96 = .ok (.if_icmp .ge 43, 3) := by decide +kernel
theorem dX6_hear_99 : decode cX6_hear 99 = .ok (.aload_n 0, 1) := by decide +kernel
theorem dX6_hear_100 : decode cX6_hear 100 = .ok (.getfield 22, 3) := by decide +kernel
theorem dX6_hear_103 : decode cX6_hear 103 = .ok (.iload_n 3, 1) := by decide +kernel
theorem dX6_hear_104 : decode cX6_hear 104 = .ok (.aload_n 0, 1) := by decide +kernel
theorem dX6_hear_105 : decode cX6_hear 105 = .ok (.getfield 19, 3) := by decide +kernel
theorem dX6_hear_108 : decode cX6_hear 108 = .ok (.iload_n 2, 1) := by decide +kernel
theorem dX6_hear_109 : decode cX6_hear 109 = .ok (.iload_n 3, 1) := by decide +kernel
theorem dX6_hear_110 : decode cX6_hear 110 = .ok (.iadd, 1) := by decide +kernel
theorem dX6_hear_111 : decode cX6_hear 111 = .ok (.iaload, 1) := by decide +kernel
theorem dX6_hear_112 : decode cX6_hear 112 = .ok (.bipush 63, 2) := by decide +kernel
theorem dX6_hear_114 : decode cX6_hear 114 = .ok (.if_icmp .ne 7, 3) := by decide +kernel
theorem dX6_hear_117 : decode cX6_hear 117 = .ok (.iconst 2, 1) := by decide +kernel
theorem dX6_hear_118 : decode cX6_hear 118 = .ok (.goto 14, 3) := by decide +kernel
theorem dX6_hear_121 : decode cX6_hear 121 = .ok (.aload_n 0, 1) := by decide +kernel
theorem dX6_hear_122 : decode cX6_hear 122 = .ok (.getfield 19, 3) := by decide +kernel
theorem dX6_hear_125 : decode cX6_hear 125 = .ok (.iload_n 2, 1) := by decide +kernel
theorem dX6_hear_126 : decode cX6_hear 126 = .ok (.iload_n 3, 1) := by decide +kernel
theorem dX6_hear_127 : decode cX6_hear 127 = .ok (.iadd, 1) := by decide +kernel
theorem dX6_hear_128 : decode cX6_hear 128 = .ok (.iaload, 1) := by decide +kernel
theorem dX6_hear_129 : decode cX6_hear 129 = .ok (.bipush 48, 2) := by decide +kernel
theorem dX6_hear_131 : decode cX6_hear 131 = .ok (.isub, 1) := by decide +kernel
theorem dX6_hear_132 : decode cX6_hear 132 = .ok (.iastore, 1) := by decide +kernel
theorem dX6_hear_133 : decode cX6_hear 133 = .ok (.iinc 3 1, 3) := by decide +kernel
theorem dX6_hear_136 : decode cX6_hear 136 = .ok (.goto (-47), 3) := by decide +kernel
theorem dX6_hear_139 : decode cX6_hear 139 = .ok (.aload_n 0, 1) := by decide +kernel
theorem dX6_hear_140 : decode cX6_hear 140 = .ok (.invokevirtual 89, 3) := by decide +kernel
theorem dX6_hear_143 : decode cX6_hear 143 = .ok (.iload_n 2, 1) := by decide +kernel
theorem dX6_hear_144 : decode cX6_hear 144 = .ok (.aload_n 0, 1) := by decide +kernel
theorem dX6_hear_145 : decode cX6_hear 145 = .ok (.getfield 7, 3) := by decide +kernel
theorem dX6_hear_148 : decode cX6_hear 148 = .ok (.iconst 1, 1) := by decide +kernel
theorem dX6_hear_149 : decode cX6_hear 149 = .ok (.iaload, 1) := by decide +kernel
theorem dX6_hear_150 : decode cX6_hear 150 = .ok (.iadd, 1) := by decide +kernel
theorem dX6_hear_151 : decode cX6_hear 151 = .ok (.istore_n 2, 1) := by decide +kernel
theorem dX6_hear_152 : decode cX6_hear 152 = .ok (.goto (-73), 3) := by decide +kernel
theorem dX6_hear_155 : decode cX6_hear 155 = .ok (.aload_n 0, 1) := by decide +kernel
theorem dX6_hear_156 : decode cX6_hear 156 = .ok (.getfield 7, 3) := by decide +kernel
theorem dX6_hear_159 : decode cX6_hear 159 = .ok (.bipush 10, 2) := by decide +kernel
theorem dX6_hear_161 : decode cX6_hear 161 = .ok (.iaload, 1) := by decide +kernel
theorem dX6_hear_162 : decode cX6_hear 162 = .ok (.ireturn, 1) := by decide +kernel
set_option maxRecDepth 20000 in
theorem ggX6_finish_X6_record : GoodIn wsX6_finish wsX6_record := goodIn_r _ [6, 7, 8, 1, 25, 26, 27, 28, 29, 30, 31, 32, 33, 34, 35] (by decide +kernel) (by decide +kernel)
set_option maxRecDepth 20000 in
theorem gX6_finish_X6_record : GoodIn wsX6_finish (wsV RX6 53 RX6 yX6_record wsX6_record) := goodIn_app (goodIn_of _ (by decide +kernel)) ggX6_finish_X6_record
set_option maxRecDepth 20000 in
theorem ggX6_finish_X6_bestState : GoodIn wsX6_finish wsX6_bestState := goodIn_r _ [12, 1, 13, 14, 15, 5, 16, 25, 26, 27, 28, 29, 30, 31, 32, 33, 34, 35] (by decide +kernel) (by decide +kernel)
set_option maxRecDepth 20000 in
theorem gX6_finish_X6_bestState : GoodIn wsX6_finish (wsV RX6 83 RX6 yX6_bestState wsX6_bestState) := goodIn_app (goodIn_of _ (by decide +kernel)) ggX6_finish_X6_bestState
set_option maxRecDepth 20000 in
theorem ggX6_finish_X6_release : GoodIn wsX6_finish wsX6_release := goodIn_r _ [20, 1, 21, 22, 23, 5, 24, 25, 26, 27, 28, 29, 30, 31, 32, 33, 34, 35] (by decide +kernel) (by decide +kernel)
set_option maxRecDepth 20000 in
theorem gX6_finish_X6_release : GoodIn wsX6_finish (wsV RX6 86 RX6 yX6_release wsX6_release) := goodIn_app (goodIn_of _ (by decide +kernel)) ggX6_finish_X6_release
theorem dX6_finish_0 : decode cX6_finish 0 = .ok (.aload_n 0, 1) := by decide +kernel
theorem dX6_finish_1 : decode cX6_finish 1 = .ok (.getfield 7, 3) := by decide +kernel
theorem dX6_finish_4 : decode cX6_finish 4 = .ok (.bipush 11, 2) := by decide +kernel
theorem dX6_finish_6 : decode cX6_finish 6 = .ok (.iaload, 1) := by decide +kernel
theorem dX6_finish_7 : decode cX6_finish 7 = .ok (.iconst 1, 1) := by decide +kernel
theorem dX6_finish_8 : decode cX6_finish 8 = .ok (.if_icmp .eq 18, 3) := by decide +kernel
theorem dX6_finish_11 : decode cX6_finish 11 = .ok (.iload_n 1, 1) := by decide +kernel
theorem dX6_finish_12 : decode cX6_finish 12 = .ok (.ifCond .eq 17, 3) := by decide +kernel
theorem dX6_finish_15 : decode cX6_finish 15 = .ok (.aload_n 0, 1) := by decide +kernel
theorem dX6_finish_16 : decode cX6_finish 16 = .ok (.getfield 7, 3) := by decide +kernel
theorem dX6_finish_19 : decode cX6_finish 19 = .ok (.sipush 572, 3) := by decide +kernel
theorem dX6_finish_22 : decode cX6_finish 22 = .ok (.iaload, 1) := by decide +kernel
theorem dX6_finish_23 : decode cX6_finish 23 = .ok (.ifCond .ge 6, 3) := by decide +kernel
theorem dX6_finish_26 : decode cX6_finish 26 = .ok (.bipush (-4), 2) := by decide +kernel
theorem dX6_finish_28 : decode cX6_finish 28 = .ok (.ireturn, 1) := by decide +kernel
theorem dX6_finish_29 : decode cX6_finish 29 = .ok (.aload_n 0, 1) := by decide +kernel
theorem dX6_finish_30 : decode cX6_finish 30 = .ok (.invokevirtual 53, 3) := by decide +kernel
theorem dX6_finish_33 : decode cX6_finish 33 = .ok (.iload_n 1, 1) := by decide +kernel
theorem dX6_finish_34 : decode cX6_finish 34 = .ok (.ifCond .eq 7, 3) := by decide +kernel
theorem dX6_finish_37 : decode cX6_finish 37 = .ok (.iconst 0, 1) := by decide +kernel
theorem dX6_finish_38 : decode cX6_finish 38 = .ok (.goto 7, 3) := by decide +kernel
theorem dX6_finish_41 : decode cX6_finish 41 = .ok (.aload_n 0, 1) := by decide +kernel
theorem dX6_finish_42 : decode cX6_finish 42 = .ok (.invokevirtual 83, 3) := by decide +kernel
theorem dX6_finish_45 : decode cX6_finish 45 = .ok (.istore_n 2, 1) := by decide +kernel
theorem dX6_finish_46 : decode cX6_finish 46 = .ok (.aload_n 0, 1) := by decide +kernel
theorem dX6_finish_47 : decode cX6_finish 47 = .ok (.getfield 7, 3) := by decide +kernel
theorem dX6_finish_50 : decode cX6_finish 50 = .ok (.bipush 10, 2) := by decide +kernel
theorem dX6_finish_52 : decode cX6_finish 52 = .ok (.iaload, 1) := by decide +kernel
theorem dX6_finish_53 : decode cX6_finish 53 = .ok (.aload_n 0, 1) := by decide +kernel
theorem dX6_finish_54 : decode cX6_finish 54 = .ok (.getfield 7, 3) := by decide +kernel
theorem dX6_finish_57 : decode cX6_finish 57 = .ok (.bipush 9, 2) := by decide +kernel
theorem dX6_finish_59 : decode cX6_finish 59 = .ok (.iaload, 1) := by decide +kernel
theorem dX6_finish_60 : decode cX6_finish 60 = .ok (.if_icmp .ge 11, 3) := by decide +kernel
theorem dX6_finish_63 : decode cX6_finish 63 = .ok (.aload_n 0, 1) := by decide +kernel
theorem dX6_finish_64 : decode cX6_finish 64 = .ok (.iload_n 2, 1) := by decide +kernel
theorem dX6_finish_65 : decode cX6_finish 65 = .ok (.invokevirtual 86, 3) := by decide +kernel
theorem dX6_finish_68 : decode cX6_finish 68 = .ok (.goto (-22), 3) := by decide +kernel
theorem dX6_finish_71 : decode cX6_finish 71 = .ok (.aload_n 0, 1) := by decide +kernel
theorem dX6_finish_72 : decode cX6_finish 72 = .ok (.getfield 7, 3) := by decide +kernel
theorem dX6_finish_75 : decode cX6_finish 75 = .ok (.bipush 11, 2) := by decide +kernel
theorem dX6_finish_77 : decode cX6_finish 77 = .ok (.iconst 1, 1) := by decide +kernel
theorem dX6_finish_78 : decode cX6_finish 78 = .ok (.iastore, 1) := by decide +kernel
theorem dX6_finish_79 : decode cX6_finish 79 = .ok (.aload_n 0, 1) := by decide +kernel
theorem dX6_finish_80 : decode cX6_finish 80 = .ok (.getfield 7, 3) := by decide +kernel
theorem dX6_finish_83 : decode cX6_finish 83 = .ok (.bipush 10, 2) := by decide +kernel
theorem dX6_finish_85 : decode cX6_finish 85 = .ok (.iaload, 1) := by decide +kernel
theorem dX6_finish_86 : decode cX6_finish 86 = .ok (.ireturn, 1) := by decide +kernel
set_option maxRecDepth 20000 in
theorem ggX6_reset_X6_record : GoodIn wsX6_reset wsX6_record := goodIn_r _ [6, 7, 8, 1, 13, 14, 15, 16, 17, 18, 19, 20, 21, 22, 23] (by decide +kernel) (by decide +kernel)
set_option maxRecDepth 20000 in
theorem gX6_reset_X6_record : GoodIn wsX6_reset (wsV RX6 53 RX6 yX6_record wsX6_record) := goodIn_app (goodIn_of _ (by decide +kernel)) ggX6_reset_X6_record
set_option maxRecDepth 20000 in
theorem ggX6_reset_X6_clearReader : GoodIn wsX6_reset wsX6_clearReader := goodIn_r _ [12, 1, 13, 14, 15, 16, 17, 18, 19, 20, 21, 22, 23] (by decide +kernel) (by decide +kernel)
set_option maxRecDepth 20000 in
theorem gX6_reset_X6_clearReader : GoodIn wsX6_reset (wsV RX6 34 RX6 yX6_clearReader wsX6_clearReader) := goodIn_app (goodIn_of _ (by decide +kernel)) ggX6_reset_X6_clearReader
theorem dX6_reset_0 : decode cX6_reset 0 = .ok (.aload_n 0, 1) := by decide +kernel
theorem dX6_reset_1 : decode cX6_reset 1 = .ok (.invokevirtual 53, 3) := by decide +kernel
theorem dX6_reset_4 : decode cX6_reset 4 = .ok (.aload_n 0, 1) := by decide +kernel
theorem dX6_reset_5 : decode cX6_reset 5 = .ok (.getfield 7, 3) := by decide +kernel
theorem dX6_reset_8 : decode cX6_reset 8 = .ok (.bipush 9, 2) := by decide +kernel
theorem dX6_reset_10 : decode cX6_reset 10 = .ok (.iaload, 1) := by decide +kernel
theorem dX6_reset_11 : decode cX6_reset 11 = .ok (.istore_n 1, 1) := by decide +kernel
theorem dX6_reset_12 : decode cX6_reset 12 = .ok (.aload_n 0, 1) := by decide +kernel
theorem dX6_reset_13 : decode cX6_reset 13 = .ok (.invokevirtual 34, 3) := by decide +kernel
theorem dX6_reset_16 : decode cX6_reset 16 = .ok (.iload_n 1, 1) := by decide +kernel
theorem dX6_reset_17 : decode cX6_reset 17 = .ok (.ireturn, 1) := by decide +kernel
theorem dX6_undo_0 : decode cX6_undo 0 = .ok (.aload_n 0, 1) := by decide +kernel
theorem dX6_undo_1 : decode cX6_undo 1 = .ok (.getfield 37, 3) := by decide +kernel
theorem dX6_undo_4 : decode cX6_undo 4 = .ok (.ifCond .ne 6, 3) := by decide +kernel
theorem dX6_undo_7 : decode cX6_undo 7 = .ok (.bipush (-5), 2) := by decide +kernel
theorem dX6_undo_9 : decode cX6_undo 9 = .ok (.ireturn, 1) := by decide +kernel
theorem dX6_undo_10 : decode cX6_undo 10 = .ok (.aload_n 0, 1) := by decide +kernel
theorem dX6_undo_11 : decode cX6_undo 11 = .ok (.dup, 1) := by decide +kernel
theorem dX6_undo_12 : decode cX6_undo 12 = .ok (.getfield 37, 3) := by decide +kernel
theorem dX6_undo_15 : decode cX6_undo 15 = .ok (.iconst 1, 1) := by decide +kernel
theorem dX6_undo_16 : decode cX6_undo 16 = .ok (.isub, 1) := by decide +kernel
theorem dX6_undo_17 : decode cX6_undo 17 = .ok (.putfield 37, 3) := by decide +kernel
theorem dX6_undo_20 : decode cX6_undo 20 = .ok (.iconst 0, 1) := by decide +kernel
theorem dX6_undo_21 : decode cX6_undo 21 = .ok (.istore_n 1, 1) := by decide +kernel
theorem dX6_undo_22 : decode cX6_undo 22 = .ok (.iload_n 1, 1) := by decide +kernel
theorem dX6_undo_23 : decode cX6_undo 23 = .ok (.sipush 780, 3) := by decide +kernel
theorem dX6_undo_26 : decode cX6_undo 26 = .ok (.if_icmp .ge 30, 3) := by decide +kernel
theorem dX6_undo_29 : decode cX6_undo 29 = .ok (.aload_n 0, 1) := by decide +kernel
theorem dX6_undo_30 : decode cX6_undo 30 = .ok (.getfield 7, 3) := by decide +kernel
theorem dX6_undo_33 : decode cX6_undo 33 = .ok (.iload_n 1, 1) := by decide +kernel
theorem dX6_undo_34 : decode cX6_undo 34 = .ok (.aload_n 0, 1) := by decide +kernel
theorem dX6_undo_35 : decode cX6_undo 35 = .ok (.getfield 13, 3) := by decide +kernel
theorem dX6_undo_38 : decode cX6_undo 38 = .ok (.sipush 780, 3) := by decide +kernel
theorem dX6_undo_41 : decode cX6_undo 41 = .ok (.aload_n 0, 1) := by decide +kernel
theorem dX6_undo_42 : decode cX6_undo 42 = .ok (.getfield 37, 3) := by decide +kernel
theorem dX6_undo_45 : decode cX6_undo 45 = .ok (.imul, 1) := by decide +kernel
theorem dX6_undo_46 : decode cX6_undo 46 = .ok (.iload_n 1, 1) := by decide +kernel
theorem dX6_undo_47 : decode cX6_undo 47 = .ok (.iadd, 1) := by decide +kernel
theorem dX6_undo_48 : decode cX6_undo 48 = .ok (.iaload, 1) := by decide +kernel
theorem dX6_undo_49 : decode cX6_undo 49 = .ok (.iastore, 1) := by decide +kernel
theorem dX6_undo_50 : decode cX6_undo 50 = .ok (.iinc 1 1, 3) := by decide +kernel
theorem dX6_undo_53 : decode cX6_undo 53 = .ok (.goto (-31), 3) := by decide +kernel
theorem dX6_undo_56 : decode cX6_undo 56 = .ok (.aload_n 0, 1) := by decide +kernel
theorem dX6_undo_57 : decode cX6_undo 57 = .ok (.getfield 37, 3) := by decide +kernel
theorem dX6_undo_60 : decode cX6_undo 60 = .ok (.ireturn, 1) := by decide +kernel
theorem dX6_keep_0 : decode cX6_keep 0 = .ok (.iconst 0, 1) := by decide +kernel
theorem dX6_keep_1 : decode cX6_keep 1 = .ok (.istore_n 1, 1) := by decide +kernel
theorem dX6_keep_2 : decode cX6_keep 2 = .ok (.iload_n 1, 1) := by decide +kernel
theorem dX6_keep_3 : decode cX6_keep 3 = .ok (.sipush 780, 3) := by decide +kernel
theorem dX6_keep_6 : decode cX6_keep 6 = .ok (.if_icmp .ge 21, 3) := by decide +kernel
theorem dX6_keep_9 : decode cX6_keep 9 = .ok (.aload_n 0, 1) := by decide +kernel
theorem dX6_keep_10 : decode cX6_keep 10 = .ok (.getfield 16, 3) := by decide +kernel
theorem dX6_keep_13 : decode cX6_keep 13 = .ok (.iload_n 1, 1) := by decide +kernel
theorem dX6_keep_14 : decode cX6_keep 14 = .ok (.aload_n 0, 1) := by decide +kernel
theorem dX6_keep_15 : decode cX6_keep 15 = .ok (.getfield 7, 3) := by decide +kernel
theorem dX6_keep_18 : decode cX6_keep 18 = .ok (.iload_n 1, 1) := by decide +kernel
theorem dX6_keep_19 : decode cX6_keep 19 = .ok (.iaload, 1) := by decide +kernel
theorem dX6_keep_20 : decode cX6_keep 20 = .ok (.iastore, 1) := by decide +kernel
theorem dX6_keep_21 : decode cX6_keep 21 = .ok (.iinc 1 1, 3) := by decide +kernel
theorem dX6_keep_24 : decode cX6_keep 24 = .ok (.goto (-22), 3) := by decide +kernel
theorem dX6_keep_27 : decode cX6_keep 27 = .ok (.aload_n 0, 1) := by decide +kernel
theorem dX6_keep_28 : decode cX6_keep 28 = .ok (.iconst 1, 1) := by decide +kernel
theorem dX6_keep_29 : decode cX6_keep 29 = .ok (.putfield 92, 3) := by decide +kernel
theorem dX6_keep_32 : decode cX6_keep 32 = .ok (.aload_n 0, 1) := by decide +kernel
theorem dX6_keep_33 : decode cX6_keep 33 = .ok (.getfield 7, 3) := by decide +kernel
theorem dX6_keep_36 : decode cX6_keep 36 = .ok (.bipush 7, 2) := by decide +kernel
theorem dX6_keep_38 : decode cX6_keep 38 = .ok (.iaload, 1) := by decide +kernel
theorem dX6_keep_39 : decode cX6_keep 39 = .ok (.ireturn, 1) := by decide +kernel
set_option maxRecDepth 20000 in
theorem ggX6_restore_X6_record : GoodIn wsX6_restore wsX6_record := goodIn_r _ [8, 9, 10, 2, 11, 12, 13, 14, 15, 16, 17, 18, 19, 20, 21] (by decide +kernel) (by decide +kernel)
set_option maxRecDepth 20000 in
theorem gX6_restore_X6_record : GoodIn wsX6_restore (wsV RX6 53 RX6 yX6_record wsX6_record) := goodIn_app (goodIn_of _ (by decide +kernel)) ggX6_restore_X6_record
theorem dX6_restore_0 : decode cX6_restore 0 = .ok (.aload_n 0, 1) := by decide +kernel
theorem dX6_restore_1 : decode cX6_restore 1 = .ok (.getfield 92, 3) := by decide +kernel
theorem dX6_restore_4 : decode cX6_restore 4 = .ok (.ifCond .ne 6, 3) := by decide +kernel
theorem dX6_restore_7 : decode cX6_restore 7 = .ok (.bipush (-5), 2) := by decide +kernel
theorem dX6_restore_9 : decode cX6_restore 9 = .ok (.ireturn, 1) := by decide +kernel
theorem dX6_restore_10 : decode cX6_restore 10 = .ok (.aload_n 0, 1) := by decide +kernel
theorem dX6_restore_11 : decode cX6_restore 11 = .ok (.invokevirtual 53, 3) := by decide +kernel
theorem dX6_restore_14 : decode cX6_restore 14 = .ok (.iconst 0, 1) := by decide +kernel
theorem dX6_restore_15 : decode cX6_restore 15 = .ok (.istore_n 1, 1) := by decide +kernel
theorem dX6_restore_16 : decode cX6_restore 16 = .ok (.iload_n 1, 1) := by decide +kernel
theorem dX6_restore_17 : decode cX6_restore 17 = .ok (.sipush 780, 3) := by decide +kernel
theorem dX6_restore_20 : decode cX6_restore 20 = .ok (.if_icmp .ge 21, 3) := by decide +kernel
theorem dX6_restore_23 : decode cX6_restore 23 = .ok (.aload_n 0, 1) := by decide +kernel
theorem dX6_restore_24 : decode cX6_restore 24 = .ok (.getfield 7, 3) := by decide +kernel
theorem dX6_restore_27 : decode cX6_restore 27 = .ok (.iload_n 1, 1) := by decide +kernel
theorem dX6_restore_28 : decode cX6_restore 28 = .ok (.aload_n 0, 1) := by decide +kernel
theorem dX6_restore_29 : decode cX6_restore 29 = .ok (.getfield 16, 3) := by decide +kernel
theorem dX6_restore_32 : decode cX6_restore 32 = .ok (.iload_n 1, 1) := by decide +kernel
theorem dX6_restore_33 : decode cX6_restore 33 = .ok (.iaload, 1) := by decide +kernel
theorem dX6_restore_34 : decode cX6_restore 34 = .ok (.iastore, 1) := by decide +kernel
theorem dX6_restore_35 : decode cX6_restore 35 = .ok (.iinc 1 1, 3) := by decide +kernel
theorem dX6_restore_38 : decode cX6_restore 38 = .ok (.goto (-22), 3) := by decide +kernel
theorem dX6_restore_41 : decode cX6_restore 41 = .ok (.aload_n 0, 1) := by decide +kernel
theorem dX6_restore_42 : decode cX6_restore 42 = .ok (.getfield 7, 3) := by decide +kernel
theorem dX6_restore_45 : decode cX6_restore 45 = .ok (.bipush 7, 2) := by decide +kernel
theorem dX6_restore_47 : decode cX6_restore 47 = .ok (.iaload, 1) := by decide +kernel
theorem dX6_restore_48 : decode cX6_restore 48 = .ok (.ireturn, 1) := by decide +kernel
set_option maxRecDepth 20000 in
theorem ggX6_isState_X6_registers : GoodIn wsX6_isState wsX6_registers := goodIn_r _ [5, 6, 10, 11, 12, 13, 14, 15, 16, 17, 18, 19, 20] (by decide +kernel) (by decide +kernel)
set_option maxRecDepth 20000 in
theorem gX6_isState_X6_registers : GoodIn wsX6_isState (wsV RX6 41 RX6 yX6_registers wsX6_registers) := goodIn_app (goodIn_of _ (by decide +kernel)) ggX6_isState_X6_registers
set_option maxRecDepth 20000 in
theorem ggX6_isState_X6_in : GoodIn wsX6_isState wsX6_in := goodIn_r _ [9] (by decide +kernel) (by decide +kernel)
set_option maxRecDepth 20000 in
theorem gX6_isState_X6_in : GoodIn wsX6_isState (va_wsS RX6 49 yX6_in wsX6_in) := goodIn_app (goodIn_of _ (by decide +kernel)) ggX6_isState_X6_in
theorem dX6_isState_0 : decode cX6_isState 0 = .ok (.iload_n 1, 1) := by decide +kernel
theorem dX6_isState_1 : decode cX6_isState 1 = .ok (.iconst 0, 1) := by decide +kernel
theorem dX6_isState_2 : decode cX6_isState 2 = .ok (.aload_n 0, 1) := by decide +kernel
theorem dX6_isState_3 : decode cX6_isState 3 = .ok (.invokevirtual 41, 3) := by decide +kernel
theorem dX6_isState_6 : decode cX6_isState 6 = .ok (.iconst 1, 1) := by decide +kernel
theorem dX6_isState_7 : decode cX6_isState 7 = .ok (.isub, 1) := by decide +kernel
theorem dX6_isState_8 : decode cX6_isState 8 = .ok (.invokestatic 49, 3) := by decide +kernel
theorem dX6_isState_11 : decode cX6_isState 11 = .ok (.ireturn, 1) := by decide +kernel
set_option maxRecDepth 20000 in
theorem ggX6_step_X6_isState : GoodIn wsX6_step wsX6_isState := goodIn_r _ [6, 7, 8, 9, 5, 10, 1, 11, 12, 13, 22, 23, 24, 25, 26, 27, 28, 29, 30, 31, 32] (by decide +kernel) (by decide +kernel)
set_option maxRecDepth 20000 in
theorem gX6_step_X6_isState : GoodIn wsX6_step (wsV RX6 96 RX6 yX6_isState wsX6_isState) := goodIn_app (goodIn_of _ (by decide +kernel)) ggX6_step_X6_isState
set_option maxRecDepth 20000 in
theorem ggX6_step_X6_in : GoodIn wsX6_step wsX6_in := goodIn_r _ [13] (by decide +kernel) (by decide +kernel)
set_option maxRecDepth 20000 in
theorem gX6_step_X6_in : GoodIn wsX6_step (va_wsS RX6 49 yX6_in wsX6_in) := goodIn_app (goodIn_of _ (by decide +kernel)) ggX6_step_X6_in
set_option maxRecDepth 20000 in
theorem ggX6_step_X6_window : GoodIn wsX6_step wsX6_window := goodIn_r _ [17, 7, 8, 9, 5, 10, 1, 22, 23, 24, 25, 26, 27, 28, 29, 30, 31, 32] (by decide +kernel) (by decide +kernel)
set_option maxRecDepth 20000 in
theorem gX6_step_X6_window : GoodIn wsX6_step (wsV RX6 59 RX6 yX6_window wsX6_window) := goodIn_app (goodIn_of _ (by decide +kernel)) ggX6_step_X6_window
set_option maxRecDepth 20000 in
theorem ggX6_step_X6_symbol : GoodIn wsX6_step wsX6_symbol := goodIn_r _ [21, 1, 22, 23, 24, 25, 26, 27, 28, 29, 30, 31, 32] (by decide +kernel) (by decide +kernel)
set_option maxRecDepth 20000 in
theorem gX6_step_X6_symbol : GoodIn wsX6_step (wsV RX6 45 RX6 yX6_symbol wsX6_symbol) := goodIn_app (goodIn_of _ (by decide +kernel)) ggX6_step_X6_symbol
theorem dX6_step_0 : decode cX6_step 0 = .ok (.aload_n 0, 1) := by decide +kernel
theorem dX6_step_1 : decode cX6_step 1 = .ok (.iload_n 1, 1) := by decide +kernel
theorem dX6_step_2 : decode cX6_step 2 = .ok (.invokevirtual 96, 3) := by decide +kernel
theorem dX6_step_5 : decode cX6_step 5 = .ok (.ifCond .ne 5, 3) := by decide +kernel
theorem dX6_step_8 : decode cX6_step 8 = .ok (.iconst (-1), 1) := by decide +kernel
theorem dX6_step_9 : decode cX6_step 9 = .ok (.ireturn, 1) := by decide +kernel
theorem dX6_step_10 : decode cX6_step 10 = .ok (.iload_n 2, 1) := by decide +kernel
theorem dX6_step_11 : decode cX6_step 11 = .ok (.iconst 0, 1) := by decide +kernel
theorem dX6_step_12 : decode cX6_step 12 = .ok (.iconst 1, 1) := by decide +kernel
theorem dX6_step_13 : decode cX6_step 13 = .ok (.invokestatic 49, 3) := by decide +kernel
theorem dX6_step_16 : decode cX6_step 16 = .ok (.ifCond .eq 12, 3) := by decide +kernel
theorem dX6_step_19 : decode cX6_step 19 = .ok (.iload_n 3, 1) := by decide +kernel
theorem dX6_step_20 : decode cX6_step 20 = .ok (.iconst 0, 1) := by decide +kernel
theorem dX6_step_21 : decode cX6_step 21 = .ok (.iconst 1, 1) := by decide +kernel
theorem dX6_step_22 : decode cX6_step 22 = .ok (.invokestatic 49, 3) := by decide +kernel
theorem dX6_step_25 : decode cX6_step 25 = .ok (.ifCond .ne 6, 3) := by decide +kernel
theorem dX6_step_28 : decode cX6_step 28 = .ok (.bipush (-2), 2) := by decide +kernel
theorem dX6_step_30 : decode cX6_step 30 = .ok (.ireturn, 1) := by decide +kernel
theorem dX6_step_31 : decode cX6_step 31 = .ok (.aload_n 0, 1) := by decide +kernel
theorem dX6_step_32 : decode cX6_step 32 = .ok (.iload_n 1, 1) := by decide +kernel
theorem dX6_step_33 : decode cX6_step 33 = .ok (.iload_n 2, 1) := by decide +kernel
theorem dX6_step_34 : decode cX6_step 34 = .ok (.invokevirtual 59, 3) := by decide +kernel
theorem dX6_step_37 : decode cX6_step 37 = .ok (.istore 4, 2) := by decide +kernel
theorem dX6_step_39 : decode cX6_step 39 = .ok (.iconst 0, 1) := by decide +kernel
theorem dX6_step_40 : decode cX6_step 40 = .ok (.istore 5, 2) := by decide +kernel
theorem dX6_step_42 : decode cX6_step 42 = .ok (.iconst 0, 1) := by decide +kernel
theorem dX6_step_43 : decode cX6_step 43 = .ok (.istore 6, 2) := by decide +kernel
theorem dX6_step_45 : decode cX6_step 45 = .ok (.iload 6, 2) := by decide +kernel
theorem dX6_step_47 : decode cX6_step 47 = .ok (.aload_n 0, 1) := by decide +kernel
theorem dX6_step_48 : decode cX6_step 48 = .ok (.getfield 7, 3) := by decide +kernel
theorem dX6_step_51 : decode cX6_step 51 = .ok (.iconst 1, 1) := by decide +kernel
theorem dX6_step_52 : decode cX6_step 52 = .ok (.iaload, 1) := by decide +kernel
theorem dX6_step_53 : decode cX6_step 53 = .ok (.if_icmp .ge 24, 3) := by decide +kernel
theorem dX6_step_56 : decode cX6_step 56 = .ok (.iconst 2, 1) := by decide +kernel
theorem dX6_step_57 : decode cX6_step 57 = .ok (.iload 5, 2) := by decide +kernel
theorem dX6_step_59 : decode cX6_step 59 = .ok (.imul, 1) := by decide +kernel
theorem dX6_step_60 : decode cX6_step 60 = .ok (.aload_n 0, 1) := by decide +kernel
theorem dX6_step_61 : decode cX6_step 61 = .ok (.iload 6, 2) := by decide +kernel
theorem dX6_step_63 : decode cX6_step 63 = .ok (.iload 4, 2) := by decide +kernel
theorem dX6_step_65 : decode cX6_step 65 = .ok (.invokevirtual 45, 3) := by decide +kernel
theorem dX6_step_68 : decode cX6_step 68 = .ok (.iadd, 1) := by decide +kernel
theorem dX6_step_69 : decode cX6_step 69 = .ok (.istore 5, 2) := by decide +kernel
theorem dX6_step_71 : decode cX6_step 71 = .ok (.iinc 6 1, 3) := by decide +kernel
theorem dX6_step_74 : decode cX6_step 74 = .ok (.goto (-29), 3) := by decide +kernel
theorem dX6_step_77 : decode cX6_step 77 = .ok (.iload_n 3, 1) := by decide +kernel
theorem dX6_step_78 : decode cX6_step 78 = .ok (.ifCond .ne 10, 3) := by decide +kernel
theorem dX6_step_81 : decode cX6_step 81 = .ok (.iload 4, 2) := by decide +kernel
theorem dX6_step_83 : decode cX6_step 83 = .ok (.iconst 2, 1) := by decide +kernel
theorem dX6_step_84 : decode cX6_step 84 = .ok (.idiv, 1) := by decide +kernel
theorem dX6_step_85 : decode cX6_step 85 = .ok (.goto 5, 3) := by decide +kernel
theorem dX6_step_88 : decode cX6_step 88 = .ok (.iload 5, 2) := by decide +kernel
theorem dX6_step_90 : decode cX6_step 90 = .ok (.ireturn, 1) := by decide +kernel
set_option maxRecDepth 20000 in
theorem ggX6_line_X6_symbols : GoodIn wsX6_line wsX6_symbols := goodIn_r _ [6, 1, 10, 11, 12, 13, 14, 15, 16, 17, 18, 19, 20] (by decide +kernel) (by decide +kernel)
set_option maxRecDepth 20000 in
theorem gX6_line_X6_symbols : GoodIn wsX6_line (wsV RX6 62 RX6 yX6_symbols wsX6_symbols) := goodIn_app (goodIn_of _ (by decide +kernel)) ggX6_line_X6_symbols
set_option maxRecDepth 20000 in
theorem ggX6_line_X6_in : GoodIn wsX6_line wsX6_in := goodIn_r _ [9] (by decide +kernel) (by decide +kernel)
set_option maxRecDepth 20000 in
theorem gX6_line_X6_in : GoodIn wsX6_line (va_wsS RX6 49 yX6_in wsX6_in) := goodIn_app (goodIn_of _ (by decide +kernel)) ggX6_line_X6_in
theorem dX6_line_0 : decode cX6_line 0 = .ok (.iload_n 1, 1) := by decide +kernel
theorem dX6_line_1 : decode cX6_line 1 = .ok (.iconst 0, 1) := by decide +kernel
theorem dX6_line_2 : decode cX6_line 2 = .ok (.aload_n 0, 1) := by decide +kernel
theorem dX6_line_3 : decode cX6_line 3 = .ok (.invokevirtual 62, 3) := by decide +kernel
theorem dX6_line_6 : decode cX6_line 6 = .ok (.iconst 1, 1) := by decide +kernel
theorem dX6_line_7 : decode cX6_line 7 = .ok (.isub, 1) := by decide +kernel
theorem dX6_line_8 : decode cX6_line 8 = .ok (.invokestatic 49, 3) := by decide +kernel
theorem dX6_line_11 : decode cX6_line 11 = .ok (.ifCond .ne 5, 3) := by decide +kernel
theorem dX6_line_14 : decode cX6_line 14 = .ok (.iconst (-1), 1) := by decide +kernel
theorem dX6_line_15 : decode cX6_line 15 = .ok (.ireturn, 1) := by decide +kernel
theorem dX6_line_16 : decode cX6_line 16 = .ok (.iload_n 2, 1) := by decide +kernel
theorem dX6_line_17 : decode cX6_line 17 = .ok (.tableswitch 65 0 2 #[27, 37, 48], 27) := by decide +kernel
theorem dX6_line_44 : decode cX6_line 44 = .ok (.aload_n 0, 1) := by decide +kernel
theorem dX6_line_45 : decode cX6_line 45 = .ok (.getfield 7, 3) := by decide +kernel
theorem dX6_line_48 : decode cX6_line 48 = .ok (.bipush 92, 2) := by decide +kernel
theorem dX6_line_50 : decode cX6_line 50 = .ok (.iload_n 1, 1) := by decide +kernel
theorem dX6_line_51 : decode cX6_line 51 = .ok (.iadd, 1) := by decide +kernel
theorem dX6_line_52 : decode cX6_line 52 = .ok (.iaload, 1) := by decide +kernel
theorem dX6_line_53 : decode cX6_line 53 = .ok (.ireturn, 1) := by decide +kernel
theorem dX6_line_54 : decode cX6_line 54 = .ok (.aload_n 0, 1) := by decide +kernel
theorem dX6_line_55 : decode cX6_line 55 = .ok (.getfield 7, 3) := by decide +kernel
theorem dX6_line_58 : decode cX6_line 58 = .ok (.sipush 332, 3) := by decide +kernel
theorem dX6_line_61 : decode cX6_line 61 = .ok (.iload_n 1, 1) := by decide +kernel
theorem dX6_line_62 : decode cX6_line 62 = .ok (.iadd, 1) := by decide +kernel
theorem dX6_line_63 : decode cX6_line 63 = .ok (.iaload, 1) := by decide +kernel
theorem dX6_line_64 : decode cX6_line 64 = .ok (.ireturn, 1) := by decide +kernel
theorem dX6_line_65 : decode cX6_line 65 = .ok (.iload_n 1, 1) := by decide +kernel
theorem dX6_line_66 : decode cX6_line 66 = .ok (.aload_n 0, 1) := by decide +kernel
theorem dX6_line_67 : decode cX6_line 67 = .ok (.getfield 7, 3) := by decide +kernel
theorem dX6_line_70 : decode cX6_line 70 = .ok (.bipush 8, 2) := by decide +kernel
theorem dX6_line_72 : decode cX6_line 72 = .ok (.iaload, 1) := by decide +kernel
theorem dX6_line_73 : decode cX6_line 73 = .ok (.if_icmp .ge 7, 3) := by decide +kernel
theorem dX6_line_76 : decode cX6_line 76 = .ok (.iconst 1, 1) := by decide +kernel
theorem dX6_line_77 : decode cX6_line 77 = .ok (.goto 4, 3) := by decide +kernel
theorem dX6_line_80 : decode cX6_line 80 = .ok (.iconst 0, 1) := by decide +kernel
theorem dX6_line_81 : decode cX6_line 81 = .ok (.ireturn, 1) := by decide +kernel
theorem dX6_line_82 : decode cX6_line 82 = .ok (.bipush (-2), 2) := by decide +kernel
theorem dX6_line_84 : decode cX6_line 84 = .ok (.ireturn, 1) := by decide +kernel
set_option maxRecDepth 20000 in
theorem ggX6_sent_X6_in : GoodIn wsX6_sent wsX6_in := goodIn_r _ [5] (by decide +kernel) (by decide +kernel)
set_option maxRecDepth 20000 in
theorem gX6_sent_X6_in : GoodIn wsX6_sent (va_wsS RX6 49 yX6_in wsX6_in) := goodIn_app (goodIn_of _ (by decide +kernel)) ggX6_sent_X6_in
theorem dX6_sent_0 : decode cX6_sent 0 = .ok (.iload_n 1, 1) := by decide +kernel
theorem dX6_sent_1 : decode cX6_sent 1 = .ok (.iconst 0, 1) := by decide +kernel
theorem dX6_sent_2 : decode cX6_sent 2 = .ok (.aload_n 0, 1) := by decide +kernel
theorem dX6_sent_3 : decode cX6_sent 3 = .ok (.getfield 7, 3) := by decide +kernel
theorem dX6_sent_6 : decode cX6_sent 6 = .ok (.bipush 7, 2) := by decide +kernel
theorem dX6_sent_8 : decode cX6_sent 8 = .ok (.iaload, 1) := by decide +kernel
theorem dX6_sent_9 : decode cX6_sent 9 = .ok (.iconst 1, 1) := by decide +kernel
theorem dX6_sent_10 : decode cX6_sent 10 = .ok (.isub, 1) := by decide +kernel
theorem dX6_sent_11 : decode cX6_sent 11 = .ok (.invokestatic 49, 3) := by decide +kernel
theorem dX6_sent_14 : decode cX6_sent 14 = .ok (.ifCond .eq 15, 3) := by decide +kernel
theorem dX6_sent_17 : decode cX6_sent 17 = .ok (.aload_n 0, 1) := by decide +kernel
theorem dX6_sent_18 : decode cX6_sent 18 = .ok (.getfield 7, 3) := by decide +kernel
theorem dX6_sent_21 : decode cX6_sent 21 = .ok (.bipush 12, 2) := by decide +kernel
theorem dX6_sent_23 : decode cX6_sent 23 = .ok (.iload_n 1, 1) := by decide +kernel
theorem dX6_sent_24 : decode cX6_sent 24 = .ok (.iadd, 1) := by decide +kernel
theorem dX6_sent_25 : decode cX6_sent 25 = .ok (.iaload, 1) := by decide +kernel
theorem dX6_sent_26 : decode cX6_sent 26 = .ok (.goto 4, 3) := by decide +kernel
theorem dX6_sent_29 : decode cX6_sent 29 = .ok (.iconst (-1), 1) := by decide +kernel
theorem dX6_sent_30 : decode cX6_sent 30 = .ok (.ireturn, 1) := by decide +kernel
set_option maxRecDepth 20000 in
theorem ggX6_released_X6_in : GoodIn wsX6_released wsX6_in := goodIn_r _ [5] (by decide +kernel) (by decide +kernel)
set_option maxRecDepth 20000 in
theorem gX6_released_X6_in : GoodIn wsX6_released (va_wsS RX6 49 yX6_in wsX6_in) := goodIn_app (goodIn_of _ (by decide +kernel)) ggX6_released_X6_in
theorem dX6_released_0 : decode cX6_released 0 = .ok (.iload_n 1, 1) := by decide +kernel
theorem dX6_released_1 : decode cX6_released 1 = .ok (.iconst 0, 1) := by decide +kernel
theorem dX6_released_2 : decode cX6_released 2 = .ok (.aload_n 0, 1) := by decide +kernel
theorem dX6_released_3 : decode cX6_released 3 = .ok (.getfield 7, 3) := by decide +kernel
theorem dX6_released_6 : decode cX6_released 6 = .ok (.bipush 10, 2) := by decide +kernel
theorem dX6_released_8 : decode cX6_released 8 = .ok (.iaload, 1) := by decide +kernel
theorem dX6_released_9 : decode cX6_released 9 = .ok (.iconst 1, 1) := by decide +kernel
theorem dX6_released_10 : decode cX6_released 10 = .ok (.isub, 1) := by decide +kernel
theorem dX6_released_11 : decode cX6_released 11 = .ok (.invokestatic 49, 3) := by decide +kernel
theorem dX6_released_14 : decode cX6_released 14 = .ok (.ifCond .eq 16, 3) := by decide +kernel
theorem dX6_released_17 : decode cX6_released 17 = .ok (.aload_n 0, 1) := by decide +kernel
theorem dX6_released_18 : decode cX6_released 18 = .ok (.getfield 7, 3) := by decide +kernel
theorem dX6_released_21 : decode cX6_released 21 = .ok (.sipush 604, 3) := by decide +kernel
theorem dX6_released_24 : decode cX6_released 24 = .ok (.iload_n 1, 1) := by decide +kernel
theorem dX6_released_25 : decode cX6_released 25 = .ok (.iadd, 1) := by decide +kernel
theorem dX6_released_26 : decode cX6_released 26 = .ok (.iaload, 1) := by decide +kernel
theorem dX6_released_27 : decode cX6_released 27 = .ok (.goto 4, 3) := by decide +kernel
theorem dX6_released_30 : decode cX6_released 30 = .ok (.iconst (-1), 1) := by decide +kernel
theorem dX6_released_31 : decode cX6_released 31 = .ok (.ireturn, 1) := by decide +kernel
set_option maxRecDepth 20000 in
theorem ggX6_metric_X6_isState : GoodIn wsX6_metric wsX6_isState := goodIn_r _ [6, 7, 8, 9, 5, 10, 1, 11, 12, 13, 14, 15, 16, 17, 18, 19, 20, 21, 22, 23, 24] (by decide +kernel) (by decide +kernel)
set_option maxRecDepth 20000 in
theorem gX6_metric_X6_isState : GoodIn wsX6_metric (wsV RX6 96 RX6 yX6_isState wsX6_isState) := goodIn_app (goodIn_of _ (by decide +kernel)) ggX6_metric_X6_isState
theorem dX6_metric_0 : decode cX6_metric 0 = .ok (.aload_n 0, 1) := by decide +kernel
theorem dX6_metric_1 : decode cX6_metric 1 = .ok (.iload_n 1, 1) := by decide +kernel
theorem dX6_metric_2 : decode cX6_metric 2 = .ok (.invokevirtual 96, 3) := by decide +kernel
theorem dX6_metric_5 : decode cX6_metric 5 = .ok (.ifCond .ne 5, 3) := by decide +kernel
theorem dX6_metric_8 : decode cX6_metric 8 = .ok (.iconst (-1), 1) := by decide +kernel
theorem dX6_metric_9 : decode cX6_metric 9 = .ok (.ireturn, 1) := by decide +kernel
theorem dX6_metric_10 : decode cX6_metric 10 = .ok (.aload_n 0, 1) := by decide +kernel
theorem dX6_metric_11 : decode cX6_metric 11 = .ok (.getfield 7, 3) := by decide +kernel
theorem dX6_metric_14 : decode cX6_metric 14 = .ok (.sipush 572, 3) := by decide +kernel
theorem dX6_metric_17 : decode cX6_metric 17 = .ok (.iload_n 1, 1) := by decide +kernel
theorem dX6_metric_18 : decode cX6_metric 18 = .ok (.iadd, 1) := by decide +kernel
theorem dX6_metric_19 : decode cX6_metric 19 = .ok (.iaload, 1) := by decide +kernel
theorem dX6_metric_20 : decode cX6_metric 20 = .ok (.ifCond .ge 8, 3) := by decide +kernel
theorem dX6_metric_23 : decode cX6_metric 23 = .ok (.bipush (-5), 2) := by decide +kernel
theorem dX6_metric_25 : decode cX6_metric 25 = .ok (.goto 13, 3) := by decide +kernel
theorem dX6_metric_28 : decode cX6_metric 28 = .ok (.aload_n 0, 1) := by decide +kernel
theorem dX6_metric_29 : decode cX6_metric 29 = .ok (.getfield 7, 3) := by decide +kernel
theorem dX6_metric_32 : decode cX6_metric 32 = .ok (.sipush 572, 3) := by decide +kernel
theorem dX6_metric_35 : decode cX6_metric 35 = .ok (.iload_n 1, 1) := by decide +kernel
theorem dX6_metric_36 : decode cX6_metric 36 = .ok (.iadd, 1) := by decide +kernel
theorem dX6_metric_37 : decode cX6_metric 37 = .ok (.iaload, 1) := by decide +kernel
theorem dX6_metric_38 : decode cX6_metric 38 = .ok (.ireturn, 1) := by decide +kernel
set_option maxRecDepth 20000 in
theorem ggX6_survivor_X6_isState : GoodIn wsX6_survivor wsX6_isState := goodIn_r _ [6, 7, 8, 9, 5, 10, 1, 11, 12, 13, 18, 19, 20, 21, 22, 23, 24, 25, 26, 27, 28] (by decide +kernel) (by decide +kernel)
set_option maxRecDepth 20000 in
theorem gX6_survivor_X6_isState : GoodIn wsX6_survivor (wsV RX6 96 RX6 yX6_isState wsX6_isState) := goodIn_app (goodIn_of _ (by decide +kernel)) ggX6_survivor_X6_isState
set_option maxRecDepth 20000 in
theorem ggX6_survivor_X6_walkBit : GoodIn wsX6_survivor wsX6_walkBit := goodIn_r _ [17, 1, 18, 19, 20, 21, 22, 23, 24, 25, 26, 27, 28] (by decide +kernel) (by decide +kernel)
set_option maxRecDepth 20000 in
theorem gX6_survivor_X6_walkBit : GoodIn wsX6_survivor (wsV RX6 73 RX6 yX6_walkBit wsX6_walkBit) := goodIn_app (goodIn_of _ (by decide +kernel)) ggX6_survivor_X6_walkBit
theorem dX6_survivor_0 : decode cX6_survivor 0 = .ok (.aload_n 0, 1) := by decide +kernel
theorem dX6_survivor_1 : decode cX6_survivor 1 = .ok (.iload_n 1, 1) := by decide +kernel
theorem dX6_survivor_2 : decode cX6_survivor 2 = .ok (.invokevirtual 96, 3) := by decide +kernel
theorem dX6_survivor_5 : decode cX6_survivor 5 = .ok (.ifCond .ne 5, 3) := by decide +kernel
theorem dX6_survivor_8 : decode cX6_survivor 8 = .ok (.iconst (-1), 1) := by decide +kernel
theorem dX6_survivor_9 : decode cX6_survivor 9 = .ok (.ireturn, 1) := by decide +kernel
theorem dX6_survivor_10 : decode cX6_survivor 10 = .ok (.iload_n 2, 1) := by decide +kernel
theorem dX6_survivor_11 : decode cX6_survivor 11 = .ok (.ifCond .ge 6, 3) := by decide +kernel
theorem dX6_survivor_14 : decode cX6_survivor 14 = .ok (.bipush (-2), 2) := by decide +kernel
theorem dX6_survivor_16 : decode cX6_survivor 16 = .ok (.ireturn, 1) := by decide +kernel
theorem dX6_survivor_17 : decode cX6_survivor 17 = .ok (.aload_n 0, 1) := by decide +kernel
theorem dX6_survivor_18 : decode cX6_survivor 18 = .ok (.getfield 7, 3) := by decide +kernel
theorem dX6_survivor_21 : decode cX6_survivor 21 = .ok (.sipush 572, 3) := by decide +kernel
theorem dX6_survivor_24 : decode cX6_survivor 24 = .ok (.iload_n 1, 1) := by decide +kernel
theorem dX6_survivor_25 : decode cX6_survivor 25 = .ok (.iadd, 1) := by decide +kernel
theorem dX6_survivor_26 : decode cX6_survivor 26 = .ok (.iaload, 1) := by decide +kernel
theorem dX6_survivor_27 : decode cX6_survivor 27 = .ok (.ifCond .lt 14, 3) := by decide +kernel
theorem dX6_survivor_30 : decode cX6_survivor 30 = .ok (.iload_n 2, 1) := by decide +kernel
theorem dX6_survivor_31 : decode cX6_survivor 31 = .ok (.aload_n 0, 1) := by decide +kernel
theorem dX6_survivor_32 : decode cX6_survivor 32 = .ok (.getfield 7, 3) := by decide +kernel
theorem dX6_survivor_35 : decode cX6_survivor 35 = .ok (.bipush 9, 2) := by decide +kernel
theorem dX6_survivor_37 : decode cX6_survivor 37 = .ok (.iaload, 1) := by decide +kernel
theorem dX6_survivor_38 : decode cX6_survivor 38 = .ok (.if_icmp .lt 8, 3) := by decide +kernel
theorem dX6_survivor_41 : decode cX6_survivor 41 = .ok (.bipush (-5), 2) := by decide +kernel
theorem dX6_survivor_43 : decode cX6_survivor 43 = .ok (.goto 19, 3) := by decide +kernel
theorem dX6_survivor_46 : decode cX6_survivor 46 = .ok (.aload_n 0, 1) := by decide +kernel
theorem dX6_survivor_47 : decode cX6_survivor 47 = .ok (.iload_n 1, 1) := by decide +kernel
theorem dX6_survivor_48 : decode cX6_survivor 48 = .ok (.aload_n 0, 1) := by decide +kernel
theorem dX6_survivor_49 : decode cX6_survivor 49 = .ok (.getfield 7, 3) := by decide +kernel
theorem dX6_survivor_52 : decode cX6_survivor 52 = .ok (.bipush 9, 2) := by decide +kernel
theorem dX6_survivor_54 : decode cX6_survivor 54 = .ok (.iaload, 1) := by decide +kernel
theorem dX6_survivor_55 : decode cX6_survivor 55 = .ok (.iconst 1, 1) := by decide +kernel
theorem dX6_survivor_56 : decode cX6_survivor 56 = .ok (.isub, 1) := by decide +kernel
theorem dX6_survivor_57 : decode cX6_survivor 57 = .ok (.iload_n 2, 1) := by decide +kernel
theorem dX6_survivor_58 : decode cX6_survivor 58 = .ok (.isub, 1) := by decide +kernel
theorem dX6_survivor_59 : decode cX6_survivor 59 = .ok (.invokevirtual 73, 3) := by decide +kernel
theorem dX6_survivor_62 : decode cX6_survivor 62 = .ok (.ireturn, 1) := by decide +kernel
set_option maxRecDepth 20000 in
theorem ggX6_areAlikeAt_X6_bestState : GoodIn wsX6_areAlikeAt wsX6_bestState := goodIn_r _ [6, 1, 7, 8, 9, 5, 10, 15, 16, 17, 18, 19, 20, 21, 22, 23, 24, 25] (by decide +kernel) (by decide +kernel)
set_option maxRecDepth 20000 in
theorem gX6_areAlikeAt_X6_bestState : GoodIn wsX6_areAlikeAt (wsV RX6 83 RX6 yX6_bestState wsX6_bestState) := goodIn_app (goodIn_of _ (by decide +kernel)) ggX6_areAlikeAt_X6_bestState
set_option maxRecDepth 20000 in
theorem ggX6_areAlikeAt_X6_walkBit : GoodIn wsX6_areAlikeAt wsX6_walkBit := goodIn_r _ [14, 1, 15, 16, 17, 18, 19, 20, 21, 22, 23, 24, 25] (by decide +kernel) (by decide +kernel)
set_option maxRecDepth 20000 in
theorem gX6_areAlikeAt_X6_walkBit : GoodIn wsX6_areAlikeAt (wsV RX6 73 RX6 yX6_walkBit wsX6_walkBit) := goodIn_app (goodIn_of _ (by decide +kernel)) ggX6_areAlikeAt_X6_walkBit
set_option maxRecDepth 20000 in
theorem ggX6_areAlikeAt_X6_registers : GoodIn wsX6_areAlikeAt wsX6_registers := goodIn_r _ [10, 1, 15, 16, 17, 18, 19, 20, 21, 22, 23, 24, 25] (by decide +kernel) (by decide +kernel)
set_option maxRecDepth 20000 in
theorem gX6_areAlikeAt_X6_registers : GoodIn wsX6_areAlikeAt (wsV RX6 41 RX6 yX6_registers wsX6_registers) := goodIn_app (goodIn_of _ (by decide +kernel)) ggX6_areAlikeAt_X6_registers
theorem dX6_areAlikeAt_0 : decode cX6_areAlikeAt 0 = .ok (.aload_n 0, 1) := by decide +kernel
theorem dX6_areAlikeAt_1 : decode cX6_areAlikeAt 1 = .ok (.aload_n 0, 1) := by decide +kernel
theorem dX6_areAlikeAt_2 : decode cX6_areAlikeAt 2 = .ok (.invokevirtual 83, 3) := by decide +kernel
theorem dX6_areAlikeAt_5 : decode cX6_areAlikeAt 5 = .ok (.iload_n 1, 1) := by decide +kernel
theorem dX6_areAlikeAt_6 : decode cX6_areAlikeAt 6 = .ok (.invokevirtual 73, 3) := by decide +kernel
theorem dX6_areAlikeAt_9 : decode cX6_areAlikeAt 9 = .ok (.istore_n 2, 1) := by decide +kernel
theorem dX6_areAlikeAt_10 : decode cX6_areAlikeAt 10 = .ok (.iconst 1, 1) := by decide +kernel
theorem dX6_areAlikeAt_11 : decode cX6_areAlikeAt 11 = .ok (.istore_n 3, 1) := by decide +kernel
theorem dX6_areAlikeAt_12 : decode cX6_areAlikeAt 12 = .ok (.iconst 0, 1) := by decide +kernel
theorem dX6_areAlikeAt_13 : decode cX6_areAlikeAt 13 = .ok (.istore 4, 2) := by decide +kernel
theorem dX6_areAlikeAt_15 : decode cX6_areAlikeAt 15 = .ok (.iload 4, 2) := by decide +kernel
theorem dX6_areAlikeAt_17 : decode cX6_areAlikeAt 17 = .ok (.aload_n 0, 1) := by decide +kernel
theorem dX6_areAlikeAt_18 : decode cX6_areAlikeAt 18 = .ok (.invokevirtual 41, 3) := by decide +kernel
theorem dX6_areAlikeAt_21 : decode cX6_areAlikeAt 21 = .ok (.if_icmp .ge 44, 3) := by decide +kernel
theorem dX6_areAlikeAt_24 : decode cX6_areAlikeAt 24 = .ok (.iload_n 3, 1) := by decide +kernel
theorem dX6_areAlikeAt_25 : decode cX6_areAlikeAt 25 = .ok (.ifCond .eq 32, 3) := by decide +kernel
theorem dX6_areAlikeAt_28 : decode cX6_areAlikeAt 28 = .ok (.aload_n 0, 1) := by decide +kernel
theorem dX6_areAlikeAt_29 : decode cX6_areAlikeAt 29 = .ok (.getfield 7, 3) := by decide +kernel
theorem dX6_areAlikeAt_32 : decode cX6_areAlikeAt 32 = .ok (.sipush 572, 3) := by decide +kernel
theorem dX6_areAlikeAt_35 : decode cX6_areAlikeAt 35 = .ok (.iload 4, 2) := by decide +kernel
theorem dX6_areAlikeAt_37 : decode cX6_areAlikeAt 37 = .ok (.iadd, 1) := by decide +kernel
theorem dX6_areAlikeAt_38 : decode cX6_areAlikeAt 38 = .ok (.iaload, 1) := by decide +kernel
theorem dX6_areAlikeAt_39 : decode cX6_areAlikeAt 39 = .ok (.ifCond .lt 14, 3) := by decide +kernel
theorem dX6_areAlikeAt_42 : decode cX6_areAlikeAt 42 = .ok (.aload_n 0, 1) := by decide +kernel
theorem dX6_areAlikeAt_43 : decode cX6_areAlikeAt 43 = .ok (.iload 4, 2) := by decide +kernel
theorem dX6_areAlikeAt_45 : decode cX6_areAlikeAt 45 = .ok (.iload_n 1, 1) := by decide +kernel
theorem dX6_areAlikeAt_46 : decode cX6_areAlikeAt 46 = .ok (.invokevirtual 73, 3) := by decide +kernel
theorem dX6_areAlikeAt_49 : decode cX6_areAlikeAt 49 = .ok (.iload_n 2, 1) := by decide +kernel
theorem dX6_areAlikeAt_50 : decode cX6_areAlikeAt 50 = .ok (.if_icmp .ne 7, 3) := by decide +kernel
theorem dX6_areAlikeAt_53 : decode cX6_areAlikeAt 53 = .ok (.iconst 1, 1) := by decide +kernel
theorem dX6_areAlikeAt_54 : decode cX6_areAlikeAt 54 = .ok (.goto 4, 3) := by decide +kernel
theorem dX6_areAlikeAt_57 : decode cX6_areAlikeAt 57 = .ok (.iconst 0, 1) := by decide +kernel
theorem dX6_areAlikeAt_58 : decode cX6_areAlikeAt 58 = .ok (.istore_n 3, 1) := by decide +kernel
theorem dX6_areAlikeAt_59 : decode cX6_areAlikeAt 59 = .ok (.iinc 4 1, 3) := by decide +kernel
theorem dX6_areAlikeAt_62 : decode cX6_areAlikeAt 62 = .ok (.goto (-47), 3) := by decide +kernel
theorem dX6_areAlikeAt_65 : decode cX6_areAlikeAt 65 = .ok (.iload_n 3, 1) := by decide +kernel
theorem dX6_areAlikeAt_66 : decode cX6_areAlikeAt 66 = .ok (.ireturn, 1) := by decide +kernel
set_option maxRecDepth 20000 in
theorem ggX6_agreed_X6_areAlikeAt : GoodIn wsX6_agreed wsX6_areAlikeAt := goodIn_r _ [6, 1, 7, 8, 9, 5, 10, 11, 12, 13, 14, 15, 16, 17, 18, 19, 20, 21, 22, 23, 24, 25, 26, 27, 28, 29] (by decide +kernel) (by decide +kernel)
set_option maxRecDepth 20000 in
theorem gX6_agreed_X6_areAlikeAt : GoodIn wsX6_agreed (wsV RX6 100 RX6 yX6_areAlikeAt wsX6_areAlikeAt) := goodIn_app (goodIn_of _ (by decide +kernel)) ggX6_agreed_X6_areAlikeAt
theorem dX6_agreed_0 : decode cX6_agreed 0 = .ok (.iconst 0, 1) := by decide +kernel
theorem dX6_agreed_1 : decode cX6_agreed 1 = .ok (.istore_n 1, 1) := by decide +kernel
theorem dX6_agreed_2 : decode cX6_agreed 2 = .ok (.iload_n 1, 1) := by decide +kernel
theorem dX6_agreed_3 : decode cX6_agreed 3 = .ok (.aload_n 0, 1) := by decide +kernel
theorem dX6_agreed_4 : decode cX6_agreed 4 = .ok (.getfield 7, 3) := by decide +kernel
theorem dX6_agreed_7 : decode cX6_agreed 7 = .ok (.bipush 9, 2) := by decide +kernel
theorem dX6_agreed_9 : decode cX6_agreed 9 = .ok (.iaload, 1) := by decide +kernel
theorem dX6_agreed_10 : decode cX6_agreed 10 = .ok (.if_icmp .ge 17, 3) := by decide +kernel
theorem dX6_agreed_13 : decode cX6_agreed 13 = .ok (.aload_n 0, 1) := by decide +kernel
theorem dX6_agreed_14 : decode cX6_agreed 14 = .ok (.iload_n 1, 1) := by decide +kernel
theorem dX6_agreed_15 : decode cX6_agreed 15 = .ok (.invokevirtual 100, 3) := by decide +kernel
theorem dX6_agreed_18 : decode cX6_agreed 18 = .ok (.ifCond .eq 9, 3) := by decide +kernel
theorem dX6_agreed_21 : decode cX6_agreed 21 = .ok (.iinc 1 1, 3) := by decide +kernel
theorem dX6_agreed_24 : decode cX6_agreed 24 = .ok (.goto (-22), 3) := by decide +kernel
theorem dX6_agreed_27 : decode cX6_agreed 27 = .ok (.iload_n 1, 1) := by decide +kernel
theorem dX6_agreed_28 : decode cX6_agreed 28 = .ok (.ireturn, 1) := by decide +kernel
set_option maxRecDepth 20000 in
theorem ggX6_layFar_X6_registers : GoodIn wsX6_layFar wsX6_registers := goodIn_r _ [6, 7, 20, 21, 22, 23, 24, 25, 26, 27, 28, 29, 30] (by decide +kernel) (by decide +kernel)
set_option maxRecDepth 20000 in
theorem gX6_layFar_X6_registers : GoodIn wsX6_layFar (wsV RX6 41 RX6 yX6_registers wsX6_registers) := goodIn_app (goodIn_of _ (by decide +kernel)) ggX6_layFar_X6_registers
set_option maxRecDepth 20000 in
theorem ggX6_layFar_X6_ones : GoodIn wsX6_layFar wsX6_ones := goodIn_r _ [11, 7, 12, 13, 14, 5, 15, 20, 21, 22, 23, 24, 25, 26, 27, 28, 29, 30] (by decide +kernel) (by decide +kernel)
set_option maxRecDepth 20000 in
theorem gX6_layFar_X6_ones : GoodIn wsX6_layFar (wsV RX6 103 RX6 yX6_ones wsX6_ones) := goodIn_app (goodIn_of _ (by decide +kernel)) ggX6_layFar_X6_ones
set_option maxRecDepth 20000 in
theorem ggX6_layFar_X6_window : GoodIn wsX6_layFar wsX6_window := goodIn_r _ [19, 2, 3, 4, 5, 6, 7, 20, 21, 22, 23, 24, 25, 26, 27, 28, 29, 30] (by decide +kernel) (by decide +kernel)
set_option maxRecDepth 20000 in
theorem gX6_layFar_X6_window : GoodIn wsX6_layFar (wsV RX6 59 RX6 yX6_window wsX6_window) := goodIn_app (goodIn_of _ (by decide +kernel)) ggX6_layFar_X6_window
theorem dX6_layFar_0 : decode cX6_layFar 0 = .ok (.iconst 0, 1) := by decide +kernel
theorem dX6_layFar_1 : decode cX6_layFar 1 = .ok (.istore_n 1, 1) := by decide +kernel
theorem dX6_layFar_2 : decode cX6_layFar 2 = .ok (.iload_n 1, 1) := by decide +kernel
theorem dX6_layFar_3 : decode cX6_layFar 3 = .ok (.bipush 32, 2) := by decide +kernel
theorem dX6_layFar_5 : decode cX6_layFar 5 = .ok (.if_icmp .ge 16, 3) := by decide +kernel
theorem dX6_layFar_8 : decode cX6_layFar 8 = .ok (.aload_n 0, 1) := by decide +kernel
theorem dX6_layFar_9 : decode cX6_layFar 9 = .ok (.getfield 31, 3) := by decide +kernel
theorem dX6_layFar_12 : decode cX6_layFar 12 = .ok (.iload_n 1, 1) := by decide +kernel
theorem dX6_layFar_13 : decode cX6_layFar 13 = .ok (.iconst (-1), 1) := by decide +kernel
theorem dX6_layFar_14 : decode cX6_layFar 14 = .ok (.iastore, 1) := by decide +kernel
theorem dX6_layFar_15 : decode cX6_layFar 15 = .ok (.iinc 1 1, 3) := by decide +kernel
theorem dX6_layFar_18 : decode cX6_layFar 18 = .ok (.goto (-16), 3) := by decide +kernel
theorem dX6_layFar_21 : decode cX6_layFar 21 = .ok (.aload_n 0, 1) := by decide +kernel
theorem dX6_layFar_22 : decode cX6_layFar 22 = .ok (.getfield 31, 3) := by decide +kernel
theorem dX6_layFar_25 : decode cX6_layFar 25 = .ok (.aload_n 0, 1) := by decide +kernel
theorem dX6_layFar_26 : decode cX6_layFar 26 = .ok (.invokevirtual 41, 3) := by decide +kernel
theorem dX6_layFar_29 : decode cX6_layFar 29 = .ok (.iconst 2, 1) := by decide +kernel
theorem dX6_layFar_30 : decode cX6_layFar 30 = .ok (.idiv, 1) := by decide +kernel
theorem dX6_layFar_31 : decode cX6_layFar 31 = .ok (.aload_n 0, 1) := by decide +kernel
theorem dX6_layFar_32 : decode cX6_layFar 32 = .ok (.aload_n 0, 1) := by decide +kernel
theorem dX6_layFar_33 : decode cX6_layFar 33 = .ok (.invokevirtual 41, 3) := by decide +kernel
theorem dX6_layFar_36 : decode cX6_layFar 36 = .ok (.invokevirtual 103, 3) := by decide +kernel
theorem dX6_layFar_39 : decode cX6_layFar 39 = .ok (.iastore, 1) := by decide +kernel
theorem dX6_layFar_40 : decode cX6_layFar 40 = .ok (.iconst 1, 1) := by decide +kernel
theorem dX6_layFar_41 : decode cX6_layFar 41 = .ok (.istore_n 1, 1) := by decide +kernel
theorem dX6_layFar_42 : decode cX6_layFar 42 = .ok (.iload_n 1, 1) := by decide +kernel
theorem dX6_layFar_43 : decode cX6_layFar 43 = .ok (.ifCond .eq 113, 3) := by decide +kernel
theorem dX6_layFar_46 : decode cX6_layFar 46 = .ok (.iconst 0, 1) := by decide +kernel
theorem dX6_layFar_47 : decode cX6_layFar 47 = .ok (.istore_n 1, 1) := by decide +kernel
theorem dX6_layFar_48 : decode cX6_layFar 48 = .ok (.iconst 1, 1) := by decide +kernel
theorem dX6_layFar_49 : decode cX6_layFar 49 = .ok (.istore_n 2, 1) := by decide +kernel
theorem dX6_layFar_50 : decode cX6_layFar 50 = .ok (.iload_n 2, 1) := by decide +kernel
theorem dX6_layFar_51 : decode cX6_layFar 51 = .ok (.aload_n 0, 1) := by decide +kernel
theorem dX6_layFar_52 : decode cX6_layFar 52 = .ok (.invokevirtual 41, 3) := by decide +kernel
theorem dX6_layFar_55 : decode cX6_layFar 55 = .ok (.if_icmp .ge 98, 3) := by decide +kernel
theorem dX6_layFar_58 : decode cX6_layFar 58 = .ok (.iconst 0, 1) := by decide +kernel
theorem dX6_layFar_59 : decode cX6_layFar 59 = .ok (.istore_n 3, 1) := by decide +kernel
theorem dX6_layFar_60 : decode cX6_layFar 60 = .ok (.iload_n 3, 1) := by decide +kernel
theorem dX6_layFar_61 : decode cX6_layFar 61 = .ok (.iconst 2, 1) := by decide +kernel
theorem dX6_layFar_62 : decode cX6_layFar 62 = .ok (.if_icmp .ge 85, 3) := by decide +kernel
theorem dX6_layFar_65 : decode cX6_layFar 65 = .ok (.aload_n 0, 1) := by decide +kernel
theorem dX6_layFar_66 : decode cX6_layFar 66 = .ok (.getfield 31, 3) := by decide +kernel
theorem dX6_layFar_69 : decode cX6_layFar 69 = .ok (.iload_n 2, 1) := by decide +kernel
theorem dX6_layFar_70 : decode cX6_layFar 70 = .ok (.iaload, 1) := by decide +kernel
theorem dX6_layFar_71 : decode cX6_layFar 71 = .ok (.ifCond .lt 76, 3) := by decide +kernel
theorem dX6_layFar_74 : decode cX6_layFar 74 = .ok (.aload_n 0, 1) := by decide +kernel
theorem dX6_layFar_75 : decode cX6_layFar 75 = .ok (.iload_n 2, 1) := by decide +kernel
theorem dX6_layFar_76 : decode cX6_layFar 76 = .ok (.iload_n 3, 1) := by decide +kernel
theorem dX6_layFar_77 : decode cX6_layFar 77 = .ok (.invokevirtual 59, 3) := by decide +kernel
theorem dX6_layFar_80 : decode cX6_layFar 80 = .ok (.iconst 2, 1) := by decide +kernel
theorem dX6_layFar_81 : decode cX6_layFar 81 = .ok (.idiv, 1) := by decide +kernel
theorem dX6_layFar_82 : decode cX6_layFar 82 = .ok (.istore 4, 2) := by decide +kernel
theorem dX6_layFar_84 : decode cX6_layFar 84 = .ok (.aload_n 0, 1) := by decide +kernel
theorem dX6_layFar_85 : decode cX6_layFar 85 = .ok (.getfield 31, 3) := by decide +kernel
theorem dX6_layFar_88 : decode cX6_layFar 88 = .ok (.iload_n 2, 1) := by decide +kernel
theorem dX6_layFar_89 : decode cX6_layFar 89 = .ok (.iaload, 1) := by decide +kernel
theorem dX6_layFar_90 : decode cX6_layFar 90 = .ok (.aload_n 0, 1) := by decide +kernel
theorem dX6_layFar_91 : decode cX6_layFar 91 = .ok (.aload_n 0, 1) := by decide +kernel
theorem dX6_layFar_92 : decode cX6_layFar 92 = .ok (.iload_n 2, 1) := by decide +kernel
theorem dX6_layFar_93 : decode cX6_layFar 93 = .ok (.iload_n 3, 1) := by decide +kernel
theorem dX6_layFar_94 : decode cX6_layFar 94 = .ok (.invokevirtual 59, 3) := by decide +kernel
theorem dX6_layFar_97 : decode cX6_layFar 97 = .ok (.invokevirtual 103, 3) := by decide +kernel
theorem dX6_layFar_100 : decode cX6_layFar 100 = .ok (.iadd, 1) := by decide +kernel
theorem dX6_layFar_101 : decode cX6_layFar 101 = .ok (.istore 5, 2) := by decide +kernel
theorem dX6_layFar_103 : decode cX6_layFar 103 = .ok (.iload 4, 2) := by decide +kernel
theorem dX6_layFar_105 : decode cX6_layFar 105 = .ok (.ifCond .le 36, 3) := by decide +kernel
theorem dX6_layFar_108 : decode cX6_layFar 108 = .ok (.aload_n 0, 1) := by decide +kernel
theorem dX6_layFar_109 : decode cX6_layFar 109 = .ok (.getfield 31, 3) := by decide +kernel
theorem dX6_layFar_112 : decode cX6_layFar 112 = .ok (.iload 4, 2) := by decide +kernel
theorem dX6_layFar_114 : decode cX6_layFar 114 = .ok (.iaload, 1) := by decide +kernel
theorem dX6_layFar_115 : decode cX6_layFar 115 = .ok (.ifCond .lt 15, 3) := by decide +kernel
theorem dX6_layFar_118 : decode cX6_layFar 118 = .ok (.iload 5, 2) := by decide +kernel
theorem dX6_layFar_120 : decode cX6_layFar 120 = .ok (.aload_n 0, 1) := by decide +kernel
theorem dX6_layFar_121 : decode cX6_layFar 121 = .ok (.getfield 31, 3) := by decide +kernel
theorem dX6_layFar_124 : decode cX6_layFar 124 = .ok (.iload 4, 2) := by decide +kernel
theorem dX6_layFar_126 : decode cX6_layFar 126 = .ok (.iaload, 1) := by decide +kernel
theorem dX6_layFar_127 : decode cX6_layFar 127 = .ok (.if_icmp .ge 14, 3) := by decide +kernel
theorem dX6_layFar_130 : decode cX6_layFar 130 = .ok (.aload_n 0, 1) := by decide +kernel
theorem dX6_layFar_131 : decode cX6_layFar 131 = .ok (.getfield 31, 3) := by decide +kernel
theorem dX6_layFar_134 : decode cX6_layFar 134 = .ok (.iload 4, 2) := by decide +kernel
theorem dX6_layFar_136 : decode cX6_layFar 136 = .ok (.iload 5, 2) := by decide +kernel
theorem dX6_layFar_138 : decode cX6_layFar 138 = .ok (.iastore, 1) := by decide +kernel
theorem dX6_layFar_139 : decode cX6_layFar 139 = .ok (.iconst 1, 1) := by decide +kernel
theorem dX6_layFar_140 : decode cX6_layFar 140 = .ok (.istore_n 1, 1) := by decide +kernel
theorem dX6_layFar_141 : decode cX6_layFar 141 = .ok (.iinc 3 1, 3) := by decide +kernel
theorem dX6_layFar_144 : decode cX6_layFar 144 = .ok (.goto (-84), 3) := by decide +kernel
theorem dX6_layFar_147 : decode cX6_layFar 147 = .ok (.iinc 2 1, 3) := by decide +kernel
theorem dX6_layFar_150 : decode cX6_layFar 150 = .ok (.goto (-100), 3) := by decide +kernel
theorem dX6_layFar_153 : decode cX6_layFar 153 = .ok (.goto (-111), 3) := by decide +kernel
theorem dX6_layFar_156 : decode cX6_layFar 156 = .ok (.return_, 1) := by decide +kernel
set_option maxRecDepth 20000 in
theorem ggX6_freeDistance_X6_layFar : GoodIn wsX6_freeDistance wsX6_layFar := goodIn_r _ [6, 1, 7, 8, 9, 5, 10, 11, 12, 13, 14, 15, 16, 17, 18, 19, 20, 21, 22, 23, 24, 25, 26, 27, 28, 29, 30, 31, 32, 33, 34] (by decide +kernel) (by decide +kernel)
set_option maxRecDepth 20000 in
theorem gX6_freeDistance_X6_layFar : GoodIn wsX6_freeDistance (wsV RX6 106 RX6 yX6_layFar wsX6_layFar) := goodIn_app (goodIn_of _ (by decide +kernel)) ggX6_freeDistance_X6_layFar
set_option maxRecDepth 20000 in
theorem ggX6_freeDistance_X6_ones : GoodIn wsX6_freeDistance wsX6_ones := goodIn_r _ [15, 11, 16, 17, 18, 5, 19, 24, 25, 26, 27, 28, 29, 30, 31, 32, 33, 34] (by decide +kernel) (by decide +kernel)
set_option maxRecDepth 20000 in
theorem gX6_freeDistance_X6_ones : GoodIn wsX6_freeDistance (wsV RX6 103 RX6 yX6_ones wsX6_ones) := goodIn_app (goodIn_of _ (by decide +kernel)) ggX6_freeDistance_X6_ones
theorem dX6_freeDistance_0 : decode cX6_freeDistance 0 = .ok (.aload_n 0, 1) := by decide +kernel
theorem dX6_freeDistance_1 : decode cX6_freeDistance 1 = .ok (.invokevirtual 106, 3) := by decide +kernel
theorem dX6_freeDistance_4 : decode cX6_freeDistance 4 = .ok (.aload_n 0, 1) := by decide +kernel
theorem dX6_freeDistance_5 : decode cX6_freeDistance 5 = .ok (.getfield 31, 3) := by decide +kernel
theorem dX6_freeDistance_8 : decode cX6_freeDistance 8 = .ok (.iconst 1, 1) := by decide +kernel
theorem dX6_freeDistance_9 : decode cX6_freeDistance 9 = .ok (.iaload, 1) := by decide +kernel
theorem dX6_freeDistance_10 : decode cX6_freeDistance 10 = .ok (.ifCond .ge 8, 3) := by decide +kernel
theorem dX6_freeDistance_13 : decode cX6_freeDistance 13 = .ok (.bipush 41, 2) := by decide +kernel
theorem dX6_freeDistance_15 : decode cX6_freeDistance 15 = .ok (.goto 15, 3) := by decide +kernel
theorem dX6_freeDistance_18 : decode cX6_freeDistance 18 = .ok (.aload_n 0, 1) := by decide +kernel
theorem dX6_freeDistance_19 : decode cX6_freeDistance 19 = .ok (.getfield 31, 3) := by decide +kernel
theorem dX6_freeDistance_22 : decode cX6_freeDistance 22 = .ok (.iconst 1, 1) := by decide +kernel
theorem dX6_freeDistance_23 : decode cX6_freeDistance 23 = .ok (.iaload, 1) := by decide +kernel
theorem dX6_freeDistance_24 : decode cX6_freeDistance 24 = .ok (.aload_n 0, 1) := by decide +kernel
theorem dX6_freeDistance_25 : decode cX6_freeDistance 25 = .ok (.iconst 1, 1) := by decide +kernel
theorem dX6_freeDistance_26 : decode cX6_freeDistance 26 = .ok (.invokevirtual 103, 3) := by decide +kernel
theorem dX6_freeDistance_29 : decode cX6_freeDistance 29 = .ok (.iadd, 1) := by decide +kernel
theorem dX6_freeDistance_30 : decode cX6_freeDistance 30 = .ok (.istore_n 1, 1) := by decide +kernel
theorem dX6_freeDistance_31 : decode cX6_freeDistance 31 = .ok (.iload_n 1, 1) := by decide +kernel
theorem dX6_freeDistance_32 : decode cX6_freeDistance 32 = .ok (.bipush 40, 2) := by decide +kernel
theorem dX6_freeDistance_34 : decode cX6_freeDistance 34 = .ok (.if_icmp .le 8, 3) := by decide +kernel
theorem dX6_freeDistance_37 : decode cX6_freeDistance 37 = .ok (.bipush (-5), 2) := by decide +kernel
theorem dX6_freeDistance_39 : decode cX6_freeDistance 39 = .ok (.goto 4, 3) := by decide +kernel
theorem dX6_freeDistance_42 : decode cX6_freeDistance 42 = .ok (.iload_n 1, 1) := by decide +kernel
theorem dX6_freeDistance_43 : decode cX6_freeDistance 43 = .ok (.ireturn, 1) := by decide +kernel
set_option maxRecDepth 20000 in
theorem ggX6_goesOn_X6_window : GoodIn wsX6_goesOn wsX6_window := goodIn_r _ [5, 6, 7, 8, 4, 9, 10, 19, 20, 21, 22, 23, 24, 25, 26, 27, 28, 29] (by decide +kernel) (by decide +kernel)
set_option maxRecDepth 20000 in
theorem gX6_goesOn_X6_window : GoodIn wsX6_goesOn (wsV RX6 59 RX6 yX6_window wsX6_window) := goodIn_app (goodIn_of _ (by decide +kernel)) ggX6_goesOn_X6_window
set_option maxRecDepth 20000 in
theorem ggX6_goesOn_X6_ones : GoodIn wsX6_goesOn wsX6_ones := goodIn_r _ [14, 10, 15, 16, 17, 4, 18, 19, 20, 21, 22, 23, 24, 25, 26, 27, 28, 29] (by decide +kernel) (by decide +kernel)
set_option maxRecDepth 20000 in
theorem gX6_goesOn_X6_ones : GoodIn wsX6_goesOn (wsV RX6 103 RX6 yX6_ones wsX6_ones) := goodIn_app (goodIn_of _ (by decide +kernel)) ggX6_goesOn_X6_ones
theorem dX6_goesOn_0 : decode cX6_goesOn 0 = .ok (.iconst 0, 1) := by decide +kernel
theorem dX6_goesOn_1 : decode cX6_goesOn 1 = .ok (.istore_n 3, 1) := by decide +kernel
theorem dX6_goesOn_2 : decode cX6_goesOn 2 = .ok (.iconst 0, 1) := by decide +kernel
theorem dX6_goesOn_3 : decode cX6_goesOn 3 = .ok (.istore 4, 2) := by decide +kernel
theorem dX6_goesOn_5 : decode cX6_goesOn 5 = .ok (.iload 4, 2) := by decide +kernel
theorem dX6_goesOn_7 : decode cX6_goesOn 7 = .ok (.iconst 2, 1) := by decide +kernel
theorem dX6_goesOn_8 : decode cX6_goesOn 8 = .ok (.if_icmp .ge 49, 3) := by decide +kernel
theorem dX6_goesOn_11 : decode cX6_goesOn 11 = .ok (.aload_n 0, 1) := by decide +kernel
theorem dX6_goesOn_12 : decode cX6_goesOn 12 = .ok (.iload_n 1, 1) := by decide +kernel
theorem dX6_goesOn_13 : decode cX6_goesOn 13 = .ok (.iload 4, 2) := by decide +kernel
theorem dX6_goesOn_15 : decode cX6_goesOn 15 = .ok (.invokevirtual 59, 3) := by decide +kernel
theorem dX6_goesOn_18 : decode cX6_goesOn 18 = .ok (.istore 5, 2) := by decide +kernel
theorem dX6_goesOn_20 : decode cX6_goesOn 20 = .ok (.iload_n 3, 1) := by decide +kernel
theorem dX6_goesOn_21 : decode cX6_goesOn 21 = .ok (.ifCond .ne 24, 3) := by decide +kernel
theorem dX6_goesOn_24 : decode cX6_goesOn 24 = .ok (.aload_n 0, 1) := by decide +kernel
theorem dX6_goesOn_25 : decode cX6_goesOn 25 = .ok (.iload 5, 2) := by decide +kernel
theorem dX6_goesOn_27 : decode cX6_goesOn 27 = .ok (.invokevirtual 103, 3) := by decide +kernel
theorem dX6_goesOn_30 : decode cX6_goesOn 30 = .ok (.ifCond .ne 19, 3) := by decide +kernel
theorem dX6_goesOn_33 : decode cX6_goesOn 33 = .ok (.iload_n 2, 1) := by decide +kernel
theorem dX6_goesOn_34 : decode cX6_goesOn 34 = .ok (.iload 5, 2) := by decide +kernel
theorem dX6_goesOn_36 : decode cX6_goesOn 36 = .ok (.iconst 2, 1) := by decide +kernel
theorem dX6_goesOn_37 : decode cX6_goesOn 37 = .ok (.idiv, 1) := by decide +kernel
theorem dX6_goesOn_38 : decode cX6_goesOn 38 = .ok (.ishr, 1) := by decide +kernel
theorem dX6_goesOn_39 : decode cX6_goesOn 39 = .ok (.iconst 1, 1) := by decide +kernel
theorem dX6_goesOn_40 : decode cX6_goesOn 40 = .ok (.iand, 1) := by decide +kernel
theorem dX6_goesOn_41 : decode cX6_goesOn 41 = .ok (.iconst 1, 1) := by decide +kernel
theorem dX6_goesOn_42 : decode cX6_goesOn 42 = .ok (.if_icmp .ne 7, 3) := by decide +kernel
theorem dX6_goesOn_45 : decode cX6_goesOn 45 = .ok (.iconst 1, 1) := by decide +kernel
theorem dX6_goesOn_46 : decode cX6_goesOn 46 = .ok (.goto 4, 3) := by decide +kernel
theorem dX6_goesOn_49 : decode cX6_goesOn 49 = .ok (.iconst 0, 1) := by decide +kernel
theorem dX6_goesOn_50 : decode cX6_goesOn 50 = .ok (.istore_n 3, 1) := by decide +kernel
theorem dX6_goesOn_51 : decode cX6_goesOn 51 = .ok (.iinc 4 1, 3) := by decide +kernel
theorem dX6_goesOn_54 : decode cX6_goesOn 54 = .ok (.goto (-49), 3) := by decide +kernel
theorem dX6_goesOn_57 : decode cX6_goesOn 57 = .ok (.iload_n 3, 1) := by decide +kernel
theorem dX6_goesOn_58 : decode cX6_goesOn 58 = .ok (.ireturn, 1) := by decide +kernel
set_option maxRecDepth 20000 in
theorem ggX6_hasIdleRing_X6_registers : GoodIn wsX6_hasIdleRing wsX6_registers := goodIn_r _ [5, 6, 23, 24, 25, 26, 27, 28, 29, 30, 31, 32, 33] (by decide +kernel) (by decide +kernel)
set_option maxRecDepth 20000 in
theorem gX6_hasIdleRing_X6_registers : GoodIn wsX6_hasIdleRing (wsV RX6 41 RX6 yX6_registers wsX6_registers) := goodIn_app (goodIn_of _ (by decide +kernel)) ggX6_hasIdleRing_X6_registers
set_option maxRecDepth 20000 in
theorem ggX6_hasIdleRing_X6_goesOn : GoodIn wsX6_hasIdleRing wsX6_goesOn := goodIn_r _ [10, 11, 12, 13, 4, 14, 1, 2, 3, 5, 6, 15, 16, 17, 18, 19, 20, 21, 22, 23, 24, 25, 26, 27, 28, 29, 30, 31, 32, 33] (by decide +kernel) (by decide +kernel)
set_option maxRecDepth 20000 in
theorem gX6_hasIdleRing_X6_goesOn : GoodIn wsX6_hasIdleRing (wsV RX6 109 RX6 yX6_goesOn wsX6_goesOn) := goodIn_app (goodIn_of _ (by decide +kernel)) ggX6_hasIdleRing_X6_goesOn
theorem dX6_hasIdleRing_0 : decode cX6_hasIdleRing 0 = .ok (.iconst 0, 1) := by decide +kernel
theorem dX6_hasIdleRing_1 : decode cX6_hasIdleRing 1 = .ok (.istore_n 1, 1) := by decide +kernel
theorem dX6_hasIdleRing_2 : decode cX6_hasIdleRing 2 = .ok (.iconst 1, 1) := by decide +kernel
theorem dX6_hasIdleRing_3 : decode cX6_hasIdleRing 3 = .ok (.istore_n 2, 1) := by decide +kernel
theorem dX6_hasIdleRing_4 : decode cX6_hasIdleRing 4 = .ok (.iload_n 2, 1) := by decide +kernel
theorem dX6_hasIdleRing_5 : decode cX6_hasIdleRing 5 = .ok (.aload_n 0, 1) := by decide +kernel
theorem dX6_hasIdleRing_6 : decode cX6_hasIdleRing 6 = .ok (.invokevirtual 41, 3) := by decide +kernel
theorem dX6_hasIdleRing_9 : decode cX6_hasIdleRing 9 = .ok (.if_icmp .ge 15, 3) := by decide +kernel
theorem dX6_hasIdleRing_12 : decode cX6_hasIdleRing 12 = .ok (.iload_n 1, 1) := by decide +kernel
theorem dX6_hasIdleRing_13 : decode cX6_hasIdleRing 13 = .ok (.iconst 1, 1) := by decide +kernel
theorem dX6_hasIdleRing_14 : decode cX6_hasIdleRing 14 = .ok (.iload_n 2, 1) := by decide +kernel
theorem dX6_hasIdleRing_15 : decode cX6_hasIdleRing 15 = .ok (.ishl, 1) := by decide +kernel
theorem dX6_hasIdleRing_16 : decode cX6_hasIdleRing 16 = .ok (.ior, 1) := by decide +kernel
theorem dX6_hasIdleRing_17 : decode cX6_hasIdleRing 17 = .ok (.istore_n 1, 1) := by decide +kernel
theorem dX6_hasIdleRing_18 : decode cX6_hasIdleRing 18 = .ok (.iinc 2 1, 3) := by decide +kernel
theorem dX6_hasIdleRing_21 : decode cX6_hasIdleRing 21 = .ok (.goto (-17), 3) := by decide +kernel
theorem dX6_hasIdleRing_24 : decode cX6_hasIdleRing 24 = .ok (.iconst 0, 1) := by decide +kernel
theorem dX6_hasIdleRing_25 : decode cX6_hasIdleRing 25 = .ok (.istore_n 2, 1) := by decide +kernel
theorem dX6_hasIdleRing_26 : decode cX6_hasIdleRing 26 = .ok (.iload_n 1, 1) := by decide +kernel
theorem dX6_hasIdleRing_27 : decode cX6_hasIdleRing 27 = .ok (.iload_n 2, 1) := by decide +kernel
theorem dX6_hasIdleRing_28 : decode cX6_hasIdleRing 28 = .ok (.if_icmp .eq 66, 3) := by decide +kernel
theorem dX6_hasIdleRing_31 : decode cX6_hasIdleRing 31 = .ok (.iload_n 1, 1) := by decide +kernel
theorem dX6_hasIdleRing_32 : decode cX6_hasIdleRing 32 = .ok (.istore_n 2, 1) := by decide +kernel
theorem dX6_hasIdleRing_33 : decode cX6_hasIdleRing 33 = .ok (.iconst 1, 1) := by decide +kernel
theorem dX6_hasIdleRing_34 : decode cX6_hasIdleRing 34 = .ok (.istore_n 3, 1) := by decide +kernel
theorem dX6_hasIdleRing_35 : decode cX6_hasIdleRing 35 = .ok (.iload_n 3, 1) := by decide +kernel
theorem dX6_hasIdleRing_36 : decode cX6_hasIdleRing 36 = .ok (.aload_n 0, 1) := by decide +kernel
theorem dX6_hasIdleRing_37 : decode cX6_hasIdleRing 37 = .ok (.invokevirtual 41, 3) := by decide +kernel
theorem dX6_hasIdleRing_40 : decode cX6_hasIdleRing 40 = .ok (.if_icmp .ge 51, 3) := by decide +kernel
theorem dX6_hasIdleRing_43 : decode cX6_hasIdleRing 43 = .ok (.iload_n 1, 1) := by decide +kernel
theorem dX6_hasIdleRing_44 : decode cX6_hasIdleRing 44 = .ok (.iload_n 3, 1) := by decide +kernel
theorem dX6_hasIdleRing_45 : decode cX6_hasIdleRing 45 = .ok (.ishr, 1) := by decide +kernel
theorem dX6_hasIdleRing_46 : decode cX6_hasIdleRing 46 = .ok (.iconst 1, 1) := by decide +kernel
theorem dX6_hasIdleRing_47 : decode cX6_hasIdleRing 47 = .ok (.iand, 1) := by decide +kernel
theorem dX6_hasIdleRing_48 : decode cX6_hasIdleRing 48 = .ok (.iconst 1, 1) := by decide +kernel
theorem dX6_hasIdleRing_49 : decode cX6_hasIdleRing 49 = .ok (.if_icmp .ne 16, 3) := by decide +kernel
theorem dX6_hasIdleRing_52 : decode cX6_hasIdleRing 52 = .ok (.aload_n 0, 1) := by decide +kernel
theorem dX6_hasIdleRing_53 : decode cX6_hasIdleRing 53 = .ok (.iload_n 3, 1) := by decide +kernel
theorem dX6_hasIdleRing_54 : decode cX6_hasIdleRing 54 = .ok (.iload_n 1, 1) := by decide +kernel
theorem dX6_hasIdleRing_55 : decode cX6_hasIdleRing 55 = .ok (.invokevirtual 109, 3) := by decide +kernel
theorem dX6_hasIdleRing_58 : decode cX6_hasIdleRing 58 = .ok (.ifCond .ne 7, 3) := by decide +kernel
theorem dX6_hasIdleRing_61 : decode cX6_hasIdleRing 61 = .ok (.iconst 1, 1) := by decide +kernel
theorem dX6_hasIdleRing_62 : decode cX6_hasIdleRing 62 = .ok (.goto 4, 3) := by decide +kernel
theorem dX6_hasIdleRing_65 : decode cX6_hasIdleRing 65 = .ok (.iconst 0, 1) := by decide +kernel
theorem dX6_hasIdleRing_66 : decode cX6_hasIdleRing 66 = .ok (.istore 4, 2) := by decide +kernel
theorem dX6_hasIdleRing_68 : decode cX6_hasIdleRing 68 = .ok (.iload 4, 2) := by decide +kernel
theorem dX6_hasIdleRing_70 : decode cX6_hasIdleRing 70 = .ok (.ifCond .eq 13, 3) := by decide +kernel
theorem dX6_hasIdleRing_73 : decode cX6_hasIdleRing 73 = .ok (.iload_n 1, 1) := by decide +kernel
theorem dX6_hasIdleRing_74 : decode cX6_hasIdleRing 74 = .ok (.iconst 1, 1) := by decide +kernel
theorem dX6_hasIdleRing_75 : decode cX6_hasIdleRing 75 = .ok (.iload_n 3, 1) := by decide +kernel
theorem dX6_hasIdleRing_76 : decode cX6_hasIdleRing 76 = .ok (.ishl, 1) := by decide +kernel
theorem dX6_hasIdleRing_77 : decode cX6_hasIdleRing 77 = .ok (.iconst (-1), 1) := by decide +kernel
theorem dX6_hasIdleRing_78 : decode cX6_hasIdleRing 78 = .ok (.ixor, 1) := by decide +kernel
theorem dX6_hasIdleRing_79 : decode cX6_hasIdleRing 79 = .ok (.iand, 1) := by decide +kernel
theorem dX6_hasIdleRing_80 : decode cX6_hasIdleRing 80 = .ok (.goto 4, 3) := by decide +kernel
theorem dX6_hasIdleRing_83 : decode cX6_hasIdleRing 83 = .ok (.iload_n 1, 1) := by decide +kernel
theorem dX6_hasIdleRing_84 : decode cX6_hasIdleRing 84 = .ok (.istore_n 1, 1) := by decide +kernel
theorem dX6_hasIdleRing_85 : decode cX6_hasIdleRing 85 = .ok (.iinc 3 1, 3) := by decide +kernel
theorem dX6_hasIdleRing_88 : decode cX6_hasIdleRing 88 = .ok (.goto (-53), 3) := by decide +kernel
theorem dX6_hasIdleRing_91 : decode cX6_hasIdleRing 91 = .ok (.goto (-65), 3) := by decide +kernel
theorem dX6_hasIdleRing_94 : decode cX6_hasIdleRing 94 = .ok (.iload_n 1, 1) := by decide +kernel
theorem dX6_hasIdleRing_95 : decode cX6_hasIdleRing 95 = .ok (.ifCond .ne 7, 3) := by decide +kernel
theorem dX6_hasIdleRing_98 : decode cX6_hasIdleRing 98 = .ok (.iconst 0, 1) := by decide +kernel
theorem dX6_hasIdleRing_99 : decode cX6_hasIdleRing 99 = .ok (.goto 4, 3) := by decide +kernel
theorem dX6_hasIdleRing_102 : decode cX6_hasIdleRing 102 = .ok (.iconst 1, 1) := by decide +kernel
theorem dX6_hasIdleRing_103 : decode cX6_hasIdleRing 103 = .ok (.ireturn, 1) := by decide +kernel
theorem dX6_wrongBits_0 : decode cX6_wrongBits 0 = .ok (.iconst 0, 1) := by decide +kernel
theorem dX6_wrongBits_1 : decode cX6_wrongBits 1 = .ok (.istore_n 1, 1) := by decide +kernel
theorem dX6_wrongBits_2 : decode cX6_wrongBits 2 = .ok (.iconst 0, 1) := by decide +kernel
theorem dX6_wrongBits_3 : decode cX6_wrongBits 3 = .ok (.istore_n 2, 1) := by decide +kernel
theorem dX6_wrongBits_4 : decode cX6_wrongBits 4 = .ok (.iload_n 2, 1) := by decide +kernel
theorem dX6_wrongBits_5 : decode cX6_wrongBits 5 = .ok (.aload_n 0, 1) := by decide +kernel
theorem dX6_wrongBits_6 : decode cX6_wrongBits 6 = .ok (.getfield 7, 3) := by decide +kernel
theorem dX6_wrongBits_9 : decode cX6_wrongBits 9 = .ok (.bipush 10, 2) := by decide +kernel
theorem dX6_wrongBits_11 : decode cX6_wrongBits 11 = .ok (.iaload, 1) := by decide +kernel
theorem dX6_wrongBits_12 : decode cX6_wrongBits 12 = .ok (.if_icmp .ge 50, 3) := by decide +kernel
theorem dX6_wrongBits_15 : decode cX6_wrongBits 15 = .ok (.iload_n 2, 1) := by decide +kernel
theorem dX6_wrongBits_16 : decode cX6_wrongBits 16 = .ok (.aload_n 0, 1) := by decide +kernel
theorem dX6_wrongBits_17 : decode cX6_wrongBits 17 = .ok (.getfield 7, 3) := by decide +kernel
theorem dX6_wrongBits_20 : decode cX6_wrongBits 20 = .ok (.bipush 7, 2) := by decide +kernel
theorem dX6_wrongBits_22 : decode cX6_wrongBits 22 = .ok (.iaload, 1) := by decide +kernel
theorem dX6_wrongBits_23 : decode cX6_wrongBits 23 = .ok (.if_icmp .ge 39, 3) := by decide +kernel
theorem dX6_wrongBits_26 : decode cX6_wrongBits 26 = .ok (.iload_n 1, 1) := by decide +kernel
theorem dX6_wrongBits_27 : decode cX6_wrongBits 27 = .ok (.aload_n 0, 1) := by decide +kernel
theorem dX6_wrongBits_28 : decode cX6_wrongBits 28 = .ok (.getfield 7, 3) := by decide +kernel
theorem dX6_wrongBits_31 : decode cX6_wrongBits 31 = .ok (.sipush 604, 3) := by decide +kernel
theorem dX6_wrongBits_34 : decode cX6_wrongBits 34 = .ok (.iload_n 2, 1) := by decide +kernel
theorem dX6_wrongBits_35 : decode cX6_wrongBits 35 = .ok (.iadd, 1) := by decide +kernel
theorem dX6_wrongBits_36 : decode cX6_wrongBits 36 = .ok (.iaload, 1) := by decide +kernel
theorem dX6_wrongBits_37 : decode cX6_wrongBits 37 = .ok (.aload_n 0, 1) := by decide +kernel
theorem dX6_wrongBits_38 : decode cX6_wrongBits 38 = .ok (.getfield 7, 3) := by decide +kernel
theorem dX6_wrongBits_41 : decode cX6_wrongBits 41 = .ok (.bipush 12, 2) := by decide +kernel
theorem dX6_wrongBits_43 : decode cX6_wrongBits 43 = .ok (.iload_n 2, 1) := by decide +kernel
theorem dX6_wrongBits_44 : decode cX6_wrongBits 44 = .ok (.iadd, 1) := by decide +kernel
theorem dX6_wrongBits_45 : decode cX6_wrongBits 45 = .ok (.iaload, 1) := by decide +kernel
theorem dX6_wrongBits_46 : decode cX6_wrongBits 46 = .ok (.if_icmp .ne 7, 3) := by decide +kernel
theorem dX6_wrongBits_49 : decode cX6_wrongBits 49 = .ok (.iconst 0, 1) := by decide +kernel
theorem dX6_wrongBits_50 : decode cX6_wrongBits 50 = .ok (.goto 4, 3) := by decide +kernel
theorem dX6_wrongBits_53 : decode cX6_wrongBits 53 = .ok (.iconst 1, 1) := by decide +kernel
theorem dX6_wrongBits_54 : decode cX6_wrongBits 54 = .ok (.iadd, 1) := by decide +kernel
theorem dX6_wrongBits_55 : decode cX6_wrongBits 55 = .ok (.istore_n 1, 1) := by decide +kernel
theorem dX6_wrongBits_56 : decode cX6_wrongBits 56 = .ok (.iinc 2 1, 3) := by decide +kernel
theorem dX6_wrongBits_59 : decode cX6_wrongBits 59 = .ok (.goto (-55), 3) := by decide +kernel
theorem dX6_wrongBits_62 : decode cX6_wrongBits 62 = .ok (.iload_n 1, 1) := by decide +kernel
theorem dX6_wrongBits_63 : decode cX6_wrongBits 63 = .ok (.ireturn, 1) := by decide +kernel
set_option maxRecDepth 20000 in
theorem ggX6_changedSymbols_X6_symbols : GoodIn wsX6_changedSymbols wsX6_symbols := goodIn_r _ [6, 1, 7, 8, 9, 10, 11, 12, 13, 14, 15, 16, 17] (by decide +kernel) (by decide +kernel)
set_option maxRecDepth 20000 in
theorem gX6_changedSymbols_X6_symbols : GoodIn wsX6_changedSymbols (wsV RX6 62 RX6 yX6_symbols wsX6_symbols) := goodIn_app (goodIn_of _ (by decide +kernel)) ggX6_changedSymbols_X6_symbols
theorem dX6_changedSymbols_0 : decode cX6_changedSymbols 0 = .ok (.iconst 0, 1) := by decide +kernel
theorem dX6_changedSymbols_1 : decode cX6_changedSymbols 1 = .ok (.istore_n 2, 1) := by decide +kernel
theorem dX6_changedSymbols_2 : decode cX6_changedSymbols 2 = .ok (.iconst 0, 1) := by decide +kernel
theorem dX6_changedSymbols_3 : decode cX6_changedSymbols 3 = .ok (.istore_n 3, 1) := by decide +kernel
theorem dX6_changedSymbols_4 : decode cX6_changedSymbols 4 = .ok (.iload_n 3, 1) := by decide +kernel
theorem dX6_changedSymbols_5 : decode cX6_changedSymbols 5 = .ok (.aload_n 0, 1) := by decide +kernel
theorem dX6_changedSymbols_6 : decode cX6_changedSymbols 6 = .ok (.invokevirtual 62, 3) := by decide +kernel
theorem dX6_changedSymbols_9 : decode cX6_changedSymbols 9 = .ok (.if_icmp .ge 78, 3) := by decide +kernel
theorem dX6_changedSymbols_12 : decode cX6_changedSymbols 12 = .ok (.iload_n 1, 1) := by decide +kernel
theorem dX6_changedSymbols_13 : decode cX6_changedSymbols 13 = .ok (.ifCond .eq 24, 3) := by decide +kernel
theorem dX6_changedSymbols_16 : decode cX6_changedSymbols 16 = .ok (.aload_n 0, 1) := by decide +kernel
theorem dX6_changedSymbols_17 : decode cX6_changedSymbols 17 = .ok (.getfield 7, 3) := by decide +kernel
theorem dX6_changedSymbols_20 : decode cX6_changedSymbols 20 = .ok (.bipush 92, 2) := by decide +kernel
theorem dX6_changedSymbols_22 : decode cX6_changedSymbols 22 = .ok (.iload_n 3, 1) := by decide +kernel
theorem dX6_changedSymbols_23 : decode cX6_changedSymbols 23 = .ok (.iadd, 1) := by decide +kernel
theorem dX6_changedSymbols_24 : decode cX6_changedSymbols 24 = .ok (.iaload, 1) := by decide +kernel
theorem dX6_changedSymbols_25 : decode cX6_changedSymbols 25 = .ok (.iconst 2, 1) := by decide +kernel
theorem dX6_changedSymbols_26 : decode cX6_changedSymbols 26 = .ok (.if_icmp .ne 7, 3) := by decide +kernel
theorem dX6_changedSymbols_29 : decode cX6_changedSymbols 29 = .ok (.iconst 1, 1) := by decide +kernel
theorem dX6_changedSymbols_30 : decode cX6_changedSymbols 30 = .ok (.goto 36, 3) := by decide +kernel
theorem dX6_changedSymbols_33 : decode cX6_changedSymbols 33 = .ok (.iconst 0, 1) := by decide +kernel
theorem dX6_changedSymbols_34 : decode cX6_changedSymbols 34 = .ok (.goto 32, 3) := by decide +kernel
theorem dX6_changedSymbols_37 : decode cX6_changedSymbols 37 = .ok (.aload_n 0, 1) := by decide +kernel
theorem dX6_changedSymbols_38 : decode cX6_changedSymbols 38 = .ok (.getfield 7, 3) := by decide +kernel
theorem dX6_changedSymbols_41 : decode cX6_changedSymbols 41 = .ok (.bipush 92, 2) := by decide +kernel
theorem dX6_changedSymbols_43 : decode cX6_changedSymbols 43 = .ok (.iload_n 3, 1) := by decide +kernel
theorem dX6_changedSymbols_44 : decode cX6_changedSymbols 44 = .ok (.iadd, 1) := by decide +kernel
theorem dX6_changedSymbols_45 : decode cX6_changedSymbols 45 = .ok (.iaload, 1) := by decide +kernel
theorem dX6_changedSymbols_46 : decode cX6_changedSymbols 46 = .ok (.iconst 1, 1) := by decide +kernel
theorem dX6_changedSymbols_47 : decode cX6_changedSymbols 47 = .ok (.aload_n 0, 1) := by decide +kernel
theorem dX6_changedSymbols_48 : decode cX6_changedSymbols 48 = .ok (.getfield 7, 3) := by decide +kernel
theorem dX6_changedSymbols_51 : decode cX6_changedSymbols 51 = .ok (.sipush 332, 3) := by decide +kernel
theorem dX6_changedSymbols_54 : decode cX6_changedSymbols 54 = .ok (.iload_n 3, 1) := by decide +kernel
theorem dX6_changedSymbols_55 : decode cX6_changedSymbols 55 = .ok (.iadd, 1) := by decide +kernel
theorem dX6_changedSymbols_56 : decode cX6_changedSymbols 56 = .ok (.iaload, 1) := by decide +kernel
theorem dX6_changedSymbols_57 : decode cX6_changedSymbols 57 = .ok (.isub, 1) := by decide +kernel
theorem dX6_changedSymbols_58 : decode cX6_changedSymbols 58 = .ok (.if_icmp .ne 7, 3) := by decide +kernel
theorem dX6_changedSymbols_61 : decode cX6_changedSymbols 61 = .ok (.iconst 1, 1) := by decide +kernel
theorem dX6_changedSymbols_62 : decode cX6_changedSymbols 62 = .ok (.goto 4, 3) := by decide +kernel
theorem dX6_changedSymbols_65 : decode cX6_changedSymbols 65 = .ok (.iconst 0, 1) := by decide +kernel
theorem dX6_changedSymbols_66 : decode cX6_changedSymbols 66 = .ok (.istore 4, 2) := by decide +kernel
theorem dX6_changedSymbols_68 : decode cX6_changedSymbols 68 = .ok (.iload_n 2, 1) := by decide +kernel
theorem dX6_changedSymbols_69 : decode cX6_changedSymbols 69 = .ok (.iload 4, 2) := by decide +kernel
theorem dX6_changedSymbols_71 : decode cX6_changedSymbols 71 = .ok (.ifCond .eq 7, 3) := by decide +kernel
theorem dX6_changedSymbols_74 : decode cX6_changedSymbols 74 = .ok (.iconst 1, 1) := by decide +kernel
theorem dX6_changedSymbols_75 : decode cX6_changedSymbols 75 = .ok (.goto 4, 3) := by decide +kernel
theorem dX6_changedSymbols_78 : decode cX6_changedSymbols 78 = .ok (.iconst 0, 1) := by decide +kernel
theorem dX6_changedSymbols_79 : decode cX6_changedSymbols 79 = .ok (.iadd, 1) := by decide +kernel
theorem dX6_changedSymbols_80 : decode cX6_changedSymbols 80 = .ok (.istore_n 2, 1) := by decide +kernel
theorem dX6_changedSymbols_81 : decode cX6_changedSymbols 81 = .ok (.iinc 3 1, 3) := by decide +kernel
theorem dX6_changedSymbols_84 : decode cX6_changedSymbols 84 = .ok (.goto (-80), 3) := by decide +kernel
theorem dX6_changedSymbols_87 : decode cX6_changedSymbols 87 = .ok (.iload_n 2, 1) := by decide +kernel
theorem dX6_changedSymbols_88 : decode cX6_changedSymbols 88 = .ok (.ireturn, 1) := by decide +kernel
set_option maxRecDepth 20000 in
theorem ggX6_reached_X6_registers : GoodIn wsX6_reached wsX6_registers := goodIn_r _ [6, 1, 7, 8, 9, 10, 11, 12, 13, 14, 15, 16, 17] (by decide +kernel) (by decide +kernel)
set_option maxRecDepth 20000 in
theorem gX6_reached_X6_registers : GoodIn wsX6_reached (wsV RX6 41 RX6 yX6_registers wsX6_registers) := goodIn_app (goodIn_of _ (by decide +kernel)) ggX6_reached_X6_registers
theorem dX6_reached_0 : decode cX6_reached 0 = .ok (.iconst 0, 1) := by decide +kernel
theorem dX6_reached_1 : decode cX6_reached 1 = .ok (.istore_n 1, 1) := by decide +kernel
theorem dX6_reached_2 : decode cX6_reached 2 = .ok (.iconst 0, 1) := by decide +kernel
theorem dX6_reached_3 : decode cX6_reached 3 = .ok (.istore_n 2, 1) := by decide +kernel
theorem dX6_reached_4 : decode cX6_reached 4 = .ok (.iload_n 2, 1) := by decide +kernel
theorem dX6_reached_5 : decode cX6_reached 5 = .ok (.aload_n 0, 1) := by decide +kernel
theorem dX6_reached_6 : decode cX6_reached 6 = .ok (.invokevirtual 41, 3) := by decide +kernel
theorem dX6_reached_9 : decode cX6_reached 9 = .ok (.if_icmp .ge 30, 3) := by decide +kernel
theorem dX6_reached_12 : decode cX6_reached 12 = .ok (.iload_n 1, 1) := by decide +kernel
theorem dX6_reached_13 : decode cX6_reached 13 = .ok (.aload_n 0, 1) := by decide +kernel
theorem dX6_reached_14 : decode cX6_reached 14 = .ok (.getfield 7, 3) := by decide +kernel
theorem dX6_reached_17 : decode cX6_reached 17 = .ok (.sipush 572, 3) := by decide +kernel
theorem dX6_reached_20 : decode cX6_reached 20 = .ok (.iload_n 2, 1) := by decide +kernel
theorem dX6_reached_21 : decode cX6_reached 21 = .ok (.iadd, 1) := by decide +kernel
theorem dX6_reached_22 : decode cX6_reached 22 = .ok (.iaload, 1) := by decide +kernel
theorem dX6_reached_23 : decode cX6_reached 23 = .ok (.ifCond .ge 7, 3) := by decide +kernel
theorem dX6_reached_26 : decode cX6_reached 26 = .ok (.iconst 0, 1) := by decide +kernel
theorem dX6_reached_27 : decode cX6_reached 27 = .ok (.goto 4, 3) := by decide +kernel
theorem dX6_reached_30 : decode cX6_reached 30 = .ok (.iconst 1, 1) := by decide +kernel
theorem dX6_reached_31 : decode cX6_reached 31 = .ok (.iadd, 1) := by decide +kernel
theorem dX6_reached_32 : decode cX6_reached 32 = .ok (.istore_n 1, 1) := by decide +kernel
theorem dX6_reached_33 : decode cX6_reached 33 = .ok (.iinc 2 1, 3) := by decide +kernel
theorem dX6_reached_36 : decode cX6_reached 36 = .ok (.goto (-32), 3) := by decide +kernel
theorem dX6_reached_39 : decode cX6_reached 39 = .ok (.iload_n 1, 1) := by decide +kernel
theorem dX6_reached_40 : decode cX6_reached 40 = .ok (.ireturn, 1) := by decide +kernel
set_option maxRecDepth 20000 in
theorem ggX6_count_X6_symbols : GoodIn wsX6_count wsX6_symbols := goodIn_r _ [8, 1, 25, 26, 27, 28, 29, 30, 31, 32, 33, 34, 35] (by decide +kernel) (by decide +kernel)
set_option maxRecDepth 20000 in
theorem gX6_count_X6_symbols : GoodIn wsX6_count (wsV RX6 62 RX6 yX6_symbols wsX6_symbols) := goodIn_app (goodIn_of _ (by decide +kernel)) ggX6_count_X6_symbols
set_option maxRecDepth 20000 in
theorem ggX6_count_X6_changedSymbols : GoodIn wsX6_count wsX6_changedSymbols := goodIn_r _ [12, 1, 4, 5, 6, 7, 8, 25, 26, 27, 28, 29, 30, 31, 32, 33, 34, 35] (by decide +kernel) (by decide +kernel)
set_option maxRecDepth 20000 in
theorem gX6_count_X6_changedSymbols : GoodIn wsX6_count (wsV RX6 113 RX6 yX6_changedSymbols wsX6_changedSymbols) := goodIn_app (goodIn_of _ (by decide +kernel)) ggX6_count_X6_changedSymbols
set_option maxRecDepth 20000 in
theorem ggX6_count_X6_bestState : GoodIn wsX6_count wsX6_bestState := goodIn_r _ [16, 1, 17, 18, 19, 7, 20, 25, 26, 27, 28, 29, 30, 31, 32, 33, 34, 35] (by decide +kernel) (by decide +kernel)
set_option maxRecDepth 20000 in
theorem gX6_count_X6_bestState : GoodIn wsX6_count (wsV RX6 83 RX6 yX6_bestState wsX6_bestState) := goodIn_app (goodIn_of _ (by decide +kernel)) ggX6_count_X6_bestState
set_option maxRecDepth 20000 in
theorem ggX6_count_X6_reached : GoodIn wsX6_count wsX6_reached := goodIn_r _ [24, 1, 17, 18, 19, 7, 20, 25, 26, 27, 28, 29, 30, 31, 32, 33, 34, 35] (by decide +kernel) (by decide +kernel)
set_option maxRecDepth 20000 in
theorem gX6_count_X6_reached : GoodIn wsX6_count (wsV RX6 116 RX6 yX6_reached wsX6_reached) := goodIn_app (goodIn_of _ (by decide +kernel)) ggX6_count_X6_reached
theorem dX6_count_0 : decode cX6_count 0 = .ok (.iload_n 1, 1) := by decide +kernel
theorem dX6_count_1 : decode cX6_count 1 = .ok (.tableswitch 219 0 18 #[91, 91, 91, 91, 114, 91, 91, 136, 141, 149, 155, 161, 169, 177, 182, 196, 201, 209, 214], 91) := by decide +kernel
theorem dX6_count_92 : decode cX6_count 92 = .ok (.iload_n 1, 1) := by decide +kernel
theorem dX6_count_93 : decode cX6_count 93 = .ok (.bipush 6, 2) := by decide +kernel
theorem dX6_count_95 : decode cX6_count 95 = .ok (.if_icmp .ne 13, 3) := by decide +kernel
theorem dX6_count_98 : decode cX6_count 98 = .ok (.aload_n 0, 1) := by decide +kernel
theorem dX6_count_99 : decode cX6_count 99 = .ok (.getfield 7, 3) := by decide +kernel
theorem dX6_count_102 : decode cX6_count 102 = .ok (.bipush 7, 2) := by decide +kernel
theorem dX6_count_104 : decode cX6_count 104 = .ok (.iaload, 1) := by decide +kernel
theorem dX6_count_105 : decode cX6_count 105 = .ok (.goto 9, 3) := by decide +kernel
theorem dX6_count_108 : decode cX6_count 108 = .ok (.aload_n 0, 1) := by decide +kernel
theorem dX6_count_109 : decode cX6_count 109 = .ok (.getfield 7, 3) := by decide +kernel
theorem dX6_count_112 : decode cX6_count 112 = .ok (.iload_n 1, 1) := by decide +kernel
theorem dX6_count_113 : decode cX6_count 113 = .ok (.iaload, 1) := by decide +kernel
theorem dX6_count_114 : decode cX6_count 114 = .ok (.ireturn, 1) := by decide +kernel
theorem dX6_count_115 : decode cX6_count 115 = .ok (.aload_n 0, 1) := by decide +kernel
theorem dX6_count_116 : decode cX6_count 116 = .ok (.getfield 7, 3) := by decide +kernel
theorem dX6_count_119 : decode cX6_count 119 = .ok (.iconst 1, 1) := by decide +kernel
theorem dX6_count_120 : decode cX6_count 120 = .ok (.iaload, 1) := by decide +kernel
theorem dX6_count_121 : decode cX6_count 121 = .ok (.iconst 2, 1) := by decide +kernel
theorem dX6_count_122 : decode cX6_count 122 = .ok (.if_icmp .ne 8, 3) := by decide +kernel
theorem dX6_count_125 : decode cX6_count 125 = .ok (.bipush (-5), 2) := by decide +kernel
theorem dX6_count_127 : decode cX6_count 127 = .ok (.goto 9, 3) := by decide +kernel
theorem dX6_count_130 : decode cX6_count 130 = .ok (.aload_n 0, 1) := by decide +kernel
theorem dX6_count_131 : decode cX6_count 131 = .ok (.getfield 7, 3) := by decide +kernel
theorem dX6_count_134 : decode cX6_count 134 = .ok (.iconst 4, 1) := by decide +kernel
theorem dX6_count_135 : decode cX6_count 135 = .ok (.iaload, 1) := by decide +kernel
theorem dX6_count_136 : decode cX6_count 136 = .ok (.ireturn, 1) := by decide +kernel
theorem dX6_count_137 : decode cX6_count 137 = .ok (.aload_n 0, 1) := by decide +kernel
theorem dX6_count_138 : decode cX6_count 138 = .ok (.invokevirtual 62, 3) := by decide +kernel
theorem dX6_count_141 : decode cX6_count 141 = .ok (.ireturn, 1) := by decide +kernel
theorem dX6_count_142 : decode cX6_count 142 = .ok (.aload_n 0, 1) := by decide +kernel
theorem dX6_count_143 : decode cX6_count 143 = .ok (.getfield 7, 3) := by decide +kernel
theorem dX6_count_146 : decode cX6_count 146 = .ok (.bipush 6, 2) := by decide +kernel
theorem dX6_count_148 : decode cX6_count 148 = .ok (.iaload, 1) := by decide +kernel
theorem dX6_count_149 : decode cX6_count 149 = .ok (.ireturn, 1) := by decide +kernel
theorem dX6_count_150 : decode cX6_count 150 = .ok (.aload_n 0, 1) := by decide +kernel
theorem dX6_count_151 : decode cX6_count 151 = .ok (.iconst 1, 1) := by decide +kernel
theorem dX6_count_152 : decode cX6_count 152 = .ok (.invokevirtual 113, 3) := by decide +kernel
theorem dX6_count_155 : decode cX6_count 155 = .ok (.ireturn, 1) := by decide +kernel
theorem dX6_count_156 : decode cX6_count 156 = .ok (.aload_n 0, 1) := by decide +kernel
theorem dX6_count_157 : decode cX6_count 157 = .ok (.iconst 0, 1) := by decide +kernel
theorem dX6_count_158 : decode cX6_count 158 = .ok (.invokevirtual 113, 3) := by decide +kernel
theorem dX6_count_161 : decode cX6_count 161 = .ok (.ireturn, 1) := by decide +kernel
theorem dX6_count_162 : decode cX6_count 162 = .ok (.aload_n 0, 1) := by decide +kernel
theorem dX6_count_163 : decode cX6_count 163 = .ok (.getfield 7, 3) := by decide +kernel
theorem dX6_count_166 : decode cX6_count 166 = .ok (.bipush 9, 2) := by decide +kernel
theorem dX6_count_168 : decode cX6_count 168 = .ok (.iaload, 1) := by decide +kernel
theorem dX6_count_169 : decode cX6_count 169 = .ok (.ireturn, 1) := by decide +kernel
theorem dX6_count_170 : decode cX6_count 170 = .ok (.aload_n 0, 1) := by decide +kernel
theorem dX6_count_171 : decode cX6_count 171 = .ok (.getfield 7, 3) := by decide +kernel
theorem dX6_count_174 : decode cX6_count 174 = .ok (.bipush 10, 2) := by decide +kernel
theorem dX6_count_176 : decode cX6_count 176 = .ok (.iaload, 1) := by decide +kernel
theorem dX6_count_177 : decode cX6_count 177 = .ok (.ireturn, 1) := by decide +kernel
theorem dX6_count_178 : decode cX6_count 178 = .ok (.aload_n 0, 1) := by decide +kernel
theorem dX6_count_179 : decode cX6_count 179 = .ok (.invokevirtual 83, 3) := by decide +kernel
theorem dX6_count_182 : decode cX6_count 182 = .ok (.ireturn, 1) := by decide +kernel
theorem dX6_count_183 : decode cX6_count 183 = .ok (.aload_n 0, 1) := by decide +kernel
theorem dX6_count_184 : decode cX6_count 184 = .ok (.getfield 7, 3) := by decide +kernel
theorem dX6_count_187 : decode cX6_count 187 = .ok (.sipush 572, 3) := by decide +kernel
theorem dX6_count_190 : decode cX6_count 190 = .ok (.aload_n 0, 1) := by decide +kernel
theorem dX6_count_191 : decode cX6_count 191 = .ok (.invokevirtual 83, 3) := by decide +kernel
theorem dX6_count_194 : decode cX6_count 194 = .ok (.iadd, 1) := by decide +kernel
theorem dX6_count_195 : decode cX6_count 195 = .ok (.iaload, 1) := by decide +kernel
theorem dX6_count_196 : decode cX6_count 196 = .ok (.ireturn, 1) := by decide +kernel
theorem dX6_count_197 : decode cX6_count 197 = .ok (.aload_n 0, 1) := by decide +kernel
theorem dX6_count_198 : decode cX6_count 198 = .ok (.invokevirtual 116, 3) := by decide +kernel
theorem dX6_count_201 : decode cX6_count 201 = .ok (.ireturn, 1) := by decide +kernel
theorem dX6_count_202 : decode cX6_count 202 = .ok (.aload_n 0, 1) := by decide +kernel
theorem dX6_count_203 : decode cX6_count 203 = .ok (.getfield 7, 3) := by decide +kernel
theorem dX6_count_206 : decode cX6_count 206 = .ok (.bipush 11, 2) := by decide +kernel
theorem dX6_count_208 : decode cX6_count 208 = .ok (.iaload, 1) := by decide +kernel
theorem dX6_count_209 : decode cX6_count 209 = .ok (.ireturn, 1) := by decide +kernel
theorem dX6_count_210 : decode cX6_count 210 = .ok (.aload_n 0, 1) := by decide +kernel
theorem dX6_count_211 : decode cX6_count 211 = .ok (.getfield 37, 3) := by decide +kernel
theorem dX6_count_214 : decode cX6_count 214 = .ok (.ireturn, 1) := by decide +kernel
theorem dX6_count_215 : decode cX6_count 215 = .ok (.aload_n 0, 1) := by decide +kernel
theorem dX6_count_216 : decode cX6_count 216 = .ok (.getfield 56, 3) := by decide +kernel
theorem dX6_count_219 : decode cX6_count 219 = .ok (.ireturn, 1) := by decide +kernel
theorem dX6_count_220 : decode cX6_count 220 = .ok (.bipush (-2), 2) := by decide +kernel
theorem dX6_count_222 : decode cX6_count 222 = .ok (.ireturn, 1) := by decide +kernel
