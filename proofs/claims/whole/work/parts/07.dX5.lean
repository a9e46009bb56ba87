set_option maxRecDepth 20000 in
theorem ggX5_init_X3_init : GoodIn wsX5_init wsX3_init := goodIn_r _ [20, 21, 2, 3, 22, 23, 24, 25, 26, 27, 28, 29, 30, 31, 32, 33, 34, 35, 36, 37, 38, 16, 39, 40, 41, 42, 43, 44, 45, 46, 47, 48, 49, 50, 51, 52, 53, 54, 55, 56, 57, 58, 59, 60, 61, 62, 63, 64, 65, 66, 67, 68, 69, 70, 71, 72, 73, 74, 75, 76, 77, 78, 85, 86, 87, 88, 98, 99, 100, 101, 102, 103, 104, 105, 106, 107, 108, 109, 110, 111, 112, 113] (by decide +kernel) (by decide +kernel)
set_option maxRecDepth 20000 in
theorem gX5_init_X3_init : GoodIn wsX5_init (wsX3_init) := ggX5_init_X3_init
set_option maxRecDepth 20000 in
theorem ggX5_init_X4_init : GoodIn wsX5_init wsX4_init := goodIn_r _ [81, 82, 2, 3, 83, 16, 84, 96, 97] (by decide +kernel) (by decide +kernel)
set_option maxRecDepth 20000 in
theorem gX5_init_X4_init : GoodIn wsX5_init (wsX4_init) := ggX5_init_X4_init
theorem dX5_init_0 : decode cX5_init 0 = .ok (.aload_n 0, 1) := by decide +kernel
theorem dX5_init_1 : decode cX5_init 1 = .ok (.invokespecial 3, 3) := by decide +kernel
theorem dX5_init_4 : decode cX5_init 4 = .ok (.aload_n 0, 1) := by decide +kernel
theorem dX5_init_5 : decode cX5_init 5 = .ok (.new 9, 3) := by decide +kernel
theorem dX5_init_8 : decode cX5_init 8 = .ok (.dup, 1) := by decide +kernel
theorem dX5_init_9 : decode cX5_init 9 = .ok (.invokespecial 11, 3) := by decide +kernel
theorem dX5_init_12 : decode cX5_init 12 = .ok (.putfield 12, 3) := by decide +kernel
theorem dX5_init_15 : decode cX5_init 15 = .ok (.aload_n 0, 1) := by decide +kernel
theorem dX5_init_16 : decode cX5_init 16 = .ok (.new 9, 3) := by decide +kernel
theorem dX5_init_19 : decode cX5_init 19 = .ok (.dup, 1) := by decide +kernel
theorem dX5_init_20 : decode cX5_init 20 = .ok (.invokespecial 11, 3) := by decide +kernel
theorem dX5_init_23 : decode cX5_init 23 = .ok (.putfield 16, 3) := by decide +kernel
theorem dX5_init_26 : decode cX5_init 26 = .ok (.aload_n 0, 1) := by decide +kernel
theorem dX5_init_27 : decode cX5_init 27 = .ok (.iconst 0, 1) := by decide +kernel
theorem dX5_init_28 : decode cX5_init 28 = .ok (.putfield 19, 3) := by decide +kernel
theorem dX5_init_31 : decode cX5_init 31 = .ok (.aload_n 0, 1) := by decide +kernel
theorem dX5_init_32 : decode cX5_init 32 = .ok (.iconst 4, 1) := by decide +kernel
theorem dX5_init_33 : decode cX5_init 33 = .ok (.anewarray 9, 3) := by decide +kernel
theorem dX5_init_36 : decode cX5_init 36 = .ok (.putfield 23, 3) := by decide +kernel
theorem dX5_init_39 : decode cX5_init 39 = .ok (.iconst 0, 1) := by decide +kernel
theorem dX5_init_40 : decode cX5_init 40 = .ok (.istore_n 1, 1) := by decide +kernel
theorem dX5_init_41 : decode cX5_init 41 = .ok (.iload_n 1, 1) := by decide +kernel
theorem dX5_init_42 : decode cX5_init 42 = .ok (.iconst 4, 1) := by decide +kernel
theorem dX5_init_43 : decode cX5_init 43 = .ok (.if_icmp .ge 22, 3) := by decide +kernel
theorem dX5_init_46 : decode cX5_init 46 = .ok (.aload_n 0, 1) := by decide +kernel
theorem dX5_init_47 : decode cX5_init 47 = .ok (.getfield 23, 3) := by decide +kernel
theorem dX5_init_50 : decode cX5_init 50 = .ok (.iload_n 1, 1) := by decide +kernel
theorem dX5_init_51 : decode cX5_init 51 = .ok (.new 9, 3) := by decide +kernel
theorem dX5_init_54 : decode cX5_init 54 = .ok (.dup, 1) := by decide +kernel
theorem dX5_init_55 : decode cX5_init 55 = .ok (.invokespecial 11, 3) := by decide +kernel
theorem dX5_init_58 : decode cX5_init 58 = .ok (.aastore, 1) := by decide +kernel
theorem dX5_init_59 : decode cX5_init 59 = .ok (.iinc 1 1, 3) := by decide +kernel
theorem dX5_init_62 : decode cX5_init 62 = .ok (.goto (-21), 3) := by decide +kernel
theorem dX5_init_65 : decode cX5_init 65 = .ok (.aload_n 0, 1) := by decide +kernel
theorem dX5_init_66 : decode cX5_init 66 = .ok (.iconst 0, 1) := by decide +kernel
theorem dX5_init_67 : decode cX5_init 67 = .ok (.putfield 27, 3) := by decide +kernel
theorem dX5_init_70 : decode cX5_init 70 = .ok (.aload_n 0, 1) := by decide +kernel
theorem dX5_init_71 : decode cX5_init 71 = .ok (.new 31, 3) := by decide +kernel
theorem dX5_init_74 : decode cX5_init 74 = .ok (.dup, 1) := by decide +kernel
theorem dX5_init_75 : decode cX5_init 75 = .ok (.invokespecial 33, 3) := by decide +kernel
theorem dX5_init_78 : decode cX5_init 78 = .ok (.putfield 34, 3) := by decide +kernel
theorem dX5_init_81 : decode cX5_init 81 = .ok (.aload_n 0, 1) := by decide +kernel
theorem dX5_init_82 : decode cX5_init 82 = .ok (.bipush 32, 2) := by decide +kernel
theorem dX5_init_84 : decode cX5_init 84 = .ok (.newarray .int, 2) := by decide +kernel
theorem dX5_init_86 : decode cX5_init 86 = .ok (.putfield 38, 3) := by decide +kernel
theorem dX5_init_89 : decode cX5_init 89 = .ok (.return_, 1) := by decide +kernel
set_option maxRecDepth 20000 in
theorem ggX5_setCode_X5_recordNow : GoodIn wsX5_setCode wsX5_recordNow := goodIn_r _ [10, 11, 12, 1, 13, 14, 15, 9, 16, 17, 18, 19, 20, 21, 22, 23, 24, 25, 26, 27, 28, 29, 30, 31, 32, 33, 34, 35, 36, 37, 38, 39, 40, 41, 42, 43, 44, 45, 46, 47, 48, 49, 50, 51, 52, 53, 54, 55, 56, 57, 58, 59, 60, 61, 62, 63, 64, 78, 79, 80, 81, 82, 83, 84, 85, 86, 87, 88, 89, 90, 91, 92, 93, 94, 95, 96, 97, 98, 99, 100, 101, 102, 103, 104] (by decide +kernel) (by decide +kernel)
set_option maxRecDepth 20000 in
theorem gX5_setCode_X5_recordNow : GoodIn wsX5_setCode (wsV RX5 42 RX5 yX5_recordNow wsX5_recordNow) := goodIn_app (goodIn_of _ (by decide +kernel)) ggX5_setCode_X5_recordNow
set_option maxRecDepth 20000 in
theorem ggX5_setCode_X0_choose : GoodIn wsX5_setCode wsX0_choose := goodIn_r _ [36, 31, 37, 32, 89, 90, 91] (by decide +kernel) (by decide +kernel)
set_option maxRecDepth 20000 in
theorem gX5_setCode_X0_choose : GoodIn wsX5_setCode (wsV RX5 49 RX0 yX0_choose wsX0_choose) := goodIn_app (goodIn_of _ (by decide +kernel)) ggX5_setCode_X0_choose
set_option maxRecDepth 20000 in
theorem ggX5_setCode_X2_clear : GoodIn wsX5_setCode wsX2_clear := goodIn_r _ [69, 43, 44, 92, 93, 94, 95, 96] (by decide +kernel) (by decide +kernel)
set_option maxRecDepth 20000 in
theorem gX5_setCode_X2_clear : GoodIn wsX5_setCode (wsV RX5 59 RX2 yX2_clear wsX2_clear) := goodIn_app (goodIn_of _ (by decide +kernel)) ggX5_setCode_X2_clear
set_option maxRecDepth 20000 in
theorem ggX5_setCode_X1_clear : GoodIn wsX5_setCode wsX1_clear := goodIn_r _ [73, 57, 58, 59, 60, 63, 74, 75, 76, 77, 97, 98, 99, 100, 101, 102, 103, 104] (by decide +kernel) (by decide +kernel)
set_option maxRecDepth 20000 in
theorem gX5_setCode_X1_clear : GoodIn wsX5_setCode (wsV RX5 68 RX1 yX1_clear wsX1_clear) := goodIn_app (goodIn_of _ (by decide +kernel)) ggX5_setCode_X1_clear
theorem dX5_setCode_0 : decode cX5_setCode 0 = .ok (.iload_n 1, 1) := by decide +kernel
theorem dX5_setCode_1 : decode cX5_setCode 1 = .ok (.iconst 1, 1) := by decide +kernel
theorem dX5_setCode_2 : decode cX5_setCode 2 = .ok (.if_icmp .lt 8, 3) := by decide +kernel
theorem dX5_setCode_5 : decode cX5_setCode 5 = .ok (.iload_n 1, 1) := by decide +kernel
theorem dX5_setCode_6 : decode cX5_setCode 6 = .ok (.iconst 5, 1) := by decide +kernel
theorem dX5_setCode_7 : decode cX5_setCode 7 = .ok (.if_icmp .le 6, 3) := by decide +kernel
theorem dX5_setCode_10 : decode cX5_setCode 10 = .ok (.bipush (-2), 2) := by decide +kernel
theorem dX5_setCode_12 : decode cX5_setCode 12 = .ok (.ireturn, 1) := by decide +kernel
theorem dX5_setCode_13 : decode cX5_setCode 13 = .ok (.iconst 2, 1) := by decide +kernel
theorem dX5_setCode_14 : decode cX5_setCode 14 = .ok (.iload_n 1, 1) := by decide +kernel
theorem dX5_setCode_15 : decode cX5_setCode 15 = .ok (.ishl, 1) := by decide +kernel
theorem dX5_setCode_16 : decode cX5_setCode 16 = .ok (.iconst 1, 1) := by decide +kernel
theorem dX5_setCode_17 : decode cX5_setCode 17 = .ok (.isub, 1) := by decide +kernel
theorem dX5_setCode_18 : decode cX5_setCode 18 = .ok (.istore 5, 2) := by decide +kernel
theorem dX5_setCode_20 : decode cX5_setCode 20 = .ok (.iload_n 2, 1) := by decide +kernel
theorem dX5_setCode_21 : decode cX5_setCode 21 = .ok (.iconst 1, 1) := by decide +kernel
theorem dX5_setCode_22 : decode cX5_setCode 22 = .ok (.if_icmp .lt 20, 3) := by decide +kernel
theorem dX5_setCode_25 : decode cX5_setCode 25 = .ok (.iload_n 2, 1) := by decide +kernel
theorem dX5_setCode_26 : decode cX5_setCode 26 = .ok (.iload 5, 2) := by decide +kernel
theorem dX5_setCode_28 : decode cX5_setCode 28 = .ok (.if_icmp .gt 14, 3) := by decide +kernel
theorem dX5_setCode_31 : decode cX5_setCode 31 = .ok (.iload_n 3, 1) := by decide +kernel
theorem dX5_setCode_32 : decode cX5_setCode 32 = .ok (.iconst 1, 1) := by decide +kernel
theorem dX5_setCode_33 : decode cX5_setCode 33 = .ok (.if_icmp .lt 9, 3) := by decide +kernel
theorem dX5_setCode_36 : decode cX5_setCode 36 = .ok (.iload_n 3, 1) := by decide +kernel
theorem dX5_setCode_37 : decode cX5_setCode 37 = .ok (.iload 5, 2) := by decide +kernel
theorem dX5_setCode_39 : decode cX5_setCode 39 = .ok (.if_icmp .le 6, 3) := by decide +kernel
theorem dX5_setCode_42 : decode cX5_setCode 42 = .ok (.bipush (-2), 2) := by decide +kernel
theorem dX5_setCode_44 : decode cX5_setCode 44 = .ok (.ireturn, 1) := by decide +kernel
theorem dX5_setCode_45 : decode cX5_setCode 45 = .ok (.iload 4, 2) := by decide +kernel
theorem dX5_setCode_47 : decode cX5_setCode 47 = .ok (.ifCond .lt 10, 3) := by decide +kernel
theorem dX5_setCode_50 : decode cX5_setCode 50 = .ok (.iload 4, 2) := by decide +kernel
theorem dX5_setCode_52 : decode cX5_setCode 52 = .ok (.iload 5, 2) := by decide +kernel
theorem dX5_setCode_54 : decode cX5_setCode 54 = .ok (.if_icmp .le 6, 3) := by decide +kernel
theorem dX5_setCode_57 : decode cX5_setCode 57 = .ok (.bipush (-2), 2) := by decide +kernel
theorem dX5_setCode_59 : decode cX5_setCode 59 = .ok (.ireturn, 1) := by decide +kernel
theorem dX5_setCode_60 : decode cX5_setCode 60 = .ok (.aload_n 0, 1) := by decide +kernel
theorem dX5_setCode_61 : decode cX5_setCode 61 = .ok (.invokevirtual 42, 3) := by decide +kernel
theorem dX5_setCode_64 : decode cX5_setCode 64 = .ok (.aload_n 0, 1) := by decide +kernel
theorem dX5_setCode_65 : decode cX5_setCode 65 = .ok (.getfield 12, 3) := by decide +kernel
theorem dX5_setCode_68 : decode cX5_setCode 68 = .ok (.getfield 45, 3) := by decide +kernel
theorem dX5_setCode_71 : decode cX5_setCode 71 = .ok (.iload_n 1, 1) := by decide +kernel
theorem dX5_setCode_72 : decode cX5_setCode 72 = .ok (.iload_n 2, 1) := by decide +kernel
theorem dX5_setCode_73 : decode cX5_setCode 73 = .ok (.iload_n 3, 1) := by decide +kernel
theorem dX5_setCode_74 : decode cX5_setCode 74 = .ok (.iload 4, 2) := by decide +kernel
theorem dX5_setCode_76 : decode cX5_setCode 76 = .ok (.invokevirtual 49, 3) := by decide +kernel
theorem dX5_setCode_79 : decode cX5_setCode 79 = .ok (.aload_n 0, 1) := by decide +kernel
theorem dX5_setCode_80 : decode cX5_setCode 80 = .ok (.getfield 12, 3) := by decide +kernel
theorem dX5_setCode_83 : decode cX5_setCode 83 = .ok (.getfield 55, 3) := by decide +kernel
theorem dX5_setCode_86 : decode cX5_setCode 86 = .ok (.invokevirtual 59, 3) := by decide +kernel
theorem dX5_setCode_89 : decode cX5_setCode 89 = .ok (.aload_n 0, 1) := by decide +kernel
theorem dX5_setCode_90 : decode cX5_setCode 90 = .ok (.getfield 12, 3) := by decide +kernel
theorem dX5_setCode_93 : decode cX5_setCode 93 = .ok (.getfield 64, 3) := by decide +kernel
theorem dX5_setCode_96 : decode cX5_setCode 96 = .ok (.invokevirtual 68, 3) := by decide +kernel
theorem dX5_setCode_99 : decode cX5_setCode 99 = .ok (.aload_n 0, 1) := by decide +kernel
theorem dX5_setCode_100 : decode cX5_setCode 100 = .ok (.getfield 12, 3) := by decide +kernel
theorem dX5_setCode_103 : decode cX5_setCode 103 = .ok (.getfield 45, 3) := by decide +kernel
theorem dX5_setCode_106 : decode cX5_setCode 106 = .ok (.getfield 71, 3) := by decide +kernel
theorem dX5_setCode_109 : decode cX5_setCode 109 = .ok (.ireturn, 1) := by decide +kernel
set_option maxRecDepth 20000 in
theorem ggX5_setDepth_X5_recordNow : GoodIn wsX5_setDepth wsX5_recordNow := goodIn_r _ [9, 10, 11, 1, 12, 13, 14, 8, 15, 16, 17, 18, 19, 20, 21, 22, 23, 24, 25, 26, 27, 28, 29, 30, 31, 32, 33, 34, 35, 36, 37, 38, 39, 40, 41, 42, 43, 44, 45, 46, 47, 48, 49, 50, 51, 52, 53, 54, 55, 56, 57, 58, 59, 60, 61, 62, 63, 64, 65, 66, 67, 68, 69, 70, 71, 72, 73, 74, 83, 84, 85, 86, 87, 88, 89, 90, 75, 76, 77, 78, 79, 80, 81, 82] (by decide +kernel) (by decide +kernel)
set_option maxRecDepth 20000 in
theorem gX5_setDepth_X5_recordNow : GoodIn wsX5_setDepth (wsV RX5 42 RX5 yX5_recordNow wsX5_recordNow) := goodIn_app (goodIn_of _ (by decide +kernel)) ggX5_setDepth_X5_recordNow
theorem dX5_setDepth_0 : decode cX5_setDepth 0 = .ok (.iload_n 1, 1) := by decide +kernel
theorem dX5_setDepth_1 : decode cX5_setDepth 1 = .ok (.iconst 2, 1) := by decide +kernel
theorem dX5_setDepth_2 : decode cX5_setDepth 2 = .ok (.if_icmp .lt 9, 3) := by decide +kernel
theorem dX5_setDepth_5 : decode cX5_setDepth 5 = .ok (.iload_n 1, 1) := by decide +kernel
theorem dX5_setDepth_6 : decode cX5_setDepth 6 = .ok (.bipush 40, 2) := by decide +kernel
theorem dX5_setDepth_8 : decode cX5_setDepth 8 = .ok (.if_icmp .le 6, 3) := by decide +kernel
theorem dX5_setDepth_11 : decode cX5_setDepth 11 = .ok (.bipush (-2), 2) := by decide +kernel
theorem dX5_setDepth_13 : decode cX5_setDepth 13 = .ok (.ireturn, 1) := by decide +kernel
theorem dX5_setDepth_14 : decode cX5_setDepth 14 = .ok (.aload_n 0, 1) := by decide +kernel
theorem dX5_setDepth_15 : decode cX5_setDepth 15 = .ok (.getfield 12, 3) := by decide +kernel
theorem dX5_setDepth_18 : decode cX5_setDepth 18 = .ok (.getfield 64, 3) := by decide +kernel
theorem dX5_setDepth_21 : decode cX5_setDepth 21 = .ok (.getfield 74, 3) := by decide +kernel
theorem dX5_setDepth_24 : decode cX5_setDepth 24 = .ok (.ifCond .le 6, 3) := by decide +kernel
theorem dX5_setDepth_27 : decode cX5_setDepth 27 = .ok (.bipush (-4), 2) := by decide +kernel
theorem dX5_setDepth_29 : decode cX5_setDepth 29 = .ok (.ireturn, 1) := by decide +kernel
theorem dX5_setDepth_30 : decode cX5_setDepth 30 = .ok (.aload_n 0, 1) := by decide +kernel
theorem dX5_setDepth_31 : decode cX5_setDepth 31 = .ok (.getfield 12, 3) := by decide +kernel
theorem dX5_setDepth_34 : decode cX5_setDepth 34 = .ok (.getfield 77, 3) := by decide +kernel
theorem dX5_setDepth_37 : decode cX5_setDepth 37 = .ok (.iload_n 1, 1) := by decide +kernel
theorem dX5_setDepth_38 : decode cX5_setDepth 38 = .ok (.if_icmp .ne 6, 3) := by decide +kernel
theorem dX5_setDepth_41 : decode cX5_setDepth 41 = .ok (.bipush (-5), 2) := by decide +kernel
theorem dX5_setDepth_43 : decode cX5_setDepth 43 = .ok (.ireturn, 1) := by decide +kernel
theorem dX5_setDepth_44 : decode cX5_setDepth 44 = .ok (.aload_n 0, 1) := by decide +kernel
theorem dX5_setDepth_45 : decode cX5_setDepth 45 = .ok (.invokevirtual 42, 3) := by decide +kernel
theorem dX5_setDepth_48 : decode cX5_setDepth 48 = .ok (.aload_n 0, 1) := by decide +kernel
theorem dX5_setDepth_49 : decode cX5_setDepth 49 = .ok (.getfield 12, 3) := by decide +kernel
theorem dX5_setDepth_52 : decode cX5_setDepth 52 = .ok (.getfield 77, 3) := by decide +kernel
theorem dX5_setDepth_55 : decode cX5_setDepth 55 = .ok (.istore_n 2, 1) := by decide +kernel
theorem dX5_setDepth_56 : decode cX5_setDepth 56 = .ok (.aload_n 0, 1) := by decide +kernel
theorem dX5_setDepth_57 : decode cX5_setDepth 57 = .ok (.getfield 12, 3) := by decide +kernel
theorem dX5_setDepth_60 : decode cX5_setDepth 60 = .ok (.iload_n 1, 1) := by decide +kernel
theorem dX5_setDepth_61 : decode cX5_setDepth 61 = .ok (.putfield 77, 3) := by decide +kernel
theorem dX5_setDepth_64 : decode cX5_setDepth 64 = .ok (.iload_n 2, 1) := by decide +kernel
theorem dX5_setDepth_65 : decode cX5_setDepth 65 = .ok (.ireturn, 1) := by decide +kernel
set_option maxRecDepth 20000 in
theorem ggX5_send_X4_firstFault : GoodIn wsX5_send wsX4_firstFault := goodIn_r _ [12, 13, 14, 115, 116] (by decide +kernel) (by decide +kernel)
set_option maxRecDepth 20000 in
theorem gX5_send_X4_firstFault : GoodIn wsX5_send (wsV RX5 80 RX4 yX4_firstFault wsX4_firstFault) := goodIn_app (goodIn_of _ (by decide +kernel)) ggX5_send_X4_firstFault
set_option maxRecDepth 20000 in
theorem ggX5_send_X5_recordNow : GoodIn wsX5_send wsX5_recordNow := goodIn_r _ [19, 20, 21, 2, 22, 23, 24, 18, 25, 26, 27, 28, 29, 30, 31, 32, 33, 34, 35, 36, 37, 38, 39, 40, 41, 42, 43, 44, 45, 46, 47, 48, 49, 50, 51, 52, 53, 54, 55, 56, 57, 58, 59, 60, 61, 62, 63, 64, 65, 66, 67, 68, 69, 70, 71, 72, 73, 99, 100, 101, 102, 103, 104, 105, 106, 107, 108, 109, 117, 118, 119, 110, 111, 112, 113, 114, 120, 121, 122, 123, 124, 125, 126, 127] (by decide +kernel) (by decide +kernel)
set_option maxRecDepth 20000 in
theorem gX5_send_X5_recordNow : GoodIn wsX5_send (wsV RX5 42 RX5 yX5_recordNow wsX5_recordNow) := goodIn_app (goodIn_of _ (by decide +kernel)) ggX5_send_X5_recordNow
set_option maxRecDepth 20000 in
theorem ggX5_send_X2_push : GoodIn wsX5_send wsX2_push := goodIn_r _ [77, 53, 52, 78, 59, 60, 54, 79, 80, 81, 38, 82, 40, 83, 84, 85, 86, 41, 87, 88, 89, 90, 91, 92, 93, 94, 95, 96, 97, 98, 110, 111, 112, 113, 114, 117, 118, 119] (by decide +kernel) (by decide +kernel)
set_option maxRecDepth 20000 in
theorem gX5_send_X2_push : GoodIn wsX5_send (wsV RX5 93 RX2 yX2_push wsX2_push) := goodIn_app (goodIn_of _ (by decide +kernel)) ggX5_send_X2_push
theorem dX5_send_0 : decode cX5_send 0 = .ok (.aload_n 0, 1) := by decide +kernel
theorem dX5_send_1 : decode cX5_send 1 = .ok (.getfield 34, 3) := by decide +kernel
theorem dX5_send_4 : decode cX5_send 4 = .ok (.iconst 1, 1) := by decide +kernel
theorem dX5_send_5 : decode cX5_send 5 = .ok (.invokevirtual 80, 3) := by decide +kernel
theorem dX5_send_8 : decode cX5_send 8 = .ok (.istore_n 1, 1) := by decide +kernel
theorem dX5_send_9 : decode cX5_send 9 = .ok (.iload_n 1, 1) := by decide +kernel
theorem dX5_send_10 : decode cX5_send 10 = .ok (.iconst (-1), 1) := by decide +kernel
theorem dX5_send_11 : decode cX5_send 11 = .ok (.if_icmp .eq 8, 3) := by decide +kernel
theorem dX5_send_14 : decode cX5_send 14 = .ok (.bipush (-100), 2) := by decide +kernel
theorem dX5_send_16 : decode cX5_send 16 = .ok (.iload_n 1, 1) := by decide +kernel
theorem dX5_send_17 : decode cX5_send 17 = .ok (.isub, 1) := by decide +kernel
theorem dX5_send_18 : decode cX5_send 18 = .ok (.ireturn, 1) := by decide +kernel
theorem dX5_send_19 : decode cX5_send 19 = .ok (.aload_n 0, 1) := by decide +kernel
theorem dX5_send_20 : decode cX5_send 20 = .ok (.getfield 12, 3) := by decide +kernel
theorem dX5_send_23 : decode cX5_send 23 = .ok (.getfield 55, 3) := by decide +kernel
theorem dX5_send_26 : decode cX5_send 26 = .ok (.getfield 84, 3) := by decide +kernel
theorem dX5_send_29 : decode cX5_send 29 = .ok (.aload_n 0, 1) := by decide +kernel
theorem dX5_send_30 : decode cX5_send 30 = .ok (.getfield 34, 3) := by decide +kernel
theorem dX5_send_33 : decode cX5_send 33 = .ok (.getfield 87, 3) := by decide +kernel
theorem dX5_send_36 : decode cX5_send 36 = .ok (.iadd, 1) := by decide +kernel
theorem dX5_send_37 : decode cX5_send 37 = .ok (.bipush 80, 2) := by decide +kernel
theorem dX5_send_39 : decode cX5_send 39 = .ok (.if_icmp .le 6, 3) := by decide +kernel
theorem dX5_send_42 : decode cX5_send 42 = .ok (.bipush (-3), 2) := by decide +kernel
theorem dX5_send_44 : decode cX5_send 44 = .ok (.ireturn, 1) := by decide +kernel
theorem dX5_send_45 : decode cX5_send 45 = .ok (.aload_n 0, 1) := by decide +kernel
theorem dX5_send_46 : decode cX5_send 46 = .ok (.invokevirtual 42, 3) := by decide +kernel
theorem dX5_send_49 : decode cX5_send 49 = .ok (.iconst 0, 1) := by decide +kernel
theorem dX5_send_50 : decode cX5_send 50 = .ok (.istore_n 2, 1) := by decide +kernel
theorem dX5_send_51 : decode cX5_send 51 = .ok (.iload_n 2, 1) := by decide +kernel
theorem dX5_send_52 : decode cX5_send 52 = .ok (.aload_n 0, 1) := by decide +kernel
theorem dX5_send_53 : decode cX5_send 53 = .ok (.getfield 34, 3) := by decide +kernel
theorem dX5_send_56 : decode cX5_send 56 = .ok (.getfield 87, 3) := by decide +kernel
theorem dX5_send_59 : decode cX5_send 59 = .ok (.if_icmp .ge 35, 3) := by decide +kernel
theorem dX5_send_62 : decode cX5_send 62 = .ok (.aload_n 0, 1) := by decide +kernel
theorem dX5_send_63 : decode cX5_send 63 = .ok (.getfield 12, 3) := by decide +kernel
theorem dX5_send_66 : decode cX5_send 66 = .ok (.getfield 55, 3) := by decide +kernel
theorem dX5_send_69 : decode cX5_send 69 = .ok (.aload_n 0, 1) := by decide +kernel
theorem dX5_send_70 : decode cX5_send 70 = .ok (.getfield 12, 3) := by decide +kernel
theorem dX5_send_73 : decode cX5_send 73 = .ok (.getfield 45, 3) := by decide +kernel
theorem dX5_send_76 : decode cX5_send 76 = .ok (.aload_n 0, 1) := by decide +kernel
theorem dX5_send_77 : decode cX5_send 77 = .ok (.getfield 34, 3) := by decide +kernel
theorem dX5_send_80 : decode cX5_send 80 = .ok (.getfield 90, 3) := by decide +kernel
theorem dX5_send_83 : decode cX5_send 83 = .ok (.iload_n 2, 1) := by decide +kernel
theorem dX5_send_84 : decode cX5_send 84 = .ok (.iaload, 1) := by decide +kernel
theorem dX5_send_85 : decode cX5_send 85 = .ok (.invokevirtual 93, 3) := by decide +kernel
theorem dX5_send_88 : decode cX5_send 88 = .ok (.iinc 2 1, 3) := by decide +kernel
theorem dX5_send_91 : decode cX5_send 91 = .ok (.goto (-40), 3) := by decide +kernel
theorem dX5_send_94 : decode cX5_send 94 = .ok (.aload_n 0, 1) := by decide +kernel
theorem dX5_send_95 : decode cX5_send 95 = .ok (.getfield 12, 3) := by decide +kernel
theorem dX5_send_98 : decode cX5_send 98 = .ok (.getfield 55, 3) := by decide +kernel
theorem dX5_send_101 : decode cX5_send 101 = .ok (.getfield 84, 3) := by decide +kernel
theorem dX5_send_104 : decode cX5_send 104 = .ok (.ireturn, 1) := by decide +kernel
set_option maxRecDepth 20000 in
theorem ggX5_sendTail_X5_recordNow : GoodIn wsX5_sendTail wsX5_recordNow := goodIn_r _ [10, 11, 12, 1, 13, 14, 15, 9, 16, 17, 18, 19, 20, 21, 22, 23, 24, 25, 26, 27, 28, 29, 30, 31, 32, 33, 34, 35, 36, 37, 38, 39, 40, 41, 42, 43, 44, 45, 46, 47, 48, 49, 50, 51, 52, 53, 54, 55, 56, 57, 58, 59, 60, 61, 62, 63, 64, 90, 91, 92, 93, 94, 95, 96, 97, 98, 99, 100, 101, 102, 103, 104, 105, 106, 107, 108, 109, 110, 111, 112, 113, 114, 115, 116] (by decide +kernel) (by decide +kernel)
set_option maxRecDepth 20000 in
theorem gX5_sendTail_X5_recordNow : GoodIn wsX5_sendTail (wsV RX5 42 RX5 yX5_recordNow wsX5_recordNow) := goodIn_app (goodIn_of _ (by decide +kernel)) ggX5_sendTail_X5_recordNow
set_option maxRecDepth 20000 in
theorem ggX5_sendTail_X2_push : GoodIn wsX5_sendTail wsX2_push := goodIn_r _ [68, 44, 43, 69, 50, 51, 45, 70, 71, 72, 29, 73, 31, 74, 75, 76, 77, 32, 78, 79, 80, 81, 82, 83, 84, 85, 86, 87, 88, 89, 104, 105, 106, 107, 108, 101, 102, 103] (by decide +kernel) (by decide +kernel)
set_option maxRecDepth 20000 in
theorem gX5_sendTail_X2_push : GoodIn wsX5_sendTail (wsV RX5 93 RX2 yX2_push wsX2_push) := goodIn_app (goodIn_of _ (by decide +kernel)) ggX5_sendTail_X2_push
theorem dX5_sendTail_0 : decode cX5_sendTail 0 = .ok (.aload_n 0, 1) := by decide +kernel
theorem dX5_sendTail_1 : decode cX5_sendTail 1 = .ok (.getfield 12, 3) := by decide +kernel
theorem dX5_sendTail_4 : decode cX5_sendTail 4 = .ok (.getfield 45, 3) := by decide +kernel
theorem dX5_sendTail_7 : decode cX5_sendTail 7 = .ok (.getfield 97, 3) := by decide +kernel
theorem dX5_sendTail_10 : decode cX5_sendTail 10 = .ok (.istore_n 1, 1) := by decide +kernel
theorem dX5_sendTail_11 : decode cX5_sendTail 11 = .ok (.aload_n 0, 1) := by decide +kernel
theorem dX5_sendTail_12 : decode cX5_sendTail 12 = .ok (.getfield 12, 3) := by decide +kernel
theorem dX5_sendTail_15 : decode cX5_sendTail 15 = .ok (.getfield 55, 3) := by decide +kernel
theorem dX5_sendTail_18 : decode cX5_sendTail 18 = .ok (.getfield 84, 3) := by decide +kernel
theorem dX5_sendTail_21 : decode cX5_sendTail 21 = .ok (.iload_n 1, 1) := by decide +kernel
theorem dX5_sendTail_22 : decode cX5_sendTail 22 = .ok (.iadd, 1) := by decide +kernel
theorem dX5_sendTail_23 : decode cX5_sendTail 23 = .ok (.bipush 80, 2) := by decide +kernel
theorem dX5_sendTail_25 : decode cX5_sendTail 25 = .ok (.if_icmp .le 6, 3) := by decide +kernel
theorem dX5_sendTail_28 : decode cX5_sendTail 28 = .ok (.bipush (-3), 2) := by decide +kernel
theorem dX5_sendTail_30 : decode cX5_sendTail 30 = .ok (.ireturn, 1) := by decide +kernel
theorem dX5_sendTail_31 : decode cX5_sendTail 31 = .ok (.aload_n 0, 1) := by decide +kernel
theorem dX5_sendTail_32 : decode cX5_sendTail 32 = .ok (.invokevirtual 42, 3) := by decide +kernel
theorem dX5_sendTail_35 : decode cX5_sendTail 35 = .ok (.iconst 0, 1) := by decide +kernel
theorem dX5_sendTail_36 : decode cX5_sendTail 36 = .ok (.istore_n 2, 1) := by decide +kernel
theorem dX5_sendTail_37 : decode cX5_sendTail 37 = .ok (.iload_n 2, 1) := by decide +kernel
theorem dX5_sendTail_38 : decode cX5_sendTail 38 = .ok (.iload_n 1, 1) := by decide +kernel
theorem dX5_sendTail_39 : decode cX5_sendTail 39 = .ok (.if_icmp .ge 27, 3) := by decide +kernel
theorem dX5_sendTail_42 : decode cX5_sendTail 42 = .ok (.aload_n 0, 1) := by decide +kernel
theorem dX5_sendTail_43 : decode cX5_sendTail 43 = .ok (.getfield 12, 3) := by decide +kernel
theorem dX5_sendTail_46 : decode cX5_sendTail 46 = .ok (.getfield 55, 3) := by decide +kernel
theorem dX5_sendTail_49 : decode cX5_sendTail 49 = .ok (.aload_n 0, 1) := by decide +kernel
theorem dX5_sendTail_50 : decode cX5_sendTail 50 = .ok (.getfield 12, 3) := by decide +kernel
theorem dX5_sendTail_53 : decode cX5_sendTail 53 = .ok (.getfield 45, 3) := by decide +kernel
theorem dX5_sendTail_56 : decode cX5_sendTail 56 = .ok (.iconst 0, 1) := by decide +kernel
theorem dX5_sendTail_57 : decode cX5_sendTail 57 = .ok (.invokevirtual 93, 3) := by decide +kernel
theorem dX5_sendTail_60 : decode cX5_sendTail 60 = .ok (.iinc 2 1, 3) := by decide +kernel
theorem dX5_sendTail_63 : decode cX5_sendTail 63 = .ok (.goto (-26), 3) := by decide +kernel
theorem dX5_sendTail_66 : decode cX5_sendTail 66 = .ok (.aload_n 0, 1) := by decide +kernel
theorem dX5_sendTail_67 : decode cX5_sendTail 67 = .ok (.getfield 12, 3) := by decide +kernel
theorem dX5_sendTail_70 : decode cX5_sendTail 70 = .ok (.getfield 55, 3) := by decide +kernel
theorem dX5_sendTail_73 : decode cX5_sendTail 73 = .ok (.getfield 84, 3) := by decide +kernel
theorem dX5_sendTail_76 : decode cX5_sendTail 76 = .ok (.ireturn, 1) := by decide +kernel
set_option maxRecDepth 20000 in
theorem ggX5_flip_X5_isOnLine : GoodIn wsX5_flip wsX5_isOnLine := goodIn_r _ [8, 9, 10, 11, 7, 12, 1, 2, 13, 14, 15, 80, 81, 82, 83, 84, 85, 86, 87, 88, 89, 90, 91, 92, 93, 94, 95, 96, 97, 98] (by decide +kernel) (by decide +kernel)
set_option maxRecDepth 20000 in
theorem gX5_flip_X5_isOnLine : GoodIn wsX5_flip (wsV RX5 100 RX5 yX5_isOnLine wsX5_isOnLine) := goodIn_app (goodIn_of _ (by decide +kernel)) ggX5_flip_X5_isOnLine
set_option maxRecDepth 20000 in
theorem ggX5_flip_X5_isTaken : GoodIn wsX5_flip wsX5_isTaken := goodIn_r _ [19, 1, 20, 21, 14, 15, 80, 81, 82, 83, 84, 85, 86, 87, 88, 89, 90, 99, 100, 101, 102, 103, 104, 105, 106, 96, 97, 98] (by decide +kernel) (by decide +kernel)
set_option maxRecDepth 20000 in
theorem gX5_flip_X5_isTaken : GoodIn wsX5_flip (wsV RX5 107 RX5 yX5_isTaken wsX5_isTaken) := goodIn_app (goodIn_of _ (by decide +kernel)) ggX5_flip_X5_isTaken
set_option maxRecDepth 20000 in
theorem ggX5_flip_X5_recordNow : GoodIn wsX5_flip wsX5_recordNow := goodIn_r _ [25, 26, 27, 1, 28, 29, 30, 7, 31, 32, 33, 34, 35, 36, 37, 38, 39, 40, 41, 42, 43, 44, 45, 46, 47, 48, 49, 50, 51, 52, 53, 54, 55, 56, 57, 58, 59, 60, 61, 62, 63, 64, 65, 66, 67, 68, 69, 70, 71, 72, 73, 74, 75, 76, 77, 78, 79, 80, 81, 82, 83, 84, 85, 86, 87, 88, 89, 90, 96, 97, 98, 91, 92, 93, 94, 95, 99, 100, 101, 102, 103, 104, 105, 106] (by decide +kernel) (by decide +kernel)
set_option maxRecDepth 20000 in
theorem gX5_flip_X5_recordNow : GoodIn wsX5_flip (wsV RX5 42 RX5 yX5_recordNow wsX5_recordNow) := goodIn_app (goodIn_of _ (by decide +kernel)) ggX5_flip_X5_recordNow
theorem dX5_flip_0 : decode cX5_flip 0 = .ok (.aload_n 0, 1) := by decide +kernel
theorem dX5_flip_1 : decode cX5_flip 1 = .ok (.iload_n 1, 1) := by decide +kernel
theorem dX5_flip_2 : decode cX5_flip 2 = .ok (.invokevirtual 100, 3) := by decide +kernel
theorem dX5_flip_5 : decode cX5_flip 5 = .ok (.ifCond .ne 5, 3) := by decide +kernel
theorem dX5_flip_8 : decode cX5_flip 8 = .ok (.iconst (-1), 1) := by decide +kernel
theorem dX5_flip_9 : decode cX5_flip 9 = .ok (.ireturn, 1) := by decide +kernel
theorem dX5_flip_10 : decode cX5_flip 10 = .ok (.aload_n 0, 1) := by decide +kernel
theorem dX5_flip_11 : decode cX5_flip 11 = .ok (.getfield 12, 3) := by decide +kernel
theorem dX5_flip_14 : decode cX5_flip 14 = .ok (.getfield 55, 3) := by decide +kernel
theorem dX5_flip_17 : decode cX5_flip 17 = .ok (.getfield 104, 3) := by decide +kernel
theorem dX5_flip_20 : decode cX5_flip 20 = .ok (.iload_n 1, 1) := by decide +kernel
theorem dX5_flip_21 : decode cX5_flip 21 = .ok (.iaload, 1) := by decide +kernel
theorem dX5_flip_22 : decode cX5_flip 22 = .ok (.iconst 2, 1) := by decide +kernel
theorem dX5_flip_23 : decode cX5_flip 23 = .ok (.if_icmp .eq 11, 3) := by decide +kernel
theorem dX5_flip_26 : decode cX5_flip 26 = .ok (.aload_n 0, 1) := by decide +kernel
theorem dX5_flip_27 : decode cX5_flip 27 = .ok (.iload_n 1, 1) := by decide +kernel
theorem dX5_flip_28 : decode cX5_flip 28 = .ok (.invokevirtual 107, 3) := by decide +kernel
theorem dX5_flip_31 : decode cX5_flip 31 = .ok (.ifCond .eq 6, 3) := by decide +kernel
theorem dX5_flip_34 : decode cX5_flip 34 = .ok (.bipush (-4), 2) := by decide +kernel
theorem dX5_flip_36 : decode cX5_flip 36 = .ok (.ireturn, 1) := by decide +kernel
theorem dX5_flip_37 : decode cX5_flip 37 = .ok (.aload_n 0, 1) := by decide +kernel
theorem dX5_flip_38 : decode cX5_flip 38 = .ok (.invokevirtual 42, 3) := by decide +kernel
theorem dX5_flip_41 : decode cX5_flip 41 = .ok (.iconst 1, 1) := by decide +kernel
theorem dX5_flip_42 : decode cX5_flip 42 = .ok (.aload_n 0, 1) := by decide +kernel
theorem dX5_flip_43 : decode cX5_flip 43 = .ok (.getfield 12, 3) := by decide +kernel
theorem dX5_flip_46 : decode cX5_flip 46 = .ok (.getfield 55, 3) := by decide +kernel
theorem dX5_flip_49 : decode cX5_flip 49 = .ok (.getfield 104, 3) := by decide +kernel
theorem dX5_flip_52 : decode cX5_flip 52 = .ok (.iload_n 1, 1) := by decide +kernel
theorem dX5_flip_53 : decode cX5_flip 53 = .ok (.iaload, 1) := by decide +kernel
theorem dX5_flip_54 : decode cX5_flip 54 = .ok (.isub, 1) := by decide +kernel
theorem dX5_flip_55 : decode cX5_flip 55 = .ok (.istore_n 2, 1) := by decide +kernel
theorem dX5_flip_56 : decode cX5_flip 56 = .ok (.aload_n 0, 1) := by decide +kernel
theorem dX5_flip_57 : decode cX5_flip 57 = .ok (.getfield 12, 3) := by decide +kernel
theorem dX5_flip_60 : decode cX5_flip 60 = .ok (.getfield 55, 3) := by decide +kernel
theorem dX5_flip_63 : decode cX5_flip 63 = .ok (.getfield 104, 3) := by decide +kernel
theorem dX5_flip_66 : decode cX5_flip 66 = .ok (.iload_n 1, 1) := by decide +kernel
theorem dX5_flip_67 : decode cX5_flip 67 = .ok (.iload_n 2, 1) := by decide +kernel
theorem dX5_flip_68 : decode cX5_flip 68 = .ok (.iastore, 1) := by decide +kernel
theorem dX5_flip_69 : decode cX5_flip 69 = .ok (.iload_n 2, 1) := by decide +kernel
theorem dX5_flip_70 : decode cX5_flip 70 = .ok (.ireturn, 1) := by decide +kernel
set_option maxRecDepth 20000 in
theorem ggX5_erase_X5_isOnLine : GoodIn wsX5_erase wsX5_isOnLine := goodIn_r _ [8, 9, 10, 11, 7, 12, 1, 2, 13, 14, 15, 80, 81, 82, 83, 84, 85, 86, 87, 88, 89, 90, 91, 92, 93, 94, 95, 96, 97, 98] (by decide +kernel) (by decide +kernel)
set_option maxRecDepth 20000 in
theorem gX5_erase_X5_isOnLine : GoodIn wsX5_erase (wsV RX5 100 RX5 yX5_isOnLine wsX5_isOnLine) := goodIn_app (goodIn_of _ (by decide +kernel)) ggX5_erase_X5_isOnLine
set_option maxRecDepth 20000 in
theorem ggX5_erase_X5_isTaken : GoodIn wsX5_erase wsX5_isTaken := goodIn_r _ [19, 1, 20, 21, 14, 15, 80, 81, 82, 83, 84, 85, 86, 87, 88, 89, 90, 99, 100, 101, 102, 103, 104, 105, 106, 96, 97, 98] (by decide +kernel) (by decide +kernel)
set_option maxRecDepth 20000 in
theorem gX5_erase_X5_isTaken : GoodIn wsX5_erase (wsV RX5 107 RX5 yX5_isTaken wsX5_isTaken) := goodIn_app (goodIn_of _ (by decide +kernel)) ggX5_erase_X5_isTaken
set_option maxRecDepth 20000 in
theorem ggX5_erase_X5_recordNow : GoodIn wsX5_erase wsX5_recordNow := goodIn_r _ [25, 26, 27, 1, 28, 29, 30, 7, 31, 32, 33, 34, 35, 36, 37, 38, 39, 40, 41, 42, 43, 44, 45, 46, 47, 48, 49, 50, 51, 52, 53, 54, 55, 56, 57, 58, 59, 60, 61, 62, 63, 64, 65, 66, 67, 68, 69, 70, 71, 72, 73, 74, 75, 76, 77, 78, 79, 80, 81, 82, 83, 84, 85, 86, 87, 88, 89, 90, 96, 97, 98, 91, 92, 93, 94, 95, 99, 100, 101, 102, 103, 104, 105, 106] (by decide +kernel) (by decide +kernel)
set_option maxRecDepth 20000 in
theorem gX5_erase_X5_recordNow : GoodIn wsX5_erase (wsV RX5 42 RX5 yX5_recordNow wsX5_recordNow) := goodIn_app (goodIn_of _ (by decide +kernel)) ggX5_erase_X5_recordNow
theorem dX5_erase_0 : decode cX5_erase 0 = .ok (.aload_n 0, 1) := by decide +kernel
theorem dX5_erase_1 : decode cX5_erase 1 = .ok (.iload_n 1, 1) := by decide +kernel
theorem dX5_erase_2 : decode cX5_erase 2 = .ok (.invokevirtual 100, 3) := by decide +kernel
theorem dX5_erase_5 : decode cX5_erase 5 = .ok (.ifCond .ne 5, 3) := by decide +kernel
theorem dX5_erase_8 : decode cX5_erase 8 = .ok (.iconst (-1), 1) := by decide +kernel
theorem dX5_erase_9 : decode cX5_erase 9 = .ok (.ireturn, 1) := by decide +kernel
theorem dX5_erase_10 : decode cX5_erase 10 = .ok (.aload_n 0, 1) := by decide +kernel
theorem dX5_erase_11 : decode cX5_erase 11 = .ok (.iload_n 1, 1) := by decide +kernel
theorem dX5_erase_12 : decode cX5_erase 12 = .ok (.invokevirtual 107, 3) := by decide +kernel
theorem dX5_erase_15 : decode cX5_erase 15 = .ok (.ifCond .eq 6, 3) := by decide +kernel
theorem dX5_erase_18 : decode cX5_erase 18 = .ok (.bipush (-4), 2) := by decide +kernel
theorem dX5_erase_20 : decode cX5_erase 20 = .ok (.ireturn, 1) := by decide +kernel
theorem dX5_erase_21 : decode cX5_erase 21 = .ok (.aload_n 0, 1) := by decide +kernel
theorem dX5_erase_22 : decode cX5_erase 22 = .ok (.getfield 12, 3) := by decide +kernel
theorem dX5_erase_25 : decode cX5_erase 25 = .ok (.getfield 55, 3) := by decide +kernel
theorem dX5_erase_28 : decode cX5_erase 28 = .ok (.getfield 104, 3) := by decide +kernel
theorem dX5_erase_31 : decode cX5_erase 31 = .ok (.iload_n 1, 1) := by decide +kernel
theorem dX5_erase_32 : decode cX5_erase 32 = .ok (.iaload, 1) := by decide +kernel
theorem dX5_erase_33 : decode cX5_erase 33 = .ok (.istore_n 2, 1) := by decide +kernel
theorem dX5_erase_34 : decode cX5_erase 34 = .ok (.iload_n 2, 1) := by decide +kernel
theorem dX5_erase_35 : decode cX5_erase 35 = .ok (.iconst 2, 1) := by decide +kernel
theorem dX5_erase_36 : decode cX5_erase 36 = .ok (.if_icmp .ne 6, 3) := by decide +kernel
theorem dX5_erase_39 : decode cX5_erase 39 = .ok (.bipush (-5), 2) := by decide +kernel
theorem dX5_erase_41 : decode cX5_erase 41 = .ok (.ireturn, 1) := by decide +kernel
theorem dX5_erase_42 : decode cX5_erase 42 = .ok (.aload_n 0, 1) := by decide +kernel
theorem dX5_erase_43 : decode cX5_erase 43 = .ok (.invokevirtual 42, 3) := by decide +kernel
theorem dX5_erase_46 : decode cX5_erase 46 = .ok (.aload_n 0, 1) := by decide +kernel
theorem dX5_erase_47 : decode cX5_erase 47 = .ok (.getfield 12, 3) := by decide +kernel
theorem dX5_erase_50 : decode cX5_erase 50 = .ok (.getfield 55, 3) := by decide +kernel
theorem dX5_erase_53 : decode cX5_erase 53 = .ok (.getfield 104, 3) := by decide +kernel
theorem dX5_erase_56 : decode cX5_erase 56 = .ok (.iload_n 1, 1) := by decide +kernel
theorem dX5_erase_57 : decode cX5_erase 57 = .ok (.iconst 2, 1) := by decide +kernel
theorem dX5_erase_58 : decode cX5_erase 58 = .ok (.iastore, 1) := by decide +kernel
theorem dX5_erase_59 : decode cX5_erase 59 = .ok (.iload_n 2, 1) := by decide +kernel
theorem dX5_erase_60 : decode cX5_erase 60 = .ok (.ireturn, 1) := by decide +kernel
set_option maxRecDepth 20000 in
theorem ggX5_take_X5_recordNow : GoodIn wsX5_take wsX5_recordNow := goodIn_r _ [17, 18, 19, 1, 20, 21, 22, 16, 23, 24, 25, 26, 27, 28, 29, 30, 31, 32, 33, 34, 35, 36, 37, 38, 39, 40, 41, 42, 43, 44, 45, 46, 47, 48, 49, 50, 51, 52, 53, 54, 55, 56, 57, 58, 59, 60, 61, 62, 63, 64, 65, 66, 67, 68, 69, 70, 71, 125, 126, 127, 128, 129, 130, 131, 132, 133, 134, 135, 149, 150, 151, 144, 145, 146, 147, 148, 136, 137, 138, 139, 140, 141, 142, 143] (by decide +kernel) (by decide +kernel)
set_option maxRecDepth 20000 in
theorem gX5_take_X5_recordNow : GoodIn wsX5_take (wsV RX5 42 RX5 yX5_recordNow wsX5_recordNow) := goodIn_app (goodIn_of _ (by decide +kernel)) ggX5_take_X5_recordNow
set_option maxRecDepth 20000 in
theorem ggX5_take_X1_advance : GoodIn wsX5_take wsX1_advance := goodIn_r _ [75, 64, 76, 70, 69, 54, 55, 56, 71, 66, 77, 78, 79, 36, 80, 38, 81, 82, 83, 84, 85, 86, 87, 88, 89, 90, 91, 92, 62, 93, 94, 95, 96, 97, 44, 98, 99, 100, 101, 102, 103, 104, 105, 39, 106, 107, 108, 109, 110, 111, 112, 113, 114, 115, 116, 117, 118, 119, 120, 68, 121, 122, 123, 124, 136, 137, 138, 139, 140, 141, 142, 143, 149, 150, 151] (by decide +kernel) (by decide +kernel)
set_option maxRecDepth 20000 in
theorem gX5_take_X1_advance : GoodIn wsX5_take (wsV RX5 116 RX1 yX1_advance wsX1_advance) := goodIn_app (goodIn_of _ (by decide +kernel)) ggX5_take_X1_advance
theorem dX5_take_0 : decode cX5_take 0 = .ok (.aload_n 0, 1) := by decide +kernel
theorem dX5_take_1 : decode cX5_take 1 = .ok (.getfield 12, 3) := by decide +kernel
theorem dX5_take_4 : decode cX5_take 4 = .ok (.getfield 64, 3) := by decide +kernel
theorem dX5_take_7 : decode cX5_take 7 = .ok (.astore_n 2, 1) := by decide +kernel
theorem dX5_take_8 : decode cX5_take 8 = .ok (.iload_n 1, 1) := by decide +kernel
theorem dX5_take_9 : decode cX5_take 9 = .ok (.iconst 1, 1) := by decide +kernel
theorem dX5_take_10 : decode cX5_take 10 = .ok (.if_icmp .lt 9, 3) := by decide +kernel
theorem dX5_take_13 : decode cX5_take 13 = .ok (.iload_n 1, 1) := by decide +kernel
theorem dX5_take_14 : decode cX5_take 14 = .ok (.bipush 80, 2) := by decide +kernel
theorem dX5_take_16 : decode cX5_take 16 = .ok (.if_icmp .le 6, 3) := by decide +kernel
theorem dX5_take_19 : decode cX5_take 19 = .ok (.bipush (-2), 2) := by decide +kernel
theorem dX5_take_21 : decode cX5_take 21 = .ok (.ireturn, 1) := by decide +kernel
theorem dX5_take_22 : decode cX5_take 22 = .ok (.aload_n 2, 1) := by decide +kernel
theorem dX5_take_23 : decode cX5_take 23 = .ok (.getfield 110, 3) := by decide +kernel
theorem dX5_take_26 : decode cX5_take 26 = .ok (.ifCond .ne 22, 3) := by decide +kernel
theorem dX5_take_29 : decode cX5_take 29 = .ok (.aload_n 2, 1) := by decide +kernel
theorem dX5_take_30 : decode cX5_take 30 = .ok (.getfield 113, 3) := by decide +kernel
theorem dX5_take_33 : decode cX5_take 33 = .ok (.iload_n 1, 1) := by decide +kernel
theorem dX5_take_34 : decode cX5_take 34 = .ok (.iadd, 1) := by decide +kernel
theorem dX5_take_35 : decode cX5_take 35 = .ok (.aload_n 0, 1) := by decide +kernel
theorem dX5_take_36 : decode cX5_take 36 = .ok (.getfield 12, 3) := by decide +kernel
theorem dX5_take_39 : decode cX5_take 39 = .ok (.getfield 55, 3) := by decide +kernel
theorem dX5_take_42 : decode cX5_take 42 = .ok (.getfield 84, 3) := by decide +kernel
theorem dX5_take_45 : decode cX5_take 45 = .ok (.if_icmp .le 6, 3) := by decide +kernel
theorem dX5_take_48 : decode cX5_take 48 = .ok (.bipush (-4), 2) := by decide +kernel
theorem dX5_take_50 : decode cX5_take 50 = .ok (.ireturn, 1) := by decide +kernel
theorem dX5_take_51 : decode cX5_take 51 = .ok (.aload_n 2, 1) := by decide +kernel
theorem dX5_take_52 : decode cX5_take 52 = .ok (.getfield 74, 3) := by decide +kernel
theorem dX5_take_55 : decode cX5_take 55 = .ok (.iload_n 1, 1) := by decide +kernel
theorem dX5_take_56 : decode cX5_take 56 = .ok (.iadd, 1) := by decide +kernel
theorem dX5_take_57 : decode cX5_take 57 = .ok (.bipush 80, 2) := by decide +kernel
theorem dX5_take_59 : decode cX5_take 59 = .ok (.if_icmp .le 6, 3) := by decide +kernel
theorem dX5_take_62 : decode cX5_take 62 = .ok (.bipush (-3), 2) := by decide +kernel
theorem dX5_take_64 : decode cX5_take 64 = .ok (.ireturn, 1) := by decide +kernel
theorem dX5_take_65 : decode cX5_take 65 = .ok (.aload_n 0, 1) := by decide +kernel
theorem dX5_take_66 : decode cX5_take 66 = .ok (.invokevirtual 42, 3) := by decide +kernel
theorem dX5_take_69 : decode cX5_take 69 = .ok (.aload_n 0, 1) := by decide +kernel
theorem dX5_take_70 : decode cX5_take 70 = .ok (.getfield 12, 3) := by decide +kernel
theorem dX5_take_73 : decode cX5_take 73 = .ok (.getfield 45, 3) := by decide +kernel
theorem dX5_take_76 : decode cX5_take 76 = .ok (.getfield 71, 3) := by decide +kernel
theorem dX5_take_79 : decode cX5_take 79 = .ok (.istore_n 3, 1) := by decide +kernel
theorem dX5_take_80 : decode cX5_take 80 = .ok (.iconst 0, 1) := by decide +kernel
theorem dX5_take_81 : decode cX5_take 81 = .ok (.istore 4, 2) := by decide +kernel
theorem dX5_take_83 : decode cX5_take 83 = .ok (.iload 4, 2) := by decide +kernel
theorem dX5_take_85 : decode cX5_take 85 = .ok (.iload_n 1, 1) := by decide +kernel
theorem dX5_take_86 : decode cX5_take 86 = .ok (.if_icmp .ge 53, 3) := by decide +kernel
theorem dX5_take_89 : decode cX5_take 89 = .ok (.aload_n 2, 1) := by decide +kernel
theorem dX5_take_90 : decode cX5_take 90 = .ok (.aload_n 0, 1) := by decide +kernel
theorem dX5_take_91 : decode cX5_take 91 = .ok (.getfield 12, 3) := by decide +kernel
theorem dX5_take_94 : decode cX5_take 94 = .ok (.getfield 45, 3) := by decide +kernel
theorem dX5_take_97 : decode cX5_take 97 = .ok (.aload_n 0, 1) := by decide +kernel
theorem dX5_take_98 : decode cX5_take 98 = .ok (.getfield 12, 3) := by decide +kernel
theorem dX5_take_101 : decode cX5_take 101 = .ok (.getfield 77, 3) := by decide +kernel
theorem dX5_take_104 : decode cX5_take 104 = .ok (.aload_n 0, 1) := by decide +kernel
theorem dX5_take_105 : decode cX5_take 105 = .ok (.getfield 12, 3) := by decide +kernel
theorem dX5_take_108 : decode cX5_take 108 = .ok (.getfield 55, 3) := by decide +kernel
theorem dX5_take_111 : decode cX5_take 111 = .ok (.getfield 104, 3) := by decide +kernel
theorem dX5_take_114 : decode cX5_take 114 = .ok (.aload_n 2, 1) := by decide +kernel
theorem dX5_take_115 : decode cX5_take 115 = .ok (.getfield 113, 3) := by decide +kernel
theorem dX5_take_118 : decode cX5_take 118 = .ok (.iload_n 3, 1) := by decide +kernel
theorem dX5_take_119 : decode cX5_take 119 = .ok (.imul, 1) := by decide +kernel
theorem dX5_take_120 : decode cX5_take 120 = .ok (.invokevirtual 116, 3) := by decide +kernel
theorem dX5_take_123 : decode cX5_take 123 = .ok (.aload_n 2, 1) := by decide +kernel
theorem dX5_take_124 : decode cX5_take 124 = .ok (.dup, 1) := by decide +kernel
theorem dX5_take_125 : decode cX5_take 125 = .ok (.getfield 113, 3) := by decide +kernel
theorem dX5_take_128 : decode cX5_take 128 = .ok (.iconst 1, 1) := by decide +kernel
theorem dX5_take_129 : decode cX5_take 129 = .ok (.iadd, 1) := by decide +kernel
theorem dX5_take_130 : decode cX5_take 130 = .ok (.putfield 113, 3) := by decide +kernel
theorem dX5_take_133 : decode cX5_take 133 = .ok (.iinc 4 1, 3) := by decide +kernel
theorem dX5_take_136 : decode cX5_take 136 = .ok (.goto (-53), 3) := by decide +kernel
theorem dX5_take_139 : decode cX5_take 139 = .ok (.aload_n 2, 1) := by decide +kernel
theorem dX5_take_140 : decode cX5_take 140 = .ok (.getfield 120, 3) := by decide +kernel
theorem dX5_take_143 : decode cX5_take 143 = .ok (.ireturn, 1) := by decide +kernel
set_option maxRecDepth 20000 in
theorem ggX5_hear_X4_firstFault : GoodIn wsX5_hear wsX4_firstFault := goodIn_r _ [16, 17, 18, 145, 146] (by decide +kernel) (by decide +kernel)
set_option maxRecDepth 20000 in
theorem gX5_hear_X4_firstFault : GoodIn wsX5_hear (wsV RX5 80 RX4 yX4_firstFault wsX4_firstFault) := goodIn_app (goodIn_of _ (by decide +kernel)) ggX5_hear_X4_firstFault
set_option maxRecDepth 20000 in
theorem ggX5_hear_X5_recordNow : GoodIn wsX5_hear wsX5_recordNow := goodIn_r _ [23, 24, 25, 1, 26, 27, 28, 22, 29, 30, 31, 32, 33, 34, 35, 36, 37, 38, 39, 40, 41, 42, 43, 44, 45, 46, 47, 48, 49, 50, 51, 52, 53, 54, 55, 56, 57, 58, 59, 60, 61, 62, 63, 64, 65, 66, 67, 68, 69, 70, 71, 72, 73, 74, 75, 76, 77, 131, 132, 133, 134, 135, 136, 137, 138, 139, 140, 141, 142, 143, 144, 155, 156, 157, 158, 159, 147, 148, 149, 150, 151, 152, 153, 154] (by decide +kernel) (by decide +kernel)
set_option maxRecDepth 20000 in
theorem gX5_hear_X5_recordNow : GoodIn wsX5_hear (wsV RX5 42 RX5 yX5_recordNow wsX5_recordNow) := goodIn_app (goodIn_of _ (by decide +kernel)) ggX5_hear_X5_recordNow
set_option maxRecDepth 20000 in
theorem ggX5_hear_X1_advance : GoodIn wsX5_hear wsX1_advance := goodIn_r _ [81, 70, 82, 76, 75, 60, 61, 62, 77, 72, 83, 84, 85, 42, 86, 44, 87, 88, 89, 90, 91, 92, 93, 94, 95, 96, 97, 98, 68, 99, 100, 101, 102, 103, 50, 104, 105, 106, 107, 108, 109, 110, 111, 45, 112, 113, 114, 115, 116, 117, 118, 119, 120, 121, 122, 123, 124, 125, 126, 74, 127, 128, 129, 130, 147, 148, 149, 150, 151, 152, 153, 154, 142, 143, 144] (by decide +kernel) (by decide +kernel)
set_option maxRecDepth 20000 in
theorem gX5_hear_X1_advance : GoodIn wsX5_hear (wsV RX5 116 RX1 yX1_advance wsX1_advance) := goodIn_app (goodIn_of _ (by decide +kernel)) ggX5_hear_X1_advance
theorem dX5_hear_0 : decode cX5_hear 0 = .ok (.aload_n 0, 1) := by decide +kernel
theorem dX5_hear_1 : decode cX5_hear 1 = .ok (.getfield 12, 3) := by decide +kernel
theorem dX5_hear_4 : decode cX5_hear 4 = .ok (.getfield 64, 3) := by decide +kernel
theorem dX5_hear_7 : decode cX5_hear 7 = .ok (.astore_n 1, 1) := by decide +kernel
theorem dX5_hear_8 : decode cX5_hear 8 = .ok (.aload_n 0, 1) := by decide +kernel
theorem dX5_hear_9 : decode cX5_hear 9 = .ok (.getfield 34, 3) := by decide +kernel
theorem dX5_hear_12 : decode cX5_hear 12 = .ok (.iconst 2, 1) := by decide +kernel
theorem dX5_hear_13 : decode cX5_hear 13 = .ok (.invokevirtual 80, 3) := by decide +kernel
theorem dX5_hear_16 : decode cX5_hear 16 = .ok (.istore_n 2, 1) := by decide +kernel
theorem dX5_hear_17 : decode cX5_hear 17 = .ok (.iload_n 2, 1) := by decide +kernel
theorem dX5_hear_18 : decode cX5_hear 18 = .ok (.iconst (-1), 1) := by decide +kernel
theorem dX5_hear_19 : decode cX5_hear 19 = .ok (.if_icmp .eq 8, 3) := by decide +kernel
theorem dX5_hear_22 : decode cX5_hear 22 = .ok (.bipush (-100), 2) := by decide +kernel
theorem dX5_hear_24 : decode cX5_hear 24 = .ok (.iload_n 2, 1) := by decide +kernel
theorem dX5_hear_25 : decode cX5_hear 25 = .ok (.isub, 1) := by decide +kernel
theorem dX5_hear_26 : decode cX5_hear 26 = .ok (.ireturn, 1) := by decide +kernel
theorem dX5_hear_27 : decode cX5_hear 27 = .ok (.aload_n 0, 1) := by decide +kernel
theorem dX5_hear_28 : decode cX5_hear 28 = .ok (.getfield 12, 3) := by decide +kernel
theorem dX5_hear_31 : decode cX5_hear 31 = .ok (.getfield 45, 3) := by decide +kernel
theorem dX5_hear_34 : decode cX5_hear 34 = .ok (.getfield 71, 3) := by decide +kernel
theorem dX5_hear_37 : decode cX5_hear 37 = .ok (.istore_n 3, 1) := by decide +kernel
theorem dX5_hear_38 : decode cX5_hear 38 = .ok (.iload_n 3, 1) := by decide +kernel
theorem dX5_hear_39 : decode cX5_hear 39 = .ok (.ifCond .le 15, 3) := by decide +kernel
theorem dX5_hear_42 : decode cX5_hear 42 = .ok (.aload_n 0, 1) := by decide +kernel
theorem dX5_hear_43 : decode cX5_hear 43 = .ok (.getfield 34, 3) := by decide +kernel
theorem dX5_hear_46 : decode cX5_hear 46 = .ok (.getfield 87, 3) := by decide +kernel
theorem dX5_hear_49 : decode cX5_hear 49 = .ok (.iload_n 3, 1) := by decide +kernel
theorem dX5_hear_50 : decode cX5_hear 50 = .ok (.idiv, 1) := by decide +kernel
theorem dX5_hear_51 : decode cX5_hear 51 = .ok (.goto 4, 3) := by decide +kernel
theorem dX5_hear_54 : decode cX5_hear 54 = .ok (.iconst 0, 1) := by decide +kernel
theorem dX5_hear_55 : decode cX5_hear 55 = .ok (.istore 4, 2) := by decide +kernel
theorem dX5_hear_57 : decode cX5_hear 57 = .ok (.iload 4, 2) := by decide +kernel
theorem dX5_hear_59 : decode cX5_hear 59 = .ok (.iload_n 3, 1) := by decide +kernel
theorem dX5_hear_60 : decode cX5_hear 60 = .ok (.imul, 1) := by decide +kernel
theorem dX5_hear_61 : decode cX5_hear 61 = .ok (.aload_n 0, 1) := by decide +kernel
theorem dX5_hear_62 : decode cX5_hear 62 = .ok (.getfield 34, 3) := by decide +kernel
theorem dX5_hear_65 : decode cX5_hear 65 = .ok (.getfield 87, 3) := by decide +kernel
theorem dX5_hear_68 : decode cX5_hear 68 = .ok (.if_icmp .eq 6, 3) := by decide +kernel
theorem dX5_hear_71 : decode cX5_hear 71 = .ok (.bipush (-2), 2) := by decide +kernel
theorem dX5_hear_73 : decode cX5_hear 73 = .ok (.ireturn, 1) := by decide +kernel
theorem dX5_hear_74 : decode cX5_hear 74 = .ok (.aload_n 1, 1) := by decide +kernel
theorem dX5_hear_75 : decode cX5_hear 75 = .ok (.getfield 110, 3) := by decide +kernel
theorem dX5_hear_78 : decode cX5_hear 78 = .ok (.ifCond .eq 6, 3) := by decide +kernel
theorem dX5_hear_81 : decode cX5_hear 81 = .ok (.bipush (-4), 2) := by decide +kernel
theorem dX5_hear_83 : decode cX5_hear 83 = .ok (.ireturn, 1) := by decide +kernel
theorem dX5_hear_84 : decode cX5_hear 84 = .ok (.aload_n 1, 1) := by decide +kernel
theorem dX5_hear_85 : decode cX5_hear 85 = .ok (.getfield 74, 3) := by decide +kernel
theorem dX5_hear_88 : decode cX5_hear 88 = .ok (.iload 4, 2) := by decide +kernel
theorem dX5_hear_90 : decode cX5_hear 90 = .ok (.iadd, 1) := by decide +kernel
theorem dX5_hear_91 : decode cX5_hear 91 = .ok (.bipush 80, 2) := by decide +kernel
theorem dX5_hear_93 : decode cX5_hear 93 = .ok (.if_icmp .le 6, 3) := by decide +kernel
theorem dX5_hear_96 : decode cX5_hear 96 = .ok (.bipush (-3), 2) := by decide +kernel
theorem dX5_hear_98 : decode cX5_hear 98 = .ok (.ireturn, 1) := by decide +kernel
theorem dX5_hear_99 : decode cX5_hear 99 = .ok (.aload_n 0, 1) := by decide +kernel
theorem dX5_hear_100 : decode cX5_hear 100 = .ok (.invokevirtual 42, 3) := by decide +kernel
theorem dX5_hear_103 : decode cX5_hear 103 = .ok (.iconst 0, 1) := by decide +kernel
theorem dX5_hear_104 : decode cX5_hear 104 = .ok (.istore 5, 2) := by decide +kernel
theorem dX5_hear_106 : decode cX5_hear 106 = .ok (.iload 5, 2) := by decide +kernel
theorem dX5_hear_108 : decode cX5_hear 108 = .ok (.iload 4, 2) := by decide +kernel
theorem dX5_hear_110 : decode cX5_hear 110 = .ok (.if_icmp .ge 38, 3) := by decide +kernel
theorem dX5_hear_113 : decode cX5_hear 113 = .ok (.aload_n 1, 1) := by decide +kernel
theorem dX5_hear_114 : decode cX5_hear 114 = .ok (.aload_n 0, 1) := by decide +kernel
theorem dX5_hear_115 : decode cX5_hear 115 = .ok (.getfield 12, 3) := by decide +kernel
theorem dX5_hear_118 : decode cX5_hear 118 = .ok (.getfield 45, 3) := by decide +kernel
theorem dX5_hear_121 : decode cX5_hear 121 = .ok (.aload_n 0, 1) := by decide +kernel
theorem dX5_hear_122 : decode cX5_hear 122 = .ok (.getfield 12, 3) := by decide +kernel
theorem dX5_hear_125 : decode cX5_hear 125 = .ok (.getfield 77, 3) := by decide +kernel
theorem dX5_hear_128 : decode cX5_hear 128 = .ok (.aload_n 0, 1) := by decide +kernel
theorem dX5_hear_129 : decode cX5_hear 129 = .ok (.getfield 34, 3) := by decide +kernel
theorem dX5_hear_132 : decode cX5_hear 132 = .ok (.getfield 90, 3) := by decide +kernel
theorem dX5_hear_135 : decode cX5_hear 135 = .ok (.iload 5, 2) := by decide +kernel
theorem dX5_hear_137 : decode cX5_hear 137 = .ok (.iload_n 3, 1) := by decide +kernel
theorem dX5_hear_138 : decode cX5_hear 138 = .ok (.imul, 1) := by decide +kernel
theorem dX5_hear_139 : decode cX5_hear 139 = .ok (.invokevirtual 116, 3) := by decide +kernel
theorem dX5_hear_142 : decode cX5_hear 142 = .ok (.iinc 5 1, 3) := by decide +kernel
theorem dX5_hear_145 : decode cX5_hear 145 = .ok (.goto (-39), 3) := by decide +kernel
theorem dX5_hear_148 : decode cX5_hear 148 = .ok (.aload_n 1, 1) := by decide +kernel
theorem dX5_hear_149 : decode cX5_hear 149 = .ok (.getfield 120, 3) := by decide +kernel
theorem dX5_hear_152 : decode cX5_hear 152 = .ok (.ireturn, 1) := by decide +kernel
set_option maxRecDepth 20000 in
theorem ggX5_finish_X5_recordNow : GoodIn wsX5_finish wsX5_recordNow := goodIn_r _ [12, 13, 14, 1, 15, 16, 17, 11, 18, 19, 20, 21, 22, 23, 24, 25, 26, 27, 28, 29, 30, 31, 32, 33, 34, 35, 36, 37, 38, 39, 40, 41, 42, 43, 44, 45, 46, 47, 48, 49, 50, 51, 52, 53, 54, 55, 56, 57, 58, 59, 60, 61, 62, 63, 64, 65, 66, 92, 93, 94, 95, 96, 97, 98, 99, 100, 101, 102, 111, 112, 113, 114, 115, 116, 117, 118, 103, 104, 105, 106, 107, 108, 109, 110] (by decide +kernel) (by decide +kernel)
set_option maxRecDepth 20000 in
theorem gX5_finish_X5_recordNow : GoodIn wsX5_finish (wsV RX5 42 RX5 yX5_recordNow wsX5_recordNow) := goodIn_app (goodIn_of _ (by decide +kernel)) ggX5_finish_X5_recordNow
set_option maxRecDepth 20000 in
theorem ggX5_finish_X1_bestState : GoodIn wsX5_finish wsX1_bestState := goodIn_r _ [70, 65, 71, 72, 73, 31, 74, 33, 103, 104, 105, 106, 107, 108, 109, 110, 111, 112, 113] (by decide +kernel) (by decide +kernel)
set_option maxRecDepth 20000 in
theorem gX5_finish_X1_bestState : GoodIn wsX5_finish (wsV RX5 126 RX1 yX1_bestState wsX1_bestState) := goodIn_app (goodIn_of _ (by decide +kernel)) ggX5_finish_X1_bestState
set_option maxRecDepth 20000 in
theorem ggX5_finish_X1_releaseUpTo : GoodIn wsX5_finish wsX1_releaseUpTo := goodIn_r _ [78, 59, 61, 63, 79, 80, 81, 31, 82, 33, 83, 84, 85, 57, 86, 66, 87, 88, 89, 90, 91, 72, 73, 74, 103, 104, 105, 106, 107, 108, 109, 110, 111, 112, 113] (by decide +kernel) (by decide +kernel)
set_option maxRecDepth 20000 in
theorem gX5_finish_X1_releaseUpTo : GoodIn wsX5_finish (wsV RX5 130 RX1 yX1_releaseUpTo wsX1_releaseUpTo) := goodIn_app (goodIn_of _ (by decide +kernel)) ggX5_finish_X1_releaseUpTo
theorem dX5_finish_0 : decode cX5_finish 0 = .ok (.aload_n 0, 1) := by decide +kernel
theorem dX5_finish_1 : decode cX5_finish 1 = .ok (.getfield 12, 3) := by decide +kernel
theorem dX5_finish_4 : decode cX5_finish 4 = .ok (.getfield 64, 3) := by decide +kernel
theorem dX5_finish_7 : decode cX5_finish 7 = .ok (.astore_n 2, 1) := by decide +kernel
theorem dX5_finish_8 : decode cX5_finish 8 = .ok (.aload_n 2, 1) := by decide +kernel
theorem dX5_finish_9 : decode cX5_finish 9 = .ok (.getfield 110, 3) := by decide +kernel
theorem dX5_finish_12 : decode cX5_finish 12 = .ok (.ifCond .ne 17, 3) := by decide +kernel
theorem dX5_finish_15 : decode cX5_finish 15 = .ok (.iload_n 1, 1) := by decide +kernel
theorem dX5_finish_16 : decode cX5_finish 16 = .ok (.ifCond .eq 16, 3) := by decide +kernel
theorem dX5_finish_19 : decode cX5_finish 19 = .ok (.aload_n 2, 1) := by decide +kernel
theorem dX5_finish_20 : decode cX5_finish 20 = .ok (.getfield 123, 3) := by decide +kernel
theorem dX5_finish_23 : decode cX5_finish 23 = .ok (.iconst 0, 1) := by decide +kernel
theorem dX5_finish_24 : decode cX5_finish 24 = .ok (.iaload, 1) := by decide +kernel
theorem dX5_finish_25 : decode cX5_finish 25 = .ok (.iconst (-1), 1) := by decide +kernel
theorem dX5_finish_26 : decode cX5_finish 26 = .ok (.if_icmp .ne 6, 3) := by decide +kernel
theorem dX5_finish_29 : decode cX5_finish 29 = .ok (.bipush (-4), 2) := by decide +kernel
theorem dX5_finish_31 : decode cX5_finish 31 = .ok (.ireturn, 1) := by decide +kernel
theorem dX5_finish_32 : decode cX5_finish 32 = .ok (.aload_n 0, 1) := by decide +kernel
theorem dX5_finish_33 : decode cX5_finish 33 = .ok (.invokevirtual 42, 3) := by decide +kernel
theorem dX5_finish_36 : decode cX5_finish 36 = .ok (.iload_n 1, 1) := by decide +kernel
theorem dX5_finish_37 : decode cX5_finish 37 = .ok (.ifCond .eq 7, 3) := by decide +kernel
theorem dX5_finish_40 : decode cX5_finish 40 = .ok (.iconst 0, 1) := by decide +kernel
theorem dX5_finish_41 : decode cX5_finish 41 = .ok (.goto 14, 3) := by decide +kernel
theorem dX5_finish_44 : decode cX5_finish 44 = .ok (.aload_n 2, 1) := by decide +kernel
theorem dX5_finish_45 : decode cX5_finish 45 = .ok (.aload_n 0, 1) := by decide +kernel
theorem dX5_finish_46 : decode cX5_finish 46 = .ok (.getfield 12, 3) := by decide +kernel
theorem dX5_finish_49 : decode cX5_finish 49 = .ok (.getfield 45, 3) := by decide +kernel
theorem dX5_finish_52 : decode cX5_finish 52 = .ok (.invokevirtual 126, 3) := by decide +kernel
theorem dX5_finish_55 : decode cX5_finish 55 = .ok (.istore_n 3, 1) := by decide +kernel
theorem dX5_finish_56 : decode cX5_finish 56 = .ok (.aload_n 2, 1) := by decide +kernel
theorem dX5_finish_57 : decode cX5_finish 57 = .ok (.aload_n 0, 1) := by decide +kernel
theorem dX5_finish_58 : decode cX5_finish 58 = .ok (.getfield 12, 3) := by decide +kernel
theorem dX5_finish_61 : decode cX5_finish 61 = .ok (.getfield 45, 3) := by decide +kernel
theorem dX5_finish_64 : decode cX5_finish 64 = .ok (.iload_n 3, 1) := by decide +kernel
theorem dX5_finish_65 : decode cX5_finish 65 = .ok (.aload_n 2, 1) := by decide +kernel
theorem dX5_finish_66 : decode cX5_finish 66 = .ok (.getfield 74, 3) := by decide +kernel
theorem dX5_finish_69 : decode cX5_finish 69 = .ok (.invokevirtual 130, 3) := by decide +kernel
theorem dX5_finish_72 : decode cX5_finish 72 = .ok (.aload_n 2, 1) := by decide +kernel
theorem dX5_finish_73 : decode cX5_finish 73 = .ok (.iconst 1, 1) := by decide +kernel
theorem dX5_finish_74 : decode cX5_finish 74 = .ok (.putfield 110, 3) := by decide +kernel
theorem dX5_finish_77 : decode cX5_finish 77 = .ok (.aload_n 2, 1) := by decide +kernel
theorem dX5_finish_78 : decode cX5_finish 78 = .ok (.getfield 120, 3) := by decide +kernel
theorem dX5_finish_81 : decode cX5_finish 81 = .ok (.ireturn, 1) := by decide +kernel
set_option maxRecDepth 20000 in
theorem ggX5_reset_X5_recordNow : GoodIn wsX5_reset wsX5_recordNow := goodIn_r _ [8, 9, 10, 1, 11, 12, 13, 7, 14, 15, 16, 17, 18, 19, 20, 21, 22, 23, 24, 25, 26, 27, 28, 29, 30, 31, 32, 33, 34, 35, 36, 37, 38, 39, 40, 41, 42, 43, 44, 45, 46, 47, 48, 49, 50, 51, 52, 53, 54, 55, 56, 57, 58, 59, 60, 61, 62, 71, 72, 73, 74, 75, 76, 77, 78, 79, 80, 81, 90, 91, 92, 93, 94, 95, 96, 97, 82, 83, 84, 85, 86, 87, 88, 89] (by decide +kernel) (by decide +kernel)
set_option maxRecDepth 20000 in
theorem gX5_reset_X5_recordNow : GoodIn wsX5_reset (wsV RX5 42 RX5 yX5_recordNow wsX5_recordNow) := goodIn_app (goodIn_of _ (by decide +kernel)) ggX5_reset_X5_recordNow
set_option maxRecDepth 20000 in
theorem ggX5_reset_X1_clear : GoodIn wsX5_reset wsX1_clear := goodIn_r _ [66, 55, 56, 57, 58, 61, 67, 68, 69, 70, 82, 83, 84, 85, 86, 87, 88, 89] (by decide +kernel) (by decide +kernel)
set_option maxRecDepth 20000 in
theorem gX5_reset_X1_clear : GoodIn wsX5_reset (wsV RX5 68 RX1 yX1_clear wsX1_clear) := goodIn_app (goodIn_of _ (by decide +kernel)) ggX5_reset_X1_clear
theorem dX5_reset_0 : decode cX5_reset 0 = .ok (.aload_n 0, 1) := by decide +kernel
theorem dX5_reset_1 : decode cX5_reset 1 = .ok (.invokevirtual 42, 3) := by decide +kernel
theorem dX5_reset_4 : decode cX5_reset 4 = .ok (.aload_n 0, 1) := by decide +kernel
theorem dX5_reset_5 : decode cX5_reset 5 = .ok (.getfield 12, 3) := by decide +kernel
theorem dX5_reset_8 : decode cX5_reset 8 = .ok (.getfield 64, 3) := by decide +kernel
theorem dX5_reset_11 : decode cX5_reset 11 = .ok (.getfield 74, 3) := by decide +kernel
theorem dX5_reset_14 : decode cX5_reset 14 = .ok (.istore_n 1, 1) := by decide +kernel
theorem dX5_reset_15 : decode cX5_reset 15 = .ok (.aload_n 0, 1) := by decide +kernel
theorem dX5_reset_16 : decode cX5_reset 16 = .ok (.getfield 12, 3) := by decide +kernel
theorem dX5_reset_19 : decode cX5_reset 19 = .ok (.getfield 64, 3) := by decide +kernel
theorem dX5_reset_22 : decode cX5_reset 22 = .ok (.invokevirtual 68, 3) := by decide +kernel
theorem dX5_reset_25 : decode cX5_reset 25 = .ok (.iload_n 1, 1) := by decide +kernel
theorem dX5_reset_26 : decode cX5_reset 26 = .ok (.ireturn, 1) := by decide +kernel
set_option maxRecDepth 20000 in
theorem ggX5_type_X4_append : GoodIn wsX5_type wsX4_append := goodIn_r _ [7, 8, 9, 10, 11, 6, 12, 20, 21] (by decide +kernel) (by decide +kernel)
set_option maxRecDepth 20000 in
theorem gX5_type_X4_append : GoodIn wsX5_type (wsV RX5 134 RX4 yX4_append wsX4_append) := goodIn_app (goodIn_of _ (by decide +kernel)) ggX5_type_X4_append
theorem dX5_type_0 : decode cX5_type 0 = .ok (.aload_n 0, 1) := by decide +kernel
theorem dX5_type_1 : decode cX5_type 1 = .ok (.getfield 34, 3) := by decide +kernel
theorem dX5_type_4 : decode cX5_type 4 = .ok (.getfield 87, 3) := by decide +kernel
theorem dX5_type_7 : decode cX5_type 7 = .ok (.bipush 60, 2) := by decide +kernel
theorem dX5_type_9 : decode cX5_type 9 = .ok (.if_icmp .lt 6, 3) := by decide +kernel
theorem dX5_type_12 : decode cX5_type 12 = .ok (.bipush (-3), 2) := by decide +kernel
theorem dX5_type_14 : decode cX5_type 14 = .ok (.ireturn, 1) := by decide +kernel
theorem dX5_type_15 : decode cX5_type 15 = .ok (.aload_n 0, 1) := by decide +kernel
theorem dX5_type_16 : decode cX5_type 16 = .ok (.getfield 34, 3) := by decide +kernel
theorem dX5_type_19 : decode cX5_type 19 = .ok (.iload_n 1, 1) := by decide +kernel
theorem dX5_type_20 : decode cX5_type 20 = .ok (.invokevirtual 134, 3) := by decide +kernel
theorem dX5_type_23 : decode cX5_type 23 = .ok (.aload_n 0, 1) := by decide +kernel
theorem dX5_type_24 : decode cX5_type 24 = .ok (.getfield 34, 3) := by decide +kernel
theorem dX5_type_27 : decode cX5_type 27 = .ok (.getfield 87, 3) := by decide +kernel
theorem dX5_type_30 : decode cX5_type 30 = .ok (.ireturn, 1) := by decide +kernel
theorem dX5_clearText_0 : decode cX5_clearText 0 = .ok (.aload_n 0, 1) := by decide +kernel
theorem dX5_clearText_1 : decode cX5_clearText 1 = .ok (.getfield 34, 3) := by decide +kernel
theorem dX5_clearText_4 : decode cX5_clearText 4 = .ok (.getfield 87, 3) := by decide +kernel
theorem dX5_clearText_7 : decode cX5_clearText 7 = .ok (.istore_n 1, 1) := by decide +kernel
theorem dX5_clearText_8 : decode cX5_clearText 8 = .ok (.aload_n 0, 1) := by decide +kernel
theorem dX5_clearText_9 : decode cX5_clearText 9 = .ok (.getfield 34, 3) := by decide +kernel
theorem dX5_clearText_12 : decode cX5_clearText 12 = .ok (.iconst 0, 1) := by decide +kernel
theorem dX5_clearText_13 : decode cX5_clearText 13 = .ok (.putfield 87, 3) := by decide +kernel
theorem dX5_clearText_16 : decode cX5_clearText 16 = .ok (.iload_n 1, 1) := by decide +kernel
theorem dX5_clearText_17 : decode cX5_clearText 17 = .ok (.ireturn, 1) := by decide +kernel
set_option maxRecDepth 20000 in
theorem ggX5_undo_X3_copyFrom : GoodIn wsX5_undo wsX3_copyFrom := goodIn_r _ [8, 9, 10, 11, 12, 13, 14, 15, 16, 17, 18, 19, 20, 21, 22, 23, 24, 25, 26, 27, 28, 29, 30, 31, 32, 33, 34, 35, 36, 37, 38, 39, 40, 41, 42, 43, 44, 45, 46, 47, 48, 49, 50, 51, 59, 60, 61, 62, 63, 64, 65, 66, 67, 68, 69, 70, 71, 72, 73, 74, 75, 76, 77, 78] (by decide +kernel) (by decide +kernel)
set_option maxRecDepth 20000 in
theorem gX5_undo_X3_copyFrom : GoodIn wsX5_undo (wsV RX5 138 RX3 yX3_copyFrom wsX3_copyFrom) := goodIn_app (goodIn_of _ (by decide +kernel)) ggX5_undo_X3_copyFrom
theorem dX5_undo_0 : decode cX5_undo 0 = .ok (.aload_n 0, 1) := by decide +kernel
theorem dX5_undo_1 : decode cX5_undo 1 = .ok (.getfield 27, 3) := by decide +kernel
theorem dX5_undo_4 : decode cX5_undo 4 = .ok (.iconst 1, 1) := by decide +kernel
theorem dX5_undo_5 : decode cX5_undo 5 = .ok (.if_icmp .ge 6, 3) := by decide +kernel
theorem dX5_undo_8 : decode cX5_undo 8 = .ok (.bipush (-5), 2) := by decide +kernel
theorem dX5_undo_10 : decode cX5_undo 10 = .ok (.ireturn, 1) := by decide +kernel
theorem dX5_undo_11 : decode cX5_undo 11 = .ok (.aload_n 0, 1) := by decide +kernel
theorem dX5_undo_12 : decode cX5_undo 12 = .ok (.dup, 1) := by decide +kernel
theorem dX5_undo_13 : decode cX5_undo 13 = .ok (.getfield 27, 3) := by decide +kernel
theorem dX5_undo_16 : decode cX5_undo 16 = .ok (.iconst 1, 1) := by decide +kernel
theorem dX5_undo_17 : decode cX5_undo 17 = .ok (.isub, 1) := by decide +kernel
theorem dX5_undo_18 : decode cX5_undo 18 = .ok (.putfield 27, 3) := by decide +kernel
theorem dX5_undo_21 : decode cX5_undo 21 = .ok (.aload_n 0, 1) := by decide +kernel
theorem dX5_undo_22 : decode cX5_undo 22 = .ok (.getfield 12, 3) := by decide +kernel
theorem dX5_undo_25 : decode cX5_undo 25 = .ok (.aload_n 0, 1) := by decide +kernel
theorem dX5_undo_26 : decode cX5_undo 26 = .ok (.getfield 23, 3) := by decide +kernel
theorem dX5_undo_29 : decode cX5_undo 29 = .ok (.aload_n 0, 1) := by decide +kernel
theorem dX5_undo_30 : decode cX5_undo 30 = .ok (.getfield 27, 3) := by decide +kernel
theorem dX5_undo_33 : decode cX5_undo 33 = .ok (.aaload, 1) := by decide +kernel
theorem dX5_undo_34 : decode cX5_undo 34 = .ok (.invokevirtual 138, 3) := by decide +kernel
theorem dX5_undo_37 : decode cX5_undo 37 = .ok (.aload_n 0, 1) := by decide +kernel
theorem dX5_undo_38 : decode cX5_undo 38 = .ok (.getfield 27, 3) := by decide +kernel
theorem dX5_undo_41 : decode cX5_undo 41 = .ok (.ireturn, 1) := by decide +kernel
set_option maxRecDepth 20000 in
theorem ggX5_keep_X3_copyFrom : GoodIn wsX5_keep wsX3_copyFrom := goodIn_r _ [10, 11, 12, 13, 14, 15, 16, 17, 18, 19, 20, 21, 22, 23, 24, 25, 26, 27, 28, 29, 30, 31, 32, 33, 34, 35, 36, 37, 38, 39, 40, 41, 42, 43, 44, 45, 46, 47, 48, 49, 50, 51, 52, 53, 61, 62, 63, 64, 70, 71, 72, 65, 66, 67, 68, 69, 73, 74, 75, 76, 77, 78, 79, 80] (by decide +kernel) (by decide +kernel)
set_option maxRecDepth 20000 in
theorem gX5_keep_X3_copyFrom : GoodIn wsX5_keep (wsV RX5 138 RX3 yX3_copyFrom wsX3_copyFrom) := goodIn_app (goodIn_of _ (by decide +kernel)) ggX5_keep_X3_copyFrom
theorem dX5_keep_0 : decode cX5_keep 0 = .ok (.aload_n 0, 1) := by decide +kernel
theorem dX5_keep_1 : decode cX5_keep 1 = .ok (.getfield 16, 3) := by decide +kernel
theorem dX5_keep_4 : decode cX5_keep 4 = .ok (.aload_n 0, 1) := by decide +kernel
theorem dX5_keep_5 : decode cX5_keep 5 = .ok (.getfield 12, 3) := by decide +kernel
theorem dX5_keep_8 : decode cX5_keep 8 = .ok (.invokevirtual 138, 3) := by decide +kernel
theorem dX5_keep_11 : decode cX5_keep 11 = .ok (.aload_n 0, 1) := by decide +kernel
theorem dX5_keep_12 : decode cX5_keep 12 = .ok (.iconst 1, 1) := by decide +kernel
theorem dX5_keep_13 : decode cX5_keep 13 = .ok (.putfield 19, 3) := by decide +kernel
theorem dX5_keep_16 : decode cX5_keep 16 = .ok (.aload_n 0, 1) := by decide +kernel
theorem dX5_keep_17 : decode cX5_keep 17 = .ok (.getfield 12, 3) := by decide +kernel
theorem dX5_keep_20 : decode cX5_keep 20 = .ok (.getfield 55, 3) := by decide +kernel
theorem dX5_keep_23 : decode cX5_keep 23 = .ok (.getfield 84, 3) := by decide +kernel
theorem dX5_keep_26 : decode cX5_keep 26 = .ok (.ireturn, 1) := by decide +kernel
set_option maxRecDepth 20000 in
theorem ggX5_restore_X5_recordNow : GoodIn wsX5_restore wsX5_recordNow := goodIn_r _ [10, 11, 12, 2, 13, 14, 15, 9, 16, 17, 18, 19, 20, 21, 22, 23, 24, 25, 26, 27, 28, 29, 30, 31, 32, 33, 34, 35, 36, 37, 38, 39, 40, 41, 42, 43, 44, 45, 46, 47, 48, 49, 50, 51, 52, 53, 54, 55, 56, 57, 58, 59, 60, 61, 62, 63, 64, 65, 66, 67, 68, 69, 70, 71, 72, 73, 74, 75, 81, 82, 83, 76, 77, 78, 79, 80, 84, 85, 86, 87, 88, 89, 90, 91] (by decide +kernel) (by decide +kernel)
set_option maxRecDepth 20000 in
theorem gX5_restore_X5_recordNow : GoodIn wsX5_restore (wsV RX5 42 RX5 yX5_recordNow wsX5_recordNow) := goodIn_app (goodIn_of _ (by decide +kernel)) ggX5_restore_X5_recordNow
set_option maxRecDepth 20000 in
theorem ggX5_restore_X3_copyFrom : GoodIn wsX5_restore wsX3_copyFrom := goodIn_r _ [21, 22, 23, 24, 25, 26, 27, 28, 29, 30, 31, 32, 33, 34, 35, 36, 37, 38, 39, 40, 41, 42, 43, 44, 45, 46, 47, 48, 49, 50, 51, 52, 53, 54, 55, 56, 57, 58, 59, 60, 61, 62, 63, 64, 72, 73, 74, 75, 81, 82, 83, 76, 77, 78, 79, 80, 84, 85, 86, 87, 88, 89, 90, 91] (by decide +kernel) (by decide +kernel)
set_option maxRecDepth 20000 in
theorem gX5_restore_X3_copyFrom : GoodIn wsX5_restore (wsV RX5 138 RX3 yX3_copyFrom wsX3_copyFrom) := goodIn_app (goodIn_of _ (by decide +kernel)) ggX5_restore_X3_copyFrom
theorem dX5_restore_0 : decode cX5_restore 0 = .ok (.aload_n 0, 1) := by decide +kernel
theorem dX5_restore_1 : decode cX5_restore 1 = .ok (.getfield 19, 3) := by decide +kernel
theorem dX5_restore_4 : decode cX5_restore 4 = .ok (.ifCond .ne 6, 3) := by decide +kernel
theorem dX5_restore_7 : decode cX5_restore 7 = .ok (.bipush (-5), 2) := by decide +kernel
theorem dX5_restore_9 : decode cX5_restore 9 = .ok (.ireturn, 1) := by decide +kernel
theorem dX5_restore_10 : decode cX5_restore 10 = .ok (.aload_n 0, 1) := by decide +kernel
theorem dX5_restore_11 : decode cX5_restore 11 = .ok (.invokevirtual 42, 3) := by decide +kernel
theorem dX5_restore_14 : decode cX5_restore 14 = .ok (.aload_n 0, 1) := by decide +kernel
theorem dX5_restore_15 : decode cX5_restore 15 = .ok (.getfield 12, 3) := by decide +kernel
theorem dX5_restore_18 : decode cX5_restore 18 = .ok (.aload_n 0, 1) := by decide +kernel
theorem dX5_restore_19 : decode cX5_restore 19 = .ok (.getfield 16, 3) := by decide +kernel
theorem dX5_restore_22 : decode cX5_restore 22 = .ok (.invokevirtual 138, 3) := by decide +kernel
theorem dX5_restore_25 : decode cX5_restore 25 = .ok (.aload_n 0, 1) := by decide +kernel
theorem dX5_restore_26 : decode cX5_restore 26 = .ok (.getfield 12, 3) := by decide +kernel
theorem dX5_restore_29 : decode cX5_restore 29 = .ok (.getfield 55, 3) := by decide +kernel
theorem dX5_restore_32 : decode cX5_restore 32 = .ok (.getfield 84, 3) := by decide +kernel
theorem dX5_restore_35 : decode cX5_restore 35 = .ok (.ireturn, 1) := by decide +kernel
set_option maxRecDepth 20000 in
theorem ggX5_step_X0_hasState : GoodIn wsX5_step wsX0_hasState := goodIn_r _ [7, 8, 9, 10, 6, 11, 12, 49, 50, 51] (by decide +kernel) (by decide +kernel)
set_option maxRecDepth 20000 in
theorem gX5_step_X0_hasState : GoodIn wsX5_step (wsV RX5 142 RX0 yX0_hasState wsX0_hasState) := goodIn_app (goodIn_of _ (by decide +kernel)) ggX5_step_X0_hasState
set_option maxRecDepth 20000 in
theorem ggX5_step_X0_stateAfter : GoodIn wsX5_step wsX0_stateAfter := goodIn_r _ [16, 17, 18, 19, 6, 20, 12, 49, 50, 51] (by decide +kernel) (by decide +kernel)
set_option maxRecDepth 20000 in
theorem gX5_step_X0_stateAfter : GoodIn wsX5_step (wsV RX5 145 RX0 yX0_stateAfter wsX0_stateAfter) := goodIn_app (goodIn_of _ (by decide +kernel)) ggX5_step_X0_stateAfter
set_option maxRecDepth 20000 in
theorem ggX5_step_X0_symbolsOf : GoodIn wsX5_step wsX0_symbolsOf := goodIn_r _ [24, 25, 17, 18, 19, 6, 20, 12, 26, 27, 28, 29, 30, 31, 32, 33, 34, 35, 36, 37, 49, 50, 51] (by decide +kernel) (by decide +kernel)
set_option maxRecDepth 20000 in
theorem gX5_step_X0_symbolsOf : GoodIn wsX5_step (wsV RX5 149 RX0 yX0_symbolsOf wsX0_symbolsOf) := goodIn_app (goodIn_of _ (by decide +kernel)) ggX5_step_X0_symbolsOf
theorem dX5_step_0 : decode cX5_step 0 = .ok (.aload_n 0, 1) := by decide +kernel
theorem dX5_step_1 : decode cX5_step 1 = .ok (.getfield 12, 3) := by decide +kernel
theorem dX5_step_4 : decode cX5_step 4 = .ok (.getfield 45, 3) := by decide +kernel
theorem dX5_step_7 : decode cX5_step 7 = .ok (.iload_n 1, 1) := by decide +kernel
theorem dX5_step_8 : decode cX5_step 8 = .ok (.invokevirtual 142, 3) := by decide +kernel
theorem dX5_step_11 : decode cX5_step 11 = .ok (.ifCond .ne 5, 3) := by decide +kernel
theorem dX5_step_14 : decode cX5_step 14 = .ok (.iconst (-1), 1) := by decide +kernel
theorem dX5_step_15 : decode cX5_step 15 = .ok (.ireturn, 1) := by decide +kernel
theorem dX5_step_16 : decode cX5_step 16 = .ok (.iload_n 2, 1) := by decide +kernel
theorem dX5_step_17 : decode cX5_step 17 = .ok (.ifCond .lt 17, 3) := by decide +kernel
theorem dX5_step_20 : decode cX5_step 20 = .ok (.iload_n 2, 1) := by decide +kernel
theorem dX5_step_21 : decode cX5_step 21 = .ok (.iconst 1, 1) := by decide +kernel
theorem dX5_step_22 : decode cX5_step 22 = .ok (.if_icmp .gt 12, 3) := by decide +kernel
theorem dX5_step_25 : decode cX5_step 25 = .ok (.iload_n 3, 1) := by decide +kernel
theorem dX5_step_26 : decode cX5_step 26 = .ok (.ifCond .lt 8, 3) := by decide +kernel
theorem dX5_step_29 : decode cX5_step 29 = .ok (.iload_n 3, 1) := by decide +kernel
theorem dX5_step_30 : decode cX5_step 30 = .ok (.iconst 1, 1) := by decide +kernel
theorem dX5_step_31 : decode cX5_step 31 = .ok (.if_icmp .le 6, 3) := by decide +kernel
theorem dX5_step_34 : decode cX5_step 34 = .ok (.bipush (-2), 2) := by decide +kernel
theorem dX5_step_36 : decode cX5_step 36 = .ok (.ireturn, 1) := by decide +kernel
theorem dX5_step_37 : decode cX5_step 37 = .ok (.iload_n 3, 1) := by decide +kernel
theorem dX5_step_38 : decode cX5_step 38 = .ok (.ifCond .ne 18, 3) := by decide +kernel
theorem dX5_step_41 : decode cX5_step 41 = .ok (.aload_n 0, 1) := by decide +kernel
theorem dX5_step_42 : decode cX5_step 42 = .ok (.getfield 12, 3) := by decide +kernel
theorem dX5_step_45 : decode cX5_step 45 = .ok (.getfield 45, 3) := by decide +kernel
theorem dX5_step_48 : decode cX5_step 48 = .ok (.iload_n 1, 1) := by decide +kernel
theorem dX5_step_49 : decode cX5_step 49 = .ok (.iload_n 2, 1) := by decide +kernel
theorem dX5_step_50 : decode cX5_step 50 = .ok (.invokevirtual 145, 3) := by decide +kernel
theorem dX5_step_53 : decode cX5_step 53 = .ok (.goto 15, 3) := by decide +kernel
theorem dX5_step_56 : decode cX5_step 56 = .ok (.aload_n 0, 1) := by decide +kernel
theorem dX5_step_57 : decode cX5_step 57 = .ok (.getfield 12, 3) := by decide +kernel
theorem dX5_step_60 : decode cX5_step 60 = .ok (.getfield 45, 3) := by decide +kernel
theorem dX5_step_63 : decode cX5_step 63 = .ok (.iload_n 1, 1) := by decide +kernel
theorem dX5_step_64 : decode cX5_step 64 = .ok (.iload_n 2, 1) := by decide +kernel
theorem dX5_step_65 : decode cX5_step 65 = .ok (.invokevirtual 149, 3) := by decide +kernel
theorem dX5_step_68 : decode cX5_step 68 = .ok (.ireturn, 1) := by decide +kernel
set_option maxRecDepth 20000 in
theorem ggX5_line_X5_isOnLine : GoodIn wsX5_line wsX5_isOnLine := goodIn_r _ [9, 10, 11, 12, 8, 13, 1, 2, 14, 15, 16, 23, 24, 25, 26, 27, 28, 29, 30, 31, 32, 33, 34, 35, 36, 37, 38, 39, 40, 41] (by decide +kernel) (by decide +kernel)
set_option maxRecDepth 20000 in
theorem gX5_line_X5_isOnLine : GoodIn wsX5_line (wsV RX5 100 RX5 yX5_isOnLine wsX5_isOnLine) := goodIn_app (goodIn_of _ (by decide +kernel)) ggX5_line_X5_isOnLine
set_option maxRecDepth 20000 in
theorem ggX5_line_X5_isTaken : GoodIn wsX5_line wsX5_isTaken := goodIn_r _ [20, 1, 21, 22, 15, 16, 23, 24, 25, 26, 27, 28, 29, 30, 31, 32, 33, 42, 43, 44, 45, 46, 47, 48, 49, 39, 40, 41] (by decide +kernel) (by decide +kernel)
set_option maxRecDepth 20000 in
theorem gX5_line_X5_isTaken : GoodIn wsX5_line (wsV RX5 107 RX5 yX5_isTaken wsX5_isTaken) := goodIn_app (goodIn_of _ (by decide +kernel)) ggX5_line_X5_isTaken
theorem dX5_line_0 : decode cX5_line 0 = .ok (.aload_n 0, 1) := by decide +kernel
theorem dX5_line_1 : decode cX5_line 1 = .ok (.iload_n 1, 1) := by decide +kernel
theorem dX5_line_2 : decode cX5_line 2 = .ok (.invokevirtual 100, 3) := by decide +kernel
theorem dX5_line_5 : decode cX5_line 5 = .ok (.ifCond .ne 5, 3) := by decide +kernel
theorem dX5_line_8 : decode cX5_line 8 = .ok (.iconst (-1), 1) := by decide +kernel
theorem dX5_line_9 : decode cX5_line 9 = .ok (.ireturn, 1) := by decide +kernel
theorem dX5_line_10 : decode cX5_line 10 = .ok (.iload_n 2, 1) := by decide +kernel
theorem dX5_line_11 : decode cX5_line 11 = .ok (.tableswitch 65 0 2 #[25, 38, 51], 25) := by decide +kernel
theorem dX5_line_36 : decode cX5_line 36 = .ok (.aload_n 0, 1) := by decide +kernel
theorem dX5_line_37 : decode cX5_line 37 = .ok (.getfield 12, 3) := by decide +kernel
theorem dX5_line_40 : decode cX5_line 40 = .ok (.getfield 55, 3) := by decide +kernel
theorem dX5_line_43 : decode cX5_line 43 = .ok (.getfield 104, 3) := by decide +kernel
theorem dX5_line_46 : decode cX5_line 46 = .ok (.iload_n 1, 1) := by decide +kernel
theorem dX5_line_47 : decode cX5_line 47 = .ok (.iaload, 1) := by decide +kernel
theorem dX5_line_48 : decode cX5_line 48 = .ok (.ireturn, 1) := by decide +kernel
theorem dX5_line_49 : decode cX5_line 49 = .ok (.aload_n 0, 1) := by decide +kernel
theorem dX5_line_50 : decode cX5_line 50 = .ok (.getfield 12, 3) := by decide +kernel
theorem dX5_line_53 : decode cX5_line 53 = .ok (.getfield 55, 3) := by decide +kernel
theorem dX5_line_56 : decode cX5_line 56 = .ok (.getfield 152, 3) := by decide +kernel
theorem dX5_line_59 : decode cX5_line 59 = .ok (.iload_n 1, 1) := by decide +kernel
theorem dX5_line_60 : decode cX5_line 60 = .ok (.iaload, 1) := by decide +kernel
theorem dX5_line_61 : decode cX5_line 61 = .ok (.ireturn, 1) := by decide +kernel
theorem dX5_line_62 : decode cX5_line 62 = .ok (.aload_n 0, 1) := by decide +kernel
theorem dX5_line_63 : decode cX5_line 63 = .ok (.iload_n 1, 1) := by decide +kernel
theorem dX5_line_64 : decode cX5_line 64 = .ok (.invokevirtual 107, 3) := by decide +kernel
theorem dX5_line_67 : decode cX5_line 67 = .ok (.ifCond .eq 7, 3) := by decide +kernel
theorem dX5_line_70 : decode cX5_line 70 = .ok (.iconst 1, 1) := by decide +kernel
theorem dX5_line_71 : decode cX5_line 71 = .ok (.goto 4, 3) := by decide +kernel
theorem dX5_line_74 : decode cX5_line 74 = .ok (.iconst 0, 1) := by decide +kernel
theorem dX5_line_75 : decode cX5_line 75 = .ok (.ireturn, 1) := by decide +kernel
theorem dX5_line_76 : decode cX5_line 76 = .ok (.bipush (-2), 2) := by decide +kernel
theorem dX5_line_78 : decode cX5_line 78 = .ok (.ireturn, 1) := by decide +kernel
theorem dX5_sent_0 : decode cX5_sent 0 = .ok (.iload_n 1, 1) := by decide +kernel
theorem dX5_sent_1 : decode cX5_sent 1 = .ok (.ifCond .lt 17, 3) := by decide +kernel
theorem dX5_sent_4 : decode cX5_sent 4 = .ok (.iload_n 1, 1) := by decide +kernel
theorem dX5_sent_5 : decode cX5_sent 5 = .ok (.aload_n 0, 1) := by decide +kernel
theorem dX5_sent_6 : decode cX5_sent 6 = .ok (.getfield 12, 3) := by decide +kernel
theorem dX5_sent_9 : decode cX5_sent 9 = .ok (.getfield 55, 3) := by decide +kernel
theorem dX5_sent_12 : decode cX5_sent 12 = .ok (.getfield 84, 3) := by decide +kernel
theorem dX5_sent_15 : decode cX5_sent 15 = .ok (.if_icmp .lt 5, 3) := by decide +kernel
theorem dX5_sent_18 : decode cX5_sent 18 = .ok (.iconst (-1), 1) := by decide +kernel
theorem dX5_sent_19 : decode cX5_sent 19 = .ok (.ireturn, 1) := by decide +kernel
theorem dX5_sent_20 : decode cX5_sent 20 = .ok (.aload_n 0, 1) := by decide +kernel
theorem dX5_sent_21 : decode cX5_sent 21 = .ok (.getfield 12, 3) := by decide +kernel
theorem dX5_sent_24 : decode cX5_sent 24 = .ok (.getfield 55, 3) := by decide +kernel
theorem dX5_sent_27 : decode cX5_sent 27 = .ok (.getfield 155, 3) := by decide +kernel
theorem dX5_sent_30 : decode cX5_sent 30 = .ok (.iload_n 1, 1) := by decide +kernel
theorem dX5_sent_31 : decode cX5_sent 31 = .ok (.iaload, 1) := by decide +kernel
theorem dX5_sent_32 : decode cX5_sent 32 = .ok (.ireturn, 1) := by decide +kernel
theorem dX5_released_0 : decode cX5_released 0 = .ok (.iload_n 1, 1) := by decide +kernel
theorem dX5_released_1 : decode cX5_released 1 = .ok (.ifCond .lt 17, 3) := by decide +kernel
theorem dX5_released_4 : decode cX5_released 4 = .ok (.iload_n 1, 1) := by decide +kernel
theorem dX5_released_5 : decode cX5_released 5 = .ok (.aload_n 0, 1) := by decide +kernel
theorem dX5_released_6 : decode cX5_released 6 = .ok (.getfield 12, 3) := by decide +kernel
theorem dX5_released_9 : decode cX5_released 9 = .ok (.getfield 64, 3) := by decide +kernel
theorem dX5_released_12 : decode cX5_released 12 = .ok (.getfield 120, 3) := by decide +kernel
theorem dX5_released_15 : decode cX5_released 15 = .ok (.if_icmp .lt 5, 3) := by decide +kernel
theorem dX5_released_18 : decode cX5_released 18 = .ok (.iconst (-1), 1) := by decide +kernel
theorem dX5_released_19 : decode cX5_released 19 = .ok (.ireturn, 1) := by decide +kernel
theorem dX5_released_20 : decode cX5_released 20 = .ok (.aload_n 0, 1) := by decide +kernel
theorem dX5_released_21 : decode cX5_released 21 = .ok (.getfield 12, 3) := by decide +kernel
theorem dX5_released_24 : decode cX5_released 24 = .ok (.getfield 64, 3) := by decide +kernel
theorem dX5_released_27 : decode cX5_released 27 = .ok (.getfield 158, 3) := by decide +kernel
theorem dX5_released_30 : decode cX5_released 30 = .ok (.iload_n 1, 1) := by decide +kernel
theorem dX5_released_31 : decode cX5_released 31 = .ok (.iaload, 1) := by decide +kernel
theorem dX5_released_32 : decode cX5_released 32 = .ok (.ireturn, 1) := by decide +kernel
set_option maxRecDepth 20000 in
theorem ggX5_metric_X0_hasState : GoodIn wsX5_metric wsX0_hasState := goodIn_r _ [9, 10, 11, 12, 8, 13, 14, 34, 35, 36] (by decide +kernel) (by decide +kernel)
set_option maxRecDepth 20000 in
theorem gX5_metric_X0_hasState : GoodIn wsX5_metric (wsV RX5 142 RX0 yX0_hasState wsX0_hasState) := goodIn_app (goodIn_of _ (by decide +kernel)) ggX5_metric_X0_hasState
theorem dX5_metric_0 : decode cX5_metric 0 = .ok (.aload_n 0, 1) := by decide +kernel
theorem dX5_metric_1 : decode cX5_metric 1 = .ok (.getfield 12, 3) := by decide +kernel
theorem dX5_metric_4 : decode cX5_metric 4 = .ok (.getfield 45, 3) := by decide +kernel
theorem dX5_metric_7 : decode cX5_metric 7 = .ok (.iload_n 1, 1) := by decide +kernel
theorem dX5_metric_8 : decode cX5_metric 8 = .ok (.invokevirtual 142, 3) := by decide +kernel
theorem dX5_metric_11 : decode cX5_metric 11 = .ok (.ifCond .ne 5, 3) := by decide +kernel
theorem dX5_metric_14 : decode cX5_metric 14 = .ok (.iconst (-1), 1) := by decide +kernel
theorem dX5_metric_15 : decode cX5_metric 15 = .ok (.ireturn, 1) := by decide +kernel
theorem dX5_metric_16 : decode cX5_metric 16 = .ok (.aload_n 0, 1) := by decide +kernel
theorem dX5_metric_17 : decode cX5_metric 17 = .ok (.getfield 12, 3) := by decide +kernel
theorem dX5_metric_20 : decode cX5_metric 20 = .ok (.getfield 64, 3) := by decide +kernel
theorem dX5_metric_23 : decode cX5_metric 23 = .ok (.getfield 123, 3) := by decide +kernel
theorem dX5_metric_26 : decode cX5_metric 26 = .ok (.iload_n 1, 1) := by decide +kernel
theorem dX5_metric_27 : decode cX5_metric 27 = .ok (.iaload, 1) := by decide +kernel
theorem dX5_metric_28 : decode cX5_metric 28 = .ok (.istore_n 2, 1) := by decide +kernel
theorem dX5_metric_29 : decode cX5_metric 29 = .ok (.iload_n 2, 1) := by decide +kernel
theorem dX5_metric_30 : decode cX5_metric 30 = .ok (.iconst (-1), 1) := by decide +kernel
theorem dX5_metric_31 : decode cX5_metric 31 = .ok (.if_icmp .ne 8, 3) := by decide +kernel
theorem dX5_metric_34 : decode cX5_metric 34 = .ok (.bipush (-5), 2) := by decide +kernel
theorem dX5_metric_36 : decode cX5_metric 36 = .ok (.goto 4, 3) := by decide +kernel
theorem dX5_metric_39 : decode cX5_metric 39 = .ok (.iload_n 2, 1) := by decide +kernel
theorem dX5_metric_40 : decode cX5_metric 40 = .ok (.ireturn, 1) := by decide +kernel
set_option maxRecDepth 20000 in
theorem ggX5_survivor_X0_hasState : GoodIn wsX5_survivor wsX0_hasState := goodIn_r _ [10, 11, 12, 13, 9, 14, 15, 54, 55, 56] (by decide +kernel) (by decide +kernel)
set_option maxRecDepth 20000 in
theorem gX5_survivor_X0_hasState : GoodIn wsX5_survivor (wsV RX5 142 RX0 yX0_hasState wsX0_hasState) := goodIn_app (goodIn_of _ (by decide +kernel)) ggX5_survivor_X0_hasState
set_option maxRecDepth 20000 in
theorem ggX5_survivor_X1_survivorBit : GoodIn wsX5_survivor wsX1_survivorBit := goodIn_r _ [20, 21, 22, 23, 24, 19, 25, 26, 27, 28, 29, 9, 30, 11, 12, 13, 14, 15, 31, 32, 33, 34, 46, 47, 48, 49, 50, 51, 52, 53, 54, 55, 56] (by decide +kernel) (by decide +kernel)
set_option maxRecDepth 20000 in
theorem gX5_survivor_X1_survivorBit : GoodIn wsX5_survivor (wsV RX5 161 RX1 yX1_survivorBit wsX1_survivorBit) := goodIn_app (goodIn_of _ (by decide +kernel)) ggX5_survivor_X1_survivorBit
theorem dX5_survivor_0 : decode cX5_survivor 0 = .ok (.aload_n 0, 1) := by decide +kernel
theorem dX5_survivor_1 : decode cX5_survivor 1 = .ok (.getfield 12, 3) := by decide +kernel
theorem dX5_survivor_4 : decode cX5_survivor 4 = .ok (.getfield 45, 3) := by decide +kernel
theorem dX5_survivor_7 : decode cX5_survivor 7 = .ok (.iload_n 1, 1) := by decide +kernel
theorem dX5_survivor_8 : decode cX5_survivor 8 = .ok (.invokevirtual 142, 3) := by decide +kernel
theorem dX5_survivor_11 : decode cX5_survivor 11 = .ok (.ifCond .ne 5, 3) := by decide +kernel
theorem dX5_survivor_14 : decode cX5_survivor 14 = .ok (.iconst (-1), 1) := by decide +kernel
theorem dX5_survivor_15 : decode cX5_survivor 15 = .ok (.ireturn, 1) := by decide +kernel
theorem dX5_survivor_16 : decode cX5_survivor 16 = .ok (.iload_n 2, 1) := by decide +kernel
theorem dX5_survivor_17 : decode cX5_survivor 17 = .ok (.ifCond .ge 6, 3) := by decide +kernel
theorem dX5_survivor_20 : decode cX5_survivor 20 = .ok (.bipush (-2), 2) := by decide +kernel
theorem dX5_survivor_22 : decode cX5_survivor 22 = .ok (.ireturn, 1) := by decide +kernel
theorem dX5_survivor_23 : decode cX5_survivor 23 = .ok (.aload_n 0, 1) := by decide +kernel
theorem dX5_survivor_24 : decode cX5_survivor 24 = .ok (.getfield 12, 3) := by decide +kernel
theorem dX5_survivor_27 : decode cX5_survivor 27 = .ok (.getfield 64, 3) := by decide +kernel
theorem dX5_survivor_30 : decode cX5_survivor 30 = .ok (.getfield 123, 3) := by decide +kernel
theorem dX5_survivor_33 : decode cX5_survivor 33 = .ok (.iload_n 1, 1) := by decide +kernel
theorem dX5_survivor_34 : decode cX5_survivor 34 = .ok (.iaload, 1) := by decide +kernel
theorem dX5_survivor_35 : decode cX5_survivor 35 = .ok (.iconst (-1), 1) := by decide +kernel
theorem dX5_survivor_36 : decode cX5_survivor 36 = .ok (.if_icmp .eq 17, 3) := by decide +kernel
theorem dX5_survivor_39 : decode cX5_survivor 39 = .ok (.iload_n 2, 1) := by decide +kernel
theorem dX5_survivor_40 : decode cX5_survivor 40 = .ok (.aload_n 0, 1) := by decide +kernel
theorem dX5_survivor_41 : decode cX5_survivor 41 = .ok (.getfield 12, 3) := by decide +kernel
theorem dX5_survivor_44 : decode cX5_survivor 44 = .ok (.getfield 64, 3) := by decide +kernel
theorem dX5_survivor_47 : decode cX5_survivor 47 = .ok (.getfield 74, 3) := by decide +kernel
theorem dX5_survivor_50 : decode cX5_survivor 50 = .ok (.if_icmp .lt 6, 3) := by decide +kernel
theorem dX5_survivor_53 : decode cX5_survivor 53 = .ok (.bipush (-5), 2) := by decide +kernel
theorem dX5_survivor_55 : decode cX5_survivor 55 = .ok (.ireturn, 1) := by decide +kernel
theorem dX5_survivor_56 : decode cX5_survivor 56 = .ok (.aload_n 0, 1) := by decide +kernel
theorem dX5_survivor_57 : decode cX5_survivor 57 = .ok (.getfield 12, 3) := by decide +kernel
theorem dX5_survivor_60 : decode cX5_survivor 60 = .ok (.getfield 64, 3) := by decide +kernel
theorem dX5_survivor_63 : decode cX5_survivor 63 = .ok (.aload_n 0, 1) := by decide +kernel
theorem dX5_survivor_64 : decode cX5_survivor 64 = .ok (.getfield 12, 3) := by decide +kernel
theorem dX5_survivor_67 : decode cX5_survivor 67 = .ok (.getfield 45, 3) := by decide +kernel
theorem dX5_survivor_70 : decode cX5_survivor 70 = .ok (.iload_n 1, 1) := by decide +kernel
theorem dX5_survivor_71 : decode cX5_survivor 71 = .ok (.iload_n 2, 1) := by decide +kernel
theorem dX5_survivor_72 : decode cX5_survivor 72 = .ok (.invokevirtual 161, 3) := by decide +kernel
theorem dX5_survivor_75 : decode cX5_survivor 75 = .ok (.ireturn, 1) := by decide +kernel
set_option maxRecDepth 20000 in
theorem ggX5_agreed_X1_commonBits : GoodIn wsX5_agreed wsX1_commonBits := goodIn_r _ [8, 9, 10, 11, 12, 13, 14, 15, 16, 17, 18, 7, 19, 20, 21, 22, 23, 24, 25, 26, 27, 28, 29, 30, 31, 32, 33, 34, 46, 47, 48, 49, 50, 51, 52, 53, 54, 55, 56] (by decide +kernel) (by decide +kernel)
set_option maxRecDepth 20000 in
theorem gX5_agreed_X1_commonBits : GoodIn wsX5_agreed (wsV RX5 165 RX1 yX1_commonBits wsX1_commonBits) := goodIn_app (goodIn_of _ (by decide +kernel)) ggX5_agreed_X1_commonBits
theorem dX5_agreed_0 : decode cX5_agreed 0 = .ok (.aload_n 0, 1) := by decide +kernel
theorem dX5_agreed_1 : decode cX5_agreed 1 = .ok (.getfield 12, 3) := by decide +kernel
theorem dX5_agreed_4 : decode cX5_agreed 4 = .ok (.getfield 64, 3) := by decide +kernel
theorem dX5_agreed_7 : decode cX5_agreed 7 = .ok (.aload_n 0, 1) := by decide +kernel
theorem dX5_agreed_8 : decode cX5_agreed 8 = .ok (.getfield 12, 3) := by decide +kernel
theorem dX5_agreed_11 : decode cX5_agreed 11 = .ok (.getfield 45, 3) := by decide +kernel
theorem dX5_agreed_14 : decode cX5_agreed 14 = .ok (.invokevirtual 165, 3) := by decide +kernel
theorem dX5_agreed_17 : decode cX5_agreed 17 = .ok (.ireturn, 1) := by decide +kernel
set_option maxRecDepth 20000 in
theorem ggX5_freeDistance_X0_leastReturn : GoodIn wsX5_freeDistance wsX0_leastReturn := goodIn_r _ [8, 9, 10, 11, 7, 12, 13, 14, 15, 16, 17, 18, 19, 20, 21, 22, 23, 24, 25, 26, 27, 28, 29, 30, 31, 32, 33, 34, 35, 36, 37, 38, 39, 40, 41, 42, 43, 44, 45, 46, 47, 48, 49, 50, 62, 63, 64] (by decide +kernel) (by decide +kernel)
set_option maxRecDepth 20000 in
theorem gX5_freeDistance_X0_leastReturn : GoodIn wsX5_freeDistance (wsV RX5 168 RX0 yX0_leastReturn wsX0_leastReturn) := goodIn_app (goodIn_of _ (by decide +kernel)) ggX5_freeDistance_X0_leastReturn
theorem dX5_freeDistance_0 : decode cX5_freeDistance 0 = .ok (.aload_n 0, 1) := by decide +kernel
theorem dX5_freeDistance_1 : decode cX5_freeDistance 1 = .ok (.getfield 12, 3) := by decide +kernel
theorem dX5_freeDistance_4 : decode cX5_freeDistance 4 = .ok (.getfield 45, 3) := by decide +kernel
theorem dX5_freeDistance_7 : decode cX5_freeDistance 7 = .ok (.aload_n 0, 1) := by decide +kernel
theorem dX5_freeDistance_8 : decode cX5_freeDistance 8 = .ok (.getfield 38, 3) := by decide +kernel
theorem dX5_freeDistance_11 : decode cX5_freeDistance 11 = .ok (.invokevirtual 168, 3) := by decide +kernel
theorem dX5_freeDistance_14 : decode cX5_freeDistance 14 = .ok (.istore_n 1, 1) := by decide +kernel
theorem dX5_freeDistance_15 : decode cX5_freeDistance 15 = .ok (.iload_n 1, 1) := by decide +kernel
theorem dX5_freeDistance_16 : decode cX5_freeDistance 16 = .ok (.iconst (-1), 1) := by decide +kernel
theorem dX5_freeDistance_17 : decode cX5_freeDistance 17 = .ok (.if_icmp .eq 9, 3) := by decide +kernel
theorem dX5_freeDistance_20 : decode cX5_freeDistance 20 = .ok (.iload_n 1, 1) := by decide +kernel
theorem dX5_freeDistance_21 : decode cX5_freeDistance 21 = .ok (.bipush 40, 2) := by decide +kernel
theorem dX5_freeDistance_23 : decode cX5_freeDistance 23 = .ok (.if_icmp .le 8, 3) := by decide +kernel
theorem dX5_freeDistance_26 : decode cX5_freeDistance 26 = .ok (.bipush (-5), 2) := by decide +kernel
theorem dX5_freeDistance_28 : decode cX5_freeDistance 28 = .ok (.goto 4, 3) := by decide +kernel
theorem dX5_freeDistance_31 : decode cX5_freeDistance 31 = .ok (.iload_n 1, 1) := by decide +kernel
theorem dX5_freeDistance_32 : decode cX5_freeDistance 32 = .ok (.ireturn, 1) := by decide +kernel
set_option maxRecDepth 20000 in
theorem ggX5_hasIdleRing_X0_hasRingOfZeros : GoodIn wsX5_hasIdleRing wsX0_hasRingOfZeros := goodIn_r _ [7, 8, 9, 10, 11, 6, 12, 13, 14, 15, 16, 17, 18, 19, 20, 21, 22, 23, 24, 25, 26, 27, 28, 29, 30, 31, 32, 33, 34, 35, 36, 37, 38, 39, 40, 41, 42, 54, 55, 56] (by decide +kernel) (by decide +kernel)
set_option maxRecDepth 20000 in
theorem gX5_hasIdleRing_X0_hasRingOfZeros : GoodIn wsX5_hasIdleRing (wsV RX5 172 RX0 yX0_hasRingOfZeros wsX0_hasRingOfZeros) := goodIn_app (goodIn_of _ (by decide +kernel)) ggX5_hasIdleRing_X0_hasRingOfZeros
theorem dX5_hasIdleRing_0 : decode cX5_hasIdleRing 0 = .ok (.aload_n 0, 1) := by decide +kernel
theorem dX5_hasIdleRing_1 : decode cX5_hasIdleRing 1 = .ok (.getfield 12, 3) := by decide +kernel
theorem dX5_hasIdleRing_4 : decode cX5_hasIdleRing 4 = .ok (.getfield 45, 3) := by decide +kernel
theorem dX5_hasIdleRing_7 : decode cX5_hasIdleRing 7 = .ok (.invokevirtual 172, 3) := by decide +kernel
theorem dX5_hasIdleRing_10 : decode cX5_hasIdleRing 10 = .ok (.ifCond .eq 7, 3) := by decide +kernel
theorem dX5_hasIdleRing_13 : decode cX5_hasIdleRing 13 = .ok (.iconst 1, 1) := by decide +kernel
theorem dX5_hasIdleRing_14 : decode cX5_hasIdleRing 14 = .ok (.goto 4, 3) := by decide +kernel
theorem dX5_hasIdleRing_17 : decode cX5_hasIdleRing 17 = .ok (.iconst 0, 1) := by decide +kernel
theorem dX5_hasIdleRing_18 : decode cX5_hasIdleRing 18 = .ok (.ireturn, 1) := by decide +kernel
theorem dX5_wrongBits_0 : decode cX5_wrongBits 0 = .ok (.aload_n 0, 1) := by decide +kernel
theorem dX5_wrongBits_1 : decode cX5_wrongBits 1 = .ok (.getfield 12, 3) := by decide +kernel
theorem dX5_wrongBits_4 : decode cX5_wrongBits 4 = .ok (.getfield 64, 3) := by decide +kernel
theorem dX5_wrongBits_7 : decode cX5_wrongBits 7 = .ok (.getfield 120, 3) := by decide +kernel
theorem dX5_wrongBits_10 : decode cX5_wrongBits 10 = .ok (.aload_n 0, 1) := by decide +kernel
theorem dX5_wrongBits_11 : decode cX5_wrongBits 11 = .ok (.getfield 12, 3) := by decide +kernel
theorem dX5_wrongBits_14 : decode cX5_wrongBits 14 = .ok (.getfield 55, 3) := by decide +kernel
theorem dX5_wrongBits_17 : decode cX5_wrongBits 17 = .ok (.getfield 84, 3) := by decide +kernel
theorem dX5_wrongBits_20 : decode cX5_wrongBits 20 = .ok (.invokestatic 176, 3) := by decide +kernel
theorem dX5_wrongBits_23 : decode cX5_wrongBits 23 = .ok (.istore_n 1, 1) := by decide +kernel
theorem dX5_wrongBits_24 : decode cX5_wrongBits 24 = .ok (.iconst 0, 1) := by decide +kernel
theorem dX5_wrongBits_25 : decode cX5_wrongBits 25 = .ok (.istore_n 2, 1) := by decide +kernel
theorem dX5_wrongBits_26 : decode cX5_wrongBits 26 = .ok (.iconst 0, 1) := by decide +kernel
theorem dX5_wrongBits_27 : decode cX5_wrongBits 27 = .ok (.istore_n 3, 1) := by decide +kernel
theorem dX5_wrongBits_28 : decode cX5_wrongBits 28 = .ok (.iload_n 3, 1) := by decide +kernel
theorem dX5_wrongBits_29 : decode cX5_wrongBits 29 = .ok (.iload_n 1, 1) := by decide +kernel
theorem dX5_wrongBits_30 : decode cX5_wrongBits 30 = .ok (.if_icmp .ge 39, 3) := by decide +kernel
theorem dX5_wrongBits_33 : decode cX5_wrongBits 33 = .ok (.aload_n 0, 1) := by decide +kernel
theorem dX5_wrongBits_34 : decode cX5_wrongBits 34 = .ok (.getfield 12, 3) := by decide +kernel
theorem dX5_wrongBits_37 : decode cX5_wrongBits 37 = .ok (.getfield 64, 3) := by decide +kernel
theorem dX5_wrongBits_40 : decode cX5_wrongBits 40 = .ok (.getfield 158, 3) := by decide +kernel
theorem dX5_wrongBits_43 : decode cX5_wrongBits 43 = .ok (.iload_n 3, 1) := by decide +kernel
theorem dX5_wrongBits_44 : decode cX5_wrongBits 44 = .ok (.iaload, 1) := by decide +kernel
theorem dX5_wrongBits_45 : decode cX5_wrongBits 45 = .ok (.aload_n 0, 1) := by decide +kernel
theorem dX5_wrongBits_46 : decode cX5_wrongBits 46 = .ok (.getfield 12, 3) := by decide +kernel
theorem dX5_wrongBits_49 : decode cX5_wrongBits 49 = .ok (.getfield 55, 3) := by decide +kernel
theorem dX5_wrongBits_52 : decode cX5_wrongBits 52 = .ok (.getfield 155, 3) := by decide +kernel
theorem dX5_wrongBits_55 : decode cX5_wrongBits 55 = .ok (.iload_n 3, 1) := by decide +kernel
theorem dX5_wrongBits_56 : decode cX5_wrongBits 56 = .ok (.iaload, 1) := by decide +kernel
theorem dX5_wrongBits_57 : decode cX5_wrongBits 57 = .ok (.if_icmp .eq 6, 3) := by decide +kernel
theorem dX5_wrongBits_60 : decode cX5_wrongBits 60 = .ok (.iinc 2 1, 3) := by decide +kernel
theorem dX5_wrongBits_63 : decode cX5_wrongBits 63 = .ok (.iinc 3 1, 3) := by decide +kernel
theorem dX5_wrongBits_66 : decode cX5_wrongBits 66 = .ok (.goto (-38), 3) := by decide +kernel
theorem dX5_wrongBits_69 : decode cX5_wrongBits 69 = .ok (.iload_n 2, 1) := by decide +kernel
theorem dX5_wrongBits_70 : decode cX5_wrongBits 70 = .ok (.ireturn, 1) := by decide +kernel
set_option maxRecDepth 20000 in
theorem ggX5_count_X5_lineLength : GoodIn wsX5_count wsX5_lineLength := goodIn_r _ [22, 1, 7, 8, 2, 4, 60, 61, 62, 63, 64, 65, 66, 67, 68, 69, 70, 74, 75, 76, 77, 78, 71, 72, 73] (by decide +kernel) (by decide +kernel)
set_option maxRecDepth 20000 in
theorem gX5_count_X5_lineLength : GoodIn wsX5_count (wsV RX5 184 RX5 yX5_lineLength wsX5_lineLength) := goodIn_app (goodIn_of _ (by decide +kernel)) ggX5_count_X5_lineLength
set_option maxRecDepth 20000 in
theorem ggX5_count_X5_erasedSymbols : GoodIn wsX5_count wsX5_erasedSymbols := goodIn_r _ [26, 1, 7, 27, 18, 19, 20, 21, 22, 8, 2, 4, 60, 61, 62, 63, 64, 65, 66, 67, 68, 69, 70, 74, 75, 76, 77, 78, 71, 72, 73] (by decide +kernel) (by decide +kernel)
set_option maxRecDepth 20000 in
theorem gX5_count_X5_erasedSymbols : GoodIn wsX5_count (wsV RX5 191 RX5 yX5_erasedSymbols wsX5_erasedSymbols) := goodIn_app (goodIn_of _ (by decide +kernel)) ggX5_count_X5_erasedSymbols
set_option maxRecDepth 20000 in
theorem ggX5_count_X5_flippedSymbols : GoodIn wsX5_count wsX5_flippedSymbols := goodIn_r _ [31, 1, 7, 27, 32, 18, 19, 20, 21, 22, 8, 2, 4, 60, 61, 62, 63, 64, 65, 66, 67, 68, 69, 70, 74, 75, 76, 77, 78, 71, 72, 73] (by decide +kernel) (by decide +kernel)
set_option maxRecDepth 20000 in
theorem gX5_count_X5_flippedSymbols : GoodIn wsX5_count (wsV RX5 194 RX5 yX5_flippedSymbols wsX5_flippedSymbols) := goodIn_app (goodIn_of _ (by decide +kernel)) ggX5_count_X5_flippedSymbols
set_option maxRecDepth 20000 in
theorem ggX5_count_X1_bestState : GoodIn wsX5_count wsX1_bestState := goodIn_r _ [37, 38, 39, 40, 41, 42, 43, 44, 79, 80, 81, 82, 83, 84, 85, 86, 71, 72, 73] (by decide +kernel) (by decide +kernel)
set_option maxRecDepth 20000 in
theorem gX5_count_X1_bestState : GoodIn wsX5_count (wsV RX5 126 RX1 yX1_bestState wsX1_bestState) := goodIn_app (goodIn_of _ (by decide +kernel)) ggX5_count_X1_bestState
set_option maxRecDepth 20000 in
theorem ggX5_count_X1_reachedStates : GoodIn wsX5_count wsX1_reachedStates := goodIn_r _ [48, 49, 50, 51, 36, 52, 38, 39, 40, 41, 42, 43, 44, 53, 54, 55, 56, 57, 58, 59, 79, 80, 81, 82, 83, 84, 85, 86, 71, 72, 73] (by decide +kernel) (by decide +kernel)
set_option maxRecDepth 20000 in
theorem gX5_count_X1_reachedStates : GoodIn wsX5_count (wsV RX5 197 RX1 yX1_reachedStates wsX1_reachedStates) := goodIn_app (goodIn_of _ (by decide +kernel)) ggX5_count_X1_reachedStates
theorem dX5_count_0 : decode cX5_count 0 = .ok (.iload_n 1, 1) := by decide +kernel
theorem dX5_count_1 : decode cX5_count 1 = .ok (.tableswitch 324 0 18 #[91, 102, 113, 113, 128, 160, 168, 179, 184, 195, 200, 205, 216, 227, 245, 274, 292, 311, 316], 91) := by decide +kernel
theorem dX5_count_92 : decode cX5_count 92 = .ok (.aload_n 0, 1) := by decide +kernel
theorem dX5_count_93 : decode cX5_count 93 = .ok (.getfield 12, 3) := by decide +kernel
theorem dX5_count_96 : decode cX5_count 96 = .ok (.getfield 45, 3) := by decide +kernel
theorem dX5_count_99 : decode cX5_count 99 = .ok (.getfield 97, 3) := by decide +kernel
theorem dX5_count_102 : decode cX5_count 102 = .ok (.ireturn, 1) := by decide +kernel
theorem dX5_count_103 : decode cX5_count 103 = .ok (.aload_n 0, 1) := by decide +kernel
theorem dX5_count_104 : decode cX5_count 104 = .ok (.getfield 12, 3) := by decide +kernel
theorem dX5_count_107 : decode cX5_count 107 = .ok (.getfield 45, 3) := by decide +kernel
theorem dX5_count_110 : decode cX5_count 110 = .ok (.getfield 71, 3) := by decide +kernel
theorem dX5_count_113 : decode cX5_count 113 = .ok (.ireturn, 1) := by decide +kernel
theorem dX5_count_114 : decode cX5_count 114 = .ok (.aload_n 0, 1) := by decide +kernel
theorem dX5_count_115 : decode cX5_count 115 = .ok (.getfield 12, 3) := by decide +kernel
theorem dX5_count_118 : decode cX5_count 118 = .ok (.getfield 45, 3) := by decide +kernel
theorem dX5_count_121 : decode cX5_count 121 = .ok (.getfield 181, 3) := by decide +kernel
theorem dX5_count_124 : decode cX5_count 124 = .ok (.iload_n 1, 1) := by decide +kernel
theorem dX5_count_125 : decode cX5_count 125 = .ok (.iconst 2, 1) := by decide +kernel
theorem dX5_count_126 : decode cX5_count 126 = .ok (.isub, 1) := by decide +kernel
theorem dX5_count_127 : decode cX5_count 127 = .ok (.iaload, 1) := by decide +kernel
theorem dX5_count_128 : decode cX5_count 128 = .ok (.ireturn, 1) := by decide +kernel
theorem dX5_count_129 : decode cX5_count 129 = .ok (.aload_n 0, 1) := by decide +kernel
theorem dX5_count_130 : decode cX5_count 130 = .ok (.getfield 12, 3) := by decide +kernel
theorem dX5_count_133 : decode cX5_count 133 = .ok (.getfield 45, 3) := by decide +kernel
theorem dX5_count_136 : decode cX5_count 136 = .ok (.getfield 71, 3) := by decide +kernel
theorem dX5_count_139 : decode cX5_count 139 = .ok (.iconst 3, 1) := by decide +kernel
theorem dX5_count_140 : decode cX5_count 140 = .ok (.if_icmp .ge 8, 3) := by decide +kernel
theorem dX5_count_143 : decode cX5_count 143 = .ok (.bipush (-5), 2) := by decide +kernel
theorem dX5_count_145 : decode cX5_count 145 = .ok (.goto 15, 3) := by decide +kernel
theorem dX5_count_148 : decode cX5_count 148 = .ok (.aload_n 0, 1) := by decide +kernel
theorem dX5_count_149 : decode cX5_count 149 = .ok (.getfield 12, 3) := by decide +kernel
theorem dX5_count_152 : decode cX5_count 152 = .ok (.getfield 45, 3) := by decide +kernel
theorem dX5_count_155 : decode cX5_count 155 = .ok (.getfield 181, 3) := by decide +kernel
theorem dX5_count_158 : decode cX5_count 158 = .ok (.iconst 2, 1) := by decide +kernel
theorem dX5_count_159 : decode cX5_count 159 = .ok (.iaload, 1) := by decide +kernel
theorem dX5_count_160 : decode cX5_count 160 = .ok (.ireturn, 1) := by decide +kernel
theorem dX5_count_161 : decode cX5_count 161 = .ok (.aload_n 0, 1) := by decide +kernel
theorem dX5_count_162 : decode cX5_count 162 = .ok (.getfield 12, 3) := by decide +kernel
theorem dX5_count_165 : decode cX5_count 165 = .ok (.getfield 77, 3) := by decide +kernel
theorem dX5_count_168 : decode cX5_count 168 = .ok (.ireturn, 1) := by decide +kernel
theorem dX5_count_169 : decode cX5_count 169 = .ok (.aload_n 0, 1) := by decide +kernel
theorem dX5_count_170 : decode cX5_count 170 = .ok (.getfield 12, 3) := by decide +kernel
theorem dX5_count_173 : decode cX5_count 173 = .ok (.getfield 55, 3) := by decide +kernel
theorem dX5_count_176 : decode cX5_count 176 = .ok (.getfield 84, 3) := by decide +kernel
theorem dX5_count_179 : decode cX5_count 179 = .ok (.ireturn, 1) := by decide +kernel
theorem dX5_count_180 : decode cX5_count 180 = .ok (.aload_n 0, 1) := by decide +kernel
theorem dX5_count_181 : decode cX5_count 181 = .ok (.invokevirtual 184, 3) := by decide +kernel
theorem dX5_count_184 : decode cX5_count 184 = .ok (.ireturn, 1) := by decide +kernel
theorem dX5_count_185 : decode cX5_count 185 = .ok (.aload_n 0, 1) := by decide +kernel
theorem dX5_count_186 : decode cX5_count 186 = .ok (.getfield 12, 3) := by decide +kernel
theorem dX5_count_189 : decode cX5_count 189 = .ok (.getfield 55, 3) := by decide +kernel
theorem dX5_count_192 : decode cX5_count 192 = .ok (.getfield 188, 3) := by decide +kernel
theorem dX5_count_195 : decode cX5_count 195 = .ok (.ireturn, 1) := by decide +kernel
theorem dX5_count_196 : decode cX5_count 196 = .ok (.aload_n 0, 1) := by decide +kernel
theorem dX5_count_197 : decode cX5_count 197 = .ok (.invokevirtual 191, 3) := by decide +kernel
theorem dX5_count_200 : decode cX5_count 200 = .ok (.ireturn, 1) := by decide +kernel
theorem dX5_count_201 : decode cX5_count 201 = .ok (.aload_n 0, 1) := by decide +kernel
theorem dX5_count_202 : decode cX5_count 202 = .ok (.invokevirtual 194, 3) := by decide +kernel
theorem dX5_count_205 : decode cX5_count 205 = .ok (.ireturn, 1) := by decide +kernel
theorem dX5_count_206 : decode cX5_count 206 = .ok (.aload_n 0, 1) := by decide +kernel
theorem dX5_count_207 : decode cX5_count 207 = .ok (.getfield 12, 3) := by decide +kernel
theorem dX5_count_210 : decode cX5_count 210 = .ok (.getfield 64, 3) := by decide +kernel
theorem dX5_count_213 : decode cX5_count 213 = .ok (.getfield 74, 3) := by decide +kernel
theorem dX5_count_216 : decode cX5_count 216 = .ok (.ireturn, 1) := by decide +kernel
theorem dX5_count_217 : decode cX5_count 217 = .ok (.aload_n 0, 1) := by decide +kernel
theorem dX5_count_218 : decode cX5_count 218 = .ok (.getfield 12, 3) := by decide +kernel
theorem dX5_count_221 : decode cX5_count 221 = .ok (.getfield 64, 3) := by decide +kernel
theorem dX5_count_224 : decode cX5_count 224 = .ok (.getfield 120, 3) := by decide +kernel
theorem dX5_count_227 : decode cX5_count 227 = .ok (.ireturn, 1) := by decide +kernel
theorem dX5_count_228 : decode cX5_count 228 = .ok (.aload_n 0, 1) := by decide +kernel
theorem dX5_count_229 : decode cX5_count 229 = .ok (.getfield 12, 3) := by decide +kernel
theorem dX5_count_232 : decode cX5_count 232 = .ok (.getfield 64, 3) := by decide +kernel
theorem dX5_count_235 : decode cX5_count 235 = .ok (.aload_n 0, 1) := by decide +kernel
theorem dX5_count_236 : decode cX5_count 236 = .ok (.getfield 12, 3) := by decide +kernel
theorem dX5_count_239 : decode cX5_count 239 = .ok (.getfield 45, 3) := by decide +kernel
theorem dX5_count_242 : decode cX5_count 242 = .ok (.invokevirtual 126, 3) := by decide +kernel
theorem dX5_count_245 : decode cX5_count 245 = .ok (.ireturn, 1) := by decide +kernel
theorem dX5_count_246 : decode cX5_count 246 = .ok (.aload_n 0, 1) := by decide +kernel
theorem dX5_count_247 : decode cX5_count 247 = .ok (.getfield 12, 3) := by decide +kernel
theorem dX5_count_250 : decode cX5_count 250 = .ok (.getfield 64, 3) := by decide +kernel
theorem dX5_count_253 : decode cX5_count 253 = .ok (.getfield 123, 3) := by decide +kernel
theorem dX5_count_256 : decode cX5_count 256 = .ok (.aload_n 0, 1) := by decide +kernel
theorem dX5_count_257 : decode cX5_count 257 = .ok (.getfield 12, 3) := by decide +kernel
theorem dX5_count_260 : decode cX5_count 260 = .ok (.getfield 64, 3) := by decide +kernel
theorem dX5_count_263 : decode cX5_count 263 = .ok (.aload_n 0, 1) := by decide +kernel
theorem dX5_count_264 : decode cX5_count 264 = .ok (.getfield 12, 3) := by decide +kernel
theorem dX5_count_267 : decode cX5_count 267 = .ok (.getfield 45, 3) := by decide +kernel
theorem dX5_count_270 : decode cX5_count 270 = .ok (.invokevirtual 126, 3) := by decide +kernel
theorem dX5_count_273 : decode cX5_count 273 = .ok (.iaload, 1) := by decide +kernel
theorem dX5_count_274 : decode cX5_count 274 = .ok (.ireturn, 1) := by decide +kernel
theorem dX5_count_275 : decode cX5_count 275 = .ok (.aload_n 0, 1) := by decide +kernel
theorem dX5_count_276 : decode cX5_count 276 = .ok (.getfield 12, 3) := by decide +kernel
theorem dX5_count_279 : decode cX5_count 279 = .ok (.getfield 64, 3) := by decide +kernel
theorem dX5_count_282 : decode cX5_count 282 = .ok (.aload_n 0, 1) := by decide +kernel
theorem dX5_count_283 : decode cX5_count 283 = .ok (.getfield 12, 3) := by decide +kernel
theorem dX5_count_286 : decode cX5_count 286 = .ok (.getfield 45, 3) := by decide +kernel
theorem dX5_count_289 : decode cX5_count 289 = .ok (.invokevirtual 197, 3) := by decide +kernel
theorem dX5_count_292 : decode cX5_count 292 = .ok (.ireturn, 1) := by decide +kernel
theorem dX5_count_293 : decode cX5_count 293 = .ok (.aload_n 0, 1) := by decide +kernel
theorem dX5_count_294 : decode cX5_count 294 = .ok (.getfield 12, 3) := by decide +kernel
theorem dX5_count_297 : decode cX5_count 297 = .ok (.getfield 64, 3) := by decide +kernel
theorem dX5_count_300 : decode cX5_count 300 = .ok (.getfield 110, 3) := by decide +kernel
theorem dX5_count_303 : decode cX5_count 303 = .ok (.ifCond .eq 7, 3) := by decide +kernel
theorem dX5_count_306 : decode cX5_count 306 = .ok (.iconst 1, 1) := by decide +kernel
theorem dX5_count_307 : decode cX5_count 307 = .ok (.goto 4, 3) := by decide +kernel
theorem dX5_count_310 : decode cX5_count 310 = .ok (.iconst 0, 1) := by decide +kernel
theorem dX5_count_311 : decode cX5_count 311 = .ok (.ireturn, 1) := by decide +kernel
theorem dX5_count_312 : decode cX5_count 312 = .ok (.aload_n 0, 1) := by decide +kernel
theorem dX5_count_313 : decode cX5_count 313 = .ok (.getfield 27, 3) := by decide +kernel
theorem dX5_count_316 : decode cX5_count 316 = .ok (.ireturn, 1) := by decide +kernel
theorem dX5_count_317 : decode cX5_count 317 = .ok (.aload_n 0, 1) := by decide +kernel
theorem dX5_count_318 : decode cX5_count 318 = .ok (.getfield 34, 3) := by decide +kernel
theorem dX5_count_321 : decode cX5_count 321 = .ok (.getfield 87, 3) := by decide +kernel
theorem dX5_count_324 : decode cX5_count 324 = .ok (.ireturn, 1) := by decide +kernel
theorem dX5_count_325 : decode cX5_count 325 = .ok (.bipush (-2), 2) := by decide +kernel
theorem dX5_count_327 : decode cX5_count 327 = .ok (.ireturn, 1) := by decide +kernel
set_option maxRecDepth 20000 in
theorem ggX5_recordNow_X5_dropOldest : GoodIn wsX5_recordNow wsX5_dropOldest := goodIn_r _ [8, 2, 1, 57, 58, 59, 60, 61, 62, 63] (by decide +kernel) (by decide +kernel)
set_option maxRecDepth 20000 in
theorem gX5_recordNow_X5_dropOldest : GoodIn wsX5_recordNow (wsV RX5 200 RX5 yX5_dropOldest wsX5_dropOldest) := goodIn_app (goodIn_of _ (by decide +kernel)) ggX5_recordNow_X5_dropOldest
set_option maxRecDepth 20000 in
theorem ggX5_recordNow_X3_copyFrom : GoodIn wsX5_recordNow wsX3_copyFrom := goodIn_r _ [13, 14, 15, 16, 17, 18, 19, 20, 21, 22, 23, 24, 25, 26, 27, 28, 29, 30, 31, 32, 33, 34, 35, 36, 37, 38, 39, 40, 41, 42, 43, 44, 45, 46, 47, 48, 49, 50, 51, 52, 53, 54, 55, 56, 64, 65, 66, 67, 68, 69, 70, 71, 72, 73, 74, 75, 76, 77, 78, 79, 80, 81, 82, 83] (by decide +kernel) (by decide +kernel)
set_option maxRecDepth 20000 in
theorem gX5_recordNow_X3_copyFrom : GoodIn wsX5_recordNow (wsV RX5 138 RX3 yX3_copyFrom wsX3_copyFrom) := goodIn_app (goodIn_of _ (by decide +kernel)) ggX5_recordNow_X3_copyFrom
theorem dX5_recordNow_0 : decode cX5_recordNow 0 = .ok (.aload_n 0, 1) := by decide +kernel
theorem dX5_recordNow_1 : decode cX5_recordNow 1 = .ok (.getfield 27, 3) := by decide +kernel
theorem dX5_recordNow_4 : decode cX5_recordNow 4 = .ok (.iconst 4, 1) := by decide +kernel
theorem dX5_recordNow_5 : decode cX5_recordNow 5 = .ok (.if_icmp .lt 7, 3) := by decide +kernel
theorem dX5_recordNow_8 : decode cX5_recordNow 8 = .ok (.aload_n 0, 1) := by decide +kernel
theorem dX5_recordNow_9 : decode cX5_recordNow 9 = .ok (.invokevirtual 200, 3) := by decide +kernel
theorem dX5_recordNow_12 : decode cX5_recordNow 12 = .ok (.aload_n 0, 1) := by decide +kernel
theorem dX5_recordNow_13 : decode cX5_recordNow 13 = .ok (.getfield 23, 3) := by decide +kernel
theorem dX5_recordNow_16 : decode cX5_recordNow 16 = .ok (.aload_n 0, 1) := by decide +kernel
theorem dX5_recordNow_17 : decode cX5_recordNow 17 = .ok (.getfield 27, 3) := by decide +kernel
theorem dX5_recordNow_20 : decode cX5_recordNow 20 = .ok (.aaload, 1) := by decide +kernel
theorem dX5_recordNow_21 : decode cX5_recordNow 21 = .ok (.aload_n 0, 1) := by decide +kernel
theorem dX5_recordNow_22 : decode cX5_recordNow 22 = .ok (.getfield 12, 3) := by decide +kernel
theorem dX5_recordNow_25 : decode cX5_recordNow 25 = .ok (.invokevirtual 138, 3) := by decide +kernel
theorem dX5_recordNow_28 : decode cX5_recordNow 28 = .ok (.aload_n 0, 1) := by decide +kernel
theorem dX5_recordNow_29 : decode cX5_recordNow 29 = .ok (.dup, 1) := by decide +kernel
theorem dX5_recordNow_30 : decode cX5_recordNow 30 = .ok (.getfield 27, 3) := by decide +kernel
theorem dX5_recordNow_33 : decode cX5_recordNow 33 = .ok (.iconst 1, 1) := by decide +kernel
theorem dX5_recordNow_34 : decode cX5_recordNow 34 = .ok (.iadd, 1) := by decide +kernel
theorem dX5_recordNow_35 : decode cX5_recordNow 35 = .ok (.putfield 27, 3) := by decide +kernel
theorem dX5_recordNow_38 : decode cX5_recordNow 38 = .ok (.return_, 1) := by decide +kernel
theorem dX5_dropOldest_0 : decode cX5_dropOldest 0 = .ok (.aload_n 0, 1) := by decide +kernel
theorem dX5_dropOldest_1 : decode cX5_dropOldest 1 = .ok (.getfield 23, 3) := by decide +kernel
theorem dX5_dropOldest_4 : decode cX5_dropOldest 4 = .ok (.iconst 0, 1) := by decide +kernel
theorem dX5_dropOldest_5 : decode cX5_dropOldest 5 = .ok (.aaload, 1) := by decide +kernel
theorem dX5_dropOldest_6 : decode cX5_dropOldest 6 = .ok (.astore_n 1, 1) := by decide +kernel
theorem dX5_dropOldest_7 : decode cX5_dropOldest 7 = .ok (.iconst 1, 1) := by decide +kernel
theorem dX5_dropOldest_8 : decode cX5_dropOldest 8 = .ok (.istore_n 2, 1) := by decide +kernel
theorem dX5_dropOldest_9 : decode cX5_dropOldest 9 = .ok (.iload_n 2, 1) := by decide +kernel
theorem dX5_dropOldest_10 : decode cX5_dropOldest 10 = .ok (.iconst 4, 1) := by decide +kernel
theorem dX5_dropOldest_11 : decode cX5_dropOldest 11 = .ok (.if_icmp .ge 23, 3) := by decide +kernel
theorem dX5_dropOldest_14 : decode cX5_dropOldest 14 = .ok (.aload_n 0, 1) := by decide +kernel
theorem dX5_dropOldest_15 : decode cX5_dropOldest 15 = .ok (.getfield 23, 3) := by decide +kernel
theorem dX5_dropOldest_18 : decode cX5_dropOldest 18 = .ok (.iload_n 2, 1) := by decide +kernel
theorem dX5_dropOldest_19 : decode cX5_dropOldest 19 = .ok (.iconst 1, 1) := by decide +kernel
theorem dX5_dropOldest_20 : decode cX5_dropOldest 20 = .ok (.isub, 1) := by decide +kernel
theorem dX5_dropOldest_21 : decode cX5_dropOldest 21 = .ok (.aload_n 0, 1) := by decide +kernel
theorem dX5_dropOldest_22 : decode cX5_dropOldest 22 = .ok (.getfield 23, 3) := by decide +kernel
theorem dX5_dropOldest_25 : decode cX5_dropOldest 25 = .ok (.iload_n 2, 1) := by decide +kernel
theorem dX5_dropOldest_26 : decode cX5_dropOldest 26 = .ok (.aaload, 1) := by decide +kernel
theorem dX5_dropOldest_27 : decode cX5_dropOldest 27 = .ok (.aastore, 1) := by decide +kernel
theorem dX5_dropOldest_28 : decode cX5_dropOldest 28 = .ok (.iinc 2 1, 3) := by decide +kernel
theorem dX5_dropOldest_31 : decode cX5_dropOldest 31 = .ok (.goto (-22), 3) := by decide +kernel
theorem dX5_dropOldest_34 : decode cX5_dropOldest 34 = .ok (.aload_n 0, 1) := by decide +kernel
theorem dX5_dropOldest_35 : decode cX5_dropOldest 35 = .ok (.getfield 23, 3) := by decide +kernel
theorem dX5_dropOldest_38 : decode cX5_dropOldest 38 = .ok (.iconst 3, 1) := by decide +kernel
theorem dX5_dropOldest_39 : decode cX5_dropOldest 39 = .ok (.aload_n 1, 1) := by decide +kernel
theorem dX5_dropOldest_40 : decode cX5_dropOldest 40 = .ok (.aastore, 1) := by decide +kernel
theorem dX5_dropOldest_41 : decode cX5_dropOldest 41 = .ok (.aload_n 0, 1) := by decide +kernel
theorem dX5_dropOldest_42 : decode cX5_dropOldest 42 = .ok (.iconst 3, 1) := by decide +kernel
theorem dX5_dropOldest_43 : decode cX5_dropOldest 43 = .ok (.putfield 27, 3) := by decide +kernel
theorem dX5_dropOldest_46 : decode cX5_dropOldest 46 = .ok (.return_, 1) := by decide +kernel
theorem dX5_lineLength_0 : decode cX5_lineLength 0 = .ok (.aload_n 0, 1) := by decide +kernel
theorem dX5_lineLength_1 : decode cX5_lineLength 1 = .ok (.getfield 12, 3) := by decide +kernel
theorem dX5_lineLength_4 : decode cX5_lineLength 4 = .ok (.getfield 55, 3) := by decide +kernel
theorem dX5_lineLength_7 : decode cX5_lineLength 7 = .ok (.getfield 84, 3) := by decide +kernel
theorem dX5_lineLength_10 : decode cX5_lineLength 10 = .ok (.aload_n 0, 1) := by decide +kernel
theorem dX5_lineLength_11 : decode cX5_lineLength 11 = .ok (.getfield 12, 3) := by decide +kernel
theorem dX5_lineLength_14 : decode cX5_lineLength 14 = .ok (.getfield 45, 3) := by decide +kernel
theorem dX5_lineLength_17 : decode cX5_lineLength 17 = .ok (.getfield 71, 3) := by decide +kernel
theorem dX5_lineLength_20 : decode cX5_lineLength 20 = .ok (.imul, 1) := by decide +kernel
theorem dX5_lineLength_21 : decode cX5_lineLength 21 = .ok (.ireturn, 1) := by decide +kernel
set_option maxRecDepth 20000 in
theorem ggX5_isOnLine_X5_lineLength : GoodIn wsX5_isOnLine wsX5_lineLength := goodIn_r _ [5, 6, 7, 8, 9, 10, 11, 12, 13, 14, 15, 16, 17, 18, 19, 20, 21, 22, 23, 24, 25, 26, 27, 28, 29] (by decide +kernel) (by decide +kernel)
set_option maxRecDepth 20000 in
theorem gX5_isOnLine_X5_lineLength : GoodIn wsX5_isOnLine (wsV RX5 184 RX5 yX5_lineLength wsX5_lineLength) := goodIn_app (goodIn_of _ (by decide +kernel)) ggX5_isOnLine_X5_lineLength
theorem dX5_isOnLine_0 : decode cX5_isOnLine 0 = .ok (.iload_n 1, 1) := by decide +kernel
theorem dX5_isOnLine_1 : decode cX5_isOnLine 1 = .ok (.ifCond .lt 15, 3) := by decide +kernel
theorem dX5_isOnLine_4 : decode cX5_isOnLine 4 = .ok (.iload_n 1, 1) := by decide +kernel
theorem dX5_isOnLine_5 : decode cX5_isOnLine 5 = .ok (.aload_n 0, 1) := by decide +kernel
theorem dX5_isOnLine_6 : decode cX5_isOnLine 6 = .ok (.invokevirtual 184, 3) := by decide +kernel
theorem dX5_isOnLine_9 : decode cX5_isOnLine 9 = .ok (.if_icmp .ge 7, 3) := by decide +kernel
theorem dX5_isOnLine_12 : decode cX5_isOnLine 12 = .ok (.iconst 1, 1) := by decide +kernel
theorem dX5_isOnLine_13 : decode cX5_isOnLine 13 = .ok (.goto 4, 3) := by decide +kernel
theorem dX5_isOnLine_16 : decode cX5_isOnLine 16 = .ok (.iconst 0, 1) := by decide +kernel
theorem dX5_isOnLine_17 : decode cX5_isOnLine 17 = .ok (.ireturn, 1) := by decide +kernel
theorem dX5_isTaken_0 : decode cX5_isTaken 0 = .ok (.iload_n 1, 1) := by decide +kernel
theorem dX5_isTaken_1 : decode cX5_isTaken 1 = .ok (.aload_n 0, 1) := by decide +kernel
theorem dX5_isTaken_2 : decode cX5_isTaken 2 = .ok (.getfield 12, 3) := by decide +kernel
theorem dX5_isTaken_5 : decode cX5_isTaken 5 = .ok (.getfield 64, 3) := by decide +kernel
theorem dX5_isTaken_8 : decode cX5_isTaken 8 = .ok (.getfield 113, 3) := by decide +kernel
theorem dX5_isTaken_11 : decode cX5_isTaken 11 = .ok (.aload_n 0, 1) := by decide +kernel
theorem dX5_isTaken_12 : decode cX5_isTaken 12 = .ok (.getfield 12, 3) := by decide +kernel
theorem dX5_isTaken_15 : decode cX5_isTaken 15 = .ok (.getfield 45, 3) := by decide +kernel
theorem dX5_isTaken_18 : decode cX5_isTaken 18 = .ok (.getfield 71, 3) := by decide +kernel
theorem dX5_isTaken_21 : decode cX5_isTaken 21 = .ok (.imul, 1) := by decide +kernel
theorem dX5_isTaken_22 : decode cX5_isTaken 22 = .ok (.if_icmp .ge 7, 3) := by decide +kernel
theorem dX5_isTaken_25 : decode cX5_isTaken 25 = .ok (.iconst 1, 1) := by decide +kernel
theorem dX5_isTaken_26 : decode cX5_isTaken 26 = .ok (.goto 4, 3) := by decide +kernel
theorem dX5_isTaken_29 : decode cX5_isTaken 29 = .ok (.iconst 0, 1) := by decide +kernel
theorem dX5_isTaken_30 : decode cX5_isTaken 30 = .ok (.ireturn, 1) := by decide +kernel
set_option maxRecDepth 20000 in
theorem ggX5_erasedSymbols_X5_lineLength : GoodIn wsX5_erasedSymbols wsX5_lineLength := goodIn_r _ [8, 1, 2, 9, 10, 11, 12, 13, 14, 15, 16, 17, 18, 19, 20, 21, 22, 23, 24, 25, 26, 27, 28, 29, 30] (by decide +kernel) (by decide +kernel)
set_option maxRecDepth 20000 in
theorem gX5_erasedSymbols_X5_lineLength : GoodIn wsX5_erasedSymbols (wsV RX5 184 RX5 yX5_lineLength wsX5_lineLength) := goodIn_app (goodIn_of _ (by decide +kernel)) ggX5_erasedSymbols_X5_lineLength
theorem dX5_erasedSymbols_0 : decode cX5_erasedSymbols 0 = .ok (.aload_n 0, 1) := by decide +kernel
theorem dX5_erasedSymbols_1 : decode cX5_erasedSymbols 1 = .ok (.invokevirtual 184, 3) := by decide +kernel
theorem dX5_erasedSymbols_4 : decode cX5_erasedSymbols 4 = .ok (.istore_n 1, 1) := by decide +kernel
theorem dX5_erasedSymbols_5 : decode cX5_erasedSymbols 5 = .ok (.iconst 0, 1) := by decide +kernel
theorem dX5_erasedSymbols_6 : decode cX5_erasedSymbols 6 = .ok (.istore_n 2, 1) := by decide +kernel
theorem dX5_erasedSymbols_7 : decode cX5_erasedSymbols 7 = .ok (.iconst 0, 1) := by decide +kernel
theorem dX5_erasedSymbols_8 : decode cX5_erasedSymbols 8 = .ok (.istore_n 3, 1) := by decide +kernel
theorem dX5_erasedSymbols_9 : decode cX5_erasedSymbols 9 = .ok (.iload_n 3, 1) := by decide +kernel
theorem dX5_erasedSymbols_10 : decode cX5_erasedSymbols 10 = .ok (.iload_n 1, 1) := by decide +kernel
theorem dX5_erasedSymbols_11 : decode cX5_erasedSymbols 11 = .ok (.if_icmp .ge 28, 3) := by decide +kernel
theorem dX5_erasedSymbols_14 : decode cX5_erasedSymbols 14 = .ok (.aload_n 0, 1) := by decide +kernel
theorem dX5_erasedSymbols_15 : decode cX5_erasedSymbols 15 = .ok (.getfield 12, 3) := by decide +kernel
theorem dX5_erasedSymbols_18 : decode cX5_erasedSymbols 18 = .ok (.getfield 55, 3) := by decide +kernel
theorem dX5_erasedSymbols_21 : decode cX5_erasedSymbols 21 = .ok (.getfield 104, 3) := by decide +kernel
theorem dX5_erasedSymbols_24 : decode cX5_erasedSymbols 24 = .ok (.iload_n 3, 1) := by decide +kernel
theorem dX5_erasedSymbols_25 : decode cX5_erasedSymbols 25 = .ok (.iaload, 1) := by decide +kernel
theorem dX5_erasedSymbols_26 : decode cX5_erasedSymbols 26 = .ok (.iconst 2, 1) := by decide +kernel
theorem dX5_erasedSymbols_27 : decode cX5_erasedSymbols 27 = .ok (.if_icmp .ne 6, 3) := by decide +kernel
theorem dX5_erasedSymbols_30 : decode cX5_erasedSymbols 30 = .ok (.iinc 2 1, 3) := by decide +kernel
theorem dX5_erasedSymbols_33 : decode cX5_erasedSymbols 33 = .ok (.iinc 3 1, 3) := by decide +kernel
theorem dX5_erasedSymbols_36 : decode cX5_erasedSymbols 36 = .ok (.goto (-27), 3) := by decide +kernel
theorem dX5_erasedSymbols_39 : decode cX5_erasedSymbols 39 = .ok (.iload_n 2, 1) := by decide +kernel
theorem dX5_erasedSymbols_40 : decode cX5_erasedSymbols 40 = .ok (.ireturn, 1) := by decide +kernel
set_option maxRecDepth 20000 in
theorem ggX5_flippedSymbols_X5_lineLength : GoodIn wsX5_flippedSymbols wsX5_lineLength := goodIn_r _ [9, 1, 2, 10, 11, 12, 13, 14, 15, 16, 17, 18, 19, 20, 21, 22, 23, 24, 25, 26, 27, 28, 29, 30, 31] (by decide +kernel) (by decide +kernel)
set_option maxRecDepth 20000 in
theorem gX5_flippedSymbols_X5_lineLength : GoodIn wsX5_flippedSymbols (wsV RX5 184 RX5 yX5_lineLength wsX5_lineLength) := goodIn_app (goodIn_of _ (by decide +kernel)) ggX5_flippedSymbols_X5_lineLength
theorem dX5_flippedSymbols_0 : decode cX5_flippedSymbols 0 = .ok (.aload_n 0, 1) := by decide +kernel
theorem dX5_flippedSymbols_1 : decode cX5_flippedSymbols 1 = .ok (.invokevirtual 184, 3) := by decide +kernel
theorem dX5_flippedSymbols_4 : decode cX5_flippedSymbols 4 = .ok (.istore_n 1, 1) := by decide +kernel
theorem dX5_flippedSymbols_5 : decode cX5_flippedSymbols 5 = .ok (.iconst 0, 1) := by decide +kernel
theorem dX5_flippedSymbols_6 : decode cX5_flippedSymbols 6 = .ok (.istore_n 2, 1) := by decide +kernel
theorem dX5_flippedSymbols_7 : decode cX5_flippedSymbols 7 = .ok (.iconst 0, 1) := by decide +kernel
theorem dX5_flippedSymbols_8 : decode cX5_flippedSymbols 8 = .ok (.istore_n 3, 1) := by decide +kernel
theorem dX5_flippedSymbols_9 : decode cX5_flippedSymbols 9 = .ok (.iload_n 3, 1) := by decide +kernel
theorem dX5_flippedSymbols_10 : decode cX5_flippedSymbols 10 = .ok (.iload_n 1, 1) := by decide +kernel
theorem dX5_flippedSymbols_11 : decode cX5_flippedSymbols 11 = .ok (.if_icmp .ge 49, 3) := by decide +kernel
theorem dX5_flippedSymbols_14 : decode cX5_flippedSymbols 14 = .ok (.aload_n 0, 1) := by decide +kernel
theorem dX5_flippedSymbols_15 : decode cX5_flippedSymbols 15 = .ok (.getfield 12, 3) := by decide +kernel
theorem dX5_flippedSymbols_18 : decode cX5_flippedSymbols 18 = .ok (.getfield 55, 3) := by decide +kernel
theorem dX5_flippedSymbols_21 : decode cX5_flippedSymbols 21 = .ok (.getfield 104, 3) := by decide +kernel
theorem dX5_flippedSymbols_24 : decode cX5_flippedSymbols 24 = .ok (.iload_n 3, 1) := by decide +kernel
theorem dX5_flippedSymbols_25 : decode cX5_flippedSymbols 25 = .ok (.iaload, 1) := by decide +kernel
theorem dX5_flippedSymbols_26 : decode cX5_flippedSymbols 26 = .ok (.istore 4, 2) := by decide +kernel
theorem dX5_flippedSymbols_28 : decode cX5_flippedSymbols 28 = .ok (.iload 4, 2) := by decide +kernel
theorem dX5_flippedSymbols_30 : decode cX5_flippedSymbols 30 = .ok (.iconst 2, 1) := by decide +kernel
theorem dX5_flippedSymbols_31 : decode cX5_flippedSymbols 31 = .ok (.if_icmp .eq 23, 3) := by decide +kernel
theorem dX5_flippedSymbols_34 : decode cX5_flippedSymbols 34 = .ok (.iload 4, 2) := by decide +kernel
theorem dX5_flippedSymbols_36 : decode cX5_flippedSymbols 36 = .ok (.aload_n 0, 1) := by decide +kernel
theorem dX5_flippedSymbols_37 : decode cX5_flippedSymbols 37 = .ok (.getfield 12, 3) := by decide +kernel
theorem dX5_flippedSymbols_40 : decode cX5_flippedSymbols 40 = .ok (.getfield 55, 3) := by decide +kernel
theorem dX5_flippedSymbols_43 : decode cX5_flippedSymbols 43 = .ok (.getfield 152, 3) := by decide +kernel
theorem dX5_flippedSymbols_46 : decode cX5_flippedSymbols 46 = .ok (.iload_n 3, 1) := by decide +kernel
theorem dX5_flippedSymbols_47 : decode cX5_flippedSymbols 47 = .ok (.iaload, 1) := by decide +kernel
theorem dX5_flippedSymbols_48 : decode cX5_flippedSymbols 48 = .ok (.if_icmp .eq 6, 3) := by decide +kernel
theorem dX5_flippedSymbols_51 : decode cX5_flippedSymbols 51 = .ok (.iinc 2 1, 3) := by decide +kernel
theorem dX5_flippedSymbols_54 : decode cX5_flippedSymbols 54 = .ok (.iinc 3 1, 3) := by decide +kernel
theorem dX5_flippedSymbols_57 : decode cX5_flippedSymbols 57 = .ok (.goto (-48), 3) := by decide +kernel
theorem dX5_flippedSymbols_60 : decode cX5_flippedSymbols 60 = .ok (.iload_n 2, 1) := by decide +kernel
theorem dX5_flippedSymbols_61 : decode cX5_flippedSymbols 61 = .ok (.ireturn, 1) := by decide +kernel
