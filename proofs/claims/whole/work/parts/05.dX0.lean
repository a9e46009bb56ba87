set_option maxRecDepth 20000 in
theorem ggX0_init_X0_choose : GoodIn wsX0_init wsX0_choose := goodIn_r _ [10, 11, 12, 5, 13, 14, 15] (by decide +kernel) (by decide +kernel)
set_option maxRecDepth 20000 in
theorem gX0_init_X0_choose : GoodIn wsX0_init (wsV RX0 15 RX0 yX0_choose wsX0_choose) := goodIn_app (goodIn_of _ (by decide +kernel)) ggX0_init_X0_choose
theorem dX0_init_0 : decode cX0_init 0 = .ok (.aload_n 0, 1) := by decide +kernel
theorem dX0_init_1 : decode cX0_init 1 = .ok (.invokespecial 3, 3) := by decide +kernel
theorem dX0_init_4 : decode cX0_init 4 = .ok (.aload_n 0, 1) := by decide +kernel
theorem dX0_init_5 : decode cX0_init 5 = .ok (.iconst 3, 1) := by decide +kernel
theorem dX0_init_6 : decode cX0_init 6 = .ok (.newarray .int, 2) := by decide +kernel
theorem dX0_init_8 : decode cX0_init 8 = .ok (.putfield 9, 3) := by decide +kernel
theorem dX0_init_11 : decode cX0_init 11 = .ok (.aload_n 0, 1) := by decide +kernel
theorem dX0_init_12 : decode cX0_init 12 = .ok (.iconst 2, 1) := by decide +kernel
theorem dX0_init_13 : decode cX0_init 13 = .ok (.bipush 7, 2) := by decide +kernel
theorem dX0_init_15 : decode cX0_init 15 = .ok (.iconst 5, 1) := by decide +kernel
theorem dX0_init_16 : decode cX0_init 16 = .ok (.iconst 0, 1) := by decide +kernel
theorem dX0_init_17 : decode cX0_init 17 = .ok (.invokevirtual 15, 3) := by decide +kernel
theorem dX0_init_20 : decode cX0_init 20 = .ok (.return_, 1) := by decide +kernel
theorem dX0_choose_0 : decode cX0_choose 0 = .ok (.aload_n 0, 1) := by decide +kernel
theorem dX0_choose_1 : decode cX0_choose 1 = .ok (.iload_n 1, 1) := by decide +kernel
theorem dX0_choose_2 : decode cX0_choose 2 = .ok (.putfield 19, 3) := by decide +kernel
theorem dX0_choose_5 : decode cX0_choose 5 = .ok (.aload_n 0, 1) := by decide +kernel
theorem dX0_choose_6 : decode cX0_choose 6 = .ok (.iload 4, 2) := by decide +kernel
theorem dX0_choose_8 : decode cX0_choose 8 = .ok (.ifCond .ne 7, 3) := by decide +kernel
theorem dX0_choose_11 : decode cX0_choose 11 = .ok (.iconst 2, 1) := by decide +kernel
theorem dX0_choose_12 : decode cX0_choose 12 = .ok (.goto 4, 3) := by decide +kernel
theorem dX0_choose_15 : decode cX0_choose 15 = .ok (.iconst 3, 1) := by decide +kernel
theorem dX0_choose_16 : decode cX0_choose 16 = .ok (.putfield 23, 3) := by decide +kernel
theorem dX0_choose_19 : decode cX0_choose 19 = .ok (.aload_n 0, 1) := by decide +kernel
theorem dX0_choose_20 : decode cX0_choose 20 = .ok (.getfield 9, 3) := by decide +kernel
theorem dX0_choose_23 : decode cX0_choose 23 = .ok (.iconst 0, 1) := by decide +kernel
theorem dX0_choose_24 : decode cX0_choose 24 = .ok (.iload_n 2, 1) := by decide +kernel
theorem dX0_choose_25 : decode cX0_choose 25 = .ok (.iastore, 1) := by decide +kernel
theorem dX0_choose_26 : decode cX0_choose 26 = .ok (.aload_n 0, 1) := by decide +kernel
theorem dX0_choose_27 : decode cX0_choose 27 = .ok (.getfield 9, 3) := by decide +kernel
theorem dX0_choose_30 : decode cX0_choose 30 = .ok (.iconst 1, 1) := by decide +kernel
theorem dX0_choose_31 : decode cX0_choose 31 = .ok (.iload_n 3, 1) := by decide +kernel
theorem dX0_choose_32 : decode cX0_choose 32 = .ok (.iastore, 1) := by decide +kernel
theorem dX0_choose_33 : decode cX0_choose 33 = .ok (.aload_n 0, 1) := by decide +kernel
theorem dX0_choose_34 : decode cX0_choose 34 = .ok (.getfield 9, 3) := by decide +kernel
theorem dX0_choose_37 : decode cX0_choose 37 = .ok (.iconst 2, 1) := by decide +kernel
theorem dX0_choose_38 : decode cX0_choose 38 = .ok (.iload 4, 2) := by decide +kernel
theorem dX0_choose_40 : decode cX0_choose 40 = .ok (.iastore, 1) := by decide +kernel
theorem dX0_choose_41 : decode cX0_choose 41 = .ok (.return_, 1) := by decide +kernel
set_option maxRecDepth 20000 in
theorem ggX0_copyFrom_X0_choose : GoodIn wsX0_copyFrom wsX0_choose := goodIn_r _ [7, 1, 8, 2, 9, 10, 11] (by decide +kernel) (by decide +kernel)
set_option maxRecDepth 20000 in
theorem gX0_copyFrom_X0_choose : GoodIn wsX0_copyFrom (wsV RX0 15 RX0 yX0_choose wsX0_choose) := goodIn_app (goodIn_of _ (by decide +kernel)) ggX0_copyFrom_X0_choose
theorem dX0_copyFrom_0 : decode cX0_copyFrom 0 = .ok (.aload_n 0, 1) := by decide +kernel
theorem dX0_copyFrom_1 : decode cX0_copyFrom 1 = .ok (.aload_n 1, 1) := by decide +kernel
theorem dX0_copyFrom_2 : decode cX0_copyFrom 2 = .ok (.getfield 19, 3) := by decide +kernel
theorem dX0_copyFrom_5 : decode cX0_copyFrom 5 = .ok (.aload_n 1, 1) := by decide +kernel
theorem dX0_copyFrom_6 : decode cX0_copyFrom 6 = .ok (.getfield 9, 3) := by decide +kernel
theorem dX0_copyFrom_9 : decode cX0_copyFrom 9 = .ok (.iconst 0, 1) := by decide +kernel
theorem dX0_copyFrom_10 : decode cX0_copyFrom 10 = .ok (.iaload, 1) := by decide +kernel
theorem dX0_copyFrom_11 : decode cX0_copyFrom 11 = .ok (.aload_n 1, 1) := by decide +kernel
theorem dX0_copyFrom_12 : decode cX0_copyFrom 12 = .ok (.getfield 9, 3) := by decide +kernel
theorem dX0_copyFrom_15 : decode cX0_copyFrom 15 = .ok (.iconst 1, 1) := by decide +kernel
theorem dX0_copyFrom_16 : decode cX0_copyFrom 16 = .ok (.iaload, 1) := by decide +kernel
theorem dX0_copyFrom_17 : decode cX0_copyFrom 17 = .ok (.aload_n 1, 1) := by decide +kernel
theorem dX0_copyFrom_18 : decode cX0_copyFrom 18 = .ok (.getfield 9, 3) := by decide +kernel
theorem dX0_copyFrom_21 : decode cX0_copyFrom 21 = .ok (.iconst 2, 1) := by decide +kernel
theorem dX0_copyFrom_22 : decode cX0_copyFrom 22 = .ok (.iaload, 1) := by decide +kernel
theorem dX0_copyFrom_23 : decode cX0_copyFrom 23 = .ok (.invokevirtual 15, 3) := by decide +kernel
theorem dX0_copyFrom_26 : decode cX0_copyFrom 26 = .ok (.return_, 1) := by decide +kernel
theorem dX0_states_0 : decode cX0_states 0 = .ok (.iconst 1, 1) := by decide +kernel
theorem dX0_states_1 : decode cX0_states 1 = .ok (.aload_n 0, 1) := by decide +kernel
theorem dX0_states_2 : decode cX0_states 2 = .ok (.getfield 19, 3) := by decide +kernel
theorem dX0_states_5 : decode cX0_states 5 = .ok (.ishl, 1) := by decide +kernel
theorem dX0_states_6 : decode cX0_states 6 = .ok (.ireturn, 1) := by decide +kernel
set_option maxRecDepth 20000 in
theorem ggX0_hasState_X0_states : GoodIn wsX0_hasState wsX0_states := goodIn_r _ [5, 6, 7, 8, 9] (by decide +kernel) (by decide +kernel)
set_option maxRecDepth 20000 in
theorem gX0_hasState_X0_states : GoodIn wsX0_hasState (wsV RX0 26 RX0 yX0_states wsX0_states) := goodIn_app (goodIn_of _ (by decide +kernel)) ggX0_hasState_X0_states
theorem dX0_hasState_0 : decode cX0_hasState 0 = .ok (.iload_n 1, 1) := by decide +kernel
theorem dX0_hasState_1 : decode cX0_hasState 1 = .ok (.ifCond .lt 15, 3) := by decide +kernel
theorem dX0_hasState_4 : decode cX0_hasState 4 = .ok (.iload_n 1, 1) := by decide +kernel
theorem dX0_hasState_5 : decode cX0_hasState 5 = .ok (.aload_n 0, 1) := by decide +kernel
theorem dX0_hasState_6 : decode cX0_hasState 6 = .ok (.invokevirtual 26, 3) := by decide +kernel
theorem dX0_hasState_9 : decode cX0_hasState 9 = .ok (.if_icmp .ge 7, 3) := by decide +kernel
theorem dX0_hasState_12 : decode cX0_hasState 12 = .ok (.iconst 1, 1) := by decide +kernel
theorem dX0_hasState_13 : decode cX0_hasState 13 = .ok (.goto 4, 3) := by decide +kernel
theorem dX0_hasState_16 : decode cX0_hasState 16 = .ok (.iconst 0, 1) := by decide +kernel
theorem dX0_hasState_17 : decode cX0_hasState 17 = .ok (.ireturn, 1) := by decide +kernel
theorem dX0_windowOf_0 : decode cX0_windowOf 0 = .ok (.iload_n 2, 1) := by decide +kernel
theorem dX0_windowOf_1 : decode cX0_windowOf 1 = .ok (.aload_n 0, 1) := by decide +kernel
theorem dX0_windowOf_2 : decode cX0_windowOf 2 = .ok (.getfield 19, 3) := by decide +kernel
theorem dX0_windowOf_5 : decode cX0_windowOf 5 = .ok (.ishl, 1) := by decide +kernel
theorem dX0_windowOf_6 : decode cX0_windowOf 6 = .ok (.iload_n 1, 1) := by decide +kernel
theorem dX0_windowOf_7 : decode cX0_windowOf 7 = .ok (.iadd, 1) := by decide +kernel
theorem dX0_windowOf_8 : decode cX0_windowOf 8 = .ok (.ireturn, 1) := by decide +kernel
set_option maxRecDepth 20000 in
theorem ggX0_stateAfter_X0_windowOf : GoodIn wsX0_stateAfter wsX0_windowOf := goodIn_r _ [5, 6, 7, 8, 9] (by decide +kernel) (by decide +kernel)
set_option maxRecDepth 20000 in
theorem gX0_stateAfter_X0_windowOf : GoodIn wsX0_stateAfter (wsV RX0 30 RX0 yX0_windowOf wsX0_windowOf) := goodIn_app (goodIn_of _ (by decide +kernel)) ggX0_stateAfter_X0_windowOf
theorem dX0_stateAfter_0 : decode cX0_stateAfter 0 = .ok (.aload_n 0, 1) := by decide +kernel
theorem dX0_stateAfter_1 : decode cX0_stateAfter 1 = .ok (.iload_n 1, 1) := by decide +kernel
theorem dX0_stateAfter_2 : decode cX0_stateAfter 2 = .ok (.iload_n 2, 1) := by decide +kernel
theorem dX0_stateAfter_3 : decode cX0_stateAfter 3 = .ok (.invokevirtual 30, 3) := by decide +kernel
theorem dX0_stateAfter_6 : decode cX0_stateAfter 6 = .ok (.iconst 1, 1) := by decide +kernel
theorem dX0_stateAfter_7 : decode cX0_stateAfter 7 = .ok (.ishr, 1) := by decide +kernel
theorem dX0_stateAfter_8 : decode cX0_stateAfter 8 = .ok (.ireturn, 1) := by decide +kernel
theorem dX0_bitInto_0 : decode cX0_bitInto 0 = .ok (.iload_n 1, 1) := by decide +kernel
theorem dX0_bitInto_1 : decode cX0_bitInto 1 = .ok (.aload_n 0, 1) := by decide +kernel
theorem dX0_bitInto_2 : decode cX0_bitInto 2 = .ok (.getfield 19, 3) := by decide +kernel
theorem dX0_bitInto_5 : decode cX0_bitInto 5 = .ok (.iconst 1, 1) := by decide +kernel
theorem dX0_bitInto_6 : decode cX0_bitInto 6 = .ok (.isub, 1) := by decide +kernel
theorem dX0_bitInto_7 : decode cX0_bitInto 7 = .ok (.ishr, 1) := by decide +kernel
theorem dX0_bitInto_8 : decode cX0_bitInto 8 = .ok (.ireturn, 1) := by decide +kernel
set_option maxRecDepth 20000 in
theorem ggX0_lowerBefore_X0_states : GoodIn wsX0_lowerBefore wsX0_states := goodIn_r _ [5, 6, 7, 8, 9] (by decide +kernel) (by decide +kernel)
set_option maxRecDepth 20000 in
theorem gX0_lowerBefore_X0_states : GoodIn wsX0_lowerBefore (wsV RX0 26 RX0 yX0_states wsX0_states) := goodIn_app (goodIn_of _ (by decide +kernel)) ggX0_lowerBefore_X0_states
theorem dX0_lowerBefore_0 : decode cX0_lowerBefore 0 = .ok (.iconst 2, 1) := by decide +kernel
theorem dX0_lowerBefore_1 : decode cX0_lowerBefore 1 = .ok (.iload_n 1, 1) := by decide +kernel
theorem dX0_lowerBefore_2 : decode cX0_lowerBefore 2 = .ok (.imul, 1) := by decide +kernel
theorem dX0_lowerBefore_3 : decode cX0_lowerBefore 3 = .ok (.aload_n 0, 1) := by decide +kernel
theorem dX0_lowerBefore_4 : decode cX0_lowerBefore 4 = .ok (.invokevirtual 26, 3) := by decide +kernel
theorem dX0_lowerBefore_7 : decode cX0_lowerBefore 7 = .ok (.iconst 1, 1) := by decide +kernel
theorem dX0_lowerBefore_8 : decode cX0_lowerBefore 8 = .ok (.isub, 1) := by decide +kernel
theorem dX0_lowerBefore_9 : decode cX0_lowerBefore 9 = .ok (.iand, 1) := by decide +kernel
theorem dX0_lowerBefore_10 : decode cX0_lowerBefore 10 = .ok (.ireturn, 1) := by decide +kernel
set_option maxRecDepth 20000 in
theorem ggX0_symbolOf_J6_bitCount_0f7a4 : GoodIn wsX0_symbolOf wsJ6_bitCount_0f7a4 := goodIn_r _ [5, 6, 7, 8] (by decide +kernel) (by decide +kernel)
set_option maxRecDepth 20000 in
theorem gX0_symbolOf_J6_bitCount_0f7a4 : GoodIn wsX0_symbolOf (va_wsS RX0 34 yJ6_bitCount_0f7a4 wsJ6_bitCount_0f7a4) := goodIn_app (goodIn_of _ (by decide +kernel)) ggX0_symbolOf_J6_bitCount_0f7a4
theorem dX0_symbolOf_0 : decode cX0_symbolOf 0 = .ok (.aload_n 0, 1) := by decide +kernel
theorem dX0_symbolOf_1 : decode cX0_symbolOf 1 = .ok (.getfield 9, 3) := by decide +kernel
theorem dX0_symbolOf_4 : decode cX0_symbolOf 4 = .ok (.iload_n 1, 1) := by decide +kernel
theorem dX0_symbolOf_5 : decode cX0_symbolOf 5 = .ok (.iaload, 1) := by decide +kernel
theorem dX0_symbolOf_6 : decode cX0_symbolOf 6 = .ok (.iload_n 2, 1) := by decide +kernel
theorem dX0_symbolOf_7 : decode cX0_symbolOf 7 = .ok (.iand, 1) := by decide +kernel
theorem dX0_symbolOf_8 : decode cX0_symbolOf 8 = .ok (.invokestatic 34, 3) := by decide +kernel
theorem dX0_symbolOf_11 : decode cX0_symbolOf 11 = .ok (.iconst 1, 1) := by decide +kernel
theorem dX0_symbolOf_12 : decode cX0_symbolOf 12 = .ok (.iand, 1) := by decide +kernel
theorem dX0_symbolOf_13 : decode cX0_symbolOf 13 = .ok (.ireturn, 1) := by decide +kernel
set_option maxRecDepth 20000 in
theorem ggX0_symbolsOf_X0_windowOf : GoodIn wsX0_symbolsOf wsX0_windowOf := goodIn_r _ [6, 7, 20, 21, 22] (by decide +kernel) (by decide +kernel)
set_option maxRecDepth 20000 in
theorem gX0_symbolsOf_X0_windowOf : GoodIn wsX0_symbolsOf (wsV RX0 30 RX0 yX0_windowOf wsX0_windowOf) := goodIn_app (goodIn_of _ (by decide +kernel)) ggX0_symbolsOf_X0_windowOf
set_option maxRecDepth 20000 in
theorem ggX0_symbolsOf_X0_symbolOf : GoodIn wsX0_symbolsOf wsX0_symbolOf := goodIn_r _ [11, 12, 13, 14, 15, 16, 17, 18, 19, 20, 21, 22] (by decide +kernel) (by decide +kernel)
set_option maxRecDepth 20000 in
theorem gX0_symbolsOf_X0_symbolOf : GoodIn wsX0_symbolsOf (wsV RX0 40 RX0 yX0_symbolOf wsX0_symbolOf) := goodIn_app (goodIn_of _ (by decide +kernel)) ggX0_symbolsOf_X0_symbolOf
theorem dX0_symbolsOf_0 : decode cX0_symbolsOf 0 = .ok (.aload_n 0, 1) := by decide +kernel
theorem dX0_symbolsOf_1 : decode cX0_symbolsOf 1 = .ok (.iload_n 1, 1) := by decide +kernel
theorem dX0_symbolsOf_2 : decode cX0_symbolsOf 2 = .ok (.iload_n 2, 1) := by decide +kernel
theorem dX0_symbolsOf_3 : decode cX0_symbolsOf 3 = .ok (.invokevirtual 30, 3) := by decide +kernel
theorem dX0_symbolsOf_6 : decode cX0_symbolsOf 6 = .ok (.istore_n 3, 1) := by decide +kernel
theorem dX0_symbolsOf_7 : decode cX0_symbolsOf 7 = .ok (.iconst 0, 1) := by decide +kernel
theorem dX0_symbolsOf_8 : decode cX0_symbolsOf 8 = .ok (.istore 4, 2) := by decide +kernel
theorem dX0_symbolsOf_10 : decode cX0_symbolsOf 10 = .ok (.iconst 0, 1) := by decide +kernel
theorem dX0_symbolsOf_11 : decode cX0_symbolsOf 11 = .ok (.istore 5, 2) := by decide +kernel
theorem dX0_symbolsOf_13 : decode cX0_symbolsOf 13 = .ok (.iload 5, 2) := by decide +kernel
theorem dX0_symbolsOf_15 : decode cX0_symbolsOf 15 = .ok (.aload_n 0, 1) := by decide +kernel
theorem dX0_symbolsOf_16 : decode cX0_symbolsOf 16 = .ok (.getfield 23, 3) := by decide +kernel
theorem dX0_symbolsOf_19 : decode cX0_symbolsOf 19 = .ok (.if_icmp .ge 23, 3) := by decide +kernel
theorem dX0_symbolsOf_22 : decode cX0_symbolsOf 22 = .ok (.iconst 2, 1) := by decide +kernel
theorem dX0_symbolsOf_23 : decode cX0_symbolsOf 23 = .ok (.iload 4, 2) := by decide +kernel
theorem dX0_symbolsOf_25 : decode cX0_symbolsOf 25 = .ok (.imul, 1) := by decide +kernel
theorem dX0_symbolsOf_26 : decode cX0_symbolsOf 26 = .ok (.aload_n 0, 1) := by decide +kernel
theorem dX0_symbolsOf_27 : decode cX0_symbolsOf 27 = .ok (.iload 5, 2) := by decide +kernel
theorem dX0_symbolsOf_29 : decode cX0_symbolsOf 29 = .ok (.iload_n 3, 1) := by decide +kernel
theorem dX0_symbolsOf_30 : decode cX0_symbolsOf 30 = .ok (.invokevirtual 40, 3) := by decide +kernel
theorem dX0_symbolsOf_33 : decode cX0_symbolsOf 33 = .ok (.iadd, 1) := by decide +kernel
theorem dX0_symbolsOf_34 : decode cX0_symbolsOf 34 = .ok (.istore 4, 2) := by decide +kernel
theorem dX0_symbolsOf_36 : decode cX0_symbolsOf 36 = .ok (.iinc 5 1, 3) := by decide +kernel
theorem dX0_symbolsOf_39 : decode cX0_symbolsOf 39 = .ok (.goto (-26), 3) := by decide +kernel
theorem dX0_symbolsOf_42 : decode cX0_symbolsOf 42 = .ok (.iload 4, 2) := by decide +kernel
theorem dX0_symbolsOf_44 : decode cX0_symbolsOf 44 = .ok (.ireturn, 1) := by decide +kernel
set_option maxRecDepth 20000 in
theorem ggX0_onesOf_X0_symbolsOf : GoodIn wsX0_onesOf wsX0_symbolsOf := goodIn_r _ [5, 6, 7, 8, 9, 4, 10, 11, 12, 13, 14, 15, 16, 17, 18, 19, 20, 21, 22, 23, 24, 25, 26] (by decide +kernel) (by decide +kernel)
set_option maxRecDepth 20000 in
theorem gX0_onesOf_X0_symbolsOf : GoodIn wsX0_onesOf (wsV RX0 43 RX0 yX0_symbolsOf wsX0_symbolsOf) := goodIn_app (goodIn_of _ (by decide +kernel)) ggX0_onesOf_X0_symbolsOf
set_option maxRecDepth 20000 in
theorem ggX0_onesOf_J6_bitCount_0f7a4 : GoodIn wsX0_onesOf wsJ6_bitCount_0f7a4 := goodIn_r _ [20, 21, 22, 23] (by decide +kernel) (by decide +kernel)
set_option maxRecDepth 20000 in
theorem gX0_onesOf_J6_bitCount_0f7a4 : GoodIn wsX0_onesOf (va_wsS RX0 34 yJ6_bitCount_0f7a4 wsJ6_bitCount_0f7a4) := goodIn_app (goodIn_of _ (by decide +kernel)) ggX0_onesOf_J6_bitCount_0f7a4
theorem dX0_onesOf_0 : decode cX0_onesOf 0 = .ok (.aload_n 0, 1) := by decide +kernel
theorem dX0_onesOf_1 : decode cX0_onesOf 1 = .ok (.iload_n 1, 1) := by decide +kernel
theorem dX0_onesOf_2 : decode cX0_onesOf 2 = .ok (.iload_n 2, 1) := by decide +kernel
theorem dX0_onesOf_3 : decode cX0_onesOf 3 = .ok (.invokevirtual 43, 3) := by decide +kernel
theorem dX0_onesOf_6 : decode cX0_onesOf 6 = .ok (.invokestatic 34, 3) := by decide +kernel
theorem dX0_onesOf_9 : decode cX0_onesOf 9 = .ok (.ireturn, 1) := by decide +kernel
set_option maxRecDepth 20000 in
theorem ggX0_priceOf_X0_windowOf : GoodIn wsX0_priceOf wsX0_windowOf := goodIn_r _ [6, 7, 20, 21, 22] (by decide +kernel) (by decide +kernel)
set_option maxRecDepth 20000 in
theorem gX0_priceOf_X0_windowOf : GoodIn wsX0_priceOf (wsV RX0 30 RX0 yX0_windowOf wsX0_windowOf) := goodIn_app (goodIn_of _ (by decide +kernel)) ggX0_priceOf_X0_windowOf
set_option maxRecDepth 20000 in
theorem ggX0_priceOf_X0_symbolOf : GoodIn wsX0_priceOf wsX0_symbolOf := goodIn_r _ [11, 12, 13, 14, 15, 16, 17, 18, 19, 20, 21, 22] (by decide +kernel) (by decide +kernel)
set_option maxRecDepth 20000 in
theorem gX0_priceOf_X0_symbolOf : GoodIn wsX0_priceOf (wsV RX0 40 RX0 yX0_symbolOf wsX0_symbolOf) := goodIn_app (goodIn_of _ (by decide +kernel)) ggX0_priceOf_X0_symbolOf
theorem dX0_priceOf_0 : decode cX0_priceOf 0 = .ok (.aload_n 0, 1) := by decide +kernel
theorem dX0_priceOf_1 : decode cX0_priceOf 1 = .ok (.iload_n 1, 1) := by decide +kernel
theorem dX0_priceOf_2 : decode cX0_priceOf 2 = .ok (.iload_n 2, 1) := by decide +kernel
theorem dX0_priceOf_3 : decode cX0_priceOf 3 = .ok (.invokevirtual 30, 3) := by decide +kernel
theorem dX0_priceOf_6 : decode cX0_priceOf 6 = .ok (.istore 5, 2) := by decide +kernel
theorem dX0_priceOf_8 : decode cX0_priceOf 8 = .ok (.iconst 0, 1) := by decide +kernel
theorem dX0_priceOf_9 : decode cX0_priceOf 9 = .ok (.istore 6, 2) := by decide +kernel
theorem dX0_priceOf_11 : decode cX0_priceOf 11 = .ok (.iconst 0, 1) := by decide +kernel
theorem dX0_priceOf_12 : decode cX0_priceOf 12 = .ok (.istore 7, 2) := by decide +kernel
theorem dX0_priceOf_14 : decode cX0_priceOf 14 = .ok (.iload 7, 2) := by decide +kernel
theorem dX0_priceOf_16 : decode cX0_priceOf 16 = .ok (.aload_n 0, 1) := by decide +kernel
theorem dX0_priceOf_17 : decode cX0_priceOf 17 = .ok (.getfield 23, 3) := by decide +kernel
theorem dX0_priceOf_20 : decode cX0_priceOf 20 = .ok (.if_icmp .ge 40, 3) := by decide +kernel
theorem dX0_priceOf_23 : decode cX0_priceOf 23 = .ok (.aload_n 3, 1) := by decide +kernel
theorem dX0_priceOf_24 : decode cX0_priceOf 24 = .ok (.iload 4, 2) := by decide +kernel
theorem dX0_priceOf_26 : decode cX0_priceOf 26 = .ok (.iload 7, 2) := by decide +kernel
theorem dX0_priceOf_28 : decode cX0_priceOf 28 = .ok (.iadd, 1) := by decide +kernel
theorem dX0_priceOf_29 : decode cX0_priceOf 29 = .ok (.iaload, 1) := by decide +kernel
theorem dX0_priceOf_30 : decode cX0_priceOf 30 = .ok (.istore 8, 2) := by decide +kernel
theorem dX0_priceOf_32 : decode cX0_priceOf 32 = .ok (.iload 8, 2) := by decide +kernel
theorem dX0_priceOf_34 : decode cX0_priceOf 34 = .ok (.iconst 2, 1) := by decide +kernel
theorem dX0_priceOf_35 : decode cX0_priceOf 35 = .ok (.if_icmp .eq 19, 3) := by decide +kernel
theorem dX0_priceOf_38 : decode cX0_priceOf 38 = .ok (.iload 8, 2) := by decide +kernel
theorem dX0_priceOf_40 : decode cX0_priceOf 40 = .ok (.aload_n 0, 1) := by decide +kernel
theorem dX0_priceOf_41 : decode cX0_priceOf 41 = .ok (.iload 7, 2) := by decide +kernel
theorem dX0_priceOf_43 : decode cX0_priceOf 43 = .ok (.iload 5, 2) := by decide +kernel
theorem dX0_priceOf_45 : decode cX0_priceOf 45 = .ok (.invokevirtual 40, 3) := by decide +kernel
theorem dX0_priceOf_48 : decode cX0_priceOf 48 = .ok (.if_icmp .eq 6, 3) := by decide +kernel
theorem dX0_priceOf_51 : decode cX0_priceOf 51 = .ok (.iinc 6 1, 3) := by decide +kernel
theorem dX0_priceOf_54 : decode cX0_priceOf 54 = .ok (.iinc 7 1, 3) := by decide +kernel
theorem dX0_priceOf_57 : decode cX0_priceOf 57 = .ok (.goto (-43), 3) := by decide +kernel
theorem dX0_priceOf_60 : decode cX0_priceOf 60 = .ok (.iload 6, 2) := by decide +kernel
theorem dX0_priceOf_62 : decode cX0_priceOf 62 = .ok (.ireturn, 1) := by decide +kernel
set_option maxRecDepth 20000 in
theorem ggX0_leastReturn_X0_states : GoodIn wsX0_leastReturn wsX0_states := goodIn_r _ [5, 6, 44, 45, 46] (by decide +kernel) (by decide +kernel)
set_option maxRecDepth 20000 in
theorem gX0_leastReturn_X0_states : GoodIn wsX0_leastReturn (wsV RX0 26 RX0 yX0_states wsX0_states) := goodIn_app (goodIn_of _ (by decide +kernel)) ggX0_leastReturn_X0_states
set_option maxRecDepth 20000 in
theorem ggX0_leastReturn_J7_fill_53178 : GoodIn wsX0_leastReturn wsJ7_fill_53178 := goodIn_r _ [10] (by decide +kernel) (by decide +kernel)
set_option maxRecDepth 20000 in
theorem gX0_leastReturn_J7_fill_53178 : GoodIn wsX0_leastReturn (va_wsS RX0 46 yJ7_fill_53178 wsJ7_fill_53178) := goodIn_app (goodIn_of _ (by decide +kernel)) ggX0_leastReturn_J7_fill_53178
set_option maxRecDepth 20000 in
theorem ggX0_leastReturn_X0_stateAfter : GoodIn wsX0_leastReturn wsX0_stateAfter := goodIn_r _ [14, 15, 16, 17, 4, 18, 6, 44, 45, 46] (by decide +kernel) (by decide +kernel)
set_option maxRecDepth 20000 in
theorem gX0_leastReturn_X0_stateAfter : GoodIn wsX0_leastReturn (wsV RX0 52 RX0 yX0_stateAfter wsX0_stateAfter) := goodIn_app (goodIn_of _ (by decide +kernel)) ggX0_leastReturn_X0_stateAfter
set_option maxRecDepth 20000 in
theorem ggX0_leastReturn_X0_onesOf : GoodIn wsX0_leastReturn wsX0_onesOf := goodIn_r _ [22, 23, 24, 25, 4, 26, 27, 15, 16, 17, 18, 6, 28, 29, 30, 31, 32, 33, 34, 35, 36, 37, 38, 39, 44, 45, 46] (by decide +kernel) (by decide +kernel)
set_option maxRecDepth 20000 in
theorem gX0_leastReturn_X0_onesOf : GoodIn wsX0_leastReturn (wsV RX0 55 RX0 yX0_onesOf wsX0_onesOf) := goodIn_app (goodIn_of _ (by decide +kernel)) ggX0_leastReturn_X0_onesOf
set_option maxRecDepth 20000 in
theorem ggX0_leastReturn_X0_lowerAfter : GoodIn wsX0_leastReturn wsX0_lowerAfter := goodIn_r _ [43, 11, 12, 13, 4, 14, 15, 16, 17, 18, 6, 19, 20, 21, 22, 23, 24, 25, 26, 27, 28, 29, 30, 31, 32, 33, 34, 35, 36, 37, 38, 39, 44, 45, 46] (by decide +kernel) (by decide +kernel)
set_option maxRecDepth 20000 in
theorem gX0_leastReturn_X0_lowerAfter : GoodIn wsX0_leastReturn (wsV RX0 58 RX0 yX0_lowerAfter wsX0_lowerAfter) := goodIn_app (goodIn_of _ (by decide +kernel)) ggX0_leastReturn_X0_lowerAfter
theorem dX0_leastReturn_0 : decode cX0_leastReturn 0 = .ok (.aload_n 0, 1) := by decide +kernel
theorem dX0_leastReturn_1 : decode cX0_leastReturn 1 = .ok (.invokevirtual 26, 3) := by decide +kernel
theorem dX0_leastReturn_4 : decode cX0_leastReturn 4 = .ok (.istore_n 2, 1) := by decide +kernel
theorem dX0_leastReturn_5 : decode cX0_leastReturn 5 = .ok (.aload_n 1, 1) := by decide +kernel
theorem dX0_leastReturn_6 : decode cX0_leastReturn 6 = .ok (.iconst (-1), 1) := by decide +kernel
theorem dX0_leastReturn_7 : decode cX0_leastReturn 7 = .ok (.invokestatic 46, 3) := by decide +kernel
theorem dX0_leastReturn_10 : decode cX0_leastReturn 10 = .ok (.aload_n 1, 1) := by decide +kernel
theorem dX0_leastReturn_11 : decode cX0_leastReturn 11 = .ok (.aload_n 0, 1) := by decide +kernel
theorem dX0_leastReturn_12 : decode cX0_leastReturn 12 = .ok (.iconst 0, 1) := by decide +kernel
theorem dX0_leastReturn_13 : decode cX0_leastReturn 13 = .ok (.iconst 1, 1) := by decide +kernel
theorem dX0_leastReturn_14 : decode cX0_leastReturn 14 = .ok (.invokevirtual 52, 3) := by decide +kernel
theorem dX0_leastReturn_17 : decode cX0_leastReturn 17 = .ok (.aload_n 0, 1) := by decide +kernel
theorem dX0_leastReturn_18 : decode cX0_leastReturn 18 = .ok (.iconst 0, 1) := by decide +kernel
theorem dX0_leastReturn_19 : decode cX0_leastReturn 19 = .ok (.iconst 1, 1) := by decide +kernel
theorem dX0_leastReturn_20 : decode cX0_leastReturn 20 = .ok (.invokevirtual 55, 3) := by decide +kernel
theorem dX0_leastReturn_23 : decode cX0_leastReturn 23 = .ok (.iastore, 1) := by decide +kernel
theorem dX0_leastReturn_24 : decode cX0_leastReturn 24 = .ok (.iconst 0, 1) := by decide +kernel
theorem dX0_leastReturn_25 : decode cX0_leastReturn 25 = .ok (.istore_n 3, 1) := by decide +kernel
theorem dX0_leastReturn_26 : decode cX0_leastReturn 26 = .ok (.iload_n 3, 1) := by decide +kernel
theorem dX0_leastReturn_27 : decode cX0_leastReturn 27 = .ok (.iload_n 2, 1) := by decide +kernel
theorem dX0_leastReturn_28 : decode cX0_leastReturn 28 = .ok (.if_icmp .ge 31, 3) := by decide +kernel
theorem dX0_leastReturn_31 : decode cX0_leastReturn 31 = .ok (.iconst 1, 1) := by decide +kernel
theorem dX0_leastReturn_32 : decode cX0_leastReturn 32 = .ok (.istore 4, 2) := by decide +kernel
theorem dX0_leastReturn_34 : decode cX0_leastReturn 34 = .ok (.iload 4, 2) := by decide +kernel
theorem dX0_leastReturn_36 : decode cX0_leastReturn 36 = .ok (.iload_n 2, 1) := by decide +kernel
theorem dX0_leastReturn_37 : decode cX0_leastReturn 37 = .ok (.if_icmp .ge 16, 3) := by decide +kernel
theorem dX0_leastReturn_40 : decode cX0_leastReturn 40 = .ok (.aload_n 0, 1) := by decide +kernel
theorem dX0_leastReturn_41 : decode cX0_leastReturn 41 = .ok (.iload 4, 2) := by decide +kernel
theorem dX0_leastReturn_43 : decode cX0_leastReturn 43 = .ok (.aload_n 1, 1) := by decide +kernel
theorem dX0_leastReturn_44 : decode cX0_leastReturn 44 = .ok (.invokevirtual 58, 3) := by decide +kernel
theorem dX0_leastReturn_47 : decode cX0_leastReturn 47 = .ok (.iinc 4 1, 3) := by decide +kernel
theorem dX0_leastReturn_50 : decode cX0_leastReturn 50 = .ok (.goto (-16), 3) := by decide +kernel
theorem dX0_leastReturn_53 : decode cX0_leastReturn 53 = .ok (.iinc 3 1, 3) := by decide +kernel
theorem dX0_leastReturn_56 : decode cX0_leastReturn 56 = .ok (.goto (-30), 3) := by decide +kernel
theorem dX0_leastReturn_59 : decode cX0_leastReturn 59 = .ok (.aload_n 1, 1) := by decide +kernel
theorem dX0_leastReturn_60 : decode cX0_leastReturn 60 = .ok (.iconst 0, 1) := by decide +kernel
theorem dX0_leastReturn_61 : decode cX0_leastReturn 61 = .ok (.iaload, 1) := by decide +kernel
theorem dX0_leastReturn_62 : decode cX0_leastReturn 62 = .ok (.ireturn, 1) := by decide +kernel
set_option maxRecDepth 20000 in
theorem ggX0_lowerAfter_X0_stateAfter : GoodIn wsX0_lowerAfter wsX0_stateAfter := goodIn_r _ [5, 6, 7, 8, 4, 9, 10, 32, 33, 34] (by decide +kernel) (by decide +kernel)
set_option maxRecDepth 20000 in
theorem gX0_lowerAfter_X0_stateAfter : GoodIn wsX0_lowerAfter (wsV RX0 52 RX0 yX0_stateAfter wsX0_stateAfter) := goodIn_app (goodIn_of _ (by decide +kernel)) ggX0_lowerAfter_X0_stateAfter
set_option maxRecDepth 20000 in
theorem ggX0_lowerAfter_X0_onesOf : GoodIn wsX0_lowerAfter wsX0_onesOf := goodIn_r _ [14, 15, 16, 17, 4, 18, 19, 6, 7, 8, 9, 10, 20, 21, 22, 23, 24, 25, 26, 27, 28, 29, 30, 31, 32, 33, 34] (by decide +kernel) (by decide +kernel)
set_option maxRecDepth 20000 in
theorem gX0_lowerAfter_X0_onesOf : GoodIn wsX0_lowerAfter (wsV RX0 55 RX0 yX0_onesOf wsX0_onesOf) := goodIn_app (goodIn_of _ (by decide +kernel)) ggX0_lowerAfter_X0_onesOf
theorem dX0_lowerAfter_0 : decode cX0_lowerAfter 0 = .ok (.aload_n 2, 1) := by decide +kernel
theorem dX0_lowerAfter_1 : decode cX0_lowerAfter 1 = .ok (.iload_n 1, 1) := by decide +kernel
theorem dX0_lowerAfter_2 : decode cX0_lowerAfter 2 = .ok (.iaload, 1) := by decide +kernel
theorem dX0_lowerAfter_3 : decode cX0_lowerAfter 3 = .ok (.istore_n 3, 1) := by decide +kernel
theorem dX0_lowerAfter_4 : decode cX0_lowerAfter 4 = .ok (.iload_n 3, 1) := by decide +kernel
theorem dX0_lowerAfter_5 : decode cX0_lowerAfter 5 = .ok (.iconst (-1), 1) := by decide +kernel
theorem dX0_lowerAfter_6 : decode cX0_lowerAfter 6 = .ok (.if_icmp .ne 4, 3) := by decide +kernel
theorem dX0_lowerAfter_9 : decode cX0_lowerAfter 9 = .ok (.return_, 1) := by decide +kernel
theorem dX0_lowerAfter_10 : decode cX0_lowerAfter 10 = .ok (.iconst 0, 1) := by decide +kernel
theorem dX0_lowerAfter_11 : decode cX0_lowerAfter 11 = .ok (.istore 4, 2) := by decide +kernel
theorem dX0_lowerAfter_13 : decode cX0_lowerAfter 13 = .ok (.iload 4, 2) := by decide +kernel
theorem dX0_lowerAfter_15 : decode cX0_lowerAfter 15 = .ok (.iconst 2, 1) := by decide +kernel
theorem dX0_lowerAfter_16 : decode cX0_lowerAfter 16 = .ok (.if_icmp .ge 52, 3) := by decide +kernel
theorem dX0_lowerAfter_19 : decode cX0_lowerAfter 19 = .ok (.aload_n 0, 1) := by decide +kernel
theorem dX0_lowerAfter_20 : decode cX0_lowerAfter 20 = .ok (.iload_n 1, 1) := by decide +kernel
theorem dX0_lowerAfter_21 : decode cX0_lowerAfter 21 = .ok (.iload 4, 2) := by decide +kernel
theorem dX0_lowerAfter_23 : decode cX0_lowerAfter 23 = .ok (.invokevirtual 52, 3) := by decide +kernel
theorem dX0_lowerAfter_26 : decode cX0_lowerAfter 26 = .ok (.istore 5, 2) := by decide +kernel
theorem dX0_lowerAfter_28 : decode cX0_lowerAfter 28 = .ok (.iload_n 3, 1) := by decide +kernel
theorem dX0_lowerAfter_29 : decode cX0_lowerAfter 29 = .ok (.aload_n 0, 1) := by decide +kernel
theorem dX0_lowerAfter_30 : decode cX0_lowerAfter 30 = .ok (.iload_n 1, 1) := by decide +kernel
theorem dX0_lowerAfter_31 : decode cX0_lowerAfter 31 = .ok (.iload 4, 2) := by decide +kernel
theorem dX0_lowerAfter_33 : decode cX0_lowerAfter 33 = .ok (.invokevirtual 55, 3) := by decide +kernel
theorem dX0_lowerAfter_36 : decode cX0_lowerAfter 36 = .ok (.iadd, 1) := by decide +kernel
theorem dX0_lowerAfter_37 : decode cX0_lowerAfter 37 = .ok (.istore 6, 2) := by decide +kernel
theorem dX0_lowerAfter_39 : decode cX0_lowerAfter 39 = .ok (.aload_n 2, 1) := by decide +kernel
theorem dX0_lowerAfter_40 : decode cX0_lowerAfter 40 = .ok (.iload 5, 2) := by decide +kernel
theorem dX0_lowerAfter_42 : decode cX0_lowerAfter 42 = .ok (.iaload, 1) := by decide +kernel
theorem dX0_lowerAfter_43 : decode cX0_lowerAfter 43 = .ok (.iconst (-1), 1) := by decide +kernel
theorem dX0_lowerAfter_44 : decode cX0_lowerAfter 44 = .ok (.if_icmp .eq 12, 3) := by decide +kernel
theorem dX0_lowerAfter_47 : decode cX0_lowerAfter 47 = .ok (.iload 6, 2) := by decide +kernel
theorem dX0_lowerAfter_49 : decode cX0_lowerAfter 49 = .ok (.aload_n 2, 1) := by decide +kernel
theorem dX0_lowerAfter_50 : decode cX0_lowerAfter 50 = .ok (.iload 5, 2) := by decide +kernel
theorem dX0_lowerAfter_52 : decode cX0_lowerAfter 52 = .ok (.iaload, 1) := by decide +kernel
theorem dX0_lowerAfter_53 : decode cX0_lowerAfter 53 = .ok (.if_icmp .ge 9, 3) := by decide +kernel
theorem dX0_lowerAfter_56 : decode cX0_lowerAfter 56 = .ok (.aload_n 2, 1) := by decide +kernel
theorem dX0_lowerAfter_57 : decode cX0_lowerAfter 57 = .ok (.iload 5, 2) := by decide +kernel
theorem dX0_lowerAfter_59 : decode cX0_lowerAfter 59 = .ok (.iload 6, 2) := by decide +kernel
theorem dX0_lowerAfter_61 : decode cX0_lowerAfter 61 = .ok (.iastore, 1) := by decide +kernel
theorem dX0_lowerAfter_62 : decode cX0_lowerAfter 62 = .ok (.iinc 4 1, 3) := by decide +kernel
theorem dX0_lowerAfter_65 : decode cX0_lowerAfter 65 = .ok (.goto (-52), 3) := by decide +kernel
theorem dX0_lowerAfter_68 : decode cX0_lowerAfter 68 = .ok (.return_, 1) := by decide +kernel
set_option maxRecDepth 20000 in
theorem ggX0_hasRingOfZeros_X0_states : GoodIn wsX0_hasRingOfZeros wsX0_states := goodIn_r _ [6, 7, 37, 38, 39] (by decide +kernel) (by decide +kernel)
set_option maxRecDepth 20000 in
theorem gX0_hasRingOfZeros_X0_states : GoodIn wsX0_hasRingOfZeros (wsV RX0 26 RX0 yX0_states wsX0_states) := goodIn_app (goodIn_of _ (by decide +kernel)) ggX0_hasRingOfZeros_X0_states
set_option maxRecDepth 20000 in
theorem ggX0_hasRingOfZeros_X0_leadsOnByZeros : GoodIn wsX0_hasRingOfZeros wsX0_leadsOnByZeros := goodIn_r _ [11, 12, 13, 14, 5, 15, 16, 17, 18, 19, 20, 7, 21, 22, 23, 24, 25, 26, 27, 28, 29, 30, 31, 32, 33, 34, 35, 36, 37, 38, 39] (by decide +kernel) (by decide +kernel)
set_option maxRecDepth 20000 in
theorem gX0_hasRingOfZeros_X0_leadsOnByZeros : GoodIn wsX0_hasRingOfZeros (wsV RX0 64 RX0 yX0_leadsOnByZeros wsX0_leadsOnByZeros) := goodIn_app (goodIn_of _ (by decide +kernel)) ggX0_hasRingOfZeros_X0_leadsOnByZeros
theorem dX0_hasRingOfZeros_0 : decode cX0_hasRingOfZeros 0 = .ok (.aload_n 0, 1) := by decide +kernel
theorem dX0_hasRingOfZeros_1 : decode cX0_hasRingOfZeros 1 = .ok (.invokevirtual 26, 3) := by decide +kernel
theorem dX0_hasRingOfZeros_4 : decode cX0_hasRingOfZeros 4 = .ok (.istore_n 1, 1) := by decide +kernel
theorem dX0_hasRingOfZeros_5 : decode cX0_hasRingOfZeros 5 = .ok (.lconst 1, 1) := by decide +kernel
theorem dX0_hasRingOfZeros_6 : decode cX0_hasRingOfZeros 6 = .ok (.iload_n 1, 1) := by decide +kernel
theorem dX0_hasRingOfZeros_7 : decode cX0_hasRingOfZeros 7 = .ok (.lshl, 1) := by decide +kernel
theorem dX0_hasRingOfZeros_8 : decode cX0_hasRingOfZeros 8 = .ok (.ldc2_w 62, 3) := by decide +kernel
theorem dX0_hasRingOfZeros_11 : decode cX0_hasRingOfZeros 11 = .ok (.lsub, 1) := by decide +kernel
theorem dX0_hasRingOfZeros_12 : decode cX0_hasRingOfZeros 12 = .ok (.lstore_n 2, 1) := by decide +kernel
theorem dX0_hasRingOfZeros_13 : decode cX0_hasRingOfZeros 13 = .ok (.iconst 0, 1) := by decide +kernel
theorem dX0_hasRingOfZeros_14 : decode cX0_hasRingOfZeros 14 = .ok (.istore 4, 2) := by decide +kernel
theorem dX0_hasRingOfZeros_16 : decode cX0_hasRingOfZeros 16 = .ok (.iload 4, 2) := by decide +kernel
theorem dX0_hasRingOfZeros_18 : decode cX0_hasRingOfZeros 18 = .ok (.iload_n 1, 1) := by decide +kernel
theorem dX0_hasRingOfZeros_19 : decode cX0_hasRingOfZeros 19 = .ok (.if_icmp .ge 60, 3) := by decide +kernel
theorem dX0_hasRingOfZeros_22 : decode cX0_hasRingOfZeros 22 = .ok (.lconst 0, 1) := by decide +kernel
theorem dX0_hasRingOfZeros_23 : decode cX0_hasRingOfZeros 23 = .ok (.lstore 5, 2) := by decide +kernel
theorem dX0_hasRingOfZeros_25 : decode cX0_hasRingOfZeros 25 = .ok (.iconst 1, 1) := by decide +kernel
theorem dX0_hasRingOfZeros_26 : decode cX0_hasRingOfZeros 26 = .ok (.istore 7, 2) := by decide +kernel
theorem dX0_hasRingOfZeros_28 : decode cX0_hasRingOfZeros 28 = .ok (.iload 7, 2) := by decide +kernel
theorem dX0_hasRingOfZeros_30 : decode cX0_hasRingOfZeros 30 = .ok (.iload_n 1, 1) := by decide +kernel
theorem dX0_hasRingOfZeros_31 : decode cX0_hasRingOfZeros 31 = .ok (.if_icmp .ge 39, 3) := by decide +kernel
theorem dX0_hasRingOfZeros_34 : decode cX0_hasRingOfZeros 34 = .ok (.lload_n 2, 1) := by decide +kernel
theorem dX0_hasRingOfZeros_35 : decode cX0_hasRingOfZeros 35 = .ok (.iload 7, 2) := by decide +kernel
theorem dX0_hasRingOfZeros_37 : decode cX0_hasRingOfZeros 37 = .ok (.lshr, 1) := by decide +kernel
theorem dX0_hasRingOfZeros_38 : decode cX0_hasRingOfZeros 38 = .ok (.lconst 1, 1) := by decide +kernel
theorem dX0_hasRingOfZeros_39 : decode cX0_hasRingOfZeros 39 = .ok (.land, 1) := by decide +kernel
theorem dX0_hasRingOfZeros_40 : decode cX0_hasRingOfZeros 40 = .ok (.lconst 1, 1) := by decide +kernel
theorem dX0_hasRingOfZeros_41 : decode cX0_hasRingOfZeros 41 = .ok (.lcmp, 1) := by decide +kernel
theorem dX0_hasRingOfZeros_42 : decode cX0_hasRingOfZeros 42 = .ok (.ifCond .ne 22, 3) := by decide +kernel
theorem dX0_hasRingOfZeros_45 : decode cX0_hasRingOfZeros 45 = .ok (.aload_n 0, 1) := by decide +kernel
theorem dX0_hasRingOfZeros_46 : decode cX0_hasRingOfZeros 46 = .ok (.iload 7, 2) := by decide +kernel
theorem dX0_hasRingOfZeros_48 : decode cX0_hasRingOfZeros 48 = .ok (.lload_n 2, 1) := by decide +kernel
theorem dX0_hasRingOfZeros_49 : decode cX0_hasRingOfZeros 49 = .ok (.invokevirtual 64, 3) := by decide +kernel
theorem dX0_hasRingOfZeros_52 : decode cX0_hasRingOfZeros 52 = .ok (.ifCond .eq 12, 3) := by decide +kernel
theorem dX0_hasRingOfZeros_55 : decode cX0_hasRingOfZeros 55 = .ok (.lload 5, 2) := by decide +kernel
theorem dX0_hasRingOfZeros_57 : decode cX0_hasRingOfZeros 57 = .ok (.lconst 1, 1) := by decide +kernel
theorem dX0_hasRingOfZeros_58 : decode cX0_hasRingOfZeros 58 = .ok (.iload 7, 2) := by decide +kernel
theorem dX0_hasRingOfZeros_60 : decode cX0_hasRingOfZeros 60 = .ok (.lshl, 1) := by decide +kernel
theorem dX0_hasRingOfZeros_61 : decode cX0_hasRingOfZeros 61 = .ok (.lor, 1) := by decide +kernel
theorem dX0_hasRingOfZeros_62 : decode cX0_hasRingOfZeros 62 = .ok (.lstore 5, 2) := by decide +kernel
theorem dX0_hasRingOfZeros_64 : decode cX0_hasRingOfZeros 64 = .ok (.iinc 7 1, 3) := by decide +kernel
theorem dX0_hasRingOfZeros_67 : decode cX0_hasRingOfZeros 67 = .ok (.goto (-39), 3) := by decide +kernel
theorem dX0_hasRingOfZeros_70 : decode cX0_hasRingOfZeros 70 = .ok (.lload 5, 2) := by decide +kernel
theorem dX0_hasRingOfZeros_72 : decode cX0_hasRingOfZeros 72 = .ok (.lstore_n 2, 1) := by decide +kernel
theorem dX0_hasRingOfZeros_73 : decode cX0_hasRingOfZeros 73 = .ok (.iinc 4 1, 3) := by decide +kernel
theorem dX0_hasRingOfZeros_76 : decode cX0_hasRingOfZeros 76 = .ok (.goto (-60), 3) := by decide +kernel
theorem dX0_hasRingOfZeros_79 : decode cX0_hasRingOfZeros 79 = .ok (.lload_n 2, 1) := by decide +kernel
theorem dX0_hasRingOfZeros_80 : decode cX0_hasRingOfZeros 80 = .ok (.lconst 0, 1) := by decide +kernel
theorem dX0_hasRingOfZeros_81 : decode cX0_hasRingOfZeros 81 = .ok (.lcmp, 1) := by decide +kernel
theorem dX0_hasRingOfZeros_82 : decode cX0_hasRingOfZeros 82 = .ok (.ifCond .eq 7, 3) := by decide +kernel
theorem dX0_hasRingOfZeros_85 : decode cX0_hasRingOfZeros 85 = .ok (.iconst 1, 1) := by decide +kernel
theorem dX0_hasRingOfZeros_86 : decode cX0_hasRingOfZeros 86 = .ok (.goto 4, 3) := by decide +kernel
theorem dX0_hasRingOfZeros_89 : decode cX0_hasRingOfZeros 89 = .ok (.iconst 0, 1) := by decide +kernel
theorem dX0_hasRingOfZeros_90 : decode cX0_hasRingOfZeros 90 = .ok (.ireturn, 1) := by decide +kernel
set_option maxRecDepth 20000 in
theorem ggX0_leadsOnByZeros_X0_symbolsOf : GoodIn wsX0_leadsOnByZeros wsX0_symbolsOf := goodIn_r _ [5, 6, 7, 8, 9, 4, 10, 11, 12, 13, 14, 15, 16, 17, 18, 19, 20, 21, 22, 23, 28, 29, 30] (by decide +kernel) (by decide +kernel)
set_option maxRecDepth 20000 in
theorem gX0_leadsOnByZeros_X0_symbolsOf : GoodIn wsX0_leadsOnByZeros (wsV RX0 43 RX0 yX0_symbolsOf wsX0_symbolsOf) := goodIn_app (goodIn_of _ (by decide +kernel)) ggX0_leadsOnByZeros_X0_symbolsOf
set_option maxRecDepth 20000 in
theorem ggX0_leadsOnByZeros_X0_stateAfter : GoodIn wsX0_leadsOnByZeros wsX0_stateAfter := goodIn_r _ [27, 7, 8, 9, 4, 10, 11, 28, 29, 30] (by decide +kernel) (by decide +kernel)
set_option maxRecDepth 20000 in
theorem gX0_leadsOnByZeros_X0_stateAfter : GoodIn wsX0_leadsOnByZeros (wsV RX0 52 RX0 yX0_stateAfter wsX0_stateAfter) := goodIn_app (goodIn_of _ (by decide +kernel)) ggX0_leadsOnByZeros_X0_stateAfter
theorem dX0_leadsOnByZeros_0 : decode cX0_leadsOnByZeros 0 = .ok (.iconst 0, 1) := by decide +kernel
theorem dX0_leadsOnByZeros_1 : decode cX0_leadsOnByZeros 1 = .ok (.istore 4, 2) := by decide +kernel
theorem dX0_leadsOnByZeros_3 : decode cX0_leadsOnByZeros 3 = .ok (.iload 4, 2) := by decide +kernel
theorem dX0_leadsOnByZeros_5 : decode cX0_leadsOnByZeros 5 = .ok (.iconst 2, 1) := by decide +kernel
theorem dX0_leadsOnByZeros_6 : decode cX0_leadsOnByZeros 6 = .ok (.if_icmp .ge 37, 3) := by decide +kernel
theorem dX0_leadsOnByZeros_9 : decode cX0_leadsOnByZeros 9 = .ok (.aload_n 0, 1) := by decide +kernel
theorem dX0_leadsOnByZeros_10 : decode cX0_leadsOnByZeros 10 = .ok (.iload_n 1, 1) := by decide +kernel
theorem dX0_leadsOnByZeros_11 : decode cX0_leadsOnByZeros 11 = .ok (.iload 4, 2) := by decide +kernel
theorem dX0_leadsOnByZeros_13 : decode cX0_leadsOnByZeros 13 = .ok (.invokevirtual 43, 3) := by decide +kernel
theorem dX0_leadsOnByZeros_16 : decode cX0_leadsOnByZeros 16 = .ok (.ifCond .ne 21, 3) := by decide +kernel
theorem dX0_leadsOnByZeros_19 : decode cX0_leadsOnByZeros 19 = .ok (.lload_n 2, 1) := by decide +kernel
theorem dX0_leadsOnByZeros_20 : decode cX0_leadsOnByZeros 20 = .ok (.aload_n 0, 1) := by decide +kernel
theorem dX0_leadsOnByZeros_21 : decode cX0_leadsOnByZeros 21 = .ok (.iload_n 1, 1) := by decide +kernel
theorem dX0_leadsOnByZeros_22 : decode cX0_leadsOnByZeros 22 = .ok (.iload 4, 2) := by decide +kernel
theorem dX0_leadsOnByZeros_24 : decode cX0_leadsOnByZeros 24 = .ok (.invokevirtual 52, 3) := by decide +kernel
theorem dX0_leadsOnByZeros_27 : decode cX0_leadsOnByZeros 27 = .ok (.lshr, 1) := by decide +kernel
theorem dX0_leadsOnByZeros_28 : decode cX0_leadsOnByZeros 28 = .ok (.lconst 1, 1) := by decide +kernel
theorem dX0_leadsOnByZeros_29 : decode cX0_leadsOnByZeros 29 = .ok (.land, 1) := by decide +kernel
theorem dX0_leadsOnByZeros_30 : decode cX0_leadsOnByZeros 30 = .ok (.lconst 1, 1) := by decide +kernel
theorem dX0_leadsOnByZeros_31 : decode cX0_leadsOnByZeros 31 = .ok (.lcmp, 1) := by decide +kernel
theorem dX0_leadsOnByZeros_32 : decode cX0_leadsOnByZeros 32 = .ok (.ifCond .ne 5, 3) := by decide +kernel
theorem dX0_leadsOnByZeros_35 : decode cX0_leadsOnByZeros 35 = .ok (.iconst 1, 1) := by decide +kernel
theorem dX0_leadsOnByZeros_36 : decode cX0_leadsOnByZeros 36 = .ok (.ireturn, 1) := by decide +kernel
theorem dX0_leadsOnByZeros_37 : decode cX0_leadsOnByZeros 37 = .ok (.iinc 4 1, 3) := by decide +kernel
theorem dX0_leadsOnByZeros_40 : decode cX0_leadsOnByZeros 40 = .ok (.goto (-37), 3) := by decide +kernel
theorem dX0_leadsOnByZeros_43 : decode cX0_leadsOnByZeros 43 = .ok (.iconst 0, 1) := by decide +kernel
theorem dX0_leadsOnByZeros_44 : decode cX0_leadsOnByZeros 44 = .ok (.ireturn, 1) := by decide +kernel
theorem dJ6_bitCount_0f7a4_0 : decode cJ6_bitCount_0f7a4 0 = .ok (.iload_n 0, 1) := by decide +kernel
theorem dJ6_bitCount_0f7a4_1 : decode cJ6_bitCount_0f7a4 1 = .ok (.iload_n 0, 1) := by decide +kernel
theorem dJ6_bitCount_0f7a4_2 : decode cJ6_bitCount_0f7a4 2 = .ok (.iconst 1, 1) := by decide +kernel
theorem dJ6_bitCount_0f7a4_3 : decode cJ6_bitCount_0f7a4 3 = .ok (.iushr, 1) := by decide +kernel
theorem dJ6_bitCount_0f7a4_4 : decode cJ6_bitCount_0f7a4 4 = .ok (.ldc_w 265, 3) := by decide +kernel
theorem dJ6_bitCount_0f7a4_7 : decode cJ6_bitCount_0f7a4 7 = .ok (.iand, 1) := by decide +kernel
theorem dJ6_bitCount_0f7a4_8 : decode cJ6_bitCount_0f7a4 8 = .ok (.isub, 1) := by decide +kernel
theorem dJ6_bitCount_0f7a4_9 : decode cJ6_bitCount_0f7a4 9 = .ok (.istore_n 0, 1) := by decide +kernel
theorem dJ6_bitCount_0f7a4_10 : decode cJ6_bitCount_0f7a4 10 = .ok (.iload_n 0, 1) := by decide +kernel
theorem dJ6_bitCount_0f7a4_11 : decode cJ6_bitCount_0f7a4 11 = .ok (.ldc_w 266, 3) := by decide +kernel
theorem dJ6_bitCount_0f7a4_14 : decode cJ6_bitCount_0f7a4 14 = .ok (.iand, 1) := by decide +kernel
theorem dJ6_bitCount_0f7a4_15 : decode cJ6_bitCount_0f7a4 15 = .ok (.iload_n 0, 1) := by decide +kernel
theorem dJ6_bitCount_0f7a4_16 : decode cJ6_bitCount_0f7a4 16 = .ok (.iconst 2, 1) := by decide +kernel
theorem dJ6_bitCount_0f7a4_17 : decode cJ6_bitCount_0f7a4 17 = .ok (.iushr, 1) := by decide +kernel
theorem dJ6_bitCount_0f7a4_18 : decode cJ6_bitCount_0f7a4 18 = .ok (.ldc_w 266, 3) := by decide +kernel
theorem dJ6_bitCount_0f7a4_21 : decode cJ6_bitCount_0f7a4 21 = .ok (.iand, 1) := by decide +kernel
theorem dJ6_bitCount_0f7a4_22 : decode cJ6_bitCount_0f7a4 22 = .ok (.iadd, 1) := by decide +kernel
theorem dJ6_bitCount_0f7a4_23 : decode cJ6_bitCount_0f7a4 23 = .ok (.istore_n 0, 1) := by decide +kernel
theorem dJ6_bitCount_0f7a4_24 : decode cJ6_bitCount_0f7a4 24 = .ok (.iload_n 0, 1) := by decide +kernel
theorem dJ6_bitCount_0f7a4_25 : decode cJ6_bitCount_0f7a4 25 = .ok (.iload_n 0, 1) := by decide +kernel
theorem dJ6_bitCount_0f7a4_26 : decode cJ6_bitCount_0f7a4 26 = .ok (.iconst 4, 1) := by decide +kernel
theorem dJ6_bitCount_0f7a4_27 : decode cJ6_bitCount_0f7a4 27 = .ok (.iushr, 1) := by decide +kernel
theorem dJ6_bitCount_0f7a4_28 : decode cJ6_bitCount_0f7a4 28 = .ok (.iadd, 1) := by decide +kernel
theorem dJ6_bitCount_0f7a4_29 : decode cJ6_bitCount_0f7a4 29 = .ok (.ldc_w 267, 3) := by decide +kernel
theorem dJ6_bitCount_0f7a4_32 : decode cJ6_bitCount_0f7a4 32 = .ok (.iand, 1) := by decide +kernel
theorem dJ6_bitCount_0f7a4_33 : decode cJ6_bitCount_0f7a4 33 = .ok (.istore_n 0, 1) := by decide +kernel
theorem dJ6_bitCount_0f7a4_34 : decode cJ6_bitCount_0f7a4 34 = .ok (.iload_n 0, 1) := by decide +kernel
theorem dJ6_bitCount_0f7a4_35 : decode cJ6_bitCount_0f7a4 35 = .ok (.iload_n 0, 1) := by decide +kernel
theorem dJ6_bitCount_0f7a4_36 : decode cJ6_bitCount_0f7a4 36 = .ok (.bipush 8, 2) := by decide +kernel
theorem dJ6_bitCount_0f7a4_38 : decode cJ6_bitCount_0f7a4 38 = .ok (.iushr, 1) := by decide +kernel
theorem dJ6_bitCount_0f7a4_39 : decode cJ6_bitCount_0f7a4 39 = .ok (.iadd, 1) := by decide +kernel
theorem dJ6_bitCount_0f7a4_40 : decode cJ6_bitCount_0f7a4 40 = .ok (.istore_n 0, 1) := by decide +kernel
theorem dJ6_bitCount_0f7a4_41 : decode cJ6_bitCount_0f7a4 41 = .ok (.iload_n 0, 1) := by decide +kernel
theorem dJ6_bitCount_0f7a4_42 : decode cJ6_bitCount_0f7a4 42 = .ok (.iload_n 0, 1) := by decide +kernel
theorem dJ6_bitCount_0f7a4_43 : decode cJ6_bitCount_0f7a4 43 = .ok (.bipush 16, 2) := by decide +kernel
theorem dJ6_bitCount_0f7a4_45 : decode cJ6_bitCount_0f7a4 45 = .ok (.iushr, 1) := by decide +kernel
theorem dJ6_bitCount_0f7a4_46 : decode cJ6_bitCount_0f7a4 46 = .ok (.iadd, 1) := by decide +kernel
theorem dJ6_bitCount_0f7a4_47 : decode cJ6_bitCount_0f7a4 47 = .ok (.istore_n 0, 1) := by decide +kernel
theorem dJ6_bitCount_0f7a4_48 : decode cJ6_bitCount_0f7a4 48 = .ok (.iload_n 0, 1) := by decide +kernel
theorem dJ6_bitCount_0f7a4_49 : decode cJ6_bitCount_0f7a4 49 = .ok (.bipush 63, 2) := by decide +kernel
theorem dJ6_bitCount_0f7a4_51 : decode cJ6_bitCount_0f7a4 51 = .ok (.iand, 1) := by decide +kernel
theorem dJ6_bitCount_0f7a4_52 : decode cJ6_bitCount_0f7a4 52 = .ok (.ireturn, 1) := by decide +kernel
theorem dJ13_bitCount_95d88_0 : decode cJ13_bitCount_95d88 0 = .ok (.lload_n 0, 1) := by decide +kernel
theorem dJ13_bitCount_95d88_1 : decode cJ13_bitCount_95d88 1 = .ok (.lload_n 0, 1) := by decide +kernel
theorem dJ13_bitCount_95d88_2 : decode cJ13_bitCount_95d88 2 = .ok (.iconst 1, 1) := by decide +kernel
theorem dJ13_bitCount_95d88_3 : decode cJ13_bitCount_95d88 3 = .ok (.lushr, 1) := by decide +kernel
theorem dJ13_bitCount_95d88_4 : decode cJ13_bitCount_95d88 4 = .ok (.ldc2_w 314, 3) := by decide +kernel
theorem dJ13_bitCount_95d88_7 : decode cJ13_bitCount_95d88 7 = .ok (.land, 1) := by decide +kernel
theorem dJ13_bitCount_95d88_8 : decode cJ13_bitCount_95d88 8 = .ok (.lsub, 1) := by decide +kernel
theorem dJ13_bitCount_95d88_9 : decode cJ13_bitCount_95d88 9 = .ok (.lstore_n 0, 1) := by decide +kernel
theorem dJ13_bitCount_95d88_10 : decode cJ13_bitCount_95d88 10 = .ok (.lload_n 0, 1) := by decide +kernel
theorem dJ13_bitCount_95d88_11 : decode cJ13_bitCount_95d88 11 = .ok (.ldc2_w 316, 3) := by decide +kernel
theorem dJ13_bitCount_95d88_14 : decode cJ13_bitCount_95d88 14 = .ok (.land, 1) := by decide +kernel
theorem dJ13_bitCount_95d88_15 : decode cJ13_bitCount_95d88 15 = .ok (.lload_n 0, 1) := by decide +kernel
theorem dJ13_bitCount_95d88_16 : decode cJ13_bitCount_95d88 16 = .ok (.iconst 2, 1) := by decide +kernel
theorem dJ13_bitCount_95d88_17 : decode cJ13_bitCount_95d88 17 = .ok (.lushr, 1) := by decide +kernel
theorem dJ13_bitCount_95d88_18 : decode cJ13_bitCount_95d88 18 = .ok (.ldc2_w 316, 3) := by decide +kernel
theorem dJ13_bitCount_95d88_21 : decode cJ13_bitCount_95d88 21 = .ok (.land, 1) := by decide +kernel
theorem dJ13_bitCount_95d88_22 : decode cJ13_bitCount_95d88 22 = .ok (.ladd, 1) := by decide +kernel
theorem dJ13_bitCount_95d88_23 : decode cJ13_bitCount_95d88 23 = .ok (.lstore_n 0, 1) := by decide +kernel
theorem dJ13_bitCount_95d88_24 : decode cJ13_bitCount_95d88 24 = .ok (.lload_n 0, 1) := by decide +kernel
theorem dJ13_bitCount_95d88_25 : decode cJ13_bitCount_95d88 25 = .ok (.lload_n 0, 1) := by decide +kernel
theorem dJ13_bitCount_95d88_26 : decode cJ13_bitCount_95d88 26 = .ok (.iconst 4, 1) := by decide +kernel
theorem dJ13_bitCount_95d88_27 : decode cJ13_bitCount_95d88 27 = .ok (.lushr, 1) := by decide +kernel
theorem dJ13_bitCount_95d88_28 : decode cJ13_bitCount_95d88 28 = .ok (.ladd, 1) := by decide +kernel
theorem dJ13_bitCount_95d88_29 : decode cJ13_bitCount_95d88 29 = .ok (.ldc2_w 318, 3) := by decide +kernel
theorem dJ13_bitCount_95d88_32 : decode cJ13_bitCount_95d88 32 = .ok (.land, 1) := by decide +kernel
theorem dJ13_bitCount_95d88_33 : decode cJ13_bitCount_95d88 33 = .ok (.lstore_n 0, 1) := by decide +kernel
theorem dJ13_bitCount_95d88_34 : decode cJ13_bitCount_95d88 34 = .ok (.lload_n 0, 1) := by decide +kernel
theorem dJ13_bitCount_95d88_35 : decode cJ13_bitCount_95d88 35 = .ok (.lload_n 0, 1) := by decide +kernel
theorem dJ13_bitCount_95d88_36 : decode cJ13_bitCount_95d88 36 = .ok (.bipush 8, 2) := by decide +kernel
theorem dJ13_bitCount_95d88_38 : decode cJ13_bitCount_95d88 38 = .ok (.lushr, 1) := by decide +kernel
theorem dJ13_bitCount_95d88_39 : decode cJ13_bitCount_95d88 39 = .ok (.ladd, 1) := by decide +kernel
theorem dJ13_bitCount_95d88_40 : decode cJ13_bitCount_95d88 40 = .ok (.lstore_n 0, 1) := by decide +kernel
theorem dJ13_bitCount_95d88_41 : decode cJ13_bitCount_95d88 41 = .ok (.lload_n 0, 1) := by decide +kernel
theorem dJ13_bitCount_95d88_42 : decode cJ13_bitCount_95d88 42 = .ok (.lload_n 0, 1) := by decide +kernel
theorem dJ13_bitCount_95d88_43 : decode cJ13_bitCount_95d88 43 = .ok (.bipush 16, 2) := by decide +kernel
theorem dJ13_bitCount_95d88_45 : decode cJ13_bitCount_95d88 45 = .ok (.lushr, 1) := by decide +kernel
theorem dJ13_bitCount_95d88_46 : decode cJ13_bitCount_95d88 46 = .ok (.ladd, 1) := by decide +kernel
theorem dJ13_bitCount_95d88_47 : decode cJ13_bitCount_95d88 47 = .ok (.lstore_n 0, 1) := by decide +kernel
theorem dJ13_bitCount_95d88_48 : decode cJ13_bitCount_95d88 48 = .ok (.lload_n 0, 1) := by decide +kernel
theorem dJ13_bitCount_95d88_49 : decode cJ13_bitCount_95d88 49 = .ok (.lload_n 0, 1) := by decide +kernel
theorem dJ13_bitCount_95d88_50 : decode cJ13_bitCount_95d88 50 = .ok (.bipush 32, 2) := by decide +kernel
theorem dJ13_bitCount_95d88_52 : decode cJ13_bitCount_95d88 52 = .ok (.lushr, 1) := by decide +kernel
theorem dJ13_bitCount_95d88_53 : decode cJ13_bitCount_95d88 53 = .ok (.ladd, 1) := by decide +kernel
theorem dJ13_bitCount_95d88_54 : decode cJ13_bitCount_95d88 54 = .ok (.lstore_n 0, 1) := by decide +kernel
theorem dJ13_bitCount_95d88_55 : decode cJ13_bitCount_95d88 55 = .ok (.lload_n 0, 1) := by decide +kernel
theorem dJ13_bitCount_95d88_56 : decode cJ13_bitCount_95d88 56 = .ok (.l2i, 1) := by decide +kernel
theorem dJ13_bitCount_95d88_57 : decode cJ13_bitCount_95d88 57 = .ok (.bipush 127, 2) := by decide +kernel
theorem dJ13_bitCount_95d88_59 : decode cJ13_bitCount_95d88 59 = .ok (.iand, 1) := by decide +kernel
theorem dJ13_bitCount_95d88_60 : decode cJ13_bitCount_95d88 60 = .ok (.ireturn, 1) := by decide +kernel
theorem dJ9_min_7cf53_0 : decode cJ9_min_7cf53 0 = .ok (.iload_n 0, 1) := by decide +kernel
theorem dJ9_min_7cf53_1 : decode cJ9_min_7cf53 1 = .ok (.iload_n 1, 1) := by decide +kernel
theorem dJ9_min_7cf53_2 : decode cJ9_min_7cf53 2 = .ok (.if_icmp .gt 7, 3) := by decide +kernel
theorem dJ9_min_7cf53_5 : decode cJ9_min_7cf53 5 = .ok (.iload_n 0, 1) := by decide +kernel
theorem dJ9_min_7cf53_6 : decode cJ9_min_7cf53 6 = .ok (.goto 4, 3) := by decide +kernel
theorem dJ9_min_7cf53_9 : decode cJ9_min_7cf53 9 = .ok (.iload_n 1, 1) := by decide +kernel
theorem dJ9_min_7cf53_10 : decode cJ9_min_7cf53 10 = .ok (.ireturn, 1) := by decide +kernel
theorem dJ7_fill_53178_0 : decode cJ7_fill_53178 0 = .ok (.iconst 0, 1) := by decide +kernel
theorem dJ7_fill_53178_1 : decode cJ7_fill_53178 1 = .ok (.istore_n 2, 1) := by decide +kernel
theorem dJ7_fill_53178_2 : decode cJ7_fill_53178 2 = .ok (.aload_n 0, 1) := by decide +kernel
theorem dJ7_fill_53178_3 : decode cJ7_fill_53178 3 = .ok (.arraylength, 1) := by decide +kernel
theorem dJ7_fill_53178_4 : decode cJ7_fill_53178 4 = .ok (.istore_n 3, 1) := by decide +kernel
theorem dJ7_fill_53178_5 : decode cJ7_fill_53178 5 = .ok (.iload_n 2, 1) := by decide +kernel
theorem dJ7_fill_53178_6 : decode cJ7_fill_53178 6 = .ok (.iload_n 3, 1) := by decide +kernel
theorem dJ7_fill_53178_7 : decode cJ7_fill_53178 7 = .ok (.if_icmp .ge 13, 3) := by decide +kernel
theorem dJ7_fill_53178_10 : decode cJ7_fill_53178 10 = .ok (.aload_n 0, 1) := by decide +kernel
theorem dJ7_fill_53178_11 : decode cJ7_fill_53178 11 = .ok (.iload_n 2, 1) := by decide +kernel
theorem dJ7_fill_53178_12 : decode cJ7_fill_53178 12 = .ok (.iload_n 1, 1) := by decide +kernel
theorem dJ7_fill_53178_13 : decode cJ7_fill_53178 13 = .ok (.iastore, 1) := by decide +kernel
theorem dJ7_fill_53178_14 : decode cJ7_fill_53178 14 = .ok (.iinc 2 1, 3) := by decide +kernel
theorem dJ7_fill_53178_17 : decode cJ7_fill_53178 17 = .ok (.goto (-12), 3) := by decide +kernel
theorem dJ7_fill_53178_20 : decode cJ7_fill_53178 20 = .ok (.return_, 1) := by decide +kernel
