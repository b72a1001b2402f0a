theorem dX0_load_17 : decode cX0_load 17 = .ok (.aload_n 0, 1) := by decide +kernel
theorem dX0_load_18 : decode cX0_load 18 = .ok (.iload_n 1, 1) := by decide +kernel
theorem dX0_load_19 : decode cX0_load 19 = .ok (.invokevirtual 99, 3) := by decide +kernel
theorem dX0_load_22 : decode cX0_load 22 = .ok (.iload_n 1, 1) := by decide +kernel
theorem dX0_load_23 : decode cX0_load 23 = .ok (.invokestatic 102, 3) := by decide +kernel
theorem dX0_load_26 : decode cX0_load 26 = .ok (.iadd, 1) := by decide +kernel
theorem dX0_load_27 : decode cX0_load 27 = .ok (.istore_n 3, 1) := by decide +kernel
theorem dX0_load_28 : decode cX0_load 28 = .ok (.iload_n 3, 1) := by decide +kernel
theorem dX0_load_29 : decode cX0_load 29 = .ok (.iload_n 2, 1) := by decide +kernel
theorem dX0_load_30 : decode cX0_load 30 = .ok (.invokestatic 124, 3) := by decide +kernel
theorem dX0_load_33 : decode cX0_load 33 = .ok (.invokestatic 37, 3) := by decide +kernel
theorem dX0_load_36 : decode cX0_load 36 = .ok (.ifCond .ne 5, 3) := by decide +kernel
theorem dX0_load_39 : decode cX0_load 39 = .ok (.iconst 4, 1) := by decide +kernel
theorem dX0_load_40 : decode cX0_load 40 = .ok (.ireturn, 1) := by decide +kernel
theorem dX0_load_41 : decode cX0_load 41 = .ok (.aload_n 0, 1) := by decide +kernel
theorem dX0_load_42 : decode cX0_load 42 = .ok (.iload_n 1, 1) := by decide +kernel
theorem dX0_load_43 : decode cX0_load 43 = .ok (.iload_n 2, 1) := by decide +kernel
theorem dX0_load_44 : decode cX0_load 44 = .ok (.aload_n 0, 1) := by decide +kernel
theorem dX0_load_45 : decode cX0_load 45 = .ok (.iload_n 3, 1) := by decide +kernel
theorem dX0_load_46 : decode cX0_load 46 = .ok (.invokevirtual 45, 3) := by decide +kernel
theorem dX0_load_49 : decode cX0_load 49 = .ok (.invokestatic 127, 3) := by decide +kernel
theorem dX0_load_52 : decode cX0_load 52 = .ok (.invokevirtual 71, 3) := by decide +kernel
theorem dX0_load_55 : decode cX0_load 55 = .ok (.ireturn, 1) := by decide +kernel
set_option maxRecDepth 20000 in
theorem ggX0_store_X0_fieldT : GoodIn wsX0_store wsX0_fieldT := goodIn_r _ [5] (by decide +kernel) (by decide +kernel)
set_option maxRecDepth 20000 in
theorem gX0_store_X0_fieldT : GoodIn wsX0_store (va_wsS RX0 96 yX0_fieldT wsX0_fieldT) := goodIn_app (goodIn_of _ (by decide +kernel)) ggX0_store_X0_fieldT
set_option maxRecDepth 20000 in
theorem ggX0_store_X0_valueX : GoodIn wsX0_store wsX0_valueX := goodIn_r _ [9, 10, 11, 12, 4, 13, 48, 49, 50, 51, 52, 53] (by decide +kernel) (by decide +kernel)
set_option maxRecDepth 20000 in
theorem gX0_store_X0_valueX : GoodIn wsX0_store (wsV RX0 99 RX0 yX0_valueX wsX0_valueX) := goodIn_app (goodIn_of _ (by decide +kernel)) ggX0_store_X0_valueX
set_option maxRecDepth 20000 in
theorem ggX0_store_X0_storeDistance : GoodIn wsX0_store wsX0_storeDistance := goodIn_r _ [16, 17, 18, 4, 19] (by decide +kernel) (by decide +kernel)
set_option maxRecDepth 20000 in
theorem gX0_store_X0_storeDistance : GoodIn wsX0_store (va_wsS RX0 130 yX0_storeDistance wsX0_storeDistance) := goodIn_app (goodIn_of _ (by decide +kernel)) ggX0_store_X0_storeDistance
set_option maxRecDepth 20000 in
theorem ggX0_store_X0_widthOf : GoodIn wsX0_store wsX0_widthOf := goodIn_r _ [22] (by decide +kernel) (by decide +kernel)
set_option maxRecDepth 20000 in
theorem gX0_store_X0_widthOf : GoodIn wsX0_store (va_wsS RX0 124 yX0_widthOf wsX0_widthOf) := goodIn_app (goodIn_of _ (by decide +kernel)) ggX0_store_X0_widthOf
set_option maxRecDepth 20000 in
theorem ggX0_store_X0_isAddress : GoodIn wsX0_store wsX0_isAddress := goodIn_r _ [25, 26, 27, 4, 28] (by decide +kernel) (by decide +kernel)
set_option maxRecDepth 20000 in
theorem gX0_store_X0_isAddress : GoodIn wsX0_store (va_wsS RX0 37 yX0_isAddress wsX0_isAddress) := goodIn_app (goodIn_of _ (by decide +kernel)) ggX0_store_X0_isAddress
set_option maxRecDepth 20000 in
theorem ggX0_store_X0_storedBits : GoodIn wsX0_store wsX0_storedBits := goodIn_r _ [31, 32] (by decide +kernel) (by decide +kernel)
set_option maxRecDepth 20000 in
theorem gX0_store_X0_storedBits : GoodIn wsX0_store (va_wsS RX0 133 yX0_storedBits wsX0_storedBits) := goodIn_app (goodIn_of _ (by decide +kernel)) ggX0_store_X0_storedBits
set_option maxRecDepth 20000 in
theorem ggX0_store_X0_valueY : GoodIn wsX0_store wsX0_valueY := goodIn_r _ [36, 10, 37, 38, 4, 39, 48, 49, 50, 51, 52, 53] (by decide +kernel) (by decide +kernel)
set_option maxRecDepth 20000 in
theorem gX0_store_X0_valueY : GoodIn wsX0_store (wsV RX0 118 RX0 yX0_valueY wsX0_valueY) := goodIn_app (goodIn_of _ (by decide +kernel)) ggX0_store_X0_valueY
set_option maxRecDepth 20000 in
theorem ggX0_store_X0_replaceBits : GoodIn wsX0_store wsX0_replaceBits := goodIn_r _ [43, 44, 45, 46, 4, 47, 48, 49, 50, 51, 52, 53] (by decide +kernel) (by decide +kernel)
set_option maxRecDepth 20000 in
theorem gX0_store_X0_replaceBits : GoodIn wsX0_store (wsV RX0 41 RX0 yX0_replaceBits wsX0_replaceBits) := goodIn_app (goodIn_of _ (by decide +kernel)) ggX0_store_X0_replaceBits
theorem dX0_store_0 : decode cX0_store 0 = .ok (.iload_n 1, 1) := by decide +kernel
theorem dX0_store_1 : decode cX0_store 1 = .ok (.invokestatic 96, 3) := by decide +kernel
theorem dX0_store_4 : decode cX0_store 4 = .ok (.istore_n 2, 1) := by decide +kernel
theorem dX0_store_5 : decode cX0_store 5 = .ok (.iload_n 2, 1) := by decide +kernel
theorem dX0_store_6 : decode cX0_store 6 = .ok (.iconst 2, 1) := by decide +kernel
theorem dX0_store_7 : decode cX0_store 7 = .ok (.if_icmp .le 5, 3) := by decide +kernel
theorem dX0_store_10 : decode cX0_store 10 = .ok (.iconst 3, 1) := by decide +kernel
theorem dX0_store_11 : decode cX0_store 11 = .ok (.ireturn, 1) := by decide +kernel
theorem dX0_store_12 : decode cX0_store 12 = .ok (.aload_n 0, 1) := by decide +kernel
theorem dX0_store_13 : decode cX0_store 13 = .ok (.iload_n 1, 1) := by decide +kernel
theorem dX0_store_14 : decode cX0_store 14 = .ok (.invokevirtual 99, 3) := by decide +kernel
theorem dX0_store_17 : decode cX0_store 17 = .ok (.iload_n 1, 1) := by decide +kernel
theorem dX0_store_18 : decode cX0_store 18 = .ok (.invokestatic 130, 3) := by decide +kernel
theorem dX0_store_21 : decode cX0_store 21 = .ok (.iadd, 1) := by decide +kernel
theorem dX0_store_22 : decode cX0_store 22 = .ok (.istore_n 3, 1) := by decide +kernel
theorem dX0_store_23 : decode cX0_store 23 = .ok (.iload_n 3, 1) := by decide +kernel
theorem dX0_store_24 : decode cX0_store 24 = .ok (.iload_n 2, 1) := by decide +kernel
theorem dX0_store_25 : decode cX0_store 25 = .ok (.invokestatic 124, 3) := by decide +kernel
theorem dX0_store_28 : decode cX0_store 28 = .ok (.invokestatic 37, 3) := by decide +kernel
theorem dX0_store_31 : decode cX0_store 31 = .ok (.ifCond .ne 5, 3) := by decide +kernel
theorem dX0_store_34 : decode cX0_store 34 = .ok (.iconst 4, 1) := by decide +kernel
theorem dX0_store_35 : decode cX0_store 35 = .ok (.ireturn, 1) := by decide +kernel
theorem dX0_store_36 : decode cX0_store 36 = .ok (.aload_n 0, 1) := by decide +kernel
theorem dX0_store_37 : decode cX0_store 37 = .ok (.iload_n 3, 1) := by decide +kernel
theorem dX0_store_38 : decode cX0_store 38 = .ok (.iload_n 2, 1) := by decide +kernel
theorem dX0_store_39 : decode cX0_store 39 = .ok (.invokestatic 133, 3) := by decide +kernel
theorem dX0_store_42 : decode cX0_store 42 = .ok (.aload_n 0, 1) := by decide +kernel
theorem dX0_store_43 : decode cX0_store 43 = .ok (.iload_n 1, 1) := by decide +kernel
theorem dX0_store_44 : decode cX0_store 44 = .ok (.invokevirtual 118, 3) := by decide +kernel
theorem dX0_store_47 : decode cX0_store 47 = .ok (.invokevirtual 41, 3) := by decide +kernel
theorem dX0_store_50 : decode cX0_store 50 = .ok (.aload_n 0, 1) := by decide +kernel
theorem dX0_store_51 : decode cX0_store 51 = .ok (.dup, 1) := by decide +kernel
theorem dX0_store_52 : decode cX0_store 52 = .ok (.getfield 23, 3) := by decide +kernel
theorem dX0_store_55 : decode cX0_store 55 = .ok (.iconst 4, 1) := by decide +kernel
theorem dX0_store_56 : decode cX0_store 56 = .ok (.iadd, 1) := by decide +kernel
theorem dX0_store_57 : decode cX0_store 57 = .ok (.putfield 23, 3) := by decide +kernel
theorem dX0_store_60 : decode cX0_store 60 = .ok (.iconst 0, 1) := by decide +kernel
theorem dX0_store_61 : decode cX0_store 61 = .ok (.ireturn, 1) := by decide +kernel
set_option maxRecDepth 20000 in
theorem ggX0_branch_X0_fieldT : GoodIn wsX0_branch wsX0_fieldT := goodIn_r _ [5] (by decide +kernel) (by decide +kernel)
set_option maxRecDepth 20000 in
theorem gX0_branch_X0_fieldT : GoodIn wsX0_branch (va_wsS RX0 96 yX0_fieldT wsX0_fieldT) := goodIn_app (goodIn_of _ (by decide +kernel)) ggX0_branch_X0_fieldT
set_option maxRecDepth 20000 in
theorem ggX0_branch_X0_valueX : GoodIn wsX0_branch wsX0_valueX := goodIn_r _ [9, 10, 11, 12, 4, 13, 31, 32, 33, 34, 35, 36] (by decide +kernel) (by decide +kernel)
set_option maxRecDepth 20000 in
theorem gX0_branch_X0_valueX : GoodIn wsX0_branch (wsV RX0 99 RX0 yX0_valueX wsX0_valueX) := goodIn_app (goodIn_of _ (by decide +kernel)) ggX0_branch_X0_valueX
set_option maxRecDepth 20000 in
theorem ggX0_branch_X0_valueY : GoodIn wsX0_branch wsX0_valueY := goodIn_r _ [17, 10, 18, 19, 4, 20, 31, 32, 33, 34, 35, 36] (by decide +kernel) (by decide +kernel)
set_option maxRecDepth 20000 in
theorem gX0_branch_X0_valueY : GoodIn wsX0_branch (wsV RX0 118 RX0 yX0_valueY wsX0_valueY) := goodIn_app (goodIn_of _ (by decide +kernel)) ggX0_branch_X0_valueY
set_option maxRecDepth 20000 in
theorem ggX0_branch_X0_holds : GoodIn wsX0_branch wsX0_holds := goodIn_r _ [23, 24, 25, 4, 26, 27] (by decide +kernel) (by decide +kernel)
set_option maxRecDepth 20000 in
theorem gX0_branch_X0_holds : GoodIn wsX0_branch (va_wsS RX0 136 yX0_holds wsX0_holds) := goodIn_app (goodIn_of _ (by decide +kernel)) ggX0_branch_X0_holds
set_option maxRecDepth 20000 in
theorem ggX0_branch_X0_branchDistance : GoodIn wsX0_branch wsX0_branchDistance := goodIn_r _ [30] (by decide +kernel) (by decide +kernel)
set_option maxRecDepth 20000 in
theorem gX0_branch_X0_branchDistance : GoodIn wsX0_branch (va_wsS RX0 140 yX0_branchDistance wsX0_branchDistance) := goodIn_app (goodIn_of _ (by decide +kernel)) ggX0_branch_X0_branchDistance
theorem dX0_branch_0 : decode cX0_branch 0 = .ok (.iload_n 1, 1) := by decide +kernel
theorem dX0_branch_1 : decode cX0_branch 1 = .ok (.invokestatic 96, 3) := by decide +kernel
theorem dX0_branch_4 : decode cX0_branch 4 = .ok (.istore_n 2, 1) := by decide +kernel
theorem dX0_branch_5 : decode cX0_branch 5 = .ok (.iload_n 2, 1) := by decide +kernel
theorem dX0_branch_6 : decode cX0_branch 6 = .ok (.iconst 2, 1) := by decide +kernel
theorem dX0_branch_7 : decode cX0_branch 7 = .ok (.if_icmp .eq 8, 3) := by decide +kernel
theorem dX0_branch_10 : decode cX0_branch 10 = .ok (.iload_n 2, 1) := by decide +kernel
theorem dX0_branch_11 : decode cX0_branch 11 = .ok (.iconst 3, 1) := by decide +kernel
theorem dX0_branch_12 : decode cX0_branch 12 = .ok (.if_icmp .ne 5, 3) := by decide +kernel
theorem dX0_branch_15 : decode cX0_branch 15 = .ok (.iconst 3, 1) := by decide +kernel
theorem dX0_branch_16 : decode cX0_branch 16 = .ok (.ireturn, 1) := by decide +kernel
theorem dX0_branch_17 : decode cX0_branch 17 = .ok (.aload_n 0, 1) := by decide +kernel
theorem dX0_branch_18 : decode cX0_branch 18 = .ok (.dup, 1) := by decide +kernel
theorem dX0_branch_19 : decode cX0_branch 19 = .ok (.getfield 23, 3) := by decide +kernel
theorem dX0_branch_22 : decode cX0_branch 22 = .ok (.iload_n 2, 1) := by decide +kernel
theorem dX0_branch_23 : decode cX0_branch 23 = .ok (.aload_n 0, 1) := by decide +kernel
theorem dX0_branch_24 : decode cX0_branch 24 = .ok (.iload_n 1, 1) := by decide +kernel
theorem dX0_branch_25 : decode cX0_branch 25 = .ok (.invokevirtual 99, 3) := by decide +kernel
theorem dX0_branch_28 : decode cX0_branch 28 = .ok (.aload_n 0, 1) := by decide +kernel
theorem dX0_branch_29 : decode cX0_branch 29 = .ok (.iload_n 1, 1) := by decide +kernel
theorem dX0_branch_30 : decode cX0_branch 30 = .ok (.invokevirtual 118, 3) := by decide +kernel
theorem dX0_branch_33 : decode cX0_branch 33 = .ok (.invokestatic 136, 3) := by decide +kernel
theorem dX0_branch_36 : decode cX0_branch 36 = .ok (.ifCond .eq 10, 3) := by decide +kernel
theorem dX0_branch_39 : decode cX0_branch 39 = .ok (.iload_n 1, 1) := by decide +kernel
theorem dX0_branch_40 : decode cX0_branch 40 = .ok (.invokestatic 140, 3) := by decide +kernel
theorem dX0_branch_43 : decode cX0_branch 43 = .ok (.goto 4, 3) := by decide +kernel
theorem dX0_branch_46 : decode cX0_branch 46 = .ok (.iconst 4, 1) := by decide +kernel
theorem dX0_branch_47 : decode cX0_branch 47 = .ok (.iadd, 1) := by decide +kernel
theorem dX0_branch_48 : decode cX0_branch 48 = .ok (.putfield 23, 3) := by decide +kernel
theorem dX0_branch_51 : decode cX0_branch 51 = .ok (.iconst 0, 1) := by decide +kernel
theorem dX0_branch_52 : decode cX0_branch 52 = .ok (.ireturn, 1) := by decide +kernel
set_option maxRecDepth 20000 in
theorem ggX0_jump_X0_fieldD : GoodIn wsX0_jump wsX0_fieldD := goodIn_r _ [5] (by decide +kernel) (by decide +kernel)
set_option maxRecDepth 20000 in
theorem gX0_jump_X0_fieldD : GoodIn wsX0_jump (va_wsS RX0 143 yX0_fieldD wsX0_fieldD) := goodIn_app (goodIn_of _ (by decide +kernel)) ggX0_jump_X0_fieldD
set_option maxRecDepth 20000 in
theorem ggX0_jump_X0_setRegister : GoodIn wsX0_jump wsX0_setRegister := goodIn_r _ [9, 10, 11, 12, 13, 14, 15, 16] (by decide +kernel) (by decide +kernel)
set_option maxRecDepth 20000 in
theorem gX0_jump_X0_setRegister : GoodIn wsX0_jump (wsV RX0 33 RX0 yX0_setRegister wsX0_setRegister) := goodIn_app (goodIn_of _ (by decide +kernel)) ggX0_jump_X0_setRegister
theorem dX0_jump_0 : decode cX0_jump 0 = .ok (.aload_n 0, 1) := by decide +kernel
theorem dX0_jump_1 : decode cX0_jump 1 = .ok (.iload_n 1, 1) := by decide +kernel
theorem dX0_jump_2 : decode cX0_jump 2 = .ok (.invokestatic 143, 3) := by decide +kernel
theorem dX0_jump_5 : decode cX0_jump 5 = .ok (.aload_n 0, 1) := by decide +kernel
theorem dX0_jump_6 : decode cX0_jump 6 = .ok (.getfield 23, 3) := by decide +kernel
theorem dX0_jump_9 : decode cX0_jump 9 = .ok (.iconst 4, 1) := by decide +kernel
theorem dX0_jump_10 : decode cX0_jump 10 = .ok (.iadd, 1) := by decide +kernel
theorem dX0_jump_11 : decode cX0_jump 11 = .ok (.invokevirtual 33, 3) := by decide +kernel
theorem dX0_jump_14 : decode cX0_jump 14 = .ok (.aload_n 0, 1) := by decide +kernel
theorem dX0_jump_15 : decode cX0_jump 15 = .ok (.iload_n 2, 1) := by decide +kernel
theorem dX0_jump_16 : decode cX0_jump 16 = .ok (.putfield 23, 3) := by decide +kernel
theorem dX0_jump_19 : decode cX0_jump 19 = .ok (.iconst 0, 1) := by decide +kernel
theorem dX0_jump_20 : decode cX0_jump 20 = .ok (.ireturn, 1) := by decide +kernel
set_option maxRecDepth 20000 in
theorem ggX0_jumpToRegister_X0_fieldT : GoodIn wsX0_jumpToRegister wsX0_fieldT := goodIn_r _ [4] (by decide +kernel) (by decide +kernel)
set_option maxRecDepth 20000 in
theorem gX0_jumpToRegister_X0_fieldT : GoodIn wsX0_jumpToRegister (va_wsS RX0 96 yX0_fieldT wsX0_fieldT) := goodIn_app (goodIn_of _ (by decide +kernel)) ggX0_jumpToRegister_X0_fieldT
set_option maxRecDepth 20000 in
theorem ggX0_jumpToRegister_X0_valueX : GoodIn wsX0_jumpToRegister wsX0_valueX := goodIn_r _ [8, 9, 10, 11, 3, 12, 28, 29, 30, 31, 32, 33] (by decide +kernel) (by decide +kernel)
set_option maxRecDepth 20000 in
theorem gX0_jumpToRegister_X0_valueX : GoodIn wsX0_jumpToRegister (wsV RX0 99 RX0 yX0_valueX wsX0_valueX) := goodIn_app (goodIn_of _ (by decide +kernel)) ggX0_jumpToRegister_X0_valueX
set_option maxRecDepth 20000 in
theorem ggX0_jumpToRegister_X0_numberI : GoodIn wsX0_jumpToRegister wsX0_numberI := goodIn_r _ [15] (by decide +kernel) (by decide +kernel)
set_option maxRecDepth 20000 in
theorem gX0_jumpToRegister_X0_numberI : GoodIn wsX0_jumpToRegister (va_wsS RX0 102 yX0_numberI wsX0_numberI) := goodIn_app (goodIn_of _ (by decide +kernel)) ggX0_jumpToRegister_X0_numberI
set_option maxRecDepth 20000 in
theorem ggX0_jumpToRegister_X0_jump : GoodIn wsX0_jumpToRegister wsX0_jump := goodIn_r _ [19, 20, 21, 22, 3, 23, 24, 25, 26, 27, 9, 28, 29, 30, 31, 32, 33] (by decide +kernel) (by decide +kernel)
set_option maxRecDepth 20000 in
theorem gX0_jumpToRegister_X0_jump : GoodIn wsX0_jumpToRegister (wsV RX0 87 RX0 yX0_jump wsX0_jump) := goodIn_app (goodIn_of _ (by decide +kernel)) ggX0_jumpToRegister_X0_jump
theorem dX0_jumpToRegister_0 : decode cX0_jumpToRegister 0 = .ok (.iload_n 1, 1) := by decide +kernel
theorem dX0_jumpToRegister_1 : decode cX0_jumpToRegister 1 = .ok (.invokestatic 96, 3) := by decide +kernel
theorem dX0_jumpToRegister_4 : decode cX0_jumpToRegister 4 = .ok (.ifCond .eq 5, 3) := by decide +kernel
theorem dX0_jumpToRegister_7 : decode cX0_jumpToRegister 7 = .ok (.iconst 3, 1) := by decide +kernel
theorem dX0_jumpToRegister_8 : decode cX0_jumpToRegister 8 = .ok (.ireturn, 1) := by decide +kernel
theorem dX0_jumpToRegister_9 : decode cX0_jumpToRegister 9 = .ok (.aload_n 0, 1) := by decide +kernel
theorem dX0_jumpToRegister_10 : decode cX0_jumpToRegister 10 = .ok (.iload_n 1, 1) := by decide +kernel
theorem dX0_jumpToRegister_11 : decode cX0_jumpToRegister 11 = .ok (.aload_n 0, 1) := by decide +kernel
theorem dX0_jumpToRegister_12 : decode cX0_jumpToRegister 12 = .ok (.iload_n 1, 1) := by decide +kernel
theorem dX0_jumpToRegister_13 : decode cX0_jumpToRegister 13 = .ok (.invokevirtual 99, 3) := by decide +kernel
theorem dX0_jumpToRegister_16 : decode cX0_jumpToRegister 16 = .ok (.iload_n 1, 1) := by decide +kernel
theorem dX0_jumpToRegister_17 : decode cX0_jumpToRegister 17 = .ok (.invokestatic 102, 3) := by decide +kernel
theorem dX0_jumpToRegister_20 : decode cX0_jumpToRegister 20 = .ok (.iadd, 1) := by decide +kernel
theorem dX0_jumpToRegister_21 : decode cX0_jumpToRegister 21 = .ok (.bipush (-2), 2) := by decide +kernel
theorem dX0_jumpToRegister_23 : decode cX0_jumpToRegister 23 = .ok (.iand, 1) := by decide +kernel
theorem dX0_jumpToRegister_24 : decode cX0_jumpToRegister 24 = .ok (.invokevirtual 87, 3) := by decide +kernel
theorem dX0_jumpToRegister_27 : decode cX0_jumpToRegister 27 = .ok (.ireturn, 1) := by decide +kernel
theorem dX0_ask_0 : decode cX0_ask 0 = .ok (.iload_n 1, 1) := by decide +kernel
theorem dX0_ask_1 : decode cX0_ask 1 = .ok (.bipush 115, 2) := by decide +kernel
theorem dX0_ask_3 : decode cX0_ask 3 = .ok (.if_icmp .eq 5, 3) := by decide +kernel
theorem dX0_ask_6 : decode cX0_ask 6 = .ok (.iconst 3, 1) := by decide +kernel
theorem dX0_ask_7 : decode cX0_ask 7 = .ok (.ireturn, 1) := by decide +kernel
theorem dX0_ask_8 : decode cX0_ask 8 = .ok (.aload_n 0, 1) := by decide +kernel
theorem dX0_ask_9 : decode cX0_ask 9 = .ok (.dup, 1) := by decide +kernel
theorem dX0_ask_10 : decode cX0_ask 10 = .ok (.getfield 23, 3) := by decide +kernel
theorem dX0_ask_13 : decode cX0_ask 13 = .ok (.iconst 4, 1) := by decide +kernel
theorem dX0_ask_14 : decode cX0_ask 14 = .ok (.iadd, 1) := by decide +kernel
theorem dX0_ask_15 : decode cX0_ask 15 = .ok (.putfield 23, 3) := by decide +kernel
theorem dX0_ask_18 : decode cX0_ask 18 = .ok (.iconst 1, 1) := by decide +kernel
theorem dX0_ask_19 : decode cX0_ask 19 = .ok (.ireturn, 1) := by decide +kernel
set_option maxRecDepth 20000 in
theorem ggX0_tell_X0_fieldD : GoodIn wsX0_tell wsX0_fieldD := goodIn_r _ [5] (by decide +kernel) (by decide +kernel)
set_option maxRecDepth 20000 in
theorem gX0_tell_X0_fieldD : GoodIn wsX0_tell (va_wsS RX0 143 yX0_fieldD wsX0_fieldD) := goodIn_app (goodIn_of _ (by decide +kernel)) ggX0_tell_X0_fieldD
set_option maxRecDepth 20000 in
theorem ggX0_tell_X0_setRegister : GoodIn wsX0_tell wsX0_setRegister := goodIn_r _ [9, 10, 11, 12, 13, 14, 15, 16] (by decide +kernel) (by decide +kernel)
set_option maxRecDepth 20000 in
theorem gX0_tell_X0_setRegister : GoodIn wsX0_tell (wsV RX0 33 RX0 yX0_setRegister wsX0_setRegister) := goodIn_app (goodIn_of _ (by decide +kernel)) ggX0_tell_X0_setRegister
theorem dX0_tell_0 : decode cX0_tell 0 = .ok (.aload_n 0, 1) := by decide +kernel
theorem dX0_tell_1 : decode cX0_tell 1 = .ok (.iload_n 1, 1) := by decide +kernel
theorem dX0_tell_2 : decode cX0_tell 2 = .ok (.invokestatic 143, 3) := by decide +kernel
theorem dX0_tell_5 : decode cX0_tell 5 = .ok (.iload_n 2, 1) := by decide +kernel
theorem dX0_tell_6 : decode cX0_tell 6 = .ok (.invokevirtual 33, 3) := by decide +kernel
theorem dX0_tell_9 : decode cX0_tell 9 = .ok (.aload_n 0, 1) := by decide +kernel
theorem dX0_tell_10 : decode cX0_tell 10 = .ok (.dup, 1) := by decide +kernel
theorem dX0_tell_11 : decode cX0_tell 11 = .ok (.getfield 23, 3) := by decide +kernel
theorem dX0_tell_14 : decode cX0_tell 14 = .ok (.iconst 4, 1) := by decide +kernel
theorem dX0_tell_15 : decode cX0_tell 15 = .ok (.iadd, 1) := by decide +kernel
theorem dX0_tell_16 : decode cX0_tell 16 = .ok (.putfield 23, 3) := by decide +kernel
theorem dX0_tell_19 : decode cX0_tell 19 = .ok (.iconst 0, 1) := by decide +kernel
theorem dX0_tell_20 : decode cX0_tell 20 = .ok (.ireturn, 1) := by decide +kernel
set_option maxRecDepth 20000 in
theorem ggX0_plain_X0_unsigned : GoodIn wsX0_plain wsX0_unsigned := goodIn_r _ [4, 5] (by decide +kernel) (by decide +kernel)
set_option maxRecDepth 20000 in
theorem gX0_plain_X0_unsigned : GoodIn wsX0_plain (va_wsS RX0 146 yX0_unsigned wsX0_unsigned) := goodIn_app (goodIn_of _ (by decide +kernel)) ggX0_plain_X0_unsigned
theorem dX0_plain_0 : decode cX0_plain 0 = .ok (.iload_n 0, 1) := by decide +kernel
theorem dX0_plain_1 : decode cX0_plain 1 = .ok (.tableswitch 98 0 6 #[43, 47, 54, 65, 83, 87, 94], 43) := by decide +kernel
theorem dX0_plain_44 : decode cX0_plain 44 = .ok (.iload_n 1, 1) := by decide +kernel
theorem dX0_plain_45 : decode cX0_plain 45 = .ok (.iload_n 2, 1) := by decide +kernel
theorem dX0_plain_46 : decode cX0_plain 46 = .ok (.iadd, 1) := by decide +kernel
theorem dX0_plain_47 : decode cX0_plain 47 = .ok (.ireturn, 1) := by decide +kernel
theorem dX0_plain_48 : decode cX0_plain 48 = .ok (.iload_n 1, 1) := by decide +kernel
theorem dX0_plain_49 : decode cX0_plain 49 = .ok (.iload_n 2, 1) := by decide +kernel
theorem dX0_plain_50 : decode cX0_plain 50 = .ok (.bipush 31, 2) := by decide +kernel
theorem dX0_plain_52 : decode cX0_plain 52 = .ok (.iand, 1) := by decide +kernel
theorem dX0_plain_53 : decode cX0_plain 53 = .ok (.ishl, 1) := by decide +kernel
theorem dX0_plain_54 : decode cX0_plain 54 = .ok (.ireturn, 1) := by decide +kernel
theorem dX0_plain_55 : decode cX0_plain 55 = .ok (.iload_n 1, 1) := by decide +kernel
theorem dX0_plain_56 : decode cX0_plain 56 = .ok (.iload_n 2, 1) := by decide +kernel
theorem dX0_plain_57 : decode cX0_plain 57 = .ok (.if_icmp .ge 7, 3) := by decide +kernel
theorem dX0_plain_60 : decode cX0_plain 60 = .ok (.iconst 1, 1) := by decide +kernel
theorem dX0_plain_61 : decode cX0_plain 61 = .ok (.goto 4, 3) := by decide +kernel
theorem dX0_plain_64 : decode cX0_plain 64 = .ok (.iconst 0, 1) := by decide +kernel
theorem dX0_plain_65 : decode cX0_plain 65 = .ok (.ireturn, 1) := by decide +kernel
theorem dX0_plain_66 : decode cX0_plain 66 = .ok (.iload_n 1, 1) := by decide +kernel
theorem dX0_plain_67 : decode cX0_plain 67 = .ok (.invokestatic 146, 3) := by decide +kernel
theorem dX0_plain_70 : decode cX0_plain 70 = .ok (.iload_n 2, 1) := by decide +kernel
theorem dX0_plain_71 : decode cX0_plain 71 = .ok (.invokestatic 146, 3) := by decide +kernel
theorem dX0_plain_74 : decode cX0_plain 74 = .ok (.lcmp, 1) := by decide +kernel
theorem dX0_plain_75 : decode cX0_plain 75 = .ok (.ifCond .ge 7, 3) := by decide +kernel
theorem dX0_plain_78 : decode cX0_plain 78 = .ok (.iconst 1, 1) := by decide +kernel
theorem dX0_plain_79 : decode cX0_plain 79 = .ok (.goto 4, 3) := by decide +kernel
theorem dX0_plain_82 : decode cX0_plain 82 = .ok (.iconst 0, 1) := by decide +kernel
theorem dX0_plain_83 : decode cX0_plain 83 = .ok (.ireturn, 1) := by decide +kernel
theorem dX0_plain_84 : decode cX0_plain 84 = .ok (.iload_n 1, 1) := by decide +kernel
theorem dX0_plain_85 : decode cX0_plain 85 = .ok (.iload_n 2, 1) := by decide +kernel
theorem dX0_plain_86 : decode cX0_plain 86 = .ok (.ixor, 1) := by decide +kernel
theorem dX0_plain_87 : decode cX0_plain 87 = .ok (.ireturn, 1) := by decide +kernel
theorem dX0_plain_88 : decode cX0_plain 88 = .ok (.iload_n 1, 1) := by decide +kernel
theorem dX0_plain_89 : decode cX0_plain 89 = .ok (.iload_n 2, 1) := by decide +kernel
theorem dX0_plain_90 : decode cX0_plain 90 = .ok (.bipush 31, 2) := by decide +kernel
theorem dX0_plain_92 : decode cX0_plain 92 = .ok (.iand, 1) := by decide +kernel
theorem dX0_plain_93 : decode cX0_plain 93 = .ok (.iushr, 1) := by decide +kernel
theorem dX0_plain_94 : decode cX0_plain 94 = .ok (.ireturn, 1) := by decide +kernel
theorem dX0_plain_95 : decode cX0_plain 95 = .ok (.iload_n 1, 1) := by decide +kernel
theorem dX0_plain_96 : decode cX0_plain 96 = .ok (.iload_n 2, 1) := by decide +kernel
theorem dX0_plain_97 : decode cX0_plain 97 = .ok (.ior, 1) := by decide +kernel
theorem dX0_plain_98 : decode cX0_plain 98 = .ok (.ireturn, 1) := by decide +kernel
theorem dX0_plain_99 : decode cX0_plain 99 = .ok (.iload_n 1, 1) := by decide +kernel
theorem dX0_plain_100 : decode cX0_plain 100 = .ok (.iload_n 2, 1) := by decide +kernel
theorem dX0_plain_101 : decode cX0_plain 101 = .ok (.iand, 1) := by decide +kernel
theorem dX0_plain_102 : decode cX0_plain 102 = .ok (.ireturn, 1) := by decide +kernel
theorem dX0_movedRightWithSign_0 : decode cX0_movedRightWithSign 0 = .ok (.iload_n 0, 1) := by decide +kernel
theorem dX0_movedRightWithSign_1 : decode cX0_movedRightWithSign 1 = .ok (.iload_n 1, 1) := by decide +kernel
theorem dX0_movedRightWithSign_2 : decode cX0_movedRightWithSign 2 = .ok (.bipush 31, 2) := by decide +kernel
theorem dX0_movedRightWithSign_4 : decode cX0_movedRightWithSign 4 = .ok (.iand, 1) := by decide +kernel
theorem dX0_movedRightWithSign_5 : decode cX0_movedRightWithSign 5 = .ok (.ishr, 1) := by decide +kernel
theorem dX0_movedRightWithSign_6 : decode cX0_movedRightWithSign 6 = .ok (.ireturn, 1) := by decide +kernel
set_option maxRecDepth 20000 in
theorem ggX0_productOrQuotient_X0_upperOfProduct : GoodIn wsX0_productOrQuotient wsX0_upperOfProduct := goodIn_r _ [4] (by decide +kernel) (by decide +kernel)
set_option maxRecDepth 20000 in
theorem gX0_productOrQuotient_X0_upperOfProduct : GoodIn wsX0_productOrQuotient (va_wsS RX0 150 yX0_upperOfProduct wsX0_upperOfProduct) := goodIn_app (goodIn_of _ (by decide +kernel)) ggX0_productOrQuotient_X0_upperOfProduct
set_option maxRecDepth 20000 in
theorem ggX0_productOrQuotient_X0_unsigned : GoodIn wsX0_productOrQuotient wsX0_unsigned := goodIn_r _ [7, 8] (by decide +kernel) (by decide +kernel)
set_option maxRecDepth 20000 in
theorem gX0_productOrQuotient_X0_unsigned : GoodIn wsX0_productOrQuotient (va_wsS RX0 146 yX0_unsigned wsX0_unsigned) := goodIn_app (goodIn_of _ (by decide +kernel)) ggX0_productOrQuotient_X0_unsigned
set_option maxRecDepth 20000 in
theorem ggX0_productOrQuotient_X0_quotient : GoodIn wsX0_productOrQuotient wsX0_quotient := goodIn_r _ [11] (by decide +kernel) (by decide +kernel)
set_option maxRecDepth 20000 in
theorem gX0_productOrQuotient_X0_quotient : GoodIn wsX0_productOrQuotient (va_wsS RX0 154 yX0_quotient wsX0_quotient) := goodIn_app (goodIn_of _ (by decide +kernel)) ggX0_productOrQuotient_X0_quotient
set_option maxRecDepth 20000 in
theorem ggX0_productOrQuotient_X0_rest : GoodIn wsX0_productOrQuotient wsX0_rest := goodIn_r _ [14] (by decide +kernel) (by decide +kernel)
set_option maxRecDepth 20000 in
theorem gX0_productOrQuotient_X0_rest : GoodIn wsX0_productOrQuotient (va_wsS RX0 157 yX0_rest wsX0_rest) := goodIn_app (goodIn_of _ (by decide +kernel)) ggX0_productOrQuotient_X0_rest
theorem dX0_productOrQuotient_0 : decode cX0_productOrQuotient 0 = .ok (.iload_n 0, 1) := by decide +kernel
theorem dX0_productOrQuotient_1 : decode cX0_productOrQuotient 1 = .ok (.tableswitch 105 0 6 #[43, 47, 55, 65, 77, 85, 97], 43) := by decide +kernel
theorem dX0_productOrQuotient_44 : decode cX0_productOrQuotient 44 = .ok (.iload_n 1, 1) := by decide +kernel
theorem dX0_productOrQuotient_45 : decode cX0_productOrQuotient 45 = .ok (.iload_n 2, 1) := by decide +kernel
theorem dX0_productOrQuotient_46 : decode cX0_productOrQuotient 46 = .ok (.imul, 1) := by decide +kernel
theorem dX0_productOrQuotient_47 : decode cX0_productOrQuotient 47 = .ok (.ireturn, 1) := by decide +kernel
theorem dX0_productOrQuotient_48 : decode cX0_productOrQuotient 48 = .ok (.iload_n 1, 1) := by decide +kernel
theorem dX0_productOrQuotient_49 : decode cX0_productOrQuotient 49 = .ok (.i2l, 1) := by decide +kernel
theorem dX0_productOrQuotient_50 : decode cX0_productOrQuotient 50 = .ok (.iload_n 2, 1) := by decide +kernel
theorem dX0_productOrQuotient_51 : decode cX0_productOrQuotient 51 = .ok (.i2l, 1) := by decide +kernel
theorem dX0_productOrQuotient_52 : decode cX0_productOrQuotient 52 = .ok (.invokestatic 150, 3) := by decide +kernel
theorem dX0_productOrQuotient_55 : decode cX0_productOrQuotient 55 = .ok (.ireturn, 1) := by decide +kernel
theorem dX0_productOrQuotient_56 : decode cX0_productOrQuotient 56 = .ok (.iload_n 1, 1) := by decide +kernel
theorem dX0_productOrQuotient_57 : decode cX0_productOrQuotient 57 = .ok (.i2l, 1) := by decide +kernel
theorem dX0_productOrQuotient_58 : decode cX0_productOrQuotient 58 = .ok (.iload_n 2, 1) := by decide +kernel
theorem dX0_productOrQuotient_59 : decode cX0_productOrQuotient 59 = .ok (.invokestatic 146, 3) := by decide +kernel
theorem dX0_productOrQuotient_62 : decode cX0_productOrQuotient 62 = .ok (.invokestatic 150, 3) := by decide +kernel
theorem dX0_productOrQuotient_65 : decode cX0_productOrQuotient 65 = .ok (.ireturn, 1) := by decide +kernel
theorem dX0_productOrQuotient_66 : decode cX0_productOrQuotient 66 = .ok (.iload_n 1, 1) := by decide +kernel
theorem dX0_productOrQuotient_67 : decode cX0_productOrQuotient 67 = .ok (.invokestatic 146, 3) := by decide +kernel
theorem dX0_productOrQuotient_70 : decode cX0_productOrQuotient 70 = .ok (.iload_n 2, 1) := by decide +kernel
theorem dX0_productOrQuotient_71 : decode cX0_productOrQuotient 71 = .ok (.invokestatic 146, 3) := by decide +kernel
theorem dX0_productOrQuotient_74 : decode cX0_productOrQuotient 74 = .ok (.invokestatic 150, 3) := by decide +kernel
theorem dX0_productOrQuotient_77 : decode cX0_productOrQuotient 77 = .ok (.ireturn, 1) := by decide +kernel
theorem dX0_productOrQuotient_78 : decode cX0_productOrQuotient 78 = .ok (.iload_n 1, 1) := by decide +kernel
theorem dX0_productOrQuotient_79 : decode cX0_productOrQuotient 79 = .ok (.i2l, 1) := by decide +kernel
theorem dX0_productOrQuotient_80 : decode cX0_productOrQuotient 80 = .ok (.iload_n 2, 1) := by decide +kernel
theorem dX0_productOrQuotient_81 : decode cX0_productOrQuotient 81 = .ok (.i2l, 1) := by decide +kernel
theorem dX0_productOrQuotient_82 : decode cX0_productOrQuotient 82 = .ok (.invokestatic 154, 3) := by decide +kernel
theorem dX0_productOrQuotient_85 : decode cX0_productOrQuotient 85 = .ok (.ireturn, 1) := by decide +kernel
theorem dX0_productOrQuotient_86 : decode cX0_productOrQuotient 86 = .ok (.iload_n 1, 1) := by decide +kernel
theorem dX0_productOrQuotient_87 : decode cX0_productOrQuotient 87 = .ok (.invokestatic 146, 3) := by decide +kernel
theorem dX0_productOrQuotient_90 : decode cX0_productOrQuotient 90 = .ok (.iload_n 2, 1) := by decide +kernel
theorem dX0_productOrQuotient_91 : decode cX0_productOrQuotient 91 = .ok (.invokestatic 146, 3) := by decide +kernel
theorem dX0_productOrQuotient_94 : decode cX0_productOrQuotient 94 = .ok (.invokestatic 154, 3) := by decide +kernel
theorem dX0_productOrQuotient_97 : decode cX0_productOrQuotient 97 = .ok (.ireturn, 1) := by decide +kernel
theorem dX0_productOrQuotient_98 : decode cX0_productOrQuotient 98 = .ok (.iload_n 1, 1) := by decide +kernel
theorem dX0_productOrQuotient_99 : decode cX0_productOrQuotient 99 = .ok (.i2l, 1) := by decide +kernel
theorem dX0_productOrQuotient_100 : decode cX0_productOrQuotient 100 = .ok (.iload_n 2, 1) := by decide +kernel
theorem dX0_productOrQuotient_101 : decode cX0_productOrQuotient 101 = .ok (.i2l, 1) := by decide +kernel
theorem dX0_productOrQuotient_102 : decode cX0_productOrQuotient 102 = .ok (.invokestatic 157, 3) := by decide +kernel
theorem dX0_productOrQuotient_105 : decode cX0_productOrQuotient 105 = .ok (.ireturn, 1) := by decide +kernel
theorem dX0_productOrQuotient_106 : decode cX0_productOrQuotient 106 = .ok (.iload_n 1, 1) := by decide +kernel
theorem dX0_productOrQuotient_107 : decode cX0_productOrQuotient 107 = .ok (.invokestatic 146, 3) := by decide +kernel
theorem dX0_productOrQuotient_110 : decode cX0_productOrQuotient 110 = .ok (.iload_n 2, 1) := by decide +kernel
theorem dX0_productOrQuotient_111 : decode cX0_productOrQuotient 111 = .ok (.invokestatic 146, 3) := by decide +kernel
theorem dX0_productOrQuotient_114 : decode cX0_productOrQuotient 114 = .ok (.invokestatic 157, 3) := by decide +kernel
theorem dX0_productOrQuotient_117 : decode cX0_productOrQuotient 117 = .ok (.ireturn, 1) := by decide +kernel
theorem dX0_upperOfProduct_0 : decode cX0_upperOfProduct 0 = .ok (.lload_n 0, 1) := by decide +kernel
theorem dX0_upperOfProduct_1 : decode cX0_upperOfProduct 1 = .ok (.lload_n 2, 1) := by decide +kernel
theorem dX0_upperOfProduct_2 : decode cX0_upperOfProduct 2 = .ok (.lmul, 1) := by decide +kernel
theorem dX0_upperOfProduct_3 : decode cX0_upperOfProduct 3 = .ok (.bipush 32, 2) := by decide +kernel
theorem dX0_upperOfProduct_5 : decode cX0_upperOfProduct 5 = .ok (.lushr, 1) := by decide +kernel
theorem dX0_upperOfProduct_6 : decode cX0_upperOfProduct 6 = .ok (.l2i, 1) := by decide +kernel
theorem dX0_upperOfProduct_7 : decode cX0_upperOfProduct 7 = .ok (.ireturn, 1) := by decide +kernel
theorem dX0_quotient_0 : decode cX0_quotient 0 = .ok (.lload_n 2, 1) := by decide +kernel
theorem dX0_quotient_1 : decode cX0_quotient 1 = .ok (.lconst 0, 1) := by decide +kernel
theorem dX0_quotient_2 : decode cX0_quotient 2 = .ok (.lcmp, 1) := by decide +kernel
theorem dX0_quotient_3 : decode cX0_quotient 3 = .ok (.ifCond .ne 7, 3) := by decide +kernel
theorem dX0_quotient_6 : decode cX0_quotient 6 = .ok (.iconst (-1), 1) := by decide +kernel
theorem dX0_quotient_7 : decode cX0_quotient 7 = .ok (.goto 7, 3) := by decide +kernel
theorem dX0_quotient_10 : decode cX0_quotient 10 = .ok (.lload_n 0, 1) := by decide +kernel
theorem dX0_quotient_11 : decode cX0_quotient 11 = .ok (.lload_n 2, 1) := by decide +kernel
theorem dX0_quotient_12 : decode cX0_quotient 12 = .ok (.ldiv, 1) := by decide +kernel
theorem dX0_quotient_13 : decode cX0_quotient 13 = .ok (.l2i, 1) := by decide +kernel
theorem dX0_quotient_14 : decode cX0_quotient 14 = .ok (.ireturn, 1) := by decide +kernel
theorem dX0_rest_0 : decode cX0_rest 0 = .ok (.lload_n 2, 1) := by decide +kernel
theorem dX0_rest_1 : decode cX0_rest 1 = .ok (.lconst 0, 1) := by decide +kernel
theorem dX0_rest_2 : decode cX0_rest 2 = .ok (.lcmp, 1) := by decide +kernel
theorem dX0_rest_3 : decode cX0_rest 3 = .ok (.ifCond .ne 8, 3) := by decide +kernel
theorem dX0_rest_6 : decode cX0_rest 6 = .ok (.lload_n 0, 1) := by decide +kernel
theorem dX0_rest_7 : decode cX0_rest 7 = .ok (.l2i, 1) := by decide +kernel
theorem dX0_rest_8 : decode cX0_rest 8 = .ok (.goto 7, 3) := by decide +kernel
theorem dX0_rest_11 : decode cX0_rest 11 = .ok (.lload_n 0, 1) := by decide +kernel
theorem dX0_rest_12 : decode cX0_rest 12 = .ok (.lload_n 2, 1) := by decide +kernel
theorem dX0_rest_13 : decode cX0_rest 13 = .ok (.lrem, 1) := by decide +kernel
theorem dX0_rest_14 : decode cX0_rest 14 = .ok (.l2i, 1) := by decide +kernel
theorem dX0_rest_15 : decode cX0_rest 15 = .ok (.ireturn, 1) := by decide +kernel
set_option maxRecDepth 20000 in
theorem ggX0_holds_X0_unsigned : GoodIn wsX0_holds wsX0_unsigned := goodIn_r _ [4, 5] (by decide +kernel) (by decide +kernel)
set_option maxRecDepth 20000 in
theorem gX0_holds_X0_unsigned : GoodIn wsX0_holds (va_wsS RX0 146 yX0_unsigned wsX0_unsigned) := goodIn_app (goodIn_of _ (by decide +kernel)) ggX0_holds_X0_unsigned
theorem dX0_holds_0 : decode cX0_holds 0 = .ok (.iload_n 0, 1) := by decide +kernel
theorem dX0_holds_1 : decode cX0_holds 1 = .ok (.tableswitch 105 0 6 #[43, 54, 105, 105, 65, 76, 87], 43) := by decide +kernel
theorem dX0_holds_44 : decode cX0_holds 44 = .ok (.iload_n 1, 1) := by decide +kernel
theorem dX0_holds_45 : decode cX0_holds 45 = .ok (.iload_n 2, 1) := by decide +kernel
theorem dX0_holds_46 : decode cX0_holds 46 = .ok (.if_icmp .ne 7, 3) := by decide +kernel
theorem dX0_holds_49 : decode cX0_holds 49 = .ok (.iconst 1, 1) := by decide +kernel
theorem dX0_holds_50 : decode cX0_holds 50 = .ok (.goto 4, 3) := by decide +kernel
theorem dX0_holds_53 : decode cX0_holds 53 = .ok (.iconst 0, 1) := by decide +kernel
theorem dX0_holds_54 : decode cX0_holds 54 = .ok (.ireturn, 1) := by decide +kernel
theorem dX0_holds_55 : decode cX0_holds 55 = .ok (.iload_n 1, 1) := by decide +kernel
theorem dX0_holds_56 : decode cX0_holds 56 = .ok (.iload_n 2, 1) := by decide +kernel
theorem dX0_holds_57 : decode cX0_holds 57 = .ok (.if_icmp .eq 7, 3) := by decide +kernel
theorem dX0_holds_60 : decode cX0_holds 60 = .ok (.iconst 1, 1) := by decide +kernel
theorem dX0_holds_61 : decode cX0_holds 61 = .ok (.goto 4, 3) := by decide +kernel
theorem dX0_holds_64 : decode cX0_holds 64 = .ok (.iconst 0, 1) := by decide +kernel
theorem dX0_holds_65 : decode cX0_holds 65 = .ok (.ireturn, 1) := by decide +kernel
theorem dX0_holds_66 : decode cX0_holds 66 = .ok (.iload_n 1, 1) := by decide +kernel
theorem dX0_holds_67 : decode cX0_holds 67 = .ok (.iload_n 2, 1) := by decide +kernel
theorem dX0_holds_68 : decode cX0_holds 68 = .ok (.if_icmp .ge 7, 3) := by decide +kernel
theorem dX0_holds_71 : decode cX0_holds 71 = .ok (.iconst 1, 1) := by decide +kernel
theorem dX0_holds_72 : decode cX0_holds 72 = .ok (.goto 4, 3) := by decide +kernel
theorem dX0_holds_75 : decode cX0_holds 75 = .ok (.iconst 0, 1) := by decide +kernel
theorem dX0_holds_76 : decode cX0_holds 76 = .ok (.ireturn, 1) := by decide +kernel
theorem dX0_holds_77 : decode cX0_holds 77 = .ok (.iload_n 1, 1) := by decide +kernel
theorem dX0_holds_78 : decode cX0_holds 78 = .ok (.iload_n 2, 1) := by decide +kernel
theorem dX0_holds_79 : decode cX0_holds 79 = .ok (.if_icmp .lt 7, 3) := by decide +kernel
theorem dX0_holds_82 : decode cX0_holds 82 = .ok (.iconst 1, 1) := by decide +kernel
theorem dX0_holds_83 : decode cX0_holds 83 = .ok (.goto 4, 3) := by decide +kernel
theorem dX0_holds_86 : decode cX0_holds 86 = .ok (.iconst 0, 1) := by decide +kernel
theorem dX0_holds_87 : decode cX0_holds 87 = .ok (.ireturn, 1) := by decide +kernel
theorem dX0_holds_88 : decode cX0_holds 88 = .ok (.iload_n 1, 1) := by decide +kernel
theorem dX0_holds_89 : decode cX0_holds 89 = .ok (.invokestatic 146, 3) := by decide +kernel
theorem dX0_holds_92 : decode cX0_holds 92 = .ok (.iload_n 2, 1) := by decide +kernel
theorem dX0_holds_93 : decode cX0_holds 93 = .ok (.invokestatic 146, 3) := by decide +kernel
theorem dX0_holds_96 : decode cX0_holds 96 = .ok (.lcmp, 1) := by decide +kernel
theorem dX0_holds_97 : decode cX0_holds 97 = .ok (.ifCond .ge 7, 3) := by decide +kernel
theorem dX0_holds_100 : decode cX0_holds 100 = .ok (.iconst 1, 1) := by decide +kernel
theorem dX0_holds_101 : decode cX0_holds 101 = .ok (.goto 4, 3) := by decide +kernel
theorem dX0_holds_104 : decode cX0_holds 104 = .ok (.iconst 0, 1) := by decide +kernel
theorem dX0_holds_105 : decode cX0_holds 105 = .ok (.ireturn, 1) := by decide +kernel
theorem dX0_holds_106 : decode cX0_holds 106 = .ok (.iload_n 1, 1) := by decide +kernel
theorem dX0_holds_107 : decode cX0_holds 107 = .ok (.invokestatic 146, 3) := by decide +kernel
theorem dX0_holds_110 : decode cX0_holds 110 = .ok (.iload_n 2, 1) := by decide +kernel
theorem dX0_holds_111 : decode cX0_holds 111 = .ok (.invokestatic 146, 3) := by decide +kernel
theorem dX0_holds_114 : decode cX0_holds 114 = .ok (.lcmp, 1) := by decide +kernel
theorem dX0_holds_115 : decode cX0_holds 115 = .ok (.ifCond .lt 7, 3) := by decide +kernel
theorem dX0_holds_118 : decode cX0_holds 118 = .ok (.iconst 1, 1) := by decide +kernel
theorem dX0_holds_119 : decode cX0_holds 119 = .ok (.goto 4, 3) := by decide +kernel
theorem dX0_holds_122 : decode cX0_holds 122 = .ok (.iconst 0, 1) := by decide +kernel
theorem dX0_holds_123 : decode cX0_holds 123 = .ok (.ireturn, 1) := by decide +kernel
theorem dX0_unsigned_0 : decode cX0_unsigned 0 = .ok (.iload_n 0, 1) := by decide +kernel
theorem dX0_unsigned_1 : decode cX0_unsigned 1 = .ok (.i2l, 1) := by decide +kernel
theorem dX0_unsigned_2 : decode cX0_unsigned 2 = .ok (.ldc2_w 160, 3) := by decide +kernel
theorem dX0_unsigned_5 : decode cX0_unsigned 5 = .ok (.land, 1) := by decide +kernel
theorem dX0_unsigned_6 : decode cX0_unsigned 6 = .ok (.lreturn, 1) := by decide +kernel
theorem dX0_isRegister_0 : decode cX0_isRegister 0 = .ok (.iload_n 0, 1) := by decide +kernel
theorem dX0_isRegister_1 : decode cX0_isRegister 1 = .ok (.ifCond .lt 13, 3) := by decide +kernel
theorem dX0_isRegister_4 : decode cX0_isRegister 4 = .ok (.iload_n 0, 1) := by decide +kernel
theorem dX0_isRegister_5 : decode cX0_isRegister 5 = .ok (.bipush 32, 2) := by decide +kernel
theorem dX0_isRegister_7 : decode cX0_isRegister 7 = .ok (.if_icmp .ge 7, 3) := by decide +kernel
theorem dX0_isRegister_10 : decode cX0_isRegister 10 = .ok (.iconst 1, 1) := by decide +kernel
theorem dX0_isRegister_11 : decode cX0_isRegister 11 = .ok (.goto 4, 3) := by decide +kernel
theorem dX0_isRegister_14 : decode cX0_isRegister 14 = .ok (.iconst 0, 1) := by decide +kernel
theorem dX0_isRegister_15 : decode cX0_isRegister 15 = .ok (.ireturn, 1) := by decide +kernel
theorem dX0_setRegister_0 : decode cX0_setRegister 0 = .ok (.iload_n 1, 1) := by decide +kernel
theorem dX0_setRegister_1 : decode cX0_setRegister 1 = .ok (.ifCond .le 16, 3) := by decide +kernel
theorem dX0_setRegister_4 : decode cX0_setRegister 4 = .ok (.iload_n 1, 1) := by decide +kernel
theorem dX0_setRegister_5 : decode cX0_setRegister 5 = .ok (.bipush 32, 2) := by decide +kernel
theorem dX0_setRegister_7 : decode cX0_setRegister 7 = .ok (.if_icmp .ge 10, 3) := by decide +kernel
theorem dX0_setRegister_10 : decode cX0_setRegister 10 = .ok (.aload_n 0, 1) := by decide +kernel
theorem dX0_setRegister_11 : decode cX0_setRegister 11 = .ok (.getfield 13, 3) := by decide +kernel
theorem dX0_setRegister_14 : decode cX0_setRegister 14 = .ok (.iload_n 1, 1) := by decide +kernel
theorem dX0_setRegister_15 : decode cX0_setRegister 15 = .ok (.iload_n 2, 1) := by decide +kernel
theorem dX0_setRegister_16 : decode cX0_setRegister 16 = .ok (.iastore, 1) := by decide +kernel
theorem dX0_setRegister_17 : decode cX0_setRegister 17 = .ok (.return_, 1) := by decide +kernel
set_option maxRecDepth 20000 in
theorem ggX0_valueX_X0_fieldX : GoodIn wsX0_valueX wsX0_fieldX := goodIn_r _ [5] (by decide +kernel) (by decide +kernel)
set_option maxRecDepth 20000 in
theorem gX0_valueX_X0_fieldX : GoodIn wsX0_valueX (va_wsS RX0 162 yX0_fieldX wsX0_fieldX) := goodIn_app (goodIn_of _ (by decide +kernel)) ggX0_valueX_X0_fieldX
theorem dX0_valueX_0 : decode cX0_valueX 0 = .ok (.aload_n 0, 1) := by decide +kernel
theorem dX0_valueX_1 : decode cX0_valueX 1 = .ok (.getfield 13, 3) := by decide +kernel
theorem dX0_valueX_4 : decode cX0_valueX 4 = .ok (.iload_n 1, 1) := by decide +kernel
theorem dX0_valueX_5 : decode cX0_valueX 5 = .ok (.invokestatic 162, 3) := by decide +kernel
theorem dX0_valueX_8 : decode cX0_valueX 8 = .ok (.iaload, 1) := by decide +kernel
theorem dX0_valueX_9 : decode cX0_valueX 9 = .ok (.ireturn, 1) := by decide +kernel
set_option maxRecDepth 20000 in
theorem ggX0_valueY_X0_fieldY : GoodIn wsX0_valueY wsX0_fieldY := goodIn_r _ [5] (by decide +kernel) (by decide +kernel)
set_option maxRecDepth 20000 in
theorem gX0_valueY_X0_fieldY : GoodIn wsX0_valueY (va_wsS RX0 112 yX0_fieldY wsX0_fieldY) := goodIn_app (goodIn_of _ (by decide +kernel)) ggX0_valueY_X0_fieldY
theorem dX0_valueY_0 : decode cX0_valueY 0 = .ok (.aload_n 0, 1) := by decide +kernel
theorem dX0_valueY_1 : decode cX0_valueY 1 = .ok (.getfield 13, 3) := by decide +kernel
theorem dX0_valueY_4 : decode cX0_valueY 4 = .ok (.iload_n 1, 1) := by decide +kernel
theorem dX0_valueY_5 : decode cX0_valueY 5 = .ok (.invokestatic 112, 3) := by decide +kernel
theorem dX0_valueY_8 : decode cX0_valueY 8 = .ok (.iaload, 1) := by decide +kernel
theorem dX0_valueY_9 : decode cX0_valueY 9 = .ok (.ireturn, 1) := by decide +kernel
theorem dX0_isMultiple_0 : decode cX0_isMultiple 0 = .ok (.iload_n 0, 1) := by decide +kernel
theorem dX0_isMultiple_1 : decode cX0_isMultiple 1 = .ok (.iload_n 1, 1) := by decide +kernel
theorem dX0_isMultiple_2 : decode cX0_isMultiple 2 = .ok (.iconst 1, 1) := by decide +kernel
theorem dX0_isMultiple_3 : decode cX0_isMultiple 3 = .ok (.isub, 1) := by decide +kernel
theorem dX0_isMultiple_4 : decode cX0_isMultiple 4 = .ok (.iand, 1) := by decide +kernel
theorem dX0_isMultiple_5 : decode cX0_isMultiple 5 = .ok (.ifCond .ne 7, 3) := by decide +kernel
