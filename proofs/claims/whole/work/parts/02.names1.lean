theorem dX0_init_0 : decode cX0_init 0 = .ok (.aload_n 0, 1) := by decide +kernel
theorem dX0_init_1 : decode cX0_init 1 = .ok (.invokespecial 1, 3) := by decide +kernel
theorem dX0_init_4 : decode cX0_init 4 = .ok (.aload_n 0, 1) := by decide +kernel
theorem dX0_init_5 : decode cX0_init 5 = .ok (.sipush 1024, 3) := by decide +kernel
theorem dX0_init_8 : decode cX0_init 8 = .ok (.newarray .int, 2) := by decide +kernel
theorem dX0_init_10 : decode cX0_init 10 = .ok (.putfield 9, 3) := by decide +kernel
theorem dX0_init_13 : decode cX0_init 13 = .ok (.aload_n 0, 1) := by decide +kernel
theorem dX0_init_14 : decode cX0_init 14 = .ok (.bipush 32, 2) := by decide +kernel
theorem dX0_init_16 : decode cX0_init 16 = .ok (.newarray .int, 2) := by decide +kernel
theorem dX0_init_18 : decode cX0_init 18 = .ok (.putfield 13, 3) := by decide +kernel
theorem dX0_init_21 : decode cX0_init 21 = .ok (.aload_n 0, 1) := by decide +kernel
theorem dX0_init_22 : decode cX0_init 22 = .ok (.sipush 1024, 3) := by decide +kernel
theorem dX0_init_25 : decode cX0_init 25 = .ok (.newarray .int, 2) := by decide +kernel
theorem dX0_init_27 : decode cX0_init 27 = .ok (.putfield 16, 3) := by decide +kernel
theorem dX0_init_30 : decode cX0_init 30 = .ok (.aload_n 0, 1) := by decide +kernel
theorem dX0_init_31 : decode cX0_init 31 = .ok (.iconst 0, 1) := by decide +kernel
theorem dX0_init_32 : decode cX0_init 32 = .ok (.putfield 19, 3) := by decide +kernel
theorem dX0_init_35 : decode cX0_init 35 = .ok (.aload_n 0, 1) := by decide +kernel
theorem dX0_init_36 : decode cX0_init 36 = .ok (.iconst 0, 1) := by decide +kernel
theorem dX0_init_37 : decode cX0_init 37 = .ok (.putfield 23, 3) := by decide +kernel
theorem dX0_init_40 : decode cX0_init 40 = .ok (.aload_n 0, 1) := by decide +kernel
theorem dX0_init_41 : decode cX0_init 41 = .ok (.iconst 0, 1) := by decide +kernel
theorem dX0_init_42 : decode cX0_init 42 = .ok (.putfield 26, 3) := by decide +kernel
theorem dX0_init_45 : decode cX0_init 45 = .ok (.return_, 1) := by decide +kernel
theorem dX0_word_0 : decode cX0_word 0 = .ok (.aload_n 0, 1) := by decide +kernel
theorem dX0_word_1 : decode cX0_word 1 = .ok (.getfield 19, 3) := by decide +kernel
theorem dX0_word_4 : decode cX0_word 4 = .ok (.sipush 1024, 3) := by decide +kernel
theorem dX0_word_7 : decode cX0_word 7 = .ok (.if_icmp .lt 5, 3) := by decide +kernel
theorem dX0_word_10 : decode cX0_word 10 = .ok (.iconst (-1), 1) := by decide +kernel
theorem dX0_word_11 : decode cX0_word 11 = .ok (.ireturn, 1) := by decide +kernel
theorem dX0_word_12 : decode cX0_word 12 = .ok (.aload_n 0, 1) := by decide +kernel
theorem dX0_word_13 : decode cX0_word 13 = .ok (.getfield 9, 3) := by decide +kernel
theorem dX0_word_16 : decode cX0_word 16 = .ok (.aload_n 0, 1) := by decide +kernel
theorem dX0_word_17 : decode cX0_word 17 = .ok (.getfield 19, 3) := by decide +kernel
theorem dX0_word_20 : decode cX0_word 20 = .ok (.iload_n 1, 1) := by decide +kernel
theorem dX0_word_21 : decode cX0_word 21 = .ok (.iastore, 1) := by decide +kernel
theorem dX0_word_22 : decode cX0_word 22 = .ok (.aload_n 0, 1) := by decide +kernel
theorem dX0_word_23 : decode cX0_word 23 = .ok (.dup, 1) := by decide +kernel
theorem dX0_word_24 : decode cX0_word 24 = .ok (.getfield 19, 3) := by decide +kernel
theorem dX0_word_27 : decode cX0_word 27 = .ok (.iconst 1, 1) := by decide +kernel
theorem dX0_word_28 : decode cX0_word 28 = .ok (.iadd, 1) := by decide +kernel
theorem dX0_word_29 : decode cX0_word 29 = .ok (.putfield 19, 3) := by decide +kernel
theorem dX0_word_32 : decode cX0_word 32 = .ok (.aload_n 0, 1) := by decide +kernel
theorem dX0_word_33 : decode cX0_word 33 = .ok (.getfield 19, 3) := by decide +kernel
theorem dX0_word_36 : decode cX0_word 36 = .ok (.ireturn, 1) := by decide +kernel
set_option maxRecDepth 20000 in
theorem ggX0_put_X0_isRegister : GoodIn wsX0_put wsX0_isRegister := goodIn_r _ [4] (by decide +kernel) (by decide +kernel)
set_option maxRecDepth 20000 in
theorem gX0_put_X0_isRegister : GoodIn wsX0_put (va_wsS RX0 29 yX0_isRegister wsX0_isRegister) := goodIn_app (goodIn_of _ (by decide +kernel)) ggX0_put_X0_isRegister
set_option maxRecDepth 20000 in
theorem ggX0_put_X0_setRegister : GoodIn wsX0_put wsX0_setRegister := goodIn_r _ [8, 9, 10, 11, 12, 13, 14, 15] (by decide +kernel) (by decide +kernel)
set_option maxRecDepth 20000 in
theorem gX0_put_X0_setRegister : GoodIn wsX0_put (wsV RX0 33 RX0 yX0_setRegister wsX0_setRegister) := goodIn_app (goodIn_of _ (by decide +kernel)) ggX0_put_X0_setRegister
theorem dX0_put_0 : decode cX0_put 0 = .ok (.iload_n 1, 1) := by decide +kernel
theorem dX0_put_1 : decode cX0_put 1 = .ok (.invokestatic 29, 3) := by decide +kernel
theorem dX0_put_4 : decode cX0_put 4 = .ok (.ifCond .ne 5, 3) := by decide +kernel
theorem dX0_put_7 : decode cX0_put 7 = .ok (.iconst 0, 1) := by decide +kernel
theorem dX0_put_8 : decode cX0_put 8 = .ok (.ireturn, 1) := by decide +kernel
theorem dX0_put_9 : decode cX0_put 9 = .ok (.aload_n 0, 1) := by decide +kernel
theorem dX0_put_10 : decode cX0_put 10 = .ok (.iload_n 1, 1) := by decide +kernel
theorem dX0_put_11 : decode cX0_put 11 = .ok (.iload_n 2, 1) := by decide +kernel
theorem dX0_put_12 : decode cX0_put 12 = .ok (.invokevirtual 33, 3) := by decide +kernel
theorem dX0_put_15 : decode cX0_put 15 = .ok (.iconst 1, 1) := by decide +kernel
theorem dX0_put_16 : decode cX0_put 16 = .ok (.ireturn, 1) := by decide +kernel
set_option maxRecDepth 20000 in
theorem ggX0_get_X0_isRegister : GoodIn wsX0_get wsX0_isRegister := goodIn_r _ [5] (by decide +kernel) (by decide +kernel)
set_option maxRecDepth 20000 in
theorem gX0_get_X0_isRegister : GoodIn wsX0_get (va_wsS RX0 29 yX0_isRegister wsX0_isRegister) := goodIn_app (goodIn_of _ (by decide +kernel)) ggX0_get_X0_isRegister
theorem dX0_get_0 : decode cX0_get 0 = .ok (.iload_n 1, 1) := by decide +kernel
theorem dX0_get_1 : decode cX0_get 1 = .ok (.invokestatic 29, 3) := by decide +kernel
theorem dX0_get_4 : decode cX0_get 4 = .ok (.ifCond .eq 12, 3) := by decide +kernel
theorem dX0_get_7 : decode cX0_get 7 = .ok (.aload_n 0, 1) := by decide +kernel
theorem dX0_get_8 : decode cX0_get 8 = .ok (.getfield 13, 3) := by decide +kernel
theorem dX0_get_11 : decode cX0_get 11 = .ok (.iload_n 1, 1) := by decide +kernel
theorem dX0_get_12 : decode cX0_get 12 = .ok (.iaload, 1) := by decide +kernel
theorem dX0_get_13 : decode cX0_get 13 = .ok (.goto 4, 3) := by decide +kernel
theorem dX0_get_16 : decode cX0_get 16 = .ok (.iconst 0, 1) := by decide +kernel
theorem dX0_get_17 : decode cX0_get 17 = .ok (.ireturn, 1) := by decide +kernel
set_option maxRecDepth 20000 in
theorem ggX0_poke_X0_isAddress : GoodIn wsX0_poke wsX0_isAddress := goodIn_r _ [4, 5, 6, 3, 7] (by decide +kernel) (by decide +kernel)
set_option maxRecDepth 20000 in
theorem gX0_poke_X0_isAddress : GoodIn wsX0_poke (va_wsS RX0 37 yX0_isAddress wsX0_isAddress) := goodIn_app (goodIn_of _ (by decide +kernel)) ggX0_poke_X0_isAddress
set_option maxRecDepth 20000 in
theorem ggX0_poke_X0_replaceBits : GoodIn wsX0_poke wsX0_replaceBits := goodIn_r _ [11, 12, 13, 14, 3, 15, 16, 17, 18, 19, 20, 21] (by decide +kernel) (by decide +kernel)
set_option maxRecDepth 20000 in
theorem gX0_poke_X0_replaceBits : GoodIn wsX0_poke (wsV RX0 41 RX0 yX0_replaceBits wsX0_replaceBits) := goodIn_app (goodIn_of _ (by decide +kernel)) ggX0_poke_X0_replaceBits
theorem dX0_poke_0 : decode cX0_poke 0 = .ok (.iload_n 1, 1) := by decide +kernel
theorem dX0_poke_1 : decode cX0_poke 1 = .ok (.iconst 1, 1) := by decide +kernel
theorem dX0_poke_2 : decode cX0_poke 2 = .ok (.invokestatic 37, 3) := by decide +kernel
theorem dX0_poke_5 : decode cX0_poke 5 = .ok (.ifCond .ne 5, 3) := by decide +kernel
theorem dX0_poke_8 : decode cX0_poke 8 = .ok (.iconst 0, 1) := by decide +kernel
theorem dX0_poke_9 : decode cX0_poke 9 = .ok (.ireturn, 1) := by decide +kernel
theorem dX0_poke_10 : decode cX0_poke 10 = .ok (.aload_n 0, 1) := by decide +kernel
theorem dX0_poke_11 : decode cX0_poke 11 = .ok (.iload_n 1, 1) := by decide +kernel
theorem dX0_poke_12 : decode cX0_poke 12 = .ok (.sipush 255, 3) := by decide +kernel
theorem dX0_poke_15 : decode cX0_poke 15 = .ok (.iload_n 2, 1) := by decide +kernel
theorem dX0_poke_16 : decode cX0_poke 16 = .ok (.invokevirtual 41, 3) := by decide +kernel
theorem dX0_poke_19 : decode cX0_poke 19 = .ok (.iconst 1, 1) := by decide +kernel
theorem dX0_poke_20 : decode cX0_poke 20 = .ok (.ireturn, 1) := by decide +kernel
set_option maxRecDepth 20000 in
theorem ggX0_peek_X0_isAddress : GoodIn wsX0_peek wsX0_isAddress := goodIn_r _ [4, 5, 6, 3, 7] (by decide +kernel) (by decide +kernel)
set_option maxRecDepth 20000 in
theorem gX0_peek_X0_isAddress : GoodIn wsX0_peek (va_wsS RX0 37 yX0_isAddress wsX0_isAddress) := goodIn_app (goodIn_of _ (by decide +kernel)) ggX0_peek_X0_isAddress
set_option maxRecDepth 20000 in
theorem ggX0_peek_X0_bitsFrom : GoodIn wsX0_peek wsX0_bitsFrom := goodIn_r _ [11, 12, 13, 14, 3, 15, 16, 17, 18, 19, 20, 21] (by decide +kernel) (by decide +kernel)
set_option maxRecDepth 20000 in
theorem gX0_peek_X0_bitsFrom : GoodIn wsX0_peek (wsV RX0 45 RX0 yX0_bitsFrom wsX0_bitsFrom) := goodIn_app (goodIn_of _ (by decide +kernel)) ggX0_peek_X0_bitsFrom
theorem dX0_peek_0 : decode cX0_peek 0 = .ok (.iload_n 1, 1) := by decide +kernel
theorem dX0_peek_1 : decode cX0_peek 1 = .ok (.iconst 1, 1) := by decide +kernel
theorem dX0_peek_2 : decode cX0_peek 2 = .ok (.invokestatic 37, 3) := by decide +kernel
theorem dX0_peek_5 : decode cX0_peek 5 = .ok (.ifCond .eq 15, 3) := by decide +kernel
theorem dX0_peek_8 : decode cX0_peek 8 = .ok (.aload_n 0, 1) := by decide +kernel
theorem dX0_peek_9 : decode cX0_peek 9 = .ok (.iload_n 1, 1) := by decide +kernel
theorem dX0_peek_10 : decode cX0_peek 10 = .ok (.invokevirtual 45, 3) := by decide +kernel
theorem dX0_peek_13 : decode cX0_peek 13 = .ok (.sipush 255, 3) := by decide +kernel
theorem dX0_peek_16 : decode cX0_peek 16 = .ok (.iand, 1) := by decide +kernel
theorem dX0_peek_17 : decode cX0_peek 17 = .ok (.goto 4, 3) := by decide +kernel
theorem dX0_peek_20 : decode cX0_peek 20 = .ok (.iconst (-1), 1) := by decide +kernel
theorem dX0_peek_21 : decode cX0_peek 21 = .ok (.ireturn, 1) := by decide +kernel
set_option maxRecDepth 20000 in
theorem ggX0_go_X0_isMultiple : GoodIn wsX0_go wsX0_isMultiple := goodIn_r _ [5] (by decide +kernel) (by decide +kernel)
set_option maxRecDepth 20000 in
theorem gX0_go_X0_isMultiple : GoodIn wsX0_go (va_wsS RX0 49 yX0_isMultiple wsX0_isMultiple) := goodIn_app (goodIn_of _ (by decide +kernel)) ggX0_go_X0_isMultiple
theorem dX0_go_0 : decode cX0_go 0 = .ok (.iload_n 1, 1) := by decide +kernel
theorem dX0_go_1 : decode cX0_go 1 = .ok (.iconst 4, 1) := by decide +kernel
theorem dX0_go_2 : decode cX0_go 2 = .ok (.invokestatic 49, 3) := by decide +kernel
theorem dX0_go_5 : decode cX0_go 5 = .ok (.ifCond .ne 5, 3) := by decide +kernel
theorem dX0_go_8 : decode cX0_go 8 = .ok (.iconst 0, 1) := by decide +kernel
theorem dX0_go_9 : decode cX0_go 9 = .ok (.ireturn, 1) := by decide +kernel
theorem dX0_go_10 : decode cX0_go 10 = .ok (.aload_n 0, 1) := by decide +kernel
theorem dX0_go_11 : decode cX0_go 11 = .ok (.iload_n 1, 1) := by decide +kernel
theorem dX0_go_12 : decode cX0_go 12 = .ok (.putfield 23, 3) := by decide +kernel
theorem dX0_go_15 : decode cX0_go 15 = .ok (.iconst 1, 1) := by decide +kernel
theorem dX0_go_16 : decode cX0_go 16 = .ok (.ireturn, 1) := by decide +kernel
theorem dX0_pc_0 : decode cX0_pc 0 = .ok (.aload_n 0, 1) := by decide +kernel
theorem dX0_pc_1 : decode cX0_pc 1 = .ok (.getfield 23, 3) := by decide +kernel
theorem dX0_pc_4 : decode cX0_pc 4 = .ok (.ireturn, 1) := by decide +kernel
set_option maxRecDepth 20000 in
theorem ggX0_run_X0_step : GoodIn wsX0_run wsX0_step := goodIn_r _ [5, 6, 7, 8, 9, 10, 11, 4, 12, 13, 14, 15, 16, 17, 18, 19, 20, 21, 22, 23, 24, 25, 26, 27, 28, 29, 30, 31, 32, 33, 34, 35, 36, 37, 38, 39, 40, 41, 42, 43, 44, 45, 46, 47, 48, 49, 50, 51, 52, 53, 54, 55, 56, 57, 58, 59, 60, 61, 62, 63, 64, 65, 66, 67, 68, 69, 70, 71, 72, 73, 74, 75, 76, 77, 78, 79, 80, 81, 82, 83, 84, 85, 86, 87, 88, 89, 90, 91, 92, 93, 94, 95, 96, 97, 98, 99, 100, 101, 102, 103, 104, 105, 106, 107, 108, 109, 110, 111, 112, 113, 114, 115, 116, 117, 118, 119, 120, 121, 122, 123, 124, 125, 126, 127, 128, 129, 130, 131, 132, 133, 134, 135, 136, 137, 138, 139, 140, 141, 142, 143, 144, 145, 146, 147, 148, 149, 150, 151, 152, 153, 154, 155, 156] (by decide +kernel) (by decide +kernel)
set_option maxRecDepth 20000 in
theorem gX0_run_X0_step : GoodIn wsX0_run (wsV RX0 52 RX0 yX0_step wsX0_step) := goodIn_app (goodIn_of _ (by decide +kernel)) ggX0_run_X0_step
theorem dX0_run_0 : decode cX0_run 0 = .ok (.iload_n 1, 1) := by decide +kernel
theorem dX0_run_1 : decode cX0_run 1 = .ok (.ifCond .lt 10, 3) := by decide +kernel
theorem dX0_run_4 : decode cX0_run 4 = .ok (.iload_n 1, 1) := by decide +kernel
theorem dX0_run_5 : decode cX0_run 5 = .ok (.sipush 1000, 3) := by decide +kernel
theorem dX0_run_8 : decode cX0_run 8 = .ok (.if_icmp .le 5, 3) := by decide +kernel
theorem dX0_run_11 : decode cX0_run 11 = .ok (.iconst (-1), 1) := by decide +kernel
theorem dX0_run_12 : decode cX0_run 12 = .ok (.ireturn, 1) := by decide +kernel
theorem dX0_run_13 : decode cX0_run 13 = .ok (.iconst 0, 1) := by decide +kernel
theorem dX0_run_14 : decode cX0_run 14 = .ok (.istore_n 2, 1) := by decide +kernel
theorem dX0_run_15 : decode cX0_run 15 = .ok (.iload_n 2, 1) := by decide +kernel
theorem dX0_run_16 : decode cX0_run 16 = .ok (.iload_n 1, 1) := by decide +kernel
theorem dX0_run_17 : decode cX0_run 17 = .ok (.if_icmp .ge 20, 3) := by decide +kernel
theorem dX0_run_20 : decode cX0_run 20 = .ok (.aload_n 0, 1) := by decide +kernel
theorem dX0_run_21 : decode cX0_run 21 = .ok (.invokevirtual 52, 3) := by decide +kernel
theorem dX0_run_24 : decode cX0_run 24 = .ok (.istore_n 3, 1) := by decide +kernel
theorem dX0_run_25 : decode cX0_run 25 = .ok (.iload_n 3, 1) := by decide +kernel
theorem dX0_run_26 : decode cX0_run 26 = .ok (.ifCond .eq 5, 3) := by decide +kernel
theorem dX0_run_29 : decode cX0_run 29 = .ok (.iload_n 3, 1) := by decide +kernel
theorem dX0_run_30 : decode cX0_run 30 = .ok (.ireturn, 1) := by decide +kernel
theorem dX0_run_31 : decode cX0_run 31 = .ok (.iinc 2 1, 3) := by decide +kernel
theorem dX0_run_34 : decode cX0_run 34 = .ok (.goto (-19), 3) := by decide +kernel
theorem dX0_run_37 : decode cX0_run 37 = .ok (.iconst 0, 1) := by decide +kernel
theorem dX0_run_38 : decode cX0_run 38 = .ok (.ireturn, 1) := by decide +kernel
theorem dX0_steps_0 : decode cX0_steps 0 = .ok (.aload_n 0, 1) := by decide +kernel
theorem dX0_steps_1 : decode cX0_steps 1 = .ok (.getfield 26, 3) := by decide +kernel
theorem dX0_steps_4 : decode cX0_steps 4 = .ok (.ireturn, 1) := by decide +kernel
set_option maxRecDepth 20000 in
theorem ggX0_step_X0_isPlaceOfWord : GoodIn wsX0_step wsX0_isPlaceOfWord := goodIn_r _ [8, 9, 10, 11, 7, 12, 147, 148, 149, 150, 151, 152] (by decide +kernel) (by decide +kernel)
set_option maxRecDepth 20000 in
theorem gX0_step_X0_isPlaceOfWord : GoodIn wsX0_step (wsV RX0 56 RX0 yX0_isPlaceOfWord wsX0_isPlaceOfWord) := goodIn_app (goodIn_of _ (by decide +kernel)) ggX0_step_X0_isPlaceOfWord
set_option maxRecDepth 20000 in
theorem ggX0_step_X0_perform : GoodIn wsX0_step wsX0_perform := goodIn_r _ [16, 1, 17, 18, 7, 19, 20, 21, 22, 23, 24, 25, 26, 27, 28, 29, 30, 31, 32, 33, 34, 35, 36, 37, 38, 39, 40, 41, 42, 43, 44, 45, 46, 47, 48, 49, 50, 51, 52, 53, 54, 55, 56, 57, 58, 59, 60, 61, 62, 63, 64, 65, 66, 67, 68, 69, 70, 71, 72, 73, 74, 75, 76, 77, 78, 79, 80, 81, 82, 83, 84, 85, 86, 87, 88, 89, 90, 91, 92, 93, 94, 10, 11, 12, 95, 96, 97, 98, 99, 100, 101, 102, 103, 104, 105, 106, 107, 108, 109, 110, 111, 112, 113, 114, 115, 116, 117, 118, 119, 120, 121, 122, 123, 124, 125, 126, 127, 128, 129, 130, 131, 132, 133, 134, 135, 136, 137, 138, 139, 140, 141, 142, 143, 144, 145, 146, 147, 148, 149, 150, 151, 152] (by decide +kernel) (by decide +kernel)
set_option maxRecDepth 20000 in
theorem gX0_step_X0_perform : GoodIn wsX0_step (wsV RX0 59 RX0 yX0_perform wsX0_perform) := goodIn_app (goodIn_of _ (by decide +kernel)) ggX0_step_X0_perform
theorem dX0_step_0 : decode cX0_step 0 = .ok (.aload_n 0, 1) := by decide +kernel
theorem dX0_step_1 : decode cX0_step 1 = .ok (.aload_n 0, 1) := by decide +kernel
theorem dX0_step_2 : decode cX0_step 2 = .ok (.getfield 23, 3) := by decide +kernel
theorem dX0_step_5 : decode cX0_step 5 = .ok (.invokevirtual 56, 3) := by decide +kernel
theorem dX0_step_8 : decode cX0_step 8 = .ok (.ifCond .ne 5, 3) := by decide +kernel
theorem dX0_step_11 : decode cX0_step 11 = .ok (.iconst 2, 1) := by decide +kernel
theorem dX0_step_12 : decode cX0_step 12 = .ok (.ireturn, 1) := by decide +kernel
theorem dX0_step_13 : decode cX0_step 13 = .ok (.aload_n 0, 1) := by decide +kernel
theorem dX0_step_14 : decode cX0_step 14 = .ok (.aload_n 0, 1) := by decide +kernel
theorem dX0_step_15 : decode cX0_step 15 = .ok (.getfield 9, 3) := by decide +kernel
theorem dX0_step_18 : decode cX0_step 18 = .ok (.aload_n 0, 1) := by decide +kernel
theorem dX0_step_19 : decode cX0_step 19 = .ok (.getfield 23, 3) := by decide +kernel
theorem dX0_step_22 : decode cX0_step 22 = .ok (.iconst 4, 1) := by decide +kernel
theorem dX0_step_23 : decode cX0_step 23 = .ok (.idiv, 1) := by decide +kernel
theorem dX0_step_24 : decode cX0_step 24 = .ok (.iaload, 1) := by decide +kernel
theorem dX0_step_25 : decode cX0_step 25 = .ok (.invokevirtual 59, 3) := by decide +kernel
theorem dX0_step_28 : decode cX0_step 28 = .ok (.istore_n 1, 1) := by decide +kernel
theorem dX0_step_29 : decode cX0_step 29 = .ok (.iload_n 1, 1) := by decide +kernel
theorem dX0_step_30 : decode cX0_step 30 = .ok (.ifCond .eq 8, 3) := by decide +kernel
theorem dX0_step_33 : decode cX0_step 33 = .ok (.iload_n 1, 1) := by decide +kernel
theorem dX0_step_34 : decode cX0_step 34 = .ok (.iconst 1, 1) := by decide +kernel
theorem dX0_step_35 : decode cX0_step 35 = .ok (.if_icmp .ne 13, 3) := by decide +kernel
theorem dX0_step_38 : decode cX0_step 38 = .ok (.aload_n 0, 1) := by decide +kernel
theorem dX0_step_39 : decode cX0_step 39 = .ok (.dup, 1) := by decide +kernel
theorem dX0_step_40 : decode cX0_step 40 = .ok (.getfield 26, 3) := by decide +kernel
theorem dX0_step_43 : decode cX0_step 43 = .ok (.iconst 1, 1) := by decide +kernel
theorem dX0_step_44 : decode cX0_step 44 = .ok (.iadd, 1) := by decide +kernel
theorem dX0_step_45 : decode cX0_step 45 = .ok (.putfield 26, 3) := by decide +kernel
theorem dX0_step_48 : decode cX0_step 48 = .ok (.iload_n 1, 1) := by decide +kernel
theorem dX0_step_49 : decode cX0_step 49 = .ok (.ireturn, 1) := by decide +kernel
set_option maxRecDepth 20000 in
theorem ggX0_perform_X0_fieldOp : GoodIn wsX0_perform wsX0_fieldOp := goodIn_r _ [5] (by decide +kernel) (by decide +kernel)
set_option maxRecDepth 20000 in
theorem gX0_perform_X0_fieldOp : GoodIn wsX0_perform (va_wsS RX0 62 yX0_fieldOp wsX0_fieldOp) := goodIn_app (goodIn_of _ (by decide +kernel)) ggX0_perform_X0_fieldOp
set_option maxRecDepth 20000 in
theorem ggX0_perform_X0_calculateWithNumber : GoodIn wsX0_perform wsX0_calculateWithNumber := goodIn_r _ [9, 10, 11, 4, 12, 13, 14, 15, 16, 17, 18, 19, 20, 21, 22, 23, 24, 25, 26, 27, 28, 29, 30, 31, 32, 33, 34, 1, 35, 36, 37, 38, 39, 40, 41, 42, 43, 44, 45, 46, 47, 48, 49, 50, 136, 137, 138, 139, 140, 141] (by decide +kernel) (by decide +kernel)
set_option maxRecDepth 20000 in
theorem gX0_perform_X0_calculateWithNumber : GoodIn wsX0_perform (wsV RX0 65 RX0 yX0_calculateWithNumber wsX0_calculateWithNumber) := goodIn_app (goodIn_of _ (by decide +kernel)) ggX0_perform_X0_calculateWithNumber
set_option maxRecDepth 20000 in
theorem ggX0_perform_X0_calculateWithRegister : GoodIn wsX0_perform wsX0_calculateWithRegister := goodIn_r _ [54, 10, 11, 4, 12, 13, 14, 15, 16, 17, 18, 19, 20, 55, 56, 57, 58, 45, 46, 47, 42, 43, 44, 24, 25, 26, 27, 28, 29, 30, 31, 32, 33, 34, 1, 35, 36, 37, 38, 39, 40, 41, 59, 60, 61, 62, 63, 64, 65, 66, 67, 68, 69, 70, 48, 49, 50, 136, 137, 138, 139, 140, 141] (by decide +kernel) (by decide +kernel)
set_option maxRecDepth 20000 in
theorem gX0_perform_X0_calculateWithRegister : GoodIn wsX0_perform (wsV RX0 68 RX0 yX0_calculateWithRegister wsX0_calculateWithRegister) := goodIn_app (goodIn_of _ (by decide +kernel)) ggX0_perform_X0_calculateWithRegister
set_option maxRecDepth 20000 in
theorem ggX0_perform_X0_tell : GoodIn wsX0_perform wsX0_tell := goodIn_r _ [34, 1, 35, 36, 4, 37, 38, 39, 40, 41, 17, 136, 137, 138, 139, 140, 141] (by decide +kernel) (by decide +kernel)
set_option maxRecDepth 20000 in
theorem gX0_perform_X0_tell : GoodIn wsX0_perform (wsV RX0 71 RX0 yX0_tell wsX0_tell) := goodIn_app (goodIn_of _ (by decide +kernel)) ggX0_perform_X0_tell
set_option maxRecDepth 20000 in
theorem ggX0_perform_X0_load : GoodIn wsX0_perform wsX0_load := goodIn_r _ [74, 10, 11, 4, 12, 13, 14, 15, 16, 17, 18, 19, 20, 21, 22, 23, 75, 76, 77, 78, 79, 80, 81, 82, 83, 84, 85, 86, 87, 88, 89, 90, 91, 92, 93, 94, 95, 31, 32, 33, 34, 1, 35, 36, 37, 38, 39, 40, 41, 136, 137, 138, 139, 140, 141] (by decide +kernel) (by decide +kernel)
set_option maxRecDepth 20000 in
theorem gX0_perform_X0_load : GoodIn wsX0_perform (wsV RX0 75 RX0 yX0_load wsX0_load) := goodIn_app (goodIn_of _ (by decide +kernel)) ggX0_perform_X0_load
set_option maxRecDepth 20000 in
theorem ggX0_perform_X0_store : GoodIn wsX0_perform wsX0_store := goodIn_r _ [99, 1, 10, 11, 4, 12, 13, 14, 15, 16, 17, 18, 19, 20, 100, 101, 102, 35, 36, 37, 75, 76, 77, 78, 79, 80, 81, 82, 83, 103, 104, 105, 95, 55, 56, 57, 58, 45, 46, 47, 106, 107, 108, 109, 88, 89, 90, 91, 136, 137, 138, 139, 140, 141] (by decide +kernel) (by decide +kernel)
set_option maxRecDepth 20000 in
theorem gX0_perform_X0_store : GoodIn wsX0_perform (wsV RX0 78 RX0 yX0_store wsX0_store) := goodIn_app (goodIn_of _ (by decide +kernel)) ggX0_perform_X0_store
set_option maxRecDepth 20000 in
theorem ggX0_perform_X0_branch : GoodIn wsX0_perform wsX0_branch := goodIn_r _ [113, 1, 10, 11, 4, 12, 13, 14, 15, 16, 17, 18, 19, 20, 55, 56, 57, 58, 45, 46, 47, 114, 115, 116, 27, 28, 29, 30, 117, 118, 119, 136, 137, 138, 139, 140, 141] (by decide +kernel) (by decide +kernel)
set_option maxRecDepth 20000 in
theorem gX0_perform_X0_branch : GoodIn wsX0_perform (wsV RX0 81 RX0 yX0_branch wsX0_branch) := goodIn_app (goodIn_of _ (by decide +kernel)) ggX0_perform_X0_branch
set_option maxRecDepth 20000 in
theorem ggX0_perform_X0_jumpDistance : GoodIn wsX0_perform wsX0_jumpDistance := goodIn_r _ [122, 123] (by decide +kernel) (by decide +kernel)
set_option maxRecDepth 20000 in
theorem gX0_perform_X0_jumpDistance : GoodIn wsX0_perform (va_wsS RX0 84 yX0_jumpDistance wsX0_jumpDistance) := goodIn_app (goodIn_of _ (by decide +kernel)) ggX0_perform_X0_jumpDistance
set_option maxRecDepth 20000 in
theorem ggX0_perform_X0_jump : GoodIn wsX0_perform wsX0_jump := goodIn_r _ [127, 1, 35, 36, 4, 37, 38, 39, 40, 41, 17, 136, 137, 138, 139, 140, 141] (by decide +kernel) (by decide +kernel)
set_option maxRecDepth 20000 in
theorem gX0_perform_X0_jump : GoodIn wsX0_perform (wsV RX0 87 RX0 yX0_jump wsX0_jump) := goodIn_app (goodIn_of _ (by decide +kernel)) ggX0_perform_X0_jump
set_option maxRecDepth 20000 in
theorem ggX0_perform_X0_jumpToRegister : GoodIn wsX0_perform wsX0_jumpToRegister := goodIn_r _ [131, 10, 11, 4, 12, 13, 14, 15, 16, 17, 18, 19, 20, 21, 22, 23, 124, 125, 126, 127, 1, 35, 36, 37, 38, 39, 40, 41, 136, 137, 138, 139, 140, 141] (by decide +kernel) (by decide +kernel)
set_option maxRecDepth 20000 in
theorem gX0_perform_X0_jumpToRegister : GoodIn wsX0_perform (wsV RX0 90 RX0 yX0_jumpToRegister wsX0_jumpToRegister) := goodIn_app (goodIn_of _ (by decide +kernel)) ggX0_perform_X0_jumpToRegister
set_option maxRecDepth 20000 in
theorem ggX0_perform_X0_ask : GoodIn wsX0_perform wsX0_ask := goodIn_r _ [135, 1, 136, 137, 138, 139, 140, 141] (by decide +kernel) (by decide +kernel)
set_option maxRecDepth 20000 in
theorem gX0_perform_X0_ask : GoodIn wsX0_perform (wsV RX0 93 RX0 yX0_ask wsX0_ask) := goodIn_app (goodIn_of _ (by decide +kernel)) ggX0_perform_X0_ask
theorem dX0_perform_0 : decode cX0_perform 0 = .ok (.iload_n 1, 1) := by decide +kernel
theorem dX0_perform_1 : decode cX0_perform 1 = .ok (.invokestatic 62, 3) := by decide +kernel
theorem dX0_perform_4 : decode cX0_perform 4 = .ok (.lookupswitch 176 #[(3, 131), (19, 92), (23, 115), (35, 137), (51, 98), (55, 104), (99, 143), (103, 164), (111, 149), (115, 170)], 92) := by decide +kernel
theorem dX0_perform_96 : decode cX0_perform 96 = .ok (.aload_n 0, 1) := by decide +kernel
theorem dX0_perform_97 : decode cX0_perform 97 = .ok (.iload_n 1, 1) := by decide +kernel
theorem dX0_perform_98 : decode cX0_perform 98 = .ok (.invokevirtual 65, 3) := by decide +kernel
theorem dX0_perform_101 : decode cX0_perform 101 = .ok (.ireturn, 1) := by decide +kernel
theorem dX0_perform_102 : decode cX0_perform 102 = .ok (.aload_n 0, 1) := by decide +kernel
theorem dX0_perform_103 : decode cX0_perform 103 = .ok (.iload_n 1, 1) := by decide +kernel
theorem dX0_perform_104 : decode cX0_perform 104 = .ok (.invokevirtual 68, 3) := by decide +kernel
theorem dX0_perform_107 : decode cX0_perform 107 = .ok (.ireturn, 1) := by decide +kernel
theorem dX0_perform_108 : decode cX0_perform 108 = .ok (.aload_n 0, 1) := by decide +kernel
theorem dX0_perform_109 : decode cX0_perform 109 = .ok (.iload_n 1, 1) := by decide +kernel
theorem dX0_perform_110 : decode cX0_perform 110 = .ok (.iload_n 1, 1) := by decide +kernel
theorem dX0_perform_111 : decode cX0_perform 111 = .ok (.sipush (-4096), 3) := by decide +kernel
theorem dX0_perform_114 : decode cX0_perform 114 = .ok (.iand, 1) := by decide +kernel
theorem dX0_perform_115 : decode cX0_perform 115 = .ok (.invokevirtual 71, 3) := by decide +kernel
theorem dX0_perform_118 : decode cX0_perform 118 = .ok (.ireturn, 1) := by decide +kernel
theorem dX0_perform_119 : decode cX0_perform 119 = .ok (.aload_n 0, 1) := by decide +kernel
theorem dX0_perform_120 : decode cX0_perform 120 = .ok (.iload_n 1, 1) := by decide +kernel
theorem dX0_perform_121 : decode cX0_perform 121 = .ok (.aload_n 0, 1) := by decide +kernel
theorem dX0_perform_122 : decode cX0_perform 122 = .ok (.getfield 23, 3) := by decide +kernel
theorem dX0_perform_125 : decode cX0_perform 125 = .ok (.iload_n 1, 1) := by decide +kernel
theorem dX0_perform_126 : decode cX0_perform 126 = .ok (.sipush (-4096), 3) := by decide +kernel
theorem dX0_perform_129 : decode cX0_perform 129 = .ok (.iand, 1) := by decide +kernel
theorem dX0_perform_130 : decode cX0_perform 130 = .ok (.iadd, 1) := by decide +kernel
theorem dX0_perform_131 : decode cX0_perform 131 = .ok (.invokevirtual 71, 3) := by decide +kernel
theorem dX0_perform_134 : decode cX0_perform 134 = .ok (.ireturn, 1) := by decide +kernel
theorem dX0_perform_135 : decode cX0_perform 135 = .ok (.aload_n 0, 1) := by decide +kernel
theorem dX0_perform_136 : decode cX0_perform 136 = .ok (.iload_n 1, 1) := by decide +kernel
theorem dX0_perform_137 : decode cX0_perform 137 = .ok (.invokevirtual 75, 3) := by decide +kernel
theorem dX0_perform_140 : decode cX0_perform 140 = .ok (.ireturn, 1) := by decide +kernel
theorem dX0_perform_141 : decode cX0_perform 141 = .ok (.aload_n 0, 1) := by decide +kernel
theorem dX0_perform_142 : decode cX0_perform 142 = .ok (.iload_n 1, 1) := by decide +kernel
theorem dX0_perform_143 : decode cX0_perform 143 = .ok (.invokevirtual 78, 3) := by decide +kernel
theorem dX0_perform_146 : decode cX0_perform 146 = .ok (.ireturn, 1) := by decide +kernel
theorem dX0_perform_147 : decode cX0_perform 147 = .ok (.aload_n 0, 1) := by decide +kernel
theorem dX0_perform_148 : decode cX0_perform 148 = .ok (.iload_n 1, 1) := by decide +kernel
theorem dX0_perform_149 : decode cX0_perform 149 = .ok (.invokevirtual 81, 3) := by decide +kernel
theorem dX0_perform_152 : decode cX0_perform 152 = .ok (.ireturn, 1) := by decide +kernel
theorem dX0_perform_153 : decode cX0_perform 153 = .ok (.aload_n 0, 1) := by decide +kernel
theorem dX0_perform_154 : decode cX0_perform 154 = .ok (.iload_n 1, 1) := by decide +kernel
theorem dX0_perform_155 : decode cX0_perform 155 = .ok (.aload_n 0, 1) := by decide +kernel
theorem dX0_perform_156 : decode cX0_perform 156 = .ok (.getfield 23, 3) := by decide +kernel
theorem dX0_perform_159 : decode cX0_perform 159 = .ok (.iload_n 1, 1) := by decide +kernel
theorem dX0_perform_160 : decode cX0_perform 160 = .ok (.invokestatic 84, 3) := by decide +kernel
theorem dX0_perform_163 : decode cX0_perform 163 = .ok (.iadd, 1) := by decide +kernel
theorem dX0_perform_164 : decode cX0_perform 164 = .ok (.invokevirtual 87, 3) := by decide +kernel
theorem dX0_perform_167 : decode cX0_perform 167 = .ok (.ireturn, 1) := by decide +kernel
theorem dX0_perform_168 : decode cX0_perform 168 = .ok (.aload_n 0, 1) := by decide +kernel
theorem dX0_perform_169 : decode cX0_perform 169 = .ok (.iload_n 1, 1) := by decide +kernel
theorem dX0_perform_170 : decode cX0_perform 170 = .ok (.invokevirtual 90, 3) := by decide +kernel
theorem dX0_perform_173 : decode cX0_perform 173 = .ok (.ireturn, 1) := by decide +kernel
theorem dX0_perform_174 : decode cX0_perform 174 = .ok (.aload_n 0, 1) := by decide +kernel
theorem dX0_perform_175 : decode cX0_perform 175 = .ok (.iload_n 1, 1) := by decide +kernel
theorem dX0_perform_176 : decode cX0_perform 176 = .ok (.invokevirtual 93, 3) := by decide +kernel
theorem dX0_perform_179 : decode cX0_perform 179 = .ok (.ireturn, 1) := by decide +kernel
theorem dX0_perform_180 : decode cX0_perform 180 = .ok (.iconst 3, 1) := by decide +kernel
theorem dX0_perform_181 : decode cX0_perform 181 = .ok (.ireturn, 1) := by decide +kernel
set_option maxRecDepth 20000 in
theorem ggX0_calculateWithNumber_X0_fieldT : GoodIn wsX0_calculateWithNumber wsX0_fieldT := goodIn_r _ [4] (by decide +kernel) (by decide +kernel)
set_option maxRecDepth 20000 in
theorem gX0_calculateWithNumber_X0_fieldT : GoodIn wsX0_calculateWithNumber (va_wsS RX0 96 yX0_fieldT wsX0_fieldT) := goodIn_app (goodIn_of _ (by decide +kernel)) ggX0_calculateWithNumber_X0_fieldT
set_option maxRecDepth 20000 in
theorem ggX0_calculateWithNumber_X0_valueX : GoodIn wsX0_calculateWithNumber wsX0_valueX := goodIn_r _ [8, 9, 10, 11, 3, 12, 44, 45, 46, 47, 48, 49] (by decide +kernel) (by decide +kernel)
set_option maxRecDepth 20000 in
theorem gX0_calculateWithNumber_X0_valueX : GoodIn wsX0_calculateWithNumber (wsV RX0 99 RX0 yX0_valueX wsX0_valueX) := goodIn_app (goodIn_of _ (by decide +kernel)) ggX0_calculateWithNumber_X0_valueX
set_option maxRecDepth 20000 in
theorem ggX0_calculateWithNumber_X0_numberI : GoodIn wsX0_calculateWithNumber wsX0_numberI := goodIn_r _ [15] (by decide +kernel) (by decide +kernel)
set_option maxRecDepth 20000 in
theorem gX0_calculateWithNumber_X0_numberI : GoodIn wsX0_calculateWithNumber (va_wsS RX0 102 yX0_numberI wsX0_numberI) := goodIn_app (goodIn_of _ (by decide +kernel)) ggX0_calculateWithNumber_X0_numberI
set_option maxRecDepth 20000 in
theorem ggX0_calculateWithNumber_X0_plain : GoodIn wsX0_calculateWithNumber wsX0_plain := goodIn_r _ [18, 19, 20, 3, 21, 22] (by decide +kernel) (by decide +kernel)
set_option maxRecDepth 20000 in
theorem gX0_calculateWithNumber_X0_plain : GoodIn wsX0_calculateWithNumber (va_wsS RX0 105 yX0_plain wsX0_plain) := goodIn_app (goodIn_of _ (by decide +kernel)) ggX0_calculateWithNumber_X0_plain
set_option maxRecDepth 20000 in
theorem ggX0_calculateWithNumber_X0_tell : GoodIn wsX0_calculateWithNumber wsX0_tell := goodIn_r _ [26, 27, 28, 29, 3, 30, 31, 32, 33, 34, 9, 44, 45, 46, 47, 48, 49] (by decide +kernel) (by decide +kernel)
set_option maxRecDepth 20000 in
theorem gX0_calculateWithNumber_X0_tell : GoodIn wsX0_calculateWithNumber (wsV RX0 71 RX0 yX0_tell wsX0_tell) := goodIn_app (goodIn_of _ (by decide +kernel)) ggX0_calculateWithNumber_X0_tell
set_option maxRecDepth 20000 in
theorem ggX0_calculateWithNumber_X0_fieldS : GoodIn wsX0_calculateWithNumber wsX0_fieldS := goodIn_r _ [37] (by decide +kernel) (by decide +kernel)
set_option maxRecDepth 20000 in
theorem gX0_calculateWithNumber_X0_fieldS : GoodIn wsX0_calculateWithNumber (va_wsS RX0 109 yX0_fieldS wsX0_fieldS) := goodIn_app (goodIn_of _ (by decide +kernel)) ggX0_calculateWithNumber_X0_fieldS
set_option maxRecDepth 20000 in
theorem ggX0_calculateWithNumber_X0_fieldY : GoodIn wsX0_calculateWithNumber wsX0_fieldY := goodIn_r _ [40] (by decide +kernel) (by decide +kernel)
set_option maxRecDepth 20000 in
theorem gX0_calculateWithNumber_X0_fieldY : GoodIn wsX0_calculateWithNumber (va_wsS RX0 112 yX0_fieldY wsX0_fieldY) := goodIn_app (goodIn_of _ (by decide +kernel)) ggX0_calculateWithNumber_X0_fieldY
set_option maxRecDepth 20000 in
theorem ggX0_calculateWithNumber_X0_movedRightWithSign : GoodIn wsX0_calculateWithNumber wsX0_movedRightWithSign := goodIn_r _ [43] (by decide +kernel) (by decide +kernel)
set_option maxRecDepth 20000 in
theorem gX0_calculateWithNumber_X0_movedRightWithSign : GoodIn wsX0_calculateWithNumber (va_wsS RX0 115 yX0_movedRightWithSign wsX0_movedRightWithSign) := goodIn_app (goodIn_of _ (by decide +kernel)) ggX0_calculateWithNumber_X0_movedRightWithSign
theorem dX0_calculateWithNumber_0 : decode cX0_calculateWithNumber 0 = .ok (.iload_n 1, 1) := by decide +kernel
theorem dX0_calculateWithNumber_1 : decode cX0_calculateWithNumber 1 = .ok (.invokestatic 96, 3) := by decide +kernel
theorem dX0_calculateWithNumber_4 : decode cX0_calculateWithNumber 4 = .ok (.istore_n 2, 1) := by decide +kernel
theorem dX0_calculateWithNumber_5 : decode cX0_calculateWithNumber 5 = .ok (.iload_n 2, 1) := by decide +kernel
theorem dX0_calculateWithNumber_6 : decode cX0_calculateWithNumber 6 = .ok (.iconst 1, 1) := by decide +kernel
theorem dX0_calculateWithNumber_7 : decode cX0_calculateWithNumber 7 = .ok (.if_icmp .eq 27, 3) := by decide +kernel
theorem dX0_calculateWithNumber_10 : decode cX0_calculateWithNumber 10 = .ok (.iload_n 2, 1) := by decide +kernel
theorem dX0_calculateWithNumber_11 : decode cX0_calculateWithNumber 11 = .ok (.iconst 5, 1) := by decide +kernel
theorem dX0_calculateWithNumber_12 : decode cX0_calculateWithNumber 12 = .ok (.if_icmp .eq 22, 3) := by decide +kernel
theorem dX0_calculateWithNumber_15 : decode cX0_calculateWithNumber 15 = .ok (.aload_n 0, 1) := by decide +kernel
theorem dX0_calculateWithNumber_16 : decode cX0_calculateWithNumber 16 = .ok (.iload_n 1, 1) := by decide +kernel
theorem dX0_calculateWithNumber_17 : decode cX0_calculateWithNumber 17 = .ok (.iload_n 2, 1) := by decide +kernel
theorem dX0_calculateWithNumber_18 : decode cX0_calculateWithNumber 18 = .ok (.aload_n 0, 1) := by decide +kernel
theorem dX0_calculateWithNumber_19 : decode cX0_calculateWithNumber 19 = .ok (.iload_n 1, 1) := by decide +kernel
theorem dX0_calculateWithNumber_20 : decode cX0_calculateWithNumber 20 = .ok (.invokevirtual 99, 3) := by decide +kernel
theorem dX0_calculateWithNumber_23 : decode cX0_calculateWithNumber 23 = .ok (.iload_n 1, 1) := by decide +kernel
theorem dX0_calculateWithNumber_24 : decode cX0_calculateWithNumber 24 = .ok (.invokestatic 102, 3) := by decide +kernel
theorem dX0_calculateWithNumber_27 : decode cX0_calculateWithNumber 27 = .ok (.invokestatic 105, 3) := by decide +kernel
theorem dX0_calculateWithNumber_30 : decode cX0_calculateWithNumber 30 = .ok (.invokevirtual 71, 3) := by decide +kernel
theorem dX0_calculateWithNumber_33 : decode cX0_calculateWithNumber 33 = .ok (.ireturn, 1) := by decide +kernel
theorem dX0_calculateWithNumber_34 : decode cX0_calculateWithNumber 34 = .ok (.iload_n 1, 1) := by decide +kernel
theorem dX0_calculateWithNumber_35 : decode cX0_calculateWithNumber 35 = .ok (.invokestatic 109, 3) := by decide +kernel
theorem dX0_calculateWithNumber_38 : decode cX0_calculateWithNumber 38 = .ok (.istore_n 3, 1) := by decide +kernel
theorem dX0_calculateWithNumber_39 : decode cX0_calculateWithNumber 39 = .ok (.iload_n 3, 1) := by decide +kernel
theorem dX0_calculateWithNumber_40 : decode cX0_calculateWithNumber 40 = .ok (.ifCond .ne 22, 3) := by decide +kernel
theorem dX0_calculateWithNumber_43 : decode cX0_calculateWithNumber 43 = .ok (.aload_n 0, 1) := by decide +kernel
theorem dX0_calculateWithNumber_44 : decode cX0_calculateWithNumber 44 = .ok (.iload_n 1, 1) := by decide +kernel
theorem dX0_calculateWithNumber_45 : decode cX0_calculateWithNumber 45 = .ok (.iload_n 2, 1) := by decide +kernel
theorem dX0_calculateWithNumber_46 : decode cX0_calculateWithNumber 46 = .ok (.aload_n 0, 1) := by decide +kernel
theorem dX0_calculateWithNumber_47 : decode cX0_calculateWithNumber 47 = .ok (.iload_n 1, 1) := by decide +kernel
theorem dX0_calculateWithNumber_48 : decode cX0_calculateWithNumber 48 = .ok (.invokevirtual 99, 3) := by decide +kernel
theorem dX0_calculateWithNumber_51 : decode cX0_calculateWithNumber 51 = .ok (.iload_n 1, 1) := by decide +kernel
theorem dX0_calculateWithNumber_52 : decode cX0_calculateWithNumber 52 = .ok (.invokestatic 112, 3) := by decide +kernel
theorem dX0_calculateWithNumber_55 : decode cX0_calculateWithNumber 55 = .ok (.invokestatic 105, 3) := by decide +kernel
theorem dX0_calculateWithNumber_58 : decode cX0_calculateWithNumber 58 = .ok (.invokevirtual 71, 3) := by decide +kernel
theorem dX0_calculateWithNumber_61 : decode cX0_calculateWithNumber 61 = .ok (.ireturn, 1) := by decide +kernel
theorem dX0_calculateWithNumber_62 : decode cX0_calculateWithNumber 62 = .ok (.iload_n 3, 1) := by decide +kernel
theorem dX0_calculateWithNumber_63 : decode cX0_calculateWithNumber 63 = .ok (.bipush 32, 2) := by decide +kernel
theorem dX0_calculateWithNumber_65 : decode cX0_calculateWithNumber 65 = .ok (.if_icmp .ne 26, 3) := by decide +kernel
theorem dX0_calculateWithNumber_68 : decode cX0_calculateWithNumber 68 = .ok (.iload_n 2, 1) := by decide +kernel
theorem dX0_calculateWithNumber_69 : decode cX0_calculateWithNumber 69 = .ok (.iconst 5, 1) := by decide +kernel
theorem dX0_calculateWithNumber_70 : decode cX0_calculateWithNumber 70 = .ok (.if_icmp .ne 21, 3) := by decide +kernel
theorem dX0_calculateWithNumber_73 : decode cX0_calculateWithNumber 73 = .ok (.aload_n 0, 1) := by decide +kernel
theorem dX0_calculateWithNumber_74 : decode cX0_calculateWithNumber 74 = .ok (.iload_n 1, 1) := by decide +kernel
theorem dX0_calculateWithNumber_75 : decode cX0_calculateWithNumber 75 = .ok (.aload_n 0, 1) := by decide +kernel
theorem dX0_calculateWithNumber_76 : decode cX0_calculateWithNumber 76 = .ok (.iload_n 1, 1) := by decide +kernel
theorem dX0_calculateWithNumber_77 : decode cX0_calculateWithNumber 77 = .ok (.invokevirtual 99, 3) := by decide +kernel
theorem dX0_calculateWithNumber_80 : decode cX0_calculateWithNumber 80 = .ok (.iload_n 1, 1) := by decide +kernel
theorem dX0_calculateWithNumber_81 : decode cX0_calculateWithNumber 81 = .ok (.invokestatic 112, 3) := by decide +kernel
theorem dX0_calculateWithNumber_84 : decode cX0_calculateWithNumber 84 = .ok (.invokestatic 115, 3) := by decide +kernel
theorem dX0_calculateWithNumber_87 : decode cX0_calculateWithNumber 87 = .ok (.invokevirtual 71, 3) := by decide +kernel
theorem dX0_calculateWithNumber_90 : decode cX0_calculateWithNumber 90 = .ok (.ireturn, 1) := by decide +kernel
theorem dX0_calculateWithNumber_91 : decode cX0_calculateWithNumber 91 = .ok (.iconst 3, 1) := by decide +kernel
theorem dX0_calculateWithNumber_92 : decode cX0_calculateWithNumber 92 = .ok (.ireturn, 1) := by decide +kernel
set_option maxRecDepth 20000 in
theorem ggX0_calculateWithRegister_X0_fieldT : GoodIn wsX0_calculateWithRegister wsX0_fieldT := goodIn_r _ [4] (by decide +kernel) (by decide +kernel)
set_option maxRecDepth 20000 in
theorem gX0_calculateWithRegister_X0_fieldT : GoodIn wsX0_calculateWithRegister (va_wsS RX0 96 yX0_fieldT wsX0_fieldT) := goodIn_app (goodIn_of _ (by decide +kernel)) ggX0_calculateWithRegister_X0_fieldT
set_option maxRecDepth 20000 in
theorem ggX0_calculateWithRegister_X0_valueX : GoodIn wsX0_calculateWithRegister wsX0_valueX := goodIn_r _ [8, 9, 10, 11, 3, 12, 57, 58, 59, 60, 61, 62] (by decide +kernel) (by decide +kernel)
set_option maxRecDepth 20000 in
theorem gX0_calculateWithRegister_X0_valueX : GoodIn wsX0_calculateWithRegister (wsV RX0 99 RX0 yX0_valueX wsX0_valueX) := goodIn_app (goodIn_of _ (by decide +kernel)) ggX0_calculateWithRegister_X0_valueX
set_option maxRecDepth 20000 in
theorem ggX0_calculateWithRegister_X0_valueY : GoodIn wsX0_calculateWithRegister wsX0_valueY := goodIn_r _ [16, 9, 17, 18, 3, 19, 57, 58, 59, 60, 61, 62] (by decide +kernel) (by decide +kernel)
set_option maxRecDepth 20000 in
theorem gX0_calculateWithRegister_X0_valueY : GoodIn wsX0_calculateWithRegister (wsV RX0 118 RX0 yX0_valueY wsX0_valueY) := goodIn_app (goodIn_of _ (by decide +kernel)) ggX0_calculateWithRegister_X0_valueY
set_option maxRecDepth 20000 in
theorem ggX0_calculateWithRegister_X0_fieldS : GoodIn wsX0_calculateWithRegister wsX0_fieldS := goodIn_r _ [22] (by decide +kernel) (by decide +kernel)
set_option maxRecDepth 20000 in
theorem gX0_calculateWithRegister_X0_fieldS : GoodIn wsX0_calculateWithRegister (va_wsS RX0 109 yX0_fieldS wsX0_fieldS) := goodIn_app (goodIn_of _ (by decide +kernel)) ggX0_calculateWithRegister_X0_fieldS
set_option maxRecDepth 20000 in
theorem ggX0_calculateWithRegister_X0_plain : GoodIn wsX0_calculateWithRegister wsX0_plain := goodIn_r _ [25, 26, 27, 3, 28, 29] (by decide +kernel) (by decide +kernel)
set_option maxRecDepth 20000 in
theorem gX0_calculateWithRegister_X0_plain : GoodIn wsX0_calculateWithRegister (va_wsS RX0 105 yX0_plain wsX0_plain) := goodIn_app (goodIn_of _ (by decide +kernel)) ggX0_calculateWithRegister_X0_plain
set_option maxRecDepth 20000 in
theorem ggX0_calculateWithRegister_X0_tell : GoodIn wsX0_calculateWithRegister wsX0_tell := goodIn_r _ [33, 34, 35, 36, 3, 37, 38, 39, 40, 41, 9, 57, 58, 59, 60, 61, 62] (by decide +kernel) (by decide +kernel)
set_option maxRecDepth 20000 in
theorem gX0_calculateWithRegister_X0_tell : GoodIn wsX0_calculateWithRegister (wsV RX0 71 RX0 yX0_tell wsX0_tell) := goodIn_app (goodIn_of _ (by decide +kernel)) ggX0_calculateWithRegister_X0_tell
set_option maxRecDepth 20000 in
theorem ggX0_calculateWithRegister_X0_productOrQuotient : GoodIn wsX0_calculateWithRegister wsX0_productOrQuotient := goodIn_r _ [44, 45, 46, 3, 47, 26, 27, 28, 29, 48, 49, 50, 51, 52, 53] (by decide +kernel) (by decide +kernel)
set_option maxRecDepth 20000 in
theorem gX0_calculateWithRegister_X0_productOrQuotient : GoodIn wsX0_calculateWithRegister (va_wsS RX0 121 yX0_productOrQuotient wsX0_productOrQuotient) := goodIn_app (goodIn_of _ (by decide +kernel)) ggX0_calculateWithRegister_X0_productOrQuotient
set_option maxRecDepth 20000 in
theorem ggX0_calculateWithRegister_X0_movedRightWithSign : GoodIn wsX0_calculateWithRegister wsX0_movedRightWithSign := goodIn_r _ [56] (by decide +kernel) (by decide +kernel)
set_option maxRecDepth 20000 in
theorem gX0_calculateWithRegister_X0_movedRightWithSign : GoodIn wsX0_calculateWithRegister (va_wsS RX0 115 yX0_movedRightWithSign wsX0_movedRightWithSign) := goodIn_app (goodIn_of _ (by decide +kernel)) ggX0_calculateWithRegister_X0_movedRightWithSign
theorem dX0_calculateWithRegister_0 : decode cX0_calculateWithRegister 0 = .ok (.iload_n 1, 1) := by decide +kernel
theorem dX0_calculateWithRegister_1 : decode cX0_calculateWithRegister 1 = .ok (.invokestatic 96, 3) := by decide +kernel
theorem dX0_calculateWithRegister_4 : decode cX0_calculateWithRegister 4 = .ok (.istore_n 2, 1) := by decide +kernel
theorem dX0_calculateWithRegister_5 : decode cX0_calculateWithRegister 5 = .ok (.aload_n 0, 1) := by decide +kernel
theorem dX0_calculateWithRegister_6 : decode cX0_calculateWithRegister 6 = .ok (.iload_n 1, 1) := by decide +kernel
theorem dX0_calculateWithRegister_7 : decode cX0_calculateWithRegister 7 = .ok (.invokevirtual 99, 3) := by decide +kernel
theorem dX0_calculateWithRegister_10 : decode cX0_calculateWithRegister 10 = .ok (.istore_n 3, 1) := by decide +kernel
theorem dX0_calculateWithRegister_11 : decode cX0_calculateWithRegister 11 = .ok (.aload_n 0, 1) := by decide +kernel
theorem dX0_calculateWithRegister_12 : decode cX0_calculateWithRegister 12 = .ok (.iload_n 1, 1) := by decide +kernel
theorem dX0_calculateWithRegister_13 : decode cX0_calculateWithRegister 13 = .ok (.invokevirtual 118, 3) := by decide +kernel
theorem dX0_calculateWithRegister_16 : decode cX0_calculateWithRegister 16 = .ok (.istore 4, 2) := by decide +kernel
theorem dX0_calculateWithRegister_18 : decode cX0_calculateWithRegister 18 = .ok (.iload_n 1, 1) := by decide +kernel
theorem dX0_calculateWithRegister_19 : decode cX0_calculateWithRegister 19 = .ok (.invokestatic 109, 3) := by decide +kernel
theorem dX0_calculateWithRegister_22 : decode cX0_calculateWithRegister 22 = .ok (.lookupswitch 95 #[(0, 34), (1, 47), (32, 60)], 34) := by decide +kernel
theorem dX0_calculateWithRegister_56 : decode cX0_calculateWithRegister 56 = .ok (.aload_n 0, 1) := by decide +kernel
theorem dX0_calculateWithRegister_57 : decode cX0_calculateWithRegister 57 = .ok (.iload_n 1, 1) := by decide +kernel
theorem dX0_calculateWithRegister_58 : decode cX0_calculateWithRegister 58 = .ok (.iload_n 2, 1) := by decide +kernel
theorem dX0_calculateWithRegister_59 : decode cX0_calculateWithRegister 59 = .ok (.iload_n 3, 1) := by decide +kernel
theorem dX0_calculateWithRegister_60 : decode cX0_calculateWithRegister 60 = .ok (.iload 4, 2) := by decide +kernel
theorem dX0_calculateWithRegister_62 : decode cX0_calculateWithRegister 62 = .ok (.invokestatic 105, 3) := by decide +kernel
theorem dX0_calculateWithRegister_65 : decode cX0_calculateWithRegister 65 = .ok (.invokevirtual 71, 3) := by decide +kernel
theorem dX0_calculateWithRegister_68 : decode cX0_calculateWithRegister 68 = .ok (.ireturn, 1) := by decide +kernel
theorem dX0_calculateWithRegister_69 : decode cX0_calculateWithRegister 69 = .ok (.aload_n 0, 1) := by decide +kernel
theorem dX0_calculateWithRegister_70 : decode cX0_calculateWithRegister 70 = .ok (.iload_n 1, 1) := by decide +kernel
theorem dX0_calculateWithRegister_71 : decode cX0_calculateWithRegister 71 = .ok (.iload_n 2, 1) := by decide +kernel
theorem dX0_calculateWithRegister_72 : decode cX0_calculateWithRegister 72 = .ok (.iload_n 3, 1) := by decide +kernel
theorem dX0_calculateWithRegister_73 : decode cX0_calculateWithRegister 73 = .ok (.iload 4, 2) := by decide +kernel
theorem dX0_calculateWithRegister_75 : decode cX0_calculateWithRegister 75 = .ok (.invokestatic 121, 3) := by decide +kernel
theorem dX0_calculateWithRegister_78 : decode cX0_calculateWithRegister 78 = .ok (.invokevirtual 71, 3) := by decide +kernel
theorem dX0_calculateWithRegister_81 : decode cX0_calculateWithRegister 81 = .ok (.ireturn, 1) := by decide +kernel
theorem dX0_calculateWithRegister_82 : decode cX0_calculateWithRegister 82 = .ok (.iload_n 2, 1) := by decide +kernel
theorem dX0_calculateWithRegister_83 : decode cX0_calculateWithRegister 83 = .ok (.ifCond .ne 13, 3) := by decide +kernel
theorem dX0_calculateWithRegister_86 : decode cX0_calculateWithRegister 86 = .ok (.aload_n 0, 1) := by decide +kernel
theorem dX0_calculateWithRegister_87 : decode cX0_calculateWithRegister 87 = .ok (.iload_n 1, 1) := by decide +kernel
theorem dX0_calculateWithRegister_88 : decode cX0_calculateWithRegister 88 = .ok (.iload_n 3, 1) := by decide +kernel
theorem dX0_calculateWithRegister_89 : decode cX0_calculateWithRegister 89 = .ok (.iload 4, 2) := by decide +kernel
theorem dX0_calculateWithRegister_91 : decode cX0_calculateWithRegister 91 = .ok (.isub, 1) := by decide +kernel
theorem dX0_calculateWithRegister_92 : decode cX0_calculateWithRegister 92 = .ok (.invokevirtual 71, 3) := by decide +kernel
theorem dX0_calculateWithRegister_95 : decode cX0_calculateWithRegister 95 = .ok (.ireturn, 1) := by decide +kernel
theorem dX0_calculateWithRegister_96 : decode cX0_calculateWithRegister 96 = .ok (.iload_n 2, 1) := by decide +kernel
theorem dX0_calculateWithRegister_97 : decode cX0_calculateWithRegister 97 = .ok (.iconst 5, 1) := by decide +kernel
theorem dX0_calculateWithRegister_98 : decode cX0_calculateWithRegister 98 = .ok (.if_icmp .ne 17, 3) := by decide +kernel
theorem dX0_calculateWithRegister_101 : decode cX0_calculateWithRegister 101 = .ok (.aload_n 0, 1) := by decide +kernel
theorem dX0_calculateWithRegister_102 : decode cX0_calculateWithRegister 102 = .ok (.iload_n 1, 1) := by decide +kernel
theorem dX0_calculateWithRegister_103 : decode cX0_calculateWithRegister 103 = .ok (.iload_n 3, 1) := by decide +kernel
theorem dX0_calculateWithRegister_104 : decode cX0_calculateWithRegister 104 = .ok (.iload 4, 2) := by decide +kernel
theorem dX0_calculateWithRegister_106 : decode cX0_calculateWithRegister 106 = .ok (.invokestatic 115, 3) := by decide +kernel
theorem dX0_calculateWithRegister_109 : decode cX0_calculateWithRegister 109 = .ok (.invokevirtual 71, 3) := by decide +kernel
theorem dX0_calculateWithRegister_112 : decode cX0_calculateWithRegister 112 = .ok (.goto 4, 3) := by decide +kernel
theorem dX0_calculateWithRegister_115 : decode cX0_calculateWithRegister 115 = .ok (.iconst 3, 1) := by decide +kernel
theorem dX0_calculateWithRegister_116 : decode cX0_calculateWithRegister 116 = .ok (.ireturn, 1) := by decide +kernel
theorem dX0_calculateWithRegister_117 : decode cX0_calculateWithRegister 117 = .ok (.iconst 3, 1) := by decide +kernel
theorem dX0_calculateWithRegister_118 : decode cX0_calculateWithRegister 118 = .ok (.ireturn, 1) := by decide +kernel
set_option maxRecDepth 20000 in
theorem ggX0_load_X0_fieldT : GoodIn wsX0_load wsX0_fieldT := goodIn_r _ [4] (by decide +kernel) (by decide +kernel)
set_option maxRecDepth 20000 in
theorem gX0_load_X0_fieldT : GoodIn wsX0_load (va_wsS RX0 96 yX0_fieldT wsX0_fieldT) := goodIn_app (goodIn_of _ (by decide +kernel)) ggX0_load_X0_fieldT
set_option maxRecDepth 20000 in
theorem ggX0_load_X0_valueX : GoodIn wsX0_load wsX0_valueX := goodIn_r _ [8, 9, 10, 11, 3, 12, 49, 50, 51, 52, 53, 54] (by decide +kernel) (by decide +kernel)
set_option maxRecDepth 20000 in
theorem gX0_load_X0_valueX : GoodIn wsX0_load (wsV RX0 99 RX0 yX0_valueX wsX0_valueX) := goodIn_app (goodIn_of _ (by decide +kernel)) ggX0_load_X0_valueX
set_option maxRecDepth 20000 in
theorem ggX0_load_X0_numberI : GoodIn wsX0_load wsX0_numberI := goodIn_r _ [15] (by decide +kernel) (by decide +kernel)
set_option maxRecDepth 20000 in
theorem gX0_load_X0_numberI : GoodIn wsX0_load (va_wsS RX0 102 yX0_numberI wsX0_numberI) := goodIn_app (goodIn_of _ (by decide +kernel)) ggX0_load_X0_numberI
set_option maxRecDepth 20000 in
theorem ggX0_load_X0_widthOf : GoodIn wsX0_load wsX0_widthOf := goodIn_r _ [18] (by decide +kernel) (by decide +kernel)
set_option maxRecDepth 20000 in
theorem gX0_load_X0_widthOf : GoodIn wsX0_load (va_wsS RX0 124 yX0_widthOf wsX0_widthOf) := goodIn_app (goodIn_of _ (by decide +kernel)) ggX0_load_X0_widthOf
set_option maxRecDepth 20000 in
theorem ggX0_load_X0_isAddress : GoodIn wsX0_load wsX0_isAddress := goodIn_r _ [21, 22, 23, 3, 24] (by decide +kernel) (by decide +kernel)
set_option maxRecDepth 20000 in
theorem gX0_load_X0_isAddress : GoodIn wsX0_load (va_wsS RX0 37 yX0_isAddress wsX0_isAddress) := goodIn_app (goodIn_of _ (by decide +kernel)) ggX0_load_X0_isAddress
set_option maxRecDepth 20000 in
theorem ggX0_load_X0_bitsFrom : GoodIn wsX0_load wsX0_bitsFrom := goodIn_r _ [28, 29, 30, 31, 3, 32, 49, 50, 51, 52, 53, 54] (by decide +kernel) (by decide +kernel)
set_option maxRecDepth 20000 in
theorem gX0_load_X0_bitsFrom : GoodIn wsX0_load (wsV RX0 45 RX0 yX0_bitsFrom wsX0_bitsFrom) := goodIn_app (goodIn_of _ (by decide +kernel)) ggX0_load_X0_bitsFrom
set_option maxRecDepth 20000 in
theorem ggX0_load_X0_loaded : GoodIn wsX0_load wsX0_loaded := goodIn_r _ [35, 36] (by decide +kernel) (by decide +kernel)
set_option maxRecDepth 20000 in
theorem gX0_load_X0_loaded : GoodIn wsX0_load (va_wsS RX0 127 yX0_loaded wsX0_loaded) := goodIn_app (goodIn_of _ (by decide +kernel)) ggX0_load_X0_loaded
set_option maxRecDepth 20000 in
theorem ggX0_load_X0_tell : GoodIn wsX0_load wsX0_tell := goodIn_r _ [40, 41, 42, 43, 3, 44, 45, 46, 47, 48, 9, 49, 50, 51, 52, 53, 54] (by decide +kernel) (by decide +kernel)
set_option maxRecDepth 20000 in
theorem gX0_load_X0_tell : GoodIn wsX0_load (wsV RX0 71 RX0 yX0_tell wsX0_tell) := goodIn_app (goodIn_of _ (by decide +kernel)) ggX0_load_X0_tell
theorem dX0_load_0 : decode cX0_load 0 = .ok (.iload_n 1, 1) := by decide +kernel
theorem dX0_load_1 : decode cX0_load 1 = .ok (.invokestatic 96, 3) := by decide +kernel
theorem dX0_load_4 : decode cX0_load 4 = .ok (.istore_n 2, 1) := by decide +kernel
theorem dX0_load_5 : decode cX0_load 5 = .ok (.iload_n 2, 1) := by decide +kernel
theorem dX0_load_6 : decode cX0_load 6 = .ok (.iconst 3, 1) := by decide +kernel
theorem dX0_load_7 : decode cX0_load 7 = .ok (.if_icmp .eq 8, 3) := by decide +kernel
theorem dX0_load_10 : decode cX0_load 10 = .ok (.iload_n 2, 1) := by decide +kernel
theorem dX0_load_11 : decode cX0_load 11 = .ok (.iconst 5, 1) := by decide +kernel
theorem dX0_load_12 : decode cX0_load 12 = .ok (.if_icmp .le 5, 3) := by decide +kernel
theorem dX0_load_15 : decode cX0_load 15 = .ok (.iconst 3, 1) := by decide +kernel
theorem dX0_load_16 : decode cX0_load 16 = .ok (.ireturn, 1) := by decide +kernel
